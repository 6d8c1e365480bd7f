/-! the facts 15, 16 of the reference stay booleans -/
def Kp {β : Type} (P : β → Prop) (o : Option β) : Prop := ∀ r, o = some r → P r
section KP
variable {α β γ δ ρ τ : Type} {P : β → Prop}
theorem Kp_bd {x : Option α} {f : α → Option β} (h : ∀ a, x = some a → Kp P (f a)) : Kp P (bd x f) := fun r e => by
  obtain ⟨a, h1, h2⟩ := bd_el e
  exact h a h1 r h2
theorem Kp_bd2 {x : Option (α × γ)} {f : α → γ → Option β} (h : ∀ a b, x = some (a, b) → Kp P (f a b)) : Kp P (bd2 x f) := fun r e => by
  obtain ⟨a, b, h1, h2⟩ := bd2_el e
  exact h a b h1 r h2
theorem Kp_nm {e : α} {f : α → Option β} (h : ∀ v, Kp P (f v)) : Kp P (nm e f) := h e
theorem Kp_nmP {e : Pic} {f : Pic → Option β} (he : hb e) (h : ∀ v, hb v → Kp P (f v)) : Kp P (nm e f) := h e he
theorem Kp_jn {J : α} {k : α → Option β} (Q : α → Prop) (h1 : Q J) (h2 : ∀ J', Q J' → Kp P (k J')) : Kp P (jn J k) := h2 J h1
theorem Kp_ite {c : Prop} [Decidable c] {a b : Option β} (h1 : Kp P a) (h2 : Kp P b) : Kp P (if c then a else b) := by
  by_cases z : c
  · rw [if_pos z]; exact h1
  · rw [if_neg z]; exact h2
theorem Kp_gdi {i : Int32} {n : Nat} {x : Option β} (h : Kp P x) : Kp P (gdi i n x) := fun r e => h r (gdi_el e).2
theorem Kp_gdz {i : Int32} {x : Option β} (h : Kp P x) : Kp P (gdz i x) := fun r e => h r (gdz_el e).2
theorem Kp_gdb {i : Int32} {x : Option β} (h : (i = 0 ∨ i = 1) → Kp P x) : Kp P (gdb i x) := fun r e => h (gdb_el e).1 r (gdb_el e).2
theorem Kp_some {a : β} (h : P a) : Kp P (some a) := fun r e => by cases e; exact h
theorem Kp_lr {x : Option (ρ ⊕ τ)} {j : ρ → β} {f : τ → Option β} (h1 : ∀ a, x = some (.inl a) → P (j a)) (h2 : ∀ b, x = some (.inr b) → Kp P (f b)) : Kp P (lr x j f) := fun r e => by
  obtain ⟨ex, a1, a2, a3⟩ := lr_el e
  rcases ex with a | b
  · rw [← a2 a rfl]; exact h1 a a1
  · exact h2 b a1 r (a3 b rfl)
theorem Kp_lp {F : (α → Option β) → α → Option β} {n : Nat} {a : α} (h : Kp P (F (lp F n) a)) : Kp P (lp F (n + 1) a) := h
theorem hb_pu {g : Pic} {k i : Nat} {v : Int32} (q : k ≠ 15 ∧ k ≠ 16) (h : hb g) : hb (pu g k i v) := by
  unfold hb
  rw [pu_o (fun z => q.1 z.symm), pu_o (fun z => q.2 z.symm)]
  exact h
theorem hb15 {g : Pic} {v : Int32} (q : v = 0 ∨ v = 1) (h : hb g) : hb (pu g 15 0 v) := ⟨q, h.2⟩
theorem hb16 {g : Pic} {v : Int32} (q : v = 0 ∨ v = 1) (h : hb g) : hb (pu g 16 0 v) := ⟨h.1, q⟩
theorem hb_pr {g : Pic} {k : Nat} {f : Nat → Int32} (q : k ≠ 15 ∧ k ≠ 16) (h : hb g) : hb (pr_ g k f) := by
  have e : ∀ j, j ≠ k → pr_ g k f j = g j := fun j hj => by
    unfold pr_
    cases z : Nat.beq j k with
    | false => rfl
    | true => exact absurd (Nat.eq_of_beq_eq_true z) hj
  unfold hb
  rw [e 15 (fun z => q.1 z.symm), e 16 (fun z => q.2 z.symm)]
  exact h
end KP

theorem K_f_X12_skip_L0 (n : Nat) (a : Pic) (h_a : hb a) : Kp hb (f_X12_skip_L0 n a) := by
  unfold f_X12_skip_L0
  induction n generalizing a with
  | zero => exact fun r h => by cases h
  | succ n ih =>
    refine Kp_lp ?_
    have g0_ := a
    skip
    refine Kp_ite ?_ ?_
    · skip
      exact Kp_some h_a
    · skip
      refine Kp_bd (fun r_1 h1 => ?_)
      refine Kp_ite ?_ ?_
      · skip
        refine Kp_nmP (hb_pu (by decide) h_a) (fun g0_2 k2 => ?_)
        exact ih _ k2
      · skip
        exact Kp_some h_a
theorem K_f_X12_skip (g0 : Pic) (h_g0 : hb g0) : Kp hb (f_X12_skip g0) := by
  unfold f_X12_skip
  refine Kp_bd (fun g0_3 h3 => ?_)
  have k4 : hb g0_3 := (K_f_X12_skip_L0 _ (g0) h_g0) _ h3
  exact Kp_some k4
theorem K_f_X12_isSign (g0 : Pic) (x1 : Int32) (h_g0 : hb g0) : Kp (fun r => hb r.2) (f_X12_isSign g0 x1) := by
  unfold f_X12_isSign
  refine Kp_bd (fun g0_1 h5 => ?_)
  have k6 : hb g0_1 := (K_f_X12_skip _ h_g0) _ h5
  refine Kp_jn (fun J : Int32 → _ => ∀ (s0_J32 : Int32), Kp (fun r => hb r.2) (J s0_J32)) ?_ ?_
  · intro s0_J32
    refine Kp_gdb (fun h7 => ?_)
    exact Kp_some k6
  · intro J32 j8
    refine Kp_jn (fun J : Unit → _ => ∀ (u9 : Unit), Kp (fun r => hb r.2) (J u9)) ?_ ?_
    · intro u9
      exact j8 _
    · intro J31 j10
      refine Kp_ite ?_ ?_
      · skip
        exact j10 _
      · skip
        refine Kp_bd (fun r_3 h11 => ?_)
        refine Kp_ite ?_ ?_
        · skip
          exact j8 _
        · skip
          exact j10 _
theorem K_f_X12_has_L55 (k1 : Nat) (x2 : Int32) (g0 : Pic) (n : Nat) (a : Int32) (h_g0 : hb g0) : Kp (Sum.elim (fun q => hb q.2) (fun _ => True)) (f_X12_has_L55 k1 x2 g0 n a) := by
  unfold f_X12_has_L55
  induction n generalizing a with
  | zero => exact fun r h => by cases h
  | succ n ih =>
    refine Kp_lp ?_
    have x3_ := a
    generalize a = x3
    refine Kp_bd (fun r_8 h12 => ?_)
    refine Kp_ite ?_ ?_
    · skip
      exact Kp_some trivial
    · skip
      refine Kp_bd (fun r_9 h13 => ?_)
      refine Kp_bd (fun r_10 h14 => ?_)
      refine Kp_ite ?_ ?_
      · skip
        refine Kp_nm (fun x3_11 => ?_)
        exact ih _
      · skip
        exact Kp_some h_g0
theorem K_f_X12_has (k1 : Nat) (g0 : Pic) (h_g0 : hb g0) : Kp (fun r => hb r.2) (f_X12_has k1 g0) := by
  unfold f_X12_has
  refine Kp_bd (fun g0_1 h15 => ?_)
  have k16 : hb g0_1 := (K_f_X12_skip _ h_g0) _ h15
  refine Kp_nm (fun x2_2 => ?_)
  refine Kp_bd (fun x2_6 h17 => ?_)
  refine Kp_bd (fun r_7 h18 => ?_)
  refine Kp_ite ?_ ?_
  · skip
    refine Kp_lr (fun a h19 => ?_) (fun u21 h20 => ?_)
    · exact (K_f_X12_has_L55 _ _ _ _ (0) k16) _ h19
    · skip
      refine Kp_nmP (hb_pu (by decide) k16) (fun g0_13 k22 => ?_)
      exact Kp_some k22
  · skip
    exact Kp_some k16
theorem K_f_X12_wrong (g0 : Pic) (x1 : Int32) (h_g0 : hb g0) : Kp hb (f_X12_wrong g0 x1) := by
  unfold f_X12_wrong
  refine Kp_jn (fun J : Pic → _ => ∀ (g0_J13 : Pic), hb g0_J13 → Kp hb (J g0_J13)) ?_ ?_
  · intro g0_J13 k23
    exact Kp_some k23
  · intro J13 j24
    refine Kp_ite ?_ ?_
    · skip
      refine Kp_nmP (hb_pu (by decide) h_g0) (fun g0_1 k25 => ?_)
      exact j24 _ k25
    · skip
      exact j24 _ h_g0
theorem K_f_X12_here (g0 : Pic) (h_g0 : hb g0) : Kp (fun r => hb r.2) (f_X12_here g0) := by
  unfold f_X12_here
  refine Kp_bd (fun g0_1 h26 => ?_)
  have k27 : hb g0_1 := (K_f_X12_skip _ h_g0) _ h26
  exact Kp_some k27
theorem K_f_X12_figures_L18 (x1 : Int32) (x2 : Int32) (x3 : Int32) (n : Nat) (a : Int32 × Pic) (h_a : hb a.2) : Kp (fun r => hb r.2) (f_X12_figures_L18 x1 x2 x3 n a) := by
  unfold f_X12_figures_L18
  induction n generalizing a with
  | zero => exact fun r h => by cases h
  | succ n ih =>
    obtain ⟨x4, g0⟩ := a
    refine Kp_lp ?_
    refine Kp_ite ?_ ?_
    · skip
      exact Kp_some h_a
    · skip
      refine Kp_bd (fun r_2 h28 => ?_)
      refine Kp_bd (fun r_3 h29 => ?_)
      refine Kp_ite ?_ ?_
      · skip
        exact Kp_some h_a
      · skip
        refine Kp_ite ?_ ?_
        · skip
          exact Kp_some h_a
        · skip
          refine Kp_bd (fun r_4 h30 => ?_)
          refine Kp_nm (fun x4_5 => ?_)
          refine Kp_nmP (hb_pu (by decide) h_a) (fun g0_6 k31 => ?_)
          exact ih _ k31
theorem K_f_X12_figures (g0 : Pic) (x1 : Int32) (x2 : Int32) (h_g0 : hb g0) : Kp (fun r => hb r.2) (f_X12_figures g0 x1 x2) := by
  unfold f_X12_figures
  refine Kp_ite ?_ ?_
  · skip
    refine Kp_bd2 (fun r_1 g0_1 h32 => ?_)
    have k33 : hb g0_1 := (K_f_X12_here _ h_g0) _ h32
    refine Kp_bd (fun q35 h34 => ?_)
    have k36 : hb q35.2 := (K_f_X12_figures_L18 _ _ _ _ (0, g0_1) k33) _ h34
    obtain ⟨x4_7, g0_7⟩ := q35
    refine Kp_jn (fun J : Pic → _ => ∀ (g0_J124 : Pic), hb g0_J124 → Kp (fun r => hb r.2) (J g0_J124)) ?_ ?_
    · intro g0_J124 k37
      exact Kp_some k37
    · intro J124 j38
      refine Kp_jn (fun J : Unit → _ => ∀ (u39 : Unit), Kp (fun r => hb r.2) (J u39)) ?_ ?_
      · intro u39
        refine Kp_bd (fun g0_8 h40 => ?_)
        have k41 : hb g0_8 := (K_f_X12_wrong _ _ k36) _ h40
        exact j38 _ k41
      · intro J119 j42
        refine Kp_ite ?_ ?_
        · skip
          exact j42 _
        · skip
          refine Kp_ite ?_ ?_
          · skip
            exact j42 _
          · skip
            refine Kp_ite ?_ ?_
            · skip
              exact j42 _
            · skip
              refine Kp_ite ?_ ?_
              · skip
                exact j38 _ k36
              · skip
                exact j42 _
  · skip
    exact Kp_some h_g0
theorem K_f_X12_part (g0 : Pic) (h_g0 : hb g0) : Kp (fun r => hb r.2) (f_X12_part g0) := by
  unfold f_X12_part
  refine Kp_ite ?_ ?_
  · skip
    refine Kp_bd (fun g0_1 h43 => ?_)
    have k44 : hb g0_1 := (K_f_X12_skip _ h_g0) _ h43
    refine Kp_jn (fun J : Unit → _ => ∀ (u45 : Unit), Kp (fun r => hb r.2) (J u45)) ?_ ?_
    · intro u45
      refine Kp_bd2 (fun r_2 g0_2 h46 => ?_)
      have k47 : hb g0_2 := (K_f_X12_has _ _ k44) _ h46
      refine Kp_jn (fun J : Int32 → Pic → _ => ∀ (s0_J145 : Int32) (g0_J145 : Pic), hb g0_J145 → Kp (fun r => hb r.2) (J s0_J145 g0_J145)) ?_ ?_
      · intro s0_J145 g0_J145 k48
        refine Kp_ite ?_ ?_
        · skip
          refine Kp_bd (fun g0_4 h49 => ?_)
          have k50 : hb g0_4 := (K_f_X12_wrong _ _ k48) _ h49
          exact Kp_some k50
        · skip
          refine Kp_gdi ?_
          exact Kp_some k48
      · intro J145 j51
        refine Kp_ite ?_ ?_
        · skip
          refine Kp_bd2 (fun r_5 g0_5 h52 => ?_)
          have k53 : hb g0_5 := (K_f_X12_has _ _ k47) _ h52
          refine Kp_ite ?_ ?_
          · skip
            refine Kp_bd2 (fun r_6 g0_6 h54 => ?_)
            have k55 : hb g0_6 := (K_f_X12_has _ _ k53) _ h54
            refine Kp_ite ?_ ?_
            · skip
              refine Kp_bd2 (fun r_7 g0_7 h56 => ?_)
              have k57 : hb g0_7 := (K_f_X12_has _ _ k55) _ h56
              refine Kp_ite ?_ ?_
              · skip
                refine Kp_bd2 (fun r_8 g0_8 h58 => ?_)
                have k59 : hb g0_8 := (K_f_X12_has _ _ k57) _ h58
                refine Kp_ite ?_ ?_
                · skip
                  refine Kp_bd2 (fun r_9 g0_9 h60 => ?_)
                  have k61 : hb g0_9 := (K_f_X12_has _ _ k59) _ h60
                  refine Kp_ite ?_ ?_
                  · skip
                    refine Kp_bd2 (fun r_10 g0_10 h62 => ?_)
                    have k63 : hb g0_10 := (K_f_X12_has _ _ k61) _ h62
                    refine Kp_ite ?_ ?_
                    · skip
                      exact j51 _ _ k63
                    · skip
                      exact j51 _ _ k63
                  · skip
                    exact j51 _ _ k61
                · skip
                  exact j51 _ _ k59
              · skip
                exact j51 _ _ k57
            · skip
              exact j51 _ _ k55
          · skip
            exact j51 _ _ k53
        · skip
          exact j51 _ _ k47
    · intro J52 j64
      refine Kp_ite ?_ ?_
      · skip
        exact j64 _
      · skip
        refine Kp_bd (fun r_11 h65 => ?_)
        refine Kp_bd (fun r_12 h66 => ?_)
        refine Kp_ite ?_ ?_
        · skip
          exact j64 _
        · skip
          refine Kp_bd2 (fun r_13 g0_13 h67 => ?_)
          have k68 : hb g0_13 := (K_f_X12_figures _ _ _ k44) _ h67
          exact Kp_some k68
  · skip
    exact Kp_some h_g0
theorem K_f_X12_sum_L5 (n : Nat) (a : Int32 × Pic) (h_a : hb a.2) : Kp (fun r => hb r.2) (f_X12_sum_L5 n a) := by
  unfold f_X12_sum_L5
  induction n generalizing a with
  | zero => exact fun r h => by cases h
  | succ n ih =>
    obtain ⟨x1, g0⟩ := a
    refine Kp_lp ?_
    refine Kp_ite ?_ ?_
    · skip
      refine Kp_bd2 (fun r_2 g0_2 h69 => ?_)
      have k70 : hb g0_2 := (K_f_X12_isSign _ _ h_a) _ h69
      refine Kp_ite ?_ ?_
      · skip
        exact Kp_some k70
      · skip
        refine Kp_nmP (hb_pu (by decide) k70) (fun g0_3 k71 => ?_)
        refine Kp_bd2 (fun r_4 g0_4 h72 => ?_)
        have k73 : hb g0_4 := (K_f_X12_part _ k71) _ h72
        refine Kp_nm (fun x1_5 => ?_)
        exact ih _ k73
    · skip
      exact Kp_some h_a
theorem K_f_X12_sum (g0 : Pic) (h_g0 : hb g0) : Kp (fun r => hb r.2) (f_X12_sum g0) := by
  unfold f_X12_sum
  refine Kp_bd2 (fun r_1 g0_1 h74 => ?_)
  have k75 : hb g0_1 := (K_f_X12_part _ h_g0) _ h74
  refine Kp_bd (fun q77 h76 => ?_)
  have k78 : hb q77.2 := (K_f_X12_sum_L5 _ (r_1, g0_1) k75) _ h76
  obtain ⟨x1_6, g0_6⟩ := q77
  exact Kp_some k78
theorem K_f_X12_plain (g0 : Pic) (h_g0 : hb g0) : Kp (fun r => hb r.2) (f_X12_plain g0) := by
  unfold f_X12_plain
  refine Kp_bd2 (fun r_1 g0_1 h79 => ?_)
  have k80 : hb g0_1 := (K_f_X12_has _ _ h_g0) _ h79
  refine Kp_ite ?_ ?_
  · skip
    refine Kp_bd2 (fun r_2 g0_2 h81 => ?_)
    have k82 : hb g0_2 := (K_f_X12_has _ _ k80) _ h81
    refine Kp_ite ?_ ?_
    · skip
      refine Kp_bd2 (fun r_3 g0_3 h83 => ?_)
      have k84 : hb g0_3 := (K_f_X12_sum _ k82) _ h83
      refine Kp_ite ?_ ?_
      · skip
        refine Kp_bd2 (fun r_4 g0_4 h85 => ?_)
        have k86 : hb g0_4 := (K_f_X12_isSign _ _ k84) _ h85
        refine Kp_jn (fun J : Pic → _ => ∀ (g0_J73 : Pic), hb g0_J73 → Kp (fun r => hb r.2) (J g0_J73)) ?_ ?_
        · intro g0_J73 k87
          refine Kp_nmP (hb_pu (by decide) k87) (fun g0_5 k88 => ?_)
          refine Kp_bd2 (fun r_6 g0_6 h89 => ?_)
          have k90 : hb g0_6 := (K_f_X12_sum _ k88) _ h89
          refine Kp_jn (fun J : Int32 → _ => ∀ (s0_J115 : Int32), Kp (fun r => hb r.2) (J s0_J115)) ?_ ?_
          · intro s0_J115
            refine Kp_gdb (fun h91 => ?_)
            exact Kp_some k90
          · intro J115 j92
            refine Kp_ite ?_ ?_
            · skip
              refine Kp_ite ?_ ?_
              · skip
                exact j92 _
              · skip
                exact j92 _
            · skip
              refine Kp_ite ?_ ?_
              · skip
                exact j92 _
              · skip
                exact j92 _
        · intro J73 j93
          refine Kp_ite ?_ ?_
          · skip
            refine Kp_bd2 (fun r_8 g0_8 h94 => ?_)
            have k95 : hb g0_8 := (K_f_X12_isSign _ _ k86) _ h94
            refine Kp_ite ?_ ?_
            · skip
              refine Kp_bd (fun g0_9 h96 => ?_)
              have k97 : hb g0_9 := (K_f_X12_wrong _ _ k95) _ h96
              exact Kp_some k97
            · skip
              exact j93 _ k95
          · skip
            exact j93 _ k86
      · skip
        exact Kp_some k84
    · skip
      refine Kp_gdb (fun h98 => ?_)
      exact Kp_some k82
  · skip
    refine Kp_gdb (fun h99 => ?_)
    exact Kp_some k80
theorem K_f_X12_every_L5 (Af : Pic → Option (Int32 × Pic)) (n : Nat) (a : Int32 × Pic) (hAf : ∀ g, hb g → Kp (fun r => hb r.2) (Af g)) (h_a : hb a.2) : Kp (fun r => hb r.2) (f_X12_every_L5 Af n a) := by
  unfold f_X12_every_L5
  induction n generalizing a with
  | zero => exact fun r h => by cases h
  | succ n ih =>
    obtain ⟨x1, g0⟩ := a
    refine Kp_lp ?_
    refine Kp_ite ?_ ?_
    · skip
      refine Kp_bd2 (fun r_2 g0_2 h100 => ?_)
      have k101 : hb g0_2 := (K_f_X12_has _ _ h_a) _ h100
      refine Kp_ite ?_ ?_
      · skip
        exact Kp_some k101
      · skip
        refine Kp_bd2 (fun r_3 g0_3 h102 => ?_)
        have k103 : hb g0_3 := (hAf _ k101) _ h102
        refine Kp_jn (fun J : Int32 → _ => ∀ (s0_J40 : Int32), Kp (fun r => hb r.2) (J s0_J40)) ?_ ?_
        · intro s0_J40
          exact ih _ k103
        · intro J40 j104
          refine Kp_jn (fun J : Unit → _ => ∀ (u105 : Unit), Kp (fun r => hb r.2) (J u105)) ?_ ?_
          · intro u105
            exact j104 _
          · intro J39 j106
            refine Kp_ite ?_ ?_
            · skip
              exact j106 _
            · skip
              refine Kp_ite ?_ ?_
              · skip
                exact j106 _
              · skip
                exact j104 _
    · skip
      exact Kp_some h_a
theorem K_f_X12_every (Af : Pic → Option (Int32 × Pic)) (g0 : Pic) (hAf : ∀ g, hb g → Kp (fun r => hb r.2) (Af g)) (h_g0 : hb g0) : Kp (fun r => hb r.2) (f_X12_every Af g0) := by
  unfold f_X12_every
  refine Kp_bd2 (fun r_1 g0_1 h107 => ?_)
  have k108 : hb g0_1 := (hAf _ h_g0) _ h107
  refine Kp_bd (fun q110 h109 => ?_)
  have k111 : hb q110.2 := (K_f_X12_every_L5 _ _ (r_1, g0_1) hAf k108) _ h109
  obtain ⟨x1_4, g0_4⟩ := q110
  refine Kp_gdb (fun h112 => ?_)
  exact Kp_some k111
theorem K_f_X12_some_L5 (Af : Pic → Option (Int32 × Pic)) (n : Nat) (a : Int32 × Pic) (hAf : ∀ g, hb g → Kp (fun r => hb r.2) (Af g)) (h_a : hb a.2) : Kp (fun r => hb r.2) (f_X12_some_L5 Af n a) := by
  unfold f_X12_some_L5
  induction n generalizing a with
  | zero => exact fun r h => by cases h
  | succ n ih =>
    obtain ⟨x1, g0⟩ := a
    refine Kp_lp ?_
    refine Kp_ite ?_ ?_
    · skip
      refine Kp_bd2 (fun r_2 g0_2 h113 => ?_)
      have k114 : hb g0_2 := (K_f_X12_has _ _ h_a) _ h113
      refine Kp_ite ?_ ?_
      · skip
        exact Kp_some k114
      · skip
        refine Kp_bd2 (fun r_3 g0_3 h115 => ?_)
        have k116 : hb g0_3 := (K_f_X12_every _ _ hAf k114) _ h115
        refine Kp_jn (fun J : Int32 → _ => ∀ (s0_J40 : Int32), Kp (fun r => hb r.2) (J s0_J40)) ?_ ?_
        · intro s0_J40
          exact ih _ k116
        · intro J40 j117
          refine Kp_jn (fun J : Unit → _ => ∀ (u118 : Unit), Kp (fun r => hb r.2) (J u118)) ?_ ?_
          · intro u118
            exact j117 _
          · intro J35 j119
            refine Kp_ite ?_ ?_
            · skip
              refine Kp_ite ?_ ?_
              · skip
                exact j117 _
              · skip
                exact j119 _
            · skip
              exact j119 _
    · skip
      exact Kp_some h_a
theorem K_f_X12_some (Af : Pic → Option (Int32 × Pic)) (g0 : Pic) (hAf : ∀ g, hb g → Kp (fun r => hb r.2) (Af g)) (h_g0 : hb g0) : Kp (fun r => hb r.2) (f_X12_some Af g0) := by
  unfold f_X12_some
  refine Kp_bd2 (fun r_1 g0_1 h120 => ?_)
  have k121 : hb g0_1 := (K_f_X12_every _ _ hAf h_g0) _ h120
  refine Kp_bd (fun q123 h122 => ?_)
  have k124 : hb q123.2 := (K_f_X12_some_L5 _ _ (r_1, g0_1) hAf k121) _ h122
  obtain ⟨x1_4, g0_4⟩ := q123
  refine Kp_gdb (fun h125 => ?_)
  exact Kp_some k124
theorem K_F_X12_atom (Af : Pic → Option (Int32 × Pic)) (g0 : Pic) (hAf : ∀ g, hb g → Kp (fun r => hb r.2) (Af g)) (h_g0 : hb g0) : Kp (fun r => hb r.2) (F_X12_atom Af g0) := by
  unfold F_X12_atom
  refine Kp_ite ?_ ?_
  · skip
    refine Kp_bd2 (fun r_1 g0_1 h126 => ?_)
    have k127 : hb g0_1 := (K_f_X12_here _ h_g0) _ h126
    refine Kp_bd2 (fun r_2 g0_2 h128 => ?_)
    have k129 : hb g0_2 := (K_f_X12_has _ _ k127) _ h128
    refine Kp_jn (fun J : Pic → _ => ∀ (g0_J40 : Pic), hb g0_J40 → Kp (fun r => hb r.2) (J g0_J40)) ?_ ?_
    · intro g0_J40 k130
      refine Kp_ite ?_ ?_
      · skip
        refine Kp_bd (fun g0_12 h131 => ?_)
        have k132 : hb g0_12 := (K_f_X12_wrong _ _ k130) _ h131
        exact Kp_some k132
      · skip
        refine Kp_nmP (hb_pu (by decide) k130) (fun g0_3 k133 => ?_)
        refine Kp_jn (fun J : Int32 → Pic → _ => ∀ (x3_J138 : Int32) (g0_J138 : Pic), hb g0_J138 → Kp (fun r => hb r.2) (J x3_J138 g0_J138)) ?_ ?_
        · intro x3_J138 g0_J138 k134
          refine Kp_nmP (hb_pu (by decide) k134) (fun g0_4 k135 => ?_)
          refine Kp_gdb (fun h136 => ?_)
          exact Kp_some k135
        · intro J138 j137
          refine Kp_ite ?_ ?_
          · skip
            refine Kp_nmP (hb_pu (by decide) k133) (fun g0_6 k138 => ?_)
            refine Kp_bd2 (fun r_7 g0_7 h139 => ?_)
            have k140 : hb g0_7 := (K_f_X12_some _ _ hAf k138) _ h139
            refine Kp_jn (fun J : Pic → _ => ∀ (g0_J128 : Pic), hb g0_J128 → Kp (fun r => hb r.2) (J g0_J128)) ?_ ?_
            · intro g0_J128 k141
              refine Kp_nmP (hb_pu (by decide) k141) (fun g0_8 k142 => ?_)
              exact j137 _ _ k142
            · intro J128 j143
              refine Kp_ite ?_ ?_
              · skip
                refine Kp_bd2 (fun r_9 g0_9 h144 => ?_)
                have k145 : hb g0_9 := (K_f_X12_isSign _ _ k140) _ h144
                refine Kp_ite ?_ ?_
                · skip
                  refine Kp_bd (fun g0_10 h146 => ?_)
                  have k147 : hb g0_10 := (K_f_X12_wrong _ _ k145) _ h146
                  exact j143 _ k147
                · skip
                  exact j143 _ k145
              · skip
                exact j143 _ k140
          · skip
            refine Kp_bd2 (fun r_11 g0_11 h148 => ?_)
            have k149 : hb g0_11 := (hAf _ k133) _ h148
            refine Kp_jn (fun J : Int32 → _ => ∀ (s0_J84 : Int32), Kp (fun r => hb r.2) (J s0_J84)) ?_ ?_
            · intro s0_J84
              exact j137 _ _ k149
            · intro J84 j150
              refine Kp_ite ?_ ?_
              · skip
                exact j150 _
              · skip
                exact j150 _
    · intro J40 j151
      refine Kp_ite ?_ ?_
      · skip
        refine Kp_bd2 (fun r_13 g0_13 h152 => ?_)
        have k153 : hb g0_13 := (K_f_X12_isSign _ _ k129) _ h152
        refine Kp_ite ?_ ?_
        · skip
          refine Kp_bd2 (fun r_14 g0_14 h154 => ?_)
          have k155 : hb g0_14 := (K_f_X12_plain _ k153) _ h154
          refine Kp_gdb (fun h156 => ?_)
          exact Kp_some k155
        · skip
          exact j151 _ k153
      · skip
        exact j151 _ k129
  · skip
    exact Kp_some h_g0
theorem K_f_X12_atom (n : Nat) (g : Pic) (h_g : hb g) : Kp (fun r => hb r.2) (f_X12_atom n g) := by
  unfold f_X12_atom
  induction n generalizing g with
  | zero => exact fun r h => by cases h
  | succ n ih =>
    refine Kp_lp ?_
    exact K_F_X12_atom _ _ ih h_g
theorem K_f_X12_cond (g : Pic) (h_g : hb g) : Kp (fun r => hb r.2) (f_X12_cond g) := by
  unfold f_X12_cond
  exact (K_f_X12_some _ _ (fun g hg => K_f_X12_atom 8 g hg) h_g)
theorem K_f_X12_lays (g0 : Pic) (x1 : Int32) (x2 : Int32) (x3 : Int32) (h_g0 : hb g0) : Kp hb (f_X12_lays g0 x1 x2 x3) := by
  unfold f_X12_lays
  refine Kp_gdi ?_
  refine Kp_nmP (hb_pu (by decide) h_g0) (fun g0_2 k157 => ?_)
  exact Kp_some k157
theorem K_f_X12_feed_L23 (x1 : Int32) (x2 : Int32) (x3 : Int32) (x4 : Int32) (x5 : Int32) (n : Nat) (a : Int32 × Pic) (h_a : hb a.2) : Kp hb (f_X12_feed_L23 x1 x2 x3 x4 x5 n a) := by
  unfold f_X12_feed_L23
  induction n generalizing a with
  | zero => exact fun r h => by cases h
  | succ n ih =>
    obtain ⟨x6, g0⟩ := a
    refine Kp_lp ?_
    refine Kp_ite ?_ ?_
    · skip
      exact Kp_some h_a
    · skip
      refine Kp_jn (fun J : Int32 → _ => ∀ (s0_J76 : Int32), Kp hb (J s0_J76)) ?_ ?_
      · intro s0_J76
        refine Kp_gdi ?_
        refine Kp_nmP (hb_pu (by decide) h_a) (fun g0_3 k158 => ?_)
        refine Kp_nmP (hb_pu (by decide) k158) (fun g0_4 k159 => ?_)
        refine Kp_nm (fun x6_5 => ?_)
        exact ih _ k159
      · intro J76 j160
        refine Kp_ite ?_ ?_
        · skip
          refine Kp_ite ?_ ?_
          · skip
            refine Kp_ite ?_ ?_
            · skip
              refine Kp_ite ?_ ?_
              · skip
                exact j160 _
              · skip
                exact j160 _
            · skip
              exact j160 _
          · skip
            exact j160 _
        · skip
          exact j160 _
theorem K_f_X12_feed (g0 : Pic) (x1 : Int32) (x2 : Int32) (x3 : Int32) (x4 : Int32) (x5 : Int32) (h_g0 : hb g0) : Kp (fun r => hb r.2) (f_X12_feed g0 x1 x2 x3 x4 x5) := by
  unfold f_X12_feed
  refine Kp_nmP (hb_pu (by decide) h_g0) (fun g0_1 k161 => ?_)
  refine Kp_ite ?_ ?_
  · skip
    refine Kp_bd (fun g0_6 h162 => ?_)
    have k163 : hb g0_6 := (K_f_X12_feed_L23 _ _ _ _ _ _ (0, g0_1) k161) _ h162
    exact Kp_some k163
  · skip
    exact Kp_some k161
theorem K_f_X12_end (g0 : Pic) (x1 : Int32) (h_g0 : hb g0) : Kp (fun r => hb r.2) (f_X12_end g0 x1) := by
  unfold f_X12_end
  refine Kp_nmP (hb_pu (by decide) h_g0) (fun g0_1 k164 => ?_)
  refine Kp_bd (fun r_2 h165 => ?_)
  refine Kp_ite ?_ ?_
  · skip
    exact Kp_some k164
  · skip
    refine Kp_nmP (hb_pu (by decide) k164) (fun g0_3 k166 => ?_)
    exact Kp_some k166
theorem K_f_X12_after (k1 : Nat) (g0 : Pic) (x2 : Int32) (x3 : Int32) (h_g0 : hb g0) : Kp (fun r => hb r.2) (f_X12_after k1 g0 x2 x3) := by
  unfold f_X12_after
  refine Kp_jn (fun J : Pic → _ => ∀ (g0_J24 : Pic), hb g0_J24 → Kp (fun r => hb r.2) (J g0_J24)) ?_ ?_
  · intro g0_J24 k167
    refine Kp_bd2 (fun r_1 g0_1 h168 => ?_)
    have k169 : hb g0_1 := (K_f_X12_figures _ _ _ k167) _ h168
    exact Kp_some k169
  · intro J24 j170
    refine Kp_ite ?_ ?_
    · skip
      refine Kp_bd2 (fun r_2 g0_2 h171 => ?_)
      have k172 : hb g0_2 := (K_f_X12_has _ _ h_g0) _ h171
      refine Kp_ite ?_ ?_
      · skip
        refine Kp_bd (fun g0_3 h173 => ?_)
        have k174 : hb g0_3 := (K_f_X12_wrong _ _ k172) _ h173
        exact j170 _ k174
      · skip
        exact j170 _ k172
    · skip
      exact j170 _ h_g0
theorem K_f_X12_wordLine_L95 (x2 : Int32) (x3 : Int32) (x4 : Int32) (x5 : Int32) (n : Nat) (a : Int32 × Pic) (h_a : hb a.2) : Kp hb (f_X12_wordLine_L95 x2 x3 x4 x5 n a) := by
  unfold f_X12_wordLine_L95
  induction n generalizing a with
  | zero => exact fun r h => by cases h
  | succ n ih =>
    obtain ⟨x6, g0⟩ := a
    refine Kp_lp ?_
    refine Kp_ite ?_ ?_
    · skip
      exact Kp_some h_a
    · skip
      refine Kp_jn (fun J : Int32 → Int32 → _ => ∀ (s1_J138 : Int32) (s2_J138 : Int32), Kp hb (J s1_J138 s2_J138)) ?_ ?_
      · intro s1_J138 s2_J138
        refine Kp_gdi ?_
        refine Kp_nmP (hb_pu (by decide) h_a) (fun g0_9 k175 => ?_)
        refine Kp_nm (fun x6_10 => ?_)
        exact ih _ k175
      · intro J138 j176
        refine Kp_ite ?_ ?_
        · skip
          exact j176 _ _
        · skip
          refine Kp_bd (fun r_11 h177 => ?_)
          exact j176 _ _
theorem K_f_X12_wordLine (g0 : Pic) (x1 : Int32) (h_g0 : hb g0) : Kp hb (f_X12_wordLine g0 x1) := by
  unfold f_X12_wordLine
  refine Kp_jn (fun J : Pic → _ => ∀ (g0_J16 : Pic), hb g0_J16 → Kp hb (J g0_J16)) ?_ ?_
  · intro g0_J16 k178
    refine Kp_ite ?_ ?_
    · skip
      refine Kp_bd2 (fun r_1 g0_1 h179 => ?_)
      have k180 : hb g0_1 := (K_f_X12_here _ k178) _ h179
      refine Kp_bd (fun r_2 h181 => ?_)
      refine Kp_bd (fun r_3 h182 => ?_)
      refine Kp_jn (fun J : Unit → _ => ∀ (u183 : Unit), Kp hb (J u183)) ?_ ?_
      · intro u183
        refine Kp_bd (fun g0_4 h184 => ?_)
        have k185 : hb g0_4 := (K_f_X12_wrong _ _ k180) _ h184
        exact Kp_some k185
      · intro J51 j186
        refine Kp_ite ?_ ?_
        · skip
          exact j186 _
        · skip
          refine Kp_ite ?_ ?_
          · skip
            refine Kp_nmP (hb_pu (by decide) k180) (fun g0_5 k187 => ?_)
            refine Kp_bd2 (fun r_6 g0_6 h188 => ?_)
            have k189 : hb g0_6 := (K_f_X12_after _ _ _ _ k187) _ h188
            refine Kp_ite ?_ ?_
            · skip
              refine Kp_nm (fun x5_7 => ?_)
              refine Kp_bd (fun g0_12 h190 => ?_)
              have k191 : hb g0_12 := (K_f_X12_wordLine_L95 _ _ _ _ _ (0, g0_6) k189) _ h190
              refine Kp_gdi ?_
              refine Kp_nmP (hb_pu (by decide) k191) (fun g0_14 k192 => ?_)
              refine Kp_gdi ?_
              refine Kp_nmP (hb_pu (by decide) k192) (fun g0_16 k193 => ?_)
              refine Kp_nmP (hb_pu (by decide) k193) (fun g0_17 k194 => ?_)
              exact Kp_some k194
            · skip
              exact Kp_some k189
          · skip
            exact j186 _
    · skip
      exact Kp_some k178
  · intro J16 j195
    refine Kp_ite ?_ ?_
    · skip
      refine Kp_bd (fun g0_18 h196 => ?_)
      have k197 : hb g0_18 := (K_f_X12_wrong _ _ h_g0) _ h196
      exact j195 _ k197
    · skip
      exact j195 _ h_g0
theorem K_f_X12_letterSet (g0 : Pic) (h_g0 : hb g0) : Kp (fun r => hb r.2) (f_X12_letterSet g0) := by
  unfold f_X12_letterSet
  refine Kp_ite ?_ ?_
  · skip
    refine Kp_bd2 (fun r_1 g0_1 h198 => ?_)
    have k199 : hb g0_1 := (K_f_X12_here _ h_g0) _ h198
    refine Kp_bd (fun r_2 h200 => ?_)
    refine Kp_bd (fun r_3 h201 => ?_)
    refine Kp_bd (fun q203 h202 => ?_)
    obtain ⟨x3_8, x4_8⟩ := q203
    refine Kp_ite ?_ ?_
    · skip
      refine Kp_bd (fun g0_10 h204 => ?_)
      have k205 : hb g0_10 := (K_f_X12_wrong _ _ k199) _ h204
      exact Kp_some k205
    · skip
      refine Kp_nmP (hb_pu (by decide) k199) (fun g0_9 k206 => ?_)
      exact Kp_some k206
  · skip
    exact Kp_some h_g0
theorem K_f_X12_writerLine_L165 (x6 : Int32) (n : Nat) (a : Int32 × Pic) (h_a : hb a.2) : Kp hb (f_X12_writerLine_L165 x6 n a) := by
  unfold f_X12_writerLine_L165
  induction n generalizing a with
  | zero => exact fun r h => by cases h
  | succ n ih =>
    obtain ⟨x7, g0⟩ := a
    refine Kp_lp ?_
    refine Kp_ite ?_ ?_
    · skip
      exact Kp_some h_a
    · skip
      refine Kp_gdi ?_
      refine Kp_nmP (hb_pu (by decide) h_a) (fun g0_8 k207 => ?_)
      refine Kp_nm (fun x7_9 => ?_)
      exact ih _ k207
theorem K_f_X12_writerLine (g0 : Pic) (x1 : Int32) (h_g0 : hb g0) : Kp hb (f_X12_writerLine g0 x1) := by
  unfold f_X12_writerLine
  refine Kp_jn (fun J : Pic → _ => ∀ (g0_J15 : Pic), hb g0_J15 → Kp hb (J g0_J15)) ?_ ?_
  · intro g0_J15 k208
    refine Kp_bd2 (fun r_1 g0_1 h209 => ?_)
    have k210 : hb g0_1 := (K_f_X12_after _ _ _ _ k208) _ h209
    refine Kp_jn (fun J : Int32 → Pic → _ => ∀ (s0_J53 : Int32) (g0_J53 : Pic), hb g0_J53 → Kp hb (J s0_J53 g0_J53)) ?_ ?_
    · intro s0_J53 g0_J53 k211
      refine Kp_jn (fun J : Int32 → Pic → _ => ∀ (s0_J82 : Int32) (g0_J82 : Pic), hb g0_J82 → Kp hb (J s0_J82 g0_J82)) ?_ ?_
      · intro s0_J82 g0_J82 k212
        refine Kp_jn (fun J : Int32 → Pic → _ => ∀ (s0_J109 : Int32) (g0_J109 : Pic), hb g0_J109 → Kp hb (J s0_J109 g0_J109)) ?_ ?_
        · intro s0_J109 g0_J109 k213
          refine Kp_ite ?_ ?_
          · skip
            refine Kp_nm (fun x6_2 => ?_)
            refine Kp_bd (fun g0_3 h214 => ?_)
            have k215 : hb g0_3 := (K_f_X12_lays _ _ _ _ k213) _ h214
            refine Kp_bd (fun g0_4 h216 => ?_)
            have k217 : hb g0_4 := (K_f_X12_lays _ _ _ _ k215) _ h216
            refine Kp_bd (fun g0_5 h218 => ?_)
            have k219 : hb g0_5 := (K_f_X12_lays _ _ _ _ k217) _ h218
            refine Kp_bd (fun g0_6 h220 => ?_)
            have k221 : hb g0_6 := (K_f_X12_lays _ _ _ _ k219) _ h220
            refine Kp_bd (fun g0_10 h222 => ?_)
            have k223 : hb g0_10 := (K_f_X12_writerLine_L165 _ _ (0, g0_6) k221) _ h222
            refine Kp_nmP (hb_pu (by decide) k223) (fun g0_11 k224 => ?_)
            exact Kp_some k224
          · skip
            exact Kp_some k213
        · intro J109 j225
          refine Kp_jn (fun J : Pic → _ => ∀ (g0_J108 : Pic), hb g0_J108 → Kp hb (J g0_J108)) ?_ ?_
          · intro g0_J108 k226
            exact j225 _ _ k226
          · intro J108 j227
            refine Kp_ite ?_ ?_
            · skip
              refine Kp_bd2 (fun r_12 g0_12 h228 => ?_)
              have k229 : hb g0_12 := (K_f_X12_has _ _ k212) _ h228
              refine Kp_ite ?_ ?_
              · skip
                exact j227 _ k229
              · skip
                refine Kp_bd2 (fun r_13 g0_13 h230 => ?_)
                have k231 : hb g0_13 := (K_f_X12_letterSet _ k229) _ h230
                exact j225 _ _ k231
            · skip
              exact j227 _ k212
      · intro J82 j232
        refine Kp_jn (fun J : Pic → _ => ∀ (g0_J81 : Pic), hb g0_J81 → Kp hb (J g0_J81)) ?_ ?_
        · intro g0_J81 k233
          exact j232 _ _ k233
        · intro J81 j234
          refine Kp_ite ?_ ?_
          · skip
            refine Kp_bd2 (fun r_14 g0_14 h235 => ?_)
            have k236 : hb g0_14 := (K_f_X12_has _ _ k211) _ h235
            refine Kp_ite ?_ ?_
            · skip
              exact j234 _ k236
            · skip
              refine Kp_bd2 (fun r_15 g0_15 h237 => ?_)
              have k238 : hb g0_15 := (K_f_X12_figures _ _ _ k236) _ h237
              exact j232 _ _ k238
          · skip
            exact j234 _ k211
    · intro J53 j239
      refine Kp_jn (fun J : Pic → _ => ∀ (g0_J52 : Pic), hb g0_J52 → Kp hb (J g0_J52)) ?_ ?_
      · intro g0_J52 k240
        exact j239 _ _ k240
      · intro J52 j241
        refine Kp_ite ?_ ?_
        · skip
          refine Kp_bd2 (fun r_16 g0_16 h242 => ?_)
          have k243 : hb g0_16 := (K_f_X12_has _ _ k210) _ h242
          refine Kp_ite ?_ ?_
          · skip
            exact j241 _ k243
          · skip
            refine Kp_bd2 (fun r_17 g0_17 h244 => ?_)
            have k245 : hb g0_17 := (K_f_X12_figures _ _ _ k243) _ h244
            exact j239 _ _ k245
        · skip
          exact j241 _ k210
  · intro J15 j246
    refine Kp_ite ?_ ?_
    · skip
      refine Kp_bd (fun g0_18 h247 => ?_)
      have k248 : hb g0_18 := (K_f_X12_wrong _ _ h_g0) _ h247
      exact j246 _ k248
    · skip
      exact j246 _ h_g0
theorem K_f_X12_isFigure (g0 : Pic) (h_g0 : hb g0) : Kp (fun r => hb r.2) (f_X12_isFigure g0) := by
  unfold f_X12_isFigure
  refine Kp_bd (fun g0_1 h249 => ?_)
  have k250 : hb g0_1 := (K_f_X12_skip _ h_g0) _ h249
  refine Kp_jn (fun J : Int32 → _ => ∀ (s0_J38 : Int32), Kp (fun r => hb r.2) (J s0_J38)) ?_ ?_
  · intro s0_J38
    refine Kp_gdb (fun h251 => ?_)
    exact Kp_some k250
  · intro J38 j252
    refine Kp_jn (fun J : Unit → _ => ∀ (u253 : Unit), Kp (fun r => hb r.2) (J u253)) ?_ ?_
    · intro u253
      exact j252 _
    · intro J37 j254
      refine Kp_ite ?_ ?_
      · skip
        exact j254 _
      · skip
        refine Kp_bd (fun r_3 h255 => ?_)
        refine Kp_bd (fun r_4 h256 => ?_)
        refine Kp_ite ?_ ?_
        · skip
          exact j254 _
        · skip
          exact j252 _
theorem K_f_X12_speechLine_L4 (n : Nat) (a : Int32 × Int32 × Pic) (h_a : hb a.2.2) : Kp (Sum.elim (fun q => hb q) (fun q => hb q)) (f_X12_speechLine_L4 n a) := by
  unfold f_X12_speechLine_L4
  induction n generalizing a with
  | zero => exact fun r h => by cases h
  | succ n ih =>
    obtain ⟨x1, x2, g0⟩ := a
    refine Kp_lp ?_
    refine Kp_ite ?_ ?_
    · skip
      refine Kp_ite ?_ ?_
      · skip
        exact Kp_some h_a
      · skip
        refine Kp_bd2 (fun r_1 g0_1 h257 => ?_)
        have k258 : hb g0_1 := (K_f_X12_here _ h_a) _ h257
        refine Kp_jn (fun J : Pic → _ => ∀ (g0_J43 : Pic), hb g0_J43 → Kp (Sum.elim (fun q => hb q) (fun q => hb q)) (J g0_J43)) ?_ ?_
        · intro g0_J43 k259
          refine Kp_bd2 (fun r_2 g0_2 h260 => ?_)
          have k261 : hb g0_2 := (K_f_X12_figures _ _ _ k259) _ h260
          refine Kp_ite ?_ ?_
          · skip
            refine Kp_gdi ?_
            refine Kp_nmP (hb_pu (by decide) k261) (fun g0_4 k262 => ?_)
            refine Kp_nmP (hb_pu (by decide) k262) (fun g0_5 k263 => ?_)
            refine Kp_nm (fun x1_6 => ?_)
            refine Kp_bd2 (fun r_7 g0_7 h264 => ?_)
            have k265 : hb g0_7 := (K_f_X12_isFigure _ k263) _ h264
            exact ih _ k265
          · skip
            exact Kp_some k261
        · intro J43 j266
          refine Kp_jn (fun J : Unit → _ => ∀ (u267 : Unit), Kp (Sum.elim (fun q => hb q) (fun q => hb q)) (J u267)) ?_ ?_
          · intro u267
            refine Kp_bd (fun g0_8 h268 => ?_)
            have k269 : hb g0_8 := (K_f_X12_wrong _ _ k258) _ h268
            exact j266 _ k269
          · intro J38 j270
            refine Kp_ite ?_ ?_
            · skip
              exact j270 _
            · skip
              refine Kp_ite ?_ ?_
              · skip
                exact j270 _
              · skip
                exact j266 _ k258
    · skip
      exact Kp_some h_a
theorem K_f_X12_speechLine (g0 : Pic) (h_g0 : hb g0) : Kp hb (f_X12_speechLine g0) := by
  unfold f_X12_speechLine
  refine Kp_lr (fun a h271 => ?_) (fun g0_9 h272 => ?_)
  · exact (K_f_X12_speechLine_L4 _ (0, 1, g0) h_g0) _ h271
  · skip
    have k273 : hb g0_9 := (K_f_X12_speechLine_L4 _ (0, 1, g0) h_g0) _ h272
    exact Kp_some k273
theorem K_f_X12_tells (g0 : Pic) (x1 : Int32) (x2 : Int32) (x3 : Int32) (h_g0 : hb g0) : Kp hb (f_X12_tells g0 x1 x2 x3) := by
  unfold f_X12_tells
  refine Kp_bd2 (fun r_1 g0_1 h274 => ?_)
  have k275 : hb g0_1 := (K_f_X12_figures _ _ _ h_g0) _ h274
  refine Kp_jn (fun J : Pic → _ => ∀ (g0_J24 : Pic), hb g0_J24 → Kp hb (J g0_J24)) ?_ ?_
  · intro g0_J24 k276
    exact Kp_some k276
  · intro J24 j277
    refine Kp_ite ?_ ?_
    · skip
      refine Kp_gdi ?_
      refine Kp_nmP (hb_pu (by decide) k275) (fun g0_3 k278 => ?_)
      exact j277 _ k278
    · skip
      exact j277 _ k275
theorem K_f_X12_eveningLine (g0 : Pic) (h_g0 : hb g0) : Kp hb (f_X12_eveningLine g0) := by
  unfold f_X12_eveningLine
  refine Kp_bd2 (fun r_1 g0_1 h279 => ?_)
  have k280 : hb g0_1 := (K_f_X12_here _ h_g0) _ h279
  refine Kp_bd2 (fun r_2 g0_2 h281 => ?_)
  have k282 : hb g0_2 := (K_f_X12_has _ _ k280) _ h281
  refine Kp_jn (fun J : Pic → _ => ∀ (g0_J127 : Pic), hb g0_J127 → Kp hb (J g0_J127)) ?_ ?_
  · intro g0_J127 k283
    exact Kp_some k283
  · intro J127 j284
    refine Kp_ite ?_ ?_
    · skip
      refine Kp_bd2 (fun r_3 g0_3 h285 => ?_)
      have k286 : hb g0_3 := (K_f_X12_has _ _ k282) _ h285
      refine Kp_ite ?_ ?_
      · skip
        refine Kp_bd2 (fun r_4 g0_4 h287 => ?_)
        have k288 : hb g0_4 := (K_f_X12_has _ _ k286) _ h287
        refine Kp_ite ?_ ?_
        · skip
          refine Kp_bd2 (fun r_5 g0_5 h289 => ?_)
          have k290 : hb g0_5 := (K_f_X12_has _ _ k288) _ h289
          refine Kp_ite ?_ ?_
          · skip
            refine Kp_bd2 (fun r_6 g0_6 h291 => ?_)
            have k292 : hb g0_6 := (K_f_X12_has _ _ k290) _ h291
            refine Kp_ite ?_ ?_
            · skip
              refine Kp_bd2 (fun r_7 g0_7 h293 => ?_)
              have k294 : hb g0_7 := (K_f_X12_has _ _ k292) _ h293
              refine Kp_ite ?_ ?_
              · skip
                refine Kp_bd (fun g0_8 h295 => ?_)
                have k296 : hb g0_8 := (K_f_X12_wrong _ _ k294) _ h295
                exact j284 _ k296
              · skip
                refine Kp_bd (fun g0_9 h297 => ?_)
                have k298 : hb g0_9 := (K_f_X12_tells _ _ _ _ k294) _ h297
                exact j284 _ k298
            · skip
              refine Kp_bd (fun g0_10 h299 => ?_)
              have k300 : hb g0_10 := (K_f_X12_tells _ _ _ _ k292) _ h299
              exact j284 _ k300
          · skip
            refine Kp_bd (fun g0_11 h301 => ?_)
            have k302 : hb g0_11 := (K_f_X12_tells _ _ _ _ k290) _ h301
            exact j284 _ k302
        · skip
          refine Kp_bd (fun g0_12 h303 => ?_)
          have k304 : hb g0_12 := (K_f_X12_speechLine _ k288) _ h303
          exact j284 _ k304
      · skip
        refine Kp_bd (fun g0_13 h305 => ?_)
        have k306 : hb g0_13 := (K_f_X12_writerLine _ _ k286) _ h305
        exact j284 _ k306
    · skip
      refine Kp_bd (fun g0_14 h307 => ?_)
      have k308 : hb g0_14 := (K_f_X12_wordLine _ _ k282) _ h307
      exact j284 _ k308
theorem K_f_X12_begins (g0 : Pic) (h_g0 : hb g0) : Kp hb (f_X12_begins g0) := by
  unfold f_X12_begins
  refine Kp_nmP (hb_pu (by decide) h_g0) (fun g0_1 k309 => ?_)
  refine Kp_nmP (hb_pu (by decide) k309) (fun g0_2 k310 => ?_)
  refine Kp_nmP (hb_pu (by decide) k310) (fun g0_3 k311 => ?_)
  refine Kp_nmP (hb_pu (by decide) k311) (fun g0_4 k312 => ?_)
  refine Kp_nmP (hb_pu (by decide) k312) (fun g0_5 k313 => ?_)
  refine Kp_nmP (hb_pu (by decide) k313) (fun g0_6 k314 => ?_)
  exact Kp_some k314
theorem K_f_X12_putsAside_L2 (n : Nat) (a : Int32 × Pic) (h_a : hb a.2) : Kp hb (f_X12_putsAside_L2 n a) := by
  unfold f_X12_putsAside_L2
  induction n generalizing a with
  | zero => exact fun r h => by cases h
  | succ n ih =>
    obtain ⟨x1, g0⟩ := a
    refine Kp_lp ?_
    refine Kp_ite ?_ ?_
    · skip
      exact Kp_some h_a
    · skip
      refine Kp_gdi ?_
      refine Kp_gdi ?_
      refine Kp_nmP (hb_pu (by decide) h_a) (fun g0_3 k315 => ?_)
      refine Kp_nm (fun x1_4 => ?_)
      exact ih _ k315
theorem K_f_X12_putsAside (g0 : Pic) (h_g0 : hb g0) : Kp hb (f_X12_putsAside g0) := by
  unfold f_X12_putsAside
  refine Kp_bd (fun g0_5 h316 => ?_)
  have k317 : hb g0_5 := (K_f_X12_putsAside_L2 _ (0, g0) h_g0) _ h316
  exact Kp_some k317
theorem K_f_X12_comesBack_L2 (n : Nat) (a : Int32 × Pic) (h_a : hb a.2) : Kp hb (f_X12_comesBack_L2 n a) := by
  unfold f_X12_comesBack_L2
  induction n generalizing a with
  | zero => exact fun r h => by cases h
  | succ n ih =>
    obtain ⟨x1, g0⟩ := a
    refine Kp_lp ?_
    refine Kp_ite ?_ ?_
    · skip
      exact Kp_some h_a
    · skip
      refine Kp_gdi ?_
      refine Kp_gdi ?_
      refine Kp_nmP (hb_pu (by decide) h_a) (fun g0_3 k318 => ?_)
      refine Kp_nm (fun x1_4 => ?_)
      exact ih _ k318
theorem K_f_X12_comesBack (g0 : Pic) (h_g0 : hb g0) : Kp hb (f_X12_comesBack g0) := by
  unfold f_X12_comesBack
  refine Kp_bd (fun g0_5 h319 => ?_)
  have k320 : hb g0_5 := (K_f_X12_comesBack_L2 _ (0, g0) h_g0) _ h319
  exact Kp_some k320
theorem K_f_X12_lawLine (g0 : Pic) (h_g0 : hb g0) : Kp hb (f_X12_lawLine g0) := by
  unfold f_X12_lawLine
  refine Kp_bd2 (fun r_1 g0_1 h321 => ?_)
  have k322 : hb g0_1 := (K_f_X12_has _ _ h_g0) _ h321
  refine Kp_jn (fun J : Int32 → Pic → _ => ∀ (s0_J40 : Int32) (g0_J40 : Pic), hb g0_J40 → Kp hb (J s0_J40 g0_J40)) ?_ ?_
  · intro s0_J40 g0_J40 k323
    refine Kp_ite ?_ ?_
    · skip
      refine Kp_bd (fun g0_8 h324 => ?_)
      have k325 : hb g0_8 := (K_f_X12_wrong _ _ k323) _ h324
      exact Kp_some k325
    · skip
      refine Kp_bd2 (fun r_2 g0_2 h326 => ?_)
      have k327 : hb g0_2 := (K_f_X12_figures _ _ _ k323) _ h326
      refine Kp_ite ?_ ?_
      · skip
        refine Kp_bd2 (fun r_3 g0_3 h328 => ?_)
        have k329 : hb g0_3 := (K_f_X12_has _ _ k327) _ h328
        refine Kp_jn (fun J : Int32 → Pic → _ => ∀ (s0_J93 : Int32) (g0_J93 : Pic), hb g0_J93 → Kp hb (J s0_J93 g0_J93)) ?_ ?_
        · intro s0_J93 g0_J93 k330
          refine Kp_jn (fun J : Unit → _ => ∀ (u331 : Unit), Kp hb (J u331)) ?_ ?_
          · intro u331
            exact Kp_some k330
          · intro J106 j332
            refine Kp_ite ?_ ?_
            · skip
              refine Kp_ite ?_ ?_
              · skip
                exact j332 _
              · skip
                refine Kp_jn (fun J : Int32 → Int32 → _ => ∀ (s1_J121 : Int32) (s2_J121 : Int32), Kp hb (J s1_J121 s2_J121)) ?_ ?_
                · intro s1_J121 s2_J121
                  refine Kp_nmP (hb_pu (by decide) k330) (fun g0_4 k333 => ?_)
                  refine Kp_jn (fun J : Int32 → Int32 → _ => ∀ (s1_J140 : Int32) (s2_J140 : Int32), Kp hb (J s1_J140 s2_J140)) ?_ ?_
                  · intro s1_J140 s2_J140
                    refine Kp_nmP (hb_pu (by decide) k333) (fun g0_5 k334 => ?_)
                    refine Kp_jn (fun J : Int32 → Int32 → _ => ∀ (s1_J159 : Int32) (s2_J159 : Int32), Kp hb (J s1_J159 s2_J159)) ?_ ?_
                    · intro s1_J159 s2_J159
                      refine Kp_nmP (hb_pu (by decide) k334) (fun g0_6 k335 => ?_)
                      exact Kp_some k335
                    · intro J159 j336
                      refine Kp_ite ?_ ?_
                      · skip
                        exact j336 _ _
                      · skip
                        exact j336 _ _
                  · intro J140 j337
                    refine Kp_ite ?_ ?_
                    · skip
                      exact j337 _ _
                    · skip
                      exact j337 _ _
                · intro J121 j338
                  refine Kp_ite ?_ ?_
                  · skip
                    exact j338 _ _
                  · skip
                    exact j338 _ _
            · skip
              exact j332 _
        · intro J93 j339
          refine Kp_jn (fun J : Pic → _ => ∀ (g0_J88 : Pic), hb g0_J88 → Kp hb (J g0_J88)) ?_ ?_
          · intro g0_J88 k340
            exact j339 _ _ k340
          · intro J88 j341
            refine Kp_ite ?_ ?_
            · skip
              exact j341 _ k329
            · skip
              refine Kp_bd2 (fun r_7 g0_7 h342 => ?_)
              have k343 : hb g0_7 := (K_f_X12_cond _ k329) _ h342
              refine Kp_ite ?_ ?_
              · skip
                exact j339 _ _ k343
              · skip
                exact j341 _ k343
      · skip
        exact Kp_some k327
  · intro J40 j344
    refine Kp_ite ?_ ?_
    · skip
      refine Kp_bd2 (fun r_9 g0_9 h345 => ?_)
      have k346 : hb g0_9 := (K_f_X12_has _ _ k322) _ h345
      refine Kp_ite ?_ ?_
      · skip
        refine Kp_bd2 (fun r_10 g0_10 h347 => ?_)
        have k348 : hb g0_10 := (K_f_X12_has _ _ k346) _ h347
        refine Kp_ite ?_ ?_
        · skip
          exact j344 _ _ k348
        · skip
          exact j344 _ _ k348
      · skip
        exact j344 _ _ k346
    · skip
      exact j344 _ _ k322
theorem K_f_X12_fault (g0 : Pic) (h_g0 : hb g0) : Kp (fun r => hb r.2) (f_X12_fault g0) := by
  unfold f_X12_fault
  refine Kp_nmP (hb_pu (by decide) h_g0) (fun g0_1 k349 => ?_)
  exact Kp_some k349
theorem K_f_X12_draw (g0 : Pic) (x1 : Int32) (h_g0 : hb g0) : Kp (fun r => hb r.2) (f_X12_draw g0 x1) := by
  unfold f_X12_draw
  refine Kp_nmP (hb_pu (by decide) h_g0) (fun g0_1 k350 => ?_)
  refine Kp_gdz ?_
  exact Kp_some k350
theorem K_f_X12_logs_L5 (x1 : Int32) (x2 : Int32) (x3 : Int32) (n : Nat) (a : Int32 × Pic) (h_a : hb a.2) : Kp hb (f_X12_logs_L5 x1 x2 x3 n a) := by
  unfold f_X12_logs_L5
  induction n generalizing a with
  | zero => exact fun r h => by cases h
  | succ n ih =>
    obtain ⟨x4, g0⟩ := a
    refine Kp_lp ?_
    refine Kp_ite ?_ ?_
    · skip
      exact Kp_some h_a
    · skip
      refine Kp_gdi ?_
      refine Kp_gdi ?_
      refine Kp_nmP (hb_pu (by decide) h_a) (fun g0_3 k351 => ?_)
      refine Kp_nm (fun x4_4 => ?_)
      exact ih _ k351
theorem K_f_X12_logs (g0 : Pic) (x1 : Int32) (x2 : Int32) (x3 : Int32) (h_g0 : hb g0) : Kp hb (f_X12_logs g0 x1 x2 x3) := by
  unfold f_X12_logs
  refine Kp_bd (fun g0_5 h352 => ?_)
  have k353 : hb g0_5 := (K_f_X12_logs_L5 _ _ _ _ (239, g0) h_g0) _ h352
  refine Kp_nmP (hb_pu (by decide) k353) (fun g0_6 k354 => ?_)
  refine Kp_nmP (hb_pu (by decide) k354) (fun g0_7 k355 => ?_)
  refine Kp_nmP (hb_pu (by decide) k355) (fun g0_8 k356 => ?_)
  refine Kp_nmP (hb_pu (by decide) k356) (fun g0_9 k357 => ?_)
  refine Kp_bd (fun r_10 h358 => ?_)
  refine Kp_nmP (hb_pu (by decide) k357) (fun g0_11 k359 => ?_)
  exact Kp_some k359
theorem K_f_X12_changeOf_L29 (x1 : Int32) (x2 : Int32) (x3 : Int32) (x4 : Int32) (x5 : Int32) (n : Nat) (a : Int32 × Pic) (h_a : hb a.2) : Kp hb (f_X12_changeOf_L29 x1 x2 x3 x4 x5 n a) := by
  unfold f_X12_changeOf_L29
  induction n generalizing a with
  | zero => exact fun r h => by cases h
  | succ n ih =>
    obtain ⟨x6, g0⟩ := a
    refine Kp_lp ?_
    refine Kp_ite ?_ ?_
    · skip
      exact Kp_some h_a
    · skip
      refine Kp_jn (fun J : Int32 → _ => ∀ (s0_J48 : Int32), Kp hb (J s0_J48)) ?_ ?_
      · intro s0_J48
        refine Kp_jn (fun J : Int32 → _ => ∀ (x7_J146 : Int32), Kp hb (J x7_J146)) ?_ ?_
        · intro x7_J146
          refine Kp_gdi ?_
          refine Kp_nmP (hb_pu (by decide) h_a) (fun g0_4 k360 => ?_)
          refine Kp_nm (fun x6_5 => ?_)
          exact ih _ k360
        · intro J146 j361
          refine Kp_ite ?_ ?_
          · skip
            exact j361 _
          · skip
            refine Kp_ite ?_ ?_
            · skip
              exact j361 _
            · skip
              refine Kp_gdi ?_
              refine Kp_gdi ?_
              refine Kp_bd (fun r_8 h362 => ?_)
              refine Kp_gdi ?_
              refine Kp_bd (fun r_10 h363 => ?_)
              refine Kp_bd (fun r_11 h364 => ?_)
              refine Kp_jn (fun J : Int32 → Int32 → Int32 → _ => ∀ (s0_J140 : Int32) (s1_J140 : Int32) (s2_J140 : Int32), Kp hb (J s0_J140 s1_J140 s2_J140)) ?_ ?_
              · intro s0_J140 s1_J140 s2_J140
                refine Kp_bd (fun r_12 h365 => ?_)
                exact j361 _
              · intro J140 j366
                refine Kp_ite ?_ ?_
                · skip
                  exact j366 _ _ _
                · skip
                  exact j366 _ _ _
      · intro J48 j367
        refine Kp_ite ?_ ?_
        · skip
          exact j367 _
        · skip
          exact j367 _
theorem K_f_X12_changeOf_L20 (x1 : Int32) (x2 : Int32) (x3 : Int32) (x4 : Int32) (n : Nat) (a : Int32 × Pic) (h_a : hb a.2) : Kp hb (f_X12_changeOf_L20 x1 x2 x3 x4 n a) := by
  unfold f_X12_changeOf_L20
  induction n generalizing a with
  | zero => exact fun r h => by cases h
  | succ n ih =>
    obtain ⟨x5, g0⟩ := a
    refine Kp_lp ?_
    refine Kp_ite ?_ ?_
    · skip
      exact Kp_some h_a
    · skip
      refine Kp_bd (fun g0_13 h368 => ?_)
      have k369 : hb g0_13 := (K_f_X12_changeOf_L29 _ _ _ _ _ _ (0, g0) h_a) _ h368
      refine Kp_nm (fun x5_14 => ?_)
      exact ih _ k369
theorem K_f_X12_changeOf (g0 : Pic) (x1 : Int32) (x2 : Int32) (h_g0 : hb g0) : Kp (fun r => hb r.2) (f_X12_changeOf g0 x1 x2) := by
  unfold f_X12_changeOf
  refine Kp_bd (fun r_1 h370 => ?_)
  refine Kp_bd (fun r_2 h371 => ?_)
  refine Kp_bd (fun g0_15 h372 => ?_)
  have k373 : hb g0_15 := (K_f_X12_changeOf_L20 _ _ _ _ _ (0, g0) h_g0) _ h372
  refine Kp_gdi ?_
  exact Kp_some k373
theorem K_f_X12_closest_L9 (x1 : Int32) (n : Nat) (a : Int32 × Int32 × Int32 × Pic) (h_a : hb a.2.2.2) : Kp (fun r => hb r.2) (f_X12_closest_L9 x1 n a) := by
  unfold f_X12_closest_L9
  induction n generalizing a with
  | zero => exact fun r h => by cases h
  | succ n ih =>
    obtain ⟨x2, x3, x4, g0⟩ := a
    refine Kp_lp ?_
    refine Kp_ite ?_ ?_
    · skip
      exact Kp_some h_a
    · skip
      refine Kp_jn (fun J : Int32 → Pic → _ => ∀ (s0_J39 : Int32) (g0_J39 : Pic), hb g0_J39 → Kp (fun r => hb r.2) (J s0_J39 g0_J39)) ?_ ?_
      · intro s0_J39 g0_J39 k374
        refine Kp_jn (fun J : Int32 → Int32 → _ => ∀ (x2_J56 : Int32) (x3_J56 : Int32), Kp (fun r => hb r.2) (J x2_J56 x3_J56)) ?_ ?_
        · intro x2_J56 x3_J56
          refine Kp_nm (fun x4_1 => ?_)
          exact ih _ k374
        · intro J56 j375
          refine Kp_ite ?_ ?_
          · skip
            exact j375 _ _
          · skip
            exact j375 _ _
      · intro J39 j376
        refine Kp_ite ?_ ?_
        · skip
          exact j376 _ _ h_a
        · skip
          refine Kp_bd2 (fun r_2 g0_2 h377 => ?_)
          have k378 : hb g0_2 := (K_f_X12_changeOf _ _ _ h_a) _ h377
          exact j376 _ _ k378
theorem K_f_X12_closest (g0 : Pic) (x1 : Int32) (h_g0 : hb g0) : Kp (fun r => hb r.2) (f_X12_closest g0 x1) := by
  unfold f_X12_closest
  refine Kp_bd (fun q380 h379 => ?_)
  have k381 : hb q380.2 := (K_f_X12_closest_L9 _ _ ((-1), 2000000000, 0, g0) h_g0) _ h379
  obtain ⟨x2_3, g0_3⟩ := q380
  exact Kp_some k381
theorem K_f_X12_letter (g0 : Pic) (x1 : Int32) (x2 : Int32) (h_g0 : hb g0) : Kp (fun r => hb r.2) (f_X12_letter g0 x1 x2) := by
  unfold f_X12_letter
  refine Kp_bd (fun r_1 h382 => ?_)
  refine Kp_jn (fun J : Int32 → _ => ∀ (s1_J14 : Int32), Kp (fun r => hb r.2) (J s1_J14)) ?_ ?_
  · intro s1_J14
    refine Kp_nmP (hb_pu (by decide) h_g0) (fun g0_2 k383 => ?_)
    refine Kp_ite ?_ ?_
    · skip
      refine Kp_bd (fun r_3 h384 => ?_)
      refine Kp_bd (fun r_4 h385 => ?_)
      refine Kp_jn (fun J : Int32 → _ => ∀ (s0_J53 : Int32), Kp (fun r => hb r.2) (J s0_J53)) ?_ ?_
      · intro s0_J53
        exact Kp_some k383
      · intro J53 j386
        refine Kp_ite ?_ ?_
        · skip
          exact j386 _
        · skip
          refine Kp_bd (fun r_5 h387 => ?_)
          exact j386 _
    · skip
      exact Kp_some k383
  · intro J14 j388
    refine Kp_ite ?_ ?_
    · skip
      exact j388 _
    · skip
      exact j388 _
theorem K_f_X12_writer (g0 : Pic) (x1 : Int32) (x2 : Int32) (h_g0 : hb g0) : Kp (fun r => hb r.2) (f_X12_writer g0 x1 x2) := by
  unfold f_X12_writer
  refine Kp_bd (fun r_1 h389 => ?_)
  refine Kp_jn (fun J : Int32 → _ => ∀ (s1_J28 : Int32), Kp (fun r => hb r.2) (J s1_J28)) ?_ ?_
  · intro s1_J28
    refine Kp_nmP (hb_pu (by decide) h_g0) (fun g0_2 k390 => ?_)
    refine Kp_ite ?_ ?_
    · skip
      refine Kp_ite ?_ ?_
      · skip
        refine Kp_ite ?_ ?_
        · skip
          refine Kp_bd (fun r_16 h391 => ?_)
          exact Kp_some k390
        · skip
          refine Kp_ite ?_ ?_
          · skip
            refine Kp_bd (fun r_14 h392 => ?_)
            refine Kp_bd (fun r_15 h393 => ?_)
            exact Kp_some k390
          · skip
            refine Kp_ite ?_ ?_
            · skip
              refine Kp_bd (fun r_12 h394 => ?_)
              refine Kp_bd (fun r_13 h395 => ?_)
              exact Kp_some k390
            · skip
              refine Kp_ite ?_ ?_
              · skip
                refine Kp_ite ?_ ?_
                · skip
                  refine Kp_bd (fun r_10 h396 => ?_)
                  exact Kp_some k390
                · skip
                  refine Kp_ite ?_ ?_
                  · skip
                    refine Kp_bd (fun r_9 h397 => ?_)
                    exact Kp_some k390
                  · skip
                    refine Kp_ite ?_ ?_
                    · skip
                      refine Kp_bd (fun r_8 h398 => ?_)
                      exact Kp_some k390
                    · skip
                      refine Kp_ite ?_ ?_
                      · skip
                        refine Kp_bd (fun r_7 h399 => ?_)
                        exact Kp_some k390
                      · skip
                        refine Kp_bd (fun r_3 h400 => ?_)
                        refine Kp_jn (fun J : Int32 → _ => ∀ (s0_J210 : Int32), Kp (fun r => hb r.2) (J s0_J210)) ?_ ?_
                        · intro s0_J210
                          exact Kp_some k390
                        · intro J210 j401
                          refine Kp_ite ?_ ?_
                          · skip
                            exact j401 _
                          · skip
                            refine Kp_bd (fun r_4 h402 => ?_)
                            refine Kp_bd (fun r_5 h403 => ?_)
                            refine Kp_gdz ?_
                            exact j401 _
              · skip
                refine Kp_jn (fun J : Int32 → Int32 → Int32 → _ => ∀ (s1_J122 : Int32) (s2_J122 : Int32) (s3_J122 : Int32), Kp (fun r => hb r.2) (J s1_J122 s2_J122 s3_J122)) ?_ ?_
                · intro s1_J122 s2_J122 s3_J122
                  refine Kp_bd (fun r_11 h404 => ?_)
                  exact Kp_some k390
                · intro J122 j405
                  refine Kp_ite ?_ ?_
                  · skip
                    exact j405 _ _ _
                  · skip
                    exact j405 _ _ _
      · skip
        refine Kp_bd (fun r_17 h406 => ?_)
        exact Kp_some k390
    · skip
      exact Kp_some k390
  · intro J28 j407
    refine Kp_ite ?_ ?_
    · skip
      exact j407 _
    · skip
      refine Kp_bd (fun r_18 h408 => ?_)
      refine Kp_ite ?_ ?_
      · skip
        exact j407 _
      · skip
        exact j407 _
theorem K_f_X12_speech (g0 : Pic) (x1 : Int32) (h_g0 : hb g0) : Kp (fun r => hb r.2) (f_X12_speech g0 x1) := by
  unfold f_X12_speech
  refine Kp_nmP (hb_pu (by decide) h_g0) (fun g0_1 k409 => ?_)
  refine Kp_bd (fun r_2 h410 => ?_)
  refine Kp_jn (fun J : Int32 → _ => ∀ (s0_J34 : Int32), Kp (fun r => hb r.2) (J s0_J34)) ?_ ?_
  · intro s0_J34
    exact Kp_some k409
  · intro J34 j411
    refine Kp_ite ?_ ?_
    · skip
      exact j411 _
    · skip
      refine Kp_gdi ?_
      exact j411 _
theorem K_f_X12_page (g0 : Pic) (x1 : Int32) (x2 : Int32) (h_g0 : hb g0) : Kp (fun r => hb r.2) (f_X12_page g0 x1 x2) := by
  unfold f_X12_page
  refine Kp_bd (fun r_1 h412 => ?_)
  refine Kp_jn (fun J : Int32 → _ => ∀ (s1_J14 : Int32), Kp (fun r => hb r.2) (J s1_J14)) ?_ ?_
  · intro s1_J14
    refine Kp_nmP (hb_pu (by decide) h_g0) (fun g0_2 k413 => ?_)
    refine Kp_ite ?_ ?_
    · skip
      refine Kp_bd (fun r_3 h414 => ?_)
      refine Kp_jn (fun J : Int32 → _ => ∀ (s0_J53 : Int32), Kp (fun r => hb r.2) (J s0_J53)) ?_ ?_
      · intro s0_J53
        exact Kp_some k413
      · intro J53 j415
        refine Kp_ite ?_ ?_
        · skip
          exact j415 _
        · skip
          refine Kp_bd (fun r_4 h416 => ?_)
          exact j415 _
    · skip
      exact Kp_some k413
  · intro J14 j417
    refine Kp_ite ?_ ?_
    · skip
      exact j417 _
    · skip
      exact j417 _
theorem K_f_X12_areBoth (g0 : Pic) (x1 : Int32) (x2 : Int32) (h_g0 : hb g0) : Kp hb (f_X12_areBoth g0 x1 x2) := by
  unfold f_X12_areBoth
  refine Kp_bd (fun r_1 h418 => ?_)
  refine Kp_jn (fun J : Int32 → _ => ∀ (s1_J22 : Int32), Kp hb (J s1_J22)) ?_ ?_
  · intro s1_J22
    refine Kp_nmP (hb_pu (by decide) h_g0) (fun g0_2 k419 => ?_)
    exact Kp_some k419
  · intro J22 j420
    refine Kp_jn (fun J : Unit → _ => ∀ (u421 : Unit), Kp hb (J u421)) ?_ ?_
    · intro u421
      exact j420 _
    · intro J17 j422
      refine Kp_ite ?_ ?_
      · skip
        exact j422 _
      · skip
        refine Kp_bd (fun r_3 h423 => ?_)
        refine Kp_ite ?_ ?_
        · skip
          exact j422 _
        · skip
          exact j420 _
theorem K_f_X12_strokes (g0 : Pic) (x1 : Int32) (x2 : Int32) (h_g0 : hb g0) : Kp (fun r => hb r.2) (f_X12_strokes g0 x1 x2) := by
  unfold f_X12_strokes
  refine Kp_bd (fun g0_1 h424 => ?_)
  have k425 : hb g0_1 := (K_f_X12_areBoth _ _ _ h_g0) _ h424
  refine Kp_jn (fun J : Int32 → _ => ∀ (s0_J28 : Int32), Kp (fun r => hb r.2) (J s0_J28)) ?_ ?_
  · intro s0_J28
    exact Kp_some k425
  · intro J28 j426
    refine Kp_ite ?_ ?_
    · skip
      refine Kp_bd (fun r_2 h427 => ?_)
      refine Kp_bd (fun r_3 h428 => ?_)
      exact j426 _
    · skip
      exact j426 _
theorem K_f_X12_mark_L21 (x1 : Int32) (x2 : Int32) (x3 : Int32) (g0 : Pic) (n : Nat) (a : Int32 × Int32) (h_g0 : hb g0) : Kp (Sum.elim (fun q => hb q.2) (fun _ => True)) (f_X12_mark_L21 x1 x2 x3 g0 n a) := by
  unfold f_X12_mark_L21
  induction n generalizing a with
  | zero => exact fun r h => by cases h
  | succ n ih =>
    obtain ⟨x4, x5⟩ := a
    refine Kp_lp ?_
    refine Kp_bd (fun r_2 h429 => ?_)
    refine Kp_ite ?_ ?_
    · skip
      exact Kp_some trivial
    · skip
      refine Kp_bd (fun r_3 h430 => ?_)
      refine Kp_bd (fun r_4 h431 => ?_)
      refine Kp_bd (fun r_5 h432 => ?_)
      refine Kp_jn (fun J : Int32 → _ => ∀ (x4_J72 : Int32), Kp (Sum.elim (fun q => hb q.2) (fun _ => True)) (J x4_J72)) ?_ ?_
      · intro x4_J72
        refine Kp_nm (fun x5_6 => ?_)
        exact ih _
      · intro J72 j433
        refine Kp_ite ?_ ?_
        · skip
          refine Kp_ite ?_ ?_
          · skip
            refine Kp_bd (fun r_8 h434 => ?_)
            exact Kp_some h_g0
          · skip
            refine Kp_nm (fun x4_7 => ?_)
            exact j433 _
        · skip
          exact j433 _
theorem K_f_X12_mark (g0 : Pic) (x1 : Int32) (x2 : Int32) (x3 : Int32) (h_g0 : hb g0) : Kp (fun r => hb r.2) (f_X12_mark g0 x1 x2 x3) := by
  unfold f_X12_mark
  refine Kp_bd (fun g0_1 h435 => ?_)
  have k436 : hb g0_1 := (K_f_X12_areBoth _ _ _ h_g0) _ h435
  refine Kp_ite ?_ ?_
  · skip
    refine Kp_lr (fun a h437 => ?_) (fun u439 h438 => ?_)
    · exact (K_f_X12_mark_L21 _ _ _ _ _ (0, 0) k436) _ h437
    · skip
      exact Kp_some k436
  · skip
    exact Kp_some k436
theorem K_f_X12_alike (g0 : Pic) (x1 : Int32) (x2 : Int32) (h_g0 : hb g0) : Kp (fun r => hb r.2) (f_X12_alike g0 x1 x2) := by
  unfold f_X12_alike
  refine Kp_bd (fun g0_1 h440 => ?_)
  have k441 : hb g0_1 := (K_f_X12_areBoth _ _ _ h_g0) _ h440
  refine Kp_jn (fun J : Int32 → _ => ∀ (s0_J28 : Int32), Kp (fun r => hb r.2) (J s0_J28)) ?_ ?_
  · intro s0_J28
    exact Kp_some k441
  · intro J28 j442
    refine Kp_ite ?_ ?_
    · skip
      refine Kp_bd (fun r_2 h443 => ?_)
      refine Kp_bd (fun r_3 h444 => ?_)
      exact j442 _
    · skip
      exact j442 _
theorem K_f_X12_reads (g0 : Pic) (x1 : Int32) (x2 : Int32) (h_g0 : hb g0) : Kp (fun r => hb r.2) (f_X12_reads g0 x1 x2) := by
  unfold f_X12_reads
  refine Kp_bd (fun g0_1 h445 => ?_)
  have k446 : hb g0_1 := (K_f_X12_areBoth _ _ _ h_g0) _ h445
  refine Kp_jn (fun J : Int32 → _ => ∀ (s0_J28 : Int32), Kp (fun r => hb r.2) (J s0_J28)) ?_ ?_
  · intro s0_J28
    exact Kp_some k446
  · intro J28 j447
    refine Kp_ite ?_ ?_
    · skip
      refine Kp_bd (fun r_2 h448 => ?_)
      refine Kp_bd (fun r_3 h449 => ?_)
      exact j447 _
    · skip
      exact j447 _
theorem K_f_X12_keepsUp (g0 : Pic) (x1 : Int32) (x2 : Int32) (h_g0 : hb g0) : Kp (fun r => hb r.2) (f_X12_keepsUp g0 x1 x2) := by
  unfold f_X12_keepsUp
  refine Kp_bd (fun g0_1 h450 => ?_)
  have k451 : hb g0_1 := (K_f_X12_areBoth _ _ _ h_g0) _ h450
  refine Kp_jn (fun J : Int32 → _ => ∀ (s0_J27 : Int32), Kp (fun r => hb r.2) (J s0_J27)) ?_ ?_
  · intro s0_J27
    refine Kp_gdb (fun h452 => ?_)
    exact Kp_some k451
  · intro J27 j453
    refine Kp_jn (fun J : Unit → _ => ∀ (u454 : Unit), Kp (fun r => hb r.2) (J u454)) ?_ ?_
    · intro u454
      exact j453 _
    · intro J26 j455
      refine Kp_ite ?_ ?_
      · skip
        refine Kp_bd (fun r_3 h456 => ?_)
        refine Kp_ite ?_ ?_
        · skip
          exact j455 _
        · skip
          exact j453 _
      · skip
        exact j455 _
theorem K_f_X12_remembers_L52 (n : Nat) (a : Int32 × Pic) (h_a : hb a.2) : Kp hb (f_X12_remembers_L52 n a) := by
  unfold f_X12_remembers_L52
  induction n generalizing a with
  | zero => exact fun r h => by cases h
  | succ n ih =>
    obtain ⟨x1, g0⟩ := a
    refine Kp_lp ?_
    refine Kp_ite ?_ ?_
    · skip
      exact Kp_some h_a
    · skip
      refine Kp_gdi ?_
      refine Kp_gdi ?_
      refine Kp_nmP (hb_pu (by decide) h_a) (fun g0_3 k457 => ?_)
      refine Kp_nm (fun x1_4 => ?_)
      exact ih _ k457
theorem K_f_X12_remembers_L11 (n : Nat) (a : Int32 × Pic) (h_a : hb a.2) : Kp hb (f_X12_remembers_L11 n a) := by
  unfold f_X12_remembers_L11
  induction n generalizing a with
  | zero => exact fun r h => by cases h
  | succ n ih =>
    obtain ⟨x1, g0⟩ := a
    refine Kp_lp ?_
    refine Kp_ite ?_ ?_
    · skip
      exact Kp_some h_a
    · skip
      refine Kp_gdi ?_
      refine Kp_gdi ?_
      refine Kp_nmP (hb_pu (by decide) h_a) (fun g0_9 k458 => ?_)
      refine Kp_nm (fun x1_10 => ?_)
      exact ih _ k458
theorem K_f_X12_remembers (g0 : Pic) (h_g0 : hb g0) : Kp hb (f_X12_remembers g0) := by
  unfold f_X12_remembers
  refine Kp_jn (fun J : Pic → _ => ∀ (g0_J50 : Pic), hb g0_J50 → Kp hb (J g0_J50)) ?_ ?_
  · intro g0_J50 k459
    refine Kp_bd (fun g0_5 h460 => ?_)
    have k461 : hb g0_5 := (K_f_X12_remembers_L52 _ (0, g0_J50) k459) _ h460
    refine Kp_nmP (hb_pu (by decide) k461) (fun g0_6 k462 => ?_)
    exact Kp_some k462
  · intro J50 j463
    refine Kp_ite ?_ ?_
    · skip
      refine Kp_bd (fun g0_11 h464 => ?_)
      have k465 : hb g0_11 := (K_f_X12_remembers_L11 _ (0, g0) h_g0) _ h464
      refine Kp_nmP (hb_pu (by decide) k465) (fun g0_12 k466 => ?_)
      exact j463 _ k466
    · skip
      exact j463 _ h_g0
theorem K_f_X12_sets (g0 : Pic) (x1 : Int32) (x2 : Int32) (h_g0 : hb g0) : Kp (fun r => hb r.2) (f_X12_sets g0 x1 x2) := by
  unfold f_X12_sets
  refine Kp_bd (fun g0_1 h467 => ?_)
  have k468 : hb g0_1 := (K_f_X12_remembers _ h_g0) _ h467
  refine Kp_gdi ?_
  refine Kp_nm (fun x3_3 => ?_)
  refine Kp_gdi ?_
  refine Kp_nmP (hb_pu (by decide) k468) (fun g0_5 k469 => ?_)
  exact Kp_some k469
theorem K_f_X12_speak (g0 : Pic) (x1 : Int32) (h_g0 : hb g0) : Kp (fun r => hb r.2) (f_X12_speak g0 x1) := by
  unfold f_X12_speak
  refine Kp_bd (fun r_1 h470 => ?_)
  refine Kp_jn (fun J : Int32 → _ => ∀ (s1_J29 : Int32), Kp (fun r => hb r.2) (J s1_J29)) ?_ ?_
  · intro s1_J29
    refine Kp_nmP (hb_pu (by decide) h_g0) (fun g0_2 k471 => ?_)
    refine Kp_ite ?_ ?_
    · skip
      refine Kp_bd2 (fun r_3 g0_3 h472 => ?_)
      have k473 : hb g0_3 := (K_f_X12_sets _ _ _ k471) _ h472
      refine Kp_nmP (hb_pu (by decide) k473) (fun g0_4 k474 => ?_)
      exact Kp_some k474
    · skip
      exact Kp_some k471
  · intro J29 j475
    refine Kp_ite ?_ ?_
    · skip
      exact j475 _
    · skip
      refine Kp_ite ?_ ?_
      · skip
        exact j475 _
      · skip
        exact j475 _
theorem K_f_X12_leave (g0 : Pic) (x1 : Int32) (x2 : Int32) (x3 : Int32) (h_g0 : hb g0) : Kp (fun r => hb r.2) (f_X12_leave g0 x1 x2 x3) := by
  unfold f_X12_leave
  refine Kp_bd (fun r_1 h476 => ?_)
  refine Kp_jn (fun J : Int32 → _ => ∀ (s1_J24 : Int32), Kp (fun r => hb r.2) (J s1_J24)) ?_ ?_
  · intro s1_J24
    refine Kp_nmP (hb_pu (by decide) h_g0) (fun g0_2 k477 => ?_)
    refine Kp_ite ?_ ?_
    · skip
      refine Kp_bd (fun r_3 h478 => ?_)
      refine Kp_jn (fun J : Int32 → Int32 → _ => ∀ (s1_J74 : Int32) (s2_J74 : Int32), Kp (fun r => hb r.2) (J s1_J74 s2_J74)) ?_ ?_
      · intro s1_J74 s2_J74
        refine Kp_bd2 (fun r_4 g0_4 h479 => ?_)
        have k480 : hb g0_4 := (K_f_X12_sets _ _ _ k477) _ h479
        refine Kp_bd (fun r_5 h481 => ?_)
        refine Kp_jn (fun J : Int32 → _ => ∀ (s0_J91 : Int32), Kp (fun r => hb r.2) (J s0_J91)) ?_ ?_
        · intro s0_J91
          refine Kp_gdb (fun h482 => ?_)
          exact Kp_some k480
        · intro J91 j483
          refine Kp_ite ?_ ?_
          · skip
            exact j483 _
          · skip
            exact j483 _
      · intro J74 j484
        refine Kp_ite ?_ ?_
        · skip
          exact j484 _ _
        · skip
          exact j484 _ _
    · skip
      exact Kp_some k477
  · intro J24 j485
    refine Kp_jn (fun J : Unit → _ => ∀ (u486 : Unit), Kp (fun r => hb r.2) (J u486)) ?_ ?_
    · intro u486
      exact j485 _
    · intro J19 j487
      refine Kp_ite ?_ ?_
      · skip
        exact j487 _
      · skip
        refine Kp_bd (fun r_7 h488 => ?_)
        refine Kp_ite ?_ ?_
        · skip
          exact j487 _
        · skip
          exact j485 _
theorem K_f_X12_learn (g0 : Pic) (x1 : Int32) (h_g0 : hb g0) : Kp (fun r => hb r.2) (f_X12_learn g0 x1) := by
  unfold f_X12_learn
  refine Kp_bd (fun r_1 h489 => ?_)
  refine Kp_jn (fun J : Int32 → _ => ∀ (s1_J14 : Int32), Kp (fun r => hb r.2) (J s1_J14)) ?_ ?_
  · intro s1_J14
    refine Kp_nmP (hb_pu (by decide) h_g0) (fun g0_2 k490 => ?_)
    refine Kp_ite ?_ ?_
    · skip
      refine Kp_bd (fun r_3 h491 => ?_)
      refine Kp_bd (fun r_4 h492 => ?_)
      refine Kp_bd2 (fun r_5 g0_5 h493 => ?_)
      have k494 : hb g0_5 := (K_f_X12_sets _ _ _ k490) _ h493
      refine Kp_bd (fun r_6 h495 => ?_)
      exact Kp_some k494
    · skip
      exact Kp_some k490
  · intro J14 j496
    refine Kp_ite ?_ ?_
    · skip
      exact j496 _
    · skip
      exact j496 _
theorem K_f_X12_rest (g0 : Pic) (x1 : Int32) (h_g0 : hb g0) : Kp (fun r => hb r.2) (f_X12_rest g0 x1) := by
  unfold f_X12_rest
  refine Kp_bd (fun r_1 h497 => ?_)
  refine Kp_jn (fun J : Int32 → _ => ∀ (s1_J14 : Int32), Kp (fun r => hb r.2) (J s1_J14)) ?_ ?_
  · intro s1_J14
    refine Kp_nmP (hb_pu (by decide) h_g0) (fun g0_2 k498 => ?_)
    refine Kp_jn (fun J : Int32 → Pic → _ => ∀ (s0_J41 : Int32) (g0_J41 : Pic), hb g0_J41 → Kp (fun r => hb r.2) (J s0_J41 g0_J41)) ?_ ?_
    · intro s0_J41 g0_J41 k499
      exact Kp_some k499
    · intro J41 j500
      refine Kp_ite ?_ ?_
      · skip
        refine Kp_bd2 (fun r_3 g0_3 h501 => ?_)
        have k502 : hb g0_3 := (K_f_X12_sets _ _ _ k498) _ h501
        exact j500 _ _ k502
      · skip
        exact j500 _ _ k498
  · intro J14 j503
    refine Kp_ite ?_ ?_
    · skip
      exact j503 _
    · skip
      exact j503 _
theorem K_f_X12_often (g0 : Pic) (x1 : Int32) (x2 : Int32) (h_g0 : hb g0) : Kp (fun r => hb r.2) (f_X12_often g0 x1 x2) := by
  unfold f_X12_often
  refine Kp_bd (fun r_1 h504 => ?_)
  refine Kp_jn (fun J : Int32 → _ => ∀ (s1_J28 : Int32), Kp (fun r => hb r.2) (J s1_J28)) ?_ ?_
  · intro s1_J28
    refine Kp_nmP (hb_pu (by decide) h_g0) (fun g0_2 k505 => ?_)
    refine Kp_jn (fun J : Int32 → Pic → _ => ∀ (s0_J57 : Int32) (g0_J57 : Pic), hb g0_J57 → Kp (fun r => hb r.2) (J s0_J57 g0_J57)) ?_ ?_
    · intro s0_J57 g0_J57 k506
      exact Kp_some k506
    · intro J57 j507
      refine Kp_ite ?_ ?_
      · skip
        refine Kp_bd2 (fun r_3 g0_3 h508 => ?_)
        have k509 : hb g0_3 := (K_f_X12_sets _ _ _ k505) _ h508
        exact j507 _ _ k509
      · skip
        exact j507 _ _ k505
  · intro J28 j510
    refine Kp_ite ?_ ?_
    · skip
      exact j510 _
    · skip
      refine Kp_bd (fun r_4 h511 => ?_)
      refine Kp_ite ?_ ?_
      · skip
        exact j510 _
      · skip
        exact j510 _
theorem K_f_X12_tempo (g0 : Pic) (x1 : Int32) (h_g0 : hb g0) : Kp (fun r => hb r.2) (f_X12_tempo g0 x1) := by
  unfold f_X12_tempo
  refine Kp_bd (fun r_1 h512 => ?_)
  refine Kp_jn (fun J : Int32 → _ => ∀ (s1_J16 : Int32), Kp (fun r => hb r.2) (J s1_J16)) ?_ ?_
  · intro s1_J16
    refine Kp_nmP (hb_pu (by decide) h_g0) (fun g0_2 k513 => ?_)
    refine Kp_jn (fun J : Int32 → Pic → _ => ∀ (s0_J37 : Int32) (g0_J37 : Pic), hb g0_J37 → Kp (fun r => hb r.2) (J s0_J37 g0_J37)) ?_ ?_
    · intro s0_J37 g0_J37 k514
      exact Kp_some k514
    · intro J37 j515
      refine Kp_ite ?_ ?_
      · skip
        refine Kp_bd2 (fun r_3 g0_3 h516 => ?_)
        have k517 : hb g0_3 := (K_f_X12_sets _ _ _ k513) _ h516
        exact j515 _ _ k517
      · skip
        exact j515 _ _ k513
  · intro J16 j518
    refine Kp_ite ?_ ?_
    · skip
      exact j518 _
    · skip
      exact j518 _
theorem K_f_X12_speed (g0 : Pic) (x1 : Int32) (x2 : Int32) (h_g0 : hb g0) : Kp (fun r => hb r.2) (f_X12_speed g0 x1 x2) := by
  unfold f_X12_speed
  refine Kp_bd (fun r_1 h519 => ?_)
  refine Kp_jn (fun J : Int32 → _ => ∀ (s1_J28 : Int32), Kp (fun r => hb r.2) (J s1_J28)) ?_ ?_
  · intro s1_J28
    refine Kp_nmP (hb_pu (by decide) h_g0) (fun g0_2 k520 => ?_)
    refine Kp_jn (fun J : Int32 → Pic → _ => ∀ (s0_J55 : Int32) (g0_J55 : Pic), hb g0_J55 → Kp (fun r => hb r.2) (J s0_J55 g0_J55)) ?_ ?_
    · intro s0_J55 g0_J55 k521
      exact Kp_some k521
    · intro J55 j522
      refine Kp_ite ?_ ?_
      · skip
        refine Kp_bd2 (fun r_3 g0_3 h523 => ?_)
        have k524 : hb g0_3 := (K_f_X12_sets _ _ _ k520) _ h523
        exact j522 _ _ k524
      · skip
        exact j522 _ _ k520
  · intro J28 j525
    refine Kp_ite ?_ ?_
    · skip
      exact j525 _
    · skip
      refine Kp_bd (fun r_4 h526 => ?_)
      refine Kp_ite ?_ ?_
      · skip
        exact j525 _
      · skip
        exact j525 _
theorem K_f_X12_keep (g0 : Pic) (h_g0 : hb g0) : Kp (fun r => hb r.2) (f_X12_keep g0) := by
  unfold f_X12_keep
  refine Kp_nmP (hb_pu (by decide) h_g0) (fun g0_1 k527 => ?_)
  refine Kp_bd (fun x1_6 h528 => ?_)
  exact Kp_some k527
theorem K_f_X12_leaves (g0 : Pic) (x1 : Int32) (x2 : Int32) (h_g0 : hb g0) : Kp (fun r => hb r.2) (f_X12_leaves g0 x1 x2) := by
  unfold f_X12_leaves
  refine Kp_bd (fun r_1 h529 => ?_)
  refine Kp_jn (fun J : Int32 → _ => ∀ (s1_J17 : Int32), Kp (fun r => hb r.2) (J s1_J17)) ?_ ?_
  · intro s1_J17
    refine Kp_nmP (hb_pu (by decide) h_g0) (fun g0_2 k530 => ?_)
    refine Kp_ite ?_ ?_
    · skip
      refine Kp_bd (fun q532 h531 => ?_)
      obtain ⟨x3_6, x4_6⟩ := q532
      refine Kp_jn (fun J : Int32 → _ => ∀ (s0_J96 : Int32), Kp (fun r => hb r.2) (J s0_J96)) ?_ ?_
      · intro s0_J96
        exact Kp_some k530
      · intro J96 j533
        refine Kp_ite ?_ ?_
        · skip
          exact j533 _
        · skip
          exact j533 _
    · skip
      exact Kp_some k530
  · intro J17 j534
    refine Kp_ite ?_ ?_
    · skip
      exact j534 _
    · skip
      exact j534 _
theorem K_f_X12_hears_L119 (x1 : Int32) (x2 : Int32) (x3 : Int32) (x4 : Int32) (n : Nat) (a : Int32 × Pic) (h_a : hb a.2) : Kp hb (f_X12_hears_L119 x1 x2 x3 x4 n a) := by
  unfold f_X12_hears_L119
  induction n generalizing a with
  | zero => exact fun r h => by cases h
  | succ n ih =>
    obtain ⟨x5, g0⟩ := a
    refine Kp_lp ?_
    refine Kp_ite ?_ ?_
    · skip
      exact Kp_some h_a
    · skip
      refine Kp_gdi ?_
      refine Kp_gdi ?_
      refine Kp_bd (fun r_12 h535 => ?_)
      refine Kp_gdi ?_
      refine Kp_jn (fun J : Int32 → Int32 → Int32 → _ => ∀ (s1_J163 : Int32) (s2_J163 : Int32) (s3_J163 : Int32), Kp hb (J s1_J163 s2_J163 s3_J163)) ?_ ?_
      · intro s1_J163 s2_J163 s3_J163
        refine Kp_gdi ?_
        refine Kp_nmP (hb_pu (by decide) h_a) (fun g0_15 k536 => ?_)
        refine Kp_nm (fun x5_16 => ?_)
        exact ih _ k536
      · intro J163 j537
        refine Kp_ite ?_ ?_
        · skip
          exact j537 _ _ _
        · skip
          exact j537 _ _ _
theorem K_f_X12_hears_L93 (x1 : Int32) (x2 : Int32) (n : Nat) (a : Int32 × Int32 × Pic) (h_a : hb a.2.2) : Kp (fun r => hb r.2) (f_X12_hears_L93 x1 x2 n a) := by
  unfold f_X12_hears_L93
  induction n generalizing a with
  | zero => exact fun r h => by cases h
  | succ n ih =>
    obtain ⟨x3, x4, g0⟩ := a
    refine Kp_lp ?_
    refine Kp_ite ?_ ?_
    · skip
      exact Kp_some h_a
    · skip
      refine Kp_ite ?_ ?_
      · skip
        exact Kp_some h_a
      · skip
        refine Kp_gdi ?_
        refine Kp_nmP (hb_pu (by decide) h_a) (fun g0_9 k538 => ?_)
        refine Kp_bd (fun g0_17 h539 => ?_)
        have k540 : hb g0_17 := (K_f_X12_hears_L119 _ _ _ _ _ (0, g0_9) k538) _ h539
        refine Kp_gdi ?_
        refine Kp_jn (fun J : Int32 → Int32 → _ => ∀ (s0_J191 : Int32) (s1_J191 : Int32), Kp (fun r => hb r.2) (J s0_J191 s1_J191)) ?_ ?_
        · intro s0_J191 s1_J191
          refine Kp_nm (fun x3_19 => ?_)
          refine Kp_nm (fun x4_20 => ?_)
          exact ih _ k540
        · intro J191 j541
          refine Kp_ite ?_ ?_
          · skip
            exact j541 _ _
          · skip
            exact j541 _ _
theorem K_f_X12_hears (g0 : Pic) (h_g0 : hb g0) : Kp (fun r => hb r.2) (f_X12_hears g0) := by
  unfold f_X12_hears
  refine Kp_nm (fun x1_1 => ?_)
  refine Kp_nmP (hb_pu (by decide) h_g0) (fun g0_2 k542 => ?_)
  refine Kp_jn (fun J : Int32 → _ => ∀ (s0_J27 : Int32), Kp (fun r => hb r.2) (J s0_J27)) ?_ ?_
  · intro s0_J27
    refine Kp_bd (fun x2_6 h543 => ?_)
    refine Kp_jn (fun J : Int32 → _ => ∀ (s1_J85 : Int32), Kp (fun r => hb r.2) (J s1_J85)) ?_ ?_
    · intro s1_J85
      refine Kp_nmP (hb_pu (by decide) k542) (fun g0_7 k544 => ?_)
      refine Kp_bd (fun q546 h545 => ?_)
      have k547 : hb q546.2 := (K_f_X12_hears_L93 _ _ _ (0, 0, g0_7) k544) _ h545
      obtain ⟨x3_21, g0_21⟩ := q546
      exact Kp_some k547
    · intro J85 j548
      refine Kp_ite ?_ ?_
      · skip
        exact j548 _
      · skip
        exact j548 _
  · intro J27 j549
    refine Kp_jn (fun J : Unit → _ => ∀ (u550 : Unit), Kp (fun r => hb r.2) (J u550)) ?_ ?_
    · intro u550
      exact j549 _
    · intro J26 j551
      refine Kp_ite ?_ ?_
      · skip
        refine Kp_ite ?_ ?_
        · skip
          exact j551 _
        · skip
          exact j549 _
      · skip
        exact j551 _
theorem K_f_X12_heard (g0 : Pic) (h_g0 : hb g0) : Kp (fun r => hb r.2) (f_X12_heard g0) := by
  unfold f_X12_heard
  refine Kp_bd2 (fun r_1 g0_1 h552 => ?_)
  have k553 : hb g0_1 := (K_f_X12_hears _ h_g0) _ h552
  refine Kp_jn (fun J : Int32 → _ => ∀ (s0_J17 : Int32), Kp (fun r => hb r.2) (J s0_J17)) ?_ ?_
  · intro s0_J17
    exact Kp_some k553
  · intro J17 j554
    refine Kp_ite ?_ ?_
    · skip
      exact j554 _
    · skip
      exact j554 _
theorem K_f_X12_likely (g0 : Pic) (h_g0 : hb g0) : Kp (fun r => hb r.2) (f_X12_likely g0) := by
  unfold f_X12_likely
  refine Kp_bd2 (fun r_1 g0_1 h555 => ?_)
  have k556 : hb g0_1 := (K_f_X12_hears _ h_g0) _ h555
  refine Kp_ite ?_ ?_
  · skip
    refine Kp_bd (fun x2_10 h557 => ?_)
    exact Kp_some k556
  · skip
    exact Kp_some k556
theorem K_f_X12_look_L41 (x1 : Int32) (x2 : Int32) (x3 : Int32) (x4 : Int32) (n : Nat) (a : Int32 × Pic) (h_a : hb a.2) : Kp hb (f_X12_look_L41 x1 x2 x3 x4 n a) := by
  unfold f_X12_look_L41
  induction n generalizing a with
  | zero => exact fun r h => by cases h
  | succ n ih =>
    obtain ⟨x5, g0⟩ := a
    refine Kp_lp ?_
    refine Kp_ite ?_ ?_
    · skip
      exact Kp_some h_a
    · skip
      refine Kp_gdi ?_
      refine Kp_nmP (hb_pu (by decide) h_a) (fun g0_4 k558 => ?_)
      refine Kp_nm (fun x5_5 => ?_)
      exact ih _ k558
theorem K_f_X12_look_L68 (x1 : Int32) (x2 : Int32) (x3 : Int32) (x4 : Int32) (n : Nat) (a : Int32 × Int32 × Pic) (h_a : hb a.2.2) : Kp (fun r => hb r.2) (f_X12_look_L68 x1 x2 x3 x4 n a) := by
  unfold f_X12_look_L68
  induction n generalizing a with
  | zero => exact fun r h => by cases h
  | succ n ih =>
    obtain ⟨x5, x6, g0⟩ := a
    refine Kp_lp ?_
    refine Kp_ite ?_ ?_
    · skip
      exact Kp_some h_a
    · skip
      refine Kp_bd (fun r_7 h559 => ?_)
      refine Kp_jn (fun J : Int32 → Pic → _ => ∀ (x5_J128 : Int32) (g0_J128 : Pic), hb g0_J128 → Kp (fun r => hb r.2) (J x5_J128 g0_J128)) ?_ ?_
      · intro x5_J128 g0_J128 k560
        refine Kp_nm (fun x6_8 => ?_)
        exact ih _ k560
      · intro J128 j561
        refine Kp_ite ?_ ?_
        · skip
          exact j561 _ _ h_a
        · skip
          refine Kp_bd (fun r_9 h562 => ?_)
          refine Kp_nm (fun x7_10 => ?_)
          refine Kp_gdi ?_
          refine Kp_gdi ?_
          refine Kp_nmP (hb_pu (by decide) h_a) (fun g0_13 k563 => ?_)
          refine Kp_gdi ?_
          refine Kp_bd (fun r_15 h564 => ?_)
          exact j561 _ _ k563
theorem K_f_X12_look_L23 (x1 : Int32) (n : Nat) (a : Int32 × Int32 × Int32 × Pic) (h_a : hb a.2.2.2) : Kp (fun r => hb r.2) (f_X12_look_L23 x1 n a) := by
  unfold f_X12_look_L23
  induction n generalizing a with
  | zero => exact fun r h => by cases h
  | succ n ih =>
    obtain ⟨x2, x3, x4, g0⟩ := a
    refine Kp_lp ?_
    refine Kp_ite ?_ ?_
    · skip
      exact Kp_some h_a
    · skip
      refine Kp_bd (fun r_2 h565 => ?_)
      refine Kp_ite ?_ ?_
      · skip
        exact Kp_some h_a
      · skip
        refine Kp_bd (fun g0_6 h566 => ?_)
        have k567 : hb g0_6 := (K_f_X12_look_L41 _ _ _ _ _ (0, g0) h_a) _ h566
        refine Kp_bd (fun q569 h568 => ?_)
        have k570 : hb q569.2 := (K_f_X12_look_L68 _ _ _ _ _ (0, 0, g0_6) k567) _ h568
        obtain ⟨x5_16, g0_16⟩ := q569
        refine Kp_jn (fun J : Int32 → Int32 → _ => ∀ (x2_J149 : Int32) (x3_J149 : Int32), Kp (fun r => hb r.2) (J x2_J149 x3_J149)) ?_ ?_
        · intro x2_J149 x3_J149
          refine Kp_nm (fun x4_17 => ?_)
          exact ih _ k570
        · intro J149 j571
          refine Kp_ite ?_ ?_
          · skip
            exact j571 _ _
          · skip
            exact j571 _ _
theorem K_f_X12_look (g0 : Pic) (h_g0 : hb g0) : Kp (fun r => hb r.2) (f_X12_look g0) := by
  unfold f_X12_look
  refine Kp_bd2 (fun r_1 g0_1 h572 => ?_)
  have k573 : hb g0_1 := (K_f_X12_hears _ h_g0) _ h572
  refine Kp_ite ?_ ?_
  · skip
    refine Kp_bd (fun q575 h574 => ?_)
    have k576 : hb q575.2 := (K_f_X12_look_L23 _ _ ((-1), 2000000000, 0, g0_1) k573) _ h574
    obtain ⟨x2_18, g0_18⟩ := q575
    exact Kp_some k576
  · skip
    exact Kp_some k573
theorem K_f_X12_strokeRows (g0 : Pic) (h_g0 : hb g0) : Kp (fun r => hb r.2) (f_X12_strokeRows g0) := by
  unfold f_X12_strokeRows
  refine Kp_nm (fun x1_1 => ?_)
  refine Kp_nmP (hb_pu (by decide) h_g0) (fun g0_2 k577 => ?_)
  refine Kp_jn (fun J : Int32 → _ => ∀ (s0_J27 : Int32), Kp (fun r => hb r.2) (J s0_J27)) ?_ ?_
  · intro s0_J27
    refine Kp_bd (fun x2_6 h578 => ?_)
    refine Kp_jn (fun J : Int32 → _ => ∀ (s1_J89 : Int32), Kp (fun r => hb r.2) (J s1_J89)) ?_ ?_
    · intro s1_J89
      refine Kp_nmP (hb_pu (by decide) k577) (fun g0_7 k579 => ?_)
      exact Kp_some k579
    · intro J89 j580
      refine Kp_ite ?_ ?_
      · skip
        exact j580 _
      · skip
        exact j580 _
  · intro J27 j581
    refine Kp_jn (fun J : Unit → _ => ∀ (u582 : Unit), Kp (fun r => hb r.2) (J u582)) ?_ ?_
    · intro u582
      exact j581 _
    · intro J26 j583
      refine Kp_ite ?_ ?_
      · skip
        refine Kp_ite ?_ ?_
        · skip
          exact j583 _
        · skip
          exact j581 _
      · skip
        exact j583 _
theorem K_f_X12_hands_L4 (x1 : Int32) (n : Nat) (a : Int32 × Int32 × Pic) (h_a : hb a.2.2) : Kp (fun r => hb r.2) (f_X12_hands_L4 x1 n a) := by
  unfold f_X12_hands_L4
  induction n generalizing a with
  | zero => exact fun r h => by cases h
  | succ n ih =>
    obtain ⟨x2, x3, g0⟩ := a
    refine Kp_lp ?_
    refine Kp_ite ?_ ?_
    · skip
      exact Kp_some h_a
    · skip
      refine Kp_bd (fun r_1 h584 => ?_)
      refine Kp_gdb (fun h585 => ?_)
      refine Kp_gdi ?_
      refine Kp_nmP (hb_pu (by decide) h_a) (fun g0_4 k586 => ?_)
      refine Kp_gdi ?_
      refine Kp_jn (fun J : Int32 → Int32 → _ => ∀ (s0_J38 : Int32) (s1_J38 : Int32), Kp (fun r => hb r.2) (J s0_J38 s1_J38)) ?_ ?_
      · intro s0_J38 s1_J38
        refine Kp_nm (fun x2_6 => ?_)
        refine Kp_nm (fun x3_7 => ?_)
        exact ih _ k586
      · intro J38 j587
        refine Kp_ite ?_ ?_
        · skip
          exact j587 _ _
        · skip
          exact j587 _ _
theorem K_f_X12_hands (g0 : Pic) (x1 : Int32) (h_g0 : hb g0) : Kp (fun r => hb r.2) (f_X12_hands g0 x1) := by
  unfold f_X12_hands
  refine Kp_bd (fun q589 h588 => ?_)
  have k590 : hb q589.2 := (K_f_X12_hands_L4 _ _ (0, 0, g0) h_g0) _ h588
  obtain ⟨x2_8, g0_8⟩ := q589
  exact Kp_some k590
theorem K_f_X12_hand_L29 (g0 : Pic) (n : Nat) (a : Int32) (h_g0 : hb g0) : Kp (Sum.elim (fun q => hb q.2) (fun _ => True)) (f_X12_hand_L29 g0 n a) := by
  unfold f_X12_hand_L29
  induction n generalizing a with
  | zero => exact fun r h => by cases h
  | succ n ih =>
    refine Kp_lp ?_
    have x4_ := a
    generalize a = x4
    refine Kp_ite ?_ ?_
    · skip
      exact Kp_some trivial
    · skip
      refine Kp_gdi ?_
      refine Kp_ite ?_ ?_
      · skip
        refine Kp_nm (fun x4_4 => ?_)
        exact ih _
      · skip
        exact Kp_some h_g0
theorem K_f_X12_hand (g0 : Pic) (x1 : Int32) (h_g0 : hb g0) : Kp (fun r => hb r.2) (f_X12_hand g0 x1) := by
  unfold f_X12_hand
  refine Kp_bd2 (fun r_1 g0_1 h591 => ?_)
  have k592 : hb g0_1 := (K_f_X12_strokeRows _ h_g0) _ h591
  refine Kp_ite ?_ ?_
  · skip
    refine Kp_bd2 (fun r_2 g0_2 h593 => ?_)
    have k594 : hb g0_2 := (K_f_X12_hands _ _ k592) _ h593
    refine Kp_ite ?_ ?_
    · skip
      exact Kp_some k594
    · skip
      refine Kp_lr (fun a h595 => ?_) (fun u597 h596 => ?_)
      · exact (K_f_X12_hand_L29 _ _ (0) k594) _ h595
      · skip
        exact Kp_some k594
  · skip
    exact Kp_some k592
theorem K_f_X12_ask_L49 (x2 : Int32) (x3 : Int32) (x4 : Int32) (x5 : Int32) (n : Nat) (a : Int32 × Pic) (h_a : hb a.2) : Kp hb (f_X12_ask_L49 x2 x3 x4 x5 n a) := by
  unfold f_X12_ask_L49
  induction n generalizing a with
  | zero => exact fun r h => by cases h
  | succ n ih =>
    obtain ⟨x6, g0⟩ := a
    refine Kp_lp ?_
    refine Kp_ite ?_ ?_
    · skip
      exact Kp_some h_a
    · skip
      refine Kp_gdi ?_
      refine Kp_nmP (hb_pu (by decide) h_a) (fun g0_4 k598 => ?_)
      refine Kp_nm (fun x6_5 => ?_)
      exact ih _ k598
theorem K_f_X12_ask_L76 (x2 : Int32) (x3 : Int32) (x4 : Int32) (x5 : Int32) (n : Nat) (a : Int32 × Int32 × Pic) (h_a : hb a.2.2) : Kp (fun r => hb r.2) (f_X12_ask_L76 x2 x3 x4 x5 n a) := by
  unfold f_X12_ask_L76
  induction n generalizing a with
  | zero => exact fun r h => by cases h
  | succ n ih =>
    obtain ⟨x6, x7, g0⟩ := a
    refine Kp_lp ?_
    refine Kp_ite ?_ ?_
    · skip
      exact Kp_some h_a
    · skip
      refine Kp_gdi ?_
      refine Kp_jn (fun J : Int32 → Pic → _ => ∀ (x6_J132 : Int32) (g0_J132 : Pic), hb g0_J132 → Kp (fun r => hb r.2) (J x6_J132 g0_J132)) ?_ ?_
      · intro x6_J132 g0_J132 k599
        refine Kp_nm (fun x7_8 => ?_)
        exact ih _ k599
      · intro J132 j600
        refine Kp_ite ?_ ?_
        · skip
          exact j600 _ _ h_a
        · skip
          refine Kp_bd (fun r_9 h601 => ?_)
          refine Kp_gdi ?_
          refine Kp_gdi ?_
          refine Kp_nmP (hb_pu (by decide) h_a) (fun g0_12 k602 => ?_)
          refine Kp_gdi ?_
          refine Kp_bd (fun r_14 h603 => ?_)
          exact j600 _ _ k602
theorem K_f_X12_ask_L30 (x2 : Int32) (n : Nat) (a : Int32 × Int32 × Int32 × Pic) (h_a : hb a.2.2.2) : Kp (fun r => hb r.2) (f_X12_ask_L30 x2 n a) := by
  unfold f_X12_ask_L30
  induction n generalizing a with
  | zero => exact fun r h => by cases h
  | succ n ih =>
    obtain ⟨x3, x4, x5, g0⟩ := a
    refine Kp_lp ?_
    refine Kp_ite ?_ ?_
    · skip
      exact Kp_some h_a
    · skip
      refine Kp_ite ?_ ?_
      · skip
        exact Kp_some h_a
      · skip
        refine Kp_bd (fun g0_6 h604 => ?_)
        have k605 : hb g0_6 := (K_f_X12_ask_L49 _ _ _ _ _ (0, g0) h_a) _ h604
        refine Kp_bd (fun q607 h606 => ?_)
        have k608 : hb q607.2 := (K_f_X12_ask_L76 _ _ _ _ _ (0, 0, g0_6) k605) _ h606
        obtain ⟨x6_15, g0_15⟩ := q607
        refine Kp_jn (fun J : Int32 → Int32 → _ => ∀ (x3_J155 : Int32) (x4_J155 : Int32), Kp (fun r => hb r.2) (J x3_J155 x4_J155)) ?_ ?_
        · intro x3_J155 x4_J155
          refine Kp_nm (fun x5_16 => ?_)
          exact ih _ k608
        · intro J155 j609
          refine Kp_ite ?_ ?_
          · skip
            exact j609 _ _
          · skip
            exact j609 _ _
theorem K_f_X12_ask (g0 : Pic) (h_g0 : hb g0) : Kp (fun r => hb r.2) (f_X12_ask g0) := by
  unfold f_X12_ask
  refine Kp_bd2 (fun r_1 g0_1 h610 => ?_)
  have k611 : hb g0_1 := (K_f_X12_strokeRows _ h_g0) _ h610
  refine Kp_ite ?_ ?_
  · skip
    refine Kp_bd2 (fun r_2 g0_2 h612 => ?_)
    have k613 : hb g0_2 := (K_f_X12_hands _ _ k611) _ h612
    refine Kp_bd (fun q615 h614 => ?_)
    have k616 : hb q615.2 := (K_f_X12_ask_L30 _ _ ((-1), 2000000000, 0, g0_2) k613) _ h614
    obtain ⟨x3_17, g0_17⟩ := q615
    exact Kp_some k616
  · skip
    exact Kp_some k611
theorem K_f_X12_whose (g0 : Pic) (h_g0 : hb g0) : Kp (fun r => hb r.2) (f_X12_whose g0) := by
  unfold f_X12_whose
  refine Kp_bd2 (fun r_1 g0_1 h617 => ?_)
  have k618 : hb g0_1 := (K_f_X12_strokeRows _ h_g0) _ h617
  refine Kp_ite ?_ ?_
  · skip
    refine Kp_bd (fun x2_6 h619 => ?_)
    exact Kp_some k618
  · skip
    exact Kp_some k618
theorem K_f_X12_fluent (g0 : Pic) (h_g0 : hb g0) : Kp (fun r => hb r.2) (f_X12_fluent g0) := by
  unfold f_X12_fluent
  refine Kp_nmP (hb_pu (by decide) h_g0) (fun g0_1 k620 => ?_)
  refine Kp_bd (fun x1_5 h621 => ?_)
  exact Kp_some k620
theorem K_f_X12_better (g0 : Pic) (x1 : Int32) (x2 : Int32) (h_g0 : hb g0) : Kp (fun r => hb r.2) (f_X12_better g0 x1 x2) := by
  unfold f_X12_better
  refine Kp_bd (fun r_1 h622 => ?_)
  refine Kp_jn (fun J : Int32 → _ => ∀ (s1_J31 : Int32), Kp (fun r => hb r.2) (J s1_J31)) ?_ ?_
  · intro s1_J31
    refine Kp_nmP (hb_pu (by decide) h_g0) (fun g0_2 k623 => ?_)
    refine Kp_jn (fun J : Int32 → _ => ∀ (s0_J59 : Int32), Kp (fun r => hb r.2) (J s0_J59)) ?_ ?_
    · intro s0_J59
      refine Kp_gdb (fun h624 => ?_)
      exact Kp_some k623
    · intro J59 j625
      refine Kp_jn (fun J : Unit → _ => ∀ (u626 : Unit), Kp (fun r => hb r.2) (J u626)) ?_ ?_
      · intro u626
        exact j625 _
      · intro J58 j627
        refine Kp_ite ?_ ?_
        · skip
          refine Kp_bd (fun r_4 h628 => ?_)
          refine Kp_bd (fun r_5 h629 => ?_)
          refine Kp_ite ?_ ?_
          · skip
            exact j627 _
          · skip
            exact j625 _
        · skip
          exact j627 _
  · intro J31 j630
    refine Kp_jn (fun J : Unit → _ => ∀ (u631 : Unit), Kp (fun r => hb r.2) (J u631)) ?_ ?_
    · intro u631
      exact j630 _
    · intro J17 j632
      refine Kp_ite ?_ ?_
      · skip
        exact j632 _
      · skip
        refine Kp_bd (fun r_6 h633 => ?_)
        refine Kp_ite ?_ ?_
        · skip
          exact j632 _
        · skip
          refine Kp_ite ?_ ?_
          · skip
            exact j630 _
          · skip
            exact j630 _
theorem K_f_X12_areWords (g0 : Pic) (x1 : Int32) (x2 : Int32) (h_g0 : hb g0) : Kp hb (f_X12_areWords g0 x1 x2) := by
  unfold f_X12_areWords
  refine Kp_bd (fun r_1 h634 => ?_)
  refine Kp_jn (fun J : Int32 → _ => ∀ (s1_J22 : Int32), Kp hb (J s1_J22)) ?_ ?_
  · intro s1_J22
    refine Kp_nmP (hb_pu (by decide) h_g0) (fun g0_2 k635 => ?_)
    exact Kp_some k635
  · intro J22 j636
    refine Kp_jn (fun J : Unit → _ => ∀ (u637 : Unit), Kp hb (J u637)) ?_ ?_
    · intro u637
      exact j636 _
    · intro J17 j638
      refine Kp_ite ?_ ?_
      · skip
        exact j638 _
      · skip
        refine Kp_bd (fun r_3 h639 => ?_)
        refine Kp_ite ?_ ?_
        · skip
          exact j638 _
        · skip
          exact j636 _
theorem K_f_X12_change (g0 : Pic) (x1 : Int32) (x2 : Int32) (h_g0 : hb g0) : Kp (fun r => hb r.2) (f_X12_change g0 x1 x2) := by
  unfold f_X12_change
  refine Kp_bd (fun g0_1 h640 => ?_)
  have k641 : hb g0_1 := (K_f_X12_areWords _ _ _ h_g0) _ h640
  refine Kp_jn (fun J : Int32 → Pic → _ => ∀ (s0_J23 : Int32) (g0_J23 : Pic), hb g0_J23 → Kp (fun r => hb r.2) (J s0_J23 g0_J23)) ?_ ?_
  · intro s0_J23 g0_J23 k642
    exact Kp_some k642
  · intro J23 j643
    refine Kp_ite ?_ ?_
    · skip
      refine Kp_bd2 (fun r_2 g0_2 h644 => ?_)
      have k645 : hb g0_2 := (K_f_X12_changeOf _ _ _ k641) _ h644
      exact j643 _ _ k645
    · skip
      exact j643 _ _ k641
theorem K_f_X12_chain_L60 (x2 : Int32) (x3 : Int32) (x4 : Int32) (x6 : Int32) (n : Nat) (a : Int32 × Int32 × Pic) (h_a : hb a.2.2) : Kp (fun r => hb r.2) (f_X12_chain_L60 x2 x3 x4 x6 n a) := by
  unfold f_X12_chain_L60
  induction n generalizing a with
  | zero => exact fun r h => by cases h
  | succ n ih =>
    obtain ⟨x5, x7, g0⟩ := a
    refine Kp_lp ?_
    refine Kp_ite ?_ ?_
    · skip
      exact Kp_some h_a
    · skip
      refine Kp_bd (fun r_4 h646 => ?_)
      refine Kp_jn (fun J : Int32 → Pic → _ => ∀ (x5_J101 : Int32) (g0_J101 : Pic), hb g0_J101 → Kp (fun r => hb r.2) (J x5_J101 g0_J101)) ?_ ?_
      · intro x5_J101 g0_J101 k647
        refine Kp_nm (fun x7_5 => ?_)
        exact ih _ k647
      · intro J101 j648
        refine Kp_ite ?_ ?_
        · skip
          exact j648 _ _ h_a
        · skip
          refine Kp_bd2 (fun r_6 g0_6 h649 => ?_)
          have k650 : hb g0_6 := (K_f_X12_changeOf _ _ _ h_a) _ h649
          refine Kp_ite ?_ ?_
          · skip
            exact j648 _ _ k650
          · skip
            refine Kp_nm (fun x5_7 => ?_)
            exact j648 _ _ k650
theorem K_f_X12_chain_L46 (x2 : Int32) (x3 : Int32) (x4 : Int32) (n : Nat) (a : Int32 × Int32 × Pic) (h_a : hb a.2.2) : Kp (fun r => hb r.2) (f_X12_chain_L46 x2 x3 x4 n a) := by
  unfold f_X12_chain_L46
  induction n generalizing a with
  | zero => exact fun r h => by cases h
  | succ n ih =>
    obtain ⟨x5, x6, g0⟩ := a
    refine Kp_lp ?_
    refine Kp_ite ?_ ?_
    · skip
      exact Kp_some h_a
    · skip
      refine Kp_bd (fun q652 h651 => ?_)
      have k653 : hb q652.2 := (K_f_X12_chain_L60 _ _ _ _ _ (x5, 0, g0) h_a) _ h651
      obtain ⟨x5_8, g0_8⟩ := q652
      refine Kp_nm (fun x6_9 => ?_)
      exact ih _ k653
theorem K_f_X12_chain_L22 (x2 : Int32) (n : Nat) (a : Int32 × Int32 × Pic) (h_a : hb a.2.2) : Kp (Sum.elim (fun q => hb q.2) (fun q => hb q)) (f_X12_chain_L22 x2 n a) := by
  unfold f_X12_chain_L22
  induction n generalizing a with
  | zero => exact fun r h => by cases h
  | succ n ih =>
    obtain ⟨x3, x4, g0⟩ := a
    refine Kp_lp ?_
    refine Kp_ite ?_ ?_
    · skip
      exact Kp_some h_a
    · skip
      refine Kp_bd (fun r_3 h654 => ?_)
      refine Kp_ite ?_ ?_
      · skip
        refine Kp_bd (fun q656 h655 => ?_)
        have k657 : hb q656.2 := (K_f_X12_chain_L46 _ _ _ _ (x3, 0, g0) h_a) _ h655
        obtain ⟨x5_10, g0_10⟩ := q656
        refine Kp_nm (fun x4_11 => ?_)
        exact ih _ k657
      · skip
        exact Kp_some h_a
theorem K_f_X12_chain (g0 : Pic) (x1 : Int32) (x2 : Int32) (h_g0 : hb g0) : Kp (fun r => hb r.2) (f_X12_chain g0 x1 x2) := by
  unfold f_X12_chain
  refine Kp_bd (fun g0_1 h658 => ?_)
  have k659 : hb g0_1 := (K_f_X12_areWords _ _ _ h_g0) _ h658
  refine Kp_ite ?_ ?_
  · skip
    refine Kp_nm (fun x3_2 => ?_)
    refine Kp_lr (fun a h660 => ?_) (fun g0_12 h661 => ?_)
    · exact (K_f_X12_chain_L22 _ _ (x3_2, 0, g0_1) k659) _ h660
    · skip
      have k662 : hb g0_12 := (K_f_X12_chain_L22 _ _ (x3_2, 0, g0_1) k659) _ h661
      exact Kp_some k662
  · skip
    exact Kp_some k659
theorem K_f_X12_echo (g0 : Pic) (h_g0 : hb g0) : Kp (fun r => hb r.2) (f_X12_echo g0) := by
  unfold f_X12_echo
  refine Kp_nmP (hb_pu (by decide) h_g0) (fun g0_1 k663 => ?_)
  refine Kp_bd (fun x1_9 h664 => ?_)
  exact Kp_some k663
theorem K_f_X12_pages_L42 (x1 : Int32) (x2 : Int32) (n : Nat) (a : Int32 × Pic) (h_a : hb a.2) : Kp hb (f_X12_pages_L42 x1 x2 n a) := by
  unfold f_X12_pages_L42
  induction n generalizing a with
  | zero => exact fun r h => by cases h
  | succ n ih =>
    obtain ⟨x3, g0⟩ := a
    refine Kp_lp ?_
    refine Kp_ite ?_ ?_
    · skip
      exact Kp_some h_a
    · skip
      refine Kp_gdi ?_
      refine Kp_nmP (hb_pu (by decide) h_a) (fun g0_4 k665 => ?_)
      refine Kp_nm (fun x3_5 => ?_)
      exact ih _ k665
theorem K_f_X12_pages_L62 (x1 : Int32) (x2 : Int32) (n : Nat) (a : Int32 × Pic) (h_a : hb a.2) : Kp hb (f_X12_pages_L62 x1 x2 n a) := by
  unfold f_X12_pages_L62
  induction n generalizing a with
  | zero => exact fun r h => by cases h
  | succ n ih =>
    obtain ⟨x3, g0⟩ := a
    refine Kp_lp ?_
    refine Kp_ite ?_ ?_
    · skip
      exact Kp_some h_a
    · skip
      refine Kp_bd (fun x4_14 h666 => ?_)
      refine Kp_gdi ?_
      refine Kp_gdi ?_
      refine Kp_nmP (hb_pu (by decide) h_a) (fun g0_17 k667 => ?_)
      refine Kp_nm (fun x3_18 => ?_)
      exact ih _ k667
theorem K_f_X12_pages (g0 : Pic) (x1 : Int32) (x2 : Int32) (h_g0 : hb g0) : Kp (fun r => hb r.2) (f_X12_pages g0 x1 x2) := by
  unfold f_X12_pages
  refine Kp_bd (fun r_1 h668 => ?_)
  refine Kp_jn (fun J : Int32 → _ => ∀ (s1_J28 : Int32), Kp (fun r => hb r.2) (J s1_J28)) ?_ ?_
  · intro s1_J28
    refine Kp_nmP (hb_pu (by decide) h_g0) (fun g0_2 k669 => ?_)
    refine Kp_ite ?_ ?_
    · skip
      refine Kp_bd (fun g0_6 h670 => ?_)
      have k671 : hb g0_6 := (K_f_X12_pages_L42 _ _ _ (0, g0_2) k669) _ h670
      refine Kp_bd (fun g0_19 h672 => ?_)
      have k673 : hb g0_19 := (K_f_X12_pages_L62 _ _ _ (0, g0_6) k671) _ h672
      refine Kp_gdi ?_
      exact Kp_some k673
    · skip
      exact Kp_some k669
  · intro J28 j674
    refine Kp_ite ?_ ?_
    · skip
      exact j674 _
    · skip
      refine Kp_bd (fun r_21 h675 => ?_)
      refine Kp_ite ?_ ?_
      · skip
        exact j674 _
      · skip
        exact j674 _
theorem K_f_X12_allBest_L51 (x1 : Int32) (x2 : Int32) (x3 : Int32) (n : Nat) (a : Int32 × Pic) (h_a : hb a.2) : Kp hb (f_X12_allBest_L51 x1 x2 x3 n a) := by
  unfold f_X12_allBest_L51
  induction n generalizing a with
  | zero => exact fun r h => by cases h
  | succ n ih =>
    obtain ⟨x4, g0⟩ := a
    refine Kp_lp ?_
    refine Kp_ite ?_ ?_
    · skip
      exact Kp_some h_a
    · skip
      refine Kp_bd (fun r_8 h676 => ?_)
      refine Kp_jn (fun J : Pic → _ => ∀ (g0_J107 : Pic), hb g0_J107 → Kp hb (J g0_J107)) ?_ ?_
      · intro g0_J107 k677
        refine Kp_nm (fun x4_9 => ?_)
        exact ih _ k677
      · intro J107 j678
        refine Kp_ite ?_ ?_
        · skip
          exact j678 _ h_a
        · skip
          refine Kp_gdi ?_
          refine Kp_bd (fun r_11 h679 => ?_)
          refine Kp_gdi ?_
          refine Kp_bd (fun r_13 h680 => ?_)
          refine Kp_gdi ?_
          refine Kp_nmP (hb_pu (by decide) h_a) (fun g0_15 k681 => ?_)
          exact j678 _ k681
theorem K_f_X12_allBest_L9 (n : Nat) (a : Int32 × Pic) (h_a : hb a.2) : Kp hb (f_X12_allBest_L9 n a) := by
  unfold f_X12_allBest_L9
  induction n generalizing a with
  | zero => exact fun r h => by cases h
  | succ n ih =>
    obtain ⟨x1, g0⟩ := a
    refine Kp_lp ?_
    refine Kp_ite ?_ ?_
    · skip
      exact Kp_some h_a
    · skip
      refine Kp_bd (fun r_2 h682 => ?_)
      refine Kp_nm (fun x3_3 => ?_)
      refine Kp_gdi ?_
      refine Kp_gdi ?_
      refine Kp_nmP (hb_pu (by decide) h_a) (fun g0_6 k683 => ?_)
      refine Kp_nm (fun x4_7 => ?_)
      refine Kp_bd (fun g0_16 h684 => ?_)
      have k685 : hb g0_16 := (K_f_X12_allBest_L51 _ _ _ _ (x4_7, g0_6) k683) _ h684
      refine Kp_nm (fun x1_17 => ?_)
      exact ih _ k685
theorem K_f_X12_allBest (g0 : Pic) (h_g0 : hb g0) : Kp hb (f_X12_allBest g0) := by
  unfold f_X12_allBest
  refine Kp_nmP (hb_pu (by decide) h_g0) (fun g0_1 k686 => ?_)
  refine Kp_bd (fun g0_18 h687 => ?_)
  have k688 : hb g0_18 := (K_f_X12_allBest_L9 _ (1, g0_1) k686) _ h687
  exact Kp_some k688
theorem K_f_X12_pairs_L58 (x1 : Int32) (g0 : Pic) (n : Nat) (a : Int32) (h_g0 : hb g0) : Kp (Sum.elim (fun q => hb q.2) (fun _ => True)) (f_X12_pairs_L58 x1 g0 n a) := by
  unfold f_X12_pairs_L58
  induction n generalizing a with
  | zero => exact fun r h => by cases h
  | succ n ih =>
    refine Kp_lp ?_
    have x2_ := a
    generalize a = x2
    refine Kp_ite ?_ ?_
    · skip
      exact Kp_some trivial
    · skip
      refine Kp_bd (fun r_4 h689 => ?_)
      refine Kp_nm (fun x4_5 => ?_)
      refine Kp_nm (fun x6_6 => ?_)
      refine Kp_bd (fun x5_14 h690 => ?_)
      refine Kp_ite ?_ ?_
      · skip
        exact Kp_some h_g0
      · skip
        refine Kp_ite ?_ ?_
        · skip
          exact Kp_some h_g0
        · skip
          refine Kp_jn (fun J : Int32 → _ => ∀ (s0_J198 : Int32), Kp (Sum.elim (fun q => hb q.2) (fun _ => True)) (J s0_J198)) ?_ ?_
          · intro s0_J198
            exact ih _
          · intro J198 j691
            refine Kp_ite ?_ ?_
            · skip
              exact j691 _
            · skip
              exact j691 _
theorem K_f_X12_pairs (g0 : Pic) (x1 : Int32) (h_g0 : hb g0) : Kp (fun r => hb r.2) (f_X12_pairs g0 x1) := by
  unfold f_X12_pairs
  refine Kp_jn (fun J : Int32 → _ => ∀ (s1_J19 : Int32), Kp (fun r => hb r.2) (J s1_J19)) ?_ ?_
  · intro s1_J19
    refine Kp_nmP (hb_pu (by decide) h_g0) (fun g0_1 k692 => ?_)
    refine Kp_ite ?_ ?_
    · skip
      refine Kp_bd (fun g0_2 h693 => ?_)
      have k694 : hb g0_2 := (K_f_X12_allBest _ k692) _ h693
      refine Kp_nm (fun x2_3 => ?_)
      refine Kp_ite ?_ ?_
      · skip
        refine Kp_gdi ?_
        exact Kp_some k694
      · skip
        refine Kp_lr (fun a h695 => ?_) (fun u697 h696 => ?_)
        · exact (K_f_X12_pairs_L58 _ _ _ (x2_3) k694) _ h695
        · skip
          exact Kp_some k694
    · skip
      exact Kp_some k692
  · intro J19 j698
    refine Kp_jn (fun J : Unit → _ => ∀ (u699 : Unit), Kp (fun r => hb r.2) (J u699)) ?_ ?_
    · intro u699
      exact j698 _
    · intro J18 j700
      refine Kp_ite ?_ ?_
      · skip
        exact j700 _
      · skip
        refine Kp_bd (fun r_17 h701 => ?_)
        refine Kp_ite ?_ ?_
        · skip
          exact j698 _
        · skip
          exact j700 _
theorem K_f_X12_rests (g0 : Pic) (x1 : Int32) (h_g0 : hb g0) : Kp (fun r => hb r.2) (f_X12_rests g0 x1) := by
  unfold f_X12_rests
  refine Kp_bd (fun r_1 h702 => ?_)
  refine Kp_jn (fun J : Int32 → _ => ∀ (s1_J14 : Int32), Kp (fun r => hb r.2) (J s1_J14)) ?_ ?_
  · intro s1_J14
    refine Kp_nmP (hb_pu (by decide) h_g0) (fun g0_2 k703 => ?_)
    refine Kp_ite ?_ ?_
    · skip
      refine Kp_bd (fun x2_11 h704 => ?_)
      exact Kp_some k703
    · skip
      exact Kp_some k703
  · intro J14 j705
    refine Kp_ite ?_ ?_
    · skip
      exact j705 _
    · skip
      exact j705 _
theorem K_f_X12_oftenest (g0 : Pic) (x1 : Int32) (h_g0 : hb g0) : Kp (fun r => hb r.2) (f_X12_oftenest g0 x1) := by
  unfold f_X12_oftenest
  refine Kp_nmP (hb_pu (by decide) h_g0) (fun g0_1 k706 => ?_)
  refine Kp_jn (fun J : Int32 → _ => ∀ (s0_J16 : Int32), Kp (fun r => hb r.2) (J s0_J16)) ?_ ?_
  · intro s0_J16
    refine Kp_bd (fun x3_5 h707 => ?_)
    exact Kp_some k706
  · intro J16 j708
    refine Kp_ite ?_ ?_
    · skip
      exact j708 _
    · skip
      exact j708 _
theorem K_f_X12_quickest (g0 : Pic) (x1 : Int32) (h_g0 : hb g0) : Kp (fun r => hb r.2) (f_X12_quickest g0 x1) := by
  unfold f_X12_quickest
  refine Kp_nmP (hb_pu (by decide) h_g0) (fun g0_1 k709 => ?_)
  refine Kp_jn (fun J : Int32 → _ => ∀ (s0_J14 : Int32), Kp (fun r => hb r.2) (J s0_J14)) ?_ ?_
  · intro s0_J14
    refine Kp_bd (fun x3_5 h710 => ?_)
    exact Kp_some k709
  · intro J14 j711
    refine Kp_ite ?_ ?_
    · skip
      exact j711 _
    · skip
      exact j711 _
theorem K_f_X12_twins (g0 : Pic) (h_g0 : hb g0) : Kp (fun r => hb r.2) (f_X12_twins g0) := by
  unfold f_X12_twins
  refine Kp_nmP (hb_pu (by decide) h_g0) (fun g0_1 k712 => ?_)
  refine Kp_bd (fun x1_11 h713 => ?_)
  exact Kp_some k712
theorem K_f_X12_uses (g0 : Pic) (x1 : Int32) (h_g0 : hb g0) : Kp (fun r => hb r.2) (f_X12_uses g0 x1) := by
  unfold f_X12_uses
  refine Kp_bd (fun r_1 h714 => ?_)
  refine Kp_jn (fun J : Int32 → _ => ∀ (s1_J16 : Int32), Kp (fun r => hb r.2) (J s1_J16)) ?_ ?_
  · intro s1_J16
    refine Kp_nmP (hb_pu (by decide) h_g0) (fun g0_2 k715 => ?_)
    refine Kp_jn (fun J : Int32 → _ => ∀ (s0_J35 : Int32), Kp (fun r => hb r.2) (J s0_J35)) ?_ ?_
    · intro s0_J35
      exact Kp_some k715
    · intro J35 j716
      refine Kp_ite ?_ ?_
      · skip
        refine Kp_bd (fun r_3 h717 => ?_)
        exact j716 _
      · skip
        exact j716 _
  · intro J16 j718
    refine Kp_ite ?_ ?_
    · skip
      exact j718 _
    · skip
      exact j718 _
theorem K_f_X12_silent (g0 : Pic) (h_g0 : hb g0) : Kp (fun r => hb r.2) (f_X12_silent g0) := by
  unfold f_X12_silent
  refine Kp_nmP (hb_pu (by decide) h_g0) (fun g0_1 k719 => ?_)
  refine Kp_bd (fun x1_5 h720 => ?_)
  exact Kp_some k719
theorem K_f_X12_led (g0 : Pic) (x1 : Int32) (x2 : Int32) (h_g0 : hb g0) : Kp (fun r => hb r.2) (f_X12_led g0 x1 x2) := by
  unfold f_X12_led
  refine Kp_bd (fun r_1 h721 => ?_)
  refine Kp_jn (fun J : Int32 → _ => ∀ (s1_J14 : Int32), Kp (fun r => hb r.2) (J s1_J14)) ?_ ?_
  · intro s1_J14
    refine Kp_nmP (hb_pu (by decide) h_g0) (fun g0_2 k722 => ?_)
    refine Kp_ite ?_ ?_
    · skip
      refine Kp_nm (fun x5_3 => ?_)
      refine Kp_bd (fun q724 h723 => ?_)
      obtain ⟨x3_8, x4_8⟩ := q724
      refine Kp_jn (fun J : Int32 → _ => ∀ (s0_J89 : Int32), Kp (fun r => hb r.2) (J s0_J89)) ?_ ?_
      · intro s0_J89
        exact Kp_some k722
      · intro J89 j725
        refine Kp_ite ?_ ?_
        · skip
          exact j725 _
        · skip
          exact j725 _
    · skip
      exact Kp_some k722
  · intro J14 j726
    refine Kp_ite ?_ ?_
    · skip
      exact j726 _
    · skip
      exact j726 _
theorem K_f_X12_log (g0 : Pic) (x1 : Int32) (x2 : Int32) (h_g0 : hb g0) : Kp (fun r => hb r.2) (f_X12_log g0 x1 x2) := by
  unfold f_X12_log
  refine Kp_bd (fun r_1 h727 => ?_)
  refine Kp_jn (fun J : Int32 → _ => ∀ (s1_J15 : Int32), Kp (fun r => hb r.2) (J s1_J15)) ?_ ?_
  · intro s1_J15
    refine Kp_nmP (hb_pu (by decide) h_g0) (fun g0_2 k728 => ?_)
    refine Kp_ite ?_ ?_
    · skip
      refine Kp_bd (fun r_3 h729 => ?_)
      refine Kp_jn (fun J : Int32 → _ => ∀ (s0_J54 : Int32), Kp (fun r => hb r.2) (J s0_J54)) ?_ ?_
      · intro s0_J54
        exact Kp_some k728
      · intro J54 j730
        refine Kp_ite ?_ ?_
        · skip
          exact j730 _
        · skip
          refine Kp_bd (fun r_4 h731 => ?_)
          exact j730 _
    · skip
      exact Kp_some k728
  · intro J15 j732
    refine Kp_ite ?_ ?_
    · skip
      exact j732 _
    · skip
      exact j732 _
theorem K_f_X12_seed (g0 : Pic) (x1 : Int32) (h_g0 : hb g0) : Kp (fun r => hb r.2) (f_X12_seed g0 x1) := by
  unfold f_X12_seed
  refine Kp_nmP (hb_pu (by decide) h_g0) (fun g0_1 k733 => ?_)
  refine Kp_nm (fun x2_2 => ?_)
  refine Kp_nmP (hb_pu (by decide) k733) (fun g0_3 k734 => ?_)
  exact Kp_some k734
theorem K_f_X12_undo_L26 (n : Nat) (a : Int32 × Pic) (h_a : hb a.2) : Kp hb (f_X12_undo_L26 n a) := by
  unfold f_X12_undo_L26
  induction n generalizing a with
  | zero => exact fun r h => by cases h
  | succ n ih =>
    obtain ⟨x1, g0⟩ := a
    refine Kp_lp ?_
    refine Kp_ite ?_ ?_
    · skip
      exact Kp_some h_a
    · skip
      refine Kp_gdi ?_
      refine Kp_gdi ?_
      refine Kp_nmP (hb_pu (by decide) h_a) (fun g0_5 k735 => ?_)
      refine Kp_nm (fun x1_6 => ?_)
      exact ih _ k735
theorem K_f_X12_undo (g0 : Pic) (h_g0 : hb g0) : Kp (fun r => hb r.2) (f_X12_undo g0) := by
  unfold f_X12_undo
  refine Kp_nmP (hb_pu (by decide) h_g0) (fun g0_1 k736 => ?_)
  refine Kp_ite ?_ ?_
  · skip
    exact Kp_some k736
  · skip
    refine Kp_nmP (hb_pu (by decide) k736) (fun g0_2 k737 => ?_)
    refine Kp_bd (fun g0_7 h738 => ?_)
    have k739 : hb g0_7 := (K_f_X12_undo_L26 _ (0, g0_2) k737) _ h738
    exact Kp_some k739
theorem K_f_X12_image_L7 (n : Nat) (a : Int32 × Pic) (h_a : hb a.2) : Kp hb (f_X12_image_L7 n a) := by
  unfold f_X12_image_L7
  induction n generalizing a with
  | zero => exact fun r h => by cases h
  | succ n ih =>
    obtain ⟨x1, g0⟩ := a
    refine Kp_lp ?_
    refine Kp_ite ?_ ?_
    · skip
      exact Kp_some h_a
    · skip
      refine Kp_gdi ?_
      refine Kp_gdi ?_
      refine Kp_nmP (hb_pu (by decide) h_a) (fun g0_4 k740 => ?_)
      refine Kp_nm (fun x1_5 => ?_)
      exact ih _ k740
theorem K_f_X12_image (g0 : Pic) (h_g0 : hb g0) : Kp hb (f_X12_image g0) := by
  unfold f_X12_image
  refine Kp_nmP (hb_pu (by decide) h_g0) (fun g0_1 k741 => ?_)
  refine Kp_bd (fun g0_6 h742 => ?_)
  have k743 : hb g0_6 := (K_f_X12_image_L7 _ (0, g0_1) k741) _ h742
  refine Kp_nmP (hb_pu (by decide) k743) (fun g0_7 k744 => ?_)
  exact Kp_some k744
theorem K_f_X12_back_L16 (n : Nat) (a : Int32 × Pic) (h_a : hb a.2) : Kp hb (f_X12_back_L16 n a) := by
  unfold f_X12_back_L16
  induction n generalizing a with
  | zero => exact fun r h => by cases h
  | succ n ih =>
    obtain ⟨x1, g0⟩ := a
    refine Kp_lp ?_
    refine Kp_ite ?_ ?_
    · skip
      exact Kp_some h_a
    · skip
      refine Kp_gdi ?_
      refine Kp_gdi ?_
      refine Kp_nmP (hb_pu (by decide) h_a) (fun g0_4 k745 => ?_)
      refine Kp_nm (fun x1_5 => ?_)
      exact ih _ k745
theorem K_f_X12_back (g0 : Pic) (h_g0 : hb g0) : Kp (fun r => hb r.2) (f_X12_back g0) := by
  unfold f_X12_back
  refine Kp_nmP (hb_pu (by decide) h_g0) (fun g0_1 k746 => ?_)
  refine Kp_ite ?_ ?_
  · skip
    exact Kp_some k746
  · skip
    refine Kp_bd (fun g0_6 h747 => ?_)
    have k748 : hb g0_6 := (K_f_X12_back_L16 _ (0, g0_1) k746) _ h747
    refine Kp_nmP (hb_pu (by decide) k748) (fun g0_7 k749 => ?_)
    exact Kp_some k749
theorem K_f_X12_count (g0 : Pic) (x1 : Int32) (h_g0 : hb g0) : Kp (fun r => hb r.2) (f_X12_count g0 x1) := by
  unfold f_X12_count
  refine Kp_nmP (hb_pu (by decide) h_g0) (fun g0_1 k750 => ?_)
  refine Kp_ite ?_ ?_
  · skip
    exact Kp_some k750
  · skip
    refine Kp_ite ?_ ?_
    · skip
      exact Kp_some k750
    · skip
      refine Kp_ite ?_ ?_
      · skip
        exact Kp_some k750
      · skip
        refine Kp_ite ?_ ?_
        · skip
          exact Kp_some k750
        · skip
          refine Kp_bd (fun r_2 h751 => ?_)
          refine Kp_ite ?_ ?_
          · skip
            refine Kp_ite ?_ ?_
            · skip
              refine Kp_bd (fun r_3 h752 => ?_)
              exact Kp_some k750
            · skip
              refine Kp_ite ?_ ?_
              · skip
                exact Kp_some k750
              · skip
                refine Kp_jn (fun J : Int32 → _ => ∀ (s0_J112 : Int32), Kp (fun r => hb r.2) (J s0_J112)) ?_ ?_
                · intro s0_J112
                  exact Kp_some k750
                · intro J112 j753
                  refine Kp_ite ?_ ?_
                  · skip
                    exact j753 _
                  · skip
                    exact j753 _
          · skip
            refine Kp_gdi ?_
            exact Kp_some k750
theorem K_f_X12_read_L23 (x1 : Int32) (n : Nat) (a : Int32 × Int32 × Pic) (h_a : hb a.2.2) : Kp (fun r => hb r.2) (f_X12_read_L23 x1 n a) := by
  unfold f_X12_read_L23
  induction n generalizing a with
  | zero => exact fun r h => by cases h
  | succ n ih =>
    obtain ⟨x2, x3, g0⟩ := a
    refine Kp_lp ?_
    refine Kp_ite ?_ ?_
    · skip
      exact Kp_some h_a
    · skip
      refine Kp_ite ?_ ?_
      · skip
        refine Kp_bd (fun g0_2 h754 => ?_)
        have k755 : hb g0_2 := (K_f_X12_skip _ h_a) _ h754
        refine Kp_jn (fun J : Int32 → Int32 → _ => ∀ (s0_J51 : Int32) (s1_J51 : Int32), Kp (fun r => hb r.2) (J s0_J51 s1_J51)) ?_ ?_
        · intro s0_J51 s1_J51
          refine Kp_jn (fun J : Pic → _ => ∀ (g0_J80 : Pic), hb g0_J80 → Kp (fun r => hb r.2) (J g0_J80)) ?_ ?_
          · intro g0_J80 k756
            refine Kp_nm (fun x3_3 => ?_)
            refine Kp_bd (fun g0_4 h757 => ?_)
            have k758 : hb g0_4 := (K_f_X12_skip _ k756) _ h757
            refine Kp_jn (fun J : Unit → _ => ∀ (u759 : Unit), Kp (fun r => hb r.2) (J u759)) ?_ ?_
            · intro u759
              exact ih _ k758
            · intro J106 j760
              refine Kp_ite ?_ ?_
              · skip
                refine Kp_ite ?_ ?_
                · skip
                  exact j760 _
                · skip
                  refine Kp_bd2 (fun r_5 g0_5 h761 => ?_)
                  have k762 : hb g0_5 := (K_f_X12_isSign _ _ k758) _ h761
                  refine Kp_ite ?_ ?_
                  · skip
                    refine Kp_bd (fun g0_6 h763 => ?_)
                    have k764 : hb g0_6 := (K_f_X12_wrong _ _ k762) _ h763
                    exact ih _ k764
                  · skip
                    refine Kp_nmP (hb_pu (by decide) k762) (fun g0_7 k765 => ?_)
                    exact ih _ k765
              · skip
                exact j760 _
          · intro J80 j766
            refine Kp_ite ?_ ?_
            · skip
              refine Kp_bd (fun g0_10 h767 => ?_)
              have k768 : hb g0_10 := (K_f_X12_wrong _ _ k755) _ h767
              exact j766 _ k768
            · skip
              refine Kp_ite ?_ ?_
              · skip
                refine Kp_bd (fun g0_8 h769 => ?_)
                have k770 : hb g0_8 := (K_f_X12_eveningLine _ k755) _ h769
                exact j766 _ k770
              · skip
                refine Kp_bd (fun g0_9 h771 => ?_)
                have k772 : hb g0_9 := (K_f_X12_lawLine _ k755) _ h771
                exact j766 _ k772
        · intro J51 j773
          refine Kp_ite ?_ ?_
          · skip
            exact j773 _ _
          · skip
            exact j773 _ _
      · skip
        exact Kp_some h_a
theorem K_f_X12_read (g0 : Pic) (x1 : Int32) (h_g0 : hb g0) : Kp (fun r => hb r.2) (f_X12_read g0 x1) := by
  unfold f_X12_read
  refine Kp_bd (fun g0_1 h774 => ?_)
  have k775 : hb g0_1 := (K_f_X12_skip _ h_g0) _ h774
  refine Kp_jn (fun J : Int32 → _ => ∀ (s0_J20 : Int32), Kp (fun r => hb r.2) (J s0_J20)) ?_ ?_
  · intro s0_J20
    refine Kp_bd (fun q777 h776 => ?_)
    have k778 : hb q777.2 := (K_f_X12_read_L23 _ _ (s0_J20, 0, g0_1) k775) _ h776
    obtain ⟨x3_11, g0_11⟩ := q777
    exact Kp_some k778
  · intro J20 j779
    refine Kp_ite ?_ ?_
    · skip
      exact j779 _
    · skip
      exact j779 _
theorem K_f_X12_evening (g0 : Pic) (h_g0 : hb g0) : Kp (fun r => hb r.2) (f_X12_evening g0) := by
  unfold f_X12_evening
  refine Kp_bd (fun g0_1 h780 => ?_)
  have k781 : hb g0_1 := (K_f_X12_putsAside _ h_g0) _ h780
  refine Kp_bd (fun g0_2 h782 => ?_)
  have k783 : hb g0_2 := (K_f_X12_begins _ k781) _ h782
  refine Kp_bd2 (fun r_3 g0_3 h784 => ?_)
  have k785 : hb g0_3 := (K_f_X12_read _ _ k783) _ h784
  refine Kp_jn (fun J : Int32 → _ => ∀ (s1_J43 : Int32), Kp (fun r => hb r.2) (J s1_J43)) ?_ ?_
  · intro s1_J43
    refine Kp_nmP (hb_pu (by decide) k785) (fun g0_4 k786 => ?_)
    refine Kp_ite ?_ ?_
    · skip
      refine Kp_nmP (hb_pu (by decide) k786) (fun g0_5 k787 => ?_)
      refine Kp_nmP (hb_pu (by decide) k787) (fun g0_6 k788 => ?_)
      exact Kp_some k788
    · skip
      refine Kp_bd (fun g0_7 h789 => ?_)
      have k790 : hb g0_7 := (K_f_X12_comesBack _ k786) _ h789
      exact Kp_some k790
  · intro J43 j791
    refine Kp_ite ?_ ?_
    · skip
      refine Kp_ite ?_ ?_
      · skip
        exact j791 _
      · skip
        exact j791 _
    · skip
      exact j791 _
theorem K_f_X12_law_L55 (x1 : Int32) (n : Nat) (a : Int32 × Pic) (h_a : hb a.2) : Kp hb (f_X12_law_L55 x1 n a) := by
  unfold f_X12_law_L55
  induction n generalizing a with
  | zero => exact fun r h => by cases h
  | succ n ih =>
    obtain ⟨x2, g0⟩ := a
    refine Kp_lp ?_
    refine Kp_ite ?_ ?_
    · skip
      exact Kp_some h_a
    · skip
      refine Kp_gdi ?_
      refine Kp_gdi ?_
      refine Kp_nmP (hb_pu (by decide) h_a) (fun g0_8 k792 => ?_)
      refine Kp_nm (fun x2_9 => ?_)
      exact ih _ k792
theorem K_f_X12_law (g0 : Pic) (h_g0 : hb g0) : Kp (fun r => hb r.2) (f_X12_law g0) := by
  unfold f_X12_law
  refine Kp_bd (fun g0_1 h793 => ?_)
  have k794 : hb g0_1 := (K_f_X12_begins _ h_g0) _ h793
  refine Kp_bd2 (fun r_2 g0_2 h795 => ?_)
  have k796 : hb g0_2 := (K_f_X12_read _ _ k794) _ h795
  refine Kp_jn (fun J : Int32 → _ => ∀ (s1_J24 : Int32), Kp (fun r => hb r.2) (J s1_J24)) ?_ ?_
  · intro s1_J24
    refine Kp_nmP (hb_pu (by decide) k796) (fun g0_3 k797 => ?_)
    refine Kp_ite ?_ ?_
    · skip
      refine Kp_nmP (hb_pu (by decide) k797) (fun g0_4 k798 => ?_)
      refine Kp_nmP (hb_pu (by decide) k798) (fun g0_5 k799 => ?_)
      refine Kp_bd (fun g0_10 h800 => ?_)
      have k801 : hb g0_10 := (K_f_X12_law_L55 _ _ (0, g0_5) k799) _ h800
      refine Kp_nmP (hb_pu (by decide) k801) (fun g0_11 k802 => ?_)
      exact Kp_some k802
    · skip
      exact Kp_some k797
  · intro J24 j803
    refine Kp_ite ?_ ?_
    · skip
      exact j803 _
    · skip
      exact j803 _
theorem K_f_X12_asks (g0 : Pic) (x1 : Int32) (x2 : Int32) (h_g0 : hb g0) : Kp hb (f_X12_asks g0 x1 x2) := by
  unfold f_X12_asks
  refine Kp_jn (fun J : Int32 → _ => ∀ (s0_J10 : Int32), Kp hb (J s0_J10)) ?_ ?_
  · intro s0_J10
    refine Kp_jn (fun J : Int32 → _ => ∀ (s0_J30 : Int32), Kp hb (J s0_J30)) ?_ ?_
    · intro s0_J30
      refine Kp_nmP (hb_pu (by decide) h_g0) (fun g0_1 k804 => ?_)
      refine Kp_nmP (hb_pu (by decide) k804) (fun g0_2 k805 => ?_)
      refine Kp_nmP (hb_pu (by decide) k805) (fun g0_3 k806 => ?_)
      refine Kp_nmP (hb_pu (by decide) k806) (fun g0_4 k807 => ?_)
      refine Kp_jn (fun J : Int32 → Int32 → _ => ∀ (s1_J76 : Int32) (s2_J76 : Int32), Kp hb (J s1_J76 s2_J76)) ?_ ?_
      · intro s1_J76 s2_J76
        refine Kp_gdi ?_
        refine Kp_nmP (hb_pu (by decide) k807) (fun g0_6 k808 => ?_)
        refine Kp_nmP (hb_pu (by decide) k808) (fun g0_7 k809 => ?_)
        refine Kp_jn (fun J : Int32 → Int32 → _ => ∀ (s1_J105 : Int32) (s2_J105 : Int32), Kp hb (J s1_J105 s2_J105)) ?_ ?_
        · intro s1_J105 s2_J105
          refine Kp_gdi ?_
          refine Kp_nmP (hb_pu (by decide) k809) (fun g0_9 k810 => ?_)
          refine Kp_bd (fun r_10 h811 => ?_)
          refine Kp_nmP (hb_pu (by decide) k810) (fun g0_11 k812 => ?_)
          refine Kp_bd (fun r_12 h813 => ?_)
          refine Kp_nmP (hb_pu (by decide) k812) (fun g0_13 k814 => ?_)
          refine Kp_bd (fun r_14 h815 => ?_)
          refine Kp_nmP (hb_pu (by decide) k814) (fun g0_15 k816 => ?_)
          refine Kp_jn (fun J : Int32 → _ => ∀ (s1_J164 : Int32), Kp hb (J s1_J164)) ?_ ?_
          · intro s1_J164
            refine Kp_gdb (fun h817 => ?_)
            refine Kp_nmP (hb15 h817 k816) (fun g0_17 k818 => ?_)
            refine Kp_jn (fun J : Int32 → _ => ∀ (s1_J194 : Int32), Kp hb (J s1_J194)) ?_ ?_
            · intro s1_J194
              refine Kp_gdb (fun h819 => ?_)
              refine Kp_nmP (hb16 h819 k818) (fun g0_19 k820 => ?_)
              refine Kp_nm (fun x5_20 => ?_)
              refine Kp_nmP (hb_pu (by decide) k820) (fun g0_21 k821 => ?_)
              refine Kp_nmP (hb_pu (by decide) k821) (fun g0_22 k822 => ?_)
              refine Kp_jn (fun J : Int32 → _ => ∀ (s1_J236 : Int32), Kp hb (J s1_J236)) ?_ ?_
              · intro s1_J236
                refine Kp_nmP (hb_pu (by decide) k822) (fun g0_23 k823 => ?_)
                refine Kp_nmP (hb_pu (by decide) k823) (fun g0_24 k824 => ?_)
                refine Kp_nmP (hb_pu (by decide) k824) (fun g0_25 k825 => ?_)
                refine Kp_bd2 (fun r_26 g0_26 h826 => ?_)
                have k827 : hb g0_26 := (K_f_X12_read _ _ k825) _ h826
                refine Kp_nmP (hb_pu (by decide) k827) (fun g0_27 k828 => ?_)
                exact Kp_some k828
              · intro J236 j829
                refine Kp_ite ?_ ?_
                · skip
                  exact j829 _
                · skip
                  exact j829 _
            · intro J194 j830
              refine Kp_jn (fun J : Unit → _ => ∀ (u831 : Unit), Kp hb (J u831)) ?_ ?_
              · intro u831
                exact j830 _
              · intro J193 j832
                refine Kp_ite ?_ ?_
                · skip
                  refine Kp_bd (fun r_28 h833 => ?_)
                  refine Kp_bd (fun r_29 h834 => ?_)
                  refine Kp_ite ?_ ?_
                  · skip
                    exact j830 _
                  · skip
                    exact j832 _
                · skip
                  exact j832 _
          · intro J164 j835
            refine Kp_jn (fun J : Unit → _ => ∀ (u836 : Unit), Kp hb (J u836)) ?_ ?_
            · intro u836
              exact j835 _
            · intro J163 j837
              refine Kp_ite ?_ ?_
              · skip
                refine Kp_ite ?_ ?_
                · skip
                  exact j835 _
                · skip
                  exact j837 _
              · skip
                exact j837 _
        · intro J105 j838
          refine Kp_ite ?_ ?_
          · skip
            refine Kp_bd (fun r_30 h839 => ?_)
            exact j838 _ _
          · skip
            exact j838 _ _
      · intro J76 j840
        refine Kp_ite ?_ ?_
        · skip
          exact j840 _ _
        · skip
          exact j840 _ _
    · intro J30 j841
      refine Kp_ite ?_ ?_
      · skip
        refine Kp_bd (fun r_31 h842 => ?_)
        refine Kp_bd (fun r_32 h843 => ?_)
        exact j841 _
      · skip
        exact j841 _
  · intro J10 j844
    refine Kp_ite ?_ ?_
    · skip
      exact j844 _
    · skip
      exact j844 _
theorem K_f_X12_slipsOf (g0 : Pic) (x1 : Int32) (x2 : Int32) (h_g0 : hb g0) : Kp (fun r => hb r.2) (f_X12_slipsOf g0 x1 x2) := by
  unfold f_X12_slipsOf
  refine Kp_bd (fun g0_1 h845 => ?_)
  have k846 : hb g0_1 := (K_f_X12_asks _ _ _ h_g0) _ h845
  refine Kp_bd (fun r_2 h847 => ?_)
  refine Kp_bd (fun r_3 h848 => ?_)
  refine Kp_bd (fun r_4 h849 => ?_)
  exact Kp_some k846
theorem K_f_X12_easesOff (g0 : Pic) (x1 : Int32) (x2 : Int32) (h_g0 : hb g0) : Kp hb (f_X12_easesOff g0 x1 x2) := by
  unfold f_X12_easesOff
  refine Kp_bd (fun g0_1 h850 => ?_)
  have k851 : hb g0_1 := (K_f_X12_asks _ _ _ h_g0) _ h850
  refine Kp_bd (fun r_2 h852 => ?_)
  refine Kp_bd (fun r_3 h853 => ?_)
  refine Kp_bd (fun g0_4 h854 => ?_)
  have k855 : hb g0_4 := (K_f_X12_lays _ _ _ _ k851) _ h854
  exact Kp_some k855
theorem K_f_X12_writes (g0 : Pic) (x1 : Int32) (x2 : Int32) (x3 : Int32) (h_g0 : hb g0) : Kp hb (f_X12_writes g0 x1 x2 x3) := by
  unfold f_X12_writes
  refine Kp_bd (fun r_1 h856 => ?_)
  refine Kp_jn (fun J : Int32 → Pic → _ => ∀ (x4_J73 : Int32) (g0_J73 : Pic), hb g0_J73 → Kp hb (J x4_J73 g0_J73)) ?_ ?_
  · intro x4_J73 g0_J73 k857
    refine Kp_gdi ?_
    refine Kp_nmP (hb_pu (by decide) k857) (fun g0_3 k858 => ?_)
    refine Kp_bd (fun g0_4 h859 => ?_)
    have k860 : hb g0_4 := (K_f_X12_logs _ _ _ _ k858) _ h859
    exact Kp_some k860
  · intro J73 j861
    refine Kp_ite ?_ ?_
    · skip
      refine Kp_bd (fun g0_5 h862 => ?_)
      have k863 : hb g0_5 := (K_f_X12_easesOff _ _ _ h_g0) _ h862
      exact j861 _ _ k863
    · skip
      refine Kp_bd2 (fun r_6 g0_6 h864 => ?_)
      have k865 : hb g0_6 := (K_f_X12_slipsOf _ _ _ h_g0) _ h864
      refine Kp_jn (fun J : Int32 → Pic → _ => ∀ (s0_J40 : Int32) (g0_J40 : Pic), hb g0_J40 → Kp hb (J s0_J40 g0_J40)) ?_ ?_
      · intro s0_J40 g0_J40 k866
        refine Kp_bd (fun r_7 h867 => ?_)
        refine Kp_bd (fun r_8 h868 => ?_)
        refine Kp_bd (fun g0_9 h869 => ?_)
        have k870 : hb g0_9 := (K_f_X12_lays _ _ _ _ k866) _ h869
        exact j861 _ _ k870
      · intro J40 j871
        refine Kp_jn (fun J : Pic → _ => ∀ (g0_J39 : Pic), hb g0_J39 → Kp hb (J g0_J39)) ?_ ?_
        · intro g0_J39 k872
          exact j871 _ _ k872
        · intro J39 j873
          refine Kp_ite ?_ ?_
          · skip
            exact j873 _ k865
          · skip
            refine Kp_bd2 (fun r_10 g0_10 h874 => ?_)
            have k875 : hb g0_10 := (K_f_X12_draw _ _ k865) _ h874
            refine Kp_ite ?_ ?_
            · skip
              exact j873 _ k875
            · skip
              exact j871 _ _ k875
theorem K_f_X12_passes_L75 (x2 : Int32) (n : Nat) (a : Int32 × Pic) (h_a : hb a.2) : Kp hb (f_X12_passes_L75 x2 n a) := by
  unfold f_X12_passes_L75
  induction n generalizing a with
  | zero => exact fun r h => by cases h
  | succ n ih =>
    obtain ⟨x3, g0⟩ := a
    refine Kp_lp ?_
    refine Kp_ite ?_ ?_
    · skip
      exact Kp_some h_a
    · skip
      refine Kp_bd (fun g0_3 h876 => ?_)
      have k877 : hb g0_3 := (K_f_X12_easesOff _ _ _ h_a) _ h876
      refine Kp_nm (fun x3_4 => ?_)
      exact ih _ k877
theorem K_f_X12_passes_L20 (x1 : Int32) (n : Nat) (a : Int32 × Pic) (h_a : hb a.2) : Kp hb (f_X12_passes_L20 x1 n a) := by
  unfold f_X12_passes_L20
  induction n generalizing a with
  | zero => exact fun r h => by cases h
  | succ n ih =>
    obtain ⟨x3, g0⟩ := a
    refine Kp_lp ?_
    refine Kp_ite ?_ ?_
    · skip
      exact Kp_some h_a
    · skip
      refine Kp_gdi ?_
      refine Kp_bd (fun g0_7 h878 => ?_)
      have k879 : hb g0_7 := (K_f_X12_writes _ _ _ _ h_a) _ h878
      refine Kp_nm (fun x3_8 => ?_)
      exact ih _ k879
theorem K_f_X12_passes (g0 : Pic) (x1 : Int32) (h_g0 : hb g0) : Kp (fun r => hb r.2) (f_X12_passes g0 x1) := by
  unfold f_X12_passes
  refine Kp_jn (fun J : Int32 → Pic → _ => ∀ (x2_J97 : Int32) (g0_J97 : Pic), hb g0_J97 → Kp (fun r => hb r.2) (J x2_J97 g0_J97)) ?_ ?_
  · intro x2_J97 g0_J97 k880
    refine Kp_bd (fun r_1 h881 => ?_)
    refine Kp_nmP (hb_pu (by decide) k880) (fun g0_2 k882 => ?_)
    exact Kp_some k882
  · intro J97 j883
    refine Kp_ite ?_ ?_
    · skip
      refine Kp_bd (fun g0_5 h884 => ?_)
      have k885 : hb g0_5 := (K_f_X12_passes_L75 _ _ (0, g0) h_g0) _ h884
      exact j883 _ _ k885
    · skip
      refine Kp_bd (fun g0_9 h886 => ?_)
      have k887 : hb g0_9 := (K_f_X12_passes_L20 _ _ (0, g0) h_g0) _ h886
      refine Kp_nmP (hb_pu (by decide) k887) (fun g0_10 k888 => ?_)
      exact j883 _ _ k888
theorem K_f_X12_goes_L5 (x1 : Int32) (x2 : Int32) (n : Nat) (a : Int32 × Int32 × Pic) (h_a : hb a.2.2) : Kp (fun r => hb r.2) (f_X12_goes_L5 x1 x2 n a) := by
  unfold f_X12_goes_L5
  induction n generalizing a with
  | zero => exact fun r h => by cases h
  | succ n ih =>
    obtain ⟨x3, x4, g0⟩ := a
    refine Kp_lp ?_
    refine Kp_ite ?_ ?_
    · skip
      exact Kp_some h_a
    · skip
      refine Kp_bd2 (fun r_1 g0_1 h889 => ?_)
      have k890 : hb g0_1 := (K_f_X12_passes _ _ h_a) _ h889
      refine Kp_nm (fun x3_2 => ?_)
      refine Kp_nm (fun x4_3 => ?_)
      exact ih _ k890
theorem K_f_X12_goes (g0 : Pic) (x1 : Int32) (x2 : Int32) (h_g0 : hb g0) : Kp (fun r => hb r.2) (f_X12_goes g0 x1 x2) := by
  unfold f_X12_goes
  refine Kp_bd (fun q892 h891 => ?_)
  have k893 : hb q892.2 := (K_f_X12_goes_L5 _ _ _ (0, 0, g0) h_g0) _ h891
  obtain ⟨x3_4, g0_4⟩ := q892
  exact Kp_some k893
theorem K_f_X12_allCoded_L2 (n : Nat) (a : Int32 × Pic) (h_a : hb a.2) : Kp hb (f_X12_allCoded_L2 n a) := by
  unfold f_X12_allCoded_L2
  induction n generalizing a with
  | zero => exact fun r h => by cases h
  | succ n ih =>
    obtain ⟨x1, g0⟩ := a
    refine Kp_lp ?_
    refine Kp_ite ?_ ?_
    · skip
      exact Kp_some h_a
    · skip
      refine Kp_gdi ?_
      refine Kp_nmP (hb_pu (by decide) h_a) (fun g0_2 k894 => ?_)
      refine Kp_nm (fun x1_3 => ?_)
      exact ih _ k894
theorem K_f_X12_allCoded_L48 (x1 : Int32) (n : Nat) (a : Int32 × Pic) (h_a : hb a.2) : Kp hb (f_X12_allCoded_L48 x1 n a) := by
  unfold f_X12_allCoded_L48
  induction n generalizing a with
  | zero => exact fun r h => by cases h
  | succ n ih =>
    obtain ⟨x2, g0⟩ := a
    refine Kp_lp ?_
    refine Kp_ite ?_ ?_
    · skip
      exact Kp_some h_a
    · skip
      refine Kp_bd (fun x3_9 h895 => ?_)
      refine Kp_gdi ?_
      refine Kp_nmP (hb_pu (by decide) h_a) (fun g0_11 k896 => ?_)
      refine Kp_nm (fun x2_12 => ?_)
      exact ih _ k896
theorem K_f_X12_allCoded_L42 (n : Nat) (a : Int32 × Pic) (h_a : hb a.2) : Kp hb (f_X12_allCoded_L42 n a) := by
  unfold f_X12_allCoded_L42
  induction n generalizing a with
  | zero => exact fun r h => by cases h
  | succ n ih =>
    obtain ⟨x1, g0⟩ := a
    refine Kp_lp ?_
    refine Kp_ite ?_ ?_
    · skip
      exact Kp_some h_a
    · skip
      refine Kp_bd (fun g0_13 h897 => ?_)
      have k898 : hb g0_13 := (K_f_X12_allCoded_L48 _ _ (0, g0) h_a) _ h897
      refine Kp_nm (fun x1_14 => ?_)
      exact ih _ k898
theorem K_f_X12_allCoded (g0 : Pic) (h_g0 : hb g0) : Kp hb (f_X12_allCoded g0) := by
  unfold f_X12_allCoded
  refine Kp_bd (fun g0_4 h899 => ?_)
  have k900 : hb g0_4 := (K_f_X12_allCoded_L2 _ (0, g0) h_g0) _ h899
  refine Kp_nm (fun x1_5 => ?_)
  refine Kp_bd (fun g0_15 h901 => ?_)
  have k902 : hb g0_15 := (K_f_X12_allCoded_L42 _ (x1_5, g0_4) k900) _ h901
  exact Kp_some k902
theorem K_f_X12_lengthOf (g0 : Pic) (x1 : Int32) (h_g0 : hb g0) : Kp (fun r => hb r.2) (f_X12_lengthOf g0 x1) := by
  unfold f_X12_lengthOf
  refine Kp_ite ?_ ?_
  · skip
    refine Kp_bd (fun g0_1 h903 => ?_)
    have k904 : hb g0_1 := (K_f_X12_allCoded _ h_g0) _ h903
    refine Kp_bd (fun x3_8 h905 => ?_)
    exact Kp_some k904
  · skip
    exact Kp_some h_g0
theorem K_f_X12_word (g0 : Pic) (x1 : Int32) (x2 : Int32) (h_g0 : hb g0) : Kp (fun r => hb r.2) (f_X12_word g0 x1 x2) := by
  unfold f_X12_word
  refine Kp_bd (fun r_1 h906 => ?_)
  refine Kp_jn (fun J : Int32 → _ => ∀ (s1_J27 : Int32), Kp (fun r => hb r.2) (J s1_J27)) ?_ ?_
  · intro s1_J27
    refine Kp_nmP (hb_pu (by decide) h_g0) (fun g0_2 k907 => ?_)
    refine Kp_ite ?_ ?_
    · skip
      refine Kp_ite ?_ ?_
      · skip
        refine Kp_jn (fun J : Int32 → Pic → _ => ∀ (s0_J72 : Int32) (g0_J72 : Pic), hb g0_J72 → Kp (fun r => hb r.2) (J s0_J72 g0_J72)) ?_ ?_
        · intro s0_J72 g0_J72 k908
          exact Kp_some k908
        · intro J72 j909
          refine Kp_ite ?_ ?_
          · skip
            refine Kp_bd2 (fun r_4 g0_4 h910 => ?_)
            have k911 : hb g0_4 := (K_f_X12_lengthOf _ _ k907) _ h910
            exact j909 _ _ k911
          · skip
            refine Kp_bd2 (fun r_3 g0_3 h912 => ?_)
            have k913 : hb g0_3 := (K_f_X12_closest _ _ k907) _ h912
            exact j909 _ _ k913
      · skip
        refine Kp_bd (fun r_5 h914 => ?_)
        exact Kp_some k907
    · skip
      exact Kp_some k907
  · intro J27 j915
    refine Kp_ite ?_ ?_
    · skip
      exact j915 _
    · skip
      refine Kp_bd (fun r_6 h916 => ?_)
      refine Kp_ite ?_ ?_
      · skip
        exact j915 _
      · skip
        exact j915 _
theorem K_f_X12_slips (g0 : Pic) (x1 : Int32) (x2 : Int32) (h_g0 : hb g0) : Kp (fun r => hb r.2) (f_X12_slips g0 x1 x2) := by
  unfold f_X12_slips
  refine Kp_bd (fun g0_1 h917 => ?_)
  have k918 : hb g0_1 := (K_f_X12_areBoth _ _ _ h_g0) _ h917
  refine Kp_jn (fun J : Int32 → Pic → _ => ∀ (s0_J23 : Int32) (g0_J23 : Pic), hb g0_J23 → Kp (fun r => hb r.2) (J s0_J23 g0_J23)) ?_ ?_
  · intro s0_J23 g0_J23 k919
    exact Kp_some k919
  · intro J23 j920
    refine Kp_ite ?_ ?_
    · skip
      refine Kp_bd2 (fun r_2 g0_2 h921 => ?_)
      have k922 : hb g0_2 := (K_f_X12_slipsOf _ _ _ k918) _ h921
      exact j920 _ _ k922
    · skip
      exact j920 _ _ k918
theorem K_f_X12_minutes (g0 : Pic) (x1 : Int32) (h_g0 : hb g0) : Kp (fun r => hb r.2) (f_X12_minutes g0 x1) := by
  unfold f_X12_minutes
  refine Kp_bd (fun r_1 h923 => ?_)
  refine Kp_jn (fun J : Int32 → _ => ∀ (s1_J16 : Int32), Kp (fun r => hb r.2) (J s1_J16)) ?_ ?_
  · intro s1_J16
    refine Kp_nmP (hb_pu (by decide) h_g0) (fun g0_2 k924 => ?_)
    refine Kp_ite ?_ ?_
    · skip
      refine Kp_bd (fun g0_3 h925 => ?_)
      have k926 : hb g0_3 := (K_f_X12_remembers _ k924) _ h925
      refine Kp_bd2 (fun r_4 g0_4 h927 => ?_)
      have k928 : hb g0_4 := (K_f_X12_goes _ _ _ k926) _ h927
      exact Kp_some k928
    · skip
      exact Kp_some k924
  · intro J16 j929
    refine Kp_ite ?_ ?_
    · skip
      exact j929 _
    · skip
      exact j929 _
theorem K_f_X12_codes (g0 : Pic) (h_g0 : hb g0) : Kp (fun r => hb r.2) (f_X12_codes g0) := by
  unfold f_X12_codes
  refine Kp_nmP (hb_pu (by decide) h_g0) (fun g0_1 k930 => ?_)
  refine Kp_ite ?_ ?_
  · skip
    refine Kp_bd (fun g0_2 h931 => ?_)
    have k932 : hb g0_2 := (K_f_X12_allCoded _ k930) _ h931
    exact Kp_some k932
  · skip
    exact Kp_some k930
theorem K_f_X12_odds_L55 (x1 : Int32) (x2 : Int32) (x3 : Int32) (n : Nat) (a : Int32 × Int32 × Pic) (h_a : hb a.2.2) : Kp (fun r => hb r.2) (f_X12_odds_L55 x1 x2 x3 n a) := by
  unfold f_X12_odds_L55
  induction n generalizing a with
  | zero => exact fun r h => by cases h
  | succ n ih =>
    obtain ⟨x4, x5, g0⟩ := a
    refine Kp_lp ?_
    refine Kp_ite ?_ ?_
    · skip
      exact Kp_some h_a
    · skip
      refine Kp_bd2 (fun r_3 g0_3 h933 => ?_)
      have k934 : hb g0_3 := (K_f_X12_slipsOf _ _ _ h_a) _ h933
      refine Kp_nm (fun x4_4 => ?_)
      refine Kp_nm (fun x5_5 => ?_)
      exact ih _ k934
theorem K_f_X12_odds (g0 : Pic) (x1 : Int32) (x2 : Int32) (x3 : Int32) (h_g0 : hb g0) : Kp (fun r => hb r.2) (f_X12_odds g0 x1 x2 x3) := by
  unfold f_X12_odds
  refine Kp_bd (fun r_1 h935 => ?_)
  refine Kp_jn (fun J : Int32 → _ => ∀ (s1_J35 : Int32), Kp (fun r => hb r.2) (J s1_J35)) ?_ ?_
  · intro s1_J35
    refine Kp_nmP (hb_pu (by decide) h_g0) (fun g0_2 k936 => ?_)
    refine Kp_ite ?_ ?_
    · skip
      refine Kp_bd (fun q938 h937 => ?_)
      have k939 : hb q938.2 := (K_f_X12_odds_L55 _ _ _ _ (10000, 0, g0_2) k936) _ h937
      obtain ⟨x4_6, g0_6⟩ := q938
      exact Kp_some k939
    · skip
      exact Kp_some k936
  · intro J35 j940
    refine Kp_jn (fun J : Unit → _ => ∀ (u941 : Unit), Kp (fun r => hb r.2) (J u941)) ?_ ?_
    · intro u941
      exact j940 _
    · intro J17 j942
      refine Kp_ite ?_ ?_
      · skip
        exact j942 _
      · skip
        refine Kp_bd (fun r_7 h943 => ?_)
        refine Kp_ite ?_ ?_
        · skip
          exact j942 _
        · skip
          refine Kp_bd (fun r_8 h944 => ?_)
          refine Kp_ite ?_ ?_
          · skip
            exact j940 _
          · skip
            exact j940 _
theorem K_f_X12_ahead (g0 : Pic) (x1 : Int32) (x2 : Int32) (h_g0 : hb g0) : Kp (fun r => hb r.2) (f_X12_ahead g0 x1 x2) := by
  unfold f_X12_ahead
  refine Kp_bd (fun r_1 h945 => ?_)
  refine Kp_jn (fun J : Int32 → _ => ∀ (s1_J28 : Int32), Kp (fun r => hb r.2) (J s1_J28)) ?_ ?_
  · intro s1_J28
    refine Kp_nmP (hb_pu (by decide) h_g0) (fun g0_2 k946 => ?_)
    refine Kp_ite ?_ ?_
    · skip
      refine Kp_bd (fun g0_3 h947 => ?_)
      have k948 : hb g0_3 := (K_f_X12_putsAside _ k946) _ h947
      refine Kp_bd2 (fun r_4 g0_4 h949 => ?_)
      have k950 : hb g0_4 := (K_f_X12_goes _ _ _ k948) _ h949
      refine Kp_bd (fun r_5 h951 => ?_)
      refine Kp_bd (fun g0_6 h952 => ?_)
      have k953 : hb g0_6 := (K_f_X12_comesBack _ k950) _ h952
      exact Kp_some k953
    · skip
      exact Kp_some k946
  · intro J28 j954
    refine Kp_ite ?_ ?_
    · skip
      exact j954 _
    · skip
      refine Kp_bd (fun r_7 h955 => ?_)
      refine Kp_ite ?_ ?_
      · skip
        exact j954 _
      · skip
        exact j954 _
theorem K_f_X12_trial (g0 : Pic) (x1 : Int32) (x2 : Int32) (h_g0 : hb g0) : Kp (fun r => hb r.2) (f_X12_trial g0 x1 x2) := by
  unfold f_X12_trial
  refine Kp_bd (fun r_1 h956 => ?_)
  refine Kp_jn (fun J : Int32 → _ => ∀ (s1_J16 : Int32), Kp (fun r => hb r.2) (J s1_J16)) ?_ ?_
  · intro s1_J16
    refine Kp_nmP (hb_pu (by decide) h_g0) (fun g0_2 k957 => ?_)
    refine Kp_ite ?_ ?_
    · skip
      refine Kp_bd (fun g0_3 h958 => ?_)
      have k959 : hb g0_3 := (K_f_X12_putsAside _ k957) _ h958
      refine Kp_bd2 (fun r_4 g0_4 h960 => ?_)
      have k961 : hb g0_4 := (K_f_X12_goes _ _ _ k959) _ h960
      refine Kp_jn (fun J : Int32 → _ => ∀ (s0_J55 : Int32), Kp (fun r => hb r.2) (J s0_J55)) ?_ ?_
      · intro s0_J55
        refine Kp_bd (fun g0_5 h962 => ?_)
        have k963 : hb g0_5 := (K_f_X12_comesBack _ k961) _ h962
        exact Kp_some k963
      · intro J55 j964
        refine Kp_ite ?_ ?_
        · skip
          refine Kp_bd (fun r_6 h965 => ?_)
          exact j964 _
        · skip
          refine Kp_bd (fun r_7 h966 => ?_)
          exact j964 _
    · skip
      exact Kp_some k957
  · intro J16 j967
    refine Kp_ite ?_ ?_
    · skip
      exact j967 _
    · skip
      exact j967 _
theorem K_f_X12_span_L37 (x1 : Int32) (x2 : Int32) (n : Nat) (a : Int32 × Int32 × Pic) (h_a : hb a.2.2) : Kp (fun r => hb r.2) (f_X12_span_L37 x1 x2 n a) := by
  unfold f_X12_span_L37
  induction n generalizing a with
  | zero => exact fun r h => by cases h
  | succ n ih =>
    obtain ⟨x3, x4, g0⟩ := a
    refine Kp_lp ?_
    refine Kp_ite ?_ ?_
    · skip
      exact Kp_some h_a
    · skip
      refine Kp_nmP (hb_pu (by decide) h_a) (fun g0_4 k968 => ?_)
      refine Kp_bd2 (fun r_5 g0_5 h969 => ?_)
      have k970 : hb g0_5 := (K_f_X12_goes _ _ _ k968) _ h969
      refine Kp_bd (fun r_6 h971 => ?_)
      refine Kp_bd (fun g0_7 h972 => ?_)
      have k973 : hb g0_7 := (K_f_X12_comesBack _ k970) _ h972
      refine Kp_jn (fun J : Int32 → _ => ∀ (s0_J101 : Int32), Kp (fun r => hb r.2) (J s0_J101)) ?_ ?_
      · intro s0_J101
        refine Kp_nm (fun x4_8 => ?_)
        exact ih _ k973
      · intro J101 j974
        refine Kp_ite ?_ ?_
        · skip
          exact j974 _
        · skip
          refine Kp_ite ?_ ?_
          · skip
            refine Kp_bd (fun r_9 h975 => ?_)
            exact j974 _
          · skip
            refine Kp_bd (fun r_10 h976 => ?_)
            exact j974 _
theorem K_f_X12_span (g0 : Pic) (x1 : Int32) (x2 : Int32) (h_g0 : hb g0) : Kp (fun r => hb r.2) (f_X12_span g0 x1 x2) := by
  unfold f_X12_span
  refine Kp_bd (fun r_1 h977 => ?_)
  refine Kp_jn (fun J : Int32 → _ => ∀ (s1_J16 : Int32), Kp (fun r => hb r.2) (J s1_J16)) ?_ ?_
  · intro s1_J16
    refine Kp_nmP (hb_pu (by decide) h_g0) (fun g0_2 k978 => ?_)
    refine Kp_ite ?_ ?_
    · skip
      refine Kp_bd (fun g0_3 h979 => ?_)
      have k980 : hb g0_3 := (K_f_X12_putsAside _ k978) _ h979
      refine Kp_bd (fun q982 h981 => ?_)
      have k983 : hb q982.2 := (K_f_X12_span_L37 _ _ _ ((-1), 1, g0_3) k980) _ h981
      obtain ⟨x3_11, g0_11⟩ := q982
      exact Kp_some k983
    · skip
      exact Kp_some k978
  · intro J16 j984
    refine Kp_ite ?_ ?_
    · skip
      exact j984 _
    · skip
      exact j984 _
