/-! the law's reader: its first start stays 0 -/
def hz (g : Pic) : Prop := g 3 0 = 0
theorem hz_pu {g : Pic} {k i : Nat} {v : Int32} (q : k ≠ 3) (h : hz g) : hz (pu g k i v) := by
  unfold hz
  rw [pu_o (fun z => q z.symm)]
  exact h
theorem Kp_bd3 {α β γ δ : Type} {P : β → Prop} {x : Option (α × γ × δ)} {f : α → γ → δ → Option β} (h : ∀ a b c, x = some (a, b, c) → Kp P (f a b c)) : Kp P (bd3 x f) := fun r e => by
  obtain ⟨a, b, c, h1, h2⟩ := bd3_el e
  exact h a b c h1 r h2
theorem Kp_nmZ {β : Type} {P : β → Prop} {e : Pic} {f : Pic → Option β} (he : hz e) (h : ∀ v, hz v → Kp P (f v)) : Kp P (nm e f) := h e he
theorem Kp_gdiE {β : Type} {P : β → Prop} {i : Int32} {n : Nat} {x : Option β} (h : vp_in i n → Kp P x) : Kp P (gdi i n x) := fun r e => h (gdi_el e).1 r (gdi_el e).2

theorem Z_f_X5_put (g0 : Pic) (g1 : Pic) (x1 : Int32) (h_g0 : hz g0) : Kp (fun r => hz r.2) (f_X5_put g0 g1 x1) := by
  unfold f_X5_put
  refine Kp_jn (fun J : Pic → _ => ∀ (g0_J32 : Pic), hz g0_J32 → Kp (fun r => hz r.2) (J g0_J32)) ?_ ?_
  · intro g0_J32 k1
    exact Kp_some k1
  · intro J32 j2
    refine Kp_ite ?_ ?_
    · skip
      exact j2 _ h_g0
    · skip
      refine Kp_gdi ?_
      refine Kp_nmZ (hz_pu (by decide) h_g0) (fun g0_2 k3 => ?_)
      refine Kp_nmZ (hz_pu (by decide) k3) (fun g0_3 k4 => ?_)
      exact j2 _ k4
theorem Z_f_X5_readsSum_L2 (n : Nat) (a : Int32 × Pic × Pic) (h_a : hz a.2.1) : Kp (Sum.elim (fun q => hz q.2.1) (fun q => hz q.1)) (f_X5_readsSum_L2 n a) := by
  unfold f_X5_readsSum_L2
  induction n generalizing a with
  | zero => exact fun r h => by cases h
  | succ n ih =>
    obtain ⟨x1, g0, g1⟩ := a
    refine Kp_lp ?_
    refine Kp_ite ?_ ?_
    · skip
      exact Kp_some h_a
    · skip
      refine Kp_bd (fun r_1 h5 => ?_)
      refine Kp_ite ?_ ?_
      · skip
        refine Kp_bd2 (fun r_7 g1_7 h6 => ?_)
        refine Kp_gdb (fun h7 => ?_)
        exact Kp_some h_a
      · skip
        refine Kp_bd (fun g1_2 h8 => ?_)
        refine Kp_bd2 (fun r_3 g0_3 h9 => ?_)
        have k10 : hz g0_3 := (Z_f_X5_put _ _ _ h_a) _ h9
        refine Kp_jn (fun J : Pic → _ => ∀ (g0_J52 : Pic), hz g0_J52 → Kp (Sum.elim (fun q => hz q.2.1) (fun q => hz q.1)) (J g0_J52)) ?_ ?_
        · intro g0_J52 k11
          refine Kp_bd2 (fun r_4 g1_4 h12 => ?_)
          refine Kp_ite ?_ ?_
          · skip
            exact Kp_some k11
          · skip
            refine Kp_nm (fun x1_5 => ?_)
            exact ih _ k11
        · intro J52 j13
          refine Kp_ite ?_ ?_
          · skip
            exact j13 _ k10
          · skip
            refine Kp_bd2 (fun r_6 g0_6 h14 => ?_)
            have k15 : hz g0_6 := (Z_f_X5_put _ _ _ k10) _ h14
            exact j13 _ k15
theorem Z_f_X5_readsSum (g0 : Pic) (g1 : Pic) (h_g0 : hz g0) : Kp (fun r => hz r.2.1) (f_X5_readsSum g0 g1) := by
  unfold f_X5_readsSum
  refine Kp_lr (fun a h16 => ?_) (fun q18 h17 => ?_)
  · exact (Z_f_X5_readsSum_L2 _ (0, g0, g1) h_g0) _ h16
  · have k19 : hz q18.1 := (Z_f_X5_readsSum_L2 _ (0, g0, g1) h_g0) _ h17
    obtain ⟨g0_9, g1_9⟩ := q18
    refine Kp_bd2 (fun r_10 g1_10 h20 => ?_)
    refine Kp_gdb (fun h21 => ?_)
    exact Kp_some k19
theorem Z_f_X5_readsCondition_L21 (Af : Pic → Pic → Int32 → Option (Int32 × Pic × Pic)) (x1 : Int32) (x2 : Int32) (n : Nat) (a : Int32 × Pic × Pic) (hAf : ∀ g g1 x, hz g → Kp (fun r => hz r.2.1) (Af g g1 x)) (h_a : hz a.2.1) : Kp (Sum.elim (fun q => hz q.2.1) (fun q => hz q.1)) (f_X5_readsCondition_L21 Af x1 x2 n a) := by
  unfold f_X5_readsCondition_L21
  induction n generalizing a with
  | zero => exact fun r h => by cases h
  | succ n ih =>
    obtain ⟨x3, g0, g1⟩ := a
    refine Kp_lp ?_
    refine Kp_ite ?_ ?_
    · skip
      exact Kp_some h_a
    · skip
      refine Kp_bd2 (fun r_2 g1_2 h22 => ?_)
      refine Kp_ite ?_ ?_
      · skip
        exact Kp_some h_a
      · skip
        refine Kp_bd3 (fun r_3 g0_3 g1_3 h23 => ?_)
        have k24 : hz g0_3 := (hAf _ _ _ h_a) _ h23
        refine Kp_ite ?_ ?_
        · skip
          exact Kp_some k24
        · skip
          refine Kp_bd2 (fun r_4 g0_4 h25 => ?_)
          have k26 : hz g0_4 := (Z_f_X5_put _ _ _ k24) _ h25
          refine Kp_nm (fun x3_5 => ?_)
          exact ih _ k26
theorem Z_f_X5_readsCondition_L2 (Af : Pic → Pic → Int32 → Option (Int32 × Pic × Pic)) (x1 : Int32) (n : Nat) (a : Int32 × Pic × Pic) (hAf : ∀ g g1 x, hz g → Kp (fun r => hz r.2.1) (Af g g1 x)) (h_a : hz a.2.1) : Kp (Sum.elim (fun q => hz q.2.1) (fun q => hz q.1)) (f_X5_readsCondition_L2 Af x1 n a) := by
  unfold f_X5_readsCondition_L2
  induction n generalizing a with
  | zero => exact fun r h => by cases h
  | succ n ih =>
    obtain ⟨x2, g0, g1⟩ := a
    refine Kp_lp ?_
    refine Kp_ite ?_ ?_
    · skip
      exact Kp_some h_a
    · skip
      refine Kp_bd3 (fun r_1 g0_1 g1_1 h27 => ?_)
      have k28 : hz g0_1 := (hAf _ _ _ h_a) _ h27
      refine Kp_ite ?_ ?_
      · skip
        exact Kp_some k28
      · skip
        refine Kp_lr (fun a h29 => ?_) (fun q31 h30 => ?_)
        · exact (Z_f_X5_readsCondition_L21 _ _ _ _ (0, g0_1, g1_1) hAf k28) _ h29
        · have k32 : hz q31.1 := (Z_f_X5_readsCondition_L21 _ _ _ _ (0, g0_1, g1_1) hAf k28) _ h30
          obtain ⟨g0_6, g1_6⟩ := q31
          refine Kp_jn (fun J : Pic → _ => ∀ (g0_J76 : Pic), hz g0_J76 → Kp (Sum.elim (fun q => hz q.2.1) (fun q => hz q.1)) (J g0_J76)) ?_ ?_
          · intro g0_J76 k33
            refine Kp_bd2 (fun r_7 g1_7 h34 => ?_)
            refine Kp_ite ?_ ?_
            · skip
              exact Kp_some k33
            · skip
              refine Kp_nm (fun x2_8 => ?_)
              exact ih _ k33
          · intro J76 j35
            refine Kp_ite ?_ ?_
            · skip
              exact j35 _ k32
            · skip
              refine Kp_bd2 (fun r_9 g0_9 h36 => ?_)
              have k37 : hz g0_9 := (Z_f_X5_put _ _ _ k32) _ h36
              exact j35 _ k37
theorem Z_f_X5_readsCondition (Af : Pic → Pic → Int32 → Option (Int32 × Pic × Pic)) (g0 : Pic) (g1 : Pic) (x1 : Int32) (hAf : ∀ g g1 x, hz g → Kp (fun r => hz r.2.1) (Af g g1 x)) (h_g0 : hz g0) : Kp (fun r => hz r.2.1) (f_X5_readsCondition Af g0 g1 x1) := by
  unfold f_X5_readsCondition
  refine Kp_lr (fun a h38 => ?_) (fun q40 h39 => ?_)
  · exact (Z_f_X5_readsCondition_L2 _ _ _ (0, g0, g1) hAf h_g0) _ h38
  · have k41 : hz q40.1 := (Z_f_X5_readsCondition_L2 _ _ _ (0, g0, g1) hAf h_g0) _ h39
    obtain ⟨g0_10, g1_10⟩ := q40
    refine Kp_bd2 (fun r_11 g1_11 h42 => ?_)
    refine Kp_gdb (fun h43 => ?_)
    exact Kp_some k41
theorem Z_F_X5_readsAtom (Af : Pic → Pic → Int32 → Option (Int32 × Pic × Pic)) (g0 : Pic) (g1 : Pic) (x1 : Int32) (hAf : ∀ g g1 x, hz g → Kp (fun r => hz r.2.1) (Af g g1 x)) (h_g0 : hz g0) : Kp (fun r => hz r.2.1) (F_X5_readsAtom Af g0 g1 x1) := by
  unfold F_X5_readsAtom
  refine Kp_bd (fun r_1 h44 => ?_)
  refine Kp_bd (fun r_2 h45 => ?_)
  refine Kp_jn (fun J : Pic → _ => ∀ (g1_J49 : Pic), Kp (fun r => hz r.2.1) (J g1_J49)) ?_ ?_
  · intro g1_J49
    refine Kp_ite ?_ ?_
    · skip
      refine Kp_ite ?_ ?_
      · skip
        refine Kp_bd2 (fun r_3 g1_3 h46 => ?_)
        refine Kp_ite ?_ ?_
        · skip
          refine Kp_bd2 (fun r_4 g1_4 h47 => ?_)
          refine Kp_ite ?_ ?_
          · skip
            refine Kp_bd3 (fun r_5 g0_5 g1_5 h48 => ?_)
            have k49 : hz g0_5 := (Z_f_X5_readsSum _ _ h_g0) _ h48
            refine Kp_ite ?_ ?_
            · skip
              exact Kp_some k49
            · skip
              refine Kp_bd2 (fun r_6 g1_6 h50 => ?_)
              refine Kp_jn (fun J : Int32 → Pic → Pic → _ => ∀ (s0_J213 : Int32) (g0_J213 : Pic) (g1_J213 : Pic), hz g0_J213 → Kp (fun r => hz r.2.1) (J s0_J213 g0_J213 g1_J213)) ?_ ?_
              · intro s0_J213 g0_J213 g1_J213 k51
                refine Kp_gdb (fun h52 => ?_)
                exact Kp_some k51
              · intro J213 j53
                refine Kp_ite ?_ ?_
                · skip
                  refine Kp_bd2 (fun r_10 g1_10 h54 => ?_)
                  exact j53 _ _ _ k49
                · skip
                  refine Kp_bd3 (fun r_8 g0_8 g1_8 h55 => ?_)
                  have k56 : hz g0_8 := (Z_f_X5_readsSum _ _ k49) _ h55
                  refine Kp_jn (fun J : Pic → _ => ∀ (g0_J212 : Pic), hz g0_J212 → Kp (fun r => hz r.2.1) (J g0_J212)) ?_ ?_
                  · intro g0_J212 k57
                    exact j53 _ _ _ k57
                  · intro J212 j58
                    refine Kp_ite ?_ ?_
                    · skip
                      exact j58 _ k56
                    · skip
                      refine Kp_bd2 (fun r_9 g0_9 h59 => ?_)
                      have k60 : hz g0_9 := (Z_f_X5_put _ _ _ k56) _ h59
                      refine Kp_ite ?_ ?_
                      · skip
                        exact j58 _ k60
                      · skip
                        exact j53 _ _ _ k60
          · skip
            refine Kp_bd2 (fun r_11 g0_11 h61 => ?_)
            have k62 : hz g0_11 := (Z_f_X5_put _ _ _ h_g0) _ h61
            refine Kp_gdb (fun h63 => ?_)
            exact Kp_some k62
        · skip
          refine Kp_bd2 (fun r_13 g0_13 h64 => ?_)
          have k65 : hz g0_13 := (Z_f_X5_put _ _ _ h_g0) _ h64
          refine Kp_gdb (fun h66 => ?_)
          exact Kp_some k65
      · skip
        refine Kp_bd3 (fun r_15 g0_15 g1_15 h67 => ?_)
        have k68 : hz g0_15 := (hAf _ _ _ h_g0) _ h67
        refine Kp_jn (fun J : Int32 → Pic → _ => ∀ (s0_J120 : Int32) (g0_J120 : Pic), hz g0_J120 → Kp (fun r => hz r.2.1) (J s0_J120 g0_J120)) ?_ ?_
        · intro s0_J120 g0_J120 k69
          refine Kp_gdb (fun h70 => ?_)
          exact Kp_some k69
        · intro J120 j71
          refine Kp_jn (fun J : Pic → _ => ∀ (g0_J119 : Pic), hz g0_J119 → Kp (fun r => hz r.2.1) (J g0_J119)) ?_ ?_
          · intro g0_J119 k72
            exact j71 _ _ k72
          · intro J119 j73
            refine Kp_ite ?_ ?_
            · skip
              exact j73 _ k68
            · skip
              refine Kp_bd2 (fun r_17 g0_17 h74 => ?_)
              have k75 : hz g0_17 := (Z_f_X5_put _ _ _ k68) _ h74
              refine Kp_ite ?_ ?_
              · skip
                exact j73 _ k75
              · skip
                exact j71 _ _ k75
    · skip
      refine Kp_bd3 (fun r_18 g0_18 g1_18 h76 => ?_)
      have k77 : hz g0_18 := (Z_f_X5_readsCondition _ _ _ _ hAf h_g0) _ h76
      refine Kp_jn (fun J : Int32 → Pic → _ => ∀ (s0_J90 : Int32) (g1_J90 : Pic), Kp (fun r => hz r.2.1) (J s0_J90 g1_J90)) ?_ ?_
      · intro s0_J90 g1_J90
        refine Kp_gdb (fun h78 => ?_)
        exact Kp_some k77
      · intro J90 j79
        refine Kp_jn (fun J : Pic → _ => ∀ (g1_J89 : Pic), Kp (fun r => hz r.2.1) (J g1_J89)) ?_ ?_
        · intro g1_J89
          exact j79 _ _
        · intro J89 j80
          refine Kp_ite ?_ ?_
          · skip
            exact j80 _
          · skip
            refine Kp_bd2 (fun r_20 g1_20 h81 => ?_)
            refine Kp_jn (fun J : Pic → _ => ∀ (g1_J85 : Pic), Kp (fun r => hz r.2.1) (J g1_J85)) ?_ ?_
            · intro g1_J85
              exact j79 _ _
            · intro J85 j82
              refine Kp_ite ?_ ?_
              · skip
                refine Kp_bd2 (fun r_21 g1_21 h83 => ?_)
                refine Kp_ite ?_ ?_
                · skip
                  exact j80 _
                · skip
                  exact j82 _
              · skip
                exact j82 _
  · intro J49 j84
    refine Kp_jn (fun J : Unit → _ => ∀ (u85 : Unit), Kp (fun r => hz r.2.1) (J u85)) ?_ ?_
    · intro u85
      refine Kp_ite ?_ ?_
      · skip
        refine Kp_bd (fun g1_22 h86 => ?_)
        exact j84 _
      · skip
        refine Kp_bd2 (fun r_23 g1_23 h87 => ?_)
        refine Kp_gdb (fun h88 => ?_)
        exact Kp_some h_g0
    · intro J28 j89
      refine Kp_ite ?_ ?_
      · skip
        refine Kp_ite ?_ ?_
        · skip
          exact j84 _
        · skip
          exact j89 _
      · skip
        exact j89 _
theorem Z_f_X5_atom (n : Nat) (a : Pic × Pic × Int32) (h_a : hz a.1) : Kp (fun r => hz r.2.1) (f_X5_atom n a) := by
  unfold f_X5_atom
  induction n generalizing a with
  | zero => exact fun r h => by cases h
  | succ n ih => exact Kp_lp (Z_F_X5_readsAtom _ _ _ _ (fun g g1 x hg => ih (g, g1, x) hg) h_a)
theorem Z_f_X5_cond (g0 g1 : Pic) (x1 : Int32) (h : hz g0) : Kp (fun r => hz r.2.1) (f_X5_cond g0 g1 x1) := Z_f_X5_readsCondition _ _ _ _ (fun g g1 x hg => Z_f_X5_atom 8 (g, g1, x) hg) h
theorem Kp_nm0 {α β : Type} {P : β → Prop} {e : α} {f : α → Option β} (h : Kp P (f e)) : Kp P (nm e f) := h
theorem in12 {x : Int32} (hin : vp_in x 12) : ∃ j, j < 12 ∧ x = nI j := by
  rcases below (x := x) (W := 12) (by omega) with h | h
  · exact h
  · exfalso
    rcases h with h | h
    · exact hin (Or.inl h)
    · refine hin (Or.inr ?_)
      rw [Int32.lt_iff_toInt_lt] at h
      have e : (nI 12).toInt = 12 := by decide
      show 12 ≤ x.toInt.toNat
      omega
theorem Z_f_X5_readsLine (g0 : Pic) (g1 : Pic) (h_g0 : hz g0) : Kp (fun r => hz r.2.1) (f_X5_readsLine g0 g1) := by
  unfold f_X5_readsLine
  refine Kp_bd2 (fun r_1 g1_1 h90 => ?_)
  refine Kp_jn (fun J : Unit → _ => ∀ (u91 : Unit), Kp (fun r => hz r.2.1) (J u91)) ?_ ?_
  · intro u91
    refine Kp_bd2 (fun r_2 g1_2 h92 => ?_)
    refine Kp_gdb (fun h93 => ?_)
    exact Kp_some h_g0
  · intro J19 j94
    refine Kp_ite ?_ ?_
    · skip
      exact j94 _
    · skip
      refine Kp_ite ?_ ?_
      · skip
        refine Kp_bd2 (fun r_4 g1_4 h95 => ?_)
        refine Kp_ite ?_ ?_
        · skip
          exact Kp_some h_g0
        · skip
          refine Kp_bd2 (fun r_5 g1_5 h96 => ?_)
          refine Kp_jn (fun J : Pic → Pic → _ => ∀ (g0_J67 : Pic) (g1_J67 : Pic), hz g0_J67 → Kp (fun r => hz r.2.1) (J g0_J67 g1_J67)) ?_ ?_
          · intro g0_J67 g1_J67 k97
            refine Kp_gdiE (fun hin => ?_)
            refine Kp_nm0 (Kp_gdi (Kp_nm0 (Kp_nm0 (Kp_gdi (Kp_nm0 (Kp_some ?_))))))
            obtain ⟨j, hj, ej⟩ := in12 hin
            show (if 0 = ((g0_J67 5 0) + 1).toNatClampNeg then _ else g0_J67 3 0) = 0
            rw [ej, nI_1, nI_clamp (by omega), if_neg (by omega)]
            exact k97
          · intro J67 j102
            refine Kp_ite ?_ ?_
            · skip
              exact j102 _ _ h_g0
            · skip
              refine Kp_bd3 (fun r_13 g0_13 g1_13 h103 => ?_)
              have k104 : hz g0_13 := (Z_f_X5_cond _ _ _ h_g0) _ h103
              refine Kp_ite ?_ ?_
              · skip
                exact Kp_some k104
              · skip
                exact j102 _ _ k104
      · skip
        exact j94 _
theorem Z_f_X5_readsText_L31 (n : Nat) (a : Int32 × Pic × Pic) (h_a : hz a.2.1) : Kp (Sum.elim (fun q => hz q.2.1) (fun q => hz q.1)) (f_X5_readsText_L31 n a) := by
  unfold f_X5_readsText_L31
  induction n generalizing a with
  | zero => exact fun r h => by cases h
  | succ n ih =>
    obtain ⟨x1, g0, g1⟩ := a
    refine Kp_lp ?_
    refine Kp_ite ?_ ?_
    · skip
      exact Kp_some h_a
    · skip
      refine Kp_bd3 (fun r_4 g0_4 g1_4 h105 => ?_)
      have k106 : hz g0_4 := (Z_f_X5_readsLine _ _ h_a) _ h105
      refine Kp_ite ?_ ?_
      · skip
        exact Kp_some k106
      · skip
        refine Kp_ite ?_ ?_
        · skip
          exact Kp_some k106
        · skip
          refine Kp_bd2 (fun r_5 g1_5 h107 => ?_)
          refine Kp_ite ?_ ?_
          · skip
            refine Kp_bd2 (fun r_7 g1_7 h108 => ?_)
            refine Kp_gdb (fun h109 => ?_)
            exact Kp_some k106
          · skip
            refine Kp_nm (fun x1_6 => ?_)
            exact ih _ k106
theorem Z_f_X5_readsText (g0 : Pic) (g1 : Pic) (h_g0 : hz g0) : Kp (fun r => hz r.2.1) (f_X5_readsText g0 g1) := by
  unfold f_X5_readsText
  refine Kp_bd (fun g1_1 h110 => ?_)
  refine Kp_nmZ (hz_pu (by decide) h_g0) (fun g0_2 k111 => ?_)
  refine Kp_nmZ (hz_pu (by decide) k111) (fun g0_3 k112 => ?_)
  refine Kp_ite ?_ ?_
  · skip
    exact Kp_some k112
  · skip
    refine Kp_lr (fun a h113 => ?_) (fun q115 h114 => ?_)
    · exact (Z_f_X5_readsText_L31 _ (0, g0_3, g1_1) k112) _ h113
    · have k116 : hz q115.1 := (Z_f_X5_readsText_L31 _ (0, g0_3, g1_1) k112) _ h114
      obtain ⟨g0_9, g1_9⟩ := q115
      refine Kp_bd2 (fun r_10 g1_10 h117 => ?_)
      refine Kp_gdb (fun h118 => ?_)
      exact Kp_some k116
