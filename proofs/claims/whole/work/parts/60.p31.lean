/-! a sum, as both read it -/
theorem En_fu {α γ : Type} {F : (α → Option γ) → α → Option γ} {a : α} {x : γ} (h : En F a x) : lp F fu a = some x := by
  obtain ⟨f, hf⟩ : ∃ f, fu = f + 2 := ⟨fu - 2, by have := fu_big; omega⟩
  rw [hf]
  exact En_lp h f
theorem lp_go {α γ : Type} {F : (α → Option γ) → α → Option γ} {a a' : α} (h : ∀ r, F r a = r a') : lp F fu a = lp F (fu - 1) a' := by
  obtain ⟨f, hf⟩ : ∃ f, fu = f + 1 := ⟨fu - 1, by have := fu_big; omega⟩
  rw [hf]
  exact h (lp F f)
theorem E11.fa {g g' : Pic} (h : E11 g g') : fa_ g' = fa_ g := fa_c (h 14 (by decide)) (h 15 (by decide)) (h 16 (by decide))
section K31
variable {g g0 gT gD gE gL gS g5 : Pic} {c : Nat → Nat} {n q s z : Nat}
def SRes (g gT g5 : Pic) (c : Nat → Nat) (n s z d : Nat) (X : Option (Int32 × Pic)) (Y : Option (Int32 × Pic × Pic)) : Prop :=
  (∃ v cs g' gT' g5' s', X = some (v, g') ∧ Y = some (1, g5', gT') ∧ E11 g g' ∧ PR g' gT' c n s' ∧ s + cs.length ≤ s' ∧ 0 < cs.length ∧ EM g5 g5' z cs ∧ RV (fa_ g) d cs v ∧ gT' 1 = gT 1) ∨
  (∃ v g' gT' g5', X = some (v, g') ∧ Y = some (0, g5', gT') ∧ E12 g g' ∧ FL g' gT' n ∧ gT' 1 = gT 1)
theorem PR.sum (h : PR g gT c n s) (h6 : g5 6 0 = nI z) (hz : z ≤ s) : SRes g gT g5 c n s z 2 (f_X12_sum g) (f_X5_readsSum g5 gT) := by
  have n4 := h.n4
  unfold f_X12_sum f_X5_readsSum
  have l40 : ¬ (400 : Int32) ≤ 0 := by decide
  have l00 : (0 : Int32) ≤ 0 := by decide
  rcases h.part g5 with ⟨v, x, g1, gT1, s1, p1, p2, p3, p4, p5, p6, p7, p8, p9, p10⟩ | ⟨v, g1, p1, p2, p3, p4, p5⟩
  · have s1n := p8.sn
    obtain ⟨g51, u1, u2⟩ := k_put h6 (by omega) gT1 x
    have r1 : RV (fa_ g) 2 [x] v := by rw [← p6]; exact (RV.push p5).mono (by omega)
    obtain ⟨g2, c1, c2, c3, ⟨d1, -, d3, -⟩ | ⟨d1, d2, d3, -, gT2, d4, d5, d6, d7⟩⟩ := p8.sign (x := 43) (by decide) (by decide) (by decide)
    · have d1 : f_X12_isSign g1 43 = some (0, g2) := d1
      have d3 : f_X10_takesSign gT1 43 = some (0, gT1) := d3
      have e12 := p8.2.2.1
      have A : f_X12_sum_L5 fu (v, g1) = some (v, g2) := by
        refine En_fu (Or.inl (fun r => ?_))
        simp only [bd_s, bd2_s, bd3_s, bd4_s, bd5_s, bd6_s, bd7_s, bd8_s, lr_l, lr_r, nm_s, jn_s, gdb_0, gdb_1, e12, if_true, d1]
      have B : f_X5_readsSum_L2 fu (0, g5, gT) = some (.inl (1, g51, gT1)) := by
        refine En_fu (Or.inl (fun r => ?_))
        simp only [bd_s, bd2_s, bd3_s, bd4_s, bd5_s, bd6_s, bd7_s, bd8_s, lr_l, lr_r, nm_s, jn_s, gdb_0, gdb_1, l40, if_false, p3, p4, p7, u1, l00, if_true, d3]
      refine Or.inl ⟨v, [x], g2, gT1, g51, s1, by rw [p1, bd2_s, A]; rfl, by rw [B]; rfl, p2.tr c1, c3, ?_, Nat.zero_lt_one, u2, r1, p10⟩
      show s + 1 ≤ s1
      omega
    · have d3 : f_X12_isSign g1 43 = some (1, g2) := d3
      have d5 : f_X10_takesSign gT1 43 = some (1, gT2) := d5
      have B : f_X5_readsSum_L2 fu (0, g5, gT) = f_X5_readsSum_L2 (fu - 1) (nI (0 + 1), g51, gT2) := by
        refine lp_go (fun r => ?_)
        simp only [bd_s, bd2_s, bd3_s, bd4_s, bd5_s, bd6_s, bd7_s, bd8_s, lr_l, lr_r, nm_s, jn_s, gdb_0, gdb_1, l40, if_false, p3, p4, p7, u1, l00, if_true, d5, i10]
        rfl
      obtain ⟨a, b, w1, w2, w3⟩ : ∃ a b, f_X12_sum_L5 fu (v, g1) = some a ∧ f_X5_readsSum_L2 (fu - 1) (nI (0 + 1), g51, gT2) = some b ∧
          ((∃ v cs g' gT' g5' s', a = (v, g') ∧ b = .inl (1, g5', gT') ∧ E11 g g' ∧ PR g' gT' c n s' ∧ s + cs.length ≤ s' ∧ 0 < cs.length ∧ EM g5 g5' z cs ∧ RV (fa_ g) 2 cs v ∧ gT' 1 = gT 1) ∨
           (∃ v g' gT' g5', a = (v, g') ∧ b = .inl (0, g5', gT') ∧ E12 g g' ∧ FL g' gT' n ∧ gT' 1 = gT 1)) := by
        refine lp_two3 (fun k a b => ∃ (v : Int32) (g1 g2 g5k gTk : Pic) (cs : List Int32) (sk : Nat), a = (v, g1) ∧ b = (nI (k + 1), g5k, gTk) ∧ g1 12 0 = -1 ∧ f_X12_isSign g1 43 = some (1, g2) ∧ E11 g (pu g2 11 0 (g2 11 0 + 1)) ∧ PR (pu g2 11 0 (g2 11 0 + 1)) gTk c n sk ∧ EM g5 g5k z cs ∧ s + cs.length + 1 ≤ sk ∧ k + 1 ≤ cs.length ∧ RV (fa_ g) 2 cs v ∧ gTk 1 = gT 1) 400 (fun (a : Int32 × Pic) (b : (Int32 × Pic × Pic) ⊕ (Pic × Pic)) =>
          ((∃ v cs g' gT' g5' s', a = (v, g') ∧ b = .inl (1, g5', gT') ∧ E11 g g' ∧ PR g' gT' c n s' ∧ s + cs.length ≤ s' ∧ 0 < cs.length ∧ EM g5 g5' z cs ∧ RV (fa_ g) 2 cs v ∧ gT' 1 = gT 1) ∨
           (∃ v g' gT' g5', a = (v, g') ∧ b = .inl (0, g5', gT') ∧ E12 g g' ∧ FL g' gT' n ∧ gT' 1 = gT 1))) ?_ ?_ (N := fu) (M := fu - 1) (by have := fu_big; omega) (by have := fu_big; omega) ⟨v, g1, g2, g51, gT2, [x], _, rfl, rfl, p8.2.2.1, d3, (p2.tr c1).pu, by rw [c2]; exact d6, u2, ?_, Nat.le_refl _, r1, d7.trans p10⟩
        · rintro k hk _ _ ⟨v, g1, g2, g5k, gTk, cs, sk, rfl, rfl, j1, j2, j3, j4, j5, j6, j7, j8, j9⟩
          have skn := j4.sn
          have nk : ¬ (400 : Int32) ≤ nI (k + 1) := nI_ge (b := 400) (by omega) (by omega)
          have np : ¬ nI (k + 1) ≤ 0 := nI_ge (b := k + 1) (a := 0) (by omega) (by omega)
          rcases j4.part g5k with ⟨v', x', g3, gT3, s3, q1, q2, q3, q4, q5, q6, q7, q8, q9, q10⟩ | ⟨v', g3, q1, q2, q3, q4, q5⟩
          · have s3n := q8.sn
            obtain ⟨ga, u1, u2⟩ := k_put j5.1 (by omega) gT3 x'
            obtain ⟨gb, y1, y2⟩ := k_put u2.1 (by show z + cs.length + 1 < 400; omega) gT3 2005
            have em : EM g5 gb z (cs ++ ([x'] ++ [2005])) := j5.tr (u2.tr y2)
            have rv : RV (fa_ g) 2 (cs ++ ([x'] ++ [2005])) (v + v') := by
              rw [← q6, j3.fa]
              exact RV.bin j8 (RV.push q5) (by decide) (by decide) (by omega) (by omega)
            have ln : (cs ++ ([x'] ++ [2005])).length = cs.length + 2 := by rw [List.length_append]; rfl
            have e12 := q8.2.2.1
            obtain ⟨g4, c1, c2, c3, ⟨d1, -, d3, -⟩ | ⟨d1, d2, d3, -, gT4, d4, d5, d6, d7⟩⟩ := q8.sign (x := 43) (by decide) (by decide) (by decide)
            · have d1 : f_X12_isSign g3 43 = some (0, g4) := d1
              have d3 : f_X10_takesSign gT3 43 = some (0, gT3) := d3
              refine Or.inr ⟨(v + v', g4), .inl (1, gb, gT3), Or.inl ⟨_, _, g4, gT3, gb, s3, rfl, rfl, (j3.tr q2).tr c1, c3, by rw [ln]; omega, by rw [ln]; omega, em, rv, q10.trans j9⟩, Or.inr ⟨(v + v', g3), fun r => ?_, fun r => ?_⟩, Or.inl (fun r => ?_)⟩
              · simp only [bd_s, bd2_s, bd3_s, bd4_s, bd5_s, bd6_s, bd7_s, bd8_s, lr_l, lr_r, nm_s, jn_s, gdb_0, gdb_1, j1, if_true, j2, i10, if_false, q1]
              · simp only [bd_s, bd2_s, bd3_s, bd4_s, bd5_s, bd6_s, bd7_s, bd8_s, lr_l, lr_r, nm_s, jn_s, gdb_0, gdb_1, e12, if_true, d1]
              · simp only [bd_s, bd2_s, bd3_s, bd4_s, bd5_s, bd6_s, bd7_s, bd8_s, lr_l, lr_r, nm_s, jn_s, gdb_0, gdb_1, nk, if_false, q3, q4, q7, u1, np, y1, d3, if_true]
            · have d3 : f_X12_isSign g3 43 = some (1, g4) := d3
              have d5 : f_X10_takesSign gT3 43 = some (1, gT4) := d5
              have sb := sc_ge (p := isB) (c := c) (n := n) (q := s3 + 1)
              refine Or.inl ⟨(v + v', g3), (nI (k + 1 + 1), gb, gT4), ⟨_, g3, g4, gb, gT4, _, _, rfl, rfl, e12, d3, ((j3.tr q2).tr c1).pu, by rw [c2]; exact d6, em, by rw [ln]; omega, by rw [ln]; omega, rv, d7.trans (q10.trans j9)⟩, fun r => ?_, fun r => ?_⟩
              · simp only [bd_s, bd2_s, bd3_s, bd4_s, bd5_s, bd6_s, bd7_s, bd8_s, lr_l, lr_r, nm_s, jn_s, gdb_0, gdb_1, j1, if_true, j2, i10, if_false, q1]
              · simp only [bd_s, bd2_s, bd3_s, bd4_s, bd5_s, bd6_s, bd7_s, bd8_s, lr_l, lr_r, nm_s, jn_s, gdb_0, gdb_1, nk, if_false, q3, q4, q7, u1, np, y1, d5, i10, nI_1]
          · have ne := q5.ne n4
            refine Or.inr ⟨(v + v', g3), .inl (0, g5k, pu gTk 7 0 (nI sk)), Or.inr ⟨_, g3, _, g5k, rfl, rfl, j3.to.tr q2, q5, by rw [pu_o (by decide)]; exact j9⟩, Or.inr ⟨(v + v', g3), fun r => ?_, fun r => ?_⟩, Or.inl (fun r => ?_)⟩
            · simp only [bd_s, bd2_s, bd3_s, bd4_s, bd5_s, bd6_s, bd7_s, bd8_s, lr_l, lr_r, nm_s, jn_s, gdb_0, gdb_1, j1, if_true, j2, i10, if_false, q1]
            · simp only [ne, if_false]
            · simp only [bd_s, bd2_s, bd3_s, bd4_s, bd5_s, bd6_s, bd7_s, bd8_s, lr_l, lr_r, nm_s, jn_s, gdb_0, gdb_1, nk, if_false, q3, if_true, q4]
        · rintro _ _ ⟨v, g1, g2, g5k, gTk, cs, sk, rfl, rfl, j1, j2, j3, j4, j5, j6, j7, j8, j9⟩
          have skn := j4.sn
          omega
        · have sb := sc_ge (p := isB) (c := c) (n := n) (q := s1 + 1)
          show s + 1 + 1 ≤ _
          omega
      rcases w3 with ⟨v', cs, g', gT', g5', s', rfl, rfl, e1, e2, e3, e4, e5, e6, e7⟩ | ⟨v', g', gT', g5', rfl, rfl, e1, e2, e3⟩
      · exact Or.inl ⟨v', cs, g', gT', g5', s', by rw [p1, bd2_s, w1]; rfl, by rw [B, w2]; rfl, e1, e2, e3, e4, e5, e6, e7⟩
      · exact Or.inr ⟨v', g', gT', g5', by rw [p1, bd2_s, w1]; rfl, by rw [B, w2]; rfl, e1, e2, e3⟩
  · have ne := p5.ne n4
    have A : f_X12_sum_L5 fu (v, g1) = some (v, g1) := by
      refine En_fu (Or.inl (fun r => ?_))
      simp only [ne, if_false]
    have B : f_X5_readsSum_L2 fu (0, g5, gT) = some (.inl (0, g5, pu gT 7 0 (nI s))) := by
      refine En_fu (Or.inl (fun r => ?_))
      simp only [bd_s, bd2_s, bd3_s, bd4_s, bd5_s, bd6_s, bd7_s, bd8_s, lr_l, lr_r, nm_s, jn_s, gdb_0, gdb_1, l40, if_false, p3, if_true, p4]
    exact Or.inr ⟨v, g1, _, g5, by rw [p1, bd2_s, A]; rfl, by rw [B]; rfl, p2, p5, by rw [pu_o (by decide)]⟩
end K31
