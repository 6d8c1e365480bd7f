/-! conditions joined by and, by or -/
def bo (v : Int32) : Prop := v = 0 ∨ v = 1
theorem and_jn {γ : Type} {v t : Int32} (hv : v = 0 ∨ v = 1) (ht : t = 0 ∨ t = 1) (f : Int32 → γ) : (if v = 0 then f 0 else if t = 0 then f 0 else f 1) = f (v &&& t) := by
  rcases hv with rfl | rfl <;> rcases ht with rfl | rfl <;> rfl
theorem or_jn {γ : Type} {v t : Int32} (hv : v = 0 ∨ v = 1) (ht : t = 0 ∨ t = 1) (f : Int32 → γ) : (if v = 0 then (if t = 0 then f 0 else f 1) else f 1) = f (v ||| t) := by
  rcases hv with rfl | rfl <;> rcases ht with rfl | rfl <;> rfl
theorem and_b {v t : Int32} (hv : v = 0 ∨ v = 1) (ht : t = 0 ∨ t = 1) : v &&& t = 0 ∨ v &&& t = 1 := by
  rcases hv with rfl | rfl <;> rcases ht with rfl | rfl <;> decide
theorem or_b {v t : Int32} (hv : v = 0 ∨ v = 1) (ht : t = 0 ∨ t = 1) : v ||| t = 0 ∨ v ||| t = 1 := by
  rcases hv with rfl | rfl <;> rcases ht with rfl | rfl <;> decide
def HA (Af : Pic → Option (Int32 × Pic)) (Kf : Pic → Pic → Int32 → Option (Int32 × Pic × Pic)) (c : Nat → Nat) (n D : Nat) (x1 : Int32) (d j : Nat) : Prop := ∀ (g gT g5 : Pic) (s z : Nat), PR g gT c n s → hb g → g 13 0 = nI D → g5 6 0 = nI z → z ≤ s → BRes g gT g5 c n s z d j (Af g) (Kf g5 gT x1)
section K33
variable {g g0 gT gD gE gL gS g5 : Pic} {c : Nat → Nat} {n q s z : Nat} {Af : Pic → Option (Int32 × Pic)} {Kf : Pic → Pic → Int32 → Option (Int32 × Pic × Pic)} {D d j : Nat} {x1 : Int32}
theorem e_every (hA : HA Af Kf c n D x1 d j) (h : PR g gT c n s) (hB : hb g) (h13 : g 13 0 = nI D) (h6 : g5 6 0 = nI z) (hz : z ≤ s) (x2 : Int32) :
    (∃ v cs g' gT' g5' s' g5a gTa, f_X12_every Af g = some (v, g') ∧ (v = 0 ∨ v = 1) ∧ Kf g5 gT x1 = some (1, g5a, gTa) ∧ f_X5_readsCondition_L21 Kf x1 x2 fu (0, g5a, gTa) = some (.inr (g5', gT')) ∧ E13 g g' ∧ g' 13 0 = g 13 0 ∧ PR g' gT' c n s' ∧ s + cs.length ≤ s' ∧ 0 < cs.length ∧ EM g5 g5' z cs ∧ RV (fa_ g) (d + 1) cs v ∧ gT' 1 = gT 1) ∨
    (∃ v g' gT' g5' g5a gTa, f_X12_every Af g = some (v, g') ∧ (v = 0 ∨ v = 1) ∧ Kf g5 gT x1 = some (1, g5a, gTa) ∧ f_X5_readsCondition_L21 Kf x1 x2 fu (0, g5a, gTa) = some (.inl (0, g5', gT')) ∧ E13 g g' ∧ FLk g' gT' n j ∧ gT' 1 = gT 1) ∨
    (∃ v g' gT' g5', f_X12_every Af g = some (v, g') ∧ (v = 0 ∨ v = 1) ∧ Kf g5 gT x1 = some (0, g5', gT') ∧ E13 g g' ∧ FLk g' gT' n j ∧ gT' 1 = gT 1) := by
  have n4 := h.n4
  rcases hA g gT g5 s z h hB h13 h6 hz with ⟨v, cs, g1, gT1, g51, s1, a1, a2, a3, a4, a5, a6, a7, a8, a9, a10, a11⟩ | ⟨v, g1, gT1, g51, a1, a2, a3, a4, a5, a6⟩
  · obtain ⟨a, b, w1, w2, w3⟩ : ∃ a b, f_X12_every_L5 Af fu (v, g1) = some a ∧ f_X5_readsCondition_L21 Kf x1 x2 fu (nI 0, g51, gT1) = some b ∧
        ((∃ v cs g' gT' g5' s', a = (v, g') ∧ (v = 0 ∨ v = 1) ∧ b = .inr (g5', gT') ∧ E13 g g' ∧ g' 13 0 = g 13 0 ∧ PR g' gT' c n s' ∧ s + cs.length ≤ s' ∧ 0 < cs.length ∧ EM g5 g5' z cs ∧ RV (fa_ g) (d + 1) cs v ∧ gT' 1 = gT 1) ∨
         (∃ v g' gT' g5', a = (v, g') ∧ (v = 0 ∨ v = 1) ∧ b = .inl (0, g5', gT') ∧ E13 g g' ∧ FLk g' gT' n j ∧ gT' 1 = gT 1)) := by
      refine lp_two3 (fun k a b => ∃ (v : Int32) (cs : List Int32) (g' gT' g5' : Pic) (s' : Nat), a = (v, g') ∧ b = (nI k, g5', gT') ∧ (v = 0 ∨ v = 1) ∧ E13 g g' ∧ g' 13 0 = g 13 0 ∧ PR g' gT' c n s' ∧ s + cs.length ≤ s' ∧ k + 1 ≤ cs.length ∧ EM g5 g5' z cs ∧ RV (fa_ g) (d + 1) cs v ∧ gT' 1 = gT 1) 400 (fun (a : Int32 × Pic) (b : (Int32 × Pic × Pic) ⊕ (Pic × Pic)) =>
        ((∃ v cs g' gT' g5' s', a = (v, g') ∧ (v = 0 ∨ v = 1) ∧ b = .inr (g5', gT') ∧ E13 g g' ∧ g' 13 0 = g 13 0 ∧ PR g' gT' c n s' ∧ s + cs.length ≤ s' ∧ 0 < cs.length ∧ EM g5 g5' z cs ∧ RV (fa_ g) (d + 1) cs v ∧ gT' 1 = gT 1) ∨
         (∃ v g' gT' g5', a = (v, g') ∧ (v = 0 ∨ v = 1) ∧ b = .inl (0, g5', gT') ∧ E13 g g' ∧ FLk g' gT' n j ∧ gT' 1 = gT 1))) ?_ ?_ (N := fu) (M := fu) (by have := fu_big; omega) (by have := fu_big; omega) ⟨v, cs, g1, gT1, g51, s1, rfl, rfl, a2, a4, a5, a6, a7, a8, a9, a10.mono (by omega), a11⟩
      · rintro k hk _ _ ⟨v, cs, g', gT', g5', s', rfl, rfl, j1, j2, j3, j4, j5, j6, j7, j8, j9⟩
        have sn := j4.sn
        have e12 := j4.2.2.1
        have nk : ¬ (400 : Int32) ≤ nI k := nI_ge (b := 400) (by omega) (by omega)
        rcases j4.take (k := 21) (strOk_all 21 (by decide) (by decide)) with ⟨-, ga, t1, t2, t3, t4, -, t6⟩ | ⟨-, ga, ta, t1, t2, t3, t4, -, -, t7, t8⟩
        · refine Or.inr ⟨(v, ga), .inr (g5', gT'), Or.inl ⟨v, cs, ga, gT', g5', s', rfl, j1, rfl, j2.tr t2.to.t13, by rw [t2 13 (by decide)]; exact j3, t4, j5, by omega, j7, j8, j9⟩, Or.inl (fun r => ?_), Or.inl (fun r => ?_)⟩
          · simp only [bd_s, bd2_s, bd3_s, bd4_s, bd5_s, bd6_s, bd7_s, bd8_s, lr_l, lr_r, nm_s, jn_s, gdb_0, gdb_1, e12, if_true, t1]
          · simp only [bd_s, bd2_s, bd3_s, bd4_s, bd5_s, bd6_s, bd7_s, bd8_s, lr_l, lr_r, nm_s, jn_s, gdb_0, gdb_1, nk, if_false, t6, if_true]
        · have sl := sc_ge (p := isB) (c := c) (n := n) (q := sc isL c n s')
          have Ea := j2.tr t2.to.t13
          have d13 : ga 13 0 = g 13 0 := by rw [t2 13 (by decide)]; exact j3
          rcases hA ga ta g5' _ _ t3 (hB.c Ea) (d13.trans h13) j7.1 (by omega) with ⟨t, ds, g3, gT3, g53, s3, b1, b2, b3, b4, b5, b6, b7, b8, b9, b10, b11⟩ | ⟨t, g3, gT3, g53, b1, b2, b3, b4, b5, b6⟩
          · have s3n := b6.sn
            obtain ⟨g54, u1, u2⟩ := k_put b9.1 (by omega) gT3 2001
            have ln : (cs ++ (ds ++ [2001])).length = cs.length + ds.length + 1 := by rw [List.length_append, List.length_append, ← Nat.add_assoc]; rfl
            refine Or.inl ⟨(v &&& t, g3), (nI (k + 1), g54, gT3), ⟨v &&& t, cs ++ (ds ++ [2001]), g3, gT3, g54, s3, rfl, rfl, and_b j1 b2, Ea.tr b4, b5.trans d13, b6, by rw [ln]; omega, by rw [ln]; omega, j7.tr (b9.tr u2), ?_, b11.trans (t8.trans j9)⟩, fun r => ?_, fun r => ?_⟩
            · rw [Ea.fa] at b10
              exact RV.bin j8 b10 (by decide) (by decide) (by omega) (by omega)
            · simp only [bd_s, bd2_s, bd3_s, bd4_s, bd5_s, bd6_s, bd7_s, bd8_s, lr_l, lr_r, nm_s, jn_s, gdb_0, gdb_1, e12, if_true, t1, i10, if_false, b1]
              exact and_jn j1 b2 (fun w => r (w, g3))
            · simp only [bd_s, bd2_s, bd3_s, bd4_s, bd5_s, bd6_s, bd7_s, bd8_s, lr_l, lr_r, nm_s, jn_s, gdb_0, gdb_1, nk, if_false, t7, i10, b3, u1, nI_1]
          · have ne := b5.ne n4
            refine Or.inr ⟨(v &&& t, g3), .inl (0, g53, gT3), Or.inr ⟨_, g3, gT3, g53, rfl, and_b j1 b2, rfl, Ea.tr b4, b5, b6.trans (t8.trans j9)⟩, Or.inr ⟨(v &&& t, g3), fun r => ?_, fun r => ?_⟩, Or.inl (fun r => ?_)⟩
            · simp only [bd_s, bd2_s, bd3_s, bd4_s, bd5_s, bd6_s, bd7_s, bd8_s, lr_l, lr_r, nm_s, jn_s, gdb_0, gdb_1, e12, if_true, t1, i10, if_false, b1]
              exact and_jn j1 b2 (fun w => r (w, g3))
            · simp only [ne, if_false]
            · simp only [bd_s, bd2_s, bd3_s, bd4_s, bd5_s, bd6_s, bd7_s, bd8_s, lr_l, lr_r, nm_s, jn_s, gdb_0, gdb_1, nk, if_false, t7, i10, b3, if_true]
      · rintro _ _ ⟨v, cs, g', gT', g5', s', rfl, rfl, j1, j2, j3, j4, j5, j6, j7, j8, j9⟩
        have sn := j4.sn
        omega
    rcases w3 with ⟨t, ds, g', gT', g5', s', rfl, e1, rfl, e3, e4, e5, e6, e7, e8, e9, e10⟩ | ⟨t, g', gT', g5', rfl, e1, rfl, e3, e4, e5⟩
    · refine Or.inl ⟨t, ds, g', gT', g5', s', g51, gT1, ?_, e1, a3, w2, e3, e4, e5, e6, e7, e8, e9, e10⟩
      unfold f_X12_every
      rw [a1, bd2_s, w1, bd_s]
      exact gdb_b e1 _
    · refine Or.inr (Or.inl ⟨t, g', gT', g5', g51, gT1, ?_, e1, a3, w2, e3, e4, e5⟩)
      unfold f_X12_every
      rw [a1, bd2_s, w1, bd_s]
      exact gdb_b e1 _
  · refine Or.inr (Or.inr ⟨v, g1, gT1, g51, ?_, a2, a3, a4, a5, a6⟩)
    have ne := a5.ne n4
    have A : f_X12_every_L5 Af fu (v, g1) = some (v, g1) := by
      refine En_fu (Or.inl (fun r => ?_))
      simp only [ne, if_false]
    unfold f_X12_every
    rw [a1, bd2_s, A, bd_s]
    exact gdb_b a2 _
theorem e_some (hA : HA Af Kf c n D x1 d j) (h : PR g gT c n s) (hB : hb g) (h13 : g 13 0 = nI D) (h6 : g5 6 0 = nI z) (hz : z ≤ s) : BRes g gT g5 c n s z (d + 2) j (f_X12_some Af g) (f_X5_readsCondition Kf g5 gT x1) := by
  have n4 := h.n4
  have l40 : ¬ (400 : Int32) ≤ 0 := by decide
  have l00 : (0 : Int32) ≤ 0 := by decide
  unfold f_X12_some f_X5_readsCondition
  have stop : ∀ (v : Int32) (g1 : Pic), ¬ g1 12 0 = -1 → f_X12_some_L5 Af fu (v, g1) = some (v, g1) := fun v g1 ne => by
    refine En_fu (Or.inl (fun r => ?_))
    simp only [ne, if_false]
  rcases e_every hA h hB h13 h6 hz 0 with ⟨v, cs, g1, gT1, g51, s1, ka, ta, a1, a2, a3, a3', a4, a5, a6, a7, a8, a9, a10, a11⟩ | ⟨v, g1, gT1, g51, ka, ta, a1, a2, a3, a3', a4, a5, a6⟩ | ⟨v, g1, gT1, g51, a1, a2, a3, a4, a5, a6⟩
  · have e12 := a6.2.2.1
    have r1 := a10.mono (e := d + 2) (by omega)
    rcases a6.take (k := 22) (strOk_all 22 (by decide) (by decide)) with ⟨-, g2, t1, t2, t3, t4, -, t6⟩ | ⟨-, g2, gT2, t1, t2, t3, t4, -, -, t7, t8⟩
    · have A : f_X12_some_L5 Af fu (v, g1) = some (v, g2) := by
        refine En_fu (Or.inl (fun r => ?_))
        simp only [bd_s, bd2_s, bd3_s, bd4_s, bd5_s, bd6_s, bd7_s, bd8_s, lr_l, lr_r, nm_s, jn_s, gdb_0, gdb_1, e12, if_true, t1]
      have B : f_X5_readsCondition_L2 Kf x1 fu (0, g5, gT) = some (.inl (1, g51, gT1)) := by
        refine En_fu (Or.inl (fun r => ?_))
        simp only [bd_s, bd2_s, bd3_s, bd4_s, bd5_s, bd6_s, bd7_s, bd8_s, lr_l, lr_r, nm_s, jn_s, gdb_0, gdb_1, l40, if_false, a3, i10, a3', l00, if_true, t6]
      refine Or.inl ⟨v, cs, g2, gT1, g51, s1, ?_, a2, by rw [B]; rfl, a4.tr t2.to.t13, by rw [t2 13 (by decide)]; exact a5, t4, a7, a8, a9, r1, a11⟩
      rw [a1, bd2_s, A, bd_s]
      exact gdb_b a2 _
    · have sl := sc_ge (p := isB) (c := c) (n := n) (q := sc isL c n s1)
      have B : f_X5_readsCondition_L2 Kf x1 fu (0, g5, gT) = f_X5_readsCondition_L2 Kf x1 (fu - 1) (nI (0 + 1), g51, gT2) := by
        refine lp_go (fun r => ?_)
        simp only [bd_s, bd2_s, bd3_s, bd4_s, bd5_s, bd6_s, bd7_s, bd8_s, lr_l, lr_r, nm_s, jn_s, gdb_0, gdb_1, l40, if_false, a3, i10, a3', l00, if_true, t7]
        rfl
      obtain ⟨a, b, w1, w2, w3⟩ : ∃ a b, f_X12_some_L5 Af fu (v, g1) = some a ∧ f_X5_readsCondition_L2 Kf x1 (fu - 1) (nI (0 + 1), g51, gT2) = some b ∧
          ((∃ v cs g' gT' g5' s', a = (v, g') ∧ (v = 0 ∨ v = 1) ∧ b = .inl (1, g5', gT') ∧ E13 g g' ∧ g' 13 0 = g 13 0 ∧ PR g' gT' c n s' ∧ s + cs.length ≤ s' ∧ 0 < cs.length ∧ EM g5 g5' z cs ∧ RV (fa_ g) (d + 2) cs v ∧ gT' 1 = gT 1) ∨
           (∃ v g' gT' g5', a = (v, g') ∧ (v = 0 ∨ v = 1) ∧ b = .inl (0, g5', gT') ∧ E13 g g' ∧ FLk g' gT' n j ∧ gT' 1 = gT 1)) := by
        refine lp_two3 (fun k a b => ∃ (v : Int32) (cs : List Int32) (g1 g' gT' g5' : Pic) (s' : Nat), a = (v, g1) ∧ b = (nI (k + 1), g5', gT') ∧ g1 12 0 = -1 ∧ f_X12_has 22 g1 = some (1, g') ∧ (v = 0 ∨ v = 1) ∧ E13 g g' ∧ g' 13 0 = g 13 0 ∧ PR g' gT' c n s' ∧ s + cs.length + 1 ≤ s' ∧ k + 1 ≤ cs.length ∧ EM g5 g5' z cs ∧ RV (fa_ g) (d + 2) cs v ∧ gT' 1 = gT 1) 400 (fun (a : Int32 × Pic) (b : (Int32 × Pic × Pic) ⊕ (Pic × Pic)) =>
          ((∃ v cs g' gT' g5' s', a = (v, g') ∧ (v = 0 ∨ v = 1) ∧ b = .inl (1, g5', gT') ∧ E13 g g' ∧ g' 13 0 = g 13 0 ∧ PR g' gT' c n s' ∧ s + cs.length ≤ s' ∧ 0 < cs.length ∧ EM g5 g5' z cs ∧ RV (fa_ g) (d + 2) cs v ∧ gT' 1 = gT 1) ∨
           (∃ v g' gT' g5', a = (v, g') ∧ (v = 0 ∨ v = 1) ∧ b = .inl (0, g5', gT') ∧ E13 g g' ∧ FLk g' gT' n j ∧ gT' 1 = gT 1))) ?_ ?_ (N := fu) (M := fu - 1) (by have := fu_big; omega) (by have := fu_big; omega) ⟨v, cs, g1, g2, gT2, g51, _, rfl, rfl, e12, t1, a2, a4.tr t2.to.t13, by rw [t2 13 (by decide)]; exact a5, t3, by omega, a8, a9, r1, t8.trans a11⟩
        · rintro k hk _ _ ⟨v, cs, g1, g', gT', g5', s', rfl, rfl, i1, i2, j1, j2, j3, j4, j5, j6, j7, j8, j9⟩
          have sn := j4.sn
          have nk : ¬ (400 : Int32) ≤ nI (k + 1) := nI_ge (b := 400) (by omega) (by omega)
          have np : ¬ nI (k + 1) ≤ 0 := nI_ge (b := k + 1) (a := 0) (by omega) (by omega)
          rcases e_every hA j4 (hB.c j2) (j3.trans h13) j7.1 (by omega) (nI (k + 1)) with ⟨t, ds, g3, gT3, g53, s3, ka, ta, b1, b2, b3, b3', b4, b5, b6, b7, b8, b9, b10, b11⟩ | ⟨t, g3, gT3, g53, ka, ta, b1, b2, b3, b3', b4, b5, b6⟩ | ⟨t, g3, gT3, g53, b1, b2, b3, b4, b5, b6⟩
          · have s3n := b6.sn
            obtain ⟨g54, u1, u2⟩ := k_put b9.1 (by omega) gT3 2002
            have ln : (cs ++ (ds ++ [2002])).length = cs.length + ds.length + 1 := by rw [List.length_append, List.length_append, ← Nat.add_assoc]; rfl
            have em : EM g5 g54 z (cs ++ (ds ++ [2002])) := j7.tr (b9.tr u2)
            have rv : RV (fa_ g) (d + 2) (cs ++ (ds ++ [2002])) (v ||| t) := by
              rw [j2.fa] at b10
              exact RV.bin j8 b10 (by decide) (by decide) (by omega) (by omega)
            have f12 := b6.2.2.1
            have st : ∀ r : Int32 × Pic → Option (Int32 × Pic), (if v = 0 then (if t = 0 then r (0, g3) else r (1, g3)) else r (1, g3)) = r (v ||| t, g3) := fun r => or_jn j1 b2 (fun w => r (w, g3))
            rcases b6.take (k := 22) (strOk_all 22 (by decide) (by decide)) with ⟨-, g4, y1, y2, y3, y4, -, y6⟩ | ⟨-, g4, gT4, y1, y2, y3, y4, -, -, y7, y8⟩
            · refine Or.inr ⟨(v ||| t, g4), .inl (1, g54, gT3), Or.inl ⟨_, _, g4, gT3, g54, s3, rfl, or_b j1 b2, rfl, (j2.tr b4).tr y2.to.t13, by rw [y2 13 (by decide)]; exact b5.trans j3, y4, by rw [ln]; omega, by rw [ln]; omega, em, rv, b11.trans j9⟩, Or.inr ⟨(v ||| t, g3), fun r => ?_, fun r => ?_⟩, Or.inl (fun r => ?_)⟩
              · simp only [bd_s, bd2_s, bd3_s, bd4_s, bd5_s, bd6_s, bd7_s, bd8_s, lr_l, lr_r, nm_s, jn_s, gdb_0, gdb_1, i1, if_true, i2, i10, if_false, b1]
                exact st r
              · simp only [bd_s, bd2_s, bd3_s, bd4_s, bd5_s, bd6_s, bd7_s, bd8_s, lr_l, lr_r, nm_s, jn_s, gdb_0, gdb_1, f12, if_true, y1]
              · simp only [bd_s, bd2_s, bd3_s, bd4_s, bd5_s, bd6_s, bd7_s, bd8_s, lr_l, lr_r, nm_s, jn_s, gdb_0, gdb_1, nk, if_false, b3, i10, b3', np, u1, y6, if_true]
            · have sl2 := sc_ge (p := isB) (c := c) (n := n) (q := sc isL c n s3)
              refine Or.inl ⟨(v ||| t, g3), (nI (k + 1 + 1), g54, gT4), ⟨_, _, g3, g4, gT4, g54, _, rfl, rfl, f12, y1, or_b j1 b2, (j2.tr b4).tr y2.to.t13, by rw [y2 13 (by decide)]; exact b5.trans j3, y3, by rw [ln]; omega, by rw [ln]; omega, em, rv, y8.trans (b11.trans j9)⟩, fun r => ?_, fun r => ?_⟩
              · simp only [bd_s, bd2_s, bd3_s, bd4_s, bd5_s, bd6_s, bd7_s, bd8_s, lr_l, lr_r, nm_s, jn_s, gdb_0, gdb_1, i1, if_true, i2, i10, if_false, b1]
                exact st r
              · simp only [bd_s, bd2_s, bd3_s, bd4_s, bd5_s, bd6_s, bd7_s, bd8_s, lr_l, lr_r, nm_s, jn_s, gdb_0, gdb_1, nk, if_false, b3, i10, b3', np, u1, y7, nI_1]
          · have ne := b5.ne n4
            refine Or.inr ⟨(v ||| t, g3), .inl (0, g53, gT3), Or.inr ⟨_, g3, gT3, g53, rfl, or_b j1 b2, rfl, j2.tr b4, b5, b6.trans j9⟩, Or.inr ⟨(v ||| t, g3), fun r => ?_, fun r => ?_⟩, Or.inl (fun r => ?_)⟩
            · simp only [bd_s, bd2_s, bd3_s, bd4_s, bd5_s, bd6_s, bd7_s, bd8_s, lr_l, lr_r, nm_s, jn_s, gdb_0, gdb_1, i1, if_true, i2, i10, if_false, b1]
              exact or_jn j1 b2 (fun w => r (w, g3))
            · simp only [ne, if_false]
            · simp only [bd_s, bd2_s, bd3_s, bd4_s, bd5_s, bd6_s, bd7_s, bd8_s, lr_l, lr_r, nm_s, jn_s, gdb_0, gdb_1, nk, if_false, b3, i10, b3']
          · have ne := b5.ne n4
            refine Or.inr ⟨(v ||| t, g3), .inl (0, g53, gT3), Or.inr ⟨_, g3, gT3, g53, rfl, or_b j1 b2, rfl, j2.tr b4, b5, b6.trans j9⟩, Or.inr ⟨(v ||| t, g3), fun r => ?_, fun r => ?_⟩, Or.inl (fun r => ?_)⟩
            · simp only [bd_s, bd2_s, bd3_s, bd4_s, bd5_s, bd6_s, bd7_s, bd8_s, lr_l, lr_r, nm_s, jn_s, gdb_0, gdb_1, i1, if_true, i2, i10, if_false, b1]
              exact or_jn j1 b2 (fun w => r (w, g3))
            · simp only [ne, if_false]
            · simp only [bd_s, bd2_s, bd3_s, bd4_s, bd5_s, bd6_s, bd7_s, bd8_s, lr_l, lr_r, nm_s, jn_s, gdb_0, gdb_1, nk, if_false, b3, if_true]
        · rintro _ _ ⟨v, cs, g1, g', gT', g5', s', rfl, rfl, i1, i2, j1, j2, j3, j4, j5, j6, j7, j8, j9⟩
          have sn := j4.sn
          omega
      rcases w3 with ⟨t, ds, g', gT', g5', s', rfl, e1, rfl, e3, e4, e5, e6, e7, e8, e9, e10⟩ | ⟨t, g', gT', g5', rfl, e1, rfl, e3, e4, e5⟩
      · refine Or.inl ⟨t, ds, g', gT', g5', s', ?_, e1, by rw [B, w2]; rfl, e3, e4, e5, e6, e7, e8, e9, e10⟩
        rw [a1, bd2_s, w1, bd_s]
        exact gdb_b e1 _
      · refine Or.inr ⟨t, g', gT', g5', ?_, e1, by rw [B, w2]; rfl, e3, e4, e5⟩
        rw [a1, bd2_s, w1, bd_s]
        exact gdb_b e1 _
  · have B : f_X5_readsCondition_L2 Kf x1 fu (0, g5, gT) = some (.inl (0, g51, gT1)) := by
      refine En_fu (Or.inl (fun r => ?_))
      simp only [bd_s, bd2_s, bd3_s, bd4_s, bd5_s, bd6_s, bd7_s, bd8_s, lr_l, lr_r, nm_s, jn_s, gdb_0, gdb_1, l40, if_false, a3, i10, a3']
    refine Or.inr ⟨v, g1, gT1, g51, ?_, a2, by rw [B]; rfl, a4, a5, a6⟩
    rw [a1, bd2_s, stop v g1 (a5.ne n4), bd_s]
    exact gdb_b a2 _
  · have B : f_X5_readsCondition_L2 Kf x1 fu (0, g5, gT) = some (.inl (0, g51, gT1)) := by
      refine En_fu (Or.inl (fun r => ?_))
      simp only [bd_s, bd2_s, bd3_s, bd4_s, bd5_s, bd6_s, bd7_s, bd8_s, lr_l, lr_r, nm_s, jn_s, gdb_0, gdb_1, l40, if_false, a3, if_true]
    refine Or.inr ⟨v, g1, gT1, g51, ?_, a2, by rw [B]; rfl, a4, a5, a6⟩
    rw [a1, bd2_s, stop v g1 (a5.ne n4), bd_s]
    exact gdb_b a2 _
end K33
