/-! a plain condition -/
def E13 (g g' : Pic) : Prop := ∀ k, k ≠ 11 → k ≠ 12 → k ≠ 13 → g' k = g k
theorem E12.t13 {a b : Pic} (h : E12 a b) : E13 a b := fun k h1 h2 _ => h k h1 h2
theorem E13.rf (g : Pic) : E13 g g := fun _ _ _ _ => rfl
theorem E13.tr {a b d : Pic} (h : E13 a b) (k : E13 b d) : E13 a d := fun i h1 h2 h3 => (k i h1 h2 h3).trans (h i h1 h2 h3)
theorem E13.fa {g g' : Pic} (h : E13 g g') : fa_ g' = fa_ g := fa_c (h 14 (by decide) (by decide) (by decide)) (h 15 (by decide) (by decide) (by decide)) (h 16 (by decide) (by decide) (by decide))
/-- both have the same first wrong byte; the reference may have gone on some bytes -/
def FLk (g gT : Pic) (n j : Nat) : Prop := ∃ e, e ≤ n ∧ g 12 0 = nI e ∧ gT 7 0 = nI e ∧ ∃ q, q ≤ n + j ∧ g 11 0 = nI q
theorem FL.k {g gT : Pic} {n j : Nat} (h : FL g gT n) (hj : 1 ≤ j) : FLk g gT n j := by
  obtain ⟨e, h1, h2, h3, q, h4, h5⟩ := h
  exact ⟨e, h1, h2, h3, q, by omega, h5⟩
theorem FLk.mono {g gT : Pic} {n j i : Nat} (h : FLk g gT n j) (hj : j ≤ i) : FLk g gT n i := by
  obtain ⟨e, h1, h2, h3, q, h4, h5⟩ := h
  exact ⟨e, h1, h2, h3, q, by omega, h5⟩
theorem FLk.ne {g gT : Pic} {n j : Nat} (h : FLk g gT n j) (n4 : n ≤ 400) : ¬ g 12 0 = -1 := by
  obtain ⟨e, h1, h2, -⟩ := h
  rw [h2, nI_m1 (by omega)]
  exact id
def hb (g : Pic) : Prop := (g 15 0 = 0 ∨ g 15 0 = 1) ∧ (g 16 0 = 0 ∨ g 16 0 = 1)
theorem hb.c {g g' : Pic} (h : hb g) (e : E13 g g') : hb g' := by
  unfold hb
  rw [e 15 (by decide) (by decide) (by decide), e 16 (by decide) (by decide) (by decide)]
  exact h
def BRes (g gT g5 : Pic) (c : Nat → Nat) (n s z d j : Nat) (X : Option (Int32 × Pic)) (Y : Option (Int32 × Pic × Pic)) : Prop :=
  (∃ v cs g' gT' g5' s', X = some (v, g') ∧ (v = 0 ∨ v = 1) ∧ Y = some (1, g5', gT') ∧ E13 g g' ∧ g' 13 0 = g 13 0 ∧ PR g' gT' c n s' ∧ s + cs.length ≤ s' ∧ 0 < cs.length ∧ EM g5 g5' z cs ∧ RV (fa_ g) d cs v ∧ gT' 1 = gT 1) ∨
  (∃ v g' gT' g5', X = some (v, g') ∧ (v = 0 ∨ v = 1) ∧ Y = some (0, g5', gT') ∧ E13 g g' ∧ FLk g' gT' n j ∧ gT' 1 = gT 1)
theorem gdb_b {α : Type} {v : Int32} (h : v = 0 ∨ v = 1) (x : Option α) : gdb v x = x := by
  rcases h with rfl | rfl
  · exact gdb_0 x
  · exact gdb_1 x
def kPlain (g0 : Pic) (g1_J49 : Pic) : Option (Int32 × Pic × Pic) := bd2 (f_X10_takesName 17 g1_J49) (fun r_3 g1_3 => (if r_3 = 0 then bd2 (f_X10_takesName 18 g1_3) (fun r_4 g1_4 => (if r_4 = 0 then bd3 (f_X5_readsSum g0 g1_4) (fun r_5 g0_5 g1_5 => (if r_5 = 0 then some (0, g0_5, g1_5) else bd2 (f_X5_takeOrder g0_5 g1_5) (fun r_6 g1_6 => jn (fun (s0_J213 : Int32) (g0_J213 : Pic) (g1_J213 : Pic) => gdb s0_J213 (some (s0_J213, g0_J213, g1_J213))) (fun J213 => (if r_6 = (-1) then bd2 (f_X10_refuse g1_6) (fun r_10 g1_10 => J213 r_10 g0_5 g1_10) else bd3 (f_X5_readsSum g0_5 g1_6) (fun r_8 g0_8 g1_8 => jn (fun (g0_J212 : Pic) => J213 0 g0_J212 g1_8) (fun J212 => (if r_8 = 0 then J212 g0_8 else bd2 (f_X5_put g0_8 g1_8 r_6) (fun r_9 g0_9 => (if r_9 = 0 then J212 g0_9 else J213 1 g0_9 g1_8)))))))))) else bd2 (f_X5_put g0 g1_4 1008) (fun r_11 g0_11 => gdb r_11 (some (r_11, g0_11, g1_4))))) else bd2 (f_X5_put g0 g1_3 1007) (fun r_13 g0_13 => gdb r_13 (some (r_13, g0_13, g1_3)))))
section K32
variable {g g0 gT gD gE gL gS g5 : Pic} {c : Nat → Nat} {n q s z : Nat}
/-- the two sums and what stands between them -/
theorem PR.cmp (h : PR g gT c n s) (h6 : g5 6 0 = nI z) (hz : z ≤ s) {x : Int32} {a : Int32} {cs : List Int32} {g50 : Pic} {z0 s0 : Nat} (em : EM g50 g5 z0 cs) (e6 : z0 + cs.length = z) (rv : RV (fa_ g) 2 cs a) (hx : 2000 ≤ x) (hx0 : ¬ x = 2000) (sl : s0 + cs.length + 1 ≤ s) (b : Int32 → Int32) (hb2 : ∀ t, jnv x a t = b t) (b01 : ∀ t, b t = 0 ∨ b t = 1) (hz0 : z0 ≤ s0) :
    (∃ v ds g' gT' g5' s', f_X12_sum g = some (v, g') ∧ E11 g g' ∧ bd3 (f_X5_readsSum g5 gT) (fun r_8 g0_8 g1_8 => jn (fun (g0_J212 : Pic) => gdb 0 (some ((0 : Int32), g0_J212, g1_8))) (fun J212 => (if r_8 = 0 then J212 g0_8 else bd2 (f_X5_put g0_8 g1_8 x) (fun r_9 g0_9 => (if r_9 = 0 then J212 g0_9 else gdb 1 (some (1, g0_9, g1_8))))))) = some (1, g5', gT') ∧ PR g' gT' c n s' ∧ s0 + ds.length ≤ s' ∧ 0 < ds.length ∧ EM g50 g5' z0 ds ∧ RV (fa_ g) 3 ds (b v) ∧ gT' 1 = gT 1) ∨
    (∃ v g' gT' g5', f_X12_sum g = some (v, g') ∧ E12 g g' ∧ bd3 (f_X5_readsSum g5 gT) (fun r_8 g0_8 g1_8 => jn (fun (g0_J212 : Pic) => gdb 0 (some ((0 : Int32), g0_J212, g1_8))) (fun J212 => (if r_8 = 0 then J212 g0_8 else bd2 (f_X5_put g0_8 g1_8 x) (fun r_9 g0_9 => (if r_9 = 0 then J212 g0_9 else gdb 1 (some (1, g0_9, g1_8))))))) = some (0, g5', gT') ∧ FL g' gT' n ∧ gT' 1 = gT 1) := by
  have n4 := h.n4
  rcases h.sum h6 hz with ⟨v, ds, g', gT', g5', s', a1, a2, a3, a4, a5, a6, a7, a8, a9⟩ | ⟨v, g', gT', g5', a1, a2, a3, a4, a5⟩
  · have sn := a4.sn
    obtain ⟨g6, u1, u2⟩ := k_put a7.1 (by omega) gT' x
    have ln : (cs ++ (ds ++ [x])).length = cs.length + ds.length + 1 := by rw [List.length_append, List.length_append, ← Nat.add_assoc]; rfl
    subst e6
    refine Or.inl ⟨v, cs ++ (ds ++ [x]), g', gT', g6, s', a1, a3, ?_, a4, by rw [ln]; omega, by rw [ln]; omega, em.tr (a7.tr u2), ?_, a9⟩
    · rw [a2]
      simp only [bd3_s, jn_s, i10, if_false, u1, bd2_s, gdb_1]
    · rw [← hb2]
      exact RV.bin rv a8 hx hx0 (by omega) (by omega)
  · refine Or.inr ⟨v, g', gT', g5', a1, a3, ?_, a4, a5⟩
    rw [a2]
    simp only [bd3_s, jn_s, if_true, gdb_0]
theorem PR.plain (h : PR g gT c n s) (hB : hb g) (h6 : g5 6 0 = nI z) (hz : z ≤ s) {j : Nat} (hj : 1 ≤ j) : BRes g gT g5 c n s z 3 j (f_X12_plain g) (kPlain g5 gT) := by
  have n4 := h.n4
  unfold f_X12_plain kPlain
  rcases h.take (k := 17) (strOk_all 17 (by decide) (by decide)) with ⟨-, ga, a1, a2, a3, a4, -, a6⟩ | ⟨-, ga, ta, a1, a2, a3, a4, -, -, a7, a8⟩
  · rcases a4.take (k := 18) (strOk_all 18 (by decide) (by decide)) with ⟨-, gb, b1, b2, b3, b4, -, b6⟩ | ⟨-, gb, tb, b1, b2, b3, b4, -, -, b7, b8⟩
    · rw [a1, a6, bd2_s, bd2_s, if_pos rfl, if_pos rfl, b1, b6, bd2_s, bd2_s, if_pos rfl, if_pos rfl]
      have E0 := a2.tr b2
      rcases b4.sum h6 hz with ⟨v, cs, g1, gT1, g51, s1, c1, c2, c3, c4, c5, c6, c7, c8, c9⟩ | ⟨v, g1, gT1, g51, c1, c2, c3, c4, c5⟩
      · rw [c1, c2, bd2_s, bd3_s, if_pos c4.2.2.1, if_neg (by decide)]
        have E1 := E0.tr c3
        have rv : RV (fa_ g) 2 cs v := by rw [← E0.fa]; exact c8
        obtain ⟨g2, d1, d2, d3, ⟨x1, -, x3, -⟩ | ⟨x1, x2, x3, -, gT2, x4, x5, x6, x7⟩⟩ := c4.sign (x := 60) (by decide) (by decide) (by decide)
        · have x1 : f_X12_isSign g1 60 = some (0, g2) := x1
          have x3 : f_X10_takesSign gT1 60 = some (0, gT1) := x3
          obtain ⟨g3, f1, f2, f3, ⟨y1, -, y3, -⟩ | ⟨y1, y2, y3, -, gT3, y4, y5, y6, y7⟩⟩ := d3.sign (x := 62) (by decide) (by decide) (by decide)
          · have y1 : f_X12_isSign g2 62 = some (0, g3) := y1
            have y3 : f_X10_takesSign gT1 62 = some (0, gT1) := y3
            obtain ⟨w1, w2, w3⟩ := f3.wrong
            refine Or.inr ⟨0, pu g3 12 0 (nI s1), pu gT1 7 0 (nI s1), g51, ?_, Or.inl rfl, ?_, ((E1.tr d1).tr f1).to.pu12.t13, w3.k hj, by rw [pu_o (by decide)]; exact c9⟩
            · rw [x1, bd2_s, jn_s, if_pos rfl, y1, bd2_s, if_pos rfl, f2, w2]; rfl
            · unfold f_X5_takeOrder
              rw [x3, bd2_s, if_pos rfl, y3, bd2_s, jn_s, if_pos rfl, bd2_s, jn_s, if_pos rfl, w1]; rfl
          · have y3 : f_X12_isSign g2 62 = some (1, g3) := y3
            have y5 : f_X10_takesSign gT1 62 = some (1, gT3) := y5
            have sb := sc_ge (p := isB) (c := c) (n := n) (q := s1 + 1)
            have E3 : E11 g (pu g3 11 0 (nI s1 + 1)) := ((E1.tr d1).tr f1).pu
            have K : f_X5_takeOrder g51 gT1 = some (2004, gT3) := by
              unfold f_X5_takeOrder
              rw [x3, bd2_s, if_pos rfl, y5, bd2_s, jn_s, if_neg (by decide)]
            rw [x1, bd2_s, jn_s, if_pos rfl, y3, bd2_s, if_neg (by decide)]
            dsimp only
            rw [nm_s, f2, K, bd2_s, jn_s, if_neg (by decide)]
            dsimp only
            rcases y6.cmp (x := 2004) c7.1 (by omega) c7 rfl (by rw [E3.fa]; exact rv) (by decide) (by decide) (s0 := s) (by omega) (fun t => if v ≤ t then 0 else 1) (fun t => rfl) (fun t => by split <;> simp) hz with ⟨t, ds, g', gT', g5', s', l1, l2, l3, l4, l5, l6, l7, l8, l9⟩ | ⟨t, g', gT', g5', l1, l2, l3, l4, l5⟩
            · refine Or.inl ⟨if v ≤ t then 0 else 1, ds, g', gT', g5', s', ?_, by split <;> simp, l3, (E3.tr l2).to.t13, by rw [(E3.tr l2) 13 (by decide)], l4, l5, l6, l7, by rw [← E3.fa]; exact l8, l9.trans (y7.trans c9)⟩
              rw [l1, bd2_s, jn_s, if_pos rfl]
              split <;> rfl
            · refine Or.inr ⟨if v ≤ t then 0 else 1, g', gT', g5', ?_, by split <;> simp, l3, (E3.to.tr l2).t13, l4.k hj, l5.trans (y7.trans c9)⟩
              rw [l1, bd2_s, jn_s, if_pos rfl]
              split <;> rfl
        · have x3 : f_X12_isSign g1 60 = some (1, g2) := x3
          have x5 : f_X10_takesSign gT1 60 = some (1, gT2) := x5
          have sb := sc_ge (p := isB) (c := c) (n := n) (q := s1 + 1)
          have E3 : E11 g (pu g2 11 0 (nI s1 + 1)) := (E1.tr d1).pu
          have K : f_X5_takeOrder g51 gT1 = some (2003, gT2) := by
            unfold f_X5_takeOrder
            rw [x5, bd2_s, if_neg (by decide)]
          rw [x3, bd2_s, jn_s, if_neg (by decide)]
          dsimp only
          rw [nm_s, d2, K, bd2_s, jn_s, if_neg (by decide)]
          dsimp only
          rcases x6.cmp (x := 2003) c7.1 (by omega) c7 rfl (by rw [E3.fa]; exact rv) (by decide) (by decide) (s0 := s) (by omega) (fun t => if t ≤ v then 0 else 1) (fun t => rfl) (fun t => by split <;> simp) hz with ⟨t, ds, g', gT', g5', s', l1, l2, l3, l4, l5, l6, l7, l8, l9⟩ | ⟨t, g', gT', g5', l1, l2, l3, l4, l5⟩
          · refine Or.inl ⟨if t ≤ v then 0 else 1, ds, g', gT', g5', s', ?_, by split <;> simp, l3, (E3.tr l2).to.t13, by rw [(E3.tr l2) 13 (by decide)], l4, l5, l6, l7, by rw [← E3.fa]; exact l8, l9.trans (x7.trans c9)⟩
            rw [l1, bd2_s, jn_s, if_neg (by decide)]
            split <;> rfl
          · refine Or.inr ⟨if t ≤ v then 0 else 1, g', gT', g5', ?_, by split <;> simp, l3, (E3.to.tr l2).t13, l4.k hj, l5.trans (x7.trans c9)⟩
            rw [l1, bd2_s, jn_s, if_neg (by decide)]
            split <;> rfl
      · refine Or.inr ⟨0, g1, gT1, g51, ?_, Or.inl rfl, ?_, (E0.to.tr c3).t13, c4.k hj, c5⟩
        · rw [c1, bd2_s, if_neg (c4.ne n4)]
        · rw [c2, bd3_s, if_pos rfl]
    · have sl := sc_ge (p := isB) (c := c) (n := n) (q := sc isL c n s)
      have sn := b3.sn
      obtain ⟨g51, u1, u2⟩ := k_put h6 (by omega) tb 1008
      have E0 := a2.tr b2
      have e16 : gb 16 0 = g 16 0 := by rw [E0 16 (by decide)]
      refine Or.inl ⟨g 16 0, [1008], gb, tb, g51, _, ?_, hB.2, ?_, E0.to.t13, by rw [E0 13 (by decide)], b3, ?_, Nat.zero_lt_one, u2, ?_, b8⟩
      · rw [a1, bd2_s, if_pos rfl, b1, bd2_s, if_neg (by decide), e16, gdb_b hB.2]
      · rw [a6, bd2_s, if_pos rfl, b7, bd2_s, if_neg (by decide), u1]; rfl
      · show s + 1 ≤ _
        omega
      · have := (RV.push (fa := fa_ g) (x := 1008) (by decide)).mono (e := 3) (by omega)
        exact this
  · have sl := sc_ge (p := isB) (c := c) (n := n) (q := sc isL c n s)
    have sn := a3.sn
    obtain ⟨g51, u1, u2⟩ := k_put h6 (by omega) ta 1007
    have e15 : ga 15 0 = g 15 0 := by rw [a2 15 (by decide)]
    refine Or.inl ⟨g 15 0, [1007], ga, ta, g51, _, ?_, hB.1, ?_, a2.to.t13, by rw [a2 13 (by decide)], a3, ?_, Nat.zero_lt_one, u2, ?_, a8⟩
    · rw [a1, bd2_s, if_neg (by decide), e15, gdb_b hB.1]
    · rw [a7, bd2_s, if_neg (by decide), u1]; rfl
    · show s + 1 ≤ _
      omega
    · have := (RV.push (fa := fa_ g) (x := 1007) (by decide)).mono (e := 3) (by omega)
      exact this
end K32
