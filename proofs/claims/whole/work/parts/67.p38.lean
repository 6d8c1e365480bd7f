/-! the law read whole; what its lines give -/
theorem LN.st {fa : Nat → Int32} {g : Pic} {k z : Nat} {t : Nat → Int32} (h : LN fa g k z t) (h0 : g 3 0 = 0) : g 3 k = nI z := by
  cases k with
  | zero => rw [h.1]; exact h0
  | succ k =>
    obtain ⟨_, _, _, _, _, _, _, _, e, _⟩ := h
    exact e
theorem LN.bd {fa : Nat → Int32} {g : Pic} : ∀ {k z : Nat} {t : Nat → Int32}, LN fa g k z t → ∀ x, ∃ T, T ≤ 99 * k ∧ t x = nI T
  | 0, _, _, h, x => ⟨0, Nat.le_refl _, h.2 x⟩
  | k + 1, z, t, ⟨z0, t', h, cs, kd, am, r, e1, e2, e3, e4, e5, e6, e7, e8, e9⟩, x => by
    obtain ⟨T, a, b⟩ := LN.bd h x
    rw [e9 x, b]
    by_cases y : kd = x ∧ r = 1
    · rw [if_pos y, nI_add]
      exact ⟨T + am, by omega, rfl⟩
    · rw [if_neg y, Int32.add_zero]
      exact ⟨T, by omega, rfl⟩
section K38
variable {g g0 g1 gT gT1 gD gE gL gF g5 : Pic} {c : Nat → Nat} {n q s s1 z k K : Nat} {t B fa : Nat → Int32} {ln : Nat → Nat}
theorem k_sumTo (hF : ∀ k, k < 9 → gF 0 k = fa k) (l1 : K ≤ ln 1) (l2 : K ≤ ln 2) (l3 : K < ln 3) (l1' : ln 1 ≤ 400) (l2' : ln 2 ≤ 400) (l3' : ln 3 ≤ 400) (l4' : ln 4 ≤ 400) (h00 : g 0 0 = nI K) (h30 : g 3 0 = 0) (x : Nat) (hx : x < 3) : ∀ {k z : Nat} {t : Nat → Int32}, LN fa g k z t → k ≤ K → z ≤ ln 4 → ∃ g', (∀ f, f_X4_sumOf_L5 ln (nI x) gF (f + k) (0, 0, g) = f_X4_sumOf_L5 ln (nI x) gF f (t x, nI k, g')) ∧ ∀ j, j ≠ 5 → g' j = g j
  | 0, z, t, h, _, _ => ⟨g, fun f => by rw [h.2 x]; rfl, fun _ _ => rfl⟩
  | k + 1, z, t, ⟨z0, t', h, cs, kd, am, r, e1, e2, e3, e4, e5, e6, e7, e8, e9⟩, hk, hz => by
    obtain ⟨g1, a1, a2⟩ := k_sumTo hF l1 l2 l3 l1' l2' l3' l4' h00 h30 x hx h (by omega) (by omega)
    have c0 : g1 0 0 = nI K := by rw [a2 0 (by decide)]; exact h00
    have c1 : g1 1 k = nI kd := by rw [a2 1 (by decide)]; exact e3
    have nK : ¬ K ≤ k := by omega
    have st := h.st h30
    have lc : LC ln g1 k z0 cs := ⟨by rw [a2 3 (by decide)]; exact st, by rw [a2 3 (by decide), e2, e1], by omega, by omega, by omega, l4', fun j hj => by rw [a2 4 (by decide)]; exact e7 j hj⟩
    obtain ⟨g2, b1, b2⟩ := k_holds hF lc (d := 17) (by omega) e8
    have tx := e9 x
    have lk1 : k < ln 1 := by omega
    have lk2 : k < ln 2 := by omega
    by_cases z : kd = x
    · subst z
      have rb : r = 0 ∨ r = 1 := by
        rcases e8 with ⟨-, y⟩ | ⟨-, y⟩
        · exact Or.inr y
        · exact y
      refine ⟨g2, fun f => ?_, fun j hj => (b2 j hj).trans (a2 j hj)⟩
      rw [show f + (k + 1) = f + 1 + k by omega, a1 (f + 1)]
      refine lp_go2 (fun r' => ?_) f
      rcases rb with rfl | rfl
      · rw [if_neg (fun y => by cases y.2), Int32.add_zero] at tx
        simp (disch := omega) only [bd_s, bd2_s, bd3_s, bd4_s, bd5_s, bd6_s, bd7_s, bd8_s, lr_l, lr_r, nm_s, jn_s, gdb_0, gdb_1, c0, nI_leI, nK, if_false, gdi_n, nI_clamp, c1, if_true, b1, nI_1, tx]
      · have c2 : g2 2 k = nI am := by rw [b2 2 (by decide), a2 2 (by decide)]; exact e5
        rw [if_pos ⟨rfl, rfl⟩] at tx
        simp (disch := omega) only [bd_s, bd2_s, bd3_s, bd4_s, bd5_s, bd6_s, bd7_s, bd8_s, lr_l, lr_r, nm_s, jn_s, gdb_0, gdb_1, c0, nI_leI, nK, if_false, gdi_n, nI_clamp, c1, if_true, b1, i10, c2, nI_1, tx]
    · have ne : ¬ nI kd = nI x := fun y => z ((nI_eq (by omega) (by omega)).mp y)
      rw [if_neg (fun y => z y.1), Int32.add_zero] at tx
      refine ⟨g1, fun f => ?_, a2⟩
      rw [show f + (k + 1) = f + 1 + k by omega, a1 (f + 1)]
      refine lp_go2 (fun r' => ?_) f
      simp (disch := omega) only [bd_s, bd2_s, bd3_s, bd4_s, bd5_s, bd6_s, bd7_s, bd8_s, lr_l, lr_r, nm_s, jn_s, gdb_0, gdb_1, c0, nI_leI, nK, if_false, gdi_n, nI_clamp, c1, ne, nI_1, tx]
/-- the class's sum over its lines -/
theorem k_sum (hF : ∀ k, k < 9 → gF 0 k = fa k) (l1 : K ≤ ln 1) (l2 : K ≤ ln 2) (l3 : K < ln 3) (l1' : ln 1 ≤ 400) (l2' : ln 2 ≤ 400) (l3' : ln 3 ≤ 400) (l4 : z ≤ ln 4) (l4' : ln 4 ≤ 400) (h00 : g 0 0 = nI K) (h30 : g 3 0 = 0) (h : LN fa g K z t) {x : Nat} (hx : x < 3) : ∃ g', f_X4_sumOf ln g gF (nI x) = some (t x, g') ∧ ∀ j, j ≠ 5 → g' j = g j := by
  obtain ⟨g', a1, a2⟩ := k_sumTo hF l1 l2 l3 l1' l2' l3' l4' h00 h30 x hx h (Nat.le_refl _) l4
  refine ⟨g', ?_, a2⟩
  obtain ⟨f, hf⟩ : ∃ f, fu = f + 1 + K := ⟨fu - 1 - K, by have := fu_big; omega⟩
  have c0 : g' 0 0 = nI K := by rw [a2 0 (by decide)]; exact h00
  have E : f_X4_sumOf_L5 ln (nI x) gF (f + 1) (t x, nI K, g') = some (t x, g') := by
    show (if g' 0 0 ≤ nI K then _ else _) = _
    rw [if_pos (by rw [c0]; exact Int32.le_refl _)]
  unfold f_X4_sumOf
  rw [hf, a1 (f + 1), E]
  rfl
/-- the law's text, as both read it -/
theorem e_lawReads (ho : f_X10_open gT = some gT1) (p : PR g gT1 c n (sc isB c n 0)) (hB : hb g) (h13 : g 13 0 = 0) (h30 : g5 3 0 = 0) : ∃ v y g' gT' g5', f_X12_read g 1 = some (y, g') ∧ f_X5_readsText g5 gT = some (v, g5', gT') ∧ gT' 1 = gT1 1 ∧ E19 g g' ∧ gT' 7 0 = g' 12 0 ∧ ((v = 1 ∧ ∃ K, y = nI K ∧ LD (fun x => g (17 + x) 0) g g' gT' g5' K) ∨ (v = 0 ∧ ¬ g' 12 0 = -1)) := by
  obtain ⟨g1, b1, b2, b3, b4⟩ := p.skip
  have n4 := p.n4
  have sn := p.sn
  have h10 : g1 10 0 = nI n := b4.1.2.1
  have hL : LL (fun x => g (17 + x) 0) g1 gT1 (pu (pu g5 5 0 0) 6 0 0) c n (sc isB c n 0) 0 0 (fun _ => 0) := ⟨b4, hB.c b2.to.t13, by rw [b2 13 (by decide)]; exact h13, rfl, rfl, Nat.zero_le _, by rw [pu_o (by decide), pu_o (by decide)]; exact h30, ⟨rfl, fun _ => rfl⟩, fun x hx => by rw [b2 (17 + x) (by omega), Int32.add_zero]⟩
  have F1 : E19 g g1 := b2.to.t13.t19
  unfold f_X12_read f_X5_readsText
  rw [ho, b1]
  simp only [bd_s, nm_s, jn_s, h10, b3]
  by_cases z : sc isB c n 0 = n
  · have k0 : gT1 3 0 = 0 := by rw [p.end_]; exact z
    have le : nI n ≤ nI (sc isB c n 0) := by rw [z]; exact Int32.le_refl _
    have L : f_X12_read_L23 1 fu (0, 0, g1) = some (0, g1) := by
      obtain ⟨f, hf⟩ : ∃ f, fu = f + 1 := ⟨fu - 1, by have := fu_big; omega⟩
      rw [hf]; rfl
    refine ⟨1, 0, g1, gT1, pu (pu g5 5 0 0) 6 0 0, by rw [if_pos le, L]; rfl, by rw [if_pos k0], rfl, F1, by rw [p.2.2.2.2, b4.2.2.1], Or.inl ⟨rfl, 0, rfl, by omega, b4.2.2.1, p.2.2.2.2, rfl, hL.2.2.2.2.2.2.1, 0, fun _ => 0, by omega, rfl, ⟨rfl, fun _ => rfl⟩, hL.2.2.2.2.2.2.2.2⟩⟩
  · have k0 : ¬ gT1 3 0 = 0 := by rw [p.end_]; exact z
    have le : ¬ nI n ≤ nI (sc isB c n 0) := nI_ge (by omega) (by omega)
    rw [if_neg le, if_neg k0]
    obtain ⟨x, d, l1, l2, l3⟩ := e_lawText hL
    rw [l1, l2]
    rcases l3 with ⟨K, g', gT', g5', rfl, rfl, e1, e2, e3⟩ | ⟨y, g', gT', g5', rfl, rfl, e1, e2, e3⟩ | ⟨y, g', gT', g5', s', rfl, rfl, e0, e1, e2, e3⟩
    · refine ⟨1, nI K, g', gT', g5', rfl, rfl, e3, F1.tr e2, by rw [e1.2.1, e1.2.2.1], Or.inl ⟨rfl, K, rfl, ?_⟩⟩
      obtain ⟨m1, m2, m3, m4, m5, z', t', m6, m7, m8, m9⟩ := e1
      exact ⟨m1, m2, m3, m4, m5, z', t', m6, m7, by rw [← F1.fa]; exact m8, m9⟩
    · have ne := e1.ne n4
      refine ⟨0, y, g', gT', g5', rfl, rfl, e3, F1.tr e2, ?_, Or.inr ⟨rfl, ne⟩⟩
      obtain ⟨e, -, x1, x2, -⟩ := e1
      rw [x1, x2]
    · have ne := e1.ne n4
      refine ⟨0, y, g', pu gT' 7 0 (nI s'), g5', rfl, ?_, by rw [pu_o (by decide)]; exact e3, F1.tr e2, ?_, Or.inr ⟨rfl, ne⟩⟩
      · simp only [lr_r, e0, bd2_s, gdb_0]
      · obtain ⟨e, -, x1, x2, -⟩ := e1
        rw [x1, x2]
end K38
