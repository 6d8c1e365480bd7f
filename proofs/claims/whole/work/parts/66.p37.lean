/-! lines of the law, all of them -/
section K37
variable {g g0 g1 gT gT1 gD gE gL gS g5 : Pic} {c : Nat → Nat} {n q s s1 z k : Nat} {t B : Nat → Int32}
theorem e_kind (h : PR g gT c n s) (g5 : Pic) : (∃ kd g' gT' s', kd < 3 ∧ f_X12_lawLine g = qJ40 (nI kd) g' ∧ f_X5_takeKind g5 gT = some (nI kd, gT') ∧ E11 g g' ∧ PR g' gT' c n s' ∧ s < s' ∧ gT' 1 = gT 1) ∨ (∃ g', f_X12_lawLine g = some g' ∧ f_X5_takeKind g5 gT = some (-1, gT) ∧ f_X10_refuse gT = some (0, pu gT 7 0 (nI s)) ∧ FL g' (pu gT 7 0 (nI s)) n ∧ E12 g g') := by
  rw [q_lawLine]
  unfold f_X5_takeKind
  have sl := sc_ge (p := isB) (c := c) (n := n) (q := sc isL c n s)
  rcases h.take (k := 13) (strOk_all 13 (by decide) (by decide)) with ⟨-, ga, a1, a2, a3, a4, -, a6⟩ | ⟨-, ga, ta, a1, a2, a3, a4, -, -, a7, a8⟩
  · rw [a1, a6, bd2_s, bd2_s, if_pos rfl, if_pos rfl]
    rcases a4.take (k := 14) (strOk_all 14 (by decide) (by decide)) with ⟨-, gb, b1, b2, b3, b4, -, b6⟩ | ⟨-, gb, tb, b1, b2, b3, b4, -, -, b7, b8⟩
    · rw [b1, b6, bd2_s, bd2_s, if_pos rfl, if_pos rfl]
      rcases b4.take (k := 9) (strOk_all 9 (by decide) (by decide)) with ⟨-, gc, c1, c2, c3, c4, -, c6⟩ | ⟨-, gc, tc, c1, c2, c3, c4, -, -, c7, c8⟩
      · rw [c1, c6, bd2_s, bd2_s, if_pos rfl, jn_s, if_pos rfl]
        obtain ⟨w1, w2, w3⟩ := c4.wrong
        refine Or.inr ⟨pu gc 12 0 (nI s), ?_, rfl, w1, w3, ((a2.tr b2).tr c2).to.pu12⟩
        unfold qJ40
        rw [if_pos rfl, c3, w2]
        rfl
      · rw [c1, c7, bd2_s, bd2_s, if_neg (by decide), jn_s, if_neg (by decide)]
        exact Or.inl ⟨2, gc, tc, _, by decide, rfl, rfl, (a2.tr b2).tr c2, c3, by omega, c8⟩
    · rw [b1, b7, bd2_s, bd2_s, if_neg (by decide), if_neg (by decide)]
      exact Or.inl ⟨1, gb, tb, _, by decide, rfl, rfl, a2.tr b2, b3, by omega, b8⟩
  · rw [a1, a7, bd2_s, bd2_s, if_neg (by decide), if_neg (by decide)]
    exact Or.inl ⟨0, ga, ta, _, by decide, rfl, rfl, a2, a3, by omega, a8⟩
theorem e_lawLine (h : LL B g gT g5 c n s k z t) (hk : k < 12) : NRes B g gT c n k (f_X12_lawLine g) (f_X5_readsLine g5 gT) := by
  have h' := h
  obtain ⟨h1, h2, h3, h4, h5, h6, h7, h8, h9⟩ := h
  have n4 := h1.n4
  have lt : nI k < 12 := (nI_ltI (b := 12) (by omega) (by omega)).mpr hk
  rcases e_kind h1 g5 with ⟨kd, ga, ta, sa, a1, a2, a3, a4, a5, a6, a7⟩ | ⟨g', a1, a2, a3, a4, a5⟩
  · have nm1 : ¬ nI kd = -1 := by rw [nI_m1 (by omega)]; exact id
    have K : f_X5_readsLine g5 gT = bd2 (f_X10_takeNumber ta 0 99) (fun r_4 g1_4 => (if r_4 = (-1) then some (0, g5, g1_4) else bd2 (f_X10_takesName 15 g1_4) (fun r_5 g1_5 => (if r_5 = 0 then kJ67 (nI kd) r_4 g5 g1_5 else bd3 (f_X5_cond g5 g1_5 0) (fun r_13 g0_13 g1_13 => (if r_13 = 0 then some (0, g0_13, g1_13) else kJ67 (nI kd) r_4 g0_13 g1_13)))))) := by
      unfold f_X5_readsLine kJ67
      simp only [bd2_s, jn_s, a3, nm1, if_false, h4, lt, if_true]
    rw [a2, K]
    unfold qJ40
    rw [if_neg nm1]
    rcases a5.num (lo := 0) (hi := nI 99) (by decide) with ⟨v, gb, tb, v9, b1, b2, b3, b4, b5, -, b6, b7, -, -⟩ | ⟨v, gb, b1, b2, b3, b4, -⟩
    · have v99 : v ≤ 99 := (nI_leI (by omega) (by omega)).mp b6
      have b2 : f_X12_figures ga 0 99 = some (nI v, gb) := b2
      have b4 : f_X10_takeNumber ta 0 99 = some (nI v, tb) := b4
      have nv : ¬ nI v = -1 := by rw [nI_m1 (by omega)]; exact id
      have sd := sc_ge (p := isD) (c := c) (n := n) (q := sa)
      have sb := sc_ge (p := isB) (c := c) (n := n) (q := sc isD c n sa)
      rw [b2, bd2_s, if_pos b5.2.2.1, b4, bd2_s, if_neg nv]
      have E1 := a4.tr b3
      rcases b5.take (k := 15) (strOk_all 15 (by decide) (by decide)) with ⟨-, gc, c1, c2, c3, c4, -, c6⟩ | ⟨-, gc, tc, c1, c2, c3, c4, -, -, c7, c8⟩
      · rw [c1, bd2_s, jn_s, jn_s, if_pos rfl, c6, bd2_s, if_pos rfl]
        exact e_lineEnd (cs := []) (r := 1) h' hk c4 (E1.tr c2).to.t13 (by rw [(E1.tr c2) 13 (by decide)]; exact h3) (EM.rf h5) (by show s + 0 ≤ _; omega) (Or.inl ⟨rfl, rfl⟩) a1 v99 (b7.trans a7)
      · rw [c1, bd2_s, jn_s, jn_s, if_neg (by decide), c7, bd2_s, if_neg (by decide)]
        have E2 := E1.tr c2
        have sl := sc_ge (p := isB) (c := c) (n := n) (q := sc isL c n (sc isB c n (sc isD c n sa)))
        rcases e_cond c3 (h2.c E2.to.t13) (by rw [E2 13 (by decide)]; exact h3) h5 (by omega) with ⟨r, cs, gd', td, gd5, sd', d1, d2, d3, d4, d5, d6, d7, d8, d9, d10, d11⟩ | ⟨r, gd', td, gd5, d1, d2, d3, d4, d5, d6⟩
        · have X : (bd2 (f_X12_cond gc) (fun r_7 g0_7 => (if r_7 = 0 then (fun (s0_J93 : Int32) (g0_J93 : Pic) => qJ93 (nI kd) (nI v) s0_J93 g0_J93) 0 g0_7 else (fun (g0_J88 : Pic) => (fun (s0_J93 : Int32) (g0_J93 : Pic) => qJ93 (nI kd) (nI v) s0_J93 g0_J93) 1 g0_J88) g0_7))) = qJ93 (nI kd) (nI v) r gd' := by
            rw [d1, bd2_s]
            rcases d2 with rfl | rfl <;> rfl
          rw [X, d3, bd3_s, if_neg (by decide)]
          refine e_lineEnd (cs := cs) (r := r) h' hk d6 (E2.to.t13.tr d4) ?_ d9 (by omega) (Or.inr ⟨by rw [← E2.fa]; exact d10, d2⟩) a1 v99 (d11.trans (c8.trans (b7.trans a7)))
          rw [d5, E2 13 (by decide)]
          exact h3
        · have ne := d5.ne n4
          have S : ∀ x, qJ93 (nI kd) (nI v) x gd' = some gd' := fun x => by
            unfold qJ93
            rw [jn_s, if_neg ne]
          refine Or.inr ⟨gd', td, gd5, ?_, by rw [d3, bd3_s, if_pos rfl], d5, (E2.to.t13.tr d4).t19, d6.trans (c8.trans (b7.trans a7))⟩
          rw [d1, bd2_s]
          dsimp only
          rw [S, S]
          split <;> rfl
    · have b1 : f_X12_figures ga 0 99 = some (v, gb) := b1
      have b3 : f_X10_takeNumber ta 0 99 = some (-1, pu ta 7 0 (nI sa)) := b3
      refine Or.inr ⟨gb, pu ta 7 0 (nI sa), g5, ?_, ?_, b4.k (by omega), (a4.to.tr b2).t13.t19, by rw [pu_o (by decide)]; exact a7⟩
      · rw [b1, bd2_s, if_neg (b4.ne n4)]
      · rw [b3, bd2_s, if_pos rfl]
  · refine Or.inr ⟨g', pu gT 7 0 (nI s), g5, a1, ?_, a4.k (by omega), a5.t13.t19, by rw [pu_o (by decide)]⟩
    unfold f_X5_readsLine
    simp only [bd2_s, jn_s, a2, if_true, a3, gdb_0]
theorem LL.e11 (h : LL B g gT g5 c n s k z t) (e : E11 g g1) (p : PR g1 gT1 c n s1) (l : s ≤ s1) : LL B g1 gT1 g5 c n s1 k z t := by
  obtain ⟨h1, h2, h3, h4, h5, h6, h7, h8, h9⟩ := h
  exact ⟨p, h2.c e.to.t13, by rw [e 13 (by decide)]; exact h3, h4, h5, by omega, h7, by rw [e.fa]; exact h8, fun x hx => by rw [e (17 + x) (by omega)]; exact h9 x hx⟩
theorem q_skipK (hB : RB g c n) {j : Nat} (hj : j ≤ 50) (h : ∃ q, q ≤ n + j ∧ g 11 0 = nI q) : ∃ g', f_X12_skip g = some g' ∧ E11 g g' ∧ ∃ q, q ≤ n + j ∧ g' 11 0 = nI q := by
  obtain ⟨q, q1, q2⟩ := h
  have n4 := hB.2.2.1
  obtain ⟨g', a, b, d⟩ := q_skip hB q2 (by omega)
  refine ⟨g', a, b, sc isB c n q, ?_, d⟩
  by_cases z : q ≤ n
  · have := sc_le (p := isB) (c := c) z; omega
  · rw [sc_stop (fun y => by omega)]; exact q1
theorem RB.e19 {g' : Pic} (h : RB g c n) (e : E19 g g') : RB g' c n := h.of (e 9 (by decide) (by decide) (by decide) (by decide) (by decide) (by decide)) (e 7 (by decide) (by decide) (by decide) (by decide) (by decide) (by decide)) (fun p _ => by rw [e 1 (by decide) (by decide) (by decide) (by decide) (by decide) (by decide)]) (e 10 (by decide) (by decide) (by decide) (by decide) (by decide) (by decide))
/-- what both have when the law's text is read to its end -/
def LD (B : Nat → Int32) (g g' gT' g5' : Pic) (K : Nat) : Prop := K ≤ 12 ∧ g' 12 0 = -1 ∧ gT' 7 0 = -1 ∧ g5' 5 0 = nI K ∧ g5' 3 0 = 0 ∧ ∃ z t, z ≤ 400 ∧ g5' 6 0 = nI z ∧ LN (fa_ g) g5' K z t ∧ ∀ x, x < 3 → g' (17 + x) 0 = B x + t x
theorem e_lawText (h : LL B g gT g5 c n s 0 z t) : ∃ x d, f_X12_read_L23 1 fu (1, 0, g) = some x ∧ f_X5_readsText_L31 fu (0, g5, gT) = some d ∧
    ((∃ K g' gT' g5', x = (nI K, g') ∧ d = .inl (1, g5', gT') ∧ LD B g g' gT' g5' K ∧ E19 g g' ∧ gT' 1 = gT 1) ∨
     (∃ y g' gT' g5', x = (y, g') ∧ d = .inl (0, g5', gT') ∧ FLk g' gT' n 7 ∧ E19 g g' ∧ gT' 1 = gT 1) ∨
     (∃ y g' gT' g5' s', x = (y, g') ∧ d = .inr (g5', gT') ∧ f_X10_refuse gT' = some (0, pu gT' 7 0 (nI s')) ∧ FLk g' (pu gT' 7 0 (nI s')) n 7 ∧ E19 g g' ∧ gT' 1 = gT 1)) := by
  have n4 := h.1.n4
  refine lp_two3 (fun k a b => ∃ (g' gT' g5' : Pic) (s' z' : Nat) (t' : Nat → Int32), a = (1, nI k, g') ∧ b = (nI k, g5', gT') ∧ LL B g' gT' g5' c n s' k z' t' ∧ E19 g g' ∧ gT' 1 = gT 1) 12 (fun (x : Int32 × Pic) (d : (Int32 × Pic × Pic) ⊕ (Pic × Pic)) =>
    ((∃ K g' gT' g5', x = (nI K, g') ∧ d = .inl (1, g5', gT') ∧ LD B g g' gT' g5' K ∧ E19 g g' ∧ gT' 1 = gT 1) ∨
     (∃ y g' gT' g5', x = (y, g') ∧ d = .inl (0, g5', gT') ∧ FLk g' gT' n 7 ∧ E19 g g' ∧ gT' 1 = gT 1) ∨
     (∃ y g' gT' g5' s', x = (y, g') ∧ d = .inr (g5', gT') ∧ f_X10_refuse gT' = some (0, pu gT' 7 0 (nI s')) ∧ FLk g' (pu gT' 7 0 (nI s')) n 7 ∧ E19 g g' ∧ gT' 1 = gT 1))) ?_ ?_ (N := fu) (M := fu) (by have := fu_big; omega) (by have := fu_big; omega) ⟨g, gT, g5, s, z, t, rfl, rfl, h, E19.rf g, rfl⟩
  · rintro k hk _ _ ⟨g1, gT1, g51, s1, z1, t1, rfl, rfl, hE, hF, ht⟩
    have e12 := hE.1.2.2.1
    obtain ⟨g2, a1, a2, a3, a4⟩ := hE.1.skip
    have nk : ¬ nI k = 12 := fun z => by have := (nI_eq (b := 12) (by omega) (by omega)).mp z; omega
    have nk2 : ¬ (12 : Int32) ≤ nI k := nI_ge (b := 12) (by omega) (by omega)
    have hE2 := hE.e11 a2 a4 (Nat.le_refl _)
    have F2 : E19 g g2 := hF.tr a2.to.t13.t19
    rcases e_lawLine hE2 hk with ⟨g3, gT3, g53, s3, z3, t3, l1, l2, l3, l4, l5⟩ | ⟨g3, gT3, g53, l1, l2, l3, l4, l5⟩
    · obtain ⟨g4, b1, b2, b3, b4⟩ := l3.1.skip
      have l3' := l3.e11 b2 b4 (Nat.le_refl _)
      have f12 : g4 12 0 = -1 := b4.2.2.1
      have h10 : g4 10 0 = nI n := b4.1.2.1
      have F4 : E19 g g4 := (F2.tr l4).tr b2.to.t13.t19
      by_cases z : s3 = n
      · have k0 : gT3 3 0 = 0 := by rw [l3.1.end_]; exact z
        have e11 : g4 11 0 = g4 10 0 := by rw [b3, h10, z]
        refine Or.inr ⟨(nI (k + 1), g4), .inl (1, g53, gT3), Or.inl ⟨k + 1, g4, gT3, g53, rfl, rfl, ⟨by omega, f12, l3.1.2.2.2.2, l3'.2.2.2.1, l3'.2.2.2.2.2.2.1, z3, t3, by have := l3'.2.2.2.2.2.1; omega, l3'.2.2.2.2.1, by rw [← F4.fa]; exact l3'.2.2.2.2.2.2.2.1, l3'.2.2.2.2.2.2.2.2⟩, F4, l5.trans ht⟩, Or.inr ⟨(0, nI (k + 1), g4), fun r => ?_, fun r => ?_⟩, Or.inl (fun r => ?_)⟩
        · simp only [bd_s, bd2_s, bd3_s, bd4_s, bd5_s, bd6_s, bd7_s, bd8_s, lr_l, lr_r, nm_s, jn_s, gdb_0, gdb_1, i10, if_false, e12, if_true, a1, nk, l1, nI_1, b1, f12, e11]
        · simp only [if_true]
        · simp only [bd_s, bd2_s, bd3_s, bd4_s, bd5_s, bd6_s, bd7_s, bd8_s, lr_l, lr_r, nm_s, jn_s, gdb_0, gdb_1, nk2, if_false, l2, i10, k0, if_true]
      · have k0 : ¬ gT3 3 0 = 0 := by rw [l3.1.end_]; exact z
        have sn := l3.1.sn
        have e11 : ¬ g4 11 0 = g4 10 0 := by rw [b3, h10]; exact fun y => z ((nI_eq (by omega) (by omega)).mp y)
        obtain ⟨g6, c1, c2, c3, ⟨c4, -, c6, -⟩ | ⟨c4, c5, c6, -, gT6, c8, c9, c10, c11⟩⟩ := b4.sign (x := 59) (by decide) (by decide) (by decide)
        · have c4 : f_X12_isSign g4 59 = some (0, g6) := c4
          have c6 : f_X10_takesSign gT3 59 = some (0, gT3) := c6
          obtain ⟨w1, w2, w3⟩ := c3.wrong
          have ne := w3.ne n4
          refine Or.inr ⟨(nI (k + 1), pu g6 12 0 (nI s3)), .inl (0, g53, pu gT3 7 0 (nI s3)), Or.inr (Or.inl ⟨_, _, _, _, rfl, rfl, w3.k (by omega), F4.tr c1.to.pu12.t13.t19, by rw [pu_o (by decide)]; exact l5.trans ht⟩), Or.inr ⟨(1, nI (k + 1), pu g6 12 0 (nI s3)), fun r => ?_, fun r => ?_⟩, Or.inl (fun r => ?_)⟩
          · simp only [bd_s, bd2_s, bd3_s, bd4_s, bd5_s, bd6_s, bd7_s, bd8_s, lr_l, lr_r, nm_s, jn_s, gdb_0, gdb_1, i10, if_false, e12, if_true, a1, nk, l1, nI_1, b1, f12, e11, c4, c2, w2]
          · simp only [bd_s, bd2_s, bd3_s, bd4_s, bd5_s, bd6_s, bd7_s, bd8_s, lr_l, lr_r, nm_s, jn_s, gdb_0, gdb_1, i10, if_false, ne]
          · simp only [bd_s, bd2_s, bd3_s, bd4_s, bd5_s, bd6_s, bd7_s, bd8_s, lr_l, lr_r, nm_s, jn_s, gdb_0, gdb_1, nk2, if_false, l2, i10, k0, c6, if_true, w1]
        · have c6 : f_X12_isSign g4 59 = some (1, g6) := c6
          have c9 : f_X10_takesSign gT3 59 = some (1, gT6) := c9
          have E5 : E11 g4 (pu g6 11 0 (nI s3 + 1)) := c1.pu
          have sb := sc_ge (p := isB) (c := c) (n := n) (q := s3 + 1)
          refine Or.inl ⟨(1, nI (k + 1), pu g6 11 0 (nI s3 + 1)), (nI (k + 1), g53, gT6), ⟨_, gT6, g53, _, _, _, rfl, rfl, l3'.e11 E5 c10 (by omega), F4.tr E5.to.t13.t19, c11.trans (l5.trans ht)⟩, fun r => ?_, fun r => ?_⟩
          · simp only [bd_s, bd2_s, bd3_s, bd4_s, bd5_s, bd6_s, bd7_s, bd8_s, lr_l, lr_r, nm_s, jn_s, gdb_0, gdb_1, i10, if_false, e12, if_true, a1, nk, l1, nI_1, b1, f12, e11, c6, c2]
          · simp only [bd_s, bd2_s, bd3_s, bd4_s, bd5_s, bd6_s, bd7_s, bd8_s, lr_l, lr_r, nm_s, jn_s, gdb_0, gdb_1, nk2, if_false, l2, i10, k0, c9, nI_1]
    · have ne := l3.ne n4
      obtain ⟨e, x1, x2, x3, xq⟩ := l3
      obtain ⟨g4, b1, b2, b3⟩ := q_skipK (g := g3) (hE2.1.1.e19 l4) (by omega) xq
      have ne4 : ¬ g4 12 0 = -1 := by rw [b2 12 (by decide)]; exact ne
      have fl4 : FLk g4 gT3 n 7 := ⟨e, x1, by rw [b2 12 (by decide)]; exact x2, x3, b3⟩
      refine Or.inr ⟨(nI (k + 1), g4), .inl (0, g53, gT3), Or.inr (Or.inl ⟨_, _, _, _, rfl, rfl, fl4, (F2.tr l4).tr b2.to.t13.t19, l5.trans ht⟩), Or.inr ⟨(0, nI (k + 1), g4), fun r => ?_, fun r => ?_⟩, Or.inl (fun r => ?_)⟩
      · simp only [bd_s, bd2_s, bd3_s, bd4_s, bd5_s, bd6_s, bd7_s, bd8_s, lr_l, lr_r, nm_s, jn_s, gdb_0, gdb_1, i10, if_false, e12, if_true, a1, nk, l1, nI_1, b1, ne4]
      · simp only [if_true]
      · simp only [bd_s, bd2_s, bd3_s, bd4_s, bd5_s, bd6_s, bd7_s, bd8_s, lr_l, lr_r, nm_s, jn_s, gdb_0, gdb_1, nk2, if_false, l2, if_true]
  · rintro _ _ ⟨g1, gT1, g51, s1, z1, t1, rfl, rfl, hE, hF, ht⟩
    have e12 := hE.1.2.2.1
    obtain ⟨g2, a1, a2, a3, a4⟩ := hE.1.skip
    obtain ⟨w1, w2, w3⟩ := a4.wrong
    have ne := w3.ne n4
    have n12 : (nI 12 = 12) = True := eq_true rfl
    obtain ⟨e, x1, x2, x3, xq⟩ := w3
    obtain ⟨g4, b1, b2, b3⟩ := q_skipF (g := pu g2 12 0 (nI s1)) (a4.1.of rfl rfl (fun _ _ => rfl) rfl) xq
    have ne4 : ¬ g4 12 0 = -1 := by rw [b2 12 (by decide)]; exact ne
    have fl4 : FL g4 (pu gT1 7 0 (nI s1)) n := ⟨e, x1, by rw [b2 12 (by decide)]; exact x2, x3, b3⟩
    refine ⟨(nI (12 + 1), g4), .inr (g51, gT1), Or.inr (Or.inr ⟨_, g4, gT1, g51, s1, rfl, rfl, w1, fl4.k (by omega), (hF.tr a2.to.pu12.t13.t19).tr b2.to.t13.t19, ht⟩), Or.inr ⟨(0, nI (12 + 1), g4), fun r => ?_, fun r => ?_⟩, Or.inl (fun r => if_pos (show (12 : Int32) ≤ nI 12 from Int32.le_refl _))⟩
    · simp only [bd_s, bd2_s, bd3_s, bd4_s, bd5_s, bd6_s, bd7_s, bd8_s, lr_l, lr_r, nm_s, jn_s, gdb_0, gdb_1, i10, if_false, e12, if_true, a1, n12, a3, w2, nI_1, b1, ne4]
    · simp only [if_true]
end K37
