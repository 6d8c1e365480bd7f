/-! an atom; a condition -/
section K34
variable {g g0 gT gD gE gL gS g5 : Pic} {c : Nat → Nat} {n q s z : Nat} {Af : Pic → Option (Int32 × Pic)} {Kf : Pic → Pic → Int32 → Option (Int32 × Pic × Pic)} {D d j d' j' : Nat} {x1 : Int32}
theorem PR.p13 (h : PR g gT c n s) (x : Int32) : PR (pu g 13 0 x) gT c n s := ⟨h.1.of rfl rfl (fun _ _ => rfl) rfl, h.2.1, h.2.2.1, h.2.2.2⟩
theorem FLk.p13 (h : FLk g gT n j) (x : Int32) : FLk (pu g 13 0 x) gT n j := h
theorem FLk.p11 (h : FLk g gT n j) (hj : j + 1 ≤ j') : FLk (pu g 11 0 (g 11 0 + 1)) gT n j' := by
  obtain ⟨e, h1, h2, h3, q, h4, h5⟩ := h
  exact ⟨e, h1, h2, h3, q + 1, by omega, by rw [pu_s, if_pos rfl, h5, nI_1]⟩
theorem E13.p13 {a b : Pic} (h : E13 a b) {x : Int32} : E13 a (pu b 13 0 x) := fun k h1 h2 h3 => (pu_o h3).trans (h k h1 h2 h3)
theorem E13.p11 {a b : Pic} (h : E13 a b) {x : Int32} : E13 a (pu b 11 0 x) := fun k h1 h2 h3 => (pu_o h1).trans (h k h1 h2 h3)
theorem nI_m (hD : D ≤ 6) : nI (D + 1) - 1 = nI D := by
  have : D = 0 ∨ D = 1 ∨ D = 2 ∨ D = 3 ∨ D = 4 ∨ D = 5 ∨ D = 6 := by omega
  rcases this with rfl | rfl | rfl | rfl | rfl | rfl | rfl <;> rfl
theorem e_atomS (hA : D < 6 → HA Af Kf c n (D + 1) (nI (D + 1)) d j) (hD : D ≤ 6) (h3 : 3 ≤ d') (hd : D < 6 → d + 2 ≤ d') (hj : 1 ≤ j') (hj2 : D < 6 → j + 1 ≤ j') : HA (F_X12_atom Af) (F_X5_readsAtom Kf) c n D (nI D) d' j' := by
  intro g gT g5 s z h hB h13 h6 hz
  have n4 := h.n4
  have h12 := h.2.2.1
  obtain ⟨ga, a1, a2, a3, a4⟩ := h.skip
  have hh : f_X12_here g = some (nI s, ga) := by unfold f_X12_here; rw [a1]; simp only [bd_s, a3]
  have rf := k_refuse h.2.2.2.2 h.2.2.2.1.2.2.2.1
  rcases a4.take (k := 16) (strOk_all 16 (by decide) (by decide)) with ⟨-, gb, b1, b2, b3, b4, b5, b6⟩ | ⟨-, gb, tb, b1, b2, b3, b4, b5, b6, -, b8⟩
  · have E0 := a2.tr b2
    obtain ⟨gc, c1, c2, c3, ⟨d1, d2, d3, -⟩ | ⟨d1, d2, d3, d3', gT2, d4, d5, d6, d7⟩⟩ := b4.sign (x := 40) (by decide) (by decide) (by decide)
    · -- plain
      have d1 : f_X12_isSign gb 40 = some (0, gc) := d1
      have d2 : f_X10_isSign gT 40 = some 0 := d2
      have E1 := E0.tr c1
      have R : F_X12_atom Af g = bd2 (f_X12_plain gc) (fun r_14 g0_14 => gdb r_14 (some (r_14, g0_14))) := by
        unfold F_X12_atom
        simp only [bd2_s, jn_s, h12, if_true, hh, b1, d1]
      have K : F_X5_readsAtom Kf g5 gT (nI D) = kPlain g5 gT := by
        unfold F_X5_readsAtom
        rw [b5, bd_s, d2, bd_s, jn_s, jn_s, if_pos rfl, if_pos rfl]
        rfl
      rw [R, K]
      rcases c3.plain (hB.c E1.to.t13) h6 hz hj with ⟨v, cs, g', gT', g5', s', e1, e2, e3, e4, e5, e6, e7, e8, e9, e10, e11⟩ | ⟨v, g', gT', g5', e1, e2, e3, e4, e5, e6⟩
      · exact Or.inl ⟨v, cs, g', gT', g5', s', by rw [e1, bd2_s]; exact gdb_b e2 _, e2, e3, E1.to.t13.tr e4, by rw [e5, E1 13 (by decide)], e6, e7, e8, e9, by rw [← E1.fa]; exact e10.mono h3, e11⟩
      · exact Or.inr ⟨v, g', gT', g5', by rw [e1, bd2_s]; exact gdb_b e2 _, e2, e3, E1.to.t13.tr e4, e5, e6⟩
    · -- in brackets
      have d3 : f_X12_isSign gb 40 = some (1, gc) := d3
      have d3' : f_X10_isSign gT 40 = some 1 := d3'
      have E1 := E0.tr c1
      have m13 : gc 13 0 = nI D := by rw [E1 13 (by decide)]; exact h13
      by_cases D6 : D < 6
      · have ne6 : ¬ gc 13 0 = 6 := by rw [m13]; exact fun y => by have := (nI_eq (b := 6) (by omega) (by omega)).mp y; omega
        have lt6 : nI D < 6 := (nI_ltI (b := 6) (by omega) (by omega)).mpr D6
        have sb := sc_ge (p := isB) (c := c) (n := n) (q := s + 1)
        let gx : Pic := pu (pu gc 13 0 (nI (D + 1))) 11 0 (nI s + 1)
        have Px : PR gx gT2 c n (sc isB c n (s + 1)) := PR.p13 d6 (nI (D + 1))
        have Ex : E13 g gx := E1.to.t13.p13.p11
        have hs := e_some (hA D6) Px (hB.c Ex) rfl h6 (by omega)
        have R : ∀ r7 g7, f_X12_some Af gx = some (r7, g7) → F_X12_atom Af g = jn (fun (x3_J138 : Int32) (g0_J138 : Pic) => nm (pu g0_J138 13 0 ((g0_J138 13 0) - 1)) (fun g0_4 => gdb x3_J138 (some (x3_J138, g0_4)))) (fun J138 => jn (fun (g0_J128 : Pic) => nm (pu g0_J128 11 0 ((g0_J128 11 0) + 1)) (fun g0_8 => J138 r7 g0_8)) (fun J128 => (if (g7 12 0) = (-1) then bd2 (f_X12_isSign g7 41) (fun r_9 g0_9 => (if r_9 = 0 then bd (f_X12_wrong g0_9 (g0_9 11 0)) (fun g0_10 => J128 g0_10) else J128 g0_9)) else J128 g7))) := fun r7 g7 hr => by
          have e13 : (pu gc 13 0 (gc 13 0 + 1)) = pu gc 13 0 (nI (D + 1)) := by rw [m13, nI_1]
          have e11 : (pu gc 13 0 (nI (D + 1))) 11 0 = nI s := by rw [pu_o (by decide)]; exact c2
          have hr : f_X12_some Af (pu (pu gc 13 0 (nI (D + 1))) 11 0 (nI s + 1)) = some (r7, g7) := hr
          unfold F_X12_atom
          simp only [bd2_s, jn_s, nm_s, h12, if_true, hh, b1, d3, i10, if_false, ne6, e13, e11, hr]
        have K : F_X5_readsAtom Kf g5 gT (nI D) = bd3 (f_X5_readsCondition Kf g5 gT2 (nI (D + 1))) (fun r_18 g0_18 g1_18 => jn (fun (s0_J90 : Int32) (g1_J90 : Pic) => gdb s0_J90 (some (s0_J90, g0_18, g1_J90))) (fun J90 => jn (fun (g1_J89 : Pic) => J90 0 g1_J89) (fun J89 => (if r_18 = 0 then J89 g1_18 else bd2 (f_X10_takesSign g1_18 41) (fun r_20 g1_20 => jn (fun (g1_J85 : Pic) => J90 1 g1_J85) (fun J85 => (if r_20 = 0 then bd2 (f_X10_refuse g1_20) (fun r_21 g1_21 => (if r_21 = 0 then J89 g1_21 else J85 g1_21)) else J85 g1_20))))))) := by
          unfold F_X5_readsAtom
          simp only [bd_s, jn_s, b5, d3', if_true, i10, if_false, lt6, d4, nI_1]
        rcases hs with ⟨v, cs, g7, gT7, g57, s7, e1, e2, e3, e4, e5, e6, e7, e8, e9, e10, e11⟩ | ⟨v, g7, gT7, g57, e1, e2, e3, e4, e5, e6⟩
        · rw [R v g7 e1, K, e3]
          have e12 := e6.2.2.1
          have f13 : g7 13 0 = nI (D + 1) := e5
          obtain ⟨g8, p1, p2, p3, ⟨x1, x2, x3, -⟩ | ⟨x1, x2, x3, x3', gT8, x4, x5, x6, x7⟩⟩ := e6.sign (x := 41) (by decide) (by decide) (by decide)
          · have x1 : f_X12_isSign g7 41 = some (0, g8) := x1
            have x3 : f_X10_takesSign gT7 41 = some (0, gT7) := x3
            obtain ⟨w1, w2, w3⟩ := p3.wrong
            refine Or.inr ⟨v, pu (pu (pu g8 12 0 (nI s7)) 11 0 ((pu g8 12 0 (nI s7)) 11 0 + 1)) 13 0 ((pu (pu g8 12 0 (nI s7)) 11 0 ((pu g8 12 0 (nI s7)) 11 0 + 1)) 13 0 - 1), pu gT7 7 0 (nI s7), g57, ?_, e2, ?_, (((Ex.tr e4).tr p1.to.pu12.t13).p11).p13, ?_, by rw [pu_o (by decide)]; exact e11.trans d7⟩
            · rw [jn_s, jn_s, if_pos e12, x1, bd2_s, if_pos rfl, p2, w2, bd_s]
              dsimp only
              rw [nm_s, nm_s]
              exact gdb_b e2 _
            · simp only [bd3_s, jn_s, i10, if_false, x3, bd2_s, if_true, w1, gdb_0]
            · refine FLk.p13 ?_ _
              obtain ⟨e, y1, y2, y3, -⟩ := w3
              have s7n := e6.sn
              exact ⟨e, y1, y2, y3, s7 + 1, by omega, by rw [pu_s, if_pos rfl, pu_o (by decide), p2, nI_1]⟩
          · have x3 : f_X12_isSign g7 41 = some (1, g8) := x3
            have x5 : f_X10_takesSign gT7 41 = some (1, gT8) := x5
            have sb8 := sc_ge (p := isB) (c := c) (n := n) (q := s7 + 1)
            have g813 : (pu g8 11 0 (nI s7 + 1)) 13 0 = nI (D + 1) := by rw [pu_o (by decide), p1 13 (by decide)]; exact f13
            refine Or.inl ⟨v, cs, pu (pu g8 11 0 (nI s7 + 1)) 13 0 (nI D), gT8, g57, _, ?_, e2, ?_, ((Ex.tr e4).tr p1.to.t13).p11.p13, ?_, PR.p13 x6 (nI D), by omega, e8, e9, ?_, x7.trans (e11.trans d7)⟩
            · rw [jn_s, jn_s, if_pos e12, x3, bd2_s, if_neg (by decide)]
              dsimp only
              rw [nm_s, nm_s, p2, g813, nI_m hD]
              exact gdb_b e2 _
            · simp only [bd3_s, jn_s, i10, if_false, x5, bd2_s, gdb_1]
            · rw [pu_s, if_pos rfl, h13]
            · rw [← Ex.fa]; exact e10.mono (hd D6)
        · rw [R v g7 e1, K, e3]
          have ne := e5.ne n4
          refine Or.inr ⟨v, pu (pu g7 11 0 (g7 11 0 + 1)) 13 0 ((pu g7 11 0 (g7 11 0 + 1)) 13 0 - 1), gT7, g57, ?_, e2, ?_, (Ex.tr e4).p11.p13, (e5.p11 (hj2 D6)).p13 _, e6.trans d7⟩
          · rw [jn_s, jn_s, if_neg ne]
            dsimp only
            rw [nm_s, nm_s]
            exact gdb_b e2 _
          · simp only [bd3_s, jn_s, if_true, gdb_0]
      · have e6 : gc 13 0 = 6 := by rw [m13, show D = 6 by omega]; rfl
        have lt6 : ¬ nI D < 6 := fun y => D6 ((nI_ltI (b := 6) (by omega) (by omega)).mp y)
        obtain ⟨w1, w2, w3⟩ := c3.wrong
        refine Or.inr ⟨0, pu gc 12 0 (nI s), pu gT 7 0 (nI s), g5, ?_, Or.inl rfl, ?_, E1.to.pu12.t13, w3.k hj, by rw [pu_o (by decide)]⟩
        · unfold F_X12_atom
          simp only [bd_s, bd2_s, jn_s, h12, if_true, hh, b1, d3, i10, if_false, e6, w2]
        · unfold F_X5_readsAtom
          simp only [bd_s, bd2_s, jn_s, b5, d3', if_true, i10, if_false, lt6, rf, gdb_0]
  · -- not
    have ns : f_X10_isSign gT 40 = some 0 := by
      obtain ⟨_, _, _, _, ⟨_, y, _, _⟩ | ⟨_, y, _⟩⟩ := a4.sign (x := 40) (by decide) (by decide) (by decide)
      · exact y
      · have := (sc_in (p := isL) (c := c) (n := n) (q := s) (i := s) (Nat.le_refl _) b4).2
        rw [y] at this
        cases this
    have E1 := a2.tr b2
    have m13 : gb 13 0 = nI D := by rw [E1 13 (by decide)]; exact h13
    have sl := sc_ge (p := isB) (c := c) (n := n) (q := sc isL c n s)
    by_cases D6 : D < 6
    · have ne6 : ¬ gb 13 0 = 6 := by rw [m13]; exact fun y => by have := (nI_eq (b := 6) (by omega) (by omega)).mp y; omega
      have lt6 : nI D < 6 := (nI_ltI (b := 6) (by omega) (by omega)).mpr D6
      have Px := PR.p13 b3 (nI (D + 1))
      have Ex : E13 g (pu gb 13 0 (nI (D + 1))) := E1.to.t13.p13
      have e13 : (pu gb 13 0 (gb 13 0 + 1)) = pu gb 13 0 (nI (D + 1)) := by rw [m13, nI_1]
      have R : ∀ r g', Af (pu gb 13 0 (nI (D + 1))) = some (r, g') → (r = 0 ∨ r = 1) → F_X12_atom Af g = some (1 - r, pu g' 13 0 (g' 13 0 - 1)) := fun r g' hr hb' => by
        unfold F_X12_atom
        simp only [bd2_s, jn_s, nm_s, h12, if_true, hh, b1, i10, if_false, ne6, e13, hr]
        rcases hb' with rfl | rfl <;> rfl
      have K : F_X5_readsAtom Kf g5 gT (nI D) = bd3 (Kf g5 tb (nI (D + 1))) (fun r_15 g0_15 g1_15 => jn (fun (s0_J120 : Int32) (g0_J120 : Pic) => gdb s0_J120 (some (s0_J120, g0_J120, g1_15))) (fun J120 => jn (fun (g0_J119 : Pic) => J120 0 g0_J119) (fun J119 => (if r_15 = 0 then J119 g0_15 else bd2 (f_X5_put g0_15 g1_15 2000) (fun r_17 g0_17 => (if r_17 = 0 then J119 g0_17 else J120 1 g0_17)))))) := by
        unfold F_X5_readsAtom
        simp only [bd_s, jn_s, b5, ns, if_true, i10, if_false, lt6, b6, nI_1]
      have n01 : ∀ r : Int32, (r = 0 ∨ r = 1) → (1 - r = 0 ∨ 1 - r = 1) := fun r hr => by
        rcases hr with rfl | rfl <;> decide
      rcases hA D6 _ tb g5 _ z Px (hB.c Ex) rfl h6 (by omega) with ⟨v, cs, g7, gT7, g57, s7, e1, e2, e3, e4, e5, e6, e7, e8, e9, e10, e11⟩ | ⟨v, g7, gT7, g57, e1, e2, e3, e4, e5, e6⟩
      · have s7n := e6.sn
        obtain ⟨g58, u1, u2⟩ := k_put e9.1 (by omega) gT7 2000
        have f13 : g7 13 0 = nI (D + 1) := e5
        have ln : (cs ++ [2000]).length = cs.length + 1 := by rw [List.length_append]; rfl
        refine Or.inl ⟨1 - v, cs ++ [2000], pu g7 13 0 (nI D), gT7, g58, s7, ?_, n01 v e2, ?_, (Ex.tr e4).p13, ?_, PR.p13 e6 (nI D), by rw [ln]; omega, by rw [ln]; omega, e9.tr u2, ?_, e11.trans b8⟩
        · rw [R v g7 e1 e2, f13, nI_m hD]
        · rw [K, e3]
          simp only [bd3_s, jn_s, i10, if_false, u1, bd2_s, gdb_1]
        · rw [pu_s, if_pos rfl, h13]
        · rw [← Ex.fa]; exact (RV.not e10).mono (by have := hd D6; omega)
      · refine Or.inr ⟨1 - v, pu g7 13 0 (g7 13 0 - 1), gT7, g57, R v g7 e1 e2, n01 v e2, ?_, (Ex.tr e4).p13, (e5.mono (by have := hj2 D6; omega)).p13 _, e6.trans b8⟩
        rw [K, e3]
        simp only [bd3_s, jn_s, if_true, gdb_0]
    · have e6 : gb 13 0 = 6 := by rw [m13, show D = 6 by omega]; rfl
      have lt6 : ¬ nI D < 6 := fun y => D6 ((nI_ltI (b := 6) (by omega) (by omega)).mp y)
      have g12 := b3.2.2.1
      have w2 := q_wrong g12 (nI s)
      obtain ⟨q, q1, q2, -⟩ := b3.2.1
      have sn := h.sn
      refine Or.inr ⟨0, pu gb 12 0 (nI s), pu gT 7 0 (nI s), g5, ?_, Or.inl rfl, ?_, E1.to.pu12.t13, ⟨s, sn, rfl, rfl, q, by omega, q2⟩, by rw [pu_o (by decide)]⟩
      · unfold F_X12_atom
        simp only [bd_s, bd2_s, jn_s, h12, if_true, hh, b1, i10, if_false, e6, w2]
      · unfold F_X5_readsAtom
        simp only [bd_s, bd2_s, jn_s, b5, ns, if_true, i10, if_false, lt6, rf, gdb_0]
theorem e_atom : ∀ N D, D ≤ 6 → 7 ≤ D + N → HA (f_X12_atom N) (fun g k x => f_X5_atom N (g, k, x)) c n D (nI D) (3 + 2 * (6 - D)) (1 + (6 - D)) := by
  intro N
  induction N with
  | zero => intro D h1 h2; omega
  | succ N ih =>
    intro D h1 h2
    exact e_atomS (Af := f_X12_atom N) (Kf := fun g k x => f_X5_atom N (g, k, x)) (d := 3 + 2 * (6 - (D + 1))) (j := 1 + (6 - (D + 1))) (fun h => ih (D + 1) (by omega) (by omega)) h1 (by omega) (fun h => by omega) (by omega) (fun h => by omega)
theorem e_cond (h : PR g gT c n s) (hB : hb g) (h13 : g 13 0 = 0) (h6 : g5 6 0 = nI z) (hz : z ≤ s) : BRes g gT g5 c n s z 17 7 (f_X12_cond g) (f_X5_cond g5 gT 0) :=
  e_some (D := 0) (x1 := 0) (e_atom 8 0 (by omega) (by omega)) h hB h13 h6 hz
end K34
