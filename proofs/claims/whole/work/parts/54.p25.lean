/-! a word's line -/
section K25
variable {m : Nat → Int32} {g g0 gT gT0 gD gL gS gS' : Pic} {c : Nat → Nat} {n q s s0 : Nat}
theorem rs_adW {W L o : Nat} {f : Nat → Nat} (h : RS gS gL m) (hO : Ok m) (hW : m 3 = nI W) (w7 : W < 8) (l1 : 1 ≤ L) (l6 : L ≤ 6) (e : ∀ k, k ≠ 0 → k ≠ 1 → k ≠ 2 → k ≠ 3 → gS' k = gS k) (e0 : gS' 0 0 = nI (W + 1)) (e2 : ∀ w, gS' 2 w = if w = W then nI L else gS 2 w) (e3 : ∀ w, gS' 3 w = if w = W then nI o else gS 3 w) (e1 : ∀ p, p < W * 6 → gS' 1 p = gS 1 p) (e1' : ∀ k, k < L → gS' 1 (W * 6 + k) = nI (f k)) : RS gS' gL (adW m W L o f) := by
  have tW : tn (m 3) = W := by rw [hW]; exact tn_n (by omega)
  have t3 : tn (adW m W L o f 3) = W + 1 := by rw [adW_3]; exact tn_n (by omega)
  have a : ∀ p, p ≠ 3 → (p < 12 + 8 * W ∨ 12 + 8 * W + 8 ≤ p) → adW m W L o f p = m p := fun p h1 h2 => adW_o h1 h2
  have ee : ∀ k, k ≠ 0 → k ≠ 1 → k ≠ 2 → k ≠ 3 → gS' k 0 = gS k 0 := fun k h0 h1 h2 h3 => by rw [e k h0 h1 h2 h3]
  refine ⟨by rw [adW_3]; exact e0, by rw [a 5 (by omega) (by omega), ee 4 (by omega) (by omega) (by omega) (by omega)]; exact h.S, by rw [a 6 (by omega) (by omega), ee 6 (by omega) (by omega) (by omega) (by omega)]; exact h.D, by rw [a 4 (by omega) (by omega), ee 7 (by omega) (by omega) (by omega) (by omega)]; exact h.U, by rw [a 7 (by omega) (by omega), ee 13 (by omega) (by omega) (by omega) (by omega)]; exact h.T, by rw [a 8 (by omega) (by omega), ee 14 (by omega) (by omega) (by omega) (by omega)]; exact h.slip, by rw [a 9 (by omega) (by omega), ee 15 (by omega) (by omega) (by omega) (by omega)]; exact h.minute, by rw [a 11 (by omega) (by omega), ee 16 (by omega) (by omega) (by omega) (by omega)]; exact h.seed, by rw [a 0 (by omega) (by omega), ee 17 (by omega) (by omega) (by omega) (by omega)]; exact h.texts, ?_, h.p_.c hO.S.2.2 (a 5 (by omega) (by omega)) (fun p h1 h2 => a p (by omega) (by omega)) (e 5 (by omega) (by omega) (by omega) (by omega)), h.u_.c hO.U.2.2 (a 4 (by omega) (by omega)) (fun p h1 h2 => a p (by omega) (by omega)) (e 8 (by omega) (by omega) (by omega) (by omega)) (e 9 (by omega) (by omega) (by omega) (by omega)) (e 10 (by omega) (by omega) (by omega) (by omega)) (e 11 (by omega) (by omega) (by omega) (by omega)) (e 12 (by omega) (by omega) (by omega) (by omega)), h.l_.c hO.G.2.2 (a 10 (by omega) (by omega)) (fun p h1 h2 => a p (by omega) (by omega))⟩
  rw [t3]
  intro w hw
  rw [e2, e3]
  by_cases z : w = W
  · subst z
    rw [adW_6, adW_7, tn_n (by omega), if_pos rfl, if_pos rfl]
    refine ⟨rfl, rfl, fun k hk => ?_⟩
    rw [adW_k (by omega), if_pos hk]
    exact e1' k hk
  · have hw' : w < tn (m 3) := by omega
    have l := (hO.len hw').2.2
    rw [adW_w (by omega) (by omega), adW_w (by omega) (by omega), if_neg z, if_neg z]
    refine ⟨h.len hw', h.often hw', fun k hk => ?_⟩
    rw [adW_w (by omega) (by omega), e1 _ (by omega)]
    exact h.let_ hw' hk
theorem q_w95 (hB : RB g c n) {W L : Nat} (w7 : W < 8) (l6 : L ≤ 6) (hL : s + L ≤ n) (hc : ∀ i, i < L → 97 ≤ c (s + i)) (o : Int32) : ∃ g', f_X12_wordLine_L95 (nI s) (nI L) o (nI W) fu (0, g) = some g' ∧ (∀ k, k ≠ 1 → g' k = g k) ∧ ∀ p, g' 1 p = if 12 + 8 * W ≤ p ∧ p < 12 + 8 * W + 6 then (if p - (12 + 8 * W) < L then nI (c (s + (p - (12 + 8 * W))) - 97) else -1) else g 1 p := by
  have n4 := hB.2.2.1
  refine lp_inv (fun i a => ∃ y : Pic, a = (nI i, y) ∧ (∀ k, k ≠ 1 → y k = g k) ∧ ∀ p, y 1 p = if 12 + 8 * W ≤ p ∧ p < 12 + 8 * W + i then (if p - (12 + 8 * W) < L then nI (c (s + (p - (12 + 8 * W))) - 97) else -1) else g 1 p) 6 (fun g' : Pic => (∀ k, k ≠ 1 → g' k = g k) ∧ ∀ p, g' 1 p = if 12 + 8 * W ≤ p ∧ p < 12 + 8 * W + 6 then (if p - (12 + 8 * W) < L then nI (c (s + (p - (12 + 8 * W))) - 97) else -1) else g 1 p) ?_ ?_ (by have := fu_big; omega) ⟨g, rfl, fun _ _ => rfl, fun p => by rw [if_neg (by omega)]⟩
  · rintro i hi _ ⟨y, rfl, h1, h2⟩
    have ni : ¬ 6 ≤ i := by omega
    have step : ∀ v : Int32, (v = if i < L then nI (c (s + i) - 97) else -1) → ∀ p, (pu y 1 (12 + 8 * W + i) v) 1 p = if 12 + 8 * W ≤ p ∧ p < 12 + 8 * W + (i + 1) then (if p - (12 + 8 * W) < L then nI (c (s + (p - (12 + 8 * W))) - 97) else -1) else g 1 p := by
      intro v hv p
      rw [pu_s]
      by_cases z : p = 12 + 8 * W + i
      · rw [if_pos z, if_pos (by omega), z, show 12 + 8 * W + i - (12 + 8 * W) = i by omega, hv]
      · rw [if_neg z, h2 p]
        by_cases z2 : 12 + 8 * W ≤ p ∧ p < 12 + 8 * W + i
        · rw [if_pos z2, if_pos (show 12 + 8 * W ≤ p ∧ p < 12 + 8 * W + (i + 1) by omega)]
        · rw [if_neg z2, if_neg (show ¬ (12 + 8 * W ≤ p ∧ p < 12 + 8 * W + (i + 1)) by omega)]
    have hBy : RB y c n := hB.of (h1 9 (by decide)) (h1 7 (by decide)) (fun p hp => by rw [h2 p, if_neg (by omega)]) (h1 10 (by decide))
    by_cases z : i < L
    · have nz : ¬ L ≤ i := by omega
      have qb := q_byte hBy (show s + i < n by omega)
      have c8 := hBy.2.2.2 (s + i) (by omega)
      have c9 := hc i z
      refine Or.inl ⟨(nI (i + 1), pu y 1 (12 + 8 * W + i) (nI (c (s + i) - 97))), ⟨_, rfl, fun k hk => by rw [pu_o hk]; exact h1 k hk, step _ (by rw [if_pos z])⟩, fun r => ?_⟩
      simp (disch := omega) only [bd_s, bd2_s, bd3_s, bd4_s, bd5_s, bd6_s, bd7_s, bd8_s, lr_l, lr_r, nm_s, jn_s, gdb_0, gdb_1, li_2, li_3, li_4, li_5, li_6, li_7, li_8, li_9, li_10, li_11, li_12, li_13, li_14, li_15, li_16, li_20, li_24, li_32, li_40, li_41, li_43, li_48, li_57, li_59, li_60, li_62, li_63, li_76, li_96, li_97, li_99, li_100, li_104, li_116, li_122, li_128, li_129, li_216, li_217, li_218, li_219, li_239, li_240, li_255, li_256, li_257, li_400, li_456, li_856, li_999, li_1000, li_1001, li_1002, li_1003, li_1004, li_1005, li_1006, li_1007, li_1008, li_1161, li_2000, li_2001, li_2002, li_2003, li_2004, li_2005, li_5016, li_5472, li_9999, li_10000, li_32767, li_1000000, li_2000000000, nI_add, nI_mul, nI_sub, nI_clamp, nI_leI, nI_ltI, nI_eq, gdi_n, nI_1, nI_eq0, nI_eq1, nI_le0, nI_le1, nI_0le, nI_lt0, nI_0lt, nI_m1, Int32.add_zero, Nat.le_refl, if_true, if_false, Bool.false_eq_true, Bool.true_eq_false, i10, i01, im0, im1, i0m, i1m, l10, l00, l01, t10, t00, ni, nz, qb]
    · have nz : L ≤ i := by omega
      refine Or.inl ⟨(nI (i + 1), pu y 1 (12 + 8 * W + i) (-1)), ⟨_, rfl, fun k hk => by rw [pu_o hk]; exact h1 k hk, step _ (by rw [if_neg z])⟩, fun r => ?_⟩
      simp (disch := omega) only [bd_s, bd2_s, bd3_s, bd4_s, bd5_s, bd6_s, bd7_s, bd8_s, lr_l, lr_r, nm_s, jn_s, gdb_0, gdb_1, li_2, li_3, li_4, li_5, li_6, li_7, li_8, li_9, li_10, li_11, li_12, li_13, li_14, li_15, li_16, li_20, li_24, li_32, li_40, li_41, li_43, li_48, li_57, li_59, li_60, li_62, li_63, li_76, li_96, li_97, li_99, li_100, li_104, li_116, li_122, li_128, li_129, li_216, li_217, li_218, li_219, li_239, li_240, li_255, li_256, li_257, li_400, li_456, li_856, li_999, li_1000, li_1001, li_1002, li_1003, li_1004, li_1005, li_1006, li_1007, li_1008, li_1161, li_2000, li_2001, li_2002, li_2003, li_2004, li_2005, li_5016, li_5472, li_9999, li_10000, li_32767, li_1000000, li_2000000000, nI_add, nI_mul, nI_sub, nI_clamp, nI_leI, nI_ltI, nI_eq, gdi_n, nI_1, nI_eq0, nI_eq1, nI_le0, nI_le1, nI_0le, nI_lt0, nI_0lt, nI_m1, Int32.add_zero, Nat.le_refl, if_true, if_false, Bool.false_eq_true, Bool.true_eq_false, i10, i01, im0, im1, i0m, i1m, l10, l00, l01, t10, t00, ni, nz]
  · rintro _ ⟨y, rfl, h1, h2⟩
    exact ⟨y, ⟨h1, h2⟩, fun r => if_pos (show (6 : Int32) ≤ nI 6 from Int32.le_refl _)⟩
theorem e_word_line (h0 : PR g0 gT0 c n s0) (hst : f_X10_step gT0 = some gT) (e0 : E11 g0 g) (ht1 : gT 1 = gT0 1) (h : EV g gT gD gL c n s) (gE : Pic) : LRes g0 gT0 gL c n (f_X12_wordLine g (nI s0)) (f_X2_readsWord gE gT0 gD) := by
  obtain ⟨hp, hO, hR⟩ := h
  have n4 := hp.n4
  have e12 := hp.2.2.1
  obtain ⟨W, hW, tW, -, w8⟩ := hO.W.ex
  have gw := hR.W.trans hW
  by_cases h8 : W = 8
  · -- eight words there are
    have s0n := h0.sn
    have m8 : g 1 3 = 8 := by rw [hW, h8]; rfl
    have ne : ¬ (pu g 12 0 (nI s0)) 12 0 = -1 := by rw [pu_s, if_pos rfl, nI_m1 (by omega)]; exact id
    have fl : FL (pu g 12 0 (nI s0)) (pu gT0 7 0 (nI s0)) n := ⟨s0, s0n, rfl, rfl, by
      obtain ⟨q, q1, q2, -⟩ := hp.2.1
      exact ⟨q, by omega, by rw [pu_o (by decide)]; exact q2⟩⟩
    refine Or.inr ⟨pu g 12 0 (nI s0), pu gT0 7 0 (nI s0), gD, ?_, ?_, fl, e0.to.pu12.fr, by rw [pu_o (by decide)]⟩
    · unfold f_X12_wordLine
      simp only [bd_s, bd2_s, bd3_s, bd4_s, bd5_s, bd6_s, bd7_s, bd8_s, lr_l, lr_r, nm_s, jn_s, gdb_0, gdb_1, m8, if_true, q_wrong e12, ne, if_false]
    · have nl : ¬ (8 : Int32) < 8 := by decide
      unfold f_X2_readsWord
      rw [gw, h8]
      simp only [bd_s, bd2_s, bd3_s, bd4_s, bd5_s, bd6_s, bd7_s, bd8_s, lr_l, lr_r, nm_s, jn_s, gdb_0, gdb_1, show nI 8 = 8 from rfl, nl, if_false, k_refuse h0.2.2.2.2 h0.2.2.2.1.2.2.2.1]
  · have m8 : ¬ g 1 3 = 8 := fun z => by rw [hW] at z; have := (nI_eq (b := 8) (by omega) (by omega)).mp z; omega
    have w7 : W < 8 := by omega
    have lw : nI W < 8 := nI_lt (b := 8) w7 (by omega)
    obtain ⟨g1, a1, a2, a3, a4⟩ := hp.skip
    have hB := hp.1.e11 a2
    have sn := hp.sn
    have hh : f_X12_here g = some (nI s, g1) := by unfold f_X12_here; rw [a1]; simp only [bd_s, a3]
    have le := sc_le (p := isL) (c := c) sn
    have ge := sc_ge (p := isL) (c := c) (n := n) (q := s)
    have ql := q_long hB sn
    have qa := q_areL hB (s := s) (L := sc isL c n s - s) (by omega)
    have m1 : g1 1 = g 1 := a2 1 (by decide)
    have TKv := hp.2.2.2.1
    have kr := k_refuse hp.2.2.2.2 TKv.2.2.2.1
    obtain ⟨w1, w2, w3⟩ := a4.wrong
    -- wrong at the letters
    have bad : ∀ gD', f_X2_readsWord gE gT0 gD = some (0, pu gT 7 0 (nI s), gD') → (gd c s (sc isL c n s - s) = false ∨ 6 < sc isL c n s - s) → LRes g0 gT0 gL c n (f_X12_wordLine g (nI s0)) (f_X2_readsWord gE gT0 gD) := by
      intro gD' hc hb
      refine Or.inr ⟨pu g1 12 0 (nI s), pu gT 7 0 (nI s), gD', ?_, hc, w3, (e0.tr a2).to.pu12.fr, by rw [pu_o (by decide)]; exact ht1⟩
      unfold f_X12_wordLine
      cases hg : gd c s (sc isL c n s - s) with
      | false =>
        rw [hg] at qa
        have qa : f_X12_areLetters g1 (nI s) (nI (sc isL c n s - s)) = some 0 := qa
        simp only [bd_s, bd2_s, bd3_s, bd4_s, bd5_s, bd6_s, bd7_s, bd8_s, lr_l, lr_r, nm_s, jn_s, gdb_0, gdb_1, m8, if_false, e12, if_true, hh, ql, qa, w2]
      | true =>
        rw [hg] at qa
        have qa : f_X12_areLetters g1 (nI s) (nI (sc isL c n s - s)) = some 1 := qa
        have l6 : ¬ nI (sc isL c n s - s) ≤ 6 := nI_ge (a := 6) (hb.resolve_left (fun z => by rw [hg] at z; cases z)) (by omega)
        simp only [bd_s, bd2_s, bd3_s, bd4_s, bd5_s, bd6_s, bd7_s, bd8_s, lr_l, lr_r, nm_s, jn_s, gdb_0, gdb_1, m8, if_false, e12, if_true, hh, ql, qa, i10, l6, w2]
    by_cases k1 : gT 3 0 = 1
    · have tk : s < n ∧ isL (c s) = true ∧ gT 5 0 = nI (sc isL c n s) := by
        rcases TKv.2.2.2.2.2 with ⟨z, k3, -⟩ | ⟨z, hl, k3, t5, -⟩ | ⟨z, hd, k3, -⟩ | ⟨z, -, hd, k3, -⟩
        · rw [k3] at k1; exact absurd k1 (by decide)
        · exact ⟨z, hl, t5⟩
        · rw [k3] at k1; exact absurd k1 (by decide)
        · rw [k3] at k1; exact absurd k1 (by decide)
      obtain ⟨sl, hl, t5⟩ := tk
      have t4 := TKv.2.2.2.1
      have l0 : s < sc isL c n s := by
        have := sc_go (p := isL) (c := c) sl hl
        have := sc_ge (p := isL) (c := c) (n := n) (q := s + 1)
        omega
      have lets : ∀ i, i < sc isL c n s - s → 97 ≤ c (s + i) := fun i hi => (of_decide_eq_true (sc_in (p := isL) (c := c) (n := n) (q := s) (i := s + i) (by omega) (by omega)).2).1
      by_cases l6 : sc isL c n s - s ≤ 6
      · have l6' : nI (sc isL c n s - s) ≤ 6 := nI_le (b := 6) l6 (by omega)
        obtain ⟨L, hL⟩ : ∃ L, sc isL c n s - s = L := ⟨_, rfl⟩
        rw [hL] at ql qa l6 l6' lets bad
        -- the class's letters
        have A : ∃ x, f_X2_readsWord_L72 (nI W) (nI L) gE fu (0, gT, gD) = some x ∧ ((gd c s L = true ∧ ∃ y, x = .inr (gT, y) ∧ (∀ k, k ≠ 1 → y k = gD k) ∧ (∀ p, p < W * 6 → y 1 p = gD 1 p) ∧ ∀ k, k < L → y 1 (W * 6 + k) = nI (c (s + k) - 97)) ∨ (gd c s L = false ∧ ∃ y, x = .inl (0, pu gT 7 0 (nI s), y))) := by
          refine lp_inv (fun i a => ∃ y : Pic, a = (nI i, gT, y) ∧ (∀ j, j < i → c (s + j) ≤ 104) ∧ (∀ k, k ≠ 1 → y k = gD k) ∧ (∀ p, p < W * 6 → y 1 p = gD 1 p) ∧ ∀ k, k < i → y 1 (W * 6 + k) = nI (c (s + k) - 97)) L (fun x : (Int32 × Pic × Pic) ⊕ (Pic × Pic) => (gd c s L = true ∧ ∃ y, x = .inr (gT, y) ∧ (∀ k, k ≠ 1 → y k = gD k) ∧ (∀ p, p < W * 6 → y 1 p = gD 1 p) ∧ ∀ k, k < L → y 1 (W * 6 + k) = nI (c (s + k) - 97)) ∨ (gd c s L = false ∧ ∃ y, x = .inl (0, pu gT 7 0 (nI s), y))) ?_ ?_ (by have := fu_big; omega) ⟨gD, rfl, fun j hj => absurd hj (Nat.not_lt_zero j), fun _ _ => rfl, fun _ _ => rfl, fun j hj => absurd hj (Nat.not_lt_zero j)⟩
          · rintro i hi _ ⟨y, rfl, hc, h1, h2, h3⟩
            have ni : ¬ L ≤ i := by omega
            have kl := k_lett TKv (show s + i < n by omega)
            have c9 := lets i hi
            have c8 := (TKv.2.2.1 (s + i) (by omega)).2
            by_cases z : c (s + i) ≤ 104
            · rw [if_pos ⟨c9, z⟩] at kl
              refine Or.inl ⟨(nI (i + 1), gT, pu y 1 (W * 6 + i) (nI (c (s + i) - 97))), ⟨_, rfl, fun j hj => ?_, fun k hk => by rw [pu_o hk]; exact h1 k hk, fun p hp => by rw [pu_s, if_neg (by omega)]; exact h2 p hp, fun k hk => ?_⟩, fun r => ?_⟩
              · rcases Nat.lt_succ_iff_lt_or_eq.mp hj with w | w
                · exact hc j w
                · rw [w]; exact z
              · rw [pu_s]
                by_cases w : k = i
                · rw [if_pos (by omega), w]
                · rw [if_neg (by omega)]; exact h3 k (by omega)
              · simp (disch := omega) only [bd_s, bd2_s, bd3_s, bd4_s, bd5_s, bd6_s, bd7_s, bd8_s, lr_l, lr_r, nm_s, jn_s, gdb_0, gdb_1, li_2, li_3, li_4, li_5, li_6, li_7, li_8, li_9, li_10, li_11, li_12, li_13, li_14, li_15, li_16, li_20, li_24, li_32, li_40, li_41, li_43, li_48, li_57, li_59, li_60, li_62, li_63, li_76, li_96, li_97, li_99, li_100, li_104, li_116, li_122, li_128, li_129, li_216, li_217, li_218, li_219, li_239, li_240, li_255, li_256, li_257, li_400, li_456, li_856, li_999, li_1000, li_1001, li_1002, li_1003, li_1004, li_1005, li_1006, li_1007, li_1008, li_1161, li_2000, li_2001, li_2002, li_2003, li_2004, li_2005, li_5016, li_5472, li_9999, li_10000, li_32767, li_1000000, li_2000000000, nI_add, nI_mul, nI_sub, nI_clamp, nI_leI, nI_ltI, nI_eq, gdi_n, nI_1, nI_eq0, nI_eq1, nI_le0, nI_le1, nI_0le, nI_lt0, nI_0lt, nI_m1, Int32.add_zero, Nat.le_refl, if_true, if_false, Bool.false_eq_true, Bool.true_eq_false, i10, i01, im0, im1, i0m, i1m, l10, l00, l01, t10, t00, ni, kl]
            · rw [if_neg (fun w => z w.2)] at kl
              refine Or.inr ⟨.inl (0, pu gT 7 0 (nI s), y), Or.inr ⟨decide_eq_false (fun w => z (w.2 i hi)), y, rfl⟩, fun r => ?_⟩
              simp (disch := omega) only [bd_s, bd2_s, bd3_s, bd4_s, bd5_s, bd6_s, bd7_s, bd8_s, lr_l, lr_r, nm_s, jn_s, gdb_0, gdb_1, li_2, li_3, li_4, li_5, li_6, li_7, li_8, li_9, li_10, li_11, li_12, li_13, li_14, li_15, li_16, li_20, li_24, li_32, li_40, li_41, li_43, li_48, li_57, li_59, li_60, li_62, li_63, li_76, li_96, li_97, li_99, li_100, li_104, li_116, li_122, li_128, li_129, li_216, li_217, li_218, li_219, li_239, li_240, li_255, li_256, li_257, li_400, li_456, li_856, li_999, li_1000, li_1001, li_1002, li_1003, li_1004, li_1005, li_1006, li_1007, li_1008, li_1161, li_2000, li_2001, li_2002, li_2003, li_2004, li_2005, li_5016, li_5472, li_9999, li_10000, li_32767, li_1000000, li_2000000000, nI_add, nI_mul, nI_sub, nI_clamp, nI_leI, nI_ltI, nI_eq, gdi_n, nI_1, nI_eq0, nI_eq1, nI_le0, nI_le1, nI_0le, nI_lt0, nI_0lt, nI_m1, Int32.add_zero, Nat.le_refl, if_true, if_false, Bool.false_eq_true, Bool.true_eq_false, i10, i01, im0, im1, i0m, i1m, l10, l00, l01, t10, t00, ni, kl, kr]
          · rintro _ ⟨y, rfl, hc, h1, h2, h3⟩
            refine ⟨.inr (gT, y), Or.inl ⟨decide_eq_true ⟨by omega, hc⟩, y, rfl, h1, h2, h3⟩, fun r => ?_⟩
            simp (disch := omega) only [bd_s, bd2_s, bd3_s, bd4_s, bd5_s, bd6_s, bd7_s, bd8_s, lr_l, lr_r, nm_s, jn_s, gdb_0, gdb_1, li_2, li_3, li_4, li_5, li_6, li_7, li_8, li_9, li_10, li_11, li_12, li_13, li_14, li_15, li_16, li_20, li_24, li_32, li_40, li_41, li_43, li_48, li_57, li_59, li_60, li_62, li_63, li_76, li_96, li_97, li_99, li_100, li_104, li_116, li_122, li_128, li_129, li_216, li_217, li_218, li_219, li_239, li_240, li_255, li_256, li_257, li_400, li_456, li_856, li_999, li_1000, li_1001, li_1002, li_1003, li_1004, li_1005, li_1006, li_1007, li_1008, li_1161, li_2000, li_2001, li_2002, li_2003, li_2004, li_2005, li_5016, li_5472, li_9999, li_10000, li_32767, li_1000000, li_2000000000, nI_add, nI_mul, nI_sub, nI_clamp, nI_leI, nI_ltI, nI_eq, gdi_n, nI_1, nI_eq0, nI_eq1, nI_le0, nI_le1, nI_0le, nI_lt0, nI_0lt, nI_m1, Int32.add_zero, Nat.le_refl, if_true, if_false, Bool.false_eq_true, Bool.true_eq_false, i10, i01, im0, im1, i0m, i1m, l10, l00, l01, t10, t00]
            done
        have hsub : (gT 5 0) - (gT 4 0) = nI L := by rw [t5, t4, nI_sub (by omega), hL]
        obtain ⟨x, A1, ⟨hg, y, rfl, y1, y2, y3⟩ | ⟨hg, y, rfl⟩⟩ := A
        · rw [hg] at qa
          have qa : f_X12_areLetters g1 (nI s) (nI L) = some 1 := qa
          obtain ⟨gT1, s1, s2, s3, s4⟩ := TKv.stepOk t5 le
          have sL : nI s + nI L = nI (sc isL c n s) := by rw [nI_add]; congr 1; omega
          have P1 : PR (pu g1 11 0 (nI (sc isL c n s))) gT1 c n (sc isB c n (sc isL c n s)) := hp.move a2.pu le (by rw [pu_s, if_pos rfl]) s2 s3
          have p12 : (pu g1 11 0 (nI (sc isL c n s))) 12 0 = -1 := P1.2.2.1
          have y20 : (pu y 2 W (nI L)) 0 0 = nI W := by rw [pu_o (by decide), y1 0 (by decide)]; exact gw
          rcases P1.after (k := 1) (strOk_all 1 (by decide) (by decide)) (lo := 1) (hi := 99) (by decide) with ⟨v, g2, gTa, gT2, s', v9, b1, b2, b3, b4, b5, b6, b7, b8⟩ | ⟨g2, b1, b2, b3, b4, b5⟩ | ⟨v, g2, gTa, gT2, b1, b2, b3, b4, b5, b6⟩
          · have v1 : 1 ≤ v := (nI_leI (a := 1) (by omega) (by omega)).mp b6
            have v99 : v ≤ 99 := (nI_leI (b := 99) (by omega) (by omega)).mp b7
            have e12' := b5.2.2.1
            have m2 : g2 1 = g 1 := by rw [b2 1 (by decide)]; exact m1
            have q3 : g2 1 3 = nI W := by rw [m2]; exact hW
            obtain ⟨g3, c1, c2, c3⟩ := q_w95 (s := s) (L := L) b5.1 w7 l6 (by omega) lets (nI v)
            have q3' : ∀ X : Pic, (∀ p, p < 12 → X 1 p = g2 1 p) → X 1 3 = nI W := fun X hX => by rw [hX 3 (by decide)]; exact q3
            have row : (pu (pu (pu g3 1 (12 + 8 * W + 6) (nI L)) 1 (12 + 8 * W + 7) (nI v)) 1 3 (nI (W + 1))) 1 = adW (g 1) W L v (fun k => c (s + k) - 97) := by
              funext p
              unfold adW
              rw [pu_s, pu_s, pu_s, c3 p, m2]
            refine Or.inl ⟨pu (pu (pu g3 1 (12 + 8 * W + 6) (nI L)) 1 (12 + 8 * W + 7) (nI v)) 1 3 (nI (W + 1)), gT2, pu (pu (pu y 2 W (nI L)) 3 W (nI v)) 0 0 (nI (W + 1)), s', ?_, ?_, ⟨b5.row1 (fun k hk => by rw [pu_o hk, pu_o hk, pu_o hk]; exact c2 k hk) (fun p hp => by rw [pu_s, if_neg (by omega), pu_s, if_neg (by omega), pu_s, if_neg (by omega), c3 p, if_neg (by omega)]), ?_, ?_⟩, ?_, ?_⟩
            · have q33 : (pu (pu g3 1 (12 + 8 * W + 6) (nI L)) 1 (12 + 8 * W + 7) (nI v)) 1 3 = nI W := by rw [pu_s, if_neg (by omega), pu_s, if_neg (by omega), c3 3, if_neg (by omega)]; exact q3
              unfold f_X12_wordLine
              simp (disch := omega) only [bd_s, bd2_s, bd3_s, bd4_s, bd5_s, bd6_s, bd7_s, bd8_s, lr_l, lr_r, nm_s, jn_s, gdb_0, gdb_1, show ¬ g 1 3 = nI 8 from m8, if_false, e12, if_true, hh, ql, qa, i10, show nI L ≤ nI 6 from l6', sL, b1, e12', q3, c1, li_12, li_8, li_6, li_7, nI_mul, nI_add, gdi_n, nI_clamp, q33, nI_1]
            · have y33 : (pu (pu (pu y 2 W (nI L)) 3 W (nI v)) 0 0 (nI (W + 1))) 3 W = nI v := by rw [pu_o (by decide), pu_s, if_pos rfl]
              have y00 : (pu (pu y 2 W (nI L)) 3 W (nI v)) 0 0 = nI W := by rw [pu_o (by decide)]; exact y20
              have nv : ¬ nI v = -1 := by rw [nI_m1 (by omega)]; exact id
              unfold f_X2_readsWord
              rw [gw]
              simp (disch := omega) only [bd_s, bd2_s, bd3_s, bd4_s, bd5_s, bd6_s, bd7_s, bd8_s, lr_l, lr_r, nm_s, jn_s, gdb_0, gdb_1, lw, if_true, hst, hsub, k1, l6', A1, gdi_n, nI_clamp, s1, b3, i10, if_false, b4, y00, nI_1, y33, nv]
            · rw [row]; exact ok_adW hO hW w7 (by omega) l6 v1 v99 (fun k hk => by have := (of_decide_eq_true hg).2 k hk; omega)
            · rw [row]
              exact rs_adW hR hO hW w7 (by omega) l6 (fun k h0 h1 h2 h3 => by rw [pu_o h0, pu_o h3, pu_o h2]; exact y1 k h1) rfl (fun w => by rw [pu_o (by decide), pu_o (by decide), pu_s, y1 2 (by decide)]) (fun w => by rw [pu_o (by decide), pu_s, pu_o (by decide), y1 3 (by decide)]) (fun p hp => by rw [pu_o (by decide), pu_o (by decide), pu_o (by decide)]; exact y2 p hp) (fun k hk => by rw [pu_o (by decide), pu_o (by decide), pu_o (by decide)]; exact y3 k hk)
            · refine FR.tr e0.to.fr ⟨fun k h1 h2 h3 => by rw [pu_o h1, pu_o h1, pu_o h1, c2 k h1, b2 k h2, pu_o h2]; exact a2 k h2, fun p hp => ?_, ?_, fun p hp => ?_⟩
              · rw [row]; exact adW_o (by omega) (by omega)
              · rw [row]; exact adW_o (by omega) (by omega)
              · rw [row]; exact adW_o (by omega) (by omega)
            · rw [b8, s4]; exact ht1
          · have ne := b5.ne n4
            refine Or.inr ⟨g2, _, pu y 2 W (nI L), ?_, ?_, b5, FR.tr (e0.tr a2.pu).to.fr b2.fr, by rw [pu_o (by decide), s4]; exact ht1⟩
            · unfold f_X12_wordLine
              simp (disch := omega) only [bd_s, bd2_s, bd3_s, bd4_s, bd5_s, bd6_s, bd7_s, bd8_s, lr_l, lr_r, nm_s, jn_s, gdb_0, gdb_1, m8, if_false, e12, if_true, hh, ql, qa, i10, l6', sL, b1, ne]
            · unfold f_X2_readsWord
              rw [gw]
              simp (disch := omega) only [bd_s, bd2_s, bd3_s, bd4_s, bd5_s, bd6_s, bd7_s, bd8_s, lr_l, lr_r, nm_s, jn_s, gdb_0, gdb_1, lw, if_true, hst, hsub, k1, l6', A1, gdi_n, nI_clamp, s1, b3, b4]
          · have ne := b5.ne n4
            have y33 : (pu (pu (pu y 2 W (nI L)) 3 W (-1)) 0 0 (nI (W + 1))) 3 W = -1 := by rw [pu_o (by decide), pu_s, if_pos rfl]
            have y00 : (pu (pu y 2 W (nI L)) 3 W (-1)) 0 0 = nI W := by rw [pu_o (by decide)]; exact y20
            refine Or.inr ⟨g2, gT2, pu (pu (pu y 2 W (nI L)) 3 W (-1)) 0 0 (nI (W + 1)), ?_, ?_, b5, FR.tr (e0.tr a2.pu).to.fr b2.fr, by rw [b6, s4]; exact ht1⟩
            · unfold f_X12_wordLine
              simp (disch := omega) only [bd_s, bd2_s, bd3_s, bd4_s, bd5_s, bd6_s, bd7_s, bd8_s, lr_l, lr_r, nm_s, jn_s, gdb_0, gdb_1, m8, if_false, e12, if_true, hh, ql, qa, i10, l6', sL, b1, ne]
            · unfold f_X2_readsWord
              rw [gw]
              simp (disch := omega) only [bd_s, bd2_s, bd3_s, bd4_s, bd5_s, bd6_s, bd7_s, bd8_s, lr_l, lr_r, nm_s, jn_s, gdb_0, gdb_1, lw, if_true, hst, hsub, k1, l6', A1, gdi_n, nI_clamp, s1, b3, i10, if_false, b4, y00, nI_1, y33]
        · refine bad y ?_ (Or.inl hg)
          unfold f_X2_readsWord
          rw [gw]
          simp (disch := omega) only [bd_s, bd2_s, bd3_s, bd4_s, bd5_s, bd6_s, bd7_s, bd8_s, lr_l, lr_r, nm_s, jn_s, gdb_0, gdb_1, lw, if_true, hst, hsub, k1, l6', A1]
      · have l6' : ¬ nI (sc isL c n s - s) ≤ 6 := nI_ge (a := 6) (by omega) (by omega)
        have hsub : (gT 5 0) - (gT 4 0) = nI (sc isL c n s - s) := by rw [t5, t4, nI_sub (by omega)]
        refine bad gD ?_ (Or.inr (by omega))
        unfold f_X2_readsWord
        rw [gw]
        simp (disch := omega) only [bd_s, bd2_s, bd3_s, bd4_s, bd5_s, bd6_s, bd7_s, bd8_s, lr_l, lr_r, nm_s, jn_s, gdb_0, gdb_1, lw, if_true, hst, hsub, k1, l6', if_false, kr]
    · have nl : s < n → isL (c s) = false := by
        rcases TKv.2.2.2.2.2 with ⟨z, k3, -⟩ | ⟨z, hl, k3, -⟩ | ⟨z, hd, k3, -⟩ | ⟨z, hl, hd, k3, -⟩
        · intro y; omega
        · exact absurd k3 k1
        · exact fun _ => decide_eq_false (fun y => by have := of_decide_eq_true hd; omega)
        · exact fun _ => hl
      refine bad gD ?_ (Or.inl (decide_eq_false (fun z => by have := z.1; rw [sc_stop nl] at this; omega)))
      unfold f_X2_readsWord
      rw [gw]
      simp (disch := omega) only [bd_s, bd2_s, bd3_s, bd4_s, bd5_s, bd6_s, bd7_s, bd8_s, lr_l, lr_r, nm_s, jn_s, gdb_0, gdb_1, lw, if_true, hst, k1, if_false, kr]
end K25
