/-! writers two by two: sets of writers as numbers below 32 -/
def low (s : Nat) : Nat := if s % 2 = 1 then 0 else if s / 2 % 2 = 1 then 1 else if s / 4 % 2 = 1 then 2 else if s / 8 % 2 = 1 then 3 else 4
def clr (s u : Nat) : Nat := if s / 2 ^ u % 2 = 1 then s - 2 ^ u else s
theorem low_f : ∀ s, s < 32 → 1 ≤ s → low s < 5 ∧ bt (nI s) (low s) = true ∧ 2 ^ low s ≤ s ∧ clr s (low s) < s ∧ (∀ i, i < 5 → i < low s → bt (nI s) i = false) ∧ f_X12_lowest (nI s) = some (nI (low s)) := by decide +kernel
theorem clr_f : ∀ s, s < 32 → ∀ u, u < 5 → nI s &&& (((1 : Int32) <<< (nI u &&& 31)) ^^^ (-1)) = nI (clr s u) ∧ clr s u ≤ s ∧ (bt (nI s) u = true → clr s u < s) ∧ (bt (nI s) u = false → clr s u = s) ∧ (∀ o, o < 5 → bt (nI (clr s u)) o = (bt (nI s) o && !decide (o = u))) := by decide +kernel
theorem pw_f : ∀ U, U < 6 → (1 : Int32) <<< (nI U &&& 31) = nI (2 ^ U) ∧ 2 ^ U ≤ 32 ∧ 1 ≤ 2 ^ U := by decide +kernel
theorem in_f : ∀ U, U < 6 → ∀ s, s < 32 → s < 2 ^ U → ∀ o, o < 5 → bt (nI s) o = true → o < U := by decide +kernel
theorem full_f : ∀ U, U < 6 → ∀ o, o < 5 → o < U → bt (nI (2 ^ U - 1)) o = true := by decide +kernel
def apN (m : Nat → Int32) (u o : Nat) : Nat := pop (tn (wr m u 0) ^^^ tn (wr m o 0))
section K13
variable {m : Nat → Int32} {g gS gL gH gC gP h : Pic}
theorem q_apN (hg : g 1 = m) (hO : Ok m) {u o : Nat} (hu : u < tn (m 4)) (ho : o < tn (m 4)) : f_X12_apart g (nI u) (nI o) = some (nI (apN m u o)) := by
  subst hg
  obtain ⟨a, ha, ta, -, a9⟩ := (hO.leaves hu).ex
  obtain ⟨b, hb, tb, -, b9⟩ := (hO.leaves ho).ex
  have x := Nat.xor_lt_two_pow (n := 8) (show a < 2 ^ 8 by omega) (show b < 2 ^ 8 by omega)
  have q1 : f_X12_of g (nI u) 0 = some (wr (g 1) u 0) := q_of (g := g) (k := 0) (hO.u5 hu) (by omega)
  have q2 : f_X12_of g (nI o) 0 = some (wr (g 1) o 0) := q_of (g := g) (k := 0) (hO.u5 ho) (by omega)
  unfold f_X12_apart apN
  rw [q1, q2, ta, tb]
  simp only [bd_s, ha, hb, nx_xor]
  rw [q_bits _ x]
  rfl
/-- the tables of both are alike below a set -/
def TT (g x : Pic) (n : Nat) : Prop := ∀ s, s < n → ∃ v, v ≤ 8 * s ∧ g 23 s = nI v ∧ x 3 s = nI v
theorem k_with (hO : Ok m) (hR : RS gS gL m) {x : Pic} {s u o v : Nat} (hs : s < 32) (hu : u < tn (m 4)) (ho : o < tn (m 4)) (hx : x 3 (clr (clr s u) o) = nI v) : f_X8_withPair x gH gS (nI s) (nI u) (nI o) = some (if bt (nI s) o then nI (apN m u o + v) else -1) := by
  have u5 := hO.u5 hu
  have o5 := hO.u5 ho
  obtain ⟨a, ha, ta, -, a9⟩ := (hO.leaves hu).ex
  obtain ⟨b, hb, tb, -, b9⟩ := (hO.leaves ho).ex
  have ga := (hR.leaves hu).trans ha
  have gb := (hR.leaves ho).trans hb
  have xl := Nat.xor_lt_two_pow (n := 8) (show a < 2 ^ 8 by omega) (show b < 2 ^ 8 by omega)
  obtain ⟨c1, c2, -, -, -⟩ := clr_f s hs u u5
  obtain ⟨d1, d2, -, -, -⟩ := clr_f (clr s u) (by omega) o o5
  unfold f_X8_withPair apN
  rw [ta, tb]
  have b0 : ((nI s >>> (nI o &&& 31)) &&& 1 = 0) = (bt (nI s) o = false) := bt_0 (by omega)
  cases bo : bt (nI s) o with
  | false => simp (disch := omega) only [bd_s, bd2_s, bd3_s, bd4_s, bd5_s, bd6_s, bd7_s, bd8_s, lr_l, lr_r, nm_s, jn_s, gdb_0, gdb_1, b0, bo, if_true, Bool.false_eq_true, if_false]
  | true => simp (disch := omega) only [bd_s, bd2_s, bd3_s, bd4_s, bd5_s, bd6_s, bd7_s, bd8_s, lr_l, lr_r, nm_s, jn_s, gdb_0, gdb_1, b0, bo, Bool.true_eq_false, if_false, gdi_n, nI_clamp, ga, gb, nx_xor, k_bits _ xl, c1, d1, hx, nI_add, if_true]
theorem e_inner (hg : g 1 = m) (hO : Ok m) (hR : RS gS gL m) {x : Pic} {s u v0 : Nat} (hs : s < 32) (hu : u < tn (m 4)) (hb : bt (nI s) u = true) (hT : TT g x s) (hv : v0 ≤ 8 * s) (h1 : g 23 s = nI v0) (h2 : x 3 s = nI v0) (p : Int32) (gH : Pic) : ∃ g' x' v, v ≤ 8 * s ∧ f_X12_allBest_L51 (nI s) (nI u) (nI (clr s u)) fu (nI (u + 1), g) = some g' ∧ f_X8_findPairs_L58 p (nI s) (nI u) gH gS fu (nI (u + 1), x) = some x' ∧ Es g g' ∧ TT g' x' s ∧ g' 23 s = nI v ∧ x' 3 s = nI v := by
  obtain ⟨U, hU, tU, -, u5⟩ := hO.U.ex
  have gu := hR.U.trans hU
  have hu5 := hO.u5 hu
  obtain ⟨c1, c2, c3, -, c5⟩ := clr_f s hs u hu5
  have c3 := c3 hb
  have H : ∃ c d, f_X12_allBest_L51 (nI s) (nI u) (nI (clr s u)) fu (nI (u + 1), g) = some c ∧ f_X8_findPairs_L58 p (nI s) (nI u) gH gS fu (nI (u + 1), x) = some d ∧ ∃ v, v ≤ 8 * s ∧ Es g c ∧ TT c d s ∧ c 23 s = nI v ∧ d 3 s = nI v := by
    refine lp_two (fun i a b => ∃ (y z : Pic) (v : Nat), a = (nI (u + 1 + i), y) ∧ b = (nI (u + 1 + i), z) ∧ v ≤ 8 * s ∧ Es g y ∧ TT y z s ∧ y 23 s = nI v ∧ z 3 s = nI v) (U - (u + 1)) (fun (c d : Pic) => ∃ v, v ≤ 8 * s ∧ Es g c ∧ TT c d s ∧ c 23 s = nI v ∧ d 3 s = nI v) ?_ ?_ (by have := fu_big; omega) (by have := fu_big; omega) ⟨g, x, v0, rfl, rfl, hv, Es.rf g, hT, h1, h2⟩
    · rintro i hi _ _ ⟨y, z, v, rfl, rfl, hv, hE, hT, q1, q2⟩
      have ni : ¬ U ≤ u + 1 + i := by omega
      have ho : u + 1 + i < tn (m 4) := by omega
      have hm := hE.m.trans hg
      obtain ⟨d1, d2, d3, d4, -⟩ := clr_f (clr s u) (by omega) (u + 1 + i) (by omega)
      obtain ⟨t, t1, t2, t3⟩ := hT (clr (clr s u) (u + 1 + i)) (by omega)
      have w := k_with (gH := gH) hO hR hs hu ho t3
      have ap8 := pop_le (tn (wr m u 0) ^^^ tn (wr m (u + 1 + i) 0))
      have apq := q_apN hm hO hu ho
      have b5 := c5 (u + 1 + i) (by omega)
      rw [show decide (u + 1 + i = u) = false from decide_eq_false (by omega)] at b5
      have b5 : bt (nI (clr s u)) (u + 1 + i) = bt (nI s) (u + 1 + i) := by rw [b5]; simp
      have e1 : apN m u (u + 1 + i) ≤ 8 := ap8
      cases bo : bt (nI s) (u + 1 + i) with
      | false =>
        have w : f_X8_withPair z gH gS (nI s) (nI u) (nI (u + 1 + i)) = some (-1) := by rw [w, bo]; rfl
        have lt : ¬ nI v < -1 := by
          rw [Int32.lt_iff_toInt_lt, nI_toInt (by omega), show (-1 : Int32).toInt = -1 by decide]; omega
        refine Or.inl ⟨(nI (u + 1 + i + 1), y), (nI (u + 1 + i + 1), pu z 3 s (nI v)), ⟨_, _, v, rfl, rfl, hv, hE, fun s' h' => ?_, q1, by rw [pu_s, if_pos rfl]⟩, fun r => ?_, fun r => ?_⟩
        · obtain ⟨a1, a2, a3, a4⟩ := hT s' h'
          exact ⟨a1, a2, a3, by rw [pu_s, if_neg (by omega)]; exact a4⟩
        · simp (disch := omega) only [bd_s, bd2_s, bd3_s, bd4_s, bd5_s, bd6_s, bd7_s, bd8_s, lr_l, lr_r, nm_s, jn_s, gdb_0, gdb_1, li_2, li_3, li_4, li_5, li_6, li_7, li_8, li_9, li_10, li_11, li_12, li_13, li_14, li_15, li_16, li_20, li_24, li_32, li_40, li_41, li_43, li_48, li_57, li_59, li_60, li_62, li_63, li_76, li_96, li_97, li_99, li_100, li_104, li_116, li_122, li_128, li_129, li_216, li_217, li_218, li_219, li_239, li_240, li_255, li_256, li_257, li_400, li_456, li_856, li_999, li_1000, li_1001, li_1002, li_1003, li_1004, li_1005, li_1006, li_1007, li_1008, li_1161, li_2000, li_2001, li_2002, li_2003, li_2004, li_2005, li_5016, li_5472, li_9999, li_10000, li_32767, li_1000000, li_2000000000, nI_add, nI_mul, nI_sub, nI_clamp, nI_leI, nI_ltI, nI_eq, gdi_n, nI_1, nI_eq0, nI_eq1, nI_le0, nI_le1, nI_0le, nI_lt0, nI_0lt, nI_m1, Int32.add_zero, Nat.le_refl, if_true, if_false, Bool.false_eq_true, Bool.true_eq_false, i10, i01, im0, im1, i0m, i1m, l10, l00, l01, t10, t00, hm, hU, ni, q_isOf, b5, bo]
        · simp (disch := omega) only [bd_s, bd2_s, bd3_s, bd4_s, bd5_s, bd6_s, bd7_s, bd8_s, lr_l, lr_r, nm_s, jn_s, gdb_0, gdb_1, gu, nI_leI, ni, if_false, gdi_n, nI_clamp, w, q2, lt, nI_1]
      | true =>
        have w : f_X8_withPair z gH gS (nI s) (nI u) (nI (u + 1 + i)) = some (nI (apN m u (u + 1 + i) + t)) := by rw [w, bo]; rfl
        rw [bo] at b5
        have d3 := d3 b5
        refine Or.inl ⟨(nI (u + 1 + i + 1), pu y 23 s (nI (max v (apN m u (u + 1 + i) + t)))), (nI (u + 1 + i + 1), pu z 3 s (nI (max v (apN m u (u + 1 + i) + t)))), ⟨_, _, max v (apN m u (u + 1 + i) + t), rfl, rfl, by omega, hE.pu (by decide), fun s' h' => ?_, by rw [pu_s, if_pos rfl], by rw [pu_s, if_pos rfl]⟩, fun r => ?_, fun r => ?_⟩
        · obtain ⟨a1, a2, a3, a4⟩ := hT s' h'
          exact ⟨a1, a2, by rw [pu_s, if_neg (by omega)]; exact a3, by rw [pu_s, if_neg (by omega)]; exact a4⟩
        · simp (disch := omega) only [bd_s, bd2_s, bd3_s, bd4_s, bd5_s, bd6_s, bd7_s, bd8_s, lr_l, lr_r, nm_s, jn_s, gdb_0, gdb_1, li_2, li_3, li_4, li_5, li_6, li_7, li_8, li_9, li_10, li_11, li_12, li_13, li_14, li_15, li_16, li_20, li_24, li_32, li_40, li_41, li_43, li_48, li_57, li_59, li_60, li_62, li_63, li_76, li_96, li_97, li_99, li_100, li_104, li_116, li_122, li_128, li_129, li_216, li_217, li_218, li_219, li_239, li_240, li_255, li_256, li_257, li_400, li_456, li_856, li_999, li_1000, li_1001, li_1002, li_1003, li_1004, li_1005, li_1006, li_1007, li_1008, li_1161, li_2000, li_2001, li_2002, li_2003, li_2004, li_2005, li_5016, li_5472, li_9999, li_10000, li_32767, li_1000000, li_2000000000, nI_add, nI_mul, nI_sub, nI_clamp, nI_leI, nI_ltI, nI_eq, gdi_n, nI_1, nI_eq0, nI_eq1, nI_le0, nI_le1, nI_0le, nI_lt0, nI_0lt, nI_m1, Int32.add_zero, Nat.le_refl, if_true, if_false, Bool.false_eq_true, Bool.true_eq_false, i10, i01, im0, im1, i0m, i1m, l10, l00, l01, t10, t00, hm, hU, ni, q_isOf, b5, apq, d1, q1, t2, q_greater, mx_eq, mx_n]
        · simp (disch := omega) only [bd_s, bd2_s, bd3_s, bd4_s, bd5_s, bd6_s, bd7_s, bd8_s, lr_l, lr_r, nm_s, jn_s, gdb_0, gdb_1, li_2, li_3, li_4, li_5, li_6, li_7, li_8, li_9, li_10, li_11, li_12, li_13, li_14, li_15, li_16, li_20, li_24, li_32, li_40, li_41, li_43, li_48, li_57, li_59, li_60, li_62, li_63, li_76, li_96, li_97, li_99, li_100, li_104, li_116, li_122, li_128, li_129, li_216, li_217, li_218, li_219, li_239, li_240, li_255, li_256, li_257, li_400, li_456, li_856, li_999, li_1000, li_1001, li_1002, li_1003, li_1004, li_1005, li_1006, li_1007, li_1008, li_1161, li_2000, li_2001, li_2002, li_2003, li_2004, li_2005, li_5016, li_5472, li_9999, li_10000, li_32767, li_1000000, li_2000000000, nI_add, nI_mul, nI_sub, nI_clamp, nI_leI, nI_ltI, nI_eq, gdi_n, nI_1, nI_eq0, nI_eq1, nI_le0, nI_le1, nI_0le, nI_lt0, nI_0lt, nI_m1, Int32.add_zero, Nat.le_refl, if_true, if_false, Bool.false_eq_true, Bool.true_eq_false, i10, i01, im0, im1, i0m, i1m, l10, l00, l01, t10, t00, gu, ni, w, q2, mx_n]
    · rintro _ _ ⟨y, z, v, rfl, rfl, hv, hE, hT, q1, q2⟩
      have ni : U ≤ u + 1 + (U - (u + 1)) := by omega
      have hm := hE.m.trans hg
      refine ⟨y, z, ⟨v, hv, hE, hT, q1, q2⟩, fun r => ?_, fun r => ?_⟩
      · simp (disch := omega) only [bd_s, bd2_s, bd3_s, bd4_s, bd5_s, bd6_s, bd7_s, bd8_s, lr_l, lr_r, nm_s, jn_s, gdb_0, gdb_1, li_2, li_3, li_4, li_5, li_6, li_7, li_8, li_9, li_10, li_11, li_12, li_13, li_14, li_15, li_16, li_20, li_24, li_32, li_40, li_41, li_43, li_48, li_57, li_59, li_60, li_62, li_63, li_76, li_96, li_97, li_99, li_100, li_104, li_116, li_122, li_128, li_129, li_216, li_217, li_218, li_219, li_239, li_240, li_255, li_256, li_257, li_400, li_456, li_856, li_999, li_1000, li_1001, li_1002, li_1003, li_1004, li_1005, li_1006, li_1007, li_1008, li_1161, li_2000, li_2001, li_2002, li_2003, li_2004, li_2005, li_5016, li_5472, li_9999, li_10000, li_32767, li_1000000, li_2000000000, nI_add, nI_mul, nI_sub, nI_clamp, nI_leI, nI_ltI, nI_eq, gdi_n, nI_1, nI_eq0, nI_eq1, nI_le0, nI_le1, nI_0le, nI_lt0, nI_0lt, nI_m1, Int32.add_zero, Nat.le_refl, if_true, if_false, Bool.false_eq_true, Bool.true_eq_false, i10, i01, im0, im1, i0m, i1m, l10, l00, l01, t10, t00, hm, hU, ni]
      · simp (disch := omega) only [bd_s, bd2_s, bd3_s, bd4_s, bd5_s, bd6_s, bd7_s, bd8_s, lr_l, lr_r, nm_s, jn_s, gdb_0, gdb_1, li_2, li_3, li_4, li_5, li_6, li_7, li_8, li_9, li_10, li_11, li_12, li_13, li_14, li_15, li_16, li_20, li_24, li_32, li_40, li_41, li_43, li_48, li_57, li_59, li_60, li_62, li_63, li_76, li_96, li_97, li_99, li_100, li_104, li_116, li_122, li_128, li_129, li_216, li_217, li_218, li_219, li_239, li_240, li_255, li_256, li_257, li_400, li_456, li_856, li_999, li_1000, li_1001, li_1002, li_1003, li_1004, li_1005, li_1006, li_1007, li_1008, li_1161, li_2000, li_2001, li_2002, li_2003, li_2004, li_2005, li_5016, li_5472, li_9999, li_10000, li_32767, li_1000000, li_2000000000, nI_add, nI_mul, nI_sub, nI_clamp, nI_leI, nI_ltI, nI_eq, gdi_n, nI_1, nI_eq0, nI_eq1, nI_le0, nI_le1, nI_0le, nI_lt0, nI_0lt, nI_m1, Int32.add_zero, Nat.le_refl, if_true, if_false, Bool.false_eq_true, Bool.true_eq_false, i10, i01, im0, im1, i0m, i1m, l10, l00, l01, t10, t00, gu, ni]
  obtain ⟨c, d, q1, q2, v, hv, q3, q4, q5, q6⟩ := H
  exact ⟨c, d, v, hv, q1, q2, q3, q4, q5, q6⟩
theorem k_first (hO : Ok m) (hR : RS gS gL m) {s : Nat} (x gH : Pic) (hs : s < 32) (s1 : 1 ≤ s) (hsU : s < 2 ^ tn (m 4)) : f_X8_firstIn x gH gS (nI s) = some (nI (low s)) := by
  obtain ⟨U, hU, tU, -, u5⟩ := hO.U.ex
  have gu := hR.U.trans hU
  rw [tU] at hsU
  obtain ⟨l1, l2, l3, -, l4, -⟩ := low_f s hs s1
  have lU := in_f U (by omega) s hs hsU (low s) l1 l2
  have H : f_X8_firstIn_L2 (nI s) x gH gS fu 0 = some (.inl (nI (low s))) := by
    refine lp_seq (fun i => nI i) (low s) _ (fun i hi r => ?_) (fun r => ?_) (by have := fu_big; omega) rfl
    · have ni : ¬ U ≤ i := by omega
      have b1 : ((nI s >>> (nI i &&& 31)) &&& 1 = 1) = (bt (nI s) i = true) := bt_1 (by omega)
      simp (disch := omega) only [bd_s, bd2_s, bd3_s, bd4_s, bd5_s, bd6_s, bd7_s, bd8_s, lr_l, lr_r, nm_s, jn_s, gdb_0, gdb_1, gu, nI_leI, ni, if_false, b1, l4 i (by omega) hi, Bool.false_eq_true, nI_1]
    · have ni : ¬ U ≤ low s := by omega
      have b1 : ((nI s >>> (nI (low s) &&& 31)) &&& 1 = 1) = (bt (nI s) (low s) = true) := bt_1 (by omega)
      simp (disch := omega) only [bd_s, bd2_s, bd3_s, bd4_s, bd5_s, bd6_s, bd7_s, bd8_s, lr_l, lr_r, nm_s, jn_s, gdb_0, gdb_1, gu, nI_leI, ni, if_false, b1, l2, if_true]
  unfold f_X8_firstIn
  rw [H]
  rfl
theorem e_best (hg : g 1 = m) (hO : Ok m) (hR : RS gS gL m) (gC gH : Pic) : ∃ g' x', f_X12_allBest g = some g' ∧ Es g g' ∧ TT g' x' (2 ^ tn (m 4)) ∧ f_X8_findPairs gC gH gS = some (x' 3 (2 ^ tn (m 4) - 1), x') := by
  obtain ⟨U, hU, tU, -, u5⟩ := hO.U.ex
  have gu := hR.U.trans hU
  rw [tU]
  obtain ⟨p1, p2, p3⟩ := pw_f U (by omega)
  -- the class goes through the set of none first
  have z0 : f_X8_firstIn (pu gC 3 0 0) gH gS 0 = some (-1) := by
    have H : f_X8_firstIn_L2 0 (pu gC 3 0 0) gH gS fu 0 = some (.inr ()) := by
      refine lp_seq (fun i => nI i) U _ (fun i hi r => ?_) (fun r => ?_) (by have := fu_big; omega) rfl
      · have ni : ¬ U ≤ i := by omega
        have b1 : (((0 : Int32) >>> (nI i &&& 31)) &&& 1 = 1) = (bt 0 i = true) := bt_1 (by omega)
        simp (disch := omega) only [bd_s, bd2_s, bd3_s, bd4_s, bd5_s, bd6_s, bd7_s, bd8_s, lr_l, lr_r, nm_s, jn_s, gdb_0, gdb_1, gu, nI_leI, ni, if_false, b1, b_0, Bool.false_eq_true, nI_1]
      · simp (disch := omega) only [bd_s, bd2_s, bd3_s, bd4_s, bd5_s, bd6_s, bd7_s, bd8_s, lr_l, lr_r, nm_s, jn_s, gdb_0, gdb_1, gu, nI_leI, Nat.le_refl, if_true]
    unfold f_X8_firstIn
    rw [H]
    rfl
  have H : ∃ c d, f_X12_allBest_L9 fu (1, pu g 23 0 0) = some c ∧ lp (fun (rec : Int32 × Pic → Option Pic) (a : Int32 × Pic) => match a with | (x2, g0) => (if nI (2 ^ U) ≤ x2 then some g0 else gdi x2 32 (nm (pu g0 3 (x2.toNatClampNeg) 0) (fun g0_3 => bd (f_X8_firstIn g0_3 gH gS x2) (fun r_4 => jn (fun (g0_J99 : Pic) => nm (x2 + 1) (fun x2_5 => rec (x2_5, g0_J99))) (fun J99 => (if r_4 = (-1) then J99 g0_3 else gdi (x2 &&& (((1 : Int32) <<< (r_4 &&& 31)) ^^^ (-1))) 32 (gdi x2 32 (nm (pu g0_3 3 (x2.toNatClampNeg) (g0_3 3 ((x2 &&& (((1 : Int32) <<< (r_4 &&& 31)) ^^^ (-1))).toNatClampNeg))) (fun g0_8 => nm ((r_4 + 1)) (fun x4_9 => bd (f_X8_findPairs_L58 (nI (2 ^ U)) x2 r_4 gH gS fu (x4_9, g0_8)) (fun g0_15 => J99 g0_15)))))))))))) 999999 (nI 1, pu gC 3 0 0) = some d ∧ Es g c ∧ TT c d (2 ^ U) := by
    refine lp_two (fun k a b => ∃ (y z : Pic), a = (nI (1 + k), y) ∧ b = (nI (1 + k), z) ∧ Es g y ∧ TT y z (1 + k)) (2 ^ U - 1) (fun (c d : Pic) => Es g c ∧ TT c d (2 ^ U)) ?_ ?_ (by have := fu_big; omega) (by omega) ⟨pu g 23 0 0, pu gC 3 0 0, rfl, rfl, (Es.rf g).pu (by decide), fun s hs => ⟨0, by omega, by rw [show s = 0 by omega]; rfl, by rw [show s = 0 by omega]; rfl⟩⟩
    · rintro k hk _ _ ⟨y, z, rfl, rfl, hE, hT⟩
      have ni : ¬ 2 ^ U ≤ 1 + k := by omega
      have hm := hE.m.trans hg
      obtain ⟨l1, l2, l3, l5, l4, l6⟩ := low_f (1 + k) (by omega) (by omega)
      have lU := in_f U (by omega) (1 + k) (by omega) (by omega) (low (1 + k)) l1 l2
      have f1 := k_first hO hR (pu z 3 (1 + k) 0) gH (show 1 + k < 32 by omega) (by omega) (by rw [tU]; omega)
      obtain ⟨d1, d2, d3, d4, -⟩ := clr_f (1 + k) (by omega) (low (1 + k)) l1
      obtain ⟨v, v1, v2, v3⟩ := hT (clr (1 + k) (low (1 + k))) (by omega)
      have e3 : pu z 3 (1 + k) 0 3 (clr (1 + k) (low (1 + k))) = nI v := by rw [pu_s, if_neg (by omega)]; exact v3
      have hT2 : TT (pu y 23 (1 + k) (nI v)) (pu (pu z 3 (1 + k) 0) 3 (1 + k) (nI v)) (1 + k) := fun s' h' => by
        obtain ⟨a1, a2, a3, a4⟩ := hT s' h'
        exact ⟨a1, a2, by rw [pu_s, if_neg (by omega)]; exact a3, by rw [pu_s, if_neg (by omega), pu_s, if_neg (by omega)]; exact a4⟩
      obtain ⟨g', x', v', i1, i2, i3, i4, i5, i6, i7⟩ := e_inner (g := pu y 23 (1 + k) (nI v)) (x := pu (pu z 3 (1 + k) 0) 3 (1 + k) (nI v)) (v0 := v) (by rw [pu_o (by decide)]; exact hm) hO hR (show 1 + k < 32 by omega) (show low (1 + k) < tn (m 4) by omega) l2 hT2 (by omega) (by rw [pu_s, if_pos rfl]) (by rw [pu_s, if_pos rfl]) (nI (2 ^ U)) gH
      refine Or.inl ⟨(nI (1 + k + 1), g'), (nI (1 + k + 1), x'), ⟨g', x', rfl, rfl, (hE.pu (by decide)).tr i4, fun s' h' => ?_⟩, fun r => ?_, fun r => ?_⟩
      · rcases Nat.lt_succ_iff_lt_or_eq.mp (show s' < 1 + k + 1 by omega) with q | q
        · exact i5 s' q
        · rw [q]; exact ⟨v', i1, i6, i7⟩
      · simp (disch := omega) only [bd_s, bd2_s, bd3_s, bd4_s, bd5_s, bd6_s, bd7_s, bd8_s, lr_l, lr_r, nm_s, jn_s, gdb_0, gdb_1, hm, hU, p1, nI_leI, ni, if_false, l6, d1, gdi_n, nI_clamp, v2, nI_1, i2]
      · simp (disch := omega) only [bd_s, bd2_s, bd3_s, bd4_s, bd5_s, bd6_s, bd7_s, bd8_s, lr_l, lr_r, nm_s, jn_s, gdb_0, gdb_1, nI_leI, ni, if_false, gdi_n, nI_clamp, f1, nI_m1, d1, e3, nI_1, i3]
    · rintro _ _ ⟨y, z, rfl, rfl, hE, hT⟩
      have ni : 2 ^ U ≤ 1 + (2 ^ U - 1) := by omega
      have hm := hE.m.trans hg
      rw [show 1 + (2 ^ U - 1) = 2 ^ U by omega] at hT
      refine ⟨y, z, ⟨hE, hT⟩, fun r => ?_, fun r => ?_⟩
      · simp (disch := omega) only [bd_s, bd2_s, bd3_s, bd4_s, bd5_s, bd6_s, bd7_s, bd8_s, lr_l, lr_r, nm_s, jn_s, gdb_0, gdb_1, hm, hU, p1, nI_leI, ni, if_true]
      · simp (disch := omega) only [nI_leI, ni, if_true]
  obtain ⟨c, d, q1, q2, q3, q4⟩ := H
  refine ⟨c, d, ?_, q3, q4, ?_⟩
  · unfold f_X12_allBest
    simp only [nm_s, q1, bd_s]
  · have F : f_X8_findPairs_L12 (nI (2 ^ U)) gH gS fu (0, gC) = some d := by
      unfold f_X8_findPairs_L12
      rw [show fu = 999999 + 1 from rfl]
      refine Eq.trans ?_ q2
      show (if nI (2 ^ U) ≤ 0 then some gC else _) = _
      rw [if_neg (by rw [nI_le0 (by omega)]; omega), show ((0 : Int32).toNatClampNeg) = 0 from rfl]
      rw [show (gdi (0 : Int32) 32 : Option Pic → Option Pic) = fun x => x from funext (fun x => gdi_n (c := 0) (by decide) (by decide))]
      simp only [nm_s, jn_s, z0, bd_s, if_true]
      rfl
    unfold f_X8_findPairs
    simp only [nm_s, gu, p1, F, bd_s]
    rw [nI_s1 p3, gdi_n (by omega) (by decide), nI_clamp (by omega)]
end K13
