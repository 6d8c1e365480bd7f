/-! the chain of words -/
theorem or_bit {s : Int32} {b : Nat} (hb : b < 32) (h : bt s b = true) : s ||| ((1 : Int32) <<< (nI b &&& 31)) = s := by
  apply b_ext
  intro i hi
  rw [b_or, bt_sh hb hi]
  by_cases e : i = b
  · subst e; simp [h]
  · simp [e]
section K6
variable {m : Nat → Int32} {g gS gL gH gC gP : Pic}
theorem e_near1 (hg : g 1 = m) (hO : Ok m) (hR : RS gS gL m) {a : Nat} (ha : a < tn (m 3)) (p s x y : Int32) (q : Int32) (gX : Pic) (hxy : x = s ||| y) : ∃ x' y' g' h, f_X12_chain_L60 p s q (nI a) fu (x, 0, g) = some (x', g') ∧ Es g g' ∧ f_X6_neighboursOf_L18 s (nI a) gS fu (y, 0, gX) = some (y', h) ∧ x' = s ||| y' := by
  obtain ⟨W, hW, tW, -, w8⟩ := hO.W.ex
  have a8 := hO.w8 ha
  have gw := hR.W.trans hW
  have H : ∃ c d, f_X12_chain_L60 p s q (nI a) fu (x, 0, g) = some c ∧ f_X6_neighboursOf_L18 s (nI a) gS fu (y, 0, gX) = some d ∧ ∃ x' y' g' h, c = (x', g') ∧ d = (y', h) ∧ Es g g' ∧ x' = s ||| y' := by
    refine lp_two (fun k a b => ∃ (x' y' : Int32) (g' h : Pic), a = (x', nI k, g') ∧ b = (y', nI k, h) ∧ Es g g' ∧ x' = s ||| y') W (fun c d => ∃ (x' y' : Int32) (g' h : Pic), c = (x', g') ∧ d = (y', h) ∧ Es g g' ∧ x' = s ||| y') ?_ ?_ (by have := fu_big; omega) (by have := fu_big; omega) ⟨x, y, g, gX, rfl, rfl, Es.rf g, hxy⟩
    · rintro k hk _ _ ⟨x, y, g', h, rfl, rfl, hE, hx⟩
      have nk : ¬ W ≤ k := by omega
      have hk' : k < tn (m 3) := by rw [tW]; exact hk
      have hm := hE.m.trans hg
      have b1 : ((s >>> (nI a &&& 31)) &&& 1 = 1) = (bt s a = true) := bt_1 (by omega)
      have b0 : ((s >>> (nI k &&& 31)) &&& 1 = 0) = (bt s k = false) := bt_0 (by omega)
      cases ba : bt s a with
      | false =>
        refine Or.inl ⟨(x, nI (k + 1), g'), (y, nI (k + 1), h), ⟨x, y, g', h, rfl, rfl, hE, hx⟩, fun r => ?_, fun r => ?_⟩
        · simp (disch := omega) only [bd_s, bd2_s, bd3_s, bd4_s, bd5_s, bd6_s, bd7_s, bd8_s, lr_l, lr_r, nm_s, jn_s, gdb_0, gdb_1, li_2, li_3, li_4, li_5, li_6, li_7, li_8, li_9, li_10, li_11, li_12, li_13, li_14, li_15, li_16, li_20, li_24, li_32, li_40, li_41, li_43, li_48, li_57, li_59, li_60, li_62, li_63, li_76, li_96, li_97, li_99, li_100, li_104, li_116, li_122, li_128, li_129, li_216, li_217, li_218, li_219, li_239, li_240, li_255, li_256, li_257, li_400, li_456, li_856, li_999, li_1000, li_1001, li_1002, li_1003, li_1004, li_1005, li_1006, li_1007, li_1008, li_1161, li_2000, li_2001, li_2002, li_2003, li_2004, li_2005, li_5016, li_5472, li_9999, li_10000, li_32767, li_1000000, li_2000000000, nI_add, nI_mul, nI_sub, nI_clamp, nI_leI, nI_ltI, nI_eq, gdi_n, nI_1, nI_eq0, nI_eq1, nI_le0, nI_le1, nI_0le, nI_lt0, nI_0lt, nI_m1, Int32.add_zero, Nat.le_refl, if_true, if_false, Bool.false_eq_true, Bool.true_eq_false, i10, i01, im0, im1, i0m, i1m, l10, l00, l01, t10, t00, hm, hW, nk, q_isOf, ba]
        · simp (disch := omega) only [bd_s, bd2_s, bd3_s, bd4_s, bd5_s, bd6_s, bd7_s, bd8_s, lr_l, lr_r, nm_s, jn_s, gdb_0, gdb_1, li_2, li_3, li_4, li_5, li_6, li_7, li_8, li_9, li_10, li_11, li_12, li_13, li_14, li_15, li_16, li_20, li_24, li_32, li_40, li_41, li_43, li_48, li_57, li_59, li_60, li_62, li_63, li_76, li_96, li_97, li_99, li_100, li_104, li_116, li_122, li_128, li_129, li_216, li_217, li_218, li_219, li_239, li_240, li_255, li_256, li_257, li_400, li_456, li_856, li_999, li_1000, li_1001, li_1002, li_1003, li_1004, li_1005, li_1006, li_1007, li_1008, li_1161, li_2000, li_2001, li_2002, li_2003, li_2004, li_2005, li_5016, li_5472, li_9999, li_10000, li_32767, li_1000000, li_2000000000, nI_add, nI_mul, nI_sub, nI_clamp, nI_leI, nI_ltI, nI_eq, gdi_n, nI_1, nI_eq0, nI_eq1, nI_le0, nI_le1, nI_0le, nI_lt0, nI_0lt, nI_m1, Int32.add_zero, Nat.le_refl, if_true, if_false, Bool.false_eq_true, Bool.true_eq_false, i10, i01, im0, im1, i0m, i1m, l10, l00, l01, t10, t00, gw, nk, b1, b0, ba]
      | true =>
        obtain ⟨g2, q1, q2⟩ := q_change hm hO ha hk'
        obtain ⟨h2, q3⟩ := k_change hO hR ha hk' h
        have l := lev_le hO ha hk'
        cases bk : bt s k with
        | true =>
          refine Or.inl ⟨(x, nI (k + 1), g2), (y, nI (k + 1), h), ⟨x, y, g2, h, rfl, rfl, hE.tr q2, hx⟩, fun r => ?_, fun r => ?_⟩
          · have e : x ||| ((1 : Int32) <<< (nI k &&& 31)) = x := by
              rw [hx]
              refine or_bit (by omega) ?_
              rw [b_or, bk]; rfl
            simp (disch := omega) only [bd_s, bd2_s, bd3_s, bd4_s, bd5_s, bd6_s, bd7_s, bd8_s, lr_l, lr_r, nm_s, jn_s, gdb_0, gdb_1, li_2, li_3, li_4, li_5, li_6, li_7, li_8, li_9, li_10, li_11, li_12, li_13, li_14, li_15, li_16, li_20, li_24, li_32, li_40, li_41, li_43, li_48, li_57, li_59, li_60, li_62, li_63, li_76, li_96, li_97, li_99, li_100, li_104, li_116, li_122, li_128, li_129, li_216, li_217, li_218, li_219, li_239, li_240, li_255, li_256, li_257, li_400, li_456, li_856, li_999, li_1000, li_1001, li_1002, li_1003, li_1004, li_1005, li_1006, li_1007, li_1008, li_1161, li_2000, li_2001, li_2002, li_2003, li_2004, li_2005, li_5016, li_5472, li_9999, li_10000, li_32767, li_1000000, li_2000000000, nI_add, nI_mul, nI_sub, nI_clamp, nI_leI, nI_ltI, nI_eq, gdi_n, nI_1, nI_eq0, nI_eq1, nI_le0, nI_le1, nI_0le, nI_lt0, nI_0lt, nI_m1, Int32.add_zero, Nat.le_refl, if_true, if_false, Bool.false_eq_true, Bool.true_eq_false, i10, i01, im0, im1, i0m, i1m, l10, l00, l01, t10, t00, nI_1lt, hm, hW, nk, q_isOf, ba, q1, e]
            split <;> rfl
          · simp (disch := omega) only [bd_s, bd2_s, bd3_s, bd4_s, bd5_s, bd6_s, bd7_s, bd8_s, lr_l, lr_r, nm_s, jn_s, gdb_0, gdb_1, li_2, li_3, li_4, li_5, li_6, li_7, li_8, li_9, li_10, li_11, li_12, li_13, li_14, li_15, li_16, li_20, li_24, li_32, li_40, li_41, li_43, li_48, li_57, li_59, li_60, li_62, li_63, li_76, li_96, li_97, li_99, li_100, li_104, li_116, li_122, li_128, li_129, li_216, li_217, li_218, li_219, li_239, li_240, li_255, li_256, li_257, li_400, li_456, li_856, li_999, li_1000, li_1001, li_1002, li_1003, li_1004, li_1005, li_1006, li_1007, li_1008, li_1161, li_2000, li_2001, li_2002, li_2003, li_2004, li_2005, li_5016, li_5472, li_9999, li_10000, li_32767, li_1000000, li_2000000000, nI_add, nI_mul, nI_sub, nI_clamp, nI_leI, nI_ltI, nI_eq, gdi_n, nI_1, nI_eq0, nI_eq1, nI_le0, nI_le1, nI_0le, nI_lt0, nI_0lt, nI_m1, Int32.add_zero, Nat.le_refl, if_true, if_false, Bool.false_eq_true, Bool.true_eq_false, i10, i01, im0, im1, i0m, i1m, l10, l00, l01, t10, t00, gw, nk, b1, b0, ba, bk]
        | false =>
          by_cases c : 1 < lev m a k
          · refine Or.inl ⟨(x, nI (k + 1), g2), (y, nI (k + 1), h2), ⟨x, y, g2, h2, rfl, rfl, hE.tr q2, hx⟩, fun r => ?_, fun r => ?_⟩
            · simp (disch := omega) only [bd_s, bd2_s, bd3_s, bd4_s, bd5_s, bd6_s, bd7_s, bd8_s, lr_l, lr_r, nm_s, jn_s, gdb_0, gdb_1, li_2, li_3, li_4, li_5, li_6, li_7, li_8, li_9, li_10, li_11, li_12, li_13, li_14, li_15, li_16, li_20, li_24, li_32, li_40, li_41, li_43, li_48, li_57, li_59, li_60, li_62, li_63, li_76, li_96, li_97, li_99, li_100, li_104, li_116, li_122, li_128, li_129, li_216, li_217, li_218, li_219, li_239, li_240, li_255, li_256, li_257, li_400, li_456, li_856, li_999, li_1000, li_1001, li_1002, li_1003, li_1004, li_1005, li_1006, li_1007, li_1008, li_1161, li_2000, li_2001, li_2002, li_2003, li_2004, li_2005, li_5016, li_5472, li_9999, li_10000, li_32767, li_1000000, li_2000000000, nI_add, nI_mul, nI_sub, nI_clamp, nI_leI, nI_ltI, nI_eq, gdi_n, nI_1, nI_eq0, nI_eq1, nI_le0, nI_le1, nI_0le, nI_lt0, nI_0lt, nI_m1, Int32.add_zero, Nat.le_refl, if_true, if_false, Bool.false_eq_true, Bool.true_eq_false, i10, i01, im0, im1, i0m, i1m, l10, l00, l01, t10, t00, nI_1lt, hm, hW, nk, q_isOf, ba, q1, c]
            · simp (disch := omega) only [bd_s, bd2_s, bd3_s, bd4_s, bd5_s, bd6_s, bd7_s, bd8_s, lr_l, lr_r, nm_s, jn_s, gdb_0, gdb_1, li_2, li_3, li_4, li_5, li_6, li_7, li_8, li_9, li_10, li_11, li_12, li_13, li_14, li_15, li_16, li_20, li_24, li_32, li_40, li_41, li_43, li_48, li_57, li_59, li_60, li_62, li_63, li_76, li_96, li_97, li_99, li_100, li_104, li_116, li_122, li_128, li_129, li_216, li_217, li_218, li_219, li_239, li_240, li_255, li_256, li_257, li_400, li_456, li_856, li_999, li_1000, li_1001, li_1002, li_1003, li_1004, li_1005, li_1006, li_1007, li_1008, li_1161, li_2000, li_2001, li_2002, li_2003, li_2004, li_2005, li_5016, li_5472, li_9999, li_10000, li_32767, li_1000000, li_2000000000, nI_add, nI_mul, nI_sub, nI_clamp, nI_leI, nI_ltI, nI_eq, gdi_n, nI_1, nI_eq0, nI_eq1, nI_le0, nI_le1, nI_0le, nI_lt0, nI_0lt, nI_m1, Int32.add_zero, Nat.le_refl, if_true, if_false, Bool.false_eq_true, Bool.true_eq_false, i10, i01, im0, im1, i0m, i1m, l10, l00, l01, t10, t00, nI_1lt, gw, nk, b1, b0, ba, bk, q3, c]
          · refine Or.inl ⟨(x ||| ((1 : Int32) <<< (nI k &&& 31)), nI (k + 1), g2), (y ||| ((1 : Int32) <<< (nI k &&& 31)), nI (k + 1), h2), ⟨_, _, g2, h2, rfl, rfl, hE.tr q2, by rw [hx, Int32.or_assoc]⟩, fun r => ?_, fun r => ?_⟩
            · simp (disch := omega) only [bd_s, bd2_s, bd3_s, bd4_s, bd5_s, bd6_s, bd7_s, bd8_s, lr_l, lr_r, nm_s, jn_s, gdb_0, gdb_1, li_2, li_3, li_4, li_5, li_6, li_7, li_8, li_9, li_10, li_11, li_12, li_13, li_14, li_15, li_16, li_20, li_24, li_32, li_40, li_41, li_43, li_48, li_57, li_59, li_60, li_62, li_63, li_76, li_96, li_97, li_99, li_100, li_104, li_116, li_122, li_128, li_129, li_216, li_217, li_218, li_219, li_239, li_240, li_255, li_256, li_257, li_400, li_456, li_856, li_999, li_1000, li_1001, li_1002, li_1003, li_1004, li_1005, li_1006, li_1007, li_1008, li_1161, li_2000, li_2001, li_2002, li_2003, li_2004, li_2005, li_5016, li_5472, li_9999, li_10000, li_32767, li_1000000, li_2000000000, nI_add, nI_mul, nI_sub, nI_clamp, nI_leI, nI_ltI, nI_eq, gdi_n, nI_1, nI_eq0, nI_eq1, nI_le0, nI_le1, nI_0le, nI_lt0, nI_0lt, nI_m1, Int32.add_zero, Nat.le_refl, if_true, if_false, Bool.false_eq_true, Bool.true_eq_false, i10, i01, im0, im1, i0m, i1m, l10, l00, l01, t10, t00, nI_1lt, hm, hW, nk, q_isOf, ba, q1, c]
            · simp (disch := omega) only [bd_s, bd2_s, bd3_s, bd4_s, bd5_s, bd6_s, bd7_s, bd8_s, lr_l, lr_r, nm_s, jn_s, gdb_0, gdb_1, li_2, li_3, li_4, li_5, li_6, li_7, li_8, li_9, li_10, li_11, li_12, li_13, li_14, li_15, li_16, li_20, li_24, li_32, li_40, li_41, li_43, li_48, li_57, li_59, li_60, li_62, li_63, li_76, li_96, li_97, li_99, li_100, li_104, li_116, li_122, li_128, li_129, li_216, li_217, li_218, li_219, li_239, li_240, li_255, li_256, li_257, li_400, li_456, li_856, li_999, li_1000, li_1001, li_1002, li_1003, li_1004, li_1005, li_1006, li_1007, li_1008, li_1161, li_2000, li_2001, li_2002, li_2003, li_2004, li_2005, li_5016, li_5472, li_9999, li_10000, li_32767, li_1000000, li_2000000000, nI_add, nI_mul, nI_sub, nI_clamp, nI_leI, nI_ltI, nI_eq, gdi_n, nI_1, nI_eq0, nI_eq1, nI_le0, nI_le1, nI_0le, nI_lt0, nI_0lt, nI_m1, Int32.add_zero, Nat.le_refl, if_true, if_false, Bool.false_eq_true, Bool.true_eq_false, i10, i01, im0, im1, i0m, i1m, l10, l00, l01, t10, t00, nI_1lt, gw, nk, b1, b0, ba, bk, q3, c]
    · rintro _ _ ⟨x, y, g', h, rfl, rfl, hE, hx⟩
      have hm := hE.m.trans hg
      refine ⟨(x, g'), (y, h), ⟨x, y, g', h, rfl, rfl, hE, hx⟩, fun r => ?_, fun r => ?_⟩
      · simp (disch := omega) only [bd_s, bd2_s, bd3_s, bd4_s, bd5_s, bd6_s, bd7_s, bd8_s, lr_l, lr_r, nm_s, jn_s, gdb_0, gdb_1, li_2, li_3, li_4, li_5, li_6, li_7, li_8, li_9, li_10, li_11, li_12, li_13, li_14, li_15, li_16, li_20, li_24, li_32, li_40, li_41, li_43, li_48, li_57, li_59, li_60, li_62, li_63, li_76, li_96, li_97, li_99, li_100, li_104, li_116, li_122, li_128, li_129, li_216, li_217, li_218, li_219, li_239, li_240, li_255, li_256, li_257, li_400, li_456, li_856, li_999, li_1000, li_1001, li_1002, li_1003, li_1004, li_1005, li_1006, li_1007, li_1008, li_1161, li_2000, li_2001, li_2002, li_2003, li_2004, li_2005, li_5016, li_5472, li_9999, li_10000, li_32767, li_1000000, li_2000000000, nI_add, nI_mul, nI_sub, nI_clamp, nI_leI, nI_ltI, nI_eq, gdi_n, nI_1, nI_eq0, nI_eq1, nI_le0, nI_le1, nI_0le, nI_lt0, nI_0lt, nI_m1, Int32.add_zero, Nat.le_refl, if_true, if_false, Bool.false_eq_true, Bool.true_eq_false, i10, i01, im0, im1, i0m, i1m, l10, l00, l01, t10, t00, hm, hW]
        done
      · simp (disch := omega) only [bd_s, bd2_s, bd3_s, bd4_s, bd5_s, bd6_s, bd7_s, bd8_s, lr_l, lr_r, nm_s, jn_s, gdb_0, gdb_1, li_2, li_3, li_4, li_5, li_6, li_7, li_8, li_9, li_10, li_11, li_12, li_13, li_14, li_15, li_16, li_20, li_24, li_32, li_40, li_41, li_43, li_48, li_57, li_59, li_60, li_62, li_63, li_76, li_96, li_97, li_99, li_100, li_104, li_116, li_122, li_128, li_129, li_216, li_217, li_218, li_219, li_239, li_240, li_255, li_256, li_257, li_400, li_456, li_856, li_999, li_1000, li_1001, li_1002, li_1003, li_1004, li_1005, li_1006, li_1007, li_1008, li_1161, li_2000, li_2001, li_2002, li_2003, li_2004, li_2005, li_5016, li_5472, li_9999, li_10000, li_32767, li_1000000, li_2000000000, nI_add, nI_mul, nI_sub, nI_clamp, nI_leI, nI_ltI, nI_eq, gdi_n, nI_1, nI_eq0, nI_eq1, nI_le0, nI_le1, nI_0le, nI_lt0, nI_0lt, nI_m1, Int32.add_zero, Nat.le_refl, if_true, if_false, Bool.false_eq_true, Bool.true_eq_false, i10, i01, im0, im1, i0m, i1m, l10, l00, l01, t10, t00, gw]
        done
  obtain ⟨c, d, h1, h2, x', y', g', h, rfl, rfl, h3, h4⟩ := H
  exact ⟨x', y', g', h, h1, h3, h2, h4⟩
theorem e_near (hg : g 1 = m) (hO : Ok m) (hR : RS gS gL m) (p s q : Int32) (gX : Pic) : ∃ y g' h, f_X12_chain_L46 p s q fu (s, 0, g) = some (s ||| y, g') ∧ Es g g' ∧ f_X6_neighboursOf gX gS s = some (y, h) := by
  obtain ⟨W, hW, tW, -, w8⟩ := hO.W.ex
  have gw := hR.W.trans hW
  have H : ∃ c d, f_X12_chain_L46 p s q fu (s, 0, g) = some c ∧ f_X6_neighboursOf_L4 s gS fu (0, 0, gX) = some d ∧ ∃ y' g' h, c = (s ||| y', g') ∧ d = (y', h) ∧ Es g g' := by
    refine lp_two (fun k a b => ∃ (x' y' : Int32) (g' h : Pic), a = (x', nI k, g') ∧ b = (y', nI k, h) ∧ Es g g' ∧ x' = s ||| y') W (fun c d => ∃ (y' : Int32) (g' h : Pic), c = (s ||| y', g') ∧ d = (y', h) ∧ Es g g') ?_ ?_ (by have := fu_big; omega) (by have := fu_big; omega) ⟨s, 0, g, gX, rfl, rfl, Es.rf g, by rw [Int32.or_zero]⟩
    · rintro k hk _ _ ⟨x, y, g', h, rfl, rfl, hE, hx⟩
      have nk : ¬ W ≤ k := by omega
      have hk' : k < tn (m 3) := by rw [tW]; exact hk
      have hm := hE.m.trans hg
      obtain ⟨x', y', g2, h2, q1, q2, q3, q4⟩ := e_near1 hm hO hR hk' p s x y q h hx
      refine Or.inl ⟨(x', nI (k + 1), g2), (y', nI (k + 1), h2), ⟨x', y', g2, h2, rfl, rfl, hE.tr q2, q4⟩, fun r => ?_, fun r => ?_⟩
      · simp (disch := omega) only [bd_s, bd2_s, bd3_s, bd4_s, bd5_s, bd6_s, bd7_s, bd8_s, lr_l, lr_r, nm_s, jn_s, gdb_0, gdb_1, li_2, li_3, li_4, li_5, li_6, li_7, li_8, li_9, li_10, li_11, li_12, li_13, li_14, li_15, li_16, li_20, li_24, li_32, li_40, li_41, li_43, li_48, li_57, li_59, li_60, li_62, li_63, li_76, li_96, li_97, li_99, li_100, li_104, li_116, li_122, li_128, li_129, li_216, li_217, li_218, li_219, li_239, li_240, li_255, li_256, li_257, li_400, li_456, li_856, li_999, li_1000, li_1001, li_1002, li_1003, li_1004, li_1005, li_1006, li_1007, li_1008, li_1161, li_2000, li_2001, li_2002, li_2003, li_2004, li_2005, li_5016, li_5472, li_9999, li_10000, li_32767, li_1000000, li_2000000000, nI_add, nI_mul, nI_sub, nI_clamp, nI_leI, nI_ltI, nI_eq, gdi_n, nI_1, nI_eq0, nI_eq1, nI_le0, nI_le1, nI_0le, nI_lt0, nI_0lt, nI_m1, Int32.add_zero, Nat.le_refl, if_true, if_false, Bool.false_eq_true, Bool.true_eq_false, i10, i01, im0, im1, i0m, i1m, l10, l00, l01, t10, t00, hm, hW, nk, q1]
      · simp (disch := omega) only [bd_s, bd2_s, bd3_s, bd4_s, bd5_s, bd6_s, bd7_s, bd8_s, lr_l, lr_r, nm_s, jn_s, gdb_0, gdb_1, li_2, li_3, li_4, li_5, li_6, li_7, li_8, li_9, li_10, li_11, li_12, li_13, li_14, li_15, li_16, li_20, li_24, li_32, li_40, li_41, li_43, li_48, li_57, li_59, li_60, li_62, li_63, li_76, li_96, li_97, li_99, li_100, li_104, li_116, li_122, li_128, li_129, li_216, li_217, li_218, li_219, li_239, li_240, li_255, li_256, li_257, li_400, li_456, li_856, li_999, li_1000, li_1001, li_1002, li_1003, li_1004, li_1005, li_1006, li_1007, li_1008, li_1161, li_2000, li_2001, li_2002, li_2003, li_2004, li_2005, li_5016, li_5472, li_9999, li_10000, li_32767, li_1000000, li_2000000000, nI_add, nI_mul, nI_sub, nI_clamp, nI_leI, nI_ltI, nI_eq, gdi_n, nI_1, nI_eq0, nI_eq1, nI_le0, nI_le1, nI_0le, nI_lt0, nI_0lt, nI_m1, Int32.add_zero, Nat.le_refl, if_true, if_false, Bool.false_eq_true, Bool.true_eq_false, i10, i01, im0, im1, i0m, i1m, l10, l00, l01, t10, t00, gw, nk, q3]
    · rintro _ _ ⟨x, y, g', h, rfl, rfl, hE, hx⟩
      have hm := hE.m.trans hg
      refine ⟨(x, g'), (y, h), ⟨y, g', h, by rw [hx], rfl, hE⟩, fun r => ?_, fun r => ?_⟩
      · simp (disch := omega) only [bd_s, bd2_s, bd3_s, bd4_s, bd5_s, bd6_s, bd7_s, bd8_s, lr_l, lr_r, nm_s, jn_s, gdb_0, gdb_1, li_2, li_3, li_4, li_5, li_6, li_7, li_8, li_9, li_10, li_11, li_12, li_13, li_14, li_15, li_16, li_20, li_24, li_32, li_40, li_41, li_43, li_48, li_57, li_59, li_60, li_62, li_63, li_76, li_96, li_97, li_99, li_100, li_104, li_116, li_122, li_128, li_129, li_216, li_217, li_218, li_219, li_239, li_240, li_255, li_256, li_257, li_400, li_456, li_856, li_999, li_1000, li_1001, li_1002, li_1003, li_1004, li_1005, li_1006, li_1007, li_1008, li_1161, li_2000, li_2001, li_2002, li_2003, li_2004, li_2005, li_5016, li_5472, li_9999, li_10000, li_32767, li_1000000, li_2000000000, nI_add, nI_mul, nI_sub, nI_clamp, nI_leI, nI_ltI, nI_eq, gdi_n, nI_1, nI_eq0, nI_eq1, nI_le0, nI_le1, nI_0le, nI_lt0, nI_0lt, nI_m1, Int32.add_zero, Nat.le_refl, if_true, if_false, Bool.false_eq_true, Bool.true_eq_false, i10, i01, im0, im1, i0m, i1m, l10, l00, l01, t10, t00, hm, hW]
        done
      · simp (disch := omega) only [bd_s, bd2_s, bd3_s, bd4_s, bd5_s, bd6_s, bd7_s, bd8_s, lr_l, lr_r, nm_s, jn_s, gdb_0, gdb_1, li_2, li_3, li_4, li_5, li_6, li_7, li_8, li_9, li_10, li_11, li_12, li_13, li_14, li_15, li_16, li_20, li_24, li_32, li_40, li_41, li_43, li_48, li_57, li_59, li_60, li_62, li_63, li_76, li_96, li_97, li_99, li_100, li_104, li_116, li_122, li_128, li_129, li_216, li_217, li_218, li_219, li_239, li_240, li_255, li_256, li_257, li_400, li_456, li_856, li_999, li_1000, li_1001, li_1002, li_1003, li_1004, li_1005, li_1006, li_1007, li_1008, li_1161, li_2000, li_2001, li_2002, li_2003, li_2004, li_2005, li_5016, li_5472, li_9999, li_10000, li_32767, li_1000000, li_2000000000, nI_add, nI_mul, nI_sub, nI_clamp, nI_leI, nI_ltI, nI_eq, gdi_n, nI_1, nI_eq0, nI_eq1, nI_le0, nI_le1, nI_0le, nI_lt0, nI_0lt, nI_m1, Int32.add_zero, Nat.le_refl, if_true, if_false, Bool.false_eq_true, Bool.true_eq_false, i10, i01, im0, im1, i0m, i1m, l10, l00, l01, t10, t00, gw]
        done
  obtain ⟨c, d, h1, h2, y', g', h, rfl, rfl, h3⟩ := H
  exact ⟨y', g', h, h1, h3, by unfold f_X6_neighboursOf; rw [h2]; rfl⟩
theorem e_chain (hg : g 1 = m) (hO : Ok m) (hR : RS gS gL m) {w o : Nat} (hw : w < tn (m 3)) (ho : o < tn (m 3)) (gX : Pic) : ∃ v g' h, lr (f_X12_chain_L22 (nI o) fu ((1 : Int32) <<< (nI w &&& 31), 0, g)) (fun a => a) (fun g0_12 => some ((-1), g0_12)) = some (v, g') ∧ Es g g' ∧ f_X6_stepsBetween gX gS (nI w) (nI o) = some (v, h) := by
  have o8 := hO.w8 ho
  have H : ∃ c d, f_X12_chain_L22 (nI o) fu ((1 : Int32) <<< (nI w &&& 31), 0, g) = some c ∧ f_X6_stepsBetween_L7 (nI o) gS fu ((1 : Int32) <<< (nI w &&& 31), 0, gX) = some d ∧ ((∃ v g' h, c = .inl (v, g') ∧ d = .inl (v, h) ∧ Es g g') ∨ ∃ g' h, c = .inr g' ∧ d = .inr h ∧ Es g g') := by
    refine lp_two (fun k a b => ∃ (x : Int32) (g' h : Pic), a = (x, nI k, g') ∧ b = (x, nI k, h) ∧ Es g g') 8 (fun (c d : (Int32 × Pic) ⊕ Pic) => ((∃ v g' h, c = .inl (v, g') ∧ d = .inl (v, h) ∧ Es g g') ∨ ∃ g' h, c = .inr g' ∧ d = .inr h ∧ Es g g')) ?_ ?_ (by have := fu_big; omega) (by have := fu_big; omega) ⟨_, g, gX, rfl, rfl, Es.rf g⟩
    · rintro k hk _ _ ⟨x, g', h, rfl, rfl, hE⟩
      have nk : ¬ 8 ≤ k := by omega
      have hm := hE.m.trans hg
      have b1 : ((x >>> (nI o &&& 31)) &&& 1 = 1) = (bt x o = true) := bt_1 (by omega)
      cases bo : bt x o with
      | true =>
        refine Or.inr ⟨.inl (nI k, g'), .inl (nI k, h), Or.inl ⟨_, _, _, rfl, rfl, hE⟩, fun r => ?_, fun r => ?_⟩
        · simp (disch := omega) only [bd_s, bd2_s, bd3_s, bd4_s, bd5_s, bd6_s, bd7_s, bd8_s, lr_l, lr_r, nm_s, jn_s, gdb_0, gdb_1, li_2, li_3, li_4, li_5, li_6, li_7, li_8, li_9, li_10, li_11, li_12, li_13, li_14, li_15, li_16, li_20, li_24, li_32, li_40, li_41, li_43, li_48, li_57, li_59, li_60, li_62, li_63, li_76, li_96, li_97, li_99, li_100, li_104, li_116, li_122, li_128, li_129, li_216, li_217, li_218, li_219, li_239, li_240, li_255, li_256, li_257, li_400, li_456, li_856, li_999, li_1000, li_1001, li_1002, li_1003, li_1004, li_1005, li_1006, li_1007, li_1008, li_1161, li_2000, li_2001, li_2002, li_2003, li_2004, li_2005, li_5016, li_5472, li_9999, li_10000, li_32767, li_1000000, li_2000000000, nI_add, nI_mul, nI_sub, nI_clamp, nI_leI, nI_ltI, nI_eq, gdi_n, nI_1, nI_eq0, nI_eq1, nI_le0, nI_le1, nI_0le, nI_lt0, nI_0lt, nI_m1, Int32.add_zero, Nat.le_refl, if_true, if_false, Bool.false_eq_true, Bool.true_eq_false, i10, i01, im0, im1, i0m, i1m, l10, l00, l01, t10, t00, nk, q_isOf, bo]
        · simp (disch := omega) only [bd_s, bd2_s, bd3_s, bd4_s, bd5_s, bd6_s, bd7_s, bd8_s, lr_l, lr_r, nm_s, jn_s, gdb_0, gdb_1, li_2, li_3, li_4, li_5, li_6, li_7, li_8, li_9, li_10, li_11, li_12, li_13, li_14, li_15, li_16, li_20, li_24, li_32, li_40, li_41, li_43, li_48, li_57, li_59, li_60, li_62, li_63, li_76, li_96, li_97, li_99, li_100, li_104, li_116, li_122, li_128, li_129, li_216, li_217, li_218, li_219, li_239, li_240, li_255, li_256, li_257, li_400, li_456, li_856, li_999, li_1000, li_1001, li_1002, li_1003, li_1004, li_1005, li_1006, li_1007, li_1008, li_1161, li_2000, li_2001, li_2002, li_2003, li_2004, li_2005, li_5016, li_5472, li_9999, li_10000, li_32767, li_1000000, li_2000000000, nI_add, nI_mul, nI_sub, nI_clamp, nI_leI, nI_ltI, nI_eq, gdi_n, nI_1, nI_eq0, nI_eq1, nI_le0, nI_le1, nI_0le, nI_lt0, nI_0lt, nI_m1, Int32.add_zero, Nat.le_refl, if_true, if_false, Bool.false_eq_true, Bool.true_eq_false, i10, i01, im0, im1, i0m, i1m, l10, l00, l01, t10, t00, nk, b1, bo]
      | false =>
        obtain ⟨y, g2, h2, q1, q2, q3⟩ := e_near hm hO hR (nI o) x (nI k) h
        refine Or.inl ⟨(x ||| y, nI (k + 1), g2), (x ||| y, nI (k + 1), h2), ⟨_, g2, h2, rfl, rfl, hE.tr q2⟩, fun r => ?_, fun r => ?_⟩
        · simp (disch := omega) only [bd_s, bd2_s, bd3_s, bd4_s, bd5_s, bd6_s, bd7_s, bd8_s, lr_l, lr_r, nm_s, jn_s, gdb_0, gdb_1, li_2, li_3, li_4, li_5, li_6, li_7, li_8, li_9, li_10, li_11, li_12, li_13, li_14, li_15, li_16, li_20, li_24, li_32, li_40, li_41, li_43, li_48, li_57, li_59, li_60, li_62, li_63, li_76, li_96, li_97, li_99, li_100, li_104, li_116, li_122, li_128, li_129, li_216, li_217, li_218, li_219, li_239, li_240, li_255, li_256, li_257, li_400, li_456, li_856, li_999, li_1000, li_1001, li_1002, li_1003, li_1004, li_1005, li_1006, li_1007, li_1008, li_1161, li_2000, li_2001, li_2002, li_2003, li_2004, li_2005, li_5016, li_5472, li_9999, li_10000, li_32767, li_1000000, li_2000000000, nI_add, nI_mul, nI_sub, nI_clamp, nI_leI, nI_ltI, nI_eq, gdi_n, nI_1, nI_eq0, nI_eq1, nI_le0, nI_le1, nI_0le, nI_lt0, nI_0lt, nI_m1, Int32.add_zero, Nat.le_refl, if_true, if_false, Bool.false_eq_true, Bool.true_eq_false, i10, i01, im0, im1, i0m, i1m, l10, l00, l01, t10, t00, nk, q_isOf, bo, q1]
        · simp (disch := omega) only [bd_s, bd2_s, bd3_s, bd4_s, bd5_s, bd6_s, bd7_s, bd8_s, lr_l, lr_r, nm_s, jn_s, gdb_0, gdb_1, li_2, li_3, li_4, li_5, li_6, li_7, li_8, li_9, li_10, li_11, li_12, li_13, li_14, li_15, li_16, li_20, li_24, li_32, li_40, li_41, li_43, li_48, li_57, li_59, li_60, li_62, li_63, li_76, li_96, li_97, li_99, li_100, li_104, li_116, li_122, li_128, li_129, li_216, li_217, li_218, li_219, li_239, li_240, li_255, li_256, li_257, li_400, li_456, li_856, li_999, li_1000, li_1001, li_1002, li_1003, li_1004, li_1005, li_1006, li_1007, li_1008, li_1161, li_2000, li_2001, li_2002, li_2003, li_2004, li_2005, li_5016, li_5472, li_9999, li_10000, li_32767, li_1000000, li_2000000000, nI_add, nI_mul, nI_sub, nI_clamp, nI_leI, nI_ltI, nI_eq, gdi_n, nI_1, nI_eq0, nI_eq1, nI_le0, nI_le1, nI_0le, nI_lt0, nI_0lt, nI_m1, Int32.add_zero, Nat.le_refl, if_true, if_false, Bool.false_eq_true, Bool.true_eq_false, i10, i01, im0, im1, i0m, i1m, l10, l00, l01, t10, t00, nk, b1, bo, q3]
    · rintro _ _ ⟨x, g', h, rfl, rfl, hE⟩
      exact ⟨.inr g', .inr h, Or.inr ⟨g', h, rfl, rfl, hE⟩, fun r => rfl, fun r => rfl⟩
  obtain ⟨c, d, q1, q2, ⟨v, g', h, rfl, rfl, hE⟩ | ⟨g', h, rfl, rfl, hE⟩⟩ := H
  · exact ⟨v, g', h, by rw [q1]; rfl, hE, by unfold f_X6_stepsBetween; simp only [nm_s]; rw [q2]; rfl⟩
  · exact ⟨-1, g', h, by rw [q1]; rfl, hE, by unfold f_X6_stepsBetween; simp only [nm_s]; rw [q2]; rfl⟩
end K6
/-! codes -/
def cby (o : Nat) (C : Nat → Nat) (n cap : Nat) : Nat := if cap < 2 ^ (7 - n) then 2000000000 else if C (cap - 2 ^ (7 - n)) = 2000000000 then 2000000000 else n * o + C (cap - 2 ^ (7 - n))
def cmn (o : Nat) (C : Nat → Nat) (cap : Nat) : Nat → Nat := itr (fun i s => min s (cby o C (i + 1) cap)) 2000000000
def cst (f : Nat → Nat) : Nat → Nat → Nat
  | 0 => fun _ => 0
  | r + 1 => fun cap => cmn (f r) (cst f r) cap 7
theorem cby_b {o : Nat} {C : Nat → Nat} {n cap B : Nat} (ho : o ≤ 99) (hn : n ≤ 7) (h : ∀ c, C c = 2000000000 ∨ C c ≤ B) : cby o C n cap = 2000000000 ∨ cby o C n cap ≤ 693 + B := by
  unfold cby
  split
  · exact Or.inl rfl
  · split
    · exact Or.inl rfl
    · rename_i h1 h2
      have := (h (cap - 2 ^ (7 - n))).resolve_left h2
      have := Nat.mul_le_mul hn ho
      exact Or.inr (by omega)
theorem cmn_b {o : Nat} {C : Nat → Nat} {cap B : Nat} (ho : o ≤ 99) (h : ∀ c, C c = 2000000000 ∨ C c ≤ B) {i : Nat} (hi : i ≤ 7) : cmn o C cap i = 2000000000 ∨ cmn o C cap i ≤ 693 + B := by
  induction i with
  | zero => exact Or.inl rfl
  | succ i ih =>
    show min (cmn o C cap i) (cby o C (i + 1) cap) = _ ∨ min (cmn o C cap i) (cby o C (i + 1) cap) ≤ _
    have a := ih (by omega)
    have b := cby_b (cap := cap) (n := i + 1) ho (by omega) h
    omega
theorem cst_b {f : Nat → Nat} (hf : ∀ r, f r ≤ 99) (r cap : Nat) : cst f r cap = 2000000000 ∨ cst f r cap ≤ 693 * r := by
  induction r generalizing cap with
  | zero => exact Or.inr (Nat.le_refl _)
  | succ r ih =>
    have := cmn_b (cap := cap) (hf r) ih (Nat.le_refl 7)
    show cmn (f r) (cst f r) cap 7 = _ ∨ cmn (f r) (cst f r) cap 7 ≤ _
    omega
theorem cmn_le {o : Nat} {C : Nat → Nat} {cap : Nat} {i n : Nat} (hn : n < i) : cmn o C cap i ≤ cby o C (n + 1) cap := by
  induction i with
  | zero => omega
  | succ i ih =>
    show min (cmn o C cap i) (cby o C (i + 1) cap) ≤ _
    rcases Nat.lt_succ_iff_lt_or_eq.mp hn with h | h
    · have := ih h; omega
    · rw [h]; omega
theorem cmn_at {o : Nat} {C : Nat → Nat} {cap : Nat} {i : Nat} : cmn o C cap i = 2000000000 ∨ ∃ n, n < i ∧ cby o C (n + 1) cap = cmn o C cap i := by
  induction i with
  | zero => exact Or.inl rfl
  | succ i ih =>
    show min (cmn o C cap i) (cby o C (i + 1) cap) = _ ∨ ∃ n, n < i + 1 ∧ _ = min (cmn o C cap i) (cby o C (i + 1) cap)
    by_cases h : cby o C (i + 1) cap ≤ cmn o C cap i
    · exact Or.inr ⟨i, by omega, by rw [Nat.min_eq_right h]⟩
    · rw [Nat.min_eq_left (by omega)]
      rcases ih with q | ⟨n, h1, h2⟩
      · exact Or.inl q
      · exact Or.inr ⟨n, by omega, h2⟩
/-- with room for the longest of all there is a way -/
theorem cst_ok {f : Nat → Nat} (hf : ∀ r, f r ≤ 99) {r cap : Nat} (hr : r ≤ 8) (h : r ≤ cap) : cst f r cap ≠ 2000000000 := by
  induction r generalizing cap with
  | zero => show (0 : Nat) ≠ _; omega
  | succ r ih =>
    have a := ih (cap := cap - 1) (by omega) (by omega)
    have b := (cst_b hf r (cap - 1)).resolve_left a
    have c := cmn_le (o := f r) (C := cst f r) (cap := cap) (i := 7) (n := 6) (by decide)
    have d : cby (f r) (cst f r) (6 + 1) cap = 7 * f r + cst f r (cap - 1) := by
      unfold cby
      rw [if_neg (show ¬ cap < 2 ^ (7 - (6 + 1)) by show ¬ cap < 1; omega)]
      rw [show cap - 2 ^ (7 - (6 + 1)) = cap - 1 from rfl, if_neg a]
    have := hf r
    show cmn (f r) (cst f r) cap 7 ≠ _
    omega
theorem p7 : ∀ n, n < 7 → (1 : Int32) <<< ((7 - nI (n + 1)) &&& 31) = nI (2 ^ (7 - (n + 1))) ∧ (128 : Int32) >>> (nI (n + 1) &&& 31) = nI (2 ^ (7 - (n + 1))) ∧ 2 ^ (7 - (n + 1)) ≤ 64 := by decide +kernel
