/-! the hand: marks, strokes, lengths, how often -/
def HO (gH : Pic) (m : Nat → Int32) (x : Int32) : Prop := gH 4 0 = m 3 ∧ ∀ w, w < tn (m 3) → gH 0 w = nI (enc 16 (kl m w x)) ∧ gH 1 w = nI (kl m w x).length ∧ gH 2 w = wd m w 6 ∧ gH 3 w = wd m w 7
section K2
variable {m : Nat → Int32} {g gS gL gH : Pic}
theorem mk16 {e c : Nat} (hc : c < 8) : (nI e <<< ((4 : Int32) &&& 31)) ||| (nI c + 1) = nI (16 * e + (c + 1)) := by
  rw [show ((4 : Int32) &&& 31) = (nI 4 &&& 31) from rfl, nx_shl (by decide), nI_1, nx_or]
  congr 1
  rw [← Nat.shiftLeft_eq, ← Nat.shiftLeft_add_eq_or_of_lt (show c + 1 < 2 ^ 4 by omega), Nat.shiftLeft_eq]
  omega
theorem k_takeL (hO : Ok m) (hR : RS gS gL m) {w : Nat} (hw : w < tn (m 3)) (x : Int32) (h2 : gH 2 w = wd m w 6) : f_X3_take_L51 x (nI w) gH gS fu (0, 0, 0) = some (nI (enc 16 (kl m w x)), nI (kl m w x).length) := by
  have h8 := hO.w8 hw
  obtain ⟨L, hL, tL, l1, l6⟩ := (hO.len hw).ex
  have gl := h2.trans hL
  have H : f_X3_take_L51 x (nI w) gH gS fu (0, 0, 0) = some (nI (enc 16 (kls m w x L)), nI (kls m w x L).length) := by
    refine lp_seq (fun k => (nI (enc 16 (kls m w x k)), nI (kls m w x k).length, nI k)) L _ (fun k hk r => ?_) (fun r => ?_) (by have := fu_big; omega) rfl
    · obtain ⟨c, hc, tc, -, c7⟩ := (hO.let_ hw (by rw [tL]; exact hk)).ex
      have e1 : gS 1 (w * 6 + k) = nI c := (hR.let_ hw (by rw [tL]; exact hk)).trans hc
      have nk : ¬ L ≤ k := by omega
      rw [kls_s, tc]
      simp (disch := omega) only [bd_s, bd2_s, bd3_s, bd4_s, bd5_s, bd6_s, bd7_s, bd8_s, lr_l, lr_r, nm_s, jn_s, gdb_0, gdb_1, li_6, nI_mul, nI_add, gdi_n, nI_clamp, nI_leI, gl, e1, nk, bt_0, mk16, if_false]
      cases hb : bt x c <;> simp (disch := omega) only [bd_s, bd2_s, bd3_s, bd4_s, bd5_s, bd6_s, bd7_s, bd8_s, lr_l, lr_r, nm_s, jn_s, gdb_0, gdb_1, hb, enc, nI_1, List.length_cons]
      all_goals rfl
    · simp (disch := omega) only [bd_s, bd2_s, bd3_s, bd4_s, bd5_s, bd6_s, bd7_s, bd8_s, lr_l, lr_r, nm_s, jn_s, gdb_0, gdb_1, li_2, li_3, li_4, li_5, li_6, li_7, li_8, li_9, li_10, li_11, li_12, li_13, li_14, li_15, li_16, li_20, li_24, li_32, li_40, li_41, li_43, li_48, li_57, li_59, li_60, li_62, li_63, li_76, li_96, li_97, li_99, li_100, li_104, li_116, li_122, li_128, li_129, li_216, li_217, li_218, li_219, li_239, li_240, li_255, li_256, li_257, li_400, li_456, li_856, li_999, li_1000, li_1001, li_1002, li_1003, li_1004, li_1005, li_1006, li_1007, li_1008, li_1161, li_2000, li_2001, li_2002, li_2003, li_2004, li_2005, li_5016, li_5472, li_9999, li_10000, li_32767, li_1000000, li_2000000000, nI_add, nI_mul, nI_sub, nI_clamp, nI_leI, nI_ltI, nI_eq, gdi_n, nI_1, nI_eq0, nI_eq1, nI_le0, nI_le1, nI_0le, nI_lt0, nI_0lt, nI_m1, Int32.add_zero, Nat.le_refl, if_true, if_false, Bool.false_eq_true, Bool.true_eq_false, i10, i01, im0, im1, i0m, i1m, l10, l00, l01, t10, t00, gl]
      done
  rw [H]
  unfold kl
  rw [tL]
theorem k_take (hO : Ok m) (hR : RS gS gL m) (gH : Pic) (x : Int32) : ∃ h, f_X3_take gH gS x = some h ∧ HO h m x := by
  obtain ⟨W, hW, tW, -, w8⟩ := hO.W.ex
  have H : ∃ h, f_X3_take_L10 x gS fu (0, pu gH 4 0 (gS 0 0)) = some h ∧ HO h m x := by
    refine lp_inv (fun k a => ∃ h : Pic, a = (nI k, h) ∧ h 4 0 = m 3 ∧ ∀ w, w < k → h 0 w = nI (enc 16 (kl m w x)) ∧ h 1 w = nI (kl m w x).length ∧ h 2 w = wd m w 6 ∧ h 3 w = wd m w 7) W (fun h => HO h m x) ?_ ?_ (by have := fu_big; omega) ⟨pu gH 4 0 (gS 0 0), rfl, by rw [pu_row]; exact hR.W, fun w hw => absurd hw (Nat.not_lt_zero w)⟩
    · rintro k hk _ ⟨h, rfl, h4, hp⟩
      have hw : k < tn (m 3) := by rw [tW]; exact hk
      have nk : ¬ W ≤ k := by omega
      have t := k_takeL (gH := pu (pu h 2 k (wd m k 6)) 3 k (wd m k 7)) hO hR hw x (by simp [pu_row, upd_ap])
      refine Or.inl ⟨(nI (k + 1), pu (pu (pu (pu h 2 k (wd m k 6)) 3 k (wd m k 7)) 0 k (nI (enc 16 (kl m k x)))) 1 k (nI (kl m k x).length)), ⟨_, rfl, ?_, ?_⟩, fun r => ?_⟩
      · simp [pu_row, upd_ap, h4]
      · intro w hwk
        by_cases e : w = k
        · subst e; simp [pu_row, upd_ap]
        · have := hp w (by omega)
          simp [pu_row, upd_ap, e, this]
      · simp (disch := omega) only [bd_s, bd2_s, bd3_s, bd4_s, bd5_s, bd6_s, bd7_s, bd8_s, lr_l, lr_r, nm_s, jn_s, gdb_0, gdb_1, li_2, li_3, li_4, li_5, li_6, li_7, li_8, li_9, li_10, li_11, li_12, li_13, li_14, li_15, li_16, li_20, li_24, li_32, li_40, li_41, li_43, li_48, li_57, li_59, li_60, li_62, li_63, li_76, li_96, li_97, li_99, li_100, li_104, li_116, li_122, li_128, li_129, li_216, li_217, li_218, li_219, li_239, li_240, li_255, li_256, li_257, li_400, li_456, li_856, li_999, li_1000, li_1001, li_1002, li_1003, li_1004, li_1005, li_1006, li_1007, li_1008, li_1161, li_2000, li_2001, li_2002, li_2003, li_2004, li_2005, li_5016, li_5472, li_9999, li_10000, li_32767, li_1000000, li_2000000000, nI_add, nI_mul, nI_sub, nI_clamp, nI_leI, nI_ltI, nI_eq, gdi_n, nI_1, nI_eq0, nI_eq1, nI_le0, nI_le1, nI_0le, nI_lt0, nI_0lt, nI_m1, Int32.add_zero, Nat.le_refl, if_true, if_false, Bool.false_eq_true, Bool.true_eq_false, i10, i01, im0, im1, i0m, i1m, l10, l00, l01, t10, t00, h4, hW, nk, hR.len hw, hR.often hw, t]
        done
    · rintro _ ⟨h, rfl, h4, hp⟩
      refine ⟨h, ⟨h4, fun w hw => hp w (by rw [← tW]; exact hw)⟩, fun r => ?_⟩
      simp (disch := omega) only [bd_s, bd2_s, bd3_s, bd4_s, bd5_s, bd6_s, bd7_s, bd8_s, lr_l, lr_r, nm_s, jn_s, gdb_0, gdb_1, li_2, li_3, li_4, li_5, li_6, li_7, li_8, li_9, li_10, li_11, li_12, li_13, li_14, li_15, li_16, li_20, li_24, li_32, li_40, li_41, li_43, li_48, li_57, li_59, li_60, li_62, li_63, li_76, li_96, li_97, li_99, li_100, li_104, li_116, li_122, li_128, li_129, li_216, li_217, li_218, li_219, li_239, li_240, li_255, li_256, li_257, li_400, li_456, li_856, li_999, li_1000, li_1001, li_1002, li_1003, li_1004, li_1005, li_1006, li_1007, li_1008, li_1161, li_2000, li_2001, li_2002, li_2003, li_2004, li_2005, li_5016, li_5472, li_9999, li_10000, li_32767, li_1000000, li_2000000000, nI_add, nI_mul, nI_sub, nI_clamp, nI_leI, nI_ltI, nI_eq, gdi_n, nI_1, nI_eq0, nI_eq1, nI_le0, nI_le1, nI_0le, nI_lt0, nI_0lt, nI_m1, Int32.add_zero, Nat.le_refl, if_true, if_false, Bool.false_eq_true, Bool.true_eq_false, i10, i01, im0, im1, i0m, i1m, l10, l00, l01, t10, t00, h4, hW]
      done
  obtain ⟨h, h1, h2⟩ := H
  refine ⟨h, ?_, h2⟩
  unfold f_X3_take
  simp only [nm_s, h1, bd_s]
/-! words alike -/
def lkS (m : Nat → Int32) (w : Nat) (x : Int32) : Nat → Int32 := itr (fun o s => if kl m o x = kl m w x then s ||| ((1 : Int32) <<< (nI o &&& 31)) else s) 0
def lk (m : Nat → Int32) (w : Nat) (x : Int32) : Int32 := lkS m w x (tn (m 3))
theorem lkS_s (m : Nat → Int32) (w : Nat) (x : Int32) (k : Nat) : lkS m w x (k + 1) = if kl m k x = kl m w x then lkS m w x k ||| ((1 : Int32) <<< (nI k &&& 31)) else lkS m w x k := rfl
theorem q_like (hO : Ok (g 1)) {w : Nat} (hw : w < tn (g 1 3)) (x : Int32) : f_X12_likeBy g (nI w) x = some (lk (g 1) w x) := by
  obtain ⟨W, hW, tW, -, w8⟩ := hO.W.ex
  have H : f_X12_likeBy_L5 (nI w) x g fu (0, 0) = some (lkS (g 1) w x W) := by
    refine lp_seq (fun k => (lkS (g 1) w x k, nI k)) W _ (fun k hk r => ?_) (fun r => ?_) (by have := fu_big; omega) rfl
    · have hk' : k < tn (g 1 3) := by rw [tW]; exact hk
      have nk : ¬ W ≤ k := by omega
      rw [lkS_s]
      simp (disch := omega) only [bd_s, bd2_s, bd3_s, bd4_s, bd5_s, bd6_s, bd7_s, bd8_s, lr_l, lr_r, nm_s, jn_s, gdb_0, gdb_1, li_2, li_3, li_4, li_5, li_6, li_7, li_8, li_9, li_10, li_11, li_12, li_13, li_14, li_15, li_16, li_20, li_24, li_32, li_40, li_41, li_43, li_48, li_57, li_59, li_60, li_62, li_63, li_76, li_96, li_97, li_99, li_100, li_104, li_116, li_122, li_128, li_129, li_216, li_217, li_218, li_219, li_239, li_240, li_255, li_256, li_257, li_400, li_456, li_856, li_999, li_1000, li_1001, li_1002, li_1003, li_1004, li_1005, li_1006, li_1007, li_1008, li_1161, li_2000, li_2001, li_2002, li_2003, li_2004, li_2005, li_5016, li_5472, li_9999, li_10000, li_32767, li_1000000, li_2000000000, nI_add, nI_mul, nI_sub, nI_clamp, nI_leI, nI_ltI, nI_eq, gdi_n, nI_1, nI_eq0, nI_eq1, nI_le0, nI_le1, nI_0le, nI_lt0, nI_0lt, nI_m1, Int32.add_zero, Nat.le_refl, if_true, if_false, Bool.false_eq_true, Bool.true_eq_false, i10, i01, im0, im1, i0m, i1m, l10, l00, l01, t10, t00, hW, nk, q_mark hO hk', q_mark hO hw, m9 hO hw hk']
      by_cases hb : kl (g 1) k x = kl (g 1) w x <;> simp (disch := omega) only [bd_s, bd2_s, bd3_s, bd4_s, bd5_s, bd6_s, bd7_s, bd8_s, lr_l, lr_r, nm_s, jn_s, gdb_0, gdb_1, li_2, li_3, li_4, li_5, li_6, li_7, li_8, li_9, li_10, li_11, li_12, li_13, li_14, li_15, li_16, li_20, li_24, li_32, li_40, li_41, li_43, li_48, li_57, li_59, li_60, li_62, li_63, li_76, li_96, li_97, li_99, li_100, li_104, li_116, li_122, li_128, li_129, li_216, li_217, li_218, li_219, li_239, li_240, li_255, li_256, li_257, li_400, li_456, li_856, li_999, li_1000, li_1001, li_1002, li_1003, li_1004, li_1005, li_1006, li_1007, li_1008, li_1161, li_2000, li_2001, li_2002, li_2003, li_2004, li_2005, li_5016, li_5472, li_9999, li_10000, li_32767, li_1000000, li_2000000000, nI_add, nI_mul, nI_sub, nI_clamp, nI_leI, nI_ltI, nI_eq, gdi_n, nI_1, nI_eq0, nI_eq1, nI_le0, nI_le1, nI_0le, nI_lt0, nI_0lt, nI_m1, Int32.add_zero, Nat.le_refl, if_true, if_false, Bool.false_eq_true, Bool.true_eq_false, i10, i01, im0, im1, i0m, i1m, l10, l00, l01, t10, t00, hb, Int32.or_zero]
    · simp (disch := omega) only [bd_s, bd2_s, bd3_s, bd4_s, bd5_s, bd6_s, bd7_s, bd8_s, lr_l, lr_r, nm_s, jn_s, gdb_0, gdb_1, li_2, li_3, li_4, li_5, li_6, li_7, li_8, li_9, li_10, li_11, li_12, li_13, li_14, li_15, li_16, li_20, li_24, li_32, li_40, li_41, li_43, li_48, li_57, li_59, li_60, li_62, li_63, li_76, li_96, li_97, li_99, li_100, li_104, li_116, li_122, li_128, li_129, li_216, li_217, li_218, li_219, li_239, li_240, li_255, li_256, li_257, li_400, li_456, li_856, li_999, li_1000, li_1001, li_1002, li_1003, li_1004, li_1005, li_1006, li_1007, li_1008, li_1161, li_2000, li_2001, li_2002, li_2003, li_2004, li_2005, li_5016, li_5472, li_9999, li_10000, li_32767, li_1000000, li_2000000000, nI_add, nI_mul, nI_sub, nI_clamp, nI_leI, nI_ltI, nI_eq, gdi_n, nI_1, nI_eq0, nI_eq1, nI_le0, nI_le1, nI_0le, nI_lt0, nI_0lt, nI_m1, Int32.add_zero, Nat.le_refl, if_true, if_false, Bool.false_eq_true, Bool.true_eq_false, i10, i01, im0, im1, i0m, i1m, l10, l00, l01, t10, t00, hW]
      done
  unfold f_X12_likeBy lk
  rw [H, tW]
  rfl
theorem k_like (hO : Ok m) {x : Int32} (hH : HO gH m x) {w : Nat} (hw : w < tn (m 3)) : f_X3_alikeTo gH (nI w) = some (lk m w x) := by
  obtain ⟨W, hW, tW, -, w8⟩ := hO.W.ex
  have gw := hH.1.trans hW
  have H : f_X3_alikeTo_L4 (nI w) gH fu (0, 0) = some (lkS m w x W) := by
    refine lp_seq (fun k => (lkS m w x k, nI k)) W _ (fun k hk r => ?_) (fun r => ?_) (by have := fu_big; omega) rfl
    · have hk' : k < tn (m 3) := by rw [tW]; exact hk
      have nk : ¬ W ≤ k := by omega
      rw [lkS_s]
      simp (disch := omega) only [bd_s, bd2_s, bd3_s, bd4_s, bd5_s, bd6_s, bd7_s, bd8_s, lr_l, lr_r, nm_s, jn_s, gdb_0, gdb_1, li_2, li_3, li_4, li_5, li_6, li_7, li_8, li_9, li_10, li_11, li_12, li_13, li_14, li_15, li_16, li_20, li_24, li_32, li_40, li_41, li_43, li_48, li_57, li_59, li_60, li_62, li_63, li_76, li_96, li_97, li_99, li_100, li_104, li_116, li_122, li_128, li_129, li_216, li_217, li_218, li_219, li_239, li_240, li_255, li_256, li_257, li_400, li_456, li_856, li_999, li_1000, li_1001, li_1002, li_1003, li_1004, li_1005, li_1006, li_1007, li_1008, li_1161, li_2000, li_2001, li_2002, li_2003, li_2004, li_2005, li_5016, li_5472, li_9999, li_10000, li_32767, li_1000000, li_2000000000, nI_add, nI_mul, nI_sub, nI_clamp, nI_leI, nI_ltI, nI_eq, gdi_n, nI_1, nI_eq0, nI_eq1, nI_le0, nI_le1, nI_0le, nI_lt0, nI_0lt, nI_m1, Int32.add_zero, Nat.le_refl, if_true, if_false, Bool.false_eq_true, Bool.true_eq_false, i10, i01, im0, im1, i0m, i1m, l10, l00, l01, t10, t00, gw, nk, (hH.2 k hk').1, (hH.2 w hw).1, m16 hO hw hk']
      by_cases hb : kl m k x = kl m w x <;> simp (disch := omega) only [bd_s, bd2_s, bd3_s, bd4_s, bd5_s, bd6_s, bd7_s, bd8_s, lr_l, lr_r, nm_s, jn_s, gdb_0, gdb_1, li_2, li_3, li_4, li_5, li_6, li_7, li_8, li_9, li_10, li_11, li_12, li_13, li_14, li_15, li_16, li_20, li_24, li_32, li_40, li_41, li_43, li_48, li_57, li_59, li_60, li_62, li_63, li_76, li_96, li_97, li_99, li_100, li_104, li_116, li_122, li_128, li_129, li_216, li_217, li_218, li_219, li_239, li_240, li_255, li_256, li_257, li_400, li_456, li_856, li_999, li_1000, li_1001, li_1002, li_1003, li_1004, li_1005, li_1006, li_1007, li_1008, li_1161, li_2000, li_2001, li_2002, li_2003, li_2004, li_2005, li_5016, li_5472, li_9999, li_10000, li_32767, li_1000000, li_2000000000, nI_add, nI_mul, nI_sub, nI_clamp, nI_leI, nI_ltI, nI_eq, gdi_n, nI_1, nI_eq0, nI_eq1, nI_le0, nI_le1, nI_0le, nI_lt0, nI_0lt, nI_m1, Int32.add_zero, Nat.le_refl, if_true, if_false, Bool.false_eq_true, Bool.true_eq_false, i10, i01, im0, im1, i0m, i1m, l10, l00, l01, t10, t00, hb]
    · simp (disch := omega) only [bd_s, bd2_s, bd3_s, bd4_s, bd5_s, bd6_s, bd7_s, bd8_s, lr_l, lr_r, nm_s, jn_s, gdb_0, gdb_1, li_2, li_3, li_4, li_5, li_6, li_7, li_8, li_9, li_10, li_11, li_12, li_13, li_14, li_15, li_16, li_20, li_24, li_32, li_40, li_41, li_43, li_48, li_57, li_59, li_60, li_62, li_63, li_76, li_96, li_97, li_99, li_100, li_104, li_116, li_122, li_128, li_129, li_216, li_217, li_218, li_219, li_239, li_240, li_255, li_256, li_257, li_400, li_456, li_856, li_999, li_1000, li_1001, li_1002, li_1003, li_1004, li_1005, li_1006, li_1007, li_1008, li_1161, li_2000, li_2001, li_2002, li_2003, li_2004, li_2005, li_5016, li_5472, li_9999, li_10000, li_32767, li_1000000, li_2000000000, nI_add, nI_mul, nI_sub, nI_clamp, nI_leI, nI_ltI, nI_eq, gdi_n, nI_1, nI_eq0, nI_eq1, nI_le0, nI_le1, nI_0le, nI_lt0, nI_0lt, nI_m1, Int32.add_zero, Nat.le_refl, if_true, if_false, Bool.false_eq_true, Bool.true_eq_false, i10, i01, im0, im1, i0m, i1m, l10, l00, l01, t10, t00, gw]
      done
  unfold f_X3_alikeTo lk
  rw [H, tW]
  rfl
end K2
