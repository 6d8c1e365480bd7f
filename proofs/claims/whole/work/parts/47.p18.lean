/-! copies -/
theorem cpy_in {f f1 : Nat → Int32} {n k : Nat} (h : k < n) : va_cpy f f1 0 0 n k = f k := by
  unfold va_cpy
  rw [if_pos ⟨Nat.zero_le _, by omega⟩, Nat.zero_add, Nat.sub_zero]
section K18
variable {m t : Nat → Int32} {g gS gL gH gC gP gT gK h x : Pic}
theorem k_copy (hO : Ok m) (hR : RS gS gL m) (g0 g2 : Pic) : ∃ a b, f_X9_copyFrom g0 gS g2 gL = some (a, b) ∧ RS a b m := by
  have w8 := hO.W.2.2
  have u5 := hO.U.2.2
  have s20 := hO.S.2.2
  have g60 := hO.G.2.2
  unfold f_X9_copyFrom f_X7_copyFrom
  simp only [nm_s, bd_s]
  refine ⟨_, _, rfl, hR.W, hR.S, hR.D, hR.U, hR.T, hR.slip, hR.minute, hR.seed, hR.texts, fun w hw => ⟨?_, ?_, fun k hk => ?_⟩, fun k hk => ?_, fun u hu => ⟨?_, ?_, ?_, ?_, fun k hk => ?_⟩, hR.G, ?_⟩
  · exact (cpy_in (show w < 8 by omega)).trans (hR.len hw)
  · exact (cpy_in (show w < 8 by omega)).trans (hR.often hw)
  · have := (hO.len hw).2.2
    exact (cpy_in (show w * 6 + k < 48 by omega)).trans (hR.let_ hw hk)
  · exact (cpy_in (show k < 20 by omega)).trans (hR.sp hk)
  · exact (cpy_in (show u < 5 by omega)).trans (hR.leaves hu)
  · exact (cpy_in (show u < 5 by omega)).trans (hR.speed hu)
  · exact (cpy_in (show u < 5 by omega)).trans (hR.skill hu)
  · exact (cpy_in (show u < 5 by omega)).trans (hR.tired hu)
  · exact (cpy_in (show u * 20 + k < 100 by omega)).trans (hR.page hu hk)
  · obtain ⟨nx, n60, e1, e2⟩ := hR.log
    refine ⟨nx, n60, e1, fun a c ha hc => ?_⟩
    have : (nx + 60 - 1 - a) % 60 < 60 := Nat.mod_lt _ (by omega)
    exact (cpy_in (show (nx + 60 - 1 - a) % 60 * 4 + c < 240 by omega)).trans (e2 a c ha hc)
/-- what is alike up to the law's text -/
theorem RS.cong {m' : Nat → Int32} (hR : RS gS gL m) (hO : Ok m) (h : ∀ p, p < 456 → m' p = m p) : RS gS gL m' := by
  have w8 := hO.W.2.2
  have u5 := hO.U.2.2
  have s20 := hO.S.2.2
  have g60 := hO.G.2.2
  have e : ∀ p, p < 456 → m' p = m p := h
  have hw : ∀ w k, w < tn (m 3) → k < 8 → wd m' w k = wd m w k := fun w k h1 h2 => e _ (by omega)
  refine ⟨by rw [e 3 (by decide)]; exact hR.W, by rw [e 5 (by decide)]; exact hR.S, by rw [e 6 (by decide)]; exact hR.D, by rw [e 4 (by decide)]; exact hR.U, by rw [e 7 (by decide)]; exact hR.T, by rw [e 8 (by decide)]; exact hR.slip, by rw [e 9 (by decide)]; exact hR.minute, by rw [e 11 (by decide)]; exact hR.seed, by rw [e 0 (by decide)]; exact hR.texts, ?_, ?_, ?_, ?_⟩
  · rw [e 3 (by decide)]
    intro w h1
    rw [hw w 6 h1 (by decide), hw w 7 h1 (by decide)]
    refine ⟨hR.len h1, hR.often h1, fun k hk => ?_⟩
    have := (hO.len h1).2.2
    rw [hw w k h1 (by omega)]
    exact hR.let_ h1 hk
  · rw [e 5 (by decide)]
    intro k hk
    rw [e _ (by omega)]
    exact hR.sp hk
  · rw [e 4 (by decide)]
    intro u hu
    have a : ∀ k, k < 4 → wr m' u k = wr m u k := fun k h2 => e _ (by omega)
    rw [a 0 (by decide), a 1 (by decide), a 2 (by decide), a 3 (by decide)]
    refine ⟨hR.leaves hu, hR.speed hu, hR.skill hu, hR.tired hu, fun k hk => ?_⟩
    rw [show pg m' u k = pg m u k from e _ (by omega)]
    exact hR.page hu hk
  · rw [e 10 (by decide)]
    obtain ⟨nx, n60, e1, e2⟩ := hR.log
    refine ⟨hR.G, nx, n60, e1, fun a c ha hc => ?_⟩
    rw [e _ (by omega)]
    exact e2 a c ha hc
theorem Ok.cong {m' : Nat → Int32} (hO : Ok m) (h : ∀ p, p < 456 → m' p = m p) : Ok m' := by
  have w8 := hO.W.2.2
  have u5 := hO.U.2.2
  have s20 := hO.S.2.2
  have e : ∀ p, p < 456 → m' p = m p := h
  have hw : ∀ w k, w < tn (m 3) → k < 8 → wd m' w k = wd m w k := fun w k h1 h2 => e _ (by omega)
  refine ⟨by rw [e 0 (by decide)]; exact hO.texts, by rw [e 3 (by decide)]; exact hO.W, by rw [e 4 (by decide)]; exact hO.U, by rw [e 5 (by decide)]; exact hO.S, by rw [e 5 (by decide), e 6 (by decide)]; exact hO.D, by rw [e 7 (by decide)]; exact hO.T, by rw [e 8 (by decide)]; exact hO.slip, by rw [e 9 (by decide)]; exact hO.minute, by rw [e 10 (by decide)]; exact hO.G, ?_, ?_, ?_⟩
  · rw [e 3 (by decide)]
    intro w h1
    have := (hO.len h1).2.2
    rw [hw w 6 h1 (by decide), hw w 7 h1 (by decide)]
    refine ⟨hO.len h1, hO.often h1, fun k hk => ?_, fun k h2 h3 => ?_⟩
    · rw [hw w k h1 (by omega)]; exact hO.let_ h1 hk
    · rw [hw w k h1 (by omega)]; exact hO.no h1 h2 h3
  · rw [e 5 (by decide), e 3 (by decide)]
    intro k hk
    rw [e _ (by omega)]
    exact hO.sp hk
  · rw [e 4 (by decide)]
    intro u hu
    have a : ∀ k, k < 4 → wr m' u k = wr m u k := fun k h2 => e _ (by omega)
    rw [a 0 (by decide), a 1 (by decide), a 2 (by decide), a 3 (by decide)]
    refine ⟨hO.leaves hu, hO.speed hu, hO.skill hu, hO.tired hu, fun k hk => ?_⟩
    rw [show pg m' u k = pg m u k from e _ (by omega)]
    exact hO.page hu hk
/-- only the row itself has changed -/
def Ex (g g' : Pic) : Prop := ∀ k, k ≠ 1 → g' k = g k
theorem Ex.rf (g : Pic) : Ex g g := fun _ _ => rfl
theorem Ex.tr {a b c : Pic} (h : Ex a b) (k : Ex b c) : Ex a c := fun i hi => (k i hi).trans (h i hi)
theorem Ex.pu1 {a b : Pic} (h : Ex a b) {i : Nat} {v : Int32} : Ex a (pu b 1 i v) := fun k hk => (pu_o hk).trans (h k hk)
/-! the row put aside, and back -/
theorem q_aside (g : Pic) : ∃ g', f_X12_putsAside g = some g' ∧ Es g g' ∧ (∀ p, p < 456 → g' 4 p = g 1 p) ∧ ∀ k, k ≠ 4 → g' k = g k := by
  have H : ∃ g', f_X12_putsAside_L2 fu (0, g) = some g' ∧ (∀ p, p < 456 → g' 4 p = g 1 p) ∧ ∀ k, k ≠ 4 → g' k = g k := by
    refine lp_inv (fun k a => ∃ y : Pic, a = (nI k, y) ∧ (∀ p, p < k → y 4 p = g 1 p) ∧ ∀ k, k ≠ 4 → y k = g k) 456 (fun g' : Pic => (∀ p, p < 456 → g' 4 p = g 1 p) ∧ ∀ k, k ≠ 4 → g' k = g k) ?_ ?_ (by have := fu_big; omega) ⟨g, rfl, fun p hp => absurd hp (Nat.not_lt_zero p), fun _ _ => rfl⟩
    · rintro k hk _ ⟨y, rfl, h1, h2⟩
      have nk : ¬ 456 ≤ k := by omega
      refine Or.inl ⟨(nI (k + 1), pu y 4 k (g 1 k)), ⟨_, rfl, fun p hp => ?_, fun j hj => by rw [pu_o hj]; exact h2 j hj⟩, fun r => ?_⟩
      · rw [pu_s]
        split
        · rename_i e; rw [e]
        · exact h1 p (by omega)
      · simp (disch := omega) only [bd_s, bd2_s, bd3_s, bd4_s, bd5_s, bd6_s, bd7_s, bd8_s, lr_l, lr_r, nm_s, jn_s, gdb_0, gdb_1, li_2, li_3, li_4, li_5, li_6, li_7, li_8, li_9, li_10, li_11, li_12, li_13, li_14, li_15, li_16, li_20, li_24, li_32, li_40, li_41, li_43, li_48, li_57, li_59, li_60, li_62, li_63, li_76, li_96, li_97, li_99, li_100, li_104, li_116, li_122, li_128, li_129, li_216, li_217, li_218, li_219, li_239, li_240, li_255, li_256, li_257, li_400, li_456, li_856, li_999, li_1000, li_1001, li_1002, li_1003, li_1004, li_1005, li_1006, li_1007, li_1008, li_1161, li_2000, li_2001, li_2002, li_2003, li_2004, li_2005, li_5016, li_5472, li_9999, li_10000, li_32767, li_1000000, li_2000000000, nI_add, nI_mul, nI_sub, nI_clamp, nI_leI, nI_ltI, nI_eq, gdi_n, nI_1, nI_eq0, nI_eq1, nI_le0, nI_le1, nI_0le, nI_lt0, nI_0lt, nI_m1, Int32.add_zero, Nat.le_refl, if_true, if_false, Bool.false_eq_true, Bool.true_eq_false, i10, i01, im0, im1, i0m, i1m, l10, l00, l01, t10, t00, nk, h2 1 (by decide)]
    · rintro _ ⟨y, rfl, h1, h2⟩
      exact ⟨y, ⟨h1, h2⟩, fun r => if_pos (show (456 : Int32) ≤ nI 456 from Int32.le_refl _)⟩
  obtain ⟨g', h1, h2, h3⟩ := H
  exact ⟨g', by unfold f_X12_putsAside; rw [h1]; rfl, ⟨h3 1 (by decide), h3 2 (by decide), h3 3 (by decide), h3 5 (by decide), h3 6 (by decide), h3 7 (by decide), h3 8 (by decide), h3 12 (by decide), h3 0 (by decide)⟩, h2, h3⟩
theorem q_back4 (g : Pic) : ∃ g', f_X12_comesBack g = some g' ∧ Ex g g' ∧ (∀ p, p < 456 → g' 1 p = g 4 p) ∧ ∀ p, 456 ≤ p → g' 1 p = g 1 p := by
  have H : ∃ g', f_X12_comesBack_L2 fu (0, g) = some g' ∧ Ex g g' ∧ (∀ p, p < 456 → g' 1 p = g 4 p) ∧ ∀ p, 456 ≤ p → g' 1 p = g 1 p := by
    refine lp_inv (fun k a => ∃ y : Pic, a = (nI k, y) ∧ Ex g y ∧ (∀ p, p < k → y 1 p = g 4 p) ∧ ∀ p, 456 ≤ p → y 1 p = g 1 p) 456 (fun g' : Pic => Ex g g' ∧ (∀ p, p < 456 → g' 1 p = g 4 p) ∧ ∀ p, 456 ≤ p → g' 1 p = g 1 p) ?_ ?_ (by have := fu_big; omega) ⟨g, rfl, Ex.rf g, fun p hp => absurd hp (Nat.not_lt_zero p), fun _ _ => rfl⟩
    · rintro k hk _ ⟨y, rfl, hE, h1, h2⟩
      have nk : ¬ 456 ≤ k := by omega
      refine Or.inl ⟨(nI (k + 1), pu y 1 k (g 4 k)), ⟨_, rfl, hE.pu1, fun p hp => ?_, fun j hj => by rw [pu_s, if_neg (by omega)]; exact h2 j hj⟩, fun r => ?_⟩
      · rw [pu_s]
        split
        · rename_i e; rw [e]
        · exact h1 p (by omega)
      · simp (disch := omega) only [bd_s, bd2_s, bd3_s, bd4_s, bd5_s, bd6_s, bd7_s, bd8_s, lr_l, lr_r, nm_s, jn_s, gdb_0, gdb_1, li_2, li_3, li_4, li_5, li_6, li_7, li_8, li_9, li_10, li_11, li_12, li_13, li_14, li_15, li_16, li_20, li_24, li_32, li_40, li_41, li_43, li_48, li_57, li_59, li_60, li_62, li_63, li_76, li_96, li_97, li_99, li_100, li_104, li_116, li_122, li_128, li_129, li_216, li_217, li_218, li_219, li_239, li_240, li_255, li_256, li_257, li_400, li_456, li_856, li_999, li_1000, li_1001, li_1002, li_1003, li_1004, li_1005, li_1006, li_1007, li_1008, li_1161, li_2000, li_2001, li_2002, li_2003, li_2004, li_2005, li_5016, li_5472, li_9999, li_10000, li_32767, li_1000000, li_2000000000, nI_add, nI_mul, nI_sub, nI_clamp, nI_leI, nI_ltI, nI_eq, gdi_n, nI_1, nI_eq0, nI_eq1, nI_le0, nI_le1, nI_0le, nI_lt0, nI_0lt, nI_m1, Int32.add_zero, Nat.le_refl, if_true, if_false, Bool.false_eq_true, Bool.true_eq_false, i10, i01, im0, im1, i0m, i1m, l10, l00, l01, t10, t00, nk, hE 4 (by decide)]
    · rintro _ ⟨y, rfl, hE, h1, h2⟩
      exact ⟨y, ⟨hE, h1, h2⟩, fun r => if_pos (show (456 : Int32) ≤ nI 456 from Int32.le_refl _)⟩
  obtain ⟨g', h1, h2⟩ := H
  exact ⟨g', by unfold f_X12_comesBack; rw [h1]; rfl, h2⟩
/-! the log -/
def lgM (m : Nat → Int32) (u w o : Int32) : Nat → Int32 := fun p => if p = 10 then (if m 10 + 1 ≤ 60 then m 10 + 1 else 60) else if p = 216 then m 9 else if p = 217 then u else if p = 218 then w else if p = 219 then o else if 220 ≤ p ∧ p < 456 then m (p - 4) else m p
theorem q_logs (g : Pic) (u w o : Int32) : ∃ g', f_X12_logs g u w o = some g' ∧ Ex g g' ∧ g' 1 = lgM (g 1) u w o := by
  have H : ∃ g', f_X12_logs_L5 u w o fu (239, g) = some g' ∧ Ex g g' ∧ ∀ p, g' 1 p = if 220 ≤ p ∧ p < 456 then g 1 (p - 4) else g 1 p := by
    refine lp_inv (fun k a => ∃ y : Pic, a = (nI (239 - k), y) ∧ Ex g y ∧ ∀ p, y 1 p = if 216 + (239 - k) < p ∧ p < 456 then g 1 (p - 4) else g 1 p) 236 (fun g' : Pic => Ex g g' ∧ ∀ p, g' 1 p = if 220 ≤ p ∧ p < 456 then g 1 (p - 4) else g 1 p) ?_ ?_ (by have := fu_big; omega) ⟨g, rfl, Ex.rf g, fun p => by rw [if_neg (by omega)]⟩
    · rintro k hk _ ⟨y, rfl, hE, h1⟩
      have nk : ¬ 239 - k < 4 := by omega
      have e3 : nI (239 - k) + (-1) = nI (239 - (k + 1)) := by
        rw [← Int32.sub_eq_add_neg, nI_s1 (by omega)]
        congr 1
      have e4 := h1 (216 + (239 - k) - 4)
      rw [if_neg (by omega)] at e4
      refine Or.inl ⟨(nI (239 - (k + 1)), pu y 1 (216 + (239 - k)) (g 1 (216 + (239 - k) - 4))), ⟨_, rfl, hE.pu1, fun p => ?_⟩, fun r => ?_⟩
      · rw [pu_s]
        by_cases z : p = 216 + (239 - k)
        · rw [if_pos z, if_pos (by omega), z]
        · rw [if_neg z, h1 p]
          by_cases z2 : 216 + (239 - k) < p ∧ p < 456
          · rw [if_pos z2, if_pos (by omega)]
          · rw [if_neg z2, if_neg (by omega)]
      · simp (disch := omega) only [bd_s, bd2_s, bd3_s, bd4_s, bd5_s, bd6_s, bd7_s, bd8_s, lr_l, lr_r, nm_s, jn_s, gdb_0, gdb_1, li_2, li_3, li_4, li_5, li_6, li_7, li_8, li_9, li_10, li_11, li_12, li_13, li_14, li_15, li_16, li_20, li_24, li_32, li_40, li_41, li_43, li_48, li_57, li_59, li_60, li_62, li_63, li_76, li_96, li_97, li_99, li_100, li_104, li_116, li_122, li_128, li_129, li_216, li_217, li_218, li_219, li_239, li_240, li_255, li_256, li_257, li_400, li_456, li_856, li_999, li_1000, li_1001, li_1002, li_1003, li_1004, li_1005, li_1006, li_1007, li_1008, li_1161, li_2000, li_2001, li_2002, li_2003, li_2004, li_2005, li_5016, li_5472, li_9999, li_10000, li_32767, li_1000000, li_2000000000, nI_add, nI_mul, nI_sub, nI_clamp, nI_leI, nI_ltI, nI_eq, gdi_n, nI_1, nI_eq0, nI_eq1, nI_le0, nI_le1, nI_0le, nI_lt0, nI_0lt, nI_m1, Int32.add_zero, Nat.le_refl, if_true, if_false, Bool.false_eq_true, Bool.true_eq_false, i10, i01, im0, im1, i0m, i1m, l10, l00, l01, t10, t00, nk, e3, e4]
    · rintro _ ⟨y, rfl, hE, h1⟩
      refine ⟨y, ⟨hE, fun p => ?_⟩, fun r => if_pos (show nI (239 - 236) < 4 by decide)⟩
      rw [h1 p]
      by_cases z : 220 ≤ p ∧ p < 456
      · rw [if_pos z, if_pos (by omega)]
      · rw [if_neg z, if_neg (by omega)]
  obtain ⟨y, h1, hE, h2⟩ := H
  have a9 := h2 9
  have a10 := h2 10
  rw [if_neg (by omega)] at a9 a10
  refine ⟨pu (pu (pu (pu (pu y 1 216 (y 1 9)) 1 217 u) 1 218 w) 1 219 o) 1 10 (if g 1 10 + 1 ≤ 60 then g 1 10 + 1 else 60), ?_, hE.pu1.pu1.pu1.pu1.pu1, ?_⟩
  · unfold f_X12_logs
    simp only [h1, bd_s, nm_s, q_lesser]
    rw [show (pu (pu (pu (pu y 1 216 (y 1 9)) 1 217 u) 1 218 w) 1 219 o) 1 10 = g 1 10 from a10]
  · funext p
    unfold lgM
    rw [pu_s, pu_s, pu_s, pu_s, pu_s, a9, h2 p]
    by_cases z0 : p = 10
    · rw [if_pos z0, if_pos z0]
    · rw [if_neg z0, if_neg z0]
      by_cases z1 : p = 219
      · rw [if_pos z1, if_neg (by omega), if_neg (by omega), if_neg (by omega), if_pos z1]
      · rw [if_neg z1]
        by_cases z2 : p = 218
        · rw [if_pos z2, if_neg (by omega), if_neg (by omega), if_pos z2]
        · rw [if_neg z2]
          by_cases z3 : p = 217
          · rw [if_pos z3, if_neg (by omega), if_pos z3]
          · rw [if_neg z3]
            by_cases z4 : p = 216
            · rw [if_pos z4, if_pos z4]
            · rw [if_neg z4, if_neg z4, if_neg z3, if_neg z2, if_neg z1]
/-- the class's own log takes a row more -/
theorem k_add (hO : Ok m) (hR : RS gS gL m) (u w o : Int32) : ∃ gL', f_X7_add gL (m 9) u w o = some gL' ∧ gL' 1 0 = lgM m u w o 10 ∧ ∃ nx, nx < 60 ∧ gL' 2 0 = nI nx ∧ ∀ a c, a < tn (lgM m u w o 10) → c < 4 → gL' 0 ((nx + 60 - 1 - a) % 60 * 4 + c) = lgM m u w o (216 + 4 * a + c) := by
  obtain ⟨nx, n60, e1, e2⟩ := hR.log
  obtain ⟨G, hG, tG, -, g60⟩ := hO.G.ex
  have gg := hR.G.trans hG
  rw [tG] at e2
  have eN : (nI nx + 1) - (nI nx + 1) / 60 * 60 = nI ((nx + 1) % 60) := by
    rw [nI_1, li_60, nI_div (by omega) (by omega), nI_mul, nI_sub (by omega)]
    congr 1
    omega
  have e10 : lgM m u w o 10 = nI (min 60 (G + 1)) := by
    show (if m 10 + 1 ≤ 60 then m 10 + 1 else 60) = _
    rw [hG, nI_1, li_60]
    by_cases z : G + 1 ≤ 60
    · rw [if_pos (nI_le z (by omega)), Nat.min_eq_right z]
    · rw [if_neg (nI_ge (b := G + 1) (a := 60) (by omega) (by omega)), Nat.min_eq_left (by omega)]
  refine ⟨pu (pu (pu (pu (pu (pu gL 0 (nx * 4) (m 9)) 0 (nx * 4 + 1) u) 0 (nx * 4 + 2) w) 0 (nx * 4 + 3) o) 2 0 (nI ((nx + 1) % 60))) 1 0 (nI (min 60 (G + 1))), ?_, by rw [e10]; rfl, (nx + 1) % 60, by omega, rfl, fun a c ha hc => ?_⟩
  · unfold f_X7_add
    have a4 : nI nx * 4 = nI (nx * 4) := by rw [li_4, nI_mul]
    simp only [nm_s, e1, a4]
    rw [li_2, li_3, nI_1, nI_add, nI_add, gdi_n (by omega) (by decide), gdi_n (by omega) (by decide), gdi_n (by omega) (by decide), gdi_n (by omega) (by decide), nI_clamp (by omega), nI_clamp (by omega), nI_clamp (by omega), nI_clamp (by omega)]
    rw [show (pu (pu (pu (pu gL 0 (nx * 4) (m 9)) 0 (nx * 4 + 1) u) 0 (nx * 4 + 2) w) 0 (nx * 4 + 3) o) 2 0 = nI nx from e1, eN]
    rw [show (pu (pu (pu (pu (pu gL 0 (nx * 4) (m 9)) 0 (nx * 4 + 1) u) 0 (nx * 4 + 2) w) 0 (nx * 4 + 3) o) 2 0 (nI ((nx + 1) % 60))) 1 0 = nI G from gg, nI_1]
    have e : (if (60 : Int32) < nI (G + 1) then (60 : Int32) else nI (G + 1)) = nI (min 60 (G + 1)) := by
      rw [li_60]
      by_cases z : 60 < G + 1
      · rw [if_pos (nI_lt (a := 60) z (by omega)), Nat.min_eq_left (by omega)]
      · rw [if_neg (nI_nlt (a := 60) (by omega) (by omega)), Nat.min_eq_right (by omega)]
    rw [e]
  · rw [e10, tn_n (by omega)] at ha
    rw [pu_o (by decide), pu_o (by decide), pu_s, pu_s, pu_s, pu_s]
    have ex : ((nx + 1) % 60 + 60 - 1 - a) % 60 = if a = 0 then nx else (nx + 60 - 1 - (a - 1)) % 60 := by
      split <;> omega
    rw [ex]
    by_cases a0 : a = 0
    · subst a0
      rw [if_pos rfl]
      unfold lgM
      have : c = 0 ∨ c = 1 ∨ c = 2 ∨ c = 3 := by omega
      rcases this with rfl | rfl | rfl | rfl
      · rw [if_neg (by omega), if_neg (by omega), if_neg (by omega), if_pos (by omega)]; rfl
      · rw [if_neg (by omega), if_neg (by omega), if_pos (by omega)]; rfl
      · rw [if_neg (by omega), if_pos (by omega)]; rfl
      · rw [if_pos (by omega)]; rfl
    · rw [if_neg a0]
      have b1 : (nx + 60 - 1 - (a - 1)) % 60 ≠ nx := by omega
      have b2 : (nx + 60 - 1 - (a - 1)) % 60 < 60 := Nat.mod_lt _ (by omega)
      have e3 := e2 (a - 1) c (by omega) hc
      generalize (nx + 60 - 1 - (a - 1)) % 60 = q at *
      rw [if_neg (by omega), if_neg (by omega), if_neg (by omega), if_neg (by omega), e3]
      unfold lgM
      rw [if_neg (by omega), if_neg (by omega), if_neg (by omega), if_neg (by omega), if_neg (by omega), if_pos (by omega)]
      congr 1
      omega
theorem k_tell (hO : Ok m) (hR : RS gS gL m) {a c : Nat} (ha : a < tn (m 10)) (hc : c < 4) : f_X7_tell gL (nI a) (nI c) = some (m (216 + 4 * a + c)) := by
  obtain ⟨nx, n60, e1, e2⟩ := hR.log
  obtain ⟨G, hG, tG, -, g60⟩ := hO.G.ex
  have gg := hR.G.trans hG
  have e3 := e2 a c ha hc
  rw [tG] at ha
  have hmod : nI (nx + 60 - 1 - a) - nI (nx + 60 - 1 - a) / 60 * 60 = nI ((nx + 60 - 1 - a) % 60) := by
    rw [li_60, nI_div (by omega) (by omega), nI_mul, nI_sub (by omega)]
    congr 1
    omega
  have b2 : (nx + 60 - 1 - a) % 60 < 60 := Nat.mod_lt _ (by omega)
  have b3 : ((nI nx + 60) - 1) - nI a = nI (nx + 60 - 1 - a) := by rw [li_60, nI_add, nI_s1 (by omega), nI_sub (by omega)]
  unfold f_X7_tell
  simp only [jn_s, e1, b3, hmod, gg]
  generalize (nx + 60 - 1 - a) % 60 = q at *
  rw [if_neg (nI_pos (by omega)), if_pos (nI_lt ha (by omega)), li_4, nI_mul, nI_add, gdi_n (by omega) (by decide), nI_clamp (by omega), e3]
end K18
