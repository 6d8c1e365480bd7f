/-! what stays of the reference's picture -/
def Es (g g' : Pic) : Prop := g' 1 = g 1 ∧ g' 2 = g 2 ∧ g' 3 = g 3 ∧ g' 5 = g 5 ∧ g' 6 = g 6 ∧ g' 7 = g 7 ∧ g' 8 = g 8 ∧ g' 12 = g 12 ∧ g' 0 = g 0
theorem Es.rf (g : Pic) : Es g g := ⟨rfl, rfl, rfl, rfl, rfl, rfl, rfl, rfl, rfl⟩
theorem Es.tr {a b c : Pic} (h : Es a b) (k : Es b c) : Es a c := ⟨k.1.trans h.1, k.2.1.trans h.2.1, k.2.2.1.trans h.2.2.1, k.2.2.2.1.trans h.2.2.2.1, k.2.2.2.2.1.trans h.2.2.2.2.1, k.2.2.2.2.2.1.trans h.2.2.2.2.2.1, k.2.2.2.2.2.2.1.trans h.2.2.2.2.2.2.1, k.2.2.2.2.2.2.2.1.trans h.2.2.2.2.2.2.2.1, k.2.2.2.2.2.2.2.2.trans h.2.2.2.2.2.2.2.2⟩
theorem Es.m {a b : Pic} (h : Es a b) : b 1 = a 1 := h.1
theorem Es.z {a b : Pic} (h : Es a b) : b 0 = a 0 := h.2.2.2.2.2.2.2.2
theorem pu_o {g : Pic} {k i k' : Nat} {v : Int32} (h : k' ≠ k) : pu g k i v k' = g k' := by rw [pu_row, if_neg h]
theorem pu_s (g : Pic) (k i : Nat) (v : Int32) (j : Nat) : pu g k i v k j = if j = i then v else g k j := by rw [pu_row, if_pos rfl]; rfl
theorem Es.pu {g h : Pic} (e : Es g h) {k i : Nat} {v : Int32} (q : k ≠ 1 ∧ k ≠ 2 ∧ k ≠ 3 ∧ k ≠ 5 ∧ k ≠ 6 ∧ k ≠ 7 ∧ k ≠ 8 ∧ k ≠ 12 ∧ k ≠ 0) : Es g (pu h k i v) :=
  e.tr ⟨pu_o q.1.symm, pu_o q.2.1.symm, pu_o q.2.2.1.symm, pu_o q.2.2.2.1.symm, pu_o q.2.2.2.2.1.symm, pu_o q.2.2.2.2.2.1.symm, pu_o q.2.2.2.2.2.2.1.symm, pu_o q.2.2.2.2.2.2.2.1.symm, pu_o q.2.2.2.2.2.2.2.2.symm⟩
theorem nI_s1 {n : Nat} (h : 1 ≤ n) : nI n - 1 = nI (n - 1) := nI_sub (b := 1) h
theorem mn_n {a b : Nat} [Decidable (b ≤ a)] : (if b ≤ a then nI b else nI a) = nI (min a b) := by
  by_cases h : b ≤ a
  · rw [if_pos h, Nat.min_eq_right h]
  · rw [if_neg h, Nat.min_eq_left (by omega)]
theorem mn_n2 {a b : Nat} [Decidable (b < a)] : (if b < a then nI b else nI a) = nI (min a b) := by
  by_cases h : b < a
  · rw [if_pos h, Nat.min_eq_right (by omega)]
  · rw [if_neg h, Nat.min_eq_left (by omega)]
theorem mx_n {a b : Nat} [Decidable (a < b)] : (if a < b then nI b else nI a) = nI (max a b) := by
  by_cases h : a < b
  · rw [if_pos h, Nat.max_eq_right (by omega)]
  · rw [if_neg h, Nat.max_eq_left (by omega)]
/-! the least change -/
def rowS (a b : Nat → Int32) (prev : Nat → Nat) (i : Nat) : Nat → Nat
  | 0 => i + 1
  | j + 1 => min (min (prev (j + 1)) (rowS a b prev i j) + 1) (prev j + if a i = b j then 0 else 1)
def row (a b : Nat → Int32) : Nat → Nat → Nat
  | 0 => fun j => j
  | i + 1 => rowS a b (row a b i) i
theorem row_le (a b : Nat → Int32) (i j : Nat) : row a b i j ≤ i + j := by
  induction i generalizing j with
  | zero => show j ≤ _; omega
  | succ i ih =>
    show rowS a b (row a b i) i j ≤ _
    induction j with
    | zero => show i + 1 ≤ _; omega
    | succ j ihj =>
      have h := ih (j + 1)
      show min (min (row a b i (j + 1)) (rowS a b (row a b i) i j) + 1) _ ≤ _
      omega
theorem row_s (a b : Nat → Int32) (i j : Nat) : row a b (i + 1) (j + 1) = min (min (row a b i (j + 1)) (row a b (i + 1) j) + 1) (row a b i j + if a i = b j then 0 else 1) := rfl
def lev (m : Nat → Int32) (w o : Nat) : Nat := row (wd m w) (wd m o) (tn (wd m w 6)) (tn (wd m o 6))
section K5
variable {m : Nat → Int32} {g gS gL gH gC gP : Pic}
theorem q_chL (hg : g 1 = m) (hO : Ok m) {w o i n K : Nat} (hw : w < tn (m 3)) (ho : o < tn (m 3)) (hK : K ≤ 6) (hi : i ≤ 6) (hp : ∀ i' j', i' < i → j' ≤ K → g 21 (7 * i' + j') = nI (row (wd m w) (wd m o) i' j')) :
    ∃ g', f_X12_changeOf_L29 (nI w) (nI o) (nI n) (nI K) (nI i) fu (0, g) = some g' ∧ Es g g' ∧ ∀ i' j', i' < i + 1 → j' ≤ K → g' 21 (7 * i' + j') = nI (row (wd m w) (wd m o) i' j') := by
  have w8 := hO.w8 hw
  have o8 := hO.w8 ho
  refine lp_inv (fun j a => ∃ h : Pic, a = (nI j, h) ∧ Es g h ∧ (∀ i' j', i' < i → j' ≤ K → h 21 (7 * i' + j') = nI (row (wd m w) (wd m o) i' j')) ∧ ∀ j', j' < j → h 21 (7 * i + j') = nI (row (wd m w) (wd m o) i j')) (K + 1) (fun g' : Pic => Es g g' ∧ ∀ i' j', i' < i + 1 → j' ≤ K → g' 21 (7 * i' + j') = nI (row (wd m w) (wd m o) i' j')) ?_ ?_ (by have := fu_big; omega) ⟨g, rfl, Es.rf g, hp, fun j' hj => absurd hj (Nat.not_lt_zero _)⟩
  · rintro j hj _ ⟨h, rfl, hE, h1, h2⟩
    have nk : ¬ K < j := by omega
    have hm : h 1 = m := hE.m.trans hg
    refine Or.inl ⟨(nI (j + 1), pu h 21 (7 * i + j) (nI (row (wd m w) (wd m o) i j))), ⟨_, rfl, hE.pu (by decide), fun i' j' a b => ?_, fun j' a => ?_⟩, fun r => ?_⟩
    · rw [pu_s, if_neg (by omega)]; exact h1 i' j' a b
    · rw [pu_s]
      split
      · rw [show j' = j by omega]
      · exact h2 j' (by omega)
    · cases i with
      | zero =>
        simp (disch := omega) only [bd_s, bd2_s, bd3_s, bd4_s, bd5_s, bd6_s, bd7_s, bd8_s, lr_l, lr_r, nm_s, jn_s, gdb_0, gdb_1, li_2, li_3, li_4, li_5, li_6, li_7, li_8, li_9, li_10, li_11, li_12, li_13, li_14, li_15, li_16, li_20, li_24, li_32, li_40, li_41, li_43, li_48, li_57, li_59, li_60, li_62, li_63, li_76, li_96, li_97, li_99, li_100, li_104, li_116, li_122, li_128, li_129, li_216, li_217, li_218, li_219, li_239, li_240, li_255, li_256, li_257, li_400, li_456, li_856, li_999, li_1000, li_1001, li_1002, li_1003, li_1004, li_1005, li_1006, li_1007, li_1008, li_1161, li_2000, li_2001, li_2002, li_2003, li_2004, li_2005, li_5016, li_5472, li_9999, li_10000, li_32767, li_1000000, li_2000000000, nI_add, nI_mul, nI_sub, nI_clamp, nI_leI, nI_ltI, nI_eq, gdi_n, nI_1, nI_eq0, nI_eq1, nI_le0, nI_le1, nI_0le, nI_lt0, nI_0lt, nI_m1, Int32.add_zero, Nat.le_refl, if_true, if_false, Bool.false_eq_true, Bool.true_eq_false, i10, i01, im0, im1, i0m, i1m, l10, l00, l01, t10, t00, nk, Nat.mul_zero, Nat.zero_add]
        rfl
      | succ i =>
        have z1 : ¬ i + 1 = 0 := by omega
        have z2 : ¬ i + 1 ≤ 0 := by omega
        cases j with
        | zero =>
          simp (disch := omega) only [bd_s, bd2_s, bd3_s, bd4_s, bd5_s, bd6_s, bd7_s, bd8_s, lr_l, lr_r, nm_s, jn_s, gdb_0, gdb_1, li_2, li_3, li_4, li_5, li_6, li_7, li_8, li_9, li_10, li_11, li_12, li_13, li_14, li_15, li_16, li_20, li_24, li_32, li_40, li_41, li_43, li_48, li_57, li_59, li_60, li_62, li_63, li_76, li_96, li_97, li_99, li_100, li_104, li_116, li_122, li_128, li_129, li_216, li_217, li_218, li_219, li_239, li_240, li_255, li_256, li_257, li_400, li_456, li_856, li_999, li_1000, li_1001, li_1002, li_1003, li_1004, li_1005, li_1006, li_1007, li_1008, li_1161, li_2000, li_2001, li_2002, li_2003, li_2004, li_2005, li_5016, li_5472, li_9999, li_10000, li_32767, li_1000000, li_2000000000, nI_add, nI_mul, nI_sub, nI_clamp, nI_leI, nI_ltI, nI_eq, gdi_n, nI_1, nI_eq0, nI_eq1, nI_le0, nI_le1, nI_0le, nI_lt0, nI_0lt, nI_m1, Int32.add_zero, Nat.le_refl, if_true, if_false, Bool.false_eq_true, Bool.true_eq_false, i10, i01, im0, im1, i0m, i1m, l10, l00, l01, t10, t00, nk, z1, z2]
          rfl
        | succ j =>
          have z3 : ¬ j + 1 ≤ 0 := by omega
          have a1 := h1 i (j + 1) (by omega) (by omega)
          have a2 := h1 i j (by omega) (by omega)
          have a3 := h2 j (by omega)
          have b1 := row_le (wd m w) (wd m o) i (j + 1)
          have b2 := row_le (wd m w) (wd m o) i j
          have b3 := row_le (wd m w) (wd m o) (i + 1) j
          have x1 : 7 * (i + 1) - 7 + (j + 1) = 7 * i + (j + 1) := by omega
          have x2 : 7 * (i + 1) + (j + 1) - 1 = 7 * (i + 1) + j := by omega
          have x3 : 7 * i + (j + 1) - 1 = 7 * i + j := by omega
          have y1 : i + 1 - 1 = i := rfl
          have y2 : j + 1 - 1 = j := rfl
          rw [row_s]
          by_cases e : wd m w i = wd m o j
          · simp (disch := omega) only [bd_s, bd2_s, bd3_s, bd4_s, bd5_s, bd6_s, bd7_s, bd8_s, lr_l, lr_r, nm_s, jn_s, gdb_0, gdb_1, li_2, li_3, li_4, li_5, li_6, li_7, li_8, li_9, li_10, li_11, li_12, li_13, li_14, li_15, li_16, li_20, li_24, li_32, li_40, li_41, li_43, li_48, li_57, li_59, li_60, li_62, li_63, li_76, li_96, li_97, li_99, li_100, li_104, li_116, li_122, li_128, li_129, li_216, li_217, li_218, li_219, li_239, li_240, li_255, li_256, li_257, li_400, li_456, li_856, li_999, li_1000, li_1001, li_1002, li_1003, li_1004, li_1005, li_1006, li_1007, li_1008, li_1161, li_2000, li_2001, li_2002, li_2003, li_2004, li_2005, li_5016, li_5472, li_9999, li_10000, li_32767, li_1000000, li_2000000000, nI_add, nI_mul, nI_sub, nI_clamp, nI_leI, nI_ltI, nI_eq, gdi_n, nI_1, nI_eq0, nI_eq1, nI_le0, nI_le1, nI_0le, nI_lt0, nI_0lt, nI_m1, Int32.add_zero, Nat.le_refl, if_true, if_false, Bool.false_eq_true, Bool.true_eq_false, i10, i01, im0, im1, i0m, i1m, l10, l00, l01, t10, t00, nI_s1, nk, z1, z2, z3, x1, x2, x3, y1, y2, a1, a2, a3, q_lesser, mn_n, q_ofWord, hm, e, Nat.add_zero]
          · simp (disch := omega) only [bd_s, bd2_s, bd3_s, bd4_s, bd5_s, bd6_s, bd7_s, bd8_s, lr_l, lr_r, nm_s, jn_s, gdb_0, gdb_1, li_2, li_3, li_4, li_5, li_6, li_7, li_8, li_9, li_10, li_11, li_12, li_13, li_14, li_15, li_16, li_20, li_24, li_32, li_40, li_41, li_43, li_48, li_57, li_59, li_60, li_62, li_63, li_76, li_96, li_97, li_99, li_100, li_104, li_116, li_122, li_128, li_129, li_216, li_217, li_218, li_219, li_239, li_240, li_255, li_256, li_257, li_400, li_456, li_856, li_999, li_1000, li_1001, li_1002, li_1003, li_1004, li_1005, li_1006, li_1007, li_1008, li_1161, li_2000, li_2001, li_2002, li_2003, li_2004, li_2005, li_5016, li_5472, li_9999, li_10000, li_32767, li_1000000, li_2000000000, nI_add, nI_mul, nI_sub, nI_clamp, nI_leI, nI_ltI, nI_eq, gdi_n, nI_1, nI_eq0, nI_eq1, nI_le0, nI_le1, nI_0le, nI_lt0, nI_0lt, nI_m1, Int32.add_zero, Nat.le_refl, if_true, if_false, Bool.false_eq_true, Bool.true_eq_false, i10, i01, im0, im1, i0m, i1m, l10, l00, l01, t10, t00, nI_s1, nk, z1, z2, z3, x1, x2, x3, y1, y2, a1, a2, a3, q_lesser, mn_n, q_ofWord, hm, e]
  · rintro _ ⟨h, rfl, hE, h1, h2⟩
    refine ⟨h, ⟨hE, fun i' j' a b => ?_⟩, fun r => ?_⟩
    · rcases Nat.lt_succ_iff_lt_or_eq.mp a with q | q
      · exact h1 i' j' q b
      · rw [q]; exact h2 j' (by omega)
    · simp (disch := omega) only [bd_s, bd2_s, bd3_s, bd4_s, bd5_s, bd6_s, bd7_s, bd8_s, lr_l, lr_r, nm_s, jn_s, gdb_0, gdb_1, li_2, li_3, li_4, li_5, li_6, li_7, li_8, li_9, li_10, li_11, li_12, li_13, li_14, li_15, li_16, li_20, li_24, li_32, li_40, li_41, li_43, li_48, li_57, li_59, li_60, li_62, li_63, li_76, li_96, li_97, li_99, li_100, li_104, li_116, li_122, li_128, li_129, li_216, li_217, li_218, li_219, li_239, li_240, li_255, li_256, li_257, li_400, li_456, li_856, li_999, li_1000, li_1001, li_1002, li_1003, li_1004, li_1005, li_1006, li_1007, li_1008, li_1161, li_2000, li_2001, li_2002, li_2003, li_2004, li_2005, li_5016, li_5472, li_9999, li_10000, li_32767, li_1000000, li_2000000000, nI_add, nI_mul, nI_sub, nI_clamp, nI_leI, nI_ltI, nI_eq, gdi_n, nI_1, nI_eq0, nI_eq1, nI_le0, nI_le1, nI_0le, nI_lt0, nI_0lt, nI_m1, Int32.add_zero, Nat.le_refl, if_true, if_false, Bool.false_eq_true, Bool.true_eq_false, i10, i01, im0, im1, i0m, i1m, l10, l00, l01, t10, t00, Nat.lt_succ_self]
      done
theorem q_change (hg : g 1 = m) (hO : Ok m) {w o : Nat} (hw : w < tn (m 3)) (ho : o < tn (m 3)) : ∃ g', f_X12_changeOf g (nI w) (nI o) = some (nI (lev m w o), g') ∧ Es g g' := by
  have w8 := hO.w8 hw
  have o8 := hO.w8 ho
  obtain ⟨n, hn, tw, n1, n6⟩ := (hO.len hw).ex
  obtain ⟨K, hK, tk, k1, k6⟩ := (hO.len ho).ex
  have H : ∃ g', f_X12_changeOf_L20 (nI w) (nI o) (nI n) (nI K) fu (0, g) = some g' ∧ Es g g' ∧ ∀ i' j', i' < n + 1 → j' ≤ K → g' 21 (7 * i' + j') = nI (row (wd m w) (wd m o) i' j') := by
    refine lp_inv (fun i a => ∃ h : Pic, a = (nI i, h) ∧ Es g h ∧ ∀ i' j', i' < i → j' ≤ K → h 21 (7 * i' + j') = nI (row (wd m w) (wd m o) i' j')) (n + 1) (fun g' : Pic => Es g g' ∧ ∀ i' j', i' < n + 1 → j' ≤ K → g' 21 (7 * i' + j') = nI (row (wd m w) (wd m o) i' j')) ?_ ?_ (by have := fu_big; omega) ⟨g, rfl, Es.rf g, fun i' j' a => absurd a (Nat.not_lt_zero _)⟩
    · rintro i hi _ ⟨h, rfl, hE, h1⟩
      have nk : ¬ n < i := by omega
      obtain ⟨g', q1, q2, q3⟩ := q_chL (n := n) (hE.m.trans hg) hO hw ho k6 (show i ≤ 6 by omega) h1
      refine Or.inl ⟨(nI (i + 1), g'), ⟨_, rfl, hE.tr q2, q3⟩, fun r => ?_⟩
      simp (disch := omega) only [bd_s, bd2_s, bd3_s, bd4_s, bd5_s, bd6_s, bd7_s, bd8_s, lr_l, lr_r, nm_s, jn_s, gdb_0, gdb_1, li_2, li_3, li_4, li_5, li_6, li_7, li_8, li_9, li_10, li_11, li_12, li_13, li_14, li_15, li_16, li_20, li_24, li_32, li_40, li_41, li_43, li_48, li_57, li_59, li_60, li_62, li_63, li_76, li_96, li_97, li_99, li_100, li_104, li_116, li_122, li_128, li_129, li_216, li_217, li_218, li_219, li_239, li_240, li_255, li_256, li_257, li_400, li_456, li_856, li_999, li_1000, li_1001, li_1002, li_1003, li_1004, li_1005, li_1006, li_1007, li_1008, li_1161, li_2000, li_2001, li_2002, li_2003, li_2004, li_2005, li_5016, li_5472, li_9999, li_10000, li_32767, li_1000000, li_2000000000, nI_add, nI_mul, nI_sub, nI_clamp, nI_leI, nI_ltI, nI_eq, gdi_n, nI_1, nI_eq0, nI_eq1, nI_le0, nI_le1, nI_0le, nI_lt0, nI_0lt, nI_m1, Int32.add_zero, Nat.le_refl, if_true, if_false, Bool.false_eq_true, Bool.true_eq_false, i10, i01, im0, im1, i0m, i1m, l10, l00, l01, t10, t00, nk, q1]
    · rintro _ ⟨h, rfl, hE, h1⟩
      refine ⟨h, ⟨hE, h1⟩, fun r => ?_⟩
      simp (disch := omega) only [bd_s, bd2_s, bd3_s, bd4_s, bd5_s, bd6_s, bd7_s, bd8_s, lr_l, lr_r, nm_s, jn_s, gdb_0, gdb_1, li_2, li_3, li_4, li_5, li_6, li_7, li_8, li_9, li_10, li_11, li_12, li_13, li_14, li_15, li_16, li_20, li_24, li_32, li_40, li_41, li_43, li_48, li_57, li_59, li_60, li_62, li_63, li_76, li_96, li_97, li_99, li_100, li_104, li_116, li_122, li_128, li_129, li_216, li_217, li_218, li_219, li_239, li_240, li_255, li_256, li_257, li_400, li_456, li_856, li_999, li_1000, li_1001, li_1002, li_1003, li_1004, li_1005, li_1006, li_1007, li_1008, li_1161, li_2000, li_2001, li_2002, li_2003, li_2004, li_2005, li_5016, li_5472, li_9999, li_10000, li_32767, li_1000000, li_2000000000, nI_add, nI_mul, nI_sub, nI_clamp, nI_leI, nI_ltI, nI_eq, gdi_n, nI_1, nI_eq0, nI_eq1, nI_le0, nI_le1, nI_0le, nI_lt0, nI_0lt, nI_m1, Int32.add_zero, Nat.le_refl, if_true, if_false, Bool.false_eq_true, Bool.true_eq_false, i10, i01, im0, im1, i0m, i1m, l10, l00, l01, t10, t00, Nat.lt_succ_self]
      done
  obtain ⟨g', q1, q2, q3⟩ := H
  refine ⟨g', ?_, q2⟩
  have e := q3 n K (by omega) (Nat.le_refl K)
  unfold f_X12_changeOf lev
  rw [tw, tk]
  simp (disch := omega) only [bd_s, bd2_s, bd3_s, bd4_s, bd5_s, bd6_s, bd7_s, bd8_s, lr_l, lr_r, nm_s, jn_s, gdb_0, gdb_1, li_2, li_3, li_4, li_5, li_6, li_7, li_8, li_9, li_10, li_11, li_12, li_13, li_14, li_15, li_16, li_20, li_24, li_32, li_40, li_41, li_43, li_48, li_57, li_59, li_60, li_62, li_63, li_76, li_96, li_97, li_99, li_100, li_104, li_116, li_122, li_128, li_129, li_216, li_217, li_218, li_219, li_239, li_240, li_255, li_256, li_257, li_400, li_456, li_856, li_999, li_1000, li_1001, li_1002, li_1003, li_1004, li_1005, li_1006, li_1007, li_1008, li_1161, li_2000, li_2001, li_2002, li_2003, li_2004, li_2005, li_5016, li_5472, li_9999, li_10000, li_32767, li_1000000, li_2000000000, nI_add, nI_mul, nI_sub, nI_clamp, nI_leI, nI_ltI, nI_eq, gdi_n, nI_1, nI_eq0, nI_eq1, nI_le0, nI_le1, nI_0le, nI_lt0, nI_0lt, nI_m1, Int32.add_zero, Nat.le_refl, if_true, if_false, Bool.false_eq_true, Bool.true_eq_false, i10, i01, im0, im1, i0m, i1m, l10, l00, l01, t10, t00, q_ofWord, hg, hn, hK, q1, e]
theorem k_letter (hO : Ok m) (hR : RS gS gL m) {w k : Nat} (hw : w < tn (m 3)) (hk : k < 6) : f_X9_letterAt gS (nI w) (nI k) = some (wd m w k) := by
  have w8 := hO.w8 hw
  obtain ⟨L, hL, tL, l1, l6⟩ := (hO.len hw).ex
  have gl := (hR.len hw).trans hL
  unfold f_X9_letterAt
  by_cases c : k < L
  · simp (disch := omega) only [bd_s, bd2_s, bd3_s, bd4_s, bd5_s, bd6_s, bd7_s, bd8_s, lr_l, lr_r, nm_s, jn_s, gdb_0, gdb_1, li_2, li_3, li_4, li_5, li_6, li_7, li_8, li_9, li_10, li_11, li_12, li_13, li_14, li_15, li_16, li_20, li_24, li_32, li_40, li_41, li_43, li_48, li_57, li_59, li_60, li_62, li_63, li_76, li_96, li_97, li_99, li_100, li_104, li_116, li_122, li_128, li_129, li_216, li_217, li_218, li_219, li_239, li_240, li_255, li_256, li_257, li_400, li_456, li_856, li_999, li_1000, li_1001, li_1002, li_1003, li_1004, li_1005, li_1006, li_1007, li_1008, li_1161, li_2000, li_2001, li_2002, li_2003, li_2004, li_2005, li_5016, li_5472, li_9999, li_10000, li_32767, li_1000000, li_2000000000, nI_add, nI_mul, nI_sub, nI_clamp, nI_leI, nI_ltI, nI_eq, gdi_n, nI_1, nI_eq0, nI_eq1, nI_le0, nI_le1, nI_0le, nI_lt0, nI_0lt, nI_m1, Int32.add_zero, Nat.le_refl, if_true, if_false, Bool.false_eq_true, Bool.true_eq_false, i10, i01, im0, im1, i0m, i1m, l10, l00, l01, t10, t00, gl, c, hR.let_ hw (show k < tn (wd m w 6) by rw [tL]; exact c)]
  · simp (disch := omega) only [bd_s, bd2_s, bd3_s, bd4_s, bd5_s, bd6_s, bd7_s, bd8_s, lr_l, lr_r, nm_s, jn_s, gdb_0, gdb_1, li_2, li_3, li_4, li_5, li_6, li_7, li_8, li_9, li_10, li_11, li_12, li_13, li_14, li_15, li_16, li_20, li_24, li_32, li_40, li_41, li_43, li_48, li_57, li_59, li_60, li_62, li_63, li_76, li_96, li_97, li_99, li_100, li_104, li_116, li_122, li_128, li_129, li_216, li_217, li_218, li_219, li_239, li_240, li_255, li_256, li_257, li_400, li_456, li_856, li_999, li_1000, li_1001, li_1002, li_1003, li_1004, li_1005, li_1006, li_1007, li_1008, li_1161, li_2000, li_2001, li_2002, li_2003, li_2004, li_2005, li_5016, li_5472, li_9999, li_10000, li_32767, li_1000000, li_2000000000, nI_add, nI_mul, nI_sub, nI_clamp, nI_leI, nI_ltI, nI_eq, gdi_n, nI_1, nI_eq0, nI_eq1, nI_le0, nI_le1, nI_0le, nI_lt0, nI_0lt, nI_m1, Int32.add_zero, Nat.le_refl, if_true, if_false, Bool.false_eq_true, Bool.true_eq_false, i10, i01, im0, im1, i0m, i1m, l10, l00, l01, t10, t00, gl, c]
    rw [hO.no hw (by omega) hk]
theorem k_chL (hO : Ok m) (hR : RS gS gL m) {w o i K : Nat} (hw : w < tn (m 3)) (ho : o < tn (m 3)) (hK : K ≤ 6) (hi : i < 6) {h0 : Pic} (hp : ∀ j, j ≤ K → h0 1 j = nI (row (wd m w) (wd m o) i j)) (hz : h0 2 0 = nI (i + 1)) :
    ∃ h, f_X6_changeOf_L64 (nI w) (nI o) (nI K) (nI i) gS fu (0, h0) = some h ∧ ∀ j, j ≤ K → h 2 j = nI (row (wd m w) (wd m o) (i + 1) j) := by
  refine lp_inv (fun j a => ∃ h : Pic, a = (nI j, h) ∧ (∀ j', j' ≤ K → h 1 j' = nI (row (wd m w) (wd m o) i j')) ∧ ∀ j', j' ≤ j → h 2 j' = nI (row (wd m w) (wd m o) (i + 1) j')) K (fun h : Pic => ∀ j, j ≤ K → h 2 j = nI (row (wd m w) (wd m o) (i + 1) j)) ?_ ?_ (by have := fu_big; omega) ⟨h0, rfl, hp, fun j hj => by rw [show j = 0 by omega]; exact hz⟩
  · rintro j hj _ ⟨h, rfl, h1, h2⟩
    have nk : ¬ K ≤ j := by omega
    refine Or.inl ⟨(nI (j + 1), pu h 2 (j + 1) (nI (row (wd m w) (wd m o) (i + 1) (j + 1)))), ⟨_, rfl, fun j' a => ?_, fun j' a => ?_⟩, fun r => ?_⟩
    · rw [pu_o (by decide)]; exact h1 j' a
    · rw [pu_s]
      split
      · rename_i e; rw [e]
      · exact h2 j' (by omega)
    · have a1 := h1 (j + 1) (by omega)
      have a2 := h1 j (by omega)
      have a3 := h2 j (Nat.le_refl j)
      have b1 := row_le (wd m w) (wd m o) i (j + 1)
      have b2 := row_le (wd m w) (wd m o) i j
      have b3 := row_le (wd m w) (wd m o) (i + 1) j
      have e1 := k_letter hO hR hw (show i < 6 by omega)
      have e2 := k_letter hO hR ho (show j < 6 by omega)
      rw [row_s]
      by_cases e : wd m w i = wd m o j
      · simp (disch := omega) only [bd_s, bd2_s, bd3_s, bd4_s, bd5_s, bd6_s, bd7_s, bd8_s, lr_l, lr_r, nm_s, jn_s, gdb_0, gdb_1, li_2, li_3, li_4, li_5, li_6, li_7, li_8, li_9, li_10, li_11, li_12, li_13, li_14, li_15, li_16, li_20, li_24, li_32, li_40, li_41, li_43, li_48, li_57, li_59, li_60, li_62, li_63, li_76, li_96, li_97, li_99, li_100, li_104, li_116, li_122, li_128, li_129, li_216, li_217, li_218, li_219, li_239, li_240, li_255, li_256, li_257, li_400, li_456, li_856, li_999, li_1000, li_1001, li_1002, li_1003, li_1004, li_1005, li_1006, li_1007, li_1008, li_1161, li_2000, li_2001, li_2002, li_2003, li_2004, li_2005, li_5016, li_5472, li_9999, li_10000, li_32767, li_1000000, li_2000000000, nI_add, nI_mul, nI_sub, nI_clamp, nI_leI, nI_ltI, nI_eq, gdi_n, nI_1, nI_eq0, nI_eq1, nI_le0, nI_le1, nI_0le, nI_lt0, nI_0lt, nI_m1, Int32.add_zero, Nat.le_refl, if_true, if_false, Bool.false_eq_true, Bool.true_eq_false, i10, i01, im0, im1, i0m, i1m, l10, l00, l01, t10, t00, nk, e1, e2, e, a1, a2, a3, mn_n2, Nat.add_zero]
        rw [Nat.min_comm (row (wd m w) (wd m o) i j)]
      · simp (disch := omega) only [bd_s, bd2_s, bd3_s, bd4_s, bd5_s, bd6_s, bd7_s, bd8_s, lr_l, lr_r, nm_s, jn_s, gdb_0, gdb_1, li_2, li_3, li_4, li_5, li_6, li_7, li_8, li_9, li_10, li_11, li_12, li_13, li_14, li_15, li_16, li_20, li_24, li_32, li_40, li_41, li_43, li_48, li_57, li_59, li_60, li_62, li_63, li_76, li_96, li_97, li_99, li_100, li_104, li_116, li_122, li_128, li_129, li_216, li_217, li_218, li_219, li_239, li_240, li_255, li_256, li_257, li_400, li_456, li_856, li_999, li_1000, li_1001, li_1002, li_1003, li_1004, li_1005, li_1006, li_1007, li_1008, li_1161, li_2000, li_2001, li_2002, li_2003, li_2004, li_2005, li_5016, li_5472, li_9999, li_10000, li_32767, li_1000000, li_2000000000, nI_add, nI_mul, nI_sub, nI_clamp, nI_leI, nI_ltI, nI_eq, gdi_n, nI_1, nI_eq0, nI_eq1, nI_le0, nI_le1, nI_0le, nI_lt0, nI_0lt, nI_m1, Int32.add_zero, Nat.le_refl, if_true, if_false, Bool.false_eq_true, Bool.true_eq_false, i10, i01, im0, im1, i0m, i1m, l10, l00, l01, t10, t00, nk, e1, e2, e, a1, a2, a3, mn_n2]
        rw [Nat.min_comm (row (wd m w) (wd m o) i j + 1)]
  · rintro _ ⟨h, rfl, h1, h2⟩
    refine ⟨h, h2, fun r => ?_⟩
    simp (disch := omega) only [bd_s, bd2_s, bd3_s, bd4_s, bd5_s, bd6_s, bd7_s, bd8_s, lr_l, lr_r, nm_s, jn_s, gdb_0, gdb_1, li_2, li_3, li_4, li_5, li_6, li_7, li_8, li_9, li_10, li_11, li_12, li_13, li_14, li_15, li_16, li_20, li_24, li_32, li_40, li_41, li_43, li_48, li_57, li_59, li_60, li_62, li_63, li_76, li_96, li_97, li_99, li_100, li_104, li_116, li_122, li_128, li_129, li_216, li_217, li_218, li_219, li_239, li_240, li_255, li_256, li_257, li_400, li_456, li_856, li_999, li_1000, li_1001, li_1002, li_1003, li_1004, li_1005, li_1006, li_1007, li_1008, li_1161, li_2000, li_2001, li_2002, li_2003, li_2004, li_2005, li_5016, li_5472, li_9999, li_10000, li_32767, li_1000000, li_2000000000, nI_add, nI_mul, nI_sub, nI_clamp, nI_leI, nI_ltI, nI_eq, gdi_n, nI_1, nI_eq0, nI_eq1, nI_le0, nI_le1, nI_0le, nI_lt0, nI_0lt, nI_m1, Int32.add_zero, Nat.le_refl, if_true, if_false, Bool.false_eq_true, Bool.true_eq_false, i10, i01, im0, im1, i0m, i1m, l10, l00, l01, t10, t00]
    done
theorem k_change (hO : Ok m) (hR : RS gS gL m) {w o : Nat} (hw : w < tn (m 3)) (ho : o < tn (m 3)) (gX : Pic) : ∃ h, f_X6_changeOf gX gS (nI w) (nI o) = some (nI (lev m w o), h) := by
  have w8 := hO.w8 hw
  have o8 := hO.w8 ho
  obtain ⟨n, hn, tw, n1, n6⟩ := (hO.len hw).ex
  obtain ⟨K, hK, tk, k1, k6⟩ := (hO.len ho).ex
  have gn := (hR.len hw).trans hn
  have gk := (hR.len ho).trans hK
  have A : ∃ h, f_X6_changeOf_L13 (nI w) (nI o) (nI K) gS fu (0, gX) = some h ∧ ∀ j, j ≤ K → h 1 j = nI j := by
    refine lp_inv (fun j a => ∃ h : Pic, a = (nI j, h) ∧ ∀ j', j' < j → h 1 j' = nI j') (K + 1) (fun h : Pic => ∀ j, j ≤ K → h 1 j = nI j) ?_ ?_ (by have := fu_big; omega) ⟨gX, rfl, fun j hj => absurd hj (Nat.not_lt_zero _)⟩
    · rintro j hj _ ⟨h, rfl, h1⟩
      have nk : ¬ K < j := by omega
      refine Or.inl ⟨(nI (j + 1), pu h 1 j (nI j)), ⟨_, rfl, fun j' a => ?_⟩, fun r => ?_⟩
      · rw [pu_s]
        split
        · rename_i e; rw [e]
        · exact h1 j' (by omega)
      · simp (disch := omega) only [bd_s, bd2_s, bd3_s, bd4_s, bd5_s, bd6_s, bd7_s, bd8_s, lr_l, lr_r, nm_s, jn_s, gdb_0, gdb_1, li_2, li_3, li_4, li_5, li_6, li_7, li_8, li_9, li_10, li_11, li_12, li_13, li_14, li_15, li_16, li_20, li_24, li_32, li_40, li_41, li_43, li_48, li_57, li_59, li_60, li_62, li_63, li_76, li_96, li_97, li_99, li_100, li_104, li_116, li_122, li_128, li_129, li_216, li_217, li_218, li_219, li_239, li_240, li_255, li_256, li_257, li_400, li_456, li_856, li_999, li_1000, li_1001, li_1002, li_1003, li_1004, li_1005, li_1006, li_1007, li_1008, li_1161, li_2000, li_2001, li_2002, li_2003, li_2004, li_2005, li_5016, li_5472, li_9999, li_10000, li_32767, li_1000000, li_2000000000, nI_add, nI_mul, nI_sub, nI_clamp, nI_leI, nI_ltI, nI_eq, gdi_n, nI_1, nI_eq0, nI_eq1, nI_le0, nI_le1, nI_0le, nI_lt0, nI_0lt, nI_m1, Int32.add_zero, Nat.le_refl, if_true, if_false, Bool.false_eq_true, Bool.true_eq_false, i10, i01, im0, im1, i0m, i1m, l10, l00, l01, t10, t00, nk]
    · rintro _ ⟨h, rfl, h1⟩
      refine ⟨h, fun j hj => h1 j (by omega), fun r => ?_⟩
      simp (disch := omega) only [bd_s, bd2_s, bd3_s, bd4_s, bd5_s, bd6_s, bd7_s, bd8_s, lr_l, lr_r, nm_s, jn_s, gdb_0, gdb_1, li_2, li_3, li_4, li_5, li_6, li_7, li_8, li_9, li_10, li_11, li_12, li_13, li_14, li_15, li_16, li_20, li_24, li_32, li_40, li_41, li_43, li_48, li_57, li_59, li_60, li_62, li_63, li_76, li_96, li_97, li_99, li_100, li_104, li_116, li_122, li_128, li_129, li_216, li_217, li_218, li_219, li_239, li_240, li_255, li_256, li_257, li_400, li_456, li_856, li_999, li_1000, li_1001, li_1002, li_1003, li_1004, li_1005, li_1006, li_1007, li_1008, li_1161, li_2000, li_2001, li_2002, li_2003, li_2004, li_2005, li_5016, li_5472, li_9999, li_10000, li_32767, li_1000000, li_2000000000, nI_add, nI_mul, nI_sub, nI_clamp, nI_leI, nI_ltI, nI_eq, gdi_n, nI_1, nI_eq0, nI_eq1, nI_le0, nI_le1, nI_0le, nI_lt0, nI_0lt, nI_m1, Int32.add_zero, Nat.le_refl, if_true, if_false, Bool.false_eq_true, Bool.true_eq_false, i10, i01, im0, im1, i0m, i1m, l10, l00, l01, t10, t00, Nat.lt_succ_self]
      done
  obtain ⟨h0, A1, A2⟩ := A
  have B : ∃ h, f_X6_changeOf_L37 (nI w) (nI o) (nI K) gS fu (0, h0) = some h ∧ ∀ j, j ≤ K → h 1 j = nI (row (wd m w) (wd m o) n j) := by
    refine lp_inv (fun i a => ∃ h : Pic, a = (nI i, h) ∧ ∀ j, j ≤ K → h 1 j = nI (row (wd m w) (wd m o) i j)) n (fun h : Pic => ∀ j, j ≤ K → h 1 j = nI (row (wd m w) (wd m o) n j)) ?_ ?_ (by have := fu_big; omega) ⟨h0, rfl, A2⟩
    · rintro i hi _ ⟨h, rfl, h1⟩
      have nk : ¬ n ≤ i := by omega
      obtain ⟨h', q1, q2⟩ := k_chL (h0 := pu h 2 0 (nI (i + 1))) hO hR hw ho k6 (show i < 6 by omega) (fun j hj => by rw [pu_o (by decide)]; exact h1 j hj) (by rw [pu_s, if_pos rfl])
      refine Or.inl ⟨(nI (i + 1), pr_ h' 1 (va_cpy (h' 2) (h' 1) 0 0 7)), ⟨_, rfl, fun j hj => ?_⟩, fun r => ?_⟩
      · show va_cpy (h' 2) (h' 1) 0 0 7 j = _
        unfold va_cpy
        rw [if_pos (by omega)]
        have := q2 j hj
        simpa using this
      · simp (disch := omega) only [bd_s, bd2_s, bd3_s, bd4_s, bd5_s, bd6_s, bd7_s, bd8_s, lr_l, lr_r, nm_s, jn_s, gdb_0, gdb_1, li_2, li_3, li_4, li_5, li_6, li_7, li_8, li_9, li_10, li_11, li_12, li_13, li_14, li_15, li_16, li_20, li_24, li_32, li_40, li_41, li_43, li_48, li_57, li_59, li_60, li_62, li_63, li_76, li_96, li_97, li_99, li_100, li_104, li_116, li_122, li_128, li_129, li_216, li_217, li_218, li_219, li_239, li_240, li_255, li_256, li_257, li_400, li_456, li_856, li_999, li_1000, li_1001, li_1002, li_1003, li_1004, li_1005, li_1006, li_1007, li_1008, li_1161, li_2000, li_2001, li_2002, li_2003, li_2004, li_2005, li_5016, li_5472, li_9999, li_10000, li_32767, li_1000000, li_2000000000, nI_add, nI_mul, nI_sub, nI_clamp, nI_leI, nI_ltI, nI_eq, gdi_n, nI_1, nI_eq0, nI_eq1, nI_le0, nI_le1, nI_0le, nI_lt0, nI_0lt, nI_m1, Int32.add_zero, Nat.le_refl, if_true, if_false, Bool.false_eq_true, Bool.true_eq_false, i10, i01, im0, im1, i0m, i1m, l10, l00, l01, t10, t00, gn, nk, q1]
    · rintro _ ⟨h, rfl, h1⟩
      refine ⟨h, h1, fun r => ?_⟩
      simp (disch := omega) only [bd_s, bd2_s, bd3_s, bd4_s, bd5_s, bd6_s, bd7_s, bd8_s, lr_l, lr_r, nm_s, jn_s, gdb_0, gdb_1, li_2, li_3, li_4, li_5, li_6, li_7, li_8, li_9, li_10, li_11, li_12, li_13, li_14, li_15, li_16, li_20, li_24, li_32, li_40, li_41, li_43, li_48, li_57, li_59, li_60, li_62, li_63, li_76, li_96, li_97, li_99, li_100, li_104, li_116, li_122, li_128, li_129, li_216, li_217, li_218, li_219, li_239, li_240, li_255, li_256, li_257, li_400, li_456, li_856, li_999, li_1000, li_1001, li_1002, li_1003, li_1004, li_1005, li_1006, li_1007, li_1008, li_1161, li_2000, li_2001, li_2002, li_2003, li_2004, li_2005, li_5016, li_5472, li_9999, li_10000, li_32767, li_1000000, li_2000000000, nI_add, nI_mul, nI_sub, nI_clamp, nI_leI, nI_ltI, nI_eq, gdi_n, nI_1, nI_eq0, nI_eq1, nI_le0, nI_le1, nI_0le, nI_lt0, nI_0lt, nI_m1, Int32.add_zero, Nat.le_refl, if_true, if_false, Bool.false_eq_true, Bool.true_eq_false, i10, i01, im0, im1, i0m, i1m, l10, l00, l01, t10, t00, gn]
      done
  obtain ⟨h, B1, B2⟩ := B
  refine ⟨h, ?_⟩
  have e := B2 K (Nat.le_refl K)
  unfold f_X6_changeOf lev
  rw [tw, tk]
  simp (disch := omega) only [bd_s, bd2_s, bd3_s, bd4_s, bd5_s, bd6_s, bd7_s, bd8_s, lr_l, lr_r, nm_s, jn_s, gdb_0, gdb_1, li_2, li_3, li_4, li_5, li_6, li_7, li_8, li_9, li_10, li_11, li_12, li_13, li_14, li_15, li_16, li_20, li_24, li_32, li_40, li_41, li_43, li_48, li_57, li_59, li_60, li_62, li_63, li_76, li_96, li_97, li_99, li_100, li_104, li_116, li_122, li_128, li_129, li_216, li_217, li_218, li_219, li_239, li_240, li_255, li_256, li_257, li_400, li_456, li_856, li_999, li_1000, li_1001, li_1002, li_1003, li_1004, li_1005, li_1006, li_1007, li_1008, li_1161, li_2000, li_2001, li_2002, li_2003, li_2004, li_2005, li_5016, li_5472, li_9999, li_10000, li_32767, li_1000000, li_2000000000, nI_add, nI_mul, nI_sub, nI_clamp, nI_leI, nI_ltI, nI_eq, gdi_n, nI_1, nI_eq0, nI_eq1, nI_le0, nI_le1, nI_0le, nI_lt0, nI_0lt, nI_m1, Int32.add_zero, Nat.le_refl, if_true, if_false, Bool.false_eq_true, Bool.true_eq_false, i10, i01, im0, im1, i0m, i1m, l10, l00, l01, t10, t00, gk, A1, B1, e]
theorem lev_le (hO : Ok m) {w o : Nat} (hw : w < tn (m 3)) (ho : o < tn (m 3)) : lev m w o ≤ 12 := by
  have a := (hO.len hw).2.2
  have b := (hO.len ho).2.2
  have := row_le (wd m w) (wd m o) (tn (wd m w 6)) (tn (wd m o 6))
  unfold lev
  omega
theorem e_closest (hg : g 1 = m) (hO : Ok m) (hR : RS gS gL m) {w : Nat} (hw : w < tn (m 3)) (gX : Pic) : ∃ v g' h, f_X12_closest g (nI w) = some (v, g') ∧ Es g g' ∧ f_X6_closestTo gX gS (nI w) = some (v, h) := by
  obtain ⟨W, hW, tW, -, w8⟩ := hO.W.ex
  have gw := hR.W.trans hW
  have H : ∃ c d, f_X12_closest_L9 (nI w) fu (-1, 2000000000, 0, g) = some c ∧ f_X6_closestTo_L8 (nI w) gS fu (-1, 1000000, 0, gX) = some d ∧ ∃ v g' h, c = (v, g') ∧ d = (v, h) ∧ Es g g' := by
    refine lp_two (fun k a b => ∃ (v : Int32) (x y : Nat) (g' h : Pic), a = (v, nI x, nI k, g') ∧ b = (v, nI y, nI k, h) ∧ Es g g' ∧ ((x = 2000000000 ∧ y = 1000000) ∨ (x = y ∧ x ≤ 12))) W (fun c d => ∃ (v : Int32) (g' h : Pic), c = (v, g') ∧ d = (v, h) ∧ Es g g') ?_ ?_ (by have := fu_big; omega) (by have := fu_big; omega) ⟨-1, 2000000000, 1000000, g, gX, rfl, rfl, Es.rf g, Or.inl ⟨rfl, rfl⟩⟩
    · rintro k hk _ _ ⟨v, x, y, g', h, rfl, rfl, hE, hxy⟩
      have nk : ¬ W ≤ k := by omega
      have hk' : k < tn (m 3) := by rw [tW]; exact hk
      have hm := hE.m.trans hg
      by_cases e : k = w
      · subst e
        have x1 : ¬ 2000000000 < x := by omega
        have y1 : y ≤ 1000000 := by omega
        refine Or.inl ⟨(v, nI x, nI (k + 1), g'), (v, nI y, nI (k + 1), h), ⟨v, x, y, g', h, rfl, rfl, hE, hxy⟩, fun r => ?_, fun r => ?_⟩
        · simp (disch := omega) only [bd_s, bd2_s, bd3_s, bd4_s, bd5_s, bd6_s, bd7_s, bd8_s, lr_l, lr_r, nm_s, jn_s, gdb_0, gdb_1, li_2, li_3, li_4, li_5, li_6, li_7, li_8, li_9, li_10, li_11, li_12, li_13, li_14, li_15, li_16, li_20, li_24, li_32, li_40, li_41, li_43, li_48, li_57, li_59, li_60, li_62, li_63, li_76, li_96, li_97, li_99, li_100, li_104, li_116, li_122, li_128, li_129, li_216, li_217, li_218, li_219, li_239, li_240, li_255, li_256, li_257, li_400, li_456, li_856, li_999, li_1000, li_1001, li_1002, li_1003, li_1004, li_1005, li_1006, li_1007, li_1008, li_1161, li_2000, li_2001, li_2002, li_2003, li_2004, li_2005, li_5016, li_5472, li_9999, li_10000, li_32767, li_1000000, li_2000000000, nI_add, nI_mul, nI_sub, nI_clamp, nI_leI, nI_ltI, nI_eq, gdi_n, nI_1, nI_eq0, nI_eq1, nI_le0, nI_le1, nI_0le, nI_lt0, nI_0lt, nI_m1, Int32.add_zero, Nat.le_refl, if_true, if_false, Bool.false_eq_true, Bool.true_eq_false, i10, i01, im0, im1, i0m, i1m, l10, l00, l01, t10, t00, hm, hW, nk, x1]
        · simp (disch := omega) only [bd_s, bd2_s, bd3_s, bd4_s, bd5_s, bd6_s, bd7_s, bd8_s, lr_l, lr_r, nm_s, jn_s, gdb_0, gdb_1, li_2, li_3, li_4, li_5, li_6, li_7, li_8, li_9, li_10, li_11, li_12, li_13, li_14, li_15, li_16, li_20, li_24, li_32, li_40, li_41, li_43, li_48, li_57, li_59, li_60, li_62, li_63, li_76, li_96, li_97, li_99, li_100, li_104, li_116, li_122, li_128, li_129, li_216, li_217, li_218, li_219, li_239, li_240, li_255, li_256, li_257, li_400, li_456, li_856, li_999, li_1000, li_1001, li_1002, li_1003, li_1004, li_1005, li_1006, li_1007, li_1008, li_1161, li_2000, li_2001, li_2002, li_2003, li_2004, li_2005, li_5016, li_5472, li_9999, li_10000, li_32767, li_1000000, li_2000000000, nI_add, nI_mul, nI_sub, nI_clamp, nI_leI, nI_ltI, nI_eq, gdi_n, nI_1, nI_eq0, nI_eq1, nI_le0, nI_le1, nI_0le, nI_lt0, nI_0lt, nI_m1, Int32.add_zero, Nat.le_refl, if_true, if_false, Bool.false_eq_true, Bool.true_eq_false, i10, i01, im0, im1, i0m, i1m, l10, l00, l01, t10, t00, gw, nk, y1]
      · obtain ⟨g2, q1, q2⟩ := q_change hm hO hw hk'
        obtain ⟨h2, q3⟩ := k_change hO hR hw hk' h
        have l := lev_le hO hw hk'
        by_cases c : lev m w k < x
        · have c2 : ¬ y ≤ lev m w k := by omega
          refine Or.inl ⟨(nI k, nI (lev m w k), nI (k + 1), g2), (nI k, nI (lev m w k), nI (k + 1), h2), ⟨nI k, lev m w k, lev m w k, g2, h2, rfl, rfl, hE.tr q2, Or.inr ⟨rfl, l⟩⟩, fun r => ?_, fun r => ?_⟩
          · simp (disch := omega) only [bd_s, bd2_s, bd3_s, bd4_s, bd5_s, bd6_s, bd7_s, bd8_s, lr_l, lr_r, nm_s, jn_s, gdb_0, gdb_1, li_2, li_3, li_4, li_5, li_6, li_7, li_8, li_9, li_10, li_11, li_12, li_13, li_14, li_15, li_16, li_20, li_24, li_32, li_40, li_41, li_43, li_48, li_57, li_59, li_60, li_62, li_63, li_76, li_96, li_97, li_99, li_100, li_104, li_116, li_122, li_128, li_129, li_216, li_217, li_218, li_219, li_239, li_240, li_255, li_256, li_257, li_400, li_456, li_856, li_999, li_1000, li_1001, li_1002, li_1003, li_1004, li_1005, li_1006, li_1007, li_1008, li_1161, li_2000, li_2001, li_2002, li_2003, li_2004, li_2005, li_5016, li_5472, li_9999, li_10000, li_32767, li_1000000, li_2000000000, nI_add, nI_mul, nI_sub, nI_clamp, nI_leI, nI_ltI, nI_eq, gdi_n, nI_1, nI_eq0, nI_eq1, nI_le0, nI_le1, nI_0le, nI_lt0, nI_0lt, nI_m1, Int32.add_zero, Nat.le_refl, if_true, if_false, Bool.false_eq_true, Bool.true_eq_false, i10, i01, im0, im1, i0m, i1m, l10, l00, l01, t10, t00, hm, hW, nk, e, q1, c]
          · simp (disch := omega) only [bd_s, bd2_s, bd3_s, bd4_s, bd5_s, bd6_s, bd7_s, bd8_s, lr_l, lr_r, nm_s, jn_s, gdb_0, gdb_1, li_2, li_3, li_4, li_5, li_6, li_7, li_8, li_9, li_10, li_11, li_12, li_13, li_14, li_15, li_16, li_20, li_24, li_32, li_40, li_41, li_43, li_48, li_57, li_59, li_60, li_62, li_63, li_76, li_96, li_97, li_99, li_100, li_104, li_116, li_122, li_128, li_129, li_216, li_217, li_218, li_219, li_239, li_240, li_255, li_256, li_257, li_400, li_456, li_856, li_999, li_1000, li_1001, li_1002, li_1003, li_1004, li_1005, li_1006, li_1007, li_1008, li_1161, li_2000, li_2001, li_2002, li_2003, li_2004, li_2005, li_5016, li_5472, li_9999, li_10000, li_32767, li_1000000, li_2000000000, nI_add, nI_mul, nI_sub, nI_clamp, nI_leI, nI_ltI, nI_eq, gdi_n, nI_1, nI_eq0, nI_eq1, nI_le0, nI_le1, nI_0le, nI_lt0, nI_0lt, nI_m1, Int32.add_zero, Nat.le_refl, if_true, if_false, Bool.false_eq_true, Bool.true_eq_false, i10, i01, im0, im1, i0m, i1m, l10, l00, l01, t10, t00, gw, nk, e, q3, c2]
        · have c2 : y ≤ lev m w k := by omega
          refine Or.inl ⟨(v, nI x, nI (k + 1), g2), (v, nI y, nI (k + 1), h2), ⟨v, x, y, g2, h2, rfl, rfl, hE.tr q2, hxy⟩, fun r => ?_, fun r => ?_⟩
          · simp (disch := omega) only [bd_s, bd2_s, bd3_s, bd4_s, bd5_s, bd6_s, bd7_s, bd8_s, lr_l, lr_r, nm_s, jn_s, gdb_0, gdb_1, li_2, li_3, li_4, li_5, li_6, li_7, li_8, li_9, li_10, li_11, li_12, li_13, li_14, li_15, li_16, li_20, li_24, li_32, li_40, li_41, li_43, li_48, li_57, li_59, li_60, li_62, li_63, li_76, li_96, li_97, li_99, li_100, li_104, li_116, li_122, li_128, li_129, li_216, li_217, li_218, li_219, li_239, li_240, li_255, li_256, li_257, li_400, li_456, li_856, li_999, li_1000, li_1001, li_1002, li_1003, li_1004, li_1005, li_1006, li_1007, li_1008, li_1161, li_2000, li_2001, li_2002, li_2003, li_2004, li_2005, li_5016, li_5472, li_9999, li_10000, li_32767, li_1000000, li_2000000000, nI_add, nI_mul, nI_sub, nI_clamp, nI_leI, nI_ltI, nI_eq, gdi_n, nI_1, nI_eq0, nI_eq1, nI_le0, nI_le1, nI_0le, nI_lt0, nI_0lt, nI_m1, Int32.add_zero, Nat.le_refl, if_true, if_false, Bool.false_eq_true, Bool.true_eq_false, i10, i01, im0, im1, i0m, i1m, l10, l00, l01, t10, t00, hm, hW, nk, e, q1, c]
          · simp (disch := omega) only [bd_s, bd2_s, bd3_s, bd4_s, bd5_s, bd6_s, bd7_s, bd8_s, lr_l, lr_r, nm_s, jn_s, gdb_0, gdb_1, li_2, li_3, li_4, li_5, li_6, li_7, li_8, li_9, li_10, li_11, li_12, li_13, li_14, li_15, li_16, li_20, li_24, li_32, li_40, li_41, li_43, li_48, li_57, li_59, li_60, li_62, li_63, li_76, li_96, li_97, li_99, li_100, li_104, li_116, li_122, li_128, li_129, li_216, li_217, li_218, li_219, li_239, li_240, li_255, li_256, li_257, li_400, li_456, li_856, li_999, li_1000, li_1001, li_1002, li_1003, li_1004, li_1005, li_1006, li_1007, li_1008, li_1161, li_2000, li_2001, li_2002, li_2003, li_2004, li_2005, li_5016, li_5472, li_9999, li_10000, li_32767, li_1000000, li_2000000000, nI_add, nI_mul, nI_sub, nI_clamp, nI_leI, nI_ltI, nI_eq, gdi_n, nI_1, nI_eq0, nI_eq1, nI_le0, nI_le1, nI_0le, nI_lt0, nI_0lt, nI_m1, Int32.add_zero, Nat.le_refl, if_true, if_false, Bool.false_eq_true, Bool.true_eq_false, i10, i01, im0, im1, i0m, i1m, l10, l00, l01, t10, t00, gw, nk, e, q3, c2]
    · rintro _ _ ⟨v, x, y, g', h, rfl, rfl, hE, hxy⟩
      have hm := hE.m.trans hg
      refine ⟨(v, g'), (v, h), ⟨v, g', h, rfl, rfl, hE⟩, fun r => ?_, fun r => ?_⟩
      · simp (disch := omega) only [bd_s, bd2_s, bd3_s, bd4_s, bd5_s, bd6_s, bd7_s, bd8_s, lr_l, lr_r, nm_s, jn_s, gdb_0, gdb_1, li_2, li_3, li_4, li_5, li_6, li_7, li_8, li_9, li_10, li_11, li_12, li_13, li_14, li_15, li_16, li_20, li_24, li_32, li_40, li_41, li_43, li_48, li_57, li_59, li_60, li_62, li_63, li_76, li_96, li_97, li_99, li_100, li_104, li_116, li_122, li_128, li_129, li_216, li_217, li_218, li_219, li_239, li_240, li_255, li_256, li_257, li_400, li_456, li_856, li_999, li_1000, li_1001, li_1002, li_1003, li_1004, li_1005, li_1006, li_1007, li_1008, li_1161, li_2000, li_2001, li_2002, li_2003, li_2004, li_2005, li_5016, li_5472, li_9999, li_10000, li_32767, li_1000000, li_2000000000, nI_add, nI_mul, nI_sub, nI_clamp, nI_leI, nI_ltI, nI_eq, gdi_n, nI_1, nI_eq0, nI_eq1, nI_le0, nI_le1, nI_0le, nI_lt0, nI_0lt, nI_m1, Int32.add_zero, Nat.le_refl, if_true, if_false, Bool.false_eq_true, Bool.true_eq_false, i10, i01, im0, im1, i0m, i1m, l10, l00, l01, t10, t00, hm, hW]
        done
      · simp (disch := omega) only [bd_s, bd2_s, bd3_s, bd4_s, bd5_s, bd6_s, bd7_s, bd8_s, lr_l, lr_r, nm_s, jn_s, gdb_0, gdb_1, li_2, li_3, li_4, li_5, li_6, li_7, li_8, li_9, li_10, li_11, li_12, li_13, li_14, li_15, li_16, li_20, li_24, li_32, li_40, li_41, li_43, li_48, li_57, li_59, li_60, li_62, li_63, li_76, li_96, li_97, li_99, li_100, li_104, li_116, li_122, li_128, li_129, li_216, li_217, li_218, li_219, li_239, li_240, li_255, li_256, li_257, li_400, li_456, li_856, li_999, li_1000, li_1001, li_1002, li_1003, li_1004, li_1005, li_1006, li_1007, li_1008, li_1161, li_2000, li_2001, li_2002, li_2003, li_2004, li_2005, li_5016, li_5472, li_9999, li_10000, li_32767, li_1000000, li_2000000000, nI_add, nI_mul, nI_sub, nI_clamp, nI_leI, nI_ltI, nI_eq, gdi_n, nI_1, nI_eq0, nI_eq1, nI_le0, nI_le1, nI_0le, nI_lt0, nI_0lt, nI_m1, Int32.add_zero, Nat.le_refl, if_true, if_false, Bool.false_eq_true, Bool.true_eq_false, i10, i01, im0, im1, i0m, i1m, l10, l00, l01, t10, t00, gw]
        done
  obtain ⟨c, d, q1, q2, v, g', h, rfl, rfl, hE⟩ := H
  exact ⟨v, g', h, by unfold f_X12_closest; rw [q1]; rfl, hE, by unfold f_X6_closestTo; rw [q2]; rfl⟩
end K5
