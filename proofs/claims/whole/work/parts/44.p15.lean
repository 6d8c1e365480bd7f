/-! rows on the tape -/
theorem nI_div {a b : Nat} (ha : a < 2 ^ 31) (hb : b < 2 ^ 31) : nI a / nI b = nI (a / b) := by
  apply Int32.toInt_inj.mp
  have q : a / b ≤ a := Nat.div_le_self a b
  rw [Int32.toInt_div, nI_toInt ha, nI_toInt hb, nI_toInt (by omega), ← Int.ofNat_tdiv]
  generalize a / b = c at *
  exact Int.bmod_eq_of_le (by omega) (by omega)
theorem nI_mod2 {a : Nat} (ha : a < 2 ^ 31) : nI a - nI a / 2 * 2 = nI (a % 2) := by
  rw [li_2, nI_div ha (by omega), nI_mul, nI_sub (by omega)]
  congr 1
  omega
def RT (gT g : Pic) : Prop := Bn (g 8 0) 0 400 ∧ gT 1 0 = g 8 0 ∧ ∀ k, k < tn (g 8 0) → gT 0 k = g 7 k ∧ Bn (g 7 k) 0 255
def rk (A B : Nat) (t : Nat → Int32) (n : Nat) : Prop := n % 2 = 0 ∧ n ≤ 40 ∧ ∀ j, 2 * j < n → tn (t (2 * j)) < A ∧ tn (t (2 * j + 1)) < B
section K15
variable {m : Nat → Int32} {g gS gL gH gC gP gT gK h x : Pic}
theorem q_rowsA {n : Nat} (he : n % 2 = 0) (h40 : n ≤ 40) (hb : ∀ k, k < n → Bn (g 7 k) 0 255) : (rk 6 8 (g 7) n → f_X12_hears_L30 (nI n) g fu (1, 0) = some 1) ∧ (¬ rk 6 8 (g 7) n → f_X12_hears_L30 (nI n) g fu (1, 0) = some 0) := by
  have H : ∃ c, f_X12_hears_L30 (nI n) g fu (1, 0) = some c ∧ ((c = 1 ∧ rk 6 8 (g 7) n) ∨ (c = 0 ∧ ¬ rk 6 8 (g 7) n)) := by
    refine lp_inv (fun j s => (s = (1, nI (2 * j)) ∧ ∀ i, i < j → tn (g 7 (2 * i)) < 6 ∧ tn (g 7 (2 * i + 1)) < 8) ∨ (s = (0, nI (2 * j)) ∧ ¬ rk 6 8 (g 7) n)) (n / 2) (fun c => (c = 1 ∧ rk 6 8 (g 7) n) ∨ (c = 0 ∧ ¬ rk 6 8 (g 7) n)) ?_ ?_ (by have := fu_big; omega) (Or.inl ⟨rfl, fun w hw => absurd hw (Nat.not_lt_zero w)⟩)
    · rintro j hj _ (⟨rfl, hp⟩ | ⟨rfl, hp⟩)
      · have nk : ¬ n ≤ 2 * j := by omega
        obtain ⟨a, ha, ta, -, a9⟩ := (hb (2 * j) (by omega)).ex
        obtain ⟨b, hb, tb, -, b9⟩ := (hb (2 * j + 1) (by omega)).ex
        have e2 : 2 * j + 2 = 2 * (j + 1) := by omega
        by_cases c1 : 6 ≤ a
        · refine Or.inl ⟨(0, nI (2 * (j + 1))), Or.inr ⟨rfl, fun z => ?_⟩, fun r => ?_⟩
          · have := (z.2.2 j (by omega)).1; omega
          · simp (disch := omega) only [bd_s, bd2_s, bd3_s, bd4_s, bd5_s, bd6_s, bd7_s, bd8_s, lr_l, lr_r, nm_s, jn_s, gdb_0, gdb_1, li_2, li_3, li_4, li_5, li_6, li_7, li_8, li_9, li_10, li_11, li_12, li_13, li_14, li_15, li_16, li_20, li_24, li_32, li_40, li_41, li_43, li_48, li_57, li_59, li_60, li_62, li_63, li_76, li_96, li_97, li_99, li_100, li_104, li_116, li_122, li_128, li_129, li_216, li_217, li_218, li_219, li_239, li_240, li_255, li_256, li_257, li_400, li_456, li_856, li_999, li_1000, li_1001, li_1002, li_1003, li_1004, li_1005, li_1006, li_1007, li_1008, li_1161, li_2000, li_2001, li_2002, li_2003, li_2004, li_2005, li_5016, li_5472, li_9999, li_10000, li_32767, li_1000000, li_2000000000, nI_add, nI_mul, nI_sub, nI_clamp, nI_leI, nI_ltI, nI_eq, gdi_n, nI_1, nI_eq0, nI_eq1, nI_le0, nI_le1, nI_0le, nI_lt0, nI_0lt, nI_m1, Int32.add_zero, Nat.le_refl, if_true, if_false, Bool.false_eq_true, Bool.true_eq_false, i10, i01, im0, im1, i0m, i1m, l10, l00, l01, t10, t00, nk, ha, c1, e2]
        · by_cases c2 : 8 ≤ b
          · refine Or.inl ⟨(0, nI (2 * (j + 1))), Or.inr ⟨rfl, fun z => ?_⟩, fun r => ?_⟩
            · have := (z.2.2 j (by omega)).2; omega
            · simp (disch := omega) only [bd_s, bd2_s, bd3_s, bd4_s, bd5_s, bd6_s, bd7_s, bd8_s, lr_l, lr_r, nm_s, jn_s, gdb_0, gdb_1, li_2, li_3, li_4, li_5, li_6, li_7, li_8, li_9, li_10, li_11, li_12, li_13, li_14, li_15, li_16, li_20, li_24, li_32, li_40, li_41, li_43, li_48, li_57, li_59, li_60, li_62, li_63, li_76, li_96, li_97, li_99, li_100, li_104, li_116, li_122, li_128, li_129, li_216, li_217, li_218, li_219, li_239, li_240, li_255, li_256, li_257, li_400, li_456, li_856, li_999, li_1000, li_1001, li_1002, li_1003, li_1004, li_1005, li_1006, li_1007, li_1008, li_1161, li_2000, li_2001, li_2002, li_2003, li_2004, li_2005, li_5016, li_5472, li_9999, li_10000, li_32767, li_1000000, li_2000000000, nI_add, nI_mul, nI_sub, nI_clamp, nI_leI, nI_ltI, nI_eq, gdi_n, nI_1, nI_eq0, nI_eq1, nI_le0, nI_le1, nI_0le, nI_lt0, nI_0lt, nI_m1, Int32.add_zero, Nat.le_refl, if_true, if_false, Bool.false_eq_true, Bool.true_eq_false, i10, i01, im0, im1, i0m, i1m, l10, l00, l01, t10, t00, nk, ha, hb, c1, c2, e2]
          · refine Or.inl ⟨(1, nI (2 * (j + 1))), Or.inl ⟨rfl, fun i hi => ?_⟩, fun r => ?_⟩
            · rcases Nat.lt_succ_iff_lt_or_eq.mp hi with z | z
              · exact hp i z
              · rw [z]; exact ⟨by omega, by omega⟩
            · simp (disch := omega) only [bd_s, bd2_s, bd3_s, bd4_s, bd5_s, bd6_s, bd7_s, bd8_s, lr_l, lr_r, nm_s, jn_s, gdb_0, gdb_1, li_2, li_3, li_4, li_5, li_6, li_7, li_8, li_9, li_10, li_11, li_12, li_13, li_14, li_15, li_16, li_20, li_24, li_32, li_40, li_41, li_43, li_48, li_57, li_59, li_60, li_62, li_63, li_76, li_96, li_97, li_99, li_100, li_104, li_116, li_122, li_128, li_129, li_216, li_217, li_218, li_219, li_239, li_240, li_255, li_256, li_257, li_400, li_456, li_856, li_999, li_1000, li_1001, li_1002, li_1003, li_1004, li_1005, li_1006, li_1007, li_1008, li_1161, li_2000, li_2001, li_2002, li_2003, li_2004, li_2005, li_5016, li_5472, li_9999, li_10000, li_32767, li_1000000, li_2000000000, nI_add, nI_mul, nI_sub, nI_clamp, nI_leI, nI_ltI, nI_eq, gdi_n, nI_1, nI_eq0, nI_eq1, nI_le0, nI_le1, nI_0le, nI_lt0, nI_0lt, nI_m1, Int32.add_zero, Nat.le_refl, if_true, if_false, Bool.false_eq_true, Bool.true_eq_false, i10, i01, im0, im1, i0m, i1m, l10, l00, l01, t10, t00, nk, ha, hb, c1, c2, e2]
      · have nk : ¬ n ≤ 2 * j := by omega
        refine Or.inr ⟨0, Or.inr ⟨rfl, hp⟩, fun r => ?_⟩
        simp (disch := omega) only [bd_s, bd2_s, bd3_s, bd4_s, bd5_s, bd6_s, bd7_s, bd8_s, lr_l, lr_r, nm_s, jn_s, gdb_0, gdb_1, li_2, li_3, li_4, li_5, li_6, li_7, li_8, li_9, li_10, li_11, li_12, li_13, li_14, li_15, li_16, li_20, li_24, li_32, li_40, li_41, li_43, li_48, li_57, li_59, li_60, li_62, li_63, li_76, li_96, li_97, li_99, li_100, li_104, li_116, li_122, li_128, li_129, li_216, li_217, li_218, li_219, li_239, li_240, li_255, li_256, li_257, li_400, li_456, li_856, li_999, li_1000, li_1001, li_1002, li_1003, li_1004, li_1005, li_1006, li_1007, li_1008, li_1161, li_2000, li_2001, li_2002, li_2003, li_2004, li_2005, li_5016, li_5472, li_9999, li_10000, li_32767, li_1000000, li_2000000000, nI_add, nI_mul, nI_sub, nI_clamp, nI_leI, nI_ltI, nI_eq, gdi_n, nI_1, nI_eq0, nI_eq1, nI_le0, nI_le1, nI_0le, nI_lt0, nI_0lt, nI_m1, Int32.add_zero, Nat.le_refl, if_true, if_false, Bool.false_eq_true, Bool.true_eq_false, i10, i01, im0, im1, i0m, i1m, l10, l00, l01, t10, t00, nk]
    · have e : n ≤ 2 * (n / 2) := by omega
      rintro _ (⟨rfl, hp⟩ | ⟨rfl, hp⟩)
      · refine ⟨1, Or.inl ⟨rfl, he, h40, fun j hj => hp j (by omega)⟩, fun r => ?_⟩
        simp (disch := omega) only [bd_s, bd2_s, bd3_s, bd4_s, bd5_s, bd6_s, bd7_s, bd8_s, lr_l, lr_r, nm_s, jn_s, gdb_0, gdb_1, li_2, li_3, li_4, li_5, li_6, li_7, li_8, li_9, li_10, li_11, li_12, li_13, li_14, li_15, li_16, li_20, li_24, li_32, li_40, li_41, li_43, li_48, li_57, li_59, li_60, li_62, li_63, li_76, li_96, li_97, li_99, li_100, li_104, li_116, li_122, li_128, li_129, li_216, li_217, li_218, li_219, li_239, li_240, li_255, li_256, li_257, li_400, li_456, li_856, li_999, li_1000, li_1001, li_1002, li_1003, li_1004, li_1005, li_1006, li_1007, li_1008, li_1161, li_2000, li_2001, li_2002, li_2003, li_2004, li_2005, li_5016, li_5472, li_9999, li_10000, li_32767, li_1000000, li_2000000000, nI_add, nI_mul, nI_sub, nI_clamp, nI_leI, nI_ltI, nI_eq, gdi_n, nI_1, nI_eq0, nI_eq1, nI_le0, nI_le1, nI_0le, nI_lt0, nI_0lt, nI_m1, Int32.add_zero, Nat.le_refl, if_true, if_false, Bool.false_eq_true, Bool.true_eq_false, i10, i01, im0, im1, i0m, i1m, l10, l00, l01, t10, t00, e]
      · refine ⟨0, Or.inr ⟨rfl, hp⟩, fun r => ?_⟩
        simp (disch := omega) only [bd_s, bd2_s, bd3_s, bd4_s, bd5_s, bd6_s, bd7_s, bd8_s, lr_l, lr_r, nm_s, jn_s, gdb_0, gdb_1, li_2, li_3, li_4, li_5, li_6, li_7, li_8, li_9, li_10, li_11, li_12, li_13, li_14, li_15, li_16, li_20, li_24, li_32, li_40, li_41, li_43, li_48, li_57, li_59, li_60, li_62, li_63, li_76, li_96, li_97, li_99, li_100, li_104, li_116, li_122, li_128, li_129, li_216, li_217, li_218, li_219, li_239, li_240, li_255, li_256, li_257, li_400, li_456, li_856, li_999, li_1000, li_1001, li_1002, li_1003, li_1004, li_1005, li_1006, li_1007, li_1008, li_1161, li_2000, li_2001, li_2002, li_2003, li_2004, li_2005, li_5016, li_5472, li_9999, li_10000, li_32767, li_1000000, li_2000000000, nI_add, nI_mul, nI_sub, nI_clamp, nI_leI, nI_ltI, nI_eq, gdi_n, nI_1, nI_eq0, nI_eq1, nI_le0, nI_le1, nI_0le, nI_lt0, nI_0lt, nI_m1, Int32.add_zero, Nat.le_refl, if_true, if_false, Bool.false_eq_true, Bool.true_eq_false, i10, i01, im0, im1, i0m, i1m, l10, l00, l01, t10, t00, e]
  obtain ⟨c, h1, ⟨rfl, h2⟩ | ⟨rfl, h2⟩⟩ := H
  · exact ⟨fun _ => h1, fun q => absurd h2 q⟩
  · exact ⟨fun q => absurd q h2, fun _ => h1⟩
theorem q_rowsB {n W : Nat} (hW : g 1 3 = nI W) (w8 : W ≤ 8) (he : n % 2 = 0) (h40 : n ≤ 40) (hb : ∀ k, k < n → Bn (g 7 k) 0 255) : (rk W 7 (g 7) n → f_X12_strokeRows_L30 (nI n) g fu (1, 0) = some 1) ∧ (¬ rk W 7 (g 7) n → f_X12_strokeRows_L30 (nI n) g fu (1, 0) = some 0) := by
  have H : ∃ c, f_X12_strokeRows_L30 (nI n) g fu (1, 0) = some c ∧ ((c = 1 ∧ rk W 7 (g 7) n) ∨ (c = 0 ∧ ¬ rk W 7 (g 7) n)) := by
    refine lp_inv (fun j s => (s = (1, nI (2 * j)) ∧ ∀ i, i < j → tn (g 7 (2 * i)) < W ∧ tn (g 7 (2 * i + 1)) < 7) ∨ (s = (0, nI (2 * j)) ∧ ¬ rk W 7 (g 7) n)) (n / 2) (fun c => (c = 1 ∧ rk W 7 (g 7) n) ∨ (c = 0 ∧ ¬ rk W 7 (g 7) n)) ?_ ?_ (by have := fu_big; omega) (Or.inl ⟨rfl, fun w hw => absurd hw (Nat.not_lt_zero w)⟩)
    · rintro j hj _ (⟨rfl, hp⟩ | ⟨rfl, hp⟩)
      · have nk : ¬ n ≤ 2 * j := by omega
        obtain ⟨a, ha, ta, -, a9⟩ := (hb (2 * j) (by omega)).ex
        obtain ⟨b, hb, tb, -, b9⟩ := (hb (2 * j + 1) (by omega)).ex
        have e2 : 2 * j + 2 = 2 * (j + 1) := by omega
        by_cases c1 : W ≤ a
        · refine Or.inl ⟨(0, nI (2 * (j + 1))), Or.inr ⟨rfl, fun z => ?_⟩, fun r => ?_⟩
          · have := (z.2.2 j (by omega)).1; omega
          · simp (disch := omega) only [bd_s, bd2_s, bd3_s, bd4_s, bd5_s, bd6_s, bd7_s, bd8_s, lr_l, lr_r, nm_s, jn_s, gdb_0, gdb_1, li_2, li_3, li_4, li_5, li_6, li_7, li_8, li_9, li_10, li_11, li_12, li_13, li_14, li_15, li_16, li_20, li_24, li_32, li_40, li_41, li_43, li_48, li_57, li_59, li_60, li_62, li_63, li_76, li_96, li_97, li_99, li_100, li_104, li_116, li_122, li_128, li_129, li_216, li_217, li_218, li_219, li_239, li_240, li_255, li_256, li_257, li_400, li_456, li_856, li_999, li_1000, li_1001, li_1002, li_1003, li_1004, li_1005, li_1006, li_1007, li_1008, li_1161, li_2000, li_2001, li_2002, li_2003, li_2004, li_2005, li_5016, li_5472, li_9999, li_10000, li_32767, li_1000000, li_2000000000, nI_add, nI_mul, nI_sub, nI_clamp, nI_leI, nI_ltI, nI_eq, gdi_n, nI_1, nI_eq0, nI_eq1, nI_le0, nI_le1, nI_0le, nI_lt0, nI_0lt, nI_m1, Int32.add_zero, Nat.le_refl, if_true, if_false, Bool.false_eq_true, Bool.true_eq_false, i10, i01, im0, im1, i0m, i1m, l10, l00, l01, t10, t00, hW, nk, ha, c1, e2]
        · by_cases c2 : 6 < b
          · refine Or.inl ⟨(0, nI (2 * (j + 1))), Or.inr ⟨rfl, fun z => ?_⟩, fun r => ?_⟩
            · have := (z.2.2 j (by omega)).2; omega
            · simp (disch := omega) only [bd_s, bd2_s, bd3_s, bd4_s, bd5_s, bd6_s, bd7_s, bd8_s, lr_l, lr_r, nm_s, jn_s, gdb_0, gdb_1, li_2, li_3, li_4, li_5, li_6, li_7, li_8, li_9, li_10, li_11, li_12, li_13, li_14, li_15, li_16, li_20, li_24, li_32, li_40, li_41, li_43, li_48, li_57, li_59, li_60, li_62, li_63, li_76, li_96, li_97, li_99, li_100, li_104, li_116, li_122, li_128, li_129, li_216, li_217, li_218, li_219, li_239, li_240, li_255, li_256, li_257, li_400, li_456, li_856, li_999, li_1000, li_1001, li_1002, li_1003, li_1004, li_1005, li_1006, li_1007, li_1008, li_1161, li_2000, li_2001, li_2002, li_2003, li_2004, li_2005, li_5016, li_5472, li_9999, li_10000, li_32767, li_1000000, li_2000000000, nI_add, nI_mul, nI_sub, nI_clamp, nI_leI, nI_ltI, nI_eq, gdi_n, nI_1, nI_eq0, nI_eq1, nI_le0, nI_le1, nI_0le, nI_lt0, nI_0lt, nI_m1, Int32.add_zero, Nat.le_refl, if_true, if_false, Bool.false_eq_true, Bool.true_eq_false, i10, i01, im0, im1, i0m, i1m, l10, l00, l01, t10, t00, hW, nk, ha, hb, c1, c2, e2]
          · refine Or.inl ⟨(1, nI (2 * (j + 1))), Or.inl ⟨rfl, fun i hi => ?_⟩, fun r => ?_⟩
            · rcases Nat.lt_succ_iff_lt_or_eq.mp hi with z | z
              · exact hp i z
              · rw [z]; exact ⟨by omega, by omega⟩
            · simp (disch := omega) only [bd_s, bd2_s, bd3_s, bd4_s, bd5_s, bd6_s, bd7_s, bd8_s, lr_l, lr_r, nm_s, jn_s, gdb_0, gdb_1, li_2, li_3, li_4, li_5, li_6, li_7, li_8, li_9, li_10, li_11, li_12, li_13, li_14, li_15, li_16, li_20, li_24, li_32, li_40, li_41, li_43, li_48, li_57, li_59, li_60, li_62, li_63, li_76, li_96, li_97, li_99, li_100, li_104, li_116, li_122, li_128, li_129, li_216, li_217, li_218, li_219, li_239, li_240, li_255, li_256, li_257, li_400, li_456, li_856, li_999, li_1000, li_1001, li_1002, li_1003, li_1004, li_1005, li_1006, li_1007, li_1008, li_1161, li_2000, li_2001, li_2002, li_2003, li_2004, li_2005, li_5016, li_5472, li_9999, li_10000, li_32767, li_1000000, li_2000000000, nI_add, nI_mul, nI_sub, nI_clamp, nI_leI, nI_ltI, nI_eq, gdi_n, nI_1, nI_eq0, nI_eq1, nI_le0, nI_le1, nI_0le, nI_lt0, nI_0lt, nI_m1, Int32.add_zero, Nat.le_refl, if_true, if_false, Bool.false_eq_true, Bool.true_eq_false, i10, i01, im0, im1, i0m, i1m, l10, l00, l01, t10, t00, hW, nk, ha, hb, c1, c2, e2]
      · have nk : ¬ n ≤ 2 * j := by omega
        refine Or.inr ⟨0, Or.inr ⟨rfl, hp⟩, fun r => ?_⟩
        simp (disch := omega) only [bd_s, bd2_s, bd3_s, bd4_s, bd5_s, bd6_s, bd7_s, bd8_s, lr_l, lr_r, nm_s, jn_s, gdb_0, gdb_1, li_2, li_3, li_4, li_5, li_6, li_7, li_8, li_9, li_10, li_11, li_12, li_13, li_14, li_15, li_16, li_20, li_24, li_32, li_40, li_41, li_43, li_48, li_57, li_59, li_60, li_62, li_63, li_76, li_96, li_97, li_99, li_100, li_104, li_116, li_122, li_128, li_129, li_216, li_217, li_218, li_219, li_239, li_240, li_255, li_256, li_257, li_400, li_456, li_856, li_999, li_1000, li_1001, li_1002, li_1003, li_1004, li_1005, li_1006, li_1007, li_1008, li_1161, li_2000, li_2001, li_2002, li_2003, li_2004, li_2005, li_5016, li_5472, li_9999, li_10000, li_32767, li_1000000, li_2000000000, nI_add, nI_mul, nI_sub, nI_clamp, nI_leI, nI_ltI, nI_eq, gdi_n, nI_1, nI_eq0, nI_eq1, nI_le0, nI_le1, nI_0le, nI_lt0, nI_0lt, nI_m1, Int32.add_zero, Nat.le_refl, if_true, if_false, Bool.false_eq_true, Bool.true_eq_false, i10, i01, im0, im1, i0m, i1m, l10, l00, l01, t10, t00, nk]
    · have e : n ≤ 2 * (n / 2) := by omega
      rintro _ (⟨rfl, hp⟩ | ⟨rfl, hp⟩)
      · refine ⟨1, Or.inl ⟨rfl, he, h40, fun j hj => hp j (by omega)⟩, fun r => ?_⟩
        simp (disch := omega) only [bd_s, bd2_s, bd3_s, bd4_s, bd5_s, bd6_s, bd7_s, bd8_s, lr_l, lr_r, nm_s, jn_s, gdb_0, gdb_1, li_2, li_3, li_4, li_5, li_6, li_7, li_8, li_9, li_10, li_11, li_12, li_13, li_14, li_15, li_16, li_20, li_24, li_32, li_40, li_41, li_43, li_48, li_57, li_59, li_60, li_62, li_63, li_76, li_96, li_97, li_99, li_100, li_104, li_116, li_122, li_128, li_129, li_216, li_217, li_218, li_219, li_239, li_240, li_255, li_256, li_257, li_400, li_456, li_856, li_999, li_1000, li_1001, li_1002, li_1003, li_1004, li_1005, li_1006, li_1007, li_1008, li_1161, li_2000, li_2001, li_2002, li_2003, li_2004, li_2005, li_5016, li_5472, li_9999, li_10000, li_32767, li_1000000, li_2000000000, nI_add, nI_mul, nI_sub, nI_clamp, nI_leI, nI_ltI, nI_eq, gdi_n, nI_1, nI_eq0, nI_eq1, nI_le0, nI_le1, nI_0le, nI_lt0, nI_0lt, nI_m1, Int32.add_zero, Nat.le_refl, if_true, if_false, Bool.false_eq_true, Bool.true_eq_false, i10, i01, im0, im1, i0m, i1m, l10, l00, l01, t10, t00, e]
      · refine ⟨0, Or.inr ⟨rfl, hp⟩, fun r => ?_⟩
        simp (disch := omega) only [bd_s, bd2_s, bd3_s, bd4_s, bd5_s, bd6_s, bd7_s, bd8_s, lr_l, lr_r, nm_s, jn_s, gdb_0, gdb_1, li_2, li_3, li_4, li_5, li_6, li_7, li_8, li_9, li_10, li_11, li_12, li_13, li_14, li_15, li_16, li_20, li_24, li_32, li_40, li_41, li_43, li_48, li_57, li_59, li_60, li_62, li_63, li_76, li_96, li_97, li_99, li_100, li_104, li_116, li_122, li_128, li_129, li_216, li_217, li_218, li_219, li_239, li_240, li_255, li_256, li_257, li_400, li_456, li_856, li_999, li_1000, li_1001, li_1002, li_1003, li_1004, li_1005, li_1006, li_1007, li_1008, li_1161, li_2000, li_2001, li_2002, li_2003, li_2004, li_2005, li_5016, li_5472, li_9999, li_10000, li_32767, li_1000000, li_2000000000, nI_add, nI_mul, nI_sub, nI_clamp, nI_leI, nI_ltI, nI_eq, gdi_n, nI_1, nI_eq0, nI_eq1, nI_le0, nI_le1, nI_0le, nI_lt0, nI_0lt, nI_m1, Int32.add_zero, Nat.le_refl, if_true, if_false, Bool.false_eq_true, Bool.true_eq_false, i10, i01, im0, im1, i0m, i1m, l10, l00, l01, t10, t00, e]
  obtain ⟨c, h1, ⟨rfl, h2⟩ | ⟨rfl, h2⟩⟩ := H
  · exact ⟨fun _ => h1, fun q => absurd h2 q⟩
  · exact ⟨fun q => absurd q h2, fun _ => h1⟩
theorem k_first1 {j : Nat} (hj : 2 * j + 1 < 400) (gK gT gS : Pic) : f_X1_firstOf gK gT gS (nI j) = some (gT 0 (2 * j)) ∧ f_X1_secondOf gK gT gS (nI j) = some (gT 0 (2 * j + 1)) := by
  unfold f_X1_firstOf f_X1_secondOf
  constructor <;> simp (disch := omega) only [bd_s, bd2_s, bd3_s, bd4_s, bd5_s, bd6_s, bd7_s, bd8_s, lr_l, lr_r, nm_s, jn_s, gdb_0, gdb_1, li_2, li_3, li_4, li_5, li_6, li_7, li_8, li_9, li_10, li_11, li_12, li_13, li_14, li_15, li_16, li_20, li_24, li_32, li_40, li_41, li_43, li_48, li_57, li_59, li_60, li_62, li_63, li_76, li_96, li_97, li_99, li_100, li_104, li_116, li_122, li_128, li_129, li_216, li_217, li_218, li_219, li_239, li_240, li_255, li_256, li_257, li_400, li_456, li_856, li_999, li_1000, li_1001, li_1002, li_1003, li_1004, li_1005, li_1006, li_1007, li_1008, li_1161, li_2000, li_2001, li_2002, li_2003, li_2004, li_2005, li_5016, li_5472, li_9999, li_10000, li_32767, li_1000000, li_2000000000, nI_add, nI_mul, nI_sub, nI_clamp, nI_leI, nI_ltI, nI_eq, gdi_n, nI_1, nI_eq0, nI_eq1, nI_le0, nI_le1, nI_0le, nI_lt0, nI_0lt, nI_m1, Int32.add_zero, Nat.le_refl, if_true, if_false, Bool.false_eq_true, Bool.true_eq_false, i10, i01, im0, im1, i0m, i1m, l10, l00, l01, t10, t00]
/-- the class's own test -/
theorem k_rows (hT : RT gT g) {A B : Nat} (hA : A ≤ 8) (hB : B ≤ 8) (gK gS : Pic) : (rk A B (g 7) (tn (g 8 0)) → f_X1_takeRows gK gT gS (nI A) (nI B) = some (1, pu gK 5 0 (nI (tn (g 8 0) / 2)), pu gT 1 0 0)) ∧ (¬ rk A B (g 7) (tn (g 8 0)) → f_X1_takeRows gK gT gS (nI A) (nI B) = some (0, pu gK 5 0 (nI (tn (g 8 0) / 2)), pu gT 1 0 0)) := by
  obtain ⟨h8, h1, hb⟩ := hT
  obtain ⟨n, hn, t8, -, n4⟩ := h8.ex
  rw [t8] at hb ⊢
  have g1 := h1.trans hn
  unfold f_X1_takeRows
  have d2 : nI n / 2 = nI (n / 2) := by rw [li_2, nI_div (by omega) (by omega)]
  have m2 : nI n - nI (n / 2) * 2 = nI (n % 2) := by rw [← d2]; exact nI_mod2 (by omega)
  by_cases c1 : 40 < n
  · have nr : ¬ rk A B (g 7) n := fun z => by have := z.2.1; omega
    refine ⟨fun q => absurd q nr, fun _ => ?_⟩
    simp (disch := omega) only [bd_s, bd2_s, bd3_s, bd4_s, bd5_s, bd6_s, bd7_s, bd8_s, lr_l, lr_r, nm_s, jn_s, gdb_0, gdb_1, li_40, g1, d2, nI_ltI, c1, if_true]
  · by_cases c2 : n % 2 = 0
    · have H : ∃ c, f_X1_takeRows_L40 (nI A) (nI B) (pu gK 5 0 (nI (n / 2))) (pu gT 1 0 0) gS fu 0 = some c ∧ ((c = .inr () ∧ rk A B (g 7) n) ∨ (c = .inl (0, pu gK 5 0 (nI (n / 2)), pu gT 1 0 0) ∧ ¬ rk A B (g 7) n)) := by
        refine lp_inv (fun j s => s = nI j ∧ ∀ i, i < j → tn (g 7 (2 * i)) < A ∧ tn (g 7 (2 * i + 1)) < B) (n / 2) (fun c : (Int32 × Pic × Pic) ⊕ Unit => (c = .inr () ∧ rk A B (g 7) n) ∨ (c = .inl (0, pu gK 5 0 (nI (n / 2)), pu gT 1 0 0) ∧ ¬ rk A B (g 7) n)) ?_ ?_ (by have := fu_big; omega) ⟨rfl, fun w hw => absurd hw (Nat.not_lt_zero w)⟩
        · rintro j hj _ ⟨rfl, hp⟩
          have nk : ¬ n / 2 ≤ j := by omega
          obtain ⟨a, ha, ta, -, a9⟩ := (hb (2 * j) (by omega)).2.ex
          obtain ⟨b, hbb, tb, -, b9⟩ := (hb (2 * j + 1) (by omega)).2.ex
          have ga := (hb (2 * j) (by omega)).1.trans ha
          have gb := (hb (2 * j + 1) (by omega)).1.trans hbb
          obtain ⟨f1, f2⟩ := k_first1 (j := j) (by omega) (pu gK 5 0 (nI (n / 2))) (pu gT 1 0 0) gS
          rw [show (pu gT 1 0 0) 0 = gT 0 from rfl] at f1 f2
          rw [ga] at f1
          rw [gb] at f2
          have e5 : (pu gK 5 0 (nI (n / 2))) 5 0 = nI (n / 2) := rfl
          by_cases q1 : A ≤ a
          · refine Or.inr ⟨.inl (0, pu gK 5 0 (nI (n / 2)), pu gT 1 0 0), Or.inr ⟨rfl, fun z => ?_⟩, fun r => ?_⟩
            · have := (z.2.2 j (by omega)).1; omega
            · simp (disch := omega) only [bd_s, bd2_s, bd3_s, bd4_s, bd5_s, bd6_s, bd7_s, bd8_s, lr_l, lr_r, nm_s, jn_s, gdb_0, gdb_1, li_2, li_3, li_4, li_5, li_6, li_7, li_8, li_9, li_10, li_11, li_12, li_13, li_14, li_15, li_16, li_20, li_24, li_32, li_40, li_41, li_43, li_48, li_57, li_59, li_60, li_62, li_63, li_76, li_96, li_97, li_99, li_100, li_104, li_116, li_122, li_128, li_129, li_216, li_217, li_218, li_219, li_239, li_240, li_255, li_256, li_257, li_400, li_456, li_856, li_999, li_1000, li_1001, li_1002, li_1003, li_1004, li_1005, li_1006, li_1007, li_1008, li_1161, li_2000, li_2001, li_2002, li_2003, li_2004, li_2005, li_5016, li_5472, li_9999, li_10000, li_32767, li_1000000, li_2000000000, nI_add, nI_mul, nI_sub, nI_clamp, nI_leI, nI_ltI, nI_eq, gdi_n, nI_1, nI_eq0, nI_eq1, nI_le0, nI_le1, nI_0le, nI_lt0, nI_0lt, nI_m1, Int32.add_zero, Nat.le_refl, if_true, if_false, Bool.false_eq_true, Bool.true_eq_false, i10, i01, im0, im1, i0m, i1m, l10, l00, l01, t10, t00, e5, nk, f1, q1]
          · by_cases q2 : b < B
            · refine Or.inl ⟨nI (j + 1), ⟨rfl, fun i hi => ?_⟩, fun r => ?_⟩
              · rcases Nat.lt_succ_iff_lt_or_eq.mp hi with z | z
                · exact hp i z
                · rw [z]; exact ⟨by omega, by omega⟩
              · simp (disch := omega) only [bd_s, bd2_s, bd3_s, bd4_s, bd5_s, bd6_s, bd7_s, bd8_s, lr_l, lr_r, nm_s, jn_s, gdb_0, gdb_1, li_2, li_3, li_4, li_5, li_6, li_7, li_8, li_9, li_10, li_11, li_12, li_13, li_14, li_15, li_16, li_20, li_24, li_32, li_40, li_41, li_43, li_48, li_57, li_59, li_60, li_62, li_63, li_76, li_96, li_97, li_99, li_100, li_104, li_116, li_122, li_128, li_129, li_216, li_217, li_218, li_219, li_239, li_240, li_255, li_256, li_257, li_400, li_456, li_856, li_999, li_1000, li_1001, li_1002, li_1003, li_1004, li_1005, li_1006, li_1007, li_1008, li_1161, li_2000, li_2001, li_2002, li_2003, li_2004, li_2005, li_5016, li_5472, li_9999, li_10000, li_32767, li_1000000, li_2000000000, nI_add, nI_mul, nI_sub, nI_clamp, nI_leI, nI_ltI, nI_eq, gdi_n, nI_1, nI_eq0, nI_eq1, nI_le0, nI_le1, nI_0le, nI_lt0, nI_0lt, nI_m1, Int32.add_zero, Nat.le_refl, if_true, if_false, Bool.false_eq_true, Bool.true_eq_false, i10, i01, im0, im1, i0m, i1m, l10, l00, l01, t10, t00, e5, nk, f1, f2, q1, q2]
            · refine Or.inr ⟨.inl (0, pu gK 5 0 (nI (n / 2)), pu gT 1 0 0), Or.inr ⟨rfl, fun z => ?_⟩, fun r => ?_⟩
              · have := (z.2.2 j (by omega)).2; omega
              · simp (disch := omega) only [bd_s, bd2_s, bd3_s, bd4_s, bd5_s, bd6_s, bd7_s, bd8_s, lr_l, lr_r, nm_s, jn_s, gdb_0, gdb_1, li_2, li_3, li_4, li_5, li_6, li_7, li_8, li_9, li_10, li_11, li_12, li_13, li_14, li_15, li_16, li_20, li_24, li_32, li_40, li_41, li_43, li_48, li_57, li_59, li_60, li_62, li_63, li_76, li_96, li_97, li_99, li_100, li_104, li_116, li_122, li_128, li_129, li_216, li_217, li_218, li_219, li_239, li_240, li_255, li_256, li_257, li_400, li_456, li_856, li_999, li_1000, li_1001, li_1002, li_1003, li_1004, li_1005, li_1006, li_1007, li_1008, li_1161, li_2000, li_2001, li_2002, li_2003, li_2004, li_2005, li_5016, li_5472, li_9999, li_10000, li_32767, li_1000000, li_2000000000, nI_add, nI_mul, nI_sub, nI_clamp, nI_leI, nI_ltI, nI_eq, gdi_n, nI_1, nI_eq0, nI_eq1, nI_le0, nI_le1, nI_0le, nI_lt0, nI_0lt, nI_m1, Int32.add_zero, Nat.le_refl, if_true, if_false, Bool.false_eq_true, Bool.true_eq_false, i10, i01, im0, im1, i0m, i1m, l10, l00, l01, t10, t00, e5, nk, f1, f2, q1, q2]
        · rintro _ ⟨rfl, hp⟩
          have e5 : (pu gK 5 0 (nI (n / 2))) 5 0 = nI (n / 2) := rfl
          refine ⟨.inr (), Or.inl ⟨rfl, c2, by omega, fun j hj => hp j (by omega)⟩, fun r => ?_⟩
          simp (disch := omega) only [bd_s, bd2_s, bd3_s, bd4_s, bd5_s, bd6_s, bd7_s, bd8_s, lr_l, lr_r, nm_s, jn_s, gdb_0, gdb_1, li_2, li_3, li_4, li_5, li_6, li_7, li_8, li_9, li_10, li_11, li_12, li_13, li_14, li_15, li_16, li_20, li_24, li_32, li_40, li_41, li_43, li_48, li_57, li_59, li_60, li_62, li_63, li_76, li_96, li_97, li_99, li_100, li_104, li_116, li_122, li_128, li_129, li_216, li_217, li_218, li_219, li_239, li_240, li_255, li_256, li_257, li_400, li_456, li_856, li_999, li_1000, li_1001, li_1002, li_1003, li_1004, li_1005, li_1006, li_1007, li_1008, li_1161, li_2000, li_2001, li_2002, li_2003, li_2004, li_2005, li_5016, li_5472, li_9999, li_10000, li_32767, li_1000000, li_2000000000, nI_add, nI_mul, nI_sub, nI_clamp, nI_leI, nI_ltI, nI_eq, gdi_n, nI_1, nI_eq0, nI_eq1, nI_le0, nI_le1, nI_0le, nI_lt0, nI_0lt, nI_m1, Int32.add_zero, Nat.le_refl, if_true, if_false, Bool.false_eq_true, Bool.true_eq_false, i10, i01, im0, im1, i0m, i1m, l10, l00, l01, t10, t00, e5]
          done
      obtain ⟨c, h1, ⟨rfl, h2⟩ | ⟨rfl, h2⟩⟩ := H
      · refine ⟨fun _ => ?_, fun q => absurd h2 q⟩
        simp (disch := omega) only [bd_s, bd2_s, bd3_s, bd4_s, bd5_s, bd6_s, bd7_s, bd8_s, lr_l, lr_r, nm_s, jn_s, gdb_0, gdb_1, li_40, g1, d2, m2, nI_ltI, c1, if_false, c2, nI_0, if_true, h1]
      · refine ⟨fun q => absurd q h2, fun _ => ?_⟩
        simp (disch := omega) only [bd_s, bd2_s, bd3_s, bd4_s, bd5_s, bd6_s, bd7_s, bd8_s, lr_l, lr_r, nm_s, jn_s, gdb_0, gdb_1, li_40, g1, d2, m2, nI_ltI, c1, if_false, c2, nI_0, if_true, h1]
    · have nr : ¬ rk A B (g 7) n := fun z => c2 z.1
      refine ⟨fun q => absurd q nr, fun _ => ?_⟩
      have z : ¬ nI (n % 2) = 0 := by rw [nI_eq0 (by omega)]; exact c2
      simp (disch := omega) only [bd_s, bd2_s, bd3_s, bd4_s, bd5_s, bd6_s, bd7_s, bd8_s, lr_l, lr_r, nm_s, jn_s, gdb_0, gdb_1, li_40, g1, d2, m2, nI_ltI, c1, if_false, z]
/-! wrong rows -/
def wrS (m t : Nat → Int32) (w : Nat) : Nat → Nat := itr (fun j s => if wd m w (tn (t (2 * j))) = t (2 * j + 1) then s else s + 1) 0
theorem wrS_s (m t : Nat → Int32) (w j : Nat) : wrS m t w (j + 1) = if wd m w (tn (t (2 * j))) = t (2 * j + 1) then wrS m t w j else wrS m t w j + 1 := rfl
theorem wrS_le (m t : Nat → Int32) (w j : Nat) : wrS m t w j ≤ j := by
  induction j with
  | zero => exact Nat.le_refl 0
  | succ n ih => rw [wrS_s]; split <;> omega
def fwS (m t : Nat → Int32) (n : Nat) : Nat → Nat := itr (fun w s => if 1 < wrS m t w (n / 2) then s else s ||| 2 ^ w) 0
theorem fwS_s (m t : Nat → Int32) (n w : Nat) : fwS m t n (w + 1) = if 1 < wrS m t w (n / 2) then fwS m t n w else fwS m t n w ||| 2 ^ w := rfl
theorem fwS_lt (m t : Nat → Int32) (n : Nat) {w : Nat} (hw : w ≤ 8) : fwS m t n w < 2 ^ 8 := by
  induction w with
  | zero => exact Nat.two_pow_pos 8
  | succ w ih =>
    rw [fwS_s]
    split
    · exact ih (by omega)
    · exact Nat.or_lt_two_pow (ih (by omega)) (Nat.pow_lt_pow_right (by decide) (by omega))
theorem bt_n {s i : Nat} (hi : i < 32) : bt (nI s) i = s.testBit i := by
  show (BitVec.ofNat 32 s).getLsbD i = _
  rw [BitVec.getLsbD_ofNat, decide_eq_true hi, Bool.true_and]
theorem fwS_bt (m t : Nat → Int32) (n : Nat) {w o : Nat} : (fwS m t n w).testBit o = decide (o < w ∧ ¬ 1 < wrS m t o (n / 2)) := by
  induction w with
  | zero => show (0 : Nat).testBit o = _; simp
  | succ w ih =>
    rw [fwS_s]
    by_cases e : o = w
    · subst e
      split
      · rename_i h; rw [ih]; simp [h]
      · rename_i h; rw [Nat.testBit_or, ih, Nat.testBit_two_pow_self]; simp [h]
    · have e2 : (o < w + 1) = (o < w) := propext ⟨fun z => by omega, fun z => by omega⟩
      split
      · rw [ih]; simp only [e2]
      · rw [Nat.testBit_or, ih, Nat.testBit_two_pow]; simp only [e2]; simp [Ne.symm e]
theorem sh_n {w : Nat} (hw : w < 31) : (1 : Int32) <<< (nI w &&& 31) = nI (2 ^ w) := by
  have := nx_shl (a := 1) (n := w) (by omega)
  rwa [Nat.one_mul] at this
theorem q_hears (hO : Ok (g 1)) (hT : RT gT g) : (rk 6 8 (g 7) (tn (g 8 0)) → ∃ g', f_X12_hears g = some (nI (fwS (g 1) (g 7) (tn (g 8 0)) (tn (g 1 3))), g') ∧ Es (pu (pu g 8 0 0) 0 0 0) g' ∧ ∀ w, w < tn (g 1 3) → g' 25 w = nI (wrS (g 1) (g 7) w (tn (g 8 0) / 2))) ∧ (¬ rk 6 8 (g 7) (tn (g 8 0)) → f_X12_hears g = some (0, pu (pu g 8 0 0) 0 0 1)) := by
  obtain ⟨h8, h1, hb⟩ := hT
  obtain ⟨n, hn, t8, -, n4⟩ := h8.ex
  obtain ⟨W, hW, tW, -, w8⟩ := hO.W.ex
  rw [t8] at hb ⊢
  rw [tW]
  have bad : ¬ rk 6 8 (g 7) n → f_X12_hears_L93 (nI n) 0 fu (0, 0, pu (pu g 8 0 0) 0 0 1) = some (0, pu (pu g 8 0 0) 0 0 1) := fun _ => by
    refine lp_seq (fun _ => (0, 0, pu (pu g 8 0 0) 0 0 1)) 0 _ (fun k hk => absurd hk (Nat.not_lt_zero k)) (fun r => ?_) (by have := fu_big; omega) rfl
    simp only [if_true]
    split <;> rfl
  unfold f_X12_hears
  by_cases c1 : n % 2 = 0 ∧ n ≤ 40
  · have c2 : ¬ 40 < n := by omega
    have qr := q_rowsA (g := pu g 8 0 0) c1.1 c1.2 (fun k hk => (hb k hk).2)
    rw [show (pu g 8 0 0) 7 = g 7 from rfl] at qr
    by_cases q : rk 6 8 (g 7) n
    · refine ⟨fun _ => ?_, fun z => absurd q z⟩
      have H : ∃ c, f_X12_hears_L93 (nI n) 1 fu (0, 0, pu (pu g 8 0 0) 0 0 0) = some c ∧ ∃ g', c = (nI (fwS (g 1) (g 7) n W), g') ∧ Es (pu (pu g 8 0 0) 0 0 0) g' ∧ ∀ w, w < W → g' 25 w = nI (wrS (g 1) (g 7) w (n / 2)) := by
        refine lp_inv (fun k s => ∃ y : Pic, s = (nI (fwS (g 1) (g 7) n k), nI k, y) ∧ Es (pu (pu g 8 0 0) 0 0 0) y ∧ ∀ w, w < k → y 25 w = nI (wrS (g 1) (g 7) w (n / 2))) W (fun c : Int32 × Pic => ∃ g', c = (nI (fwS (g 1) (g 7) n W), g') ∧ Es (pu (pu g 8 0 0) 0 0 0) g' ∧ ∀ w, w < W → g' 25 w = nI (wrS (g 1) (g 7) w (n / 2))) ?_ ?_ (by have := fu_big; omega) ⟨_, rfl, Es.rf _, fun w hw => absurd hw (Nat.not_lt_zero w)⟩
        · rintro k hk _ ⟨y, rfl, hE, hw⟩
          have nk : ¬ W ≤ k := by omega
          have hk' : k < tn (g 1 3) := by omega
          have hm : y 1 = g 1 := hE.m
          have h7 : y 7 = g 7 := hE.2.2.2.2.2.1
          have I : ∃ c, f_X12_hears_L119 (nI n) 1 (nI (fwS (g 1) (g 7) n k)) (nI k) fu (0, pu y 25 k 0) = some c ∧ Es (pu (pu g 8 0 0) 0 0 0) c ∧ (∀ w, w < k → c 25 w = nI (wrS (g 1) (g 7) w (n / 2))) ∧ c 25 k = nI (wrS (g 1) (g 7) k (n / 2)) := by
            refine lp_inv (fun j s => ∃ z : Pic, s = (nI (2 * j), z) ∧ Es (pu (pu g 8 0 0) 0 0 0) z ∧ (∀ w, w < k → z 25 w = nI (wrS (g 1) (g 7) w (n / 2))) ∧ z 25 k = nI (wrS (g 1) (g 7) k j)) (n / 2) (fun c : Pic => Es (pu (pu g 8 0 0) 0 0 0) c ∧ (∀ w, w < k → c 25 w = nI (wrS (g 1) (g 7) w (n / 2))) ∧ c 25 k = nI (wrS (g 1) (g 7) k (n / 2))) ?_ ?_ (by have := fu_big; omega) ⟨_, rfl, hE.pu (by decide), fun w h' => by rw [pu_s, if_neg (by omega)]; exact hw w h', by rw [pu_s, if_pos rfl]; rfl⟩
            · rintro j hj _ ⟨z, rfl, hE', z1, z2⟩
              have nj : ¬ n ≤ 2 * j := by omega
              have hm' : z 1 = g 1 := hE'.m
              have h7' : z 7 = g 7 := hE'.2.2.2.2.2.1
              obtain ⟨a, ha, ta, -, a9⟩ := (hb (2 * j) (by omega)).2.ex
              have a6 := (q.2.2 j (by omega)).1
              rw [ta] at a6
              have e2 : 2 * j + 2 = 2 * (j + 1) := by omega
              have es := wrS_s (g 1) (g 7) k j
              rw [ta] at es
              by_cases e : wd (g 1) k a = g 7 (2 * j + 1)
              · rw [if_pos e] at es
                refine Or.inl ⟨(nI (2 * (j + 1)), pu z 25 k (nI (wrS (g 1) (g 7) k (j + 1)))), ⟨_, rfl, hE'.pu (by decide), fun w h' => by rw [pu_s, if_neg (by omega)]; exact z1 w h', by rw [pu_s, if_pos rfl]⟩, fun r => ?_⟩
                rw [es]
                simp (disch := omega) only [bd_s, bd2_s, bd3_s, bd4_s, bd5_s, bd6_s, bd7_s, bd8_s, lr_l, lr_r, nm_s, jn_s, gdb_0, gdb_1, li_2, li_3, li_4, li_5, li_6, li_7, li_8, li_9, li_10, li_11, li_12, li_13, li_14, li_15, li_16, li_20, li_24, li_32, li_40, li_41, li_43, li_48, li_57, li_59, li_60, li_62, li_63, li_76, li_96, li_97, li_99, li_100, li_104, li_116, li_122, li_128, li_129, li_216, li_217, li_218, li_219, li_239, li_240, li_255, li_256, li_257, li_400, li_456, li_856, li_999, li_1000, li_1001, li_1002, li_1003, li_1004, li_1005, li_1006, li_1007, li_1008, li_1161, li_2000, li_2001, li_2002, li_2003, li_2004, li_2005, li_5016, li_5472, li_9999, li_10000, li_32767, li_1000000, li_2000000000, nI_add, nI_mul, nI_sub, nI_clamp, nI_leI, nI_ltI, nI_eq, gdi_n, nI_1, nI_eq0, nI_eq1, nI_le0, nI_le1, nI_0le, nI_lt0, nI_0lt, nI_m1, Int32.add_zero, Nat.le_refl, if_true, if_false, Bool.false_eq_true, Bool.true_eq_false, i10, i01, im0, im1, i0m, i1m, l10, l00, l01, t10, t00, nj, h7', ha, hm', q_ofWord, e, z2, e2]
              · rw [if_neg e] at es
                refine Or.inl ⟨(nI (2 * (j + 1)), pu z 25 k (nI (wrS (g 1) (g 7) k (j + 1)))), ⟨_, rfl, hE'.pu (by decide), fun w h' => by rw [pu_s, if_neg (by omega)]; exact z1 w h', by rw [pu_s, if_pos rfl]⟩, fun r => ?_⟩
                rw [es]
                simp (disch := omega) only [bd_s, bd2_s, bd3_s, bd4_s, bd5_s, bd6_s, bd7_s, bd8_s, lr_l, lr_r, nm_s, jn_s, gdb_0, gdb_1, li_2, li_3, li_4, li_5, li_6, li_7, li_8, li_9, li_10, li_11, li_12, li_13, li_14, li_15, li_16, li_20, li_24, li_32, li_40, li_41, li_43, li_48, li_57, li_59, li_60, li_62, li_63, li_76, li_96, li_97, li_99, li_100, li_104, li_116, li_122, li_128, li_129, li_216, li_217, li_218, li_219, li_239, li_240, li_255, li_256, li_257, li_400, li_456, li_856, li_999, li_1000, li_1001, li_1002, li_1003, li_1004, li_1005, li_1006, li_1007, li_1008, li_1161, li_2000, li_2001, li_2002, li_2003, li_2004, li_2005, li_5016, li_5472, li_9999, li_10000, li_32767, li_1000000, li_2000000000, nI_add, nI_mul, nI_sub, nI_clamp, nI_leI, nI_ltI, nI_eq, gdi_n, nI_1, nI_eq0, nI_eq1, nI_le0, nI_le1, nI_0le, nI_lt0, nI_0lt, nI_m1, Int32.add_zero, Nat.le_refl, if_true, if_false, Bool.false_eq_true, Bool.true_eq_false, i10, i01, im0, im1, i0m, i1m, l10, l00, l01, t10, t00, nj, h7', ha, hm', q_ofWord, e, z2, e2]
            · rintro _ ⟨z, rfl, hE', z1, z2⟩
              have nj : n ≤ 2 * (n / 2) := by omega
              refine ⟨z, ⟨hE', z1, z2⟩, fun r => ?_⟩
              simp (disch := omega) only [bd_s, bd2_s, bd3_s, bd4_s, bd5_s, bd6_s, bd7_s, bd8_s, lr_l, lr_r, nm_s, jn_s, gdb_0, gdb_1, li_2, li_3, li_4, li_5, li_6, li_7, li_8, li_9, li_10, li_11, li_12, li_13, li_14, li_15, li_16, li_20, li_24, li_32, li_40, li_41, li_43, li_48, li_57, li_59, li_60, li_62, li_63, li_76, li_96, li_97, li_99, li_100, li_104, li_116, li_122, li_128, li_129, li_216, li_217, li_218, li_219, li_239, li_240, li_255, li_256, li_257, li_400, li_456, li_856, li_999, li_1000, li_1001, li_1002, li_1003, li_1004, li_1005, li_1006, li_1007, li_1008, li_1161, li_2000, li_2001, li_2002, li_2003, li_2004, li_2005, li_5016, li_5472, li_9999, li_10000, li_32767, li_1000000, li_2000000000, nI_add, nI_mul, nI_sub, nI_clamp, nI_leI, nI_ltI, nI_eq, gdi_n, nI_1, nI_eq0, nI_eq1, nI_le0, nI_le1, nI_0le, nI_lt0, nI_0lt, nI_m1, Int32.add_zero, Nat.le_refl, if_true, if_false, Bool.false_eq_true, Bool.true_eq_false, i10, i01, im0, im1, i0m, i1m, l10, l00, l01, t10, t00, nj]
          obtain ⟨z, I1, I2, I3, I4⟩ := I
          have wl := wrS_le (g 1) (g 7) k (n / 2)
          refine Or.inl ⟨(nI (fwS (g 1) (g 7) n (k + 1)), nI (k + 1), z), ⟨z, rfl, I2, fun w h' => ?_⟩, fun r => ?_⟩
          · rcases Nat.lt_succ_iff_lt_or_eq.mp h' with q | q
            · exact I3 w q
            · rw [q]; exact I4
          · rw [fwS_s]
            by_cases e : 1 < wrS (g 1) (g 7) k (n / 2)
            · simp (disch := omega) only [bd_s, bd2_s, bd3_s, bd4_s, bd5_s, bd6_s, bd7_s, bd8_s, lr_l, lr_r, nm_s, jn_s, gdb_0, gdb_1, li_2, li_3, li_4, li_5, li_6, li_7, li_8, li_9, li_10, li_11, li_12, li_13, li_14, li_15, li_16, li_20, li_24, li_32, li_40, li_41, li_43, li_48, li_57, li_59, li_60, li_62, li_63, li_76, li_96, li_97, li_99, li_100, li_104, li_116, li_122, li_128, li_129, li_216, li_217, li_218, li_219, li_239, li_240, li_255, li_256, li_257, li_400, li_456, li_856, li_999, li_1000, li_1001, li_1002, li_1003, li_1004, li_1005, li_1006, li_1007, li_1008, li_1161, li_2000, li_2001, li_2002, li_2003, li_2004, li_2005, li_5016, li_5472, li_9999, li_10000, li_32767, li_1000000, li_2000000000, nI_add, nI_mul, nI_sub, nI_clamp, nI_leI, nI_ltI, nI_eq, gdi_n, nI_1, nI_eq0, nI_eq1, nI_le0, nI_le1, nI_0le, nI_lt0, nI_0lt, nI_m1, Int32.add_zero, Nat.le_refl, if_true, if_false, Bool.false_eq_true, Bool.true_eq_false, i10, i01, im0, im1, i0m, i1m, l10, l00, l01, t10, t00, hm, hW, nk, I1, I4, nI_1lt, e, Int32.or_zero]
            · simp (disch := omega) only [bd_s, bd2_s, bd3_s, bd4_s, bd5_s, bd6_s, bd7_s, bd8_s, lr_l, lr_r, nm_s, jn_s, gdb_0, gdb_1, li_2, li_3, li_4, li_5, li_6, li_7, li_8, li_9, li_10, li_11, li_12, li_13, li_14, li_15, li_16, li_20, li_24, li_32, li_40, li_41, li_43, li_48, li_57, li_59, li_60, li_62, li_63, li_76, li_96, li_97, li_99, li_100, li_104, li_116, li_122, li_128, li_129, li_216, li_217, li_218, li_219, li_239, li_240, li_255, li_256, li_257, li_400, li_456, li_856, li_999, li_1000, li_1001, li_1002, li_1003, li_1004, li_1005, li_1006, li_1007, li_1008, li_1161, li_2000, li_2001, li_2002, li_2003, li_2004, li_2005, li_5016, li_5472, li_9999, li_10000, li_32767, li_1000000, li_2000000000, nI_add, nI_mul, nI_sub, nI_clamp, nI_leI, nI_ltI, nI_eq, gdi_n, nI_1, nI_eq0, nI_eq1, nI_le0, nI_le1, nI_0le, nI_lt0, nI_0lt, nI_m1, Int32.add_zero, Nat.le_refl, if_true, if_false, Bool.false_eq_true, Bool.true_eq_false, i10, i01, im0, im1, i0m, i1m, l10, l00, l01, t10, t00, hm, hW, nk, I1, I4, nI_1lt, e, sh_n, nx_or]
        · rintro _ ⟨y, rfl, hE, hw⟩
          have hm : y 1 = g 1 := hE.m
          refine ⟨_, ⟨y, rfl, hE, hw⟩, fun r => ?_⟩
          simp (disch := omega) only [bd_s, bd2_s, bd3_s, bd4_s, bd5_s, bd6_s, bd7_s, bd8_s, lr_l, lr_r, nm_s, jn_s, gdb_0, gdb_1, li_2, li_3, li_4, li_5, li_6, li_7, li_8, li_9, li_10, li_11, li_12, li_13, li_14, li_15, li_16, li_20, li_24, li_32, li_40, li_41, li_43, li_48, li_57, li_59, li_60, li_62, li_63, li_76, li_96, li_97, li_99, li_100, li_104, li_116, li_122, li_128, li_129, li_216, li_217, li_218, li_219, li_239, li_240, li_255, li_256, li_257, li_400, li_456, li_856, li_999, li_1000, li_1001, li_1002, li_1003, li_1004, li_1005, li_1006, li_1007, li_1008, li_1161, li_2000, li_2001, li_2002, li_2003, li_2004, li_2005, li_5016, li_5472, li_9999, li_10000, li_32767, li_1000000, li_2000000000, nI_add, nI_mul, nI_sub, nI_clamp, nI_leI, nI_ltI, nI_eq, gdi_n, nI_1, nI_eq0, nI_eq1, nI_le0, nI_le1, nI_0le, nI_lt0, nI_0lt, nI_m1, Int32.add_zero, Nat.le_refl, if_true, if_false, Bool.false_eq_true, Bool.true_eq_false, i10, i01, im0, im1, i0m, i1m, l10, l00, l01, t10, t00, hm, hW]
          done
      obtain ⟨c, H1, g', rfl, H2, H3⟩ := H
      refine ⟨g', ?_, H2, H3⟩
      simp (disch := omega) only [bd_s, bd2_s, bd3_s, bd4_s, bd5_s, bd6_s, bd7_s, bd8_s, lr_l, lr_r, nm_s, jn_s, gdb_0, gdb_1, li_40, hn, nI_mod2, nI_ltI, c2, if_false, c1.1, nI_0, if_true, qr.1 q, i10, H1]
    · refine ⟨fun z => absurd z q, fun _ => ?_⟩
      simp (disch := omega) only [bd_s, bd2_s, bd3_s, bd4_s, bd5_s, bd6_s, bd7_s, bd8_s, lr_l, lr_r, nm_s, jn_s, gdb_0, gdb_1, li_40, hn, nI_mod2, nI_ltI, c2, if_false, c1.1, nI_0, if_true, qr.2 q, bad q]
  · have nr : ¬ rk 6 8 (g 7) n := fun z => c1 ⟨z.1, z.2.1⟩
    refine ⟨fun z => absurd z nr, fun _ => ?_⟩
    have L0 : f_X12_hears_L30 (nI n) (pu g 8 0 0) fu (0, 0) = some 0 := by
      refine lp_seq (fun _ => (0, 0)) 0 _ (fun k hk => absurd hk (Nat.not_lt_zero k)) (fun r => ?_) (by have := fu_big; omega) rfl
      simp only [if_true]
      split <;> rfl
    by_cases c2 : n % 2 = 0
    · have c3 : 40 < n := by omega
      simp (disch := omega) only [bd_s, bd2_s, bd3_s, bd4_s, bd5_s, bd6_s, bd7_s, bd8_s, lr_l, lr_r, nm_s, jn_s, gdb_0, gdb_1, li_40, hn, nI_mod2, nI_ltI, c3, if_false, c2, nI_0, if_true, L0, bad nr]
    · have z : ¬ nI (n % 2) = 0 := by rw [nI_eq0 (by omega)]; exact c2
      simp (disch := omega) only [bd_s, bd2_s, bd3_s, bd4_s, bd5_s, bd6_s, bd7_s, bd8_s, lr_l, lr_r, nm_s, jn_s, gdb_0, gdb_1, hn, nI_mod2, z, if_false, if_true, L0, bad nr]
end K15
