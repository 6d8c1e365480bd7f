/-! the longest row that is there twice -/
def Ec (m : Nat → Int32) (a b n : Nat) : Prop := ∀ k, k < n → m (76 + a + k) = m (76 + b + k)
def EE (m : Nat → Int32) (n : Nat) : Prop := ∃ a b, a + n ≤ b ∧ b + n ≤ tn (m 5) ∧ Ec m a b n
section K11
variable {m : Nat → Int32} {g gS gL gH gC gP h : Pic}
theorem q_isEcho {a b n : Nat} (ha : a + n ≤ 20) (hb : b + n ≤ 20) : (Ec (g 1) a b n → f_X12_isEcho g (nI a) (nI b) (nI n) = some 1) ∧ (¬ Ec (g 1) a b n → f_X12_isEcho g (nI a) (nI b) (nI n) = some 0) := by
  have H : ∃ c, f_X12_isEcho_L6 (nI a) (nI b) (nI n) g fu (1, 0) = some c ∧ ((c = 1 ∧ Ec (g 1) a b n) ∨ (c = 0 ∧ ¬ Ec (g 1) a b n)) := by
    refine lp_inv (fun k s => (s = (1, nI k) ∧ Ec (g 1) a b k) ∨ (s = (0, nI k) ∧ ¬ Ec (g 1) a b n)) n (fun c => (c = 1 ∧ Ec (g 1) a b n) ∨ (c = 0 ∧ ¬ Ec (g 1) a b n)) ?_ ?_ (by have := fu_big; omega) (Or.inl ⟨rfl, fun w hw => absurd hw (Nat.not_lt_zero w)⟩)
    · rintro k hk _ (⟨rfl, hp⟩ | ⟨rfl, hp⟩)
      · have nk : ¬ n ≤ k := by omega
        by_cases e : g 1 (76 + a + k) = g 1 (76 + b + k)
        · refine Or.inl ⟨(1, nI (k + 1)), Or.inl ⟨rfl, fun w hw => ?_⟩, fun r => ?_⟩
          · rcases Nat.lt_succ_iff_lt_or_eq.mp hw with h | h
            · exact hp w h
            · rw [h]; exact e
          · simp (disch := omega) only [bd_s, bd2_s, bd3_s, bd4_s, bd5_s, bd6_s, bd7_s, bd8_s, lr_l, lr_r, nm_s, jn_s, gdb_0, gdb_1, li_2, li_3, li_4, li_5, li_6, li_7, li_8, li_9, li_10, li_11, li_12, li_13, li_14, li_15, li_16, li_20, li_24, li_32, li_40, li_41, li_43, li_48, li_57, li_59, li_60, li_62, li_63, li_76, li_96, li_97, li_99, li_100, li_104, li_116, li_122, li_128, li_129, li_216, li_217, li_218, li_219, li_239, li_240, li_255, li_256, li_257, li_400, li_456, li_856, li_999, li_1000, li_1001, li_1002, li_1003, li_1004, li_1005, li_1006, li_1007, li_1008, li_1161, li_2000, li_2001, li_2002, li_2003, li_2004, li_2005, li_5016, li_5472, li_9999, li_10000, li_32767, li_1000000, li_2000000000, nI_add, nI_mul, nI_sub, nI_clamp, nI_leI, nI_ltI, nI_eq, gdi_n, nI_1, nI_eq0, nI_eq1, nI_le0, nI_le1, nI_0le, nI_lt0, nI_0lt, nI_m1, Int32.add_zero, Nat.le_refl, if_true, if_false, Bool.false_eq_true, Bool.true_eq_false, i10, i01, im0, im1, i0m, i1m, l10, l00, l01, t10, t00, nk, e]
        · refine Or.inl ⟨(0, nI (k + 1)), Or.inr ⟨rfl, fun h => e (h k hk)⟩, fun r => ?_⟩
          simp (disch := omega) only [bd_s, bd2_s, bd3_s, bd4_s, bd5_s, bd6_s, bd7_s, bd8_s, lr_l, lr_r, nm_s, jn_s, gdb_0, gdb_1, li_2, li_3, li_4, li_5, li_6, li_7, li_8, li_9, li_10, li_11, li_12, li_13, li_14, li_15, li_16, li_20, li_24, li_32, li_40, li_41, li_43, li_48, li_57, li_59, li_60, li_62, li_63, li_76, li_96, li_97, li_99, li_100, li_104, li_116, li_122, li_128, li_129, li_216, li_217, li_218, li_219, li_239, li_240, li_255, li_256, li_257, li_400, li_456, li_856, li_999, li_1000, li_1001, li_1002, li_1003, li_1004, li_1005, li_1006, li_1007, li_1008, li_1161, li_2000, li_2001, li_2002, li_2003, li_2004, li_2005, li_5016, li_5472, li_9999, li_10000, li_32767, li_1000000, li_2000000000, nI_add, nI_mul, nI_sub, nI_clamp, nI_leI, nI_ltI, nI_eq, gdi_n, nI_1, nI_eq0, nI_eq1, nI_le0, nI_le1, nI_0le, nI_lt0, nI_0lt, nI_m1, Int32.add_zero, Nat.le_refl, if_true, if_false, Bool.false_eq_true, Bool.true_eq_false, i10, i01, im0, im1, i0m, i1m, l10, l00, l01, t10, t00, nk, e]
      · have nk : ¬ n ≤ k := by omega
        refine Or.inr ⟨0, Or.inr ⟨rfl, hp⟩, fun r => ?_⟩
        simp (disch := omega) only [bd_s, bd2_s, bd3_s, bd4_s, bd5_s, bd6_s, bd7_s, bd8_s, lr_l, lr_r, nm_s, jn_s, gdb_0, gdb_1, li_2, li_3, li_4, li_5, li_6, li_7, li_8, li_9, li_10, li_11, li_12, li_13, li_14, li_15, li_16, li_20, li_24, li_32, li_40, li_41, li_43, li_48, li_57, li_59, li_60, li_62, li_63, li_76, li_96, li_97, li_99, li_100, li_104, li_116, li_122, li_128, li_129, li_216, li_217, li_218, li_219, li_239, li_240, li_255, li_256, li_257, li_400, li_456, li_856, li_999, li_1000, li_1001, li_1002, li_1003, li_1004, li_1005, li_1006, li_1007, li_1008, li_1161, li_2000, li_2001, li_2002, li_2003, li_2004, li_2005, li_5016, li_5472, li_9999, li_10000, li_32767, li_1000000, li_2000000000, nI_add, nI_mul, nI_sub, nI_clamp, nI_leI, nI_ltI, nI_eq, gdi_n, nI_1, nI_eq0, nI_eq1, nI_le0, nI_le1, nI_0le, nI_lt0, nI_0lt, nI_m1, Int32.add_zero, Nat.le_refl, if_true, if_false, Bool.false_eq_true, Bool.true_eq_false, i10, i01, im0, im1, i0m, i1m, l10, l00, l01, t10, t00, nk]
    · rintro _ (⟨rfl, hp⟩ | ⟨rfl, hp⟩)
      · refine ⟨1, Or.inl ⟨rfl, hp⟩, fun r => ?_⟩
        simp (disch := omega) only [bd_s, bd2_s, bd3_s, bd4_s, bd5_s, bd6_s, bd7_s, bd8_s, lr_l, lr_r, nm_s, jn_s, gdb_0, gdb_1, li_2, li_3, li_4, li_5, li_6, li_7, li_8, li_9, li_10, li_11, li_12, li_13, li_14, li_15, li_16, li_20, li_24, li_32, li_40, li_41, li_43, li_48, li_57, li_59, li_60, li_62, li_63, li_76, li_96, li_97, li_99, li_100, li_104, li_116, li_122, li_128, li_129, li_216, li_217, li_218, li_219, li_239, li_240, li_255, li_256, li_257, li_400, li_456, li_856, li_999, li_1000, li_1001, li_1002, li_1003, li_1004, li_1005, li_1006, li_1007, li_1008, li_1161, li_2000, li_2001, li_2002, li_2003, li_2004, li_2005, li_5016, li_5472, li_9999, li_10000, li_32767, li_1000000, li_2000000000, nI_add, nI_mul, nI_sub, nI_clamp, nI_leI, nI_ltI, nI_eq, gdi_n, nI_1, nI_eq0, nI_eq1, nI_le0, nI_le1, nI_0le, nI_lt0, nI_0lt, nI_m1, Int32.add_zero, Nat.le_refl, if_true, if_false, Bool.false_eq_true, Bool.true_eq_false, i10, i01, im0, im1, i0m, i1m, l10, l00, l01, t10, t00]
        done
      · refine ⟨0, Or.inr ⟨rfl, hp⟩, fun r => ?_⟩
        simp (disch := omega) only [bd_s, bd2_s, bd3_s, bd4_s, bd5_s, bd6_s, bd7_s, bd8_s, lr_l, lr_r, nm_s, jn_s, gdb_0, gdb_1, li_2, li_3, li_4, li_5, li_6, li_7, li_8, li_9, li_10, li_11, li_12, li_13, li_14, li_15, li_16, li_20, li_24, li_32, li_40, li_41, li_43, li_48, li_57, li_59, li_60, li_62, li_63, li_76, li_96, li_97, li_99, li_100, li_104, li_116, li_122, li_128, li_129, li_216, li_217, li_218, li_219, li_239, li_240, li_255, li_256, li_257, li_400, li_456, li_856, li_999, li_1000, li_1001, li_1002, li_1003, li_1004, li_1005, li_1006, li_1007, li_1008, li_1161, li_2000, li_2001, li_2002, li_2003, li_2004, li_2005, li_5016, li_5472, li_9999, li_10000, li_32767, li_1000000, li_2000000000, nI_add, nI_mul, nI_sub, nI_clamp, nI_leI, nI_ltI, nI_eq, gdi_n, nI_1, nI_eq0, nI_eq1, nI_le0, nI_le1, nI_0le, nI_lt0, nI_0lt, nI_m1, Int32.add_zero, Nat.le_refl, if_true, if_false, Bool.false_eq_true, Bool.true_eq_false, i10, i01, im0, im1, i0m, i1m, l10, l00, l01, t10, t00]
        done
  obtain ⟨c, h1, h2⟩ := H
  unfold f_X12_isEcho
  rw [h1, bd_s]
  rcases h2 with ⟨rfl, h⟩ | ⟨rfl, h⟩
  · exact ⟨fun _ => rfl, fun q => absurd h q⟩
  · exact ⟨fun q => absurd q h, fun _ => rfl⟩
theorem k_isEcho (hO : Ok m) (hR : RS gS gL m) (gX : Pic) {a b n : Nat} (ha : a + n ≤ tn (m 5)) (hb : b + n ≤ tn (m 5)) : (Ec m a b n → f_X6_isEcho gX gS (nI a) (nI b) (nI n) = some 1) ∧ (¬ Ec m a b n → f_X6_isEcho gX gS (nI a) (nI b) (nI n) = some 0) := by
  have s20 := hO.S.2.2
  have H : ∃ c, f_X6_isEcho_L3 (nI a) (nI b) (nI n) gX gS fu 0 = some c ∧ ((c = .inr () ∧ Ec m a b n) ∨ (c = .inl 0 ∧ ¬ Ec m a b n)) := by
    refine lp_inv (fun k s => s = nI k ∧ Ec m a b k) n (fun c : Int32 ⊕ Unit => (c = .inr () ∧ Ec m a b n) ∨ (c = .inl 0 ∧ ¬ Ec m a b n)) ?_ ?_ (by have := fu_big; omega) ⟨rfl, fun w hw => absurd hw (Nat.not_lt_zero w)⟩
    · rintro k hk _ ⟨rfl, hp⟩
      have nk : ¬ n ≤ k := by omega
      have e1 := hR.sp (show a + k < tn (m 5) by omega)
      have e2 := hR.sp (show b + k < tn (m 5) by omega)
      rw [← Nat.add_assoc] at e1 e2
      by_cases e : m (76 + a + k) = m (76 + b + k)
      · refine Or.inl ⟨nI (k + 1), ⟨rfl, fun w hw => ?_⟩, fun r => ?_⟩
        · rcases Nat.lt_succ_iff_lt_or_eq.mp hw with h | h
          · exact hp w h
          · rw [h]; exact e
        · simp (disch := omega) only [bd_s, bd2_s, bd3_s, bd4_s, bd5_s, bd6_s, bd7_s, bd8_s, lr_l, lr_r, nm_s, jn_s, gdb_0, gdb_1, li_2, li_3, li_4, li_5, li_6, li_7, li_8, li_9, li_10, li_11, li_12, li_13, li_14, li_15, li_16, li_20, li_24, li_32, li_40, li_41, li_43, li_48, li_57, li_59, li_60, li_62, li_63, li_76, li_96, li_97, li_99, li_100, li_104, li_116, li_122, li_128, li_129, li_216, li_217, li_218, li_219, li_239, li_240, li_255, li_256, li_257, li_400, li_456, li_856, li_999, li_1000, li_1001, li_1002, li_1003, li_1004, li_1005, li_1006, li_1007, li_1008, li_1161, li_2000, li_2001, li_2002, li_2003, li_2004, li_2005, li_5016, li_5472, li_9999, li_10000, li_32767, li_1000000, li_2000000000, nI_add, nI_mul, nI_sub, nI_clamp, nI_leI, nI_ltI, nI_eq, gdi_n, nI_1, nI_eq0, nI_eq1, nI_le0, nI_le1, nI_0le, nI_lt0, nI_0lt, nI_m1, Int32.add_zero, Nat.le_refl, if_true, if_false, Bool.false_eq_true, Bool.true_eq_false, i10, i01, im0, im1, i0m, i1m, l10, l00, l01, t10, t00, nk, e1, e2, e]
      · refine Or.inr ⟨.inl 0, Or.inr ⟨rfl, fun h => e (h k hk)⟩, fun r => ?_⟩
        simp (disch := omega) only [bd_s, bd2_s, bd3_s, bd4_s, bd5_s, bd6_s, bd7_s, bd8_s, lr_l, lr_r, nm_s, jn_s, gdb_0, gdb_1, li_2, li_3, li_4, li_5, li_6, li_7, li_8, li_9, li_10, li_11, li_12, li_13, li_14, li_15, li_16, li_20, li_24, li_32, li_40, li_41, li_43, li_48, li_57, li_59, li_60, li_62, li_63, li_76, li_96, li_97, li_99, li_100, li_104, li_116, li_122, li_128, li_129, li_216, li_217, li_218, li_219, li_239, li_240, li_255, li_256, li_257, li_400, li_456, li_856, li_999, li_1000, li_1001, li_1002, li_1003, li_1004, li_1005, li_1006, li_1007, li_1008, li_1161, li_2000, li_2001, li_2002, li_2003, li_2004, li_2005, li_5016, li_5472, li_9999, li_10000, li_32767, li_1000000, li_2000000000, nI_add, nI_mul, nI_sub, nI_clamp, nI_leI, nI_ltI, nI_eq, gdi_n, nI_1, nI_eq0, nI_eq1, nI_le0, nI_le1, nI_0le, nI_lt0, nI_0lt, nI_m1, Int32.add_zero, Nat.le_refl, if_true, if_false, Bool.false_eq_true, Bool.true_eq_false, i10, i01, im0, im1, i0m, i1m, l10, l00, l01, t10, t00, nk, e1, e2, e]
    · rintro _ ⟨rfl, hp⟩
      refine ⟨.inr (), Or.inl ⟨rfl, hp⟩, fun r => ?_⟩
      simp (disch := omega) only [bd_s, bd2_s, bd3_s, bd4_s, bd5_s, bd6_s, bd7_s, bd8_s, lr_l, lr_r, nm_s, jn_s, gdb_0, gdb_1, li_2, li_3, li_4, li_5, li_6, li_7, li_8, li_9, li_10, li_11, li_12, li_13, li_14, li_15, li_16, li_20, li_24, li_32, li_40, li_41, li_43, li_48, li_57, li_59, li_60, li_62, li_63, li_76, li_96, li_97, li_99, li_100, li_104, li_116, li_122, li_128, li_129, li_216, li_217, li_218, li_219, li_239, li_240, li_255, li_256, li_257, li_400, li_456, li_856, li_999, li_1000, li_1001, li_1002, li_1003, li_1004, li_1005, li_1006, li_1007, li_1008, li_1161, li_2000, li_2001, li_2002, li_2003, li_2004, li_2005, li_5016, li_5472, li_9999, li_10000, li_32767, li_1000000, li_2000000000, nI_add, nI_mul, nI_sub, nI_clamp, nI_leI, nI_ltI, nI_eq, gdi_n, nI_1, nI_eq0, nI_eq1, nI_le0, nI_le1, nI_0le, nI_lt0, nI_0lt, nI_m1, Int32.add_zero, Nat.le_refl, if_true, if_false, Bool.false_eq_true, Bool.true_eq_false, i10, i01, im0, im1, i0m, i1m, l10, l00, l01, t10, t00]
      done
  obtain ⟨c, h1, h2⟩ := H
  unfold f_X6_isEcho
  rw [h1]
  rcases h2 with ⟨rfl, h⟩ | ⟨rfl, h⟩
  · exact ⟨fun _ => rfl, fun q => absurd h q⟩
  · exact ⟨fun q => absurd q h, fun _ => rfl⟩
theorem q_ecN (hg : g 1 = m) (hO : Ok m) {a b v0 : Nat} (hab : a < b) (hb : b < tn (m 5)) (hv : v0 ≤ 20) : ∃ v, v ≤ 20 ∧ f_X12_echo_L36 (nI a) (nI b) g fu (nI v0, 1) = some (nI v) ∧ v0 ≤ v ∧ ((v0 = 0 ∨ EE m v0) → v = 0 ∨ EE m v) ∧ ∀ n, 0 < n → a + n ≤ b → b + n ≤ tn (m 5) → Ec m a b n → n ≤ v := by
  subst hg
  obtain ⟨S, hS, tS, -, s20⟩ := hO.S.ex
  rw [tS] at hb
  have H : ∃ c, f_X12_echo_L36 (nI a) (nI b) g fu (nI v0, 1) = some c ∧ ∃ v, v ≤ 20 ∧ c = nI v ∧ v0 ≤ v ∧ ((v0 = 0 ∨ EE (g 1) v0) → v = 0 ∨ EE (g 1) v) ∧ ∀ n, 0 < n → a + n ≤ b → b + n ≤ S → Ec (g 1) a b n → n ≤ v := by
    refine lp_inv (fun i s => ∃ v, v ≤ 20 ∧ s = (nI v, nI (i + 1)) ∧ v0 ≤ v ∧ ((v0 = 0 ∨ EE (g 1) v0) → v = 0 ∨ EE (g 1) v) ∧ ∀ n, 0 < n → n ≤ i → a + n ≤ b → b + n ≤ S → Ec (g 1) a b n → n ≤ v) (min (b - a) (S - b)) (fun c : Int32 => ∃ v, v ≤ 20 ∧ c = nI v ∧ v0 ≤ v ∧ ((v0 = 0 ∨ EE (g 1) v0) → v = 0 ∨ EE (g 1) v) ∧ ∀ n, 0 < n → a + n ≤ b → b + n ≤ S → Ec (g 1) a b n → n ≤ v) ?_ ?_ (by have := fu_big; omega) ⟨v0, hv, rfl, Nat.le_refl _, id, fun n h1 h2 => by omega⟩
    · rintro i hi _ ⟨v, v20, rfl, h1, h2, h3⟩
      have n1 : ¬ b - a < i + 1 := by omega
      have n2 : ¬ S < b + (i + 1) := by omega
      have qe := q_isEcho (g := g) (a := a) (b := b) (n := i + 1) (by omega) (by omega)
      by_cases c : i + 1 ≤ v
      · refine Or.inl ⟨(nI v, nI (i + 1 + 1)), ⟨v, v20, rfl, h1, h2, fun n p q a1 a2 a3 => ?_⟩, fun r => ?_⟩
        · by_cases z : n ≤ i
          · exact h3 n p z a1 a2 a3
          · omega
        · simp (disch := omega) only [bd_s, bd2_s, bd3_s, bd4_s, bd5_s, bd6_s, bd7_s, bd8_s, lr_l, lr_r, nm_s, jn_s, gdb_0, gdb_1, li_2, li_3, li_4, li_5, li_6, li_7, li_8, li_9, li_10, li_11, li_12, li_13, li_14, li_15, li_16, li_20, li_24, li_32, li_40, li_41, li_43, li_48, li_57, li_59, li_60, li_62, li_63, li_76, li_96, li_97, li_99, li_100, li_104, li_116, li_122, li_128, li_129, li_216, li_217, li_218, li_219, li_239, li_240, li_255, li_256, li_257, li_400, li_456, li_856, li_999, li_1000, li_1001, li_1002, li_1003, li_1004, li_1005, li_1006, li_1007, li_1008, li_1161, li_2000, li_2001, li_2002, li_2003, li_2004, li_2005, li_5016, li_5472, li_9999, li_10000, li_32767, li_1000000, li_2000000000, nI_add, nI_mul, nI_sub, nI_clamp, nI_leI, nI_ltI, nI_eq, gdi_n, nI_1, nI_eq0, nI_eq1, nI_le0, nI_le1, nI_0le, nI_lt0, nI_0lt, nI_m1, Int32.add_zero, Nat.le_refl, if_true, if_false, Bool.false_eq_true, Bool.true_eq_false, i10, i01, im0, im1, i0m, i1m, l10, l00, l01, t10, t00, hS, n1, n2, c]
      · by_cases e : Ec (g 1) a b (i + 1)
        · refine Or.inl ⟨(nI (i + 1), nI (i + 1 + 1)), ⟨i + 1, by omega, rfl, by omega, fun _ => Or.inr ⟨a, b, by omega, by omega, e⟩, fun n p q a1 a2 a3 => q⟩, fun r => ?_⟩
          simp (disch := omega) only [bd_s, bd2_s, bd3_s, bd4_s, bd5_s, bd6_s, bd7_s, bd8_s, lr_l, lr_r, nm_s, jn_s, gdb_0, gdb_1, li_2, li_3, li_4, li_5, li_6, li_7, li_8, li_9, li_10, li_11, li_12, li_13, li_14, li_15, li_16, li_20, li_24, li_32, li_40, li_41, li_43, li_48, li_57, li_59, li_60, li_62, li_63, li_76, li_96, li_97, li_99, li_100, li_104, li_116, li_122, li_128, li_129, li_216, li_217, li_218, li_219, li_239, li_240, li_255, li_256, li_257, li_400, li_456, li_856, li_999, li_1000, li_1001, li_1002, li_1003, li_1004, li_1005, li_1006, li_1007, li_1008, li_1161, li_2000, li_2001, li_2002, li_2003, li_2004, li_2005, li_5016, li_5472, li_9999, li_10000, li_32767, li_1000000, li_2000000000, nI_add, nI_mul, nI_sub, nI_clamp, nI_leI, nI_ltI, nI_eq, gdi_n, nI_1, nI_eq0, nI_eq1, nI_le0, nI_le1, nI_0le, nI_lt0, nI_0lt, nI_m1, Int32.add_zero, Nat.le_refl, if_true, if_false, Bool.false_eq_true, Bool.true_eq_false, i10, i01, im0, im1, i0m, i1m, l10, l00, l01, t10, t00, hS, n1, n2, c, qe.1 e]
        · refine Or.inl ⟨(nI v, nI (i + 1 + 1)), ⟨v, v20, rfl, h1, h2, fun n p q a1 a2 a3 => ?_⟩, fun r => ?_⟩
          · by_cases z : n ≤ i
            · exact h3 n p z a1 a2 a3
            · exact absurd (by rw [show i + 1 = n by omega]; exact a3) e
          · simp (disch := omega) only [bd_s, bd2_s, bd3_s, bd4_s, bd5_s, bd6_s, bd7_s, bd8_s, lr_l, lr_r, nm_s, jn_s, gdb_0, gdb_1, li_2, li_3, li_4, li_5, li_6, li_7, li_8, li_9, li_10, li_11, li_12, li_13, li_14, li_15, li_16, li_20, li_24, li_32, li_40, li_41, li_43, li_48, li_57, li_59, li_60, li_62, li_63, li_76, li_96, li_97, li_99, li_100, li_104, li_116, li_122, li_128, li_129, li_216, li_217, li_218, li_219, li_239, li_240, li_255, li_256, li_257, li_400, li_456, li_856, li_999, li_1000, li_1001, li_1002, li_1003, li_1004, li_1005, li_1006, li_1007, li_1008, li_1161, li_2000, li_2001, li_2002, li_2003, li_2004, li_2005, li_5016, li_5472, li_9999, li_10000, li_32767, li_1000000, li_2000000000, nI_add, nI_mul, nI_sub, nI_clamp, nI_leI, nI_ltI, nI_eq, gdi_n, nI_1, nI_eq0, nI_eq1, nI_le0, nI_le1, nI_0le, nI_lt0, nI_0lt, nI_m1, Int32.add_zero, Nat.le_refl, if_true, if_false, Bool.false_eq_true, Bool.true_eq_false, i10, i01, im0, im1, i0m, i1m, l10, l00, l01, t10, t00, hS, n1, n2, c, qe.2 e]
    · rintro _ ⟨v, v20, rfl, h1, h2, h3⟩
      refine ⟨nI v, ⟨v, v20, rfl, h1, h2, fun n p a1 a2 a3 => h3 n p (by omega) a1 a2 a3⟩, fun r => ?_⟩
      by_cases c : b - a < min (b - a) (S - b) + 1
      · simp (disch := omega) only [bd_s, bd2_s, bd3_s, bd4_s, bd5_s, bd6_s, bd7_s, bd8_s, lr_l, lr_r, nm_s, jn_s, gdb_0, gdb_1, li_2, li_3, li_4, li_5, li_6, li_7, li_8, li_9, li_10, li_11, li_12, li_13, li_14, li_15, li_16, li_20, li_24, li_32, li_40, li_41, li_43, li_48, li_57, li_59, li_60, li_62, li_63, li_76, li_96, li_97, li_99, li_100, li_104, li_116, li_122, li_128, li_129, li_216, li_217, li_218, li_219, li_239, li_240, li_255, li_256, li_257, li_400, li_456, li_856, li_999, li_1000, li_1001, li_1002, li_1003, li_1004, li_1005, li_1006, li_1007, li_1008, li_1161, li_2000, li_2001, li_2002, li_2003, li_2004, li_2005, li_5016, li_5472, li_9999, li_10000, li_32767, li_1000000, li_2000000000, nI_add, nI_mul, nI_sub, nI_clamp, nI_leI, nI_ltI, nI_eq, gdi_n, nI_1, nI_eq0, nI_eq1, nI_le0, nI_le1, nI_0le, nI_lt0, nI_0lt, nI_m1, Int32.add_zero, Nat.le_refl, if_true, if_false, Bool.false_eq_true, Bool.true_eq_false, i10, i01, im0, im1, i0m, i1m, l10, l00, l01, t10, t00, hS, c]
      · have n2 : S < b + (min (b - a) (S - b) + 1) := by omega
        simp (disch := omega) only [bd_s, bd2_s, bd3_s, bd4_s, bd5_s, bd6_s, bd7_s, bd8_s, lr_l, lr_r, nm_s, jn_s, gdb_0, gdb_1, li_2, li_3, li_4, li_5, li_6, li_7, li_8, li_9, li_10, li_11, li_12, li_13, li_14, li_15, li_16, li_20, li_24, li_32, li_40, li_41, li_43, li_48, li_57, li_59, li_60, li_62, li_63, li_76, li_96, li_97, li_99, li_100, li_104, li_116, li_122, li_128, li_129, li_216, li_217, li_218, li_219, li_239, li_240, li_255, li_256, li_257, li_400, li_456, li_856, li_999, li_1000, li_1001, li_1002, li_1003, li_1004, li_1005, li_1006, li_1007, li_1008, li_1161, li_2000, li_2001, li_2002, li_2003, li_2004, li_2005, li_5016, li_5472, li_9999, li_10000, li_32767, li_1000000, li_2000000000, nI_add, nI_mul, nI_sub, nI_clamp, nI_leI, nI_ltI, nI_eq, gdi_n, nI_1, nI_eq0, nI_eq1, nI_le0, nI_le1, nI_0le, nI_lt0, nI_0lt, nI_m1, Int32.add_zero, Nat.le_refl, if_true, if_false, Bool.false_eq_true, Bool.true_eq_false, i10, i01, im0, im1, i0m, i1m, l10, l00, l01, t10, t00, hS, c, n2]
  obtain ⟨c, h1, v, h2, rfl, h3, h4, h5⟩ := H
  exact ⟨v, h2, h1, h3, h4, fun n p a1 a2 a3 => h5 n p a1 (by rw [← tS]; exact a2) a3⟩
theorem q_ecB (hg : g 1 = m) (hO : Ok m) {a v0 : Nat} (ha : a < tn (m 5)) (hv : v0 ≤ 20) : ∃ v, v ≤ 20 ∧ f_X12_echo_L23 (nI a) g fu (nI v0, nI (a + 1)) = some (nI v) ∧ v0 ≤ v ∧ ((v0 = 0 ∨ EE m v0) → v = 0 ∨ EE m v) ∧ ∀ b n, 0 < n → a + n ≤ b → b + n ≤ tn (m 5) → Ec m a b n → n ≤ v := by
  obtain ⟨S, hS, tS, -, s20⟩ := hO.S.ex
  rw [tS] at ha
  have H : ∃ c, f_X12_echo_L23 (nI a) g fu (nI v0, nI (a + 1)) = some c ∧ ∃ v, v ≤ 20 ∧ c = nI v ∧ v0 ≤ v ∧ ((v0 = 0 ∨ EE m v0) → v = 0 ∨ EE m v) ∧ ∀ b n, 0 < n → a + n ≤ b → b + n ≤ S → Ec m a b n → n ≤ v := by
    refine lp_inv (fun i s => ∃ v, v ≤ 20 ∧ s = (nI v, nI (a + 1 + i)) ∧ v0 ≤ v ∧ ((v0 = 0 ∨ EE m v0) → v = 0 ∨ EE m v) ∧ ∀ b n, b < a + 1 + i → 0 < n → a + n ≤ b → b + n ≤ S → Ec m a b n → n ≤ v) (S - (a + 1)) (fun c : Int32 => ∃ v, v ≤ 20 ∧ c = nI v ∧ v0 ≤ v ∧ ((v0 = 0 ∨ EE m v0) → v = 0 ∨ EE m v) ∧ ∀ b n, 0 < n → a + n ≤ b → b + n ≤ S → Ec m a b n → n ≤ v) ?_ ?_ (by have := fu_big; omega) ⟨v0, hv, rfl, Nat.le_refl _, id, fun b n h1 h2 h3 => by omega⟩
    · rintro i hi _ ⟨v, v20, rfl, h1, h2, h3⟩
      have n1 : ¬ S ≤ a + 1 + i := by omega
      obtain ⟨v', w20, q1, q2, q3, q4⟩ := q_ecN (b := a + 1 + i) hg hO (show a < a + 1 + i by omega) (by omega) v20
      rw [tS] at q4
      refine Or.inl ⟨(nI v', nI (a + 1 + i + 1)), ⟨v', w20, rfl, by omega, fun z => q3 (h2 z), fun b n p1 p2 p3 p4 p5 => ?_⟩, fun r => ?_⟩
      · by_cases z : b < a + 1 + i
        · have := h3 b n z p2 p3 p4 p5; omega
        · have z : b = a + 1 + i := by omega
          subst z
          exact q4 n p2 p3 p4 p5
      · simp (disch := omega) only [bd_s, bd2_s, bd3_s, bd4_s, bd5_s, bd6_s, bd7_s, bd8_s, lr_l, lr_r, nm_s, jn_s, gdb_0, gdb_1, li_2, li_3, li_4, li_5, li_6, li_7, li_8, li_9, li_10, li_11, li_12, li_13, li_14, li_15, li_16, li_20, li_24, li_32, li_40, li_41, li_43, li_48, li_57, li_59, li_60, li_62, li_63, li_76, li_96, li_97, li_99, li_100, li_104, li_116, li_122, li_128, li_129, li_216, li_217, li_218, li_219, li_239, li_240, li_255, li_256, li_257, li_400, li_456, li_856, li_999, li_1000, li_1001, li_1002, li_1003, li_1004, li_1005, li_1006, li_1007, li_1008, li_1161, li_2000, li_2001, li_2002, li_2003, li_2004, li_2005, li_5016, li_5472, li_9999, li_10000, li_32767, li_1000000, li_2000000000, nI_add, nI_mul, nI_sub, nI_clamp, nI_leI, nI_ltI, nI_eq, gdi_n, nI_1, nI_eq0, nI_eq1, nI_le0, nI_le1, nI_0le, nI_lt0, nI_0lt, nI_m1, Int32.add_zero, Nat.le_refl, if_true, if_false, Bool.false_eq_true, Bool.true_eq_false, i10, i01, im0, im1, i0m, i1m, l10, l00, l01, t10, t00, hg, hS, n1, q1]
    · rintro _ ⟨v, v20, rfl, h1, h2, h3⟩
      have n1 : S ≤ a + 1 + (S - (a + 1)) := by omega
      refine ⟨nI v, ⟨v, v20, rfl, h1, h2, fun b n p a1 a2 a3 => h3 b n (by omega) p a1 a2 a3⟩, fun r => ?_⟩
      simp (disch := omega) only [bd_s, bd2_s, bd3_s, bd4_s, bd5_s, bd6_s, bd7_s, bd8_s, lr_l, lr_r, nm_s, jn_s, gdb_0, gdb_1, li_2, li_3, li_4, li_5, li_6, li_7, li_8, li_9, li_10, li_11, li_12, li_13, li_14, li_15, li_16, li_20, li_24, li_32, li_40, li_41, li_43, li_48, li_57, li_59, li_60, li_62, li_63, li_76, li_96, li_97, li_99, li_100, li_104, li_116, li_122, li_128, li_129, li_216, li_217, li_218, li_219, li_239, li_240, li_255, li_256, li_257, li_400, li_456, li_856, li_999, li_1000, li_1001, li_1002, li_1003, li_1004, li_1005, li_1006, li_1007, li_1008, li_1161, li_2000, li_2001, li_2002, li_2003, li_2004, li_2005, li_5016, li_5472, li_9999, li_10000, li_32767, li_1000000, li_2000000000, nI_add, nI_mul, nI_sub, nI_clamp, nI_leI, nI_ltI, nI_eq, gdi_n, nI_1, nI_eq0, nI_eq1, nI_le0, nI_le1, nI_0le, nI_lt0, nI_0lt, nI_m1, Int32.add_zero, Nat.le_refl, if_true, if_false, Bool.false_eq_true, Bool.true_eq_false, i10, i01, im0, im1, i0m, i1m, l10, l00, l01, t10, t00, hg, hS, n1]
  obtain ⟨c, h1, v, h2, rfl, h3, h4, h5⟩ := H
  exact ⟨v, h2, h1, h3, h4, fun b n p a1 a2 a3 => h5 b n p a1 (by rw [← tS]; exact a2) a3⟩
theorem q_echo (hg : g 1 = m) (hO : Ok m) : ∃ v, v ≤ 20 ∧ f_X12_echo_L9 g fu (0, 0) = some (nI v) ∧ (v = 0 ∨ EE m v) ∧ ∀ n, 0 < n → EE m n → n ≤ v := by
  obtain ⟨S, hS, tS, -, s20⟩ := hO.S.ex
  have H : ∃ c, f_X12_echo_L9 g fu (0, 0) = some c ∧ ∃ v, v ≤ 20 ∧ c = nI v ∧ (v = 0 ∨ EE m v) ∧ ∀ a b n, 0 < n → a + n ≤ b → b + n ≤ S → Ec m a b n → n ≤ v := by
    refine lp_inv (fun i s => ∃ v, v ≤ 20 ∧ s = (nI v, nI i) ∧ (v = 0 ∨ EE m v) ∧ ∀ a b n, a < i → 0 < n → a + n ≤ b → b + n ≤ S → Ec m a b n → n ≤ v) S (fun c : Int32 => ∃ v, v ≤ 20 ∧ c = nI v ∧ (v = 0 ∨ EE m v) ∧ ∀ a b n, 0 < n → a + n ≤ b → b + n ≤ S → Ec m a b n → n ≤ v) ?_ ?_ (by have := fu_big; omega) ⟨0, by omega, rfl, Or.inl rfl, fun a b n h1 => absurd h1 (Nat.not_lt_zero a)⟩
    · rintro i hi _ ⟨v, v20, rfl, h2, h3⟩
      have n1 : ¬ S ≤ i := by omega
      obtain ⟨v', w20, q1, q2, q3, q4⟩ := q_ecB (a := i) hg hO (by omega) v20
      rw [tS] at q4
      refine Or.inl ⟨(nI v', nI (i + 1)), ⟨v', w20, rfl, q3 h2, fun a b n p1 p2 p3 p4 p5 => ?_⟩, fun r => ?_⟩
      · by_cases z : a < i
        · have := h3 a b n z p2 p3 p4 p5; omega
        · have z : a = i := by omega
          subst z
          exact q4 b n p2 p3 p4 p5
      · simp (disch := omega) only [bd_s, bd2_s, bd3_s, bd4_s, bd5_s, bd6_s, bd7_s, bd8_s, lr_l, lr_r, nm_s, jn_s, gdb_0, gdb_1, li_2, li_3, li_4, li_5, li_6, li_7, li_8, li_9, li_10, li_11, li_12, li_13, li_14, li_15, li_16, li_20, li_24, li_32, li_40, li_41, li_43, li_48, li_57, li_59, li_60, li_62, li_63, li_76, li_96, li_97, li_99, li_100, li_104, li_116, li_122, li_128, li_129, li_216, li_217, li_218, li_219, li_239, li_240, li_255, li_256, li_257, li_400, li_456, li_856, li_999, li_1000, li_1001, li_1002, li_1003, li_1004, li_1005, li_1006, li_1007, li_1008, li_1161, li_2000, li_2001, li_2002, li_2003, li_2004, li_2005, li_5016, li_5472, li_9999, li_10000, li_32767, li_1000000, li_2000000000, nI_add, nI_mul, nI_sub, nI_clamp, nI_leI, nI_ltI, nI_eq, gdi_n, nI_1, nI_eq0, nI_eq1, nI_le0, nI_le1, nI_0le, nI_lt0, nI_0lt, nI_m1, Int32.add_zero, Nat.le_refl, if_true, if_false, Bool.false_eq_true, Bool.true_eq_false, i10, i01, im0, im1, i0m, i1m, l10, l00, l01, t10, t00, hg, hS, n1, q1]
    · rintro _ ⟨v, v20, rfl, h2, h3⟩
      refine ⟨nI v, ⟨v, v20, rfl, h2, fun a b n p a1 a2 a3 => h3 a b n (by omega) p a1 a2 a3⟩, fun r => ?_⟩
      simp (disch := omega) only [bd_s, bd2_s, bd3_s, bd4_s, bd5_s, bd6_s, bd7_s, bd8_s, lr_l, lr_r, nm_s, jn_s, gdb_0, gdb_1, li_2, li_3, li_4, li_5, li_6, li_7, li_8, li_9, li_10, li_11, li_12, li_13, li_14, li_15, li_16, li_20, li_24, li_32, li_40, li_41, li_43, li_48, li_57, li_59, li_60, li_62, li_63, li_76, li_96, li_97, li_99, li_100, li_104, li_116, li_122, li_128, li_129, li_216, li_217, li_218, li_219, li_239, li_240, li_255, li_256, li_257, li_400, li_456, li_856, li_999, li_1000, li_1001, li_1002, li_1003, li_1004, li_1005, li_1006, li_1007, li_1008, li_1161, li_2000, li_2001, li_2002, li_2003, li_2004, li_2005, li_5016, li_5472, li_9999, li_10000, li_32767, li_1000000, li_2000000000, nI_add, nI_mul, nI_sub, nI_clamp, nI_leI, nI_ltI, nI_eq, gdi_n, nI_1, nI_eq0, nI_eq1, nI_le0, nI_le1, nI_0le, nI_lt0, nI_0lt, nI_m1, Int32.add_zero, Nat.le_refl, if_true, if_false, Bool.false_eq_true, Bool.true_eq_false, i10, i01, im0, im1, i0m, i1m, l10, l00, l01, t10, t00, hg, hS]
      done
  obtain ⟨c, h1, v, h2, rfl, h4, h5⟩ := H
  refine ⟨v, h2, h1, h4, fun n p ⟨a, b, a1, a2, a3⟩ => h5 a b n p a1 (by rw [← tS]; exact a2) a3⟩
theorem k_ec35 (hO : Ok m) (hR : RS gS gL m) (gX : Pic) {a n : Nat} (n0 : 0 < n) (ha : a + 2 * n ≤ tn (m 5)) : (f_X6_longestEcho_L35 (nI n) (nI a) gX gS fu (nI (a + n)) = some (.inl (nI n)) ∧ EE m n) ∨ (f_X6_longestEcho_L35 (nI n) (nI a) gX gS fu (nI (a + n)) = some (.inr ()) ∧ ∀ b, a + n ≤ b → b + n ≤ tn (m 5) → ¬ Ec m a b n) := by
  obtain ⟨S, hS, tS, -, s20⟩ := hO.S.ex
  have gs := hR.S.trans hS
  rw [tS] at ha ⊢
  have H : ∃ c, f_X6_longestEcho_L35 (nI n) (nI a) gX gS fu (nI (a + n)) = some c ∧ ((c = .inl (nI n) ∧ EE m n) ∨ (c = .inr () ∧ ∀ b, a + n ≤ b → b + n ≤ S → ¬ Ec m a b n)) := by
    refine lp_inv (fun i s => s = nI (a + n + i) ∧ ∀ b, a + n ≤ b → b < a + n + i → ¬ Ec m a b n) (S + 1 - (a + 2 * n)) (fun c : Int32 ⊕ Unit => ((c = .inl (nI n) ∧ EE m n) ∨ (c = .inr () ∧ ∀ b, a + n ≤ b → b + n ≤ S → ¬ Ec m a b n))) ?_ ?_ (by have := fu_big; omega) ⟨rfl, fun b h1 h2 => by omega⟩
    · rintro i hi _ ⟨rfl, hp⟩
      have n1 : ¬ S < a + n + i + n := by omega
      have ke := k_isEcho hO hR gX (a := a) (b := a + n + i) (n := n) (by omega) (by omega)
      by_cases e : Ec m a (a + n + i) n
      · refine Or.inr ⟨.inl (nI n), Or.inl ⟨rfl, a, a + n + i, by omega, by omega, e⟩, fun r => ?_⟩
        simp (disch := omega) only [bd_s, bd2_s, bd3_s, bd4_s, bd5_s, bd6_s, bd7_s, bd8_s, lr_l, lr_r, nm_s, jn_s, gdb_0, gdb_1, li_2, li_3, li_4, li_5, li_6, li_7, li_8, li_9, li_10, li_11, li_12, li_13, li_14, li_15, li_16, li_20, li_24, li_32, li_40, li_41, li_43, li_48, li_57, li_59, li_60, li_62, li_63, li_76, li_96, li_97, li_99, li_100, li_104, li_116, li_122, li_128, li_129, li_216, li_217, li_218, li_219, li_239, li_240, li_255, li_256, li_257, li_400, li_456, li_856, li_999, li_1000, li_1001, li_1002, li_1003, li_1004, li_1005, li_1006, li_1007, li_1008, li_1161, li_2000, li_2001, li_2002, li_2003, li_2004, li_2005, li_5016, li_5472, li_9999, li_10000, li_32767, li_1000000, li_2000000000, nI_add, nI_mul, nI_sub, nI_clamp, nI_leI, nI_ltI, nI_eq, gdi_n, nI_1, nI_eq0, nI_eq1, nI_le0, nI_le1, nI_0le, nI_lt0, nI_0lt, nI_m1, Int32.add_zero, Nat.le_refl, if_true, if_false, Bool.false_eq_true, Bool.true_eq_false, i10, i01, im0, im1, i0m, i1m, l10, l00, l01, t10, t00, gs, n1, ke.1 e]
      · refine Or.inl ⟨nI (a + n + i + 1), ⟨rfl, fun b h1 h2 => ?_⟩, fun r => ?_⟩
        · by_cases z : b < a + n + i
          · exact hp b h1 z
          · rw [show b = a + n + i by omega]; exact e
        · simp (disch := omega) only [bd_s, bd2_s, bd3_s, bd4_s, bd5_s, bd6_s, bd7_s, bd8_s, lr_l, lr_r, nm_s, jn_s, gdb_0, gdb_1, li_2, li_3, li_4, li_5, li_6, li_7, li_8, li_9, li_10, li_11, li_12, li_13, li_14, li_15, li_16, li_20, li_24, li_32, li_40, li_41, li_43, li_48, li_57, li_59, li_60, li_62, li_63, li_76, li_96, li_97, li_99, li_100, li_104, li_116, li_122, li_128, li_129, li_216, li_217, li_218, li_219, li_239, li_240, li_255, li_256, li_257, li_400, li_456, li_856, li_999, li_1000, li_1001, li_1002, li_1003, li_1004, li_1005, li_1006, li_1007, li_1008, li_1161, li_2000, li_2001, li_2002, li_2003, li_2004, li_2005, li_5016, li_5472, li_9999, li_10000, li_32767, li_1000000, li_2000000000, nI_add, nI_mul, nI_sub, nI_clamp, nI_leI, nI_ltI, nI_eq, gdi_n, nI_1, nI_eq0, nI_eq1, nI_le0, nI_le1, nI_0le, nI_lt0, nI_0lt, nI_m1, Int32.add_zero, Nat.le_refl, if_true, if_false, Bool.false_eq_true, Bool.true_eq_false, i10, i01, im0, im1, i0m, i1m, l10, l00, l01, t10, t00, gs, n1, ke.2 e]
    · rintro _ ⟨rfl, hp⟩
      have n1 : S < a + n + (S + 1 - (a + 2 * n)) + n := by omega
      refine ⟨.inr (), Or.inr ⟨rfl, fun b h1 h2 => hp b h1 (by omega)⟩, fun r => ?_⟩
      simp (disch := omega) only [bd_s, bd2_s, bd3_s, bd4_s, bd5_s, bd6_s, bd7_s, bd8_s, lr_l, lr_r, nm_s, jn_s, gdb_0, gdb_1, li_2, li_3, li_4, li_5, li_6, li_7, li_8, li_9, li_10, li_11, li_12, li_13, li_14, li_15, li_16, li_20, li_24, li_32, li_40, li_41, li_43, li_48, li_57, li_59, li_60, li_62, li_63, li_76, li_96, li_97, li_99, li_100, li_104, li_116, li_122, li_128, li_129, li_216, li_217, li_218, li_219, li_239, li_240, li_255, li_256, li_257, li_400, li_456, li_856, li_999, li_1000, li_1001, li_1002, li_1003, li_1004, li_1005, li_1006, li_1007, li_1008, li_1161, li_2000, li_2001, li_2002, li_2003, li_2004, li_2005, li_5016, li_5472, li_9999, li_10000, li_32767, li_1000000, li_2000000000, nI_add, nI_mul, nI_sub, nI_clamp, nI_leI, nI_ltI, nI_eq, gdi_n, nI_1, nI_eq0, nI_eq1, nI_le0, nI_le1, nI_0le, nI_lt0, nI_0lt, nI_m1, Int32.add_zero, Nat.le_refl, if_true, if_false, Bool.false_eq_true, Bool.true_eq_false, i10, i01, im0, im1, i0m, i1m, l10, l00, l01, t10, t00, gs, n1]
  obtain ⟨c, h1, ⟨rfl, h2⟩ | ⟨rfl, h2⟩⟩ := H
  · exact Or.inl ⟨h1, h2⟩
  · exact Or.inr ⟨h1, h2⟩
theorem k_ec16 (hO : Ok m) (hR : RS gS gL m) (gX : Pic) {n : Nat} (n0 : 0 < n) (ha : 2 * n ≤ tn (m 5)) : (f_X6_longestEcho_L16 (nI n) gX gS fu 0 = some (.inl (nI n)) ∧ EE m n) ∨ (f_X6_longestEcho_L16 (nI n) gX gS fu 0 = some (.inr ()) ∧ ¬ EE m n) := by
  obtain ⟨S, hS, tS, -, s20⟩ := hO.S.ex
  have gs := hR.S.trans hS
  rw [tS] at ha
  have H : ∃ c, f_X6_longestEcho_L16 (nI n) gX gS fu 0 = some c ∧ ((c = .inl (nI n) ∧ EE m n) ∨ (c = .inr () ∧ ¬ EE m n)) := by
    refine lp_inv (fun i s => s = nI i ∧ ∀ a b, a < i → a + n ≤ b → b + n ≤ S → ¬ Ec m a b n) (S + 1 - 2 * n) (fun c : Int32 ⊕ Unit => ((c = .inl (nI n) ∧ EE m n) ∨ (c = .inr () ∧ ¬ EE m n))) ?_ ?_ (by have := fu_big; omega) ⟨rfl, fun a b h1 => absurd h1 (Nat.not_lt_zero a)⟩
    · rintro i hi _ ⟨rfl, hp⟩
      have n1 : ¬ S < i + 2 * n := by omega
      rcases k_ec35 hO hR gX (a := i) n0 (by omega) with ⟨q1, q2⟩ | ⟨q1, q2⟩
      · refine Or.inr ⟨.inl (nI n), Or.inl ⟨rfl, q2⟩, fun r => ?_⟩
        simp (disch := omega) only [bd_s, bd2_s, bd3_s, bd4_s, bd5_s, bd6_s, bd7_s, bd8_s, lr_l, lr_r, nm_s, jn_s, gdb_0, gdb_1, li_2, li_3, li_4, li_5, li_6, li_7, li_8, li_9, li_10, li_11, li_12, li_13, li_14, li_15, li_16, li_20, li_24, li_32, li_40, li_41, li_43, li_48, li_57, li_59, li_60, li_62, li_63, li_76, li_96, li_97, li_99, li_100, li_104, li_116, li_122, li_128, li_129, li_216, li_217, li_218, li_219, li_239, li_240, li_255, li_256, li_257, li_400, li_456, li_856, li_999, li_1000, li_1001, li_1002, li_1003, li_1004, li_1005, li_1006, li_1007, li_1008, li_1161, li_2000, li_2001, li_2002, li_2003, li_2004, li_2005, li_5016, li_5472, li_9999, li_10000, li_32767, li_1000000, li_2000000000, nI_add, nI_mul, nI_sub, nI_clamp, nI_leI, nI_ltI, nI_eq, gdi_n, nI_1, nI_eq0, nI_eq1, nI_le0, nI_le1, nI_0le, nI_lt0, nI_0lt, nI_m1, Int32.add_zero, Nat.le_refl, if_true, if_false, Bool.false_eq_true, Bool.true_eq_false, i10, i01, im0, im1, i0m, i1m, l10, l00, l01, t10, t00, gs, n1, q1]
      · refine Or.inl ⟨nI (i + 1), ⟨rfl, fun a b h1 h2 h3 => ?_⟩, fun r => ?_⟩
        · by_cases z : a < i
          · exact hp a b z h2 h3
          · rw [show a = i by omega] at h2 ⊢; exact q2 b h2 (by omega)
        · simp (disch := omega) only [bd_s, bd2_s, bd3_s, bd4_s, bd5_s, bd6_s, bd7_s, bd8_s, lr_l, lr_r, nm_s, jn_s, gdb_0, gdb_1, li_2, li_3, li_4, li_5, li_6, li_7, li_8, li_9, li_10, li_11, li_12, li_13, li_14, li_15, li_16, li_20, li_24, li_32, li_40, li_41, li_43, li_48, li_57, li_59, li_60, li_62, li_63, li_76, li_96, li_97, li_99, li_100, li_104, li_116, li_122, li_128, li_129, li_216, li_217, li_218, li_219, li_239, li_240, li_255, li_256, li_257, li_400, li_456, li_856, li_999, li_1000, li_1001, li_1002, li_1003, li_1004, li_1005, li_1006, li_1007, li_1008, li_1161, li_2000, li_2001, li_2002, li_2003, li_2004, li_2005, li_5016, li_5472, li_9999, li_10000, li_32767, li_1000000, li_2000000000, nI_add, nI_mul, nI_sub, nI_clamp, nI_leI, nI_ltI, nI_eq, gdi_n, nI_1, nI_eq0, nI_eq1, nI_le0, nI_le1, nI_0le, nI_lt0, nI_0lt, nI_m1, Int32.add_zero, Nat.le_refl, if_true, if_false, Bool.false_eq_true, Bool.true_eq_false, i10, i01, im0, im1, i0m, i1m, l10, l00, l01, t10, t00, gs, n1, q1]
    · rintro _ ⟨rfl, hp⟩
      have n1 : S < (S + 1 - 2 * n) + 2 * n := by omega
      refine ⟨.inr (), Or.inr ⟨rfl, fun ⟨a, b, h1, h2, h3⟩ => hp a b (by omega) h1 (by omega) h3⟩, fun r => ?_⟩
      simp (disch := omega) only [bd_s, bd2_s, bd3_s, bd4_s, bd5_s, bd6_s, bd7_s, bd8_s, lr_l, lr_r, nm_s, jn_s, gdb_0, gdb_1, li_2, li_3, li_4, li_5, li_6, li_7, li_8, li_9, li_10, li_11, li_12, li_13, li_14, li_15, li_16, li_20, li_24, li_32, li_40, li_41, li_43, li_48, li_57, li_59, li_60, li_62, li_63, li_76, li_96, li_97, li_99, li_100, li_104, li_116, li_122, li_128, li_129, li_216, li_217, li_218, li_219, li_239, li_240, li_255, li_256, li_257, li_400, li_456, li_856, li_999, li_1000, li_1001, li_1002, li_1003, li_1004, li_1005, li_1006, li_1007, li_1008, li_1161, li_2000, li_2001, li_2002, li_2003, li_2004, li_2005, li_5016, li_5472, li_9999, li_10000, li_32767, li_1000000, li_2000000000, nI_add, nI_mul, nI_sub, nI_clamp, nI_leI, nI_ltI, nI_eq, gdi_n, nI_1, nI_eq0, nI_eq1, nI_le0, nI_le1, nI_0le, nI_lt0, nI_0lt, nI_m1, Int32.add_zero, Nat.le_refl, if_true, if_false, Bool.false_eq_true, Bool.true_eq_false, i10, i01, im0, im1, i0m, i1m, l10, l00, l01, t10, t00, gs, n1]
  obtain ⟨c, h1, ⟨rfl, h2⟩ | ⟨rfl, h2⟩⟩ := H
  · exact Or.inl ⟨h1, h2⟩
  · exact Or.inr ⟨h1, h2⟩
theorem half20 : ∀ n, n < 21 → nI n / 2 = nI (n / 2) := by decide +kernel
theorem e_echo (hg : g 1 = m) (hO : Ok m) (hR : RS gS gL m) (gX : Pic) : ∃ v, f_X12_echo_L9 g fu (0, 0) = some v ∧ f_X6_longestEcho gX gS = some v := by
  obtain ⟨S, hS, tS, -, s20⟩ := hO.S.ex
  have gs := hR.S.trans hS
  obtain ⟨v, v20, q1, q2, q3⟩ := q_echo hg hO
  refine ⟨nI v, q1, ?_⟩
  have H : ∃ c, f_X6_longestEcho_L10 gX gS fu (nI (S / 2)) = some c ∧ ((∃ n, 0 < n ∧ c = .inl (nI n) ∧ EE m n ∧ ∀ k, EE m k → k ≤ n) ∨ (c = .inr () ∧ ∀ n, 0 < n → ¬ EE m n)) := by
    refine lp_inv (fun i s => s = nI (S / 2 - i) ∧ ∀ n, S / 2 - i < n → ¬ EE m n) (S / 2) (fun c : Int32 ⊕ Unit => ((∃ n, 0 < n ∧ c = .inl (nI n) ∧ EE m n ∧ ∀ k, EE m k → k ≤ n) ∨ (c = .inr () ∧ ∀ n, 0 < n → ¬ EE m n))) ?_ ?_ (by have := fu_big; omega) ⟨rfl, fun n h1 ⟨a, b, h2, h3, _⟩ => by omega⟩
    · rintro i hi _ ⟨rfl, hp⟩
      have n1 : ¬ S / 2 - i ≤ 0 := by omega
      rcases k_ec16 hO hR gX (n := S / 2 - i) (by omega) (by omega) with ⟨e1, e2⟩ | ⟨e1, e2⟩
      · refine Or.inr ⟨.inl (nI (S / 2 - i)), Or.inl ⟨S / 2 - i, by omega, rfl, e2, fun k hk => ?_⟩, fun r => ?_⟩
        · rcases Nat.lt_or_ge (S / 2 - i) k with z | z
          · exact absurd hk (hp k z)
          · exact z
        · simp (disch := omega) only [bd_s, bd2_s, bd3_s, bd4_s, bd5_s, bd6_s, bd7_s, bd8_s, lr_l, lr_r, nm_s, jn_s, gdb_0, gdb_1, li_2, li_3, li_4, li_5, li_6, li_7, li_8, li_9, li_10, li_11, li_12, li_13, li_14, li_15, li_16, li_20, li_24, li_32, li_40, li_41, li_43, li_48, li_57, li_59, li_60, li_62, li_63, li_76, li_96, li_97, li_99, li_100, li_104, li_116, li_122, li_128, li_129, li_216, li_217, li_218, li_219, li_239, li_240, li_255, li_256, li_257, li_400, li_456, li_856, li_999, li_1000, li_1001, li_1002, li_1003, li_1004, li_1005, li_1006, li_1007, li_1008, li_1161, li_2000, li_2001, li_2002, li_2003, li_2004, li_2005, li_5016, li_5472, li_9999, li_10000, li_32767, li_1000000, li_2000000000, nI_add, nI_mul, nI_sub, nI_clamp, nI_leI, nI_ltI, nI_eq, gdi_n, nI_1, nI_eq0, nI_eq1, nI_le0, nI_le1, nI_0le, nI_lt0, nI_0lt, nI_m1, Int32.add_zero, Nat.le_refl, if_true, if_false, Bool.false_eq_true, Bool.true_eq_false, i10, i01, im0, im1, i0m, i1m, l10, l00, l01, t10, t00, n1, e1]
      · refine Or.inl ⟨nI (S / 2 - (i + 1)), ⟨rfl, fun n h1 => ?_⟩, fun r => ?_⟩
        · by_cases z : S / 2 - i < n
          · exact hp n z
          · rw [show n = S / 2 - i by omega]; exact e2
        · have e3 : nI (S / 2 - i) + (-1) = nI (S / 2 - (i + 1)) := by
            rw [← Int32.sub_eq_add_neg, nI_s1 (by omega)]
            congr 1
          simp (disch := omega) only [bd_s, bd2_s, bd3_s, bd4_s, bd5_s, bd6_s, bd7_s, bd8_s, lr_l, lr_r, nm_s, jn_s, gdb_0, gdb_1, li_2, li_3, li_4, li_5, li_6, li_7, li_8, li_9, li_10, li_11, li_12, li_13, li_14, li_15, li_16, li_20, li_24, li_32, li_40, li_41, li_43, li_48, li_57, li_59, li_60, li_62, li_63, li_76, li_96, li_97, li_99, li_100, li_104, li_116, li_122, li_128, li_129, li_216, li_217, li_218, li_219, li_239, li_240, li_255, li_256, li_257, li_400, li_456, li_856, li_999, li_1000, li_1001, li_1002, li_1003, li_1004, li_1005, li_1006, li_1007, li_1008, li_1161, li_2000, li_2001, li_2002, li_2003, li_2004, li_2005, li_5016, li_5472, li_9999, li_10000, li_32767, li_1000000, li_2000000000, nI_add, nI_mul, nI_sub, nI_clamp, nI_leI, nI_ltI, nI_eq, gdi_n, nI_1, nI_eq0, nI_eq1, nI_le0, nI_le1, nI_0le, nI_lt0, nI_0lt, nI_m1, Int32.add_zero, Nat.le_refl, if_true, if_false, Bool.false_eq_true, Bool.true_eq_false, i10, i01, im0, im1, i0m, i1m, l10, l00, l01, t10, t00, n1, e1, e3]
    · rintro _ ⟨rfl, hp⟩
      rw [Nat.sub_self] at hp ⊢
      exact ⟨.inr (), Or.inr ⟨rfl, fun n h => hp n h⟩, fun r => rfl⟩
  obtain ⟨c, h1, h2⟩ := H
  unfold f_X6_longestEcho
  simp only [nm_s, gs, half20 S (by omega), h1]
  rcases h2 with ⟨n, n0, rfl, e1, e2⟩ | ⟨rfl, e1⟩
  · have a := q3 n n0 e1
    have b : v = n := by
      rcases q2 with z | z
      · omega
      · have := e2 v z; omega
    rw [b]; rfl
  · rcases q2 with z | z
    · rw [z]; rfl
    · rcases Nat.eq_zero_or_pos v with y | y
      · rw [y]; rfl
      · exact absurd z (e1 v y)
end K11
