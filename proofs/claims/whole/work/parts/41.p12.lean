/-! pages shared out, choices, who keeps up -/
theorem q4 : ∀ k, k < 4 → nI k / 2 = nI (k / 2) ∧ nI k - nI k / 2 * 2 = nI (k % 2) ∧ (1 : Int32) - nI (k / 2) = nI (1 - k / 2) ∧ (1 : Int32) - nI (k % 2) = nI (1 - k % 2) ∧ nI k ^^^ 2 = nI (2 * (1 - k / 2) + k % 2) ∧ nI k ^^^ 1 = nI (2 * (k / 2) + (1 - k % 2)) := by decide +kernel
section K12
variable {m : Nat → Int32} {g gS gL gH gC gP h : Pic}
def itH (m : Nat → Int32) (u a b : Nat) : Int32 := if a = 0 then (if b = 0 then wr m u 2 else -(wr m u 3 / 10)) else (if b = 0 then 1 else 4)
def spH (m : Nat → Int32) (u a b : Nat) : Int32 := if a = 0 then (if b = 0 then 2 else 1) else (if b = 0 then -(wr m u 1) else 3)
theorem q_itHas {u a b : Nat} (hu : u < 5) (ha : a < 2) (hb : b < 2) : f_X12_itHas g (nI u) (nI a) (nI b) = some (itH (g 1) u a b) := by
  unfold f_X12_itHas itH
  have e2 := q_of (g := g) (k := 2) hu (by omega)
  have e3 := q_of (g := g) (k := 3) hu (by omega)
  by_cases z : a = 0 <;> by_cases y : b = 0 <;> simp (disch := omega) only [bd_s, bd2_s, bd3_s, bd4_s, bd5_s, bd6_s, bd7_s, bd8_s, lr_l, lr_r, nm_s, jn_s, gdb_0, gdb_1, li_2, li_3, nI_eq0, z, y, if_true, if_false, e2, e3]
theorem q_spHas {u a b : Nat} (hu : u < 5) (ha : a < 2) (hb : b < 2) : f_X12_speakerHas g (nI u) (nI a) (nI b) = some (spH (g 1) u a b) := by
  unfold f_X12_speakerHas spH
  have e1 : f_X12_of g (nI u) 1 = some (wr (g 1) u 1) := q_of (g := g) (k := 1) hu (by omega)
  by_cases z : a = 0 <;> by_cases y : b = 0 <;> simp (disch := omega) only [bd_s, bd2_s, bd3_s, bd4_s, bd5_s, bd6_s, bd7_s, bd8_s, lr_l, lr_r, nm_s, jn_s, gdb_0, gdb_1, nI_eq0, z, y, if_true, if_false, e1]
theorem k_gain (hO : Ok m) (hR : RS gS gL m) {u a b : Nat} (hu : u < tn (m 4)) (ha : a < 2) (hb : b < 2) : f_X8_gainOf gC gH gS (nI u) (nI (2 * a + b)) = some (itH m u a b) := by
  have u5 := hO.u5 hu
  unfold f_X8_gainOf itH
  have : (a = 0 ∧ b = 0) ∨ (a = 0 ∧ b = 1) ∨ (a = 1 ∧ b = 0) ∨ (a = 1 ∧ b = 1) := by omega
  rcases this with ⟨rfl, rfl⟩ | ⟨rfl, rfl⟩ | ⟨rfl, rfl⟩ | ⟨rfl, rfl⟩
  · rw [if_pos (show nI (2 * 0 + 0) = 0 from rfl), gdi_n u5 (by decide), nI_clamp (by omega), hR.skill hu]; rfl
  · rw [if_neg (show ¬ nI (2 * 0 + 1) = 0 by decide), if_pos (show nI (2 * 0 + 1) = 1 from rfl), gdi_n u5 (by decide), nI_clamp (by omega), hR.tired hu]; rfl
  · rw [if_neg (show ¬ nI (2 * 1 + 0) = 0 by decide), if_neg (show ¬ nI (2 * 1 + 0) = 1 by decide), if_pos (show nI (2 * 1 + 0) = 2 from rfl)]; rfl
  · rw [if_neg (show ¬ nI (2 * 1 + 1) = 0 by decide), if_neg (show ¬ nI (2 * 1 + 1) = 1 by decide), if_neg (show ¬ nI (2 * 1 + 1) = 2 by decide)]; rfl
theorem k_spGain (hO : Ok m) (hR : RS gS gL m) {u a b : Nat} (hu : u < tn (m 4)) (ha : a < 2) (hb : b < 2) : f_X8_speakerGain gC gH gS (nI u) (nI (2 * a + b)) = some (spH m u a b) := by
  have u5 := hO.u5 hu
  unfold f_X8_speakerGain spH
  have : (a = 0 ∧ b = 0) ∨ (a = 0 ∧ b = 1) ∨ (a = 1 ∧ b = 0) ∨ (a = 1 ∧ b = 1) := by omega
  rcases this with ⟨rfl, rfl⟩ | ⟨rfl, rfl⟩ | ⟨rfl, rfl⟩ | ⟨rfl, rfl⟩
  · rw [if_pos (show nI (2 * 0 + 0) = 0 from rfl)]; rfl
  · rw [if_neg (show ¬ nI (2 * 0 + 1) = 0 by decide), if_pos (show nI (2 * 0 + 1) = 1 from rfl)]; rfl
  · rw [if_neg (show ¬ nI (2 * 1 + 0) = 0 by decide), if_neg (show ¬ nI (2 * 1 + 0) = 1 by decide), if_pos (show nI (2 * 1 + 0) = 2 from rfl), gdi_n u5 (by decide), nI_clamp (by omega), hR.speed hu]; rfl
  · rw [if_neg (show ¬ nI (2 * 1 + 1) = 0 by decide), if_neg (show ¬ nI (2 * 1 + 1) = 1 by decide), if_neg (show ¬ nI (2 * 1 + 1) = 2 by decide)]; rfl
theorem e_rests (hg : g 1 = m) (hO : Ok m) (hR : RS gS gL m) {u : Nat} (hu : u < tn (m 4)) (gC gH : Pic) : ∃ v, f_X12_rests_L30 (nI u) g fu (0, 0) = some v ∧ f_X8_steadyChoices gC gH gS (nI u) = some v := by
  subst hg
  have u5 := hO.u5 hu
  have H : ∃ c d, f_X12_rests_L30 (nI u) g fu (0, 0) = some c ∧ f_X8_steadyChoices_L4 (nI u) gC gH gS fu (0, 0) = some d ∧ c = d := by
    refine lp_two (fun k a b => ∃ v : Int32, a = (v, nI k) ∧ b = (v, nI k)) 4 (fun c d => c = d) ?_ ?_ (by have := fu_big; omega) (by have := fu_big; omega) ⟨0, rfl, rfl⟩
    · rintro k hk _ _ ⟨v, rfl, rfl⟩
      have nk : ¬ 4 ≤ k := by omega
      obtain ⟨p1, p2, p3, p4, p5, p6⟩ := q4 k hk
      have ek : k = 2 * (k / 2) + k % 2 := by omega
      have i1 := q_itHas (g := g) (u := u) (a := 1 - k / 2) (b := k % 2) u5 (by omega) (by omega)
      have i2 := q_itHas (g := g) (u := u) (a := k / 2) (b := k % 2) u5 (by omega) (by omega)
      have s1 := q_spHas (g := g) (u := u) (a := k / 2) (b := 1 - k % 2) u5 (by omega) (by omega)
      have s2 := q_spHas (g := g) (u := u) (a := k / 2) (b := k % 2) u5 (by omega) (by omega)
      have j1 := k_gain (gC := gC) (gH := gH) hO hR hu (show 1 - k / 2 < 2 by omega) (show k % 2 < 2 by omega)
      have j2 := k_gain (gC := gC) (gH := gH) hO hR hu (show k / 2 < 2 by omega) (show k % 2 < 2 by omega)
      have t1 := k_spGain (gC := gC) (gH := gH) hO hR hu (show k / 2 < 2 by omega) (show 1 - k % 2 < 2 by omega)
      have t2 := k_spGain (gC := gC) (gH := gH) hO hR hu (show k / 2 < 2 by omega) (show k % 2 < 2 by omega)
      rw [← ek] at j2 t2
      rw [← p5] at j1
      rw [← p6] at t1
      rw [← p3] at i1
      rw [← p4] at s1
      rw [← p1] at i1 i2 s1 s2
      rw [← p2] at i1 i2 s1 s2
      generalize itH (g 1) u (1 - k / 2) (k % 2) = A at i1 j1
      generalize itH (g 1) u (k / 2) (k % 2) = B at i2 j2
      generalize spH (g 1) u (k / 2) (1 - k % 2) = C at s1 t1
      generalize spH (g 1) u (k / 2) (k % 2) = E at s2 t2
      by_cases c1 : B < A
      · refine Or.inl ⟨(v, nI (k + 1)), (v, nI (k + 1)), ⟨_, rfl, rfl⟩, fun r => ?_, fun r => ?_⟩
        · simp (disch := omega) only [bd_s, bd2_s, bd3_s, bd4_s, bd5_s, bd6_s, bd7_s, bd8_s, lr_l, lr_r, nm_s, jn_s, gdb_0, gdb_1, li_4, nI_leI, nk, if_false, i1, i2, c1, if_true, nI_1]
        · simp (disch := omega) only [bd_s, bd2_s, bd3_s, bd4_s, bd5_s, bd6_s, bd7_s, bd8_s, lr_l, lr_r, nm_s, jn_s, gdb_0, gdb_1, li_4, nI_leI, nk, if_false, j1, j2, t1, t2, c1, if_true, nI_1]
          split <;> rfl
      · by_cases c2 : E < C
        · refine Or.inl ⟨(v, nI (k + 1)), (v, nI (k + 1)), ⟨_, rfl, rfl⟩, fun r => ?_, fun r => ?_⟩
          · simp (disch := omega) only [bd_s, bd2_s, bd3_s, bd4_s, bd5_s, bd6_s, bd7_s, bd8_s, lr_l, lr_r, nm_s, jn_s, gdb_0, gdb_1, li_4, nI_leI, nk, if_false, i1, i2, s1, s2, c1, c2, if_true, nI_1]
          · simp (disch := omega) only [bd_s, bd2_s, bd3_s, bd4_s, bd5_s, bd6_s, bd7_s, bd8_s, lr_l, lr_r, nm_s, jn_s, gdb_0, gdb_1, li_4, nI_leI, nk, if_false, j1, j2, t1, t2, c1, c2, if_true, nI_1, i10]
        · refine Or.inl ⟨(v ||| ((1 : Int32) <<< (nI k &&& 31)), nI (k + 1)), (v ||| ((1 : Int32) <<< (nI k &&& 31)), nI (k + 1)), ⟨_, rfl, rfl⟩, fun r => ?_, fun r => ?_⟩
          · simp (disch := omega) only [bd_s, bd2_s, bd3_s, bd4_s, bd5_s, bd6_s, bd7_s, bd8_s, lr_l, lr_r, nm_s, jn_s, gdb_0, gdb_1, li_4, nI_leI, nk, if_false, i1, i2, s1, s2, c1, c2, if_true, nI_1]
          · simp (disch := omega) only [bd_s, bd2_s, bd3_s, bd4_s, bd5_s, bd6_s, bd7_s, bd8_s, lr_l, lr_r, nm_s, jn_s, gdb_0, gdb_1, li_4, nI_leI, nk, if_false, j1, j2, t1, t2, c1, c2, if_true, nI_1, i10]
    · rintro _ _ ⟨v, rfl, rfl⟩
      exact ⟨v, v, rfl, fun r => rfl, fun r => rfl⟩
  obtain ⟨c, d, q1, q2, rfl⟩ := H
  exact ⟨c, q1, by unfold f_X8_steadyChoices; rw [q2]; rfl⟩
theorem e_fluent (hg : g 1 = m) (hO : Ok m) (hR : RS gS gL m) (gP gH gC : Pic) : ∃ v x y, f_X12_fluent_L9 g fu (0, 0) = some v ∧ f_X11_fluent gP gS gH gC = some (v, x, y) := by
  subst hg
  obtain ⟨U, hU, tU, -, u5⟩ := hO.U.ex
  have gu := hR.U.trans hU
  have H : ∃ c d, f_X12_fluent_L9 g fu (0, 0) = some c ∧ f_X11_fluent_L4 gP gS fu (0, 0, gH, gC) = some d ∧ ∃ x y, d = (c, x, y) := by
    refine lp_two (fun k a b => ∃ (v : Int32) (x y : Pic), a = (v, nI k) ∧ b = (v, nI k, x, y)) U (fun (c : Int32) (d : Int32 × Pic × Pic) => ∃ x y, d = (c, x, y)) ?_ ?_ (by have := fu_big; omega) (by have := fu_big; omega) ⟨0, gH, gC, rfl, rfl⟩
    · rintro k hk _ _ ⟨v, x, y, rfl, rfl⟩
      have nk : ¬ U ≤ k := by omega
      obtain ⟨lag, now, y', x', h1, h2, -⟩ := e_times hO hR (show k < tn (g 1 4) by omega) (g 1 7) y x
      have h1 := h1 0
      rw [if_pos rfl] at h1
      rw [← hR.T] at h2
      by_cases e : lag = 0
      · refine Or.inl ⟨(v ||| ((1 : Int32) <<< (nI k &&& 31)), nI (k + 1)), (v ||| ((1 : Int32) <<< (nI k &&& 31)), nI (k + 1), x', y'), ⟨_, _, _, rfl, rfl⟩, fun r => ?_, fun r => ?_⟩
        · simp (disch := omega) only [bd_s, bd2_s, bd3_s, bd4_s, bd5_s, bd6_s, bd7_s, bd8_s, lr_l, lr_r, nm_s, jn_s, gdb_0, gdb_1, li_2, li_3, li_4, li_5, li_6, li_7, li_8, li_9, li_10, li_11, li_12, li_13, li_14, li_15, li_16, li_20, li_24, li_32, li_40, li_41, li_43, li_48, li_57, li_59, li_60, li_62, li_63, li_76, li_96, li_97, li_99, li_100, li_104, li_116, li_122, li_128, li_129, li_216, li_217, li_218, li_219, li_239, li_240, li_255, li_256, li_257, li_400, li_456, li_856, li_999, li_1000, li_1001, li_1002, li_1003, li_1004, li_1005, li_1006, li_1007, li_1008, li_1161, li_2000, li_2001, li_2002, li_2003, li_2004, li_2005, li_5016, li_5472, li_9999, li_10000, li_32767, li_1000000, li_2000000000, nI_add, nI_mul, nI_sub, nI_clamp, nI_leI, nI_ltI, nI_eq, gdi_n, nI_1, nI_eq0, nI_eq1, nI_le0, nI_le1, nI_0le, nI_lt0, nI_0lt, nI_m1, Int32.add_zero, Nat.le_refl, if_true, if_false, Bool.false_eq_true, Bool.true_eq_false, i10, i01, im0, im1, i0m, i1m, l10, l00, l01, t10, t00, hU, nk, h1, e]
        · simp (disch := omega) only [bd_s, bd2_s, bd3_s, bd4_s, bd5_s, bd6_s, bd7_s, bd8_s, lr_l, lr_r, nm_s, jn_s, gdb_0, gdb_1, li_2, li_3, li_4, li_5, li_6, li_7, li_8, li_9, li_10, li_11, li_12, li_13, li_14, li_15, li_16, li_20, li_24, li_32, li_40, li_41, li_43, li_48, li_57, li_59, li_60, li_62, li_63, li_76, li_96, li_97, li_99, li_100, li_104, li_116, li_122, li_128, li_129, li_216, li_217, li_218, li_219, li_239, li_240, li_255, li_256, li_257, li_400, li_456, li_856, li_999, li_1000, li_1001, li_1002, li_1003, li_1004, li_1005, li_1006, li_1007, li_1008, li_1161, li_2000, li_2001, li_2002, li_2003, li_2004, li_2005, li_5016, li_5472, li_9999, li_10000, li_32767, li_1000000, li_2000000000, nI_add, nI_mul, nI_sub, nI_clamp, nI_leI, nI_ltI, nI_eq, gdi_n, nI_1, nI_eq0, nI_eq1, nI_le0, nI_le1, nI_0le, nI_lt0, nI_0lt, nI_m1, Int32.add_zero, Nat.le_refl, if_true, if_false, Bool.false_eq_true, Bool.true_eq_false, i10, i01, im0, im1, i0m, i1m, l10, l00, l01, t10, t00, gu, nk, h2, e]
      · refine Or.inl ⟨(v, nI (k + 1)), (v, nI (k + 1), x', y'), ⟨_, _, _, rfl, rfl⟩, fun r => ?_, fun r => ?_⟩
        · simp (disch := omega) only [bd_s, bd2_s, bd3_s, bd4_s, bd5_s, bd6_s, bd7_s, bd8_s, lr_l, lr_r, nm_s, jn_s, gdb_0, gdb_1, li_2, li_3, li_4, li_5, li_6, li_7, li_8, li_9, li_10, li_11, li_12, li_13, li_14, li_15, li_16, li_20, li_24, li_32, li_40, li_41, li_43, li_48, li_57, li_59, li_60, li_62, li_63, li_76, li_96, li_97, li_99, li_100, li_104, li_116, li_122, li_128, li_129, li_216, li_217, li_218, li_219, li_239, li_240, li_255, li_256, li_257, li_400, li_456, li_856, li_999, li_1000, li_1001, li_1002, li_1003, li_1004, li_1005, li_1006, li_1007, li_1008, li_1161, li_2000, li_2001, li_2002, li_2003, li_2004, li_2005, li_5016, li_5472, li_9999, li_10000, li_32767, li_1000000, li_2000000000, nI_add, nI_mul, nI_sub, nI_clamp, nI_leI, nI_ltI, nI_eq, gdi_n, nI_1, nI_eq0, nI_eq1, nI_le0, nI_le1, nI_0le, nI_lt0, nI_0lt, nI_m1, Int32.add_zero, Nat.le_refl, if_true, if_false, Bool.false_eq_true, Bool.true_eq_false, i10, i01, im0, im1, i0m, i1m, l10, l00, l01, t10, t00, hU, nk, h1, e, Int32.or_zero]
        · simp (disch := omega) only [bd_s, bd2_s, bd3_s, bd4_s, bd5_s, bd6_s, bd7_s, bd8_s, lr_l, lr_r, nm_s, jn_s, gdb_0, gdb_1, li_2, li_3, li_4, li_5, li_6, li_7, li_8, li_9, li_10, li_11, li_12, li_13, li_14, li_15, li_16, li_20, li_24, li_32, li_40, li_41, li_43, li_48, li_57, li_59, li_60, li_62, li_63, li_76, li_96, li_97, li_99, li_100, li_104, li_116, li_122, li_128, li_129, li_216, li_217, li_218, li_219, li_239, li_240, li_255, li_256, li_257, li_400, li_456, li_856, li_999, li_1000, li_1001, li_1002, li_1003, li_1004, li_1005, li_1006, li_1007, li_1008, li_1161, li_2000, li_2001, li_2002, li_2003, li_2004, li_2005, li_5016, li_5472, li_9999, li_10000, li_32767, li_1000000, li_2000000000, nI_add, nI_mul, nI_sub, nI_clamp, nI_leI, nI_ltI, nI_eq, gdi_n, nI_1, nI_eq0, nI_eq1, nI_le0, nI_le1, nI_0le, nI_lt0, nI_0lt, nI_m1, Int32.add_zero, Nat.le_refl, if_true, if_false, Bool.false_eq_true, Bool.true_eq_false, i10, i01, im0, im1, i0m, i1m, l10, l00, l01, t10, t00, gu, nk, h2, e]
    · rintro _ _ ⟨v, x, y, rfl, rfl⟩
      refine ⟨v, (v, x, y), ⟨x, y, rfl⟩, fun r => ?_, fun r => ?_⟩
      · simp (disch := omega) only [bd_s, bd2_s, bd3_s, bd4_s, bd5_s, bd6_s, bd7_s, bd8_s, lr_l, lr_r, nm_s, jn_s, gdb_0, gdb_1, li_2, li_3, li_4, li_5, li_6, li_7, li_8, li_9, li_10, li_11, li_12, li_13, li_14, li_15, li_16, li_20, li_24, li_32, li_40, li_41, li_43, li_48, li_57, li_59, li_60, li_62, li_63, li_76, li_96, li_97, li_99, li_100, li_104, li_116, li_122, li_128, li_129, li_216, li_217, li_218, li_219, li_239, li_240, li_255, li_256, li_257, li_400, li_456, li_856, li_999, li_1000, li_1001, li_1002, li_1003, li_1004, li_1005, li_1006, li_1007, li_1008, li_1161, li_2000, li_2001, li_2002, li_2003, li_2004, li_2005, li_5016, li_5472, li_9999, li_10000, li_32767, li_1000000, li_2000000000, nI_add, nI_mul, nI_sub, nI_clamp, nI_leI, nI_ltI, nI_eq, gdi_n, nI_1, nI_eq0, nI_eq1, nI_le0, nI_le1, nI_0le, nI_lt0, nI_0lt, nI_m1, Int32.add_zero, Nat.le_refl, if_true, if_false, Bool.false_eq_true, Bool.true_eq_false, i10, i01, im0, im1, i0m, i1m, l10, l00, l01, t10, t00, hU]
        done
      · simp (disch := omega) only [bd_s, bd2_s, bd3_s, bd4_s, bd5_s, bd6_s, bd7_s, bd8_s, lr_l, lr_r, nm_s, jn_s, gdb_0, gdb_1, li_2, li_3, li_4, li_5, li_6, li_7, li_8, li_9, li_10, li_11, li_12, li_13, li_14, li_15, li_16, li_20, li_24, li_32, li_40, li_41, li_43, li_48, li_57, li_59, li_60, li_62, li_63, li_76, li_96, li_97, li_99, li_100, li_104, li_116, li_122, li_128, li_129, li_216, li_217, li_218, li_219, li_239, li_240, li_255, li_256, li_257, li_400, li_456, li_856, li_999, li_1000, li_1001, li_1002, li_1003, li_1004, li_1005, li_1006, li_1007, li_1008, li_1161, li_2000, li_2001, li_2002, li_2003, li_2004, li_2005, li_5016, li_5472, li_9999, li_10000, li_32767, li_1000000, li_2000000000, nI_add, nI_mul, nI_sub, nI_clamp, nI_leI, nI_ltI, nI_eq, gdi_n, nI_1, nI_eq0, nI_eq1, nI_le0, nI_le1, nI_0le, nI_lt0, nI_0lt, nI_m1, Int32.add_zero, Nat.le_refl, if_true, if_false, Bool.false_eq_true, Bool.true_eq_false, i10, i01, im0, im1, i0m, i1m, l10, l00, l01, t10, t00, gu]
        done
  obtain ⟨c, d, q1, q2, x, y, rfl⟩ := H
  exact ⟨c, x, y, q1, by unfold f_X11_fluent; rw [q2]; rfl⟩
/-! pages shared out -/
theorem e_pages1 (hg : g 1 = m) (hO : Ok m) (hR : RS gS gL m) (h1 : 1 ≤ tn (m 4)) {N : Nat} (hN : N ≤ 99) (hh : ∀ o, o < 5 → ∃ x, x ≤ N ∧ g 24 o = nI x ∧ h 2 o = nI x) (p q s p' q' s' : Int32) (gH : Pic) : ∃ j, j < 5 ∧ f_X12_pages_L73 p q s g fu (0, 1) = some (nI j) ∧ f_X8_pagesOf_L21 p' q' s' h gH gS fu (0, 1) = some (nI j) := by
  subst hg
  obtain ⟨U, hU, tU, -, u5⟩ := hO.U.ex
  have gu := hR.U.trans hU
  rw [tU] at h1
  have H : ∃ c d, f_X12_pages_L73 p q s g fu (0, 1) = some c ∧ f_X8_pagesOf_L21 p' q' s' h gH gS fu (0, 1) = some d ∧ c = d ∧ ∃ j, j < 5 ∧ c = nI j := by
    refine lp_two (fun k a b => ∃ j, j < 1 + k ∧ a = (nI j, nI (1 + k)) ∧ b = (nI j, nI (1 + k))) (U - 1) (fun c d => c = d ∧ ∃ j, j < 5 ∧ c = nI j) ?_ ?_ (by have := fu_big; omega) (by have := fu_big; omega) ⟨0, by omega, rfl, rfl⟩
    · rintro k hk _ _ ⟨j, hj, rfl, rfl⟩
      have nk : ¬ U ≤ 1 + k := by omega
      obtain ⟨x, x9, hx1, hx2⟩ := hh (1 + k) (by omega)
      obtain ⟨y, y9, hy1, hy2⟩ := hh j (by omega)
      have q1 : f_X12_of g (nI (1 + k)) 1 = some (wr (g 1) (1 + k) 1) := q_of (g := g) (k := 1) (show 1 + k < 5 by omega) (by omega)
      have q2 : f_X12_of g (nI j) 1 = some (wr (g 1) j 1) := q_of (g := g) (k := 1) (show j < 5 by omega) (by omega)
      have c1 : f_X8_claimOf h gH gS (nI (1 + k)) = some (wr (g 1) (1 + k) 1 / nI (x + 1)) := by
        unfold f_X8_claimOf
        simp (disch := omega) only [bd_s, bd2_s, bd3_s, bd4_s, bd5_s, bd6_s, bd7_s, bd8_s, lr_l, lr_r, nm_s, jn_s, gdb_0, gdb_1, li_2, li_3, li_4, li_5, li_6, li_7, li_8, li_9, li_10, li_11, li_12, li_13, li_14, li_15, li_16, li_20, li_24, li_32, li_40, li_41, li_43, li_48, li_57, li_59, li_60, li_62, li_63, li_76, li_96, li_97, li_99, li_100, li_104, li_116, li_122, li_128, li_129, li_216, li_217, li_218, li_219, li_239, li_240, li_255, li_256, li_257, li_400, li_456, li_856, li_999, li_1000, li_1001, li_1002, li_1003, li_1004, li_1005, li_1006, li_1007, li_1008, li_1161, li_2000, li_2001, li_2002, li_2003, li_2004, li_2005, li_5016, li_5472, li_9999, li_10000, li_32767, li_1000000, li_2000000000, nI_add, nI_mul, nI_sub, nI_clamp, nI_leI, nI_ltI, nI_eq, gdi_n, nI_1, nI_eq0, nI_eq1, nI_le0, nI_le1, nI_0le, nI_lt0, nI_0lt, nI_m1, Int32.add_zero, Nat.le_refl, if_true, if_false, Bool.false_eq_true, Bool.true_eq_false, i10, i01, im0, im1, i0m, i1m, l10, l00, l01, t10, t00, hx2, gdz_n, hR.speed (show 1 + k < tn (g 1 4) by omega)]
      have c2 : f_X8_claimOf h gH gS (nI j) = some (wr (g 1) j 1 / nI (y + 1)) := by
        unfold f_X8_claimOf
        simp (disch := omega) only [bd_s, bd2_s, bd3_s, bd4_s, bd5_s, bd6_s, bd7_s, bd8_s, lr_l, lr_r, nm_s, jn_s, gdb_0, gdb_1, li_2, li_3, li_4, li_5, li_6, li_7, li_8, li_9, li_10, li_11, li_12, li_13, li_14, li_15, li_16, li_20, li_24, li_32, li_40, li_41, li_43, li_48, li_57, li_59, li_60, li_62, li_63, li_76, li_96, li_97, li_99, li_100, li_104, li_116, li_122, li_128, li_129, li_216, li_217, li_218, li_219, li_239, li_240, li_255, li_256, li_257, li_400, li_456, li_856, li_999, li_1000, li_1001, li_1002, li_1003, li_1004, li_1005, li_1006, li_1007, li_1008, li_1161, li_2000, li_2001, li_2002, li_2003, li_2004, li_2005, li_5016, li_5472, li_9999, li_10000, li_32767, li_1000000, li_2000000000, nI_add, nI_mul, nI_sub, nI_clamp, nI_leI, nI_ltI, nI_eq, gdi_n, nI_1, nI_eq0, nI_eq1, nI_le0, nI_le1, nI_0le, nI_lt0, nI_0lt, nI_m1, Int32.add_zero, Nat.le_refl, if_true, if_false, Bool.false_eq_true, Bool.true_eq_false, i10, i01, im0, im1, i0m, i1m, l10, l00, l01, t10, t00, hy2, gdz_n, hR.speed (show j < tn (g 1 4) by omega)]
      by_cases c : wr (g 1) (1 + k) 1 / nI (x + 1) ≤ wr (g 1) j 1 / nI (y + 1)
      · refine Or.inl ⟨(nI j, nI (1 + k + 1)), (nI j, nI (1 + k + 1)), ⟨j, by omega, rfl, rfl⟩, fun r => ?_, fun r => ?_⟩
        · simp (disch := omega) only [bd_s, bd2_s, bd3_s, bd4_s, bd5_s, bd6_s, bd7_s, bd8_s, lr_l, lr_r, nm_s, jn_s, gdb_0, gdb_1, li_2, li_3, li_4, li_5, li_6, li_7, li_8, li_9, li_10, li_11, li_12, li_13, li_14, li_15, li_16, li_20, li_24, li_32, li_40, li_41, li_43, li_48, li_57, li_59, li_60, li_62, li_63, li_76, li_96, li_97, li_99, li_100, li_104, li_116, li_122, li_128, li_129, li_216, li_217, li_218, li_219, li_239, li_240, li_255, li_256, li_257, li_400, li_456, li_856, li_999, li_1000, li_1001, li_1002, li_1003, li_1004, li_1005, li_1006, li_1007, li_1008, li_1161, li_2000, li_2001, li_2002, li_2003, li_2004, li_2005, li_5016, li_5472, li_9999, li_10000, li_32767, li_1000000, li_2000000000, nI_add, nI_mul, nI_sub, nI_clamp, nI_leI, nI_ltI, nI_eq, gdi_n, nI_1, nI_eq0, nI_eq1, nI_le0, nI_le1, nI_0le, nI_lt0, nI_0lt, nI_m1, Int32.add_zero, Nat.le_refl, if_true, if_false, Bool.false_eq_true, Bool.true_eq_false, i10, i01, im0, im1, i0m, i1m, l10, l00, l01, t10, t00, hU, nk, q1, q2, hx1, hy1, gdz_n, c]
        · simp (disch := omega) only [bd_s, bd2_s, bd3_s, bd4_s, bd5_s, bd6_s, bd7_s, bd8_s, lr_l, lr_r, nm_s, jn_s, gdb_0, gdb_1, li_2, li_3, li_4, li_5, li_6, li_7, li_8, li_9, li_10, li_11, li_12, li_13, li_14, li_15, li_16, li_20, li_24, li_32, li_40, li_41, li_43, li_48, li_57, li_59, li_60, li_62, li_63, li_76, li_96, li_97, li_99, li_100, li_104, li_116, li_122, li_128, li_129, li_216, li_217, li_218, li_219, li_239, li_240, li_255, li_256, li_257, li_400, li_456, li_856, li_999, li_1000, li_1001, li_1002, li_1003, li_1004, li_1005, li_1006, li_1007, li_1008, li_1161, li_2000, li_2001, li_2002, li_2003, li_2004, li_2005, li_5016, li_5472, li_9999, li_10000, li_32767, li_1000000, li_2000000000, nI_add, nI_mul, nI_sub, nI_clamp, nI_leI, nI_ltI, nI_eq, gdi_n, nI_1, nI_eq0, nI_eq1, nI_le0, nI_le1, nI_0le, nI_lt0, nI_0lt, nI_m1, Int32.add_zero, Nat.le_refl, if_true, if_false, Bool.false_eq_true, Bool.true_eq_false, i10, i01, im0, im1, i0m, i1m, l10, l00, l01, t10, t00, gu, nk, c1, c2, c]
      · refine Or.inl ⟨(nI (1 + k), nI (1 + k + 1)), (nI (1 + k), nI (1 + k + 1)), ⟨1 + k, by omega, rfl, rfl⟩, fun r => ?_, fun r => ?_⟩
        · simp (disch := omega) only [bd_s, bd2_s, bd3_s, bd4_s, bd5_s, bd6_s, bd7_s, bd8_s, lr_l, lr_r, nm_s, jn_s, gdb_0, gdb_1, li_2, li_3, li_4, li_5, li_6, li_7, li_8, li_9, li_10, li_11, li_12, li_13, li_14, li_15, li_16, li_20, li_24, li_32, li_40, li_41, li_43, li_48, li_57, li_59, li_60, li_62, li_63, li_76, li_96, li_97, li_99, li_100, li_104, li_116, li_122, li_128, li_129, li_216, li_217, li_218, li_219, li_239, li_240, li_255, li_256, li_257, li_400, li_456, li_856, li_999, li_1000, li_1001, li_1002, li_1003, li_1004, li_1005, li_1006, li_1007, li_1008, li_1161, li_2000, li_2001, li_2002, li_2003, li_2004, li_2005, li_5016, li_5472, li_9999, li_10000, li_32767, li_1000000, li_2000000000, nI_add, nI_mul, nI_sub, nI_clamp, nI_leI, nI_ltI, nI_eq, gdi_n, nI_1, nI_eq0, nI_eq1, nI_le0, nI_le1, nI_0le, nI_lt0, nI_0lt, nI_m1, Int32.add_zero, Nat.le_refl, if_true, if_false, Bool.false_eq_true, Bool.true_eq_false, i10, i01, im0, im1, i0m, i1m, l10, l00, l01, t10, t00, hU, nk, q1, q2, hx1, hy1, gdz_n, c]
        · simp (disch := omega) only [bd_s, bd2_s, bd3_s, bd4_s, bd5_s, bd6_s, bd7_s, bd8_s, lr_l, lr_r, nm_s, jn_s, gdb_0, gdb_1, li_2, li_3, li_4, li_5, li_6, li_7, li_8, li_9, li_10, li_11, li_12, li_13, li_14, li_15, li_16, li_20, li_24, li_32, li_40, li_41, li_43, li_48, li_57, li_59, li_60, li_62, li_63, li_76, li_96, li_97, li_99, li_100, li_104, li_116, li_122, li_128, li_129, li_216, li_217, li_218, li_219, li_239, li_240, li_255, li_256, li_257, li_400, li_456, li_856, li_999, li_1000, li_1001, li_1002, li_1003, li_1004, li_1005, li_1006, li_1007, li_1008, li_1161, li_2000, li_2001, li_2002, li_2003, li_2004, li_2005, li_5016, li_5472, li_9999, li_10000, li_32767, li_1000000, li_2000000000, nI_add, nI_mul, nI_sub, nI_clamp, nI_leI, nI_ltI, nI_eq, gdi_n, nI_1, nI_eq0, nI_eq1, nI_le0, nI_le1, nI_0le, nI_lt0, nI_0lt, nI_m1, Int32.add_zero, Nat.le_refl, if_true, if_false, Bool.false_eq_true, Bool.true_eq_false, i10, i01, im0, im1, i0m, i1m, l10, l00, l01, t10, t00, gu, nk, c1, c2, c]
    · rintro _ _ ⟨j, hj, rfl, rfl⟩
      have nk : U ≤ 1 + (U - 1) := by omega
      refine ⟨nI j, nI j, ⟨rfl, j, by omega, rfl⟩, fun r => ?_, fun r => ?_⟩
      · simp (disch := omega) only [bd_s, bd2_s, bd3_s, bd4_s, bd5_s, bd6_s, bd7_s, bd8_s, lr_l, lr_r, nm_s, jn_s, gdb_0, gdb_1, li_2, li_3, li_4, li_5, li_6, li_7, li_8, li_9, li_10, li_11, li_12, li_13, li_14, li_15, li_16, li_20, li_24, li_32, li_40, li_41, li_43, li_48, li_57, li_59, li_60, li_62, li_63, li_76, li_96, li_97, li_99, li_100, li_104, li_116, li_122, li_128, li_129, li_216, li_217, li_218, li_219, li_239, li_240, li_255, li_256, li_257, li_400, li_456, li_856, li_999, li_1000, li_1001, li_1002, li_1003, li_1004, li_1005, li_1006, li_1007, li_1008, li_1161, li_2000, li_2001, li_2002, li_2003, li_2004, li_2005, li_5016, li_5472, li_9999, li_10000, li_32767, li_1000000, li_2000000000, nI_add, nI_mul, nI_sub, nI_clamp, nI_leI, nI_ltI, nI_eq, gdi_n, nI_1, nI_eq0, nI_eq1, nI_le0, nI_le1, nI_0le, nI_lt0, nI_0lt, nI_m1, Int32.add_zero, Nat.le_refl, if_true, if_false, Bool.false_eq_true, Bool.true_eq_false, i10, i01, im0, im1, i0m, i1m, l10, l00, l01, t10, t00, hU, nk]
      · simp (disch := omega) only [bd_s, bd2_s, bd3_s, bd4_s, bd5_s, bd6_s, bd7_s, bd8_s, lr_l, lr_r, nm_s, jn_s, gdb_0, gdb_1, li_2, li_3, li_4, li_5, li_6, li_7, li_8, li_9, li_10, li_11, li_12, li_13, li_14, li_15, li_16, li_20, li_24, li_32, li_40, li_41, li_43, li_48, li_57, li_59, li_60, li_62, li_63, li_76, li_96, li_97, li_99, li_100, li_104, li_116, li_122, li_128, li_129, li_216, li_217, li_218, li_219, li_239, li_240, li_255, li_256, li_257, li_400, li_456, li_856, li_999, li_1000, li_1001, li_1002, li_1003, li_1004, li_1005, li_1006, li_1007, li_1008, li_1161, li_2000, li_2001, li_2002, li_2003, li_2004, li_2005, li_5016, li_5472, li_9999, li_10000, li_32767, li_1000000, li_2000000000, nI_add, nI_mul, nI_sub, nI_clamp, nI_leI, nI_ltI, nI_eq, gdi_n, nI_1, nI_eq0, nI_eq1, nI_le0, nI_le1, nI_0le, nI_lt0, nI_0lt, nI_m1, Int32.add_zero, Nat.le_refl, if_true, if_false, Bool.false_eq_true, Bool.true_eq_false, i10, i01, im0, im1, i0m, i1m, l10, l00, l01, t10, t00, gu, nk]
  obtain ⟨c, d, q1, q2, rfl, j, hj, rfl⟩ := H
  exact ⟨j, hj, q1, q2⟩
theorem e_pages (hg : g 1 = m) (hO : Ok m) (hR : RS gS gL m) {u n : Nat} (hu : u < tn (m 4)) (hn : n ≤ 99) (gC gH : Pic) : ∃ v g' s', bd (f_X12_pages_L42 (nI u) (nI n) fu (0, g)) (fun g0_6 => bd (f_X12_pages_L62 (nI u) (nI n) fu (0, g0_6)) (fun g0_19 => gdi (nI u) 5 (some ((g0_19 24 ((nI u).toNatClampNeg)), g0_19)))) = some (v, g') ∧ Es g g' ∧ f_X8_pagesOf gC gH gS (nI u) (nI n) = some (v, s') := by
  have u5 := hO.u5 hu
  have A : ∃ h, f_X12_pages_L42 (nI u) (nI n) fu (0, g) = some h ∧ Es g h ∧ ∀ o, o < 5 → h 24 o = nI 0 := by
    refine lp_inv (fun c a => ∃ h : Pic, a = (nI c, h) ∧ Es g h ∧ ∀ c', c' < c → h 24 c' = nI 0) 5 (fun h : Pic => Es g h ∧ ∀ c, c < 5 → h 24 c = nI 0) ?_ ?_ (by have := fu_big; omega) ⟨g, rfl, Es.rf g, fun c hc => absurd hc (Nat.not_lt_zero _)⟩
    · rintro c hc _ ⟨h, rfl, hE, h1⟩
      have nk : ¬ 5 ≤ c := by omega
      refine Or.inl ⟨(nI (c + 1), pu h 24 c 0), ⟨_, rfl, hE.pu (by decide), fun c' h' => ?_⟩, fun r => ?_⟩
      · rw [pu_s]
        split
        · rfl
        · exact h1 c' (by omega)
      · simp (disch := omega) only [bd_s, bd2_s, bd3_s, bd4_s, bd5_s, bd6_s, bd7_s, bd8_s, lr_l, lr_r, nm_s, jn_s, gdb_0, gdb_1, li_2, li_3, li_4, li_5, li_6, li_7, li_8, li_9, li_10, li_11, li_12, li_13, li_14, li_15, li_16, li_20, li_24, li_32, li_40, li_41, li_43, li_48, li_57, li_59, li_60, li_62, li_63, li_76, li_96, li_97, li_99, li_100, li_104, li_116, li_122, li_128, li_129, li_216, li_217, li_218, li_219, li_239, li_240, li_255, li_256, li_257, li_400, li_456, li_856, li_999, li_1000, li_1001, li_1002, li_1003, li_1004, li_1005, li_1006, li_1007, li_1008, li_1161, li_2000, li_2001, li_2002, li_2003, li_2004, li_2005, li_5016, li_5472, li_9999, li_10000, li_32767, li_1000000, li_2000000000, nI_add, nI_mul, nI_sub, nI_clamp, nI_leI, nI_ltI, nI_eq, gdi_n, nI_1, nI_eq0, nI_eq1, nI_le0, nI_le1, nI_0le, nI_lt0, nI_0lt, nI_m1, Int32.add_zero, Nat.le_refl, if_true, if_false, Bool.false_eq_true, Bool.true_eq_false, i10, i01, im0, im1, i0m, i1m, l10, l00, l01, t10, t00, nk]
    · rintro _ ⟨h, rfl, hE, h1⟩
      exact ⟨h, ⟨hE, h1⟩, fun r => rfl⟩
  obtain ⟨h0, A1, A2, A3⟩ := A
  have B : ∃ c d, f_X12_pages_L62 (nI u) (nI n) fu (0, h0) = some c ∧ f_X8_pagesOf_L10 (nI u) (nI n) gH gS fu (0, pr_ gC 2 (fl 5 0 (gC 2))) = some d ∧ Es g c ∧ ∀ o, o < 5 → ∃ x, x ≤ n ∧ c 24 o = nI x ∧ d 2 o = nI x := by
    refine lp_two (fun k a b => ∃ (x y : Pic), a = (nI k, x) ∧ b = (nI k, y) ∧ Es g x ∧ ∀ o, o < 5 → ∃ z, z ≤ k ∧ x 24 o = nI z ∧ y 2 o = nI z) n (fun (c d : Pic) => Es g c ∧ ∀ o, o < 5 → ∃ x, x ≤ n ∧ c 24 o = nI x ∧ d 2 o = nI x) ?_ ?_ (by have := fu_big; omega) (by have := fu_big; omega) ⟨h0, pr_ gC 2 (fl 5 0 (gC 2)), rfl, rfl, A2, fun o ho => ⟨0, Nat.le_refl 0, A3 o ho, ?_⟩⟩
    · rintro k hk _ _ ⟨x, y, rfl, rfl, hE, hz⟩
      have nk : ¬ n ≤ k := by omega
      obtain ⟨j, j5, q1, q2⟩ := e_pages1 (hE.m.trans hg) hO hR (by omega) (show k ≤ 99 by omega) hz (nI u) (nI n) (nI k) (nI u) (nI n) (nI k) gH
      obtain ⟨z, z9, z1, z2⟩ := hz j j5
      refine Or.inl ⟨(nI (k + 1), pu x 24 j (nI (z + 1))), (nI (k + 1), pu y 2 j (nI (z + 1))), ⟨_, _, rfl, rfl, hE.pu (by decide), fun o ho => ?_⟩, fun r => ?_, fun r => ?_⟩
      · by_cases e : o = j
        · subst e
          exact ⟨z + 1, by omega, by rw [pu_s, if_pos rfl], by rw [pu_s, if_pos rfl]⟩
        · obtain ⟨z', z9', z1', z2'⟩ := hz o ho
          exact ⟨z', by omega, by rw [pu_s, if_neg e]; exact z1', by rw [pu_s, if_neg e]; exact z2'⟩
      · simp (disch := omega) only [bd_s, bd2_s, bd3_s, bd4_s, bd5_s, bd6_s, bd7_s, bd8_s, lr_l, lr_r, nm_s, jn_s, gdb_0, gdb_1, li_2, li_3, li_4, li_5, li_6, li_7, li_8, li_9, li_10, li_11, li_12, li_13, li_14, li_15, li_16, li_20, li_24, li_32, li_40, li_41, li_43, li_48, li_57, li_59, li_60, li_62, li_63, li_76, li_96, li_97, li_99, li_100, li_104, li_116, li_122, li_128, li_129, li_216, li_217, li_218, li_219, li_239, li_240, li_255, li_256, li_257, li_400, li_456, li_856, li_999, li_1000, li_1001, li_1002, li_1003, li_1004, li_1005, li_1006, li_1007, li_1008, li_1161, li_2000, li_2001, li_2002, li_2003, li_2004, li_2005, li_5016, li_5472, li_9999, li_10000, li_32767, li_1000000, li_2000000000, nI_add, nI_mul, nI_sub, nI_clamp, nI_leI, nI_ltI, nI_eq, gdi_n, nI_1, nI_eq0, nI_eq1, nI_le0, nI_le1, nI_0le, nI_lt0, nI_0lt, nI_m1, Int32.add_zero, Nat.le_refl, if_true, if_false, Bool.false_eq_true, Bool.true_eq_false, i10, i01, im0, im1, i0m, i1m, l10, l00, l01, t10, t00, nk, q1, z1]
      · simp (disch := omega) only [bd_s, bd2_s, bd3_s, bd4_s, bd5_s, bd6_s, bd7_s, bd8_s, lr_l, lr_r, nm_s, jn_s, gdb_0, gdb_1, li_2, li_3, li_4, li_5, li_6, li_7, li_8, li_9, li_10, li_11, li_12, li_13, li_14, li_15, li_16, li_20, li_24, li_32, li_40, li_41, li_43, li_48, li_57, li_59, li_60, li_62, li_63, li_76, li_96, li_97, li_99, li_100, li_104, li_116, li_122, li_128, li_129, li_216, li_217, li_218, li_219, li_239, li_240, li_255, li_256, li_257, li_400, li_456, li_856, li_999, li_1000, li_1001, li_1002, li_1003, li_1004, li_1005, li_1006, li_1007, li_1008, li_1161, li_2000, li_2001, li_2002, li_2003, li_2004, li_2005, li_5016, li_5472, li_9999, li_10000, li_32767, li_1000000, li_2000000000, nI_add, nI_mul, nI_sub, nI_clamp, nI_leI, nI_ltI, nI_eq, gdi_n, nI_1, nI_eq0, nI_eq1, nI_le0, nI_le1, nI_0le, nI_lt0, nI_0lt, nI_m1, Int32.add_zero, Nat.le_refl, if_true, if_false, Bool.false_eq_true, Bool.true_eq_false, i10, i01, im0, im1, i0m, i1m, l10, l00, l01, t10, t00, nk, q2, z2]
    · rintro _ _ ⟨x, y, rfl, rfl, hE, hz⟩
      refine ⟨x, y, ⟨hE, hz⟩, fun r => ?_, fun r => ?_⟩
      · simp (disch := omega) only [bd_s, bd2_s, bd3_s, bd4_s, bd5_s, bd6_s, bd7_s, bd8_s, lr_l, lr_r, nm_s, jn_s, gdb_0, gdb_1, li_2, li_3, li_4, li_5, li_6, li_7, li_8, li_9, li_10, li_11, li_12, li_13, li_14, li_15, li_16, li_20, li_24, li_32, li_40, li_41, li_43, li_48, li_57, li_59, li_60, li_62, li_63, li_76, li_96, li_97, li_99, li_100, li_104, li_116, li_122, li_128, li_129, li_216, li_217, li_218, li_219, li_239, li_240, li_255, li_256, li_257, li_400, li_456, li_856, li_999, li_1000, li_1001, li_1002, li_1003, li_1004, li_1005, li_1006, li_1007, li_1008, li_1161, li_2000, li_2001, li_2002, li_2003, li_2004, li_2005, li_5016, li_5472, li_9999, li_10000, li_32767, li_1000000, li_2000000000, nI_add, nI_mul, nI_sub, nI_clamp, nI_leI, nI_ltI, nI_eq, gdi_n, nI_1, nI_eq0, nI_eq1, nI_le0, nI_le1, nI_0le, nI_lt0, nI_0lt, nI_m1, Int32.add_zero, Nat.le_refl, if_true, if_false, Bool.false_eq_true, Bool.true_eq_false, i10, i01, im0, im1, i0m, i1m, l10, l00, l01, t10, t00]
        done
      · simp (disch := omega) only [bd_s, bd2_s, bd3_s, bd4_s, bd5_s, bd6_s, bd7_s, bd8_s, lr_l, lr_r, nm_s, jn_s, gdb_0, gdb_1, li_2, li_3, li_4, li_5, li_6, li_7, li_8, li_9, li_10, li_11, li_12, li_13, li_14, li_15, li_16, li_20, li_24, li_32, li_40, li_41, li_43, li_48, li_57, li_59, li_60, li_62, li_63, li_76, li_96, li_97, li_99, li_100, li_104, li_116, li_122, li_128, li_129, li_216, li_217, li_218, li_219, li_239, li_240, li_255, li_256, li_257, li_400, li_456, li_856, li_999, li_1000, li_1001, li_1002, li_1003, li_1004, li_1005, li_1006, li_1007, li_1008, li_1161, li_2000, li_2001, li_2002, li_2003, li_2004, li_2005, li_5016, li_5472, li_9999, li_10000, li_32767, li_1000000, li_2000000000, nI_add, nI_mul, nI_sub, nI_clamp, nI_leI, nI_ltI, nI_eq, gdi_n, nI_1, nI_eq0, nI_eq1, nI_le0, nI_le1, nI_0le, nI_lt0, nI_0lt, nI_m1, Int32.add_zero, Nat.le_refl, if_true, if_false, Bool.false_eq_true, Bool.true_eq_false, i10, i01, im0, im1, i0m, i1m, l10, l00, l01, t10, t00]
        done
    · show fl 5 0 (gC 2) o = nI 0
      unfold fl
      rw [if_pos ho]
      rfl
  obtain ⟨c, d, B1, B2, B3, B4⟩ := B
  obtain ⟨x, x9, x1, x2⟩ := B4 u u5
  refine ⟨nI x, c, d, ?_, B3, ?_⟩
  · simp (disch := omega) only [bd_s, bd2_s, bd3_s, bd4_s, bd5_s, bd6_s, bd7_s, bd8_s, lr_l, lr_r, nm_s, jn_s, gdb_0, gdb_1, A1, B1, gdi_n, nI_clamp, x1]
  · unfold f_X8_pagesOf
    simp (disch := omega) only [bd_s, bd2_s, bd3_s, bd4_s, bd5_s, bd6_s, bd7_s, bd8_s, lr_l, lr_r, nm_s, jn_s, gdb_0, gdb_1, B2, gdi_n, nI_clamp, x2]
end K12
