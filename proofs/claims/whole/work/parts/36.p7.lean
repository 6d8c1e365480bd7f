/-! codes: the tables -/
theorem p7k : ∀ k, k < 8 → 1 ≤ k → (1 : Int32) <<< (nI (7 - k) &&& 31) = nI (2 ^ (7 - k)) ∧ nI 128 >>> (nI k &&& 31) = nI (2 ^ (7 - k)) ∧ 2 ^ (7 - k) ≤ 64 ∧ 1 ≤ 2 ^ (7 - k) := by decide +kernel
def ofr (m : Nat → Int32) (r : Nat) : Nat := tn (wd m (tn (m 3) - 1 - r) 7)
/-- the class's way to say the same cost -/
def kx (x : Nat) : Nat := if x = 2000000000 then 1000000 else x
section K7
variable {m : Nat → Int32} {g gS gL gH gC gP h : Pic}
theorem ofr_le (hO : Ok m) (h1 : 1 ≤ tn (m 3)) (r : Nat) : ofr m r ≤ 99 := (hO.often (show tn (m 3) - 1 - r < tn (m 3) by omega)).2.2
theorem q_codedBy (hm : h 1 = m) (hO : Ok m) {w k cap : Nat} {C : Nat → Nat} (hw : w < tn (m 3)) (k1 : 1 ≤ k) (k7 : k ≤ 7) (hc : cap ≤ 128) (hC : ∀ c, C c = 2000000000 ∨ C c ≤ 10000) (he : ∀ c, c ≤ 128 → h 22 (129 * (w + 1) + c) = nI (C c)) :
    f_X12_codedBy h (nI w) (nI k) (nI cap) = some (nI (cby (tn (wd m w 7)) C k cap)) := by
  have w8 := hO.w8 hw
  obtain ⟨o, ho, to, o1, o9⟩ := (hO.often hw).ex
  obtain ⟨p1, p2, p3, p4⟩ := p7k k (by omega) k1
  unfold f_X12_codedBy cby
  rw [to]
  generalize 2 ^ (7 - k) = P at *
  by_cases c1 : cap < P
  · simp (disch := omega) only [bd_s, bd2_s, bd3_s, bd4_s, bd5_s, bd6_s, bd7_s, bd8_s, lr_l, lr_r, nm_s, jn_s, gdb_0, gdb_1, li_2, li_3, li_4, li_5, li_6, li_7, li_8, li_9, li_10, li_11, li_12, li_13, li_14, li_15, li_16, li_20, li_24, li_32, li_40, li_41, li_43, li_48, li_57, li_59, li_60, li_62, li_63, li_76, li_96, li_97, li_99, li_100, li_104, li_116, li_122, li_128, li_129, li_216, li_217, li_218, li_219, li_239, li_240, li_255, li_256, li_257, li_400, li_456, li_856, li_999, li_1000, li_1001, li_1002, li_1003, li_1004, li_1005, li_1006, li_1007, li_1008, li_1161, li_2000, li_2001, li_2002, li_2003, li_2004, li_2005, li_5016, li_5472, li_9999, li_10000, li_32767, li_1000000, li_2000000000, nI_add, nI_mul, nI_sub, nI_clamp, nI_leI, nI_ltI, nI_eq, gdi_n, nI_1, nI_eq0, nI_eq1, nI_le0, nI_le1, nI_0le, nI_lt0, nI_0lt, nI_m1, Int32.add_zero, Nat.le_refl, if_true, if_false, Bool.false_eq_true, Bool.true_eq_false, i10, i01, im0, im1, i0m, i1m, l10, l00, l01, t10, t00, p1, c1]
  · have x1 : 129 * w + 129 + cap - P = 129 * (w + 1) + (cap - P) := by omega
    have e := he (cap - P) (by omega)
    have b := hC (cap - P)
    by_cases c2 : C (cap - P) = 2000000000
    · simp (disch := omega) only [bd_s, bd2_s, bd3_s, bd4_s, bd5_s, bd6_s, bd7_s, bd8_s, lr_l, lr_r, nm_s, jn_s, gdb_0, gdb_1, li_2, li_3, li_4, li_5, li_6, li_7, li_8, li_9, li_10, li_11, li_12, li_13, li_14, li_15, li_16, li_20, li_24, li_32, li_40, li_41, li_43, li_48, li_57, li_59, li_60, li_62, li_63, li_76, li_96, li_97, li_99, li_100, li_104, li_116, li_122, li_128, li_129, li_216, li_217, li_218, li_219, li_239, li_240, li_255, li_256, li_257, li_400, li_456, li_856, li_999, li_1000, li_1001, li_1002, li_1003, li_1004, li_1005, li_1006, li_1007, li_1008, li_1161, li_2000, li_2001, li_2002, li_2003, li_2004, li_2005, li_5016, li_5472, li_9999, li_10000, li_32767, li_1000000, li_2000000000, nI_add, nI_mul, nI_sub, nI_clamp, nI_leI, nI_ltI, nI_eq, gdi_n, nI_1, nI_eq0, nI_eq1, nI_le0, nI_le1, nI_0le, nI_lt0, nI_0lt, nI_m1, Int32.add_zero, Nat.le_refl, if_true, if_false, Bool.false_eq_true, Bool.true_eq_false, i10, i01, im0, im1, i0m, i1m, l10, l00, l01, t10, t00, p1, c1, x1, e, c2]
    · simp (disch := omega) only [bd_s, bd2_s, bd3_s, bd4_s, bd5_s, bd6_s, bd7_s, bd8_s, lr_l, lr_r, nm_s, jn_s, gdb_0, gdb_1, li_2, li_3, li_4, li_5, li_6, li_7, li_8, li_9, li_10, li_11, li_12, li_13, li_14, li_15, li_16, li_20, li_24, li_32, li_40, li_41, li_43, li_48, li_57, li_59, li_60, li_62, li_63, li_76, li_96, li_97, li_99, li_100, li_104, li_116, li_122, li_128, li_129, li_216, li_217, li_218, li_219, li_239, li_240, li_255, li_256, li_257, li_400, li_456, li_856, li_999, li_1000, li_1001, li_1002, li_1003, li_1004, li_1005, li_1006, li_1007, li_1008, li_1161, li_2000, li_2001, li_2002, li_2003, li_2004, li_2005, li_5016, li_5472, li_9999, li_10000, li_32767, li_1000000, li_2000000000, nI_add, nI_mul, nI_sub, nI_clamp, nI_leI, nI_ltI, nI_eq, gdi_n, nI_1, nI_eq0, nI_eq1, nI_le0, nI_le1, nI_0le, nI_lt0, nI_0lt, nI_m1, Int32.add_zero, Nat.le_refl, if_true, if_false, Bool.false_eq_true, Bool.true_eq_false, i10, i01, im0, im1, i0m, i1m, l10, l00, l01, t10, t00, p1, c1, x1, e, c2, q_ofWord, hm, ho]
theorem q_costL (hm : h 1 = m) (hO : Ok m) {w cap : Nat} {C : Nat → Nat} (hw : w < tn (m 3)) (hc : cap ≤ 128) (hC : ∀ c, C c = 2000000000 ∨ C c ≤ 9000) (he : ∀ c, c ≤ 128 → h 22 (129 * (w + 1) + c) = nI (C c)) :
    f_X12_allCoded_L62 (nI w) (nI cap) h fu (2000000000, 1) = some (nI (cmn (tn (wd m w 7)) C cap 7)) := by
  have o9 := (hO.often hw).2.2
  refine lp_seq (fun i => (nI (cmn (tn (wd m w 7)) C cap i), nI (i + 1))) 7 _ (fun i hi r => ?_) (fun r => ?_) (by have := fu_big; omega) rfl
  · have nk : ¬ 8 ≤ i + 1 := by omega
    have q := q_codedBy (k := i + 1) hm hO hw (by omega) (by omega) hc (fun c => by have := hC c; omega) he
    have b1 := cmn_b (cap := cap) o9 hC (show i ≤ 7 by omega)
    have b2 := cby_b (cap := cap) (n := i + 1) o9 (by omega) hC
    simp (disch := omega) only [bd_s, bd2_s, bd3_s, bd4_s, bd5_s, bd6_s, bd7_s, bd8_s, lr_l, lr_r, nm_s, jn_s, gdb_0, gdb_1, li_2, li_3, li_4, li_5, li_6, li_7, li_8, li_9, li_10, li_11, li_12, li_13, li_14, li_15, li_16, li_20, li_24, li_32, li_40, li_41, li_43, li_48, li_57, li_59, li_60, li_62, li_63, li_76, li_96, li_97, li_99, li_100, li_104, li_116, li_122, li_128, li_129, li_216, li_217, li_218, li_219, li_239, li_240, li_255, li_256, li_257, li_400, li_456, li_856, li_999, li_1000, li_1001, li_1002, li_1003, li_1004, li_1005, li_1006, li_1007, li_1008, li_1161, li_2000, li_2001, li_2002, li_2003, li_2004, li_2005, li_5016, li_5472, li_9999, li_10000, li_32767, li_1000000, li_2000000000, nI_add, nI_mul, nI_sub, nI_clamp, nI_leI, nI_ltI, nI_eq, gdi_n, nI_1, nI_eq0, nI_eq1, nI_le0, nI_le1, nI_0le, nI_lt0, nI_0lt, nI_m1, Int32.add_zero, Nat.le_refl, if_true, if_false, Bool.false_eq_true, Bool.true_eq_false, i10, i01, im0, im1, i0m, i1m, l10, l00, l01, t10, t00, nk, q, q_lesser, mn_n]
    rfl
  · simp (disch := omega) only [bd_s, bd2_s, bd3_s, bd4_s, bd5_s, bd6_s, bd7_s, bd8_s, lr_l, lr_r, nm_s, jn_s, gdb_0, gdb_1, li_2, li_3, li_4, li_5, li_6, li_7, li_8, li_9, li_10, li_11, li_12, li_13, li_14, li_15, li_16, li_20, li_24, li_32, li_40, li_41, li_43, li_48, li_57, li_59, li_60, li_62, li_63, li_76, li_96, li_97, li_99, li_100, li_104, li_116, li_122, li_128, li_129, li_216, li_217, li_218, li_219, li_239, li_240, li_255, li_256, li_257, li_400, li_456, li_856, li_999, li_1000, li_1001, li_1002, li_1003, li_1004, li_1005, li_1006, li_1007, li_1008, li_1161, li_2000, li_2001, li_2002, li_2003, li_2004, li_2005, li_5016, li_5472, li_9999, li_10000, li_32767, li_1000000, li_2000000000, nI_add, nI_mul, nI_sub, nI_clamp, nI_leI, nI_ltI, nI_eq, gdi_n, nI_1, nI_eq0, nI_eq1, nI_le0, nI_le1, nI_0le, nI_lt0, nI_0lt, nI_m1, Int32.add_zero, Nat.le_refl, if_true, if_false, Bool.false_eq_true, Bool.true_eq_false, i10, i01, im0, im1, i0m, i1m, l10, l00, l01, t10, t00]
theorem q_coded (hg : g 1 = m) (hO : Ok m) (h2 : 2 ≤ tn (m 3)) : ∃ g', f_X12_allCoded g = some g' ∧ Es g g' ∧ ∀ r c, r ≤ tn (m 3) → c ≤ 128 → g' 22 (129 * (tn (m 3) - r) + c) = nI (cst (ofr m) r c) := by
  obtain ⟨W, hW, tW, -, w8⟩ := hO.W.ex
  have hf := ofr_le hO (by omega)
  rw [tW] at h2
  have A : ∃ h, f_X12_allCoded_L2 fu (0, g) = some h ∧ Es g h ∧ ∀ c, c ≤ 128 → h 22 (129 * W + c) = nI 0 := by
    refine lp_inv (fun c a => ∃ h : Pic, a = (nI c, h) ∧ Es g h ∧ ∀ c', c' < c → h 22 (129 * W + c') = nI 0) 129 (fun h : Pic => Es g h ∧ ∀ c, c ≤ 128 → h 22 (129 * W + c) = nI 0) ?_ ?_ (by have := fu_big; omega) ⟨g, rfl, Es.rf g, fun c hc => absurd hc (Nat.not_lt_zero _)⟩
    · rintro c hc _ ⟨h, rfl, hE, h1⟩
      have nk : ¬ 129 ≤ c := by omega
      have hm := hE.m.trans hg
      refine Or.inl ⟨(nI (c + 1), pu h 22 (129 * W + c) 0), ⟨_, rfl, hE.pu (by decide), fun c' h' => ?_⟩, fun r => ?_⟩
      · rw [pu_s]
        split
        · rfl
        · exact h1 c' (by omega)
      · simp (disch := omega) only [bd_s, bd2_s, bd3_s, bd4_s, bd5_s, bd6_s, bd7_s, bd8_s, lr_l, lr_r, nm_s, jn_s, gdb_0, gdb_1, li_2, li_3, li_4, li_5, li_6, li_7, li_8, li_9, li_10, li_11, li_12, li_13, li_14, li_15, li_16, li_20, li_24, li_32, li_40, li_41, li_43, li_48, li_57, li_59, li_60, li_62, li_63, li_76, li_96, li_97, li_99, li_100, li_104, li_116, li_122, li_128, li_129, li_216, li_217, li_218, li_219, li_239, li_240, li_255, li_256, li_257, li_400, li_456, li_856, li_999, li_1000, li_1001, li_1002, li_1003, li_1004, li_1005, li_1006, li_1007, li_1008, li_1161, li_2000, li_2001, li_2002, li_2003, li_2004, li_2005, li_5016, li_5472, li_9999, li_10000, li_32767, li_1000000, li_2000000000, nI_add, nI_mul, nI_sub, nI_clamp, nI_leI, nI_ltI, nI_eq, gdi_n, nI_1, nI_eq0, nI_eq1, nI_le0, nI_le1, nI_0le, nI_lt0, nI_0lt, nI_m1, Int32.add_zero, Nat.le_refl, if_true, if_false, Bool.false_eq_true, Bool.true_eq_false, i10, i01, im0, im1, i0m, i1m, l10, l00, l01, t10, t00, nk, hm, hW]
    · rintro _ ⟨h, rfl, hE, h1⟩
      exact ⟨h, ⟨hE, fun c hc => h1 c (by omega)⟩, fun r => rfl⟩
  obtain ⟨h0, A1, A2, A3⟩ := A
  have B : ∃ h, f_X12_allCoded_L42 fu (nI W - 1, h0) = some h ∧ Es g h ∧ ∀ r c, r ≤ W → c ≤ 128 → h 22 (129 * (W - r) + c) = nI (cst (ofr m) r c) := by
    refine lp_inv (fun k a => ∃ h : Pic, a = (nI (W - k) - 1, h) ∧ Es g h ∧ ∀ r c, r ≤ k → c ≤ 128 → h 22 (129 * (W - r) + c) = nI (cst (ofr m) r c)) W (fun h : Pic => Es g h ∧ ∀ r c, r ≤ W → c ≤ 128 → h 22 (129 * (W - r) + c) = nI (cst (ofr m) r c)) ?_ ?_ (by have := fu_big; omega) ⟨h0, rfl, A2, fun r c hr hc => by rw [show r = 0 by omega]; exact A3 c hc⟩
    · rintro k hk _ ⟨h, rfl, hE, h1⟩
      have hm := hE.m.trans hg
      obtain ⟨w, hw⟩ : ∃ w, W = w + (k + 1) := ⟨W - (k + 1), by omega⟩
      have e1 : nI (W - k) - 1 = nI w := by rw [nI_s1 (by omega)]; congr 1; omega
      have hw' : w < tn (m 3) := by omega
      have eo : ofr m k = tn (wd m w 7) := by unfold ofr; rw [show tn (m 3) - 1 - k = w by omega]
      have he : ∀ c, c ≤ 128 → h 22 (129 * (w + 1) + c) = nI (cst (ofr m) k c) := fun c hc => by
        have := h1 k c (Nat.le_refl k) hc
        rwa [show W - k = w + 1 by omega] at this
      have hC : ∀ c, cst (ofr m) k c = 2000000000 ∨ cst (ofr m) k c ≤ 9000 := fun c => by
        have := cst_b hf k c
        omega
      have I : ∃ h', f_X12_allCoded_L48 (nI w) fu (0, h) = some h' ∧ Es g h' ∧ ∀ r c, r ≤ k + 1 → c ≤ 128 → h' 22 (129 * (W - r) + c) = nI (cst (ofr m) r c) := by
        refine lp_inv (fun c a => ∃ h' : Pic, a = (nI c, h') ∧ Es g h' ∧ (∀ r c', r ≤ k → c' ≤ 128 → h' 22 (129 * (W - r) + c') = nI (cst (ofr m) r c')) ∧ ∀ c', c' < c → h' 22 (129 * w + c') = nI (cst (ofr m) (k + 1) c')) 129 (fun h' : Pic => Es g h' ∧ ∀ r c, r ≤ k + 1 → c ≤ 128 → h' 22 (129 * (W - r) + c) = nI (cst (ofr m) r c)) ?_ ?_ (by have := fu_big; omega) ⟨h, rfl, hE, h1, fun c hc => absurd hc (Nat.not_lt_zero _)⟩
        · rintro c hc _ ⟨h', rfl, hE', q1, q2⟩
          have nk : ¬ 129 ≤ c := by omega
          have he' : ∀ c, c ≤ 128 → h' 22 (129 * (w + 1) + c) = nI (cst (ofr m) k c) := fun c hc => by
            have := q1 k c (Nat.le_refl k) hc
            rwa [show W - k = w + 1 by omega] at this
          have q := q_costL (cap := c) (hE'.m.trans hg) hO hw' (by omega) hC he'
          rw [← eo] at q
          have q : f_X12_allCoded_L62 (nI w) (nI c) h' fu (nI 2000000000, 1) = some (nI (cst (ofr m) (k + 1) c)) := q
          refine Or.inl ⟨(nI (c + 1), pu h' 22 (129 * w + c) (nI (cst (ofr m) (k + 1) c))), ⟨_, rfl, hE'.pu (by decide), fun r c' a b => ?_, fun c' a => ?_⟩, fun r => ?_⟩
          · rw [pu_s, if_neg (by omega)]; exact q1 r c' a b
          · rw [pu_s]
            split
            · rw [show c' = c by omega]
            · exact q2 c' (by omega)
          · simp (disch := omega) only [bd_s, bd2_s, bd3_s, bd4_s, bd5_s, bd6_s, bd7_s, bd8_s, lr_l, lr_r, nm_s, jn_s, gdb_0, gdb_1, li_2, li_3, li_4, li_5, li_6, li_7, li_8, li_9, li_10, li_11, li_12, li_13, li_14, li_15, li_16, li_20, li_24, li_32, li_40, li_41, li_43, li_48, li_57, li_59, li_60, li_62, li_63, li_76, li_96, li_97, li_99, li_100, li_104, li_116, li_122, li_128, li_129, li_216, li_217, li_218, li_219, li_239, li_240, li_255, li_256, li_257, li_400, li_456, li_856, li_999, li_1000, li_1001, li_1002, li_1003, li_1004, li_1005, li_1006, li_1007, li_1008, li_1161, li_2000, li_2001, li_2002, li_2003, li_2004, li_2005, li_5016, li_5472, li_9999, li_10000, li_32767, li_1000000, li_2000000000, nI_add, nI_mul, nI_sub, nI_clamp, nI_leI, nI_ltI, nI_eq, gdi_n, nI_1, nI_eq0, nI_eq1, nI_le0, nI_le1, nI_0le, nI_lt0, nI_0lt, nI_m1, Int32.add_zero, Nat.le_refl, if_true, if_false, Bool.false_eq_true, Bool.true_eq_false, i10, i01, im0, im1, i0m, i1m, l10, l00, l01, t10, t00, nk, q]
        · rintro _ ⟨h', rfl, hE', q1, q2⟩
          refine ⟨h', ⟨hE', fun r c a b => ?_⟩, fun r => rfl⟩
          rcases Nat.lt_succ_iff_lt_or_eq.mp (Nat.lt_succ_of_le a) with z | z
          · exact q1 r c (by omega) b
          · rw [z, show W - (k + 1) = w by omega]
            exact q2 c (by omega)
      obtain ⟨h', I1, I2, I3⟩ := I
      refine Or.inl ⟨(nI (W - (k + 1)) - 1, h'), ⟨_, rfl, I2, I3⟩, fun r => ?_⟩
      simp (disch := omega) only [bd_s, bd2_s, bd3_s, bd4_s, bd5_s, bd6_s, bd7_s, bd8_s, lr_l, lr_r, nm_s, jn_s, gdb_0, gdb_1, e1, nI_lt0, if_false, I1]
      rw [show W - (k + 1) = w by omega, Int32.sub_eq_add_neg]
    · rintro _ ⟨h, rfl, hE, h1⟩
      refine ⟨h, ⟨hE, h1⟩, fun r => ?_⟩
      have e : (nI (W - W) - 1 < 0) = True := by rw [Nat.sub_self]; exact eq_true (by decide)
      simp only [e, if_true]
  obtain ⟨h, B1, B2, B3⟩ := B
  refine ⟨h, ?_, B2, fun r c a b => ?_⟩
  · unfold f_X12_allCoded
    simp (disch := omega) only [bd_s, bd2_s, bd3_s, bd4_s, bd5_s, bd6_s, bd7_s, bd8_s, lr_l, lr_r, nm_s, jn_s, gdb_0, gdb_1, A1, A2.m.trans hg, hW, B1]
  · rw [tW] at a ⊢
    exact B3 r c a b
/-! the class's table -/
theorem k_costAt (hO : Ok m) (hR : RS gS gL m) {w k cap : Nat} {C : Nat → Nat} (hw : w < tn (m 3)) (k1 : 1 ≤ k) (k7 : k ≤ 7) (hc : cap ≤ 128) (he : ∀ c, c ≤ 128 → h 3 (129 * (w + 1) + c) = nI (kx (C c))) :
    f_X6_costAt h gS (nI w) (nI cap) (nI k) = some (if cap < 2 ^ (7 - k) then nI 1000000 else nI (tn (wd m w 7) * k + kx (C (cap - 2 ^ (7 - k))))) := by
  have w8 := hO.w8 hw
  obtain ⟨o, ho, to, o1, o9⟩ := (hO.often hw).ex
  have go := (hR.often hw).trans ho
  obtain ⟨p1, p2, p3, p4⟩ := p7k k (by omega) k1
  unfold f_X6_costAt
  rw [to]
  generalize 2 ^ (7 - k) = P at *
  by_cases c1 : cap < P
  · have z : ¬ 0 ≤ nI cap - nI P := by
      have a := nI_toInt (n := cap) (by omega)
      have b := nI_toInt (n := P) (by omega)
      rw [Int32.le_iff_toInt_le, Int32.toInt_sub, a, b, Int32.toInt_zero]
      rw [Int.bmod_eq_of_le (by omega) (by omega)]
      omega
    simp (disch := omega) only [bd_s, bd2_s, bd3_s, bd4_s, bd5_s, bd6_s, bd7_s, bd8_s, lr_l, lr_r, nm_s, jn_s, gdb_0, gdb_1, li_2, li_3, li_4, li_5, li_6, li_7, li_8, li_9, li_10, li_11, li_12, li_13, li_14, li_15, li_16, li_20, li_24, li_32, li_40, li_41, li_43, li_48, li_57, li_59, li_60, li_62, li_63, li_76, li_96, li_97, li_99, li_100, li_104, li_116, li_122, li_128, li_129, li_216, li_217, li_218, li_219, li_239, li_240, li_255, li_256, li_257, li_400, li_456, li_856, li_999, li_1000, li_1001, li_1002, li_1003, li_1004, li_1005, li_1006, li_1007, li_1008, li_1161, li_2000, li_2001, li_2002, li_2003, li_2004, li_2005, li_5016, li_5472, li_9999, li_10000, li_32767, li_1000000, li_2000000000, nI_add, nI_mul, nI_sub, nI_clamp, nI_leI, nI_ltI, nI_eq, gdi_n, nI_1, nI_eq0, nI_eq1, nI_le0, nI_le1, nI_0le, nI_lt0, nI_0lt, nI_m1, Int32.add_zero, Nat.le_refl, if_true, if_false, Bool.false_eq_true, Bool.true_eq_false, i10, i01, im0, im1, i0m, i1m, l10, l00, l01, t10, t00, p2, c1, z]
  · have x1 : (w + 1) * 129 + (cap - P) = 129 * (w + 1) + (cap - P) := by omega
    have e := he (cap - P) (by omega)
    simp (disch := omega) only [bd_s, bd2_s, bd3_s, bd4_s, bd5_s, bd6_s, bd7_s, bd8_s, lr_l, lr_r, nm_s, jn_s, gdb_0, gdb_1, li_2, li_3, li_4, li_5, li_6, li_7, li_8, li_9, li_10, li_11, li_12, li_13, li_14, li_15, li_16, li_20, li_24, li_32, li_40, li_41, li_43, li_48, li_57, li_59, li_60, li_62, li_63, li_76, li_96, li_97, li_99, li_100, li_104, li_116, li_122, li_128, li_129, li_216, li_217, li_218, li_219, li_239, li_240, li_255, li_256, li_257, li_400, li_456, li_856, li_999, li_1000, li_1001, li_1002, li_1003, li_1004, li_1005, li_1006, li_1007, li_1008, li_1161, li_2000, li_2001, li_2002, li_2003, li_2004, li_2005, li_5016, li_5472, li_9999, li_10000, li_32767, li_1000000, li_2000000000, nI_add, nI_mul, nI_sub, nI_clamp, nI_leI, nI_ltI, nI_eq, gdi_n, nI_1, nI_eq0, nI_eq1, nI_le0, nI_le1, nI_0le, nI_lt0, nI_0lt, nI_m1, Int32.add_zero, Nat.le_refl, if_true, if_false, Bool.false_eq_true, Bool.true_eq_false, i10, i01, im0, im1, i0m, i1m, l10, l00, l01, t10, t00, p2, c1, x1, e, go]
theorem kmin {s : Nat} {C : Nat → Nat} {o k cap : Nat} (o9 : o ≤ 99) (k7 : k ≤ 7) (hs : s = 2000000000 ∨ s ≤ 10000) (hC : ∀ c, C c = 2000000000 ∨ C c ≤ 9000) :
    (let z := if cap < 2 ^ (7 - k) then nI 1000000 else nI (o * k + kx (C (cap - 2 ^ (7 - k)))); if z < nI (kx s) then z else nI (kx s)) = nI (kx (min s (cby o C k cap))) := by
  have hk := Nat.mul_le_mul o9 k7
  have hb := cby_b (cap := cap) o9 k7 hC
  unfold cby at hb ⊢
  generalize 2 ^ (7 - k) = P at *
  by_cases c1 : cap < P
  · simp only [c1, if_true] at hb ⊢
    rw [if_neg (nI_nlt (by unfold kx; split <;> omega) (by omega))]
    rw [Nat.min_eq_left (by omega)]
  · simp only [c1, if_false] at hb ⊢
    have b := hC (cap - P)
    by_cases c2 : C (cap - P) = 2000000000
    · simp only [c2, if_true] at hb ⊢
      rw [show kx 2000000000 = 1000000 from if_pos rfl, if_neg (nI_nlt (by unfold kx; split <;> omega) (by omega)), Nat.min_eq_left (by omega)]
    · simp only [c2, if_false] at hb ⊢
      have e : kx (C (cap - P)) = C (cap - P) := if_neg c2
      have mc := Nat.mul_comm o k
      rw [e]
      rcases hs with hs | hs
      · have e2 : kx s = 1000000 := if_pos hs
        rw [e2, if_pos (nI_lt (by omega) (by omega)), Nat.min_eq_right (by omega), mc]
        rw [show kx (k * o + C (cap - P)) = k * o + C (cap - P) from if_neg (by omega)]
      · have e2 : kx s = s := if_neg (by omega)
        rw [e2, mc]
        by_cases c3 : k * o + C (cap - P) < s
        · rw [if_pos (nI_lt c3 (by omega)), Nat.min_eq_right (by omega)]
          rw [show kx (k * o + C (cap - P)) = k * o + C (cap - P) from if_neg (by omega)]
        · rw [if_neg (nI_nlt (by omega) (by omega)), Nat.min_eq_left (by omega), e2]
theorem k_costL (hO : Ok m) (hR : RS gS gL m) {w cap : Nat} {C : Nat → Nat} (hw : w < tn (m 3)) (hc : cap ≤ 128) (hC : ∀ c, C c = 2000000000 ∨ C c ≤ 9000) (he : ∀ c, c ≤ 128 → h 3 (129 * (w + 1) + c) = nI (kx (C c))) :
    f_X6_findCosts_L63 (nI w) (nI cap) h gS fu (1000000, 1) = some (nI (kx (cmn (tn (wd m w 7)) C cap 7))) := by
  have o9 := (hO.often hw).2.2
  refine lp_seq (fun i => (nI (kx (cmn (tn (wd m w 7)) C cap i)), nI (i + 1))) 7 _ (fun i hi r => ?_) (fun r => ?_) (by have := fu_big; omega) rfl
  · have nk : ¬ 7 < i + 1 := by omega
    have q := k_costAt (k := i + 1) hO hR hw (by omega) (by omega) hc he
    have b1 := cmn_b (cap := cap) o9 hC (show i ≤ 7 by omega)
    have b2 := kmin (s := cmn (tn (wd m w 7)) C cap i) (C := C) (o := tn (wd m w 7)) (k := i + 1) (cap := cap) o9 (by omega) (by omega) hC
    simp (disch := omega) only [bd_s, bd2_s, bd3_s, bd4_s, bd5_s, bd6_s, bd7_s, bd8_s, lr_l, lr_r, nm_s, jn_s, gdb_0, gdb_1, li_7, nI_ltI, nk, if_false, q, nI_1]
    rw [b2]
    rfl
  · simp (disch := omega) only [bd_s, bd2_s, bd3_s, bd4_s, bd5_s, bd6_s, bd7_s, bd8_s, lr_l, lr_r, nm_s, jn_s, gdb_0, gdb_1, li_2, li_3, li_4, li_5, li_6, li_7, li_8, li_9, li_10, li_11, li_12, li_13, li_14, li_15, li_16, li_20, li_24, li_32, li_40, li_41, li_43, li_48, li_57, li_59, li_60, li_62, li_63, li_76, li_96, li_97, li_99, li_100, li_104, li_116, li_122, li_128, li_129, li_216, li_217, li_218, li_219, li_239, li_240, li_255, li_256, li_257, li_400, li_456, li_856, li_999, li_1000, li_1001, li_1002, li_1003, li_1004, li_1005, li_1006, li_1007, li_1008, li_1161, li_2000, li_2001, li_2002, li_2003, li_2004, li_2005, li_5016, li_5472, li_9999, li_10000, li_32767, li_1000000, li_2000000000, nI_add, nI_mul, nI_sub, nI_clamp, nI_leI, nI_ltI, nI_eq, gdi_n, nI_1, nI_eq0, nI_eq1, nI_le0, nI_le1, nI_0le, nI_lt0, nI_0lt, nI_m1, Int32.add_zero, Nat.le_refl, if_true, if_false, Bool.false_eq_true, Bool.true_eq_false, i10, i01, im0, im1, i0m, i1m, l10, l00, l01, t10, t00]
    rfl
theorem k_coded (hO : Ok m) (hR : RS gS gL m) (h2 : 2 ≤ tn (m 3)) (gX : Pic) : ∃ h, f_X6_findCosts gX gS = some h ∧ ∀ r c, r ≤ tn (m 3) → c ≤ 128 → h 3 (129 * (tn (m 3) - r) + c) = nI (kx (cst (ofr m) r c)) := by
  obtain ⟨W, hW, tW, -, w8⟩ := hO.W.ex
  have hf := ofr_le hO (by omega)
  have gw := hR.W.trans hW
  rw [tW] at h2
  have A : ∃ h, f_X6_findCosts_L2 gS fu (0, gX) = some h ∧ ∀ c, c ≤ 128 → h 3 (129 * W + c) = nI 0 := by
    refine lp_inv (fun c a => ∃ h : Pic, a = (nI c, h) ∧ ∀ c', c' < c → h 3 (129 * W + c') = nI 0) 129 (fun h : Pic => ∀ c, c ≤ 128 → h 3 (129 * W + c) = nI 0) ?_ ?_ (by have := fu_big; omega) ⟨gX, rfl, fun c hc => absurd hc (Nat.not_lt_zero _)⟩
    · rintro c hc _ ⟨h, rfl, h1⟩
      have nk : ¬ 128 < c := by omega
      have x1 : W * 129 + c = 129 * W + c := by omega
      refine Or.inl ⟨(nI (c + 1), pu h 3 (129 * W + c) 0), ⟨_, rfl, fun c' h' => ?_⟩, fun r => ?_⟩
      · rw [pu_s]
        split
        · rfl
        · exact h1 c' (by omega)
      · simp (disch := omega) only [bd_s, bd2_s, bd3_s, bd4_s, bd5_s, bd6_s, bd7_s, bd8_s, lr_l, lr_r, nm_s, jn_s, gdb_0, gdb_1, li_2, li_3, li_4, li_5, li_6, li_7, li_8, li_9, li_10, li_11, li_12, li_13, li_14, li_15, li_16, li_20, li_24, li_32, li_40, li_41, li_43, li_48, li_57, li_59, li_60, li_62, li_63, li_76, li_96, li_97, li_99, li_100, li_104, li_116, li_122, li_128, li_129, li_216, li_217, li_218, li_219, li_239, li_240, li_255, li_256, li_257, li_400, li_456, li_856, li_999, li_1000, li_1001, li_1002, li_1003, li_1004, li_1005, li_1006, li_1007, li_1008, li_1161, li_2000, li_2001, li_2002, li_2003, li_2004, li_2005, li_5016, li_5472, li_9999, li_10000, li_32767, li_1000000, li_2000000000, nI_add, nI_mul, nI_sub, nI_clamp, nI_leI, nI_ltI, nI_eq, gdi_n, nI_1, nI_eq0, nI_eq1, nI_le0, nI_le1, nI_0le, nI_lt0, nI_0lt, nI_m1, Int32.add_zero, Nat.le_refl, if_true, if_false, Bool.false_eq_true, Bool.true_eq_false, i10, i01, im0, im1, i0m, i1m, l10, l00, l01, t10, t00, nk, gw, x1]
    · rintro _ ⟨h, rfl, h1⟩
      exact ⟨h, fun c hc => h1 c (by omega), fun r => rfl⟩
  obtain ⟨h0, A1, A3⟩ := A
  have B : ∃ h, f_X6_findCosts_L44 gS fu (nI W - 1, h0) = some h ∧ ∀ r c, r ≤ W → c ≤ 128 → h 3 (129 * (W - r) + c) = nI (kx (cst (ofr m) r c)) := by
    refine lp_inv (fun k a => ∃ h : Pic, a = (nI (W - k) - 1, h) ∧ ∀ r c, r ≤ k → c ≤ 128 → h 3 (129 * (W - r) + c) = nI (kx (cst (ofr m) r c))) W (fun h : Pic => ∀ r c, r ≤ W → c ≤ 128 → h 3 (129 * (W - r) + c) = nI (kx (cst (ofr m) r c))) ?_ ?_ (by have := fu_big; omega) ⟨h0, rfl, fun r c hr hc => by rw [show r = 0 by omega]; exact A3 c hc⟩
    · rintro k hk _ ⟨h, rfl, h1⟩
      obtain ⟨w, hw⟩ : ∃ w, W = w + (k + 1) := ⟨W - (k + 1), by omega⟩
      have e1 : nI (W - k) - 1 = nI w := by rw [nI_s1 (by omega)]; congr 1; omega
      have hw' : w < tn (m 3) := by omega
      have eo : ofr m k = tn (wd m w 7) := by unfold ofr; rw [show tn (m 3) - 1 - k = w by omega]
      have hC : ∀ c, cst (ofr m) k c = 2000000000 ∨ cst (ofr m) k c ≤ 9000 := fun c => by
        have := cst_b hf k c
        omega
      have I : ∃ h', f_X6_findCosts_L50 (nI w) gS fu (0, h) = some h' ∧ ∀ r c, r ≤ k + 1 → c ≤ 128 → h' 3 (129 * (W - r) + c) = nI (kx (cst (ofr m) r c)) := by
        refine lp_inv (fun c a => ∃ h' : Pic, a = (nI c, h') ∧ (∀ r c', r ≤ k → c' ≤ 128 → h' 3 (129 * (W - r) + c') = nI (kx (cst (ofr m) r c'))) ∧ ∀ c', c' < c → h' 3 (129 * w + c') = nI (kx (cst (ofr m) (k + 1) c'))) 129 (fun h' : Pic => ∀ r c, r ≤ k + 1 → c ≤ 128 → h' 3 (129 * (W - r) + c) = nI (kx (cst (ofr m) r c))) ?_ ?_ (by have := fu_big; omega) ⟨h, rfl, h1, fun c hc => absurd hc (Nat.not_lt_zero _)⟩
        · rintro c hc _ ⟨h', rfl, q1, q2⟩
          have nk : ¬ 128 < c := by omega
          have he' : ∀ c, c ≤ 128 → h' 3 (129 * (w + 1) + c) = nI (kx (cst (ofr m) k c)) := fun c hc => by
            have := q1 k c (Nat.le_refl k) hc
            rwa [show W - k = w + 1 by omega] at this
          have q := k_costL (cap := c) hO hR hw' (by omega) hC he'
          rw [← eo] at q
          have q : f_X6_findCosts_L63 (nI w) (nI c) h' gS fu (nI 1000000, 1) = some (nI (kx (cst (ofr m) (k + 1) c))) := q
          have x1 : w * 129 + c = 129 * w + c := by omega
          refine Or.inl ⟨(nI (c + 1), pu h' 3 (129 * w + c) (nI (kx (cst (ofr m) (k + 1) c)))), ⟨_, rfl, fun r c' a b => ?_, fun c' a => ?_⟩, fun r => ?_⟩
          · rw [pu_s, if_neg (by omega)]; exact q1 r c' a b
          · rw [pu_s]
            split
            · rw [show c' = c by omega]
            · exact q2 c' (by omega)
          · simp (disch := omega) only [bd_s, bd2_s, bd3_s, bd4_s, bd5_s, bd6_s, bd7_s, bd8_s, lr_l, lr_r, nm_s, jn_s, gdb_0, gdb_1, li_2, li_3, li_4, li_5, li_6, li_7, li_8, li_9, li_10, li_11, li_12, li_13, li_14, li_15, li_16, li_20, li_24, li_32, li_40, li_41, li_43, li_48, li_57, li_59, li_60, li_62, li_63, li_76, li_96, li_97, li_99, li_100, li_104, li_116, li_122, li_128, li_129, li_216, li_217, li_218, li_219, li_239, li_240, li_255, li_256, li_257, li_400, li_456, li_856, li_999, li_1000, li_1001, li_1002, li_1003, li_1004, li_1005, li_1006, li_1007, li_1008, li_1161, li_2000, li_2001, li_2002, li_2003, li_2004, li_2005, li_5016, li_5472, li_9999, li_10000, li_32767, li_1000000, li_2000000000, nI_add, nI_mul, nI_sub, nI_clamp, nI_leI, nI_ltI, nI_eq, gdi_n, nI_1, nI_eq0, nI_eq1, nI_le0, nI_le1, nI_0le, nI_lt0, nI_0lt, nI_m1, Int32.add_zero, Nat.le_refl, if_true, if_false, Bool.false_eq_true, Bool.true_eq_false, i10, i01, im0, im1, i0m, i1m, l10, l00, l01, t10, t00, nk, q, x1]
        · rintro _ ⟨h', rfl, q1, q2⟩
          refine ⟨h', fun r c a b => ?_, fun r => rfl⟩
          rcases Nat.lt_succ_iff_lt_or_eq.mp (Nat.lt_succ_of_le a) with z | z
          · exact q1 r c (by omega) b
          · rw [z, show W - (k + 1) = w by omega]
            exact q2 c (by omega)
      obtain ⟨h', I1, I3⟩ := I
      refine Or.inl ⟨(nI (W - (k + 1)) - 1, h'), ⟨_, rfl, I3⟩, fun r => ?_⟩
      simp (disch := omega) only [bd_s, bd2_s, bd3_s, bd4_s, bd5_s, bd6_s, bd7_s, bd8_s, lr_l, lr_r, nm_s, jn_s, gdb_0, gdb_1, e1, nI_lt0, if_false, I1]
      rw [show W - (k + 1) = w by omega, Int32.sub_eq_add_neg]
    · rintro _ ⟨h, rfl, h1⟩
      refine ⟨h, h1, fun r => ?_⟩
      have e : (nI (W - W) - 1 < 0) = True := by rw [Nat.sub_self]; exact eq_true (by decide)
      simp only [e, if_true]
  obtain ⟨h, B1, B3⟩ := B
  refine ⟨h, ?_, fun r c a b => ?_⟩
  · unfold f_X6_findCosts
    simp (disch := omega) only [bd_s, bd2_s, bd3_s, bd4_s, bd5_s, bd6_s, bd7_s, bd8_s, lr_l, lr_r, nm_s, jn_s, gdb_0, gdb_1, A1, gw, B1]
  · rw [tW] at a ⊢
    exact B3 r c a b
end K7
