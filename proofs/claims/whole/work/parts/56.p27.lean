/-! a writer's line, a line, the text of an evening -/
section K27
variable {m : Nat → Int32} {g g0 gT gT0 gD gL gS gS' : Pic} {c : Nat → Nat} {n q s s0 : Nat}
theorem rs_adU {U a b e d : Nat} (h : RS gS gL m) (hO : Ok m) (hU : m 4 = nI U) (u5 : U < 5) (ex : ∀ k, k ≠ 7 → k ≠ 8 → k ≠ 9 → k ≠ 10 → k ≠ 11 → k ≠ 12 → gS' k = gS k) (e7 : gS' 7 0 = nI (U + 1)) (e8 : ∀ u, gS' 8 u = if u = U then nI a else gS 8 u) (e9 : ∀ u, gS' 9 u = if u = U then nI b else gS 9 u) (e10 : ∀ u, gS' 10 u = if u = U then nI e else gS 10 u) (e11 : ∀ u, gS' 11 u = if u = U then nI d else gS 11 u) (e12 : ∀ p, gS' 12 p = if U * 20 ≤ p ∧ p < U * 20 + 20 then nI 0 else gS 12 p) : RS gS' gL (adU m U a b e d) := by
  have tU : tn (m 4) = U := by rw [hU]; exact tn_n (by omega)
  have t4 : tn (adU m U a b e d 4) = U + 1 := tn_n (by omega)
  have o : ∀ p, p ≠ 4 → (p < 96 ∨ 216 ≤ p) → adU m U a b e d p = m p := fun p h1 h2 => adU_o u5 h1 (by omega) (by omega)
  have ee : ∀ k, k ≠ 7 → k ≠ 8 → k ≠ 9 → k ≠ 10 → k ≠ 11 → k ≠ 12 → gS' k 0 = gS k 0 := fun k h1 h2 h3 h4 h5 h6 => by rw [ex k h1 h2 h3 h4 h5 h6]
  refine ⟨by rw [o 3 (by omega) (by omega), ee 0 (by omega) (by omega) (by omega) (by omega) (by omega) (by omega)]; exact h.W, by rw [o 5 (by omega) (by omega), ee 4 (by omega) (by omega) (by omega) (by omega) (by omega) (by omega)]; exact h.S, by rw [o 6 (by omega) (by omega), ee 6 (by omega) (by omega) (by omega) (by omega) (by omega) (by omega)]; exact h.D, e7, by rw [o 7 (by omega) (by omega), ee 13 (by omega) (by omega) (by omega) (by omega) (by omega) (by omega)]; exact h.T, by rw [o 8 (by omega) (by omega), ee 14 (by omega) (by omega) (by omega) (by omega) (by omega) (by omega)]; exact h.slip, by rw [o 9 (by omega) (by omega), ee 15 (by omega) (by omega) (by omega) (by omega) (by omega) (by omega)]; exact h.minute, by rw [o 11 (by omega) (by omega), ee 16 (by omega) (by omega) (by omega) (by omega) (by omega) (by omega)]; exact h.seed, by rw [o 0 (by omega) (by omega), ee 17 (by omega) (by omega) (by omega) (by omega) (by omega) (by omega)]; exact h.texts, h.w_.c hO (o 3 (by omega) (by omega)) (fun p h1 h2 => o p (by omega) (by omega)) (ex 1 (by omega) (by omega) (by omega) (by omega) (by omega) (by omega)) (ex 2 (by omega) (by omega) (by omega) (by omega) (by omega) (by omega)) (ex 3 (by omega) (by omega) (by omega) (by omega) (by omega) (by omega)), h.p_.c hO.S.2.2 (o 5 (by omega) (by omega)) (fun p h1 h2 => o p (by omega) (by omega)) (ex 5 (by omega) (by omega) (by omega) (by omega) (by omega) (by omega)), ?_, h.l_.c hO.G.2.2 (o 10 (by omega) (by omega)) (fun p h1 h2 => o p (by omega) (by omega))⟩
  rw [t4]
  intro u hu
  rw [e8, e9, e10, e11]
  by_cases z : u = U
  · subst z
    obtain ⟨q0, q1, q2, q3⟩ := adU_0 (m := m) (U := u) (a := a) (b := b) (e := e) (d := d)
    rw [q0, q1, q2, q3, if_pos rfl, if_pos rfl, if_pos rfl, if_pos rfl]
    exact ⟨rfl, rfl, rfl, rfl, fun k hk => by rw [adU_pg u5 hk, e12, if_pos (by omega)]⟩
  · have hu' : u < tn (m 4) := by omega
    rw [adU_w u5 (by omega) (by omega), adU_w u5 (by omega) (by omega), adU_w u5 (by omega) (by omega), adU_w u5 (by omega) (by omega), if_neg z, if_neg z, if_neg z, if_neg z]
    exact ⟨h.leaves hu', h.speed hu', h.skill hu', h.tired hu', fun k hk => by rw [adU_p u5 (by omega) hk, e12, if_neg (by omega)]; exact h.page hu' hk⟩
theorem q_lays {u k : Nat} (hu : u < 5) (hk : k < 4) (v : Int32) : f_X12_lays g (nI u) (nI k) v = some (pu g 1 (96 + 4 * u + k) v) := by
  unfold f_X12_lays
  simp (disch := omega) only [bd_s, bd2_s, bd3_s, bd4_s, bd5_s, bd6_s, bd7_s, bd8_s, lr_l, lr_r, nm_s, jn_s, gdb_0, gdb_1, li_2, li_3, li_4, li_5, li_6, li_7, li_8, li_9, li_10, li_11, li_12, li_13, li_14, li_15, li_16, li_20, li_24, li_32, li_40, li_41, li_43, li_48, li_57, li_59, li_60, li_62, li_63, li_76, li_96, li_97, li_99, li_100, li_104, li_116, li_122, li_128, li_129, li_216, li_217, li_218, li_219, li_239, li_240, li_255, li_256, li_257, li_400, li_456, li_856, li_999, li_1000, li_1001, li_1002, li_1003, li_1004, li_1005, li_1006, li_1007, li_1008, li_1161, li_2000, li_2001, li_2002, li_2003, li_2004, li_2005, li_5016, li_5472, li_9999, li_10000, li_32767, li_1000000, li_2000000000, nI_add, nI_mul, nI_sub, nI_clamp, nI_leI, nI_ltI, nI_eq, gdi_n, nI_1, nI_eq0, nI_eq1, nI_le0, nI_le1, nI_0le, nI_lt0, nI_0lt, nI_m1, Int32.add_zero, Nat.le_refl, if_true, if_false, Bool.false_eq_true, Bool.true_eq_false, i10, i01, im0, im1, i0m, i1m, l10, l00, l01, t10, t00]
theorem q_p165 (g : Pic) {U : Nat} (u5 : U < 5) : ∃ g', f_X12_writerLine_L165 (nI U) fu (0, g) = some g' ∧ (∀ k, k ≠ 1 → g' k = g k) ∧ ∀ p, g' 1 p = if 116 + 20 * U ≤ p ∧ p < 136 + 20 * U then nI 0 else g 1 p := by
  refine lp_inv (fun i a => ∃ y : Pic, a = (nI i, y) ∧ (∀ k, k ≠ 1 → y k = g k) ∧ ∀ p, y 1 p = if 116 + 20 * U ≤ p ∧ p < 116 + 20 * U + i then nI 0 else g 1 p) 20 (fun g' : Pic => (∀ k, k ≠ 1 → g' k = g k) ∧ ∀ p, g' 1 p = if 116 + 20 * U ≤ p ∧ p < 136 + 20 * U then nI 0 else g 1 p) ?_ ?_ (by have := fu_big; omega) ⟨g, rfl, fun _ _ => rfl, fun p => by rw [if_neg (by omega)]⟩
  · rintro i hi _ ⟨y, rfl, h1, h2⟩
    have ni : ¬ 20 ≤ i := by omega
    refine Or.inl ⟨(nI (i + 1), pu y 1 (116 + 20 * U + i) 0), ⟨_, rfl, fun k hk => by rw [pu_o hk]; exact h1 k hk, fun p => ?_⟩, fun r => ?_⟩
    · rw [pu_s]
      by_cases z : p = 116 + 20 * U + i
      · rw [if_pos z, if_pos (by omega)]; rfl
      · rw [if_neg z, h2 p]
        by_cases z2 : 116 + 20 * U ≤ p ∧ p < 116 + 20 * U + i
        · rw [if_pos z2, if_pos (by omega)]
        · rw [if_neg z2, if_neg (by omega)]
    · simp (disch := omega) only [bd_s, bd2_s, bd3_s, bd4_s, bd5_s, bd6_s, bd7_s, bd8_s, lr_l, lr_r, nm_s, jn_s, gdb_0, gdb_1, li_2, li_3, li_4, li_5, li_6, li_7, li_8, li_9, li_10, li_11, li_12, li_13, li_14, li_15, li_16, li_20, li_24, li_32, li_40, li_41, li_43, li_48, li_57, li_59, li_60, li_62, li_63, li_76, li_96, li_97, li_99, li_100, li_104, li_116, li_122, li_128, li_129, li_216, li_217, li_218, li_219, li_239, li_240, li_255, li_256, li_257, li_400, li_456, li_856, li_999, li_1000, li_1001, li_1002, li_1003, li_1004, li_1005, li_1006, li_1007, li_1008, li_1161, li_2000, li_2001, li_2002, li_2003, li_2004, li_2005, li_5016, li_5472, li_9999, li_10000, li_32767, li_1000000, li_2000000000, nI_add, nI_mul, nI_sub, nI_clamp, nI_leI, nI_ltI, nI_eq, gdi_n, nI_1, nI_eq0, nI_eq1, nI_le0, nI_le1, nI_0le, nI_lt0, nI_0lt, nI_m1, Int32.add_zero, Nat.le_refl, if_true, if_false, Bool.false_eq_true, Bool.true_eq_false, i10, i01, im0, im1, i0m, i1m, l10, l00, l01, t10, t00, ni]
  · rintro _ ⟨y, rfl, h1, h2⟩
    refine ⟨y, ⟨h1, fun p => ?_⟩, fun r => if_pos (show (20 : Int32) ≤ nI 20 from Int32.le_refl _)⟩
    rw [h2 p]
    by_cases z : 116 + 20 * U ≤ p ∧ p < 136 + 20 * U
    · rw [if_pos z, if_pos (by omega)]
    · rw [if_neg z, if_neg (by omega)]
theorem k_addWriter (gE gT : Pic) {U : Nat} (u5 : U < 5) (h7 : gD 7 0 = nI U) (x1 x2 x3 x4 : Int32) : ∃ g', f_X2_addWriter gE gT gD x1 x2 x3 x4 = some g' ∧ (∀ k, k ≠ 7 → k ≠ 8 → k ≠ 9 → k ≠ 10 → k ≠ 11 → k ≠ 12 → g' k = gD k) ∧ g' 7 0 = nI (U + 1) ∧ (∀ u, g' 8 u = if u = U then x4 else gD 8 u) ∧ (∀ u, g' 9 u = if u = U then x1 else gD 9 u) ∧ (∀ u, g' 10 u = if u = U then x2 else gD 10 u) ∧ (∀ u, g' 11 u = if u = U then x3 else gD 11 u) ∧ ∀ p, g' 12 p = if U * 20 ≤ p ∧ p < U * 20 + 20 then nI 0 else gD 12 p := by
  have A : ∃ y, f_X2_addWriter_L57 (nI U) gE gT fu (0, pu (pu (pu (pu gD 9 U x1) 10 U x2) 11 U x3) 8 U x4) = some y ∧ (∀ k, k ≠ 12 → y k = (pu (pu (pu (pu gD 9 U x1) 10 U x2) 11 U x3) 8 U x4) k) ∧ ∀ p, y 12 p = if U * 20 ≤ p ∧ p < U * 20 + 20 then nI 0 else gD 12 p := by
    refine lp_inv (fun i a => ∃ y : Pic, a = (nI i, y) ∧ (∀ k, k ≠ 12 → y k = (pu (pu (pu (pu gD 9 U x1) 10 U x2) 11 U x3) 8 U x4) k) ∧ ∀ p, y 12 p = if U * 20 ≤ p ∧ p < U * 20 + i then nI 0 else gD 12 p) 20 (fun y : Pic => (∀ k, k ≠ 12 → y k = (pu (pu (pu (pu gD 9 U x1) 10 U x2) 11 U x3) 8 U x4) k) ∧ ∀ p, y 12 p = if U * 20 ≤ p ∧ p < U * 20 + 20 then nI 0 else gD 12 p) ?_ ?_ (by have := fu_big; omega) ⟨_, rfl, fun _ _ => rfl, fun p => by rw [if_neg (by omega)]; rfl⟩
    · rintro i hi _ ⟨y, rfl, h1, h2⟩
      have ni : ¬ 20 ≤ i := by omega
      refine Or.inl ⟨(nI (i + 1), pu y 12 (U * 20 + i) 0), ⟨_, rfl, fun k hk => by rw [pu_o hk]; exact h1 k hk, fun p => ?_⟩, fun r => ?_⟩
      · rw [pu_s]
        by_cases z : p = U * 20 + i
        · rw [if_pos z, if_pos (by omega)]; rfl
        · rw [if_neg z, h2 p]
          by_cases z2 : U * 20 ≤ p ∧ p < U * 20 + i
          · rw [if_pos z2, if_pos (by omega)]
          · rw [if_neg z2, if_neg (by omega)]
      · simp (disch := omega) only [bd_s, bd2_s, bd3_s, bd4_s, bd5_s, bd6_s, bd7_s, bd8_s, lr_l, lr_r, nm_s, jn_s, gdb_0, gdb_1, li_2, li_3, li_4, li_5, li_6, li_7, li_8, li_9, li_10, li_11, li_12, li_13, li_14, li_15, li_16, li_20, li_24, li_32, li_40, li_41, li_43, li_48, li_57, li_59, li_60, li_62, li_63, li_76, li_96, li_97, li_99, li_100, li_104, li_116, li_122, li_128, li_129, li_216, li_217, li_218, li_219, li_239, li_240, li_255, li_256, li_257, li_400, li_456, li_856, li_999, li_1000, li_1001, li_1002, li_1003, li_1004, li_1005, li_1006, li_1007, li_1008, li_1161, li_2000, li_2001, li_2002, li_2003, li_2004, li_2005, li_5016, li_5472, li_9999, li_10000, li_32767, li_1000000, li_2000000000, nI_add, nI_mul, nI_sub, nI_clamp, nI_leI, nI_ltI, nI_eq, gdi_n, nI_1, nI_eq0, nI_eq1, nI_le0, nI_le1, nI_0le, nI_lt0, nI_0lt, nI_m1, Int32.add_zero, Nat.le_refl, if_true, if_false, Bool.false_eq_true, Bool.true_eq_false, i10, i01, im0, im1, i0m, i1m, l10, l00, l01, t10, t00, ni]
    · rintro _ ⟨y, rfl, h1, h2⟩
      exact ⟨y, ⟨h1, h2⟩, fun r => if_pos (show (20 : Int32) ≤ nI 20 from Int32.le_refl _)⟩
  obtain ⟨y, A1, A2, A3⟩ := A
  have y7 : y 7 0 = nI U := by rw [A2 7 (by decide)]; exact h7
  refine ⟨pu y 7 0 (nI (U + 1)), ?_, fun k h1 h2 h3 h4 h5 h6 => by rw [pu_o h1, A2 k h6, pu_o h2, pu_o h5, pu_o h4, pu_o h3], by rw [pu_s, if_pos rfl], fun u => by rw [pu_o (by decide), A2 8 (by decide), pu_s]; rfl, fun u => by rw [pu_o (by decide), A2 9 (by decide), pu_o (by decide), pu_o (by decide), pu_o (by decide), pu_s], fun u => by rw [pu_o (by decide), A2 10 (by decide), pu_o (by decide), pu_o (by decide), pu_s]; rfl, fun u => by rw [pu_o (by decide), A2 11 (by decide), pu_o (by decide), pu_s]; rfl, fun p => by rw [pu_o (by decide)]; exact A3 p⟩
  unfold f_X2_addWriter
  simp (disch := omega) only [bd_s, bd2_s, bd3_s, bd4_s, bd5_s, bd6_s, bd7_s, bd8_s, lr_l, lr_r, nm_s, jn_s, gdb_0, gdb_1, h7, gdi_n, nI_clamp, A1, y7, nI_1]
theorem e_writer_line (h0 : PR g0 gT0 c n s0) (hst : f_X10_step gT0 = some gT) (e0 : E11 g0 g) (ht1 : gT 1 = gT0 1) (h : EV g gT gD gL c n s) (gE : Pic) : LRes g0 gT0 gL c n (f_X12_writerLine g (nI s0)) (f_X2_readsWriter gE gT0 gD) := by
  obtain ⟨hp, hO, hR⟩ := h
  have n4 := hp.n4
  have e12 := hp.2.2.1
  obtain ⟨U, hU, tU, -, u5⟩ := hO.U.ex
  have gu := hR.U.trans hU
  by_cases h5 : U = 5
  · have s0n := h0.sn
    have m5 : g 1 4 = 5 := by rw [hU, h5]; rfl
    have ne : ¬ (pu g 12 0 (nI s0)) 12 0 = -1 := by rw [pu_s, if_pos rfl, nI_m1 (by omega)]; exact id
    have fl : FL (pu g 12 0 (nI s0)) (pu gT0 7 0 (nI s0)) n := ⟨s0, s0n, rfl, rfl, by
      obtain ⟨q, q1, q2, -⟩ := hp.2.1
      exact ⟨q, by omega, by rw [pu_o (by decide)]; exact q2⟩⟩
    have fa : f_X12_after 3 (pu g 12 0 (nI s0)) 1 9 = some (0, pu g 12 0 (nI s0)) := by
      have ff : f_X12_figures (pu g 12 0 (nI s0)) 1 9 = some (0, pu g 12 0 (nI s0)) := by
        unfold f_X12_figures
        rw [if_neg ne]
      unfold f_X12_after
      simp only [bd_s, bd2_s, bd3_s, bd4_s, bd5_s, bd6_s, bd7_s, bd8_s, lr_l, lr_r, nm_s, jn_s, gdb_0, gdb_1, ne, if_false, ff]
    refine Or.inr ⟨pu g 12 0 (nI s0), pu gT0 7 0 (nI s0), gD, ?_, ?_, fl, e0.to.pu12.fr, by rw [pu_o (by decide)]⟩
    · unfold f_X12_writerLine
      simp only [bd_s, bd2_s, bd3_s, bd4_s, bd5_s, bd6_s, bd7_s, bd8_s, lr_l, lr_r, nm_s, jn_s, gdb_0, gdb_1, m5, if_true, q_wrong e12, fa, ne, if_false]
    · have nl : ¬ (5 : Int32) < 5 := by decide
      unfold f_X2_readsWriter
      rw [gu, h5]
      simp only [bd_s, bd2_s, bd3_s, bd4_s, bd5_s, bd6_s, bd7_s, bd8_s, lr_l, lr_r, nm_s, jn_s, gdb_0, gdb_1, show nI 5 = 5 from rfl, nl, if_false, k_refuse h0.2.2.2.2 h0.2.2.2.1.2.2.2.1]
  · have m5 : ¬ g 1 4 = 5 := fun z => by rw [hU] at z; have := (nI_eq (b := 5) (by omega) (by omega)).mp z; omega
    have u4 : U < 5 := by omega
    have lu : nI U < 5 := nI_lt (b := 5) u4 (by omega)
    rcases hp.after (k := 3) (strOk_all 3 (by decide) (by decide)) (lo := 1) (hi := 9) (by decide) with ⟨v, g1, gTa, gT1, s1, v9, b1, b2, b3, b4, b5, b6, b7, b8⟩ | ⟨g1, b1, b2, b3, b4, b5⟩ | ⟨v, g1, gTa, gT1, b1, b2, b3, b4, b5, b6⟩
    · have v1 : 1 ≤ v := (nI_leI (a := 1) (by omega) (by omega)).mp b6
      have v99 : v ≤ 9 := (nI_leI (b := 9) (by omega) (by omega)).mp b7
      have nv : ¬ nI v = -1 := by rw [nI_m1 (by omega)]; exact id
      rcases b5.opt (k := 4) (hi := 9) (strOk_all 4 (by decide) (by decide)) (by omega) with ⟨w, g2, gT2, s2, w9, c2, c3, c4, c5, c6⟩ | ⟨w, g2, gT2, c2, c3, c4, c5, c6⟩
      · have nw : ¬ nI w = -1 := by rw [nI_m1 (by omega)]; exact id
        rcases c3.opt (k := 5) (hi := 99) (strOk_all 5 (by decide) (by decide)) (by omega) with ⟨x, g3, gT3, s3, x9, d2, d3, d4, d5, d6⟩ | ⟨x, g3, gT3, d2, d3, d4, d5, d6⟩
        · have nx : ¬ nI x = -1 := by rw [nI_m1 (by omega)]; exact id
          have E3 : E11 g g3 := (b2.tr c2).tr d2
          -- the letters that are left, or none
          have lv : (∃ y g4 gT4 s4, y ≤ 255 ∧ E11 g3 g4 ∧ PR g4 gT4 c n s4 ∧ gT4 1 = gT3 1 ∧ (∀ J : Int32 → Pic → Option Pic, jn J (fun J109 => jn (fun (g0_J108 : Pic) => J109 0 g0_J108) (fun J108 => (if (g3 12 0) = (-1) then bd2 (f_X12_has 6 g3) (fun r_12 g0_12 => (if r_12 = 0 then J108 g0_12 else bd2 (f_X12_letterSet g0_12) (fun r_13 g0_13 => J109 r_13 g0_13))) else J108 g3))) = J (nI y) g4) ∧ ∀ K : Int32 → Pic → Option (Int32 × Pic × Pic), bd2 (f_X10_takesName 6 gT3) (fun r_7 g1_7 => jn K (fun J156 => (if r_7 = 0 then J156 0 g1_7 else bd2 (f_X2_takeLetterSet gE g1_7 gD) (fun r_9 g1_9 => J156 r_9 g1_9)))) = K (nI y) gT4) ∨
              (∃ y g4 gT4, E12 g3 g4 ∧ FL g4 gT4 n ∧ gT4 1 = gT3 1 ∧ (∀ J : Int32 → Pic → Option Pic, jn J (fun J109 => jn (fun (g0_J108 : Pic) => J109 0 g0_J108) (fun J108 => (if (g3 12 0) = (-1) then bd2 (f_X12_has 6 g3) (fun r_12 g0_12 => (if r_12 = 0 then J108 g0_12 else bd2 (f_X12_letterSet g0_12) (fun r_13 g0_13 => J109 r_13 g0_13))) else J108 g3))) = J y g4) ∧ ∀ K : Int32 → Pic → Option (Int32 × Pic × Pic), bd2 (f_X10_takesName 6 gT3) (fun r_7 g1_7 => jn K (fun J156 => (if r_7 = 0 then J156 0 g1_7 else bd2 (f_X2_takeLetterSet gE g1_7 gD) (fun r_9 g1_9 => J156 r_9 g1_9)))) = K (-1) gT4) := by
            have f12 := d3.2.2.1
            rcases d3.take (k := 6) (strOk_all 6 (by decide) (by decide)) with ⟨-, g4, a1, a2, a3, a4, -, a6⟩ | ⟨-, g4, gT4, a1, a2, a3, -, -, a5, a6, a7⟩
            · refine Or.inl ⟨0, g4, gT3, _, by omega, a2, a4, rfl, fun J => ?_, fun K => ?_⟩
              · simp only [bd_s, bd2_s, bd3_s, bd4_s, bd5_s, bd6_s, bd7_s, bd8_s, lr_l, lr_r, nm_s, jn_s, gdb_0, gdb_1, f12, if_true, a1]; rfl
              · simp only [bd_s, bd2_s, bd3_s, bd4_s, bd5_s, bd6_s, bd7_s, bd8_s, lr_l, lr_r, nm_s, jn_s, gdb_0, gdb_1, a6, if_true]; rfl
            · rcases a3.lset gE gD with ⟨y, g5, gT5, s5, y9, l1, l2, l3, l4, l5⟩ | ⟨y, g5, l1, l2, l3, l4⟩
              · refine Or.inl ⟨y, g5, gT5, s5, y9, a2.tr l2, l4, l5.trans a7, fun J => ?_, fun K => ?_⟩
                · simp only [bd_s, bd2_s, bd3_s, bd4_s, bd5_s, bd6_s, bd7_s, bd8_s, lr_l, lr_r, nm_s, jn_s, gdb_0, gdb_1, f12, if_true, a1, i10, if_false, l1]
                · simp only [bd_s, bd2_s, bd3_s, bd4_s, bd5_s, bd6_s, bd7_s, bd8_s, lr_l, lr_r, nm_s, jn_s, gdb_0, gdb_1, a6, i10, if_false, l3]
              · refine Or.inr ⟨y, g5, _, a2.to.tr l2, l4, by rw [pu_o (by decide)]; exact a7, fun J => ?_, fun K => ?_⟩
                · simp only [bd_s, bd2_s, bd3_s, bd4_s, bd5_s, bd6_s, bd7_s, bd8_s, lr_l, lr_r, nm_s, jn_s, gdb_0, gdb_1, f12, if_true, a1, i10, if_false, l1]
                · simp only [bd_s, bd2_s, bd3_s, bd4_s, bd5_s, bd6_s, bd7_s, bd8_s, lr_l, lr_r, nm_s, jn_s, gdb_0, gdb_1, a6, i10, if_false, l3]
          rcases lv with ⟨y, g4, gT4, s4, y9, f2, f3, f4, f5, f6⟩ | ⟨y, g4, gT4, f2, f3, f4, f5, f6⟩
          · have ny : ¬ nI y = -1 := by rw [nI_m1 (by omega)]; exact id
            have E4 : E11 g g4 := E3.tr f2
            have m4 : g4 1 = g 1 := E4 1 (by decide)
            have f12 := f3.2.2.1
            have q4 : g4 1 4 = nI U := by rw [m4]; exact hU
            obtain ⟨gz, z1, z2, z3⟩ := q_p165 (pu (pu (pu (pu g4 1 (96 + 4 * U + 0) (nI y)) 1 (96 + 4 * U + 1) (nI v)) 1 (96 + 4 * U + 2) (nI w)) 1 (96 + 4 * U + 3) (nI x)) u4
            have row : (pu gz 1 4 (nI (U + 1))) 1 = adU (g 1) U y v w x := by
              funext p
              unfold adU
              rw [pu_s, z3 p, pu_s, pu_s, pu_s, pu_s, m4]
              by_cases t0 : p = 4
              · rw [if_pos t0, if_pos t0]
              · rw [if_neg t0, if_neg t0]
                by_cases t1 : 116 + 20 * U ≤ p ∧ p < 136 + 20 * U
                · rw [if_pos t1, if_neg (by omega), if_neg (by omega), if_neg (by omega), if_neg (by omega), if_pos t1]
                · rw [if_neg t1]
                  by_cases t2 : p = 96 + 4 * U + 3
                  · rw [if_pos t2, if_neg (by omega), if_neg (by omega), if_neg (by omega), if_pos t2]
                  · rw [if_neg t2]
                    by_cases t3 : p = 96 + 4 * U + 2
                    · rw [if_pos t3, if_neg (by omega), if_neg (by omega), if_pos t3]
                    · rw [if_neg t3]
                      by_cases t4 : p = 96 + 4 * U + 1
                      · rw [if_pos t4, if_neg (by omega), if_pos t4]
                      · rw [if_neg t4]
                        by_cases t5 : p = 96 + 4 * U + 0
                        · rw [if_pos t5, if_pos (by omega)]
                        · rw [if_neg t5, if_neg (by omega), if_neg t4, if_neg t3, if_neg t2, if_neg t1]
            obtain ⟨gW, k1, k2, k3, k4, k5, k6, k7, k8⟩ := k_addWriter gE gT4 u4 gu (nI v) (nI w) (nI x) (nI y)
            have z14 : gz 1 4 = nI U := by rw [z3 4, if_neg (by omega), pu_s, if_neg (by omega), pu_s, if_neg (by omega), pu_s, if_neg (by omega), pu_s, if_neg (by omega)]; exact q4
            refine Or.inl ⟨pu gz 1 4 (nI (U + 1)), gT4, gW, s4, ?_, ?_, ⟨f3.row1 (fun k hk => by rw [pu_o hk, z2 k hk, pu_o hk, pu_o hk, pu_o hk, pu_o hk]) (fun p hp => by rw [row, m4]; exact adU_o u4 (by omega) (by omega) (by omega)), ?_, ?_⟩, ?_, ?_⟩
            · unfold f_X12_writerLine
              rw [jn_s]
              try dsimp only
              rw [if_neg m5, b1, bd2_s]
              refine (c5 _).trans ?_
              refine (d5 _).trans ?_
              refine (f5 _).trans ?_
              have y0 := q_lays (g := g4) (u := U) (k := 0) u4 (by omega) (nI y)
              have y1 := q_lays (g := pu g4 1 (96 + 4 * U + 0) (nI y)) (u := U) (k := 1) u4 (by omega) (nI v)
              have y2 := q_lays (g := pu (pu g4 1 (96 + 4 * U + 0) (nI y)) 1 (96 + 4 * U + 1) (nI v)) (u := U) (k := 2) u4 (by omega) (nI w)
              have y3 := q_lays (g := pu (pu (pu g4 1 (96 + 4 * U + 0) (nI y)) 1 (96 + 4 * U + 1) (nI v)) 1 (96 + 4 * U + 2) (nI w)) (u := U) (k := 3) u4 (by omega) (nI x)
              rw [nI_0] at y0
              rw [show nI 1 = 1 from rfl] at y1
              rw [show nI 2 = 2 from rfl] at y2
              rw [show nI 3 = 3 from rfl] at y3
              simp only [bd_s, bd2_s, bd3_s, bd4_s, bd5_s, bd6_s, bd7_s, bd8_s, lr_l, lr_r, nm_s, jn_s, gdb_0, gdb_1, f12, if_true, q4, y0, y1, y2, y3, z1, z14, nI_1]
            · unfold f_X2_readsWriter
              rw [nm_s, gu, if_pos lu, hst, bd_s, b3, bd2_s]
              try dsimp only
              rw [if_neg (by decide), b4, bd2_s]
              try dsimp only
              rw [if_neg nv]
              refine (c6 _).trans ?_
              try dsimp only
              rw [if_neg nw]
              refine (d6 _).trans ?_
              try dsimp only
              rw [if_neg nx]
              refine (f6 _).trans ?_
              try dsimp only
              rw [if_neg ny, k1]
              rfl
            · rw [row]; exact ok_adU hO hU u4 y9 v1 v99 w9 x9
            · rw [row]; exact rs_adU hR hO hU u4 k2 k3 k4 k5 k6 k7 k8
            · refine FR.tr e0.to.fr ⟨fun k t1 t2 t3 => by rw [pu_o t1, z2 k t1, pu_o t1, pu_o t1, pu_o t1, pu_o t1]; exact E4 k t2, fun p hp => ?_, ?_, fun p hp => ?_⟩
              · rw [row]; exact adU_o u4 (by omega) (by omega) (by omega)
              · rw [row]; exact adU_o u4 (by omega) (by omega) (by omega)
              · rw [row]; exact adU_o u4 (by omega) (by omega) (by omega)
            · rw [f4, d4, c4, b8]; exact ht1
          · have ne := f3.ne n4
            refine Or.inr ⟨g4, gT4, gD, ?_, ?_, f3, FR.tr (e0.tr E3).to.fr f2.fr, by rw [f4, d4, c4, b8]; exact ht1⟩
            · unfold f_X12_writerLine
              rw [jn_s]
              try dsimp only
              rw [if_neg m5, b1, bd2_s]
              refine (c5 _).trans ?_
              refine (d5 _).trans ?_
              refine (f5 _).trans ?_
              try dsimp only
              rw [if_neg ne]
            · unfold f_X2_readsWriter
              rw [nm_s, gu, if_pos lu, hst, bd_s, b3, bd2_s]
              try dsimp only
              rw [if_neg (by decide), b4, bd2_s]
              try dsimp only
              rw [if_neg nv]
              refine (c6 _).trans ?_
              try dsimp only
              rw [if_neg nw]
              refine (d6 _).trans ?_
              try dsimp only
              rw [if_neg nx]
              refine (f6 _).trans ?_
              try dsimp only
              rw [if_pos rfl]
        · have ne := d3.ne n4
          refine Or.inr ⟨g3, gT3, gD, ?_, ?_, d3, FR.tr (e0.tr (b2.tr c2)).to.fr d2.fr, by rw [d4, c4, b8]; exact ht1⟩
          · unfold f_X12_writerLine
            rw [jn_s]
            try dsimp only
            rw [if_neg m5, b1, bd2_s]
            refine (c5 _).trans ?_
            refine (d5 _).trans ?_
            simp only [bd_s, bd2_s, bd3_s, bd4_s, bd5_s, bd6_s, bd7_s, bd8_s, lr_l, lr_r, nm_s, jn_s, gdb_0, gdb_1, ne, if_false]
          · unfold f_X2_readsWriter
            rw [nm_s, gu, if_pos lu, hst, bd_s, b3, bd2_s]
            try dsimp only
            rw [if_neg (by decide), b4, bd2_s]
            try dsimp only
            rw [if_neg nv]
            refine (c6 _).trans ?_
            try dsimp only
            rw [if_neg nw]
            refine (d6 _).trans ?_
            try dsimp only
            rw [if_pos rfl]
      · have ne := c3.ne n4
        refine Or.inr ⟨g2, gT2, gD, ?_, ?_, c3, FR.tr (e0.tr b2).to.fr c2.fr, by rw [c4, b8]; exact ht1⟩
        · unfold f_X12_writerLine
          rw [jn_s]
          try dsimp only
          rw [if_neg m5, b1, bd2_s]
          refine (c5 _).trans ?_
          simp only [bd_s, bd2_s, bd3_s, bd4_s, bd5_s, bd6_s, bd7_s, bd8_s, lr_l, lr_r, nm_s, jn_s, gdb_0, gdb_1, ne, if_false]
        · unfold f_X2_readsWriter
          rw [nm_s, gu, if_pos lu, hst, bd_s, b3, bd2_s]
          try dsimp only
          rw [if_neg (by decide), b4, bd2_s]
          try dsimp only
          rw [if_neg nv]
          refine (c6 _).trans ?_
          try dsimp only
          rw [if_pos rfl]
    · have ne := b5.ne n4
      refine Or.inr ⟨g1, pu gT 7 0 (nI s), gD, ?_, ?_, b5, FR.tr e0.to.fr b2.fr, by rw [pu_o (by decide)]; exact ht1⟩
      · unfold f_X12_writerLine
        simp only [bd_s, bd2_s, bd3_s, bd4_s, bd5_s, bd6_s, bd7_s, bd8_s, lr_l, lr_r, nm_s, jn_s, gdb_0, gdb_1, m5, if_false, b1, ne]
      · unfold f_X2_readsWriter
        rw [nm_s, gu, if_pos lu, hst, bd_s, b3, bd2_s]
        try dsimp only
        rw [if_pos rfl, b4]
        rfl
    · have ne := b5.ne n4
      refine Or.inr ⟨g1, gT1, gD, ?_, ?_, b5, FR.tr e0.to.fr b2.fr, by rw [b6]; exact ht1⟩
      · unfold f_X12_writerLine
        simp only [bd_s, bd2_s, bd3_s, bd4_s, bd5_s, bd6_s, bd7_s, bd8_s, lr_l, lr_r, nm_s, jn_s, gdb_0, gdb_1, m5, if_false, b1, ne]
      · unfold f_X2_readsWriter
        rw [nm_s, gu, if_pos lu, hst, bd_s, b3, bd2_s]
        try dsimp only
        rw [if_neg (by decide), b4, bd2_s]
        try dsimp only
        rw [if_pos rfl]
end K27
