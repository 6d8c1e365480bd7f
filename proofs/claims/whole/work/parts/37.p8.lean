theorem least_ex {p : Nat → Prop} (N : Nat) (h : ∃ n, n < N ∧ p n) : ∃ n, n < N ∧ p n ∧ ∀ k, k < n → ¬ p k := by
  induction N with
  | zero => obtain ⟨n, h1, -⟩ := h; exact absurd h1 (Nat.not_lt_zero n)
  | succ N ih =>
    by_cases q : ∃ n, n < N ∧ p n
    · obtain ⟨n, h1, h2, h3⟩ := ih q
      exact ⟨n, by omega, h2, h3⟩
    · obtain ⟨n, h1, h2⟩ := h
      exact ⟨n, h1, h2, fun k hk pk => q ⟨k, by omega, pk⟩⟩
section K8
variable {m : Nat → Int32} {g gS gL gH gC gP h : Pic}
/-- the first length that is a cheapest one, for both -/
theorem e_short {h' : Pic} (hm : h 1 = m) (hO : Ok m) (hR : RS gS gL m) (h2 : 2 ≤ tn (m 3)) (x1 : Int32) {k cap : Nat} (hk : k < tn (m 3)) (hc : cap ≤ 128)
    (hq : ∀ r c, r ≤ tn (m 3) → c ≤ 128 → h 22 (129 * (tn (m 3) - r) + c) = nI (cst (ofr m) r c)) (hkk : ∀ r c, r ≤ tn (m 3) → c ≤ 128 → h' 3 (129 * (tn (m 3) - r) + c) = nI (kx (cst (ofr m) r c)))
    (hf : cst (ofr m) (tn (m 3) - k) cap ≠ 2000000000) : ∃ n, n < 7 ∧ f_X12_lengthOf_L33 x1 (nI cap) (nI k) h fu 1 = some (nI (n + 1)) ∧ f_X6_shortestAt h' gS (nI k) (nI cap) = some (nI (n + 1)) ∧ 2 ^ (7 - (n + 1)) ≤ cap ∧ cst (ofr m) (tn (m 3) - (k + 1)) (cap - 2 ^ (7 - (n + 1))) ≠ 2000000000 := by
  obtain ⟨W, hW, tW, -, w8⟩ := hO.W.ex
  have hfl := ofr_le hO (by omega)
  have o9 := (hO.often hk).2.2
  rw [tW] at h2 hk hq hkk hf ⊢
  have hk' : k < tn (m 3) := by rw [tW]; exact hk
  obtain ⟨r, hr⟩ : ∃ r, W - k = r + 1 := ⟨W - k - 1, by omega⟩
  have er : W - (k + 1) = r := by omega
  have eo : ofr m r = tn (wd m k 7) := by unfold ofr; rw [show tn (m 3) - 1 - r = k by omega]
  have hC : ∀ c, cst (ofr m) r c = 2000000000 ∨ cst (ofr m) r c ≤ 9000 := fun c => by
    have := cst_b hfl r c
    omega
  have he : ∀ c, c ≤ 128 → h 22 (129 * (k + 1) + c) = nI (cst (ofr m) r c) := fun c hc => by
    have := hq r c (by omega) hc
    rwa [show W - r = k + 1 by omega] at this
  have he' : ∀ c, c ≤ 128 → h' 3 (129 * (k + 1) + c) = nI (kx (cst (ofr m) r c)) := fun c hc => by
    have := hkk r c (by omega) hc
    rwa [show W - r = k + 1 by omega] at this
  have en : h 22 (129 * k + cap) = nI (cst (ofr m) (r + 1) cap) := by
    have := hq (r + 1) cap (by omega) hc
    rwa [show W - (r + 1) = k by omega] at this
  have en' : h' 3 (129 * k + cap) = nI (kx (cst (ofr m) (r + 1) cap)) := by
    have := hkk (r + 1) cap (by omega) hc
    rwa [show W - (r + 1) = k by omega] at this
  rw [hr] at hf
  rw [er]
  have hE := (cst_b hfl (r + 1) cap).resolve_left hf
  have ex : ∃ n, n < 7 ∧ cby (ofr m r) (cst (ofr m) r) (n + 1) cap = cst (ofr m) (r + 1) cap := (cmn_at (o := ofr m r) (C := cst (ofr m) r) (cap := cap) (i := 7)).resolve_left hf
  obtain ⟨n, n7, hn, hmin⟩ := least_ex 7 ex
  rw [eo] at hn hmin
  refine ⟨n, n7, ?_, ?_, ?_⟩
  · refine lp_seq (fun i => nI (i + 1)) n _ (fun i hi r' => ?_) (fun r' => ?_) (by have := fu_big; omega) rfl
    · have q := q_codedBy (k := i + 1) hm hO hk' (by omega) (by omega) hc (fun c => by have := hC c; omega) he
      have ne := hmin i hi
      have b := cby_b (o := tn (wd m k 7)) (cap := cap) (n := i + 1) o9 (by omega) hC
      simp (disch := omega) only [bd_s, bd2_s, bd3_s, bd4_s, bd5_s, bd6_s, bd7_s, bd8_s, lr_l, lr_r, nm_s, jn_s, gdb_0, gdb_1, li_2, li_3, li_4, li_5, li_6, li_7, li_8, li_9, li_10, li_11, li_12, li_13, li_14, li_15, li_16, li_20, li_24, li_32, li_40, li_41, li_43, li_48, li_57, li_59, li_60, li_62, li_63, li_76, li_96, li_97, li_99, li_100, li_104, li_116, li_122, li_128, li_129, li_216, li_217, li_218, li_219, li_239, li_240, li_255, li_256, li_257, li_400, li_456, li_856, li_999, li_1000, li_1001, li_1002, li_1003, li_1004, li_1005, li_1006, li_1007, li_1008, li_1161, li_2000, li_2001, li_2002, li_2003, li_2004, li_2005, li_5016, li_5472, li_9999, li_10000, li_32767, li_1000000, li_2000000000, nI_add, nI_mul, nI_sub, nI_clamp, nI_leI, nI_ltI, nI_eq, gdi_n, nI_1, nI_eq0, nI_eq1, nI_le0, nI_le1, nI_0le, nI_lt0, nI_0lt, nI_m1, Int32.add_zero, Nat.le_refl, if_true, if_false, Bool.false_eq_true, Bool.true_eq_false, i10, i01, im0, im1, i0m, i1m, l10, l00, l01, t10, t00, q, en, ne]
    · have q := q_codedBy (k := n + 1) hm hO hk' (by omega) (by omega) hc (fun c => by have := hC c; omega) he
      rw [hn] at q
      simp (disch := omega) only [bd_s, bd2_s, bd3_s, bd4_s, bd5_s, bd6_s, bd7_s, bd8_s, lr_l, lr_r, nm_s, jn_s, gdb_0, gdb_1, li_2, li_3, li_4, li_5, li_6, li_7, li_8, li_9, li_10, li_11, li_12, li_13, li_14, li_15, li_16, li_20, li_24, li_32, li_40, li_41, li_43, li_48, li_57, li_59, li_60, li_62, li_63, li_76, li_96, li_97, li_99, li_100, li_104, li_116, li_122, li_128, li_129, li_216, li_217, li_218, li_219, li_239, li_240, li_255, li_256, li_257, li_400, li_456, li_856, li_999, li_1000, li_1001, li_1002, li_1003, li_1004, li_1005, li_1006, li_1007, li_1008, li_1161, li_2000, li_2001, li_2002, li_2003, li_2004, li_2005, li_5016, li_5472, li_9999, li_10000, li_32767, li_1000000, li_2000000000, nI_add, nI_mul, nI_sub, nI_clamp, nI_leI, nI_ltI, nI_eq, gdi_n, nI_1, nI_eq0, nI_eq1, nI_le0, nI_le1, nI_0le, nI_lt0, nI_0lt, nI_m1, Int32.add_zero, Nat.le_refl, if_true, if_false, Bool.false_eq_true, Bool.true_eq_false, i10, i01, im0, im1, i0m, i1m, l10, l00, l01, t10, t00, q, en]
  · have cmp : ∀ i, i < 7 → ((if cap < 2 ^ (7 - (i + 1)) then nI 1000000 else nI (tn (wd m k 7) * (i + 1) + kx (cst (ofr m) r (cap - 2 ^ (7 - (i + 1)))))) = nI (kx (cst (ofr m) (r + 1) cap)) ↔ cby (tn (wd m k 7)) (cst (ofr m) r) (i + 1) cap = cst (ofr m) (r + 1) cap) := by
      intro i hi
      have hkm := Nat.mul_le_mul o9 (show i + 1 ≤ 7 by omega)
      have mc := Nat.mul_comm (tn (wd m k 7)) (i + 1)
      rw [show kx (cst (ofr m) (r + 1) cap) = cst (ofr m) (r + 1) cap from if_neg hf]
      unfold cby
      generalize 2 ^ (7 - (i + 1)) = P at *
      by_cases c1 : cap < P
      · rw [if_pos c1, if_pos c1, nI_eq (by omega) (by omega)]
        omega
      · rw [if_neg c1, if_neg c1]
        have b := hC (cap - P)
        by_cases c2 : cst (ofr m) r (cap - P) = 2000000000
        · rw [if_pos c2, c2, show kx 2000000000 = 1000000 from if_pos rfl, nI_eq (by omega) (by omega)]
          omega
        · rw [if_neg c2, show kx (cst (ofr m) r (cap - P)) = cst (ofr m) r (cap - P) from if_neg c2, nI_eq (by omega) (by omega), mc]
    have x1 : k * 129 + cap = 129 * k + cap := by omega
    unfold f_X6_shortestAt
    by_cases c7 : n = 6
    · have H : f_X6_shortestAt_L2 (nI k) (nI cap) h' gS fu 1 = some (.inr ()) := by
        refine lp_seq (fun i => nI (i + 1)) 6 _ (fun i hi r' => ?_) (fun r' => ?_) (by have := fu_big; omega) rfl
        · have nk : ¬ 7 ≤ i + 1 := by omega
          have q := k_costAt (k := i + 1) hO hR hk' (by omega) (by omega) hc he'
          have ne := mt (cmp i (by omega)).mp (hmin i (by omega))
          simp (disch := omega) only [bd_s, bd2_s, bd3_s, bd4_s, bd5_s, bd6_s, bd7_s, bd8_s, lr_l, lr_r, nm_s, jn_s, gdb_0, gdb_1, li_7, li_129, nI_leI, nI_mul, nI_add, gdi_n, nI_clamp, nI_1, nk, if_false, q, x1, en', ne]
        · rfl
      rw [H, c7]
      rfl
    · have H : f_X6_shortestAt_L2 (nI k) (nI cap) h' gS fu 1 = some (.inl (nI (n + 1))) := by
        refine lp_seq (fun i => nI (i + 1)) n _ (fun i hi r' => ?_) (fun r' => ?_) (by have := fu_big; omega) rfl
        · have nk : ¬ 7 ≤ i + 1 := by omega
          have q := k_costAt (k := i + 1) hO hR hk' (by omega) (by omega) hc he'
          have ne := mt (cmp i (by omega)).mp (hmin i (by omega))
          simp (disch := omega) only [bd_s, bd2_s, bd3_s, bd4_s, bd5_s, bd6_s, bd7_s, bd8_s, lr_l, lr_r, nm_s, jn_s, gdb_0, gdb_1, li_7, li_129, nI_leI, nI_mul, nI_add, gdi_n, nI_clamp, nI_1, nk, if_false, q, x1, en', ne]
        · have nk : ¬ 7 ≤ n + 1 := by omega
          have q := k_costAt (k := n + 1) hO hR hk' (by omega) (by omega) hc he'
          have ne := (cmp n n7).mpr hn
          simp (disch := omega) only [bd_s, bd2_s, bd3_s, bd4_s, bd5_s, bd6_s, bd7_s, bd8_s, lr_l, lr_r, nm_s, jn_s, gdb_0, gdb_1, li_7, li_129, nI_leI, nI_mul, nI_add, gdi_n, nI_clamp, nI_1, nk, if_false, q, x1, en', ne, if_true]
      rw [H]
      rfl
  · have hn' : cby (tn (wd m k 7)) (cst (ofr m) r) (n + 1) cap ≠ 2000000000 := by rw [hn]; exact hf
    unfold cby at hn'
    by_cases c1 : cap < 2 ^ (7 - (n + 1))
    · rw [if_pos c1] at hn'; exact absurd rfl hn'
    · rw [if_neg c1] at hn'
      refine ⟨by omega, fun c2 => ?_⟩
      rw [if_pos c2] at hn'
      exact hn' rfl
theorem e_length (hg : g 1 = m) (hO : Ok m) (hR : RS gS gL m) {w : Nat} (hw : w < tn (m 3)) (gX : Pic) : ∃ v g' h', f_X12_lengthOf g (nI w) = some (v, g') ∧ Es g g' ∧ f_X6_codeLength gX gS (nI w) = some (v, h') := by
  obtain ⟨W, hW, tW, -, w8⟩ := hO.W.ex
  have gw := hR.W.trans hW
  unfold f_X12_lengthOf f_X6_codeLength
  by_cases h2 : 2 ≤ W
  · have h2' : 2 ≤ tn (m 3) := by rw [tW]; exact h2
    obtain ⟨g1, q1, q2, q3⟩ := q_coded hg hO h2'
    obtain ⟨x1, k1, k2⟩ := k_coded hO hR h2' gX
    have hm := q2.m.trans hg
    have hfl := ofr_le hO (show 1 ≤ tn (m 3) by omega)
    have H : ∃ c d, f_X12_lengthOf_L25 (nI w) g1 fu (nI 128, 0, 0) = some c ∧ f_X6_codeLength_L26 (nI w) x1 gS fu (nI 128, 0, 0) = some d ∧ d = .inr c := by
      refine lp_two (fun k a b => ∃ (cap : Nat) (f : Int32), a = (nI cap, f, nI k) ∧ b = (nI cap, f, nI k) ∧ cap ≤ 128 ∧ (k < tn (m 3) + 1 → cst (ofr m) (tn (m 3) - k) cap ≠ 2000000000)) (w + 1) (fun (c : Int32) (d : (Int32 × Pic) ⊕ Int32) => d = .inr c) ?_ ?_ (by have := fu_big; omega) (by have := fu_big; omega) ⟨128, 0, rfl, rfl, Nat.le_refl _, fun _ => cst_ok hfl (by omega) (by omega)⟩
      · rintro k hk _ _ ⟨cap, f, rfl, rfl, hc, hf⟩
        have nk : ¬ w < k := by omega
        obtain ⟨n, n7, s1, s2, s3, s4⟩ := e_short hm hO hR h2' (nI w) (show k < tn (m 3) by omega) hc q3 k2 (hf (by omega))
        obtain ⟨p1, p2, p3, p4⟩ := p7k (n + 1) (by omega) (by omega)
        refine Or.inl ⟨(nI (cap - 2 ^ (7 - (n + 1))), nI (n + 1), nI (k + 1)), (nI (cap - 2 ^ (7 - (n + 1))), nI (n + 1), nI (k + 1)), ⟨_, _, rfl, rfl, by omega, fun _ => s4⟩, fun r => ?_, fun r => ?_⟩
        · generalize 2 ^ (7 - (n + 1)) = P at *
          have e : (1 : Int32) <<< ((7 - nI (n + 1)) &&& 31) = nI P := by rw [← p1, li_7, nI_sub (by omega)]
          simp (disch := omega) only [bd_s, bd2_s, bd3_s, bd4_s, bd5_s, bd6_s, bd7_s, bd8_s, lr_l, lr_r, nm_s, jn_s, gdb_0, gdb_1, nI_ltI, nI_sub, nI_1, nk, if_false, s1, e]
        · generalize 2 ^ (7 - (n + 1)) = P at *
          simp (disch := omega) only [bd_s, bd2_s, bd3_s, bd4_s, bd5_s, bd6_s, bd7_s, bd8_s, lr_l, lr_r, nm_s, jn_s, gdb_0, gdb_1, li_128, nI_ltI, nI_sub, nI_1, nk, if_false, s2, p2, nI_0le, if_true]
      · rintro _ _ ⟨cap, f, rfl, rfl, hc, hf⟩
        refine ⟨f, .inr f, rfl, fun r => ?_, fun r => ?_⟩
        · simp (disch := omega) only [bd_s, bd2_s, bd3_s, bd4_s, bd5_s, bd6_s, bd7_s, bd8_s, lr_l, lr_r, nm_s, jn_s, gdb_0, gdb_1, li_2, li_3, li_4, li_5, li_6, li_7, li_8, li_9, li_10, li_11, li_12, li_13, li_14, li_15, li_16, li_20, li_24, li_32, li_40, li_41, li_43, li_48, li_57, li_59, li_60, li_62, li_63, li_76, li_96, li_97, li_99, li_100, li_104, li_116, li_122, li_128, li_129, li_216, li_217, li_218, li_219, li_239, li_240, li_255, li_256, li_257, li_400, li_456, li_856, li_999, li_1000, li_1001, li_1002, li_1003, li_1004, li_1005, li_1006, li_1007, li_1008, li_1161, li_2000, li_2001, li_2002, li_2003, li_2004, li_2005, li_5016, li_5472, li_9999, li_10000, li_32767, li_1000000, li_2000000000, nI_add, nI_mul, nI_sub, nI_clamp, nI_leI, nI_ltI, nI_eq, gdi_n, nI_1, nI_eq0, nI_eq1, nI_le0, nI_le1, nI_0le, nI_lt0, nI_0lt, nI_m1, Int32.add_zero, Nat.le_refl, if_true, if_false, Bool.false_eq_true, Bool.true_eq_false, i10, i01, im0, im1, i0m, i1m, l10, l00, l01, t10, t00, Nat.lt_succ_self]
          done
        · simp (disch := omega) only [bd_s, bd2_s, bd3_s, bd4_s, bd5_s, bd6_s, bd7_s, bd8_s, lr_l, lr_r, nm_s, jn_s, gdb_0, gdb_1, li_2, li_3, li_4, li_5, li_6, li_7, li_8, li_9, li_10, li_11, li_12, li_13, li_14, li_15, li_16, li_20, li_24, li_32, li_40, li_41, li_43, li_48, li_57, li_59, li_60, li_62, li_63, li_76, li_96, li_97, li_99, li_100, li_104, li_116, li_122, li_128, li_129, li_216, li_217, li_218, li_219, li_239, li_240, li_255, li_256, li_257, li_400, li_456, li_856, li_999, li_1000, li_1001, li_1002, li_1003, li_1004, li_1005, li_1006, li_1007, li_1008, li_1161, li_2000, li_2001, li_2002, li_2003, li_2004, li_2005, li_5016, li_5472, li_9999, li_10000, li_32767, li_1000000, li_2000000000, nI_add, nI_mul, nI_sub, nI_clamp, nI_leI, nI_ltI, nI_eq, gdi_n, nI_1, nI_eq0, nI_eq1, nI_le0, nI_le1, nI_0le, nI_lt0, nI_0lt, nI_m1, Int32.add_zero, Nat.le_refl, if_true, if_false, Bool.false_eq_true, Bool.true_eq_false, i10, i01, im0, im1, i0m, i1m, l10, l00, l01, t10, t00, Nat.lt_succ_self]
          done
    obtain ⟨c, d, r1, r2, rfl⟩ := H
    have n2 : ¬ W < 2 := by omega
    refine ⟨c, g1, x1, ?_, q2, ?_⟩
    · simp (disch := omega) only [bd_s, bd2_s, bd3_s, bd4_s, bd5_s, bd6_s, bd7_s, bd8_s, lr_l, lr_r, nm_s, jn_s, gdb_0, gdb_1, li_2, li_3, li_4, li_5, li_6, li_7, li_8, li_9, li_10, li_11, li_12, li_13, li_14, li_15, li_16, li_20, li_24, li_32, li_40, li_41, li_43, li_48, li_57, li_59, li_60, li_62, li_63, li_76, li_96, li_97, li_99, li_100, li_104, li_116, li_122, li_128, li_129, li_216, li_217, li_218, li_219, li_239, li_240, li_255, li_256, li_257, li_400, li_456, li_856, li_999, li_1000, li_1001, li_1002, li_1003, li_1004, li_1005, li_1006, li_1007, li_1008, li_1161, li_2000, li_2001, li_2002, li_2003, li_2004, li_2005, li_5016, li_5472, li_9999, li_10000, li_32767, li_1000000, li_2000000000, nI_add, nI_mul, nI_sub, nI_clamp, nI_leI, nI_ltI, nI_eq, gdi_n, nI_1, nI_eq0, nI_eq1, nI_le0, nI_le1, nI_0le, nI_lt0, nI_0lt, nI_m1, Int32.add_zero, Nat.le_refl, if_true, if_false, Bool.false_eq_true, Bool.true_eq_false, i10, i01, im0, im1, i0m, i1m, l10, l00, l01, t10, t00, hg, hW, h2, q1, r1]
    · simp (disch := omega) only [bd_s, bd2_s, bd3_s, bd4_s, bd5_s, bd6_s, bd7_s, bd8_s, lr_l, lr_r, nm_s, jn_s, gdb_0, gdb_1, li_2, li_3, li_4, li_5, li_6, li_7, li_8, li_9, li_10, li_11, li_12, li_13, li_14, li_15, li_16, li_20, li_24, li_32, li_40, li_41, li_43, li_48, li_57, li_59, li_60, li_62, li_63, li_76, li_96, li_97, li_99, li_100, li_104, li_116, li_122, li_128, li_129, li_216, li_217, li_218, li_219, li_239, li_240, li_255, li_256, li_257, li_400, li_456, li_856, li_999, li_1000, li_1001, li_1002, li_1003, li_1004, li_1005, li_1006, li_1007, li_1008, li_1161, li_2000, li_2001, li_2002, li_2003, li_2004, li_2005, li_5016, li_5472, li_9999, li_10000, li_32767, li_1000000, li_2000000000, nI_add, nI_mul, nI_sub, nI_clamp, nI_leI, nI_ltI, nI_eq, gdi_n, nI_1, nI_eq0, nI_eq1, nI_le0, nI_le1, nI_0le, nI_lt0, nI_0lt, nI_m1, Int32.add_zero, Nat.le_refl, if_true, if_false, Bool.false_eq_true, Bool.true_eq_false, i10, i01, im0, im1, i0m, i1m, l10, l00, l01, t10, t00, gw, h2, k1, r2]
  · refine ⟨0, g, gX, ?_, Es.rf g, ?_⟩
    · simp (disch := omega) only [bd_s, bd2_s, bd3_s, bd4_s, bd5_s, bd6_s, bd7_s, bd8_s, lr_l, lr_r, nm_s, jn_s, gdb_0, gdb_1, li_2, li_3, li_4, li_5, li_6, li_7, li_8, li_9, li_10, li_11, li_12, li_13, li_14, li_15, li_16, li_20, li_24, li_32, li_40, li_41, li_43, li_48, li_57, li_59, li_60, li_62, li_63, li_76, li_96, li_97, li_99, li_100, li_104, li_116, li_122, li_128, li_129, li_216, li_217, li_218, li_219, li_239, li_240, li_255, li_256, li_257, li_400, li_456, li_856, li_999, li_1000, li_1001, li_1002, li_1003, li_1004, li_1005, li_1006, li_1007, li_1008, li_1161, li_2000, li_2001, li_2002, li_2003, li_2004, li_2005, li_5016, li_5472, li_9999, li_10000, li_32767, li_1000000, li_2000000000, nI_add, nI_mul, nI_sub, nI_clamp, nI_leI, nI_ltI, nI_eq, gdi_n, nI_1, nI_eq0, nI_eq1, nI_le0, nI_le1, nI_0le, nI_lt0, nI_0lt, nI_m1, Int32.add_zero, Nat.le_refl, if_true, if_false, Bool.false_eq_true, Bool.true_eq_false, i10, i01, im0, im1, i0m, i1m, l10, l00, l01, t10, t00, hg, hW, h2]
    · simp (disch := omega) only [bd_s, bd2_s, bd3_s, bd4_s, bd5_s, bd6_s, bd7_s, bd8_s, lr_l, lr_r, nm_s, jn_s, gdb_0, gdb_1, li_2, li_3, li_4, li_5, li_6, li_7, li_8, li_9, li_10, li_11, li_12, li_13, li_14, li_15, li_16, li_20, li_24, li_32, li_40, li_41, li_43, li_48, li_57, li_59, li_60, li_62, li_63, li_76, li_96, li_97, li_99, li_100, li_104, li_116, li_122, li_128, li_129, li_216, li_217, li_218, li_219, li_239, li_240, li_255, li_256, li_257, li_400, li_456, li_856, li_999, li_1000, li_1001, li_1002, li_1003, li_1004, li_1005, li_1006, li_1007, li_1008, li_1161, li_2000, li_2001, li_2002, li_2003, li_2004, li_2005, li_5016, li_5472, li_9999, li_10000, li_32767, li_1000000, li_2000000000, nI_add, nI_mul, nI_sub, nI_clamp, nI_leI, nI_ltI, nI_eq, gdi_n, nI_1, nI_eq0, nI_eq1, nI_le0, nI_le1, nI_0le, nI_lt0, nI_0lt, nI_m1, Int32.add_zero, Nat.le_refl, if_true, if_false, Bool.false_eq_true, Bool.true_eq_false, i10, i01, im0, im1, i0m, i1m, l10, l00, l01, t10, t00, gw, h2]
theorem e_codes (hg : g 1 = m) (hO : Ok m) (hR : RS gS gL m) (gX : Pic) : ∃ v g' h', f_X12_codes g = some (v, g') ∧ Es (pu g 0 0 0) g' ∧ f_X6_codesTogether gX gS = some (v, h') := by
  obtain ⟨W, hW, tW, -, w8⟩ := hO.W.ex
  have gw := hR.W.trans hW
  unfold f_X12_codes f_X6_codesTogether
  have e1 : (pu g 0 0 0) 1 = m := hg
  by_cases h2 : 2 ≤ W
  · have h2' : 2 ≤ tn (m 3) := by rw [tW]; exact h2
    obtain ⟨g1, q1, q2, q3⟩ := q_coded (g := pu g 0 0 0) e1 hO h2'
    obtain ⟨x1, k1, k2⟩ := k_coded hO hR h2' gX
    have hfl := ofr_le hO (show 1 ≤ tn (m 3) by omega)
    have a := q3 (tn (m 3)) 128 (Nat.le_refl _) (by omega)
    have b := k2 (tn (m 3)) 128 (Nat.le_refl _) (by omega)
    rw [Nat.sub_self] at a b
    have nf := cst_ok hfl (show tn (m 3) ≤ 8 by omega) (show tn (m 3) ≤ 128 by omega)
    rw [show kx (cst (ofr m) (tn (m 3)) 128) = cst (ofr m) (tn (m 3)) 128 from if_neg nf] at b
    generalize cst (ofr m) (tn (m 3)) 128 = V at a b
    refine ⟨nI V, g1, x1, ?_, q2, ?_⟩
    · simp (disch := omega) only [bd_s, bd2_s, bd3_s, bd4_s, bd5_s, bd6_s, bd7_s, bd8_s, lr_l, lr_r, nm_s, jn_s, gdb_0, gdb_1, li_2, li_3, li_4, li_5, li_6, li_7, li_8, li_9, li_10, li_11, li_12, li_13, li_14, li_15, li_16, li_20, li_24, li_32, li_40, li_41, li_43, li_48, li_57, li_59, li_60, li_62, li_63, li_76, li_96, li_97, li_99, li_100, li_104, li_116, li_122, li_128, li_129, li_216, li_217, li_218, li_219, li_239, li_240, li_255, li_256, li_257, li_400, li_456, li_856, li_999, li_1000, li_1001, li_1002, li_1003, li_1004, li_1005, li_1006, li_1007, li_1008, li_1161, li_2000, li_2001, li_2002, li_2003, li_2004, li_2005, li_5016, li_5472, li_9999, li_10000, li_32767, li_1000000, li_2000000000, nI_add, nI_mul, nI_sub, nI_clamp, nI_leI, nI_ltI, nI_eq, gdi_n, nI_1, nI_eq0, nI_eq1, nI_le0, nI_le1, nI_0le, nI_lt0, nI_0lt, nI_m1, Int32.add_zero, Nat.le_refl, if_true, if_false, Bool.false_eq_true, Bool.true_eq_false, i10, i01, im0, im1, i0m, i1m, l10, l00, l01, t10, t00, e1, hW, h2, q1]
      exact congrArg some (Prod.ext a rfl)
    · simp (disch := omega) only [bd_s, bd2_s, bd3_s, bd4_s, bd5_s, bd6_s, bd7_s, bd8_s, lr_l, lr_r, nm_s, jn_s, gdb_0, gdb_1, li_2, li_3, li_4, li_5, li_6, li_7, li_8, li_9, li_10, li_11, li_12, li_13, li_14, li_15, li_16, li_20, li_24, li_32, li_40, li_41, li_43, li_48, li_57, li_59, li_60, li_62, li_63, li_76, li_96, li_97, li_99, li_100, li_104, li_116, li_122, li_128, li_129, li_216, li_217, li_218, li_219, li_239, li_240, li_255, li_256, li_257, li_400, li_456, li_856, li_999, li_1000, li_1001, li_1002, li_1003, li_1004, li_1005, li_1006, li_1007, li_1008, li_1161, li_2000, li_2001, li_2002, li_2003, li_2004, li_2005, li_5016, li_5472, li_9999, li_10000, li_32767, li_1000000, li_2000000000, nI_add, nI_mul, nI_sub, nI_clamp, nI_leI, nI_ltI, nI_eq, gdi_n, nI_1, nI_eq0, nI_eq1, nI_le0, nI_le1, nI_0le, nI_lt0, nI_0lt, nI_m1, Int32.add_zero, Nat.le_refl, if_true, if_false, Bool.false_eq_true, Bool.true_eq_false, i10, i01, im0, im1, i0m, i1m, l10, l00, l01, t10, t00, gw, h2, k1]
      exact congrArg some (Prod.ext b rfl)
  · refine ⟨0, pu g 0 0 0, gX, ?_, Es.rf _, ?_⟩
    · simp (disch := omega) only [bd_s, bd2_s, bd3_s, bd4_s, bd5_s, bd6_s, bd7_s, bd8_s, lr_l, lr_r, nm_s, jn_s, gdb_0, gdb_1, li_2, li_3, li_4, li_5, li_6, li_7, li_8, li_9, li_10, li_11, li_12, li_13, li_14, li_15, li_16, li_20, li_24, li_32, li_40, li_41, li_43, li_48, li_57, li_59, li_60, li_62, li_63, li_76, li_96, li_97, li_99, li_100, li_104, li_116, li_122, li_128, li_129, li_216, li_217, li_218, li_219, li_239, li_240, li_255, li_256, li_257, li_400, li_456, li_856, li_999, li_1000, li_1001, li_1002, li_1003, li_1004, li_1005, li_1006, li_1007, li_1008, li_1161, li_2000, li_2001, li_2002, li_2003, li_2004, li_2005, li_5016, li_5472, li_9999, li_10000, li_32767, li_1000000, li_2000000000, nI_add, nI_mul, nI_sub, nI_clamp, nI_leI, nI_ltI, nI_eq, gdi_n, nI_1, nI_eq0, nI_eq1, nI_le0, nI_le1, nI_0le, nI_lt0, nI_0lt, nI_m1, Int32.add_zero, Nat.le_refl, if_true, if_false, Bool.false_eq_true, Bool.true_eq_false, i10, i01, im0, im1, i0m, i1m, l10, l00, l01, t10, t00, e1, hW, h2]
    · simp (disch := omega) only [bd_s, bd2_s, bd3_s, bd4_s, bd5_s, bd6_s, bd7_s, bd8_s, lr_l, lr_r, nm_s, jn_s, gdb_0, gdb_1, li_2, li_3, li_4, li_5, li_6, li_7, li_8, li_9, li_10, li_11, li_12, li_13, li_14, li_15, li_16, li_20, li_24, li_32, li_40, li_41, li_43, li_48, li_57, li_59, li_60, li_62, li_63, li_76, li_96, li_97, li_99, li_100, li_104, li_116, li_122, li_128, li_129, li_216, li_217, li_218, li_219, li_239, li_240, li_255, li_256, li_257, li_400, li_456, li_856, li_999, li_1000, li_1001, li_1002, li_1003, li_1004, li_1005, li_1006, li_1007, li_1008, li_1161, li_2000, li_2001, li_2002, li_2003, li_2004, li_2005, li_5016, li_5472, li_9999, li_10000, li_32767, li_1000000, li_2000000000, nI_add, nI_mul, nI_sub, nI_clamp, nI_leI, nI_ltI, nI_eq, gdi_n, nI_1, nI_eq0, nI_eq1, nI_le0, nI_le1, nI_0le, nI_lt0, nI_0lt, nI_m1, Int32.add_zero, Nat.le_refl, if_true, if_false, Bool.false_eq_true, Bool.true_eq_false, i10, i01, im0, im1, i0m, i1m, l10, l00, l01, t10, t00, gw, h2]
end K8
