section K14
variable {m : Nat → Int32} {g gS gL gH gC gP h x : Pic}
/-- whom a writer of a set may be with -/
def Mt (m : Nat → Int32) (T : Nat → Nat) (U s u o : Nat) : Prop := u < o ∧ o < U ∧ bt (nI s) o = true ∧ apN m u o + T (clr (clr s u) o) = T s
def Wi (m : Nat → Int32) (T : Nat → Nat) (U s u : Nat) (r : Int32) : Prop := (T (clr s u) = T s ∧ r = -1) ∨ (T (clr s u) ≠ T s ∧ ((r = -1 ∧ ∀ o, ¬ Mt m T U s u o) ∨ ∃ o, r = nI o ∧ Mt m T U s u o ∧ ∀ o', o' < o → ¬ Mt m T U s u o'))
theorem Wi.un {T : Nat → Nat} {U s u : Nat} {r r' : Int32} (h : Wi m T U s u r) (h' : Wi m T U s u r') : r = r' := by
  rcases h with ⟨a, rfl⟩ | ⟨a, ⟨rfl, b⟩ | ⟨o, rfl, b, c⟩⟩ <;> rcases h' with ⟨a', rfl⟩ | ⟨a', ⟨rfl, b'⟩ | ⟨o', rfl, b', c'⟩⟩
  · rfl
  · rfl
  · exact absurd a a'
  · rfl
  · rfl
  · exact absurd b' (b o')
  · exact absurd a' a
  · exact absurd b (b' o)
  · rcases Nat.lt_trichotomy o o' with z | z | z
    · exact absurd b (c' o z)
    · rw [z]
    · exact absurd b' (c o' z)
theorem q_with (hg : g 1 = m) (hO : Ok m) {T : Nat → Nat} {U s u : Nat} (hU : m 4 = nI U) (u5 : U ≤ 5) (hs : s < 2 ^ U) (hu : u < U) (hb : bt (nI s) u = true) (hT : ∀ t, t < 2 ^ U → g 23 t = nI (T t)) (hB : ∀ t, t < 2 ^ U → T t ≤ 8 * t) (one : Int32) : ∃ r, f_X12_pairs_L89 one (nI s) (nI u) (nI (clr s u)) g fu (-1, nI U - 1) = some r ∧ Wi m T U s u r := by
  obtain ⟨p1, p2, p3⟩ := pw_f U (by omega)
  obtain ⟨c1, c2, c3, c4, c5⟩ := clr_f s (by omega) u (by omega)
  have tU : tn (m 4) = U := by rw [hU]; exact tn_n (by omega)
  have e1 := hT (clr s u) (by omega)
  have e2 := hT s hs
  have b1 := hB (clr s u) (by omega)
  have b2 := hB s hs
  refine lp_inv (fun i a => ∃ r : Int32, a = (r, nI (U - 1 - i)) ∧ ((T (clr s u) = T s ∧ r = -1) ∨ (T (clr s u) ≠ T s ∧ ((r = -1 ∧ ∀ o, U - 1 - i < o → ¬ Mt m T U s u o) ∨ ∃ o, r = nI o ∧ Mt m T U s u o ∧ U - 1 - i < o ∧ ∀ o', U - 1 - i < o' → o' < o → ¬ Mt m T U s u o')))) (U - 1 - u) (fun r : Int32 => Wi m T U s u r) ?_ ?_ (by have := fu_big; omega) ⟨-1, by rw [nI_s1 (by omega)]; rfl, ?_⟩
  · rintro i hi _ ⟨r, rfl, hr⟩
    have ni : ¬ U - 1 - i ≤ u := by omega
    obtain ⟨d1, d2, d3, d4, -⟩ := clr_f (clr s u) (by omega) (U - 1 - i) (by omega)
    have e3 := hT (clr (clr s u) (U - 1 - i)) (by omega)
    have b3 := hB (clr (clr s u) (U - 1 - i)) (by omega)
    have ap8 : apN m u (U - 1 - i) ≤ 8 := pop_le _
    have apq := q_apN hg hO (u := u) (o := U - 1 - i) (by omega) (by omega)
    have b5 := c5 (U - 1 - i) (by omega)
    rw [show decide (U - 1 - i = u) = false from decide_eq_false (by omega)] at b5
    have b5 : bt (nI (clr s u)) (U - 1 - i) = bt (nI s) (U - 1 - i) := by rw [b5]; simp
    have e9 : nI (U - 1 - i) + (-1) = nI (U - 1 - (i + 1)) := by
      rw [← Int32.sub_eq_add_neg, nI_s1 (by omega)]
      congr 1
    rcases hr with ⟨hq, rfl⟩ | ⟨hq, hr⟩
    · refine Or.inr ⟨-1, Or.inl ⟨hq, rfl⟩, fun r => ?_⟩
      simp (disch := omega) only [bd_s, bd2_s, bd3_s, bd4_s, bd5_s, bd6_s, bd7_s, bd8_s, lr_l, lr_r, nm_s, jn_s, gdb_0, gdb_1, li_2, li_3, li_4, li_5, li_6, li_7, li_8, li_9, li_10, li_11, li_12, li_13, li_14, li_15, li_16, li_20, li_24, li_32, li_40, li_41, li_43, li_48, li_57, li_59, li_60, li_62, li_63, li_76, li_96, li_97, li_99, li_100, li_104, li_116, li_122, li_128, li_129, li_216, li_217, li_218, li_219, li_239, li_240, li_255, li_256, li_257, li_400, li_456, li_856, li_999, li_1000, li_1001, li_1002, li_1003, li_1004, li_1005, li_1006, li_1007, li_1008, li_1161, li_2000, li_2001, li_2002, li_2003, li_2004, li_2005, li_5016, li_5472, li_9999, li_10000, li_32767, li_1000000, li_2000000000, nI_add, nI_mul, nI_sub, nI_clamp, nI_leI, nI_ltI, nI_eq, gdi_n, nI_1, nI_eq0, nI_eq1, nI_le0, nI_le1, nI_0le, nI_lt0, nI_0lt, nI_m1, Int32.add_zero, Nat.le_refl, if_true, if_false, Bool.false_eq_true, Bool.true_eq_false, i10, i01, im0, im1, i0m, i1m, l10, l00, l01, t10, t00, ni, e1, e2, hq]
    · -- what is found at this one
      by_cases hm : Mt m T U s u (U - 1 - i)
      · refine Or.inl ⟨(nI (U - 1 - i), nI (U - 1 - (i + 1))), ⟨_, rfl, Or.inr ⟨hq, Or.inr ⟨U - 1 - i, rfl, hm, by omega, fun o' h1 h2 => by omega⟩⟩⟩, fun r => ?_⟩
        have hm4 := hm.2.2.2
        simp (disch := omega) only [bd_s, bd2_s, bd3_s, bd4_s, bd5_s, bd6_s, bd7_s, bd8_s, lr_l, lr_r, nm_s, jn_s, gdb_0, gdb_1, nI_leI, ni, if_false, gdi_n, nI_clamp, e1, e2, nI_eq, hq, q_isOf, b5, hm.2.2.1, if_true, i10, apq, d1, e3, nI_add, hm4, e9]
      · have key : ∀ r' : Int32 × Int32 → Option Int32, (bd (f_X12_isOf (nI (clr s u)) (nI (U - 1 - i))) (fun r_9 => (if r_9 = 0 then r' (r, nI (U - 1 - (i + 1))) else bd (f_X12_apart g (nI u) (nI (U - 1 - i))) (fun r_11 => gdi (nI (clr s u) &&& (((1 : Int32) <<< (nI (U - 1 - i) &&& 31)) ^^^ (-1))) 32 (gdi (nI s) 32 ((if (r_11 + (g 23 ((nI (clr s u) &&& (((1 : Int32) <<< (nI (U - 1 - i) &&& 31)) ^^^ (-1))).toNatClampNeg))) = nI (T s) then r' (nI (U - 1 - i), nI (U - 1 - (i + 1))) else r' (r, nI (U - 1 - (i + 1)))))))))) = r' (r, nI (U - 1 - (i + 1))) := by
          intro r'
          cases bo : bt (nI s) (U - 1 - i) with
          | false => simp (disch := omega) only [bd_s, bd2_s, bd3_s, bd4_s, bd5_s, bd6_s, bd7_s, bd8_s, lr_l, lr_r, nm_s, jn_s, gdb_0, gdb_1, q_isOf, b5, bo, Bool.false_eq_true, if_false, if_true]
          | true =>
            have ne : ¬ apN m u (U - 1 - i) + T (clr (clr s u) (U - 1 - i)) = T s := fun z => hm ⟨by omega, by omega, bo, z⟩
            simp (disch := omega) only [bd_s, bd2_s, bd3_s, bd4_s, bd5_s, bd6_s, bd7_s, bd8_s, lr_l, lr_r, nm_s, jn_s, gdb_0, gdb_1, q_isOf, b5, bo, if_true, i10, if_false, apq, d1, gdi_n, nI_clamp, e3, nI_add, nI_eq, ne]
        refine Or.inl ⟨(r, nI (U - 1 - (i + 1))), ⟨_, rfl, Or.inr ⟨hq, ?_⟩⟩, fun r' => ?_⟩
        · rcases hr with ⟨h1, h2⟩ | ⟨o, h1, h2, h3, h4⟩
          · refine Or.inl ⟨h1, fun o ho => ?_⟩
            by_cases z : U - 1 - i < o
            · exact h2 o z
            · rw [show o = U - 1 - i by omega]; exact hm
          · refine Or.inr ⟨o, h1, h2, by omega, fun o' q1 q2 => ?_⟩
            by_cases z : U - 1 - i < o'
            · exact h4 o' z q2
            · rw [show o' = U - 1 - i by omega]; exact hm
        · refine Eq.trans ?_ (key r')
          simp (disch := omega) only [bd_s, bd2_s, bd3_s, bd4_s, bd5_s, bd6_s, bd7_s, bd8_s, lr_l, lr_r, nm_s, jn_s, gdb_0, gdb_1, nI_leI, ni, if_false, gdi_n, nI_clamp, e1, e2, nI_eq, hq, e9]
  · rintro _ ⟨r, rfl, hr⟩
    refine ⟨r, ?_, fun r' => ?_⟩
    · rcases hr with hq | ⟨hq, ⟨h1, h2⟩ | ⟨o, h1, h2, h3, h4⟩⟩
      · exact Or.inl hq
      · exact Or.inr ⟨hq, Or.inl ⟨h1, fun o ho => h2 o (by have := ho.1; omega) ho⟩⟩
      · exact Or.inr ⟨hq, Or.inr ⟨o, h1, h2, fun o' q1 q2 => h4 o' (by have := q2.1; omega) q1 q2⟩⟩
    · have ni : U - 1 - (U - 1 - u) ≤ u := by omega
      simp (disch := omega) only [bd_s, bd2_s, bd3_s, bd4_s, bd5_s, bd6_s, bd7_s, bd8_s, lr_l, lr_r, nm_s, jn_s, gdb_0, gdb_1, li_2, li_3, li_4, li_5, li_6, li_7, li_8, li_9, li_10, li_11, li_12, li_13, li_14, li_15, li_16, li_20, li_24, li_32, li_40, li_41, li_43, li_48, li_57, li_59, li_60, li_62, li_63, li_76, li_96, li_97, li_99, li_100, li_104, li_116, li_122, li_128, li_129, li_216, li_217, li_218, li_219, li_239, li_240, li_255, li_256, li_257, li_400, li_456, li_856, li_999, li_1000, li_1001, li_1002, li_1003, li_1004, li_1005, li_1006, li_1007, li_1008, li_1161, li_2000, li_2001, li_2002, li_2003, li_2004, li_2005, li_5016, li_5472, li_9999, li_10000, li_32767, li_1000000, li_2000000000, nI_add, nI_mul, nI_sub, nI_clamp, nI_leI, nI_ltI, nI_eq, gdi_n, nI_1, nI_eq0, nI_eq1, nI_le0, nI_le1, nI_0le, nI_lt0, nI_0lt, nI_m1, Int32.add_zero, Nat.le_refl, if_true, if_false, Bool.false_eq_true, Bool.true_eq_false, i10, i01, im0, im1, i0m, i1m, l10, l00, l01, t10, t00, ni]
  · by_cases q : T (clr s u) = T s
    · exact Or.inl ⟨q, rfl⟩
    · exact Or.inr ⟨q, Or.inl ⟨rfl, fun o ho hm => by have := hm.2.1; omega⟩⟩
theorem k_partner (hO : Ok m) (hR : RS gS gL m) {T : Nat → Nat} {U s u : Nat} (hU : m 4 = nI U) (u5 : U ≤ 5) (hs : s < 2 ^ U) (hu : u < U) (hb : bt (nI s) u = true) (hT : ∀ t, t < 2 ^ U → x 3 t = nI (T t)) (hB : ∀ t, t < 2 ^ U → T t ≤ 8 * t) (gH : Pic) : ∃ r, f_X8_partnerIn x gH gS (nI s) (nI u) = some r ∧ Wi m T U s u r := by
  obtain ⟨p1, p2, p3⟩ := pw_f U (by omega)
  obtain ⟨c1, c2, c3, c4, c5⟩ := clr_f s (by omega) u (by omega)
  have tU : tn (m 4) = U := by rw [hU]; exact tn_n (by omega)
  have gu := hR.U.trans hU
  have e1 := hT (clr s u) (by omega)
  have e2 := hT s hs
  have b1 := hB (clr s u) (by omega)
  have b2 := hB s hs
  unfold f_X8_partnerIn
  by_cases hq : T (clr s u) = T s
  · refine ⟨-1, ?_, Or.inl ⟨hq, rfl⟩⟩
    simp (disch := omega) only [bd_s, bd2_s, bd3_s, bd4_s, bd5_s, bd6_s, bd7_s, bd8_s, lr_l, lr_r, nm_s, jn_s, gdb_0, gdb_1, c1, gdi_n, nI_clamp, e1, e2, hq, if_true]
  · have hq' : ¬ T s = T (clr s u) := fun z => hq z.symm
    have H : ∃ c, f_X8_partnerIn_L27 (nI s) (nI u) x gH gS fu (nI (u + 1)) = some c ∧ ((c = .inr () ∧ ∀ o, ¬ Mt m T U s u o) ∨ ∃ o, c = .inl (nI o) ∧ Mt m T U s u o ∧ ∀ o', o' < o → ¬ Mt m T U s u o') := by
      refine lp_inv (fun i a => a = nI (u + 1 + i) ∧ ∀ o', o' < u + 1 + i → ¬ Mt m T U s u o') (U - (u + 1)) (fun c : Int32 ⊕ Unit => ((c = .inr () ∧ ∀ o, ¬ Mt m T U s u o) ∨ ∃ o, c = .inl (nI o) ∧ Mt m T U s u o ∧ ∀ o', o' < o → ¬ Mt m T U s u o')) ?_ ?_ (by have := fu_big; omega) ⟨rfl, fun o' h1 h2 => by have := h2.1; omega⟩
      · rintro i hi _ ⟨rfl, hp⟩
        have ni : ¬ U ≤ u + 1 + i := by omega
        obtain ⟨d1, d2, d3, d4, -⟩ := clr_f (clr s u) (by omega) (u + 1 + i) (by omega)
        have e3 := hT (clr (clr s u) (u + 1 + i)) (by omega)
        have b3 := hB (clr (clr s u) (u + 1 + i)) (by omega)
        have ap8 : apN m u (u + 1 + i) ≤ 8 := pop_le _
        have w := k_with (gH := gH) hO hR (show s < 32 by omega) (show u < tn (m 4) by omega) (show u + 1 + i < tn (m 4) by omega) e3
        by_cases hm : Mt m T U s u (u + 1 + i)
        · rw [hm.2.2.1, if_pos rfl, hm.2.2.2] at w
          refine Or.inr ⟨.inl (nI (u + 1 + i)), Or.inr ⟨u + 1 + i, rfl, hm, hp⟩, fun r => ?_⟩
          simp (disch := omega) only [bd_s, bd2_s, bd3_s, bd4_s, bd5_s, bd6_s, bd7_s, bd8_s, lr_l, lr_r, nm_s, jn_s, gdb_0, gdb_1, gu, nI_leI, ni, if_false, gdi_n, nI_clamp, w, e2, if_true]
        · refine Or.inl ⟨nI (u + 1 + i + 1), ⟨rfl, fun o' h1 => ?_⟩, fun r => ?_⟩
          · by_cases z : o' < u + 1 + i
            · exact hp o' z
            · rw [show o' = u + 1 + i by omega]; exact hm
          · cases bo : bt (nI s) (u + 1 + i) with
            | false =>
              rw [bo] at w
              simp (disch := omega) only [bd_s, bd2_s, bd3_s, bd4_s, bd5_s, bd6_s, bd7_s, bd8_s, lr_l, lr_r, nm_s, jn_s, gdb_0, gdb_1, gu, nI_leI, ni, if_false, gdi_n, nI_clamp, w, e2, Bool.false_eq_true, nI_m1, nI_1]
            | true =>
              rw [bo, if_pos rfl] at w
              have ne : ¬ T s = apN m u (u + 1 + i) + T (clr (clr s u) (u + 1 + i)) := fun z => hm ⟨by omega, by omega, bo, z.symm⟩
              simp (disch := omega) only [bd_s, bd2_s, bd3_s, bd4_s, bd5_s, bd6_s, bd7_s, bd8_s, lr_l, lr_r, nm_s, jn_s, gdb_0, gdb_1, gu, nI_leI, ni, if_false, gdi_n, nI_clamp, w, e2, nI_eq, ne, nI_1]
      · rintro _ ⟨rfl, hp⟩
        have ni : U ≤ u + 1 + (U - (u + 1)) := by omega
        refine ⟨.inr (), Or.inl ⟨rfl, fun o ho => hp o (by have := ho.2.1; omega) ho⟩, fun r => ?_⟩
        simp (disch := omega) only [bd_s, bd2_s, bd3_s, bd4_s, bd5_s, bd6_s, bd7_s, bd8_s, lr_l, lr_r, nm_s, jn_s, gdb_0, gdb_1, li_2, li_3, li_4, li_5, li_6, li_7, li_8, li_9, li_10, li_11, li_12, li_13, li_14, li_15, li_16, li_20, li_24, li_32, li_40, li_41, li_43, li_48, li_57, li_59, li_60, li_62, li_63, li_76, li_96, li_97, li_99, li_100, li_104, li_116, li_122, li_128, li_129, li_216, li_217, li_218, li_219, li_239, li_240, li_255, li_256, li_257, li_400, li_456, li_856, li_999, li_1000, li_1001, li_1002, li_1003, li_1004, li_1005, li_1006, li_1007, li_1008, li_1161, li_2000, li_2001, li_2002, li_2003, li_2004, li_2005, li_5016, li_5472, li_9999, li_10000, li_32767, li_1000000, li_2000000000, nI_add, nI_mul, nI_sub, nI_clamp, nI_leI, nI_ltI, nI_eq, gdi_n, nI_1, nI_eq0, nI_eq1, nI_le0, nI_le1, nI_0le, nI_lt0, nI_0lt, nI_m1, Int32.add_zero, Nat.le_refl, if_true, if_false, Bool.false_eq_true, Bool.true_eq_false, i10, i01, im0, im1, i0m, i1m, l10, l00, l01, t10, t00, gu, ni]
    obtain ⟨c, h1, ⟨rfl, h2⟩ | ⟨o, rfl, h2, h3⟩⟩ := H
    · refine ⟨-1, ?_, Or.inr ⟨hq, Or.inl ⟨rfl, h2⟩⟩⟩
      simp (disch := omega) only [bd_s, bd2_s, bd3_s, bd4_s, bd5_s, bd6_s, bd7_s, bd8_s, lr_l, lr_r, nm_s, jn_s, gdb_0, gdb_1, c1, gdi_n, nI_clamp, e1, e2, nI_eq, hq', if_false, nI_1, h1]
    · refine ⟨nI o, ?_, Or.inr ⟨hq, Or.inr ⟨o, rfl, h2, h3⟩⟩⟩
      simp (disch := omega) only [bd_s, bd2_s, bd3_s, bd4_s, bd5_s, bd6_s, bd7_s, bd8_s, lr_l, lr_r, nm_s, jn_s, gdb_0, gdb_1, c1, gdi_n, nI_clamp, e1, e2, nI_eq, hq', if_false, nI_1, h1]
theorem e_part (hg : g 1 = m) (hO : Ok m) (hR : RS gS gL m) {T : Nat → Nat} {U : Nat} (hU : m 4 = nI U) (u5 : U ≤ 5) (hT : ∀ t, t < 2 ^ U → g 23 t = nI (T t)) (hB : ∀ t, t < 2 ^ U → T t ≤ 8 * t) (gH : Pic) {one : Nat} (h1 : one < U) (p : Int32) :
    ∀ j k s (x : Pic), k + j = U → s < 2 ^ U → (∀ i, i < k → bt (nI s) i = false) → (∀ t, t < 2 ^ U → x 3 t = nI (T t)) → ∀ N, j < N → ∀ M, j < M → ∃ x', f_X8_partnerOf_L22 p gH gS N (nI s, nI k, x) = some x' ∧ (bt (nI s) one = false → x' 4 one = x 4 one) ∧ (bt (nI s) one = true → x 4 one = -1 → f_X12_pairs_L58 (nI one) g M (nI s) = some (.inl (x' 4 one, g))) := by
  obtain ⟨p1, p2, p3⟩ := pw_f U (by omega)
  have gu := hR.U.trans hU
  have stC : ∀ N (x2 x3 : Int32) (g0 : Pic), f_X8_partnerOf_L22 p gH gS (N + 1) (x2, x3, g0) = (if (gS 7 0) ≤ x3 then some g0 else jn (fun (x2_J89 : Int32) (g0_J89 : Pic) => nm (x3 + 1) (fun x3_3 => f_X8_partnerOf_L22 p gH gS N (x2_J89, x3_3, g0_J89))) (fun J89 => (if ((x2 >>> (x3 &&& 31)) &&& 1) = 1 then bd (f_X8_partnerIn g0 gH gS x2 x3) (fun r_4 => nm ((x2 &&& (((1 : Int32) <<< (x3 &&& 31)) ^^^ (-1)))) (fun x2_5 => (if r_4 = (-1) then J89 x2_5 g0 else gdi x3 5 (nm (pu g0 4 (x3.toNatClampNeg) r_4) (fun g0_7 => gdi r_4 5 (nm (pu g0_7 4 (r_4.toNatClampNeg) x3) (fun g0_9 => nm ((x2_5 &&& (((1 : Int32) <<< (r_4 &&& 31)) ^^^ (-1)))) (fun x2_10 => J89 x2_10 g0_9)))))))) else J89 x2 g0))) := fun _ _ _ _ => rfl
  have stR : ∀ M (x2 : Int32), f_X12_pairs_L58 (nI one) g (M + 1) x2 = (if x2 = 0 then some (.inr ()) else bd (f_X12_lowest x2) (fun r_4 => nm ((x2 &&& (((1 : Int32) <<< (r_4 &&& 31)) ^^^ (-1)))) (fun x4_5 => nm (((g 1 4) - 1)) (fun x6_6 => bd (f_X12_pairs_L89 (nI one) x2 r_4 x4_5 g fu ((-1), x6_6)) (fun x5_14 => (if r_4 = nI one then some (.inl (x5_14, g)) else (if x5_14 = nI one then some (.inl (r_4, g)) else jn (fun (s0_J198 : Int32) => f_X12_pairs_L58 (nI one) g M s0_J198) (fun J198 => (if x5_14 = (-1) then J198 x4_5 else J198 (x4_5 &&& (((1 : Int32) <<< (x5_14 &&& 31)) ^^^ (-1))))))))))) ) := fun _ _ => rfl
  intro j
  induction j with
  | zero =>
    intro k s x hk hs hz hx N hN M hM
    obtain ⟨N, rfl⟩ : ∃ n, N = n + 1 := ⟨N - 1, by omega⟩
    refine ⟨x, ?_, fun _ => rfl, fun q _ => ?_⟩
    · rw [stC, gu, if_pos (nI_le (by omega) (by omega))]
    · rw [hz one (by omega)] at q; cases q
  | succ j ih =>
    intro k s x hk hs hz hx N hN M hM
    obtain ⟨N, rfl⟩ : ∃ n, N = n + 1 := ⟨N - 1, by omega⟩
    obtain ⟨M, rfl⟩ : ∃ n, M = n + 1 := ⟨M - 1, by omega⟩
    have nk : ¬ U ≤ k := by omega
    have bk : ((nI s >>> (nI k &&& 31)) &&& 1 = 1) = (bt (nI s) k = true) := bt_1 (by omega)
    cases bo : bt (nI s) k with
    | false =>
      obtain ⟨x', q1, q2, q3⟩ := ih (k + 1) s x (by omega) hs (fun i hi => by
        rcases Nat.lt_succ_iff_lt_or_eq.mp hi with z | z
        · exact hz i z
        · rw [z]; exact bo) hx N (by omega) (M + 1) (by omega)
      refine ⟨x', ?_, q2, q3⟩
      rw [stC]
      simp (disch := omega) only [bd_s, bd2_s, bd3_s, bd4_s, bd5_s, bd6_s, bd7_s, bd8_s, lr_l, lr_r, nm_s, jn_s, gdb_0, gdb_1, gu, nI_leI, nk, if_false, bk, bo, Bool.false_eq_true, nI_1, q1]
    | true =>
      have s1 : 1 ≤ s := by
        rcases Nat.eq_zero_or_pos s with z | z
        · rw [z, nI_0, b_0] at bo; cases bo
        · exact z
      obtain ⟨l1, l2, l3, l5, l4, l6⟩ := low_f s (by omega) s1
      have lk : low s = k := by
        rcases Nat.lt_trichotomy (low s) k with z | z | z
        · rw [hz _ z] at l2; cases l2
        · exact z
        · rw [l4 k (by omega) z] at bo; cases bo
      rw [lk] at l6
      obtain ⟨r, w1, w2⟩ := q_with hg hO hU u5 hs (show k < U by omega) bo hT hB (nI one)
      obtain ⟨r', v1, v2⟩ := k_partner hO hR hU u5 hs (show k < U by omega) bo hx hB gH
      have er := w2.un v2
      subst er
      obtain ⟨c1, c2, c3, c4, c5⟩ := clr_f s (by omega) k (by omega)
      have ns : ¬ nI s = 0 := nI_ne0 (by omega) (by omega)
      have kone : (nI k = nI one) = (k = one) := propext (nI_eq (by omega) (by omega))
      have z1 : ∀ i, i < k + 1 → bt (nI (clr s k)) i = false := fun i hi => by
        rw [c5 i (by omega)]
        rcases Nat.lt_succ_iff_lt_or_eq.mp hi with z | z
        · rw [hz i z]; rfl
        · rw [z]; simp
      by_cases rm : r = -1
      · obtain ⟨x', q1, q2, q3⟩ := ih (k + 1) (clr s k) x (by omega) (by omega) z1 hx N (by omega) M (by omega)
        refine ⟨x', ?_, fun q => ?_, fun q hx4 => ?_⟩
        · rw [stC]
          simp (disch := omega) only [bd_s, bd2_s, bd3_s, bd4_s, bd5_s, bd6_s, bd7_s, bd8_s, lr_l, lr_r, nm_s, jn_s, gdb_0, gdb_1, gu, nI_leI, nk, if_false, bk, bo, if_true, v1, c1, rm, nI_1, q1]
        · refine q2 ?_
          rw [c5 one (by omega), q]; rfl
        · rw [stR]
          by_cases e : k = one
          · have b6 : bt (nI (clr s k)) one = false := by rw [c5 one (by omega), show decide (one = k) = true from decide_eq_true e.symm]; simp
            have e4 := q2 b6
            simp (disch := omega) only [bd_s, bd2_s, bd3_s, bd4_s, bd5_s, bd6_s, bd7_s, bd8_s, lr_l, lr_r, nm_s, jn_s, gdb_0, gdb_1, ns, if_false, l6, c1, hg, hU, w1, kone, eq_true e, if_true]
            rw [e4, hx4, rm]
          · have b6 : bt (nI (clr s k)) one = true := by rw [c5 one (by omega), q, show decide (one = k) = false from decide_eq_false (fun z => e z.symm)]; rfl
            have e4 := q3 b6 hx4
            have ro : ¬ (-1 : Int32) = nI one := fun z => by rw [eq_comm, nI_m1 (by omega)] at z; exact z
            rw [rm] at w1
            simp (disch := omega) only [bd_s, bd2_s, bd3_s, bd4_s, bd5_s, bd6_s, bd7_s, bd8_s, lr_l, lr_r, nm_s, jn_s, gdb_0, gdb_1, ns, if_false, l6, c1, hg, hU, w1, kone, e, ro, if_true, e4]
      · have hM2 : ∃ o, r = nI o ∧ k < o ∧ o < U ∧ bt (nI s) o = true := by
          rcases w2 with ⟨-, z⟩ | ⟨-, ⟨z, -⟩ | ⟨o, z, h2, -⟩⟩
          · exact absurd z rm
          · exact absurd z rm
          · exact ⟨o, z, h2.1, h2.2.1, h2.2.2.1⟩
        obtain ⟨o, rfl, ko, oU, bto⟩ := hM2
        obtain ⟨d1, d2, d3, d4, d5⟩ := clr_f (clr s k) (by omega) o (by omega)
        have xt : ∀ t, t < 2 ^ U → (pu (pu x 4 k (nI o)) 4 o (nI k)) 3 t = nI (T t) := fun t ht => by rw [pu_o (by decide), pu_o (by decide)]; exact hx t ht
        obtain ⟨x', q1, q2, q3⟩ := ih (k + 1) (clr (clr s k) o) (pu (pu x 4 k (nI o)) 4 o (nI k)) (by omega) (by omega) (fun i hi => by rw [d5 i (by omega), z1 i hi]; rfl) xt N (by omega) M (by omega)
        have bd2' : bt (nI (clr (clr s k) o)) one = (bt (nI s) one && !decide (one = k) && !decide (one = o)) := by rw [d5 one (by omega), c5 one (by omega)]
        have xone : (pu (pu x 4 k (nI o)) 4 o (nI k)) 4 one = if one = o then nI k else if one = k then nI o else x 4 one := by rw [pu_s, pu_s]
        refine ⟨x', ?_, fun q => ?_, fun q hx4 => ?_⟩
        · rw [stC]
          simp (disch := omega) only [bd_s, bd2_s, bd3_s, bd4_s, bd5_s, bd6_s, bd7_s, bd8_s, lr_l, lr_r, nm_s, jn_s, gdb_0, gdb_1, gu, nI_leI, nk, if_false, bk, bo, if_true, v1, c1, rm, gdi_n, nI_clamp, d1, nI_1, q1]
        · rw [q2 (by rw [bd2', q]; rfl), xone, if_neg (fun z => by rw [z, bto] at q; cases q), if_neg (fun z => by rw [z, bo] at q; cases q)]
        · rw [stR]
          have oone : (nI o = nI one) = (o = one) := propext (nI_eq (by omega) (by omega))
          by_cases e : k = one
          · have e4 := q2 (by rw [bd2', show decide (one = k) = true from decide_eq_true e.symm]; simp)
            rw [xone, if_neg (by omega), if_pos e.symm] at e4
            simp (disch := omega) only [bd_s, bd2_s, bd3_s, bd4_s, bd5_s, bd6_s, bd7_s, bd8_s, lr_l, lr_r, nm_s, jn_s, gdb_0, gdb_1, ns, if_false, l6, c1, hg, hU, w1, kone, eq_true e, if_true]
            rw [e4]
          · by_cases e2 : o = one
            · have e4 := q2 (by rw [bd2', show decide (one = o) = true from decide_eq_true e2.symm]; simp)
              rw [xone, if_pos e2.symm] at e4
              simp (disch := omega) only [bd_s, bd2_s, bd3_s, bd4_s, bd5_s, bd6_s, bd7_s, bd8_s, lr_l, lr_r, nm_s, jn_s, gdb_0, gdb_1, ns, if_false, l6, c1, hg, hU, w1, kone, e, oone, eq_true e2, if_true]
              rw [e4]
            · have e4 := q3 (by rw [bd2', q, show decide (one = k) = false from decide_eq_false (fun z => e z.symm), show decide (one = o) = false from decide_eq_false (fun z => e2 z.symm)]; rfl) (by rw [xone, if_neg (fun z => e2 z.symm), if_neg (fun z => e z.symm)]; exact hx4)
              simp (disch := omega) only [bd_s, bd2_s, bd3_s, bd4_s, bd5_s, bd6_s, bd7_s, bd8_s, lr_l, lr_r, nm_s, jn_s, gdb_0, gdb_1, ns, if_false, l6, c1, hg, hU, w1, kone, e, oone, e2, rm, d1, e4]
end K14
