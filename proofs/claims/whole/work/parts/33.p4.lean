/-! numbers within bounds, asked in two ways -/
theorem mx_eq (a b : Int32) : (if a ≤ b then b else a) = if a < b then b else a := by
  by_cases h : a < b
  · rw [if_pos h, if_pos (by rw [Int32.lt_iff_toInt_lt] at h; rw [Int32.le_iff_toInt_le]; omega)]
  · rw [if_neg h]
    split
    · rename_i h2
      rw [Int32.lt_iff_toInt_lt] at h; rw [Int32.le_iff_toInt_le] at h2
      exact Int32.toInt_inj.mp (by omega)
    · rfl
theorem mn_eq (a b : Int32) : (if b ≤ a then b else a) = if b < a then b else a := by
  by_cases h : b < a
  · rw [if_pos h, if_pos (by rw [Int32.lt_iff_toInt_lt] at h; rw [Int32.le_iff_toInt_le]; omega)]
  · rw [if_neg h]
    split
    · rename_i h2
      rw [Int32.lt_iff_toInt_lt] at h; rw [Int32.le_iff_toInt_le] at h2
      exact Int32.toInt_inj.mp (by omega)
    · rfl
theorem nI_1lt {n : Nat} (h : n < 2 ^ 31) : (1 < nI n) = (1 < n) := propext (nI_ltI (a := 1) (by decide) h)
theorem below {x : Int32} {W : Nat} (h : W < 2 ^ 31) : (∃ j, j < W ∧ x = nI j) ∨ (x < 0 ∨ ¬ x < nI W) := by
  by_cases h0 : x < 0
  · exact Or.inr (Or.inl h0)
  · obtain ⟨j, hj, rfl⟩ := nI_of h0
    by_cases h1 : j < W
    · exact Or.inl ⟨j, h1, rfl⟩
    · exact Or.inr (Or.inr (fun q => h1 ((nI_ltI hj h).mp q)))
theorem pred_in {W j : Nat} (h : W < 2 ^ 31) (hj : j < W) : nI j ≤ nI W - 1 := by
  obtain ⟨n, rfl⟩ : ∃ n, W = n + 1 := ⟨W - 1, by omega⟩
  rw [nI_pred]
  exact nI_le (by omega) (by omega)
theorem pred_out {W : Nat} {x : Int32} (h : W < 2 ^ 31) (hx : x < 0 ∨ ¬ x < nI W) : ¬ (0 ≤ x ∧ x ≤ nI W - 1) := by
  rintro ⟨h1, h2⟩
  have h0 : ¬ x < 0 := by rw [Int32.lt_iff_toInt_lt]; rw [Int32.le_iff_toInt_le] at h1; omega
  rcases hx with q | q
  · exact h0 q
  · obtain ⟨j, hj, rfl⟩ := nI_of h0
    cases W with
    | zero =>
      have e : (nI 0 - 1 : Int32).toInt = -1 := by decide
      rw [Int32.le_iff_toInt_le, e, nI_toInt hj] at h2
      omega
    | succ n =>
      rw [nI_pred] at h2
      have := (nI_leI hj (by omega)).mp h2
      exact q ((nI_ltI hj h).mpr (by omega))
theorem among {x : Int32} {lo hi : Nat} (h : hi < 2 ^ 31) (hl : lo ≤ hi) : (∃ j, lo ≤ j ∧ j ≤ hi ∧ x = nI j) ∨ (x < nI lo ∨ ¬ x ≤ nI hi) := by
  by_cases h0 : x < nI lo
  · exact Or.inr (Or.inl h0)
  · have h1 : ¬ x < 0 := fun q => h0 (by
      have a := nI_toInt (n := lo) (by omega)
      rw [Int32.lt_iff_toInt_lt] at q
      have b : (0 : Int32).toInt = 0 := by decide
      rw [Int32.lt_iff_toInt_lt]
      omega)
    obtain ⟨j, hj, rfl⟩ := nI_of h1
    have h2 : lo ≤ j := by
      rcases Nat.lt_or_ge j lo with q | q
      · exact absurd ((nI_ltI hj (by omega)).mpr q) h0
      · exact q
    by_cases h3 : j ≤ hi
    · exact Or.inl ⟨j, h2, h3, rfl⟩
    · exact Or.inr (Or.inr (fun q => h3 ((nI_leI hj h).mp q)))
theorem among_out {x : Int32} {lo hi : Nat} (h : x < nI lo ∨ ¬ x ≤ nI hi) : ¬ (nI lo ≤ x ∧ x ≤ nI hi) := by
  rintro ⟨h1, h2⟩
  rcases h with q | q
  · rw [Int32.lt_iff_toInt_lt] at q; rw [Int32.le_iff_toInt_le] at h1; omega
  · exact q h2
section K4
variable {m : Nat → Int32} {g gS gL gH gC gP : Pic}
/-- a number that both test -/
theorem e_num (x : Int32) {lo hi : Nat} (h : hi < 2 ^ 31) (hl : lo ≤ hi) : (∃ j, lo ≤ j ∧ j ≤ hi ∧ x = nI j ∧ f_X12_isIn x (nI lo) (nI hi) = some 1 ∧ f_X11_needNumber gP x (nI lo) (nI hi) = some (.inr ())) ∨ (f_X12_isIn x (nI lo) (nI hi) = some 0 ∧ f_X11_needNumber gP x (nI lo) (nI hi) = some (.inl (1, ()))) := by
  unfold f_X11_needNumber
  rw [q_isIn]
  rcases among (x := x) h hl with ⟨j, h1, h2, rfl⟩ | q
  · refine Or.inl ⟨j, h1, h2, rfl, ?_, ?_⟩
    · rw [if_pos ⟨nI_le h1 (by omega), nI_le h2 h⟩]
    · simp only [jn_s]
      rw [if_neg (nI_nlt h1 (by omega)), if_pos (nI_le h2 h)]
  · refine Or.inr ⟨by rw [if_neg (among_out q)], ?_⟩
    simp only [jn_s]
    by_cases c : x < nI lo
    · rw [if_pos c]
    · rw [if_neg c, if_neg (q.resolve_left c)]
theorem e_word (hO : Ok (g 1)) (hR : RS gS gL (g 1)) (x : Int32) : (∃ w, w < tn (g 1 3) ∧ x = nI w ∧ f_X12_isWord g x = some 1 ∧ f_X11_needWord gP gS x = some (.inr ())) ∨ (f_X12_isWord g x = some 0 ∧ f_X11_needWord gP gS x = some (.inl (0, ()))) := by
  obtain ⟨W, hW, tW, -, w8⟩ := hO.W.ex
  unfold f_X11_needWord f_X12_isWord
  rw [q_isIn, hR.W, hW, tn_n (by omega)]
  rcases below (x := x) (W := W) (by omega) with ⟨j, h1, rfl⟩ | q
  · refine Or.inl ⟨j, h1, rfl, ?_, ?_⟩
    · rw [if_pos ⟨nI_pos' (by omega), pred_in (by omega) h1⟩]; rfl
    · simp only [jn_s]
      rw [if_neg (nI_pos (by omega)), if_pos (nI_lt h1 (by omega))]
  · refine Or.inr ⟨by rw [if_neg (pred_out (by omega) q)]; rfl, ?_⟩
    simp only [jn_s]
    by_cases c : x < 0
    · rw [if_pos c]
    · rw [if_neg c, if_neg (q.resolve_left c)]
theorem e_writer (hO : Ok (g 1)) (hR : RS gS gL (g 1)) (x : Int32) : (∃ u, u < tn (g 1 4) ∧ x = nI u ∧ f_X12_isWriter g x = some 1 ∧ f_X11_needWriter gP gS x = some (.inr ())) ∨ (f_X12_isWriter g x = some 0 ∧ f_X11_needWriter gP gS x = some (.inl (0, ()))) := by
  obtain ⟨W, hW, tW, -, w8⟩ := hO.U.ex
  unfold f_X11_needWriter f_X12_isWriter
  rw [q_isIn, hR.U, hW, tn_n (by omega)]
  rcases below (x := x) (W := W) (by omega) with ⟨j, h1, rfl⟩ | q
  · refine Or.inl ⟨j, h1, rfl, ?_, ?_⟩
    · rw [if_pos ⟨nI_pos' (by omega), pred_in (by omega) h1⟩]; rfl
    · simp only [jn_s]
      rw [if_neg (nI_pos (by omega)), if_pos (nI_lt h1 (by omega))]
  · refine Or.inr ⟨by rw [if_neg (pred_out (by omega) q)]; rfl, ?_⟩
    simp only [jn_s]
    by_cases c : x < 0
    · rw [if_pos c]
    · rw [if_neg c, if_neg (q.resolve_left c)]
/-! times -/
theorem e_times (hO : Ok (g 1)) (hR : RS gS gL (g 1)) {u : Nat} (hu : u < tn (g 1 4)) (t : Int32) (gC gH : Pic) : ∃ lag now gC' gH', (∀ x, f_X12_times g (nI u) t x = some (if x = 0 then lag else now)) ∧ f_X8_lagOf gC gH gS (nI u) t = some (lag, gC', gH') ∧ gC' 5 0 = now := by
  have u5 := hO.u5 hu
  obtain ⟨S, hS, tS, -, s20⟩ := hO.S.ex
  obtain ⟨v, hv, tv, v1, v9⟩ := (hO.speed hu).ex
  have gv := (hR.speed hu).trans hv
  have gl := hR.leaves hu
  obtain ⟨hd, h1, hH⟩ := k_take hO hR gH (wr (g 1) u 0)
  have gs := hR.S.trans hS
  have e3 : (if (1 : Int32) < gS 9 u then gS 9 u else 1) = nI v := by
    rw [gv]
    simp only [nI_1lt (show v < 2 ^ 31 by omega)]
    split
    · rfl
    · rw [show v = 1 by omega]; rfl
  have qo0 := q_of (g := g) (k := 0) u5 (by omega)
  have qo1 := q_of (g := g) (k := 1) u5 (by omega)
  have H : ∃ c d, f_X12_times_L9 (nI u) t 0 g fu (0, 0, 0) = some c ∧ f_X8_lagOf_L45 t (nI v) hd gS fu (0, 0, pu gC 5 0 0) = some d ∧ ∃ now lag h, c = (now, lag) ∧ d = (lag, h) ∧ h 5 0 = now := by
    refine lp_two (fun k a b => ∃ (now lag : Int32) (h : Pic), a = (now, lag, nI k) ∧ b = (lag, nI k, h) ∧ h 5 0 = now) S (fun c d => ∃ (now lag : Int32) (h : Pic), c = (now, lag) ∧ d = (lag, h) ∧ h 5 0 = now) ?_ ?_ (by have := fu_big; omega) (by have := fu_big; omega) ⟨0, 0, pu gC 5 0 0, rfl, rfl, rfl⟩
    · rintro k hk _ _ ⟨now, lag, h, rfl, rfl, h5⟩
      have nk : ¬ S ≤ k := by omega
      have hk' : k < tn (g 1 5) := by rw [tS]; exact hk
      obtain ⟨hsp, hsw⟩ := hO.sp hk'
      obtain ⟨w, hw, tw, -, w7⟩ := hsp.ex
      have gw := (hR.sp hk').trans hw
      rw [tw] at hsw
      refine Or.inl ⟨((if now < nI k * t then nI k * t else now) + (nI (kl (g 1) w (wr (g 1) u 0)).length + nI v - 1) / nI v, (if lag < (if now < nI k * t then nI k * t else now) - nI k * t then (if now < nI k * t then nI k * t else now) - nI k * t else lag), nI (k + 1)), ((if lag < (if now < nI k * t then nI k * t else now) - nI k * t then (if now < nI k * t then nI k * t else now) - nI k * t else lag), nI (k + 1), pu h 5 0 ((if now < nI k * t then nI k * t else now) + (nI (kl (g 1) w (wr (g 1) u 0)).length + nI v - 1) / nI v)), ⟨_, _, _, rfl, rfl, rfl⟩, fun r => ?_, fun r => ?_⟩
      · rw [nI_0] at qo0
        simp (disch := omega) only [bd_s, bd2_s, bd3_s, bd4_s, bd5_s, bd6_s, bd7_s, bd8_s, lr_l, lr_r, nm_s, jn_s, gdb_0, gdb_1, li_76, nI_add, gdi_n, nI_clamp, nI_leI, nI_1, hS, nk, if_false, q_greater, mx_eq, hw, q_strokes hO hsw, hv, gdz_n, qo0, show f_X12_of g (nI u) 1 = some (wr (g 1) u 1) from qo1]
      · simp (disch := omega) only [bd_s, bd2_s, bd3_s, bd4_s, bd5_s, bd6_s, bd7_s, bd8_s, lr_l, lr_r, nm_s, jn_s, gdb_0, gdb_1, gdi_n, nI_clamp, nI_leI, nI_add, nI_1, gs, nk, if_false, gw, h5, (hH.2 w hsw).2.1, gdz_n]
    · rintro _ _ ⟨now, lag, h, rfl, rfl, h5⟩
      refine ⟨(now, lag), (lag, h), ⟨_, _, _, rfl, rfl, h5⟩, fun r => ?_, fun r => ?_⟩
      · simp (disch := omega) only [bd_s, bd2_s, bd3_s, bd4_s, bd5_s, bd6_s, bd7_s, bd8_s, lr_l, lr_r, nm_s, jn_s, gdb_0, gdb_1, li_2, li_3, li_4, li_5, li_6, li_7, li_8, li_9, li_10, li_11, li_12, li_13, li_14, li_15, li_16, li_20, li_24, li_32, li_40, li_41, li_43, li_48, li_57, li_59, li_60, li_62, li_63, li_76, li_96, li_97, li_99, li_100, li_104, li_116, li_122, li_128, li_129, li_216, li_217, li_218, li_219, li_239, li_240, li_255, li_256, li_257, li_400, li_456, li_856, li_999, li_1000, li_1001, li_1002, li_1003, li_1004, li_1005, li_1006, li_1007, li_1008, li_1161, li_2000, li_2001, li_2002, li_2003, li_2004, li_2005, li_5016, li_5472, li_9999, li_10000, li_32767, li_1000000, li_2000000000, nI_add, nI_mul, nI_sub, nI_clamp, nI_leI, nI_ltI, nI_eq, gdi_n, nI_1, nI_eq0, nI_eq1, nI_le0, nI_le1, nI_0le, nI_lt0, nI_0lt, nI_m1, Int32.add_zero, Nat.le_refl, if_true, if_false, Bool.false_eq_true, Bool.true_eq_false, i10, i01, im0, im1, i0m, i1m, l10, l00, l01, t10, t00, hS]
        done
      · simp (disch := omega) only [bd_s, bd2_s, bd3_s, bd4_s, bd5_s, bd6_s, bd7_s, bd8_s, lr_l, lr_r, nm_s, jn_s, gdb_0, gdb_1, li_2, li_3, li_4, li_5, li_6, li_7, li_8, li_9, li_10, li_11, li_12, li_13, li_14, li_15, li_16, li_20, li_24, li_32, li_40, li_41, li_43, li_48, li_57, li_59, li_60, li_62, li_63, li_76, li_96, li_97, li_99, li_100, li_104, li_116, li_122, li_128, li_129, li_216, li_217, li_218, li_219, li_239, li_240, li_255, li_256, li_257, li_400, li_456, li_856, li_999, li_1000, li_1001, li_1002, li_1003, li_1004, li_1005, li_1006, li_1007, li_1008, li_1161, li_2000, li_2001, li_2002, li_2003, li_2004, li_2005, li_5016, li_5472, li_9999, li_10000, li_32767, li_1000000, li_2000000000, nI_add, nI_mul, nI_sub, nI_clamp, nI_leI, nI_ltI, nI_eq, gdi_n, nI_1, nI_eq0, nI_eq1, nI_le0, nI_le1, nI_0le, nI_lt0, nI_0lt, nI_m1, Int32.add_zero, Nat.le_refl, if_true, if_false, Bool.false_eq_true, Bool.true_eq_false, i10, i01, im0, im1, i0m, i1m, l10, l00, l01, t10, t00, gs]
        done
  obtain ⟨c, d, q1, q2, now, lag, h, rfl, rfl, h5⟩ := H
  refine ⟨lag, now, h, hd, fun x => ?_, ?_, h5⟩
  · unfold f_X12_times
    rw [show f_X12_times_L9 (nI u) t x g fu (0, 0, 0) = some (now, lag) from q1]
    simp only [bd_s, jn_s]
    split <;> rfl
  · unfold f_X8_lagOf
    simp (disch := omega) only [bd_s, bd2_s, bd3_s, bd4_s, bd5_s, bd6_s, bd7_s, bd8_s, lr_l, lr_r, nm_s, jn_s, gdb_0, gdb_1, gdi_n, nI_clamp, gl, h1, e3, q2]
theorem e_edge (hO : Ok (g 1)) (hR : RS gS gL (g 1)) {u : Nat} (hu : u < tn (g 1 4)) (gC gH : Pic) : ∃ v gC' gH', f_X12_edgeOf g (nI u) = some v ∧ f_X8_edgeOf gC gH gS (nI u) = some (v, gC', gH') := by
  have H : ∃ c d, f_X12_edgeOf_L2 (nI u) g fu 1 = some c ∧ f_X8_edgeOf_L2 (nI u) gS fu (1, gC, gH) = some d ∧ ((c = .inr () ∧ ∃ x y, d = .inr (x, y)) ∨ ∃ v x y, c = .inl v ∧ d = .inl (v, x, y)) := by
    refine lp_two (fun k a b => ∃ (x y : Pic), a = nI (k + 1) ∧ b = (nI (k + 1), x, y)) 9 (fun (c : Int32 ⊕ Unit) (d : (Int32 × Pic × Pic) ⊕ (Pic × Pic)) => ((c = .inr () ∧ ∃ x y, d = .inr (x, y)) ∨ ∃ v x y, c = .inl v ∧ d = .inl (v, x, y))) ?_ ?_ (by have := fu_big; omega) (by have := fu_big; omega) ⟨gC, gH, rfl, rfl⟩
    · rintro k hk _ _ ⟨x, y, rfl, rfl⟩
      obtain ⟨lag, now, x', y', h1, h2, -⟩ := e_times hO hR hu (nI (k + 1)) x y
      have nk : ¬ 10 ≤ k + 1 := by omega
      have nk2 : ¬ 9 < k + 1 := by omega
      have h1 := h1 0
      by_cases e : lag = 0
      · refine Or.inr ⟨.inl (nI (k + 1)), .inl (nI (k + 1), x', y'), Or.inr ⟨_, _, _, rfl, rfl⟩, fun r => ?_, fun r => ?_⟩
        · simp (disch := omega) only [bd_s, bd2_s, bd3_s, bd4_s, bd5_s, bd6_s, bd7_s, bd8_s, lr_l, lr_r, nm_s, jn_s, gdb_0, gdb_1, li_2, li_3, li_4, li_5, li_6, li_7, li_8, li_9, li_10, li_11, li_12, li_13, li_14, li_15, li_16, li_20, li_24, li_32, li_40, li_41, li_43, li_48, li_57, li_59, li_60, li_62, li_63, li_76, li_96, li_97, li_99, li_100, li_104, li_116, li_122, li_128, li_129, li_216, li_217, li_218, li_219, li_239, li_240, li_255, li_256, li_257, li_400, li_456, li_856, li_999, li_1000, li_1001, li_1002, li_1003, li_1004, li_1005, li_1006, li_1007, li_1008, li_1161, li_2000, li_2001, li_2002, li_2003, li_2004, li_2005, li_5016, li_5472, li_9999, li_10000, li_32767, li_1000000, li_2000000000, nI_add, nI_mul, nI_sub, nI_clamp, nI_leI, nI_ltI, nI_eq, gdi_n, nI_1, nI_eq0, nI_eq1, nI_le0, nI_le1, nI_0le, nI_lt0, nI_0lt, nI_m1, Int32.add_zero, Nat.le_refl, if_true, if_false, Bool.false_eq_true, Bool.true_eq_false, i10, i01, im0, im1, i0m, i1m, l10, l00, l01, t10, t00, h1, nk, e]
        · simp (disch := omega) only [bd_s, bd2_s, bd3_s, bd4_s, bd5_s, bd6_s, bd7_s, bd8_s, lr_l, lr_r, nm_s, jn_s, gdb_0, gdb_1, li_2, li_3, li_4, li_5, li_6, li_7, li_8, li_9, li_10, li_11, li_12, li_13, li_14, li_15, li_16, li_20, li_24, li_32, li_40, li_41, li_43, li_48, li_57, li_59, li_60, li_62, li_63, li_76, li_96, li_97, li_99, li_100, li_104, li_116, li_122, li_128, li_129, li_216, li_217, li_218, li_219, li_239, li_240, li_255, li_256, li_257, li_400, li_456, li_856, li_999, li_1000, li_1001, li_1002, li_1003, li_1004, li_1005, li_1006, li_1007, li_1008, li_1161, li_2000, li_2001, li_2002, li_2003, li_2004, li_2005, li_5016, li_5472, li_9999, li_10000, li_32767, li_1000000, li_2000000000, nI_add, nI_mul, nI_sub, nI_clamp, nI_leI, nI_ltI, nI_eq, gdi_n, nI_1, nI_eq0, nI_eq1, nI_le0, nI_le1, nI_0le, nI_lt0, nI_0lt, nI_m1, Int32.add_zero, Nat.le_refl, if_true, if_false, Bool.false_eq_true, Bool.true_eq_false, i10, i01, im0, im1, i0m, i1m, l10, l00, l01, t10, t00, h2, nk2, e]
      · refine Or.inl ⟨nI (k + 1 + 1), (nI (k + 1 + 1), x', y'), ⟨x', y', rfl, rfl⟩, fun r => ?_, fun r => ?_⟩
        · simp (disch := omega) only [bd_s, bd2_s, bd3_s, bd4_s, bd5_s, bd6_s, bd7_s, bd8_s, lr_l, lr_r, nm_s, jn_s, gdb_0, gdb_1, li_2, li_3, li_4, li_5, li_6, li_7, li_8, li_9, li_10, li_11, li_12, li_13, li_14, li_15, li_16, li_20, li_24, li_32, li_40, li_41, li_43, li_48, li_57, li_59, li_60, li_62, li_63, li_76, li_96, li_97, li_99, li_100, li_104, li_116, li_122, li_128, li_129, li_216, li_217, li_218, li_219, li_239, li_240, li_255, li_256, li_257, li_400, li_456, li_856, li_999, li_1000, li_1001, li_1002, li_1003, li_1004, li_1005, li_1006, li_1007, li_1008, li_1161, li_2000, li_2001, li_2002, li_2003, li_2004, li_2005, li_5016, li_5472, li_9999, li_10000, li_32767, li_1000000, li_2000000000, nI_add, nI_mul, nI_sub, nI_clamp, nI_leI, nI_ltI, nI_eq, gdi_n, nI_1, nI_eq0, nI_eq1, nI_le0, nI_le1, nI_0le, nI_lt0, nI_0lt, nI_m1, Int32.add_zero, Nat.le_refl, if_true, if_false, Bool.false_eq_true, Bool.true_eq_false, i10, i01, im0, im1, i0m, i1m, l10, l00, l01, t10, t00, h1, nk, e]
        · simp (disch := omega) only [bd_s, bd2_s, bd3_s, bd4_s, bd5_s, bd6_s, bd7_s, bd8_s, lr_l, lr_r, nm_s, jn_s, gdb_0, gdb_1, li_2, li_3, li_4, li_5, li_6, li_7, li_8, li_9, li_10, li_11, li_12, li_13, li_14, li_15, li_16, li_20, li_24, li_32, li_40, li_41, li_43, li_48, li_57, li_59, li_60, li_62, li_63, li_76, li_96, li_97, li_99, li_100, li_104, li_116, li_122, li_128, li_129, li_216, li_217, li_218, li_219, li_239, li_240, li_255, li_256, li_257, li_400, li_456, li_856, li_999, li_1000, li_1001, li_1002, li_1003, li_1004, li_1005, li_1006, li_1007, li_1008, li_1161, li_2000, li_2001, li_2002, li_2003, li_2004, li_2005, li_5016, li_5472, li_9999, li_10000, li_32767, li_1000000, li_2000000000, nI_add, nI_mul, nI_sub, nI_clamp, nI_leI, nI_ltI, nI_eq, gdi_n, nI_1, nI_eq0, nI_eq1, nI_le0, nI_le1, nI_0le, nI_lt0, nI_0lt, nI_m1, Int32.add_zero, Nat.le_refl, if_true, if_false, Bool.false_eq_true, Bool.true_eq_false, i10, i01, im0, im1, i0m, i1m, l10, l00, l01, t10, t00, h2, nk2, e]
    · rintro _ _ ⟨x, y, rfl, rfl⟩
      exact ⟨.inr (), .inr (x, y), Or.inl ⟨rfl, x, y, rfl⟩, fun r => rfl, fun r => rfl⟩
  obtain ⟨c, d, q1, q2, ⟨rfl, x, y, rfl⟩ | ⟨v, x, y, rfl, rfl⟩⟩ := H
  · exact ⟨-1, x, y, by unfold f_X12_edgeOf; rw [q1]; rfl, by unfold f_X8_edgeOf; rw [q2]; rfl⟩
  · exact ⟨v, x, y, by unfold f_X12_edgeOf; rw [q1]; rfl, by unfold f_X8_edgeOf; rw [q2]; rfl⟩
/-! pages -/
theorem k_onPage (hO : Ok m) (hR : RS gS gL m) {u k : Nat} (hu : u < tn (m 4)) (hk : k < 20) : f_X9_onPage gS (nI u) (nI k) = some (pg m u k) := by
  have u5 := hO.u5 hu
  unfold f_X9_onPage
  simp (disch := omega) only [bd_s, bd2_s, bd3_s, bd4_s, bd5_s, bd6_s, bd7_s, bd8_s, lr_l, lr_r, nm_s, jn_s, gdb_0, gdb_1, li_2, li_3, li_4, li_5, li_6, li_7, li_8, li_9, li_10, li_11, li_12, li_13, li_14, li_15, li_16, li_20, li_24, li_32, li_40, li_41, li_43, li_48, li_57, li_59, li_60, li_62, li_63, li_76, li_96, li_97, li_99, li_100, li_104, li_116, li_122, li_128, li_129, li_216, li_217, li_218, li_219, li_239, li_240, li_255, li_256, li_257, li_400, li_456, li_856, li_999, li_1000, li_1001, li_1002, li_1003, li_1004, li_1005, li_1006, li_1007, li_1008, li_1161, li_2000, li_2001, li_2002, li_2003, li_2004, li_2005, li_5016, li_5472, li_9999, li_10000, li_32767, li_1000000, li_2000000000, nI_add, nI_mul, nI_sub, nI_clamp, nI_leI, nI_ltI, nI_eq, gdi_n, nI_1, nI_eq0, nI_eq1, nI_le0, nI_le1, nI_0le, nI_lt0, nI_0lt, nI_m1, Int32.add_zero, Nat.le_refl, if_true, if_false, Bool.false_eq_true, Bool.true_eq_false, i10, i01, im0, im1, i0m, i1m, l10, l00, l01, t10, t00, hR.page hu hk]
theorem e_run (hO : Ok (g 1)) (hR : RS gS gL (g 1)) {u : Nat} (hu : u < tn (g 1 4)) (gC gH : Pic) : ∃ v, f_X12_runOf g (nI u) = some v ∧ f_X8_runOf gC gH gS (nI u) = some v := by
  have u5 := hO.u5 hu
  obtain ⟨S, hS, tS, -, s20⟩ := hO.D.ex
  have s2 := hO.S.2.2
  have gs := hR.D.trans hS
  have H : ∃ c d, f_X12_runOf_L7 (nI u) g fu (0, 0, 0) = some c ∧ f_X8_runOf_L7 (nI u) gC gH gS fu (0, 0, 0) = some d ∧ c = d := by
    refine lp_two (fun k a b => ∃ (x y : Int32), a = (x, y, nI k) ∧ b = (x, y, nI k)) S (fun c d => c = d) ?_ ?_ (by have := fu_big; omega) (by have := fu_big; omega) ⟨0, 0, rfl, rfl⟩
    · rintro k hk _ _ ⟨x, y, rfl, rfl⟩
      have nk : ¬ S ≤ k := by omega
      have e := k_onPage hO hR hu (show k < 20 by omega)
      have e2 := q_onPage (g := g) (w := u) (k := k) u5 (by omega)
      by_cases c : pg (g 1) u k = 1
      · refine Or.inl ⟨((if x < y + 1 then y + 1 else x), y + 1, nI (k + 1)), ((if x < y + 1 then y + 1 else x), y + 1, nI (k + 1)), ⟨_, _, rfl, rfl⟩, fun r => ?_, fun r => ?_⟩
        · simp (disch := omega) only [bd_s, bd2_s, bd3_s, bd4_s, bd5_s, bd6_s, bd7_s, bd8_s, lr_l, lr_r, nm_s, jn_s, gdb_0, gdb_1, li_2, li_3, li_4, li_5, li_6, li_7, li_8, li_9, li_10, li_11, li_12, li_13, li_14, li_15, li_16, li_20, li_24, li_32, li_40, li_41, li_43, li_48, li_57, li_59, li_60, li_62, li_63, li_76, li_96, li_97, li_99, li_100, li_104, li_116, li_122, li_128, li_129, li_216, li_217, li_218, li_219, li_239, li_240, li_255, li_256, li_257, li_400, li_456, li_856, li_999, li_1000, li_1001, li_1002, li_1003, li_1004, li_1005, li_1006, li_1007, li_1008, li_1161, li_2000, li_2001, li_2002, li_2003, li_2004, li_2005, li_5016, li_5472, li_9999, li_10000, li_32767, li_1000000, li_2000000000, nI_add, nI_mul, nI_sub, nI_clamp, nI_leI, nI_ltI, nI_eq, gdi_n, nI_1, nI_eq0, nI_eq1, nI_le0, nI_le1, nI_0le, nI_lt0, nI_0lt, nI_m1, Int32.add_zero, Nat.le_refl, if_true, if_false, Bool.false_eq_true, Bool.true_eq_false, i10, i01, im0, im1, i0m, i1m, l10, l00, l01, t10, t00, hS, nk, e2, c, q_greater, mx_eq]
        · simp (disch := omega) only [bd_s, bd2_s, bd3_s, bd4_s, bd5_s, bd6_s, bd7_s, bd8_s, lr_l, lr_r, nm_s, jn_s, gdb_0, gdb_1, li_2, li_3, li_4, li_5, li_6, li_7, li_8, li_9, li_10, li_11, li_12, li_13, li_14, li_15, li_16, li_20, li_24, li_32, li_40, li_41, li_43, li_48, li_57, li_59, li_60, li_62, li_63, li_76, li_96, li_97, li_99, li_100, li_104, li_116, li_122, li_128, li_129, li_216, li_217, li_218, li_219, li_239, li_240, li_255, li_256, li_257, li_400, li_456, li_856, li_999, li_1000, li_1001, li_1002, li_1003, li_1004, li_1005, li_1006, li_1007, li_1008, li_1161, li_2000, li_2001, li_2002, li_2003, li_2004, li_2005, li_5016, li_5472, li_9999, li_10000, li_32767, li_1000000, li_2000000000, nI_add, nI_mul, nI_sub, nI_clamp, nI_leI, nI_ltI, nI_eq, gdi_n, nI_1, nI_eq0, nI_eq1, nI_le0, nI_le1, nI_0le, nI_lt0, nI_0lt, nI_m1, Int32.add_zero, Nat.le_refl, if_true, if_false, Bool.false_eq_true, Bool.true_eq_false, i10, i01, im0, im1, i0m, i1m, l10, l00, l01, t10, t00, gs, nk, e, c]
      · refine Or.inl ⟨((if x < 0 then 0 else x), 0, nI (k + 1)), ((if x < 0 then 0 else x), 0, nI (k + 1)), ⟨_, _, rfl, rfl⟩, fun r => ?_, fun r => ?_⟩
        · simp (disch := omega) only [bd_s, bd2_s, bd3_s, bd4_s, bd5_s, bd6_s, bd7_s, bd8_s, lr_l, lr_r, nm_s, jn_s, gdb_0, gdb_1, li_2, li_3, li_4, li_5, li_6, li_7, li_8, li_9, li_10, li_11, li_12, li_13, li_14, li_15, li_16, li_20, li_24, li_32, li_40, li_41, li_43, li_48, li_57, li_59, li_60, li_62, li_63, li_76, li_96, li_97, li_99, li_100, li_104, li_116, li_122, li_128, li_129, li_216, li_217, li_218, li_219, li_239, li_240, li_255, li_256, li_257, li_400, li_456, li_856, li_999, li_1000, li_1001, li_1002, li_1003, li_1004, li_1005, li_1006, li_1007, li_1008, li_1161, li_2000, li_2001, li_2002, li_2003, li_2004, li_2005, li_5016, li_5472, li_9999, li_10000, li_32767, li_1000000, li_2000000000, nI_add, nI_mul, nI_sub, nI_clamp, nI_leI, nI_ltI, nI_eq, gdi_n, nI_1, nI_eq0, nI_eq1, nI_le0, nI_le1, nI_0le, nI_lt0, nI_0lt, nI_m1, Int32.add_zero, Nat.le_refl, if_true, if_false, Bool.false_eq_true, Bool.true_eq_false, i10, i01, im0, im1, i0m, i1m, l10, l00, l01, t10, t00, hS, nk, e2, c, q_greater, mx_eq]
        · simp (disch := omega) only [bd_s, bd2_s, bd3_s, bd4_s, bd5_s, bd6_s, bd7_s, bd8_s, lr_l, lr_r, nm_s, jn_s, gdb_0, gdb_1, li_2, li_3, li_4, li_5, li_6, li_7, li_8, li_9, li_10, li_11, li_12, li_13, li_14, li_15, li_16, li_20, li_24, li_32, li_40, li_41, li_43, li_48, li_57, li_59, li_60, li_62, li_63, li_76, li_96, li_97, li_99, li_100, li_104, li_116, li_122, li_128, li_129, li_216, li_217, li_218, li_219, li_239, li_240, li_255, li_256, li_257, li_400, li_456, li_856, li_999, li_1000, li_1001, li_1002, li_1003, li_1004, li_1005, li_1006, li_1007, li_1008, li_1161, li_2000, li_2001, li_2002, li_2003, li_2004, li_2005, li_5016, li_5472, li_9999, li_10000, li_32767, li_1000000, li_2000000000, nI_add, nI_mul, nI_sub, nI_clamp, nI_leI, nI_ltI, nI_eq, gdi_n, nI_1, nI_eq0, nI_eq1, nI_le0, nI_le1, nI_0le, nI_lt0, nI_0lt, nI_m1, Int32.add_zero, Nat.le_refl, if_true, if_false, Bool.false_eq_true, Bool.true_eq_false, i10, i01, im0, im1, i0m, i1m, l10, l00, l01, t10, t00, gs, nk, e, c]
    · rintro _ _ ⟨x, y, rfl, rfl⟩
      refine ⟨x, x, rfl, fun r => ?_, fun r => ?_⟩
      · simp (disch := omega) only [bd_s, bd2_s, bd3_s, bd4_s, bd5_s, bd6_s, bd7_s, bd8_s, lr_l, lr_r, nm_s, jn_s, gdb_0, gdb_1, li_2, li_3, li_4, li_5, li_6, li_7, li_8, li_9, li_10, li_11, li_12, li_13, li_14, li_15, li_16, li_20, li_24, li_32, li_40, li_41, li_43, li_48, li_57, li_59, li_60, li_62, li_63, li_76, li_96, li_97, li_99, li_100, li_104, li_116, li_122, li_128, li_129, li_216, li_217, li_218, li_219, li_239, li_240, li_255, li_256, li_257, li_400, li_456, li_856, li_999, li_1000, li_1001, li_1002, li_1003, li_1004, li_1005, li_1006, li_1007, li_1008, li_1161, li_2000, li_2001, li_2002, li_2003, li_2004, li_2005, li_5016, li_5472, li_9999, li_10000, li_32767, li_1000000, li_2000000000, nI_add, nI_mul, nI_sub, nI_clamp, nI_leI, nI_ltI, nI_eq, gdi_n, nI_1, nI_eq0, nI_eq1, nI_le0, nI_le1, nI_0le, nI_lt0, nI_0lt, nI_m1, Int32.add_zero, Nat.le_refl, if_true, if_false, Bool.false_eq_true, Bool.true_eq_false, i10, i01, im0, im1, i0m, i1m, l10, l00, l01, t10, t00, hS]
        done
      · simp (disch := omega) only [bd_s, bd2_s, bd3_s, bd4_s, bd5_s, bd6_s, bd7_s, bd8_s, lr_l, lr_r, nm_s, jn_s, gdb_0, gdb_1, li_2, li_3, li_4, li_5, li_6, li_7, li_8, li_9, li_10, li_11, li_12, li_13, li_14, li_15, li_16, li_20, li_24, li_32, li_40, li_41, li_43, li_48, li_57, li_59, li_60, li_62, li_63, li_76, li_96, li_97, li_99, li_100, li_104, li_116, li_122, li_128, li_129, li_216, li_217, li_218, li_219, li_239, li_240, li_255, li_256, li_257, li_400, li_456, li_856, li_999, li_1000, li_1001, li_1002, li_1003, li_1004, li_1005, li_1006, li_1007, li_1008, li_1161, li_2000, li_2001, li_2002, li_2003, li_2004, li_2005, li_5016, li_5472, li_9999, li_10000, li_32767, li_1000000, li_2000000000, nI_add, nI_mul, nI_sub, nI_clamp, nI_leI, nI_ltI, nI_eq, gdi_n, nI_1, nI_eq0, nI_eq1, nI_le0, nI_le1, nI_0le, nI_lt0, nI_0lt, nI_m1, Int32.add_zero, Nat.le_refl, if_true, if_false, Bool.false_eq_true, Bool.true_eq_false, i10, i01, im0, im1, i0m, i1m, l10, l00, l01, t10, t00, gs]
        done
  obtain ⟨c, d, q1, q2, rfl⟩ := H
  exact ⟨c, by unfold f_X12_runOf; rw [q1]; rfl, by unfold f_X8_runOf; rw [q2]; rfl⟩
theorem e_paged (hO : Ok (g 1)) (hR : RS gS gL (g 1)) {u : Nat} (hu : u < tn (g 1 4)) (o : Int32) : ∃ v, v ≤ tn (g 1 6) ∧ f_X12_paged g (nI u) o = some (nI v) ∧ f_X9_onPageOf gS (nI u) o = some (nI v) := by
  have u5 := hO.u5 hu
  obtain ⟨S, hS, tS, -, s20⟩ := hO.D.ex
  have s2 := hO.S.2.2
  have gs := hR.D.trans hS
  have H : ∃ c d, f_X12_paged_L5 (nI u) o g fu (0, 0) = some c ∧ f_X9_onPageOf_L5 (nI u) o gS fu (0, 0) = some d ∧ c = d ∧ ∃ v, v ≤ S ∧ c = nI v := by
    refine lp_two (fun k a b => ∃ v, v ≤ k ∧ a = (nI v, nI k) ∧ b = (nI v, nI k)) S (fun c d => c = d ∧ ∃ v, v ≤ S ∧ c = nI v) ?_ ?_ (by have := fu_big; omega) (by have := fu_big; omega) ⟨0, Nat.le_refl 0, rfl, rfl⟩
    · rintro k hk _ _ ⟨x, hx, rfl, rfl⟩
      have nk : ¬ S ≤ k := by omega
      have e := k_onPage hO hR hu (show k < 20 by omega)
      have e2 := q_onPage (g := g) (w := u) (k := k) u5 (by omega)
      by_cases c : pg (g 1) u k = o
      · refine Or.inl ⟨(nI (x + 1), nI (k + 1)), (nI (x + 1), nI (k + 1)), ⟨x + 1, by omega, rfl, rfl⟩, fun r => ?_, fun r => ?_⟩
        · simp (disch := omega) only [bd_s, bd2_s, bd3_s, bd4_s, bd5_s, bd6_s, bd7_s, bd8_s, lr_l, lr_r, nm_s, jn_s, gdb_0, gdb_1, li_2, li_3, li_4, li_5, li_6, li_7, li_8, li_9, li_10, li_11, li_12, li_13, li_14, li_15, li_16, li_20, li_24, li_32, li_40, li_41, li_43, li_48, li_57, li_59, li_60, li_62, li_63, li_76, li_96, li_97, li_99, li_100, li_104, li_116, li_122, li_128, li_129, li_216, li_217, li_218, li_219, li_239, li_240, li_255, li_256, li_257, li_400, li_456, li_856, li_999, li_1000, li_1001, li_1002, li_1003, li_1004, li_1005, li_1006, li_1007, li_1008, li_1161, li_2000, li_2001, li_2002, li_2003, li_2004, li_2005, li_5016, li_5472, li_9999, li_10000, li_32767, li_1000000, li_2000000000, nI_add, nI_mul, nI_sub, nI_clamp, nI_leI, nI_ltI, nI_eq, gdi_n, nI_1, nI_eq0, nI_eq1, nI_le0, nI_le1, nI_0le, nI_lt0, nI_0lt, nI_m1, Int32.add_zero, Nat.le_refl, if_true, if_false, Bool.false_eq_true, Bool.true_eq_false, i10, i01, im0, im1, i0m, i1m, l10, l00, l01, t10, t00, hS, nk, e2, c]
        · simp (disch := omega) only [bd_s, bd2_s, bd3_s, bd4_s, bd5_s, bd6_s, bd7_s, bd8_s, lr_l, lr_r, nm_s, jn_s, gdb_0, gdb_1, li_2, li_3, li_4, li_5, li_6, li_7, li_8, li_9, li_10, li_11, li_12, li_13, li_14, li_15, li_16, li_20, li_24, li_32, li_40, li_41, li_43, li_48, li_57, li_59, li_60, li_62, li_63, li_76, li_96, li_97, li_99, li_100, li_104, li_116, li_122, li_128, li_129, li_216, li_217, li_218, li_219, li_239, li_240, li_255, li_256, li_257, li_400, li_456, li_856, li_999, li_1000, li_1001, li_1002, li_1003, li_1004, li_1005, li_1006, li_1007, li_1008, li_1161, li_2000, li_2001, li_2002, li_2003, li_2004, li_2005, li_5016, li_5472, li_9999, li_10000, li_32767, li_1000000, li_2000000000, nI_add, nI_mul, nI_sub, nI_clamp, nI_leI, nI_ltI, nI_eq, gdi_n, nI_1, nI_eq0, nI_eq1, nI_le0, nI_le1, nI_0le, nI_lt0, nI_0lt, nI_m1, Int32.add_zero, Nat.le_refl, if_true, if_false, Bool.false_eq_true, Bool.true_eq_false, i10, i01, im0, im1, i0m, i1m, l10, l00, l01, t10, t00, gs, nk, e, c]
      · refine Or.inl ⟨(nI x, nI (k + 1)), (nI x, nI (k + 1)), ⟨x, by omega, rfl, rfl⟩, fun r => ?_, fun r => ?_⟩
        · simp (disch := omega) only [bd_s, bd2_s, bd3_s, bd4_s, bd5_s, bd6_s, bd7_s, bd8_s, lr_l, lr_r, nm_s, jn_s, gdb_0, gdb_1, li_2, li_3, li_4, li_5, li_6, li_7, li_8, li_9, li_10, li_11, li_12, li_13, li_14, li_15, li_16, li_20, li_24, li_32, li_40, li_41, li_43, li_48, li_57, li_59, li_60, li_62, li_63, li_76, li_96, li_97, li_99, li_100, li_104, li_116, li_122, li_128, li_129, li_216, li_217, li_218, li_219, li_239, li_240, li_255, li_256, li_257, li_400, li_456, li_856, li_999, li_1000, li_1001, li_1002, li_1003, li_1004, li_1005, li_1006, li_1007, li_1008, li_1161, li_2000, li_2001, li_2002, li_2003, li_2004, li_2005, li_5016, li_5472, li_9999, li_10000, li_32767, li_1000000, li_2000000000, nI_add, nI_mul, nI_sub, nI_clamp, nI_leI, nI_ltI, nI_eq, gdi_n, nI_1, nI_eq0, nI_eq1, nI_le0, nI_le1, nI_0le, nI_lt0, nI_0lt, nI_m1, Int32.add_zero, Nat.le_refl, if_true, if_false, Bool.false_eq_true, Bool.true_eq_false, i10, i01, im0, im1, i0m, i1m, l10, l00, l01, t10, t00, hS, nk, e2, c]
        · simp (disch := omega) only [bd_s, bd2_s, bd3_s, bd4_s, bd5_s, bd6_s, bd7_s, bd8_s, lr_l, lr_r, nm_s, jn_s, gdb_0, gdb_1, li_2, li_3, li_4, li_5, li_6, li_7, li_8, li_9, li_10, li_11, li_12, li_13, li_14, li_15, li_16, li_20, li_24, li_32, li_40, li_41, li_43, li_48, li_57, li_59, li_60, li_62, li_63, li_76, li_96, li_97, li_99, li_100, li_104, li_116, li_122, li_128, li_129, li_216, li_217, li_218, li_219, li_239, li_240, li_255, li_256, li_257, li_400, li_456, li_856, li_999, li_1000, li_1001, li_1002, li_1003, li_1004, li_1005, li_1006, li_1007, li_1008, li_1161, li_2000, li_2001, li_2002, li_2003, li_2004, li_2005, li_5016, li_5472, li_9999, li_10000, li_32767, li_1000000, li_2000000000, nI_add, nI_mul, nI_sub, nI_clamp, nI_leI, nI_ltI, nI_eq, gdi_n, nI_1, nI_eq0, nI_eq1, nI_le0, nI_le1, nI_0le, nI_lt0, nI_0lt, nI_m1, Int32.add_zero, Nat.le_refl, if_true, if_false, Bool.false_eq_true, Bool.true_eq_false, i10, i01, im0, im1, i0m, i1m, l10, l00, l01, t10, t00, gs, nk, e, c]
    · rintro _ _ ⟨x, hx, rfl, rfl⟩
      refine ⟨nI x, nI x, ⟨rfl, x, hx, rfl⟩, fun r => ?_, fun r => ?_⟩
      · simp (disch := omega) only [bd_s, bd2_s, bd3_s, bd4_s, bd5_s, bd6_s, bd7_s, bd8_s, lr_l, lr_r, nm_s, jn_s, gdb_0, gdb_1, li_2, li_3, li_4, li_5, li_6, li_7, li_8, li_9, li_10, li_11, li_12, li_13, li_14, li_15, li_16, li_20, li_24, li_32, li_40, li_41, li_43, li_48, li_57, li_59, li_60, li_62, li_63, li_76, li_96, li_97, li_99, li_100, li_104, li_116, li_122, li_128, li_129, li_216, li_217, li_218, li_219, li_239, li_240, li_255, li_256, li_257, li_400, li_456, li_856, li_999, li_1000, li_1001, li_1002, li_1003, li_1004, li_1005, li_1006, li_1007, li_1008, li_1161, li_2000, li_2001, li_2002, li_2003, li_2004, li_2005, li_5016, li_5472, li_9999, li_10000, li_32767, li_1000000, li_2000000000, nI_add, nI_mul, nI_sub, nI_clamp, nI_leI, nI_ltI, nI_eq, gdi_n, nI_1, nI_eq0, nI_eq1, nI_le0, nI_le1, nI_0le, nI_lt0, nI_0lt, nI_m1, Int32.add_zero, Nat.le_refl, if_true, if_false, Bool.false_eq_true, Bool.true_eq_false, i10, i01, im0, im1, i0m, i1m, l10, l00, l01, t10, t00, hS]
        done
      · simp (disch := omega) only [bd_s, bd2_s, bd3_s, bd4_s, bd5_s, bd6_s, bd7_s, bd8_s, lr_l, lr_r, nm_s, jn_s, gdb_0, gdb_1, li_2, li_3, li_4, li_5, li_6, li_7, li_8, li_9, li_10, li_11, li_12, li_13, li_14, li_15, li_16, li_20, li_24, li_32, li_40, li_41, li_43, li_48, li_57, li_59, li_60, li_62, li_63, li_76, li_96, li_97, li_99, li_100, li_104, li_116, li_122, li_128, li_129, li_216, li_217, li_218, li_219, li_239, li_240, li_255, li_256, li_257, li_400, li_456, li_856, li_999, li_1000, li_1001, li_1002, li_1003, li_1004, li_1005, li_1006, li_1007, li_1008, li_1161, li_2000, li_2001, li_2002, li_2003, li_2004, li_2005, li_5016, li_5472, li_9999, li_10000, li_32767, li_1000000, li_2000000000, nI_add, nI_mul, nI_sub, nI_clamp, nI_leI, nI_ltI, nI_eq, gdi_n, nI_1, nI_eq0, nI_eq1, nI_le0, nI_le1, nI_0le, nI_lt0, nI_0lt, nI_m1, Int32.add_zero, Nat.le_refl, if_true, if_false, Bool.false_eq_true, Bool.true_eq_false, i10, i01, im0, im1, i0m, i1m, l10, l00, l01, t10, t00, gs]
        done
  obtain ⟨c, d, q1, q2, rfl, v, hv, rfl⟩ := H
  exact ⟨v, by rw [tS]; exact hv, by unfold f_X12_paged; rw [q1]; rfl, by unfold f_X9_onPageOf; rw [q2]; rfl⟩
theorem e_pagedAll (hO : Ok (g 1)) (hR : RS gS gL (g 1)) (o : Int32) : ∃ v, v ≤ 100 ∧ f_X12_pagedOfAll g o = some (nI v) ∧ f_X9_onAllPages gS o = some (nI v) := by
  obtain ⟨U, hU, tU, -, u5⟩ := hO.U.ex
  have gs := hR.U.trans hU
  have s2 := hO.S.2.2
  have d2 := hO.D.2.2
  have H : ∃ c d, f_X12_pagedOfAll_L4 o g fu (0, 0) = some c ∧ f_X9_onAllPages_L4 o gS fu (0, 0) = some d ∧ c = d ∧ ∃ v, v ≤ 20 * U ∧ c = nI v := by
    refine lp_two (fun k a b => ∃ v, v ≤ 20 * k ∧ a = (nI v, nI k) ∧ b = (nI v, nI k)) U (fun c d => c = d ∧ ∃ v, v ≤ 20 * U ∧ c = nI v) ?_ ?_ (by have := fu_big; omega) (by have := fu_big; omega) ⟨0, Nat.le_refl 0, rfl, rfl⟩
    · rintro k hk _ _ ⟨x, hx, rfl, rfl⟩
      have nk : ¬ U ≤ k := by omega
      obtain ⟨v, hv, e2, e⟩ := e_paged hO hR (show k < tn (g 1 4) by rw [tU]; exact hk) o
      refine Or.inl ⟨(nI (x + v), nI (k + 1)), (nI (x + v), nI (k + 1)), ⟨x + v, by omega, rfl, rfl⟩, fun r => ?_, fun r => ?_⟩
      · simp (disch := omega) only [bd_s, bd2_s, bd3_s, bd4_s, bd5_s, bd6_s, bd7_s, bd8_s, lr_l, lr_r, nm_s, jn_s, gdb_0, gdb_1, li_2, li_3, li_4, li_5, li_6, li_7, li_8, li_9, li_10, li_11, li_12, li_13, li_14, li_15, li_16, li_20, li_24, li_32, li_40, li_41, li_43, li_48, li_57, li_59, li_60, li_62, li_63, li_76, li_96, li_97, li_99, li_100, li_104, li_116, li_122, li_128, li_129, li_216, li_217, li_218, li_219, li_239, li_240, li_255, li_256, li_257, li_400, li_456, li_856, li_999, li_1000, li_1001, li_1002, li_1003, li_1004, li_1005, li_1006, li_1007, li_1008, li_1161, li_2000, li_2001, li_2002, li_2003, li_2004, li_2005, li_5016, li_5472, li_9999, li_10000, li_32767, li_1000000, li_2000000000, nI_add, nI_mul, nI_sub, nI_clamp, nI_leI, nI_ltI, nI_eq, gdi_n, nI_1, nI_eq0, nI_eq1, nI_le0, nI_le1, nI_0le, nI_lt0, nI_0lt, nI_m1, Int32.add_zero, Nat.le_refl, if_true, if_false, Bool.false_eq_true, Bool.true_eq_false, i10, i01, im0, im1, i0m, i1m, l10, l00, l01, t10, t00, hU, nk, e2]
      · simp (disch := omega) only [bd_s, bd2_s, bd3_s, bd4_s, bd5_s, bd6_s, bd7_s, bd8_s, lr_l, lr_r, nm_s, jn_s, gdb_0, gdb_1, li_2, li_3, li_4, li_5, li_6, li_7, li_8, li_9, li_10, li_11, li_12, li_13, li_14, li_15, li_16, li_20, li_24, li_32, li_40, li_41, li_43, li_48, li_57, li_59, li_60, li_62, li_63, li_76, li_96, li_97, li_99, li_100, li_104, li_116, li_122, li_128, li_129, li_216, li_217, li_218, li_219, li_239, li_240, li_255, li_256, li_257, li_400, li_456, li_856, li_999, li_1000, li_1001, li_1002, li_1003, li_1004, li_1005, li_1006, li_1007, li_1008, li_1161, li_2000, li_2001, li_2002, li_2003, li_2004, li_2005, li_5016, li_5472, li_9999, li_10000, li_32767, li_1000000, li_2000000000, nI_add, nI_mul, nI_sub, nI_clamp, nI_leI, nI_ltI, nI_eq, gdi_n, nI_1, nI_eq0, nI_eq1, nI_le0, nI_le1, nI_0le, nI_lt0, nI_0lt, nI_m1, Int32.add_zero, Nat.le_refl, if_true, if_false, Bool.false_eq_true, Bool.true_eq_false, i10, i01, im0, im1, i0m, i1m, l10, l00, l01, t10, t00, gs, nk, e]
    · rintro _ _ ⟨x, hx, rfl, rfl⟩
      refine ⟨nI x, nI x, ⟨rfl, x, hx, rfl⟩, fun r => ?_, fun r => ?_⟩
      · simp (disch := omega) only [bd_s, bd2_s, bd3_s, bd4_s, bd5_s, bd6_s, bd7_s, bd8_s, lr_l, lr_r, nm_s, jn_s, gdb_0, gdb_1, li_2, li_3, li_4, li_5, li_6, li_7, li_8, li_9, li_10, li_11, li_12, li_13, li_14, li_15, li_16, li_20, li_24, li_32, li_40, li_41, li_43, li_48, li_57, li_59, li_60, li_62, li_63, li_76, li_96, li_97, li_99, li_100, li_104, li_116, li_122, li_128, li_129, li_216, li_217, li_218, li_219, li_239, li_240, li_255, li_256, li_257, li_400, li_456, li_856, li_999, li_1000, li_1001, li_1002, li_1003, li_1004, li_1005, li_1006, li_1007, li_1008, li_1161, li_2000, li_2001, li_2002, li_2003, li_2004, li_2005, li_5016, li_5472, li_9999, li_10000, li_32767, li_1000000, li_2000000000, nI_add, nI_mul, nI_sub, nI_clamp, nI_leI, nI_ltI, nI_eq, gdi_n, nI_1, nI_eq0, nI_eq1, nI_le0, nI_le1, nI_0le, nI_lt0, nI_0lt, nI_m1, Int32.add_zero, Nat.le_refl, if_true, if_false, Bool.false_eq_true, Bool.true_eq_false, i10, i01, im0, im1, i0m, i1m, l10, l00, l01, t10, t00, hU]
        done
      · simp (disch := omega) only [bd_s, bd2_s, bd3_s, bd4_s, bd5_s, bd6_s, bd7_s, bd8_s, lr_l, lr_r, nm_s, jn_s, gdb_0, gdb_1, li_2, li_3, li_4, li_5, li_6, li_7, li_8, li_9, li_10, li_11, li_12, li_13, li_14, li_15, li_16, li_20, li_24, li_32, li_40, li_41, li_43, li_48, li_57, li_59, li_60, li_62, li_63, li_76, li_96, li_97, li_99, li_100, li_104, li_116, li_122, li_128, li_129, li_216, li_217, li_218, li_219, li_239, li_240, li_255, li_256, li_257, li_400, li_456, li_856, li_999, li_1000, li_1001, li_1002, li_1003, li_1004, li_1005, li_1006, li_1007, li_1008, li_1161, li_2000, li_2001, li_2002, li_2003, li_2004, li_2005, li_5016, li_5472, li_9999, li_10000, li_32767, li_1000000, li_2000000000, nI_add, nI_mul, nI_sub, nI_clamp, nI_leI, nI_ltI, nI_eq, gdi_n, nI_1, nI_eq0, nI_eq1, nI_le0, nI_le1, nI_0le, nI_lt0, nI_0lt, nI_m1, Int32.add_zero, Nat.le_refl, if_true, if_false, Bool.false_eq_true, Bool.true_eq_false, i10, i01, im0, im1, i0m, i1m, l10, l00, l01, t10, t00, gs]
        done
  obtain ⟨c, d, q1, q2, rfl, v, hv, rfl⟩ := H
  exact ⟨v, by omega, by unfold f_X12_pagedOfAll; rw [q1]; rfl, by unfold f_X9_onAllPages; rw [q2]; rfl⟩
theorem e_tiredAll (hO : Ok (g 1)) (hR : RS gS gL (g 1)) : ∃ v, f_X12_tiredOfAll g = some v ∧ f_X9_tiredTogether gS = some v := by
  obtain ⟨U, hU, tU, -, u5⟩ := hO.U.ex
  have gs := hR.U.trans hU
  have H : ∃ c d, f_X12_tiredOfAll_L4 g fu (0, 0) = some c ∧ f_X9_tiredTogether_L4 gS fu (0, 0) = some d ∧ c = d := by
    refine lp_two (fun k a b => ∃ v : Int32, a = (v, nI k) ∧ b = (v, nI k)) U (fun c d => c = d) ?_ ?_ (by have := fu_big; omega) (by have := fu_big; omega) ⟨0, rfl, rfl⟩
    · rintro k hk _ _ ⟨x, rfl, rfl⟩
      have nk : ¬ U ≤ k := by omega
      have hk' : k < tn (g 1 4) := by rw [tU]; exact hk
      refine Or.inl ⟨(x + wr (g 1) k 3, nI (k + 1)), (x + wr (g 1) k 3, nI (k + 1)), ⟨_, rfl, rfl⟩, fun r => ?_, fun r => ?_⟩
      · simp (disch := omega) only [bd_s, bd2_s, bd3_s, bd4_s, bd5_s, bd6_s, bd7_s, bd8_s, lr_l, lr_r, nm_s, jn_s, gdb_0, gdb_1, li_2, li_3, li_4, li_5, li_6, li_7, li_8, li_9, li_10, li_11, li_12, li_13, li_14, li_15, li_16, li_20, li_24, li_32, li_40, li_41, li_43, li_48, li_57, li_59, li_60, li_62, li_63, li_76, li_96, li_97, li_99, li_100, li_104, li_116, li_122, li_128, li_129, li_216, li_217, li_218, li_219, li_239, li_240, li_255, li_256, li_257, li_400, li_456, li_856, li_999, li_1000, li_1001, li_1002, li_1003, li_1004, li_1005, li_1006, li_1007, li_1008, li_1161, li_2000, li_2001, li_2002, li_2003, li_2004, li_2005, li_5016, li_5472, li_9999, li_10000, li_32767, li_1000000, li_2000000000, nI_add, nI_mul, nI_sub, nI_clamp, nI_leI, nI_ltI, nI_eq, gdi_n, nI_1, nI_eq0, nI_eq1, nI_le0, nI_le1, nI_0le, nI_lt0, nI_0lt, nI_m1, Int32.add_zero, Nat.le_refl, if_true, if_false, Bool.false_eq_true, Bool.true_eq_false, i10, i01, im0, im1, i0m, i1m, l10, l00, l01, t10, t00, hU, nk, q_of]
      · simp (disch := omega) only [bd_s, bd2_s, bd3_s, bd4_s, bd5_s, bd6_s, bd7_s, bd8_s, lr_l, lr_r, nm_s, jn_s, gdb_0, gdb_1, li_2, li_3, li_4, li_5, li_6, li_7, li_8, li_9, li_10, li_11, li_12, li_13, li_14, li_15, li_16, li_20, li_24, li_32, li_40, li_41, li_43, li_48, li_57, li_59, li_60, li_62, li_63, li_76, li_96, li_97, li_99, li_100, li_104, li_116, li_122, li_128, li_129, li_216, li_217, li_218, li_219, li_239, li_240, li_255, li_256, li_257, li_400, li_456, li_856, li_999, li_1000, li_1001, li_1002, li_1003, li_1004, li_1005, li_1006, li_1007, li_1008, li_1161, li_2000, li_2001, li_2002, li_2003, li_2004, li_2005, li_5016, li_5472, li_9999, li_10000, li_32767, li_1000000, li_2000000000, nI_add, nI_mul, nI_sub, nI_clamp, nI_leI, nI_ltI, nI_eq, gdi_n, nI_1, nI_eq0, nI_eq1, nI_le0, nI_le1, nI_0le, nI_lt0, nI_0lt, nI_m1, Int32.add_zero, Nat.le_refl, if_true, if_false, Bool.false_eq_true, Bool.true_eq_false, i10, i01, im0, im1, i0m, i1m, l10, l00, l01, t10, t00, gs, nk, hR.tired hk']
    · rintro _ _ ⟨x, rfl, rfl⟩
      refine ⟨x, x, rfl, fun r => ?_, fun r => ?_⟩
      · simp (disch := omega) only [bd_s, bd2_s, bd3_s, bd4_s, bd5_s, bd6_s, bd7_s, bd8_s, lr_l, lr_r, nm_s, jn_s, gdb_0, gdb_1, li_2, li_3, li_4, li_5, li_6, li_7, li_8, li_9, li_10, li_11, li_12, li_13, li_14, li_15, li_16, li_20, li_24, li_32, li_40, li_41, li_43, li_48, li_57, li_59, li_60, li_62, li_63, li_76, li_96, li_97, li_99, li_100, li_104, li_116, li_122, li_128, li_129, li_216, li_217, li_218, li_219, li_239, li_240, li_255, li_256, li_257, li_400, li_456, li_856, li_999, li_1000, li_1001, li_1002, li_1003, li_1004, li_1005, li_1006, li_1007, li_1008, li_1161, li_2000, li_2001, li_2002, li_2003, li_2004, li_2005, li_5016, li_5472, li_9999, li_10000, li_32767, li_1000000, li_2000000000, nI_add, nI_mul, nI_sub, nI_clamp, nI_leI, nI_ltI, nI_eq, gdi_n, nI_1, nI_eq0, nI_eq1, nI_le0, nI_le1, nI_0le, nI_lt0, nI_0lt, nI_m1, Int32.add_zero, Nat.le_refl, if_true, if_false, Bool.false_eq_true, Bool.true_eq_false, i10, i01, im0, im1, i0m, i1m, l10, l00, l01, t10, t00, hU]
        done
      · simp (disch := omega) only [bd_s, bd2_s, bd3_s, bd4_s, bd5_s, bd6_s, bd7_s, bd8_s, lr_l, lr_r, nm_s, jn_s, gdb_0, gdb_1, li_2, li_3, li_4, li_5, li_6, li_7, li_8, li_9, li_10, li_11, li_12, li_13, li_14, li_15, li_16, li_20, li_24, li_32, li_40, li_41, li_43, li_48, li_57, li_59, li_60, li_62, li_63, li_76, li_96, li_97, li_99, li_100, li_104, li_116, li_122, li_128, li_129, li_216, li_217, li_218, li_219, li_239, li_240, li_255, li_256, li_257, li_400, li_456, li_856, li_999, li_1000, li_1001, li_1002, li_1003, li_1004, li_1005, li_1006, li_1007, li_1008, li_1161, li_2000, li_2001, li_2002, li_2003, li_2004, li_2005, li_5016, li_5472, li_9999, li_10000, li_32767, li_1000000, li_2000000000, nI_add, nI_mul, nI_sub, nI_clamp, nI_leI, nI_ltI, nI_eq, gdi_n, nI_1, nI_eq0, nI_eq1, nI_le0, nI_le1, nI_0le, nI_lt0, nI_0lt, nI_m1, Int32.add_zero, Nat.le_refl, if_true, if_false, Bool.false_eq_true, Bool.true_eq_false, i10, i01, im0, im1, i0m, i1m, l10, l00, l01, t10, t00, gs]
        done
  obtain ⟨c, d, q1, q2, rfl⟩ := H
  exact ⟨c, by unfold f_X12_tiredOfAll; rw [q1]; rfl, by unfold f_X9_tiredTogether; rw [q2]; rfl⟩
theorem e_true (hO : Ok (g 1)) (hR : RS gS gL (g 1)) {u : Nat} (hu : u < tn (g 1 4)) (gC gH : Pic) : ∃ v gH', f_X12_trueOf g (nI u) = some v ∧ f_X8_trueOf gC gH gS (nI u) = some (v, gH') := by
  have u5 := hO.u5 hu
  obtain ⟨S, hS, tS, -, s20⟩ := hO.D.ex
  have s2 := hO.S.2.2
  have gs := hR.D.trans hS
  obtain ⟨hd, h1, hH⟩ := k_take hO hR gH (wr (g 1) u 0)
  have qo0 := q_of (g := g) (k := 0) u5 (by omega)
  rw [nI_0] at qo0
  have H : ∃ c d, f_X12_trueOf_L4 (nI u) g fu (0, 0) = some c ∧ f_X8_trueOf_L24 (nI u) gC hd gS fu (0, 0) = some d ∧ c = d := by
    refine lp_two (fun k a b => ∃ v : Int32, a = (v, nI k) ∧ b = (v, nI k)) S (fun c d => c = d) ?_ ?_ (by have := fu_big; omega) (by have := fu_big; omega) ⟨0, rfl, rfl⟩
    · rintro k hk _ _ ⟨x, rfl, rfl⟩
      have nk : ¬ S ≤ k := by omega
      have hk' : k < tn (g 1 5) := by omega
      obtain ⟨hsp, hsw⟩ := hO.sp hk'
      obtain ⟨w, hw, tw, -, w7⟩ := hsp.ex
      have gw := (hR.sp hk').trans hw
      rw [tw] at hsw
      have e := k_onPage hO hR hu (show k < 20 by omega)
      have e2 := q_onPage (g := g) (w := u) (k := k) u5 (by omega)
      by_cases c : pg (g 1) u k = 1
      · by_cases c2 : rd (g 1) w (wr (g 1) u 0) = nI w
        · refine Or.inl ⟨(x + 1, nI (k + 1)), (x + 1, nI (k + 1)), ⟨_, rfl, rfl⟩, fun r => ?_, fun r => ?_⟩
          · simp (disch := omega) only [bd_s, bd2_s, bd3_s, bd4_s, bd5_s, bd6_s, bd7_s, bd8_s, lr_l, lr_r, nm_s, jn_s, gdb_0, gdb_1, li_2, li_3, li_4, li_5, li_6, li_7, li_8, li_9, li_10, li_11, li_12, li_13, li_14, li_15, li_16, li_20, li_24, li_32, li_40, li_41, li_43, li_48, li_57, li_59, li_60, li_62, li_63, li_76, li_96, li_97, li_99, li_100, li_104, li_116, li_122, li_128, li_129, li_216, li_217, li_218, li_219, li_239, li_240, li_255, li_256, li_257, li_400, li_456, li_856, li_999, li_1000, li_1001, li_1002, li_1003, li_1004, li_1005, li_1006, li_1007, li_1008, li_1161, li_2000, li_2001, li_2002, li_2003, li_2004, li_2005, li_5016, li_5472, li_9999, li_10000, li_32767, li_1000000, li_2000000000, nI_add, nI_mul, nI_sub, nI_clamp, nI_leI, nI_ltI, nI_eq, gdi_n, nI_1, nI_eq0, nI_eq1, nI_le0, nI_le1, nI_0le, nI_lt0, nI_0lt, nI_m1, Int32.add_zero, Nat.le_refl, if_true, if_false, Bool.false_eq_true, Bool.true_eq_false, i10, i01, im0, im1, i0m, i1m, l10, l00, l01, t10, t00, hS, nk, e2, c, hw, qo0, q_read hO hsw, c2]
          · simp (disch := omega) only [bd_s, bd2_s, bd3_s, bd4_s, bd5_s, bd6_s, bd7_s, bd8_s, lr_l, lr_r, nm_s, jn_s, gdb_0, gdb_1, li_2, li_3, li_4, li_5, li_6, li_7, li_8, li_9, li_10, li_11, li_12, li_13, li_14, li_15, li_16, li_20, li_24, li_32, li_40, li_41, li_43, li_48, li_57, li_59, li_60, li_62, li_63, li_76, li_96, li_97, li_99, li_100, li_104, li_116, li_122, li_128, li_129, li_216, li_217, li_218, li_219, li_239, li_240, li_255, li_256, li_257, li_400, li_456, li_856, li_999, li_1000, li_1001, li_1002, li_1003, li_1004, li_1005, li_1006, li_1007, li_1008, li_1161, li_2000, li_2001, li_2002, li_2003, li_2004, li_2005, li_5016, li_5472, li_9999, li_10000, li_32767, li_1000000, li_2000000000, nI_add, nI_mul, nI_sub, nI_clamp, nI_leI, nI_ltI, nI_eq, gdi_n, nI_1, nI_eq0, nI_eq1, nI_le0, nI_le1, nI_0le, nI_lt0, nI_0lt, nI_m1, Int32.add_zero, Nat.le_refl, if_true, if_false, Bool.false_eq_true, Bool.true_eq_false, i10, i01, im0, im1, i0m, i1m, l10, l00, l01, t10, t00, gs, nk, e, c, gw, k_read hO hH hsw, c2]
        · refine Or.inl ⟨(x, nI (k + 1)), (x, nI (k + 1)), ⟨_, rfl, rfl⟩, fun r => ?_, fun r => ?_⟩
          · simp (disch := omega) only [bd_s, bd2_s, bd3_s, bd4_s, bd5_s, bd6_s, bd7_s, bd8_s, lr_l, lr_r, nm_s, jn_s, gdb_0, gdb_1, li_2, li_3, li_4, li_5, li_6, li_7, li_8, li_9, li_10, li_11, li_12, li_13, li_14, li_15, li_16, li_20, li_24, li_32, li_40, li_41, li_43, li_48, li_57, li_59, li_60, li_62, li_63, li_76, li_96, li_97, li_99, li_100, li_104, li_116, li_122, li_128, li_129, li_216, li_217, li_218, li_219, li_239, li_240, li_255, li_256, li_257, li_400, li_456, li_856, li_999, li_1000, li_1001, li_1002, li_1003, li_1004, li_1005, li_1006, li_1007, li_1008, li_1161, li_2000, li_2001, li_2002, li_2003, li_2004, li_2005, li_5016, li_5472, li_9999, li_10000, li_32767, li_1000000, li_2000000000, nI_add, nI_mul, nI_sub, nI_clamp, nI_leI, nI_ltI, nI_eq, gdi_n, nI_1, nI_eq0, nI_eq1, nI_le0, nI_le1, nI_0le, nI_lt0, nI_0lt, nI_m1, Int32.add_zero, Nat.le_refl, if_true, if_false, Bool.false_eq_true, Bool.true_eq_false, i10, i01, im0, im1, i0m, i1m, l10, l00, l01, t10, t00, hS, nk, e2, c, hw, qo0, q_read hO hsw, c2]
          · simp (disch := omega) only [bd_s, bd2_s, bd3_s, bd4_s, bd5_s, bd6_s, bd7_s, bd8_s, lr_l, lr_r, nm_s, jn_s, gdb_0, gdb_1, li_2, li_3, li_4, li_5, li_6, li_7, li_8, li_9, li_10, li_11, li_12, li_13, li_14, li_15, li_16, li_20, li_24, li_32, li_40, li_41, li_43, li_48, li_57, li_59, li_60, li_62, li_63, li_76, li_96, li_97, li_99, li_100, li_104, li_116, li_122, li_128, li_129, li_216, li_217, li_218, li_219, li_239, li_240, li_255, li_256, li_257, li_400, li_456, li_856, li_999, li_1000, li_1001, li_1002, li_1003, li_1004, li_1005, li_1006, li_1007, li_1008, li_1161, li_2000, li_2001, li_2002, li_2003, li_2004, li_2005, li_5016, li_5472, li_9999, li_10000, li_32767, li_1000000, li_2000000000, nI_add, nI_mul, nI_sub, nI_clamp, nI_leI, nI_ltI, nI_eq, gdi_n, nI_1, nI_eq0, nI_eq1, nI_le0, nI_le1, nI_0le, nI_lt0, nI_0lt, nI_m1, Int32.add_zero, Nat.le_refl, if_true, if_false, Bool.false_eq_true, Bool.true_eq_false, i10, i01, im0, im1, i0m, i1m, l10, l00, l01, t10, t00, gs, nk, e, c, gw, k_read hO hH hsw, c2]
      · refine Or.inl ⟨(x, nI (k + 1)), (x, nI (k + 1)), ⟨_, rfl, rfl⟩, fun r => ?_, fun r => ?_⟩
        · simp (disch := omega) only [bd_s, bd2_s, bd3_s, bd4_s, bd5_s, bd6_s, bd7_s, bd8_s, lr_l, lr_r, nm_s, jn_s, gdb_0, gdb_1, li_2, li_3, li_4, li_5, li_6, li_7, li_8, li_9, li_10, li_11, li_12, li_13, li_14, li_15, li_16, li_20, li_24, li_32, li_40, li_41, li_43, li_48, li_57, li_59, li_60, li_62, li_63, li_76, li_96, li_97, li_99, li_100, li_104, li_116, li_122, li_128, li_129, li_216, li_217, li_218, li_219, li_239, li_240, li_255, li_256, li_257, li_400, li_456, li_856, li_999, li_1000, li_1001, li_1002, li_1003, li_1004, li_1005, li_1006, li_1007, li_1008, li_1161, li_2000, li_2001, li_2002, li_2003, li_2004, li_2005, li_5016, li_5472, li_9999, li_10000, li_32767, li_1000000, li_2000000000, nI_add, nI_mul, nI_sub, nI_clamp, nI_leI, nI_ltI, nI_eq, gdi_n, nI_1, nI_eq0, nI_eq1, nI_le0, nI_le1, nI_0le, nI_lt0, nI_0lt, nI_m1, Int32.add_zero, Nat.le_refl, if_true, if_false, Bool.false_eq_true, Bool.true_eq_false, i10, i01, im0, im1, i0m, i1m, l10, l00, l01, t10, t00, hS, nk, e2, c, hw]
        · simp (disch := omega) only [bd_s, bd2_s, bd3_s, bd4_s, bd5_s, bd6_s, bd7_s, bd8_s, lr_l, lr_r, nm_s, jn_s, gdb_0, gdb_1, li_2, li_3, li_4, li_5, li_6, li_7, li_8, li_9, li_10, li_11, li_12, li_13, li_14, li_15, li_16, li_20, li_24, li_32, li_40, li_41, li_43, li_48, li_57, li_59, li_60, li_62, li_63, li_76, li_96, li_97, li_99, li_100, li_104, li_116, li_122, li_128, li_129, li_216, li_217, li_218, li_219, li_239, li_240, li_255, li_256, li_257, li_400, li_456, li_856, li_999, li_1000, li_1001, li_1002, li_1003, li_1004, li_1005, li_1006, li_1007, li_1008, li_1161, li_2000, li_2001, li_2002, li_2003, li_2004, li_2005, li_5016, li_5472, li_9999, li_10000, li_32767, li_1000000, li_2000000000, nI_add, nI_mul, nI_sub, nI_clamp, nI_leI, nI_ltI, nI_eq, gdi_n, nI_1, nI_eq0, nI_eq1, nI_le0, nI_le1, nI_0le, nI_lt0, nI_0lt, nI_m1, Int32.add_zero, Nat.le_refl, if_true, if_false, Bool.false_eq_true, Bool.true_eq_false, i10, i01, im0, im1, i0m, i1m, l10, l00, l01, t10, t00, gs, nk, e, c, gw]
    · rintro _ _ ⟨x, rfl, rfl⟩
      refine ⟨x, x, rfl, fun r => ?_, fun r => ?_⟩
      · simp (disch := omega) only [bd_s, bd2_s, bd3_s, bd4_s, bd5_s, bd6_s, bd7_s, bd8_s, lr_l, lr_r, nm_s, jn_s, gdb_0, gdb_1, li_2, li_3, li_4, li_5, li_6, li_7, li_8, li_9, li_10, li_11, li_12, li_13, li_14, li_15, li_16, li_20, li_24, li_32, li_40, li_41, li_43, li_48, li_57, li_59, li_60, li_62, li_63, li_76, li_96, li_97, li_99, li_100, li_104, li_116, li_122, li_128, li_129, li_216, li_217, li_218, li_219, li_239, li_240, li_255, li_256, li_257, li_400, li_456, li_856, li_999, li_1000, li_1001, li_1002, li_1003, li_1004, li_1005, li_1006, li_1007, li_1008, li_1161, li_2000, li_2001, li_2002, li_2003, li_2004, li_2005, li_5016, li_5472, li_9999, li_10000, li_32767, li_1000000, li_2000000000, nI_add, nI_mul, nI_sub, nI_clamp, nI_leI, nI_ltI, nI_eq, gdi_n, nI_1, nI_eq0, nI_eq1, nI_le0, nI_le1, nI_0le, nI_lt0, nI_0lt, nI_m1, Int32.add_zero, Nat.le_refl, if_true, if_false, Bool.false_eq_true, Bool.true_eq_false, i10, i01, im0, im1, i0m, i1m, l10, l00, l01, t10, t00, hS]
        done
      · simp (disch := omega) only [bd_s, bd2_s, bd3_s, bd4_s, bd5_s, bd6_s, bd7_s, bd8_s, lr_l, lr_r, nm_s, jn_s, gdb_0, gdb_1, li_2, li_3, li_4, li_5, li_6, li_7, li_8, li_9, li_10, li_11, li_12, li_13, li_14, li_15, li_16, li_20, li_24, li_32, li_40, li_41, li_43, li_48, li_57, li_59, li_60, li_62, li_63, li_76, li_96, li_97, li_99, li_100, li_104, li_116, li_122, li_128, li_129, li_216, li_217, li_218, li_219, li_239, li_240, li_255, li_256, li_257, li_400, li_456, li_856, li_999, li_1000, li_1001, li_1002, li_1003, li_1004, li_1005, li_1006, li_1007, li_1008, li_1161, li_2000, li_2001, li_2002, li_2003, li_2004, li_2005, li_5016, li_5472, li_9999, li_10000, li_32767, li_1000000, li_2000000000, nI_add, nI_mul, nI_sub, nI_clamp, nI_leI, nI_ltI, nI_eq, gdi_n, nI_1, nI_eq0, nI_eq1, nI_le0, nI_le1, nI_0le, nI_lt0, nI_0lt, nI_m1, Int32.add_zero, Nat.le_refl, if_true, if_false, Bool.false_eq_true, Bool.true_eq_false, i10, i01, im0, im1, i0m, i1m, l10, l00, l01, t10, t00, gs]
        done
  obtain ⟨c, d, q1, q2, rfl⟩ := H
  refine ⟨c, hd, by unfold f_X12_trueOf; rw [q1]; rfl, ?_⟩
  unfold f_X8_trueOf
  simp (disch := omega) only [bd_s, bd2_s, bd3_s, bd4_s, bd5_s, bd6_s, bd7_s, bd8_s, lr_l, lr_r, nm_s, jn_s, gdb_0, gdb_1, gdi_n, nI_clamp, hR.leaves hu, h1, q2]
end K4
