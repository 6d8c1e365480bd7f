/-! lines of the evening -/
def EV (g gT gD gL : Pic) (c : Nat → Nat) (n s : Nat) : Prop := PR g gT c n s ∧ Ok (g 1) ∧ RS gD gL (g 1)
def FR (g g' : Pic) : Prop := (∀ k, k ≠ 1 → k ≠ 11 → k ≠ 12 → g' k = g k) ∧ (∀ p, p ≤ 2 → g' 1 p = g 1 p) ∧ g' 1 2 = g 1 2 ∧ ∀ p, 456 ≤ p → g' 1 p = g 1 p
theorem FR.rf (g : Pic) : FR g g := ⟨fun _ _ _ _ => rfl, fun _ _ => rfl, rfl, fun _ _ => rfl⟩
theorem FR.tr {a b d : Pic} (h : FR a b) (k : FR b d) : FR a d := ⟨fun i h1 h2 h3 => (k.1 i h1 h2 h3).trans (h.1 i h1 h2 h3), fun p hp => (k.2.1 p hp).trans (h.2.1 p hp), k.2.2.1.trans h.2.2.1, fun p hp => (k.2.2.2 p hp).trans (h.2.2.2 p hp)⟩
theorem E12.fr {a b : Pic} (h : E12 a b) : FR a b := ⟨fun i _ h2 h3 => h i h2 h3, fun _ _ => by rw [h 1 (by decide) (by decide)], by rw [h 1 (by decide) (by decide)], fun p _ => by rw [h 1 (by decide) (by decide)]⟩
def LRes (g gT gL : Pic) (c : Nat → Nat) (n : Nat) (X : Option Pic) (Y : Option (Int32 × Pic × Pic)) : Prop :=
  (∃ g' gT' gD' s', X = some g' ∧ Y = some (1, gT', gD') ∧ EV g' gT' gD' gL c n s' ∧ FR g g' ∧ gT' 1 = gT 1) ∨ (∃ g' gT' gD', X = some g' ∧ Y = some (0, gT', gD') ∧ FL g' gT' n ∧ FR g g' ∧ gT' 1 = gT 1)
def gd (c : Nat → Nat) (s L : Nat) : Bool := decide (0 < L ∧ ∀ i, i < L → c (s + i) ≤ 104)
section K23
variable {m : Nat → Int32} {g gT gD gL gS gS' : Pic} {c : Nat → Nat} {n q s : Nat}
theorem PR.row1 {g' : Pic} (h : PR g gT c n s) (e : ∀ k, k ≠ 1 → g' k = g k) (e1 : ∀ p, 456 ≤ p → g' 1 p = g 1 p) : PR g' gT c n s := by
  obtain ⟨hB, hq, h12, hT, h7⟩ := h
  refine ⟨hB.of (e 9 (by decide)) (e 7 (by decide)) e1 (e 10 (by decide)), ?_, by rw [e 12 (by decide)]; exact h12, hT, h7⟩
  rw [e 11 (by decide)]
  exact hq
theorem FL.of {g' gT' : Pic} (h : FL g gT n) (e12 : g' 12 = g 12) (e11 : g' 11 = g 11) (e7 : gT' 7 = gT 7) : FL g' gT' n := by
  obtain ⟨e, h1, h2, h3, q, h4, h5⟩ := h
  exact ⟨e, h1, by rw [e12]; exact h2, by rw [e7]; exact h3, q, h4, by rw [e11]; exact h5⟩
theorem strOk_all : ∀ k, k < 23 → (k < 11 ∨ 13 ≤ k) → strOk k := by
  unfold strOk
  decide
/-- a word and a number behind it -/
theorem PR.after (h : PR g gT c n s) {k : Nat} (hk : strOk k) {lo hi : Int32} (hlo : (-1 : Int32) < lo) :
    (∃ v g' gT1 gT' s', v ≤ 999 ∧ f_X12_after k g lo hi = some (nI v, g') ∧ E11 g g' ∧ f_X10_takesName k gT = some (1, gT1) ∧ f_X10_takeNumber gT1 lo hi = some (nI v, gT') ∧ PR g' gT' c n s' ∧ lo ≤ nI v ∧ nI v ≤ hi ∧ gT' 1 = gT 1) ∨
    (∃ g', f_X12_after k g lo hi = some (0, g') ∧ E12 g g' ∧ f_X10_takesName k gT = some (0, gT) ∧ f_X10_refuse gT = some (0, pu gT 7 0 (nI s)) ∧ FL g' (pu gT 7 0 (nI s)) n) ∨
    (∃ v g' gT1 gT', f_X12_after k g lo hi = some (v, g') ∧ E12 g g' ∧ f_X10_takesName k gT = some (1, gT1) ∧ f_X10_takeNumber gT1 lo hi = some (-1, gT') ∧ FL g' gT' n ∧ gT' 1 = gT 1) := by
  have n4 := h.n4
  have sn := h.sn
  rcases h.take hk with ⟨-, g1, a1, a2, a3, a4, -, a6⟩ | ⟨-, g1, gT1, a1, a2, a3, -, -, a5, a6, a7⟩
  · obtain ⟨w1, w2, w3⟩ := a4.wrong
    refine Or.inr (Or.inl ⟨pu g1 12 0 (nI s), ?_, a2.to.pu12, a6, w1, w3⟩)
    have ff : f_X12_figures (pu g1 12 0 (nI s)) lo hi = some (0, pu g1 12 0 (nI s)) := by
      unfold f_X12_figures
      rw [if_neg (show ¬ (pu g1 12 0 (nI s)) 12 0 = -1 by rw [pu_s, if_pos rfl, nI_m1 (by omega)]; exact id)]
    unfold f_X12_after
    simp only [bd_s, bd2_s, bd3_s, bd4_s, bd5_s, bd6_s, bd7_s, bd8_s, lr_l, lr_r, nm_s, jn_s, gdb_0, gdb_1, h.2.2.1, if_true, a1, a3, w2, ff]
  · have e12 := a3.2.2.1
    rcases a3.num (hi := hi) hlo with ⟨v, g2, gT2, v9, -, b1, b2, b3, b4, b5, b6, b7, -⟩ | ⟨v, g2, b1, b2, b3, b4, -⟩
    · refine Or.inl ⟨v, g2, gT1, gT2, _, v9, ?_, a2.tr b2, a6, b3, b4, b5, b6, b7.trans a7⟩
      unfold f_X12_after
      simp only [bd_s, bd2_s, bd3_s, bd4_s, bd5_s, bd6_s, bd7_s, bd8_s, lr_l, lr_r, nm_s, jn_s, gdb_0, gdb_1, h.2.2.1, if_true, a1, i10, if_false, b1]
    · refine Or.inr (Or.inr ⟨v, g2, gT1, _, ?_, a2.to.tr b2, a6, b3, b4, ?_⟩)
      · unfold f_X12_after
        simp only [bd_s, bd2_s, bd3_s, bd4_s, bd5_s, bd6_s, bd7_s, bd8_s, lr_l, lr_r, nm_s, jn_s, gdb_0, gdb_1, h.2.2.1, if_true, a1, i10, if_false, b1]
      · rw [pu_o (by decide)]; exact a7
/-! letters -/
theorem q_long (hB : RB g c n) (sn : s ≤ n) : f_X12_wordLong g (nI s) = some (nI (sc isL c n s - s)) := by
  have n4 := hB.2.2.1
  have le := sc_le (p := isL) (c := c) sn
  have ge := sc_ge (p := isL) (c := c) (n := n) (q := s)
  have h10 : g 10 0 = nI n := hB.2.1
  have A : f_X12_wordLong_L2 (nI s) g fu 0 = some (nI (sc isL c n s - s)) := by
    refine lp_seq (fun i => nI i) (sc isL c n s - s) _ (fun i hi r => ?_) (fun r => ?_) (by have := fu_big; omega) rfl
    · obtain ⟨i1, i2⟩ := sc_in (p := isL) (c := c) (n := n) (q := s) (i := s + i) (by omega) (by omega)
      have i3 := of_decide_eq_true i2
      have ni : ¬ n ≤ s + i := by omega
      have c8 := hB.2.2.2 (s + i) i1
      have qb := q_byte hB i1
      have qi : f_X12_isIn (nI (c (s + i))) 97 122 = some 1 := by
        rw [q_isIn, if_pos ⟨nI_le (a := 97) (by omega) (by omega), nI_le (b := 122) (by omega) (by omega)⟩]
      simp (disch := omega) only [bd_s, bd2_s, bd3_s, bd4_s, bd5_s, bd6_s, bd7_s, bd8_s, lr_l, lr_r, nm_s, jn_s, gdb_0, gdb_1, h10, nI_add, nI_leI, ni, if_false, qb, qi, i10, nI_1]
    · have e : s + (sc isL c n s - s) = sc isL c n s := by omega
      by_cases z : n ≤ sc isL c n s
      · simp (disch := omega) only [h10, nI_add, e, nI_leI, z, if_true]
      · have nb := of_decide_eq_false (sc_out (p := isL) (c := c) (n := n) (q := s) (show sc isL c n s < n by omega))
        have qb := q_byte hB (show sc isL c n s < n by omega)
        have c8 := hB.2.2.2 (sc isL c n s) (by omega)
        have qi : f_X12_isIn (nI (c (sc isL c n s))) 97 122 = some 0 := by
          rw [q_isIn, if_neg (fun z => nb ⟨(nI_leI (a := 97) (by omega) (by omega)).mp z.1, (nI_leI (b := 122) (by omega) (by omega)).mp z.2⟩)]
        simp (disch := omega) only [bd_s, bd2_s, bd3_s, bd4_s, bd5_s, bd6_s, bd7_s, bd8_s, lr_l, lr_r, nm_s, jn_s, gdb_0, gdb_1, h10, nI_add, e, nI_leI, z, if_false, qb, qi, if_true]
  unfold f_X12_wordLong
  rw [A]
  rfl
theorem q_areL (hB : RB g c n) {L : Nat} (hL : s + L ≤ n) : f_X12_areLetters g (nI s) (nI L) = some (if gd c s L then 1 else 0) := by
  have n4 := hB.2.2.1
  have A : ∀ b : Bool, (b = decide (0 < L)) → f_X12_areLetters_L13 (nI s) (nI L) g fu ((if b then 1 else 0), 0) = some (if gd c s L then 1 else 0) := by
    intro b hb
    have H : ∃ x, f_X12_areLetters_L13 (nI s) (nI L) g fu ((if b then 1 else 0), 0) = some x ∧ x = if gd c s L then 1 else 0 := by
      refine lp_inv (fun i a => (a = (1, nI i) ∧ 0 < L ∧ ∀ j, j < i → c (s + j) ≤ 104) ∨ (a = (0, nI i) ∧ gd c s L = false)) L (fun x : Int32 => x = if gd c s L then 1 else 0) ?_ ?_ (by have := fu_big; omega) ?_
      · rintro i hi _ (⟨rfl, h0, hp⟩ | ⟨rfl, hp⟩)
        · have ni : ¬ L ≤ i := by omega
          have qb := q_byte hB (show s + i < n by omega)
          have c8 := hB.2.2.2 (s + i) (by omega)
          by_cases z : 104 < c (s + i)
          · refine Or.inl ⟨(0, nI (i + 1)), Or.inr ⟨rfl, decide_eq_false (fun y => by have := y.2 i hi; omega)⟩, fun r => ?_⟩
            simp (disch := omega) only [bd_s, bd2_s, bd3_s, bd4_s, bd5_s, bd6_s, bd7_s, bd8_s, lr_l, lr_r, nm_s, jn_s, gdb_0, gdb_1, li_2, li_3, li_4, li_5, li_6, li_7, li_8, li_9, li_10, li_11, li_12, li_13, li_14, li_15, li_16, li_20, li_24, li_32, li_40, li_41, li_43, li_48, li_57, li_59, li_60, li_62, li_63, li_76, li_96, li_97, li_99, li_100, li_104, li_116, li_122, li_128, li_129, li_216, li_217, li_218, li_219, li_239, li_240, li_255, li_256, li_257, li_400, li_456, li_856, li_999, li_1000, li_1001, li_1002, li_1003, li_1004, li_1005, li_1006, li_1007, li_1008, li_1161, li_2000, li_2001, li_2002, li_2003, li_2004, li_2005, li_5016, li_5472, li_9999, li_10000, li_32767, li_1000000, li_2000000000, nI_add, nI_mul, nI_sub, nI_clamp, nI_leI, nI_ltI, nI_eq, gdi_n, nI_1, nI_eq0, nI_eq1, nI_le0, nI_le1, nI_0le, nI_lt0, nI_0lt, nI_m1, Int32.add_zero, Nat.le_refl, if_true, if_false, Bool.false_eq_true, Bool.true_eq_false, i10, i01, im0, im1, i0m, i1m, l10, l00, l01, t10, t00, ni, qb, z]
          · refine Or.inl ⟨(1, nI (i + 1)), Or.inl ⟨rfl, h0, fun j hj => ?_⟩, fun r => ?_⟩
            · rcases Nat.lt_succ_iff_lt_or_eq.mp hj with y | y
              · exact hp j y
              · rw [y]; omega
            · simp (disch := omega) only [bd_s, bd2_s, bd3_s, bd4_s, bd5_s, bd6_s, bd7_s, bd8_s, lr_l, lr_r, nm_s, jn_s, gdb_0, gdb_1, li_2, li_3, li_4, li_5, li_6, li_7, li_8, li_9, li_10, li_11, li_12, li_13, li_14, li_15, li_16, li_20, li_24, li_32, li_40, li_41, li_43, li_48, li_57, li_59, li_60, li_62, li_63, li_76, li_96, li_97, li_99, li_100, li_104, li_116, li_122, li_128, li_129, li_216, li_217, li_218, li_219, li_239, li_240, li_255, li_256, li_257, li_400, li_456, li_856, li_999, li_1000, li_1001, li_1002, li_1003, li_1004, li_1005, li_1006, li_1007, li_1008, li_1161, li_2000, li_2001, li_2002, li_2003, li_2004, li_2005, li_5016, li_5472, li_9999, li_10000, li_32767, li_1000000, li_2000000000, nI_add, nI_mul, nI_sub, nI_clamp, nI_leI, nI_ltI, nI_eq, gdi_n, nI_1, nI_eq0, nI_eq1, nI_le0, nI_le1, nI_0le, nI_lt0, nI_0lt, nI_m1, Int32.add_zero, Nat.le_refl, if_true, if_false, Bool.false_eq_true, Bool.true_eq_false, i10, i01, im0, im1, i0m, i1m, l10, l00, l01, t10, t00, ni, qb, z]
        · have ni : ¬ L ≤ i := by omega
          refine Or.inl ⟨(0, nI (i + 1)), Or.inr ⟨rfl, hp⟩, fun r => ?_⟩
          simp (disch := omega) only [bd_s, bd2_s, bd3_s, bd4_s, bd5_s, bd6_s, bd7_s, bd8_s, lr_l, lr_r, nm_s, jn_s, gdb_0, gdb_1, li_2, li_3, li_4, li_5, li_6, li_7, li_8, li_9, li_10, li_11, li_12, li_13, li_14, li_15, li_16, li_20, li_24, li_32, li_40, li_41, li_43, li_48, li_57, li_59, li_60, li_62, li_63, li_76, li_96, li_97, li_99, li_100, li_104, li_116, li_122, li_128, li_129, li_216, li_217, li_218, li_219, li_239, li_240, li_255, li_256, li_257, li_400, li_456, li_856, li_999, li_1000, li_1001, li_1002, li_1003, li_1004, li_1005, li_1006, li_1007, li_1008, li_1161, li_2000, li_2001, li_2002, li_2003, li_2004, li_2005, li_5016, li_5472, li_9999, li_10000, li_32767, li_1000000, li_2000000000, nI_add, nI_mul, nI_sub, nI_clamp, nI_leI, nI_ltI, nI_eq, gdi_n, nI_1, nI_eq0, nI_eq1, nI_le0, nI_le1, nI_0le, nI_lt0, nI_0lt, nI_m1, Int32.add_zero, Nat.le_refl, if_true, if_false, Bool.false_eq_true, Bool.true_eq_false, i10, i01, im0, im1, i0m, i1m, l10, l00, l01, t10, t00, ni]
      · rintro _ (⟨rfl, h0, hp⟩ | ⟨rfl, hp⟩)
        · refine ⟨1, by rw [show gd c s L = true from decide_eq_true ⟨h0, hp⟩]; rfl, fun r => ?_⟩
          simp (disch := omega) only [bd_s, bd2_s, bd3_s, bd4_s, bd5_s, bd6_s, bd7_s, bd8_s, lr_l, lr_r, nm_s, jn_s, gdb_0, gdb_1, li_2, li_3, li_4, li_5, li_6, li_7, li_8, li_9, li_10, li_11, li_12, li_13, li_14, li_15, li_16, li_20, li_24, li_32, li_40, li_41, li_43, li_48, li_57, li_59, li_60, li_62, li_63, li_76, li_96, li_97, li_99, li_100, li_104, li_116, li_122, li_128, li_129, li_216, li_217, li_218, li_219, li_239, li_240, li_255, li_256, li_257, li_400, li_456, li_856, li_999, li_1000, li_1001, li_1002, li_1003, li_1004, li_1005, li_1006, li_1007, li_1008, li_1161, li_2000, li_2001, li_2002, li_2003, li_2004, li_2005, li_5016, li_5472, li_9999, li_10000, li_32767, li_1000000, li_2000000000, nI_add, nI_mul, nI_sub, nI_clamp, nI_leI, nI_ltI, nI_eq, gdi_n, nI_1, nI_eq0, nI_eq1, nI_le0, nI_le1, nI_0le, nI_lt0, nI_0lt, nI_m1, Int32.add_zero, Nat.le_refl, if_true, if_false, Bool.false_eq_true, Bool.true_eq_false, i10, i01, im0, im1, i0m, i1m, l10, l00, l01, t10, t00]
          done
        · refine ⟨0, by rw [hp]; rfl, fun r => ?_⟩
          simp (disch := omega) only [bd_s, bd2_s, bd3_s, bd4_s, bd5_s, bd6_s, bd7_s, bd8_s, lr_l, lr_r, nm_s, jn_s, gdb_0, gdb_1, li_2, li_3, li_4, li_5, li_6, li_7, li_8, li_9, li_10, li_11, li_12, li_13, li_14, li_15, li_16, li_20, li_24, li_32, li_40, li_41, li_43, li_48, li_57, li_59, li_60, li_62, li_63, li_76, li_96, li_97, li_99, li_100, li_104, li_116, li_122, li_128, li_129, li_216, li_217, li_218, li_219, li_239, li_240, li_255, li_256, li_257, li_400, li_456, li_856, li_999, li_1000, li_1001, li_1002, li_1003, li_1004, li_1005, li_1006, li_1007, li_1008, li_1161, li_2000, li_2001, li_2002, li_2003, li_2004, li_2005, li_5016, li_5472, li_9999, li_10000, li_32767, li_1000000, li_2000000000, nI_add, nI_mul, nI_sub, nI_clamp, nI_leI, nI_ltI, nI_eq, gdi_n, nI_1, nI_eq0, nI_eq1, nI_le0, nI_le1, nI_0le, nI_lt0, nI_0lt, nI_m1, Int32.add_zero, Nat.le_refl, if_true, if_false, Bool.false_eq_true, Bool.true_eq_false, i10, i01, im0, im1, i0m, i1m, l10, l00, l01, t10, t00]
          done
      · cases b with
        | true => exact Or.inl ⟨rfl, of_decide_eq_true hb.symm, fun j hj => absurd hj (Nat.not_lt_zero j)⟩
        | false => exact Or.inr ⟨rfl, decide_eq_false (fun y => of_decide_eq_false hb.symm y.1)⟩
    obtain ⟨x, h1, rfl⟩ := H
    exact h1
  unfold f_X12_areLetters
  by_cases z : 0 < L
  · have e : ¬ nI L ≤ 0 := by rw [nI_le0 (by omega)]; omega
    have := A true (decide_eq_true z).symm
    rw [show ((if (true : Bool) = true then (1 : Int32) else 0), (0 : Int32)) = (1, 0) from rfl] at this
    simp only [jn_s, e, if_false, this, bd_s]
    cases gd c s L <;> rfl
  · have e : nI L ≤ 0 := by rw [nI_le0 (by omega)]; omega
    have := A false (decide_eq_false z).symm
    rw [show ((if (false : Bool) = true then (1 : Int32) else 0), (0 : Int32)) = (0, 0) from rfl] at this
    simp only [jn_s, e, if_true, this, bd_s]
    cases gd c s L <;> rfl
theorem k_lett (hT : TK gT c n s) {i : Nat} (hi : s + i < n) : f_X10_letterOfName gT (nI i) = some (if 97 ≤ c (s + i) ∧ c (s + i) ≤ 104 then nI (c (s + i) - 97) else -1) := by
  obtain ⟨t2, n4, hb, t4, sn, -⟩ := hT
  obtain ⟨b1, b2⟩ := hb (s + i) hi
  unfold f_X10_letterOfName
  by_cases z : 97 ≤ c (s + i)
  · by_cases y : c (s + i) ≤ 104
    · have y2 : c (s + i) - 97 < 8 := by omega
      rw [if_pos ⟨z, y⟩]
      simp (disch := omega) only [bd_s, bd2_s, bd3_s, bd4_s, bd5_s, bd6_s, bd7_s, bd8_s, lr_l, lr_r, nm_s, jn_s, gdb_0, gdb_1, li_2, li_3, li_4, li_5, li_6, li_7, li_8, li_9, li_10, li_11, li_12, li_13, li_14, li_15, li_16, li_20, li_24, li_32, li_40, li_41, li_43, li_48, li_57, li_59, li_60, li_62, li_63, li_76, li_96, li_97, li_99, li_100, li_104, li_116, li_122, li_128, li_129, li_216, li_217, li_218, li_219, li_239, li_240, li_255, li_256, li_257, li_400, li_456, li_856, li_999, li_1000, li_1001, li_1002, li_1003, li_1004, li_1005, li_1006, li_1007, li_1008, li_1161, li_2000, li_2001, li_2002, li_2003, li_2004, li_2005, li_5016, li_5472, li_9999, li_10000, li_32767, li_1000000, li_2000000000, nI_add, nI_mul, nI_sub, nI_clamp, nI_leI, nI_ltI, nI_eq, gdi_n, nI_1, nI_eq0, nI_eq1, nI_le0, nI_le1, nI_0le, nI_lt0, nI_0lt, nI_m1, Int32.add_zero, Nat.le_refl, if_true, if_false, Bool.false_eq_true, Bool.true_eq_false, i10, i01, im0, im1, i0m, i1m, l10, l00, l01, t10, t00, t4, b1, y2]
    · have y2 : ¬ c (s + i) - 97 < 8 := by omega
      rw [if_neg (fun w => y w.2)]
      simp (disch := omega) only [bd_s, bd2_s, bd3_s, bd4_s, bd5_s, bd6_s, bd7_s, bd8_s, lr_l, lr_r, nm_s, jn_s, gdb_0, gdb_1, li_2, li_3, li_4, li_5, li_6, li_7, li_8, li_9, li_10, li_11, li_12, li_13, li_14, li_15, li_16, li_20, li_24, li_32, li_40, li_41, li_43, li_48, li_57, li_59, li_60, li_62, li_63, li_76, li_96, li_97, li_99, li_100, li_104, li_116, li_122, li_128, li_129, li_216, li_217, li_218, li_219, li_239, li_240, li_255, li_256, li_257, li_400, li_456, li_856, li_999, li_1000, li_1001, li_1002, li_1003, li_1004, li_1005, li_1006, li_1007, li_1008, li_1161, li_2000, li_2001, li_2002, li_2003, li_2004, li_2005, li_5016, li_5472, li_9999, li_10000, li_32767, li_1000000, li_2000000000, nI_add, nI_mul, nI_sub, nI_clamp, nI_leI, nI_ltI, nI_eq, gdi_n, nI_1, nI_eq0, nI_eq1, nI_le0, nI_le1, nI_0le, nI_lt0, nI_0lt, nI_m1, Int32.add_zero, Nat.le_refl, if_true, if_false, Bool.false_eq_true, Bool.true_eq_false, i10, i01, im0, im1, i0m, i1m, l10, l00, l01, t10, t00, t4, b1, y2]
  · have e : nI (c (s + i)) - 97 < 0 := by
      have a := nI_toInt (n := c (s + i)) (by omega)
      have b := nI_toInt (n := 97) (by omega)
      rw [li_97, Int32.lt_iff_toInt_lt, Int32.toInt_sub, a, b, Int32.toInt_zero, Int.bmod_eq_of_le (by omega) (by omega)]
      omega
    rw [if_neg (fun w => z w.1)]
    simp (disch := omega) only [bd_s, bd2_s, bd3_s, bd4_s, bd5_s, bd6_s, bd7_s, bd8_s, lr_l, lr_r, nm_s, jn_s, gdb_0, gdb_1, t4, nI_add, gdi_n, nI_clamp, b1, e, if_true]
/-! tempo, slip, minute -/
theorem e_tells (h : EV g gT gD gL c n s) {P K lo hi : Nat} (hP : (P = 7 ∧ K = 13 ∧ lo = 1 ∧ hi = 9) ∨ (P = 8 ∧ K = 14 ∧ lo = 0 ∧ hi = 100) ∨ (P = 9 ∧ K = 15 ∧ lo = 0 ∧ hi = 999)) : LRes g gT gL c n (f_X12_tells g (nI P) (nI lo) (nI hi)) (bd2 (f_X10_takeNumber gT (nI lo) (nI hi)) (fun r_9 g1_9 => nm (pu gD K 0 r_9) (fun g2_10 => jn (fun (s0_J189 : Int32) => gdb s0_J189 (some (s0_J189, g1_9, g2_10))) (fun J189 => (if (g2_10 K 0) = (-1) then J189 0 else J189 1))))) := by
  obtain ⟨hp, hO, hR⟩ := h
  have hlo : (-1 : Int32) < nI lo := by
    rw [Int32.lt_iff_toInt_lt, nI_toInt (by omega), show (-1 : Int32).toInt = -1 by decide]; omega
  rcases hp.num (hi := nI hi) hlo with ⟨v, g2, gT2, v9, -, b1, b2, b3, b4, b5, b6, b7, -⟩ | ⟨v, g2, b1, b2, b3, b4, -⟩
  · have e12 := b4.2.2.1
    have v1 := (nI_leI (by omega) (by omega)).mp b5
    have v2 := (nI_leI (by omega) (by omega)).mp b6
    have e1 : g2 1 = g 1 := b2 1 (by decide)
    refine Or.inl ⟨pu g2 1 P (nI v), gT2, pu gD K 0 (nI v), _, ?_, ?_, ⟨b4.row1 (fun k hk => pu_o hk) (fun p hp => by rw [pu_s, if_neg (by omega)]), ?_, ?_⟩, ?_, b7⟩
    · unfold f_X12_tells
      simp (disch := omega) only [bd_s, bd2_s, bd3_s, bd4_s, bd5_s, bd6_s, bd7_s, bd8_s, lr_l, lr_r, nm_s, jn_s, gdb_0, gdb_1, b1, e12, if_true, gdi_n, nI_clamp]
    · have ek : ¬ (pu gD K 0 (nI v)) K 0 = -1 := by rw [pu_s, if_pos rfl, nI_m1 (by omega)]; exact id
      simp only [bd_s, bd2_s, bd3_s, bd4_s, bd5_s, bd6_s, bd7_s, bd8_s, lr_l, lr_r, nm_s, jn_s, gdb_0, gdb_1, b3, ek, if_false]
    · show Ok (upd (g2 1) P (nI v))
      rw [e1]
      exact hO.sc (by omega) (by omega) (fun z => Bn.mk (by omega) (by omega) (by omega)) (fun z => Bn.mk (by omega) (by omega) (by omega)) (fun z => Bn.mk (by omega) (by omega) (by omega))
    · show RS (pu gD K 0 (nI v)) gL (upd (g2 1) P (nI v))
      rw [e1]
      exact hR.sc hO (by omega)
    · refine ⟨fun k h1 h2 h3 => by rw [pu_o h1]; exact b2 k h2, fun p hp => ?_, ?_, fun p hp => ?_⟩
      · rw [pu_s, if_neg (by omega), e1]
      · rw [pu_s, if_neg (by omega), e1]
      · rw [pu_s, if_neg (by omega), e1]
  · have b5 := b4
    obtain ⟨e, e1, e2, e3, -⟩ := b4
    have n4 := hp.n4
    have ne : ¬ g2 12 0 = -1 := by rw [e2, nI_m1 (by omega)]; exact id
    refine Or.inr ⟨g2, pu gT 7 0 (nI s), pu gD K 0 (-1), ?_, ?_, b5, b2.fr, by rw [pu_o (by decide)]⟩
    · unfold f_X12_tells
      simp only [bd_s, bd2_s, bd3_s, bd4_s, bd5_s, bd6_s, bd7_s, bd8_s, lr_l, lr_r, nm_s, jn_s, gdb_0, gdb_1, b1, ne, if_false]
    · have ek : (pu gD K 0 (-1)) K 0 = -1 := by rw [pu_s, if_pos rfl]
      simp only [bd_s, bd2_s, bd3_s, bd4_s, bd5_s, bd6_s, bd7_s, bd8_s, lr_l, lr_r, nm_s, jn_s, gdb_0, gdb_1, b3, ek, if_true]
end K23
