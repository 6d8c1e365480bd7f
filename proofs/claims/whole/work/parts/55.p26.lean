/-! letters as a set; a writer's line -/
def sS (c : Nat → Nat) (s : Nat) : Nat → Nat := itr (fun i v => v ||| 2 ^ (c (s + i) - 97)) 0
theorem sS_s (c : Nat → Nat) (s i : Nat) : sS c s (i + 1) = sS c s i ||| 2 ^ (c (s + i) - 97) := rfl
theorem sS_lt {c : Nat → Nat} {s i : Nat} (h : ∀ j, j < i → c (s + j) ≤ 104) : sS c s i < 2 ^ 8 := by
  induction i with
  | zero => exact Nat.two_pow_pos 8
  | succ i ih =>
    rw [sS_s]
    exact Nat.or_lt_two_pow (ih (fun j hj => h j (by omega))) (Nat.pow_lt_pow_right (by decide) (by have := h i (by omega); omega))
theorem and_bit {x j : Nat} (hx : x < 256) (hj : j < 8) : (nI x &&& nI (2 ^ j) = 0) = (x.testBit j = false) := by
  rw [nx_and, nI_eq0 (Nat.lt_of_le_of_lt Nat.and_le_left (by omega))]
  apply propext
  constructor
  · intro h
    have := congrArg (fun y => y.testBit j) h
    simpa [Nat.testBit_and, Nat.testBit_two_pow_self] using this
  · intro h
    apply Nat.eq_of_testBit_eq
    intro i
    rw [Nat.testBit_and, Nat.testBit_two_pow, Nat.zero_testBit]
    by_cases z : j = i
    · subst z; rw [h]; rfl
    · simp [z]
section K26
variable {m : Nat → Int32} {g g0 gT gT0 gD gL gS gS' : Pic} {c : Nat → Nat} {n q s s0 : Nat}
theorem PR.lset (h : PR g gT c n s) (gE gD : Pic) : (∃ v g' gT' s', v ≤ 255 ∧ f_X12_letterSet g = some (nI v, g') ∧ E11 g g' ∧ f_X2_takeLetterSet gE gT gD = some (nI v, gT') ∧ PR g' gT' c n s' ∧ gT' 1 = gT 1) ∨ (∃ v g', f_X12_letterSet g = some (v, g') ∧ E12 g g' ∧ f_X2_takeLetterSet gE gT gD = some (-1, pu gT 7 0 (nI s)) ∧ FL g' (pu gT 7 0 (nI s)) n) := by
  have n4 := h.n4
  have e12 := h.2.2.1
  obtain ⟨g1, a1, a2, a3, a4⟩ := h.skip
  have hB := h.1.e11 a2
  have sn := h.sn
  have hh : f_X12_here g = some (nI s, g1) := by unfold f_X12_here; rw [a1]; simp only [bd_s, a3]
  have le := sc_le (p := isL) (c := c) sn
  have ge := sc_ge (p := isL) (c := c) (n := n) (q := s)
  have ql := q_long hB sn
  have qa := q_areL hB (s := s) (L := sc isL c n s - s) (by omega)
  have TKv := h.2.2.2.1
  have kr := k_refuse h.2.2.2.2 TKv.2.2.2.1
  obtain ⟨w1, w2, w3⟩ := a4.wrong
  have t4 := TKv.2.2.2.1
  obtain ⟨L, hL⟩ : ∃ L, sc isL c n s - s = L := ⟨_, rfl⟩
  rw [hL] at ql qa
  have lets : ∀ i, i < L → 97 ≤ c (s + i) := fun i hi => (of_decide_eq_true (sc_in (p := isL) (c := c) (n := n) (q := s) (i := s + i) (by omega) (by omega)).2).1
  -- the reference's loop, where the letters are good
  have R : gd c s L = true → ∃ x, f_X12_letterSet_L34 (nI s) (nI L) g1 fu (1, 0, 0) = some x ∧ ((x = (1, nI (sS c s L)) ∧ ∀ i, i < L → (sS c s i).testBit (c (s + i) - 97) = false) ∨ ((∃ y, x = (0, y)) ∧ ∃ i, i < L ∧ (∀ j, j < i → (sS c s j).testBit (c (s + j) - 97) = false) ∧ (sS c s i).testBit (c (s + i) - 97) = true)) := by
    intro hg
    have g4 := (of_decide_eq_true hg).2
    refine lp_inv (fun i a => (a = (1, nI (sS c s i), nI i) ∧ ∀ j, j < i → (sS c s j).testBit (c (s + j) - 97) = false) ∨ ((∃ y, a = (0, y, nI i)) ∧ ∃ i, i < L ∧ (∀ j, j < i → (sS c s j).testBit (c (s + j) - 97) = false) ∧ (sS c s i).testBit (c (s + i) - 97) = true)) L (fun x : Int32 × Int32 => (x = (1, nI (sS c s L)) ∧ ∀ i, i < L → (sS c s i).testBit (c (s + i) - 97) = false) ∨ ((∃ y, x = (0, y)) ∧ ∃ i, i < L ∧ (∀ j, j < i → (sS c s j).testBit (c (s + j) - 97) = false) ∧ (sS c s i).testBit (c (s + i) - 97) = true)) ?_ ?_ (by have := fu_big; omega) (Or.inl ⟨rfl, fun j hj => absurd hj (Nat.not_lt_zero j)⟩)
    · rintro i hi _ (⟨rfl, hp⟩ | ⟨⟨y, rfl⟩, hp⟩)
      · have ni : ¬ L ≤ i := by omega
        have qb := q_byte hB (show s + i < n by omega)
        have c4 := g4 i hi
        have c9 := lets i hi
        have x8 := sS_lt (c := c) (s := s) (i := i) (fun j hj => g4 j (by omega))
        have sh : (1 : Int32) <<< (nI (c (s + i) - 97) &&& 31) = nI (2 ^ (c (s + i) - 97)) := sh_n (by omega)
        have ab := and_bit (x := sS c s i) (j := c (s + i) - 97) x8 (by omega)
        cases b : (sS c s i).testBit (c (s + i) - 97) with
        | false =>
          refine Or.inl ⟨(1, nI (sS c s (i + 1)), nI (i + 1)), Or.inl ⟨rfl, fun j hj => ?_⟩, fun r => ?_⟩
          · rcases Nat.lt_succ_iff_lt_or_eq.mp hj with w | w
            · exact hp j w
            · rw [w]; exact b
          · rw [sS_s]
            simp (disch := omega) only [bd_s, bd2_s, bd3_s, bd4_s, bd5_s, bd6_s, bd7_s, bd8_s, lr_l, lr_r, nm_s, jn_s, gdb_0, gdb_1, nI_leI, ni, if_false, i10, nI_add, qb, li_97, nI_sub, sh, ab, b, if_true, nx_or, nI_1]
        | true =>
          refine Or.inl ⟨(0, nI (sS c s i ||| 2 ^ (c (s + i) - 97)), nI (i + 1)), Or.inr ⟨⟨_, rfl⟩, i, hi, hp, b⟩, fun r => ?_⟩
          simp (disch := omega) only [bd_s, bd2_s, bd3_s, bd4_s, bd5_s, bd6_s, bd7_s, bd8_s, lr_l, lr_r, nm_s, jn_s, gdb_0, gdb_1, nI_leI, ni, if_false, i10, nI_add, qb, li_97, nI_sub, sh, ab, b, Bool.true_eq_false, nx_or, nI_1]
      · have ni : ¬ L ≤ i := by omega
        refine Or.inr ⟨(0, y), Or.inr ⟨⟨y, rfl⟩, hp⟩, fun r => ?_⟩
        simp (disch := omega) only [bd_s, bd2_s, bd3_s, bd4_s, bd5_s, bd6_s, bd7_s, bd8_s, lr_l, lr_r, nm_s, jn_s, gdb_0, gdb_1, nI_leI, ni, if_false, if_true]
    · rintro _ (⟨rfl, hp⟩ | ⟨⟨y, rfl⟩, hp⟩)
      · refine ⟨_, Or.inl ⟨rfl, hp⟩, fun r => ?_⟩
        simp (disch := omega) only [nI_leI, Nat.le_refl, if_true]
      · refine ⟨_, Or.inr ⟨⟨y, rfl⟩, hp⟩, fun r => ?_⟩
        simp (disch := omega) only [nI_leI, Nat.le_refl, if_true]
  -- wrong for the reference
  have bad : f_X2_takeLetterSet gE gT gD = some (-1, pu gT 7 0 (nI s)) → (gd c s L = false ∨ ∃ i, i < L ∧ (sS c s i).testBit (c (s + i) - 97) = true) → (∃ v g', f_X12_letterSet g = some (v, g') ∧ E12 g g' ∧ f_X2_takeLetterSet gE gT gD = some (-1, pu gT 7 0 (nI s)) ∧ FL g' (pu gT 7 0 (nI s)) n) := by
    intro hc hb
    refine ⟨0, pu g1 12 0 (nI s), ?_, a2.to.pu12, hc, w3⟩
    unfold f_X12_letterSet
    cases hg : gd c s L with
    | false =>
      rw [hg] at qa
      have qa : f_X12_areLetters g1 (nI s) (nI L) = some 0 := qa
      have L0 : f_X12_letterSet_L34 (nI s) (nI L) g1 fu (0, 0, 0) = some (0, 0) := by
        refine lp_seq (fun _ => (0, 0, 0)) 0 _ (fun k hk => absurd hk (Nat.not_lt_zero k)) (fun r => ?_) (by have := fu_big; omega) rfl
        simp only [if_true]
        split <;> rfl
      rw [if_pos e12, hh, bd2_s, ql, bd_s, qa, bd_s, L0, bd_s]
      simp only [if_true, w2, bd_s]
    | true =>
      rw [hg] at qa
      have qa : f_X12_areLetters g1 (nI s) (nI L) = some 1 := qa
      obtain ⟨x, R1, ⟨-, R2⟩ | ⟨⟨y, rfl⟩, -⟩⟩ := R hg
      · rcases hb with z | ⟨i, hi, z⟩
        · rw [hg] at z; cases z
        · rw [R2 i hi] at z; cases z
      · rw [if_pos e12, hh, bd2_s, ql, bd_s, qa, bd_s, R1, bd_s]
        simp only [if_true, w2, bd_s]
  by_cases k1 : gT 3 0 = 1
  · have tk : s < n ∧ isL (c s) = true ∧ gT 5 0 = nI (sc isL c n s) := by
      rcases TKv.2.2.2.2.2 with ⟨z, k3, -⟩ | ⟨z, hl, k3, t5, -⟩ | ⟨z, hd, k3, -⟩ | ⟨z, -, hd, k3, -⟩
      · rw [k3] at k1; exact absurd k1 (by decide)
      · exact ⟨z, hl, t5⟩
      · rw [k3] at k1; exact absurd k1 (by decide)
      · rw [k3] at k1; exact absurd k1 (by decide)
    obtain ⟨sl, hl, t5⟩ := tk
    have l0 : 0 < L := by
      have := sc_go (p := isL) (c := c) sl hl
      have := sc_ge (p := isL) (c := c) (n := n) (q := s + 1)
      omega
    have hsub : (gT 5 0) - (gT 4 0) = nI L := by rw [t5, t4, nI_sub (by omega), hL]
    have A : ∃ x, f_X2_takeLetterSet_L25 gE gD fu (0, 0, gT) = some x ∧ ((x = .inr (nI (sS c s L), gT) ∧ (∀ i, i < L → c (s + i) ≤ 104) ∧ ∀ i, i < L → (sS c s i).testBit (c (s + i) - 97) = false) ∨ (x = .inl (-1, pu gT 7 0 (nI s)) ∧ (gd c s L = false ∨ ∃ i, i < L ∧ (sS c s i).testBit (c (s + i) - 97) = true))) := by
      refine lp_inv (fun i a => a = (nI (sS c s i), nI i, gT) ∧ (∀ j, j < i → c (s + j) ≤ 104) ∧ ∀ j, j < i → (sS c s j).testBit (c (s + j) - 97) = false) L (fun x : (Int32 × Pic) ⊕ (Int32 × Pic) => (x = .inr (nI (sS c s L), gT) ∧ (∀ i, i < L → c (s + i) ≤ 104) ∧ ∀ i, i < L → (sS c s i).testBit (c (s + i) - 97) = false) ∨ (x = .inl (-1, pu gT 7 0 (nI s)) ∧ (gd c s L = false ∨ ∃ i, i < L ∧ (sS c s i).testBit (c (s + i) - 97) = true))) ?_ ?_ (by have := fu_big; omega) ⟨rfl, fun j hj => absurd hj (Nat.not_lt_zero j), fun j hj => absurd hj (Nat.not_lt_zero j)⟩
      · rintro i hi _ ⟨rfl, hc, hp⟩
        have ni : ¬ L ≤ i := by omega
        have kl := k_lett TKv (show s + i < n by omega)
        have c9 := lets i hi
        have x8 := sS_lt (c := c) (s := s) (i := i) hc
        by_cases z : c (s + i) ≤ 104
        · rw [if_pos ⟨c9, z⟩] at kl
          have b1 : ((nI (sS c s i) >>> (nI (c (s + i) - 97) &&& 31)) &&& 1 = 1) = (bt (nI (sS c s i)) (c (s + i) - 97) = true) := bt_1 (by omega)
          rw [bt_n (by omega)] at b1
          have sh : (1 : Int32) <<< (nI (c (s + i) - 97) &&& 31) = nI (2 ^ (c (s + i) - 97)) := sh_n (by omega)
          have nm1 : ¬ nI (c (s + i) - 97) = -1 := by rw [nI_m1 (by omega)]; exact id
          cases b : (sS c s i).testBit (c (s + i) - 97) with
          | false =>
            refine Or.inl ⟨(nI (sS c s (i + 1)), nI (i + 1), gT), ⟨rfl, fun j hj => ?_, fun j hj => ?_⟩, fun r => ?_⟩
            · rcases Nat.lt_succ_iff_lt_or_eq.mp hj with w | w
              · exact hc j w
              · rw [w]; exact z
            · rcases Nat.lt_succ_iff_lt_or_eq.mp hj with w | w
              · exact hp j w
              · rw [w]; exact b
            · rw [sS_s]
              simp (disch := omega) only [bd_s, bd2_s, bd3_s, bd4_s, bd5_s, bd6_s, bd7_s, bd8_s, lr_l, lr_r, nm_s, jn_s, gdb_0, gdb_1, hsub, nI_leI, ni, if_false, kl, nm1, b1, b, Bool.false_eq_true, sh, nx_or, nI_1]
          | true =>
            refine Or.inr ⟨.inl (-1, pu gT 7 0 (nI s)), Or.inr ⟨rfl, Or.inr ⟨i, hi, b⟩⟩, fun r => ?_⟩
            simp (disch := omega) only [bd_s, bd2_s, bd3_s, bd4_s, bd5_s, bd6_s, bd7_s, bd8_s, lr_l, lr_r, nm_s, jn_s, gdb_0, gdb_1, hsub, nI_leI, ni, if_false, kl, nm1, b1, b, if_true, kr]
        · rw [if_neg (fun w => z w.2)] at kl
          refine Or.inr ⟨.inl (-1, pu gT 7 0 (nI s)), Or.inr ⟨rfl, Or.inl (decide_eq_false (fun w => z (w.2 i hi)))⟩, fun r => ?_⟩
          simp (disch := omega) only [bd_s, bd2_s, bd3_s, bd4_s, bd5_s, bd6_s, bd7_s, bd8_s, lr_l, lr_r, nm_s, jn_s, gdb_0, gdb_1, hsub, nI_leI, ni, if_false, kl, if_true, kr]
      · rintro _ ⟨rfl, hc, hp⟩
        refine ⟨_, Or.inl ⟨rfl, hc, hp⟩, fun r => ?_⟩
        simp (disch := omega) only [hsub, nI_leI, Nat.le_refl, if_true]
    obtain ⟨x, A1, ⟨rfl, A2, A3⟩ | ⟨rfl, A2⟩⟩ := A
    · have hg : gd c s L = true := decide_eq_true ⟨l0, A2⟩
      rw [hg] at qa
      have qa : f_X12_areLetters g1 (nI s) (nI L) = some 1 := qa
      obtain ⟨x, R1, ⟨rfl, -⟩ | ⟨-, i, hi, -, z⟩⟩ := R hg
      · obtain ⟨gT1, s1, s2, s3, s4⟩ := TKv.stepOk t5 le
        have sL : nI s + nI L = nI (sc isL c n s) := by rw [nI_add]; congr 1; omega
        have x8 := sS_lt A2
        refine Or.inl ⟨sS c s L, pu g1 11 0 (nI (sc isL c n s)), gT1, _, by omega, ?_, a2.pu, ?_, h.move a2.pu le (by rw [pu_s, if_pos rfl]) s2 s3, s4⟩
        · unfold f_X12_letterSet
          rw [if_pos e12, hh, bd2_s, ql, bd_s, qa, bd_s, R1, bd_s]
          simp only [i10, if_false, nm_s, sL]
        · unfold f_X2_takeLetterSet
          rw [if_pos k1, A1, lr_r]
          simp only [s1, bd_s]
      · rw [A3 i hi] at z; cases z
    · refine Or.inr (bad ?_ A2)
      unfold f_X2_takeLetterSet
      rw [if_pos k1, A1]
      rfl
  · have nl : s < n → isL (c s) = false := by
      rcases TKv.2.2.2.2.2 with ⟨z, k3, -⟩ | ⟨z, hl, k3, -⟩ | ⟨z, hd, k3, -⟩ | ⟨z, hl, hd, k3, -⟩
      · intro y; omega
      · exact absurd k3 k1
      · exact fun _ => decide_eq_false (fun y => by have := of_decide_eq_true hd; omega)
      · exact fun _ => hl
    refine Or.inr (bad ?_ (Or.inl (decide_eq_false (fun z => by have := z.1; rw [sc_stop nl] at hL; omega))))
    unfold f_X2_takeLetterSet
    rw [if_neg k1, kr]
    rfl
/-- a number that may be told behind its word -/
theorem PR.opt (h : PR g gT c n s) {k hi : Nat} (hk : strOk k) (hh : hi ≤ 999) : (∃ v g' gT' s', v ≤ hi ∧ E11 g g' ∧ PR g' gT' c n s' ∧ gT' 1 = gT 1 ∧ (∀ J : Int32 → Pic → Option Pic, jn J (fun J53 => jn (fun (g0_J52 : Pic) => J53 0 g0_J52) (fun J52 => (if (g 12 0) = (-1) then bd2 (f_X12_has k g) (fun r_16 g0_16 => (if r_16 = 0 then J52 g0_16 else bd2 (f_X12_figures g0_16 0 (nI hi)) (fun r_17 g0_17 => J53 r_17 g0_17))) else J52 g))) = J (nI v) g') ∧ ∀ K : Int32 → Pic → Option (Int32 × Pic × Pic), bd2 (f_X10_takesName k gT) (fun r_5 g1_5 => jn K (fun J92 => (if r_5 = 0 then J92 0 g1_5 else bd2 (f_X10_takeNumber g1_5 0 (nI hi)) (fun r_11 g1_11 => J92 r_11 g1_11)))) = K (nI v) gT') ∨
    (∃ v g' gT', E12 g g' ∧ FL g' gT' n ∧ gT' 1 = gT 1 ∧ (∀ J : Int32 → Pic → Option Pic, jn J (fun J53 => jn (fun (g0_J52 : Pic) => J53 0 g0_J52) (fun J52 => (if (g 12 0) = (-1) then bd2 (f_X12_has k g) (fun r_16 g0_16 => (if r_16 = 0 then J52 g0_16 else bd2 (f_X12_figures g0_16 0 (nI hi)) (fun r_17 g0_17 => J53 r_17 g0_17))) else J52 g))) = J v g') ∧ ∀ K : Int32 → Pic → Option (Int32 × Pic × Pic), bd2 (f_X10_takesName k gT) (fun r_5 g1_5 => jn K (fun J92 => (if r_5 = 0 then J92 0 g1_5 else bd2 (f_X10_takeNumber g1_5 0 (nI hi)) (fun r_11 g1_11 => J92 r_11 g1_11)))) = K (-1) gT') := by
  have e12 := h.2.2.1
  rcases h.take hk with ⟨-, g1, a1, a2, a3, a4, -, a6⟩ | ⟨-, g1, gT1, a1, a2, a3, -, -, a5, a6, a7⟩
  · refine Or.inl ⟨0, g1, gT, s, by omega, a2, a4, rfl, fun J => ?_, fun K => ?_⟩
    · simp only [bd_s, bd2_s, bd3_s, bd4_s, bd5_s, bd6_s, bd7_s, bd8_s, lr_l, lr_r, nm_s, jn_s, gdb_0, gdb_1, e12, if_true, a1]; rfl
    · simp only [bd_s, bd2_s, bd3_s, bd4_s, bd5_s, bd6_s, bd7_s, bd8_s, lr_l, lr_r, nm_s, jn_s, gdb_0, gdb_1, a6, if_true]; rfl
  · rcases a3.num (lo := 0) (hi := nI hi) (by decide) with ⟨v, g2, gT2, v9, -, b1, b2, b3, b4, b5, b6, b7, -⟩ | ⟨v, g2, b1, b2, b3, b4, -⟩
    · refine Or.inl ⟨v, g2, gT2, _, (nI_leI (by omega) (by omega)).mp b6, a2.tr b2, b4, b7.trans a7, fun J => ?_, fun K => ?_⟩
      · simp only [bd_s, bd2_s, bd3_s, bd4_s, bd5_s, bd6_s, bd7_s, bd8_s, lr_l, lr_r, nm_s, jn_s, gdb_0, gdb_1, e12, if_true, a1, i10, if_false, b1]
      · simp only [bd_s, bd2_s, bd3_s, bd4_s, bd5_s, bd6_s, bd7_s, bd8_s, lr_l, lr_r, nm_s, jn_s, gdb_0, gdb_1, a6, i10, if_false, b3]
    · refine Or.inr ⟨v, g2, _, a2.to.tr b2, b4, by rw [pu_o (by decide)]; exact a7, fun J => ?_, fun K => ?_⟩
      · simp only [bd_s, bd2_s, bd3_s, bd4_s, bd5_s, bd6_s, bd7_s, bd8_s, lr_l, lr_r, nm_s, jn_s, gdb_0, gdb_1, e12, if_true, a1, i10, if_false, b1]
      · simp only [bd_s, bd2_s, bd3_s, bd4_s, bd5_s, bd6_s, bd7_s, bd8_s, lr_l, lr_r, nm_s, jn_s, gdb_0, gdb_1, a6, i10, if_false, b3]
end K26
