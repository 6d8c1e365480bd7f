/-! both readers at one place -/
def isN (c : Nat → Nat) (n s : Nat) (w : List Int32) : Bool := decide (sc isL c n s - s = w.length ∧ ∀ i, i < w.length → nI (c (s + i)) = w.getD i 0)
/-- the reference stands before s (blanks alone between), the class at the thing that begins at s; nothing was wrong yet -/
def PR (g gT : Pic) (c : Nat → Nat) (n s : Nat) : Prop := RB g c n ∧ (∃ q, q ≤ n ∧ g 11 0 = nI q ∧ sc isB c n q = s) ∧ g 12 0 = -1 ∧ TK gT c n s ∧ gT 7 0 = -1
/-- both have the same first wrong byte -/
def FL (g gT : Pic) (n : Nat) : Prop := ∃ e, e ≤ n ∧ g 12 0 = nI e ∧ gT 7 0 = nI e ∧ ∃ q, q ≤ n + 1 ∧ g 11 0 = nI q
/-- rows of the reference that a reading does not touch -/
def E12 (g g' : Pic) : Prop := ∀ k, k ≠ 11 → k ≠ 12 → g' k = g k
theorem E12.rf (g : Pic) : E12 g g := fun _ _ _ => rfl
theorem E12.tr {a b d : Pic} (h : E12 a b) (k : E12 b d) : E12 a d := fun i h1 h2 => (k i h1 h2).trans (h i h1 h2)
theorem E11.to {a b : Pic} (h : E11 a b) : E12 a b := fun i h1 _ => h i h1
theorem RB.e12 {g g' : Pic} {c : Nat → Nat} {n : Nat} (h : RB g c n) (e : E12 g g') : RB g' c n := h.of (e 9 (by decide) (by decide)) (e 7 (by decide) (by decide)) (fun k _ => by rw [e 1 (by decide) (by decide)]) (e 10 (by decide) (by decide))
def strOk (k : Nat) : Prop := 1 ≤ (strT.getD k []).length ∧ (strT.getD k []).length ≤ 8
theorem chr_n {k i : Nat} (h : i < (strT.getD k []).length) (h8 : (strT.getD k []).length ≤ 8) : f_chr k (nI i) = some ((strT.getD k []).getD i 0) := by
  unfold f_chr
  rw [gdi_n h (by omega), nI_clamp (by omega)]
section K20
variable {g gT : Pic} {c : Nat → Nat} {n q s : Nat}
theorem sk_s (h : ∃ q, q ≤ n ∧ g 11 0 = nI q ∧ sc isB c n q = s) : s ≤ n ∧ sc isB c n s = s := by
  obtain ⟨q, h1, -, h2⟩ := h
  exact ⟨by rw [← h2]; exact sc_le h1, by rw [← h2]; exact sc_idem⟩
theorem PR.sn (h : PR g gT c n s) : s ≤ n := (sk_s h.2.1).1
theorem PR.n4 (h : PR g gT c n s) : n ≤ 400 := h.1.2.2.1
/-- the reference goes over blanks: it stands at s itself -/
theorem PR.skip (h : PR g gT c n s) : ∃ g', f_X12_skip g = some g' ∧ E11 g g' ∧ g' 11 0 = nI s ∧ PR g' gT c n s := by
  obtain ⟨hB, ⟨q, q1, q2, q3⟩, h12, hT, h7⟩ := h
  obtain ⟨g', a, b, d⟩ := q_skip hB q2 (by have := hB.2.2.1; omega)
  rw [q3] at d
  refine ⟨g', a, b, d, hB.e11 b, ⟨s, by rw [← q3]; exact sc_le q1, d, by rw [← q3]; exact sc_idem⟩, by rw [b 12 (by decide)]; exact h12, hT, h7⟩
theorem PR.move {g' : Pic} (h : PR g gT c n s) (e : E11 g g') {q : Nat} (hq : q ≤ n) (h11 : g' 11 0 = nI q) {gT' : Pic} (hT : TK gT' c n (sc isB c n q)) (h7 : gT' 7 = gT 7) : PR g' gT' c n (sc isB c n q) :=
  ⟨h.1.e11 e, ⟨q, hq, h11, rfl⟩, by rw [e 12 (by decide)]; exact h.2.2.1, hT, by rw [h7]; exact h.2.2.2.2⟩
theorem TK.stepOk (h : TK gT c n s) {q : Nat} (h5 : gT 5 0 = nI q) (hq : q ≤ n) : ∃ gT', f_X10_step gT = some gT' ∧ TK gT' c n (sc isB c n q) ∧ gT' 7 = gT 7 ∧ gT' 1 = gT 1 := k_step h.1 h.2.1 h.2.2.1 h5 hq
/-- a name -/
theorem q_has (h : PR g gT c n s) {k : Nat} (hk : strOk k) : ∃ g', f_X12_has k g = some ((if isN c n s (strT.getD k []) then 1 else 0), g') ∧ E11 g g' ∧ g' 11 0 = nI (if isN c n s (strT.getD k []) then sc isL c n s else s) := by
  obtain ⟨g1, a1, a2, a3, a4⟩ := h.skip
  obtain ⟨k1, k8⟩ := hk
  have hB := h.1.e11 a2
  have n4 := h.n4
  have sn := h.sn
  have le := sc_le (p := isL) (c := c) sn
  have ge := sc_ge (p := isL) (c := c) (n := n) (q := s)
  have h10 : g1 10 0 = nI n := hB.2.1
  have A : f_X12_has_L9 k g1 fu (nI s) = some (nI (sc isL c n s)) := by
    refine lp_seq (fun i => nI (s + i)) (sc isL c n s - s) _ (fun i hi r => ?_) (fun r => ?_) (by have := fu_big; omega) rfl
    · obtain ⟨i1, i2⟩ := sc_in (p := isL) (c := c) (n := n) (q := s) (i := s + i) (by omega) (by omega)
      have i3 := of_decide_eq_true i2
      have ni : ¬ n ≤ s + i := by omega
      have c8 := hB.2.2.2 (s + i) i1
      have qb := q_byte hB i1
      have qi : f_X12_isIn (nI (c (s + i))) 97 122 = some 1 := by
        rw [q_isIn, if_pos ⟨nI_le (a := 97) (by omega) (by omega), nI_le (b := 122) (by omega) (by omega)⟩]
      simp (disch := omega) only [bd_s, bd2_s, bd3_s, bd4_s, bd5_s, bd6_s, bd7_s, bd8_s, lr_l, lr_r, nm_s, jn_s, gdb_0, gdb_1, h10, nI_leI, ni, if_false, qb, qi, i10, nI_1]
      rfl
    · rw [show s + (sc isL c n s - s) = sc isL c n s by omega]
      by_cases z : n ≤ sc isL c n s
      · simp (disch := omega) only [h10, nI_leI, z, if_true]
      · have nb := of_decide_eq_false (sc_out (p := isL) (c := c) (n := n) (q := s) (show sc isL c n s < n by omega))
        have qb := q_byte hB (show sc isL c n s < n by omega)
        have c8 := hB.2.2.2 (sc isL c n s) (by omega)
        have qi : f_X12_isIn (nI (c (sc isL c n s))) 97 122 = some 0 := by
          rw [q_isIn, if_neg (fun z => nb ⟨(nI_leI (a := 97) (by omega) (by omega)).mp z.1, (nI_leI (b := 122) (by omega) (by omega)).mp z.2⟩)]
        simp (disch := omega) only [bd_s, bd2_s, bd3_s, bd4_s, bd5_s, bd6_s, bd7_s, bd8_s, lr_l, lr_r, nm_s, jn_s, gdb_0, gdb_1, h10, nI_leI, z, if_false, qb, qi, if_true]
  have fl : f_len k = some (nI (strT.getD k []).length) := rfl
  generalize hw : strT.getD k [] = w at *
  by_cases e : sc isL c n s - s = w.length
  · have B : ∃ x, f_X12_has_L55 k (nI (sc isL c n s)) g1 fu 0 = some x ∧ ((x = .inr () ∧ isN c n s w = true) ∨ (x = .inl (0, g1) ∧ isN c n s w = false)) := by
      refine lp_inv (fun i a => a = nI i ∧ ∀ j, j < i → nI (c (s + j)) = w.getD j 0) w.length (fun x : (Int32 × Pic) ⊕ Unit => (x = .inr () ∧ isN c n s w = true) ∨ (x = .inl (0, g1) ∧ isN c n s w = false)) ?_ ?_ (by have := fu_big; omega) ⟨rfl, fun j hj => absurd hj (Nat.not_lt_zero j)⟩
      · rintro i hi _ ⟨rfl, hp⟩
        have ni : ¬ w.length ≤ i := by omega
        have qb := q_byte hB (show s + i < n by omega)
        have ch := chr_n (k := k) (i := i) (by rw [hw]; exact hi) (by rw [hw]; exact k8)
        rw [hw] at ch
        by_cases z : nI (c (s + i)) = w.getD i 0
        · refine Or.inl ⟨nI (i + 1), ⟨rfl, fun j hj => ?_⟩, fun r => ?_⟩
          · rcases Nat.lt_succ_iff_lt_or_eq.mp hj with y | y
            · exact hp j y
            · rw [y]; exact z
          · simp (disch := omega) only [bd_s, bd2_s, bd3_s, bd4_s, bd5_s, bd6_s, bd7_s, bd8_s, lr_l, lr_r, nm_s, jn_s, gdb_0, gdb_1, fl, nI_leI, ni, if_false, a3, nI_add, qb, ch, z, if_true, nI_1]
        · refine Or.inr ⟨.inl (0, g1), Or.inr ⟨rfl, decide_eq_false (fun y => z (y.2 i hi))⟩, fun r => ?_⟩
          simp (disch := omega) only [bd_s, bd2_s, bd3_s, bd4_s, bd5_s, bd6_s, bd7_s, bd8_s, lr_l, lr_r, nm_s, jn_s, gdb_0, gdb_1, fl, nI_leI, ni, if_false, a3, nI_add, qb, ch, z]
      · rintro _ ⟨rfl, hp⟩
        refine ⟨.inr (), Or.inl ⟨rfl, decide_eq_true ⟨e, hp⟩⟩, fun r => ?_⟩
        simp (disch := omega) only [bd_s, bd2_s, bd3_s, bd4_s, bd5_s, bd6_s, bd7_s, bd8_s, lr_l, lr_r, nm_s, jn_s, gdb_0, gdb_1, fl, nI_leI, Nat.le_refl, if_true]
    obtain ⟨x, B1, ⟨rfl, B2⟩ | ⟨rfl, B2⟩⟩ := B
    · refine ⟨pu g1 11 0 (nI (sc isL c n s)), ?_, a2.pu, by rw [B2, pu_s, if_pos rfl, if_pos rfl]⟩
      unfold f_X12_has
      rw [B2]
      simp (disch := omega) only [bd_s, bd2_s, bd3_s, bd4_s, bd5_s, bd6_s, bd7_s, bd8_s, lr_l, lr_r, nm_s, jn_s, gdb_0, gdb_1, a1, a3, A, fl, nI_sub, e, if_true, B1]
    · refine ⟨g1, ?_, a2, by rw [B2]; exact a3⟩
      unfold f_X12_has
      rw [B2]
      simp (disch := omega) only [bd_s, bd2_s, bd3_s, bd4_s, bd5_s, bd6_s, bd7_s, bd8_s, lr_l, lr_r, nm_s, jn_s, gdb_0, gdb_1, a1, a3, A, fl, nI_sub, e, if_true, B1]
      rfl
  · have B2 : isN c n s w = false := decide_eq_false (fun z => e z.1)
    refine ⟨g1, ?_, a2, by rw [B2]; exact a3⟩
    unfold f_X12_has
    rw [B2]
    simp (disch := omega) only [bd_s, bd2_s, bd3_s, bd4_s, bd5_s, bd6_s, bd7_s, bd8_s, lr_l, lr_r, nm_s, jn_s, gdb_0, gdb_1, a1, a3, A, fl, nI_sub, nI_eq, e, if_false]
    rfl
theorem k_name (h : PR g gT c n s) {k : Nat} (hk : strOk k) : f_X10_isName k gT = some (if isN c n s (strT.getD k []) then 1 else 0) := by
  obtain ⟨hB, -, -, hT, -⟩ := h
  obtain ⟨t2, n4, hb, t4, sn, cas⟩ := hT
  obtain ⟨k1, k8⟩ := hk
  have le := sc_le (p := isL) (c := c) sn
  have ge := sc_ge (p := isL) (c := c) (n := n) (q := s)
  have fl : f_len k = some (nI (strT.getD k []).length) := rfl
  have nol : (s < n → isL (c s) = false) → isN c n s (strT.getD k []) = false := fun z => decide_eq_false (fun y => by
    rw [sc_stop z] at y
    have := y.1
    omega)
  unfold f_X10_isName
  have other : gT 3 0 ≠ 1 → isN c n s (strT.getD k []) = false → (jn (fun (_ : Unit) => some (0 : Int32)) (fun J24 => (if (gT 3 0) = 1 then bd (f_len k) (fun r_1 => (if ((gT 5 0) - (gT 4 0)) = r_1 then lr (f_X10_isName_L28 k gT fu 0) (fun a => a) (fun _ => some 1) else J24 ())) else J24 ()))) = some (if isN c n s (strT.getD k []) then 1 else 0) := fun a b => by
    rw [b, jn_s, if_neg a]; rfl
  rcases cas with ⟨e, k3, -⟩ | ⟨z, hl, k3, t5, -⟩ | ⟨z, hd, k3, -⟩ | ⟨z, hl, hd, k3, -⟩
  · exact other (by rw [k3]; decide) (nol (fun z => by omega))
  · generalize hw : strT.getD k [] = w at *
    by_cases e : sc isL c n s - s = w.length
    · have B : ∃ x, f_X10_isName_L28 k gT fu 0 = some x ∧ ((x = .inr () ∧ isN c n s w = true) ∨ (x = .inl 0 ∧ isN c n s w = false)) := by
        refine lp_inv (fun i a => a = nI i ∧ ∀ j, j < i → nI (c (s + j)) = w.getD j 0) w.length (fun x : Int32 ⊕ Unit => (x = .inr () ∧ isN c n s w = true) ∨ (x = .inl 0 ∧ isN c n s w = false)) ?_ ?_ (by have := fu_big; omega) ⟨rfl, fun j hj => absurd hj (Nat.not_lt_zero j)⟩
        · rintro i hi _ ⟨rfl, hp⟩
          have ni : ¬ w.length ≤ i := by omega
          have qb := (hb (s + i) (by omega)).1
          have ch := chr_n (k := k) (i := i) (by rw [hw]; exact hi) (by rw [hw]; exact k8)
          rw [hw] at ch
          by_cases z : nI (c (s + i)) = w.getD i 0
          · refine Or.inl ⟨nI (i + 1), ⟨rfl, fun j hj => ?_⟩, fun r => ?_⟩
            · rcases Nat.lt_succ_iff_lt_or_eq.mp hj with y | y
              · exact hp j y
              · rw [y]; exact z
            · simp (disch := omega) only [bd_s, bd2_s, bd3_s, bd4_s, bd5_s, bd6_s, bd7_s, bd8_s, lr_l, lr_r, nm_s, jn_s, gdb_0, gdb_1, fl, nI_leI, ni, if_false, t4, nI_add, gdi_n, nI_clamp, qb, ch, z, if_true, nI_1]
          · refine Or.inr ⟨.inl 0, Or.inr ⟨rfl, decide_eq_false (fun y => z (y.2 i hi))⟩, fun r => ?_⟩
            simp (disch := omega) only [bd_s, bd2_s, bd3_s, bd4_s, bd5_s, bd6_s, bd7_s, bd8_s, lr_l, lr_r, nm_s, jn_s, gdb_0, gdb_1, fl, nI_leI, ni, if_false, t4, nI_add, gdi_n, nI_clamp, qb, ch, z]
        · rintro _ ⟨rfl, hp⟩
          refine ⟨.inr (), Or.inl ⟨rfl, decide_eq_true ⟨e, hp⟩⟩, fun r => ?_⟩
          simp (disch := omega) only [bd_s, bd2_s, bd3_s, bd4_s, bd5_s, bd6_s, bd7_s, bd8_s, lr_l, lr_r, nm_s, jn_s, gdb_0, gdb_1, fl, nI_leI, Nat.le_refl, if_true]
      obtain ⟨x, B1, ⟨rfl, B2⟩ | ⟨rfl, B2⟩⟩ := B
      · rw [B2]
        simp (disch := omega) only [bd_s, bd2_s, bd3_s, bd4_s, bd5_s, bd6_s, bd7_s, bd8_s, lr_l, lr_r, nm_s, jn_s, gdb_0, gdb_1, k3, if_true, fl, t4, t5, nI_sub, e, B1]
      · rw [B2]
        simp (disch := omega) only [bd_s, bd2_s, bd3_s, bd4_s, bd5_s, bd6_s, bd7_s, bd8_s, lr_l, lr_r, nm_s, jn_s, gdb_0, gdb_1, k3, if_true, fl, t4, t5, nI_sub, e, B1]
        rfl
    · rw [show isN c n s w = false from decide_eq_false (fun z => e z.1)]
      simp (disch := omega) only [bd_s, bd2_s, bd3_s, bd4_s, bd5_s, bd6_s, bd7_s, bd8_s, lr_l, lr_r, nm_s, jn_s, gdb_0, gdb_1, k3, if_true, fl, t4, t5, nI_sub, nI_eq, e, if_false]
      rfl
  · refine other (by rw [k3]; decide) (nol (fun _ => decide_eq_false (fun y => ?_)))
    have := of_decide_eq_true hd
    omega
  · exact other (by rw [k3]; decide) (nol (fun _ => hl))
/-- a name that stands there is taken, by both -/
theorem PR.take (h : PR g gT c n s) {k : Nat} (hk : strOk k) : (isN c n s (strT.getD k []) = false ∧ ∃ g', f_X12_has k g = some (0, g') ∧ E11 g g' ∧ g' 11 0 = nI s ∧ PR g' gT c n s ∧ f_X10_isName k gT = some 0 ∧ f_X10_takesName k gT = some (0, gT)) ∨ (isN c n s (strT.getD k []) = true ∧ ∃ g' gT', f_X12_has k g = some (1, g') ∧ E11 g g' ∧ PR g' gT' c n (sc isB c n (sc isL c n s)) ∧ s < sc isL c n s ∧ f_X10_isName k gT = some 1 ∧ f_X10_step gT = some gT' ∧ f_X10_takesName k gT = some (1, gT') ∧ gT' 1 = gT 1) := by
  obtain ⟨g', a1, a2, a3⟩ := q_has h hk
  have b := k_name h hk
  cases e : isN c n s (strT.getD k []) with
  | false =>
    rw [e] at a1 a3 b
    refine Or.inl ⟨rfl, g', a1, a2, a3, ?_, b, ?_⟩
    · obtain ⟨hB, hq, h12, hT, h7⟩ := h
      exact ⟨hB.e11 a2, ⟨s, (sk_s hq).1, a3, (sk_s hq).2⟩, by rw [a2 12 (by decide)]; exact h12, hT, h7⟩
    · unfold f_X10_takesName
      rw [b]; rfl
  | true =>
    rw [e] at a1 a3 b
    have sn := h.sn
    have le := sc_le (p := isL) (c := c) sn
    have ee := (of_decide_eq_true e).1
    have k1 := hk.1
    have sl : s < sc isL c n s := by omega
    have hl := (sc_in (p := isL) (c := c) (n := n) (q := s) (i := s) (Nat.le_refl s) sl)
    have t5 : gT 5 0 = nI (sc isL c n s) := by
      rcases h.2.2.2.1.2.2.2.2.2 with ⟨z, -⟩ | ⟨z, -, -, t5, -⟩ | ⟨z, hd, -⟩ | ⟨z, hl', -⟩
      · omega
      · exact t5
      · have d1 := of_decide_eq_true hd
        have d2 := of_decide_eq_true hl.2
        omega
      · rw [hl.2] at hl'; cases hl'
    obtain ⟨gT', s1, s2, s3, s4⟩ := h.2.2.2.1.stepOk t5 le
    refine Or.inr ⟨rfl, g', gT', a1, a2, h.move a2 le a3 s2 s3, sl, b, s1, ?_, s4⟩
    unfold f_X10_takesName
    rw [b]
    simp only [bd_s, jn_s, i10, if_false, s1]
    rfl
end K20
