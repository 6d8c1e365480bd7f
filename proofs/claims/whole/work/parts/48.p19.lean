/-! a text, thing by thing -/
def scn (p : Nat → Bool) (c : Nat → Nat) (n : Nat) : Nat → Nat → Nat
  | 0, q => q
  | j + 1, q => if q < n ∧ p (c q) = true then scn p c n j (q + 1) else q
def sc (p : Nat → Bool) (c : Nat → Nat) (n q : Nat) : Nat := scn p c n (n - q) q
theorem sc_go {p : Nat → Bool} {c : Nat → Nat} {n q : Nat} (h : q < n) (hp : p (c q) = true) : sc p c n q = sc p c n (q + 1) := by
  unfold sc
  obtain ⟨j, hj⟩ : ∃ j, n - q = j + 1 := ⟨n - q - 1, by omega⟩
  rw [hj, show n - (q + 1) = j by omega]
  show (if q < n ∧ p (c q) = true then _ else _) = _
  rw [if_pos ⟨h, hp⟩]
theorem sc_stop {p : Nat → Bool} {c : Nat → Nat} {n q : Nat} (h : q < n → p (c q) = false) : sc p c n q = q := by
  unfold sc
  cases hj : n - q with
  | zero => rfl
  | succ j =>
    show (if q < n ∧ p (c q) = true then _ else _) = _
    rw [if_neg (fun z => by rw [h z.1] at z; cases z.2)]
theorem sc_all (p : Nat → Bool) (c : Nat → Nat) (n : Nat) : ∀ j q, n - q = j → q ≤ sc p c n q ∧ (q ≤ n → sc p c n q ≤ n) ∧ (∀ i, q ≤ i → i < sc p c n q → i < n ∧ p (c i) = true) ∧ (sc p c n q < n → p (c (sc p c n q)) = false) := by
  intro j
  induction j with
  | zero =>
    intro q hq
    have e : sc p c n q = q := sc_stop (fun z => by omega)
    rw [e]
    exact ⟨Nat.le_refl q, id, fun i h1 h2 => by omega, fun h => by omega⟩
  | succ j ih =>
    intro q hq
    cases hp : p (c q) with
    | false =>
      have e : sc p c n q = q := sc_stop (fun _ => hp)
      rw [e]
      exact ⟨Nat.le_refl q, id, fun i h1 h2 => by omega, fun _ => hp⟩
    | true =>
      have e := sc_go (p := p) (c := c) (show q < n by omega) hp
      obtain ⟨a, b, d, f⟩ := ih (q + 1) (by omega)
      rw [← e] at a b d f
      refine ⟨by omega, fun _ => b (by omega), fun i h1 h2 => ?_, f⟩
      by_cases z : i = q
      · rw [z]; exact ⟨by omega, hp⟩
      · exact d i (by omega) h2
section SC
variable {p : Nat → Bool} {c : Nat → Nat} {n q : Nat}
theorem sc_ge : q ≤ sc p c n q := (sc_all p c n _ q rfl).1
theorem sc_le (h : q ≤ n) : sc p c n q ≤ n := (sc_all p c n _ q rfl).2.1 h
theorem sc_in {i : Nat} (h1 : q ≤ i) (h2 : i < sc p c n q) : i < n ∧ p (c i) = true := (sc_all p c n _ q rfl).2.2.1 i h1 h2
theorem sc_out (h : sc p c n q < n) : p (c (sc p c n q)) = false := (sc_all p c n _ q rfl).2.2.2 h
theorem sc_idem : sc p c n (sc p c n q) = sc p c n q := sc_stop sc_out
end SC
def isB (x : Nat) : Bool := x == 32
def isL (x : Nat) : Bool := decide (97 ≤ x ∧ x ≤ 122)
def isD (x : Nat) : Bool := decide (48 ≤ x ∧ x ≤ 57)
theorem sk_nb {c : Nat → Nat} {n q : Nat} (h : sc isB c n q < n) : ¬ c (sc isB c n q) = 32 := fun z => by
  have := sc_out h
  rw [show c (sc isB c n q) = 32 from z] at this
  cases this
/-- where the reference reads -/
def RB (g : Pic) (c : Nat → Nat) (n : Nat) : Prop := ((g 9 0 = -1 ∧ ∀ k, k < n → g 7 k = nI (c k)) ∨ (g 9 0 = nI 456 ∧ ∀ k, k < n → g 1 (456 + k) = nI (c k))) ∧ g 10 0 = nI n ∧ n ≤ 400 ∧ ∀ k, k < n → c k ≤ 255
def E11 (g g' : Pic) : Prop := ∀ k, k ≠ 11 → g' k = g k
theorem E11.rf (g : Pic) : E11 g g := fun _ _ => rfl
theorem E11.tr {a b d : Pic} (h : E11 a b) (k : E11 b d) : E11 a d := fun i hi => (k i hi).trans (h i hi)
theorem E11.pu {a b : Pic} (h : E11 a b) {v : Int32} : E11 a (pu b 11 0 v) := fun k hk => (pu_o hk).trans (h k hk)
theorem RB.of {g g' : Pic} {c : Nat → Nat} {n : Nat} (h : RB g c n) (h9 : g' 9 = g 9) (h7 : g' 7 = g 7) (h1 : ∀ k, 456 ≤ k → g' 1 k = g 1 k) (h10 : g' 10 = g 10) : RB g' c n := by
  unfold RB
  rw [h9, h7, h10]
  refine ⟨?_, h.2⟩
  rcases h.1 with q | q
  · exact Or.inl q
  · exact Or.inr ⟨q.1, fun k hk => by rw [h1 _ (by omega)]; exact q.2 k hk⟩
theorem RB.e11 {g g' : Pic} {c : Nat → Nat} {n : Nat} (h : RB g c n) (e : E11 g g') : RB g' c n := h.of (e 9 (by decide)) (e 7 (by decide)) (fun k _ => by rw [e 1 (by decide)]) (e 10 (by decide))
section K19
variable {g gT : Pic} {c : Nat → Nat} {n q s : Nat}
theorem q_byte (h : RB g c n) {k : Nat} (hk : k < n) : f_X12_byteAt g (nI k) = some (nI (c k)) := by
  obtain ⟨h1, h2, h3, h4⟩ := h
  unfold f_X12_byteAt
  rcases h1 with ⟨a, b⟩ | ⟨a, b⟩
  · simp (disch := omega) only [jn_s, a, if_true, gdi_n, nI_clamp, b k hk]
  · simp (disch := omega) only [jn_s, a, nI_m1, if_false, nI_add, gdi_n, nI_clamp, b k hk]
theorem q_skip (h : RB g c n) (hq : g 11 0 = nI q) (h4 : q ≤ 500) : ∃ g', f_X12_skip g = some g' ∧ E11 g g' ∧ g' 11 0 = nI (sc isB c n q) := by
  have n4 := h.2.2.1
  have hn := h.2.1
  have H : ∃ g', f_X12_skip_L0 fu g = some g' ∧ E11 g g' ∧ g' 11 0 = nI (sc isB c n q) := by
    have a := sc_ge (p := isB) (c := c) (n := n) (q := q)
    have b5 : sc isB c n q ≤ 500 := by
      by_cases z : q ≤ n
      · have := sc_le (p := isB) (c := c) z; omega
      · rw [show sc isB c n q = q from sc_stop (fun y => by omega)]; exact h4
    refine lp_inv (fun k (y : Pic) => E11 g y ∧ y 11 0 = nI (q + k)) (sc isB c n q - q) (fun g' : Pic => E11 g g' ∧ g' 11 0 = nI (sc isB c n q)) ?_ ?_ (by have := fu_big; omega) ⟨E11.rf g, hq⟩
    · rintro k hk y ⟨hE, y11⟩
      obtain ⟨i1, i2⟩ := sc_in (p := isB) (c := c) (n := n) (q := q) (i := q + k) (by omega) (by omega)
      have nk : ¬ n ≤ q + k := by omega
      have yb := q_byte (h.e11 hE) i1
      have e32 : c (q + k) = 32 := by unfold isB at i2; exact eq_of_beq i2
      refine Or.inl ⟨pu y 11 0 (nI (q + k + 1)), ⟨hE.pu, by rw [pu_s, if_pos rfl]; rfl⟩, fun r => ?_⟩
      simp (disch := omega) only [bd_s, bd2_s, bd3_s, bd4_s, bd5_s, bd6_s, bd7_s, bd8_s, lr_l, lr_r, nm_s, jn_s, gdb_0, gdb_1, hE 10 (by decide), hn, y11, nI_leI, nk, if_false, yb, e32, li_32, if_true, nI_1]
    · rintro y ⟨hE, y11⟩
      rw [show q + (sc isB c n q - q) = sc isB c n q by omega] at y11
      refine ⟨y, ⟨hE, y11⟩, fun r => ?_⟩
      by_cases z : n ≤ sc isB c n q
      · simp (disch := omega) only [hE 10 (by decide), hn, y11, nI_leI, z, if_true]
      · have yb := q_byte (h.e11 hE) (show sc isB c n q < n by omega)
        have nb := sk_nb (show sc isB c n q < n by omega)
        have c8 := h.2.2.2 (sc isB c n q) (by omega)
        simp (disch := omega) only [bd_s, bd2_s, bd3_s, bd4_s, bd5_s, bd6_s, bd7_s, bd8_s, lr_l, lr_r, nm_s, jn_s, gdb_0, gdb_1, hE 10 (by decide), hn, y11, nI_leI, z, if_false, yb, li_32, nI_eq, nb]
  obtain ⟨g', h1, h2⟩ := H
  exact ⟨g', by unfold f_X12_skip; rw [h1]; rfl, h2⟩
/-- the class at a thing that begins at s -/
def dv (c : Nat → Nat) (s : Nat) : Nat → Nat := itr (fun i v => 10 * v + (c (s + i) - 48)) 0
def TK (gT : Pic) (c : Nat → Nat) (n s : Nat) : Prop := gT 2 0 = nI n ∧ n ≤ 400 ∧ (∀ k, k < n → gT 0 k = nI (c k) ∧ c k ≤ 255) ∧ gT 4 0 = nI s ∧ s ≤ n ∧
  ((s = n ∧ gT 3 0 = 0 ∧ gT 5 0 = nI n ∧ gT 6 0 = 0) ∨
   (s < n ∧ isL (c s) = true ∧ gT 3 0 = 1 ∧ gT 5 0 = nI (sc isL c n s) ∧ gT 6 0 = 0) ∨
   (s < n ∧ isD (c s) = true ∧ gT 3 0 = 2 ∧ gT 5 0 = nI (sc isD c n s) ∧ gT 6 0 = if sc isD c n s - s ≤ 3 then nI (dv c s (sc isD c n s - s)) else -1) ∨
   (s < n ∧ isL (c s) = false ∧ isD (c s) = false ∧ gT 3 0 = 3 ∧ gT 5 0 = nI (s + 1) ∧ gT 6 0 = nI (c s)))
theorem dv_le {c : Nat → Nat} {s i : Nat} (hi : i ≤ 4) (h : ∀ k, k < i → isD (c (s + k)) = true) : dv c s i ≤ 9999 ∧ (i ≤ 3 → dv c s i ≤ 999) := by
  have d : ∀ k, k < i → c (s + k) - 48 ≤ 9 := fun k hk => by have := of_decide_eq_true (h k hk); omega
  have e0 : dv c s 0 = 0 := rfl
  have e1 : dv c s 1 = 10 * dv c s 0 + (c (s + 0) - 48) := rfl
  have e2 : dv c s 2 = 10 * dv c s 1 + (c (s + 1) - 48) := rfl
  have e3 : dv c s 3 = 10 * dv c s 2 + (c (s + 2) - 48) := rfl
  have e4 : dv c s 4 = 10 * dv c s 3 + (c (s + 3) - 48) := rfl
  have : i = 0 ∨ i = 1 ∨ i = 2 ∨ i = 3 ∨ i = 4 := by omega
  rcases this with rfl | rfl | rfl | rfl | rfl
  · omega
  · have := d 0 (by omega); omega
  · have := d 0 (by omega); have := d 1 (by omega); omega
  · have := d 0 (by omega); have := d 1 (by omega); have := d 2 (by omega); omega
  · have := d 0 (by omega); have := d 1 (by omega); have := d 2 (by omega); have := d 3 (by omega); omega
theorem k_step (h2 : gT 2 0 = nI n) (n4 : n ≤ 400) (hb : ∀ k, k < n → gT 0 k = nI (c k) ∧ c k ≤ 255) (h5 : gT 5 0 = nI q) (hq : q ≤ n) : ∃ gT', f_X10_step gT = some gT' ∧ TK gT' c n (sc isB c n q) ∧ gT' 7 = gT 7 ∧ gT' 1 = gT 1 := by
  have s0 := sc_ge (p := isB) (c := c) (n := n) (q := q)
  have s1 := sc_le (p := isB) (c := c) hq
  have A : f_X10_step_L5 gT fu (nI q) = some (nI (sc isB c n q)) := by
    refine lp_seq (fun k => nI (q + k)) (sc isB c n q - q) _ (fun k hk r => ?_) (fun r => ?_) (by have := fu_big; omega) rfl
    · obtain ⟨i1, i2⟩ := sc_in (p := isB) (c := c) (n := n) (q := q) (i := q + k) (by omega) (by omega)
      have nk : ¬ n ≤ q + k := by omega
      have e32 : c (q + k) = 32 := by unfold isB at i2; exact eq_of_beq i2
      simp (disch := omega) only [bd_s, bd2_s, bd3_s, bd4_s, bd5_s, bd6_s, bd7_s, bd8_s, lr_l, lr_r, nm_s, jn_s, gdb_0, gdb_1, h2, nI_leI, nk, if_false, gdi_n, nI_clamp, (hb (q + k) i1).1, e32, li_32, if_true, nI_1]
      rfl
    · rw [show q + (sc isB c n q - q) = sc isB c n q by omega]
      by_cases z : n ≤ sc isB c n q
      · simp (disch := omega) only [h2, nI_leI, z, if_true]
      · have nb := sk_nb (show sc isB c n q < n by omega)
        obtain ⟨b1, b2⟩ := hb (sc isB c n q) (by omega)
        simp (disch := omega) only [bd_s, bd2_s, bd3_s, bd4_s, bd5_s, bd6_s, bd7_s, bd8_s, lr_l, lr_r, nm_s, jn_s, gdb_0, gdb_1, h2, nI_leI, z, if_false, gdi_n, nI_clamp, b1, li_32, nI_eq, nb]
  generalize sc isB c n q = s at *
  have base : ∀ (k v t : Int32), (pu (pu (pu (pu gT 4 0 (nI s)) 6 0 v) 3 0 k) 5 0 t) 2 0 = nI n := fun _ _ _ => h2
  unfold f_X10_step
  simp only [nm_s, h5, A, bd_s, jn_s]
  by_cases z : s < n
  · obtain ⟨b1, b2⟩ := hb s z
    rw [if_pos (show nI s < (pu (pu gT 4 0 (nI s)) 6 0 0) 2 0 from (by rw [show (pu (pu gT 4 0 (nI s)) 6 0 0) 2 0 = nI n from h2]; exact nI_lt z (by omega)))]
    simp only [show (pu (pu gT 4 0 (nI s)) 6 0 0) 0 = gT 0 from rfl]
    rw [nI_clamp (show s < 2 ^ 31 by omega), b1]
    simp only [show ∀ (x : Option Pic), gdi (nI s) 400 x = x from fun x => gdi_n (by omega) (by decide)]
    cases hl : isL (c s) with
    | true =>
      have l1 := of_decide_eq_true hl
      have le := sc_le (p := isL) (c := c) (n := n) (q := s) (by omega)
      have ge := sc_ge (p := isL) (c := c) (n := n) (q := s)
      have B : f_X10_step_L83 (pu (pu (pu gT 4 0 (nI s)) 6 0 0) 3 0 1) fu (nI s) = some (nI (sc isL c n s)) := by
        have h2' : (pu (pu (pu gT 4 0 (nI s)) 6 0 0) 3 0 1) 2 0 = nI n := h2
        have h0' : (pu (pu (pu gT 4 0 (nI s)) 6 0 0) 3 0 1) 0 = gT 0 := rfl
        refine lp_seq (fun k => nI (s + k)) (sc isL c n s - s) _ (fun k hk r => ?_) (fun r => ?_) (by have := fu_big; omega) rfl
        · obtain ⟨i1, i2⟩ := sc_in (p := isL) (c := c) (n := n) (q := s) (i := s + k) (by omega) (by omega)
          have i3 := of_decide_eq_true i2
          have nk : ¬ n ≤ s + k := by omega
          have n1 : ¬ c (s + k) < 97 := by omega
          have n2 : ¬ 122 < c (s + k) := by omega
          simp (disch := omega) only [bd_s, bd2_s, bd3_s, bd4_s, bd5_s, bd6_s, bd7_s, bd8_s, lr_l, lr_r, nm_s, jn_s, gdb_0, gdb_1, h2', h0', nI_leI, nk, if_false, gdi_n, nI_clamp, (hb (s + k) i1).1, li_97, li_122, nI_ltI, n1, n2, nI_1]
          rfl
        · rw [show s + (sc isL c n s - s) = sc isL c n s by omega]
          by_cases z : n ≤ sc isL c n s
          · simp (disch := omega) only [h2', nI_leI, z, if_true]
          · have nb := sc_out (p := isL) (c := c) (n := n) (q := s) (show sc isL c n s < n by omega)
            obtain ⟨b1, b2⟩ := hb (sc isL c n s) (by omega)
            have nb2 : c (sc isL c n s) < 97 ∨ 122 < c (sc isL c n s) := by
              have := of_decide_eq_false nb
              omega
            by_cases y : c (sc isL c n s) < 97
            · simp (disch := omega) only [bd_s, bd2_s, bd3_s, bd4_s, bd5_s, bd6_s, bd7_s, bd8_s, lr_l, lr_r, nm_s, jn_s, gdb_0, gdb_1, h2', h0', nI_leI, z, if_false, gdi_n, nI_clamp, b1, li_97, nI_ltI, y, if_true]
            · have y2 := nb2.resolve_left y
              simp (disch := omega) only [bd_s, bd2_s, bd3_s, bd4_s, bd5_s, bd6_s, bd7_s, bd8_s, lr_l, lr_r, nm_s, jn_s, gdb_0, gdb_1, h2', h0', nI_leI, z, if_false, gdi_n, nI_clamp, b1, li_97, li_122, nI_ltI, y, y2, if_true]
      rw [if_neg (show ¬ nI (c s) < 97 from nI_nlt (b := 97) (by omega) (by omega)), if_neg (show ¬ (122 : Int32) < nI (c s) from nI_nlt (a := 122) (by omega) (by omega)), B, bd_s]
      exact ⟨_, rfl, ⟨h2, n4, hb, rfl, by omega, Or.inr (Or.inl ⟨z, hl, rfl, rfl, rfl⟩)⟩, rfl, rfl⟩
    | false =>
      have l1 : c s < 97 ∨ 122 < c s := by have := of_decide_eq_false hl; omega
      cases hd : isD (c s) with
      | true =>
        have d1 := of_decide_eq_true hd
        have le := sc_le (p := isD) (c := c) (n := n) (q := s) (by omega)
        have ge := sc_ge (p := isD) (c := c) (n := n) (q := s)
        have B : ∃ x, f_X10_step_L146 fu (nI s, pu (pu (pu gT 4 0 (nI s)) 6 0 0) 3 0 2) = some x ∧ ∃ y, x = (nI (sc isD c n s), y) ∧ (∀ k, k ≠ 6 → y k = (pu (pu (pu gT 4 0 (nI s)) 6 0 0) 3 0 2) k) ∧ y 6 0 = if sc isD c n s - s ≤ 3 then nI (dv c s (sc isD c n s - s)) else -1 := by
          refine lp_inv (fun i a => ∃ y : Pic, a = (nI (s + i), y) ∧ (∀ k, k ≠ 6 → y k = (pu (pu (pu gT 4 0 (nI s)) 6 0 0) 3 0 2) k) ∧ y 6 0 = if i ≤ 3 then nI (dv c s i) else -1) (sc isD c n s - s) (fun x : Int32 × Pic => ∃ y, x = (nI (sc isD c n s), y) ∧ (∀ k, k ≠ 6 → y k = (pu (pu (pu gT 4 0 (nI s)) 6 0 0) 3 0 2) k) ∧ y 6 0 = if sc isD c n s - s ≤ 3 then nI (dv c s (sc isD c n s - s)) else -1) ?_ ?_ (by have := fu_big; omega) ⟨_, rfl, fun _ _ => rfl, rfl⟩
          · rintro i hi _ ⟨y, rfl, hy, y6⟩
            obtain ⟨i1, i2⟩ := sc_in (p := isD) (c := c) (n := n) (q := s) (i := s + i) (by omega) (by omega)
            have i3 := of_decide_eq_true i2
            have nk : ¬ n ≤ s + i := by omega
            have n1 : ¬ c (s + i) < 48 := by omega
            have n2 : ¬ 57 < c (s + i) := by omega
            have y2 : y 2 0 = nI n := by rw [hy 2 (by decide)]; exact h2
            have y0 : y 0 = gT 0 := hy 0 (by decide)
            have y4 : y 4 0 = nI s := by rw [hy 4 (by decide)]; rfl
            have dl : s + i - s = i := by omega
            by_cases c3 : 3 ≤ i
            · refine Or.inl ⟨(nI (s + i + 1), pu y 6 0 (-1)), ⟨_, rfl, fun k hk => by rw [pu_o hk]; exact hy k hk, by rw [pu_s, if_pos rfl, if_neg (by omega)]⟩, fun r => ?_⟩
              simp (disch := omega) only [bd_s, bd2_s, bd3_s, bd4_s, bd5_s, bd6_s, bd7_s, bd8_s, lr_l, lr_r, nm_s, jn_s, gdb_0, gdb_1, y2, y0, y4, nI_leI, nk, if_false, gdi_n, nI_clamp, (hb (s + i) i1).1, li_48, li_57, li_3, nI_ltI, n1, n2, nI_sub, dl, c3, if_true, nI_1]
            · rw [if_pos (by omega)] at y6
              have vb := dv_le (c := c) (s := s) (i := i) (by omega) (fun k hk => (sc_in (p := isD) (c := c) (n := n) (q := s) (i := s + k) (by omega) (by omega)).2)
              refine Or.inl ⟨(nI (s + i + 1), pu y 6 0 (nI (dv c s (i + 1)))), ⟨_, rfl, fun k hk => by rw [pu_o hk]; exact hy k hk, by rw [pu_s, if_pos rfl, if_pos (by omega)]⟩, fun r => ?_⟩
              have ev : dv c s i * 10 + c (s + i) - 48 = dv c s (i + 1) := by
                show _ = 10 * dv c s i + (c (s + i) - 48)
                omega
              simp (disch := omega) only [bd_s, bd2_s, bd3_s, bd4_s, bd5_s, bd6_s, bd7_s, bd8_s, lr_l, lr_r, nm_s, jn_s, gdb_0, gdb_1, y2, y0, y4, y6, nI_leI, nk, if_false, gdi_n, nI_clamp, (hb (s + i) i1).1, li_48, li_57, li_3, li_10, nI_ltI, n1, n2, nI_sub, nI_mul, nI_add, dl, c3, ev, nI_1]
          · rintro _ ⟨y, rfl, hy, y6⟩
            have y2 : y 2 0 = nI n := by rw [hy 2 (by decide)]; exact h2
            have y0 : y 0 = gT 0 := hy 0 (by decide)
            rw [show s + (sc isD c n s - s) = sc isD c n s by omega]
            refine ⟨_, ⟨y, rfl, hy, y6⟩, fun r => ?_⟩
            by_cases z : n ≤ sc isD c n s
            · simp (disch := omega) only [y2, nI_leI, z, if_true]
            · have nb := sc_out (p := isD) (c := c) (n := n) (q := s) (show sc isD c n s < n by omega)
              obtain ⟨b1, b2⟩ := hb (sc isD c n s) (by omega)
              have nb2 : c (sc isD c n s) < 48 ∨ 57 < c (sc isD c n s) := by
                have := of_decide_eq_false nb
                omega
              by_cases y : c (sc isD c n s) < 48
              · simp (disch := omega) only [bd_s, bd2_s, bd3_s, bd4_s, bd5_s, bd6_s, bd7_s, bd8_s, lr_l, lr_r, nm_s, jn_s, gdb_0, gdb_1, y2, y0, nI_leI, z, if_false, gdi_n, nI_clamp, b1, li_48, nI_ltI, y, if_true]
              · have w := nb2.resolve_left y
                simp (disch := omega) only [bd_s, bd2_s, bd3_s, bd4_s, bd5_s, bd6_s, bd7_s, bd8_s, lr_l, lr_r, nm_s, jn_s, gdb_0, gdb_1, y2, y0, nI_leI, z, if_false, gdi_n, nI_clamp, b1, li_48, li_57, nI_ltI, y, w, if_true]
        obtain ⟨x, B1, y, rfl, B2, B3⟩ := B
        have fin : TK (pu y 5 0 (nI (sc isD c n s))) c n s := ⟨by rw [pu_o (by decide), B2 2 (by decide)]; exact h2, n4, fun k hk => by rw [pu_o (by decide), B2 0 (by decide)]; exact hb k hk, by rw [pu_o (by decide), B2 4 (by decide)]; rfl, by omega, Or.inr (Or.inr (Or.inl ⟨z, hd, by rw [pu_o (by decide), B2 3 (by decide)]; rfl, by rw [pu_s, if_pos rfl], by rw [pu_o (by decide)]; exact B3⟩))⟩
        have t7 : (pu y 5 0 (nI (sc isD c n s))) 7 = gT 7 := by rw [pu_o (by decide), B2 7 (by decide)]; rfl
        have t1 : (pu y 5 0 (nI (sc isD c n s))) 1 = gT 1 := by rw [pu_o (by decide), B2 1 (by decide)]; rfl
        refine ⟨_, ?_, fin, t7, t1⟩
        have D : (if nI (c s) < 48 then bd (some (1 : Int32)) (fun _ => (none : Option Pic)) else if (57 : Int32) < nI (c s) then none else bd (f_X10_step_L146 fu (nI s, pu (pu (pu gT 4 0 (nI s)) 6 0 0) 3 0 2)) (fun x => some (pu x.2 5 0 x.1))) = some (pu y 5 0 (nI (sc isD c n s))) := by
          rw [if_neg (show ¬ nI (c s) < 48 from nI_nlt (b := 48) (by omega) (by omega)), if_neg (show ¬ (57 : Int32) < nI (c s) from nI_nlt (a := 57) (by omega) (by omega)), B1]
          rfl
        have E : ∀ X : Option Pic, (if nI (c s) < 48 then X else if (57 : Int32) < nI (c s) then X else bd (f_X10_step_L146 fu (nI s, pu (pu (pu gT 4 0 (nI s)) 6 0 0) 3 0 2)) (fun (x1_21, g0_21) => some (pu g0_21 5 0 x1_21))) = some (pu y 5 0 (nI (sc isD c n s))) := by
          intro X
          rw [if_neg (show ¬ nI (c s) < 48 from nI_nlt (b := 48) (by omega) (by omega)), if_neg (show ¬ (57 : Int32) < nI (c s) from nI_nlt (a := 57) (by omega) (by omega)), B1]
          rfl
        by_cases y1 : nI (c s) < 97
        · rw [if_pos y1]; exact E _
        · have y2 : (122 : Int32) < nI (c s) := nI_lt (a := 122) (l1.resolve_left (fun w => y1 (nI_lt (b := 97) w (by omega)))) (by omega)
          rw [if_neg y1, if_pos y2]; exact E _
      | false =>
        have d1 : c s < 48 ∨ 57 < c s := by have := of_decide_eq_false hd; omega
        have fin : TK (pu (pu (pu (pu (pu gT 4 0 (nI s)) 6 0 0) 3 0 3) 6 0 (nI (c s))) 5 0 (nI (s + 1))) c n s := ⟨h2, n4, hb, rfl, by omega, Or.inr (Or.inr (Or.inr ⟨z, hl, hd, rfl, rfl, rfl⟩))⟩
        refine ⟨_, ?_, fin, rfl, rfl⟩
        have E : ∀ X : Option Pic, (if nI (c s) < 48 then some (pu (pu (pu (pu (pu gT 4 0 (nI s)) 6 0 0) 3 0 3) 6 0 (nI (c s))) 5 0 (nI s + 1)) else if (57 : Int32) < nI (c s) then some (pu (pu (pu (pu (pu gT 4 0 (nI s)) 6 0 0) 3 0 3) 6 0 (nI (c s))) 5 0 (nI s + 1)) else X) = some (pu (pu (pu (pu (pu gT 4 0 (nI s)) 6 0 0) 3 0 3) 6 0 (nI (c s))) 5 0 (nI (s + 1))) := by
          intro X
          rw [nI_1]
          rcases d1 with w | w
          · rw [if_pos (show nI (c s) < 48 from nI_lt (b := 48) w (by omega))]
          · rw [if_neg (show ¬ nI (c s) < 48 from nI_nlt (b := 48) (by omega) (by omega)), if_pos (show (57 : Int32) < nI (c s) from nI_lt (a := 57) w (by omega))]
        have b3 : (pu (pu (pu gT 4 0 (nI s)) 6 0 0) 3 0 3) 0 s = nI (c s) := b1
        by_cases y1 : nI (c s) < 97
        · rw [if_pos y1]
          simp only [b3]
          exact E _
        · have y2 : (122 : Int32) < nI (c s) := nI_lt (a := 122) (l1.resolve_left (fun w => y1 (nI_lt (b := 97) w (by omega)))) (by omega)
          rw [if_neg y1, if_pos y2]
          simp only [b3]
          exact E _
  · have e : s = n := by omega
    rw [if_neg (show ¬ nI s < (pu (pu gT 4 0 (nI s)) 6 0 0) 2 0 from (by rw [show (pu (pu gT 4 0 (nI s)) 6 0 0) 2 0 = nI n from h2]; exact nI_nlt (by omega) (by omega)))]
    exact ⟨_, rfl, ⟨h2, n4, hb, rfl, by omega, Or.inl ⟨e, rfl, by rw [← e]; rfl, rfl⟩⟩, rfl, rfl⟩
end K19
