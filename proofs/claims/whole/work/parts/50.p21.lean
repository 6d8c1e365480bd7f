/-! numbers, signs, what is wrong -/
section K21
variable {g gT : Pic} {c : Nat → Nat} {n q s : Nat}
theorem k_refuse (h7 : gT 7 0 = -1) (h4 : gT 4 0 = nI s) : f_X10_refuse gT = some (0, pu gT 7 0 (nI s)) := by
  unfold f_X10_refuse
  simp only [jn_s, nm_s, h7, if_true, h4]
theorem q_wrong (h : g 12 0 = -1) (x : Int32) : f_X12_wrong g x = some (pu g 12 0 x) := by
  unfold f_X12_wrong
  simp only [jn_s, nm_s, h, if_true]
theorem q_wrong2 {e : Nat} (h : g 12 0 = nI e) (he : e ≤ 400) (x : Int32) : f_X12_wrong g x = some g := by
  unfold f_X12_wrong
  rw [jn_s, if_neg (by rw [h, nI_m1 (by omega)]; exact id)]
theorem E12.pu12 {a b : Pic} (h : E12 a b) {v : Int32} : E12 a (pu b 12 0 v) := fun k h1 h2 => (pu_o h2).trans (h k h1 h2)
theorem E12.pu11 {a b : Pic} (h : E12 a b) {v : Int32} : E12 a (pu b 11 0 v) := fun k h1 h2 => (pu_o h1).trans (h k h1 h2)
/-- wrong here, for both -/
theorem PR.wrong (h : PR g gT c n s) : f_X10_refuse gT = some (0, pu gT 7 0 (nI s)) ∧ f_X12_wrong g (nI s) = some (pu g 12 0 (nI s)) ∧ FL (pu g 12 0 (nI s)) (pu gT 7 0 (nI s)) n := by
  obtain ⟨hB, ⟨q, q1, q2, q3⟩, h12, hT, h7⟩ := h
  exact ⟨k_refuse h7 hT.2.2.2.1, q_wrong h12 _, s, by rw [← q3]; exact sc_le q1, rfl, rfl, q, by omega, q2⟩
theorem PR.num (h : PR g gT c n s) {lo hi : Int32} (hlo : (-1 : Int32) < lo) :
    (∃ v g' gT', v ≤ 999 ∧ s < sc isD c n s ∧ f_X12_figures g lo hi = some (nI v, g') ∧ E11 g g' ∧ f_X10_takeNumber gT lo hi = some (nI v, gT') ∧ PR g' gT' c n (sc isB c n (sc isD c n s)) ∧ lo ≤ nI v ∧ nI v ≤ hi ∧ gT' 1 = gT 1 ∧ gT 3 0 = 2 ∧ gT 6 0 = nI v) ∨
    (∃ v g', f_X12_figures g lo hi = some (v, g') ∧ E12 g g' ∧ f_X10_takeNumber gT lo hi = some (-1, pu gT 7 0 (nI s)) ∧ FL g' (pu gT 7 0 (nI s)) n ∧ g' 12 0 = nI s) := by
  obtain ⟨g1, a1, a2, a3, a4⟩ := h.skip
  have hB := h.1.e11 a2
  have n4 := h.n4
  have sn := h.sn
  have le := sc_le (p := isD) (c := c) sn
  have ge := sc_ge (p := isD) (c := c) (n := n) (q := s)
  have h10 : g1 10 0 = nI n := hB.2.1
  have h12 := h.2.2.1
  have g112 : g1 12 0 = -1 := by rw [a2 12 (by decide)]; exact h12
  have dig : ∀ k, k < sc isD c n s - s → isD (c (s + k)) = true := fun k hk => (sc_in (p := isD) (c := c) (n := n) (q := s) (i := s + k) (by omega) (by omega)).2
  obtain ⟨L, hL⟩ : ∃ L, L = min (sc isD c n s - s) 4 := ⟨_, rfl⟩
  have A : ∃ x, f_X12_figures_L18 lo hi (nI s) fu (0, g1) = some x ∧ ∃ y, x = (nI (dv c s L), y) ∧ E11 g y ∧ y 11 0 = nI (s + L) := by
    refine lp_inv (fun i a => ∃ y : Pic, a = (nI (dv c s i), y) ∧ E11 g y ∧ y 11 0 = nI (s + i)) L (fun x : Int32 × Pic => ∃ y, x = (nI (dv c s L), y) ∧ E11 g y ∧ y 11 0 = nI (s + L)) ?_ ?_ (by have := fu_big; omega) ⟨g1, rfl, a2, a3⟩
    · rintro i hi' _ ⟨y, rfl, hE, y11⟩
      have hBy := h.1.e11 hE
      have qb := q_byte hBy (show s + i < n by omega)
      have d1 := of_decide_eq_true (dig i (by omega))
      have c8 := hBy.2.2.2 (s + i) (by omega)
      have ni : ¬ n ≤ s + i := by omega
      have n3 : ¬ 3 < s + i - s := by omega
      have qi : f_X12_isIn (nI (c (s + i))) (nI 48) 57 = some 1 := by
        rw [q_isIn, if_pos ⟨nI_le (a := 48) (by omega) (by omega), nI_le (b := 57) (by omega) (by omega)⟩]
      have vb := dv_le (c := c) (s := s) (i := i) (by omega) (fun k hk => dig k (by omega))
      have ev : 10 * dv c s i + c (s + i) - 48 = dv c s (i + 1) := by
        show _ = 10 * dv c s i + (c (s + i) - 48)
        omega
      refine Or.inl ⟨(nI (dv c s (i + 1)), pu y 11 0 (nI (s + i + 1))), ⟨_, rfl, hE.pu, by rw [pu_s, if_pos rfl]; rfl⟩, fun r => ?_⟩
      simp (disch := omega) only [bd_s, bd2_s, bd3_s, bd4_s, bd5_s, bd6_s, bd7_s, bd8_s, lr_l, lr_r, nm_s, jn_s, gdb_0, gdb_1, hBy.2.1, y11, nI_leI, ni, if_false, qb, qi, i10, li_3, li_10, li_48, nI_sub, nI_ltI, n3, nI_mul, nI_add, ev, nI_1]
    · rintro _ ⟨y, rfl, hE, y11⟩
      have hBy := h.1.e11 hE
      refine ⟨_, ⟨y, rfl, hE, y11⟩, fun r => ?_⟩
      by_cases z : n ≤ s + L
      · simp (disch := omega) only [hBy.2.1, y11, nI_leI, z, if_true]
      · have qb := q_byte hBy (show s + L < n by omega)
        have c8 := hBy.2.2.2 (s + L) (by omega)
        by_cases z4 : sc isD c n s - s ≤ 3
        · have eL : s + L = sc isD c n s := by omega
          have nb := of_decide_eq_false (sc_out (p := isD) (c := c) (n := n) (q := s) (show sc isD c n s < n by omega))
          have qi : f_X12_isIn (nI (c (s + L))) 48 57 = some 0 := by
            rw [eL] at c8 ⊢
            rw [q_isIn, if_neg (fun z => nb ⟨(nI_leI (a := 48) (by omega) (by omega)).mp z.1, (nI_leI (b := 57) (by omega) (by omega)).mp z.2⟩)]
          simp (disch := omega) only [bd_s, bd2_s, bd3_s, bd4_s, bd5_s, bd6_s, bd7_s, bd8_s, lr_l, lr_r, nm_s, jn_s, gdb_0, gdb_1, hBy.2.1, y11, nI_leI, z, if_false, qb, qi, if_true]
        · have z5 : 3 < s + L - s := by omega
          simp (disch := omega) only [bd_s, bd2_s, bd3_s, bd4_s, bd5_s, bd6_s, bd7_s, bd8_s, lr_l, lr_r, nm_s, jn_s, gdb_0, gdb_1, hBy.2.1, y11, nI_leI, z, if_false, qb, q_isIn, li_3, nI_sub, nI_ltI, z5, if_true]
          split <;> rfl
  obtain ⟨x, A1, y, rfl, A2, A3⟩ := A
  have y12 : y 12 0 = -1 := by rw [A2 12 (by decide)]; exact h12
  have hf : f_X12_here g = some (nI s, g1) := by unfold f_X12_here; rw [a1]; simp only [bd_s, a3]
  have FLy : FL (pu y 12 0 (nI s)) (pu gT 7 0 (nI s)) n := ⟨s, sn, rfl, rfl, s + L, by omega, by rw [pu_o (by decide)]; exact A3⟩
  have TKv := h.2.2.2.1
  by_cases hd : s < sc isD c n s
  · have ds := sc_in (p := isD) (c := c) (n := n) (q := s) (i := s) (Nat.le_refl s) hd
    have tk : gT 3 0 = 2 ∧ gT 5 0 = nI (sc isD c n s) ∧ gT 6 0 = if sc isD c n s - s ≤ 3 then nI (dv c s (sc isD c n s - s)) else -1 := by
      rcases TKv.2.2.2.2.2 with ⟨z, -⟩ | ⟨z, hl, -⟩ | ⟨z, -, k3, t5, t6⟩ | ⟨z, -, hd', -⟩
      · omega
      · have d1 := of_decide_eq_true ds.2
        have d2 := of_decide_eq_true hl
        omega
      · exact ⟨k3, t5, t6⟩
      · rw [ds.2] at hd'; cases hd'
    obtain ⟨k3, t5, t6⟩ := tk
    by_cases z3 : sc isD c n s - s ≤ 3
    · rw [if_pos z3] at t6
      have eL : L = sc isD c n s - s := by omega
      have vb := dv_le (c := c) (s := s) (i := L) (by omega) (fun k hk => dig k (by omega))
      rw [← eL] at t6
      have n0 : ¬ nI (s + L) = nI s := fun z => by have := (nI_eq (by omega) (by omega)).mp z; omega
      have n3 : ¬ (3 : Int32) < nI (s + L) - nI s := by rw [nI_sub (by omega)]; exact nI_nlt (a := 3) (by omega) (by omega)
      by_cases c1 : nI (dv c s L) < lo
      · refine Or.inr ⟨nI (dv c s L), pu y 12 0 (nI s), ?_, A2.to.pu12, ?_, FLy, rfl⟩
        · unfold f_X12_figures
          simp only [bd_s, bd2_s, bd3_s, bd4_s, bd5_s, bd6_s, bd7_s, bd8_s, lr_l, lr_r, nm_s, jn_s, gdb_0, gdb_1, h12, if_true, hf, A1, A3, n0, n3, c1, if_false, q_wrong y12]
        · unfold f_X10_takeNumber
          simp only [bd_s, bd2_s, bd3_s, bd4_s, bd5_s, bd6_s, bd7_s, bd8_s, lr_l, lr_r, nm_s, jn_s, gdb_0, gdb_1, k3, if_true, t6, c1, k_refuse h.2.2.2.2 TKv.2.2.2.1]
      · by_cases c2 : nI (dv c s L) ≤ hi
        · obtain ⟨gT', s1, s2, s3, s4⟩ := TKv.stepOk t5 le
          refine Or.inl ⟨dv c s L, y, gT', vb.2 (by omega), hd, ?_, A2, ?_, h.move A2 le (by rw [A3]; congr 1; omega) s2 s3, ?_, c2, s4, k3, t6⟩
          · unfold f_X12_figures
            simp only [bd_s, bd2_s, bd3_s, bd4_s, bd5_s, bd6_s, bd7_s, bd8_s, lr_l, lr_r, nm_s, jn_s, gdb_0, gdb_1, h12, if_true, hf, A1, A3, n0, n3, c1, if_false, c2]
          · unfold f_X10_takeNumber
            simp only [bd_s, bd2_s, bd3_s, bd4_s, bd5_s, bd6_s, bd7_s, bd8_s, lr_l, lr_r, nm_s, jn_s, gdb_0, gdb_1, k3, if_true, t6, c1, if_false, c2, s1]
          · rw [Int32.le_iff_toInt_le]; rw [Int32.lt_iff_toInt_lt] at c1; omega
        · refine Or.inr ⟨nI (dv c s L), pu y 12 0 (nI s), ?_, A2.to.pu12, ?_, FLy, rfl⟩
          · unfold f_X12_figures
            simp only [bd_s, bd2_s, bd3_s, bd4_s, bd5_s, bd6_s, bd7_s, bd8_s, lr_l, lr_r, nm_s, jn_s, gdb_0, gdb_1, h12, if_true, hf, A1, A3, n0, n3, c1, c2, if_false, q_wrong y12]
          · unfold f_X10_takeNumber
            simp only [bd_s, bd2_s, bd3_s, bd4_s, bd5_s, bd6_s, bd7_s, bd8_s, lr_l, lr_r, nm_s, jn_s, gdb_0, gdb_1, k3, if_true, t6, c1, c2, if_false, k_refuse h.2.2.2.2 TKv.2.2.2.1]
    · rw [if_neg z3] at t6
      have eL : L = 4 := by omega
      have n0 : ¬ nI (s + L) = nI s := fun z => by have := (nI_eq (by omega) (by omega)).mp z; omega
      have n3 : (3 : Int32) < nI (s + L) - nI s := by rw [nI_sub (by omega)]; exact nI_lt (a := 3) (by omega) (by omega)
      refine Or.inr ⟨nI (dv c s L), pu y 12 0 (nI s), ?_, A2.to.pu12, ?_, FLy, rfl⟩
      · unfold f_X12_figures
        simp only [bd_s, bd2_s, bd3_s, bd4_s, bd5_s, bd6_s, bd7_s, bd8_s, lr_l, lr_r, nm_s, jn_s, gdb_0, gdb_1, h12, if_true, hf, A1, A3, n0, n3, if_false, q_wrong y12]
      · unfold f_X10_takeNumber
        simp only [bd_s, bd2_s, bd3_s, bd4_s, bd5_s, bd6_s, bd7_s, bd8_s, lr_l, lr_r, nm_s, jn_s, gdb_0, gdb_1, k3, if_true, t6, hlo, k_refuse h.2.2.2.2 TKv.2.2.2.1]
  · have eL : L = 0 := by omega
    have k3 : ¬ gT 3 0 = 2 := by
      rcases TKv.2.2.2.2.2 with ⟨z, k3, -⟩ | ⟨z, hl, k3, -⟩ | ⟨z, hd', -⟩ | ⟨z, -, hd', k3, -⟩
      · rw [k3]; decide
      · rw [k3]; decide
      · have := sc_go (p := isD) (c := c) z hd'
        have := sc_ge (p := isD) (c := c) (n := n) (q := s + 1)
        omega
      · rw [k3]; decide
    refine Or.inr ⟨nI (dv c s L), pu y 12 0 (nI s), ?_, A2.to.pu12, ?_, FLy, rfl⟩
    · rw [eL, Nat.add_zero] at A3
      unfold f_X12_figures
      simp only [bd_s, bd2_s, bd3_s, bd4_s, bd5_s, bd6_s, bd7_s, bd8_s, lr_l, lr_r, nm_s, jn_s, gdb_0, gdb_1, h12, if_true, hf, A1, A3, q_wrong y12]
    · unfold f_X10_takeNumber
      simp only [bd_s, bd2_s, bd3_s, bd4_s, bd5_s, bd6_s, bd7_s, bd8_s, lr_l, lr_r, nm_s, jn_s, gdb_0, gdb_1, k3, if_false, k_refuse h.2.2.2.2 TKv.2.2.2.1]
theorem PR.sign (h : PR g gT c n s) {x : Nat} (hx : x ≤ 255) (xl : isL x = false) (xd : isD x = false) : ∃ g', E11 g g' ∧ g' 11 0 = nI s ∧ PR g' gT c n s ∧ ((f_X12_isSign g (nI x) = some (0, g') ∧ f_X10_isSign gT (nI x) = some 0 ∧ f_X10_takesSign gT (nI x) = some (0, gT) ∧ (s < n → ¬ c s = x)) ∨ (s < n ∧ c s = x ∧ f_X12_isSign g (nI x) = some (1, g') ∧ f_X10_isSign gT (nI x) = some 1 ∧ ∃ gT', f_X10_step gT = some gT' ∧ f_X10_takesSign gT (nI x) = some (1, gT') ∧ PR (pu g' 11 0 (nI s + 1)) gT' c n (sc isB c n (s + 1)) ∧ gT' 1 = gT 1)) := by
  obtain ⟨g1, a1, a2, a3, a4⟩ := h.skip
  have hB := h.1.e11 a2
  have n4 := h.n4
  have sn := h.sn
  have h10 : g1 10 0 = nI n := hB.2.1
  refine ⟨g1, a2, a3, a4, ?_⟩
  have TKv := h.2.2.2.1
  have no : (s < n → ¬ c s = x) → f_X12_isSign g (nI x) = some (0, g1) ∧ f_X10_isSign gT (nI x) = some 0 ∧ f_X10_takesSign gT (nI x) = some (0, gT) ∧ (s < n → ¬ c s = x) := fun hn => by
    have b : f_X10_isSign gT (nI x) = some 0 := by
      unfold f_X10_isSign
      rcases TKv.2.2.2.2.2 with ⟨z, k3, -⟩ | ⟨z, hl, k3, -⟩ | ⟨z, hd', k3, -⟩ | ⟨z, -, hd', k3, -, t6⟩
      · rw [k3]; rfl
      · rw [k3]; rfl
      · rw [k3]; rfl
      · have c8 := (TKv.2.2.1 s z).2
        have ne : ¬ nI (c s) = nI x := fun y => hn z ((nI_eq (by omega) (by omega)).mp y)
        simp only [jn_s, k3, if_true, t6, ne, if_false, gdb_0]
    refine ⟨?_, b, ?_, hn⟩
    · unfold f_X12_isSign
      by_cases z : n ≤ s
      · simp (disch := omega) only [bd_s, bd2_s, bd3_s, bd4_s, bd5_s, bd6_s, bd7_s, bd8_s, lr_l, lr_r, nm_s, jn_s, gdb_0, gdb_1, a1, h10, a3, nI_leI, z, if_true]
      · have qb := q_byte hB (show s < n by omega)
        have c8 := hB.2.2.2 s (by omega)
        have ne := hn (by omega)
        simp (disch := omega) only [bd_s, bd2_s, bd3_s, bd4_s, bd5_s, bd6_s, bd7_s, bd8_s, lr_l, lr_r, nm_s, jn_s, gdb_0, gdb_1, a1, h10, a3, nI_leI, z, if_false, qb, nI_eq, ne]
    · unfold f_X10_takesSign
      rw [b]; rfl
  by_cases z : s < n
  · by_cases e : c s = x
    · refine Or.inr ⟨z, e, ?_, ?_⟩
      · have qb := q_byte hB z
        have nz : ¬ n ≤ s := by omega
        unfold f_X12_isSign
        simp (disch := omega) only [bd_s, bd2_s, bd3_s, bd4_s, bd5_s, bd6_s, bd7_s, bd8_s, lr_l, lr_r, nm_s, jn_s, gdb_0, gdb_1, a1, h10, a3, nI_leI, nz, if_false, qb, e, if_true]
      · have tk : gT 3 0 = 3 ∧ gT 5 0 = nI (s + 1) ∧ gT 6 0 = nI (c s) := by
          rcases TKv.2.2.2.2.2 with ⟨z, k3, -⟩ | ⟨z, hl, k3, -⟩ | ⟨z, hd', k3, -⟩ | ⟨z, -, hd', k3, t5, t6⟩
          · omega
          · rw [e, xl] at hl; cases hl
          · rw [e, xd] at hd'; cases hd'
          · exact ⟨k3, t5, t6⟩
        obtain ⟨k3, t5, t6⟩ := tk
        have b : f_X10_isSign gT (nI x) = some 1 := by
          unfold f_X10_isSign
          simp only [jn_s, k3, if_true, t6, e, gdb_1]
        obtain ⟨gT', s1, s2, s3, s4⟩ := TKv.stepOk t5 (show s + 1 ≤ n by omega)
        refine ⟨b, gT', s1, ?_, ?_, s4⟩
        · unfold f_X10_takesSign
          rw [b]
          simp only [bd_s, jn_s, i10, if_false, s1]
          rfl
        · exact h.move (a2.pu) (show s + 1 ≤ n by omega) (by rw [pu_s, if_pos rfl, nI_1]) s2 s3
    · exact Or.inl (no (fun _ => e))
  · exact Or.inl (no (fun y => absurd y z))
/-- the end of the text, for both -/
theorem PR.end_ (h : PR g gT c n s) : (gT 3 0 = 0) = (s = n) := by
  rcases h.2.2.2.1.2.2.2.2.2 with ⟨z, k3, -⟩ | ⟨z, hl, k3, -⟩ | ⟨z, hd', k3, -⟩ | ⟨z, -, hd', k3, -, t6⟩
  · exact propext ⟨fun _ => z, fun _ => k3⟩
  · exact propext ⟨fun y => absurd (k3.symm.trans y) (by decide), fun y => by omega⟩
  · exact propext ⟨fun y => absurd (k3.symm.trans y) (by decide), fun y => by omega⟩
  · exact propext ⟨fun y => absurd (k3.symm.trans y) (by decide), fun y => by omega⟩
end K21
