/-! the law that is kept, and read again -/
def LX (ln : Nat → Nat) (gl g5 : Pic) (K z : Nat) : Prop := gl 0 0 = nI K ∧ (∀ i, i < K → gl 1 i = g5 1 i) ∧ (∀ i, i < K → gl 2 i = g5 2 i) ∧ (∀ i, i ≤ K → gl 3 i = g5 3 i) ∧ (∀ p, p < z → gl 4 p = g5 4 p) ∧ K ≤ ln 1 ∧ K ≤ ln 2 ∧ K < ln 3 ∧ z ≤ ln 4 ∧ ln 1 ≤ 400 ∧ ln 2 ≤ 400 ∧ ln 3 ≤ 400 ∧ ln 4 ≤ 400
/-- row m's law is the one that the class keeps in gl -/
def LW (m : Nat → Int32) (ln : Nat → Nat) (gl : Pic) : Prop := ∃ (c : Nat → Nat) (n K z : Nat) (gT gT1 g5 g5' gT' : Pic), m 1 = nI K ∧ m 2 = nI n ∧ n ≤ 400 ∧ (∀ k, k < n → m (456 + k) = nI (c k) ∧ c k ≤ 255) ∧ K ≤ 12 ∧ z ≤ 400 ∧ f_X10_open gT = some gT1 ∧ TK gT1 c n (sc isB c n 0) ∧ gT1 7 0 = -1 ∧ g5 3 0 = 0 ∧ g5' 3 0 = 0 ∧ f_X5_readsText g5 gT = some (1, g5', gT') ∧ g5' 5 0 = nI K ∧ g5' 6 0 = nI z ∧ LX ln gl g5' K z
theorem LW.c {m m' : Nat → Int32} {ln : Nat → Nat} {gl : Pic} (h : LW m ln gl) (h1 : m' 1 = m 1) (h2 : m' 2 = m 2) (h4 : ∀ p, 456 ≤ p → m' p = m p) : LW m' ln gl := by
  obtain ⟨c, n, K, z, gT, gT1, g5, g5', gT', a1, a2, a3, a4, a5⟩ := h
  exact ⟨c, n, K, z, gT, gT1, g5, g5', gT', h1.trans a1, h2.trans a2, a3, fun k hk => by rw [h4 _ (by omega)]; exact a4 k hk, a5⟩
theorem LX.g {ln : Nat → Nat} {gl gl' g5 : Pic} {K z : Nat} (h : LX ln gl g5 K z) (e : ∀ j, j ≠ 5 → gl' j = gl j) : LX ln gl' g5 K z := by
  obtain ⟨a0, a1, a2, a3, a4, a5⟩ := h
  exact ⟨by rw [e 0 (by decide)]; exact a0, fun i hi => by rw [e 1 (by decide)]; exact a1 i hi, fun i hi => by rw [e 2 (by decide)]; exact a2 i hi, fun i hi => by rw [e 3 (by decide)]; exact a3 i hi, fun i hi => by rw [e 4 (by decide)]; exact a4 i hi, a5⟩
theorem LW.g {m : Nat → Int32} {ln : Nat → Nat} {gl gl' : Pic} (h : LW m ln gl) (e : ∀ j, j ≠ 5 → gl' j = gl j) : LW m ln gl' := by
  obtain ⟨c, n, K, z, gT, gT1, g5, g5', gT', a1, a2, a3, a4, a5, a6, a7, a8, a9, a10, a11, a12, a13, a14, a15⟩ := h
  exact ⟨c, n, K, z, gT, gT1, g5, g5', gT', a1, a2, a3, a4, a5, a6, a7, a8, a9, a10, a11, a12, a13, a14, a15.g e⟩
/-- where the reference stands when it reads the law again -/
def rrd (g : Pic) (L : Int32) : Pic := pu (pu (pu (pu (pu g 12 0 (-1)) 9 0 456) 10 0 L) 11 0 0) 13 0 0
theorem rrd_o {g : Pic} {L : Int32} {k : Nat} (h9 : k ≠ 9) (h10 : k ≠ 10) (h11 : k ≠ 11) (h12 : k ≠ 12) (h13 : k ≠ 13) : rrd g L k = g k := by
  unfold rrd
  rw [pu_o h13, pu_o h11, pu_o h10, pu_o h9, pu_o h12]
theorem rrd_fa (g : Pic) (L : Int32) : fa_ (rrd g L) = fa_ g := fa_c (rrd_o (by decide) (by decide) (by decide) (by decide) (by decide)) (rrd_o (by decide) (by decide) (by decide) (by decide) (by decide)) (rrd_o (by decide) (by decide) (by decide) (by decide) (by decide))
section K39
variable {g gl gF : Pic} {ln : Nat → Nat}
/-- no law, or one of no lines: nothing is read -/
theorem q_rereads0 (g : Pic) : ∃ g1, f_X12_read (rrd g 0) 1 = some (0, g1) ∧ E11 (rrd g 0) g1 := by
  have hB : RB (rrd g 0) (fun _ => 0) 0 := ⟨Or.inr ⟨rfl, fun k hk => absurd hk (Nat.not_lt_zero k)⟩, rfl, Nat.zero_le _, fun k hk => absurd hk (Nat.not_lt_zero k)⟩
  obtain ⟨g1, a, b, d⟩ := q_skip (q := 0) hB rfl (by omega)
  refine ⟨g1, ?_, b⟩
  have h10 : g1 10 0 = 0 := by rw [b 10 (by decide)]; rfl
  have h11 : g1 11 0 = 0 := d
  have L : f_X12_read_L23 1 fu (0, 0, g1) = some (0, g1) := by
    obtain ⟨f, hf⟩ : ∃ f, fu = f + 1 := ⟨fu - 1, by have := fu_big; omega⟩
    rw [hf]; rfl
  unfold f_X12_read
  rw [a]
  simp only [bd_s, jn_s, h10, h11]
  rw [if_pos (Int32.le_refl _), L]
  rfl
/-- what the law gives: t, on both sides -/
theorem q_rereads (hB : hb g) (hW : LW (g 1) ln gl) : ∃ (y : Int32) (g1 : Pic) (t : Nat → Int32), f_X12_read (rrd g (if 1 ≤ g 1 1 then g 1 2 else 0)) 1 = some (y, g1) ∧ E19 (rrd g (if 1 ≤ g 1 1 then g 1 2 else 0)) g1 ∧ (∀ x, x < 3 → g1 (17 + x) 0 = g (17 + x) 0 + t x) ∧ (∀ x, ∃ T, T ≤ 1188 ∧ t x = nI T) ∧ ∀ gF, (∀ k, k < 9 → gF 0 k = fa_ g k) → ∀ gl', (∀ j, j ≠ 5 → gl' j = gl j) → ∀ x, x < 3 → ∃ gl'', f_X4_sumOf ln gl' gF (nI x) = some (t x, gl'') ∧ ∀ j, j ≠ 5 → gl'' j = gl' j := by
  obtain ⟨c, n, K, z, gT, gT1, g5, g5', gT', a1, a2, a3, a4, a5, a6, a7, a8, a9, a10, a11, a12, a13, a14, a15⟩ := hW
  have sum : ∀ (z : Nat) (t : Nat → Int32), LX ln gl g5' K z → LN (fa_ g) g5' K z t → ∀ gF, (∀ k, k < 9 → gF 0 k = fa_ g k) → ∀ gl', (∀ j, j ≠ 5 → gl' j = gl j) → ∀ x, x < 3 → ∃ gl'', f_X4_sumOf ln gl' gF (nI x) = some (t x, gl'') ∧ ∀ j, j ≠ 5 → gl'' j = gl' j := by
    intro z t hX hN gF hF gl' e x hx
    obtain ⟨b0, b1, b2, b3, b4, b5, b6, b7, b8, b9, b10, b11, b12⟩ := hX.g e
    exact k_sum hF b5 b6 b7 b9 b10 b11 b8 b12 b0 (by rw [b3 0 (Nat.zero_le _)]; exact a11) (hN.c b1 b2 b3 b4) hx
  by_cases K0 : K = 0
  · have nl : ¬ 1 ≤ g 1 1 := by rw [a1, K0]; decide
    rw [if_neg nl]
    obtain ⟨g1, b1, b2⟩ := q_rereads0 g
    refine ⟨0, g1, fun _ => 0, b1, b2.to.t13.t19, fun x hx => ?_, fun x => ⟨0, by omega, rfl⟩, sum 0 (fun _ => 0) ?_ ?_⟩
    · rw [b2 (17 + x) (by omega), rrd_o (by omega) (by omega) (by omega) (by omega) (by omega), Int32.add_zero]
    · obtain ⟨b0, b1, b2, b3, b4, b5, b6, b7, b8, b9⟩ := a15
      exact ⟨b0, b1, b2, b3, fun p hp => absurd hp (Nat.not_lt_zero p), b5, b6, b7, Nat.zero_le _, b9⟩
    · rw [K0]; exact ⟨rfl, fun _ => rfl⟩
  · have le : 1 ≤ g 1 1 := by rw [a1]; exact nI_le (a := 1) (by omega) (by omega)
    rw [if_pos le, a2]
    have r1 : rrd g (nI n) 1 = g 1 := rrd_o (by decide) (by decide) (by decide) (by decide) (by decide)
    have p : PR (rrd g (nI n)) gT1 c n (sc isB c n 0) := ⟨⟨Or.inr ⟨rfl, fun k hk => by rw [r1]; exact (a4 k hk).1⟩, rfl, a3, fun k hk => (a4 k hk).2⟩, ⟨0, Nat.zero_le _, rfl, rfl⟩, rfl, a8, a9⟩
    have hB' : hb (rrd g (nI n)) := by
      unfold hb
      rw [rrd_o (k := 15) (by decide) (by decide) (by decide) (by decide) (by decide), rrd_o (k := 16) (by decide) (by decide) (by decide) (by decide) (by decide)]
      exact hB
    obtain ⟨v, y, g1, gT2, g52, e1, e2, e3, e4, e5, e6⟩ := e_lawReads a7 p hB' rfl a10
    rw [a12] at e2
    injection e2 with e2
    injection e2 with e7 e2
    injection e2 with e8 e9
    subst e8
    subst e7
    rcases e6 with ⟨-, K', -, m1, m2, m3, m4, m5, z', t, m6, m7, m8, m9⟩ | ⟨e6, -⟩
    · have eK : K' = K := ((nI_eq (by omega) (by omega)).mp (a13.symm.trans m4)).symm
      have ez : z' = z := ((nI_eq (by omega) (by omega)).mp (a14.symm.trans m7)).symm
      subst eK
      subst ez
      rw [rrd_fa] at m8
      refine ⟨y, g1, t, e1, e4, fun x hx => ?_, fun x => ?_, sum z' t a15 m8⟩
      · rw [m9 x hx]
        show rrd g (nI n) (17 + x) 0 + t x = _
        rw [rrd_o (k := 17 + x) (by omega) (by omega) (by omega) (by omega) (by omega)]
      · obtain ⟨T, y1, y2⟩ := m8.bd x
        exact ⟨T, by omega, y2⟩
    · exact absurd e6 (by decide)
end K39
