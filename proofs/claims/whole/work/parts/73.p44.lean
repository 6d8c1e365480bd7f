/-! a writer rests -/
def eV (T a : Int32) : Int32 := if (T - 2) - a < 0 then 0 else (T - 2) - a
theorem sub2 (a b d : Int32) : a - (b + d) = a - b - d := by
  rw [Int32.sub_eq_iff_eq_add, Int32.add_comm b d, ← Int32.add_assoc, Int32.sub_add_cancel, Int32.sub_add_cancel]
theorem nI_neg {a b : Nat} (h : a < b) (hb : b < 2 ^ 30) : nI a - nI b < 0 := by
  have x := nI_toInt (n := a) (by omega)
  have y := nI_toInt (n := b) (by omega)
  rw [Int32.lt_iff_toInt_lt, Int32.toInt_sub, x, y, Int32.toInt_zero, Int.bmod_eq_of_le (by omega) (by omega)]
  omega
theorem eV_q (T a : Int32) : f_X12_greater 0 (T - (2 + a)) = some (eV T a) := by
  rw [q_greater, sub2]
  unfold eV
  by_cases h : T - 2 - a < 0
  · rw [if_pos h, if_neg (Int32.not_le.mpr h)]
  · rw [if_neg h, if_pos (Int32.not_lt.mp h)]
theorem eV_b {T a : Nat} (hT : T ≤ 99) (ha : a ≤ 1188) : Bn (eV (nI T) (nI a)) 0 99 := by
  unfold eV
  rw [← sub2, show (2 : Int32) = nI 2 from rfl, nI_add]
  by_cases h : 2 + a ≤ T
  · rw [nI_sub h]
    split
    · exact Bn.mk (n := 0) (by omega) (by omega) (by omega)
    · exact Bn.mk (by omega) (by omega) (by omega)
  · rw [if_pos (nI_neg (by omega) (by omega))]
    exact Bn.mk (n := 0) (by omega) (by omega) (by omega)
/-- rows and cells that a minute's step leaves to a writer alone -/
def Em (g g' : Pic) : Prop := (∀ k, k ≠ 1 → (k < 9 ∨ 20 ≤ k) → g' k = g k) ∧ g' 12 0 = g 12 0 ∧ ∀ p, p < 96 ∨ 216 ≤ p → g' 1 p = g 1 p
theorem Em.rf (g : Pic) : Em g g := ⟨fun _ _ _ => rfl, rfl, fun _ _ => rfl⟩
theorem Em.tr {a b d : Pic} (h : Em a b) (k : Em b d) : Em a d := ⟨fun i h1 h2 => (k.1 i h1 h2).trans (h.1 i h1 h2), k.2.1.trans h.2.1, fun p hp => (k.2.2 p hp).trans (h.2.2 p hp)⟩
section K44
variable {g gS gL gl gF gH : Pic} {u : Nat} {ln : Nat → Nat} {v : List Int32} {xw : Int32}
theorem q_restIs (hO : Ok (g 1)) (hu : u < tn (g 1 4)) {g1 : Pic} {a : Int32} (hA : f_X12_asks g (nI u) xw = some g1) (he : Ea g g1) (h18 : g1 18 0 = 2 + a) : f_X12_easesOff g (nI u) xw = some (pu g1 1 (96 + 4 * u + 3) (eV (wr (g 1) u 3) a)) ∧ Em g (pu g1 1 (96 + 4 * u + 3) (eV (wr (g 1) u 3) a)) ∧ (pu g1 1 (96 + 4 * u + 3) (eV (wr (g 1) u 3) a)) 1 = upd (g 1) (96 + 4 * u + 3) (eV (wr (g 1) u 3) a) := by
  have u5 := hO.U.2.2
  have m1 : g1 1 = g 1 := he.1 1 (by omega)
  have o3 : f_X12_of g1 (nI u) 3 = some (wr (g 1) u 3) := by rw [← m1]; exact q_of (k := 3) (by omega) (by decide)
  have l3 : f_X12_lays g1 (nI u) 3 (eV (wr (g 1) u 3) a) = some (pu g1 1 (96 + 4 * u + 3) (eV (wr (g 1) u 3) a)) := q_lays (k := 3) (by omega) (by decide) _
  refine ⟨?_, ⟨fun k h1 h2 => by rw [pu_o h1]; exact he.1 k h2, by rw [pu_o (by decide)]; exact he.2, fun p hp => by rw [pu_s, if_neg (by omega), m1]⟩, by rw [pu_row, if_pos rfl, m1]⟩
  unfold f_X12_easesOff
  rw [hA, bd_s, o3, bd_s, h18, eV_q, bd_s, l3, bd_s]
theorem k_restN (hO : Ok (g 1)) (hR : RS gS gL (g 1)) (hu : u < tn (g 1 4)) (g0 gF gH : Pic) : f_X0_restOne_n g0 gF gH gS gL (nI u) = some (pu gS 11 u (eV (wr (g 1) u 3) 0)) := by
  have u5 := hO.U.2.2
  have s3 := hR.tired hu
  unfold f_X0_restOne_n f_X0_lawOf_n eV
  simp (disch := omega) only [gdi_n, bd_s, nm_s, nI_clamp, s3]
theorem k_restL (hO : Ok (g 1)) (hR : RS gS gL (g 1)) (hu : u < tn (g 1 4)) {t : Nat → Int32} (hG : GL ln gl v t) (hF : ∀ k, k < 9 → gF 0 k = fsv v k) {gl' : Pic} (e : ∀ j, j ≠ 5 → gl' j = gl j) (g0 gH : Pic) : ∃ gl'', f_X0_restOne_l ln g0 gl' gF gH gS gL (nI u) = some (gl'', pu gS 11 u (eV (wr (g 1) u 3) (t 1))) ∧ ∀ j, j ≠ 5 → gl'' j = gl' j := by
  have u5 := hO.U.2.2
  have s3 := hR.tired hu
  obtain ⟨gl'', a1, a2⟩ := hG gF hF gl' e 1 (by decide)
  have a1 : f_X4_sumOf ln gl' gF 1 = some (t 1, gl'') := a1
  refine ⟨gl'', ?_, a2⟩
  unfold f_X0_restOne_l f_X0_lawOf_l eV
  simp (disch := omega) only [gdi_n, bd2_s, nm_s, nI_clamp, s3, a1]
theorem st_rest (hO : Ok (g 1)) (hR : RS gS gL (g 1)) (hu : u < tn (g 1 4)) {a : Nat} (ha : a ≤ 1188) : Ok (upd (g 1) (96 + 4 * u + 3) (eV (wr (g 1) u 3) (nI a))) ∧ RS (pu gS 11 u (eV (wr (g 1) u 3) (nI a))) gL (upd (g 1) (96 + 4 * u + 3) (eV (wr (g 1) u 3) (nI a))) := by
  have b : Bn (eV (wr (g 1) u 3) (nI a)) 0 99 := by
    obtain ⟨T, e1, -, -, e2⟩ := (hO.tired hu).ex
    rw [e1]
    exact eV_b e2 ha
  exact ⟨hO.wr_ hu (by decide) (fun y => by omega) (fun y => by omega) (fun y => by omega) (fun _ => b), hR.wr_ (k := 3) hO hu (by decide) _⟩
/-- easesOff against restOne, no law -/
theorem e_restN (hO : Ok (g 1)) (hR : RS gS gL (g 1)) (hu : u < tn (g 1 4)) (hA : f_X12_asks g (nI u) xw = qAsk (aF g v)) (h1 : g 1 1 = 0) (g0 gF gH : Pic) : ∃ g' gS', f_X12_easesOff g (nI u) xw = some g' ∧ Em g g' ∧ f_X0_restOne_n g0 gF gH gS gL (nI u) = some gS' ∧ Ok (g' 1) ∧ RS gS' gL (g' 1) := by
  obtain ⟨g1, a1, a2, -, a4, -⟩ := q_asksO hA h1
  obtain ⟨b1, b2, b3⟩ := q_restIs hO hu a1 a2 (a := 0) (by rw [a4]; rfl)
  obtain ⟨c1, c2⟩ := st_rest hO hR hu (a := 0) (by omega)
  exact ⟨_, _, b1, b2, k_restN hO hR hu g0 gF gH, by rw [b3]; exact c1, by rw [b3]; exact c2⟩
/-- and with a law -/
theorem e_restL (hO : Ok (g 1)) (hR : RS gS gL (g 1)) (hu : u < tn (g 1 4)) (hA : f_X12_asks g (nI u) xw = qAsk (aF g v)) (hv : bv v) (hW : LW (g 1) ln gl) (hF : ∀ k, k < 9 → gF 0 k = fsv v k) (g0 gH : Pic) : ∃ g' gS' gl', f_X12_easesOff g (nI u) xw = some g' ∧ Em g g' ∧ f_X0_restOne_l ln g0 gl gF gH gS gL (nI u) = some (gl', gS') ∧ Ok (g' 1) ∧ RS gS' gL (g' 1) ∧ LW (g' 1) ln gl' := by
  obtain ⟨g1, t, a1, a2, -, a4, -, a6, a7⟩ := q_asksL hA hv hW
  obtain ⟨T, t1, t2⟩ := a6 1
  obtain ⟨b1, b2, b3⟩ := q_restIs hO hu a1 a2 (a := t 1) a4
  obtain ⟨c1, c2⟩ := st_rest hO hR hu (a := T) t1
  obtain ⟨gl', d1, d2⟩ := k_restL hO hR hu a7 hF (fun _ _ => rfl) g0 gH
  rw [← t2] at c1 c2
  exact ⟨_, _, gl', b1, b2, d1, by rw [b3]; exact c1, by rw [b3]; exact c2, (hW.c (b2.2.2 1 (by omega)) (b2.2.2 2 (by omega)) (fun p hp => b2.2.2 p (by omega))).g d2⟩
end K44
