/-! the law asked, on both sides -/
def Ea (g g' : Pic) : Prop := (∀ k, k < 9 ∨ 20 ≤ k → g' k = g k) ∧ g' 12 0 = g 12 0
theorem Ea.rf (g : Pic) : Ea g g := ⟨fun _ _ => rfl, rfl⟩
theorem Ea.tr {a b d : Pic} (h : Ea a b) (k : Ea b d) : Ea a d := ⟨fun i hi => (k.1 i hi).trans (h.1 i hi), k.2.trans h.2⟩
/-- what a law gives under facts v: t 0, t 1, t 2 -/
def GL (ln : Nat → Nat) (gl : Pic) (v : List Int32) (t : Nat → Int32) : Prop := ∀ gF : Pic, (∀ k, k < 9 → gF 0 k = fsv v k) → ∀ gl', (∀ j, j ≠ 5 → gl' j = gl j) → ∀ x, x < 3 → ∃ gl'', f_X4_sumOf ln gl' gF (nI x) = some (t x, gl'') ∧ ∀ j, j ≠ 5 → gl'' j = gl' j
def bv (v : List Int32) : Prop := (fsv v 7 = 0 ∨ fsv v 7 = 1) ∧ (fsv v 8 = 0 ∨ fsv v 8 = 1)
theorem bv_N (m : Nat → Int32) (u : Nat) : bv (fsN m u) := ⟨Or.inl rfl, Or.inl rfl⟩
theorem bv_W (m : Nat → Int32) (u w : Nat) : bv (fsW m u w) := by
  refine ⟨?_, ?_⟩
  · show (if nI (kl m w (wr m u 0)).length = wd m w 6 then (1 : Int32) else 0) = 0 ∨ (if nI (kl m w (wr m u 0)).length = wd m w 6 then (1 : Int32) else 0) = 1
    split
    · exact Or.inr rfl
    · exact Or.inl rfl
  · show (if lk m w (wr m u 0) = (1 : Int32) <<< (nI w &&& 31) then (1 : Int32) else 0) = 0 ∨ (if lk m w (wr m u 0) = (1 : Int32) <<< (nI w &&& 31) then (1 : Int32) else 0) = 1
    split
    · exact Or.inr rfl
    · exact Or.inl rfl
section K42
variable {g gl : Pic} {ln : Nat → Nat} {v : List Int32} {xu xw : Int32}
theorem ask_ea {g1 : Pic} {L : Int32} (e : E19 (rrd (aF g v) L) g1) : Ea g (pu g1 12 0 ((aF g v) 12 0)) := by
  refine ⟨fun k hk => ?_, ?_⟩
  · rw [pu_o (by omega), e k (by omega) (by omega) (by omega) (by omega) (by omega) (by omega), rrd_o (by omega) (by omega) (by omega) (by omega) (by omega), aF_o (by omega) (by omega) (by omega) (by omega) (by omega) (by omega)]
  · rw [pu_s, if_pos rfl, aF_o (by decide) (by decide) (by decide) (by decide) (by decide) (by decide)]
/-- there is a law -/
theorem q_asksL (hA : f_X12_asks g xu xw = qAsk (aF g v)) (hv : bv v) (hW : LW (g 1) ln gl) : ∃ (g' : Pic) (t : Nat → Int32), f_X12_asks g xu xw = some g' ∧ Ea g g' ∧ g' 17 0 = fsv v 2 + t 0 ∧ g' 18 0 = 2 + t 1 ∧ g' 19 0 = g 1 8 + t 2 ∧ (∀ x, ∃ T, T ≤ 1188 ∧ t x = nI T) ∧ GL ln gl v t := by
  have m1 : (aF g v) 1 = g 1 := aF_o (by decide) (by decide) (by decide) (by decide) (by decide) (by decide)
  obtain ⟨y, g1, t, a1, a2, a3, a5, a4⟩ := q_rereads (g := aF g v) (ln := ln) (gl := gl) hv (by rw [m1]; exact hW)
  refine ⟨pu g1 12 0 ((aF g v) 12 0), t, ?_, ask_ea a2, ?_, ?_, ?_, a5, ?_⟩
  · rw [hA, q_ask, a1]; rfl
  · rw [pu_o (by decide)]; exact a3 0 (by decide)
  · rw [pu_o (by decide)]; exact a3 1 (by decide)
  · rw [pu_o (by decide)]; exact a3 2 (by decide)
  · intro gF hF
    exact a4 gF (fun k hk => by rw [aF_fa g v hk]; exact hF k hk)
/-- there is none -/
theorem q_asksO (hA : f_X12_asks g xu xw = qAsk (aF g v)) (h1 : g 1 1 = 0) : ∃ g', f_X12_asks g xu xw = some g' ∧ Ea g g' ∧ g' 17 0 = fsv v 2 ∧ g' 18 0 = 2 ∧ g' 19 0 = g 1 8 := by
  have m1 : (aF g v) 1 = g 1 := aF_o (by decide) (by decide) (by decide) (by decide) (by decide) (by decide)
  have nl : ¬ 1 ≤ (aF g v) 1 1 := by rw [m1, h1]; decide
  obtain ⟨g1, b1, b2⟩ := q_rereads0 (aF g v)
  refine ⟨pu g1 12 0 ((aF g v) 12 0), ?_, ask_ea b2.to.t13.t19, ?_, ?_, ?_⟩
  · rw [hA, q_ask, if_neg nl, b1]; rfl
  · rw [pu_o (by decide), b2 17 (by decide)]; rfl
  · rw [pu_o (by decide), b2 18 (by decide)]; rfl
  · rw [pu_o (by decide), b2 19 (by decide)]; rfl
end K42
