/-! a turn: its end (page and log), the slips, the draw -/
section K47
variable {g g1 gS gL gF gH gl : Pic} {u w : Nat} {ln : Nat → Nat} {v : List Int32} {t : Nat → Int32}
/-- rows and cells that a turn leaves -/
def Et (g g' : Pic) : Prop := (∀ k, k ≠ 1 → (k < 9 ∨ 20 ≤ k) → g' k = g k) ∧ g' 12 0 = g 12 0 ∧ ∀ p, (p < 96 ∧ p ≠ 10 ∧ p ≠ 11) ∨ 456 ≤ p → g' 1 p = g 1 p
theorem Et.rf (g : Pic) : Et g g := ⟨fun _ _ _ => rfl, rfl, fun _ _ => rfl⟩
theorem Et.tr {a b d : Pic} (h : Et a b) (k : Et b d) : Et a d := ⟨fun i h1 h2 => (k.1 i h1 h2).trans (h.1 i h1 h2), k.2.1.trans h.2.1, fun p hp => (k.2.2 p hp).trans (h.2.2 p hp)⟩
theorem Em.et {a b : Pic} (h : Em a b) : Et a b := ⟨h.1, h.2.1, fun p hp => h.2.2 p (by omega)⟩
theorem Ea.et {a b : Pic} (h : Ea a b) : Et a b := ⟨fun k _ h2 => h.1 k h2, h.2, fun p _ => by rw [h.1 1 (by omega)]⟩
/-- the page and the log take what was done -/
theorem e_turnEnd (hO : Ok (g 1)) (hR : RS gS gL (g 1)) (hu : u < tn (g 1 4)) (hD : tn (g 1 6) < tn (g 1 5)) (w : Int32) {o : Nat} (ho : o ≤ 2) : ∃ g' gS' gL', gdi ((116 + (20 * nI u)) + (g 1 6)) 856 (nm (pu g 1 (((116 + (20 * nI u)) + (g 1 6)).toNatClampNeg) (nI o)) (fun g0_3 => bd (f_X12_logs g0_3 (nI u) w (nI o)) (fun g0_4 => some g0_4))) = some g' ∧ Et g g' ∧ Ok (g' 1) ∧ RS gS' gL' (g' 1) ∧
    ∀ {α : Type} (X : Pic → Pic → Option α), gdi ((nI u * 20) + (gS 6 0)) 100 (nm (pu gS 12 (((nI u * 20) + (gS 6 0)).toNatClampNeg) (nI o)) (fun g3_6 => bd (f_X7_add gL (g3_6 15 0) (nI u) w (nI o)) (fun g4_7 => X g3_6 g4_7))) = X gS' gL' := by
  have u5 := hO.U.2.2
  have s20 := hO.S.2.2
  obtain ⟨D, d1, d2, -, -⟩ := hO.D.ex
  rw [d2] at hD
  have s6 : gS 6 0 = nI D := by rw [hR.D]; exact d1
  have bo' : Bn (nI o) 0 2 := Bn.mk (by omega) ho (by omega)
  have O1 := hO.pg_ hu (k := D) (by omega) bo'
  have R1 := hR.pg_ hO hu (k := D) (by omega) (nI o)
  obtain ⟨g', l1, l2, l3⟩ := q_logs (pu g 1 (116 + 20 * u + D) (nI o)) (nI u) w (nI o)
  have r1 : (pu g 1 (116 + 20 * u + D) (nI o)) 1 = upd (g 1) (116 + 20 * u + D) (nI o) := by rw [pu_row, if_pos rfl]
  rw [r1] at l3
  obtain ⟨gL', a1, a2⟩ := rs_log R1 O1 (nI u) w (nI o)
  have e1 : (116 + (20 * nI u)) + nI D = nI (116 + 20 * u + D) := by
    rw [show (116 : Int32) = nI 116 from rfl, show (20 : Int32) = nI 20 from rfl, nI_mul, nI_add, nI_add]
  have e2 : (nI u * 20) + nI D = nI (u * 20 + D) := by
    rw [show (20 : Int32) = nI 20 from rfl, nI_mul, nI_add]
  refine ⟨g', pu gS 12 (u * 20 + D) (nI o), gL', ?_, ⟨fun k h1 h2 => by rw [l2 k h1, pu_o h1], by rw [l2 12 (by decide), pu_o (by decide)], fun p hp => ?_⟩, by rw [l3]; exact ok_log O1 _ _ _, by rw [l3]; exact a2, fun X => ?_⟩
  · rw [d1, e1, gdi_n (by omega) (by omega), nI_clamp (by omega), nm_s, l1, bd_s]
  · rw [l3]
    unfold lgM
    rw [if_neg (by omega), if_neg (by omega), if_neg (by omega), if_neg (by omega), if_neg (by omega), if_neg (by omega), upd_o (by omega)]
  · rw [s6, e2, gdi_n (by omega) (by omega), nI_clamp (by omega), nm_s, a1, bd_s]
/-- slips, both sides -/
theorem q_slips (hO : Ok (g 1)) (hu : u < tn (g 1 4)) {xw : Int32} {a : Int32} (hA : f_X12_asks g (nI u) xw = some g1) (he : Ea g g1) (h19 : g1 19 0 = g 1 8 + a) : f_X12_slipsOf g (nI u) xw = some (spV ((g 1 8 + a) - 5 * wr (g 1) u 2), g1) := by
  have u5 := hO.U.2.2
  have m1 : g1 1 = g 1 := he.1 1 (by omega)
  have o2 : f_X12_of g1 (nI u) 2 = some (wr (g 1) u 2) := by rw [← m1]; exact q_of (k := 2) (by omega) (by decide)
  have s := spV_q ((g 1 8 + a) - 5 * wr (g 1) u 2)
  unfold f_X12_slipsOf
  rw [hA, bd_s, o2, bd_s, h19]
  rw [q_lesser, bd_s] at s
  rw [q_lesser, bd_s, s, bd_s]
theorem k_slipsN {m : Nat → Int32} (h8 : gS 14 0 = m 8) (f5 : gF 0 5 = wr m u 2) (g0 gH : Pic) : f_X0_slipsOf_n g0 gF gH gS gL = some (spV ((m 8 + 0) - 5 * wr m u 2)) := by
  unfold f_X0_slipsOf_n f_X0_lawOf_n spV
  rw [bd_s, nm_s, h8, f5]
theorem k_slipsL {m : Nat → Int32} (h8 : gS 14 0 = m 8) (hF : ∀ k, k < 9 → gF 0 k = fsv v k) (f5 : fsv v 5 = wr m u 2) (hG : GL ln gl v t) {gl' : Pic} (e : ∀ j, j ≠ 5 → gl' j = gl j) (g0 gH : Pic) : ∃ gl'', f_X0_slipsOf_l ln g0 gl' gF gH gS gL = some (spV ((m 8 + t 2) - 5 * wr m u 2), gl'') ∧ ∀ j, j ≠ 5 → gl'' j = gl' j := by
  obtain ⟨gl'', a1, a2⟩ := hG gF hF gl' e 2 (by decide)
  have a1 : f_X4_sumOf ln gl' gF 2 = some (t 2, gl'') := a1
  refine ⟨gl'', ?_, a2⟩
  have g5 : gF 0 5 = wr m u 2 := by rw [hF 5 (by decide)]; exact f5
  unfold f_X0_slipsOf_l f_X0_lawOf_l spV
  rw [a1, bd2_s, bd2_s, nm_s, h8, g5]
/-- the draw, both sides -/
def drS (x : Int32) : Int32 := (1103515245 * x) + 12345
def drV (x : Int32) : Int32 := (((drS x).toUInt32 >>> ((16 : Int32).toUInt32 &&& Int32.toUInt32 31)).toInt32) &&& 32767
theorem q_draw (g : Pic) : f_X12_draw g 100 = some (drV (g 1 11) - drV (g 1 11) / 100 * 100, pu g 1 11 (drS (g 1 11))) := by
  unfold f_X12_draw
  rw [nm_s]
  have e : (pu g 1 11 (1103515245 * g 1 11 + 12345)) 1 11 = drS (g 1 11) := by rw [pu_s, if_pos rfl]; rfl
  rw [e]
  exact gdz_n (c := 100) (by omega) (by omega)
theorem k_draw (gS : Pic) : f_X9_draw gS = some (drV (gS 16 0), pu gS 16 0 (drS (gS 16 0))) := by
  unfold f_X9_draw
  rw [nm_s]
  have e : (pu gS 16 0 (1103515245 * gS 16 0 + 12345)) 16 0 = drS (gS 16 0) := by rw [pu_s, if_pos rfl]; rfl
  rw [e]
  rfl
theorem st_draw {m : Nat → Int32} (hO : Ok m) (hR : RS gS gL m) : Ok (upd m 11 (drS (m 11))) ∧ RS (pu gS 16 0 (drS (gS 16 0))) gL (upd m 11 (drS (m 11))) := by
  refine ⟨hO.sc (by omega) (fun y => by omega) (fun y => by omega) (fun y => by omega) (fun y => by omega), ?_⟩
  rw [hR.seed]
  exact hR.sc hO (by omega)
end K47
