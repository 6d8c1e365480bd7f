/-! all writers' turns; a minute -/
section K50
variable {g gS gL gF gH gl : Pic} {u w : Nat} {ln : Nat → Nat}
theorem e_sayN (hO : Ok (g 1)) (hR : RS gS gL (g 1)) (hw : w < tn (g 1 3)) (hD : tn (g 1 6) < tn (g 1 5)) (hs : g 1 (76 + tn (g 1 6)) = nI w) (h1 : g 1 1 = 0) (x2 : Int32) (g0 gF gH : Pic) : ∃ g' gF' gH' gS' gL', f_X12_passes_L20 x2 fu (0, g) = some g' ∧ f_X0_sayNext_n_L13 x2 (nI w) g0 fu (0, gF, gH, gS, gL) = some (gF', gH', gS', gL') ∧ Et g g' ∧ Ok (g' 1) ∧ RS gS' gL' (g' 1) := by
  obtain ⟨U, hU, tU, -, u5⟩ := hO.U.ex
  obtain ⟨D, d1, d2, -, -⟩ := hO.D.ex
  have s20 := hO.S.2.2
  have hD' := hD
  rw [d2] at hs hD'
  obtain ⟨a, b, w1, w2, gF', gH', gS', gL', rfl, w3, w4, w5⟩ : ∃ a b, f_X12_passes_L20 x2 fu (0, g) = some a ∧ f_X0_sayNext_n_L13 x2 (nI w) g0 fu (0, gF, gH, gS, gL) = some b ∧ ∃ gF' gH' gS' gL', b = (gF', gH', gS', gL') ∧ Et g a ∧ Ok (a 1) ∧ RS gS' gL' (a 1) := by
    refine lp_two (fun k a b => ∃ (g' gF' gH' gS' gL' : Pic), a = (nI k, g') ∧ b = (nI k, gF', gH', gS', gL') ∧ Et g g' ∧ Ok (g' 1) ∧ RS gS' gL' (g' 1)) U (fun (a : Pic) (b : Pic × Pic × Pic × Pic) => ∃ gF' gH' gS' gL', b = (gF', gH', gS', gL') ∧ Et g a ∧ Ok (a 1) ∧ RS gS' gL' (a 1)) ?_ ?_ (N := fu) (M := fu) (by have := fu_big; omega) (by have := fu_big; omega) ⟨g, gF, gH, gS, gL, rfl, rfl, Et.rf g, hO, hR⟩
    · rintro k hk _ _ ⟨g', gF', gH', gS', gL', rfl, rfl, j1, j2, j3⟩
      have m4 : g' 1 4 = nI U := by rw [j1.2.2 4 (by omega)]; exact hU
      have s7 : gS' 7 0 = nI U := by rw [j3.U]; exact m4
      have nk : ¬ nI U ≤ nI k := nI_ge (by omega) (by omega)
      have hk' : k < tn (g' 1 4) := by rw [m4, tn_n (by omega)]; exact hk
      have c6 : g' 1 6 = g 1 6 := j1.2.2 6 (by omega)
      have c5 : g' 1 5 = g 1 5 := j1.2.2 5 (by omega)
      have c3 : g' 1 3 = g 1 3 := j1.2.2 3 (by omega)
      have e6 : g' 1 6 = nI D := c6.trans d1
      have ew : g' 1 (76 + D) = nI w := by rw [j1.2.2 (76 + D) (by omega)]; exact hs
      have e76 : (76 : Int32) + nI D = nI (76 + D) := nI_add 76 D
      obtain ⟨g2, gF2, gH2, gS2, gL2, e1, e2, e3, e4, e5⟩ := e_turnN j2 j3 hk' (by rw [c3]; exact hw) (by rw [c5, c6]; exact hD) (by rw [j1.2.2 1 (by omega)]; exact h1) x2 g0 gF' gH'
      refine Or.inl ⟨(nI (k + 1), g2), (nI (k + 1), gF2, gH2, gS2, gL2), ⟨g2, gF2, gH2, gS2, gL2, rfl, rfl, j1.tr e2, e3, e4⟩, fun r => ?_, fun r => ?_⟩
      · simp (disch := omega) only [bd_s, nm_s, m4, nk, if_false, e6, e76, gdi_n, nI_clamp, ew, e1, nI_1]
      · have q := e5 (fun a b d e => r (nI (k + 1), a, b, d, e))
        unfold nTurn nT nB at q
        simp only [jn_s, nm_s, s7, nk, if_true, i10, if_false, nI_1] at q ⊢
        exact q
    · rintro _ _ ⟨g', gF', gH', gS', gL', rfl, rfl, j1, j2, j3⟩
      have m4 : g' 1 4 = nI U := by rw [j1.2.2 4 (by omega)]; exact hU
      have s7 : gS' 7 0 = nI U := by rw [j3.U]; exact m4
      refine ⟨g', (gF', gH', gS', gL'), ⟨gF', gH', gS', gL', rfl, j1, j2, j3⟩, fun r => ?_, fun r => ?_⟩
      · exact if_pos (by rw [m4]; exact Int32.le_refl _)
      · exact if_pos (by rw [s7]; exact Int32.le_refl _)
  exact ⟨a, gF', gH', gS', gL', w1, w2, w3, w4, w5⟩
end K50
