/-! all writers' turns under a law -/
section K51
variable {g gS gL gF gH gl : Pic} {u w : Nat} {ln : Nat → Nat}
theorem e_sayL (hO : Ok (g 1)) (hR : RS gS gL (g 1)) (hw : w < tn (g 1 3)) (hD : tn (g 1 6) < tn (g 1 5)) (hs : g 1 (76 + tn (g 1 6)) = nI w) (hW : LW (g 1) ln gl) (x2 : Int32) (g0 gF gH : Pic) : ∃ g' gl' gF' gH' gS' gL', f_X12_passes_L20 x2 fu (0, g) = some g' ∧ f_X0_sayNext_l_L13 ln x2 (nI w) g0 fu (0, gl, gF, gH, gS, gL) = some (gl', gF', gH', gS', gL') ∧ Et g g' ∧ Ok (g' 1) ∧ RS gS' gL' (g' 1) ∧ LW (g' 1) ln gl' := by
  obtain ⟨U, hU, tU, -, u5⟩ := hO.U.ex
  obtain ⟨D, d1, d2, -, -⟩ := hO.D.ex
  have s20 := hO.S.2.2
  have hD' := hD
  rw [d2] at hs hD'
  obtain ⟨a, b, w1, w2, gl', gF', gH', gS', gL', rfl, w3, w4, w5, w6⟩ : ∃ a b, f_X12_passes_L20 x2 fu (0, g) = some a ∧ f_X0_sayNext_l_L13 ln x2 (nI w) g0 fu (0, gl, gF, gH, gS, gL) = some b ∧ ∃ gl' gF' gH' gS' gL', b = (gl', gF', gH', gS', gL') ∧ Et g a ∧ Ok (a 1) ∧ RS gS' gL' (a 1) ∧ LW (a 1) ln gl' := by
    refine lp_two (fun k a b => ∃ (g' gl' gF' gH' gS' gL' : Pic), a = (nI k, g') ∧ b = (nI k, gl', gF', gH', gS', gL') ∧ Et g g' ∧ Ok (g' 1) ∧ RS gS' gL' (g' 1) ∧ LW (g' 1) ln gl') U (fun (a : Pic) (b : Pic × Pic × Pic × Pic × Pic) => ∃ gl' gF' gH' gS' gL', b = (gl', gF', gH', gS', gL') ∧ Et g a ∧ Ok (a 1) ∧ RS gS' gL' (a 1) ∧ LW (a 1) ln gl') ?_ ?_ (N := fu) (M := fu) (by have := fu_big; omega) (by have := fu_big; omega) ⟨g, gl, gF, gH, gS, gL, rfl, rfl, Et.rf g, hO, hR, hW⟩
    · rintro k hk _ _ ⟨g', gl', gF', gH', gS', gL', rfl, rfl, j1, j2, j3, j4⟩
      have m4 : g' 1 4 = nI U := by rw [j1.2.2 4 (by omega)]; exact hU
      have s7 : gS' 7 0 = nI U := by rw [j3.U]; exact m4
      have nk : ¬ nI U ≤ nI k := nI_ge (by omega) (by omega)
      have hk' : k < tn (g' 1 4) := by rw [m4, tn_n (by omega)]; exact hk
      have c6 : g' 1 6 = g 1 6 := j1.2.2 6 (by omega)
      have c5 : g' 1 5 = g 1 5 := j1.2.2 5 (by omega)
      have c3 : g' 1 3 = g 1 3 := j1.2.2 3 (by omega)
      have e6 : g' 1 6 = nI D := c6.trans d1
      have ew : g' 1 (76 + D) = nI w := by rw [j1.2.2 (76 + D) (by omega)]; exact hs
      have e76 : (76 : Int32) + nI D = nI (76 + D) := nI_add 76 D
      obtain ⟨g2, gl2, gF2, gH2, gS2, gL2, e1, e2, e3, e4, e7, e5⟩ := e_turnL j2 j3 hk' (by rw [c3]; exact hw) (by rw [c5, c6]; exact hD) j4 x2 g0 gF' gH'
      refine Or.inl ⟨(nI (k + 1), g2), (nI (k + 1), gl2, gF2, gH2, gS2, gL2), ⟨g2, gl2, gF2, gH2, gS2, gL2, rfl, rfl, j1.tr e2, e3, e4, e7⟩, fun r => ?_, fun r => ?_⟩
      · simp (disch := omega) only [bd_s, nm_s, m4, nk, if_false, e6, e76, gdi_n, nI_clamp, ew, e1, nI_1]
      · have q := e5 (fun l a b d e => r (nI (k + 1), l, a, b, d, e))
        unfold lTurn lT nB at q
        simp only [jn_s, nm_s, s7, nk, if_true, i10, if_false, nI_1] at q ⊢
        exact q
    · rintro _ _ ⟨g', gl', gF', gH', gS', gL', rfl, rfl, j1, j2, j3, j4⟩
      have m4 : g' 1 4 = nI U := by rw [j1.2.2 4 (by omega)]; exact hU
      have s7 : gS' 7 0 = nI U := by rw [j3.U]; exact m4
      refine ⟨g', (gl', gF', gH', gS', gL'), ⟨gl', gF', gH', gS', gL', rfl, j1, j2, j3, j4⟩, fun r => ?_, fun r => ?_⟩
      · exact if_pos (by rw [m4]; exact Int32.le_refl _)
      · exact if_pos (by rw [s7]; exact Int32.le_refl _)
  exact ⟨a, gl', gF', gH', gS', gL', w1, w2, w3, w4, w5, w6⟩
end K51
