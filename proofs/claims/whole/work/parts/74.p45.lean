/-! all writers rest -/
section K45
variable {g gS gL gl gF gH : Pic} {u : Nat} {ln : Nat → Nat}
theorem e_letRestN (hO : Ok (g 1)) (hR : RS gS gL (g 1)) (h1 : g 1 1 = 0) (g0 gF gH : Pic) : ∃ g' gF' gH' gS', f_X12_passes_L75 0 fu (0, g) = some g' ∧ f_X0_letRest_n g0 gF gH gS gL = some (gF', gH', gS') ∧ Em g g' ∧ Ok (g' 1) ∧ RS gS' gL (g' 1) := by
  obtain ⟨U, hU, tU, -, u5⟩ := hO.U.ex
  obtain ⟨a, b, w1, w2, gF', gH', gS', rfl, w3, w4, w5⟩ : ∃ a b, f_X12_passes_L75 0 fu (0, g) = some a ∧ f_X0_letRest_n_L2 g0 gL fu (0, gF, gH, gS) = some b ∧ ∃ gF' gH' gS', b = (gF', gH', gS') ∧ Em g a ∧ Ok (a 1) ∧ RS gS' gL (a 1) := by
    refine lp_two (fun k a b => ∃ (g' gF' gH' gS' : Pic), a = (nI k, g') ∧ b = (nI k, gF', gH', gS') ∧ Em g g' ∧ Ok (g' 1) ∧ RS gS' gL (g' 1)) U (fun (a : Pic) (b : Pic × Pic × Pic) => ∃ gF' gH' gS', b = (gF', gH', gS') ∧ Em g a ∧ Ok (a 1) ∧ RS gS' gL (a 1)) ?_ ?_ (N := fu) (M := fu) (by have := fu_big; omega) (by have := fu_big; omega) ⟨g, gF, gH, gS, rfl, rfl, Em.rf g, hO, hR⟩
    · rintro k hk _ _ ⟨g', gF', gH', gS', rfl, rfl, j1, j2, j3⟩
      have m4 : g' 1 4 = nI U := by rw [j1.2.2 4 (by omega)]; exact hU
      have s7 : gS' 7 0 = nI U := by rw [j3.U]; exact m4
      have nk : ¬ nI U ≤ nI k := nI_ge (by omega) (by omega)
      have hk' : k < tn (g' 1 4) := by rw [m4, tn_n (by omega)]; exact hk
      obtain ⟨gF2, o1, o2⟩ := k_obsN j2 j3 hk' g0 gF' gH'
      obtain ⟨g2, gS2, e1, e2, e3, e4, e5⟩ := e_restN j2 j3 hk' (q_asksN j2 hk') (by rw [j1.2.2 1 (by omega)]; exact h1) g0 gF2 gH'
      refine Or.inl ⟨(nI (k + 1), g2), (nI (k + 1), gF2, gH', gS2), ⟨g2, gF2, gH', gS2, rfl, rfl, j1.tr e2, e4, e5⟩, fun r => ?_, fun r => ?_⟩
      · simp only [bd_s, nm_s, m4, nk, if_false, e1, nI_1]
      · simp only [bd_s, bd2_s, nm_s, s7, nk, if_false, o1, e3, nI_1]
    · rintro _ _ ⟨g', gF', gH', gS', rfl, rfl, j1, j2, j3⟩
      have m4 : g' 1 4 = nI U := by rw [j1.2.2 4 (by omega)]; exact hU
      have s7 : gS' 7 0 = nI U := by rw [j3.U]; exact m4
      refine ⟨g', (gF', gH', gS'), ⟨gF', gH', gS', rfl, j1, j2, j3⟩, fun r => ?_, fun r => ?_⟩
      · exact if_pos (by rw [m4]; exact Int32.le_refl _)
      · exact if_pos (by rw [s7]; exact Int32.le_refl _)
  refine ⟨a, gF', gH', gS', w1, ?_, w3, w4, w5⟩
  unfold f_X0_letRest_n
  rw [w2]
  rfl
theorem e_letRestL (hO : Ok (g 1)) (hR : RS gS gL (g 1)) (hW : LW (g 1) ln gl) (g0 gF gH : Pic) : ∃ g' gl' gF' gH' gS', f_X12_passes_L75 0 fu (0, g) = some g' ∧ f_X0_letRest_l ln g0 gl gF gH gS gL = some (gl', gF', gH', gS') ∧ Em g g' ∧ Ok (g' 1) ∧ RS gS' gL (g' 1) ∧ LW (g' 1) ln gl' := by
  obtain ⟨U, hU, tU, -, u5⟩ := hO.U.ex
  obtain ⟨a, b, w1, w2, gl', gF', gH', gS', rfl, w3, w4, w5, w6⟩ : ∃ a b, f_X12_passes_L75 0 fu (0, g) = some a ∧ f_X0_letRest_l_L2 ln g0 gL fu (0, gl, gF, gH, gS) = some b ∧ ∃ gl' gF' gH' gS', b = (gl', gF', gH', gS') ∧ Em g a ∧ Ok (a 1) ∧ RS gS' gL (a 1) ∧ LW (a 1) ln gl' := by
    refine lp_two (fun k a b => ∃ (g' gl' gF' gH' gS' : Pic), a = (nI k, g') ∧ b = (nI k, gl', gF', gH', gS') ∧ Em g g' ∧ Ok (g' 1) ∧ RS gS' gL (g' 1) ∧ LW (g' 1) ln gl') U (fun (a : Pic) (b : Pic × Pic × Pic × Pic) => ∃ gl' gF' gH' gS', b = (gl', gF', gH', gS') ∧ Em g a ∧ Ok (a 1) ∧ RS gS' gL (a 1) ∧ LW (a 1) ln gl') ?_ ?_ (N := fu) (M := fu) (by have := fu_big; omega) (by have := fu_big; omega) ⟨g, gl, gF, gH, gS, rfl, rfl, Em.rf g, hO, hR, hW⟩
    · rintro k hk _ _ ⟨g', gl', gF', gH', gS', rfl, rfl, j1, j2, j3, j4⟩
      have m4 : g' 1 4 = nI U := by rw [j1.2.2 4 (by omega)]; exact hU
      have s7 : gS' 7 0 = nI U := by rw [j3.U]; exact m4
      have nk : ¬ nI U ≤ nI k := nI_ge (by omega) (by omega)
      have hk' : k < tn (g' 1 4) := by rw [m4, tn_n (by omega)]; exact hk
      obtain ⟨gF2, o1, o2⟩ := k_obsN j2 j3 hk' g0 gF' gH'
      obtain ⟨g2, gS2, gl2, e1, e2, e3, e4, e5, e6⟩ := e_restL j2 j3 hk' (q_asksN j2 hk') (bv_N _ _) j4 o2 g0 gH'
      refine Or.inl ⟨(nI (k + 1), g2), (nI (k + 1), gl2, gF2, gH', gS2), ⟨g2, gl2, gF2, gH', gS2, rfl, rfl, j1.tr e2, e4, e5, e6⟩, fun r => ?_, fun r => ?_⟩
      · simp only [bd_s, nm_s, m4, nk, if_false, e1, nI_1]
      · simp only [bd_s, bd2_s, nm_s, s7, nk, if_false, obs_ln, o1, e3, nI_1]
    · rintro _ _ ⟨g', gl', gF', gH', gS', rfl, rfl, j1, j2, j3, j4⟩
      have m4 : g' 1 4 = nI U := by rw [j1.2.2 4 (by omega)]; exact hU
      have s7 : gS' 7 0 = nI U := by rw [j3.U]; exact m4
      refine ⟨g', (gl', gF', gH', gS'), ⟨gl', gF', gH', gS', rfl, j1, j2, j3, j4⟩, fun r => ?_, fun r => ?_⟩
      · exact if_pos (by rw [m4]; exact Int32.le_refl _)
      · exact if_pos (by rw [s7]; exact Int32.le_refl _)
  refine ⟨a, gl', gF', gH', gS', w1, ?_, w3, w4, w5, w6⟩
  unfold f_X0_letRest_l
  rw [w2]
  rfl
end K45
