/-! many minutes -/
section K56
variable {g gS gL gF gH gl : Pic} {ln : Nat → Nat} {n : Nat}
theorem Ep.rf (g : Pic) : Ep g g := ⟨fun _ _ _ => rfl, rfl, fun _ _ => rfl⟩
theorem Ep.tr {a b d : Pic} (h : Ep a b) (k : Ep b d) : Ep a d := ⟨fun i h1 h2 => (k.1 i h1 h2).trans (h.1 i h1 h2), k.2.1.trans h.2.1, fun p hp => (k.2.2 p hp).trans (h.2.2 p hp)⟩
theorem y_add {x y : Int32} (h : y = 0 ∨ y = 1) : x + y = if y = 0 then x else x + 1 := by
  rcases h with rfl | rfl
  · rw [if_pos rfl, Int32.add_zero]
  · rw [if_neg (by decide)]
theorem e_goesZ (hO : Ok (g 1)) (hR : RS gS gL (g 1)) (h1 : ¬ 1 ≤ g 1 1) (hn : n ≤ 60) (x2 : Int32) (g0 gF gH : Pic) : ∃ v g' gF' gH' gS' gL', f_X12_goes g (nI n) x2 = some (v, g') ∧ f_X0_pass_n g0 gF gH gS gL (nI n) x2 = some (v, gF', gH', gS', gL') ∧ Ep g g' ∧ Ok (g' 1) ∧ RS gS' gL' (g' 1) := by
  obtain ⟨a, b, w1, w2, v, g', gF', gH', gS', gL', rfl, rfl, w3, w4, w5⟩ : ∃ a b, f_X12_goes_L5 (nI n) x2 fu (0, 0, g) = some a ∧ f_X0_pass_n_L6 (nI n) x2 g0 fu (0, 0, gF, gH, gS, gL) = some b ∧ ∃ v g' gF' gH' gS' gL', a = (v, g') ∧ b = (v, gF', gH', gS', gL') ∧ Ep g g' ∧ Ok (g' 1) ∧ RS gS' gL' (g' 1) := by
    refine lp_two (fun k a b => ∃ (x : Int32) (g' gF' gH' gS' gL' : Pic), a = (x, nI k, g') ∧ b = (x, nI k, gF', gH', gS', gL') ∧ Ep g g' ∧ Ok (g' 1) ∧ RS gS' gL' (g' 1)) n (fun (a : Int32 × Pic) (b : Int32 × Pic × Pic × Pic × Pic) => ∃ v g' gF' gH' gS' gL', a = (v, g') ∧ b = (v, gF', gH', gS', gL') ∧ Ep g g' ∧ Ok (g' 1) ∧ RS gS' gL' (g' 1)) ?_ ?_ (N := fu) (M := fu) (by have := fu_big; omega) (by have := fu_big; omega) ⟨0, g, gF, gH, gS, gL, rfl, rfl, Ep.rf g, hO, hR⟩
    · rintro k hk _ _ ⟨x, g', gF', gH', gS', gL', rfl, rfl, j1, j2, j3⟩
      have nk : ¬ nI n ≤ nI k := nI_ge (by omega) (by omega)
      obtain ⟨y, g2, gF2, gH2, gS2, gL2, e0, e1, e2, e3, e4, e5⟩ := e_minuteZ j2 j3 (by rw [j1.2.2 1 (by omega)]; exact h1) x2 g0 gF' gH'
      refine Or.inl ⟨(x + y, nI (k + 1), g2), (x + y, nI (k + 1), gF2, gH2, gS2, gL2), ⟨x + y, g2, gF2, gH2, gS2, gL2, rfl, rfl, j1.tr e4, e2, e3⟩, fun r => ?_, fun r => ?_⟩
      · simp only [bd2_s, nm_s, nk, if_false, e1, nI_1]
      · have e6 := e5 (fun y a b d e => r (if y = 0 then x else x + 1, nI (k + 1), a, b, d, e))
        rw [y_add e0]
        simp only [nk, if_false, jn_s, nm_s, nI_1]
        simp only [i10, if_true, if_false, mk15] at e6
        exact e6
    · rintro _ _ ⟨x, g', gF', gH', gS', gL', rfl, rfl, j1, j2, j3⟩
      exact ⟨(x, g'), (x, gF', gH', gS', gL'), ⟨x, g', gF', gH', gS', gL', rfl, rfl, j1, j2, j3⟩, fun r => if_pos (Int32.le_refl _), fun r => if_pos (Int32.le_refl _)⟩
  refine ⟨v, g', gF', gH', gS', gL', ?_, ?_, w3, w4, w5⟩
  · unfold f_X12_goes; rw [w1]; rfl
  · unfold f_X0_pass_n; rw [w2]; rfl
theorem e_goesL (hO : Ok (g 1)) (hR : RS gS gL (g 1)) (hW : LW (g 1) ln gl) (hn : n ≤ 60) (x2 : Int32) (g0 gF gH : Pic) : ∃ v g' gl' gF' gH' gS' gL', f_X12_goes g (nI n) x2 = some (v, g') ∧ f_X0_pass_l ln g0 gl gF gH gS gL (nI n) x2 = some (v, gl', gF', gH', gS', gL') ∧ Ep g g' ∧ Ok (g' 1) ∧ RS gS' gL' (g' 1) ∧ LW (g' 1) ln gl' := by
  obtain ⟨a, b, w1, w2, v, g', gl', gF', gH', gS', gL', rfl, rfl, w3, w4, w5, w6⟩ : ∃ a b, f_X12_goes_L5 (nI n) x2 fu (0, 0, g) = some a ∧ f_X0_pass_l_L6 ln (nI n) x2 g0 fu (0, 0, gl, gF, gH, gS, gL) = some b ∧ ∃ v g' gl' gF' gH' gS' gL', a = (v, g') ∧ b = (v, gl', gF', gH', gS', gL') ∧ Ep g g' ∧ Ok (g' 1) ∧ RS gS' gL' (g' 1) ∧ LW (g' 1) ln gl' := by
    refine lp_two (fun k a b => ∃ (x : Int32) (g' gl' gF' gH' gS' gL' : Pic), a = (x, nI k, g') ∧ b = (x, nI k, gl', gF', gH', gS', gL') ∧ Ep g g' ∧ Ok (g' 1) ∧ RS gS' gL' (g' 1) ∧ LW (g' 1) ln gl') n (fun (a : Int32 × Pic) (b : Int32 × Pic × Pic × Pic × Pic × Pic) => ∃ v g' gl' gF' gH' gS' gL', a = (v, g') ∧ b = (v, gl', gF', gH', gS', gL') ∧ Ep g g' ∧ Ok (g' 1) ∧ RS gS' gL' (g' 1) ∧ LW (g' 1) ln gl') ?_ ?_ (N := fu) (M := fu) (by have := fu_big; omega) (by have := fu_big; omega) ⟨0, g, gl, gF, gH, gS, gL, rfl, rfl, Ep.rf g, hO, hR, hW⟩
    · rintro k hk _ _ ⟨x, g', gl', gF', gH', gS', gL', rfl, rfl, j1, j2, j3, j4⟩
      have nk : ¬ nI n ≤ nI k := nI_ge (by omega) (by omega)
      obtain ⟨y, g2, gl2, gF2, gH2, gS2, gL2, e0, e1, e2, e3, e7, e4, e5⟩ := e_minuteL j2 j3 j4 x2 g0 gF' gH'
      refine Or.inl ⟨(x + y, nI (k + 1), g2), (x + y, nI (k + 1), gl2, gF2, gH2, gS2, gL2), ⟨x + y, g2, gl2, gF2, gH2, gS2, gL2, rfl, rfl, j1.tr e4, e2, e3, e7⟩, fun r => ?_, fun r => ?_⟩
      · simp only [bd2_s, nm_s, nk, if_false, e1, nI_1]
      · have e6 := e5 (fun y l a b d e => r (if y = 0 then x else x + 1, nI (k + 1), l, a, b, d, e))
        rw [y_add e0]
        simp only [nk, if_false, jn_s, nm_s, nI_1]
        simp only [i10, if_true, if_false, mk15] at e6
        exact e6
    · rintro _ _ ⟨x, g', gl', gF', gH', gS', gL', rfl, rfl, j1, j2, j3, j4⟩
      exact ⟨(x, g'), (x, gl', gF', gH', gS', gL'), ⟨x, g', gl', gF', gH', gS', gL', rfl, rfl, j1, j2, j3, j4⟩, fun r => if_pos (Int32.le_refl _), fun r => if_pos (Int32.le_refl _)⟩
  refine ⟨v, g', gl', gF', gH', gS', gL', ?_, ?_, w3, w4, w5, w6⟩
  · unfold f_X12_goes; rw [w1]; rfl
  · unfold f_X0_pass_l; rw [w2]; rfl
end K56
