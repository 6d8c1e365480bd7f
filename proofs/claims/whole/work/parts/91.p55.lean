/-! no law: the same where the reference has -1 lines -/
section Z_p42
variable {g gl : Pic} {ln : Nat → Nat} {v : List Int32} {xu xw : Int32}
theorem q_asksZ (hA : f_X12_asks g xu xw = qAsk (aF g v)) (h1 : ¬ 1 ≤ g 1 1) : ∃ g', f_X12_asks g xu xw = some g' ∧ Ea g g' ∧ g' 17 0 = fsv v 2 ∧ g' 18 0 = 2 ∧ g' 19 0 = g 1 8 := by
  have m1 : (aF g v) 1 = g 1 := aF_o (by decide) (by decide) (by decide) (by decide) (by decide) (by decide)
  have nl : ¬ 1 ≤ (aF g v) 1 1 := by rw [m1]; exact h1
  obtain ⟨g1, b1, b2⟩ := q_rereads0 (aF g v)
  refine ⟨pu g1 12 0 ((aF g v) 12 0), ?_, ask_ea b2.to.t13.t19, ?_, ?_, ?_⟩
  · rw [hA, q_ask, if_neg nl, b1]; rfl
  · rw [pu_o (by decide), b2 17 (by decide)]; rfl
  · rw [pu_o (by decide), b2 18 (by decide)]; rfl
  · rw [pu_o (by decide), b2 19 (by decide)]; rfl
end Z_p42
section Z_p44
variable {g gS gL gl gF gH : Pic} {u : Nat} {ln : Nat → Nat} {v : List Int32} {xw : Int32}
theorem e_restZ (hO : Ok (g 1)) (hR : RS gS gL (g 1)) (hu : u < tn (g 1 4)) (hA : f_X12_asks g (nI u) xw = qAsk (aF g v)) (h1 : ¬ 1 ≤ g 1 1) (g0 gF gH : Pic) : ∃ g' gS', f_X12_easesOff g (nI u) xw = some g' ∧ Em g g' ∧ f_X0_restOne_n g0 gF gH gS gL (nI u) = some gS' ∧ Ok (g' 1) ∧ RS gS' gL (g' 1) := by
  obtain ⟨g1, a1, a2, -, a4, -⟩ := q_asksZ hA h1
  obtain ⟨b1, b2, b3⟩ := q_restIs hO hu a1 a2 (a := 0) (by rw [a4]; rfl)
  obtain ⟨c1, c2⟩ := st_rest hO hR hu (a := 0) (by omega)
  exact ⟨_, _, b1, b2, k_restN hO hR hu g0 gF gH, by rw [b3]; exact c1, by rw [b3]; exact c2⟩
end Z_p44
section Z_p45
variable {g gS gL gl gF gH : Pic} {u : Nat} {ln : Nat → Nat}
theorem e_letRestZ (hO : Ok (g 1)) (hR : RS gS gL (g 1)) (h1 : ¬ 1 ≤ g 1 1) (g0 gF gH : Pic) : ∃ g' gF' gH' gS', f_X12_passes_L75 0 fu (0, g) = some g' ∧ f_X0_letRest_n g0 gF gH gS gL = some (gF', gH', gS') ∧ Em g g' ∧ Ok (g' 1) ∧ RS gS' gL (g' 1) := by
  obtain ⟨U, hU, tU, -, u5⟩ := hO.U.ex
  obtain ⟨a, b, w1, w2, gF', gH', gS', rfl, w3, w4, w5⟩ : ∃ a b, f_X12_passes_L75 0 fu (0, g) = some a ∧ f_X0_letRest_n_L2 g0 gL fu (0, gF, gH, gS) = some b ∧ ∃ gF' gH' gS', b = (gF', gH', gS') ∧ Em g a ∧ Ok (a 1) ∧ RS gS' gL (a 1) := by
    refine lp_two (fun k a b => ∃ (g' gF' gH' gS' : Pic), a = (nI k, g') ∧ b = (nI k, gF', gH', gS') ∧ Em g g' ∧ Ok (g' 1) ∧ RS gS' gL (g' 1)) U (fun (a : Pic) (b : Pic × Pic × Pic) => ∃ gF' gH' gS', b = (gF', gH', gS') ∧ Em g a ∧ Ok (a 1) ∧ RS gS' gL (a 1)) ?_ ?_ (N := fu) (M := fu) (by have := fu_big; omega) (by have := fu_big; omega) ⟨g, gF, gH, gS, rfl, rfl, Em.rf g, hO, hR⟩
    · rintro k hk _ _ ⟨g', gF', gH', gS', rfl, rfl, j1, j2, j3⟩
      have m4 : g' 1 4 = nI U := by rw [j1.2.2 4 (by omega)]; exact hU
      have s7 : gS' 7 0 = nI U := by rw [j3.U]; exact m4
      have nk : ¬ nI U ≤ nI k := nI_ge (by omega) (by omega)
      have hk' : k < tn (g' 1 4) := by rw [m4, tn_n (by omega)]; exact hk
      obtain ⟨gF2, o1, o2⟩ := k_obsN j2 j3 hk' g0 gF' gH'
      obtain ⟨g2, gS2, e1, e2, e3, e4, e5⟩ := e_restZ j2 j3 hk' (q_asksN j2 hk') (by rw [j1.2.2 1 (by omega)]; exact h1) g0 gF2 gH'
      refine Or.inl ⟨(nI (k + 1), g2), (nI (k + 1), gF2, gH', gS2), ⟨g2, gF2, gH', gS2, rfl, rfl, j1.tr e2, e4, e5⟩, fun r => ?_, fun r => ?_⟩
      · simp only [bd_s, nm_s, m4, nk, if_false, e1, nI_1]
      · simp only [bd_s, bd2_s, nm_s, s7, nk, if_false, o1, e3, nI_1]
    · rintro _ _ ⟨g', gF', gH', gS', rfl, rfl, j1, j2, j3⟩
      have m4 : g' 1 4 = nI U := by rw [j1.2.2 4 (by omega)]; exact hU
      have s7 : gS' 7 0 = nI U := by rw [j3.U]; exact m4
      refine ⟨g', (gF', gH', gS'), ⟨gF', gH', gS', rfl, j1, j2, j3⟩, fun r => ?_, fun r => ?_⟩
      · exact if_pos (by rw [m4]; exact Int32.le_refl _)
      · exact if_pos (by rw [s7]; exact Int32.le_refl _)
  refine ⟨a, gF', gH', gS', w1, ?_, w3, w4, w5⟩
  unfold f_X0_letRest_n
  rw [w2]
  rfl
end Z_p45
section Z_p48
variable {g g1 gS gL gF gH gl : Pic} {u w : Nat}
theorem e_turnZ (hO : Ok (g 1)) (hR : RS gS gL (g 1)) (hu : u < tn (g 1 4)) (hw : w < tn (g 1 3)) (hD : tn (g 1 6) < tn (g 1 5)) (h1 : ¬ 1 ≤ g 1 1) (x2 : Int32) (g0 gF gH : Pic) : ∃ g' gF' gH' gS' gL', f_X12_writes g (nI u) (nI w) x2 = some g' ∧ Et g g' ∧ Ok (g' 1) ∧ RS gS' gL' (g' 1) ∧ ∀ {α : Type} (X : Pic → Pic → Pic → Pic → Option α), nTurn g0 x2 (nI w) (nI u) gF gH gS gL X = X gF' gH' gS' gL' := by
  obtain ⟨gF2, gH2, o1, o2⟩ := k_obsW hO hR hu hw g0 gF gH
  have kk := k_keep hR o2 g0 gH2
  have qk := q_keep hO hu hw
  have hA := q_asksW hO hu hw
  rw [q_writes, qk, bd_s]
  unfold nTurn
  simp only [o1, bd2_s, kk, bd_s]
  rcases kpB_b (g 1) u w with kb | kb
  · obtain ⟨g2, gS2, e1, e2, e3, e4, e5⟩ := e_restZ hO hR hu hA h1 g0 gF2 gH2
    have c4 : g2 1 4 = g 1 4 := e2.2.2 4 (by omega)
    have c5 : g2 1 5 = g 1 5 := e2.2.2 5 (by omega)
    have c6 : g2 1 6 = g 1 6 := e2.2.2 6 (by omega)
    obtain ⟨g', gS', gL', a1, a2, a3, a4, a5⟩ := e_turnEnd (u := u) e4 e5 (by rw [c4]; exact hu) (by rw [c5, c6]; exact hD) (nI w) (o := 0) (by omega)
    refine ⟨g', gF2, gH2, gS', gL', ?_, e2.et.tr a2, a3, a4, fun X => ?_⟩
    · rw [if_pos kb, e1, bd_s]; exact a1
    · rw [if_pos kb, e3, bd_s]; exact a5 (X gF2 gH2)
  · have nk : ¬ kpB (g 1) u w = 0 := by rw [kb]; decide
    obtain ⟨g1, a1, a2, a3, -, a5⟩ := q_asksZ hA h1
    have m1 : g1 1 = g 1 := a2.1 1 (by omega)
    have sl := q_slips hO hu a1 a2 (a := 0) (by rw [a5, Int32.add_zero])
    have S6 := kl_6 hO hw (wr (g 1) u 0)
    have f2 : gF2 0 2 = nI (kl (g 1) w (wr (g 1) u 0)).length := o2 2 (by decide)
    have f5 : gF2 0 5 = wr (g 1) u 2 := o2 5 (by decide)
    have h17 : g1 17 0 = nI (kl (g 1) w (wr (g 1) u 0)).length := a3
    simp only [if_neg nk, sl, bd2_s]
    by_cases z : x2 = 0
    · obtain ⟨g', gS', gL', b1, b2, b3, b4, b5⟩ := e_tireN (g := g1) (gS := gS) (gL := gL) (u := u) (by rw [m1]; exact hO) (by rw [m1]; exact hR) (by rw [m1]; exact hu) (by rw [m1]; exact hD) (nI w) (o := 1) (by omega) S6 h17 f2 g0 gH2
      refine ⟨g', gF2, gH2, gS', gL', ?_, a2.et.tr b2, b3, b4, fun X => ?_⟩
      · rw [if_pos z]; exact b1
      · rw [if_pos z]; exact b5 (X gF2 gH2)
    · obtain ⟨O2, R2⟩ := st_draw hO hR
      have r2 : (pu g1 1 11 (drS (g1 1 11))) 1 = upd (g 1) 11 (drS (g 1 11)) := by rw [pu_row, if_pos rfl, m1]
      have ks := k_slipsN (gL := gL) (u := u) (m := g 1) (gS := pu gS 16 0 (drS (gS 16 0))) (gF := gF2) (by rw [pu_o (by decide)]; exact hR.slip) f5 g0 gH2
      have tire : ∀ o, o ≤ 2 → ∃ g' gS' gL', qT (pu g1 1 11 (drS (g1 1 11))) (nI u) (nI w) (nI o) = some g' ∧ Et (pu g1 1 11 (drS (g1 1 11))) g' ∧ Ok (g' 1) ∧ RS gS' gL' (g' 1) ∧ ∀ {α : Type} (X : Pic → Pic → Option α), nT (nI u) (nI w) g0 gF2 gH2 gL X (nI o) (pu gS 16 0 (drS (gS 16 0))) = X gS' gL' := fun o ho =>
        e_tireN (u := u) (by rw [r2]; exact O2) (by rw [r2]; exact R2) (by rw [r2, upd_o (by omega)]; exact hu) (by rw [r2, upd_o (by omega), upd_o (by omega)]; exact hD) (nI w) ho S6 (by rw [pu_o (by decide)]; exact h17) f2 g0 gH2
      have et : Et g (pu g1 1 11 (drS (g1 1 11))) := a2.et.tr ⟨fun k h1 _ => pu_o h1, by rw [pu_o (by decide)], fun p hp => by rw [pu_s, if_neg (by omega)]⟩
      have se : gS 16 0 = g1 1 11 := by rw [m1]; exact hR.seed
      by_cases c : spV ((g 1 8 + 0) - 5 * wr (g 1) u 2) ≤ drV (g1 1 11) - drV (g1 1 11) / 100 * 100
      · obtain ⟨g', gS', gL', b1, b2, b3, b4, b5⟩ := tire 1 (by omega)
        refine ⟨g', gF2, gH2, gS', gL', ?_, et.tr b2, b3, b4, fun X => ?_⟩
        · rw [if_neg z, q_draw, bd2_s, if_pos c]; exact b1
        · rw [if_neg z, k_draw, bd2_s, ks, bd_s, if_pos (by rw [se]; exact c)]; exact b5 (X gF2 gH2)
      · obtain ⟨g', gS', gL', b1, b2, b3, b4, b5⟩ := tire 2 (by omega)
        refine ⟨g', gF2, gH2, gS', gL', ?_, et.tr b2, b3, b4, fun X => ?_⟩
        · rw [if_neg z, q_draw, bd2_s, if_neg c]; exact b1
        · rw [if_neg z, k_draw, bd2_s, ks, bd_s, if_neg (by rw [se]; exact c)]; exact b5 (X gF2 gH2)
end Z_p48
section Z_p50
variable {g gS gL gF gH gl : Pic} {u w : Nat} {ln : Nat → Nat}
theorem e_sayZ (hO : Ok (g 1)) (hR : RS gS gL (g 1)) (hw : w < tn (g 1 3)) (hD : tn (g 1 6) < tn (g 1 5)) (hs : g 1 (76 + tn (g 1 6)) = nI w) (h1 : ¬ 1 ≤ g 1 1) (x2 : Int32) (g0 gF gH : Pic) : ∃ g' gF' gH' gS' gL', f_X12_passes_L20 x2 fu (0, g) = some g' ∧ f_X0_sayNext_n_L13 x2 (nI w) g0 fu (0, gF, gH, gS, gL) = some (gF', gH', gS', gL') ∧ Et g g' ∧ Ok (g' 1) ∧ RS gS' gL' (g' 1) := by
  obtain ⟨U, hU, tU, -, u5⟩ := hO.U.ex
  obtain ⟨D, d1, d2, -, -⟩ := hO.D.ex
  have s20 := hO.S.2.2
  have hD' := hD
  rw [d2] at hs hD'
  obtain ⟨a, b, w1, w2, gF', gH', gS', gL', rfl, w3, w4, w5⟩ : ∃ a b, f_X12_passes_L20 x2 fu (0, g) = some a ∧ f_X0_sayNext_n_L13 x2 (nI w) g0 fu (0, gF, gH, gS, gL) = some b ∧ ∃ gF' gH' gS' gL', b = (gF', gH', gS', gL') ∧ Et g a ∧ Ok (a 1) ∧ RS gS' gL' (a 1) := by
    refine lp_two (fun k a b => ∃ (g' gF' gH' gS' gL' : Pic), a = (nI k, g') ∧ b = (nI k, gF', gH', gS', gL') ∧ Et g g' ∧ Ok (g' 1) ∧ RS gS' gL' (g' 1)) U (fun (a : Pic) (b : Pic × Pic × Pic × Pic) => ∃ gF' gH' gS' gL', b = (gF', gH', gS', gL') ∧ Et g a ∧ Ok (a 1) ∧ RS gS' gL' (a 1)) ?_ ?_ (N := fu) (M := fu) (by have := fu_big; omega) (by have := fu_big; omega) ⟨g, gF, gH, gS, gL, rfl, rfl, Et.rf g, hO, hR⟩
    · rintro k hk _ _ ⟨g', gF', gH', gS', gL', rfl, rfl, j1, j2, j3⟩
      have m4 : g' 1 4 = nI U := by rw [j1.2.2 4 (by omega)]; exact hU
      have s7 : gS' 7 0 = nI U := by rw [j3.U]; exact m4
      have nk : ¬ nI U ≤ nI k := nI_ge (by omega) (by omega)
      have hk' : k < tn (g' 1 4) := by rw [m4, tn_n (by omega)]; exact hk
      have c6 : g' 1 6 = g 1 6 := j1.2.2 6 (by omega)
      have c5 : g' 1 5 = g 1 5 := j1.2.2 5 (by omega)
      have c3 : g' 1 3 = g 1 3 := j1.2.2 3 (by omega)
      have e6 : g' 1 6 = nI D := c6.trans d1
      have ew : g' 1 (76 + D) = nI w := by rw [j1.2.2 (76 + D) (by omega)]; exact hs
      have e76 : (76 : Int32) + nI D = nI (76 + D) := nI_add 76 D
      obtain ⟨g2, gF2, gH2, gS2, gL2, e1, e2, e3, e4, e5⟩ := e_turnZ j2 j3 hk' (by rw [c3]; exact hw) (by rw [c5, c6]; exact hD) (by rw [j1.2.2 1 (by omega)]; exact h1) x2 g0 gF' gH'
      refine Or.inl ⟨(nI (k + 1), g2), (nI (k + 1), gF2, gH2, gS2, gL2), ⟨g2, gF2, gH2, gS2, gL2, rfl, rfl, j1.tr e2, e3, e4⟩, fun r => ?_, fun r => ?_⟩
      · simp (disch := omega) only [bd_s, nm_s, m4, nk, if_false, e6, e76, gdi_n, nI_clamp, ew, e1, nI_1]
      · have q := e5 (fun a b d e => r (nI (k + 1), a, b, d, e))
        unfold nTurn nT nB at q
        simp only [jn_s, nm_s, s7, nk, if_true, i10, if_false, nI_1] at q ⊢
        exact q
    · rintro _ _ ⟨g', gF', gH', gS', gL', rfl, rfl, j1, j2, j3⟩
      have m4 : g' 1 4 = nI U := by rw [j1.2.2 4 (by omega)]; exact hU
      have s7 : gS' 7 0 = nI U := by rw [j3.U]; exact m4
      refine ⟨g', (gF', gH', gS', gL'), ⟨gF', gH', gS', gL', rfl, j1, j2, j3⟩, fun r => ?_, fun r => ?_⟩
      · exact if_pos (by rw [m4]; exact Int32.le_refl _)
      · exact if_pos (by rw [s7]; exact Int32.le_refl _)
  exact ⟨a, gF', gH', gS', gL', w1, w2, w3, w4, w5⟩
end Z_p50
section Z_p53
variable {g gS gL gF gH gl : Pic}
theorem e_minuteZ (hO : Ok (g 1)) (hR : RS gS gL (g 1)) (h1 : ¬ 1 ≤ g 1 1) (x2 : Int32) (g0 gF gH : Pic) : ∃ y g' gF' gH' gS' gL', (y = 0 ∨ y = 1) ∧ f_X12_passes g x2 = some (y, g') ∧ Ok (g' 1) ∧ RS gS' gL' (g' 1) ∧ Ep g g' ∧ ∀ {α : Type} (X : Int32 → Pic → Pic → Pic → Pic → Option α), (if (gS 4 0) ≤ (gS 6 0) then bd3 (f_X0_letRest_n g0 gF gH gS gL) (fun a b d => X 0 a b (mk15 d) gL) else bd4 (f_X0_sayNext_n g0 gF gH gS gL x2) (fun a b d e => X 1 a b (mk15 d) e)) = X y gF' gH' gS' gL' := by
  obtain ⟨S, s1, s2, -, s20⟩ := hO.S.ex
  obtain ⟨D, d1, d2, -, d3⟩ := hO.D.ex
  rw [s2] at d3
  have k4 : gS 4 0 = nI S := by rw [hR.S]; exact s1
  have k6 : gS 6 0 = nI D := by rw [hR.D]; exact d1
  unfold f_X12_passes
  rw [k4, k6, jn_s, s1, d1]
  by_cases z : S ≤ D
  · obtain ⟨g2, gF2, gH2, gS2, a1, a2, a3, a4, a5⟩ := e_letRestZ hO hR h1 g0 gF gH
    obtain ⟨b1, b2, b3⟩ := q_min a4 a5
    refine ⟨0, _, gF2, gH2, _, gL, Or.inl rfl, ?_, b2, b3, ⟨fun k q1 q2 => by rw [pu_o q1]; exact a3.1 k q1 q2, by rw [pu_o (by decide)]; exact a3.2.1, fun p hp => by rw [pu_s, if_neg (by omega)]; exact a3.2.2 p (by omega)⟩, fun X => ?_⟩
    · rw [if_pos (nI_le z (by omega)), a1, bd_s]
      dsimp only
      rw [b1, bd_s, nm_s]
    · rw [if_pos (nI_le z (by omega)), a2, bd3_s]
  · have hD : tn (g 1 6) < tn (g 1 5) := by omega
    obtain ⟨w1, w2⟩ := hO.sp hD
    obtain ⟨g2, gF2, gH2, gS2, gL2, a1, a2, a3, a4, a5⟩ := e_sayZ (w := tn (g 1 (76 + tn (g 1 6)))) hO hR w2 hD w1.1 h1 x2 g0 gF gH
    have c6 : g2 1 6 = nI D := by rw [a3.2.2 6 (by omega)]; exact d1
    have c5 : g2 1 5 = nI S := by rw [a3.2.2 5 (by omega)]; exact s1
    obtain ⟨e1, e2⟩ := st_said a4 a5 (by rw [c6, c5, tn_n (by omega), tn_n (by omega)]; omega)
    rw [c6, tn_n (by omega)] at e1 e2
    have r6 : (pu g2 1 6 (nI (D + 1))) 1 = upd (g2 1) 6 (nI (D + 1)) := by rw [pu_row, if_pos rfl]
    obtain ⟨b1, b2, b3⟩ := q_min (g2 := pu g2 1 6 (nI (D + 1))) (gS2 := pu gS2 6 0 (nI (D + 1))) (gL := gL2) (by rw [r6]; exact e1) (by rw [r6]; exact e2)
    have k5 : gS 5 D = nI (tn (g 1 (76 + tn (g 1 6)))) := by rw [hR.sp (by omega), d2]; rw [d2] at w1; exact w1.1
    have k62 : gS2 6 0 = nI D := by rw [a5.D]; exact c6
    have SN : f_X0_sayNext_n g0 gF gH gS gL x2 = some (gF2, gH2, pu gS2 6 0 (nI (D + 1)), gL2) := by
      unfold f_X0_sayNext_n
      rw [k6, gdi_n (by omega) (by omega), nI_clamp (by omega), nm_s, k5, a2, bd_s]
      dsimp only
      rw [nm_s, k62, nI_1]
    refine ⟨1, _, gF2, gH2, _, gL2, Or.inr rfl, ?_, b2, b3, ⟨fun k q1 q2 => by rw [pu_o q1, pu_o q1]; exact a3.1 k q1 q2, by rw [pu_o (by decide), pu_o (by decide)]; exact a3.2.1, fun p hp => by rw [pu_s, if_neg (by omega), pu_s, if_neg (by omega)]; exact a3.2.2 p (by omega)⟩, fun X => ?_⟩
    · rw [if_neg (nI_ge (by omega) (by omega)), a1, bd_s, nm_s, c6, nI_1]
      dsimp only
      rw [b1, bd_s, nm_s]
    · rw [if_neg (nI_ge (by omega) (by omega)), SN, bd4_s]
end Z_p53
