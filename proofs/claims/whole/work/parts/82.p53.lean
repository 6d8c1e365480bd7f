/-! a minute, no law -/
section K53
variable {g gS gL gF gH gl : Pic}
def Ep (g g' : Pic) : Prop := (∀ k, k ≠ 1 → (k < 9 ∨ 20 ≤ k) → g' k = g k) ∧ g' 12 0 = g 12 0 ∧ ∀ p, (p < 96 ∧ p ≠ 6 ∧ p ≠ 9 ∧ p ≠ 10 ∧ p ≠ 11) ∨ 456 ≤ p → g' 1 p = g 1 p
def mk15 (d : Pic) : Pic := pu d 15 0 (if 9999 < ((d 15 0) + 1) then 9999 else ((d 15 0) + 1))
theorem q_min {g2 gS2 : Pic} (hO : Ok (g2 1)) (hR : RS gS2 gL (g2 1)) : f_X12_lesser 9999 ((g2 1 9) + 1) = some (mnV (g2 1 9)) ∧ Ok ((pu g2 1 9 (mnV (g2 1 9))) 1) ∧ RS (mk15 gS2) gL ((pu g2 1 9 (mnV (g2 1 9))) 1) := by
  obtain ⟨a, b⟩ := st_min hO hR
  have e : mk15 gS2 = pu gS2 15 0 (mnV (g2 1 9)) := by
    unfold mk15 mnV
    rw [hR.minute]
  exact ⟨mnV_q _, by rw [pu_row, if_pos rfl]; exact a, by rw [e, pu_row, if_pos rfl]; exact b⟩
theorem e_minuteN (hO : Ok (g 1)) (hR : RS gS gL (g 1)) (h1 : g 1 1 = 0) (x2 : Int32) (g0 gF gH : Pic) : ∃ y g' gF' gH' gS' gL', (y = 0 ∨ y = 1) ∧ f_X12_passes g x2 = some (y, g') ∧ Ok (g' 1) ∧ RS gS' gL' (g' 1) ∧ Ep g g' ∧ ∀ {α : Type} (X : Int32 → Pic → Pic → Pic → Pic → Option α), (if (gS 4 0) ≤ (gS 6 0) then bd3 (f_X0_letRest_n g0 gF gH gS gL) (fun a b d => X 0 a b (mk15 d) gL) else bd4 (f_X0_sayNext_n g0 gF gH gS gL x2) (fun a b d e => X 1 a b (mk15 d) e)) = X y gF' gH' gS' gL' := by
  obtain ⟨S, s1, s2, -, s20⟩ := hO.S.ex
  obtain ⟨D, d1, d2, -, d3⟩ := hO.D.ex
  rw [s2] at d3
  have k4 : gS 4 0 = nI S := by rw [hR.S]; exact s1
  have k6 : gS 6 0 = nI D := by rw [hR.D]; exact d1
  unfold f_X12_passes
  rw [k4, k6, jn_s, s1, d1]
  by_cases z : S ≤ D
  · obtain ⟨g2, gF2, gH2, gS2, a1, a2, a3, a4, a5⟩ := e_letRestN hO hR h1 g0 gF gH
    obtain ⟨b1, b2, b3⟩ := q_min a4 a5
    refine ⟨0, _, gF2, gH2, _, gL, Or.inl rfl, ?_, b2, b3, ⟨fun k q1 q2 => by rw [pu_o q1]; exact a3.1 k q1 q2, by rw [pu_o (by decide)]; exact a3.2.1, fun p hp => by rw [pu_s, if_neg (by omega)]; exact a3.2.2 p (by omega)⟩, fun X => ?_⟩
    · rw [if_pos (nI_le z (by omega)), a1, bd_s]
      dsimp only
      rw [b1, bd_s, nm_s]
    · rw [if_pos (nI_le z (by omega)), a2, bd3_s]
  · have hD : tn (g 1 6) < tn (g 1 5) := by omega
    obtain ⟨w1, w2⟩ := hO.sp hD
    obtain ⟨g2, gF2, gH2, gS2, gL2, a1, a2, a3, a4, a5⟩ := e_sayN (w := tn (g 1 (76 + tn (g 1 6)))) hO hR w2 hD w1.1 h1 x2 g0 gF gH
    have c6 : g2 1 6 = nI D := by rw [a3.2.2 6 (by omega)]; exact d1
    have c5 : g2 1 5 = nI S := by rw [a3.2.2 5 (by omega)]; exact s1
    obtain ⟨e1, e2⟩ := st_said a4 a5 (by rw [c6, c5, tn_n (by omega), tn_n (by omega)]; omega)
    rw [c6, tn_n (by omega)] at e1 e2
    have r6 : (pu g2 1 6 (nI (D + 1))) 1 = upd (g2 1) 6 (nI (D + 1)) := by rw [pu_row, if_pos rfl]
    obtain ⟨b1, b2, b3⟩ := q_min (g2 := pu g2 1 6 (nI (D + 1))) (gS2 := pu gS2 6 0 (nI (D + 1))) (gL := gL2) (by rw [r6]; exact e1) (by rw [r6]; exact e2)
    have k5 : gS 5 D = nI (tn (g 1 (76 + tn (g 1 6)))) := by rw [hR.sp (by omega), d2]; rw [d2] at w1; exact w1.1
    have k62 : gS2 6 0 = nI D := by rw [a5.D]; exact c6
    have SN : f_X0_sayNext_n g0 gF gH gS gL x2 = some (gF2, gH2, pu gS2 6 0 (nI (D + 1)), gL2) := by
      unfold f_X0_sayNext_n
      rw [k6, gdi_n (by omega) (by omega), nI_clamp (by omega), nm_s, k5, a2, bd_s]
      dsimp only
      rw [nm_s, k62, nI_1]
    refine ⟨1, _, gF2, gH2, _, gL2, Or.inr rfl, ?_, b2, b3, ⟨fun k q1 q2 => by rw [pu_o q1, pu_o q1]; exact a3.1 k q1 q2, by rw [pu_o (by decide), pu_o (by decide)]; exact a3.2.1, fun p hp => by rw [pu_s, if_neg (by omega), pu_s, if_neg (by omega)]; exact a3.2.2 p (by omega)⟩, fun X => ?_⟩
    · rw [if_neg (nI_ge (by omega) (by omega)), a1, bd_s, nm_s, c6, nI_1]
      dsimp only
      rw [b1, bd_s, nm_s]
    · rw [if_neg (nI_ge (by omega) (by omega)), SN, bd4_s]
end K53
