/-! a minute under a law -/
section K54
variable {g gS gL gF gH gl : Pic} {ln : Nat → Nat}
theorem e_minuteL (hO : Ok (g 1)) (hR : RS gS gL (g 1)) (hW : LW (g 1) ln gl) (x2 : Int32) (g0 gF gH : Pic) : ∃ y g' gl' gF' gH' gS' gL', (y = 0 ∨ y = 1) ∧ f_X12_passes g x2 = some (y, g') ∧ Ok (g' 1) ∧ RS gS' gL' (g' 1) ∧ LW (g' 1) ln gl' ∧ Ep g g' ∧ ∀ {α : Type} (X : Int32 → Pic → Pic → Pic → Pic → Pic → Option α), (if (gS 4 0) ≤ (gS 6 0) then bd4 (f_X0_letRest_l ln g0 gl gF gH gS gL) (fun l a b d => X 0 l a b (mk15 d) gL) else bd5 (f_X0_sayNext_l ln g0 gl gF gH gS gL x2) (fun l a b d e => X 1 l a b (mk15 d) e)) = X y gl' gF' gH' gS' gL' := by
  obtain ⟨S, s1, s2, -, s20⟩ := hO.S.ex
  obtain ⟨D, d1, d2, -, d3⟩ := hO.D.ex
  rw [s2] at d3
  have k4 : gS 4 0 = nI S := by rw [hR.S]; exact s1
  have k6 : gS 6 0 = nI D := by rw [hR.D]; exact d1
  unfold f_X12_passes
  rw [k4, k6, jn_s, s1, d1]
  by_cases z : S ≤ D
  · obtain ⟨g2, gl2, gF2, gH2, gS2, a1, a2, a3, a4, a5, a6⟩ := e_letRestL hO hR hW g0 gF gH
    obtain ⟨b1, b2, b3⟩ := q_min a4 a5
    refine ⟨0, _, gl2, gF2, gH2, _, gL, Or.inl rfl, ?_, b2, b3, a6.c (by rw [pu_s, if_neg (by omega)]) (by rw [pu_s, if_neg (by omega)]) (fun p hp => by rw [pu_s, if_neg (by omega)]), ⟨fun k q1 q2 => by rw [pu_o q1]; exact a3.1 k q1 q2, by rw [pu_o (by decide)]; exact a3.2.1, fun p hp => by rw [pu_s, if_neg (by omega)]; exact a3.2.2 p (by omega)⟩, fun X => ?_⟩
    · rw [if_pos (nI_le z (by omega)), a1, bd_s]
      dsimp only
      rw [b1, bd_s, nm_s]
    · rw [if_pos (nI_le z (by omega)), a2, bd4_s]
  · have hD : tn (g 1 6) < tn (g 1 5) := by omega
    obtain ⟨w1, w2⟩ := hO.sp hD
    obtain ⟨g2, gl2, gF2, gH2, gS2, gL2, a1, a2, a3, a4, a5, a6⟩ := e_sayL (w := tn (g 1 (76 + tn (g 1 6)))) hO hR w2 hD w1.1 hW x2 g0 gF gH
    have c6 : g2 1 6 = nI D := by rw [a3.2.2 6 (by omega)]; exact d1
    have c5 : g2 1 5 = nI S := by rw [a3.2.2 5 (by omega)]; exact s1
    obtain ⟨e1, e2⟩ := st_said a4 a5 (by rw [c6, c5, tn_n (by omega), tn_n (by omega)]; omega)
    rw [c6, tn_n (by omega)] at e1 e2
    have r6 : (pu g2 1 6 (nI (D + 1))) 1 = upd (g2 1) 6 (nI (D + 1)) := by rw [pu_row, if_pos rfl]
    obtain ⟨b1, b2, b3⟩ := q_min (g2 := pu g2 1 6 (nI (D + 1))) (gS2 := pu gS2 6 0 (nI (D + 1))) (gL := gL2) (by rw [r6]; exact e1) (by rw [r6]; exact e2)
    have k5 : gS 5 D = nI (tn (g 1 (76 + tn (g 1 6)))) := by rw [hR.sp (by omega), d2]; rw [d2] at w1; exact w1.1
    have k62 : gS2 6 0 = nI D := by rw [a5.D]; exact c6
    have SN : f_X0_sayNext_l ln g0 gl gF gH gS gL x2 = some (gl2, gF2, gH2, pu gS2 6 0 (nI (D + 1)), gL2) := by
      unfold f_X0_sayNext_l
      rw [k6, gdi_n (by omega) (by omega), nI_clamp (by omega), nm_s, k5, a2, bd_s]
      dsimp only
      rw [nm_s, k62, nI_1]
    refine ⟨1, _, gl2, gF2, gH2, _, gL2, Or.inr rfl, ?_, b2, b3, a6.c (by rw [pu_s, if_neg (by omega), pu_s, if_neg (by omega)]) (by rw [pu_s, if_neg (by omega), pu_s, if_neg (by omega)]) (fun p hp => by rw [pu_s, if_neg (by omega), pu_s, if_neg (by omega)]), ⟨fun k q1 q2 => by rw [pu_o q1, pu_o q1]; exact a3.1 k q1 q2, by rw [pu_o (by decide), pu_o (by decide)]; exact a3.2.1, fun p hp => by rw [pu_s, if_neg (by omega), pu_s, if_neg (by omega)]; exact a3.2.2 p (by omega)⟩, fun X => ?_⟩
    · rw [if_neg (nI_ge (by omega) (by omega)), a1, bd_s, nm_s, c6, nI_1]
      dsimp only
      rw [b1, bd_s, nm_s]
    · rw [if_neg (nI_ge (by omega) (by omega)), SN, bd5_s]
end K54
