/-! numbers told; the tape -/
section K64
variable {m : Nat → Int32} {g gP gS gL gT gl : Pic} {ln : Nat → Nat} {c : Nat → Nat} {n : Nat}
theorem c_in4 : ∀ j, j < 5 → f_X12_isIn (nI (4 + j)) 4 8 = some 1 ∧ (5 + nI (4 + j)) - 4 = nI (5 + j) := fun j hj => by
  obtain rfl | rfl | rfl | rfl | rfl : j = 0 ∨ j = 1 ∨ j = 2 ∨ j = 3 ∨ j = 4 := by omega
  all_goals exact ⟨by rw [q_isIn, if_pos (by decide)], by decide⟩
theorem t_countN (hO : Ok (g 1)) (hR : RS gS gL (g 1)) (h1 : g 1 1 = -1) (h6 : gP 12 0 = g 6 0) (x1 : Int32) : ∃ v g', f_X12_count g x1 = some (v, g') ∧ f_X11_count_n gP gS gL x1 = some v ∧ Er g g' := by
  by_cases e0 : x1 = 0
  · subst e0
    refine ⟨g 1 3, pu g 0 0 0, ?_, ?_, Er.z g 0⟩
    · unfold f_X12_count
      rw [nm_s, if_pos rfl]; rfl
    · unfold f_X11_count_n
      rw [if_pos rfl, hR.W]
  by_cases e1 : x1 = 1
  · subst e1
    refine ⟨g 1 4, pu g 0 0 0, ?_, ?_, Er.z g 0⟩
    · unfold f_X12_count
      rw [nm_s, if_neg (show ¬ (1 : Int32) = 0 by decide), if_pos rfl]; rfl
    · unfold f_X11_count_n
      rw [if_neg (show ¬ (1 : Int32) = 0 by decide), if_pos rfl, hR.U]
  by_cases e2 : x1 = 2
  · subst e2
    refine ⟨g 1 0, pu g 0 0 0, ?_, ?_, Er.z g 0⟩
    · unfold f_X12_count
      rw [nm_s, if_neg (show ¬ (2 : Int32) = 0 by decide), if_neg (show ¬ (2 : Int32) = 1 by decide), if_pos rfl]; rfl
    · unfold f_X11_count_n
      rw [if_neg (show ¬ (2 : Int32) = 0 by decide), if_neg (show ¬ (2 : Int32) = 1 by decide), if_pos rfl, hR.texts]
  by_cases e3 : x1 = 3
  · subst e3
    refine ⟨g 1 1, pu g 0 0 0, ?_, ?_, Er.z g 0⟩
    · unfold f_X12_count
      rw [nm_s, if_neg (show ¬ (3 : Int32) = 0 by decide), if_neg (show ¬ (3 : Int32) = 1 by decide), if_neg (show ¬ (3 : Int32) = 2 by decide), if_pos rfl]; rfl
    · unfold f_X11_count_n
      rw [if_neg (show ¬ (3 : Int32) = 0 by decide), if_neg (show ¬ (3 : Int32) = 1 by decide), if_neg (show ¬ (3 : Int32) = 2 by decide), if_pos rfl, h1]
  by_cases e4 : x1 = 4
  · subst e4
    refine ⟨g 1 5, pu g 0 0 0, ?_, ?_, Er.z g 0⟩
    · unfold f_X12_count
      rw [nm_s, if_neg (show ¬ (4 : Int32) = 0 by decide), if_neg (show ¬ (4 : Int32) = 1 by decide), if_neg (show ¬ (4 : Int32) = 2 by decide), if_neg (show ¬ (4 : Int32) = 3 by decide), show f_X12_isIn 4 4 8 = some 1 from (c_in4 0 (by omega)).1, bd_s, if_neg (show ¬ (1 : Int32) = 0 by decide), show (5 + (4 : Int32)) - 4 = nI 5 by decide, gdi_n (by omega) (by omega), nI_clamp (by omega)]; rfl
    · unfold f_X11_count_n
      rw [if_neg (show ¬ (4 : Int32) = 0 by decide), if_neg (show ¬ (4 : Int32) = 1 by decide), if_neg (show ¬ (4 : Int32) = 2 by decide), if_neg (show ¬ (4 : Int32) = 3 by decide), if_pos rfl, hR.S]
  by_cases e5 : x1 = 5
  · subst e5
    refine ⟨g 1 6, pu g 0 0 0, ?_, ?_, Er.z g 0⟩
    · unfold f_X12_count
      rw [nm_s, if_neg (show ¬ (5 : Int32) = 0 by decide), if_neg (show ¬ (5 : Int32) = 1 by decide), if_neg (show ¬ (5 : Int32) = 2 by decide), if_neg (show ¬ (5 : Int32) = 3 by decide), show f_X12_isIn 5 4 8 = some 1 from (c_in4 1 (by omega)).1, bd_s, if_neg (show ¬ (1 : Int32) = 0 by decide), show (5 + (5 : Int32)) - 4 = nI 6 by decide, gdi_n (by omega) (by omega), nI_clamp (by omega)]; rfl
    · unfold f_X11_count_n
      rw [if_neg (show ¬ (5 : Int32) = 0 by decide), if_neg (show ¬ (5 : Int32) = 1 by decide), if_neg (show ¬ (5 : Int32) = 2 by decide), if_neg (show ¬ (5 : Int32) = 3 by decide), if_neg (show ¬ (5 : Int32) = 4 by decide), if_pos rfl, hR.D]
  by_cases e6 : x1 = 6
  · subst e6
    refine ⟨g 1 7, pu g 0 0 0, ?_, ?_, Er.z g 0⟩
    · unfold f_X12_count
      rw [nm_s, if_neg (show ¬ (6 : Int32) = 0 by decide), if_neg (show ¬ (6 : Int32) = 1 by decide), if_neg (show ¬ (6 : Int32) = 2 by decide), if_neg (show ¬ (6 : Int32) = 3 by decide), show f_X12_isIn 6 4 8 = some 1 from (c_in4 2 (by omega)).1, bd_s, if_neg (show ¬ (1 : Int32) = 0 by decide), show (5 + (6 : Int32)) - 4 = nI 7 by decide, gdi_n (by omega) (by omega), nI_clamp (by omega)]; rfl
    · unfold f_X11_count_n
      rw [if_neg (show ¬ (6 : Int32) = 0 by decide), if_neg (show ¬ (6 : Int32) = 1 by decide), if_neg (show ¬ (6 : Int32) = 2 by decide), if_neg (show ¬ (6 : Int32) = 3 by decide), if_neg (show ¬ (6 : Int32) = 4 by decide), if_neg (show ¬ (6 : Int32) = 5 by decide), if_pos rfl, hR.T]
  by_cases e7 : x1 = 7
  · subst e7
    refine ⟨g 1 8, pu g 0 0 0, ?_, ?_, Er.z g 0⟩
    · unfold f_X12_count
      rw [nm_s, if_neg (show ¬ (7 : Int32) = 0 by decide), if_neg (show ¬ (7 : Int32) = 1 by decide), if_neg (show ¬ (7 : Int32) = 2 by decide), if_neg (show ¬ (7 : Int32) = 3 by decide), show f_X12_isIn 7 4 8 = some 1 from (c_in4 3 (by omega)).1, bd_s, if_neg (show ¬ (1 : Int32) = 0 by decide), show (5 + (7 : Int32)) - 4 = nI 8 by decide, gdi_n (by omega) (by omega), nI_clamp (by omega)]; rfl
    · unfold f_X11_count_n
      rw [if_neg (show ¬ (7 : Int32) = 0 by decide), if_neg (show ¬ (7 : Int32) = 1 by decide), if_neg (show ¬ (7 : Int32) = 2 by decide), if_neg (show ¬ (7 : Int32) = 3 by decide), if_neg (show ¬ (7 : Int32) = 4 by decide), if_neg (show ¬ (7 : Int32) = 5 by decide), if_neg (show ¬ (7 : Int32) = 6 by decide), if_pos rfl, hR.slip]
  by_cases e8 : x1 = 8
  · subst e8
    refine ⟨g 1 9, pu g 0 0 0, ?_, ?_, Er.z g 0⟩
    · unfold f_X12_count
      rw [nm_s, if_neg (show ¬ (8 : Int32) = 0 by decide), if_neg (show ¬ (8 : Int32) = 1 by decide), if_neg (show ¬ (8 : Int32) = 2 by decide), if_neg (show ¬ (8 : Int32) = 3 by decide), show f_X12_isIn 8 4 8 = some 1 from (c_in4 4 (by omega)).1, bd_s, if_neg (show ¬ (1 : Int32) = 0 by decide), show (5 + (8 : Int32)) - 4 = nI 9 by decide, gdi_n (by omega) (by omega), nI_clamp (by omega)]; rfl
    · unfold f_X11_count_n
      rw [if_neg (show ¬ (8 : Int32) = 0 by decide), if_neg (show ¬ (8 : Int32) = 1 by decide), if_neg (show ¬ (8 : Int32) = 2 by decide), if_neg (show ¬ (8 : Int32) = 3 by decide), if_neg (show ¬ (8 : Int32) = 4 by decide), if_neg (show ¬ (8 : Int32) = 5 by decide), if_neg (show ¬ (8 : Int32) = 6 by decide), if_neg (show ¬ (8 : Int32) = 7 by decide), if_pos rfl, hR.minute]
  by_cases e9 : x1 = 9
  · subst e9
    obtain ⟨v, a1, a2⟩ := e_tiredAll (g := pu g 0 0 0) hO hR
    refine ⟨v, pu g 0 0 0, ?_, ?_, Er.z g 0⟩
    · unfold f_X12_count
      rw [nm_s, if_neg (show ¬ (9 : Int32) = 0 by decide), if_neg (show ¬ (9 : Int32) = 1 by decide), if_neg (show ¬ (9 : Int32) = 2 by decide), if_neg (show ¬ (9 : Int32) = 3 by decide), show f_X12_isIn 9 4 8 = some 0 by rw [q_isIn, if_neg (by decide)], bd_s, if_pos rfl, if_pos rfl, a1, bd_s]
    · unfold f_X11_count_n
      rw [if_neg (show ¬ (9 : Int32) = 0 by decide), if_neg (show ¬ (9 : Int32) = 1 by decide), if_neg (show ¬ (9 : Int32) = 2 by decide), if_neg (show ¬ (9 : Int32) = 3 by decide), if_neg (show ¬ (9 : Int32) = 4 by decide), if_neg (show ¬ (9 : Int32) = 5 by decide), if_neg (show ¬ (9 : Int32) = 6 by decide), if_neg (show ¬ (9 : Int32) = 7 by decide), if_neg (show ¬ (9 : Int32) = 8 by decide), if_pos rfl, a2, bd_s]
  by_cases e10 : x1 = 10
  · subst e10
    refine ⟨g 1 10, pu g 0 0 0, ?_, ?_, Er.z g 0⟩
    · unfold f_X12_count
      rw [nm_s, if_neg (show ¬ (10 : Int32) = 0 by decide), if_neg (show ¬ (10 : Int32) = 1 by decide), if_neg (show ¬ (10 : Int32) = 2 by decide), if_neg (show ¬ (10 : Int32) = 3 by decide), show f_X12_isIn 10 4 8 = some 0 by rw [q_isIn, if_neg (by decide)], bd_s, if_pos rfl, if_neg (show ¬ (10 : Int32) = 9 by decide), if_pos rfl]; rfl
    · unfold f_X11_count_n
      rw [if_neg (show ¬ (10 : Int32) = 0 by decide), if_neg (show ¬ (10 : Int32) = 1 by decide), if_neg (show ¬ (10 : Int32) = 2 by decide), if_neg (show ¬ (10 : Int32) = 3 by decide), if_neg (show ¬ (10 : Int32) = 4 by decide), if_neg (show ¬ (10 : Int32) = 5 by decide), if_neg (show ¬ (10 : Int32) = 6 by decide), if_neg (show ¬ (10 : Int32) = 7 by decide), if_neg (show ¬ (10 : Int32) = 8 by decide), if_neg (show ¬ (10 : Int32) = 9 by decide), if_pos rfl, hR.G]
  by_cases e11 : x1 = 11
  · subst e11
    refine ⟨g 6 0, pu g 0 0 0, ?_, ?_, Er.z g 0⟩
    · unfold f_X12_count
      rw [nm_s, if_neg (show ¬ (11 : Int32) = 0 by decide), if_neg (show ¬ (11 : Int32) = 1 by decide), if_neg (show ¬ (11 : Int32) = 2 by decide), if_neg (show ¬ (11 : Int32) = 3 by decide), show f_X12_isIn 11 4 8 = some 0 by rw [q_isIn, if_neg (by decide)], bd_s, if_pos rfl, if_neg (show ¬ (11 : Int32) = 9 by decide), if_neg (show ¬ (11 : Int32) = 10 by decide), jn_s, if_pos rfl]; rfl
    · unfold f_X11_count_n
      rw [if_neg (show ¬ (11 : Int32) = 0 by decide), if_neg (show ¬ (11 : Int32) = 1 by decide), if_neg (show ¬ (11 : Int32) = 2 by decide), if_neg (show ¬ (11 : Int32) = 3 by decide), if_neg (show ¬ (11 : Int32) = 4 by decide), if_neg (show ¬ (11 : Int32) = 5 by decide), if_neg (show ¬ (11 : Int32) = 6 by decide), if_neg (show ¬ (11 : Int32) = 7 by decide), if_neg (show ¬ (11 : Int32) = 8 by decide), if_neg (show ¬ (11 : Int32) = 9 by decide), if_neg (show ¬ (11 : Int32) = 10 by decide), if_pos rfl, h6]
  refine ⟨-1, pu g 0 0 0, ?_, ?_, Er.z g 0⟩
  · have i0 : f_X12_isIn x1 4 8 = some 0 := by
      rcases e_num (gP := gP) x1 (lo := 4) (hi := 8) (by omega) (by omega) with ⟨j, j1, j2, q, -, -⟩ | ⟨b, -⟩
      · obtain rfl | rfl | rfl | rfl | rfl : j = 4 ∨ j = 5 ∨ j = 6 ∨ j = 7 ∨ j = 8 := by omega
        · exact absurd q e4
        · exact absurd q e5
        · exact absurd q e6
        · exact absurd q e7
        · exact absurd q e8
      · exact b
    unfold f_X12_count
    rw [nm_s, if_neg e0, if_neg e1, if_neg e2, if_neg e3, i0, bd_s, if_pos rfl, if_neg e9, if_neg e10, jn_s, if_neg e11]
  · unfold f_X11_count_n
    rw [if_neg e0, if_neg e1, if_neg e2, if_neg e3, if_neg e4, if_neg e5, if_neg e6, if_neg e7, if_neg e8, if_neg e9, if_neg e10, if_neg e11]
theorem t_countL (hO : Ok (g 1)) (hR : RS gS gL (g 1)) (hW : LW (g 1) ln gl) (h6 : gP 12 0 = g 6 0) (x1 : Int32) : ∃ v g', f_X12_count g x1 = some (v, g') ∧ f_X11_count_l ln gP gS gL gl x1 = some v ∧ Er g g' := by
  have h1 : gl 0 0 = g 1 1 := by
    obtain ⟨c, n, K, z, gT, gT1, g5, g5', gT', w1, w2, w3, w4, w5, w6, w7, w8, w9, w10, w11, w12, w13, w14, w15⟩ := hW
    rw [w1, w15.1]
  by_cases e0 : x1 = 0
  · subst e0
    refine ⟨g 1 3, pu g 0 0 0, ?_, ?_, Er.z g 0⟩
    · unfold f_X12_count
      rw [nm_s, if_pos rfl]; rfl
    · unfold f_X11_count_l
      rw [if_pos rfl, hR.W]
  by_cases e1 : x1 = 1
  · subst e1
    refine ⟨g 1 4, pu g 0 0 0, ?_, ?_, Er.z g 0⟩
    · unfold f_X12_count
      rw [nm_s, if_neg (show ¬ (1 : Int32) = 0 by decide), if_pos rfl]; rfl
    · unfold f_X11_count_l
      rw [if_neg (show ¬ (1 : Int32) = 0 by decide), if_pos rfl, hR.U]
  by_cases e2 : x1 = 2
  · subst e2
    refine ⟨g 1 0, pu g 0 0 0, ?_, ?_, Er.z g 0⟩
    · unfold f_X12_count
      rw [nm_s, if_neg (show ¬ (2 : Int32) = 0 by decide), if_neg (show ¬ (2 : Int32) = 1 by decide), if_pos rfl]; rfl
    · unfold f_X11_count_l
      rw [if_neg (show ¬ (2 : Int32) = 0 by decide), if_neg (show ¬ (2 : Int32) = 1 by decide), if_pos rfl, hR.texts]
  by_cases e3 : x1 = 3
  · subst e3
    refine ⟨g 1 1, pu g 0 0 0, ?_, ?_, Er.z g 0⟩
    · unfold f_X12_count
      rw [nm_s, if_neg (show ¬ (3 : Int32) = 0 by decide), if_neg (show ¬ (3 : Int32) = 1 by decide), if_neg (show ¬ (3 : Int32) = 2 by decide), if_pos rfl]; rfl
    · unfold f_X11_count_l
      rw [if_neg (show ¬ (3 : Int32) = 0 by decide), if_neg (show ¬ (3 : Int32) = 1 by decide), if_neg (show ¬ (3 : Int32) = 2 by decide), if_pos rfl, h1]
  by_cases e4 : x1 = 4
  · subst e4
    refine ⟨g 1 5, pu g 0 0 0, ?_, ?_, Er.z g 0⟩
    · unfold f_X12_count
      rw [nm_s, if_neg (show ¬ (4 : Int32) = 0 by decide), if_neg (show ¬ (4 : Int32) = 1 by decide), if_neg (show ¬ (4 : Int32) = 2 by decide), if_neg (show ¬ (4 : Int32) = 3 by decide), show f_X12_isIn 4 4 8 = some 1 from (c_in4 0 (by omega)).1, bd_s, if_neg (show ¬ (1 : Int32) = 0 by decide), show (5 + (4 : Int32)) - 4 = nI 5 by decide, gdi_n (by omega) (by omega), nI_clamp (by omega)]; rfl
    · unfold f_X11_count_l
      rw [if_neg (show ¬ (4 : Int32) = 0 by decide), if_neg (show ¬ (4 : Int32) = 1 by decide), if_neg (show ¬ (4 : Int32) = 2 by decide), if_neg (show ¬ (4 : Int32) = 3 by decide), if_pos rfl, hR.S]
  by_cases e5 : x1 = 5
  · subst e5
    refine ⟨g 1 6, pu g 0 0 0, ?_, ?_, Er.z g 0⟩
    · unfold f_X12_count
      rw [nm_s, if_neg (show ¬ (5 : Int32) = 0 by decide), if_neg (show ¬ (5 : Int32) = 1 by decide), if_neg (show ¬ (5 : Int32) = 2 by decide), if_neg (show ¬ (5 : Int32) = 3 by decide), show f_X12_isIn 5 4 8 = some 1 from (c_in4 1 (by omega)).1, bd_s, if_neg (show ¬ (1 : Int32) = 0 by decide), show (5 + (5 : Int32)) - 4 = nI 6 by decide, gdi_n (by omega) (by omega), nI_clamp (by omega)]; rfl
    · unfold f_X11_count_l
      rw [if_neg (show ¬ (5 : Int32) = 0 by decide), if_neg (show ¬ (5 : Int32) = 1 by decide), if_neg (show ¬ (5 : Int32) = 2 by decide), if_neg (show ¬ (5 : Int32) = 3 by decide), if_neg (show ¬ (5 : Int32) = 4 by decide), if_pos rfl, hR.D]
  by_cases e6 : x1 = 6
  · subst e6
    refine ⟨g 1 7, pu g 0 0 0, ?_, ?_, Er.z g 0⟩
    · unfold f_X12_count
      rw [nm_s, if_neg (show ¬ (6 : Int32) = 0 by decide), if_neg (show ¬ (6 : Int32) = 1 by decide), if_neg (show ¬ (6 : Int32) = 2 by decide), if_neg (show ¬ (6 : Int32) = 3 by decide), show f_X12_isIn 6 4 8 = some 1 from (c_in4 2 (by omega)).1, bd_s, if_neg (show ¬ (1 : Int32) = 0 by decide), show (5 + (6 : Int32)) - 4 = nI 7 by decide, gdi_n (by omega) (by omega), nI_clamp (by omega)]; rfl
    · unfold f_X11_count_l
      rw [if_neg (show ¬ (6 : Int32) = 0 by decide), if_neg (show ¬ (6 : Int32) = 1 by decide), if_neg (show ¬ (6 : Int32) = 2 by decide), if_neg (show ¬ (6 : Int32) = 3 by decide), if_neg (show ¬ (6 : Int32) = 4 by decide), if_neg (show ¬ (6 : Int32) = 5 by decide), if_pos rfl, hR.T]
  by_cases e7 : x1 = 7
  · subst e7
    refine ⟨g 1 8, pu g 0 0 0, ?_, ?_, Er.z g 0⟩
    · unfold f_X12_count
      rw [nm_s, if_neg (show ¬ (7 : Int32) = 0 by decide), if_neg (show ¬ (7 : Int32) = 1 by decide), if_neg (show ¬ (7 : Int32) = 2 by decide), if_neg (show ¬ (7 : Int32) = 3 by decide), show f_X12_isIn 7 4 8 = some 1 from (c_in4 3 (by omega)).1, bd_s, if_neg (show ¬ (1 : Int32) = 0 by decide), show (5 + (7 : Int32)) - 4 = nI 8 by decide, gdi_n (by omega) (by omega), nI_clamp (by omega)]; rfl
    · unfold f_X11_count_l
      rw [if_neg (show ¬ (7 : Int32) = 0 by decide), if_neg (show ¬ (7 : Int32) = 1 by decide), if_neg (show ¬ (7 : Int32) = 2 by decide), if_neg (show ¬ (7 : Int32) = 3 by decide), if_neg (show ¬ (7 : Int32) = 4 by decide), if_neg (show ¬ (7 : Int32) = 5 by decide), if_neg (show ¬ (7 : Int32) = 6 by decide), if_pos rfl, hR.slip]
  by_cases e8 : x1 = 8
  · subst e8
    refine ⟨g 1 9, pu g 0 0 0, ?_, ?_, Er.z g 0⟩
    · unfold f_X12_count
      rw [nm_s, if_neg (show ¬ (8 : Int32) = 0 by decide), if_neg (show ¬ (8 : Int32) = 1 by decide), if_neg (show ¬ (8 : Int32) = 2 by decide), if_neg (show ¬ (8 : Int32) = 3 by decide), show f_X12_isIn 8 4 8 = some 1 from (c_in4 4 (by omega)).1, bd_s, if_neg (show ¬ (1 : Int32) = 0 by decide), show (5 + (8 : Int32)) - 4 = nI 9 by decide, gdi_n (by omega) (by omega), nI_clamp (by omega)]; rfl
    · unfold f_X11_count_l
      rw [if_neg (show ¬ (8 : Int32) = 0 by decide), if_neg (show ¬ (8 : Int32) = 1 by decide), if_neg (show ¬ (8 : Int32) = 2 by decide), if_neg (show ¬ (8 : Int32) = 3 by decide), if_neg (show ¬ (8 : Int32) = 4 by decide), if_neg (show ¬ (8 : Int32) = 5 by decide), if_neg (show ¬ (8 : Int32) = 6 by decide), if_neg (show ¬ (8 : Int32) = 7 by decide), if_pos rfl, hR.minute]
  by_cases e9 : x1 = 9
  · subst e9
    obtain ⟨v, a1, a2⟩ := e_tiredAll (g := pu g 0 0 0) hO hR
    refine ⟨v, pu g 0 0 0, ?_, ?_, Er.z g 0⟩
    · unfold f_X12_count
      rw [nm_s, if_neg (show ¬ (9 : Int32) = 0 by decide), if_neg (show ¬ (9 : Int32) = 1 by decide), if_neg (show ¬ (9 : Int32) = 2 by decide), if_neg (show ¬ (9 : Int32) = 3 by decide), show f_X12_isIn 9 4 8 = some 0 by rw [q_isIn, if_neg (by decide)], bd_s, if_pos rfl, if_pos rfl, a1, bd_s]
    · unfold f_X11_count_l
      rw [if_neg (show ¬ (9 : Int32) = 0 by decide), if_neg (show ¬ (9 : Int32) = 1 by decide), if_neg (show ¬ (9 : Int32) = 2 by decide), if_neg (show ¬ (9 : Int32) = 3 by decide), if_neg (show ¬ (9 : Int32) = 4 by decide), if_neg (show ¬ (9 : Int32) = 5 by decide), if_neg (show ¬ (9 : Int32) = 6 by decide), if_neg (show ¬ (9 : Int32) = 7 by decide), if_neg (show ¬ (9 : Int32) = 8 by decide), if_pos rfl, a2, bd_s]
  by_cases e10 : x1 = 10
  · subst e10
    refine ⟨g 1 10, pu g 0 0 0, ?_, ?_, Er.z g 0⟩
    · unfold f_X12_count
      rw [nm_s, if_neg (show ¬ (10 : Int32) = 0 by decide), if_neg (show ¬ (10 : Int32) = 1 by decide), if_neg (show ¬ (10 : Int32) = 2 by decide), if_neg (show ¬ (10 : Int32) = 3 by decide), show f_X12_isIn 10 4 8 = some 0 by rw [q_isIn, if_neg (by decide)], bd_s, if_pos rfl, if_neg (show ¬ (10 : Int32) = 9 by decide), if_pos rfl]; rfl
    · unfold f_X11_count_l
      rw [if_neg (show ¬ (10 : Int32) = 0 by decide), if_neg (show ¬ (10 : Int32) = 1 by decide), if_neg (show ¬ (10 : Int32) = 2 by decide), if_neg (show ¬ (10 : Int32) = 3 by decide), if_neg (show ¬ (10 : Int32) = 4 by decide), if_neg (show ¬ (10 : Int32) = 5 by decide), if_neg (show ¬ (10 : Int32) = 6 by decide), if_neg (show ¬ (10 : Int32) = 7 by decide), if_neg (show ¬ (10 : Int32) = 8 by decide), if_neg (show ¬ (10 : Int32) = 9 by decide), if_pos rfl, hR.G]
  by_cases e11 : x1 = 11
  · subst e11
    refine ⟨g 6 0, pu g 0 0 0, ?_, ?_, Er.z g 0⟩
    · unfold f_X12_count
      rw [nm_s, if_neg (show ¬ (11 : Int32) = 0 by decide), if_neg (show ¬ (11 : Int32) = 1 by decide), if_neg (show ¬ (11 : Int32) = 2 by decide), if_neg (show ¬ (11 : Int32) = 3 by decide), show f_X12_isIn 11 4 8 = some 0 by rw [q_isIn, if_neg (by decide)], bd_s, if_pos rfl, if_neg (show ¬ (11 : Int32) = 9 by decide), if_neg (show ¬ (11 : Int32) = 10 by decide), jn_s, if_pos rfl]; rfl
    · unfold f_X11_count_l
      rw [if_neg (show ¬ (11 : Int32) = 0 by decide), if_neg (show ¬ (11 : Int32) = 1 by decide), if_neg (show ¬ (11 : Int32) = 2 by decide), if_neg (show ¬ (11 : Int32) = 3 by decide), if_neg (show ¬ (11 : Int32) = 4 by decide), if_neg (show ¬ (11 : Int32) = 5 by decide), if_neg (show ¬ (11 : Int32) = 6 by decide), if_neg (show ¬ (11 : Int32) = 7 by decide), if_neg (show ¬ (11 : Int32) = 8 by decide), if_neg (show ¬ (11 : Int32) = 9 by decide), if_neg (show ¬ (11 : Int32) = 10 by decide), if_pos rfl, h6]
  refine ⟨-1, pu g 0 0 0, ?_, ?_, Er.z g 0⟩
  · have i0 : f_X12_isIn x1 4 8 = some 0 := by
      rcases e_num (gP := gP) x1 (lo := 4) (hi := 8) (by omega) (by omega) with ⟨j, j1, j2, q, -, -⟩ | ⟨b, -⟩
      · obtain rfl | rfl | rfl | rfl | rfl : j = 4 ∨ j = 5 ∨ j = 6 ∨ j = 7 ∨ j = 8 := by omega
        · exact absurd q e4
        · exact absurd q e5
        · exact absurd q e6
        · exact absurd q e7
        · exact absurd q e8
      · exact b
    unfold f_X12_count
    rw [nm_s, if_neg e0, if_neg e1, if_neg e2, if_neg e3, i0, bd_s, if_pos rfl, if_neg e9, if_neg e10, jn_s, if_neg e11]
  · unfold f_X11_count_l
    rw [if_neg e0, if_neg e1, if_neg e2, if_neg e3, if_neg e4, if_neg e5, if_neg e6, if_neg e7, if_neg e8, if_neg e9, if_neg e10, if_neg e11]
theorem t_end (hT : TP g gT c n) (gP : Pic) (x1 : Int32) : ∃ v g' gT' c' n', f_X12_end g x1 = some (v, g') ∧ f_X11_end gP gT x1 = some (v, gT') ∧ Eq_ g g' ∧ TP g' gT' c' n' ∧ (v = 0 ∨ v = 1) := by
  obtain ⟨h1, h2, h3, h4⟩ := hT
  have e8 : (pu g 0 0 0) 8 0 = nI n := h1
  rcases e_num (gP := gP) x1 (lo := 0) (hi := n) (by omega) (by omega) with ⟨j, -, j2, rfl, b, -⟩ | ⟨b, -⟩
  · have b : f_X12_isIn (nI j) 0 (nI n) = some 1 := b
    refine ⟨1, pu (pu g 0 0 0) 8 0 (nI j), pu gT 1 0 (nI j), c, j, ?_, ?_, ⟨rfl, rfl, rfl, rfl, rfl, rfl⟩, ⟨rfl, rfl, by omega, fun k hk => h4 k (by omega)⟩, Or.inr rfl⟩
    · unfold f_X12_end; rw [nm_s, e8, b, bd_s, if_neg (show ¬ (1 : Int32) = 0 by decide), nm_s]
    · unfold f_X11_end; rw [jn_s, if_neg (nI_pos (by omega)), h2, if_pos ((nI_leI (by omega) (by omega)).mpr j2), nm_s]
  · have b : f_X12_isIn x1 0 (nI n) = some 0 := b
    refine ⟨0, pu g 0 0 0, gT, c, n, ?_, ?_, ⟨rfl, rfl, rfl, rfl, rfl, rfl⟩, ⟨h1, h2, h3, h4⟩, Or.inl rfl⟩
    · unfold f_X12_end; rw [nm_s, e8, b, bd_s, if_pos rfl]
    · unfold f_X11_end
      rw [q_isIn] at b
      rw [jn_s, h2]
      by_cases z : x1 < 0
      · rw [if_pos z]
      · by_cases y : x1 ≤ nI n
        · rw [if_pos ⟨Int32.not_lt.mp z, y⟩] at b
          exact absurd (Option.some.inj b) (by decide)
        · rw [if_neg z, if_neg y]
theorem and255 (y : Int32) : ∃ b, b ≤ 255 ∧ (y &&& 255) = nI b := by
  refine ⟨(y.toBitVec &&& 255#32).toNat, ?_, ?_⟩
  · rw [BitVec.toNat_and]; exact Nat.and_le_right
  · apply Int32.toBitVec_inj.mp
    rw [Int32.toBitVec_and]
    show _ = BitVec.ofNat 32 _
    rw [BitVec.ofNat_toNat, BitVec.setWidth_eq]
    rfl
def sA : Nat → Int32
  | 0 => 24
  | 1 => 16
  | 2 => 8
  | 3 => 0
  | _ => -8
def bA (x : Int32) (k : Nat) : Int32 := ((x.toUInt32 >>> ((sA k).toUInt32 &&& Int32.toUInt32 31)).toInt32) &&& 255
def wQ (g : Pic) (b : Int32) : Pic := pu (pu g 7 (tn (g 8 0)) b) 8 0 (g 8 0 + 1)
def wT (g : Pic) (b : Int32) : Pic := pu (pu g 0 (tn (g 1 0)) b) 1 0 (g 1 0 + 1)
def itA (g : Pic) (x : Int32) : Nat → Pic
  | 0 => g
  | k + 1 => wT (itA g x k) (bA x k)
def itQ (g : Pic) (x : Int32) : Nat → Pic
  | 0 => g
  | k + 1 => wQ (itQ g x k) (bA x k)
theorem wQ_8 (g : Pic) (b : Int32) : (wQ g b) 8 0 = g 8 0 + 1 := rfl
theorem wT_1 (g : Pic) (b : Int32) : (wT g b) 1 0 = g 1 0 + 1 := rfl
theorem itA_1 {g : Pic} {n : Nat} (h : g 1 0 = nI n) (x : Int32) (k : Nat) : (itA g x k) 1 0 = nI (n + k) := by
  induction k with
  | zero => exact h
  | succ k ih => show (wT (itA g x k) (bA x k)) 1 0 = _; rw [wT_1, ih, nI_1]; rfl
theorem itQ_8 {g : Pic} {n : Nat} (h : g 8 0 = nI n) (x : Int32) (k : Nat) : (itQ g x k) 8 0 = nI (n + k) := by
  induction k with
  | zero => exact h
  | succ k ih => show (wQ (itQ g x k) (bA x k)) 8 0 = _; rw [wQ_8, ih, nI_1]; rfl
theorem wQ_e (g : Pic) (b : Int32) : Eq_ g (wQ g b) := ⟨rfl, rfl, rfl, rfl, rfl, rfl⟩
theorem Eq_.tr {a b d : Pic} (h : Eq_ a b) (k : Eq_ b d) : Eq_ a d := ⟨k.1.trans h.1, k.2.1.trans h.2.1, k.2.2.1.trans h.2.2.1, k.2.2.2.1.trans h.2.2.2.1, k.2.2.2.2.1.trans h.2.2.2.2.1, k.2.2.2.2.2.trans h.2.2.2.2.2⟩
theorem Eq_.rf (a : Pic) : Eq_ a a := ⟨rfl, rfl, rfl, rfl, rfl, rfl⟩
theorem itQ_e (g : Pic) (x : Int32) (k : Nat) : Eq_ g (itQ g x k) := by
  induction k with
  | zero => exact Eq_.rf _
  | succ k ih => exact ih.tr (wQ_e _ _)
theorem TP.put (h : TP g gT c n) (hn : n < 400) (x : Int32) (k : Nat) : ∃ c', TP (wQ g (bA x k)) (wT gT (bA x k)) c' (n + 1) := by
  obtain ⟨h1, h2, h3, h4⟩ := h
  obtain ⟨b, b1, b2⟩ := and255 ((x.toUInt32 >>> ((sA k).toUInt32 &&& Int32.toUInt32 31)).toInt32)
  have b2 : bA x k = nI b := b2
  have e1 : tn (g 8 0) = n := by rw [h1, tn_n (by omega)]
  have e2 : tn (gT 1 0) = n := by rw [h2, tn_n (by omega)]
  refine ⟨fun j => if j = n then b else c j, by rw [wQ_8, h1, nI_1], by rw [wT_1, h2, nI_1], by omega, fun j hj => ?_⟩
  have r1 : (wQ g (bA x k)) 7 j = if j = n then nI b else g 7 j := by rw [← e1, ← b2]; rfl
  have r2 : (wT gT (bA x k)) 0 j = if j = n then nI b else gT 0 j := by rw [← e2, ← b2]; rfl
  rw [r1, r2]
  by_cases z : j = n
  · simp only [if_pos z, true_and]
    exact b1
  · simp only [if_neg z]
    exact h4 j (by omega)
theorem TP.put4 (h : TP g gT c n) (hn : n + 4 ≤ 400) (x : Int32) : ∃ c', TP (itQ g x 4) (itA gT x 4) c' (n + 4) := by
  obtain ⟨c1, h⟩ := h.put (by omega) x 0
  obtain ⟨c2, h⟩ := h.put (by omega) x 1
  obtain ⟨c3, h⟩ := h.put (by omega) x 2
  obtain ⟨c4, h⟩ := h.put (by omega) x 3
  exact ⟨c4, h⟩
theorem k_addN {g : Pic} {n : Nat} (h : g 1 0 = nI n) (hn : n + 4 ≤ 400) (x : Int32) : f_X10_addNumber g x = some (itA g x 4) := by
  unfold f_X10_addNumber
  rw [show f_X10_addNumber_L3 x fu (24, g) = some (itA g x 4) from ?_, bd_s]
  refine lp_seq (fun k => (sA k, itA g x k)) 4 _ (fun k hk r => ?_) (fun r => ?_) (by have := fu_big; omega) rfl
  · have e := itA_1 h x k
    have a1 : ¬ (400 : Int32) ≤ (itA g x k) 1 0 := by rw [e, li_400, nI_leI (by omega) (by omega)]; omega
    have a2 : ¬ sA k < 0 := by
      obtain rfl | rfl | rfl | rfl : k = 0 ∨ k = 1 ∨ k = 2 ∨ k = 3 := by omega
      all_goals decide
    have a3 : sA k + -8 = sA (k + 1) := by
      obtain rfl | rfl | rfl | rfl : k = 0 ∨ k = 1 ∨ k = 2 ∨ k = 3 := by omega
      all_goals decide
    show (if sA k < 0 then _ else _) = _
    rw [if_neg a2, jn_s, if_neg a1, show ∀ y : Option Pic, gdi ((itA g x k) 1 0) 400 y = y from fun y => by rw [e]; exact gdi_n (by omega) (by omega), nm_s, nm_s]
    simp only [nm_s, a3]
    rfl
  · show (if sA 4 < 0 then _ else _) = _
    rw [if_pos (by decide)]
def itF (g : Pic) (x1 x2 x3 x4 x5 : Int32) (k : Nat) : Pic := if k ≤ 4 then itQ g x1 k else if k ≤ 8 then itQ (itQ g x1 4) x2 (k - 4) else if k ≤ 12 then itQ (itQ (itQ g x1 4) x2 4) x3 (k - 8) else if k ≤ 16 then itQ (itQ (itQ (itQ g x1 4) x2 4) x3 4) x4 (k - 12) else itQ (itQ (itQ (itQ (itQ g x1 4) x2 4) x3 4) x4 4) x5 (k - 16)
theorem q_feedS {g : Pic} {n : Nat} (h : g 8 0 = nI n) (hn : n < 400) {x6 s y : Int32} {sh : Int32} (hs : 24 - (8 * (x6 - x6 / 4 * 4)) = sh) (r : Int32 × Pic → Option Pic) (x : Int32) : gdi (g 8 0) 400 (nm (pu g 7 ((g 8 0).toNatClampNeg) (((x.toUInt32 >>> ((24 - (8 * (x6 - x6 / 4 * 4))).toUInt32 &&& Int32.toUInt32 31)).toInt32) &&& 255)) (fun g0_3 => nm (pu g0_3 8 0 ((g0_3 8 0) + 1)) (fun g0_4 => nm (x6 + 1) (fun x6_5 => r (x6_5, g0_4))))) = r (x6 + 1, wQ g (((x.toUInt32 >>> (sh.toUInt32 &&& Int32.toUInt32 31)).toInt32) &&& 255)) := by
  rw [show ∀ y : Option Pic, gdi (g 8 0) 400 y = y from fun y => by rw [h]; exact gdi_n (by omega) (by omega), nm_s, nm_s, nm_s, hs]
  rfl
theorem q_feedL {g : Pic} {n : Nat} (h : g 8 0 = nI n) (hn : n + 20 ≤ 400) (x1 x2 x3 x4 x5 : Int32) : f_X12_feed_L23 x1 x2 x3 x4 x5 fu (0, g) = some (itQ (itQ (itQ (itQ (itQ g x1 4) x2 4) x3 4) x4 4) x5 4) := by
  have h1 := itQ_8 h x1
  have h2 := itQ_8 (h1 4) x2
  have h3 := itQ_8 (h2 4) x3
  have h4 := itQ_8 (h3 4) x4
  have h5 := itQ_8 (h4 4) x5
  refine lp_seq (fun k => (nI k, itF g x1 x2 x3 x4 x5 k)) 20 _ (fun k hk r => ?_) (fun r => ?_) (by have := fu_big; omega) rfl
  · obtain rfl | rfl | rfl | rfl | rfl | rfl | rfl | rfl | rfl | rfl | rfl | rfl | rfl | rfl | rfl | rfl | rfl | rfl | rfl | rfl : k = 0 ∨ k = 1 ∨ k = 2 ∨ k = 3 ∨ k = 4 ∨ k = 5 ∨ k = 6 ∨ k = 7 ∨ k = 8 ∨ k = 9 ∨ k = 10 ∨ k = 11 ∨ k = 12 ∨ k = 13 ∨ k = 14 ∨ k = 15 ∨ k = 16 ∨ k = 17 ∨ k = 18 ∨ k = 19 := by omega
    · show (if (20 : Int32) ≤ nI 0 then _ else _) = r (nI 1, itQ g x1 1)
      rw [if_neg (by decide), jn_s, if_neg (show ¬ (4 : Int32) ≤ nI 0 by decide)]
      exact q_feedS (s := 0) (y := 0) (h1 0) (by omega) (show 24 - (8 * (nI 0 - nI 0 / 4 * 4)) = sA 0 by decide) r x1
    · show (if (20 : Int32) ≤ nI 1 then _ else _) = r (nI 2, itQ g x1 2)
      rw [if_neg (by decide), jn_s, if_neg (show ¬ (4 : Int32) ≤ nI 1 by decide)]
      exact q_feedS (s := 0) (y := 0) (h1 1) (by omega) (show 24 - (8 * (nI 1 - nI 1 / 4 * 4)) = sA 1 by decide) r x1
    · show (if (20 : Int32) ≤ nI 2 then _ else _) = r (nI 3, itQ g x1 3)
      rw [if_neg (by decide), jn_s, if_neg (show ¬ (4 : Int32) ≤ nI 2 by decide)]
      exact q_feedS (s := 0) (y := 0) (h1 2) (by omega) (show 24 - (8 * (nI 2 - nI 2 / 4 * 4)) = sA 2 by decide) r x1
    · show (if (20 : Int32) ≤ nI 3 then _ else _) = r (nI 4, itQ g x1 4)
      rw [if_neg (by decide), jn_s, if_neg (show ¬ (4 : Int32) ≤ nI 3 by decide)]
      exact q_feedS (s := 0) (y := 0) (h1 3) (by omega) (show 24 - (8 * (nI 3 - nI 3 / 4 * 4)) = sA 3 by decide) r x1
    · show (if (20 : Int32) ≤ nI 4 then _ else _) = r (nI 5, itQ (itQ g x1 4) x2 1)
      rw [if_neg (by decide), jn_s, if_pos (show (4 : Int32) ≤ nI 4 by decide), if_neg (show ¬ (8 : Int32) ≤ nI 4 by decide)]
      exact q_feedS (s := 0) (y := 0) (h2 0) (by omega) (show 24 - (8 * (nI 4 - nI 4 / 4 * 4)) = sA 0 by decide) r x2
    · show (if (20 : Int32) ≤ nI 5 then _ else _) = r (nI 6, itQ (itQ g x1 4) x2 2)
      rw [if_neg (by decide), jn_s, if_pos (show (4 : Int32) ≤ nI 5 by decide), if_neg (show ¬ (8 : Int32) ≤ nI 5 by decide)]
      exact q_feedS (s := 0) (y := 0) (h2 1) (by omega) (show 24 - (8 * (nI 5 - nI 5 / 4 * 4)) = sA 1 by decide) r x2
    · show (if (20 : Int32) ≤ nI 6 then _ else _) = r (nI 7, itQ (itQ g x1 4) x2 3)
      rw [if_neg (by decide), jn_s, if_pos (show (4 : Int32) ≤ nI 6 by decide), if_neg (show ¬ (8 : Int32) ≤ nI 6 by decide)]
      exact q_feedS (s := 0) (y := 0) (h2 2) (by omega) (show 24 - (8 * (nI 6 - nI 6 / 4 * 4)) = sA 2 by decide) r x2
    · show (if (20 : Int32) ≤ nI 7 then _ else _) = r (nI 8, itQ (itQ g x1 4) x2 4)
      rw [if_neg (by decide), jn_s, if_pos (show (4 : Int32) ≤ nI 7 by decide), if_neg (show ¬ (8 : Int32) ≤ nI 7 by decide)]
      exact q_feedS (s := 0) (y := 0) (h2 3) (by omega) (show 24 - (8 * (nI 7 - nI 7 / 4 * 4)) = sA 3 by decide) r x2
    · show (if (20 : Int32) ≤ nI 8 then _ else _) = r (nI 9, itQ (itQ (itQ g x1 4) x2 4) x3 1)
      rw [if_neg (by decide), jn_s, if_pos (show (4 : Int32) ≤ nI 8 by decide), if_pos (show (8 : Int32) ≤ nI 8 by decide), if_neg (show ¬ (12 : Int32) ≤ nI 8 by decide)]
      exact q_feedS (s := 0) (y := 0) (h3 0) (by omega) (show 24 - (8 * (nI 8 - nI 8 / 4 * 4)) = sA 0 by decide) r x3
    · show (if (20 : Int32) ≤ nI 9 then _ else _) = r (nI 10, itQ (itQ (itQ g x1 4) x2 4) x3 2)
      rw [if_neg (by decide), jn_s, if_pos (show (4 : Int32) ≤ nI 9 by decide), if_pos (show (8 : Int32) ≤ nI 9 by decide), if_neg (show ¬ (12 : Int32) ≤ nI 9 by decide)]
      exact q_feedS (s := 0) (y := 0) (h3 1) (by omega) (show 24 - (8 * (nI 9 - nI 9 / 4 * 4)) = sA 1 by decide) r x3
    · show (if (20 : Int32) ≤ nI 10 then _ else _) = r (nI 11, itQ (itQ (itQ g x1 4) x2 4) x3 3)
      rw [if_neg (by decide), jn_s, if_pos (show (4 : Int32) ≤ nI 10 by decide), if_pos (show (8 : Int32) ≤ nI 10 by decide), if_neg (show ¬ (12 : Int32) ≤ nI 10 by decide)]
      exact q_feedS (s := 0) (y := 0) (h3 2) (by omega) (show 24 - (8 * (nI 10 - nI 10 / 4 * 4)) = sA 2 by decide) r x3
    · show (if (20 : Int32) ≤ nI 11 then _ else _) = r (nI 12, itQ (itQ (itQ g x1 4) x2 4) x3 4)
      rw [if_neg (by decide), jn_s, if_pos (show (4 : Int32) ≤ nI 11 by decide), if_pos (show (8 : Int32) ≤ nI 11 by decide), if_neg (show ¬ (12 : Int32) ≤ nI 11 by decide)]
      exact q_feedS (s := 0) (y := 0) (h3 3) (by omega) (show 24 - (8 * (nI 11 - nI 11 / 4 * 4)) = sA 3 by decide) r x3
    · show (if (20 : Int32) ≤ nI 12 then _ else _) = r (nI 13, itQ (itQ (itQ (itQ g x1 4) x2 4) x3 4) x4 1)
      rw [if_neg (by decide), jn_s, if_pos (show (4 : Int32) ≤ nI 12 by decide), if_pos (show (8 : Int32) ≤ nI 12 by decide), if_pos (show (12 : Int32) ≤ nI 12 by decide), if_neg (show ¬ (16 : Int32) ≤ nI 12 by decide)]
      exact q_feedS (s := 0) (y := 0) (h4 0) (by omega) (show 24 - (8 * (nI 12 - nI 12 / 4 * 4)) = sA 0 by decide) r x4
    · show (if (20 : Int32) ≤ nI 13 then _ else _) = r (nI 14, itQ (itQ (itQ (itQ g x1 4) x2 4) x3 4) x4 2)
      rw [if_neg (by decide), jn_s, if_pos (show (4 : Int32) ≤ nI 13 by decide), if_pos (show (8 : Int32) ≤ nI 13 by decide), if_pos (show (12 : Int32) ≤ nI 13 by decide), if_neg (show ¬ (16 : Int32) ≤ nI 13 by decide)]
      exact q_feedS (s := 0) (y := 0) (h4 1) (by omega) (show 24 - (8 * (nI 13 - nI 13 / 4 * 4)) = sA 1 by decide) r x4
    · show (if (20 : Int32) ≤ nI 14 then _ else _) = r (nI 15, itQ (itQ (itQ (itQ g x1 4) x2 4) x3 4) x4 3)
      rw [if_neg (by decide), jn_s, if_pos (show (4 : Int32) ≤ nI 14 by decide), if_pos (show (8 : Int32) ≤ nI 14 by decide), if_pos (show (12 : Int32) ≤ nI 14 by decide), if_neg (show ¬ (16 : Int32) ≤ nI 14 by decide)]
      exact q_feedS (s := 0) (y := 0) (h4 2) (by omega) (show 24 - (8 * (nI 14 - nI 14 / 4 * 4)) = sA 2 by decide) r x4
    · show (if (20 : Int32) ≤ nI 15 then _ else _) = r (nI 16, itQ (itQ (itQ (itQ g x1 4) x2 4) x3 4) x4 4)
      rw [if_neg (by decide), jn_s, if_pos (show (4 : Int32) ≤ nI 15 by decide), if_pos (show (8 : Int32) ≤ nI 15 by decide), if_pos (show (12 : Int32) ≤ nI 15 by decide), if_neg (show ¬ (16 : Int32) ≤ nI 15 by decide)]
      exact q_feedS (s := 0) (y := 0) (h4 3) (by omega) (show 24 - (8 * (nI 15 - nI 15 / 4 * 4)) = sA 3 by decide) r x4
    · show (if (20 : Int32) ≤ nI 16 then _ else _) = r (nI 17, itQ (itQ (itQ (itQ (itQ g x1 4) x2 4) x3 4) x4 4) x5 1)
      rw [if_neg (by decide), jn_s, if_pos (show (4 : Int32) ≤ nI 16 by decide), if_pos (show (8 : Int32) ≤ nI 16 by decide), if_pos (show (12 : Int32) ≤ nI 16 by decide), if_pos (show (16 : Int32) ≤ nI 16 by decide)]
      exact q_feedS (s := 0) (y := 0) (h5 0) (by omega) (show 24 - (8 * (nI 16 - nI 16 / 4 * 4)) = sA 0 by decide) r x5
    · show (if (20 : Int32) ≤ nI 17 then _ else _) = r (nI 18, itQ (itQ (itQ (itQ (itQ g x1 4) x2 4) x3 4) x4 4) x5 2)
      rw [if_neg (by decide), jn_s, if_pos (show (4 : Int32) ≤ nI 17 by decide), if_pos (show (8 : Int32) ≤ nI 17 by decide), if_pos (show (12 : Int32) ≤ nI 17 by decide), if_pos (show (16 : Int32) ≤ nI 17 by decide)]
      exact q_feedS (s := 0) (y := 0) (h5 1) (by omega) (show 24 - (8 * (nI 17 - nI 17 / 4 * 4)) = sA 1 by decide) r x5
    · show (if (20 : Int32) ≤ nI 18 then _ else _) = r (nI 19, itQ (itQ (itQ (itQ (itQ g x1 4) x2 4) x3 4) x4 4) x5 3)
      rw [if_neg (by decide), jn_s, if_pos (show (4 : Int32) ≤ nI 18 by decide), if_pos (show (8 : Int32) ≤ nI 18 by decide), if_pos (show (12 : Int32) ≤ nI 18 by decide), if_pos (show (16 : Int32) ≤ nI 18 by decide)]
      exact q_feedS (s := 0) (y := 0) (h5 2) (by omega) (show 24 - (8 * (nI 18 - nI 18 / 4 * 4)) = sA 2 by decide) r x5
    · show (if (20 : Int32) ≤ nI 19 then _ else _) = r (nI 20, itQ (itQ (itQ (itQ (itQ g x1 4) x2 4) x3 4) x4 4) x5 4)
      rw [if_neg (by decide), jn_s, if_pos (show (4 : Int32) ≤ nI 19 by decide), if_pos (show (8 : Int32) ≤ nI 19 by decide), if_pos (show (12 : Int32) ≤ nI 19 by decide), if_pos (show (16 : Int32) ≤ nI 19 by decide)]
      exact q_feedS (s := 0) (y := 0) (h5 3) (by omega) (show 24 - (8 * (nI 19 - nI 19 / 4 * 4)) = sA 3 by decide) r x5
  · show (if (20 : Int32) ≤ nI 20 then _ else _) = _
    rw [if_pos (by decide)]
    rfl
theorem t_feed (hT : TP g gT c n) (gP : Pic) (x1 x2 x3 x4 x5 : Int32) : ∃ v g' gT' c' n', f_X12_feed g x1 x2 x3 x4 x5 = some (v, g') ∧ f_X11_feed gP gT x1 x2 x3 x4 x5 = some (v, gT') ∧ Eq_ g g' ∧ TP g' gT' c' n' := by
  have hT0 := hT
  obtain ⟨h1, h2, h3, h4⟩ := hT
  have e8 : (pu g 0 0 0) 8 0 = nI n := h1
  have e20 : nI n + 20 = nI (n + 20) := by rw [li_20, nI_add]
  by_cases z : n + 20 ≤ 400
  · have hT1 : TP (pu g 0 0 0) gT c n := ⟨h1, h2, h3, h4⟩
    obtain ⟨c1, p1⟩ := hT1.put4 (by omega) x1
    obtain ⟨c2, p2⟩ := p1.put4 (by omega) x2
    obtain ⟨c3, p3⟩ := p2.put4 (by omega) x3
    obtain ⟨c4, p4⟩ := p3.put4 (by omega) x4
    obtain ⟨c5, p5⟩ := p4.put4 (by omega) x5
    refine ⟨nI (n + 4 + 4 + 4 + 4 + 4), _, _, c5, _, ?_, ?_, ?_, p5⟩
    · unfold f_X12_feed
      rw [nm_s, e8, e20, if_pos (show nI (n + 20) ≤ 400 from (nI_leI (b := 400) (by omega) (by omega)).mpr z), q_feedL e8 z, bd_s, p5.1]
    · unfold f_X11_feed
      rw [h2, e20, if_pos (show nI (n + 20) ≤ 400 from (nI_leI (b := 400) (by omega) (by omega)).mpr z), k_addN h2 (by omega), bd_s, k_addN p1.2.1 (by omega), bd_s, k_addN p2.2.1 (by omega), bd_s, k_addN p3.2.1 (by omega), bd_s, k_addN p4.2.1 (by omega), bd_s, p5.2.1]
    · exact Eq_.tr (b := pu g 0 0 0) ⟨rfl, rfl, rfl, rfl, rfl, rfl⟩ ((((itQ_e _ _ _).tr (itQ_e _ _ _)).tr (itQ_e _ _ _)).tr ((itQ_e _ _ _).tr (itQ_e _ _ _)))
  · refine ⟨-1, pu g 0 0 0, gT, c, n, ?_, ?_, ⟨rfl, rfl, rfl, rfl, rfl, rfl⟩, ⟨h1, h2, h3, h4⟩⟩
    · unfold f_X12_feed
      rw [nm_s, e8, e20, if_neg (show ¬ nI (n + 20) ≤ 400 from fun q => z ((nI_leI (b := 400) (by omega) (by omega)).mp q))]
    · unfold f_X11_feed
      rw [h2, e20, if_neg (show ¬ nI (n + 20) ≤ 400 from fun q => z ((nI_leI (b := 400) (by omega) (by omega)).mp q))]
end K64
