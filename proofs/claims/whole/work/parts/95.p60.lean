/-! what there is of a writer -/
section K60
variable {m : Nat → Int32} {g gP gS gL gH gC : Pic} {u : Nat}
theorem e_wNum (hO : Ok (g 1)) (hR : RS gS gL (g 1)) (gP : Pic) (x1 x2 : Int32) : (∃ u j, u < tn (g 1 4) ∧ j ≤ 13 ∧ x1 = nI u ∧ x2 = nI j ∧ f_X12_isWriter g x1 = some 1 ∧ f_X12_isIn x2 0 13 = some 1 ∧ f_X11_needWriter gP gS x1 = some (.inr ())) ∨ (∃ u, u < tn (g 1 4) ∧ x1 = nI u ∧ f_X12_isWriter g x1 = some 1 ∧ f_X12_isIn x2 0 13 = some 0 ∧ f_X11_needWriter gP gS x1 = some (.inr ()) ∧ ∀ j, j ≤ 13 → ¬ x2 = nI j) ∨ (f_X12_isWriter g x1 = some 0 ∧ f_X11_needWriter gP gS x1 = some (.inl (0, ()))) := by
  rcases e_writer (gP := gP) hO hR x1 with ⟨u, hu, rfl, a1, a2⟩ | ⟨a1, a2⟩
  · rcases e_num (gP := gP) x2 (lo := 0) (hi := 13) (by omega) (by omega) with ⟨j, -, j13, rfl, b1, -⟩ | ⟨b1, -⟩
    · exact Or.inl ⟨u, j, hu, j13, rfl, rfl, a1, b1, a2⟩
    · have b1 : f_X12_isIn x2 0 13 = some 0 := b1
      refine Or.inr (Or.inl ⟨u, hu, rfl, a1, b1, a2, fun j hj e => ?_⟩)
      rw [e, q_isIn, if_pos ⟨nI_pos' (by omega), nI_le (b := 13) hj (by omega)⟩] at b1
      exact absurd (Option.some.inj b1) (by decide)
  · exact Or.inr (Or.inr ⟨a1, a2⟩)
theorem q_wr (hO : Ok (g 1)) (hu : u < tn (g 1 4)) {k : Nat} (hk : k < 4) (t : Int32) : f_X12_of (pu g 0 0 t) (nI u) (nI k) = some (wr (g 1) u k) := q_of (g := pu g 0 0 t) (hO.u5 hu) hk

theorem t_writer0 (hO : Ok (g 1)) (hR : RS gS gL (g 1)) (hu : u < tn (g 1 4)) (a1 : f_X12_isWriter g (nI u) = some 1) (b1 : f_X12_isIn (nI 0) 0 13 = some 1) (a2 : f_X11_needWriter gP gS (nI u) = some (.inr ())) (gH gC : Pic) : ∃ v p, f_X12_writer g (nI u) (nI 0) = some (v, pu g 0 0 0) ∧ f_X11_writer gP gS gH gC (nI u) (nI 0) = some (.inr (v, p)) := by
  have u5 := hO.u5 hu
  refine ⟨wr (g 1) u 0, (gH, gC), ?_, ?_⟩
  · unfold f_X12_writer
    rw [a1]
    simp only [bd_s, bd2_s, bd3_s, bd4_s, bd5_s, bd6_s, bd7_s, lr_l, lr_r, nm_s, jn_s, gdb_0, gdb_1, pz_v, if_true, if_false, eq_self, i10, i01, i20, l10, l00, l20, b1]
    rw [if_neg (show ¬ (4 : Int32) ≤ nI 0 by decide)]
    rw [q_wr hO hu (by omega)]
    rfl
  · unfold f_X11_writer
    rw [a2]
    simp only [bd_s, bd2_s, bd3_s, bd4_s, bd5_s, bd6_s, bd7_s, lr_l, lr_r, nm_s, jn_s, gdb_0, gdb_1, pz_v, if_true, if_false, eq_self, i10, i01, i20, l10, l00, l20]
    rw [if_pos (show nI 0 = 0 from rfl)]
    rw [gdi_n u5 (by omega), nI_clamp (by omega), hR.leaves hu]

theorem t_writer1 (hO : Ok (g 1)) (hR : RS gS gL (g 1)) (hu : u < tn (g 1 4)) (a1 : f_X12_isWriter g (nI u) = some 1) (b1 : f_X12_isIn (nI 1) 0 13 = some 1) (a2 : f_X11_needWriter gP gS (nI u) = some (.inr ())) (gH gC : Pic) : ∃ v p, f_X12_writer g (nI u) (nI 1) = some (v, pu g 0 0 0) ∧ f_X11_writer gP gS gH gC (nI u) (nI 1) = some (.inr (v, p)) := by
  have u5 := hO.u5 hu
  refine ⟨wr (g 1) u 1, (gH, gC), ?_, ?_⟩
  · unfold f_X12_writer
    rw [a1]
    simp only [bd_s, bd2_s, bd3_s, bd4_s, bd5_s, bd6_s, bd7_s, lr_l, lr_r, nm_s, jn_s, gdb_0, gdb_1, pz_v, if_true, if_false, eq_self, i10, i01, i20, l10, l00, l20, b1]
    rw [if_neg (show ¬ (4 : Int32) ≤ nI 1 by decide)]
    rw [q_wr hO hu (by omega)]
    rfl
  · unfold f_X11_writer
    rw [a2]
    simp only [bd_s, bd2_s, bd3_s, bd4_s, bd5_s, bd6_s, bd7_s, lr_l, lr_r, nm_s, jn_s, gdb_0, gdb_1, pz_v, if_true, if_false, eq_self, i10, i01, i20, l10, l00, l20]
    rw [if_neg (show ¬ nI 1 = 0 by decide), if_pos (show nI 1 = 1 from rfl)]
    rw [gdi_n u5 (by omega), nI_clamp (by omega), hR.speed hu]

theorem t_writer2 (hO : Ok (g 1)) (hR : RS gS gL (g 1)) (hu : u < tn (g 1 4)) (a1 : f_X12_isWriter g (nI u) = some 1) (b1 : f_X12_isIn (nI 2) 0 13 = some 1) (a2 : f_X11_needWriter gP gS (nI u) = some (.inr ())) (gH gC : Pic) : ∃ v p, f_X12_writer g (nI u) (nI 2) = some (v, pu g 0 0 0) ∧ f_X11_writer gP gS gH gC (nI u) (nI 2) = some (.inr (v, p)) := by
  have u5 := hO.u5 hu
  refine ⟨wr (g 1) u 2, (gH, gC), ?_, ?_⟩
  · unfold f_X12_writer
    rw [a1]
    simp only [bd_s, bd2_s, bd3_s, bd4_s, bd5_s, bd6_s, bd7_s, lr_l, lr_r, nm_s, jn_s, gdb_0, gdb_1, pz_v, if_true, if_false, eq_self, i10, i01, i20, l10, l00, l20, b1]
    rw [if_neg (show ¬ (4 : Int32) ≤ nI 2 by decide)]
    rw [q_wr hO hu (by omega)]
    rfl
  · unfold f_X11_writer
    rw [a2]
    simp only [bd_s, bd2_s, bd3_s, bd4_s, bd5_s, bd6_s, bd7_s, lr_l, lr_r, nm_s, jn_s, gdb_0, gdb_1, pz_v, if_true, if_false, eq_self, i10, i01, i20, l10, l00, l20]
    rw [if_neg (show ¬ nI 2 = 0 by decide), if_neg (show ¬ nI 2 = 1 by decide), if_pos (show nI 2 = 2 from rfl)]
    rw [gdi_n u5 (by omega), nI_clamp (by omega), hR.skill hu]

theorem t_writer3 (hO : Ok (g 1)) (hR : RS gS gL (g 1)) (hu : u < tn (g 1 4)) (a1 : f_X12_isWriter g (nI u) = some 1) (b1 : f_X12_isIn (nI 3) 0 13 = some 1) (a2 : f_X11_needWriter gP gS (nI u) = some (.inr ())) (gH gC : Pic) : ∃ v p, f_X12_writer g (nI u) (nI 3) = some (v, pu g 0 0 0) ∧ f_X11_writer gP gS gH gC (nI u) (nI 3) = some (.inr (v, p)) := by
  have u5 := hO.u5 hu
  refine ⟨wr (g 1) u 3, (gH, gC), ?_, ?_⟩
  · unfold f_X12_writer
    rw [a1]
    simp only [bd_s, bd2_s, bd3_s, bd4_s, bd5_s, bd6_s, bd7_s, lr_l, lr_r, nm_s, jn_s, gdb_0, gdb_1, pz_v, if_true, if_false, eq_self, i10, i01, i20, l10, l00, l20, b1]
    rw [if_neg (show ¬ (4 : Int32) ≤ nI 3 by decide)]
    rw [q_wr hO hu (by omega)]
    rfl
  · unfold f_X11_writer
    rw [a2]
    simp only [bd_s, bd2_s, bd3_s, bd4_s, bd5_s, bd6_s, bd7_s, lr_l, lr_r, nm_s, jn_s, gdb_0, gdb_1, pz_v, if_true, if_false, eq_self, i10, i01, i20, l10, l00, l20]
    rw [if_neg (show ¬ nI 3 = 0 by decide), if_neg (show ¬ nI 3 = 1 by decide), if_neg (show ¬ nI 3 = 2 by decide), if_pos (show nI 3 = 3 from rfl)]
    rw [gdi_n u5 (by omega), nI_clamp (by omega), hR.tired hu]

theorem t_writer4 (hO : Ok (g 1)) (hR : RS gS gL (g 1)) (hu : u < tn (g 1 4)) (a1 : f_X12_isWriter g (nI u) = some 1) (b1 : f_X12_isIn (nI 4) 0 13 = some 1) (a2 : f_X11_needWriter gP gS (nI u) = some (.inr ())) (gH gC : Pic) : ∃ v p, f_X12_writer g (nI u) (nI 4) = some (v, pu g 0 0 0) ∧ f_X11_writer gP gS gH gC (nI u) (nI 4) = some (.inr (v, p)) := by
  have u5 := hO.u5 hu
  obtain ⟨h, b3, b2⟩ := k_hand hO hR hu gP gH
  refine ⟨clS (g 1) (wr (g 1) u 0) (tn (g 1 3)), (h, gC), ?_, ?_⟩
  · unfold f_X12_writer
    rw [a1]
    simp only [bd_s, bd2_s, bd3_s, bd4_s, bd5_s, bd6_s, bd7_s, lr_l, lr_r, nm_s, jn_s, gdb_0, gdb_1, pz_v, if_true, if_false, eq_self, i10, i01, i20, l10, l00, l20, b1]
    rw [if_pos (show (4 : Int32) ≤ nI 4 by decide), if_pos (show nI 4 = 4 by decide)]
    rw [q_clean (g := pu g 0 0 0) hO hu]
    rfl
  · unfold f_X11_writer
    rw [a2]
    simp only [bd_s, bd2_s, bd3_s, bd4_s, bd5_s, bd6_s, bd7_s, lr_l, lr_r, nm_s, jn_s, gdb_0, gdb_1, pz_v, if_true, if_false, eq_self, i10, i01, i20, l10, l00, l20]
    rw [if_neg (show ¬ nI 4 = 0 by decide), if_neg (show ¬ nI 4 = 1 by decide), if_neg (show ¬ nI 4 = 2 by decide), if_neg (show ¬ nI 4 = 3 by decide), if_pos (show nI 4 = 4 from rfl)]
    rw [b3, bd_s, k_clean hO b2]
    rfl

theorem t_writer5 (hO : Ok (g 1)) (hR : RS gS gL (g 1)) (hu : u < tn (g 1 4)) (a1 : f_X12_isWriter g (nI u) = some 1) (b1 : f_X12_isIn (nI 5) 0 13 = some 1) (a2 : f_X11_needWriter gP gS (nI u) = some (.inr ())) (gH gC : Pic) : ∃ v p, f_X12_writer g (nI u) (nI 5) = some (v, pu g 0 0 0) ∧ f_X11_writer gP gS gH gC (nI u) (nI 5) = some (.inr (v, p)) := by
  have u5 := hO.u5 hu
  obtain ⟨h, b3, b2⟩ := k_hand hO hR hu gP gH
  refine ⟨loS (g 1) (wr (g 1) u 0) (tn (g 1 3)), (h, gC), ?_, ?_⟩
  · unfold f_X12_writer
    rw [a1]
    simp only [bd_s, bd2_s, bd3_s, bd4_s, bd5_s, bd6_s, bd7_s, lr_l, lr_r, nm_s, jn_s, gdb_0, gdb_1, pz_v, if_true, if_false, eq_self, i10, i01, i20, l10, l00, l20, b1]
    rw [if_pos (show (4 : Int32) ≤ nI 5 by decide), if_neg (show ¬ nI 5 = 4 by decide), if_pos (show nI 5 = 5 by decide)]
    rw [q_lv hO hu, bd_s, q_lost (g := pu g 0 0 0) hO]
    rfl
  · unfold f_X11_writer
    rw [a2]
    simp only [bd_s, bd2_s, bd3_s, bd4_s, bd5_s, bd6_s, bd7_s, lr_l, lr_r, nm_s, jn_s, gdb_0, gdb_1, pz_v, if_true, if_false, eq_self, i10, i01, i20, l10, l00, l20]
    rw [if_neg (show ¬ nI 5 = 0 by decide), if_neg (show ¬ nI 5 = 1 by decide), if_neg (show ¬ nI 5 = 2 by decide), if_neg (show ¬ nI 5 = 3 by decide), if_neg (show ¬ nI 5 = 4 by decide), if_pos (show nI 5 = 5 from rfl)]
    rw [b3, bd_s, k_lost hO b2]
    rfl

theorem t_writer6 (hO : Ok (g 1)) (hR : RS gS gL (g 1)) (hu : u < tn (g 1 4)) (a1 : f_X12_isWriter g (nI u) = some 1) (b1 : f_X12_isIn (nI 6) 0 13 = some 1) (a2 : f_X11_needWriter gP gS (nI u) = some (.inr ())) (gH gC : Pic) : ∃ v p, f_X12_writer g (nI u) (nI 6) = some (v, pu g 0 0 0) ∧ f_X11_writer gP gS gH gC (nI u) (nI 6) = some (.inr (v, p)) := by
  have u5 := hO.u5 hu
  obtain ⟨h, b3, b2⟩ := k_hand hO hR hu gP gH
  refine ⟨saS (g 1) (wr (g 1) u 0) (tn (g 1 3)), (h, gC), ?_, ?_⟩
  · unfold f_X12_writer
    rw [a1]
    simp only [bd_s, bd2_s, bd3_s, bd4_s, bd5_s, bd6_s, bd7_s, lr_l, lr_r, nm_s, jn_s, gdb_0, gdb_1, pz_v, if_true, if_false, eq_self, i10, i01, i20, l10, l00, l20, b1]
    rw [if_pos (show (4 : Int32) ≤ nI 6 by decide), if_neg (show ¬ nI 6 = 4 by decide), if_neg (show ¬ nI 6 = 5 by decide), if_pos (show nI 6 = 6 by decide)]
    rw [q_lv hO hu, bd_s, q_saved (g := pu g 0 0 0) hO]
    rfl
  · unfold f_X11_writer
    rw [a2]
    simp only [bd_s, bd2_s, bd3_s, bd4_s, bd5_s, bd6_s, bd7_s, lr_l, lr_r, nm_s, jn_s, gdb_0, gdb_1, pz_v, if_true, if_false, eq_self, i10, i01, i20, l10, l00, l20]
    rw [if_neg (show ¬ nI 6 = 0 by decide), if_neg (show ¬ nI 6 = 1 by decide), if_neg (show ¬ nI 6 = 2 by decide), if_neg (show ¬ nI 6 = 3 by decide), if_neg (show ¬ nI 6 = 4 by decide), if_neg (show ¬ nI 6 = 5 by decide), if_pos (show nI 6 = 6 from rfl)]
    rw [b3, bd_s, k_saved hO b2]
    rfl

theorem t_writer7 (hO : Ok (g 1)) (hR : RS gS gL (g 1)) (hu : u < tn (g 1 4)) (a1 : f_X12_isWriter g (nI u) = some 1) (b1 : f_X12_isIn (nI 7) 0 13 = some 1) (a2 : f_X11_needWriter gP gS (nI u) = some (.inr ())) (gH gC : Pic) : ∃ v p, f_X12_writer g (nI u) (nI 7) = some (v, pu g 0 0 0) ∧ f_X11_writer gP gS gH gC (nI u) (nI 7) = some (.inr (v, p)) := by
  have u5 := hO.u5 hu
  obtain ⟨lag, now, gC2, gH2, e1, e2, e3⟩ := e_times (g := pu g 0 0 0) hO hR hu (g 1 7) gC gH
  have p7 : (pu g 0 0 0) 1 7 = g 1 7 := rfl
  refine ⟨now, (gH2, gC2), ?_, ?_⟩
  · unfold f_X12_writer
    rw [a1]
    simp only [bd_s, bd2_s, bd3_s, bd4_s, bd5_s, bd6_s, bd7_s, lr_l, lr_r, nm_s, jn_s, gdb_0, gdb_1, pz_v, if_true, if_false, eq_self, i10, i01, i20, l10, l00, l20, b1]
    rw [if_pos (show (4 : Int32) ≤ nI 7 by decide), if_neg (show ¬ nI 7 = 4 by decide), if_neg (show ¬ nI 7 = 5 by decide), if_neg (show ¬ nI 7 = 6 by decide), if_neg (show ¬ (9 : Int32) ≤ nI 7 by decide)]
    rw [if_pos (show nI 7 = 7 from rfl), p7, e1, if_neg (by decide)]
    rfl
  · unfold f_X11_writer
    rw [a2]
    simp only [bd_s, bd2_s, bd3_s, bd4_s, bd5_s, bd6_s, bd7_s, lr_l, lr_r, nm_s, jn_s, gdb_0, gdb_1, pz_v, if_true, if_false, eq_self, i10, i01, i20, l10, l00, l20]
    rw [if_neg (show ¬ nI 7 = 0 by decide), if_neg (show ¬ nI 7 = 1 by decide), if_neg (show ¬ nI 7 = 2 by decide), if_neg (show ¬ nI 7 = 3 by decide), if_neg (show ¬ nI 7 = 4 by decide), if_neg (show ¬ nI 7 = 5 by decide), if_neg (show ¬ nI 7 = 6 by decide), if_pos (show nI 7 = 7 from rfl)]
    unfold f_X8_doneOf
    rw [hR.T, e2, bd3_s, bd3_s, e3]

theorem t_writer8 (hO : Ok (g 1)) (hR : RS gS gL (g 1)) (hu : u < tn (g 1 4)) (a1 : f_X12_isWriter g (nI u) = some 1) (b1 : f_X12_isIn (nI 8) 0 13 = some 1) (a2 : f_X11_needWriter gP gS (nI u) = some (.inr ())) (gH gC : Pic) : ∃ v p, f_X12_writer g (nI u) (nI 8) = some (v, pu g 0 0 0) ∧ f_X11_writer gP gS gH gC (nI u) (nI 8) = some (.inr (v, p)) := by
  have u5 := hO.u5 hu
  obtain ⟨lag, now, gC2, gH2, e1, e2, e3⟩ := e_times (g := pu g 0 0 0) hO hR hu (g 1 7) gC gH
  have p7 : (pu g 0 0 0) 1 7 = g 1 7 := rfl
  refine ⟨lag, (gH2, gC2), ?_, ?_⟩
  · unfold f_X12_writer
    rw [a1]
    simp only [bd_s, bd2_s, bd3_s, bd4_s, bd5_s, bd6_s, bd7_s, lr_l, lr_r, nm_s, jn_s, gdb_0, gdb_1, pz_v, if_true, if_false, eq_self, i10, i01, i20, l10, l00, l20, b1]
    rw [if_pos (show (4 : Int32) ≤ nI 8 by decide), if_neg (show ¬ nI 8 = 4 by decide), if_neg (show ¬ nI 8 = 5 by decide), if_neg (show ¬ nI 8 = 6 by decide), if_neg (show ¬ (9 : Int32) ≤ nI 8 by decide)]
    rw [if_neg (show ¬ nI 8 = 7 by decide), p7, e1, if_pos rfl]
    rfl
  · unfold f_X11_writer
    rw [a2]
    simp only [bd_s, bd2_s, bd3_s, bd4_s, bd5_s, bd6_s, bd7_s, lr_l, lr_r, nm_s, jn_s, gdb_0, gdb_1, pz_v, if_true, if_false, eq_self, i10, i01, i20, l10, l00, l20]
    rw [if_neg (show ¬ nI 8 = 0 by decide), if_neg (show ¬ nI 8 = 1 by decide), if_neg (show ¬ nI 8 = 2 by decide), if_neg (show ¬ nI 8 = 3 by decide), if_neg (show ¬ nI 8 = 4 by decide), if_neg (show ¬ nI 8 = 5 by decide), if_neg (show ¬ nI 8 = 6 by decide), if_neg (show ¬ nI 8 = 7 by decide), if_pos (show nI 8 = 8 from rfl)]
    rw [hR.T, e2]
    rfl

theorem t_writer9 (hO : Ok (g 1)) (hR : RS gS gL (g 1)) (hu : u < tn (g 1 4)) (a1 : f_X12_isWriter g (nI u) = some 1) (b1 : f_X12_isIn (nI 9) 0 13 = some 1) (a2 : f_X11_needWriter gP gS (nI u) = some (.inr ())) (gH gC : Pic) : ∃ v p, f_X12_writer g (nI u) (nI 9) = some (v, pu g 0 0 0) ∧ f_X11_writer gP gS gH gC (nI u) (nI 9) = some (.inr (v, p)) := by
  have u5 := hO.u5 hu
  obtain ⟨v, gC2, gH2, e1, e2⟩ := e_edge (g := pu g 0 0 0) hO hR hu gC gH
  refine ⟨v, (gH2, gC2), ?_, ?_⟩
  · unfold f_X12_writer
    rw [a1]
    simp only [bd_s, bd2_s, bd3_s, bd4_s, bd5_s, bd6_s, bd7_s, lr_l, lr_r, nm_s, jn_s, gdb_0, gdb_1, pz_v, if_true, if_false, eq_self, i10, i01, i20, l10, l00, l20, b1]
    rw [if_pos (show (4 : Int32) ≤ nI 9 by decide), if_neg (show ¬ nI 9 = 4 by decide), if_neg (show ¬ nI 9 = 5 by decide), if_neg (show ¬ nI 9 = 6 by decide), if_pos (show (9 : Int32) ≤ nI 9 by decide), if_pos (show nI 9 = 9 by decide)]
    rw [e1]
    rfl
  · unfold f_X11_writer
    rw [a2]
    simp only [bd_s, bd2_s, bd3_s, bd4_s, bd5_s, bd6_s, bd7_s, lr_l, lr_r, nm_s, jn_s, gdb_0, gdb_1, pz_v, if_true, if_false, eq_self, i10, i01, i20, l10, l00, l20]
    rw [if_neg (show ¬ nI 9 = 0 by decide), if_neg (show ¬ nI 9 = 1 by decide), if_neg (show ¬ nI 9 = 2 by decide), if_neg (show ¬ nI 9 = 3 by decide), if_neg (show ¬ nI 9 = 4 by decide), if_neg (show ¬ nI 9 = 5 by decide), if_neg (show ¬ nI 9 = 6 by decide), if_neg (show ¬ nI 9 = 7 by decide), if_neg (show ¬ nI 9 = 8 by decide), if_pos (show nI 9 = 9 from rfl)]
    rw [e2]
    rfl

theorem t_writer10 (hO : Ok (g 1)) (hR : RS gS gL (g 1)) (hu : u < tn (g 1 4)) (a1 : f_X12_isWriter g (nI u) = some 1) (b1 : f_X12_isIn (nI 10) 0 13 = some 1) (a2 : f_X11_needWriter gP gS (nI u) = some (.inr ())) (gH gC : Pic) : ∃ v p, f_X12_writer g (nI u) (nI 10) = some (v, pu g 0 0 0) ∧ f_X11_writer gP gS gH gC (nI u) (nI 10) = some (.inr (v, p)) := by
  have u5 := hO.u5 hu
  obtain ⟨v, e1, e2⟩ := e_run (g := pu g 0 0 0) hO hR hu gC gH
  refine ⟨v, (gH, gC), ?_, ?_⟩
  · unfold f_X12_writer
    rw [a1]
    simp only [bd_s, bd2_s, bd3_s, bd4_s, bd5_s, bd6_s, bd7_s, lr_l, lr_r, nm_s, jn_s, gdb_0, gdb_1, pz_v, if_true, if_false, eq_self, i10, i01, i20, l10, l00, l20, b1]
    rw [if_pos (show (4 : Int32) ≤ nI 10 by decide), if_neg (show ¬ nI 10 = 4 by decide), if_neg (show ¬ nI 10 = 5 by decide), if_neg (show ¬ nI 10 = 6 by decide), if_pos (show (9 : Int32) ≤ nI 10 by decide), if_neg (show ¬ nI 10 = 9 by decide), if_pos (show nI 10 = 10 by decide)]
    rw [e1]
    rfl
  · unfold f_X11_writer
    rw [a2]
    simp only [bd_s, bd2_s, bd3_s, bd4_s, bd5_s, bd6_s, bd7_s, lr_l, lr_r, nm_s, jn_s, gdb_0, gdb_1, pz_v, if_true, if_false, eq_self, i10, i01, i20, l10, l00, l20]
    rw [if_neg (show ¬ nI 10 = 0 by decide), if_neg (show ¬ nI 10 = 1 by decide), if_neg (show ¬ nI 10 = 2 by decide), if_neg (show ¬ nI 10 = 3 by decide), if_neg (show ¬ nI 10 = 4 by decide), if_neg (show ¬ nI 10 = 5 by decide), if_neg (show ¬ nI 10 = 6 by decide), if_neg (show ¬ nI 10 = 7 by decide), if_neg (show ¬ nI 10 = 8 by decide), if_neg (show ¬ nI 10 = 9 by decide), if_pos (show nI 10 = 10 from rfl)]
    rw [e2]
    rfl

theorem t_writer11 (hO : Ok (g 1)) (hR : RS gS gL (g 1)) (hu : u < tn (g 1 4)) (a1 : f_X12_isWriter g (nI u) = some 1) (b1 : f_X12_isIn (nI 11) 0 13 = some 1) (a2 : f_X11_needWriter gP gS (nI u) = some (.inr ())) (gH gC : Pic) : ∃ v p, f_X12_writer g (nI u) (nI 11) = some (v, pu g 0 0 0) ∧ f_X11_writer gP gS gH gC (nI u) (nI 11) = some (.inr (v, p)) := by
  have u5 := hO.u5 hu
  obtain ⟨v, -, e1, e2⟩ := e_paged (g := pu g 0 0 0) hO hR hu 1
  refine ⟨g 1 6 - nI v, (gH, gC), ?_, ?_⟩
  · unfold f_X12_writer
    rw [a1]
    simp only [bd_s, bd2_s, bd3_s, bd4_s, bd5_s, bd6_s, bd7_s, lr_l, lr_r, nm_s, jn_s, gdb_0, gdb_1, pz_v, if_true, if_false, eq_self, i10, i01, i20, l10, l00, l20, b1]
    rw [if_pos (show (4 : Int32) ≤ nI 11 by decide), if_neg (show ¬ nI 11 = 4 by decide), if_neg (show ¬ nI 11 = 5 by decide), if_neg (show ¬ nI 11 = 6 by decide), if_pos (show (9 : Int32) ≤ nI 11 by decide), if_neg (show ¬ nI 11 = 9 by decide), if_neg (show ¬ nI 11 = 10 by decide), if_pos (show nI 11 = 11 by decide)]
    rw [e1]
    rfl
  · unfold f_X11_writer
    rw [a2]
    simp only [bd_s, bd2_s, bd3_s, bd4_s, bd5_s, bd6_s, bd7_s, lr_l, lr_r, nm_s, jn_s, gdb_0, gdb_1, pz_v, if_true, if_false, eq_self, i10, i01, i20, l10, l00, l20]
    rw [if_neg (show ¬ nI 11 = 0 by decide), if_neg (show ¬ nI 11 = 1 by decide), if_neg (show ¬ nI 11 = 2 by decide), if_neg (show ¬ nI 11 = 3 by decide), if_neg (show ¬ nI 11 = 4 by decide), if_neg (show ¬ nI 11 = 5 by decide), if_neg (show ¬ nI 11 = 6 by decide), if_neg (show ¬ nI 11 = 7 by decide), if_neg (show ¬ nI 11 = 8 by decide), if_neg (show ¬ nI 11 = 9 by decide), if_neg (show ¬ nI 11 = 10 by decide), if_pos (show nI 11 = 11 from rfl)]
    unfold f_X8_gapsOf
    rw [e2, hR.D]
    rfl

theorem t_writer12 (hO : Ok (g 1)) (hR : RS gS gL (g 1)) (hu : u < tn (g 1 4)) (a1 : f_X12_isWriter g (nI u) = some 1) (b1 : f_X12_isIn (nI 12) 0 13 = some 1) (a2 : f_X11_needWriter gP gS (nI u) = some (.inr ())) (gH gC : Pic) : ∃ v p, f_X12_writer g (nI u) (nI 12) = some (v, pu g 0 0 0) ∧ f_X11_writer gP gS gH gC (nI u) (nI 12) = some (.inr (v, p)) := by
  have u5 := hO.u5 hu
  obtain ⟨v, gH2, e1, e2⟩ := e_true (g := pu g 0 0 0) hO hR hu gC gH
  refine ⟨v, (gH2, gC), ?_, ?_⟩
  · unfold f_X12_writer
    rw [a1]
    simp only [bd_s, bd2_s, bd3_s, bd4_s, bd5_s, bd6_s, bd7_s, lr_l, lr_r, nm_s, jn_s, gdb_0, gdb_1, pz_v, if_true, if_false, eq_self, i10, i01, i20, l10, l00, l20, b1]
    rw [if_pos (show (4 : Int32) ≤ nI 12 by decide), if_neg (show ¬ nI 12 = 4 by decide), if_neg (show ¬ nI 12 = 5 by decide), if_neg (show ¬ nI 12 = 6 by decide), if_pos (show (9 : Int32) ≤ nI 12 by decide), if_neg (show ¬ nI 12 = 9 by decide), if_neg (show ¬ nI 12 = 10 by decide), if_neg (show ¬ nI 12 = 11 by decide), if_pos (show nI 12 = 12 by decide)]
    rw [e1]
    rfl
  · unfold f_X11_writer
    rw [a2]
    simp only [bd_s, bd2_s, bd3_s, bd4_s, bd5_s, bd6_s, bd7_s, lr_l, lr_r, nm_s, jn_s, gdb_0, gdb_1, pz_v, if_true, if_false, eq_self, i10, i01, i20, l10, l00, l20]
    rw [if_neg (show ¬ nI 12 = 0 by decide), if_neg (show ¬ nI 12 = 1 by decide), if_neg (show ¬ nI 12 = 2 by decide), if_neg (show ¬ nI 12 = 3 by decide), if_neg (show ¬ nI 12 = 4 by decide), if_neg (show ¬ nI 12 = 5 by decide), if_neg (show ¬ nI 12 = 6 by decide), if_neg (show ¬ nI 12 = 7 by decide), if_neg (show ¬ nI 12 = 8 by decide), if_neg (show ¬ nI 12 = 9 by decide), if_neg (show ¬ nI 12 = 10 by decide), if_neg (show ¬ nI 12 = 11 by decide), if_pos (show nI 12 = 12 from rfl)]
    rw [e2]
    rfl

theorem t_writer13 (hO : Ok (g 1)) (hR : RS gS gL (g 1)) (hu : u < tn (g 1 4)) (a1 : f_X12_isWriter g (nI u) = some 1) (b1 : f_X12_isIn (nI 13) 0 13 = some 1) (a2 : f_X11_needWriter gP gS (nI u) = some (.inr ())) (gH gC : Pic) : ∃ v p, f_X12_writer g (nI u) (nI 13) = some (v, pu g 0 0 0) ∧ f_X11_writer gP gS gH gC (nI u) (nI 13) = some (.inr (v, p)) := by
  have u5 := hO.u5 hu
  obtain ⟨v, -, e1, e2⟩ := e_paged (g := pu g 0 0 0) hO hR hu 1
  obtain ⟨n, n100, f1, f2⟩ := e_pagedAll (g := pu g 0 0 0) hO hR 1
  by_cases z : n = 0
  · subst z
    refine ⟨0, (gH, gC), ?_, ?_⟩
    · unfold f_X12_writer
      rw [a1]
      simp only [bd_s, bd2_s, bd3_s, bd4_s, bd5_s, bd6_s, bd7_s, lr_l, lr_r, nm_s, jn_s, gdb_0, gdb_1, pz_v, if_true, if_false, eq_self, i10, i01, i20, l10, l00, l20, b1]
      rw [if_pos (show (4 : Int32) ≤ nI 13 by decide), if_neg (show ¬ nI 13 = 4 by decide), if_neg (show ¬ nI 13 = 5 by decide), if_neg (show ¬ nI 13 = 6 by decide), if_pos (show (9 : Int32) ≤ nI 13 by decide), if_neg (show ¬ nI 13 = 9 by decide), if_neg (show ¬ nI 13 = 10 by decide), if_neg (show ¬ nI 13 = 11 by decide), if_neg (show ¬ nI 13 = 12 by decide)]
      rw [f1, bd_s, if_pos (show nI 0 = 0 from rfl)]
    · unfold f_X11_writer
      rw [a2]
      simp only [bd_s, bd2_s, bd3_s, bd4_s, bd5_s, bd6_s, bd7_s, lr_l, lr_r, nm_s, jn_s, gdb_0, gdb_1, pz_v, if_true, if_false, eq_self, i10, i01, i20, l10, l00, l20]
      rw [if_neg (show ¬ nI 13 = 0 by decide), if_neg (show ¬ nI 13 = 1 by decide), if_neg (show ¬ nI 13 = 2 by decide), if_neg (show ¬ nI 13 = 3 by decide), if_neg (show ¬ nI 13 = 4 by decide), if_neg (show ¬ nI 13 = 5 by decide), if_neg (show ¬ nI 13 = 6 by decide), if_neg (show ¬ nI 13 = 7 by decide), if_neg (show ¬ nI 13 = 8 by decide), if_neg (show ¬ nI 13 = 9 by decide), if_neg (show ¬ nI 13 = 10 by decide), if_neg (show ¬ nI 13 = 11 by decide), if_neg (show ¬ nI 13 = 12 by decide), if_pos (show nI 13 = 13 from rfl)]
      unfold f_X8_shareOf
      simp only [jn_s]
      rw [f2, bd_s, if_pos (show nI 0 = 0 from rfl)]
      rfl
  have nz : ¬ nI n = 0 := fun q => z ((nI_eq (b := 0) (by omega) (by omega)).mp q)
  refine ⟨100 * nI v / nI n, (gH, gC), ?_, ?_⟩
  · unfold f_X12_writer
    rw [a1]
    simp only [bd_s, bd2_s, bd3_s, bd4_s, bd5_s, bd6_s, bd7_s, lr_l, lr_r, nm_s, jn_s, gdb_0, gdb_1, pz_v, if_true, if_false, eq_self, i10, i01, i20, l10, l00, l20, b1]
    rw [if_pos (show (4 : Int32) ≤ nI 13 by decide), if_neg (show ¬ nI 13 = 4 by decide), if_neg (show ¬ nI 13 = 5 by decide), if_neg (show ¬ nI 13 = 6 by decide), if_pos (show (9 : Int32) ≤ nI 13 by decide), if_neg (show ¬ nI 13 = 9 by decide), if_neg (show ¬ nI 13 = 10 by decide), if_neg (show ¬ nI 13 = 11 by decide), if_neg (show ¬ nI 13 = 12 by decide)]
    rw [f1, bd_s, if_neg nz, e1, bd_s, bd_s, gdz_n (by omega) (by omega)]
  · unfold f_X11_writer
    rw [a2]
    simp only [bd_s, bd2_s, bd3_s, bd4_s, bd5_s, bd6_s, bd7_s, lr_l, lr_r, nm_s, jn_s, gdb_0, gdb_1, pz_v, if_true, if_false, eq_self, i10, i01, i20, l10, l00, l20]
    rw [if_neg (show ¬ nI 13 = 0 by decide), if_neg (show ¬ nI 13 = 1 by decide), if_neg (show ¬ nI 13 = 2 by decide), if_neg (show ¬ nI 13 = 3 by decide), if_neg (show ¬ nI 13 = 4 by decide), if_neg (show ¬ nI 13 = 5 by decide), if_neg (show ¬ nI 13 = 6 by decide), if_neg (show ¬ nI 13 = 7 by decide), if_neg (show ¬ nI 13 = 8 by decide), if_neg (show ¬ nI 13 = 9 by decide), if_neg (show ¬ nI 13 = 10 by decide), if_neg (show ¬ nI 13 = 11 by decide), if_neg (show ¬ nI 13 = 12 by decide), if_pos (show nI 13 = 13 from rfl)]
    unfold f_X8_shareOf
    simp only [jn_s]
    rw [f2, bd_s, if_neg nz, e2, bd_s, gdz_n (by omega) (by omega), bd_s, Int32.mul_comm]

theorem t_writer (hO : Ok (g 1)) (hR : RS gS gL (g 1)) (gP gH gC : Pic) (x1 x2 : Int32) : ∃ v g' res, f_X12_writer g x1 x2 = some (v, g') ∧ f_X11_writer gP gS gH gC x1 x2 = some res ∧ Er g g' ∧ An [0, 2] (fun k => if k = 0 then 1 else 2) res v (g' 0 0) := by
  rcases e_wNum hO hR gP x1 x2 with ⟨u, j, hu, j13, rfl, rfl, a1, b1, a2⟩ | ⟨u, hu, rfl, a1, b1, a2, nx⟩ | ⟨a1, a2⟩
  · suffices h : ∃ v p, f_X12_writer g (nI u) (nI j) = some (v, pu g 0 0 0) ∧ f_X11_writer gP gS gH gC (nI u) (nI j) = some (.inr (v, p)) by
      obtain ⟨v, p, h1, h2⟩ := h
      exact ⟨v, pu g 0 0 0, .inr (v, p), h1, h2, Er.z g 0, Or.inl ⟨p, rfl, rfl⟩⟩
    obtain rfl | rfl | rfl | rfl | rfl | rfl | rfl | rfl | rfl | rfl | rfl | rfl | rfl | rfl : j = 0 ∨ j = 1 ∨ j = 2 ∨ j = 3 ∨ j = 4 ∨ j = 5 ∨ j = 6 ∨ j = 7 ∨ j = 8 ∨ j = 9 ∨ j = 10 ∨ j = 11 ∨ j = 12 ∨ j = 13 := by omega
    · exact t_writer0 hO hR hu a1 b1 a2 gH gC
    · exact t_writer1 hO hR hu a1 b1 a2 gH gC
    · exact t_writer2 hO hR hu a1 b1 a2 gH gC
    · exact t_writer3 hO hR hu a1 b1 a2 gH gC
    · exact t_writer4 hO hR hu a1 b1 a2 gH gC
    · exact t_writer5 hO hR hu a1 b1 a2 gH gC
    · exact t_writer6 hO hR hu a1 b1 a2 gH gC
    · exact t_writer7 hO hR hu a1 b1 a2 gH gC
    · exact t_writer8 hO hR hu a1 b1 a2 gH gC
    · exact t_writer9 hO hR hu a1 b1 a2 gH gC
    · exact t_writer10 hO hR hu a1 b1 a2 gH gC
    · exact t_writer11 hO hR hu a1 b1 a2 gH gC
    · exact t_writer12 hO hR hu a1 b1 a2 gH gC
    · exact t_writer13 hO hR hu a1 b1 a2 gH gC
  · refine ⟨0, pu g 0 0 2, .inl (2, (gH, gC)), ?_, ?_, Er.z g 2, Or.inr ⟨2, _, rfl, by decide, rfl⟩⟩
    · unfold f_X12_writer; rw [a1]; simp only [bd_s, bd2_s, bd3_s, bd4_s, bd5_s, bd6_s, bd7_s, lr_l, lr_r, nm_s, jn_s, gdb_0, gdb_1, pz_v, if_true, if_false, eq_self, i10, i01, i20, l10, l00, l20, b1]
    · unfold f_X11_writer
      rw [a2]
      simp only [bd_s, bd2_s, bd3_s, bd4_s, bd5_s, bd6_s, bd7_s, lr_l, lr_r, nm_s, jn_s, gdb_0, gdb_1, pz_v, if_true, if_false, eq_self, i10, i01, i20, l10, l00, l20]
      rw [if_neg (show ¬ x2 = 0 from nx 0 (by omega)), if_neg (show ¬ x2 = 1 from nx 1 (by omega)), if_neg (show ¬ x2 = 2 from nx 2 (by omega)), if_neg (show ¬ x2 = 3 from nx 3 (by omega)), if_neg (show ¬ x2 = 4 from nx 4 (by omega)), if_neg (show ¬ x2 = 5 from nx 5 (by omega)), if_neg (show ¬ x2 = 6 from nx 6 (by omega)), if_neg (show ¬ x2 = 7 from nx 7 (by omega)), if_neg (show ¬ x2 = 8 from nx 8 (by omega)), if_neg (show ¬ x2 = 9 from nx 9 (by omega)), if_neg (show ¬ x2 = 10 from nx 10 (by omega)), if_neg (show ¬ x2 = 11 from nx 11 (by omega)), if_neg (show ¬ x2 = 12 from nx 12 (by omega)), if_neg (show ¬ x2 = 13 from nx 13 (by omega))]
  · refine ⟨0, pu g 0 0 1, .inl (0, (gH, gC)), ?_, ?_, Er.z g 1, Or.inr ⟨0, _, rfl, by decide, rfl⟩⟩
    · unfold f_X12_writer; rw [a1]; simp only [bd_s, bd2_s, bd3_s, bd4_s, bd5_s, bd6_s, bd7_s, lr_l, lr_r, nm_s, jn_s, gdb_0, gdb_1, pz_v, if_true, if_false, eq_self, i10, i01, i20, l10, l00, l20]
    · unfold f_X11_writer; rw [a2]; simp only [bd_s, bd2_s, bd3_s, bd4_s, bd5_s, bd6_s, bd7_s, lr_l, lr_r, nm_s, jn_s, gdb_0, gdb_1, pz_v, if_true, if_false, eq_self, i10, i01, i20, l10, l00, l20]
end K60
