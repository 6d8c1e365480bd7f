/-! the calls one by one: those that only tell -/
theorem pz_v (g : Pic) (v : Int32) : (pu g 0 0 v) 0 0 = v := rfl
theorem i20 : ((2 : Int32) = 0) = False := by decide
theorem l20 : ((2 : Int32) ≤ 0) = False := by decide
theorem in_1 {W j : Nat} (h : W < 2 ^ 31) (hj : j < W) : f_X12_isIn (nI j) 0 (nI W - 1) = some 1 := by rw [q_isIn, if_pos ⟨nI_pos' (by omega), pred_in h hj⟩]
theorem in_0 {W : Nat} {x : Int32} (h : W < 2 ^ 31) (hx : x < 0 ∨ ¬ x < nI W) : f_X12_isIn x 0 (nI W - 1) = some 0 := by rw [q_isIn, if_neg (pred_out h hx)]
section K57
variable {m : Nat → Int32} {g gP gS gL gH gX gC : Pic}
theorem t_fault (h : gP 14 0 = g 12 0) : f_X12_fault g = some (g 12 0, pu g 0 0 0) ∧ f_X11_fault gP = some (g 12 0) := ⟨rfl, by unfold f_X11_fault; rw [h]⟩
theorem k_letterN (hO : Ok m) (hR : RS gS gL m) {w : Nat} (hw : w < tn (m 3)) {x : Int32} (hx : x < 0 ∨ ¬ x < wd m w 6) : f_X9_letterAt gS (nI w) x = some (-1) := by
  have w8 := hO.w8 hw
  unfold f_X9_letterAt
  simp only [jn_s]
  by_cases c : x < 0
  · rw [if_pos c]
  · rw [if_neg c, gdi_n w8 (by omega), nI_clamp (by omega), hR.len hw, if_neg (hx.resolve_left c)]
theorem t_letter (hO : Ok (g 1)) (hR : RS gS gL (g 1)) (gP : Pic) (x1 x2 : Int32) : ∃ v g' res, f_X12_letter g x1 x2 = some (v, g') ∧ f_X11_letter gP gS x1 x2 = some res ∧ Er g g' ∧ An [0] (fun _ => 1) res v (g' 0 0) := by
  rcases e_word (gP := gP) hO hR x1 with ⟨w, hw, rfl, a1, a2⟩ | ⟨a1, a2⟩
  · have w8 := hO.w8 hw
    obtain ⟨L, hL, tL, l1, l6⟩ := (hO.len hw).ex
    have q6 : f_X12_ofWord (pu g 0 0 0) (nI w) 6 = some (nI L) := (q_ofWord (g := pu g 0 0 0) w8 (by omega : 6 < 8)).trans (by rw [← hL]; rfl)
    rcases below (x := x2) (W := L) (by omega) with ⟨j, h1, rfl⟩ | q
    · have qj : f_X12_ofWord (pu g 0 0 0) (nI w) (nI j) = some (wd (g 1) w j) := q_ofWord (g := pu g 0 0 0) w8 (by omega)
      refine ⟨wd (g 1) w j, pu g 0 0 0, .inr (wd (g 1) w j, ()), ?_, ?_, Er.z g 0, Or.inl ⟨(), rfl, rfl⟩⟩
      · unfold f_X12_letter
        rw [a1]
        simp only [bd_s, bd2_s, bd3_s, bd4_s, bd5_s, bd6_s, bd7_s, lr_l, lr_r, nm_s, jn_s, gdb_0, gdb_1, pz_v, if_true, if_false, eq_self, i10, i01, i20, l10, l00, l20, q6, in_1 (show L < 2 ^ 31 by omega) h1, qj]
      · unfold f_X11_letter
        rw [a2]
        simp only [bd_s, bd2_s, bd3_s, bd4_s, bd5_s, bd6_s, bd7_s, lr_l, lr_r, nm_s, jn_s, gdb_0, gdb_1, pz_v, if_true, if_false, eq_self, i10, i01, i20, l10, l00, l20, k_letter hO hR hw (show j < 6 by omega)]
    · refine ⟨-1, pu g 0 0 0, .inr (-1, ()), ?_, ?_, Er.z g 0, Or.inl ⟨(), rfl, rfl⟩⟩
      · unfold f_X12_letter
        rw [a1]
        simp only [bd_s, bd2_s, bd3_s, bd4_s, bd5_s, bd6_s, bd7_s, lr_l, lr_r, nm_s, jn_s, gdb_0, gdb_1, pz_v, if_true, if_false, eq_self, i10, i01, i20, l10, l00, l20, q6, in_0 (show L < 2 ^ 31 by omega) q]
      · unfold f_X11_letter
        rw [a2]
        simp only [bd_s, bd2_s, bd3_s, bd4_s, bd5_s, bd6_s, bd7_s, lr_l, lr_r, nm_s, jn_s, gdb_0, gdb_1, pz_v, if_true, if_false, eq_self, i10, i01, i20, l10, l00, l20, k_letterN hO hR hw (show x2 < 0 ∨ ¬ x2 < wd (g 1) w 6 by rw [hL]; exact q)]
  · refine ⟨0, pu g 0 0 1, .inl (0, ()), ?_, ?_, Er.z g 1, Or.inr ⟨0, (), rfl, by decide, rfl⟩⟩
    · unfold f_X12_letter; rw [a1]; simp only [bd_s, bd2_s, bd3_s, bd4_s, bd5_s, bd6_s, bd7_s, lr_l, lr_r, nm_s, jn_s, gdb_0, gdb_1, pz_v, if_true, if_false, eq_self, i10, i01, i20, l10, l00, l20]
    · unfold f_X11_letter; rw [a2]; simp only [bd_s, bd2_s, bd3_s, bd4_s, bd5_s, bd6_s, bd7_s, lr_l, lr_r, nm_s, jn_s, gdb_0, gdb_1, pz_v, if_true, if_false, eq_self, i10, i01, i20, l10, l00, l20]
theorem t_word (hO : Ok (g 1)) (hR : RS gS gL (g 1)) (gP gX : Pic) (x1 x2 : Int32) : ∃ v g' res, f_X12_word g x1 x2 = some (v, g') ∧ f_X11_word gP gS gX x1 x2 = some res ∧ Er g g' ∧ An [0, 2] (fun k => if k = 0 then 1 else 2) res v (g' 0 0) := by
  rcases e_word (gP := gP) hO hR x1 with ⟨w, hw, rfl, a1, a2⟩ | ⟨a1, a2⟩
  · have w8 := hO.w8 hw
    rcases e_num (gP := gP) x2 (lo := 0) (hi := 3) (by omega) (by omega) with ⟨j, j0, j3, rfl, b1, -⟩ | ⟨b1, b2⟩
    · have b1 : f_X12_isIn (nI j) 0 3 = some 1 := b1
      obtain rfl | rfl | rfl | rfl : j = 0 ∨ j = 1 ∨ j = 2 ∨ j = 3 := by omega
      · refine ⟨wd (g 1) w 6, pu g 0 0 0, .inr (wd (g 1) w 6, gX), ?_, ?_, Er.z g 0, Or.inl ⟨gX, rfl, rfl⟩⟩
        · unfold f_X12_word
          rw [a1]
          simp only [bd_s, bd2_s, bd3_s, bd4_s, bd5_s, bd6_s, bd7_s, lr_l, lr_r, nm_s, jn_s, gdb_0, gdb_1, pz_v, if_true, if_false, eq_self, i10, i01, i20, l10, l00, l20, b1]
          rw [if_neg (by decide), show f_X12_ofWord (pu g 0 0 0) (nI w) (6 + nI 0) = some (wd (g 1) w 6) from q_ofWord (g := pu g 0 0 0) w8 (by omega : 6 < 8)]
          rfl
        · unfold f_X11_word
          rw [a2]
          simp only [bd_s, bd2_s, bd3_s, bd4_s, bd5_s, bd6_s, bd7_s, lr_l, lr_r, nm_s, jn_s, gdb_0, gdb_1, pz_v, if_true, if_false, eq_self, i10, i01, i20, l10, l00, l20]
          rw [if_pos (show nI 0 = 0 from rfl), gdi_n w8 (by omega), nI_clamp (by omega), hR.len hw]
      · refine ⟨wd (g 1) w 7, pu g 0 0 0, .inr (wd (g 1) w 7, gX), ?_, ?_, Er.z g 0, Or.inl ⟨gX, rfl, rfl⟩⟩
        · unfold f_X12_word
          rw [a1]
          simp only [bd_s, bd2_s, bd3_s, bd4_s, bd5_s, bd6_s, bd7_s, lr_l, lr_r, nm_s, jn_s, gdb_0, gdb_1, pz_v, if_true, if_false, eq_self, i10, i01, i20, l10, l00, l20, b1]
          rw [if_neg (by decide), show f_X12_ofWord (pu g 0 0 0) (nI w) (6 + nI 1) = some (wd (g 1) w 7) from q_ofWord (g := pu g 0 0 0) w8 (by omega : 7 < 8)]
          rfl
        · unfold f_X11_word
          rw [a2]
          simp only [bd_s, bd2_s, bd3_s, bd4_s, bd5_s, bd6_s, bd7_s, lr_l, lr_r, nm_s, jn_s, gdb_0, gdb_1, pz_v, if_true, if_false, eq_self, i10, i01, i20, l10, l00, l20]
          rw [if_neg (show ¬ nI 1 = 0 by decide), if_pos (show nI 1 = 1 from rfl), gdi_n w8 (by omega), nI_clamp (by omega), hR.often hw]
      · obtain ⟨v, g', h', c1, c2, c3⟩ := e_length (g := pu g 0 0 0) rfl hO hR hw gX
        refine ⟨v, g', .inr (v, h'), ?_, ?_, (Er.z g 0).tr c2.er, Or.inl ⟨h', rfl, by rw [c2.z]; rfl⟩⟩
        · unfold f_X12_word
          rw [a1]
          simp only [bd_s, bd2_s, bd3_s, bd4_s, bd5_s, bd6_s, bd7_s, lr_l, lr_r, nm_s, jn_s, gdb_0, gdb_1, pz_v, if_true, if_false, eq_self, i10, i01, i20, l10, l00, l20, b1]
          rw [if_pos (by decide), if_pos (show nI 2 = 2 from rfl), c1]
          rfl
        · unfold f_X11_word
          rw [a2]
          simp only [bd_s, bd2_s, bd3_s, bd4_s, bd5_s, bd6_s, bd7_s, lr_l, lr_r, nm_s, jn_s, gdb_0, gdb_1, pz_v, if_true, if_false, eq_self, i10, i01, i20, l10, l00, l20]
          rw [if_neg (show ¬ nI 2 = 0 by decide), if_neg (show ¬ nI 2 = 1 by decide), if_pos (show nI 2 = 2 from rfl), c3]
          rfl
      · obtain ⟨v, g', h', c1, c2, c3⟩ := e_closest (g := pu g 0 0 0) rfl hO hR hw gX
        refine ⟨v, g', .inr (v, h'), ?_, ?_, (Er.z g 0).tr c2.er, Or.inl ⟨h', rfl, by rw [c2.z]; rfl⟩⟩
        · unfold f_X12_word
          rw [a1]
          simp only [bd_s, bd2_s, bd3_s, bd4_s, bd5_s, bd6_s, bd7_s, lr_l, lr_r, nm_s, jn_s, gdb_0, gdb_1, pz_v, if_true, if_false, eq_self, i10, i01, i20, l10, l00, l20, b1]
          rw [if_pos (by decide), if_neg (show ¬ nI 3 = 2 by decide), c1]
          rfl
        · unfold f_X11_word
          rw [a2]
          simp only [bd_s, bd2_s, bd3_s, bd4_s, bd5_s, bd6_s, bd7_s, lr_l, lr_r, nm_s, jn_s, gdb_0, gdb_1, pz_v, if_true, if_false, eq_self, i10, i01, i20, l10, l00, l20]
          rw [if_neg (show ¬ nI 3 = 0 by decide), if_neg (show ¬ nI 3 = 1 by decide), if_neg (show ¬ nI 3 = 2 by decide), if_pos (show nI 3 = 3 from rfl), c3]
          rfl
    · have b1 : f_X12_isIn x2 0 3 = some 0 := b1
      have nx : ∀ j, j ≤ 3 → ¬ x2 = nI j := fun j hj e => by
        rw [e, q_isIn, if_pos ⟨nI_pos' (by omega), nI_le (b := 3) hj (by omega)⟩] at b1
        exact absurd (Option.some.inj b1) (by decide)
      refine ⟨0, pu g 0 0 2, .inl (2, gX), ?_, ?_, Er.z g 2, Or.inr ⟨2, gX, rfl, by decide, rfl⟩⟩
      · unfold f_X12_word; rw [a1]; simp only [bd_s, bd2_s, bd3_s, bd4_s, bd5_s, bd6_s, bd7_s, lr_l, lr_r, nm_s, jn_s, gdb_0, gdb_1, pz_v, if_true, if_false, eq_self, i10, i01, i20, l10, l00, l20, b1]
      · unfold f_X11_word
        rw [a2]
        simp only [bd_s, bd2_s, bd3_s, bd4_s, bd5_s, bd6_s, bd7_s, lr_l, lr_r, nm_s, jn_s, gdb_0, gdb_1, pz_v, if_true, if_false, eq_self, i10, i01, i20, l10, l00, l20]
        rw [if_neg (show ¬ x2 = 0 from nx 0 (by omega)), if_neg (show ¬ x2 = 1 from nx 1 (by omega)), if_neg (show ¬ x2 = 2 from nx 2 (by omega)), if_neg (show ¬ x2 = 3 from nx 3 (by omega))]
  · refine ⟨0, pu g 0 0 1, .inl (0, gX), ?_, ?_, Er.z g 1, Or.inr ⟨0, gX, rfl, by decide, rfl⟩⟩
    · unfold f_X12_word; rw [a1]; simp only [bd_s, bd2_s, bd3_s, bd4_s, bd5_s, bd6_s, bd7_s, lr_l, lr_r, nm_s, jn_s, gdb_0, gdb_1, pz_v, if_true, if_false, eq_self, i10, i01, i20, l10, l00, l20]
    · unfold f_X11_word; rw [a2]; simp only [bd_s, bd2_s, bd3_s, bd4_s, bd5_s, bd6_s, bd7_s, lr_l, lr_r, nm_s, jn_s, gdb_0, gdb_1, pz_v, if_true, if_false, eq_self, i10, i01, i20, l10, l00, l20]
theorem t_speech (hO : Ok (g 1)) (hR : RS gS gL (g 1)) (gP : Pic) (x1 : Int32) : ∃ v g', f_X12_speech g x1 = some (v, g') ∧ f_X11_speech gP gS x1 = some v ∧ Er g g' := by
  obtain ⟨S, hS, tS, -, s20⟩ := hO.S.ex
  have p5 : (pu g 0 0 0) 1 5 = nI S := hS
  rcases below (x := x1) (W := S) (by omega) with ⟨j, h1, rfl⟩ | q
  · refine ⟨g 1 (76 + j), pu g 0 0 0, ?_, ?_, Er.z g 0⟩
    · unfold f_X12_speech
      simp only [bd_s, bd2_s, bd3_s, bd4_s, bd5_s, bd6_s, bd7_s, lr_l, lr_r, nm_s, jn_s, gdb_0, gdb_1, pz_v, if_true, if_false, eq_self, i10, i01, i20, l10, l00, l20, p5, in_1 (show S < 2 ^ 31 by omega) h1]
      rw [show (76 : Int32) + nI j = nI (76 + j) from nI_add 76 j, gdi_n (by omega) (by omega), nI_clamp (by omega)]
      rfl
    · unfold f_X11_speech
      simp only [jn_s]
      rw [if_neg (nI_pos (by omega)), hR.S, hS, if_pos (nI_lt h1 (by omega)), gdi_n (by omega) (by omega), nI_clamp (by omega), hR.sp (by omega)]
  · refine ⟨-1, pu g 0 0 0, ?_, ?_, Er.z g 0⟩
    · unfold f_X12_speech
      simp only [bd_s, bd2_s, bd3_s, bd4_s, bd5_s, bd6_s, bd7_s, lr_l, lr_r, nm_s, jn_s, gdb_0, gdb_1, pz_v, if_true, if_false, eq_self, i10, i01, i20, l10, l00, l20, p5, in_0 (show S < 2 ^ 31 by omega) q]
    · unfold f_X11_speech
      simp only [jn_s]
      by_cases c : x1 < 0
      · rw [if_pos c]
      · rw [if_neg c, hR.S, hS, if_neg (q.resolve_left c)]
theorem t_page (hO : Ok (g 1)) (hR : RS gS gL (g 1)) (gP : Pic) (x1 x2 : Int32) : ∃ v g' res, f_X12_page g x1 x2 = some (v, g') ∧ f_X11_page gP gS x1 x2 = some res ∧ Er g g' ∧ An [0] (fun _ => 1) res v (g' 0 0) := by
  rcases e_writer (gP := gP) hO hR x1 with ⟨u, hu, rfl, a1, a2⟩ | ⟨a1, a2⟩
  · have u5 := hO.u5 hu
    obtain ⟨S, hS, tS, -, s20⟩ := hO.S.ex
    obtain ⟨D, hD, tD, -, d20⟩ := hO.D.ex
    have p6 : (pu g 0 0 0) 1 6 = nI D := hD
    rcases below (x := x2) (W := D) (by omega) with ⟨j, h1, rfl⟩ | q
    · refine ⟨pg (g 1) u j, pu g 0 0 0, .inr (pg (g 1) u j, ()), ?_, ?_, Er.z g 0, Or.inl ⟨(), rfl, rfl⟩⟩
      · unfold f_X12_page
        rw [a1]
        simp only [bd_s, bd2_s, bd3_s, bd4_s, bd5_s, bd6_s, bd7_s, lr_l, lr_r, nm_s, jn_s, gdb_0, gdb_1, pz_v, if_true, if_false, eq_self, i10, i01, i20, l10, l00, l20, p6, in_1 (show D < 2 ^ 31 by omega) h1]
        rw [show f_X12_onPage (pu g 0 0 0) (nI u) (nI j) = some (pg (g 1) u j) from q_onPage (g := pu g 0 0 0) u5 (by omega)]
        rfl
      · unfold f_X11_page
        rw [a2]
        simp only [bd_s, bd2_s, bd3_s, bd4_s, bd5_s, bd6_s, bd7_s, lr_l, lr_r, nm_s, jn_s, gdb_0, gdb_1, pz_v, if_true, if_false, eq_self, i10, i01, i20, l10, l00, l20]
        rw [if_neg (nI_pos (by omega)), hR.D, hD, if_pos (nI_lt h1 (by omega)), k_onPage hO hR hu (by omega)]
        rfl
    · refine ⟨-1, pu g 0 0 0, .inr (-1, ()), ?_, ?_, Er.z g 0, Or.inl ⟨(), rfl, rfl⟩⟩
      · unfold f_X12_page
        rw [a1]
        simp only [bd_s, bd2_s, bd3_s, bd4_s, bd5_s, bd6_s, bd7_s, lr_l, lr_r, nm_s, jn_s, gdb_0, gdb_1, pz_v, if_true, if_false, eq_self, i10, i01, i20, l10, l00, l20, p6, in_0 (show D < 2 ^ 31 by omega) q]
      · unfold f_X11_page
        rw [a2]
        simp only [bd_s, bd2_s, bd3_s, bd4_s, bd5_s, bd6_s, bd7_s, lr_l, lr_r, nm_s, jn_s, gdb_0, gdb_1, pz_v, if_true, if_false, eq_self, i10, i01, i20, l10, l00, l20]
        by_cases c : x2 < 0
        · rw [if_pos c]
        · rw [if_neg c, hR.D, hD, if_neg (q.resolve_left c)]
  · refine ⟨0, pu g 0 0 1, .inl (0, ()), ?_, ?_, Er.z g 1, Or.inr ⟨0, (), rfl, by decide, rfl⟩⟩
    · unfold f_X12_page; rw [a1]; simp only [bd_s, bd2_s, bd3_s, bd4_s, bd5_s, bd6_s, bd7_s, lr_l, lr_r, nm_s, jn_s, gdb_0, gdb_1, pz_v, if_true, if_false, eq_self, i10, i01, i20, l10, l00, l20]
    · unfold f_X11_page; rw [a2]; simp only [bd_s, bd2_s, bd3_s, bd4_s, bd5_s, bd6_s, bd7_s, lr_l, lr_r, nm_s, jn_s, gdb_0, gdb_1, pz_v, if_true, if_false, eq_self, i10, i01, i20, l10, l00, l20]
end K57
