/-! more that only tells -/
section K61
variable {m : Nat → Int32} {g gP gS gL gH gX gC : Pic} {u w : Nat}
theorem t_keep (hO : Ok (g 1)) (hR : RS gS gL (g 1)) (gP gH : Pic) : ∃ v g' h, f_X12_keep g = some (v, g') ∧ f_X11_keep gP gS gH = some (v, h) ∧ Er g g' := by
  obtain ⟨v, h, a, b⟩ := e_keep (g := pu g 0 0 0) rfl hO hR gP gH
  exact ⟨v, pu g 0 0 0, h, by unfold f_X12_keep; rw [nm_s, a]; rfl, b, Er.z g 0⟩
theorem t_leaves (hO : Ok (g 1)) (hR : RS gS gL (g 1)) (gP gH : Pic) (x1 x2 : Int32) : ∃ v g' res, f_X12_leaves g x1 x2 = some (v, g') ∧ f_X11_leaves gP gS gH x1 x2 = some res ∧ Er g g' ∧ An [1] (fun _ => 1) res v (g' 0 0) := by
  rcases e_num (gP := gP) x1 (lo := 0) (hi := 999) (by omega) (by omega) with ⟨n, -, n4, rfl, c1, c2⟩ | ⟨c1, c2⟩
  · have c1 : f_X12_isIn (nI n) 0 999 = some 1 := c1
    have c2 : f_X11_needNumber gP (nI n) 0 999 = some (.inr ()) := c2
    obtain ⟨v, w, h, a, b⟩ := e_leaves (g := pu g 0 0 0) rfl hO hR gP gH (nI n) x2
    by_cases z : x2 = 0
    · refine ⟨v, pu g 0 0 0, .inr (v, h), ?_, ?_, Er.z g 0, Or.inl ⟨h, rfl, rfl⟩⟩
      · unfold f_X12_leaves; simp only [bd_s, bd2_s, bd3_s, bd4_s, bd5_s, bd6_s, bd7_s, lr_l, lr_r, nm_s, jn_s, gdb_0, gdb_1, pz_v, if_true, if_false, eq_self, i10, i01, i20, l10, l00, l20, c1]; rw [a, bd_s]; simp only [bd_s, bd2_s, bd3_s, bd4_s, bd5_s, bd6_s, bd7_s, lr_l, lr_r, nm_s, jn_s, gdb_0, gdb_1, pz_v, if_true, if_false, eq_self, i10, i01, i20, l10, l00, l20, z]
      · unfold f_X11_leaves; rw [c2]; simp only [bd_s, bd2_s, bd3_s, bd4_s, bd5_s, bd6_s, bd7_s, lr_l, lr_r, nm_s, jn_s, gdb_0, gdb_1, pz_v, if_true, if_false, eq_self, i10, i01, i20, l10, l00, l20]; rw [b, bd_s]; simp only [bd_s, bd2_s, bd3_s, bd4_s, bd5_s, bd6_s, bd7_s, lr_l, lr_r, nm_s, jn_s, gdb_0, gdb_1, pz_v, if_true, if_false, eq_self, i10, i01, i20, l10, l00, l20, z]
    · refine ⟨w, pu g 0 0 0, .inr (w, h), ?_, ?_, Er.z g 0, Or.inl ⟨h, rfl, rfl⟩⟩
      · unfold f_X12_leaves; simp only [bd_s, bd2_s, bd3_s, bd4_s, bd5_s, bd6_s, bd7_s, lr_l, lr_r, nm_s, jn_s, gdb_0, gdb_1, pz_v, if_true, if_false, eq_self, i10, i01, i20, l10, l00, l20, c1]; rw [a, bd_s]; simp only [bd_s, bd2_s, bd3_s, bd4_s, bd5_s, bd6_s, bd7_s, lr_l, lr_r, nm_s, jn_s, gdb_0, gdb_1, pz_v, if_true, if_false, eq_self, i10, i01, i20, l10, l00, l20, z]
      · unfold f_X11_leaves; rw [c2]; simp only [bd_s, bd2_s, bd3_s, bd4_s, bd5_s, bd6_s, bd7_s, lr_l, lr_r, nm_s, jn_s, gdb_0, gdb_1, pz_v, if_true, if_false, eq_self, i10, i01, i20, l10, l00, l20]; rw [b, bd_s]; simp only [bd_s, bd2_s, bd3_s, bd4_s, bd5_s, bd6_s, bd7_s, lr_l, lr_r, nm_s, jn_s, gdb_0, gdb_1, pz_v, if_true, if_false, eq_self, i10, i01, i20, l10, l00, l20, z]
  · have c1 : f_X12_isIn x1 0 999 = some 0 := c1
    have c2 : f_X11_needNumber gP x1 0 999 = some (.inl (1, ())) := c2
    refine ⟨0, pu g 0 0 1, .inl (1, gH), ?_, ?_, Er.z g 1, Or.inr ⟨1, _, rfl, by decide, rfl⟩⟩
    · unfold f_X12_leaves; simp only [bd_s, bd2_s, bd3_s, bd4_s, bd5_s, bd6_s, bd7_s, lr_l, lr_r, nm_s, jn_s, gdb_0, gdb_1, pz_v, if_true, if_false, eq_self, i10, i01, i20, l10, l00, l20, c1]
    · unfold f_X11_leaves; rw [c2]; simp only [bd_s, bd2_s, bd3_s, bd4_s, bd5_s, bd6_s, bd7_s, lr_l, lr_r, nm_s, jn_s, gdb_0, gdb_1, pz_v, if_true, if_false, eq_self, i10, i01, i20, l10, l00, l20]
theorem t_codes (hO : Ok (g 1)) (hR : RS gS gL (g 1)) (gP gX : Pic) : ∃ v g' h, f_X12_codes g = some (v, g') ∧ f_X11_codes gP gS gX = some (v, h) ∧ Er g g' := by
  obtain ⟨v, g', h, a, b, c⟩ := e_codes (g := g) rfl hO hR gX
  exact ⟨v, g', h, a, by unfold f_X11_codes; rw [c]; rfl, (Er.z g 0).tr b.er⟩
theorem t_fluent (hO : Ok (g 1)) (hR : RS gS gL (g 1)) (gP gH gC : Pic) : ∃ v g' x y, f_X12_fluent g = some (v, g') ∧ f_X11_fluent gP gS gH gC = some (v, x, y) ∧ Er g g' := by
  obtain ⟨v, x, y, a, b⟩ := e_fluent (g := pu g 0 0 0) rfl hO hR gP gH gC
  exact ⟨v, pu g 0 0 0, x, y, by unfold f_X12_fluent; rw [nm_s, a]; rfl, b, Er.z g 0⟩
theorem t_better (hO : Ok (g 1)) (hR : RS gS gL (g 1)) (gP gH gC : Pic) (x1 x2 : Int32) : ∃ v g' res, f_X12_better g x1 x2 = some (v, g') ∧ f_X11_better gP gS gH gC x1 x2 = some res ∧ Er g g' ∧ An [0, 1] (fun k => if k = 0 then 1 else 2) res v (g' 0 0) ∧ (v = 0 ∨ v = 1) := by
  unfold f_X12_better f_X11_better
  rcases e_writer (gP := gP) hO hR x1 with ⟨u, hu, rfl, a1, a2⟩ | ⟨a1, a2⟩
  · rcases e_writer (gP := gP) hO hR x2 with ⟨o, ho, rfl, b1, b2⟩ | ⟨b1, b2⟩
    · rw [a1, a2, b1, b2]
      by_cases z : nI u = nI o
      · refine ⟨0, pu g 0 0 2, .inl (1, gH), ?_, ?_, Er.z g 2, Or.inr ⟨1, _, rfl, by decide, rfl⟩, Or.inl rfl⟩
        · simp only [bd_s, bd2_s, bd3_s, bd4_s, bd5_s, bd6_s, bd7_s, lr_l, lr_r, nm_s, jn_s, gdb_0, gdb_1, pz_v, if_true, if_false, eq_self, i10, i01, i20, l10, l00, l20, z]
        · simp only [bd_s, bd2_s, bd3_s, bd4_s, bd5_s, bd6_s, bd7_s, lr_l, lr_r, nm_s, jn_s, gdb_0, gdb_1, pz_v, if_true, if_false, eq_self, i10, i01, i20, l10, l00, l20, z]
      · obtain ⟨v, h1, c1, c2⟩ := e_true (g := pu g 0 0 0) hO hR hu gC gH
        obtain ⟨v', h2, d1, d2⟩ := e_true (g := pu g 0 0 0) hO hR ho gC h1
        by_cases y : v ≤ v'
        · refine ⟨0, pu g 0 0 0, .inr (0, h2), ?_, ?_, Er.z g 0, Or.inl ⟨_, rfl, rfl⟩, Or.inl rfl⟩
          · simp only [bd_s, bd2_s, bd3_s, bd4_s, bd5_s, bd6_s, bd7_s, lr_l, lr_r, nm_s, jn_s, gdb_0, gdb_1, pz_v, if_true, if_false, eq_self, i10, i01, i20, l10, l00, l20, z, c1, d1, y]
          · simp only [bd_s, bd2_s, bd3_s, bd4_s, bd5_s, bd6_s, bd7_s, lr_l, lr_r, nm_s, jn_s, gdb_0, gdb_1, pz_v, if_true, if_false, eq_self, i10, i01, i20, l10, l00, l20, z, c2, d2, y]
        · refine ⟨1, pu g 0 0 0, .inr (1, h2), ?_, ?_, Er.z g 0, Or.inl ⟨_, rfl, rfl⟩, Or.inr rfl⟩
          · simp only [bd_s, bd2_s, bd3_s, bd4_s, bd5_s, bd6_s, bd7_s, lr_l, lr_r, nm_s, jn_s, gdb_0, gdb_1, pz_v, if_true, if_false, eq_self, i10, i01, i20, l10, l00, l20, z, c1, d1, y]
          · simp only [bd_s, bd2_s, bd3_s, bd4_s, bd5_s, bd6_s, bd7_s, lr_l, lr_r, nm_s, jn_s, gdb_0, gdb_1, pz_v, if_true, if_false, eq_self, i10, i01, i20, l10, l00, l20, z, c2, d2, y]
    · rw [a1, a2, b1, b2]
      exact ⟨0, pu g 0 0 1, .inl (0, gH), by simp only [bd_s, bd2_s, bd3_s, bd4_s, bd5_s, bd6_s, bd7_s, lr_l, lr_r, nm_s, jn_s, gdb_0, gdb_1, pz_v, if_true, if_false, eq_self, i10, i01, i20, l10, l00, l20], by simp only [bd_s, bd2_s, bd3_s, bd4_s, bd5_s, bd6_s, bd7_s, lr_l, lr_r, nm_s, jn_s, gdb_0, gdb_1, pz_v, if_true, if_false, eq_self, i10, i01, i20, l10, l00, l20], Er.z g 1, Or.inr ⟨0, _, rfl, by decide, rfl⟩, Or.inl rfl⟩
  · rw [a1, a2]
    exact ⟨0, pu g 0 0 1, .inl (0, gH), by simp only [bd_s, bd2_s, bd3_s, bd4_s, bd5_s, bd6_s, bd7_s, lr_l, lr_r, nm_s, jn_s, gdb_0, gdb_1, pz_v, if_true, if_false, eq_self, i10, i01, i20, l10, l00, l20], by simp only [bd_s, bd2_s, bd3_s, bd4_s, bd5_s, bd6_s, bd7_s, lr_l, lr_r, nm_s, jn_s, gdb_0, gdb_1, pz_v, if_true, if_false, eq_self, i10, i01, i20, l10, l00, l20], Er.z g 1, Or.inr ⟨0, _, rfl, by decide, rfl⟩, Or.inl rfl⟩
theorem e_words (hO : Ok (g 1)) (hR : RS gS gL (g 1)) (gP : Pic) (x1 x2 : Int32) : (∃ u w, u < tn (g 1 3) ∧ w < tn (g 1 3) ∧ x1 = nI u ∧ x2 = nI w ∧ f_X12_areWords g x1 x2 = some (pu g 0 0 0) ∧ f_X11_needWord gP gS x1 = some (.inr ()) ∧ f_X11_needWord gP gS x2 = some (.inr ())) ∨ (f_X12_areWords g x1 x2 = some (pu g 0 0 1) ∧ ∀ {α : Type} (j : Nat × Unit → α) (k : Unit → Option α), lr (f_X11_needWord gP gS x1) j (fun _ => lr (f_X11_needWord gP gS x2) j k) = some (j (0, ()))) := by
  rcases e_word (gP := gP) hO hR x1 with ⟨u, hu, rfl, a1, a2⟩ | ⟨a1, a2⟩
  · rcases e_word (gP := gP) hO hR x2 with ⟨w, hw, rfl, b1, b2⟩ | ⟨b1, b2⟩
    · exact Or.inl ⟨u, w, hu, hw, rfl, rfl, by unfold f_X12_areWords; simp only [bd_s, bd2_s, bd3_s, bd4_s, bd5_s, bd6_s, bd7_s, lr_l, lr_r, nm_s, jn_s, gdb_0, gdb_1, pz_v, if_true, if_false, eq_self, i10, i01, i20, l10, l00, l20, a1, b1], a2, b2⟩
    · exact Or.inr ⟨by unfold f_X12_areWords; simp only [bd_s, bd2_s, bd3_s, bd4_s, bd5_s, bd6_s, bd7_s, lr_l, lr_r, nm_s, jn_s, gdb_0, gdb_1, pz_v, if_true, if_false, eq_self, i10, i01, i20, l10, l00, l20, a1, b1], fun j k => by rw [a2, b2]; rfl⟩
  · exact Or.inr ⟨by unfold f_X12_areWords; simp only [bd_s, bd2_s, bd3_s, bd4_s, bd5_s, bd6_s, bd7_s, lr_l, lr_r, nm_s, jn_s, gdb_0, gdb_1, pz_v, if_true, if_false, eq_self, i10, i01, i20, l10, l00, l20, a1], fun j k => by rw [a2]; rfl⟩
theorem t_change (hO : Ok (g 1)) (hR : RS gS gL (g 1)) (gP gX : Pic) (x1 x2 : Int32) : ∃ v g' res, f_X12_change g x1 x2 = some (v, g') ∧ f_X11_change gP gS gX x1 x2 = some res ∧ Er g g' ∧ An [0] (fun _ => 1) res v (g' 0 0) := by
  rcases e_words hO hR gP x1 x2 with ⟨u, w, hu, hw, rfl, rfl, a1, a2, a3⟩ | ⟨a1, a2⟩
  · obtain ⟨g', b1, b2⟩ := q_change (g := pu g 0 0 0) rfl hO hu hw
    obtain ⟨h, c1⟩ := k_change hO hR hu hw gX
    refine ⟨_, g', .inr (nI (lev (g 1) u w), h), ?_, ?_, (Er.z g 0).tr b2.er, Or.inl ⟨_, rfl, by rw [b2.z]; rfl⟩⟩
    · unfold f_X12_change; rw [a1]; simp only [bd_s, bd2_s, bd3_s, bd4_s, bd5_s, bd6_s, bd7_s, lr_l, lr_r, nm_s, jn_s, gdb_0, gdb_1, pz_v, if_true, if_false, eq_self, i10, i01, i20, l10, l00, l20]; rw [b1]; rfl
    · unfold f_X11_change; rw [a2, a3]; simp only [bd_s, bd2_s, bd3_s, bd4_s, bd5_s, bd6_s, bd7_s, lr_l, lr_r, nm_s, jn_s, gdb_0, gdb_1, pz_v, if_true, if_false, eq_self, i10, i01, i20, l10, l00, l20, c1]
  · refine ⟨0, pu g 0 0 1, .inl (0, gX), ?_, ?_, Er.z g 1, Or.inr ⟨0, _, rfl, by decide, rfl⟩⟩
    · unfold f_X12_change; rw [a1]; simp only [bd_s, bd2_s, bd3_s, bd4_s, bd5_s, bd6_s, bd7_s, lr_l, lr_r, nm_s, jn_s, gdb_0, gdb_1, pz_v, if_true, if_false, eq_self, i10, i01, i20, l10, l00, l20]
    · unfold f_X11_change; rw [a2]
theorem t_chain (hO : Ok (g 1)) (hR : RS gS gL (g 1)) (gP gX : Pic) (x1 x2 : Int32) : ∃ v g' res, f_X12_chain g x1 x2 = some (v, g') ∧ f_X11_chain gP gS gX x1 x2 = some res ∧ Er g g' ∧ An [0] (fun _ => 1) res v (g' 0 0) := by
  rcases e_words hO hR gP x1 x2 with ⟨u, w, hu, hw, rfl, rfl, a1, a2, a3⟩ | ⟨a1, a2⟩
  · obtain ⟨v, g', h, b1, b2, b3⟩ := e_chain (g := pu g 0 0 0) rfl hO hR hu hw gX
    refine ⟨v, g', .inr (v, h), ?_, ?_, (Er.z g 0).tr b2.er, Or.inl ⟨_, rfl, by rw [b2.z]; rfl⟩⟩
    · unfold f_X12_chain; rw [a1]; simp only [bd_s, bd2_s, bd3_s, bd4_s, bd5_s, bd6_s, bd7_s, lr_l, lr_r, nm_s, jn_s, gdb_0, gdb_1, pz_v, if_true, if_false, eq_self, i10, i01, i20, l10, l00, l20]; exact b1
    · unfold f_X11_chain; rw [a2, a3]; simp only [bd_s, bd2_s, bd3_s, bd4_s, bd5_s, bd6_s, bd7_s, lr_l, lr_r, nm_s, jn_s, gdb_0, gdb_1, pz_v, if_true, if_false, eq_self, i10, i01, i20, l10, l00, l20, b3]
  · refine ⟨0, pu g 0 0 1, .inl (0, gX), ?_, ?_, Er.z g 1, Or.inr ⟨0, _, rfl, by decide, rfl⟩⟩
    · unfold f_X12_chain; rw [a1]; simp only [bd_s, bd2_s, bd3_s, bd4_s, bd5_s, bd6_s, bd7_s, lr_l, lr_r, nm_s, jn_s, gdb_0, gdb_1, pz_v, if_true, if_false, eq_self, i10, i01, i20, l10, l00, l20]
    · unfold f_X11_chain; rw [a2]
theorem t_echo (hO : Ok (g 1)) (hR : RS gS gL (g 1)) (gP gX : Pic) : ∃ v g', f_X12_echo g = some (v, g') ∧ f_X11_echo gP gS gX = some v ∧ Er g g' := by
  obtain ⟨v, a, b⟩ := e_echo (g := pu g 0 0 0) rfl hO hR gX
  exact ⟨v, pu g 0 0 0, by unfold f_X12_echo; rw [nm_s, a]; rfl, by unfold f_X11_echo; rw [b]; rfl, Er.z g 0⟩
theorem t_twins (hO : Ok (g 1)) (hR : RS gS gL (g 1)) (gP gX : Pic) : ∃ v g', f_X12_twins g = some (v, g') ∧ f_X11_twins gP gS gX = some v ∧ Er g g' := by
  obtain ⟨v, a, b⟩ := e_twins (g := pu g 0 0 0) rfl hO hR gX
  exact ⟨v, pu g 0 0 0, by unfold f_X12_twins; rw [nm_s, a]; rfl, by unfold f_X11_twins; rw [b]; rfl, Er.z g 0⟩
theorem t_silent (hO : Ok (g 1)) (hR : RS gS gL (g 1)) (gP gX : Pic) : ∃ v g', f_X12_silent g = some (v, g') ∧ f_X11_silent gP gS gX = some v ∧ Er g g' := by
  obtain ⟨v, a, b⟩ := e_silent (g := pu g 0 0 0) rfl hO hR gP gX
  exact ⟨v, pu g 0 0 0, by unfold f_X12_silent; rw [nm_s, a]; rfl, b, Er.z g 0⟩
theorem t_uses (hO : Ok (g 1)) (hR : RS gS gL (g 1)) (gP gX : Pic) (x1 : Int32) : ∃ v g' res, f_X12_uses g x1 = some (v, g') ∧ f_X11_uses gP gS gX x1 = some res ∧ Er g g' ∧ An [0] (fun _ => 1) res v (g' 0 0) := by
  rcases below (x := x1) (W := 8) (by omega) with ⟨j, h1, rfl⟩ | q
  · have c1 : f_X12_isIn (nI j) 0 7 = some 1 := in_1 (W := 8) (by omega) h1
    have c2 : f_X11_needLetter gP (nI j) = some (.inr ()) := by
      unfold f_X11_needLetter
      simp only [jn_s]
      rw [if_neg (nI_pos (by omega)), if_pos (show nI j < 8 from nI_lt (b := 8) h1 (by omega))]
    obtain ⟨v, a, b⟩ := e_uses (g := pu g 0 0 0) rfl hO hR h1 gX
    refine ⟨v, pu g 0 0 0, .inr (v, ()), ?_, ?_, Er.z g 0, Or.inl ⟨(), rfl, rfl⟩⟩
    · unfold f_X12_uses; simp only [bd_s, bd2_s, bd3_s, bd4_s, bd5_s, bd6_s, bd7_s, lr_l, lr_r, nm_s, jn_s, gdb_0, gdb_1, pz_v, if_true, if_false, eq_self, i10, i01, i20, l10, l00, l20, c1]; rw [a]; rfl
    · unfold f_X11_uses; rw [c2]; simp only [bd_s, bd2_s, bd3_s, bd4_s, bd5_s, bd6_s, bd7_s, lr_l, lr_r, nm_s, jn_s, gdb_0, gdb_1, pz_v, if_true, if_false, eq_self, i10, i01, i20, l10, l00, l20, b]
  · have c1 : f_X12_isIn x1 0 7 = some 0 := in_0 (W := 8) (by omega) q
    have c2 : f_X11_needLetter gP x1 = some (.inl (0, ())) := by
      unfold f_X11_needLetter
      simp only [jn_s]
      by_cases c : x1 < 0
      · rw [if_pos c]
      · rw [if_neg c, if_neg (show ¬ x1 < 8 from q.resolve_left c)]
    refine ⟨0, pu g 0 0 1, .inl (0, ()), ?_, ?_, Er.z g 1, Or.inr ⟨0, (), rfl, by decide, rfl⟩⟩
    · unfold f_X12_uses; simp only [bd_s, bd2_s, bd3_s, bd4_s, bd5_s, bd6_s, bd7_s, lr_l, lr_r, nm_s, jn_s, gdb_0, gdb_1, pz_v, if_true, if_false, eq_self, i10, i01, i20, l10, l00, l20, c1]
    · unfold f_X11_uses; rw [c2]; simp only [bd_s, bd2_s, bd3_s, bd4_s, bd5_s, bd6_s, bd7_s, lr_l, lr_r, nm_s, jn_s, gdb_0, gdb_1, pz_v, if_true, if_false, eq_self, i10, i01, i20, l10, l00, l20]
theorem t_rests (hO : Ok (g 1)) (hR : RS gS gL (g 1)) (gP gH gC : Pic) (x1 : Int32) : ∃ v g' res, f_X12_rests g x1 = some (v, g') ∧ f_X11_rests gP gS gH gC x1 = some res ∧ Er g g' ∧ An [0] (fun _ => 1) res v (g' 0 0) := by
  rcases e_writer (gP := gP) hO hR x1 with ⟨u, hu, rfl, a1, a2⟩ | ⟨a1, a2⟩
  · obtain ⟨v, a, b⟩ := e_rests (g := pu g 0 0 0) rfl hO hR hu gC gH
    refine ⟨v, pu g 0 0 0, .inr (v, ()), ?_, ?_, Er.z g 0, Or.inl ⟨(), rfl, rfl⟩⟩
    · unfold f_X12_rests; rw [a1]; simp only [bd_s, bd2_s, bd3_s, bd4_s, bd5_s, bd6_s, bd7_s, lr_l, lr_r, nm_s, jn_s, gdb_0, gdb_1, pz_v, if_true, if_false, eq_self, i10, i01, i20, l10, l00, l20]; rw [a]; rfl
    · unfold f_X11_rests; rw [a2]; simp only [bd_s, bd2_s, bd3_s, bd4_s, bd5_s, bd6_s, bd7_s, lr_l, lr_r, nm_s, jn_s, gdb_0, gdb_1, pz_v, if_true, if_false, eq_self, i10, i01, i20, l10, l00, l20, b]
  · refine ⟨0, pu g 0 0 1, .inl (0, ()), ?_, ?_, Er.z g 1, Or.inr ⟨0, (), rfl, by decide, rfl⟩⟩
    · unfold f_X12_rests; rw [a1]; simp only [bd_s, bd2_s, bd3_s, bd4_s, bd5_s, bd6_s, bd7_s, lr_l, lr_r, nm_s, jn_s, gdb_0, gdb_1, pz_v, if_true, if_false, eq_self, i10, i01, i20, l10, l00, l20]
    · unfold f_X11_rests; rw [a2]; simp only [bd_s, bd2_s, bd3_s, bd4_s, bd5_s, bd6_s, bd7_s, lr_l, lr_r, nm_s, jn_s, gdb_0, gdb_1, pz_v, if_true, if_false, eq_self, i10, i01, i20, l10, l00, l20]
theorem t_pages (hO : Ok (g 1)) (hR : RS gS gL (g 1)) (gP gH gC : Pic) (x1 x2 : Int32) : ∃ v g' res, f_X12_pages g x1 x2 = some (v, g') ∧ f_X11_pages gP gS gH gC x1 x2 = some res ∧ Er g g' ∧ An [0, 1] (fun k => if k = 0 then 1 else 2) res v (g' 0 0) := by
  rcases e_writer (gP := gP) hO hR x1 with ⟨u, hu, rfl, a1, a2⟩ | ⟨a1, a2⟩
  · rcases e_num (gP := gP) x2 (lo := 0) (hi := 99) (by omega) (by omega) with ⟨n, -, n4, rfl, c1, c2⟩ | ⟨c1, c2⟩
    · have c1 : f_X12_isIn (nI n) 0 99 = some 1 := c1
      have c2 : f_X11_needNumber gP (nI n) 0 99 = some (.inr ()) := c2
      obtain ⟨v, g', s', b1, b2, b3⟩ := e_pages (g := pu g 0 0 0) rfl hO hR hu n4 gC gH
      refine ⟨v, g', .inr (v, s'), ?_, ?_, (Er.z g 0).tr b2.er, Or.inl ⟨_, rfl, by rw [b2.z]; rfl⟩⟩
      · unfold f_X12_pages; rw [a1]; simp only [bd_s, bd2_s, bd3_s, bd4_s, bd5_s, bd6_s, bd7_s, lr_l, lr_r, nm_s, jn_s, gdb_0, gdb_1, pz_v, if_true, if_false, eq_self, i10, i01, i20, l10, l00, l20, c1]; exact b1
      · unfold f_X11_pages; rw [a2, c2]; simp only [bd_s, bd2_s, bd3_s, bd4_s, bd5_s, bd6_s, bd7_s, lr_l, lr_r, nm_s, jn_s, gdb_0, gdb_1, pz_v, if_true, if_false, eq_self, i10, i01, i20, l10, l00, l20, b3]
    · have c1 : f_X12_isIn x2 0 99 = some 0 := c1
      have c2 : f_X11_needNumber gP x2 0 99 = some (.inl (1, ())) := c2
      refine ⟨0, pu g 0 0 2, .inl (1, gC), ?_, ?_, Er.z g 2, Or.inr ⟨1, _, rfl, by decide, rfl⟩⟩
      · unfold f_X12_pages; rw [a1]; simp only [bd_s, bd2_s, bd3_s, bd4_s, bd5_s, bd6_s, bd7_s, lr_l, lr_r, nm_s, jn_s, gdb_0, gdb_1, pz_v, if_true, if_false, eq_self, i10, i01, i20, l10, l00, l20, c1]
      · unfold f_X11_pages; rw [a2, c2]; simp only [bd_s, bd2_s, bd3_s, bd4_s, bd5_s, bd6_s, bd7_s, lr_l, lr_r, nm_s, jn_s, gdb_0, gdb_1, pz_v, if_true, if_false, eq_self, i10, i01, i20, l10, l00, l20]
  · refine ⟨0, pu g 0 0 1, .inl (0, gC), ?_, ?_, Er.z g 1, Or.inr ⟨0, _, rfl, by decide, rfl⟩⟩
    · unfold f_X12_pages; rw [a1]; simp only [bd_s, bd2_s, bd3_s, bd4_s, bd5_s, bd6_s, bd7_s, lr_l, lr_r, nm_s, jn_s, gdb_0, gdb_1, pz_v, if_true, if_false, eq_self, i10, i01, i20, l10, l00, l20]
    · unfold f_X11_pages; rw [a2]; simp only [bd_s, bd2_s, bd3_s, bd4_s, bd5_s, bd6_s, bd7_s, lr_l, lr_r, nm_s, jn_s, gdb_0, gdb_1, pz_v, if_true, if_false, eq_self, i10, i01, i20, l10, l00, l20]
theorem t_oftenest (hO : Ok (g 1)) (hR : RS gS gL (g 1)) (gP : Pic) (x1 : Int32) : ∃ v g', f_X12_oftenest g x1 = some (v, g') ∧ f_X11_oftenest gP gS x1 = some v ∧ Er g g' := by
  by_cases z : x1 = 0
  · refine ⟨gtS (fun w => wd (g 1) w 6) (tn (g 1 3)), pu g 0 0 0, ?_, ?_, Er.z g 0⟩
    · unfold f_X12_oftenest; simp only [bd_s, bd2_s, bd3_s, bd4_s, bd5_s, bd6_s, bd7_s, lr_l, lr_r, nm_s, jn_s, gdb_0, gdb_1, pz_v, if_true, if_false, eq_self, i10, i01, i20, l10, l00, l20, z]; rw [show f_X12_oftenest_L22 6 (pu g 0 0 0) fu (-1, 0) = some (gtS (fun w => wd (g 1) w 6) (tn (g 1 3))) from q_oftenest (g := pu g 0 0 0) hO (by omega : 6 < 8)]; rfl
    · unfold f_X11_oftenest; rw [if_pos z]; exact k_g_lengths hO hR gP
  · refine ⟨gtS (fun w => wd (g 1) w 7) (tn (g 1 3)), pu g 0 0 0, ?_, ?_, Er.z g 0⟩
    · unfold f_X12_oftenest; simp only [bd_s, bd2_s, bd3_s, bd4_s, bd5_s, bd6_s, bd7_s, lr_l, lr_r, nm_s, jn_s, gdb_0, gdb_1, pz_v, if_true, if_false, eq_self, i10, i01, i20, l10, l00, l20, z]; rw [show f_X12_oftenest_L22 7 (pu g 0 0 0) fu (-1, 0) = some (gtS (fun w => wd (g 1) w 7) (tn (g 1 3))) from q_oftenest (g := pu g 0 0 0) hO (by omega : 7 < 8)]; rfl
    · unfold f_X11_oftenest; rw [if_neg z]; exact k_g_often hO hR gP
theorem t_quickest (hO : Ok (g 1)) (hR : RS gS gL (g 1)) (gP : Pic) (x1 : Int32) : ∃ v g', f_X12_quickest g x1 = some (v, g') ∧ f_X11_quickest gP gS x1 = some v ∧ Er g g' := by
  by_cases z : x1 = 0
  · refine ⟨gtS (fun w => wr (g 1) w 3) (tn (g 1 4)), pu g 0 0 0, ?_, ?_, Er.z g 0⟩
    · unfold f_X12_quickest; simp only [bd_s, bd2_s, bd3_s, bd4_s, bd5_s, bd6_s, bd7_s, lr_l, lr_r, nm_s, jn_s, gdb_0, gdb_1, pz_v, if_true, if_false, eq_self, i10, i01, i20, l10, l00, l20, z]; rw [show f_X12_quickest_L20 3 (pu g 0 0 0) fu (-1, 0) = some (gtS (fun w => wr (g 1) w 3) (tn (g 1 4))) from q_quickest (g := pu g 0 0 0) hO (by omega : 3 < 4)]; rfl
    · unfold f_X11_quickest; rw [if_pos z]; exact k_g_tired hO hR gP
  · refine ⟨gtS (fun w => wr (g 1) w 1) (tn (g 1 4)), pu g 0 0 0, ?_, ?_, Er.z g 0⟩
    · unfold f_X12_quickest; simp only [bd_s, bd2_s, bd3_s, bd4_s, bd5_s, bd6_s, bd7_s, lr_l, lr_r, nm_s, jn_s, gdb_0, gdb_1, pz_v, if_true, if_false, eq_self, i10, i01, i20, l10, l00, l20, z]; rw [show f_X12_quickest_L20 1 (pu g 0 0 0) fu (-1, 0) = some (gtS (fun w => wr (g 1) w 1) (tn (g 1 4))) from q_quickest (g := pu g 0 0 0) hO (by omega : 1 < 4)]; rfl
    · unfold f_X11_quickest; rw [if_neg z]; exact k_g_speed hO hR gP
end K61
