/-! a writer and a word -/
section K58
variable {m : Nat → Int32} {g gP gS gL gH gX gC gF gK gl : Pic} {u w : Nat} {ln : Nat → Nat}
theorem e_both (hO : Ok (g 1)) (hR : RS gS gL (g 1)) (gP : Pic) (x1 x2 : Int32) : (∃ u w, u < tn (g 1 4) ∧ w < tn (g 1 3) ∧ x1 = nI u ∧ x2 = nI w ∧ f_X12_areBoth g x1 x2 = some (pu g 0 0 0) ∧ f_X11_needWriter gP gS x1 = some (.inr ()) ∧ f_X11_needWord gP gS x2 = some (.inr ())) ∨ (f_X12_areBoth g x1 x2 = some (pu g 0 0 1) ∧ ∀ {α : Type} (j : Nat × Unit → α) (k : Unit → Option α), lr (f_X11_needWriter gP gS x1) j (fun _ => lr (f_X11_needWord gP gS x2) j k) = some (j (0, ()))) := by
  rcases e_writer (gP := gP) hO hR x1 with ⟨u, hu, rfl, a1, a2⟩ | ⟨a1, a2⟩
  · rcases e_word (gP := gP) hO hR x2 with ⟨w, hw, rfl, b1, b2⟩ | ⟨b1, b2⟩
    · exact Or.inl ⟨u, w, hu, hw, rfl, rfl, by unfold f_X12_areBoth; simp only [bd_s, bd2_s, bd3_s, bd4_s, bd5_s, bd6_s, bd7_s, lr_l, lr_r, nm_s, jn_s, gdb_0, gdb_1, pz_v, if_true, if_false, eq_self, i10, i01, i20, l10, l00, l20, a1, b1], a2, b2⟩
    · exact Or.inr ⟨by unfold f_X12_areBoth; simp only [bd_s, bd2_s, bd3_s, bd4_s, bd5_s, bd6_s, bd7_s, lr_l, lr_r, nm_s, jn_s, gdb_0, gdb_1, pz_v, if_true, if_false, eq_self, i10, i01, i20, l10, l00, l20, a1, b1], fun j k => by rw [a2, b2]; rfl⟩
  · exact Or.inr ⟨by unfold f_X12_areBoth; simp only [bd_s, bd2_s, bd3_s, bd4_s, bd5_s, bd6_s, bd7_s, lr_l, lr_r, nm_s, jn_s, gdb_0, gdb_1, pz_v, if_true, if_false, eq_self, i10, i01, i20, l10, l00, l20, a1], fun j k => by rw [a2]; rfl⟩
theorem k_hand (hO : Ok m) (hR : RS gS gL m) (hu : u < tn (m 4)) (gP gH : Pic) : ∃ h, f_X11_handOf gP gS gH (nI u) = some h ∧ HO h m (wr m u 0) := by
  obtain ⟨h, a, b⟩ := k_take hO hR gH (wr m u 0)
  have u5 := hO.u5 hu
  refine ⟨h, ?_, b⟩
  unfold f_X11_handOf
  rw [gdi_n u5 (by omega), nI_clamp (by omega), hR.leaves hu, a]
  rfl
theorem q_lv (hO : Ok (g 1)) (hu : u < tn (g 1 4)) (t : Int32) : f_X12_of (pu g 0 0 t) (nI u) 0 = some (wr (g 1) u 0) := q_of (g := pu g 0 0 t) (hO.u5 hu) (by omega : 0 < 4)
theorem t_strokes (hO : Ok (g 1)) (hR : RS gS gL (g 1)) (gP : Pic) (x1 x2 : Int32) : ∃ v g' res, f_X12_strokes g x1 x2 = some (v, g') ∧ f_X11_strokes gP gS x1 x2 = some res ∧ Er g g' ∧ An [0] (fun _ => 1) res v (g' 0 0) := by
  rcases e_both hO hR gP x1 x2 with ⟨u, w, hu, hw, rfl, rfl, a1, a2, a3⟩ | ⟨a1, a2⟩
  · have u5 := hO.u5 hu
    refine ⟨_, pu g 0 0 0, .inr (nI (kl (g 1) w (wr (g 1) u 0)).length, ()), ?_, ?_, Er.z g 0, Or.inl ⟨(), rfl, rfl⟩⟩
    · unfold f_X12_strokes
      rw [a1]
      simp only [bd_s, bd2_s, bd3_s, bd4_s, bd5_s, bd6_s, bd7_s, lr_l, lr_r, nm_s, jn_s, gdb_0, gdb_1, pz_v, if_true, if_false, eq_self, i10, i01, i20, l10, l00, l20, q_lv hO hu]
      rw [q_strokes (g := pu g 0 0 0) hO hw]
      rfl
    · unfold f_X11_strokes
      rw [a2, a3]
      simp only [bd_s, bd2_s, bd3_s, bd4_s, bd5_s, bd6_s, bd7_s, lr_l, lr_r, nm_s, jn_s, gdb_0, gdb_1, pz_v, if_true, if_false, eq_self, i10, i01, i20, l10, l00, l20]
      rw [gdi_n u5 (by omega), nI_clamp (by omega), hR.leaves hu, k_strokes hO hR hw]
      rfl
  · refine ⟨0, pu g 0 0 1, .inl (0, ()), ?_, ?_, Er.z g 1, Or.inr ⟨0, (), rfl, by decide, rfl⟩⟩
    · unfold f_X12_strokes; rw [a1]; simp only [bd_s, bd2_s, bd3_s, bd4_s, bd5_s, bd6_s, bd7_s, lr_l, lr_r, nm_s, jn_s, gdb_0, gdb_1, pz_v, if_true, if_false, eq_self, i10, i01, i20, l10, l00, l20]
    · unfold f_X11_strokes; rw [a2]
theorem t_alike (hO : Ok (g 1)) (hR : RS gS gL (g 1)) (gP gH : Pic) (x1 x2 : Int32) : ∃ v g' res, f_X12_alike g x1 x2 = some (v, g') ∧ f_X11_alike gP gS gH x1 x2 = some res ∧ Er g g' ∧ An [0] (fun _ => 1) res v (g' 0 0) := by
  rcases e_both hO hR gP x1 x2 with ⟨u, w, hu, hw, rfl, rfl, a1, a2, a3⟩ | ⟨a1, a2⟩
  · obtain ⟨h, b1, b2⟩ := k_hand hO hR hu gP gH
    refine ⟨_, pu g 0 0 0, .inr (lk (g 1) w (wr (g 1) u 0), h), ?_, ?_, Er.z g 0, Or.inl ⟨h, rfl, rfl⟩⟩
    · unfold f_X12_alike
      rw [a1]
      simp only [bd_s, bd2_s, bd3_s, bd4_s, bd5_s, bd6_s, bd7_s, lr_l, lr_r, nm_s, jn_s, gdb_0, gdb_1, pz_v, if_true, if_false, eq_self, i10, i01, i20, l10, l00, l20, q_lv hO hu]
      rw [q_like (g := pu g 0 0 0) hO hw]
      rfl
    · unfold f_X11_alike
      rw [a2, a3]
      simp only [bd_s, bd2_s, bd3_s, bd4_s, bd5_s, bd6_s, bd7_s, lr_l, lr_r, nm_s, jn_s, gdb_0, gdb_1, pz_v, if_true, if_false, eq_self, i10, i01, i20, l10, l00, l20, b1, k_like hO b2 hw]
  · refine ⟨0, pu g 0 0 1, .inl (0, gH), ?_, ?_, Er.z g 1, Or.inr ⟨0, gH, rfl, by decide, rfl⟩⟩
    · unfold f_X12_alike; rw [a1]; simp only [bd_s, bd2_s, bd3_s, bd4_s, bd5_s, bd6_s, bd7_s, lr_l, lr_r, nm_s, jn_s, gdb_0, gdb_1, pz_v, if_true, if_false, eq_self, i10, i01, i20, l10, l00, l20]
    · unfold f_X11_alike; rw [a2]
theorem t_reads (hO : Ok (g 1)) (hR : RS gS gL (g 1)) (gP gH : Pic) (x1 x2 : Int32) : ∃ v g' res, f_X12_reads g x1 x2 = some (v, g') ∧ f_X11_reads gP gS gH x1 x2 = some res ∧ Er g g' ∧ An [0] (fun _ => 1) res v (g' 0 0) := by
  rcases e_both hO hR gP x1 x2 with ⟨u, w, hu, hw, rfl, rfl, a1, a2, a3⟩ | ⟨a1, a2⟩
  · obtain ⟨h, b1, b2⟩ := k_hand hO hR hu gP gH
    refine ⟨_, pu g 0 0 0, .inr (rd (g 1) w (wr (g 1) u 0), h), ?_, ?_, Er.z g 0, Or.inl ⟨h, rfl, rfl⟩⟩
    · unfold f_X12_reads
      rw [a1]
      simp only [bd_s, bd2_s, bd3_s, bd4_s, bd5_s, bd6_s, bd7_s, lr_l, lr_r, nm_s, jn_s, gdb_0, gdb_1, pz_v, if_true, if_false, eq_self, i10, i01, i20, l10, l00, l20, q_lv hO hu]
      rw [q_read (g := pu g 0 0 0) hO hw]
      rfl
    · unfold f_X11_reads
      rw [a2, a3]
      simp only [bd_s, bd2_s, bd3_s, bd4_s, bd5_s, bd6_s, bd7_s, lr_l, lr_r, nm_s, jn_s, gdb_0, gdb_1, pz_v, if_true, if_false, eq_self, i10, i01, i20, l10, l00, l20, b1, k_read hO b2 hw]
  · refine ⟨0, pu g 0 0 1, .inl (0, gH), ?_, ?_, Er.z g 1, Or.inr ⟨0, gH, rfl, by decide, rfl⟩⟩
    · unfold f_X12_reads; rw [a1]; simp only [bd_s, bd2_s, bd3_s, bd4_s, bd5_s, bd6_s, bd7_s, lr_l, lr_r, nm_s, jn_s, gdb_0, gdb_1, pz_v, if_true, if_false, eq_self, i10, i01, i20, l10, l00, l20]
    · unfold f_X11_reads; rw [a2]
theorem t_mark (hO : Ok (g 1)) (hR : RS gS gL (g 1)) (gP : Pic) (x1 x2 x3 : Int32) : ∃ v g' res, f_X12_mark g x1 x2 x3 = some (v, g') ∧ f_X11_mark gP gS x1 x2 x3 = some res ∧ Er g g' ∧ An [0] (fun _ => 1) res v (g' 0 0) := by
  rcases e_both hO hR gP x1 x2 with ⟨u, w, hu, hw, rfl, rfl, a1, a2, a3⟩ | ⟨a1, a2⟩
  · have u5 := hO.u5 hu
    have w8 := hO.w8 hw
    obtain ⟨L, hL, tL, l1, l6⟩ := (hO.len hw).ex
    have q6 : f_X12_ofWord (pu g 0 0 0) (nI w) 6 = some (nI L) := (q_ofWord (g := pu g 0 0 0) w8 (by omega : 6 < 8)).trans (by rw [← hL]; rfl)
    have g2w : gS 2 w = nI L := (hR.len hw).trans hL
    obtain ⟨c, d, w1, w2, hP⟩ : ∃ c d, f_X12_mark_L21 (nI u) (nI w) x3 (pu g 0 0 0) fu (0, 0) = some c ∧ f_X11_mark_L16 (nI u) (nI w) x3 gP gS fu (0, 0) = some d ∧ ((∃ v, c = .inl (v, pu g 0 0 0) ∧ d = .inl (.inr (v, ()))) ∨ (c = .inr () ∧ d = .inr ())) := by
      refine lp_two (fun k a b => ∃ x : Int32, a = (x, nI k) ∧ b = (x, nI k)) L (fun (c : (Int32 × Pic) ⊕ Unit) (d : ((Nat × Unit) ⊕ (Int32 × Unit)) ⊕ Unit) => (∃ v, c = .inl (v, pu g 0 0 0) ∧ d = .inl (.inr (v, ()))) ∨ (c = .inr () ∧ d = .inr ())) ?_ ?_ (N := fu) (M := fu) (by have := fu_big; omega) (by have := fu_big; omega) ⟨0, rfl, rfl⟩
      · rintro k hk _ _ ⟨x, rfl, rfl⟩
        have nk : ¬ nI L ≤ nI k := nI_ge (by omega) (by omega)
        have hk6 : k < tn (wd (g 1) w 6) := by rw [tL]; exact hk
        obtain ⟨c, hc, tc, -, c7⟩ := (hO.let_ hw hk6).ex
        have qk : f_X12_ofWord (pu g 0 0 0) (nI w) (nI k) = some (nI c) := (q_ofWord (g := pu g 0 0 0) w8 (by omega : k < 8)).trans (by rw [← hc]; rfl)
        have kk : f_X9_letterAt gS (nI w) (nI k) = some (nI c) := (k_letter hO hR hw (by omega)).trans (by rw [hc])
        have hb := bt_0 (x := wr (g 1) u 0) (k := c) (by omega)
        by_cases z : bt (wr (g 1) u 0) c = true
        · refine Or.inl ⟨(x, nI (k + 1)), (x, nI (k + 1)), ⟨x, rfl, rfl⟩, fun r => ?_, fun r => ?_⟩
          · simp only [bd_s, bd2_s, bd3_s, bd4_s, bd5_s, bd6_s, bd7_s, lr_l, lr_r, nm_s, jn_s, gdb_0, gdb_1, pz_v, if_true, if_false, eq_self, i10, i01, i20, l10, l00, l20, q6, nk, q_lv hO hu, qk, q_isOf (show c < 32 by omega), z, nI_1]
          · simp only [bd_s, bd2_s, bd3_s, bd4_s, bd5_s, bd6_s, bd7_s, lr_l, lr_r, nm_s, jn_s, gdb_0, gdb_1, pz_v, if_true, if_false, eq_self, i10, i01, i20, l10, l00, l20, nk, kk, nI_1]
            rw [gdi_n w8 (by omega), nI_clamp (by omega), g2w, if_neg nk, gdi_n u5 (by omega), nI_clamp (by omega), hR.leaves hu, if_neg (by rw [hb, z]; decide)]
        · have z0 : bt (wr (g 1) u 0) c = false := by simpa using z
          by_cases y : x = x3
          · refine Or.inr ⟨.inl (nI c, pu g 0 0 0), .inl (.inr (nI c, ())), Or.inl ⟨nI c, rfl, rfl⟩, fun r => ?_, fun r => ?_⟩
            · simp only [bd_s, bd2_s, bd3_s, bd4_s, bd5_s, bd6_s, bd7_s, lr_l, lr_r, nm_s, jn_s, gdb_0, gdb_1, pz_v, if_true, if_false, eq_self, i10, i01, i20, l10, l00, l20, q6, nk, q_lv hO hu, qk, q_isOf (show c < 32 by omega), z0, Bool.false_eq_true, y]
            · simp only [bd_s, bd2_s, bd3_s, bd4_s, bd5_s, bd6_s, bd7_s, lr_l, lr_r, nm_s, jn_s, gdb_0, gdb_1, pz_v, if_true, if_false, eq_self, i10, i01, i20, l10, l00, l20, nk, kk]
              rw [gdi_n w8 (by omega), nI_clamp (by omega), g2w, if_neg nk, gdi_n u5 (by omega), nI_clamp (by omega), hR.leaves hu, if_pos (by rw [hb]; exact z0), if_pos y]
          · refine Or.inl ⟨(x + 1, nI (k + 1)), (x + 1, nI (k + 1)), ⟨x + 1, rfl, rfl⟩, fun r => ?_, fun r => ?_⟩
            · simp only [bd_s, bd2_s, bd3_s, bd4_s, bd5_s, bd6_s, bd7_s, lr_l, lr_r, nm_s, jn_s, gdb_0, gdb_1, pz_v, if_true, if_false, eq_self, i10, i01, i20, l10, l00, l20, q6, nk, q_lv hO hu, qk, q_isOf (show c < 32 by omega), z0, Bool.false_eq_true, y, nI_1]
            · simp only [bd_s, bd2_s, bd3_s, bd4_s, bd5_s, bd6_s, bd7_s, lr_l, lr_r, nm_s, jn_s, gdb_0, gdb_1, pz_v, if_true, if_false, eq_self, i10, i01, i20, l10, l00, l20, nk, kk, nI_1]
              rw [gdi_n w8 (by omega), nI_clamp (by omega), g2w, if_neg nk, gdi_n u5 (by omega), nI_clamp (by omega), hR.leaves hu, if_pos (by rw [hb]; exact z0), if_neg y]
      · rintro _ _ ⟨x, rfl, rfl⟩
        refine ⟨.inr (), .inr (), Or.inr ⟨rfl, rfl⟩, fun r => ?_, fun r => ?_⟩
        · simp only [bd_s, bd2_s, bd3_s, bd4_s, bd5_s, bd6_s, bd7_s, lr_l, lr_r, nm_s, jn_s, gdb_0, gdb_1, pz_v, if_true, if_false, eq_self, i10, i01, i20, l10, l00, l20, q6]; rw [if_pos (Int32.le_refl _)]
        · simp only []
          rw [gdi_n w8 (by omega), nI_clamp (by omega), g2w, if_pos (Int32.le_refl _)]
    rcases hP with ⟨v, rfl, rfl⟩ | ⟨rfl, rfl⟩
    · refine ⟨v, pu g 0 0 0, .inr (v, ()), ?_, ?_, Er.z g 0, Or.inl ⟨(), rfl, rfl⟩⟩
      · unfold f_X12_mark; rw [a1]; simp only [bd_s, bd2_s, bd3_s, bd4_s, bd5_s, bd6_s, bd7_s, lr_l, lr_r, nm_s, jn_s, gdb_0, gdb_1, pz_v, if_true, if_false, eq_self, i10, i01, i20, l10, l00, l20]; rw [w1]; rfl
      · unfold f_X11_mark; rw [a2, a3]; simp only [bd_s, bd2_s, bd3_s, bd4_s, bd5_s, bd6_s, bd7_s, lr_l, lr_r, nm_s, jn_s, gdb_0, gdb_1, pz_v, if_true, if_false, eq_self, i10, i01, i20, l10, l00, l20]; rw [w2]; rfl
    · refine ⟨-1, pu g 0 0 0, .inr (-1, ()), ?_, ?_, Er.z g 0, Or.inl ⟨(), rfl, rfl⟩⟩
      · unfold f_X12_mark; rw [a1]; simp only [bd_s, bd2_s, bd3_s, bd4_s, bd5_s, bd6_s, bd7_s, lr_l, lr_r, nm_s, jn_s, gdb_0, gdb_1, pz_v, if_true, if_false, eq_self, i10, i01, i20, l10, l00, l20]; rw [w1]; rfl
      · unfold f_X11_mark; rw [a2, a3]; simp only [bd_s, bd2_s, bd3_s, bd4_s, bd5_s, bd6_s, bd7_s, lr_l, lr_r, nm_s, jn_s, gdb_0, gdb_1, pz_v, if_true, if_false, eq_self, i10, i01, i20, l10, l00, l20]; rw [w2]; rfl
  · refine ⟨0, pu g 0 0 1, .inl (0, ()), ?_, ?_, Er.z g 1, Or.inr ⟨0, (), rfl, by decide, rfl⟩⟩
    · unfold f_X12_mark; rw [a1]; simp only [bd_s, bd2_s, bd3_s, bd4_s, bd5_s, bd6_s, bd7_s, lr_l, lr_r, nm_s, jn_s, gdb_0, gdb_1, pz_v, if_true, if_false, eq_self, i10, i01, i20, l10, l00, l20]
    · unfold f_X11_mark; rw [a2]
end K58
