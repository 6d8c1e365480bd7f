/-! who keeps up, slips, odds -/
section K59
variable {m : Nat → Int32} {g gP gS gL gH gF gK gl : Pic} {u w : Nat} {ln : Nat → Nat}
theorem t_keepsUpN (hO : Ok (g 1)) (hR : RS gS gL (g 1)) (gP gH gK gF : Pic) (x1 x2 : Int32) : ∃ v g' res, f_X12_keepsUp g x1 x2 = some (v, g') ∧ f_X11_keepsUp_n gP gS gL gH gK gF x1 x2 = some res ∧ Er g g' ∧ An [0] (fun _ => 1) res v (g' 0 0) ∧ (v = 0 ∨ v = 1) := by
  rcases e_both hO hR gP x1 x2 with ⟨u, w, hu, hw, rfl, rfl, a1, a2, a3⟩ | ⟨a1, a2⟩
  · obtain ⟨gF', gH', o1, o2⟩ := k_obsW hO hR hu hw gK gF gH
    have o3 := k_keep hR o2 gK gH'
    have q3 : f_X12_doesKeep (pu g 0 0 0) (nI u) (nI w) = some (kpB (g 1) u w) := q_keep (g := pu g 0 0 0) hO hu hw
    rcases kpB_b (g 1) u w with e | e
    · refine ⟨0, pu g 0 0 0, .inr (0, (gH', gF')), ?_, ?_, Er.z g 0, Or.inl ⟨_, rfl, rfl⟩, Or.inl rfl⟩
      · unfold f_X12_keepsUp; rw [a1]; simp only [bd_s, bd2_s, bd3_s, bd4_s, bd5_s, bd6_s, bd7_s, lr_l, lr_r, nm_s, jn_s, gdb_0, gdb_1, pz_v, if_true, if_false, eq_self, i10, i01, i20, l10, l00, l20, q3, e]
      · unfold f_X11_keepsUp_n; rw [a2, a3]; simp only [bd_s, bd2_s, bd3_s, bd4_s, bd5_s, bd6_s, bd7_s, lr_l, lr_r, nm_s, jn_s, gdb_0, gdb_1, pz_v, if_true, if_false, eq_self, i10, i01, i20, l10, l00, l20, o1, o3, e]
    · refine ⟨1, pu g 0 0 0, .inr (1, (gH', gF')), ?_, ?_, Er.z g 0, Or.inl ⟨_, rfl, rfl⟩, Or.inr rfl⟩
      · unfold f_X12_keepsUp; rw [a1]; simp only [bd_s, bd2_s, bd3_s, bd4_s, bd5_s, bd6_s, bd7_s, lr_l, lr_r, nm_s, jn_s, gdb_0, gdb_1, pz_v, if_true, if_false, eq_self, i10, i01, i20, l10, l00, l20, q3, e]
      · unfold f_X11_keepsUp_n; rw [a2, a3]; simp only [bd_s, bd2_s, bd3_s, bd4_s, bd5_s, bd6_s, bd7_s, lr_l, lr_r, nm_s, jn_s, gdb_0, gdb_1, pz_v, if_true, if_false, eq_self, i10, i01, i20, l10, l00, l20, o1, o3, e]
  · refine ⟨0, pu g 0 0 1, .inl (0, (gH, gF)), ?_, ?_, Er.z g 1, Or.inr ⟨0, _, rfl, by decide, rfl⟩, Or.inl rfl⟩
    · unfold f_X12_keepsUp; rw [a1]; simp only [bd_s, bd2_s, bd3_s, bd4_s, bd5_s, bd6_s, bd7_s, lr_l, lr_r, nm_s, jn_s, gdb_0, gdb_1, pz_v, if_true, if_false, eq_self, i10, i01, i20, l10, l00, l20]
    · unfold f_X11_keepsUp_n; rw [a2]
theorem t_keepsUpL (hO : Ok (g 1)) (hR : RS gS gL (g 1)) (gP gH gK gF gl : Pic) (ln : Nat → Nat) (x1 x2 : Int32) : ∃ v g' res, f_X12_keepsUp g x1 x2 = some (v, g') ∧ f_X11_keepsUp_l ln gP gS gL gH gK gF gl x1 x2 = some res ∧ Er g g' ∧ An [0] (fun _ => 1) res v (g' 0 0) ∧ (v = 0 ∨ v = 1) := by
  have e : f_X11_keepsUp_l ln gP gS gL gH gK gF gl x1 x2 = f_X11_keepsUp_n gP gS gL gH gK gF x1 x2 := rfl
  rw [e]
  exact t_keepsUpN hO hR gP gH gK gF x1 x2
theorem t_slipsN (hO : Ok (g 1)) (hR : RS gS gL (g 1)) (h1 : ¬ 1 ≤ g 1 1) (gP gH gK gF : Pic) (x1 x2 : Int32) : ∃ v g' res, f_X12_slips g x1 x2 = some (v, g') ∧ f_X11_slips_n gP gS gL gH gK gF x1 x2 = some res ∧ Er g g' ∧ An [0] (fun _ => 1) res v (g' 0 0) := by
  rcases e_both hO hR gP x1 x2 with ⟨u, w, hu, hw, rfl, rfl, a1, a2, a3⟩ | ⟨a1, a2⟩
  · obtain ⟨gF', gH', o1, o2⟩ := k_obsW hO hR hu hw gK gF gH
    have o3 := k_slipsN (gL := gL) (u := u) hR.slip (o2 5 (by omega)) gK gH'
    obtain ⟨g1, b1, b2, -, -, b5⟩ := q_asksZ (g := pu g 0 0 0) (q_asksW (g := pu g 0 0 0) hO hu hw) h1
    have b6 := q_slips (g := pu g 0 0 0) (a := 0) hO hu b1 b2 (by rw [b5, Int32.add_zero])
    refine ⟨_, g1, .inr (spV ((g 1 8 + 0) - 5 * wr (g 1) u 2), (gH', gF')), ?_, ?_, (Er.z g 0).tr b2.er, Or.inl ⟨_, rfl, by rw [b2.1 0 (by omega)]; rfl⟩⟩
    · unfold f_X12_slips; rw [a1]; simp only [bd_s, bd2_s, bd3_s, bd4_s, bd5_s, bd6_s, bd7_s, lr_l, lr_r, nm_s, jn_s, gdb_0, gdb_1, pz_v, if_true, if_false, eq_self, i10, i01, i20, l10, l00, l20]; rw [b6]; rfl
    · unfold f_X11_slips_n; rw [a2, a3]; simp only [bd_s, bd2_s, bd3_s, bd4_s, bd5_s, bd6_s, bd7_s, lr_l, lr_r, nm_s, jn_s, gdb_0, gdb_1, pz_v, if_true, if_false, eq_self, i10, i01, i20, l10, l00, l20, o1, o3]
  · refine ⟨0, pu g 0 0 1, .inl (0, (gH, gF)), ?_, ?_, Er.z g 1, Or.inr ⟨0, _, rfl, by decide, rfl⟩⟩
    · unfold f_X12_slips; rw [a1]; simp only [bd_s, bd2_s, bd3_s, bd4_s, bd5_s, bd6_s, bd7_s, lr_l, lr_r, nm_s, jn_s, gdb_0, gdb_1, pz_v, if_true, if_false, eq_self, i10, i01, i20, l10, l00, l20]
    · unfold f_X11_slips_n; rw [a2]
theorem t_slipsL (hO : Ok (g 1)) (hR : RS gS gL (g 1)) (hW : LW (g 1) ln gl) (gP gH gK gF : Pic) (x1 x2 : Int32) : ∃ v g' res, f_X12_slips g x1 x2 = some (v, g') ∧ f_X11_slips_l ln gP gS gL gH gK gF gl x1 x2 = some res ∧ Er g g' ∧ An [0] (fun _ => 1) res v (g' 0 0) ∧ (∀ r p, res = .inr (r, p) → ∀ j, j ≠ 5 → p.2.2 j = gl j) ∧ (∀ k p, res = .inl (k, p) → p.2.2 = gl) := by
  rcases e_both hO hR gP x1 x2 with ⟨u, w, hu, hw, rfl, rfl, a1, a2, a3⟩ | ⟨a1, a2⟩
  · obtain ⟨gF', gH', o1, o2⟩ := k_obsW hO hR hu hw gK gF gH
    obtain ⟨g1, t, b1, b2, -, -, b5, -, b7⟩ := q_asksL (g := pu g 0 0 0) (ln := ln) (gl := gl) (q_asksW (g := pu g 0 0 0) hO hu hw) (bv_W _ _ _) hW
    obtain ⟨gl', c1, c2⟩ := k_slipsL (gL := gL) (u := u) hR.slip o2 rfl b7 (gl' := gl) (fun _ _ => rfl) gK gH'
    have b6 := q_slips (g := pu g 0 0 0) (a := t 2) hO hu b1 b2 b5
    refine ⟨_, g1, .inr (spV ((g 1 8 + t 2) - 5 * wr (g 1) u 2), (gH', gF', gl')), ?_, ?_, (Er.z g 0).tr b2.er, Or.inl ⟨_, rfl, by rw [b2.1 0 (by omega)]; rfl⟩, fun r p h => (by cases h; exact c2), fun k p h => (by cases h)⟩
    · unfold f_X12_slips; rw [a1]; simp only [bd_s, bd2_s, bd3_s, bd4_s, bd5_s, bd6_s, bd7_s, lr_l, lr_r, nm_s, jn_s, gdb_0, gdb_1, pz_v, if_true, if_false, eq_self, i10, i01, i20, l10, l00, l20]; rw [b6]; rfl
    · unfold f_X11_slips_l; rw [a2, a3]; simp only [bd_s, bd2_s, bd3_s, bd4_s, bd5_s, bd6_s, bd7_s, lr_l, lr_r, nm_s, jn_s, gdb_0, gdb_1, pz_v, if_true, if_false, eq_self, i10, i01, i20, l10, l00, l20, obs_ln, o1]; rw [c1]; rfl
  · refine ⟨0, pu g 0 0 1, .inl (0, (gH, gF, gl)), ?_, ?_, Er.z g 1, Or.inr ⟨0, _, rfl, by decide, rfl⟩, fun r p h => (by cases h), fun k p h => (by cases h; rfl)⟩
    · unfold f_X12_slips; rw [a1]; simp only [bd_s, bd2_s, bd3_s, bd4_s, bd5_s, bd6_s, bd7_s, lr_l, lr_r, nm_s, jn_s, gdb_0, gdb_1, pz_v, if_true, if_false, eq_self, i10, i01, i20, l10, l00, l20]
    · unfold f_X11_slips_l; rw [a2]
def odV (x : Int32) (s : Int32) : Nat → Int32
  | 0 => x
  | k + 1 => (odV x s k * (100 - s)) / 100
theorem q_odds (n : Nat) (hn : n ≤ 4) {s xu xw : Int32} (P : Pic → Prop) (h0 : P g) (hs : ∀ g', P g' → ∃ g'', f_X12_slipsOf g' xu xw = some (s, g'') ∧ P g'') : ∃ g', f_X12_odds_L55 xu xw (nI n) fu (10000, 0, g) = some (odV 10000 s n, g') ∧ P g' := by
  obtain ⟨c, a, g', rfl, b⟩ := lp_inv (F := fun (rec : Int32 × Int32 × Pic → Option (Int32 × Pic)) (a : Int32 × Int32 × Pic) => match a with | (x4, x5, g0) => (if nI n ≤ x5 then some (x4, g0) else bd2 (f_X12_slipsOf g0 xu xw) (fun r_3 g0_3 => nm (((x4 * (100 - r_3)) / 100)) (fun x4_4 => nm (x5 + 1) (fun x5_5 => rec (x4_4, x5_5, g0_3)))))) (fun k a => ∃ g' : Pic, a = (odV 10000 s k, nI k, g') ∧ P g') n (fun c => ∃ g' : Pic, c = (odV 10000 s n, g') ∧ P g') (fun k hk a ha => by
    obtain ⟨g', rfl, h2⟩ := ha
    obtain ⟨g'', h3, h4⟩ := hs g' h2
    refine Or.inl ⟨(odV 10000 s (k + 1), nI (k + 1), g''), ⟨g'', rfl, h4⟩, fun r => ?_⟩
    simp only [bd2_s, nm_s, nI_ge (show k < n from hk) (by omega), if_false, h3, nI_1]
    rfl) (fun a ha => by
    obtain ⟨g', rfl, h2⟩ := ha
    exact ⟨_, ⟨g', rfl, h2⟩, fun r => if_pos (Int32.le_refl _)⟩) (N := fu) (by have := fu_big; omega) (a := (10000, 0, g)) ⟨g, rfl, h0⟩
  exact ⟨g', a, b⟩
theorem k_oddsL (n : Nat) (hn : n ≤ 4) (s : Int32) (g0 g1 g2 g3 g4 g5 : Pic) : f_X11_odds_n_L54 (nI n) (100 - s) g0 g1 g2 g3 g4 g5 fu (10000, 0) = some (odV 10000 s n) := by
  unfold f_X11_odds_n_L54
  refine lp_seq (fun k => (odV 10000 s k, nI k)) n _ (fun k hk r => ?_) (fun r => if_pos (Int32.le_refl _)) (by have := fu_big; omega) rfl
  simp only [nm_s, nI_ge (show k < n from hk) (by omega), if_false, nI_1]
  rfl
theorem e_odds (hO : Ok (g 1)) (hR : RS gS gL (g 1)) (gP : Pic) (x1 x2 x3 : Int32) : (∃ u w n, u < tn (g 1 4) ∧ w < tn (g 1 3) ∧ n ≤ 4 ∧ x1 = nI u ∧ x2 = nI w ∧ x3 = nI n ∧ f_X12_odds g x1 x2 x3 = bd (f_X12_odds_L55 x1 x2 x3 fu (10000, 0, pu g 0 0 0)) (fun (x4_6, g0_6) => some (x4_6, g0_6)) ∧ f_X11_needWriter gP gS x1 = some (.inr ()) ∧ f_X11_needWord gP gS x2 = some (.inr ()) ∧ f_X11_needNumber gP x3 0 4 = some (.inr ())) ∨ (∃ k, k ∈ [0, 1] ∧ f_X12_odds g x1 x2 x3 = some (0, pu g 0 0 (if k = 0 then 1 else 2)) ∧ ∀ {α : Type} (j : Nat × Unit → α) (z : Unit → Option α), lr (f_X11_needWriter gP gS x1) j (fun _ => lr (f_X11_needWord gP gS x2) j (fun _ => lr (f_X11_needNumber gP x3 0 4) j z)) = some (j (k, ()))) := by
  unfold f_X12_odds
  rcases e_writer (gP := gP) hO hR x1 with ⟨u, hu, rfl, a1, a2⟩ | ⟨a1, a2⟩
  · rcases e_word (gP := gP) hO hR x2 with ⟨w, hw, rfl, b1, b2⟩ | ⟨b1, b2⟩
    · rcases e_num (gP := gP) x3 (lo := 0) (hi := 4) (by omega) (by omega) with ⟨n, -, n4, rfl, c1, c2⟩ | ⟨c1, c2⟩
      · have c1 : f_X12_isIn (nI n) 0 4 = some 1 := c1
        exact Or.inl ⟨u, w, n, hu, hw, n4, rfl, rfl, rfl, by simp only [bd_s, bd2_s, bd3_s, bd4_s, bd5_s, bd6_s, bd7_s, lr_l, lr_r, nm_s, jn_s, gdb_0, gdb_1, pz_v, if_true, if_false, eq_self, i10, i01, i20, l10, l00, l20, a1, b1, c1], a2, b2, c2⟩
      · have c1 : f_X12_isIn x3 0 4 = some 0 := c1
        have c2 : f_X11_needNumber gP x3 0 4 = some (.inl (1, ())) := c2
        exact Or.inr ⟨1, by decide, by simp only [bd_s, bd2_s, bd3_s, bd4_s, bd5_s, bd6_s, bd7_s, lr_l, lr_r, nm_s, jn_s, gdb_0, gdb_1, pz_v, if_true, if_false, eq_self, i10, i01, i20, l10, l00, l20, a1, b1, c1]; rfl, fun j z => by rw [a2, b2, c2]; rfl⟩
    · exact Or.inr ⟨0, by decide, by simp only [bd_s, bd2_s, bd3_s, bd4_s, bd5_s, bd6_s, bd7_s, lr_l, lr_r, nm_s, jn_s, gdb_0, gdb_1, pz_v, if_true, if_false, eq_self, i10, i01, i20, l10, l00, l20, a1, b1], fun j z => by rw [a2, b2]; rfl⟩
  · exact Or.inr ⟨0, by decide, by simp only [bd_s, bd2_s, bd3_s, bd4_s, bd5_s, bd6_s, bd7_s, lr_l, lr_r, nm_s, jn_s, gdb_0, gdb_1, pz_v, if_true, if_false, eq_self, i10, i01, i20, l10, l00, l20, a1], fun j z => by rw [a2]; rfl⟩
theorem t_oddsN (hO : Ok (g 1)) (hR : RS gS gL (g 1)) (h1 : ¬ 1 ≤ g 1 1) (gP gH gK gF : Pic) (x1 x2 x3 : Int32) : ∃ v g' res, f_X12_odds g x1 x2 x3 = some (v, g') ∧ f_X11_odds_n gP gS gL gH gK gF x1 x2 x3 = some res ∧ Er g g' ∧ An [0, 1] (fun k => if k = 0 then 1 else 2) res v (g' 0 0) := by
  rcases e_odds hO hR gP x1 x2 x3 with ⟨u, w, n, hu, hw, n4, rfl, rfl, rfl, a1, a2, a3, a4⟩ | ⟨k, hk, a1, a2⟩
  · obtain ⟨gF', gH', o1, o2⟩ := k_obsW hO hR hu hw gK gF gH
    have o3 := k_slipsN (gL := gL) (u := u) hR.slip (o2 5 (by omega)) gK gH'
    obtain ⟨g1, b1, b2⟩ := q_odds (g := pu g 0 0 0) n n4 (s := spV ((g 1 8 + 0) - 5 * wr (g 1) u 2)) (xu := nI u) (xw := nI w) (fun g' => Ea (pu g 0 0 0) g') (Ea.rf _) (fun g' he => by
      have m1 : g' 1 = g 1 := he.1 1 (by omega)
      obtain ⟨g2, c1, c2, -, -, c5⟩ := q_asksZ (g := g') (q_asksW (by rw [m1]; exact hO) (by rw [m1]; exact hu) (by rw [m1]; exact hw)) (by rw [m1]; exact h1)
      have c6 := q_slips (g := g') (u := u) (a := 0) (by rw [m1]; exact hO) (by rw [m1]; exact hu) c1 c2 (by rw [c5, Int32.add_zero])
      rw [m1] at c6
      exact ⟨g2, c6, he.tr c2⟩)
    refine ⟨_, g1, .inr (odV 10000 (spV ((g 1 8 + 0) - 5 * wr (g 1) u 2)) n, (gH', gF')), by rw [a1, b1]; rfl, ?_, (Er.z g 0).tr b2.er, Or.inl ⟨_, rfl, by rw [b2.1 0 (by omega)]; rfl⟩⟩
    unfold f_X11_odds_n; rw [a2, a3, a4]; simp only [bd_s, bd2_s, bd3_s, bd4_s, bd5_s, bd6_s, bd7_s, lr_l, lr_r, nm_s, jn_s, gdb_0, gdb_1, pz_v, if_true, if_false, eq_self, i10, i01, i20, l10, l00, l20, o1, o3, k_oddsL n n4]
  · refine ⟨0, _, .inl (k, (gH, gF)), a1, ?_, Er.z g _, Or.inr ⟨k, _, rfl, hk, rfl⟩⟩
    unfold f_X11_odds_n; rw [a2]
theorem t_oddsL (hO : Ok (g 1)) (hR : RS gS gL (g 1)) (hW : LW (g 1) ln gl) (gP gH gK gF : Pic) (x1 x2 x3 : Int32) : ∃ v g' res, f_X12_odds g x1 x2 x3 = some (v, g') ∧ f_X11_odds_l ln gP gS gL gH gK gF gl x1 x2 x3 = some res ∧ Er g g' ∧ An [0, 1] (fun k => if k = 0 then 1 else 2) res v (g' 0 0) ∧ (∀ r p, res = .inr (r, p) → ∀ j, j ≠ 5 → p.2.2 j = gl j) ∧ (∀ k p, res = .inl (k, p) → p.2.2 = gl) := by
  rcases e_odds hO hR gP x1 x2 x3 with ⟨u, w, n, hu, hw, n4, rfl, rfl, rfl, a1, a2, a3, a4⟩ | ⟨k, hk, a1, a2⟩
  · obtain ⟨gF', gH', o1, o2⟩ := k_obsW hO hR hu hw gK gF gH
    obtain ⟨g9, t, -, -, -, -, -, -, b7⟩ := q_asksL (g := pu g 0 0 0) (ln := ln) (gl := gl) (q_asksW (g := pu g 0 0 0) hO hu hw) (bv_W _ _ _) hW
    obtain ⟨gl', c1, c2⟩ := k_slipsL (gL := gL) (u := u) hR.slip o2 rfl b7 (gl' := gl) (fun _ _ => rfl) gK gH'
    have ft : ∀ (t' : Nat → Int32), GL ln gl (fsW (g 1) u w) t' → t' 2 = t 2 := fun t' h' => by
      obtain ⟨x, x1, -⟩ := b7 gF' o2 gl (fun _ _ => rfl) 2 (by omega)
      obtain ⟨y, y1, -⟩ := h' gF' o2 gl (fun _ _ => rfl) 2 (by omega)
      rw [x1] at y1
      exact ((Prod.mk.inj (Option.some.inj y1)).1).symm
    obtain ⟨g1, b1, b2⟩ := q_odds (g := pu g 0 0 0) n n4 (s := spV ((g 1 8 + t 2) - 5 * wr (g 1) u 2)) (xu := nI u) (xw := nI w) (fun g' => Ea (pu g 0 0 0) g') (Ea.rf _) (fun g' he => by
      have m1 : g' 1 = g 1 := he.1 1 (by omega)
      obtain ⟨g2, t', d1, d2, -, -, d5, -, d7⟩ := q_asksL (g := g') (ln := ln) (gl := gl) (q_asksW (by rw [m1]; exact hO) (by rw [m1]; exact hu) (by rw [m1]; exact hw)) (bv_W _ _ _) (by rw [m1]; exact hW)
      have d6 := q_slips (g := g') (u := u) (a := t' 2) (by rw [m1]; exact hO) (by rw [m1]; exact hu) d1 d2 d5
      rw [m1] at d6 d7
      rw [ft t' d7] at d6
      exact ⟨g2, d6, he.tr d2⟩)
    refine ⟨_, g1, .inr (odV 10000 (spV ((g 1 8 + t 2) - 5 * wr (g 1) u 2)) n, (gH', gF', gl')), by rw [a1, b1]; rfl, ?_, (Er.z g 0).tr b2.er, Or.inl ⟨_, rfl, by rw [b2.1 0 (by omega)]; rfl⟩, fun r p h => (by cases h; exact c2), fun k p h => (by cases h)⟩
    unfold f_X11_odds_l; rw [a2, a3, a4]; simp only [bd_s, bd2_s, bd3_s, bd4_s, bd5_s, bd6_s, bd7_s, lr_l, lr_r, nm_s, jn_s, gdb_0, gdb_1, pz_v, if_true, if_false, eq_self, i10, i01, i20, l10, l00, l20, obs_ln, o1]; rw [c1, bd2_s]
    rw [show f_X11_odds_l_L54 ln (nI n) (100 - spV ((g 1 8 + t 2) - 5 * wr (g 1) u 2)) gP gS gL gH' gK gF' gl' fu (10000, 0) = some (odV 10000 (spV ((g 1 8 + t 2) - 5 * wr (g 1) u 2)) n) from k_oddsL n n4 _ gP gS gL gH' gK gF']
    rfl
  · refine ⟨0, _, .inl (k, (gH, gF, gl)), a1, ?_, Er.z g _, Or.inr ⟨k, _, rfl, hk, rfl⟩, fun r p h => (by cases h), fun k p h => (by cases h; rfl)⟩
    unfold f_X11_odds_l; rw [a2]
end K59
