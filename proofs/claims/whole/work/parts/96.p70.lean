/-! leaving out, minutes; undone, an image and back -/
theorem upd_eq (f : Nat → Int32) (k : Nat) : upd f k (f k) = f := by
  funext p
  unfold upd
  by_cases z : p = k
  · rw [if_pos z, z]
  · rw [if_neg z]
section K70
variable {m : Nat → Int32} {g g' gP gS gL gT gH gK gF gl rm gD gE : Pic} {k o : Nat} {ln : Nat → Nat} {lo ko : Option LawT} {sh : Bool} {hs : Nat → Bool} {SG SK : Nat → Pic} {SQ : Nat → Option Nat}
theorem e_letter (gP : Pic) (x : Int32) : (∃ l, l < 8 ∧ x = nI l ∧ f_X12_isIn x 0 7 = some 1 ∧ f_X11_needLetter gP x = some (.inr ())) ∨ (f_X12_isIn x 0 7 = some 0 ∧ f_X11_needLetter gP x = some (.inl (0, ()))) := by
  rcases below (x := x) (W := 8) (by omega) with ⟨j, h1, rfl⟩ | q
  · refine Or.inl ⟨j, h1, rfl, in_1 (W := 8) (by omega) h1, ?_⟩
    unfold f_X11_needLetter
    simp only [jn_s]
    rw [if_neg (nI_pos (by omega)), if_pos (show nI j < 8 from nI_lt (b := 8) h1 (by omega))]
  · refine Or.inr ⟨in_0 (W := 8) (by omega) q, ?_⟩
    unfold f_X11_needLetter
    simp only [jn_s]
    by_cases c : x < 0
    · rw [if_pos c]
    · rw [if_neg c, if_neg (show ¬ x < 8 from q.resolve_left c)]
theorem t_leave (hO : Ok (g 1)) (hR : RS gS gL (g 1)) (hr : f_X12_remembers (pu g 0 0 0) = some rm) (r1 : ∀ i, i ≠ 5 → i ≠ 6 → rm i = (pu g 0 0 0) i) (hq : f_X11_rem gP = some (fRem2 (fRem1 gP))) (x1 x2 x3 : Int32) (h3 : x3 = 0 ∨ x3 = 1) : ∃ v g' res, f_X12_leave g x1 x2 x3 = some (v, g') ∧ f_X11_leave gP gS gL x1 x2 x3 = some res ∧ AE [0] (fun _ => 1) g rm gP gS gL v g' res ∧ (v = 0 ∨ v = 1) := by
  rcases e_writer (gP := gP) hO hR x1 with ⟨u, hu, rfl, a1, a2⟩ | ⟨a1, a2⟩
  · rcases e_letter gP x2 with ⟨l, hl, rfl, b1, b2⟩ | ⟨b1, b2⟩
    · have u5 := hO.u5 hu
      obtain ⟨r, hrr, -, -, r255⟩ := (hO.leaves hu).ex
      obtain ⟨f1, f2, f3, f4, f5⟩ := lv_f r (by omega) l hl
      have q0 : f_X12_of (pu g 0 0 0) (nI u) 0 = some (nI r) := by rw [show f_X12_of (pu g 0 0 0) (nI u) 0 = some (wr (g 1) u 0) from q_of (g := pu g 0 0 0) u5 (by omega : 0 < 4), hrr]
      have e96 : (96 + 4 * nI u) + 0 = nI (96 + 4 * u + 0) := by rw [show (0 : Int32) = nI 0 from rfl, li_96, li_4, nI_mul, nI_add, nI_add]
      have s : ∀ N, f_X12_sets (pu g 0 0 0) ((96 + 4 * nI u) + 0) N = some (nI r, pu rm 1 (96 + 4 * u + 0) N) := fun N => by
        rw [e96, q_sets hr r1 (by omega) N]
        show some (wr (g 1) u 0, _) = _
        rw [hrr]
      have q1 : ∀ N, f_X12_of (pu rm 1 (96 + 4 * u + 0) N) (nI u) 0 = some N := fun N => by
        rw [show f_X12_of (pu rm 1 (96 + 4 * u + 0) N) (nI u) 0 = _ from q_of u5 (by omega : 0 < 4)]
        show some ((upd (rm 1) (96 + 4 * u + 0) N) (96 + 4 * u + 0)) = _
        rw [upd_s]
      have gS8 : gS 8 u = nI r := by rw [hR.leaves hu, hrr]
      have same : AC g rm gL (pu rm 1 (96 + 4 * u + 0) (nI r)) gS := by
        have e : upd (g 1) (96 + 4 * u + 0) (nI r) = g 1 := by rw [← hrr]; exact upd_eq _ _
        exact AC.of1 r1 (by omega) (by omega) (by omega) (by rw [e]; exact hO) (by rw [e]; exact hR)
      have other : AC g rm gL (pu rm 1 (96 + 4 * u + 0) (nI (r ^^^ 2 ^ l))) (pu gS 8 u (nI (r ^^^ 2 ^ l))) := AC.of1 r1 (by omega) (by omega) (by omega) (hO.wr_ hu (k := 0) (by omega) (fun _ => Bn.mk (by omega) (by omega) (by omega)) (fun z => absurd z (by omega)) (fun z => absurd z (by omega)) (fun z => absurd z (by omega))) (hR.wr_ hO hu (k := 0) (by omega) _)
      have ne : ¬ nI r = nI (r ^^^ 2 ^ l) := by rw [← f4]; exact f3
      by_cases c : (nI r >>> (nI l &&& 31)) &&& 1 = 1
      · obtain ⟨c1, c2⟩ := f1 c
        rw [f4] at c2
        rcases h3 with rfl | rfl
        · refine ⟨1, _, .inr (1, (fRem2 (fRem1 gP), pu gS 8 u (nI (r ^^^ 2 ^ l)))), ?_, ?_, Or.inl ⟨_, rfl, rmz0 r1 _ _, other⟩, Or.inr rfl⟩
          · unfold f_X12_leave; rw [a1]; simp only [bd_s, bd2_s, bd3_s, bd4_s, bd5_s, bd6_s, bd7_s, lr_l, lr_r, nm_s, jn_s, gdb_0, gdb_1, pz_v, if_true, if_false, eq_self, i10, i01, i20, l10, l00, l20, b1]; rw [q0, bd_s, c2, s, bd2_s, q1, bd_s, if_neg ne]
          · unfold f_X11_leave; rw [a2, b2]; simp only [bd_s, bd2_s, bd3_s, bd4_s, bd5_s, bd6_s, bd7_s, lr_l, lr_r, nm_s, jn_s, gdb_0, gdb_1, pz_v, if_true, if_false, eq_self, i10, i01, i20, l10, l00, l20, hq]; rw [gdi_n u5 (by omega), nI_clamp (by omega), gS8, if_pos c, gdi_n u5 (by omega), gdi_n u5 (by omega), f4]
        · refine ⟨0, _, .inr (0, (fRem2 (fRem1 gP), gS)), ?_, ?_, Or.inl ⟨_, rfl, rmz0 r1 _ _, same⟩, Or.inl rfl⟩
          · unfold f_X12_leave; rw [a1]; simp only [bd_s, bd2_s, bd3_s, bd4_s, bd5_s, bd6_s, bd7_s, lr_l, lr_r, nm_s, jn_s, gdb_0, gdb_1, pz_v, if_true, if_false, eq_self, i10, i01, i20, l10, l00, l20, b1]; rw [q0, bd_s, c1, s, bd2_s, q1, bd_s, if_pos rfl]
          · unfold f_X11_leave; rw [a2, b2]; simp only [bd_s, bd2_s, bd3_s, bd4_s, bd5_s, bd6_s, bd7_s, lr_l, lr_r, nm_s, jn_s, gdb_0, gdb_1, pz_v, if_true, if_false, eq_self, i10, i01, i20, l10, l00, l20, hq]; rw [gdi_n u5 (by omega), nI_clamp (by omega), gS8, if_pos c]
      · obtain ⟨c1, c2⟩ := f2 c
        rw [f4] at c1
        rcases h3 with rfl | rfl
        · refine ⟨0, _, .inr (0, (fRem2 (fRem1 gP), gS)), ?_, ?_, Or.inl ⟨_, rfl, rmz0 r1 _ _, same⟩, Or.inl rfl⟩
          · unfold f_X12_leave; rw [a1]; simp only [bd_s, bd2_s, bd3_s, bd4_s, bd5_s, bd6_s, bd7_s, lr_l, lr_r, nm_s, jn_s, gdb_0, gdb_1, pz_v, if_true, if_false, eq_self, i10, i01, i20, l10, l00, l20, b1]; rw [q0, bd_s, c2, s, bd2_s, q1, bd_s, if_pos rfl]
          · unfold f_X11_leave; rw [a2, b2]; simp only [bd_s, bd2_s, bd3_s, bd4_s, bd5_s, bd6_s, bd7_s, lr_l, lr_r, nm_s, jn_s, gdb_0, gdb_1, pz_v, if_true, if_false, eq_self, i10, i01, i20, l10, l00, l20, hq]; rw [gdi_n u5 (by omega), nI_clamp (by omega), gS8, if_neg c]
        · refine ⟨1, _, .inr (1, (fRem2 (fRem1 gP), pu gS 8 u (nI (r ^^^ 2 ^ l)))), ?_, ?_, Or.inl ⟨_, rfl, rmz0 r1 _ _, other⟩, Or.inr rfl⟩
          · unfold f_X12_leave; rw [a1]; simp only [bd_s, bd2_s, bd3_s, bd4_s, bd5_s, bd6_s, bd7_s, lr_l, lr_r, nm_s, jn_s, gdb_0, gdb_1, pz_v, if_true, if_false, eq_self, i10, i01, i20, l10, l00, l20, b1]; rw [q0, bd_s, c1, s, bd2_s, q1, bd_s, if_neg ne]
          · unfold f_X11_leave; rw [a2, b2]; simp only [bd_s, bd2_s, bd3_s, bd4_s, bd5_s, bd6_s, bd7_s, lr_l, lr_r, nm_s, jn_s, gdb_0, gdb_1, pz_v, if_true, if_false, eq_self, i10, i01, i20, l10, l00, l20, hq]; rw [gdi_n u5 (by omega), nI_clamp (by omega), gS8, if_neg c, gdi_n u5 (by omega), gdi_n u5 (by omega), f4]
    · refine ⟨0, pu g 0 0 1, .inl (0, (gP, gS)), ?_, ?_, Or.inr ⟨0, by decide, rfl, rfl⟩, Or.inl rfl⟩
      · unfold f_X12_leave; rw [a1]; simp only [bd_s, bd2_s, bd3_s, bd4_s, bd5_s, bd6_s, bd7_s, lr_l, lr_r, nm_s, jn_s, gdb_0, gdb_1, pz_v, if_true, if_false, eq_self, i10, i01, i20, l10, l00, l20, b1]
      · unfold f_X11_leave; rw [a2, b2]; simp only [bd_s, bd2_s, bd3_s, bd4_s, bd5_s, bd6_s, bd7_s, lr_l, lr_r, nm_s, jn_s, gdb_0, gdb_1, pz_v, if_true, if_false, eq_self, i10, i01, i20, l10, l00, l20]
  · refine ⟨0, pu g 0 0 1, .inl (0, (gP, gS)), ?_, ?_, Or.inr ⟨0, by decide, rfl, rfl⟩, Or.inl rfl⟩
    · unfold f_X12_leave; rw [a1]; simp only [bd_s, bd2_s, bd3_s, bd4_s, bd5_s, bd6_s, bd7_s, lr_l, lr_r, nm_s, jn_s, gdb_0, gdb_1, pz_v, if_true, if_false, eq_self, i10, i01, i20, l10, l00, l20]
    · unfold f_X11_leave; rw [a2]; simp only [bd_s, bd2_s, bd3_s, bd4_s, bd5_s, bd6_s, bd7_s, lr_l, lr_r, nm_s, jn_s, gdb_0, gdb_1, pz_v, if_true, if_false, eq_self, i10, i01, i20, l10, l00, l20]
theorem t_minutesN (hO : Ok (g 1)) (hR : RS gS gL (g 1)) (h1 : ¬ 1 ≤ g 1 1) (hr : f_X12_remembers (pu g 0 0 0) = some rm) (r1 : ∀ i, i ≠ 5 → i ≠ 6 → rm i = (pu g 0 0 0) i) (hq : f_X11_rem gP = some (fRem2 (fRem1 gP))) (gH gK gF : Pic) (x1 : Int32) : ∃ v g' res, f_X12_minutes g x1 = some (v, g') ∧ f_X11_minutes_n gP gS gL gH gK gF x1 = some res ∧ ((∃ gS' gL' gH' gF', res = .inr (v, (fRem2 (fRem1 gP), gS', gL', gH', gF')) ∧ g' 0 0 = 0 ∧ Ep rm g' ∧ Ok (g' 1) ∧ RS gS' gL' (g' 1)) ∨ (res = .inl (1, (gP, gS, gL, gH, gF)) ∧ g' = pu g 0 0 1)) := by
  have m1 : rm 1 = g 1 := r1 1 (by omega) (by omega)
  rcases e_num (gP := gP) x1 (lo := 1) (hi := 60) (by omega) (by omega) with ⟨n, -, n4, rfl, c1, c2⟩ | ⟨c1, c2⟩
  · have c1 : f_X12_isIn (nI n) 1 60 = some 1 := c1
    have c2 : f_X11_needNumber gP (nI n) 1 60 = some (.inr ()) := c2
    obtain ⟨v, z, gF', gH', gS', gL', b1, b2, b3, b4, b5⟩ := e_goesZ (g := rm) (gS := gS) (gL := gL) (by rw [m1]; exact hO) (by rw [m1]; exact hR) (by rw [m1]; exact h1) n4 1 gK gF gH
    refine ⟨v, z, .inr (v, (fRem2 (fRem1 gP), gS', gL', gH', gF')), ?_, ?_, Or.inl ⟨gS', gL', gH', gF', rfl, ?_, b3, b4, b5⟩⟩
    · unfold f_X12_minutes; rw [c1]; simp only [bd_s, bd2_s, bd3_s, bd4_s, bd5_s, bd6_s, bd7_s, lr_l, lr_r, nm_s, jn_s, gdb_0, gdb_1, pz_v, if_true, if_false, eq_self, i10, i01, i20, l10, l00, l20]; rw [hr, bd_s, b1, bd2_s]
    · unfold f_X11_minutes_n; rw [c2]; simp only [bd_s, bd2_s, bd3_s, bd4_s, bd5_s, bd6_s, bd7_s, lr_l, lr_r, nm_s, jn_s, gdb_0, gdb_1, pz_v, if_true, if_false, eq_self, i10, i01, i20, l10, l00, l20, hq]; rw [b2, bd5_s]
    · rw [b3.1 0 (by omega) (by omega), r1 0 (by omega) (by omega)]; rfl
  · have c1 : f_X12_isIn x1 1 60 = some 0 := c1
    have c2 : f_X11_needNumber gP x1 1 60 = some (.inl (1, ())) := c2
    refine ⟨0, pu g 0 0 1, .inl (1, (gP, gS, gL, gH, gF)), ?_, ?_, Or.inr ⟨rfl, rfl⟩⟩
    · unfold f_X12_minutes; rw [c1]; simp only [bd_s, bd2_s, bd3_s, bd4_s, bd5_s, bd6_s, bd7_s, lr_l, lr_r, nm_s, jn_s, gdb_0, gdb_1, pz_v, if_true, if_false, eq_self, i10, i01, i20, l10, l00, l20]
    · unfold f_X11_minutes_n; rw [c2]; simp only [bd_s, bd2_s, bd3_s, bd4_s, bd5_s, bd6_s, bd7_s, lr_l, lr_r, nm_s, jn_s, gdb_0, gdb_1, pz_v, if_true, if_false, eq_self, i10, i01, i20, l10, l00, l20]
theorem t_minutesL (hO : Ok (g 1)) (hR : RS gS gL (g 1)) (hW : LW (g 1) ln gl) (hr : f_X12_remembers (pu g 0 0 0) = some rm) (r1 : ∀ i, i ≠ 5 → i ≠ 6 → rm i = (pu g 0 0 0) i) (hq : f_X11_rem gP = some (fRem2 (fRem1 gP))) (gH gK gF : Pic) (x1 : Int32) : ∃ v g' res, f_X12_minutes g x1 = some (v, g') ∧ f_X11_minutes_l ln gP gS gL gH gK gF gl x1 = some res ∧ ((∃ gS' gL' gH' gF' gl', res = .inr (v, (fRem2 (fRem1 gP), gS', gL', gH', gF', gl')) ∧ g' 0 0 = 0 ∧ Ep rm g' ∧ Ok (g' 1) ∧ RS gS' gL' (g' 1) ∧ LW (g' 1) ln gl') ∨ (res = .inl (1, (gP, gS, gL, gH, gF, gl)) ∧ g' = pu g 0 0 1)) := by
  have m1 : rm 1 = g 1 := r1 1 (by omega) (by omega)
  rcases e_num (gP := gP) x1 (lo := 1) (hi := 60) (by omega) (by omega) with ⟨n, -, n4, rfl, c1, c2⟩ | ⟨c1, c2⟩
  · have c1 : f_X12_isIn (nI n) 1 60 = some 1 := c1
    have c2 : f_X11_needNumber gP (nI n) 1 60 = some (.inr ()) := c2
    obtain ⟨v, z, gl', gF', gH', gS', gL', b1, b2, b3, b4, b5, b6⟩ := e_goesL (g := rm) (gS := gS) (gL := gL) (by rw [m1]; exact hO) (by rw [m1]; exact hR) (by rw [m1]; exact hW) n4 1 gK gF gH
    refine ⟨v, z, .inr (v, (fRem2 (fRem1 gP), gS', gL', gH', gF', gl')), ?_, ?_, Or.inl ⟨gS', gL', gH', gF', gl', rfl, ?_, b3, b4, b5, b6⟩⟩
    · unfold f_X12_minutes; rw [c1]; simp only [bd_s, bd2_s, bd3_s, bd4_s, bd5_s, bd6_s, bd7_s, lr_l, lr_r, nm_s, jn_s, gdb_0, gdb_1, pz_v, if_true, if_false, eq_self, i10, i01, i20, l10, l00, l20]; rw [hr, bd_s, b1, bd2_s]
    · unfold f_X11_minutes_l; rw [c2]; simp only [bd_s, bd2_s, bd3_s, bd4_s, bd5_s, bd6_s, bd7_s, lr_l, lr_r, nm_s, jn_s, gdb_0, gdb_1, pz_v, if_true, if_false, eq_self, i10, i01, i20, l10, l00, l20, hq]; rw [b2, bd6_s]
    · rw [b3.1 0 (by omega) (by omega), r1 0 (by omega) (by omega)]; rfl
  · have c1 : f_X12_isIn x1 1 60 = some 0 := c1
    have c2 : f_X11_needNumber gP x1 1 60 = some (.inl (1, ())) := c2
    refine ⟨0, pu g 0 0 1, .inl (1, (gP, gS, gL, gH, gF, gl)), ?_, ?_, Or.inr ⟨rfl, rfl⟩⟩
    · unfold f_X12_minutes; rw [c1]; simp only [bd_s, bd2_s, bd3_s, bd4_s, bd5_s, bd6_s, bd7_s, lr_l, lr_r, nm_s, jn_s, gdb_0, gdb_1, pz_v, if_true, if_false, eq_self, i10, i01, i20, l10, l00, l20]
    · unfold f_X11_minutes_l; rw [c2]; simp only [bd_s, bd2_s, bd3_s, bd4_s, bd5_s, bd6_s, bd7_s, lr_l, lr_r, nm_s, jn_s, gdb_0, gdb_1, pz_v, if_true, if_false, eq_self, i10, i01, i20, l10, l00, l20]
/-! undone -/
theorem q_undoL (h6 : g 6 0 = nI k) (hk : k < 12) : ∃ g', f_X12_undo_L26 fu (0, g) = some g' ∧ (∀ i, i ≠ 1 → g' i = g i) ∧ ∀ p, g' 1 p = if p < 456 then arow g k p else g 1 p := by
  refine lp_inv (fun x s => ∃ y : Pic, s = (nI x, y) ∧ (∀ i, i ≠ 1 → y i = g i) ∧ ∀ p, y 1 p = if p < x then arow g k p else g 1 p) 456 (fun g' : Pic => (∀ i, i ≠ 1 → g' i = g i) ∧ ∀ p, g' 1 p = if p < 456 then arow g k p else g 1 p) ?_ ?_ (by have := fu_big; omega) ⟨g, rfl, fun _ _ => rfl, fun p => by rw [if_neg (by omega)]⟩
  · rintro x hx _ ⟨y, rfl, y1, y2⟩
    have e6 : y 6 0 = nI k := by rw [y1 6 (by omega)]; exact h6
    have e : (456 : Int32) * y 6 0 + nI x = nI (456 * k + x) := by rw [e6, li_456, nI_mul, nI_add]
    refine Or.inl ⟨(nI (x + 1), pu y 1 x (y 5 (456 * k + x))), ⟨_, rfl, fun i hi => by rw [pu_row, if_neg hi]; exact y1 i hi, fun p => ?_⟩, fun r => ?_⟩
    · rw [pu_s, y2 p, y1 5 (by omega)]
      by_cases z : p = x
      · rw [if_pos z, if_pos (by omega), z]; rfl
      · rw [if_neg z]
        by_cases w : p < x
        · rw [if_pos w, if_pos (by omega)]
        · rw [if_neg w, if_neg (by omega)]
    · show (if (456 : Int32) ≤ nI x then _ else _) = _
      rw [if_neg (by rw [li_456, nI_leI (by omega) (by omega)]; omega), e, gdi_n (by omega) (by omega), gdi_n (by omega) (by omega), nI_clamp (by omega), nI_clamp (by omega), nm_s, nm_s, nI_1]
  · rintro _ ⟨y, rfl, y1, y2⟩
    refine ⟨y, ⟨y1, y2⟩, fun r => ?_⟩
    show (if (456 : Int32) ≤ nI 456 then _ else _) = _
    rw [if_pos (by decide)]
theorem LW.c8 {m m' : Nat → Int32} (h : LW m ln gl) (h1 : m' 1 = m 1) (h2 : m' 2 = m 2) (h4 : ∀ p, 456 ≤ p → p < 856 → m' p = m p) : LW m' ln gl := by
  obtain ⟨c, n, K, z, gT, gT1, g5, g5', gT', w1, w2, w3, w4, w5⟩ := h
  exact ⟨c, n, K, z, gT, gT1, g5, g5', gT', by rw [h1]; exact w1, by rw [h2]; exact w2, w3, fun k hk => by rw [h4 _ (by omega) (by omega)]; exact w4 k hk, w5⟩
theorem LwO.c {m m' : Nat → Int32} (h : LwO m lo) (h1 : m' 1 = m 1) (h2 : m' 2 = m 2) (h4 : ∀ p, 456 ≤ p → p < 856 → m' p = m p) : LwO m' lo := by
  cases lo with
  | none => exact h1.trans h
  | some L => exact LW.c8 h h1 h2 h4
theorem t_undo0 (h : ActI g gP lo hs SG SK SQ) (z : ¬ 0 < gP 12 0) : f_X12_undo g = some (0, pu g 0 0 0) := by
  obtain ⟨o, k, h1, h2, h3, h4, h5, h6⟩ := h
  rw [h4] at z
  have k0 : k = 0 := by
    rcases Nat.eq_zero_or_pos k with q | q
    · exact q
    · exact absurd ((nI_ltI (a := 0) (by omega) (by omega)).mpr q) z
  subst k0
  unfold f_X12_undo
  rw [nm_s, show (pu g 0 0 0) 6 0 = nI 0 from h5, if_pos (show nI 0 = 0 from rfl)]
theorem t_undo1 (hI : INV g gP gT gS gL lo ko sh hs SG SK SQ) (z : 0 < gP 12 0) : ∃ g' j G2 G3, j < 12 ∧ fUndS gP = nI j ∧ hs j = true ∧ SQ j = lref lo ∧ f_X9_copyFrom gS (SG j) gL (SK j) = some (G2, G3) ∧ f_X12_undo g = some (1, g') ∧ g' 0 0 = 0 ∧ INV g' (pu gP 12 0 (gP 12 0 - 1)) gT G2 G3 lo ko sh hs SG SK SQ := by
  obtain ⟨q1, q2, q3, ⟨c, n, t1, t2, t3, t4⟩, q5, ⟨o, k, h1, h2, h3, h4, h5, h6⟩, q7⟩ := hI
  rw [h4] at z
  have k0 : 0 < k := (nI_ltI (a := 0) (by omega) (by omega)).mp z
  obtain ⟨k, rfl⟩ : ∃ k', k = k' + 1 := ⟨k - 1, by omega⟩
  obtain ⟨c1, c2, c3, c4, c5, c6⟩ := h6 k (by omega)
  obtain ⟨G2, G3, d1, d2⟩ := k_copy c3 c4 gS gL
  have em : nI (k + 1) - 1 = nI k := by rw [show (1 : Int32) = nI 1 from rfl, nI_sub (by omega)]; rfl
  have e6 : (pu (pu g 0 0 0) 6 0 (nI k)) 6 0 = nI k := rfl
  obtain ⟨g', f1, f2, f3⟩ := q_undoL e6 (by omega)
  have er : ∀ p, p < 456 → g' 1 p = arow g k p := fun p hp => by rw [f3, if_pos hp]; rfl
  have eh : ∀ p, 456 ≤ p → g' 1 p = g 1 p := fun p hp => by rw [f3, if_neg (by omega)]; rfl
  have e11 : g' 1 1 = g 1 1 := by rw [er 1 (by omega)]; exact c5
  have e12 : g' 1 2 = g 1 2 := by rw [er 2 (by omega)]; exact c6
  refine ⟨g', (o + k) % 12, G2, G3, Nat.mod_lt _ (by omega), ?_, c1, c2, d1, ?_, by rw [f2 0 (by omega)]; rfl, c3.cong er, d2.cong c3 er, q3.c e11 e12 (fun p hp _ => eh p hp), ⟨c, n, by rw [f2 8 (by omega)]; exact t1, t2, t3, fun i hi => by rw [f2 7 (by omega)]; exact t4 i hi⟩, by rw [f2 12 (by omega)]; exact q5, ?_, ?_⟩
  · unfold fUndS
    rw [h3, h4, nI_add, show nI (o + (k + 1)) - 1 = nI (o + k) by rw [show (1 : Int32) = nI 1 from rfl, nI_sub (by omega)]; rfl, nI_mod12 (by omega)]
  · unfold f_X12_undo
    have e5 : (pu g 0 0 0) 6 0 = nI (k + 1) := h5
    rw [nm_s, e5, if_neg (show ¬ nI (k + 1) = 0 by rw [nI_eq0 (by omega)]; omega), nm_s, em, f1, bd_s]
  · refine ⟨o, k, h1, by omega, h3, by show gP 12 0 - 1 = _; rw [h4, em], by rw [f2 6 (by omega)]; exact e6, fun j hj => ?_⟩
    have ea : arow g' j = arow g j := by unfold arow; rw [f2 5 (by omega)]; rfl
    rw [ea, e11, e12]
    exact h6 j (by omega)
  · exact q7.m1 (by rw [f2 2 (by omega)]; rfl) (by rw [f2 3 (by omega)]; rfl) e11 e12 eh rfl
/-! an image, and back -/
theorem q_imageL (g : Pic) : ∃ g', f_X12_image_L7 fu (0, g) = some g' ∧ (∀ i, i ≠ 2 → g' i = g i) ∧ ∀ p, g' 2 p = if p < 856 then g 1 p else g 2 p := by
  refine lp_inv (fun x s => ∃ y : Pic, s = (nI x, y) ∧ (∀ i, i ≠ 2 → y i = g i) ∧ ∀ p, y 2 p = if p < x then g 1 p else g 2 p) 856 (fun g' : Pic => (∀ i, i ≠ 2 → g' i = g i) ∧ ∀ p, g' 2 p = if p < 856 then g 1 p else g 2 p) ?_ ?_ (by have := fu_big; omega) ⟨g, rfl, fun _ _ => rfl, fun p => by rw [if_neg (by omega)]⟩
  · rintro x hx _ ⟨y, rfl, y1, y2⟩
    refine Or.inl ⟨(nI (x + 1), pu y 2 x (y 1 x)), ⟨_, rfl, fun i hi => by rw [pu_row, if_neg hi]; exact y1 i hi, fun p => ?_⟩, fun r => ?_⟩
    · rw [pu_s, y2 p, y1 1 (by omega)]
      by_cases z : p = x
      · rw [if_pos z, if_pos (by omega), z]
      · rw [if_neg z]
        by_cases w : p < x
        · rw [if_pos w, if_pos (by omega)]
        · rw [if_neg w, if_neg (by omega)]
    · show (if (856 : Int32) ≤ nI x then _ else _) = _
      rw [if_neg (by rw [li_856, nI_leI (by omega) (by omega)]; omega), gdi_n (by omega) (by omega), gdi_n (by omega) (by omega), nI_clamp (by omega), nm_s, nm_s, nI_1]
  · rintro _ ⟨y, rfl, y1, y2⟩
    refine ⟨y, ⟨y1, y2⟩, fun r => ?_⟩
    show (if (856 : Int32) ≤ nI 856 then _ else _) = _
    rw [if_pos (by decide)]
theorem q_backL (g : Pic) : ∃ g', f_X12_back_L16 fu (0, g) = some g' ∧ (∀ i, i ≠ 1 → g' i = g i) ∧ ∀ p, g' 1 p = if p < 856 then g 2 p else g 1 p := by
  refine lp_inv (fun x s => ∃ y : Pic, s = (nI x, y) ∧ (∀ i, i ≠ 1 → y i = g i) ∧ ∀ p, y 1 p = if p < x then g 2 p else g 1 p) 856 (fun g' : Pic => (∀ i, i ≠ 1 → g' i = g i) ∧ ∀ p, g' 1 p = if p < 856 then g 2 p else g 1 p) ?_ ?_ (by have := fu_big; omega) ⟨g, rfl, fun _ _ => rfl, fun p => by rw [if_neg (by omega)]⟩
  · rintro x hx _ ⟨y, rfl, y1, y2⟩
    refine Or.inl ⟨(nI (x + 1), pu y 1 x (y 2 x)), ⟨_, rfl, fun i hi => by rw [pu_row, if_neg hi]; exact y1 i hi, fun p => ?_⟩, fun r => ?_⟩
    · rw [pu_s, y2 p, y1 2 (by omega)]
      by_cases z : p = x
      · rw [if_pos z, if_pos (by omega), z]
      · rw [if_neg z]
        by_cases w : p < x
        · rw [if_pos w, if_pos (by omega)]
        · rw [if_neg w, if_neg (by omega)]
    · show (if (856 : Int32) ≤ nI x then _ else _) = _
      rw [if_neg (by rw [li_856, nI_leI (by omega) (by omega)]; omega), gdi_n (by omega) (by omega), gdi_n (by omega) (by omega), nI_clamp (by omega), nm_s, nm_s, nI_1]
  · rintro _ ⟨y, rfl, y1, y2⟩
    refine ⟨y, ⟨y1, y2⟩, fun r => ?_⟩
    show (if (856 : Int32) ≤ nI 856 then _ else _) = _
    rw [if_pos (by decide)]
theorem t_image (hI : INV g gP gT gS gL lo ko sh hs SG SK SQ) : ∃ g', f_X12_image g = some g' ∧ g' 0 0 = 0 ∧ ∀ G4 G5 ko', RS G4 G5 (g 1) → INV g' gP gT gS gL lo ko' true (va_up hs 12 true) (va_up SG 12 G4) (va_up SK 12 G5) (va_up SQ 12 (lref lo)) := by
  obtain ⟨q1, q2, q3, ⟨c, n, t1, t2, t3, t4⟩, q5, ⟨o, k, h1, h2, h3, h4, h5, h6⟩, q7⟩ := hI
  obtain ⟨y, f1, f2, f3⟩ := q_imageL (pu g 0 0 0)
  have e2 : ∀ p, p < 856 → (pu y 3 0 1) 2 p = g 1 p := fun p hp => by rw [pu_o (by omega), f3, if_pos hp]; rfl
  have e : ∀ i, i ≠ 2 → i ≠ 3 → (pu y 3 0 1) i = (pu g 0 0 0) i := fun i h2 h3 => by rw [pu_o h3]; exact f2 i h2
  refine ⟨pu y 3 0 1, by unfold f_X12_image; rw [nm_s, f1, bd_s, nm_s], by rw [e 0 (by omega) (by omega)]; rfl, fun G4 G5 ko' hR => ⟨by rw [e 1 (by omega) (by omega)]; exact q1, by rw [e 1 (by omega) (by omega)]; exact q2, by rw [e 1 (by omega) (by omega)]; exact q3, ⟨c, n, by rw [e 8 (by omega) (by omega)]; exact t1, t2, t3, fun i hi => by rw [e 7 (by omega) (by omega)]; exact t4 i hi⟩, by rw [e 12 (by omega) (by omega)]; exact q5, ⟨o, k, h1, h2, h3, h4, by rw [e 6 (by omega) (by omega)]; exact h5, fun j hj => ?_⟩, ?_, fun _ => ?_⟩⟩
  · have ea : arow (pu y 3 0 1) j = arow g j := by unfold arow; rw [e 5 (by omega) (by omega)]; rfl
    have ne : (o + j) % 12 ≠ 12 := by omega
    rw [ea, e 1 (by omega) (by omega), va_up_ne _ _ ne, va_up_ne _ _ ne, va_up_ne _ _ ne, va_up_ne _ _ ne]
    exact h6 j hj
  · rw [va_up_self]; intro z; cases z
  · rw [va_up_self, va_up_self, va_up_self, e 1 (by omega) (by omega)]
    exact ⟨rfl, q1.cong (fun p hp => e2 p (by omega)), hR.cong q1 (fun p hp => e2 p (by omega)), fun _ => ⟨rfl, e2 1 (by omega), e2 2 (by omega), fun p _ hp => e2 p hp⟩, fun z => by cases z⟩
theorem t_back0 (hI : INV g gP gT gS gL lo ko sh hs SG SK SQ) (z : hs 12 = false) : f_X12_back g = some (0, pu g 0 0 0) := by
  unfold f_X12_back
  rw [nm_s, show (pu g 0 0 0) 3 0 = 0 from hI.kept.1 z, if_pos rfl]
theorem t_back1 (hI : INV g gP gT gS gL lo ko sh hs SG SK SQ) (z : hs 12 = true) : ∃ g' G2 G3, f_X9_copyFrom gS (SG 12) gL (SK 12) = some (G2, G3) ∧ f_X12_back g = some (1, g') ∧ g' 0 0 = 0 ∧ ∀ lo' ko', (sh = true → lo' = lo) → (sh = false → lo' = ko) → SQ 12 = lref lo' ∧ INV g' (pu gP 12 0 0) gT G2 G3 lo' ko' true hs SG SK SQ := by
  obtain ⟨q1, q2, q3, ⟨c, n, t1, t2, t3, t4⟩, q5, ⟨o, k, h1, h2, h3, h4, h5, h6⟩, q7⟩ := hI
  obtain ⟨a1, a2, a3, a4, a5⟩ := q7.2 z
  obtain ⟨G2, G3, d1, d2⟩ := k_copy a2 a3 gS gL
  obtain ⟨y, f1, f2, f3⟩ := q_backL (pu g 0 0 0)
  have e1 : ∀ p, p < 856 → (pu y 6 0 0) 1 p = g 2 p := fun p hp => by rw [pu_o (by omega), f3, if_pos hp]; rfl
  have e : ∀ i, i ≠ 1 → i ≠ 6 → (pu y 6 0 0) i = (pu g 0 0 0) i := fun i h2 h3 => by rw [pu_o h3]; exact f2 i h2
  refine ⟨pu y 6 0 0, G2, G3, d1, ?_, by rw [e 0 (by omega) (by omega)]; rfl, fun lo' ko' l1 l2 => ?_⟩
  · unfold f_X12_back
    rw [nm_s, show (pu g 0 0 0) 3 0 = 1 from a1, if_neg (show ¬ (1 : Int32) = 0 by decide), f1, bd_s, nm_s]
  · have hL : SQ 12 = lref lo' ∧ LwO ((pu y 6 0 0) 1) lo' := by
      cases sh with
      | true =>
        obtain ⟨b1, b2, b3, b4⟩ := a4 rfl
        rw [l1 rfl]
        exact ⟨b1, q3.c ((e1 1 (by omega)).trans b2) ((e1 2 (by omega)).trans b3) (fun p hp h8 => (e1 p h8).trans (b4 p hp h8))⟩
      | false =>
        obtain ⟨b1, b2⟩ := a5 rfl
        rw [l2 rfl]
        exact ⟨b1, b2.c (e1 1 (by omega)) (e1 2 (by omega)) (fun p hp h8 => e1 p h8)⟩
    refine ⟨hL.1, a2.cong (fun p hp => e1 p (by omega)), d2.cong a2 (fun p hp => e1 p (by omega)), hL.2, ⟨c, n, by rw [e 8 (by omega) (by omega)]; exact t1, t2, t3, fun i hi => by rw [e 7 (by omega) (by omega)]; exact t4 i hi⟩, by rw [e 12 (by omega) (by omega)]; exact q5, ⟨o, 0, h1, by omega, h3, rfl, rfl, fun j hj => absurd hj (Nat.not_lt_zero j)⟩, ⟨fun y => absurd (z.symm.trans y) (by decide), fun _ => ⟨by rw [e 3 (by omega) (by omega)]; exact a1, by rw [e 2 (by omega) (by omega)]; exact a2, by rw [e 2 (by omega) (by omega)]; exact a3, fun _ => ⟨hL.1, by rw [e1 1 (by omega), e 2 (by omega) (by omega)]; rfl, by rw [e1 2 (by omega), e 2 (by omega) (by omega)]; rfl, fun p _ h8 => by rw [e1 p h8, e 2 (by omega) (by omega)]; rfl⟩, fun y => by cases y⟩⟩⟩
end K70
