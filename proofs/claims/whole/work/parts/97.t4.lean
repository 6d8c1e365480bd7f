theorem top_letter (l : Launch) (hst : l.stackTraces = false) (dC : Nat → ClassId) (dI : Nat → Nat → Nat) (sk sv : Nat → Nat) (tc : Nat → ClassId) (ax am : Nat) {t : Int32} {w : va_W} (x1 x2 : Int32) (hT : Top tc ax am t w) : SC l (dC, dI) sk sv tc yX11_letter cX11_letter 3 (some .int) [.ref ax, .int x1, .int x2] w (PIr l (dC, dI) sk sv tc yX12_letter cX12_letter 3 (some .int) ax am [.ref am, .int x1, .int x2]) (PEr [0] (fun _ => 1) l (dC, dI) sk sv tc yX12_letter cX12_letter 3 (some .int) ax am [.ref am, .int x1, .int x2]) := by
  obtain ⟨A, G, q1, lo, ko, sh, hs, SA, SL, SG, SK, SQ, Z, rfl, rfl, rfl, hI, hB, h7, rfl⟩ := hT
  obtain ⟨v, g', res, e1, e2, e3, e4⟩ : ∃ v g' res, f_X12_letter (G 16) x1 x2 = some (v, g') ∧ f_X11_letter (G 0) (G 2) x1 x2 = some res ∧ _ := t_letter hI.ok hI.rs _ x1 x2
  have hB' : hb g' := K_f_X12_letter _ _ _ hB _ e1
  have e4 := e4.p
  refine sC (f := blk tc A G q1 lo ko hs SA SL SG SK SQ Z) (is := [0, 2]) (CU.z (c_X11_letter l hst dC dI sk sv tc (A 0) (A 1 0) (A 4 0) (A 6 0) (A 7 0) (A 8 0) (A 9 0) (A 11 0) (A 12 0) (A 13 0) (A 14 0) (mrow hs SA 12) (A 2) (lref lo) (A 3 0) (G 0) (G 2) x1 x2 e2) (fun _ _ => rfl)) (by decide) (by decide) ⟨by decide, by decide, rfl, rfl, by decide, by decide⟩ (fun v9 w' h => ?_) (fun E w' h => ?_)
  · obtain ⟨r, u, q, hr, rfl, rfl⟩ := h
    rcases e4 with ⟨u2, rfl, hp, h0⟩ | ⟨k, u2, rfl, -⟩
    · cases hr
      exact ⟨blk tc A G q1 lo ko hs SA SL SG SK SQ Z, rfl, fun i hi => blk_N rfl (fun _ => rfl) (fun _ => rfl) rfl (fun _ => rfl) (fun _ => rfl), ⟨v, rfl⟩, mR (c_X12_letter l dC dI sk sv tc (A 16) (G 16) x1 x2 e1) (hI.er e3) hB' h7 h0 ⟨by decide, by decide, rfl, rfl, by decide, by decide⟩⟩
    · cases hr
  · obtain ⟨k, u, q, hr, rfl, rfl⟩ := h
    rcases e4 with ⟨u2, rfl, -⟩ | ⟨k2, u2, rfl, hk, hp, h0⟩
    · cases hr
    · cases hr
      exact ⟨k, blk tc A G q1 lo ko hs SA SL SG SK SQ Z, rfl, rfl, fun i hi => blk_N rfl (fun _ => rfl) (fun _ => rfl) rfl (fun _ => rfl) (fun _ => rfl), hk, mRE (c_X12_letter l dC dI sk sv tc (A 16) (G 16) x1 x2 e1) (hI.er e3) hB' h7 h0 ⟨by decide, by decide, rfl, rfl, by decide, by decide⟩⟩
theorem top_page (l : Launch) (hst : l.stackTraces = false) (dC : Nat → ClassId) (dI : Nat → Nat → Nat) (sk sv : Nat → Nat) (tc : Nat → ClassId) (ax am : Nat) {t : Int32} {w : va_W} (x1 x2 : Int32) (hT : Top tc ax am t w) : SC l (dC, dI) sk sv tc yX11_page cX11_page 3 (some .int) [.ref ax, .int x1, .int x2] w (PIr l (dC, dI) sk sv tc yX12_page cX12_page 3 (some .int) ax am [.ref am, .int x1, .int x2]) (PEr [0] (fun _ => 1) l (dC, dI) sk sv tc yX12_page cX12_page 3 (some .int) ax am [.ref am, .int x1, .int x2]) := by
  obtain ⟨A, G, q1, lo, ko, sh, hs, SA, SL, SG, SK, SQ, Z, rfl, rfl, rfl, hI, hB, h7, rfl⟩ := hT
  obtain ⟨v, g', res, e1, e2, e3, e4⟩ : ∃ v g' res, f_X12_page (G 16) x1 x2 = some (v, g') ∧ f_X11_page (G 0) (G 2) x1 x2 = some res ∧ _ := t_page hI.ok hI.rs _ x1 x2
  have hB' : hb g' := K_f_X12_page _ _ _ hB _ e1
  have e4 := e4.p
  refine sC (f := blk tc A G q1 lo ko hs SA SL SG SK SQ Z) (is := [0, 2]) (CU.z (c_X11_page l hst dC dI sk sv tc (A 0) (A 1 0) (A 4 0) (A 6 0) (A 7 0) (A 8 0) (A 9 0) (A 11 0) (A 12 0) (A 13 0) (A 14 0) (mrow hs SA 12) (A 2) (lref lo) (A 3 0) (G 0) (G 2) x1 x2 e2) (fun _ _ => rfl)) (by decide) (by decide) ⟨by decide, by decide, rfl, rfl, by decide, by decide⟩ (fun v9 w' h => ?_) (fun E w' h => ?_)
  · obtain ⟨r, u, q, hr, rfl, rfl⟩ := h
    rcases e4 with ⟨u2, rfl, hp, h0⟩ | ⟨k, u2, rfl, -⟩
    · cases hr
      exact ⟨blk tc A G q1 lo ko hs SA SL SG SK SQ Z, rfl, fun i hi => blk_N rfl (fun _ => rfl) (fun _ => rfl) rfl (fun _ => rfl) (fun _ => rfl), ⟨v, rfl⟩, mR (c_X12_page l dC dI sk sv tc (A 16) (G 16) x1 x2 e1) (hI.er e3) hB' h7 h0 ⟨by decide, by decide, rfl, rfl, by decide, by decide⟩⟩
    · cases hr
  · obtain ⟨k, u, q, hr, rfl, rfl⟩ := h
    rcases e4 with ⟨u2, rfl, -⟩ | ⟨k2, u2, rfl, hk, hp, h0⟩
    · cases hr
    · cases hr
      exact ⟨k, blk tc A G q1 lo ko hs SA SL SG SK SQ Z, rfl, rfl, fun i hi => blk_N rfl (fun _ => rfl) (fun _ => rfl) rfl (fun _ => rfl) (fun _ => rfl), hk, mRE (c_X12_page l dC dI sk sv tc (A 16) (G 16) x1 x2 e1) (hI.er e3) hB' h7 h0 ⟨by decide, by decide, rfl, rfl, by decide, by decide⟩⟩
theorem top_strokes (l : Launch) (hst : l.stackTraces = false) (dC : Nat → ClassId) (dI : Nat → Nat → Nat) (sk sv : Nat → Nat) (tc : Nat → ClassId) (ax am : Nat) {t : Int32} {w : va_W} (x1 x2 : Int32) (hT : Top tc ax am t w) : SC l (dC, dI) sk sv tc yX11_strokes cX11_strokes 3 (some .int) [.ref ax, .int x1, .int x2] w (PIr l (dC, dI) sk sv tc yX12_strokes cX12_strokes 3 (some .int) ax am [.ref am, .int x1, .int x2]) (PEr [0] (fun _ => 1) l (dC, dI) sk sv tc yX12_strokes cX12_strokes 3 (some .int) ax am [.ref am, .int x1, .int x2]) := by
  obtain ⟨A, G, q1, lo, ko, sh, hs, SA, SL, SG, SK, SQ, Z, rfl, rfl, rfl, hI, hB, h7, rfl⟩ := hT
  obtain ⟨v, g', res, e1, e2, e3, e4⟩ : ∃ v g' res, f_X12_strokes (G 16) x1 x2 = some (v, g') ∧ f_X11_strokes (G 0) (G 2) x1 x2 = some res ∧ _ := t_strokes hI.ok hI.rs _ x1 x2
  have hB' : hb g' := K_f_X12_strokes _ _ _ hB _ e1
  have e4 := e4.p
  refine sC (f := blk tc A G q1 lo ko hs SA SL SG SK SQ Z) (is := [0, 2]) (CU.z (c_X11_strokes l hst dC dI sk sv tc (A 0) (A 1 0) (A 4 0) (A 6 0) (A 7 0) (A 8 0) (A 9 0) (A 11 0) (A 12 0) (A 13 0) (A 14 0) (mrow hs SA 12) (A 2) (lref lo) (A 3 0) (G 0) (G 2) x1 x2 e2) (fun _ _ => rfl)) (by decide) (by decide) ⟨by decide, by decide, rfl, rfl, by decide, by decide⟩ (fun v9 w' h => ?_) (fun E w' h => ?_)
  · obtain ⟨r, u, q, hr, rfl, rfl⟩ := h
    rcases e4 with ⟨u2, rfl, hp, h0⟩ | ⟨k, u2, rfl, -⟩
    · cases hr
      exact ⟨blk tc A G q1 lo ko hs SA SL SG SK SQ Z, rfl, fun i hi => blk_N rfl (fun _ => rfl) (fun _ => rfl) rfl (fun _ => rfl) (fun _ => rfl), ⟨v, rfl⟩, mR (c_X12_strokes l dC dI sk sv tc (A 16) (G 16) x1 x2 e1) (hI.er e3) hB' h7 h0 ⟨by decide, by decide, rfl, rfl, by decide, by decide⟩⟩
    · cases hr
  · obtain ⟨k, u, q, hr, rfl, rfl⟩ := h
    rcases e4 with ⟨u2, rfl, -⟩ | ⟨k2, u2, rfl, hk, hp, h0⟩
    · cases hr
    · cases hr
      exact ⟨k, blk tc A G q1 lo ko hs SA SL SG SK SQ Z, rfl, rfl, fun i hi => blk_N rfl (fun _ => rfl) (fun _ => rfl) rfl (fun _ => rfl) (fun _ => rfl), hk, mRE (c_X12_strokes l dC dI sk sv tc (A 16) (G 16) x1 x2 e1) (hI.er e3) hB' h7 h0 ⟨by decide, by decide, rfl, rfl, by decide, by decide⟩⟩
theorem top_mark (l : Launch) (hst : l.stackTraces = false) (dC : Nat → ClassId) (dI : Nat → Nat → Nat) (sk sv : Nat → Nat) (tc : Nat → ClassId) (ax am : Nat) {t : Int32} {w : va_W} (x1 x2 x3 : Int32) (hT : Top tc ax am t w) : SC l (dC, dI) sk sv tc yX11_mark cX11_mark 7 (some .int) [.ref ax, .int x1, .int x2, .int x3] w (PIr l (dC, dI) sk sv tc yX12_mark cX12_mark 6 (some .int) ax am [.ref am, .int x1, .int x2, .int x3]) (PEr [0] (fun _ => 1) l (dC, dI) sk sv tc yX12_mark cX12_mark 6 (some .int) ax am [.ref am, .int x1, .int x2, .int x3]) := by
  obtain ⟨A, G, q1, lo, ko, sh, hs, SA, SL, SG, SK, SQ, Z, rfl, rfl, rfl, hI, hB, h7, rfl⟩ := hT
  obtain ⟨v, g', res, e1, e2, e3, e4⟩ : ∃ v g' res, f_X12_mark (G 16) x1 x2 x3 = some (v, g') ∧ f_X11_mark (G 0) (G 2) x1 x2 x3 = some res ∧ _ := t_mark hI.ok hI.rs _ x1 x2 x3
  have hB' : hb g' := K_f_X12_mark _ _ _ _ hB _ e1
  have e4 := e4.p
  refine sC (f := blk tc A G q1 lo ko hs SA SL SG SK SQ Z) (is := [0, 2]) (CU.z (c_X11_mark l hst dC dI sk sv tc (A 0) (A 1 0) (A 4 0) (A 6 0) (A 7 0) (A 8 0) (A 9 0) (A 11 0) (A 12 0) (A 13 0) (A 14 0) (mrow hs SA 12) (A 2) (lref lo) (A 3 0) (G 0) (G 2) x1 x2 x3 e2) (fun _ _ => rfl)) (by decide) (by decide) ⟨by decide, by decide, rfl, rfl, by decide, by decide⟩ (fun v9 w' h => ?_) (fun E w' h => ?_)
  · obtain ⟨r, u, q, hr, rfl, rfl⟩ := h
    rcases e4 with ⟨u2, rfl, hp, h0⟩ | ⟨k, u2, rfl, -⟩
    · cases hr
      exact ⟨blk tc A G q1 lo ko hs SA SL SG SK SQ Z, rfl, fun i hi => blk_N rfl (fun _ => rfl) (fun _ => rfl) rfl (fun _ => rfl) (fun _ => rfl), ⟨v, rfl⟩, mR (c_X12_mark l dC dI sk sv tc (A 16) (G 16) x1 x2 x3 e1) (hI.er e3) hB' h7 h0 ⟨by decide, by decide, rfl, rfl, by decide, by decide⟩⟩
    · cases hr
  · obtain ⟨k, u, q, hr, rfl, rfl⟩ := h
    rcases e4 with ⟨u2, rfl, -⟩ | ⟨k2, u2, rfl, hk, hp, h0⟩
    · cases hr
    · cases hr
      exact ⟨k, blk tc A G q1 lo ko hs SA SL SG SK SQ Z, rfl, rfl, fun i hi => blk_N rfl (fun _ => rfl) (fun _ => rfl) rfl (fun _ => rfl) (fun _ => rfl), hk, mRE (c_X12_mark l dC dI sk sv tc (A 16) (G 16) x1 x2 x3 e1) (hI.er e3) hB' h7 h0 ⟨by decide, by decide, rfl, rfl, by decide, by decide⟩⟩
theorem top_change (l : Launch) (hst : l.stackTraces = false) (dC : Nat → ClassId) (dI : Nat → Nat → Nat) (sk sv : Nat → Nat) (tc : Nat → ClassId) (ax am : Nat) {t : Int32} {w : va_W} (x1 x2 : Int32) (hT : Top tc ax am t w) : SC l (dC, dI) sk sv tc yX11_change cX11_change 3 (some .int) [.ref ax, .int x1, .int x2] w (PIr l (dC, dI) sk sv tc yX12_change cX12_change 3 (some .int) ax am [.ref am, .int x1, .int x2]) (PEr [0] (fun _ => 1) l (dC, dI) sk sv tc yX12_change cX12_change 3 (some .int) ax am [.ref am, .int x1, .int x2]) := by
  obtain ⟨A, G, q1, lo, ko, sh, hs, SA, SL, SG, SK, SQ, Z, rfl, rfl, rfl, hI, hB, h7, rfl⟩ := hT
  obtain ⟨v, g', res, e1, e2, e3, e4⟩ : ∃ v g' res, f_X12_change (G 16) x1 x2 = some (v, g') ∧ f_X11_change (G 0) (G 2) (G 11) x1 x2 = some res ∧ _ := t_change hI.ok hI.rs _ _ x1 x2
  have hB' : hb g' := K_f_X12_change _ _ _ hB _ e1
  have e4 := e4.p
  refine sC (f := blk tc A G q1 lo ko hs SA SL SG SK SQ Z) (is := [0, 2, 11]) (CU.z (c_X11_change l hst dC dI sk sv tc (A 0) (A 1 0) (A 4 0) (A 6 0) (A 7 0) (A 8 0) (A 9 0) (A 12 0) (A 13 0) (A 14 0) (mrow hs SA 12) (A 2) (lref lo) (A 3 0) (A 11) (G 0) (G 2) (G 11) x1 x2 e2) (fun _ _ => rfl)) (by decide) (by decide) ⟨by decide, by decide, rfl, rfl, by decide, by decide⟩ (fun v9 w' h => ?_) (fun E w' h => ?_)
  · obtain ⟨r, u, q, hr, rfl, rfl⟩ := h
    rcases e4 with ⟨u2, rfl, hp, h0⟩ | ⟨k, u2, rfl, -⟩
    · cases hr
      exact ⟨blk tc A (va_up G 11 u) q1 lo ko hs SA SL SG SK SQ Z, rfl, fun i hi => blk_N (va_up_ne _ _ (fun z => hi (by rw [z]; decide))) (fun _ => rfl) (fun _ => rfl) rfl (fun _ => rfl) (fun _ => rfl), ⟨v, rfl⟩, mR (c_X12_change l dC dI sk sv tc (A 16) (G 16) x1 x2 e1) (hI.er e3) hB' h7 h0 ⟨by decide, by decide, rfl, rfl, by decide, by decide⟩⟩
    · cases hr
  · obtain ⟨k, u, q, hr, rfl, rfl⟩ := h
    rcases e4 with ⟨u2, rfl, -⟩ | ⟨k2, u2, rfl, hk, hp, h0⟩
    · cases hr
    · cases hr
      exact ⟨k, blk tc A (va_up G 11 u) q1 lo ko hs SA SL SG SK SQ Z, rfl, rfl, fun i hi => blk_N (va_up_ne _ _ (fun z => hi (by rw [z]; decide))) (fun _ => rfl) (fun _ => rfl) rfl (fun _ => rfl) (fun _ => rfl), hk, mRE (c_X12_change l dC dI sk sv tc (A 16) (G 16) x1 x2 e1) (hI.er e3) hB' h7 h0 ⟨by decide, by decide, rfl, rfl, by decide, by decide⟩⟩
theorem top_chain (l : Launch) (hst : l.stackTraces = false) (dC : Nat → ClassId) (dI : Nat → Nat → Nat) (sk sv : Nat → Nat) (tc : Nat → ClassId) (ax am : Nat) {t : Int32} {w : va_W} (x1 x2 : Int32) (hT : Top tc ax am t w) : SC l (dC, dI) sk sv tc yX11_chain cX11_chain 3 (some .int) [.ref ax, .int x1, .int x2] w (PIr l (dC, dI) sk sv tc yX12_chain cX12_chain 8 (some .int) ax am [.ref am, .int x1, .int x2]) (PEr [0] (fun _ => 1) l (dC, dI) sk sv tc yX12_chain cX12_chain 8 (some .int) ax am [.ref am, .int x1, .int x2]) := by
  obtain ⟨A, G, q1, lo, ko, sh, hs, SA, SL, SG, SK, SQ, Z, rfl, rfl, rfl, hI, hB, h7, rfl⟩ := hT
  obtain ⟨v, g', res, e1, e2, e3, e4⟩ : ∃ v g' res, f_X12_chain (G 16) x1 x2 = some (v, g') ∧ f_X11_chain (G 0) (G 2) (G 11) x1 x2 = some res ∧ _ := t_chain hI.ok hI.rs _ _ x1 x2
  have hB' : hb g' := K_f_X12_chain _ _ _ hB _ e1
  have e4 := e4.p
  refine sC (f := blk tc A G q1 lo ko hs SA SL SG SK SQ Z) (is := [0, 2, 11]) (CU.z (c_X11_chain l hst dC dI sk sv tc (A 0) (A 1 0) (A 4 0) (A 6 0) (A 7 0) (A 8 0) (A 9 0) (A 12 0) (A 13 0) (A 14 0) (mrow hs SA 12) (A 2) (lref lo) (A 3 0) (A 11) (G 0) (G 2) (G 11) x1 x2 e2) (fun _ _ => rfl)) (by decide) (by decide) ⟨by decide, by decide, rfl, rfl, by decide, by decide⟩ (fun v9 w' h => ?_) (fun E w' h => ?_)
  · obtain ⟨r, u, q, hr, rfl, rfl⟩ := h
    rcases e4 with ⟨u2, rfl, hp, h0⟩ | ⟨k, u2, rfl, -⟩
    · cases hr
      exact ⟨blk tc A (va_up G 11 u) q1 lo ko hs SA SL SG SK SQ Z, rfl, fun i hi => blk_N (va_up_ne _ _ (fun z => hi (by rw [z]; decide))) (fun _ => rfl) (fun _ => rfl) rfl (fun _ => rfl) (fun _ => rfl), ⟨v, rfl⟩, mR (c_X12_chain l dC dI sk sv tc (A 16) (G 16) x1 x2 e1) (hI.er e3) hB' h7 h0 ⟨by decide, by decide, rfl, rfl, by decide, by decide⟩⟩
    · cases hr
  · obtain ⟨k, u, q, hr, rfl, rfl⟩ := h
    rcases e4 with ⟨u2, rfl, -⟩ | ⟨k2, u2, rfl, hk, hp, h0⟩
    · cases hr
    · cases hr
      exact ⟨k, blk tc A (va_up G 11 u) q1 lo ko hs SA SL SG SK SQ Z, rfl, rfl, fun i hi => blk_N (va_up_ne _ _ (fun z => hi (by rw [z]; decide))) (fun _ => rfl) (fun _ => rfl) rfl (fun _ => rfl) (fun _ => rfl), hk, mRE (c_X12_chain l dC dI sk sv tc (A 16) (G 16) x1 x2 e1) (hI.er e3) hB' h7 h0 ⟨by decide, by decide, rfl, rfl, by decide, by decide⟩⟩
theorem top_uses (l : Launch) (hst : l.stackTraces = false) (dC : Nat → ClassId) (dI : Nat → Nat → Nat) (sk sv : Nat → Nat) (tc : Nat → ClassId) (ax am : Nat) {t : Int32} {w : va_W} (x1 : Int32) (hT : Top tc ax am t w) : SC l (dC, dI) sk sv tc yX11_uses cX11_uses 2 (some .int) [.ref ax, .int x1] w (PIr l (dC, dI) sk sv tc yX12_uses cX12_uses 2 (some .int) ax am [.ref am, .int x1]) (PEr [0] (fun _ => 1) l (dC, dI) sk sv tc yX12_uses cX12_uses 2 (some .int) ax am [.ref am, .int x1]) := by
  obtain ⟨A, G, q1, lo, ko, sh, hs, SA, SL, SG, SK, SQ, Z, rfl, rfl, rfl, hI, hB, h7, rfl⟩ := hT
  obtain ⟨v, g', res, e1, e2, e3, e4⟩ : ∃ v g' res, f_X12_uses (G 16) x1 = some (v, g') ∧ f_X11_uses (G 0) (G 2) (G 11) x1 = some res ∧ _ := t_uses hI.ok hI.rs _ _ x1
  have hB' : hb g' := K_f_X12_uses _ _ hB _ e1
  have e4 := e4.p
  refine sC (f := blk tc A G q1 lo ko hs SA SL SG SK SQ Z) (is := [0, 2, 11]) (CU.z (c_X11_uses l hst dC dI sk sv tc (A 0) (A 1 0) (A 4 0) (A 6 0) (A 7 0) (A 8 0) (A 9 0) (A 12 0) (A 13 0) (A 14 0) (mrow hs SA 12) (A 2) (lref lo) (A 3 0) (A 11) (G 0) (G 2) (G 11) x1 e2) (fun _ _ => rfl)) (by decide) (by decide) ⟨by decide, by decide, rfl, rfl, by decide, by decide⟩ (fun v9 w' h => ?_) (fun E w' h => ?_)
  · obtain ⟨r, u, q, hr, rfl, rfl⟩ := h
    rcases e4 with ⟨u2, rfl, hp, h0⟩ | ⟨k, u2, rfl, -⟩
    · cases hr
      exact ⟨blk tc A G q1 lo ko hs SA SL SG SK SQ Z, rfl, fun i hi => blk_N rfl (fun _ => rfl) (fun _ => rfl) rfl (fun _ => rfl) (fun _ => rfl), ⟨v, rfl⟩, mR (c_X12_uses l dC dI sk sv tc (A 16) (G 16) x1 e1) (hI.er e3) hB' h7 h0 ⟨by decide, by decide, rfl, rfl, by decide, by decide⟩⟩
    · cases hr
  · obtain ⟨k, u, q, hr, rfl, rfl⟩ := h
    rcases e4 with ⟨u2, rfl, -⟩ | ⟨k2, u2, rfl, hk, hp, h0⟩
    · cases hr
    · cases hr
      exact ⟨k, blk tc A G q1 lo ko hs SA SL SG SK SQ Z, rfl, rfl, fun i hi => blk_N rfl (fun _ => rfl) (fun _ => rfl) rfl (fun _ => rfl) (fun _ => rfl), hk, mRE (c_X12_uses l dC dI sk sv tc (A 16) (G 16) x1 e1) (hI.er e3) hB' h7 h0 ⟨by decide, by decide, rfl, rfl, by decide, by decide⟩⟩
theorem top_led (l : Launch) (hst : l.stackTraces = false) (dC : Nat → ClassId) (dI : Nat → Nat → Nat) (sk sv : Nat → Nat) (tc : Nat → ClassId) (ax am : Nat) {t : Int32} {w : va_W} (x1 x2 : Int32) (hT : Top tc ax am t w) : SC l (dC, dI) sk sv tc yX11_led cX11_led 3 (some .int) [.ref ax, .int x1, .int x2] w (PIr l (dC, dI) sk sv tc yX12_led cX12_led 6 (some .int) ax am [.ref am, .int x1, .int x2]) (PEr [0] (fun _ => 1) l (dC, dI) sk sv tc yX12_led cX12_led 6 (some .int) ax am [.ref am, .int x1, .int x2]) := by
  obtain ⟨A, G, q1, lo, ko, sh, hs, SA, SL, SG, SK, SQ, Z, rfl, rfl, rfl, hI, hB, h7, rfl⟩ := hT
  obtain ⟨v, g', res, e1, e2, e3, e4⟩ : ∃ v g' res, f_X12_led (G 16) x1 x2 = some (v, g') ∧ f_X11_led (G 0) (G 2) (G 3) x1 x2 = some res ∧ _ := t_led hI.ok hI.rs _ x1 x2
  have hB' : hb g' := K_f_X12_led _ _ _ hB _ e1
  have e4 := e4.p
  refine sC (f := blk tc A G q1 lo ko hs SA SL SG SK SQ Z) (is := [0, 2, 3]) (CU.z (c_X11_led l hst dC dI sk sv tc (A 0) (A 1 0) (A 4 0) (A 6 0) (A 7 0) (A 8 0) (A 9 0) (A 11 0) (A 12 0) (A 13 0) (A 14 0) (mrow hs SA 12) (A 2) (lref lo) (A 3) (G 0) (G 2) (G 3) x1 x2 e2) (fun _ _ => rfl)) (by decide) (by decide) ⟨by decide, by decide, rfl, rfl, by decide, by decide⟩ (fun v9 w' h => ?_) (fun E w' h => ?_)
  · obtain ⟨r, u, q, hr, rfl, rfl⟩ := h
    rcases e4 with ⟨u2, rfl, hp, h0⟩ | ⟨k, u2, rfl, -⟩
    · cases hr
      exact ⟨blk tc A G q1 lo ko hs SA SL SG SK SQ Z, rfl, fun i hi => blk_N rfl (fun _ => rfl) (fun _ => rfl) rfl (fun _ => rfl) (fun _ => rfl), ⟨v, rfl⟩, mR (c_X12_led l dC dI sk sv tc (A 16) (G 16) x1 x2 e1) (hI.er e3) hB' h7 h0 ⟨by decide, by decide, rfl, rfl, by decide, by decide⟩⟩
    · cases hr
  · obtain ⟨k, u, q, hr, rfl, rfl⟩ := h
    rcases e4 with ⟨u2, rfl, -⟩ | ⟨k2, u2, rfl, hk, hp, h0⟩
    · cases hr
    · cases hr
      exact ⟨k, blk tc A G q1 lo ko hs SA SL SG SK SQ Z, rfl, rfl, fun i hi => blk_N rfl (fun _ => rfl) (fun _ => rfl) rfl (fun _ => rfl) (fun _ => rfl), hk, mRE (c_X12_led l dC dI sk sv tc (A 16) (G 16) x1 x2 e1) (hI.er e3) hB' h7 h0 ⟨by decide, by decide, rfl, rfl, by decide, by decide⟩⟩
theorem top_alike (l : Launch) (hst : l.stackTraces = false) (dC : Nat → ClassId) (dI : Nat → Nat → Nat) (sk sv : Nat → Nat) (tc : Nat → ClassId) (ax am : Nat) {t : Int32} {w : va_W} (x1 x2 : Int32) (hT : Top tc ax am t w) : SC l (dC, dI) sk sv tc yX11_alike cX11_alike 3 (some .int) [.ref ax, .int x1, .int x2] w (PIr l (dC, dI) sk sv tc yX12_alike cX12_alike 3 (some .int) ax am [.ref am, .int x1, .int x2]) (PEr [0] (fun _ => 1) l (dC, dI) sk sv tc yX12_alike cX12_alike 3 (some .int) ax am [.ref am, .int x1, .int x2]) := by
  obtain ⟨A, G, q1, lo, ko, sh, hs, SA, SL, SG, SK, SQ, Z, rfl, rfl, rfl, hI, hB, h7, rfl⟩ := hT
  obtain ⟨v, g', res, e1, e2, e3, e4⟩ : ∃ v g' res, f_X12_alike (G 16) x1 x2 = some (v, g') ∧ f_X11_alike (G 0) (G 2) (G 8) x1 x2 = some res ∧ _ := t_alike hI.ok hI.rs _ _ x1 x2
  have hB' : hb g' := K_f_X12_alike _ _ _ hB _ e1
  have e4 := e4.p
  refine sC (f := blk tc A G q1 lo ko hs SA SL SG SK SQ Z) (is := [0, 2, 8]) (CU.z (c_X11_alike l hst dC dI sk sv tc (A 0) (A 1 0) (A 4 0) (A 6 0) (A 7 0) (A 9 0) (A 11 0) (A 12 0) (A 13 0) (A 14 0) (mrow hs SA 12) (A 2) (lref lo) (A 3 0) (A 8) (G 0) (G 2) (G 8) x1 x2 e2) (fun _ _ => rfl)) (by decide) (by decide) ⟨by decide, by decide, rfl, rfl, by decide, by decide⟩ (fun v9 w' h => ?_) (fun E w' h => ?_)
  · obtain ⟨r, u, q, hr, rfl, rfl⟩ := h
    rcases e4 with ⟨u2, rfl, hp, h0⟩ | ⟨k, u2, rfl, -⟩
    · cases hr
      exact ⟨blk tc A (va_up G 8 u) q1 lo ko hs SA SL SG SK SQ Z, rfl, fun i hi => blk_N (va_up_ne _ _ (fun z => hi (by rw [z]; decide))) (fun _ => rfl) (fun _ => rfl) rfl (fun _ => rfl) (fun _ => rfl), ⟨v, rfl⟩, mR (c_X12_alike l dC dI sk sv tc (A 16) (G 16) x1 x2 e1) (hI.er e3) hB' h7 h0 ⟨by decide, by decide, rfl, rfl, by decide, by decide⟩⟩
    · cases hr
  · obtain ⟨k, u, q, hr, rfl, rfl⟩ := h
    rcases e4 with ⟨u2, rfl, -⟩ | ⟨k2, u2, rfl, hk, hp, h0⟩
    · cases hr
    · cases hr
      exact ⟨k, blk tc A (va_up G 8 u) q1 lo ko hs SA SL SG SK SQ Z, rfl, rfl, fun i hi => blk_N (va_up_ne _ _ (fun z => hi (by rw [z]; decide))) (fun _ => rfl) (fun _ => rfl) rfl (fun _ => rfl) (fun _ => rfl), hk, mRE (c_X12_alike l dC dI sk sv tc (A 16) (G 16) x1 x2 e1) (hI.er e3) hB' h7 h0 ⟨by decide, by decide, rfl, rfl, by decide, by decide⟩⟩
theorem top_reads (l : Launch) (hst : l.stackTraces = false) (dC : Nat → ClassId) (dI : Nat → Nat → Nat) (sk sv : Nat → Nat) (tc : Nat → ClassId) (ax am : Nat) {t : Int32} {w : va_W} (x1 x2 : Int32) (hT : Top tc ax am t w) : SC l (dC, dI) sk sv tc yX11_reads cX11_reads 3 (some .int) [.ref ax, .int x1, .int x2] w (PIr l (dC, dI) sk sv tc yX12_reads cX12_reads 3 (some .int) ax am [.ref am, .int x1, .int x2]) (PEr [0] (fun _ => 1) l (dC, dI) sk sv tc yX12_reads cX12_reads 3 (some .int) ax am [.ref am, .int x1, .int x2]) := by
  obtain ⟨A, G, q1, lo, ko, sh, hs, SA, SL, SG, SK, SQ, Z, rfl, rfl, rfl, hI, hB, h7, rfl⟩ := hT
  obtain ⟨v, g', res, e1, e2, e3, e4⟩ : ∃ v g' res, f_X12_reads (G 16) x1 x2 = some (v, g') ∧ f_X11_reads (G 0) (G 2) (G 8) x1 x2 = some res ∧ _ := t_reads hI.ok hI.rs _ _ x1 x2
  have hB' : hb g' := K_f_X12_reads _ _ _ hB _ e1
  have e4 := e4.p
  refine sC (f := blk tc A G q1 lo ko hs SA SL SG SK SQ Z) (is := [0, 2, 8]) (CU.z (c_X11_reads l hst dC dI sk sv tc (A 0) (A 1 0) (A 4 0) (A 6 0) (A 7 0) (A 9 0) (A 11 0) (A 12 0) (A 13 0) (A 14 0) (mrow hs SA 12) (A 2) (lref lo) (A 3 0) (A 8) (G 0) (G 2) (G 8) x1 x2 e2) (fun _ _ => rfl)) (by decide) (by decide) ⟨by decide, by decide, rfl, rfl, by decide, by decide⟩ (fun v9 w' h => ?_) (fun E w' h => ?_)
  · obtain ⟨r, u, q, hr, rfl, rfl⟩ := h
    rcases e4 with ⟨u2, rfl, hp, h0⟩ | ⟨k, u2, rfl, -⟩
    · cases hr
      exact ⟨blk tc A (va_up G 8 u) q1 lo ko hs SA SL SG SK SQ Z, rfl, fun i hi => blk_N (va_up_ne _ _ (fun z => hi (by rw [z]; decide))) (fun _ => rfl) (fun _ => rfl) rfl (fun _ => rfl) (fun _ => rfl), ⟨v, rfl⟩, mR (c_X12_reads l dC dI sk sv tc (A 16) (G 16) x1 x2 e1) (hI.er e3) hB' h7 h0 ⟨by decide, by decide, rfl, rfl, by decide, by decide⟩⟩
    · cases hr
  · obtain ⟨k, u, q, hr, rfl, rfl⟩ := h
    rcases e4 with ⟨u2, rfl, -⟩ | ⟨k2, u2, rfl, hk, hp, h0⟩
    · cases hr
    · cases hr
      exact ⟨k, blk tc A (va_up G 8 u) q1 lo ko hs SA SL SG SK SQ Z, rfl, rfl, fun i hi => blk_N (va_up_ne _ _ (fun z => hi (by rw [z]; decide))) (fun _ => rfl) (fun _ => rfl) rfl (fun _ => rfl) (fun _ => rfl), hk, mRE (c_X12_reads l dC dI sk sv tc (A 16) (G 16) x1 x2 e1) (hI.er e3) hB' h7 h0 ⟨by decide, by decide, rfl, rfl, by decide, by decide⟩⟩
theorem top_rests (l : Launch) (hst : l.stackTraces = false) (dC : Nat → ClassId) (dI : Nat → Nat → Nat) (sk sv : Nat → Nat) (tc : Nat → ClassId) (ax am : Nat) {t : Int32} {w : va_W} (x1 : Int32) (hT : Top tc ax am t w) : SC l (dC, dI) sk sv tc yX11_rests cX11_rests 2 (some .int) [.ref ax, .int x1] w (PIr l (dC, dI) sk sv tc yX12_rests cX12_rests 6 (some .int) ax am [.ref am, .int x1]) (PEr [0] (fun _ => 1) l (dC, dI) sk sv tc yX12_rests cX12_rests 6 (some .int) ax am [.ref am, .int x1]) := by
  obtain ⟨A, G, q1, lo, ko, sh, hs, SA, SL, SG, SK, SQ, Z, rfl, rfl, rfl, hI, hB, h7, rfl⟩ := hT
  obtain ⟨v, g', res, e1, e2, e3, e4⟩ : ∃ v g' res, f_X12_rests (G 16) x1 = some (v, g') ∧ f_X11_rests (G 0) (G 2) (G 8) (G 13) x1 = some res ∧ _ := t_rests hI.ok hI.rs _ _ _ x1
  have hB' : hb g' := K_f_X12_rests _ _ hB _ e1
  have e4 := e4.p
  refine sC (f := blk tc A G q1 lo ko hs SA SL SG SK SQ Z) (is := [0, 2, 8, 13]) (CU.z (c_X11_rests l hst dC dI sk sv tc (A 0) (A 1 0) (A 4 0) (A 6 0) (A 7 0) (A 9 0) (A 11 0) (A 12 0) (A 14 0) (mrow hs SA 12) (A 2) (lref lo) (A 3 0) (A 8) (A 13) (G 0) (G 2) (G 8) (G 13) x1 e2) (fun _ _ => rfl)) (by decide) (by decide) ⟨by decide, by decide, rfl, rfl, by decide, by decide⟩ (fun v9 w' h => ?_) (fun E w' h => ?_)
  · obtain ⟨r, u, q, hr, rfl, rfl⟩ := h
    rcases e4 with ⟨u2, rfl, hp, h0⟩ | ⟨k, u2, rfl, -⟩
    · cases hr
      exact ⟨blk tc A G q1 lo ko hs SA SL SG SK SQ Z, rfl, fun i hi => blk_N rfl (fun _ => rfl) (fun _ => rfl) rfl (fun _ => rfl) (fun _ => rfl), ⟨v, rfl⟩, mR (c_X12_rests l dC dI sk sv tc (A 16) (G 16) x1 e1) (hI.er e3) hB' h7 h0 ⟨by decide, by decide, rfl, rfl, by decide, by decide⟩⟩
    · cases hr
  · obtain ⟨k, u, q, hr, rfl, rfl⟩ := h
    rcases e4 with ⟨u2, rfl, -⟩ | ⟨k2, u2, rfl, hk, hp, h0⟩
    · cases hr
    · cases hr
      exact ⟨k, blk tc A G q1 lo ko hs SA SL SG SK SQ Z, rfl, rfl, fun i hi => blk_N rfl (fun _ => rfl) (fun _ => rfl) rfl (fun _ => rfl) (fun _ => rfl), hk, mRE (c_X12_rests l dC dI sk sv tc (A 16) (G 16) x1 e1) (hI.er e3) hB' h7 h0 ⟨by decide, by decide, rfl, rfl, by decide, by decide⟩⟩
theorem top_pairs (l : Launch) (hst : l.stackTraces = false) (dC : Nat → ClassId) (dI : Nat → Nat → Nat) (sk sv : Nat → Nat) (tc : Nat → ClassId) (ax am : Nat) {t : Int32} {w : va_W} (x1 : Int32) (hT : Top tc ax am t w) : SC l (dC, dI) sk sv tc yX11_pairs cX11_pairs 3 (some .int) [.ref ax, .int x1] w (PIr l (dC, dI) sk sv tc yX12_pairs cX12_pairs 7 (some .int) ax am [.ref am, .int x1]) (PEr [0] (fun _ => 1) l (dC, dI) sk sv tc yX12_pairs cX12_pairs 7 (some .int) ax am [.ref am, .int x1]) := by
  obtain ⟨A, G, q1, lo, ko, sh, hs, SA, SL, SG, SK, SQ, Z, rfl, rfl, rfl, hI, hB, h7, rfl⟩ := hT
  obtain ⟨v, g', res, e1, e2, e3, e4⟩ : ∃ v g' res, f_X12_pairs (G 16) x1 = some (v, g') ∧ f_X11_pairs (G 0) (G 2) (G 8) (G 13) x1 = some res ∧ _ := t_pairs hI.ok hI.rs _ _ _ x1
  have hB' : hb g' := K_f_X12_pairs _ _ hB _ e1
  have e4 := e4.p
  refine sC (f := blk tc A G q1 lo ko hs SA SL SG SK SQ Z) (is := [0, 2, 8, 13]) (CU.z (c_X11_pairs l hst dC dI sk sv tc (A 0) (A 1 0) (A 4 0) (A 6 0) (A 7 0) (A 9 0) (A 11 0) (A 12 0) (A 14 0) (mrow hs SA 12) (A 2) (lref lo) (A 3 0) (A 8) (A 13) (G 0) (G 2) (G 8) (G 13) x1 e2) (fun _ _ => rfl)) (by decide) (by decide) ⟨by decide, by decide, rfl, rfl, by decide, by decide⟩ (fun v9 w' h => ?_) (fun E w' h => ?_)
  · obtain ⟨r, u, q, hr, rfl, rfl⟩ := h
    rcases e4 with ⟨u2, rfl, hp, h0⟩ | ⟨k, u2, rfl, -⟩
    · cases hr
      exact ⟨blk tc A (va_up G 13 u) q1 lo ko hs SA SL SG SK SQ Z, rfl, fun i hi => blk_N (va_up_ne _ _ (fun z => hi (by rw [z]; decide))) (fun _ => rfl) (fun _ => rfl) rfl (fun _ => rfl) (fun _ => rfl), ⟨v, rfl⟩, mR (c_X12_pairs l dC dI sk sv tc (A 16) (G 16) x1 e1) (hI.er e3) hB' h7 h0 ⟨by decide, by decide, rfl, rfl, by decide, by decide⟩⟩
    · cases hr
  · obtain ⟨k, u, q, hr, rfl, rfl⟩ := h
    rcases e4 with ⟨u2, rfl, -⟩ | ⟨k2, u2, rfl, hk, hp, h0⟩
    · cases hr
    · cases hr
      exact ⟨k, blk tc A (va_up G 13 u) q1 lo ko hs SA SL SG SK SQ Z, rfl, rfl, fun i hi => blk_N (va_up_ne _ _ (fun z => hi (by rw [z]; decide))) (fun _ => rfl) (fun _ => rfl) rfl (fun _ => rfl) (fun _ => rfl), hk, mRE (c_X12_pairs l dC dI sk sv tc (A 16) (G 16) x1 e1) (hI.er e3) hB' h7 h0 ⟨by decide, by decide, rfl, rfl, by decide, by decide⟩⟩
theorem top_word (l : Launch) (hst : l.stackTraces = false) (dC : Nat → ClassId) (dI : Nat → Nat → Nat) (sk sv : Nat → Nat) (tc : Nat → ClassId) (ax am : Nat) {t : Int32} {w : va_W} (x1 x2 : Int32) (hT : Top tc ax am t w) : SC l (dC, dI) sk sv tc yX11_word cX11_word 3 (some .int) [.ref ax, .int x1, .int x2] w (PIr l (dC, dI) sk sv tc yX12_word cX12_word 3 (some .int) ax am [.ref am, .int x1, .int x2]) (PEr [0, 2] (fun k => if k = 0 then 1 else 2) l (dC, dI) sk sv tc yX12_word cX12_word 3 (some .int) ax am [.ref am, .int x1, .int x2]) := by
  obtain ⟨A, G, q1, lo, ko, sh, hs, SA, SL, SG, SK, SQ, Z, rfl, rfl, rfl, hI, hB, h7, rfl⟩ := hT
  obtain ⟨v, g', res, e1, e2, e3, e4⟩ : ∃ v g' res, f_X12_word (G 16) x1 x2 = some (v, g') ∧ f_X11_word (G 0) (G 2) (G 11) x1 x2 = some res ∧ _ := t_word hI.ok hI.rs _ _ x1 x2
  have hB' : hb g' := K_f_X12_word _ _ _ hB _ e1
  have e4 := e4.p
  refine sC (f := blk tc A G q1 lo ko hs SA SL SG SK SQ Z) (is := [0, 2, 11]) (CU.z (c_X11_word l hst dC dI sk sv tc (A 0) (A 1 0) (A 4 0) (A 6 0) (A 7 0) (A 8 0) (A 9 0) (A 12 0) (A 13 0) (A 14 0) (mrow hs SA 12) (A 2) (lref lo) (A 3 0) (A 11) (G 0) (G 2) (G 11) x1 x2 e2) (fun _ _ => rfl)) (by decide) (by decide) ⟨by decide, by decide, rfl, rfl, by decide, by decide⟩ (fun v9 w' h => ?_) (fun E w' h => ?_)
  · obtain ⟨r, u, q, hr, rfl, rfl⟩ := h
    rcases e4 with ⟨u2, rfl, hp, h0⟩ | ⟨k, u2, rfl, -⟩
    · cases hr
      exact ⟨blk tc A (va_up G 11 u) q1 lo ko hs SA SL SG SK SQ Z, rfl, fun i hi => blk_N (va_up_ne _ _ (fun z => hi (by rw [z]; decide))) (fun _ => rfl) (fun _ => rfl) rfl (fun _ => rfl) (fun _ => rfl), ⟨v, rfl⟩, mR (c_X12_word l dC dI sk sv tc (A 16) (G 16) x1 x2 e1) (hI.er e3) hB' h7 h0 ⟨by decide, by decide, rfl, rfl, by decide, by decide⟩⟩
    · cases hr
  · obtain ⟨k, u, q, hr, rfl, rfl⟩ := h
    rcases e4 with ⟨u2, rfl, -⟩ | ⟨k2, u2, rfl, hk, hp, h0⟩
    · cases hr
    · cases hr
      exact ⟨k, blk tc A (va_up G 11 u) q1 lo ko hs SA SL SG SK SQ Z, rfl, rfl, fun i hi => blk_N (va_up_ne _ _ (fun z => hi (by rw [z]; decide))) (fun _ => rfl) (fun _ => rfl) rfl (fun _ => rfl) (fun _ => rfl), hk, mRE (c_X12_word l dC dI sk sv tc (A 16) (G 16) x1 x2 e1) (hI.er e3) hB' h7 h0 ⟨by decide, by decide, rfl, rfl, by decide, by decide⟩⟩
theorem top_writer (l : Launch) (hst : l.stackTraces = false) (dC : Nat → ClassId) (dI : Nat → Nat → Nat) (sk sv : Nat → Nat) (tc : Nat → ClassId) (ax am : Nat) {t : Int32} {w : va_W} (x1 x2 : Int32) (hT : Top tc ax am t w) : SC l (dC, dI) sk sv tc yX11_writer cX11_writer 3 (some .int) [.ref ax, .int x1, .int x2] w (PIr l (dC, dI) sk sv tc yX12_writer cX12_writer 3 (some .int) ax am [.ref am, .int x1, .int x2]) (PEr [0, 2] (fun k => if k = 0 then 1 else 2) l (dC, dI) sk sv tc yX12_writer cX12_writer 3 (some .int) ax am [.ref am, .int x1, .int x2]) := by
  obtain ⟨A, G, q1, lo, ko, sh, hs, SA, SL, SG, SK, SQ, Z, rfl, rfl, rfl, hI, hB, h7, rfl⟩ := hT
  obtain ⟨v, g', res, e1, e2, e3, e4⟩ : ∃ v g' res, f_X12_writer (G 16) x1 x2 = some (v, g') ∧ f_X11_writer (G 0) (G 2) (G 8) (G 13) x1 x2 = some res ∧ _ := t_writer hI.ok hI.rs _ _ _ x1 x2
  have hB' : hb g' := K_f_X12_writer _ _ _ hB _ e1
  have e4 := e4.p
  refine sC (f := blk tc A G q1 lo ko hs SA SL SG SK SQ Z) (is := [0, 2, 8, 13]) (CU.z (c_X11_writer l hst dC dI sk sv tc (A 0) (A 1 0) (A 4 0) (A 6 0) (A 7 0) (A 9 0) (A 11 0) (A 12 0) (A 14 0) (mrow hs SA 12) (A 2) (lref lo) (A 3 0) (A 8) (A 13) (G 0) (G 2) (G 8) (G 13) x1 x2 e2) (fun _ _ => rfl)) (by decide) (by decide) ⟨by decide, by decide, rfl, rfl, by decide, by decide⟩ (fun v9 w' h => ?_) (fun E w' h => ?_)
  · obtain ⟨r, u, q, hr, rfl, rfl⟩ := h
    rcases e4 with ⟨u2, rfl, hp, h0⟩ | ⟨k, u2, rfl, -⟩
    · cases hr
      exact ⟨blk tc A (va_up (va_up G 8 u.1) 13 u.2) q1 lo ko hs SA SL SG SK SQ Z, rfl, fun i hi => blk_N ((va_up_ne _ _ (fun z => hi (by rw [z]; decide))).trans (va_up_ne _ _ (fun z => hi (by rw [z]; decide)))) (fun _ => rfl) (fun _ => rfl) rfl (fun _ => rfl) (fun _ => rfl), ⟨v, rfl⟩, mR (c_X12_writer l dC dI sk sv tc (A 16) (G 16) x1 x2 e1) (hI.er e3) hB' h7 h0 ⟨by decide, by decide, rfl, rfl, by decide, by decide⟩⟩
    · cases hr
  · obtain ⟨k, u, q, hr, rfl, rfl⟩ := h
    rcases e4 with ⟨u2, rfl, -⟩ | ⟨k2, u2, rfl, hk, hp, h0⟩
    · cases hr
    · cases hr
      exact ⟨k, blk tc A (va_up (va_up G 8 u.1) 13 u.2) q1 lo ko hs SA SL SG SK SQ Z, rfl, rfl, fun i hi => blk_N ((va_up_ne _ _ (fun z => hi (by rw [z]; decide))).trans (va_up_ne _ _ (fun z => hi (by rw [z]; decide)))) (fun _ => rfl) (fun _ => rfl) rfl (fun _ => rfl) (fun _ => rfl), hk, mRE (c_X12_writer l dC dI sk sv tc (A 16) (G 16) x1 x2 e1) (hI.er e3) hB' h7 h0 ⟨by decide, by decide, rfl, rfl, by decide, by decide⟩⟩
theorem top_log (l : Launch) (hst : l.stackTraces = false) (dC : Nat → ClassId) (dI : Nat → Nat → Nat) (sk sv : Nat → Nat) (tc : Nat → ClassId) (ax am : Nat) {t : Int32} {w : va_W} (x1 x2 : Int32) (hT : Top tc ax am t w) : SC l (dC, dI) sk sv tc yX11_log cX11_log 3 (some .int) [.ref ax, .int x1, .int x2] w (PIr l (dC, dI) sk sv tc yX12_log cX12_log 3 (some .int) ax am [.ref am, .int x1, .int x2]) (PEr [2] (fun _ => 1) l (dC, dI) sk sv tc yX12_log cX12_log 3 (some .int) ax am [.ref am, .int x1, .int x2]) := by
  obtain ⟨A, G, q1, lo, ko, sh, hs, SA, SL, SG, SK, SQ, Z, rfl, rfl, rfl, hI, hB, h7, rfl⟩ := hT
  obtain ⟨v, g', res, e1, e2, e3, e4⟩ : ∃ v g' res, f_X12_log (G 16) x1 x2 = some (v, g') ∧ f_X11_log (G 0) (G 2) (G 3) x1 x2 = some res ∧ _ := t_log hI.ok hI.rs _ x1 x2
  have hB' : hb g' := K_f_X12_log _ _ _ hB _ e1
  have e4 := e4.p
  refine sC (f := blk tc A G q1 lo ko hs SA SL SG SK SQ Z) (is := [0, 2, 3]) (CU.z (c_X11_log l hst dC dI sk sv tc (A 0) (A 1 0) (A 4 0) (A 6 0) (A 7 0) (A 8 0) (A 9 0) (A 11 0) (A 12 0) (A 13 0) (A 14 0) (mrow hs SA 12) (A 2) (lref lo) (A 3) (G 0) (G 2) (G 3) x1 x2 e2) (fun _ _ => rfl)) (by decide) (by decide) ⟨by decide, by decide, rfl, rfl, by decide, by decide⟩ (fun v9 w' h => ?_) (fun E w' h => ?_)
  · obtain ⟨r, u, q, hr, rfl, rfl⟩ := h
    rcases e4 with ⟨u2, rfl, hp, h0⟩ | ⟨k, u2, rfl, -⟩
    · cases hr
      exact ⟨blk tc A G q1 lo ko hs SA SL SG SK SQ Z, rfl, fun i hi => blk_N rfl (fun _ => rfl) (fun _ => rfl) rfl (fun _ => rfl) (fun _ => rfl), ⟨v, rfl⟩, mR (c_X12_log l dC dI sk sv tc (A 16) (G 16) x1 x2 e1) (hI.er e3) hB' h7 h0 ⟨by decide, by decide, rfl, rfl, by decide, by decide⟩⟩
    · cases hr
  · obtain ⟨k, u, q, hr, rfl, rfl⟩ := h
    rcases e4 with ⟨u2, rfl, -⟩ | ⟨k2, u2, rfl, hk, hp, h0⟩
    · cases hr
    · cases hr
      exact ⟨k, blk tc A G q1 lo ko hs SA SL SG SK SQ Z, rfl, rfl, fun i hi => blk_N rfl (fun _ => rfl) (fun _ => rfl) rfl (fun _ => rfl) (fun _ => rfl), hk, mRE (c_X12_log l dC dI sk sv tc (A 16) (G 16) x1 x2 e1) (hI.er e3) hB' h7 h0 ⟨by decide, by decide, rfl, rfl, by decide, by decide⟩⟩
theorem top_leaves (l : Launch) (hst : l.stackTraces = false) (dC : Nat → ClassId) (dI : Nat → Nat → Nat) (sk sv : Nat → Nat) (tc : Nat → ClassId) (ax am : Nat) {t : Int32} {w : va_W} (x1 x2 : Int32) (hT : Top tc ax am t w) : SC l (dC, dI) sk sv tc yX11_leaves cX11_leaves 6 (some .int) [.ref ax, .int x1, .int x2] w (PIr l (dC, dI) sk sv tc yX12_leaves cX12_leaves 7 (some .int) ax am [.ref am, .int x1, .int x2]) (PEr [1] (fun _ => 1) l (dC, dI) sk sv tc yX12_leaves cX12_leaves 7 (some .int) ax am [.ref am, .int x1, .int x2]) := by
  obtain ⟨A, G, q1, lo, ko, sh, hs, SA, SL, SG, SK, SQ, Z, rfl, rfl, rfl, hI, hB, h7, rfl⟩ := hT
  obtain ⟨v, g', res, e1, e2, e3, e4⟩ : ∃ v g' res, f_X12_leaves (G 16) x1 x2 = some (v, g') ∧ f_X11_leaves (G 0) (G 2) (G 8) x1 x2 = some res ∧ _ := t_leaves hI.ok hI.rs _ _ x1 x2
  have hB' : hb g' := K_f_X12_leaves _ _ _ hB _ e1
  have e4 := e4.p
  refine sC (f := blk tc A G q1 lo ko hs SA SL SG SK SQ Z) (is := [0, 2, 8]) (CU.z (c_X11_leaves l hst dC dI sk sv tc (A 0) (A 1 0) (A 4 0) (A 6 0) (A 7 0) (A 9 0) (A 11 0) (A 12 0) (A 13 0) (A 14 0) (mrow hs SA 12) (A 2) (lref lo) (A 3 0) (A 8) (G 0) (G 2) (G 8) x1 x2 e2) (fun _ _ => rfl)) (by decide) (by decide) ⟨by decide, by decide, rfl, rfl, by decide, by decide⟩ (fun v9 w' h => ?_) (fun E w' h => ?_)
  · obtain ⟨r, u, q, hr, rfl, rfl⟩ := h
    rcases e4 with ⟨u2, rfl, hp, h0⟩ | ⟨k, u2, rfl, -⟩
    · cases hr
      exact ⟨blk tc A (va_up G 8 u) q1 lo ko hs SA SL SG SK SQ Z, rfl, fun i hi => blk_N (va_up_ne _ _ (fun z => hi (by rw [z]; decide))) (fun _ => rfl) (fun _ => rfl) rfl (fun _ => rfl) (fun _ => rfl), ⟨v, rfl⟩, mR (c_X12_leaves l dC dI sk sv tc (A 16) (G 16) x1 x2 e1) (hI.er e3) hB' h7 h0 ⟨by decide, by decide, rfl, rfl, by decide, by decide⟩⟩
    · cases hr
  · obtain ⟨k, u, q, hr, rfl, rfl⟩ := h
    rcases e4 with ⟨u2, rfl, -⟩ | ⟨k2, u2, rfl, hk, hp, h0⟩
    · cases hr
    · cases hr
      exact ⟨k, blk tc A (va_up G 8 u) q1 lo ko hs SA SL SG SK SQ Z, rfl, rfl, fun i hi => blk_N (va_up_ne _ _ (fun z => hi (by rw [z]; decide))) (fun _ => rfl) (fun _ => rfl) rfl (fun _ => rfl) (fun _ => rfl), hk, mRE (c_X12_leaves l dC dI sk sv tc (A 16) (G 16) x1 x2 e1) (hI.er e3) hB' h7 h0 ⟨by decide, by decide, rfl, rfl, by decide, by decide⟩⟩
theorem top_pages (l : Launch) (hst : l.stackTraces = false) (dC : Nat → ClassId) (dI : Nat → Nat → Nat) (sk sv : Nat → Nat) (tc : Nat → ClassId) (ax am : Nat) {t : Int32} {w : va_W} (x1 x2 : Int32) (hT : Top tc ax am t w) : SC l (dC, dI) sk sv tc yX11_pages cX11_pages 3 (some .int) [.ref ax, .int x1, .int x2] w (PIr l (dC, dI) sk sv tc yX12_pages cX12_pages 6 (some .int) ax am [.ref am, .int x1, .int x2]) (PEr [0, 1] (fun k => if k = 0 then 1 else 2) l (dC, dI) sk sv tc yX12_pages cX12_pages 6 (some .int) ax am [.ref am, .int x1, .int x2]) := by
  obtain ⟨A, G, q1, lo, ko, sh, hs, SA, SL, SG, SK, SQ, Z, rfl, rfl, rfl, hI, hB, h7, rfl⟩ := hT
  obtain ⟨v, g', res, e1, e2, e3, e4⟩ : ∃ v g' res, f_X12_pages (G 16) x1 x2 = some (v, g') ∧ f_X11_pages (G 0) (G 2) (G 8) (G 13) x1 x2 = some res ∧ _ := t_pages hI.ok hI.rs _ _ _ x1 x2
  have hB' : hb g' := K_f_X12_pages _ _ _ hB _ e1
  have e4 := e4.p
  refine sC (f := blk tc A G q1 lo ko hs SA SL SG SK SQ Z) (is := [0, 2, 8, 13]) (CU.z (c_X11_pages l hst dC dI sk sv tc (A 0) (A 1 0) (A 4 0) (A 6 0) (A 7 0) (A 9 0) (A 11 0) (A 12 0) (A 14 0) (mrow hs SA 12) (A 2) (lref lo) (A 3 0) (A 8) (A 13) (G 0) (G 2) (G 8) (G 13) x1 x2 e2) (fun _ _ => rfl)) (by decide) (by decide) ⟨by decide, by decide, rfl, rfl, by decide, by decide⟩ (fun v9 w' h => ?_) (fun E w' h => ?_)
  · obtain ⟨r, u, q, hr, rfl, rfl⟩ := h
    rcases e4 with ⟨u2, rfl, hp, h0⟩ | ⟨k, u2, rfl, -⟩
    · cases hr
      exact ⟨blk tc A (va_up G 13 u) q1 lo ko hs SA SL SG SK SQ Z, rfl, fun i hi => blk_N (va_up_ne _ _ (fun z => hi (by rw [z]; decide))) (fun _ => rfl) (fun _ => rfl) rfl (fun _ => rfl) (fun _ => rfl), ⟨v, rfl⟩, mR (c_X12_pages l dC dI sk sv tc (A 16) (G 16) x1 x2 e1) (hI.er e3) hB' h7 h0 ⟨by decide, by decide, rfl, rfl, by decide, by decide⟩⟩
    · cases hr
  · obtain ⟨k, u, q, hr, rfl, rfl⟩ := h
    rcases e4 with ⟨u2, rfl, -⟩ | ⟨k2, u2, rfl, hk, hp, h0⟩
    · cases hr
    · cases hr
      exact ⟨k, blk tc A (va_up G 13 u) q1 lo ko hs SA SL SG SK SQ Z, rfl, rfl, fun i hi => blk_N (va_up_ne _ _ (fun z => hi (by rw [z]; decide))) (fun _ => rfl) (fun _ => rfl) rfl (fun _ => rfl) (fun _ => rfl), hk, mRE (c_X12_pages l dC dI sk sv tc (A 16) (G 16) x1 x2 e1) (hI.er e3) hB' h7 h0 ⟨by decide, by decide, rfl, rfl, by decide, by decide⟩⟩
theorem top_better (l : Launch) (hst : l.stackTraces = false) (dC : Nat → ClassId) (dI : Nat → Nat → Nat) (sk sv : Nat → Nat) (tc : Nat → ClassId) (ax am : Nat) {t : Int32} {w : va_W} (x1 x2 : Int32) (hT : Top tc ax am t w) : SC l (dC, dI) sk sv tc yX11_better cX11_better 3 (some .boolean) [.ref ax, .int x1, .int x2] w (PIz l (dC, dI) sk sv tc yX12_better cX12_better 3 (some .boolean) ax am [.ref am, .int x1, .int x2]) (PEr [0, 1] (fun k => if k = 0 then 1 else 2) l (dC, dI) sk sv tc yX12_better cX12_better 3 (some .boolean) ax am [.ref am, .int x1, .int x2]) := by
  obtain ⟨A, G, q1, lo, ko, sh, hs, SA, SL, SG, SK, SQ, Z, rfl, rfl, rfl, hI, hB, h7, rfl⟩ := hT
  obtain ⟨v, g', res, e1, e2, e3, e4, ez⟩ : ∃ v g' res, f_X12_better (G 16) x1 x2 = some (v, g') ∧ f_X11_better (G 0) (G 2) (G 8) (G 13) x1 x2 = some res ∧ _ := t_better hI.ok hI.rs _ _ _ x1 x2
  have hB' : hb g' := K_f_X12_better _ _ _ hB _ e1
  have e4 := e4.p
  refine sC (f := blk tc A G q1 lo ko hs SA SL SG SK SQ Z) (is := [0, 2, 8, 13]) (CU.z (c_X11_better l hst dC dI sk sv tc (A 0) (A 1 0) (A 4 0) (A 6 0) (A 7 0) (A 9 0) (A 11 0) (A 12 0) (A 14 0) (mrow hs SA 12) (A 2) (lref lo) (A 3 0) (A 8) (A 13) (G 0) (G 2) (G 8) (G 13) x1 x2 e2) (fun _ _ => rfl)) (by decide) (by decide) ⟨by decide, by decide, rfl, rfl, by decide, by decide⟩ (fun v9 w' h => ?_) (fun E w' h => ?_)
  · obtain ⟨r, u, q, hr, rfl, rfl⟩ := h
    rcases e4 with ⟨u2, rfl, hp, h0⟩ | ⟨k, u2, rfl, -⟩
    · cases hr
      exact ⟨blk tc A (va_up G 8 u) q1 lo ko hs SA SL SG SK SQ Z, rfl, fun i hi => blk_N (va_up_ne _ _ (fun z => hi (by rw [z]; decide))) (fun _ => rfl) (fun _ => rfl) rfl (fun _ => rfl) (fun _ => rfl), by rcases ez with rfl | rfl; exact Or.inl rfl; exact Or.inr rfl, mR (c_X12_better l dC dI sk sv tc (A 16) (G 16) x1 x2 e1) (hI.er e3) hB' h7 h0 ⟨by decide, by decide, rfl, rfl, by decide, by decide⟩⟩
    · cases hr
  · obtain ⟨k, u, q, hr, rfl, rfl⟩ := h
    rcases e4 with ⟨u2, rfl, -⟩ | ⟨k2, u2, rfl, hk, hp, h0⟩
    · cases hr
    · cases hr
      exact ⟨k, blk tc A (va_up G 8 u) q1 lo ko hs SA SL SG SK SQ Z, rfl, rfl, fun i hi => blk_N (va_up_ne _ _ (fun z => hi (by rw [z]; decide))) (fun _ => rfl) (fun _ => rfl) rfl (fun _ => rfl) (fun _ => rfl), hk, mRE (c_X12_better l dC dI sk sv tc (A 16) (G 16) x1 x2 e1) (hI.er e3) hB' h7 h0 ⟨by decide, by decide, rfl, rfl, by decide, by decide⟩⟩
theorem top_heard (l : Launch) (hst : l.stackTraces = false) (dC : Nat → ClassId) (dI : Nat → Nat → Nat) (sk sv : Nat → Nat) (tc : Nat → ClassId) (ax am : Nat) {t : Int32} {w : va_W} (hT : Top tc ax am t w) : SC l (dC, dI) sk sv tc yX11_heard cX11_heard 1 (some .int) [.ref ax] w (PIr l (dC, dI) sk sv tc yX12_heard cX12_heard 2 (some .int) ax am [.ref am]) (PEr [1] (fun _ => 1) l (dC, dI) sk sv tc yX12_heard cX12_heard 2 (some .int) ax am [.ref am]) := by
  obtain ⟨A, G, q1, lo, ko, sh, hs, SA, SL, SG, SK, SQ, Z, rfl, rfl, rfl, hI, hB, h7, rfl⟩ := hT
  obtain ⟨v, g', res, e1, e2, e3, e4⟩ : ∃ v g' res, f_X12_heard (G 16) = some (v, g') ∧ f_X11_heard (G 0) (G 1) (G 2) (G 12) = some res ∧ _ := t_heard hI.ok hI.rs hI.rt _ _
  have hB' : hb g' := K_f_X12_heard _ hB _ e1
  refine sC (f := blk tc A G q1 lo ko hs SA SL SG SK SQ Z) (is := [0, 1, 2, 12]) (CU.z (c_X11_heard l hst dC dI sk sv tc (A 0) (A 4 0) (A 6 0) (A 7 0) (A 8 0) (A 9 0) (A 11 0) (A 13 0) (A 14 0) (mrow hs SA 12) (A 1) (A 2) (lref lo) (A 3 0) (A 12) (G 0) (G 1) (G 2) (G 12) e2) (fun _ _ => rfl)) (by decide) (by decide) ⟨by decide, by decide, rfl, rfl, by decide, by decide⟩ (fun v9 w' h => ?_) (fun E w' h => ?_)
  · obtain ⟨r, u, q, hr, rfl, rfl⟩ := h
    rcases e4 with ⟨u2, rfl, hp, h0⟩ | ⟨k, u2, rfl, -⟩
    · cases hr
      exact ⟨blk tc A (va_up (va_up G 1 u.1) 12 u.2) q1 lo ko hs SA SL SG SK SQ Z, rfl, fun i hi => blk_N ((va_up_ne _ _ (fun z => hi (by rw [z]; decide))).trans (va_up_ne _ _ (fun z => hi (by rw [z]; decide)))) (fun _ => rfl) (fun _ => rfl) rfl (fun _ => rfl) (fun _ => rfl), ⟨v, rfl⟩, mR (c_X12_heard l dC dI sk sv tc (A 16) (G 16) e1) (hI.ez e3 hp) hB' h7 h0 ⟨by decide, by decide, rfl, rfl, by decide, by decide⟩⟩
    · cases hr
  · obtain ⟨k, u, q, hr, rfl, rfl⟩ := h
    rcases e4 with ⟨u2, rfl, -⟩ | ⟨k2, u2, rfl, hk, hp, h0⟩
    · cases hr
    · cases hr
      exact ⟨k, blk tc A (va_up (va_up G 1 u.1) 12 u.2) q1 lo ko hs SA SL SG SK SQ Z, rfl, rfl, fun i hi => blk_N ((va_up_ne _ _ (fun z => hi (by rw [z]; decide))).trans (va_up_ne _ _ (fun z => hi (by rw [z]; decide)))) (fun _ => rfl) (fun _ => rfl) rfl (fun _ => rfl) (fun _ => rfl), hk, mRE (c_X12_heard l dC dI sk sv tc (A 16) (G 16) e1) (hI.ez e3 hp) hB' h7 h0 ⟨by decide, by decide, rfl, rfl, by decide, by decide⟩⟩
theorem top_likely (l : Launch) (hst : l.stackTraces = false) (dC : Nat → ClassId) (dI : Nat → Nat → Nat) (sk sv : Nat → Nat) (tc : Nat → ClassId) (ax am : Nat) {t : Int32} {w : va_W} (hT : Top tc ax am t w) : SC l (dC, dI) sk sv tc yX11_likely cX11_likely 1 (some .int) [.ref ax] w (PIr l (dC, dI) sk sv tc yX12_likely cX12_likely 5 (some .int) ax am [.ref am]) (PEr [1] (fun _ => 1) l (dC, dI) sk sv tc yX12_likely cX12_likely 5 (some .int) ax am [.ref am]) := by
  obtain ⟨A, G, q1, lo, ko, sh, hs, SA, SL, SG, SK, SQ, Z, rfl, rfl, rfl, hI, hB, h7, rfl⟩ := hT
  obtain ⟨v, g', res, e1, e2, e3, e4⟩ : ∃ v g' res, f_X12_likely (G 16) = some (v, g') ∧ f_X11_likely (G 0) (G 1) (G 2) (G 12) = some res ∧ _ := t_likely hI.ok hI.rs hI.rt _ _
  have hB' : hb g' := K_f_X12_likely _ hB _ e1
  refine sC (f := blk tc A G q1 lo ko hs SA SL SG SK SQ Z) (is := [0, 1, 2, 12]) (CU.z (c_X11_likely l hst dC dI sk sv tc (A 0) (A 4 0) (A 6 0) (A 7 0) (A 8 0) (A 9 0) (A 11 0) (A 13 0) (A 14 0) (mrow hs SA 12) (A 1) (A 2) (lref lo) (A 3 0) (A 12) (G 0) (G 1) (G 2) (G 12) e2) (fun _ _ => rfl)) (by decide) (by decide) ⟨by decide, by decide, rfl, rfl, by decide, by decide⟩ (fun v9 w' h => ?_) (fun E w' h => ?_)
  · obtain ⟨r, u, q, hr, rfl, rfl⟩ := h
    rcases e4 with ⟨u2, rfl, hp, h0⟩ | ⟨k, u2, rfl, -⟩
    · cases hr
      exact ⟨blk tc A (va_up (va_up G 1 u.1) 12 u.2) q1 lo ko hs SA SL SG SK SQ Z, rfl, fun i hi => blk_N ((va_up_ne _ _ (fun z => hi (by rw [z]; decide))).trans (va_up_ne _ _ (fun z => hi (by rw [z]; decide)))) (fun _ => rfl) (fun _ => rfl) rfl (fun _ => rfl) (fun _ => rfl), ⟨v, rfl⟩, mR (c_X12_likely l dC dI sk sv tc (A 16) (G 16) e1) (hI.ez e3 hp) hB' h7 h0 ⟨by decide, by decide, rfl, rfl, by decide, by decide⟩⟩
    · cases hr
  · obtain ⟨k, u, q, hr, rfl, rfl⟩ := h
    rcases e4 with ⟨u2, rfl, -⟩ | ⟨k2, u2, rfl, hk, hp, h0⟩
    · cases hr
    · cases hr
      exact ⟨k, blk tc A (va_up (va_up G 1 u.1) 12 u.2) q1 lo ko hs SA SL SG SK SQ Z, rfl, rfl, fun i hi => blk_N ((va_up_ne _ _ (fun z => hi (by rw [z]; decide))).trans (va_up_ne _ _ (fun z => hi (by rw [z]; decide)))) (fun _ => rfl) (fun _ => rfl) rfl (fun _ => rfl) (fun _ => rfl), hk, mRE (c_X12_likely l dC dI sk sv tc (A 16) (G 16) e1) (hI.ez e3 hp) hB' h7 h0 ⟨by decide, by decide, rfl, rfl, by decide, by decide⟩⟩
theorem top_look (l : Launch) (hst : l.stackTraces = false) (dC : Nat → ClassId) (dI : Nat → Nat → Nat) (sk sv : Nat → Nat) (tc : Nat → ClassId) (ax am : Nat) {t : Int32} {w : va_W} (hT : Top tc ax am t w) : SC l (dC, dI) sk sv tc yX11_look cX11_look 1 (some .int) [.ref ax] w (PIr l (dC, dI) sk sv tc yX12_look cX12_look 8 (some .int) ax am [.ref am]) (PEr [1] (fun _ => 1) l (dC, dI) sk sv tc yX12_look cX12_look 8 (some .int) ax am [.ref am]) := by
  obtain ⟨A, G, q1, lo, ko, sh, hs, SA, SL, SG, SK, SQ, Z, rfl, rfl, rfl, hI, hB, h7, rfl⟩ := hT
  obtain ⟨v, g', res, e1, e2, e3, e4⟩ : ∃ v g' res, f_X12_look (G 16) = some (v, g') ∧ f_X11_look (G 0) (G 1) (G 2) (G 12) = some res ∧ _ := t_look hI.ok hI.rs hI.rt _ _
  have hB' : hb g' := K_f_X12_look _ hB _ e1
  refine sC (f := blk tc A G q1 lo ko hs SA SL SG SK SQ Z) (is := [0, 1, 2, 12]) (CU.z (c_X11_look l hst dC dI sk sv tc (A 0) (A 4 0) (A 6 0) (A 7 0) (A 8 0) (A 9 0) (A 11 0) (A 13 0) (A 14 0) (mrow hs SA 12) (A 1) (A 2) (lref lo) (A 3 0) (A 12) (G 0) (G 1) (G 2) (G 12) e2) (fun _ _ => rfl)) (by decide) (by decide) ⟨by decide, by decide, rfl, rfl, by decide, by decide⟩ (fun v9 w' h => ?_) (fun E w' h => ?_)
  · obtain ⟨r, u, q, hr, rfl, rfl⟩ := h
    rcases e4 with ⟨u2, rfl, hp, h0⟩ | ⟨k, u2, rfl, -⟩
    · cases hr
      exact ⟨blk tc A (va_up (va_up G 1 u.1) 12 u.2) q1 lo ko hs SA SL SG SK SQ Z, rfl, fun i hi => blk_N ((va_up_ne _ _ (fun z => hi (by rw [z]; decide))).trans (va_up_ne _ _ (fun z => hi (by rw [z]; decide)))) (fun _ => rfl) (fun _ => rfl) rfl (fun _ => rfl) (fun _ => rfl), ⟨v, rfl⟩, mR (c_X12_look l dC dI sk sv tc (A 16) (G 16) e1) (hI.ez e3 hp) hB' h7 h0 ⟨by decide, by decide, rfl, rfl, by decide, by decide⟩⟩
    · cases hr
  · obtain ⟨k, u, q, hr, rfl, rfl⟩ := h
    rcases e4 with ⟨u2, rfl, -⟩ | ⟨k2, u2, rfl, hk, hp, h0⟩
    · cases hr
    · cases hr
      exact ⟨k, blk tc A (va_up (va_up G 1 u.1) 12 u.2) q1 lo ko hs SA SL SG SK SQ Z, rfl, rfl, fun i hi => blk_N ((va_up_ne _ _ (fun z => hi (by rw [z]; decide))).trans (va_up_ne _ _ (fun z => hi (by rw [z]; decide)))) (fun _ => rfl) (fun _ => rfl) rfl (fun _ => rfl) (fun _ => rfl), hk, mRE (c_X12_look l dC dI sk sv tc (A 16) (G 16) e1) (hI.ez e3 hp) hB' h7 h0 ⟨by decide, by decide, rfl, rfl, by decide, by decide⟩⟩
theorem top_hand (l : Launch) (hst : l.stackTraces = false) (dC : Nat → ClassId) (dI : Nat → Nat → Nat) (sk sv : Nat → Nat) (tc : Nat → ClassId) (ax am : Nat) {t : Int32} {w : va_W} (x1 : Int32) (hT : Top tc ax am t w) : SC l (dC, dI) sk sv tc yX11_hand cX11_hand 3 (some .int) [.ref ax, .int x1] w (PIr l (dC, dI) sk sv tc yX12_hand cX12_hand 5 (some .int) ax am [.ref am, .int x1]) (PEr [1] (fun _ => 1) l (dC, dI) sk sv tc yX12_hand cX12_hand 5 (some .int) ax am [.ref am, .int x1]) := by
  obtain ⟨A, G, q1, lo, ko, sh, hs, SA, SL, SG, SK, SQ, Z, rfl, rfl, rfl, hI, hB, h7, rfl⟩ := hT
  obtain ⟨v, g', res, e1, e2, e3, e4⟩ : ∃ v g' res, f_X12_hand (G 16) x1 = some (v, g') ∧ f_X11_hand (G 0) (G 1) (G 2) (G 12) x1 = some res ∧ _ := t_hand hI.ok hI.rs hI.rt _ _ x1
  have hB' : hb g' := K_f_X12_hand _ _ hB _ e1
  refine sC (f := blk tc A G q1 lo ko hs SA SL SG SK SQ Z) (is := [0, 1, 2, 12]) (CU.z (c_X11_hand l hst dC dI sk sv tc (A 0) (A 4 0) (A 6 0) (A 7 0) (A 8 0) (A 9 0) (A 11 0) (A 13 0) (A 14 0) (mrow hs SA 12) (A 1) (A 2) (lref lo) (A 3 0) (A 12) (G 0) (G 1) (G 2) (G 12) x1 e2) (fun _ _ => rfl)) (by decide) (by decide) ⟨by decide, by decide, rfl, rfl, by decide, by decide⟩ (fun v9 w' h => ?_) (fun E w' h => ?_)
  · obtain ⟨r, u, q, hr, rfl, rfl⟩ := h
    rcases e4 with ⟨u2, rfl, hp, h0⟩ | ⟨k, u2, rfl, -⟩
    · cases hr
      exact ⟨blk tc A (va_up (va_up G 1 u.1) 12 u.2) q1 lo ko hs SA SL SG SK SQ Z, rfl, fun i hi => blk_N ((va_up_ne _ _ (fun z => hi (by rw [z]; decide))).trans (va_up_ne _ _ (fun z => hi (by rw [z]; decide)))) (fun _ => rfl) (fun _ => rfl) rfl (fun _ => rfl) (fun _ => rfl), ⟨v, rfl⟩, mR (c_X12_hand l dC dI sk sv tc (A 16) (G 16) x1 e1) (hI.ez e3 hp) hB' h7 h0 ⟨by decide, by decide, rfl, rfl, by decide, by decide⟩⟩
    · cases hr
  · obtain ⟨k, u, q, hr, rfl, rfl⟩ := h
    rcases e4 with ⟨u2, rfl, -⟩ | ⟨k2, u2, rfl, hk, hp, h0⟩
    · cases hr
    · cases hr
      exact ⟨k, blk tc A (va_up (va_up G 1 u.1) 12 u.2) q1 lo ko hs SA SL SG SK SQ Z, rfl, rfl, fun i hi => blk_N ((va_up_ne _ _ (fun z => hi (by rw [z]; decide))).trans (va_up_ne _ _ (fun z => hi (by rw [z]; decide)))) (fun _ => rfl) (fun _ => rfl) rfl (fun _ => rfl) (fun _ => rfl), hk, mRE (c_X12_hand l dC dI sk sv tc (A 16) (G 16) x1 e1) (hI.ez e3 hp) hB' h7 h0 ⟨by decide, by decide, rfl, rfl, by decide, by decide⟩⟩
theorem top_ask (l : Launch) (hst : l.stackTraces = false) (dC : Nat → ClassId) (dI : Nat → Nat → Nat) (sk sv : Nat → Nat) (tc : Nat → ClassId) (ax am : Nat) {t : Int32} {w : va_W} (hT : Top tc ax am t w) : SC l (dC, dI) sk sv tc yX11_ask cX11_ask 1 (some .int) [.ref ax] w (PIr l (dC, dI) sk sv tc yX12_ask cX12_ask 9 (some .int) ax am [.ref am]) (PEr [1] (fun _ => 1) l (dC, dI) sk sv tc yX12_ask cX12_ask 9 (some .int) ax am [.ref am]) := by
  obtain ⟨A, G, q1, lo, ko, sh, hs, SA, SL, SG, SK, SQ, Z, rfl, rfl, rfl, hI, hB, h7, rfl⟩ := hT
  obtain ⟨v, g', res, e1, e2, e3, e4⟩ : ∃ v g' res, f_X12_ask (G 16) = some (v, g') ∧ f_X11_ask (G 0) (G 1) (G 2) (G 12) = some res ∧ _ := t_ask hI.ok hI.rs hI.rt _ _
  have hB' : hb g' := K_f_X12_ask _ hB _ e1
  refine sC (f := blk tc A G q1 lo ko hs SA SL SG SK SQ Z) (is := [0, 1, 2, 12]) (CU.z (c_X11_ask l hst dC dI sk sv tc (A 0) (A 4 0) (A 6 0) (A 7 0) (A 8 0) (A 9 0) (A 11 0) (A 13 0) (A 14 0) (mrow hs SA 12) (A 1) (A 2) (lref lo) (A 3 0) (A 12) (G 0) (G 1) (G 2) (G 12) e2) (fun _ _ => rfl)) (by decide) (by decide) ⟨by decide, by decide, rfl, rfl, by decide, by decide⟩ (fun v9 w' h => ?_) (fun E w' h => ?_)
  · obtain ⟨r, u, q, hr, rfl, rfl⟩ := h
    rcases e4 with ⟨u2, rfl, hp, h0⟩ | ⟨k, u2, rfl, -⟩
    · cases hr
      exact ⟨blk tc A (va_up (va_up G 1 u.1) 12 u.2) q1 lo ko hs SA SL SG SK SQ Z, rfl, fun i hi => blk_N ((va_up_ne _ _ (fun z => hi (by rw [z]; decide))).trans (va_up_ne _ _ (fun z => hi (by rw [z]; decide)))) (fun _ => rfl) (fun _ => rfl) rfl (fun _ => rfl) (fun _ => rfl), ⟨v, rfl⟩, mR (c_X12_ask l dC dI sk sv tc (A 16) (G 16) e1) (hI.ez e3 hp) hB' h7 h0 ⟨by decide, by decide, rfl, rfl, by decide, by decide⟩⟩
    · cases hr
  · obtain ⟨k, u, q, hr, rfl, rfl⟩ := h
    rcases e4 with ⟨u2, rfl, -⟩ | ⟨k2, u2, rfl, hk, hp, h0⟩
    · cases hr
    · cases hr
      exact ⟨k, blk tc A (va_up (va_up G 1 u.1) 12 u.2) q1 lo ko hs SA SL SG SK SQ Z, rfl, rfl, fun i hi => blk_N ((va_up_ne _ _ (fun z => hi (by rw [z]; decide))).trans (va_up_ne _ _ (fun z => hi (by rw [z]; decide)))) (fun _ => rfl) (fun _ => rfl) rfl (fun _ => rfl) (fun _ => rfl), hk, mRE (c_X12_ask l dC dI sk sv tc (A 16) (G 16) e1) (hI.ez e3 hp) hB' h7 h0 ⟨by decide, by decide, rfl, rfl, by decide, by decide⟩⟩
theorem top_whose (l : Launch) (hst : l.stackTraces = false) (dC : Nat → ClassId) (dI : Nat → Nat → Nat) (sk sv : Nat → Nat) (tc : Nat → ClassId) (ax am : Nat) {t : Int32} {w : va_W} (hT : Top tc ax am t w) : SC l (dC, dI) sk sv tc yX11_whose cX11_whose 1 (some .int) [.ref ax] w (PIr l (dC, dI) sk sv tc yX12_whose cX12_whose 4 (some .int) ax am [.ref am]) (PEr [1] (fun _ => 1) l (dC, dI) sk sv tc yX12_whose cX12_whose 4 (some .int) ax am [.ref am]) := by
  obtain ⟨A, G, q1, lo, ko, sh, hs, SA, SL, SG, SK, SQ, Z, rfl, rfl, rfl, hI, hB, h7, rfl⟩ := hT
  obtain ⟨v, g', res, e1, e2, e3, e4⟩ : ∃ v g' res, f_X12_whose (G 16) = some (v, g') ∧ f_X11_whose (G 0) (G 1) (G 2) (G 12) = some res ∧ _ := t_whose hI.ok hI.rs hI.rt _ _
  have hB' : hb g' := K_f_X12_whose _ hB _ e1
  refine sC (f := blk tc A G q1 lo ko hs SA SL SG SK SQ Z) (is := [0, 1, 2, 12]) (CU.z (c_X11_whose l hst dC dI sk sv tc (A 0) (A 4 0) (A 6 0) (A 7 0) (A 8 0) (A 9 0) (A 11 0) (A 13 0) (A 14 0) (mrow hs SA 12) (A 1) (A 2) (lref lo) (A 3 0) (A 12) (G 0) (G 1) (G 2) (G 12) e2) (fun _ _ => rfl)) (by decide) (by decide) ⟨by decide, by decide, rfl, rfl, by decide, by decide⟩ (fun v9 w' h => ?_) (fun E w' h => ?_)
  · obtain ⟨r, u, q, hr, rfl, rfl⟩ := h
    rcases e4 with ⟨u2, rfl, hp, h0⟩ | ⟨k, u2, rfl, -⟩
    · cases hr
      exact ⟨blk tc A (va_up (va_up G 1 u.1) 12 u.2) q1 lo ko hs SA SL SG SK SQ Z, rfl, fun i hi => blk_N ((va_up_ne _ _ (fun z => hi (by rw [z]; decide))).trans (va_up_ne _ _ (fun z => hi (by rw [z]; decide)))) (fun _ => rfl) (fun _ => rfl) rfl (fun _ => rfl) (fun _ => rfl), ⟨v, rfl⟩, mR (c_X12_whose l dC dI sk sv tc (A 16) (G 16) e1) (hI.ez e3 hp) hB' h7 h0 ⟨by decide, by decide, rfl, rfl, by decide, by decide⟩⟩
    · cases hr
  · obtain ⟨k, u, q, hr, rfl, rfl⟩ := h
    rcases e4 with ⟨u2, rfl, -⟩ | ⟨k2, u2, rfl, hk, hp, h0⟩
    · cases hr
    · cases hr
      exact ⟨k, blk tc A (va_up (va_up G 1 u.1) 12 u.2) q1 lo ko hs SA SL SG SK SQ Z, rfl, rfl, fun i hi => blk_N ((va_up_ne _ _ (fun z => hi (by rw [z]; decide))).trans (va_up_ne _ _ (fun z => hi (by rw [z]; decide)))) (fun _ => rfl) (fun _ => rfl) rfl (fun _ => rfl) (fun _ => rfl), hk, mRE (c_X12_whose l dC dI sk sv tc (A 16) (G 16) e1) (hI.ez e3 hp) hB' h7 h0 ⟨by decide, by decide, rfl, rfl, by decide, by decide⟩⟩
theorem top_keepsUp (l : Launch) (hst : l.stackTraces = false) (dC : Nat → ClassId) (dI : Nat → Nat → Nat) (sk sv : Nat → Nat) (tc : Nat → ClassId) (ax am : Nat) {t : Int32} {w : va_W} (x1 x2 : Int32) (hT : Top tc ax am t w) : SC l (dC, dI) sk sv tc yX11_keepsUp cX11_keepsUp 3 (some .boolean) [.ref ax, .int x1, .int x2] w (PIz l (dC, dI) sk sv tc yX12_keepsUp cX12_keepsUp 3 (some .boolean) ax am [.ref am, .int x1, .int x2]) (PEr [0] (fun _ => 1) l (dC, dI) sk sv tc yX12_keepsUp cX12_keepsUp 3 (some .boolean) ax am [.ref am, .int x1, .int x2]) := by
  obtain ⟨A, G, q1, lo, ko, sh, hs, SA, SL, SG, SK, SQ, Z, rfl, rfl, rfl, hI, hB, h7, rfl⟩ := hT
  cases lo with
  | none =>
    obtain ⟨v, g', res, e1, e2, e3, e4, ez⟩ : ∃ v g' res, f_X12_keepsUp (G 16) x1 x2 = some (v, g') ∧ f_X11_keepsUp_n (G 0) (G 2) (G 3) (G 8) (G 9) (G 10) x1 x2 = some res ∧ _ := t_keepsUpN hI.ok hI.rs _ _ _ _ x1 x2
    have hB' : hb g' := K_f_X12_keepsUp _ _ _ hB _ e1
    have e4 := e4.p
    refine sC (f := blk tc A G q1 none ko hs SA SL SG SK SQ Z) (is := [0, 2, 3, 8, 9, 10]) (CU.z (c_X11_keepsUp_n l hst dC dI sk sv tc (A 0) (A 1 0) (A 4 0) (A 6 0) (A 7 0) (A 11 0) (A 12 0) (A 13 0) (A 14 0) (mrow hs SA 12) (A 2) (A 3) (A 8) (A 9) (A 10) (G 0) (G 2) (G 3) (G 8) (G 9) (G 10) x1 x2 e2) (fun _ _ => rfl)) (by decide) (by decide) ⟨by decide, by decide, rfl, rfl, by decide, by decide⟩ (fun v9 w' h => ?_) (fun E w' h => ?_)
    · obtain ⟨r, u, q, hr, rfl, rfl⟩ := h
      rcases e4 with ⟨u2, rfl, hp, h0⟩ | ⟨k, u2, rfl, -⟩
      · cases hr
        exact ⟨blk tc A (va_up (va_up G 8 u.1) 10 u.2) q1 none ko hs SA SL SG SK SQ Z, rfl, fun i hi => blk_N ((va_up_ne _ _ (fun z => hi (by rw [z]; decide))).trans (va_up_ne _ _ (fun z => hi (by rw [z]; decide)))) (fun _ => rfl) (fun _ => rfl) rfl (fun _ => rfl) (fun _ => rfl), by rcases ez with rfl | rfl; exact Or.inl rfl; exact Or.inr rfl, mR (c_X12_keepsUp l dC dI sk sv tc (A 16) (G 16) x1 x2 e1) (hI.er e3) hB' h7 h0 ⟨by decide, by decide, rfl, rfl, by decide, by decide⟩⟩
      · cases hr
    · obtain ⟨k, u, q, hr, rfl, rfl⟩ := h
      rcases e4 with ⟨u2, rfl, -⟩ | ⟨k2, u2, rfl, hk, hp, h0⟩
      · cases hr
      · cases hr
        exact ⟨k, blk tc A (va_up (va_up G 8 u.1) 10 u.2) q1 none ko hs SA SL SG SK SQ Z, rfl, rfl, fun i hi => blk_N ((va_up_ne _ _ (fun z => hi (by rw [z]; decide))).trans (va_up_ne _ _ (fun z => hi (by rw [z]; decide)))) (fun _ => rfl) (fun _ => rfl) rfl (fun _ => rfl) (fun _ => rfl), hk, mRE (c_X12_keepsUp l dC dI sk sv tc (A 16) (G 16) x1 x2 e1) (hI.er e3) hB' h7 h0 ⟨by decide, by decide, rfl, rfl, by decide, by decide⟩⟩
  | some L =>
    obtain ⟨v, g', res, e1, e2, e3, e4, ez⟩ : ∃ v g' res, f_X12_keepsUp (G 16) x1 x2 = some (v, g') ∧ f_X11_keepsUp_l L.2.2 (G 0) (G 2) (G 3) (G 8) (G 9) (G 10) L.2.1 x1 x2 = some res ∧ _ := t_keepsUpL hI.ok hI.rs _ _ _ _ _ _ x1 x2
    have hB' : hb g' := K_f_X12_keepsUp _ _ _ hB _ e1
    have e4 := e4.p
    refine sC (f := blk tc A G q1 (some L) ko hs SA SL SG SK SQ Z) (is := [0, 2, 3, 8, 9, 10, 15]) (CU.z (c_X11_keepsUp_l l hst dC dI sk sv tc L.2.2 (A 0) (A 1 0) (A 4 0) (A 6 0) (A 7 0) (A 11 0) (A 12 0) (A 13 0) (A 14 0) (mrow hs SA 12) (A 2) (A 3) (A 8) (A 9) (A 10) L.1 (G 0) (G 2) (G 3) (G 8) (G 9) (G 10) L.2.1 x1 x2 e2) (fun _ _ => rfl)) (by decide) (by decide) ⟨by decide, by decide, rfl, rfl, by decide, by decide⟩ (fun v9 w' h => ?_) (fun E w' h => ?_)
    · obtain ⟨r, u, q, hr, rfl, rfl⟩ := h
      rcases e4 with ⟨u2, rfl, hp, h0⟩ | ⟨k, u2, rfl, -⟩
      · cases hr
        exact ⟨blk tc A (va_up (va_up G 8 u.1) 10 u.2) q1 (some L) ko hs SA SL SG SK SQ Z, rfl, fun i hi => blk_N ((va_up_ne _ _ (fun z => hi (by rw [z]; decide))).trans (va_up_ne _ _ (fun z => hi (by rw [z]; decide)))) (fun _ => rfl) (fun _ => rfl) rfl (fun _ => rfl) (fun _ => rfl), by rcases ez with rfl | rfl; exact Or.inl rfl; exact Or.inr rfl, mR (c_X12_keepsUp l dC dI sk sv tc (A 16) (G 16) x1 x2 e1) (hI.er e3) hB' h7 h0 ⟨by decide, by decide, rfl, rfl, by decide, by decide⟩⟩
      · cases hr
    · obtain ⟨k, u, q, hr, rfl, rfl⟩ := h
      rcases e4 with ⟨u2, rfl, -⟩ | ⟨k2, u2, rfl, hk, hp, h0⟩
      · cases hr
      · cases hr
        exact ⟨k, blk tc A (va_up (va_up G 8 u.1) 10 u.2) q1 (some L) ko hs SA SL SG SK SQ Z, rfl, rfl, fun i hi => blk_N ((va_up_ne _ _ (fun z => hi (by rw [z]; decide))).trans (va_up_ne _ _ (fun z => hi (by rw [z]; decide)))) (fun _ => rfl) (fun _ => rfl) rfl (fun _ => rfl) (fun _ => rfl), hk, mRE (c_X12_keepsUp l dC dI sk sv tc (A 16) (G 16) x1 x2 e1) (hI.er e3) hB' h7 h0 ⟨by decide, by decide, rfl, rfl, by decide, by decide⟩⟩
theorem top_slips (l : Launch) (hst : l.stackTraces = false) (dC : Nat → ClassId) (dI : Nat → Nat → Nat) (sk sv : Nat → Nat) (tc : Nat → ClassId) (ax am : Nat) {t : Int32} {w : va_W} (x1 x2 : Int32) (hT : Top tc ax am t w) : SC l (dC, dI) sk sv tc yX11_slips cX11_slips 3 (some .int) [.ref ax, .int x1, .int x2] w (PIr l (dC, dI) sk sv tc yX12_slips cX12_slips 3 (some .int) ax am [.ref am, .int x1, .int x2]) (PEr [0] (fun _ => 1) l (dC, dI) sk sv tc yX12_slips cX12_slips 3 (some .int) ax am [.ref am, .int x1, .int x2]) := by
  obtain ⟨A, G, q1, lo, ko, sh, hs, SA, SL, SG, SK, SQ, Z, rfl, rfl, rfl, hI, hB, h7, rfl⟩ := hT
  cases lo with
  | none =>
    obtain ⟨v, g', res, e1, e2, e3, e4⟩ : ∃ v g' res, f_X12_slips (G 16) x1 x2 = some (v, g') ∧ f_X11_slips_n (G 0) (G 2) (G 3) (G 8) (G 9) (G 10) x1 x2 = some res ∧ _ := t_slipsN hI.ok hI.rs hI.no1 _ _ _ _ x1 x2
    have hB' : hb g' := K_f_X12_slips _ _ _ hB _ e1
    have e4 := e4.p
    refine sC (f := blk tc A G q1 none ko hs SA SL SG SK SQ Z) (is := [0, 2, 3, 8, 9, 10]) (CU.z (c_X11_slips_n l hst dC dI sk sv tc (A 0) (A 1 0) (A 4 0) (A 6 0) (A 7 0) (A 11 0) (A 12 0) (A 13 0) (A 14 0) (mrow hs SA 12) (A 2) (A 3) (A 8) (A 9) (A 10) (G 0) (G 2) (G 3) (G 8) (G 9) (G 10) x1 x2 e2) (fun _ _ => rfl)) (by decide) (by decide) ⟨by decide, by decide, rfl, rfl, by decide, by decide⟩ (fun v9 w' h => ?_) (fun E w' h => ?_)
    · obtain ⟨r, u, q, hr, rfl, rfl⟩ := h
      rcases e4 with ⟨u2, rfl, hp, h0⟩ | ⟨k, u2, rfl, -⟩
      · cases hr
        exact ⟨blk tc A (va_up (va_up G 8 u.1) 10 u.2) q1 none ko hs SA SL SG SK SQ Z, rfl, fun i hi => blk_N ((va_up_ne _ _ (fun z => hi (by rw [z]; decide))).trans (va_up_ne _ _ (fun z => hi (by rw [z]; decide)))) (fun _ => rfl) (fun _ => rfl) rfl (fun _ => rfl) (fun _ => rfl), ⟨v, rfl⟩, mR (c_X12_slips l dC dI sk sv tc (A 16) (G 16) x1 x2 e1) (hI.er e3) hB' h7 h0 ⟨by decide, by decide, rfl, rfl, by decide, by decide⟩⟩
      · cases hr
    · obtain ⟨k, u, q, hr, rfl, rfl⟩ := h
      rcases e4 with ⟨u2, rfl, -⟩ | ⟨k2, u2, rfl, hk, hp, h0⟩
      · cases hr
      · cases hr
        exact ⟨k, blk tc A (va_up (va_up G 8 u.1) 10 u.2) q1 none ko hs SA SL SG SK SQ Z, rfl, rfl, fun i hi => blk_N ((va_up_ne _ _ (fun z => hi (by rw [z]; decide))).trans (va_up_ne _ _ (fun z => hi (by rw [z]; decide)))) (fun _ => rfl) (fun _ => rfl) rfl (fun _ => rfl) (fun _ => rfl), hk, mRE (c_X12_slips l dC dI sk sv tc (A 16) (G 16) x1 x2 e1) (hI.er e3) hB' h7 h0 ⟨by decide, by decide, rfl, rfl, by decide, by decide⟩⟩
  | some L =>
    obtain ⟨v, g', res, e1, e2, e3, e4, e5, e6⟩ : ∃ v g' res, f_X12_slips (G 16) x1 x2 = some (v, g') ∧ f_X11_slips_l L.2.2 (G 0) (G 2) (G 3) (G 8) (G 9) (G 10) L.2.1 x1 x2 = some res ∧ _ := t_slipsL hI.ok hI.rs hI.lw _ _ _ _ x1 x2
    have hB' : hb g' := K_f_X12_slips _ _ _ hB _ e1
    have e4 := e4.p
    refine sC (f := blk tc A G q1 (some L) ko hs SA SL SG SK SQ Z) (is := [0, 2, 3, 8, 9, 10, 15]) (CU.z (c_X11_slips_l l hst dC dI sk sv tc L.2.2 (A 0) (A 1 0) (A 4 0) (A 6 0) (A 7 0) (A 11 0) (A 12 0) (A 13 0) (A 14 0) (mrow hs SA 12) (A 2) (A 3) (A 8) (A 9) (A 10) L.1 (G 0) (G 2) (G 3) (G 8) (G 9) (G 10) L.2.1 x1 x2 e2) (fun _ _ => rfl)) (by decide) (by decide) ⟨by decide, by decide, rfl, rfl, by decide, by decide⟩ (fun v9 w' h => ?_) (fun E w' h => ?_)
    · obtain ⟨r, u, q, hr, rfl, rfl⟩ := h
      rcases e4 with ⟨u2, rfl, hp, h0⟩ | ⟨k, u2, rfl, -⟩
      · cases hr
        exact ⟨blk tc A (va_up (va_up G 8 u.1) 10 u.2.1) q1 (some (L.1, u.2.2, L.2.2)) ko hs SA SL SG SK SQ Z, rfl, fun i hi => blk_N ((va_up_ne _ _ (fun z => hi (by rw [z]; decide))).trans (va_up_ne _ _ (fun z => hi (by rw [z]; decide)))) (fun _ => rfl) (fun z => absurd (by rw [z]; decide) hi) rfl (fun _ => rfl) (fun _ => rfl), ⟨v, rfl⟩, mR (c_X12_slips l dC dI sk sv tc (A 16) (G 16) x1 x2 e1) (INV.er e3 (hI.lawp (hI.lw.g (e5 _ _ rfl)))) hB' h7 h0 ⟨by decide, by decide, rfl, rfl, by decide, by decide⟩⟩
      · cases hr
    · obtain ⟨k, u, q, hr, rfl, rfl⟩ := h
      rcases e4 with ⟨u2, rfl, -⟩ | ⟨k2, u2, rfl, hk, hp, h0⟩
      · cases hr
      · cases hr
        exact ⟨k, blk tc A (va_up (va_up G 8 u.1) 10 u.2.1) q1 (some (L.1, u.2.2, L.2.2)) ko hs SA SL SG SK SQ Z, rfl, rfl, fun i hi => blk_N ((va_up_ne _ _ (fun z => hi (by rw [z]; decide))).trans (va_up_ne _ _ (fun z => hi (by rw [z]; decide)))) (fun _ => rfl) (fun z => absurd (by rw [z]; decide) hi) rfl (fun _ => rfl) (fun _ => rfl), hk, mRE (c_X12_slips l dC dI sk sv tc (A 16) (G 16) x1 x2 e1) (INV.er e3 (hI.lawp (hI.lw.g (fun j _ => by rw [e6 _ _ rfl])))) hB' h7 h0 ⟨by decide, by decide, rfl, rfl, by decide, by decide⟩⟩
theorem top_odds (l : Launch) (hst : l.stackTraces = false) (dC : Nat → ClassId) (dI : Nat → Nat → Nat) (sk sv : Nat → Nat) (tc : Nat → ClassId) (ax am : Nat) {t : Int32} {w : va_W} (x1 x2 x3 : Int32) (hT : Top tc ax am t w) : SC l (dC, dI) sk sv tc yX11_odds cX11_odds 7 (some .int) [.ref ax, .int x1, .int x2, .int x3] w (PIr l (dC, dI) sk sv tc yX12_odds cX12_odds 6 (some .int) ax am [.ref am, .int x1, .int x2, .int x3]) (PEr [0, 1] (fun k => if k = 0 then 1 else 2) l (dC, dI) sk sv tc yX12_odds cX12_odds 6 (some .int) ax am [.ref am, .int x1, .int x2, .int x3]) := by
  obtain ⟨A, G, q1, lo, ko, sh, hs, SA, SL, SG, SK, SQ, Z, rfl, rfl, rfl, hI, hB, h7, rfl⟩ := hT
  cases lo with
  | none =>
    obtain ⟨v, g', res, e1, e2, e3, e4⟩ : ∃ v g' res, f_X12_odds (G 16) x1 x2 x3 = some (v, g') ∧ f_X11_odds_n (G 0) (G 2) (G 3) (G 8) (G 9) (G 10) x1 x2 x3 = some res ∧ _ := t_oddsN hI.ok hI.rs hI.no1 _ _ _ _ x1 x2 x3
    have hB' : hb g' := K_f_X12_odds _ _ _ _ hB _ e1
    have e4 := e4.p
    refine sC (f := blk tc A G q1 none ko hs SA SL SG SK SQ Z) (is := [0, 2, 3, 8, 9, 10]) (CU.z (c_X11_odds_n l hst dC dI sk sv tc (A 0) (A 1 0) (A 4 0) (A 6 0) (A 7 0) (A 11 0) (A 12 0) (A 13 0) (A 14 0) (mrow hs SA 12) (A 2) (A 3) (A 8) (A 9) (A 10) (G 0) (G 2) (G 3) (G 8) (G 9) (G 10) x1 x2 x3 e2) (fun _ _ => rfl)) (by decide) (by decide) ⟨by decide, by decide, rfl, rfl, by decide, by decide⟩ (fun v9 w' h => ?_) (fun E w' h => ?_)
    · obtain ⟨r, u, q, hr, rfl, rfl⟩ := h
      rcases e4 with ⟨u2, rfl, hp, h0⟩ | ⟨k, u2, rfl, -⟩
      · cases hr
        exact ⟨blk tc A (va_up (va_up G 8 u.1) 10 u.2) q1 none ko hs SA SL SG SK SQ Z, rfl, fun i hi => blk_N ((va_up_ne _ _ (fun z => hi (by rw [z]; decide))).trans (va_up_ne _ _ (fun z => hi (by rw [z]; decide)))) (fun _ => rfl) (fun _ => rfl) rfl (fun _ => rfl) (fun _ => rfl), ⟨v, rfl⟩, mR (c_X12_odds l dC dI sk sv tc (A 16) (G 16) x1 x2 x3 e1) (hI.er e3) hB' h7 h0 ⟨by decide, by decide, rfl, rfl, by decide, by decide⟩⟩
      · cases hr
    · obtain ⟨k, u, q, hr, rfl, rfl⟩ := h
      rcases e4 with ⟨u2, rfl, -⟩ | ⟨k2, u2, rfl, hk, hp, h0⟩
      · cases hr
      · cases hr
        exact ⟨k, blk tc A (va_up (va_up G 8 u.1) 10 u.2) q1 none ko hs SA SL SG SK SQ Z, rfl, rfl, fun i hi => blk_N ((va_up_ne _ _ (fun z => hi (by rw [z]; decide))).trans (va_up_ne _ _ (fun z => hi (by rw [z]; decide)))) (fun _ => rfl) (fun _ => rfl) rfl (fun _ => rfl) (fun _ => rfl), hk, mRE (c_X12_odds l dC dI sk sv tc (A 16) (G 16) x1 x2 x3 e1) (hI.er e3) hB' h7 h0 ⟨by decide, by decide, rfl, rfl, by decide, by decide⟩⟩
  | some L =>
    obtain ⟨v, g', res, e1, e2, e3, e4, e5, e6⟩ : ∃ v g' res, f_X12_odds (G 16) x1 x2 x3 = some (v, g') ∧ f_X11_odds_l L.2.2 (G 0) (G 2) (G 3) (G 8) (G 9) (G 10) L.2.1 x1 x2 x3 = some res ∧ _ := t_oddsL hI.ok hI.rs hI.lw _ _ _ _ x1 x2 x3
    have hB' : hb g' := K_f_X12_odds _ _ _ _ hB _ e1
    have e4 := e4.p
    refine sC (f := blk tc A G q1 (some L) ko hs SA SL SG SK SQ Z) (is := [0, 2, 3, 8, 9, 10, 15]) (CU.z (c_X11_odds_l l hst dC dI sk sv tc L.2.2 (A 0) (A 1 0) (A 4 0) (A 6 0) (A 7 0) (A 11 0) (A 12 0) (A 13 0) (A 14 0) (mrow hs SA 12) (A 2) (A 3) (A 8) (A 9) (A 10) L.1 (G 0) (G 2) (G 3) (G 8) (G 9) (G 10) L.2.1 x1 x2 x3 e2) (fun _ _ => rfl)) (by decide) (by decide) ⟨by decide, by decide, rfl, rfl, by decide, by decide⟩ (fun v9 w' h => ?_) (fun E w' h => ?_)
    · obtain ⟨r, u, q, hr, rfl, rfl⟩ := h
      rcases e4 with ⟨u2, rfl, hp, h0⟩ | ⟨k, u2, rfl, -⟩
      · cases hr
        exact ⟨blk tc A (va_up (va_up G 8 u.1) 10 u.2.1) q1 (some (L.1, u.2.2, L.2.2)) ko hs SA SL SG SK SQ Z, rfl, fun i hi => blk_N ((va_up_ne _ _ (fun z => hi (by rw [z]; decide))).trans (va_up_ne _ _ (fun z => hi (by rw [z]; decide)))) (fun _ => rfl) (fun z => absurd (by rw [z]; decide) hi) rfl (fun _ => rfl) (fun _ => rfl), ⟨v, rfl⟩, mR (c_X12_odds l dC dI sk sv tc (A 16) (G 16) x1 x2 x3 e1) (INV.er e3 (hI.lawp (hI.lw.g (e5 _ _ rfl)))) hB' h7 h0 ⟨by decide, by decide, rfl, rfl, by decide, by decide⟩⟩
      · cases hr
    · obtain ⟨k, u, q, hr, rfl, rfl⟩ := h
      rcases e4 with ⟨u2, rfl, -⟩ | ⟨k2, u2, rfl, hk, hp, h0⟩
      · cases hr
      · cases hr
        exact ⟨k, blk tc A (va_up (va_up G 8 u.1) 10 u.2.1) q1 (some (L.1, u.2.2, L.2.2)) ko hs SA SL SG SK SQ Z, rfl, rfl, fun i hi => blk_N ((va_up_ne _ _ (fun z => hi (by rw [z]; decide))).trans (va_up_ne _ _ (fun z => hi (by rw [z]; decide)))) (fun _ => rfl) (fun z => absurd (by rw [z]; decide) hi) rfl (fun _ => rfl) (fun _ => rfl), hk, mRE (c_X12_odds l dC dI sk sv tc (A 16) (G 16) x1 x2 x3 e1) (INV.er e3 (hI.lawp (hI.lw.g (fun j _ => by rw [e6 _ _ rfl])))) hB' h7 h0 ⟨by decide, by decide, rfl, rfl, by decide, by decide⟩⟩
theorem top_ahead (l : Launch) (hst : l.stackTraces = false) (dC : Nat → ClassId) (dI : Nat → Nat → Nat) (sk sv : Nat → Nat) (tc : Nat → ClassId) (ax am : Nat) {t : Int32} {w : va_W} (x1 x2 : Int32) (hT : Top tc ax am t w) : SC l (dC, dI) sk sv tc yX11_ahead cX11_ahead 3 (some .int) [.ref ax, .int x1, .int x2] w (PIr l (dC, dI) sk sv tc yX12_ahead cX12_ahead 5 (some .int) ax am [.ref am, .int x1, .int x2]) (PEr [0, 1] (fun k => if k = 0 then 1 else 2) l (dC, dI) sk sv tc yX12_ahead cX12_ahead 5 (some .int) ax am [.ref am, .int x1, .int x2]) := by
  obtain ⟨A, G, q1, lo, ko, sh, hs, SA, SL, SG, SK, SQ, Z, rfl, rfl, rfl, hI, hB, h7, rfl⟩ := hT
  cases lo with
  | none =>
    obtain ⟨v, g', res, e1, e2, e3, e4⟩ : ∃ v g' res, f_X12_ahead (G 16) x1 x2 = some (v, g') ∧ f_X11_ahead_n (G 0) (G 2) (G 3) (G 4) (G 5) (G 8) (G 9) (G 10) x1 x2 = some res ∧ _ := t_aheadN hI.ok hI.rs hI.no1 _ _ _ _ _ _ x1 x2
    have hB' : hb g' := K_f_X12_ahead _ _ _ hB _ e1
    refine sC (f := blk tc A G q1 none ko hs SA SL SG SK SQ Z) (is := [0, 2, 3, 4, 5, 8, 9, 10]) (CU.z (c_X11_ahead_n l hst dC dI sk sv tc (A 0) (A 1 0) (A 6 0) (A 7 0) (A 11 0) (A 12 0) (A 13 0) (A 14 0) (mrow hs SA 12) (A 2) (A 3) (A 4) q1 (A 5) (A 8) (A 9) (A 10) (G 0) (G 2) (G 3) (G 4) (G 5) (G 8) (G 9) (G 10) x1 x2 e2) (fun _ _ => rfl)) (by decide) (by decide) ⟨by decide, by decide, rfl, rfl, by decide, by decide⟩ (fun v9 w' h => ?_) (fun E w' h => ?_)
    · obtain ⟨r, u, q, hr, rfl, rfl⟩ := h
      rcases e4 with ⟨u2, rfl, hp, h0⟩ | ⟨k, u2, rfl, -⟩
      · cases hr
        exact ⟨blk tc A (va_up (va_up (va_up (va_up G 4 u.1) 5 u.2.1) 8 u.2.2.1) 10 u.2.2.2) q none ko hs SA SL SG SK SQ Z, rfl, fun i hi => blk_N ((((va_up_ne _ _ (fun z => hi (by rw [z]; decide))).trans (va_up_ne _ _ (fun z => hi (by rw [z]; decide)))).trans (va_up_ne _ _ (fun z => hi (by rw [z]; decide)))).trans (va_up_ne _ _ (fun z => hi (by rw [z]; decide)))) (fun z => absurd (by rw [z]; decide) hi) (fun _ => rfl) rfl (fun _ => rfl) (fun _ => rfl), ⟨v, rfl⟩, mR (c_X12_ahead l dC dI sk sv tc (A 16) (G 16) x1 x2 e1) (hI.er e3) hB' h7 h0 ⟨by decide, by decide, rfl, rfl, by decide, by decide⟩⟩
      · cases hr
    · obtain ⟨k, u, q, hr, rfl, rfl⟩ := h
      rcases e4 with ⟨u2, rfl, -⟩ | ⟨k2, u2, rfl, hk, hp, h0⟩
      · cases hr
      · cases hr
        exact ⟨k, blk tc A (va_up (va_up (va_up (va_up G 4 u.1) 5 u.2.1) 8 u.2.2.1) 10 u.2.2.2) q none ko hs SA SL SG SK SQ Z, rfl, rfl, fun i hi => blk_N ((((va_up_ne _ _ (fun z => hi (by rw [z]; decide))).trans (va_up_ne _ _ (fun z => hi (by rw [z]; decide)))).trans (va_up_ne _ _ (fun z => hi (by rw [z]; decide)))).trans (va_up_ne _ _ (fun z => hi (by rw [z]; decide)))) (fun z => absurd (by rw [z]; decide) hi) (fun _ => rfl) rfl (fun _ => rfl) (fun _ => rfl), hk, mRE (c_X12_ahead l dC dI sk sv tc (A 16) (G 16) x1 x2 e1) (hI.er e3) hB' h7 h0 ⟨by decide, by decide, rfl, rfl, by decide, by decide⟩⟩
  | some L =>
    obtain ⟨v, g', res, e1, e2, e3, e4⟩ : ∃ v g' res, f_X12_ahead (G 16) x1 x2 = some (v, g') ∧ f_X11_ahead_l L.2.2 (G 0) (G 2) (G 3) (G 4) (G 5) (G 8) (G 9) (G 10) L.2.1 x1 x2 = some res ∧ _ := t_aheadL hI.ok hI.rs hI.lw _ _ _ _ _ _ x1 x2
    have hB' : hb g' := K_f_X12_ahead _ _ _ hB _ e1
    refine sC (f := blk tc A G q1 (some L) ko hs SA SL SG SK SQ Z) (is := [0, 2, 3, 4, 5, 8, 9, 10, 15]) (CU.z (c_X11_ahead_l l hst dC dI sk sv tc L.2.2 (A 0) (A 1 0) (A 6 0) (A 7 0) (A 11 0) (A 12 0) (A 13 0) (A 14 0) (mrow hs SA 12) (A 2) (A 3) (A 4) q1 (A 5) (A 8) (A 9) (A 10) L.1 (G 0) (G 2) (G 3) (G 4) (G 5) (G 8) (G 9) (G 10) L.2.1 x1 x2 e2) (fun _ _ => rfl)) (by decide) (by decide) ⟨by decide, by decide, rfl, rfl, by decide, by decide⟩ (fun v9 w' h => ?_) (fun E w' h => ?_)
    · obtain ⟨r, u, q, hr, rfl, rfl⟩ := h
      rcases e4 with ⟨u2, rfl, hp, h0⟩ | ⟨k, u2, rfl, -⟩
      · cases hr
        exact ⟨blk tc A (va_up (va_up (va_up (va_up G 4 u.1) 5 u.2.1) 8 u.2.2.1) 10 u.2.2.2.1) q (some (L.1, u.2.2.2.2, L.2.2)) ko hs SA SL SG SK SQ Z, rfl, fun i hi => blk_N ((((va_up_ne _ _ (fun z => hi (by rw [z]; decide))).trans (va_up_ne _ _ (fun z => hi (by rw [z]; decide)))).trans (va_up_ne _ _ (fun z => hi (by rw [z]; decide)))).trans (va_up_ne _ _ (fun z => hi (by rw [z]; decide)))) (fun z => absurd (by rw [z]; decide) hi) (fun z => absurd (by rw [z]; decide) hi) rfl (fun _ => rfl) (fun _ => rfl), ⟨v, rfl⟩, mR (c_X12_ahead l dC dI sk sv tc (A 16) (G 16) x1 x2 e1) (INV.er e3 (hI.lawp hp)) hB' h7 h0 ⟨by decide, by decide, rfl, rfl, by decide, by decide⟩⟩
      · cases hr
    · obtain ⟨k, u, q, hr, rfl, rfl⟩ := h
      rcases e4 with ⟨u2, rfl, -⟩ | ⟨k2, u2, rfl, hk, hp, h0⟩
      · cases hr
      · cases hr
        exact ⟨k, blk tc A (va_up (va_up (va_up (va_up G 4 u.1) 5 u.2.1) 8 u.2.2.1) 10 u.2.2.2.1) q (some (L.1, u.2.2.2.2, L.2.2)) ko hs SA SL SG SK SQ Z, rfl, rfl, fun i hi => blk_N ((((va_up_ne _ _ (fun z => hi (by rw [z]; decide))).trans (va_up_ne _ _ (fun z => hi (by rw [z]; decide)))).trans (va_up_ne _ _ (fun z => hi (by rw [z]; decide)))).trans (va_up_ne _ _ (fun z => hi (by rw [z]; decide)))) (fun z => absurd (by rw [z]; decide) hi) (fun z => absurd (by rw [z]; decide) hi) rfl (fun _ => rfl) (fun _ => rfl), hk, mRE (c_X12_ahead l dC dI sk sv tc (A 16) (G 16) x1 x2 e1) (INV.er e3 (hI.lawp hp)) hB' h7 h0 ⟨by decide, by decide, rfl, rfl, by decide, by decide⟩⟩
theorem top_trial (l : Launch) (hst : l.stackTraces = false) (dC : Nat → ClassId) (dI : Nat → Nat → Nat) (sk sv : Nat → Nat) (tc : Nat → ClassId) (ax am : Nat) {t : Int32} {w : va_W} (x1 x2 : Int32) (hT : Top tc ax am t w) : SC l (dC, dI) sk sv tc yX11_trial cX11_trial 3 (some .int) [.ref ax, .int x1, .int x2] w (PIr l (dC, dI) sk sv tc yX12_trial cX12_trial 5 (some .int) ax am [.ref am, .int x1, .int x2]) (PEr [1] (fun _ => 1) l (dC, dI) sk sv tc yX12_trial cX12_trial 5 (some .int) ax am [.ref am, .int x1, .int x2]) := by
  obtain ⟨A, G, q1, lo, ko, sh, hs, SA, SL, SG, SK, SQ, Z, rfl, rfl, rfl, hI, hB, h7, rfl⟩ := hT
  cases lo with
  | none =>
    obtain ⟨v, g', res, e1, e2, e3, e4⟩ : ∃ v g' res, f_X12_trial (G 16) x1 x2 = some (v, g') ∧ f_X11_trial_n (G 0) (G 2) (G 3) (G 4) (G 5) (G 8) (G 9) (G 10) x1 x2 = some res ∧ _ := t_trialN hI.ok hI.rs hI.no1 _ _ _ _ _ _ x1 x2
    have hB' : hb g' := K_f_X12_trial _ _ _ hB _ e1
    refine sC (f := blk tc A G q1 none ko hs SA SL SG SK SQ Z) (is := [0, 2, 3, 4, 5, 8, 9, 10]) (CU.z (c_X11_trial_n l hst dC dI sk sv tc (A 0) (A 1 0) (A 6 0) (A 7 0) (A 11 0) (A 12 0) (A 13 0) (A 14 0) (mrow hs SA 12) (A 2) (A 3) (A 4) q1 (A 5) (A 8) (A 9) (A 10) (G 0) (G 2) (G 3) (G 4) (G 5) (G 8) (G 9) (G 10) x1 x2 e2) (fun _ _ => rfl)) (by decide) (by decide) ⟨by decide, by decide, rfl, rfl, by decide, by decide⟩ (fun v9 w' h => ?_) (fun E w' h => ?_)
    · obtain ⟨r, u, q, hr, rfl, rfl⟩ := h
      rcases e4 with ⟨u2, rfl, hp, h0⟩ | ⟨k, u2, rfl, -⟩
      · cases hr
        exact ⟨blk tc A (va_up (va_up (va_up (va_up G 4 u.1) 5 u.2.1) 8 u.2.2.1) 10 u.2.2.2) q none ko hs SA SL SG SK SQ Z, rfl, fun i hi => blk_N ((((va_up_ne _ _ (fun z => hi (by rw [z]; decide))).trans (va_up_ne _ _ (fun z => hi (by rw [z]; decide)))).trans (va_up_ne _ _ (fun z => hi (by rw [z]; decide)))).trans (va_up_ne _ _ (fun z => hi (by rw [z]; decide)))) (fun z => absurd (by rw [z]; decide) hi) (fun _ => rfl) rfl (fun _ => rfl) (fun _ => rfl), ⟨v, rfl⟩, mR (c_X12_trial l dC dI sk sv tc (A 16) (G 16) x1 x2 e1) (hI.er e3) hB' h7 h0 ⟨by decide, by decide, rfl, rfl, by decide, by decide⟩⟩
      · cases hr
    · obtain ⟨k, u, q, hr, rfl, rfl⟩ := h
      rcases e4 with ⟨u2, rfl, -⟩ | ⟨k2, u2, rfl, hk, hp, h0⟩
      · cases hr
      · cases hr
        exact ⟨k, blk tc A (va_up (va_up (va_up (va_up G 4 u.1) 5 u.2.1) 8 u.2.2.1) 10 u.2.2.2) q none ko hs SA SL SG SK SQ Z, rfl, rfl, fun i hi => blk_N ((((va_up_ne _ _ (fun z => hi (by rw [z]; decide))).trans (va_up_ne _ _ (fun z => hi (by rw [z]; decide)))).trans (va_up_ne _ _ (fun z => hi (by rw [z]; decide)))).trans (va_up_ne _ _ (fun z => hi (by rw [z]; decide)))) (fun z => absurd (by rw [z]; decide) hi) (fun _ => rfl) rfl (fun _ => rfl) (fun _ => rfl), hk, mRE (c_X12_trial l dC dI sk sv tc (A 16) (G 16) x1 x2 e1) (hI.er e3) hB' h7 h0 ⟨by decide, by decide, rfl, rfl, by decide, by decide⟩⟩
  | some L =>
    obtain ⟨v, g', res, e1, e2, e3, e4⟩ : ∃ v g' res, f_X12_trial (G 16) x1 x2 = some (v, g') ∧ f_X11_trial_l L.2.2 (G 0) (G 2) (G 3) (G 4) (G 5) (G 8) (G 9) (G 10) L.2.1 x1 x2 = some res ∧ _ := t_trialL hI.ok hI.rs hI.lw _ _ _ _ _ _ x1 x2
    have hB' : hb g' := K_f_X12_trial _ _ _ hB _ e1
    refine sC (f := blk tc A G q1 (some L) ko hs SA SL SG SK SQ Z) (is := [0, 2, 3, 4, 5, 8, 9, 10, 15]) (CU.z (c_X11_trial_l l hst dC dI sk sv tc L.2.2 (A 0) (A 1 0) (A 6 0) (A 7 0) (A 11 0) (A 12 0) (A 13 0) (A 14 0) (mrow hs SA 12) (A 2) (A 3) (A 4) q1 (A 5) (A 8) (A 9) (A 10) L.1 (G 0) (G 2) (G 3) (G 4) (G 5) (G 8) (G 9) (G 10) L.2.1 x1 x2 e2) (fun _ _ => rfl)) (by decide) (by decide) ⟨by decide, by decide, rfl, rfl, by decide, by decide⟩ (fun v9 w' h => ?_) (fun E w' h => ?_)
    · obtain ⟨r, u, q, hr, rfl, rfl⟩ := h
      rcases e4 with ⟨u2, rfl, hp, h0⟩ | ⟨k, u2, rfl, -⟩
      · cases hr
        exact ⟨blk tc A (va_up (va_up (va_up (va_up G 4 u.1) 5 u.2.1) 8 u.2.2.1) 10 u.2.2.2.1) q (some (L.1, u.2.2.2.2, L.2.2)) ko hs SA SL SG SK SQ Z, rfl, fun i hi => blk_N ((((va_up_ne _ _ (fun z => hi (by rw [z]; decide))).trans (va_up_ne _ _ (fun z => hi (by rw [z]; decide)))).trans (va_up_ne _ _ (fun z => hi (by rw [z]; decide)))).trans (va_up_ne _ _ (fun z => hi (by rw [z]; decide)))) (fun z => absurd (by rw [z]; decide) hi) (fun z => absurd (by rw [z]; decide) hi) rfl (fun _ => rfl) (fun _ => rfl), ⟨v, rfl⟩, mR (c_X12_trial l dC dI sk sv tc (A 16) (G 16) x1 x2 e1) (INV.er e3 (hI.lawp hp)) hB' h7 h0 ⟨by decide, by decide, rfl, rfl, by decide, by decide⟩⟩
      · cases hr
    · obtain ⟨k, u, q, hr, rfl, rfl⟩ := h
      rcases e4 with ⟨u2, rfl, -⟩ | ⟨k2, u2, rfl, hk, hp, h0⟩
      · cases hr
      · cases hr
        exact ⟨k, blk tc A (va_up (va_up (va_up (va_up G 4 u.1) 5 u.2.1) 8 u.2.2.1) 10 u.2.2.2.1) q (some (L.1, u.2.2.2.2, L.2.2)) ko hs SA SL SG SK SQ Z, rfl, rfl, fun i hi => blk_N ((((va_up_ne _ _ (fun z => hi (by rw [z]; decide))).trans (va_up_ne _ _ (fun z => hi (by rw [z]; decide)))).trans (va_up_ne _ _ (fun z => hi (by rw [z]; decide)))).trans (va_up_ne _ _ (fun z => hi (by rw [z]; decide)))) (fun z => absurd (by rw [z]; decide) hi) (fun z => absurd (by rw [z]; decide) hi) rfl (fun _ => rfl) (fun _ => rfl), hk, mRE (c_X12_trial l dC dI sk sv tc (A 16) (G 16) x1 x2 e1) (INV.er e3 (hI.lawp hp)) hB' h7 h0 ⟨by decide, by decide, rfl, rfl, by decide, by decide⟩⟩
theorem top_span (l : Launch) (hst : l.stackTraces = false) (dC : Nat → ClassId) (dI : Nat → Nat → Nat) (sk sv : Nat → Nat) (tc : Nat → ClassId) (ax am : Nat) {t : Int32} {w : va_W} (x1 x2 : Int32) (hT : Top tc ax am t w) : SC l (dC, dI) sk sv tc yX11_span cX11_span 7 (some .int) [.ref ax, .int x1, .int x2] w (PIr l (dC, dI) sk sv tc yX12_span cX12_span 7 (some .int) ax am [.ref am, .int x1, .int x2]) (PEr [1] (fun _ => 1) l (dC, dI) sk sv tc yX12_span cX12_span 7 (some .int) ax am [.ref am, .int x1, .int x2]) := by
  obtain ⟨A, G, q1, lo, ko, sh, hs, SA, SL, SG, SK, SQ, Z, rfl, rfl, rfl, hI, hB, h7, rfl⟩ := hT
  cases lo with
  | none =>
    obtain ⟨v, g', res, e1, e2, e3, e4⟩ : ∃ v g' res, f_X12_span (G 16) x1 x2 = some (v, g') ∧ f_X11_span_n (G 0) (G 2) (G 3) (G 4) (G 5) (G 8) (G 9) (G 10) x1 x2 = some res ∧ _ := t_spanN hI.ok hI.rs hI.no1 _ _ _ _ _ _ x1 x2
    have hB' : hb g' := K_f_X12_span _ _ _ hB _ e1
    refine sC (f := blk tc A G q1 none ko hs SA SL SG SK SQ Z) (is := [0, 2, 3, 4, 5, 8, 9, 10]) (CU.z (c_X11_span_n l hst dC dI sk sv tc (A 0) (A 1 0) (A 6 0) (A 7 0) (A 11 0) (A 12 0) (A 13 0) (A 14 0) (mrow hs SA 12) (A 2) (A 3) (A 4) q1 (A 5) (A 8) (A 9) (A 10) (G 0) (G 2) (G 3) (G 4) (G 5) (G 8) (G 9) (G 10) x1 x2 e2) (fun _ _ => rfl)) (by decide) (by decide) ⟨by decide, by decide, rfl, rfl, by decide, by decide⟩ (fun v9 w' h => ?_) (fun E w' h => ?_)
    · obtain ⟨r, u, q, hr, rfl, rfl⟩ := h
      rcases e4 with ⟨u2, rfl, hp, h0⟩ | ⟨k, u2, rfl, -⟩
      · cases hr
        exact ⟨blk tc A (va_up (va_up (va_up (va_up G 4 u.1) 5 u.2.1) 8 u.2.2.1) 10 u.2.2.2) q none ko hs SA SL SG SK SQ Z, rfl, fun i hi => blk_N ((((va_up_ne _ _ (fun z => hi (by rw [z]; decide))).trans (va_up_ne _ _ (fun z => hi (by rw [z]; decide)))).trans (va_up_ne _ _ (fun z => hi (by rw [z]; decide)))).trans (va_up_ne _ _ (fun z => hi (by rw [z]; decide)))) (fun z => absurd (by rw [z]; decide) hi) (fun _ => rfl) rfl (fun _ => rfl) (fun _ => rfl), ⟨v, rfl⟩, mR (c_X12_span l dC dI sk sv tc (A 16) (G 16) x1 x2 e1) (hI.er e3) hB' h7 h0 ⟨by decide, by decide, rfl, rfl, by decide, by decide⟩⟩
      · cases hr
    · obtain ⟨k, u, q, hr, rfl, rfl⟩ := h
      rcases e4 with ⟨u2, rfl, -⟩ | ⟨k2, u2, rfl, hk, hp, h0⟩
      · cases hr
      · cases hr
        exact ⟨k, blk tc A (va_up (va_up (va_up (va_up G 4 u.1) 5 u.2.1) 8 u.2.2.1) 10 u.2.2.2) q none ko hs SA SL SG SK SQ Z, rfl, rfl, fun i hi => blk_N ((((va_up_ne _ _ (fun z => hi (by rw [z]; decide))).trans (va_up_ne _ _ (fun z => hi (by rw [z]; decide)))).trans (va_up_ne _ _ (fun z => hi (by rw [z]; decide)))).trans (va_up_ne _ _ (fun z => hi (by rw [z]; decide)))) (fun z => absurd (by rw [z]; decide) hi) (fun _ => rfl) rfl (fun _ => rfl) (fun _ => rfl), hk, mRE (c_X12_span l dC dI sk sv tc (A 16) (G 16) x1 x2 e1) (hI.er e3) hB' h7 h0 ⟨by decide, by decide, rfl, rfl, by decide, by decide⟩⟩
  | some L =>
    obtain ⟨v, g', res, e1, e2, e3, e4⟩ : ∃ v g' res, f_X12_span (G 16) x1 x2 = some (v, g') ∧ f_X11_span_l L.2.2 (G 0) (G 2) (G 3) (G 4) (G 5) (G 8) (G 9) (G 10) L.2.1 x1 x2 = some res ∧ _ := t_spanL hI.ok hI.rs hI.lw _ _ _ _ _ _ x1 x2
    have hB' : hb g' := K_f_X12_span _ _ _ hB _ e1
    refine sC (f := blk tc A G q1 (some L) ko hs SA SL SG SK SQ Z) (is := [0, 2, 3, 4, 5, 8, 9, 10, 15]) (CU.z (c_X11_span_l l hst dC dI sk sv tc L.2.2 (A 0) (A 1 0) (A 6 0) (A 7 0) (A 11 0) (A 12 0) (A 13 0) (A 14 0) (mrow hs SA 12) (A 2) (A 3) (A 4) q1 (A 5) (A 8) (A 9) (A 10) L.1 (G 0) (G 2) (G 3) (G 4) (G 5) (G 8) (G 9) (G 10) L.2.1 x1 x2 e2) (fun _ _ => rfl)) (by decide) (by decide) ⟨by decide, by decide, rfl, rfl, by decide, by decide⟩ (fun v9 w' h => ?_) (fun E w' h => ?_)
    · obtain ⟨r, u, q, hr, rfl, rfl⟩ := h
      rcases e4 with ⟨u2, rfl, hp, h0⟩ | ⟨k, u2, rfl, -⟩
      · cases hr
        exact ⟨blk tc A (va_up (va_up (va_up (va_up G 4 u.1) 5 u.2.1) 8 u.2.2.1) 10 u.2.2.2.1) q (some (L.1, u.2.2.2.2, L.2.2)) ko hs SA SL SG SK SQ Z, rfl, fun i hi => blk_N ((((va_up_ne _ _ (fun z => hi (by rw [z]; decide))).trans (va_up_ne _ _ (fun z => hi (by rw [z]; decide)))).trans (va_up_ne _ _ (fun z => hi (by rw [z]; decide)))).trans (va_up_ne _ _ (fun z => hi (by rw [z]; decide)))) (fun z => absurd (by rw [z]; decide) hi) (fun z => absurd (by rw [z]; decide) hi) rfl (fun _ => rfl) (fun _ => rfl), ⟨v, rfl⟩, mR (c_X12_span l dC dI sk sv tc (A 16) (G 16) x1 x2 e1) (INV.er e3 (hI.lawp hp)) hB' h7 h0 ⟨by decide, by decide, rfl, rfl, by decide, by decide⟩⟩
      · cases hr
    · obtain ⟨k, u, q, hr, rfl, rfl⟩ := h
      rcases e4 with ⟨u2, rfl, -⟩ | ⟨k2, u2, rfl, hk, hp, h0⟩
      · cases hr
      · cases hr
        exact ⟨k, blk tc A (va_up (va_up (va_up (va_up G 4 u.1) 5 u.2.1) 8 u.2.2.1) 10 u.2.2.2.1) q (some (L.1, u.2.2.2.2, L.2.2)) ko hs SA SL SG SK SQ Z, rfl, rfl, fun i hi => blk_N ((((va_up_ne _ _ (fun z => hi (by rw [z]; decide))).trans (va_up_ne _ _ (fun z => hi (by rw [z]; decide)))).trans (va_up_ne _ _ (fun z => hi (by rw [z]; decide)))).trans (va_up_ne _ _ (fun z => hi (by rw [z]; decide)))) (fun z => absurd (by rw [z]; decide) hi) (fun z => absurd (by rw [z]; decide) hi) rfl (fun _ => rfl) (fun _ => rfl), hk, mRE (c_X12_span l dC dI sk sv tc (A 16) (G 16) x1 x2 e1) (INV.er e3 (hI.lawp hp)) hB' h7 h0 ⟨by decide, by decide, rfl, rfl, by decide, by decide⟩⟩
theorem top_speech (l : Launch) (hst : l.stackTraces = false) (dC : Nat → ClassId) (dI : Nat → Nat → Nat) (sk sv : Nat → Nat) (tc : Nat → ClassId) (ax am : Nat) {t : Int32} {w : va_W} (x1 : Int32) (hT : Top tc ax am t w) : SC l (dC, dI) sk sv tc yX11_speech cX11_speech 2 (some .int) [.ref ax, .int x1] w (PIa l (dC, dI) sk sv tc yX12_speech cX12_speech 2 (some .int) ax am [.ref am, .int x1]) (fun _ _ => False) := by
  obtain ⟨A, G, q1, lo, ko, sh, hs, SA, SL, SG, SK, SQ, Z, rfl, rfl, rfl, hI, hB, h7, rfl⟩ := hT
  obtain ⟨v, g', e1, e2, e3⟩ : ∃ v g', f_X12_speech (G 16) x1 = some (v, g') ∧ f_X11_speech (G 0) (G 2) x1 = some v ∧ _ := t_speech hI.ok hI.rs _ x1
  have hB' : hb g' := K_f_X12_speech _ _ hB _ e1
  refine sC (f := blk tc A G q1 lo ko hs SA SL SG SK SQ Z) (is := [0, 2]) (CT.z (c_X11_speech l dC dI sk sv tc (A 0) (A 1 0) (A 4 0) (A 6 0) (A 7 0) (A 8 0) (A 9 0) (A 11 0) (A 12 0) (A 13 0) (A 14 0) (mrow hs SA 12) (A 2) (lref lo) (A 3 0) (G 0) (G 2) x1 e2) rfl) (by decide) (by decide) ⟨by decide, by decide, rfl, rfl, by decide, by decide⟩ (fun v9 w' h => ?_) (fun E w' h => h.elim)
  obtain ⟨rfl, rfl⟩ := h
  exact ⟨blk tc A G q1 lo ko hs SA SL SG SK SQ Z, rfl, fun i hi => blk_N rfl (fun _ => rfl) (fun _ => rfl) rfl (fun _ => rfl) (fun _ => rfl), ⟨v, rfl⟩, mRA (c_X12_speech l dC dI sk sv tc (A 16) (G 16) x1 e1) (hI.er e3) hB' h7 ⟨by decide, by decide, rfl, rfl, by decide, by decide⟩⟩
theorem top_echo (l : Launch) (hst : l.stackTraces = false) (dC : Nat → ClassId) (dI : Nat → Nat → Nat) (sk sv : Nat → Nat) (tc : Nat → ClassId) (ax am : Nat) {t : Int32} {w : va_W} (hT : Top tc ax am t w) : SC l (dC, dI) sk sv tc yX11_echo cX11_echo 1 (some .int) [.ref ax] w (PIa l (dC, dI) sk sv tc yX12_echo cX12_echo 5 (some .int) ax am [.ref am]) (fun _ _ => False) := by
  obtain ⟨A, G, q1, lo, ko, sh, hs, SA, SL, SG, SK, SQ, Z, rfl, rfl, rfl, hI, hB, h7, rfl⟩ := hT
  obtain ⟨v, g', e1, e2, e3⟩ : ∃ v g', f_X12_echo (G 16) = some (v, g') ∧ f_X11_echo (G 0) (G 2) (G 11) = some v ∧ _ := t_echo hI.ok hI.rs _ _
  have hB' : hb g' := K_f_X12_echo _ hB _ e1
  refine sC (f := blk tc A G q1 lo ko hs SA SL SG SK SQ Z) (is := [0, 2, 11]) (CT.z (c_X11_echo l dC dI sk sv tc (A 0) (A 1 0) (A 4 0) (A 6 0) (A 7 0) (A 8 0) (A 9 0) (A 12 0) (A 13 0) (A 14 0) (mrow hs SA 12) (A 2) (lref lo) (A 3 0) (A 11) (G 0) (G 2) (G 11) e2) rfl) (by decide) (by decide) ⟨by decide, by decide, rfl, rfl, by decide, by decide⟩ (fun v9 w' h => ?_) (fun E w' h => h.elim)
  obtain ⟨rfl, rfl⟩ := h
  exact ⟨blk tc A G q1 lo ko hs SA SL SG SK SQ Z, rfl, fun i hi => blk_N rfl (fun _ => rfl) (fun _ => rfl) rfl (fun _ => rfl) (fun _ => rfl), ⟨v, rfl⟩, mRA (c_X12_echo l dC dI sk sv tc (A 16) (G 16) e1) (hI.er e3) hB' h7 ⟨by decide, by decide, rfl, rfl, by decide, by decide⟩⟩
theorem top_twins (l : Launch) (hst : l.stackTraces = false) (dC : Nat → ClassId) (dI : Nat → Nat → Nat) (sk sv : Nat → Nat) (tc : Nat → ClassId) (ax am : Nat) {t : Int32} {w : va_W} (hT : Top tc ax am t w) : SC l (dC, dI) sk sv tc yX11_twins cX11_twins 1 (some .int) [.ref ax] w (PIa l (dC, dI) sk sv tc yX12_twins cX12_twins 6 (some .int) ax am [.ref am]) (fun _ _ => False) := by
  obtain ⟨A, G, q1, lo, ko, sh, hs, SA, SL, SG, SK, SQ, Z, rfl, rfl, rfl, hI, hB, h7, rfl⟩ := hT
  obtain ⟨v, g', e1, e2, e3⟩ : ∃ v g', f_X12_twins (G 16) = some (v, g') ∧ f_X11_twins (G 0) (G 2) (G 11) = some v ∧ _ := t_twins hI.ok hI.rs _ _
  have hB' : hb g' := K_f_X12_twins _ hB _ e1
  refine sC (f := blk tc A G q1 lo ko hs SA SL SG SK SQ Z) (is := [0, 2, 11]) (CT.z (c_X11_twins l dC dI sk sv tc (A 0) (A 1 0) (A 4 0) (A 6 0) (A 7 0) (A 8 0) (A 9 0) (A 12 0) (A 13 0) (A 14 0) (mrow hs SA 12) (A 2) (lref lo) (A 3 0) (A 11) (G 0) (G 2) (G 11) e2) rfl) (by decide) (by decide) ⟨by decide, by decide, rfl, rfl, by decide, by decide⟩ (fun v9 w' h => ?_) (fun E w' h => h.elim)
  obtain ⟨rfl, rfl⟩ := h
  exact ⟨blk tc A G q1 lo ko hs SA SL SG SK SQ Z, rfl, fun i hi => blk_N rfl (fun _ => rfl) (fun _ => rfl) rfl (fun _ => rfl) (fun _ => rfl), ⟨v, rfl⟩, mRA (c_X12_twins l dC dI sk sv tc (A 16) (G 16) e1) (hI.er e3) hB' h7 ⟨by decide, by decide, rfl, rfl, by decide, by decide⟩⟩
theorem top_silent (l : Launch) (hst : l.stackTraces = false) (dC : Nat → ClassId) (dI : Nat → Nat → Nat) (sk sv : Nat → Nat) (tc : Nat → ClassId) (ax am : Nat) {t : Int32} {w : va_W} (hT : Top tc ax am t w) : SC l (dC, dI) sk sv tc yX11_silent cX11_silent 3 (some .int) [.ref ax] w (PIa l (dC, dI) sk sv tc yX12_silent cX12_silent 3 (some .int) ax am [.ref am]) (fun _ _ => False) := by
  obtain ⟨A, G, q1, lo, ko, sh, hs, SA, SL, SG, SK, SQ, Z, rfl, rfl, rfl, hI, hB, h7, rfl⟩ := hT
  obtain ⟨v, g', e1, e2, e3⟩ : ∃ v g', f_X12_silent (G 16) = some (v, g') ∧ f_X11_silent (G 0) (G 2) (G 11) = some v ∧ _ := t_silent hI.ok hI.rs _ _
  have hB' : hb g' := K_f_X12_silent _ hB _ e1
  refine sC (f := blk tc A G q1 lo ko hs SA SL SG SK SQ Z) (is := [0, 2, 11]) (CT.z (c_X11_silent l dC dI sk sv tc (A 0) (A 1 0) (A 4 0) (A 6 0) (A 7 0) (A 8 0) (A 9 0) (A 12 0) (A 13 0) (A 14 0) (mrow hs SA 12) (A 2) (lref lo) (A 3 0) (A 11) (G 0) (G 2) (G 11) e2) rfl) (by decide) (by decide) ⟨by decide, by decide, rfl, rfl, by decide, by decide⟩ (fun v9 w' h => ?_) (fun E w' h => h.elim)
  obtain ⟨rfl, rfl⟩ := h
  exact ⟨blk tc A G q1 lo ko hs SA SL SG SK SQ Z, rfl, fun i hi => blk_N rfl (fun _ => rfl) (fun _ => rfl) rfl (fun _ => rfl) (fun _ => rfl), ⟨v, rfl⟩, mRA (c_X12_silent l dC dI sk sv tc (A 16) (G 16) e1) (hI.er e3) hB' h7 ⟨by decide, by decide, rfl, rfl, by decide, by decide⟩⟩
theorem top_oftenest (l : Launch) (hst : l.stackTraces = false) (dC : Nat → ClassId) (dI : Nat → Nat → Nat) (sk sv : Nat → Nat) (tc : Nat → ClassId) (ax am : Nat) {t : Int32} {w : va_W} (x1 : Int32) (hT : Top tc ax am t w) : SC l (dC, dI) sk sv tc yX11_oftenest cX11_oftenest 2 (some .int) [.ref ax, .int x1] w (PIa l (dC, dI) sk sv tc yX12_oftenest cX12_oftenest 5 (some .int) ax am [.ref am, .int x1]) (fun _ _ => False) := by
  obtain ⟨A, G, q1, lo, ko, sh, hs, SA, SL, SG, SK, SQ, Z, rfl, rfl, rfl, hI, hB, h7, rfl⟩ := hT
  obtain ⟨v, g', e1, e2, e3⟩ : ∃ v g', f_X12_oftenest (G 16) x1 = some (v, g') ∧ f_X11_oftenest (G 0) (G 2) x1 = some v ∧ _ := t_oftenest hI.ok hI.rs _ x1
  have hB' : hb g' := K_f_X12_oftenest _ _ hB _ e1
  refine sC (f := blk tc A G q1 lo ko hs SA SL SG SK SQ Z) (is := [0, 2]) (c_X11_oftenest l dC dI sk sv tc (A 0) (A 1 0) (A 4 0) (A 6 0) (A 7 0) (A 8 0) (A 9 0) (A 11 0) (A 12 0) (A 13 0) (A 14 0) (mrow hs SA 12) (A 2) (lref lo) (A 3 0) (G 0) (G 2) x1 e2) (by decide) (by decide) ⟨by decide, by decide, rfl, rfl, by decide, by decide⟩ (fun v9 w' h => ?_) (fun E w' h => h.elim)
  obtain ⟨rfl, rfl⟩ := h
  exact ⟨blk tc A G q1 lo ko hs SA SL SG SK SQ Z, rfl, fun i hi => blk_N rfl (fun _ => rfl) (fun _ => rfl) rfl (fun _ => rfl) (fun _ => rfl), ⟨v, rfl⟩, mRA (c_X12_oftenest l dC dI sk sv tc (A 16) (G 16) x1 e1) (hI.er e3) hB' h7 ⟨by decide, by decide, rfl, rfl, by decide, by decide⟩⟩
theorem top_quickest (l : Launch) (hst : l.stackTraces = false) (dC : Nat → ClassId) (dI : Nat → Nat → Nat) (sk sv : Nat → Nat) (tc : Nat → ClassId) (ax am : Nat) {t : Int32} {w : va_W} (x1 : Int32) (hT : Top tc ax am t w) : SC l (dC, dI) sk sv tc yX11_quickest cX11_quickest 2 (some .int) [.ref ax, .int x1] w (PIa l (dC, dI) sk sv tc yX12_quickest cX12_quickest 5 (some .int) ax am [.ref am, .int x1]) (fun _ _ => False) := by
  obtain ⟨A, G, q1, lo, ko, sh, hs, SA, SL, SG, SK, SQ, Z, rfl, rfl, rfl, hI, hB, h7, rfl⟩ := hT
  obtain ⟨v, g', e1, e2, e3⟩ : ∃ v g', f_X12_quickest (G 16) x1 = some (v, g') ∧ f_X11_quickest (G 0) (G 2) x1 = some v ∧ _ := t_quickest hI.ok hI.rs _ x1
  have hB' : hb g' := K_f_X12_quickest _ _ hB _ e1
  refine sC (f := blk tc A G q1 lo ko hs SA SL SG SK SQ Z) (is := [0, 2]) (c_X11_quickest l dC dI sk sv tc (A 0) (A 1 0) (A 4 0) (A 6 0) (A 7 0) (A 8 0) (A 9 0) (A 11 0) (A 12 0) (A 13 0) (A 14 0) (mrow hs SA 12) (A 2) (lref lo) (A 3 0) (G 0) (G 2) x1 e2) (by decide) (by decide) ⟨by decide, by decide, rfl, rfl, by decide, by decide⟩ (fun v9 w' h => ?_) (fun E w' h => h.elim)
  obtain ⟨rfl, rfl⟩ := h
  exact ⟨blk tc A G q1 lo ko hs SA SL SG SK SQ Z, rfl, fun i hi => blk_N rfl (fun _ => rfl) (fun _ => rfl) rfl (fun _ => rfl) (fun _ => rfl), ⟨v, rfl⟩, mRA (c_X12_quickest l dC dI sk sv tc (A 16) (G 16) x1 e1) (hI.er e3) hB' h7 ⟨by decide, by decide, rfl, rfl, by decide, by decide⟩⟩
theorem top_keep (l : Launch) (hst : l.stackTraces = false) (dC : Nat → ClassId) (dI : Nat → Nat → Nat) (sk sv : Nat → Nat) (tc : Nat → ClassId) (ax am : Nat) {t : Int32} {w : va_W} (hT : Top tc ax am t w) : SC l (dC, dI) sk sv tc yX11_keep cX11_keep 4 (some .int) [.ref ax] w (PIa l (dC, dI) sk sv tc yX12_keep cX12_keep 3 (some .int) ax am [.ref am]) (fun _ _ => False) := by
  obtain ⟨A, G, q1, lo, ko, sh, hs, SA, SL, SG, SK, SQ, Z, rfl, rfl, rfl, hI, hB, h7, rfl⟩ := hT
  obtain ⟨v, g', u0, e1, e2, e3⟩ : ∃ v g' u0, f_X12_keep (G 16) = some (v, g') ∧ f_X11_keep (G 0) (G 2) (G 8) = some (v, u0) ∧ _ := t_keep hI.ok hI.rs _ _
  have hB' : hb g' := K_f_X12_keep _ hB _ e1
  refine sC (f := blk tc A G q1 lo ko hs SA SL SG SK SQ Z) (is := [0, 2, 8]) (CT.z (c_X11_keep l dC dI sk sv tc (A 0) (A 1 0) (A 4 0) (A 6 0) (A 7 0) (A 9 0) (A 11 0) (A 12 0) (A 13 0) (A 14 0) (mrow hs SA 12) (A 2) (lref lo) (A 3 0) (A 8) (G 0) (G 2) (G 8) e2) rfl) (by decide) (by decide) ⟨by decide, by decide, rfl, rfl, by decide, by decide⟩ (fun v9 w' h => ?_) (fun E w' h => h.elim)
  obtain ⟨rfl, rfl⟩ := h
  exact ⟨blk tc A (va_up G 8 u0) q1 lo ko hs SA SL SG SK SQ Z, rfl, fun i hi => blk_N (va_up_ne _ _ (fun z => hi (by rw [z]; decide))) (fun _ => rfl) (fun _ => rfl) rfl (fun _ => rfl) (fun _ => rfl), ⟨v, rfl⟩, mRA (c_X12_keep l dC dI sk sv tc (A 16) (G 16) e1) (hI.er e3) hB' h7 ⟨by decide, by decide, rfl, rfl, by decide, by decide⟩⟩
theorem top_codes (l : Launch) (hst : l.stackTraces = false) (dC : Nat → ClassId) (dI : Nat → Nat → Nat) (sk sv : Nat → Nat) (tc : Nat → ClassId) (ax am : Nat) {t : Int32} {w : va_W} (hT : Top tc ax am t w) : SC l (dC, dI) sk sv tc yX11_codes cX11_codes 1 (some .int) [.ref ax] w (PIa l (dC, dI) sk sv tc yX12_codes cX12_codes 1 (some .int) ax am [.ref am]) (fun _ _ => False) := by
  obtain ⟨A, G, q1, lo, ko, sh, hs, SA, SL, SG, SK, SQ, Z, rfl, rfl, rfl, hI, hB, h7, rfl⟩ := hT
  obtain ⟨v, g', u0, e1, e2, e3⟩ : ∃ v g' u0, f_X12_codes (G 16) = some (v, g') ∧ f_X11_codes (G 0) (G 2) (G 11) = some (v, u0) ∧ _ := t_codes hI.ok hI.rs _ _
  have hB' : hb g' := K_f_X12_codes _ hB _ e1
  refine sC (f := blk tc A G q1 lo ko hs SA SL SG SK SQ Z) (is := [0, 2, 11]) (CT.z (c_X11_codes l dC dI sk sv tc (A 0) (A 1 0) (A 4 0) (A 6 0) (A 7 0) (A 8 0) (A 9 0) (A 12 0) (A 13 0) (A 14 0) (mrow hs SA 12) (A 2) (lref lo) (A 3 0) (A 11) (G 0) (G 2) (G 11) e2) rfl) (by decide) (by decide) ⟨by decide, by decide, rfl, rfl, by decide, by decide⟩ (fun v9 w' h => ?_) (fun E w' h => h.elim)
  obtain ⟨rfl, rfl⟩ := h
  exact ⟨blk tc A (va_up G 11 u0) q1 lo ko hs SA SL SG SK SQ Z, rfl, fun i hi => blk_N (va_up_ne _ _ (fun z => hi (by rw [z]; decide))) (fun _ => rfl) (fun _ => rfl) rfl (fun _ => rfl) (fun _ => rfl), ⟨v, rfl⟩, mRA (c_X12_codes l dC dI sk sv tc (A 16) (G 16) e1) (hI.er e3) hB' h7 ⟨by decide, by decide, rfl, rfl, by decide, by decide⟩⟩
theorem top_fluent (l : Launch) (hst : l.stackTraces = false) (dC : Nat → ClassId) (dI : Nat → Nat → Nat) (sk sv : Nat → Nat) (tc : Nat → ClassId) (ax am : Nat) {t : Int32} {w : va_W} (hT : Top tc ax am t w) : SC l (dC, dI) sk sv tc yX11_fluent cX11_fluent 3 (some .int) [.ref ax] w (PIa l (dC, dI) sk sv tc yX12_fluent cX12_fluent 3 (some .int) ax am [.ref am]) (fun _ _ => False) := by
  obtain ⟨A, G, q1, lo, ko, sh, hs, SA, SL, SG, SK, SQ, Z, rfl, rfl, rfl, hI, hB, h7, rfl⟩ := hT
  obtain ⟨v, g', u0, u1, e1, e2, e3⟩ : ∃ v g' u0 u1, f_X12_fluent (G 16) = some (v, g') ∧ f_X11_fluent (G 0) (G 2) (G 8) (G 13) = some (v, u0, u1) ∧ _ := t_fluent hI.ok hI.rs _ _ _
  have hB' : hb g' := K_f_X12_fluent _ hB _ e1
  refine sC (f := blk tc A G q1 lo ko hs SA SL SG SK SQ Z) (is := [0, 2, 8, 13]) (CT.z (c_X11_fluent l dC dI sk sv tc (A 0) (A 1 0) (A 4 0) (A 6 0) (A 7 0) (A 9 0) (A 11 0) (A 12 0) (A 14 0) (mrow hs SA 12) (A 2) (lref lo) (A 3 0) (A 8) (A 13) (G 0) (G 2) (G 8) (G 13) e2) rfl) (by decide) (by decide) ⟨by decide, by decide, rfl, rfl, by decide, by decide⟩ (fun v9 w' h => ?_) (fun E w' h => h.elim)
  obtain ⟨rfl, rfl⟩ := h
  exact ⟨blk tc A (va_up (va_up G 8 u0) 13 u1) q1 lo ko hs SA SL SG SK SQ Z, rfl, fun i hi => blk_N ((va_up_ne _ _ (fun z => hi (by rw [z]; decide))).trans (va_up_ne _ _ (fun z => hi (by rw [z]; decide)))) (fun _ => rfl) (fun _ => rfl) rfl (fun _ => rfl) (fun _ => rfl), ⟨v, rfl⟩, mRA (c_X12_fluent l dC dI sk sv tc (A 16) (G 16) e1) (hI.er e3) hB' h7 ⟨by decide, by decide, rfl, rfl, by decide, by decide⟩⟩
theorem top_count (l : Launch) (hst : l.stackTraces = false) (dC : Nat → ClassId) (dI : Nat → Nat → Nat) (sk sv : Nat → Nat) (tc : Nat → ClassId) (ax am : Nat) {t : Int32} {w : va_W} (x1 : Int32) (hT : Top tc ax am t w) : SC l (dC, dI) sk sv tc yX11_count cX11_count 2 (some .int) [.ref ax, .int x1] w (PIa l (dC, dI) sk sv tc yX12_count cX12_count 2 (some .int) ax am [.ref am, .int x1]) (fun _ _ => False) := by
  obtain ⟨A, G, q1, lo, ko, sh, hs, SA, SL, SG, SK, SQ, Z, rfl, rfl, rfl, hI, hB, h7, rfl⟩ := hT
  cases lo with
  | none =>
    obtain ⟨v, g', e1, e2, e3⟩ : ∃ v g', f_X12_count (G 16) x1 = some (v, g') ∧ f_X11_count_n (G 0) (G 2) (G 3) x1 = some v ∧ _ := t_countN hI.ok hI.rs hI.lw hI.six x1
    have hB' : hb g' := K_f_X12_count _ _ hB _ e1
    refine sC (f := blk tc A G q1 none ko hs SA SL SG SK SQ Z) (is := [0, 2, 3]) (CT.z (c_X11_count_n l dC dI sk sv tc (A 0) (A 1 0) (A 4 0) (A 6 0) (A 7 0) (A 8 0) (A 9 0) (A 11 0) (A 12 0) (A 13 0) (A 14 0) (mrow hs SA 12) (A 2) (A 3) (G 0) (G 2) (G 3) x1 e2) rfl) (by decide) (by decide) ⟨by decide, by decide, rfl, rfl, by decide, by decide⟩ (fun v9 w' h => ?_) (fun E w' h => h.elim)
    obtain ⟨rfl, rfl⟩ := h
    exact ⟨blk tc A G q1 none ko hs SA SL SG SK SQ Z, rfl, fun i hi => blk_N rfl (fun _ => rfl) (fun _ => rfl) rfl (fun _ => rfl) (fun _ => rfl), ⟨v, rfl⟩, mRA (c_X12_count l dC dI sk sv tc (A 16) (G 16) x1 e1) (hI.er e3) hB' h7 ⟨by decide, by decide, rfl, rfl, by decide, by decide⟩⟩
  | some L =>
    obtain ⟨v, g', e1, e2, e3⟩ : ∃ v g', f_X12_count (G 16) x1 = some (v, g') ∧ f_X11_count_l L.2.2 (G 0) (G 2) (G 3) L.2.1 x1 = some v ∧ _ := t_countL hI.ok hI.rs hI.lw hI.six x1
    have hB' : hb g' := K_f_X12_count _ _ hB _ e1
    refine sC (f := blk tc A G q1 (some L) ko hs SA SL SG SK SQ Z) (is := [0, 2, 3, 15]) (CT.z (c_X11_count_l l dC dI sk sv tc L.2.2 (A 0) (A 1 0) (A 4 0) (A 6 0) (A 7 0) (A 8 0) (A 9 0) (A 11 0) (A 12 0) (A 13 0) (A 14 0) (mrow hs SA 12) (A 2) (A 3) L.1 (G 0) (G 2) (G 3) L.2.1 x1 e2) rfl) (by decide) (by decide) ⟨by decide, by decide, rfl, rfl, by decide, by decide⟩ (fun v9 w' h => ?_) (fun E w' h => h.elim)
    obtain ⟨rfl, rfl⟩ := h
    exact ⟨blk tc A G q1 (some L) ko hs SA SL SG SK SQ Z, rfl, fun i hi => blk_N rfl (fun _ => rfl) (fun _ => rfl) rfl (fun _ => rfl) (fun _ => rfl), ⟨v, rfl⟩, mRA (c_X12_count l dC dI sk sv tc (A 16) (G 16) x1 e1) (hI.er e3) hB' h7 ⟨by decide, by decide, rfl, rfl, by decide, by decide⟩⟩
