/-! the acts, undone, an image, back -/
theorem blk_I {tc : Nat → ClassId} {A : Nat → Nat → Nat} {G : Nat → Pic} {q1 : Option Nat} {lo ko ko' : Option LawT} {hs : Nat → Bool} {SA SL : Nat → Nat → Nat} {SG SK : Nat → Pic} {SQ : Nat → Option Nat} {Z Z' : va_W} {u1 u2 : Nat → Nat} {x y : Pic} {q : Option Nat} {b : Bool} {i : Nat} (h0 : i ≠ 0) (h32 : i ≠ 32) (h17 : i ≠ 17) (h18 : i ≠ 18) : blk tc A G q1 lo ko' (va_up hs 12 b) (va_up SA 12 u1) (va_up SL 12 u2) (va_up SG 12 x) (va_up SK 12 y) (va_up SQ 12 q) Z' i = blk tc A G q1 lo ko hs SA SL SG SK SQ Z i := by
  unfold blk
  split <;> first | rfl | (rw [mrw_12]; done) | exact absurd rfl h0 | exact absurd rfl h17 | exact absurd rfl h18 | exact slB_o (fun z => h32 (by rw [z])) _ _ _ _ _ _
theorem top_speak (l : Launch) (hst : l.stackTraces = false) (dC : Nat → ClassId) (dI : Nat → Nat → Nat) (sk sv : Nat → Nat) (tc : Nat → ClassId) (ax am : Nat) {t : Int32} {w : va_W} (x1 : Int32) (hT : Top tc ax am t w) : SC l (dC, dI) sk sv tc yX11_speak cX11_speak 2 (some .int) [.ref ax, .int x1] w (PIr l (dC, dI) sk sv tc yX12_speak cX12_speak 3 (some .int) ax am [.ref am, .int x1]) (PEr [0, 3] (fun k => if k = 0 then 1 else 2) l (dC, dI) sk sv tc yX12_speak cX12_speak 3 (some .int) ax am [.ref am, .int x1]) := by
  obtain ⟨A, G, q1, lo, ko, sh, hs, SA, SL, SG, SK, SQ, Z, rfl, rfl, rfl, hI, hB, h7, rfl⟩ := hT
  obtain ⟨rm, j, hr, r1, hj, ej, hq, hA⟩ := hI.acts.rem hI.ok
  obtain ⟨G4, G5, hz, hR4⟩ := slz (tc := tc) (hs := hs) (SA := SA) (SL := SL) (SG := SG) (SK := SK) (SQ := SQ) hj hI.ok hI.rs
  obtain ⟨v, g', res, e1, e2, e3⟩ := t_speak hI.ok hI.rs hr r1 hq x1
  have hB' : hb g' := K_f_X12_speak _ _ hB _ e1
  have ej2 : (fRemS (fRem1 (G 0))).toNatClampNeg = j := by rw [ej, nI_clamp (by omega)]
  have hz2 : SlZ tc (mrw hs SA) (fRemS (fRem1 (G 0))).toNatClampNeg (slB tc hs SA SL SG SK SQ j) (G 2) (G 3) G4 G5 := by rw [ej2]; exact hz
  refine sC (f := blk tc A G q1 lo ko hs SA SL SG SK SQ Z) (is := [0, 14, 2, 3, j + 20]) (c_X11_speak l hst dC dI sk sv tc (A 0) (A 1 0) (A 4 0) (A 6 0) (A 7 0) (A 8 0) (A 9 0) (A 11 0) (A 12 0) (A 13 0) (mrow hs SA 12) (A 2) (lref lo) (A 3) (A 14 0) (mrw hs SA) (slB tc hs SA SL SG SK SQ j) (G 0) (G 2) (G 3) x1 G4 G5 e2 hz2) nd5 (lt5 hj) ⟨by decide, by decide, rfl, rfl, by decide, by decide⟩ (fun v9 w' h => ?_) (fun E w' h => ?_)
  · obtain ⟨r, p, u1, u2, hr9, rfl, rfl⟩ := h
    rcases e3 with ⟨gS', rfl, h0, c1, c2, c3, c4, c5, c6⟩ | ⟨k, -, rfl, -⟩
    · cases hr9
      refine ⟨blk tc A (va_up (va_up G 0 (fRem2 (fRem1 (G 0)))) 2 gS') q1 lo ko (va_up hs j true) (va_up SA j u1) (va_up SL j u2) (va_up SG j G4) (va_up SK j G5) (va_up SQ j (lref lo)) Z, ?_, fun i hi => blk_A (fun z => hi (by rw [z]; simp)) (fun z => hi (by rw [z]; simp)) (fun z => hi (by rw [z]; simp)) ((va_up_ne _ _ (fun z => hi (by rw [z]; simp))).trans (va_up_ne _ _ (fun z => hi (by rw [z]; simp)))) (fun _ => rfl) rfl (fun _ => rfl) (fun _ => rfl), ⟨v, rfl⟩, mR (c_X12_speak l dC dI sk sv tc (A 16) (G 16) x1 e1) (hI.act r1 hj (hA G4 G5 hR4) (fun i hi _ => c1 i hi) (by rw [c1 12 (by omega)]) c4 c5 c6 c2 c3 (hI.lw.c c4 c5 (fun p hp _ => c6 p hp)) rfl) hB' h7 h0 ⟨by decide, by decide, rfl, rfl, by decide, by decide⟩⟩
      rw [ej2, ← mrow12 (hs := hs) (SA := SA) hj u1, mrw_up hj, ← slB_s (hs := hs) (SA := SA) (SL := SL) (SG := SG) (SK := SK) (SQ := SQ)]
      rfl
    · cases hr9
  · obtain ⟨k, p, hr9, rfl, rfl⟩ := h
    rcases e3 with ⟨gS', rfl, -⟩ | ⟨k2, hk, rfl, rfl⟩
    · cases hr9
    · cases hr9
      exact ⟨k, blk tc A G q1 lo ko hs SA SL SG SK SQ Z, rfl, rfl, fun _ _ => rfl, hk, mRE (c_X12_speak l dC dI sk sv tc (A 16) (G 16) x1 e1) (hI.er (Er.z _ _)) hB' h7 rfl ⟨by decide, by decide, rfl, rfl, by decide, by decide⟩⟩
theorem top_learn (l : Launch) (hst : l.stackTraces = false) (dC : Nat → ClassId) (dI : Nat → Nat → Nat) (sk sv : Nat → Nat) (tc : Nat → ClassId) (ax am : Nat) {t : Int32} {w : va_W} (x1 : Int32) (hT : Top tc ax am t w) : SC l (dC, dI) sk sv tc yX11_learn cX11_learn 2 (some .int) [.ref ax, .int x1] w (PIr l (dC, dI) sk sv tc yX12_learn cX12_learn 3 (some .int) ax am [.ref am, .int x1]) (PEr [0] (fun _ => 1) l (dC, dI) sk sv tc yX12_learn cX12_learn 3 (some .int) ax am [.ref am, .int x1]) := by
  obtain ⟨A, G, q1, lo, ko, sh, hs, SA, SL, SG, SK, SQ, Z, rfl, rfl, rfl, hI, hB, h7, rfl⟩ := hT
  obtain ⟨rm, j, hr, r1, hj, ej, hq, hA⟩ := hI.acts.rem hI.ok
  obtain ⟨G4, G5, hz, hR4⟩ := slz (tc := tc) (hs := hs) (SA := SA) (SL := SL) (SG := SG) (SK := SK) (SQ := SQ) hj hI.ok hI.rs
  obtain ⟨v, g', res, e1, e2, e3⟩ := t_learn hI.ok hI.rs hr r1 hq x1
  have hB' : hb g' := K_f_X12_learn _ _ hB _ e1
  have ej2 : (fRemS (fRem1 (G 0))).toNatClampNeg = j := by rw [ej, nI_clamp (by omega)]
  have hz2 : SlZ tc (mrw hs SA) (fRemS (fRem1 (G 0))).toNatClampNeg (slB tc hs SA SL SG SK SQ j) (G 2) (G 3) G4 G5 := by rw [ej2]; exact hz
  refine sC (f := blk tc A G q1 lo ko hs SA SL SG SK SQ Z) (is := [0, 14, 2, 3, j + 20]) (c_X11_learn l hst dC dI sk sv tc (A 0) (A 1 0) (A 4 0) (A 6 0) (A 7 0) (A 8 0) (A 9 0) (A 11 0) (A 12 0) (A 13 0) (mrow hs SA 12) (A 2) (lref lo) (A 3) (A 14 0) (mrw hs SA) (slB tc hs SA SL SG SK SQ j) (G 0) (G 2) (G 3) x1 G4 G5 e2 hz2) nd5 (lt5 hj) ⟨by decide, by decide, rfl, rfl, by decide, by decide⟩ (fun v9 w' h => ?_) (fun E w' h => ?_)
  · obtain ⟨r, p, u1, u2, hr9, rfl, rfl⟩ := h
    rcases e3 with ⟨gS', rfl, h0, c1, c2, c3, c4, c5, c6⟩ | ⟨k, -, rfl, -⟩
    · cases hr9
      refine ⟨blk tc A (va_up (va_up G 0 (fRem2 (fRem1 (G 0)))) 2 gS') q1 lo ko (va_up hs j true) (va_up SA j u1) (va_up SL j u2) (va_up SG j G4) (va_up SK j G5) (va_up SQ j (lref lo)) Z, ?_, fun i hi => blk_A (fun z => hi (by rw [z]; simp)) (fun z => hi (by rw [z]; simp)) (fun z => hi (by rw [z]; simp)) ((va_up_ne _ _ (fun z => hi (by rw [z]; simp))).trans (va_up_ne _ _ (fun z => hi (by rw [z]; simp)))) (fun _ => rfl) rfl (fun _ => rfl) (fun _ => rfl), ⟨v, rfl⟩, mR (c_X12_learn l dC dI sk sv tc (A 16) (G 16) x1 e1) (hI.act r1 hj (hA G4 G5 hR4) (fun i hi _ => c1 i hi) (by rw [c1 12 (by omega)]) c4 c5 c6 c2 c3 (hI.lw.c c4 c5 (fun p hp _ => c6 p hp)) rfl) hB' h7 h0 ⟨by decide, by decide, rfl, rfl, by decide, by decide⟩⟩
      rw [ej2, ← mrow12 (hs := hs) (SA := SA) hj u1, mrw_up hj, ← slB_s (hs := hs) (SA := SA) (SL := SL) (SG := SG) (SK := SK) (SQ := SQ)]
      rfl
    · cases hr9
  · obtain ⟨k, p, hr9, rfl, rfl⟩ := h
    rcases e3 with ⟨gS', rfl, -⟩ | ⟨k2, hk, rfl, rfl⟩
    · cases hr9
    · cases hr9
      exact ⟨k, blk tc A G q1 lo ko hs SA SL SG SK SQ Z, rfl, rfl, fun _ _ => rfl, hk, mRE (c_X12_learn l dC dI sk sv tc (A 16) (G 16) x1 e1) (hI.er (Er.z _ _)) hB' h7 rfl ⟨by decide, by decide, rfl, rfl, by decide, by decide⟩⟩
theorem top_rest (l : Launch) (hst : l.stackTraces = false) (dC : Nat → ClassId) (dI : Nat → Nat → Nat) (sk sv : Nat → Nat) (tc : Nat → ClassId) (ax am : Nat) {t : Int32} {w : va_W} (x1 : Int32) (hT : Top tc ax am t w) : SC l (dC, dI) sk sv tc yX11_rest cX11_rest 3 (some .int) [.ref ax, .int x1] w (PIr l (dC, dI) sk sv tc yX12_rest cX12_rest 2 (some .int) ax am [.ref am, .int x1]) (PEr [0] (fun _ => 1) l (dC, dI) sk sv tc yX12_rest cX12_rest 2 (some .int) ax am [.ref am, .int x1]) := by
  obtain ⟨A, G, q1, lo, ko, sh, hs, SA, SL, SG, SK, SQ, Z, rfl, rfl, rfl, hI, hB, h7, rfl⟩ := hT
  obtain ⟨rm, j, hr, r1, hj, ej, hq, hA⟩ := hI.acts.rem hI.ok
  obtain ⟨G4, G5, hz, hR4⟩ := slz (tc := tc) (hs := hs) (SA := SA) (SL := SL) (SG := SG) (SK := SK) (SQ := SQ) hj hI.ok hI.rs
  obtain ⟨v, g', res, e1, e2, e3⟩ := t_rest hI.ok hI.rs hr r1 hq x1
  have hB' : hb g' := K_f_X12_rest _ _ hB _ e1
  have ej2 : (fRemS (fRem1 (G 0))).toNatClampNeg = j := by rw [ej, nI_clamp (by omega)]
  have hz2 : SlZ tc (mrw hs SA) (fRemS (fRem1 (G 0))).toNatClampNeg (slB tc hs SA SL SG SK SQ j) (G 2) (G 3) G4 G5 := by rw [ej2]; exact hz
  refine sC (f := blk tc A G q1 lo ko hs SA SL SG SK SQ Z) (is := [0, 14, 2, 3, j + 20]) (c_X11_rest l hst dC dI sk sv tc (A 0) (A 1 0) (A 4 0) (A 6 0) (A 7 0) (A 8 0) (A 9 0) (A 11 0) (A 12 0) (A 13 0) (mrow hs SA 12) (A 2) (lref lo) (A 3) (A 14 0) (mrw hs SA) (slB tc hs SA SL SG SK SQ j) (G 0) (G 2) (G 3) x1 G4 G5 e2 hz2) nd5 (lt5 hj) ⟨by decide, by decide, rfl, rfl, by decide, by decide⟩ (fun v9 w' h => ?_) (fun E w' h => ?_)
  · obtain ⟨r, p, u1, u2, hr9, rfl, rfl⟩ := h
    rcases e3 with ⟨gS', rfl, h0, c1, c2, c3, c4, c5, c6⟩ | ⟨k, -, rfl, -⟩
    · cases hr9
      refine ⟨blk tc A (va_up (va_up G 0 (fRem2 (fRem1 (G 0)))) 2 gS') q1 lo ko (va_up hs j true) (va_up SA j u1) (va_up SL j u2) (va_up SG j G4) (va_up SK j G5) (va_up SQ j (lref lo)) Z, ?_, fun i hi => blk_A (fun z => hi (by rw [z]; simp)) (fun z => hi (by rw [z]; simp)) (fun z => hi (by rw [z]; simp)) ((va_up_ne _ _ (fun z => hi (by rw [z]; simp))).trans (va_up_ne _ _ (fun z => hi (by rw [z]; simp)))) (fun _ => rfl) rfl (fun _ => rfl) (fun _ => rfl), ⟨v, rfl⟩, mR (c_X12_rest l dC dI sk sv tc (A 16) (G 16) x1 e1) (hI.act r1 hj (hA G4 G5 hR4) (fun i hi _ => c1 i hi) (by rw [c1 12 (by omega)]) c4 c5 c6 c2 c3 (hI.lw.c c4 c5 (fun p hp _ => c6 p hp)) rfl) hB' h7 h0 ⟨by decide, by decide, rfl, rfl, by decide, by decide⟩⟩
      rw [ej2, ← mrow12 (hs := hs) (SA := SA) hj u1, mrw_up hj, ← slB_s (hs := hs) (SA := SA) (SL := SL) (SG := SG) (SK := SK) (SQ := SQ)]
      rfl
    · cases hr9
  · obtain ⟨k, p, hr9, rfl, rfl⟩ := h
    rcases e3 with ⟨gS', rfl, -⟩ | ⟨k2, hk, rfl, rfl⟩
    · cases hr9
    · cases hr9
      exact ⟨k, blk tc A G q1 lo ko hs SA SL SG SK SQ Z, rfl, rfl, fun _ _ => rfl, hk, mRE (c_X12_rest l dC dI sk sv tc (A 16) (G 16) x1 e1) (hI.er (Er.z _ _)) hB' h7 rfl ⟨by decide, by decide, rfl, rfl, by decide, by decide⟩⟩
theorem top_often (l : Launch) (hst : l.stackTraces = false) (dC : Nat → ClassId) (dI : Nat → Nat → Nat) (sk sv : Nat → Nat) (tc : Nat → ClassId) (ax am : Nat) {t : Int32} {w : va_W} (x1 x2 : Int32) (hT : Top tc ax am t w) : SC l (dC, dI) sk sv tc yX11_often cX11_often 4 (some .int) [.ref ax, .int x1, .int x2] w (PIr l (dC, dI) sk sv tc yX12_often cX12_often 3 (some .int) ax am [.ref am, .int x1, .int x2]) (PEr [0, 1] (fun k => if k = 0 then 1 else 2) l (dC, dI) sk sv tc yX12_often cX12_often 3 (some .int) ax am [.ref am, .int x1, .int x2]) := by
  obtain ⟨A, G, q1, lo, ko, sh, hs, SA, SL, SG, SK, SQ, Z, rfl, rfl, rfl, hI, hB, h7, rfl⟩ := hT
  obtain ⟨rm, j, hr, r1, hj, ej, hq, hA⟩ := hI.acts.rem hI.ok
  obtain ⟨G4, G5, hz, hR4⟩ := slz (tc := tc) (hs := hs) (SA := SA) (SL := SL) (SG := SG) (SK := SK) (SQ := SQ) hj hI.ok hI.rs
  obtain ⟨v, g', res, e1, e2, e3⟩ := t_often hI.ok hI.rs hr r1 hq x1 x2
  have hB' : hb g' := K_f_X12_often _ _ _ hB _ e1
  have ej2 : (fRemS (fRem1 (G 0))).toNatClampNeg = j := by rw [ej, nI_clamp (by omega)]
  have hz2 : SlZ tc (mrw hs SA) (fRemS (fRem1 (G 0))).toNatClampNeg (slB tc hs SA SL SG SK SQ j) (G 2) (G 3) G4 G5 := by rw [ej2]; exact hz
  refine sC (f := blk tc A G q1 lo ko hs SA SL SG SK SQ Z) (is := [0, 14, 2, 3, j + 20]) (c_X11_often l hst dC dI sk sv tc (A 0) (A 1 0) (A 4 0) (A 6 0) (A 7 0) (A 8 0) (A 9 0) (A 11 0) (A 12 0) (A 13 0) (mrow hs SA 12) (A 2) (lref lo) (A 3) (A 14 0) (mrw hs SA) (slB tc hs SA SL SG SK SQ j) (G 0) (G 2) (G 3) x1 x2 G4 G5 e2 hz2) nd5 (lt5 hj) ⟨by decide, by decide, rfl, rfl, by decide, by decide⟩ (fun v9 w' h => ?_) (fun E w' h => ?_)
  · obtain ⟨r, p, u1, u2, hr9, rfl, rfl⟩ := h
    rcases e3 with ⟨gS', rfl, h0, c1, c2, c3, c4, c5, c6⟩ | ⟨k, -, rfl, -⟩
    · cases hr9
      refine ⟨blk tc A (va_up (va_up G 0 (fRem2 (fRem1 (G 0)))) 2 gS') q1 lo ko (va_up hs j true) (va_up SA j u1) (va_up SL j u2) (va_up SG j G4) (va_up SK j G5) (va_up SQ j (lref lo)) Z, ?_, fun i hi => blk_A (fun z => hi (by rw [z]; simp)) (fun z => hi (by rw [z]; simp)) (fun z => hi (by rw [z]; simp)) ((va_up_ne _ _ (fun z => hi (by rw [z]; simp))).trans (va_up_ne _ _ (fun z => hi (by rw [z]; simp)))) (fun _ => rfl) rfl (fun _ => rfl) (fun _ => rfl), ⟨v, rfl⟩, mR (c_X12_often l dC dI sk sv tc (A 16) (G 16) x1 x2 e1) (hI.act r1 hj (hA G4 G5 hR4) (fun i hi _ => c1 i hi) (by rw [c1 12 (by omega)]) c4 c5 c6 c2 c3 (hI.lw.c c4 c5 (fun p hp _ => c6 p hp)) rfl) hB' h7 h0 ⟨by decide, by decide, rfl, rfl, by decide, by decide⟩⟩
      rw [ej2, ← mrow12 (hs := hs) (SA := SA) hj u1, mrw_up hj, ← slB_s (hs := hs) (SA := SA) (SL := SL) (SG := SG) (SK := SK) (SQ := SQ)]
      rfl
    · cases hr9
  · obtain ⟨k, p, hr9, rfl, rfl⟩ := h
    rcases e3 with ⟨gS', rfl, -⟩ | ⟨k2, hk, rfl, rfl⟩
    · cases hr9
    · cases hr9
      exact ⟨k, blk tc A G q1 lo ko hs SA SL SG SK SQ Z, rfl, rfl, fun _ _ => rfl, hk, mRE (c_X12_often l dC dI sk sv tc (A 16) (G 16) x1 x2 e1) (hI.er (Er.z _ _)) hB' h7 rfl ⟨by decide, by decide, rfl, rfl, by decide, by decide⟩⟩
theorem top_tempo (l : Launch) (hst : l.stackTraces = false) (dC : Nat → ClassId) (dI : Nat → Nat → Nat) (sk sv : Nat → Nat) (tc : Nat → ClassId) (ax am : Nat) {t : Int32} {w : va_W} (x1 : Int32) (hT : Top tc ax am t w) : SC l (dC, dI) sk sv tc yX11_tempo cX11_tempo 3 (some .int) [.ref ax, .int x1] w (PIr l (dC, dI) sk sv tc yX12_tempo cX12_tempo 2 (some .int) ax am [.ref am, .int x1]) (PEr [1] (fun _ => 1) l (dC, dI) sk sv tc yX12_tempo cX12_tempo 2 (some .int) ax am [.ref am, .int x1]) := by
  obtain ⟨A, G, q1, lo, ko, sh, hs, SA, SL, SG, SK, SQ, Z, rfl, rfl, rfl, hI, hB, h7, rfl⟩ := hT
  obtain ⟨rm, j, hr, r1, hj, ej, hq, hA⟩ := hI.acts.rem hI.ok
  obtain ⟨G4, G5, hz, hR4⟩ := slz (tc := tc) (hs := hs) (SA := SA) (SL := SL) (SG := SG) (SK := SK) (SQ := SQ) hj hI.ok hI.rs
  obtain ⟨v, g', res, e1, e2, e3⟩ := t_tempo hI.ok hI.rs hr r1 hq x1
  have hB' : hb g' := K_f_X12_tempo _ _ hB _ e1
  have ej2 : (fRemS (fRem1 (G 0))).toNatClampNeg = j := by rw [ej, nI_clamp (by omega)]
  have hz2 : SlZ tc (mrw hs SA) (fRemS (fRem1 (G 0))).toNatClampNeg (slB tc hs SA SL SG SK SQ j) (G 2) (G 3) G4 G5 := by rw [ej2]; exact hz
  refine sC (f := blk tc A G q1 lo ko hs SA SL SG SK SQ Z) (is := [0, 14, 2, 3, j + 20]) (c_X11_tempo l hst dC dI sk sv tc (A 0) (A 1 0) (A 4 0) (A 6 0) (A 7 0) (A 8 0) (A 9 0) (A 11 0) (A 12 0) (A 13 0) (mrow hs SA 12) (A 2) (lref lo) (A 3) (A 14 0) (mrw hs SA) (slB tc hs SA SL SG SK SQ j) (G 0) (G 2) (G 3) x1 G4 G5 e2 hz2) nd5 (lt5 hj) ⟨by decide, by decide, rfl, rfl, by decide, by decide⟩ (fun v9 w' h => ?_) (fun E w' h => ?_)
  · obtain ⟨r, p, u1, u2, hr9, rfl, rfl⟩ := h
    rcases e3 with ⟨gS', rfl, h0, c1, c2, c3, c4, c5, c6⟩ | ⟨k, -, rfl, -⟩
    · cases hr9
      refine ⟨blk tc A (va_up (va_up G 0 (fRem2 (fRem1 (G 0)))) 2 gS') q1 lo ko (va_up hs j true) (va_up SA j u1) (va_up SL j u2) (va_up SG j G4) (va_up SK j G5) (va_up SQ j (lref lo)) Z, ?_, fun i hi => blk_A (fun z => hi (by rw [z]; simp)) (fun z => hi (by rw [z]; simp)) (fun z => hi (by rw [z]; simp)) ((va_up_ne _ _ (fun z => hi (by rw [z]; simp))).trans (va_up_ne _ _ (fun z => hi (by rw [z]; simp)))) (fun _ => rfl) rfl (fun _ => rfl) (fun _ => rfl), ⟨v, rfl⟩, mR (c_X12_tempo l dC dI sk sv tc (A 16) (G 16) x1 e1) (hI.act r1 hj (hA G4 G5 hR4) (fun i hi _ => c1 i hi) (by rw [c1 12 (by omega)]) c4 c5 c6 c2 c3 (hI.lw.c c4 c5 (fun p hp _ => c6 p hp)) rfl) hB' h7 h0 ⟨by decide, by decide, rfl, rfl, by decide, by decide⟩⟩
      rw [ej2, ← mrow12 (hs := hs) (SA := SA) hj u1, mrw_up hj, ← slB_s (hs := hs) (SA := SA) (SL := SL) (SG := SG) (SK := SK) (SQ := SQ)]
      rfl
    · cases hr9
  · obtain ⟨k, p, hr9, rfl, rfl⟩ := h
    rcases e3 with ⟨gS', rfl, -⟩ | ⟨k2, hk, rfl, rfl⟩
    · cases hr9
    · cases hr9
      exact ⟨k, blk tc A G q1 lo ko hs SA SL SG SK SQ Z, rfl, rfl, fun _ _ => rfl, hk, mRE (c_X12_tempo l dC dI sk sv tc (A 16) (G 16) x1 e1) (hI.er (Er.z _ _)) hB' h7 rfl ⟨by decide, by decide, rfl, rfl, by decide, by decide⟩⟩
theorem top_speed (l : Launch) (hst : l.stackTraces = false) (dC : Nat → ClassId) (dI : Nat → Nat → Nat) (sk sv : Nat → Nat) (tc : Nat → ClassId) (ax am : Nat) {t : Int32} {w : va_W} (x1 x2 : Int32) (hT : Top tc ax am t w) : SC l (dC, dI) sk sv tc yX11_speed cX11_speed 4 (some .int) [.ref ax, .int x1, .int x2] w (PIr l (dC, dI) sk sv tc yX12_speed cX12_speed 3 (some .int) ax am [.ref am, .int x1, .int x2]) (PEr [0, 1] (fun k => if k = 0 then 1 else 2) l (dC, dI) sk sv tc yX12_speed cX12_speed 3 (some .int) ax am [.ref am, .int x1, .int x2]) := by
  obtain ⟨A, G, q1, lo, ko, sh, hs, SA, SL, SG, SK, SQ, Z, rfl, rfl, rfl, hI, hB, h7, rfl⟩ := hT
  obtain ⟨rm, j, hr, r1, hj, ej, hq, hA⟩ := hI.acts.rem hI.ok
  obtain ⟨G4, G5, hz, hR4⟩ := slz (tc := tc) (hs := hs) (SA := SA) (SL := SL) (SG := SG) (SK := SK) (SQ := SQ) hj hI.ok hI.rs
  obtain ⟨v, g', res, e1, e2, e3⟩ := t_speed hI.ok hI.rs hr r1 hq x1 x2
  have hB' : hb g' := K_f_X12_speed _ _ _ hB _ e1
  have ej2 : (fRemS (fRem1 (G 0))).toNatClampNeg = j := by rw [ej, nI_clamp (by omega)]
  have hz2 : SlZ tc (mrw hs SA) (fRemS (fRem1 (G 0))).toNatClampNeg (slB tc hs SA SL SG SK SQ j) (G 2) (G 3) G4 G5 := by rw [ej2]; exact hz
  refine sC (f := blk tc A G q1 lo ko hs SA SL SG SK SQ Z) (is := [0, 14, 2, 3, j + 20]) (c_X11_speed l hst dC dI sk sv tc (A 0) (A 1 0) (A 4 0) (A 6 0) (A 7 0) (A 8 0) (A 9 0) (A 11 0) (A 12 0) (A 13 0) (mrow hs SA 12) (A 2) (lref lo) (A 3) (A 14 0) (mrw hs SA) (slB tc hs SA SL SG SK SQ j) (G 0) (G 2) (G 3) x1 x2 G4 G5 e2 hz2) nd5 (lt5 hj) ⟨by decide, by decide, rfl, rfl, by decide, by decide⟩ (fun v9 w' h => ?_) (fun E w' h => ?_)
  · obtain ⟨r, p, u1, u2, hr9, rfl, rfl⟩ := h
    rcases e3 with ⟨gS', rfl, h0, c1, c2, c3, c4, c5, c6⟩ | ⟨k, -, rfl, -⟩
    · cases hr9
      refine ⟨blk tc A (va_up (va_up G 0 (fRem2 (fRem1 (G 0)))) 2 gS') q1 lo ko (va_up hs j true) (va_up SA j u1) (va_up SL j u2) (va_up SG j G4) (va_up SK j G5) (va_up SQ j (lref lo)) Z, ?_, fun i hi => blk_A (fun z => hi (by rw [z]; simp)) (fun z => hi (by rw [z]; simp)) (fun z => hi (by rw [z]; simp)) ((va_up_ne _ _ (fun z => hi (by rw [z]; simp))).trans (va_up_ne _ _ (fun z => hi (by rw [z]; simp)))) (fun _ => rfl) rfl (fun _ => rfl) (fun _ => rfl), ⟨v, rfl⟩, mR (c_X12_speed l dC dI sk sv tc (A 16) (G 16) x1 x2 e1) (hI.act r1 hj (hA G4 G5 hR4) (fun i hi _ => c1 i hi) (by rw [c1 12 (by omega)]) c4 c5 c6 c2 c3 (hI.lw.c c4 c5 (fun p hp _ => c6 p hp)) rfl) hB' h7 h0 ⟨by decide, by decide, rfl, rfl, by decide, by decide⟩⟩
      rw [ej2, ← mrow12 (hs := hs) (SA := SA) hj u1, mrw_up hj, ← slB_s (hs := hs) (SA := SA) (SL := SL) (SG := SG) (SK := SK) (SQ := SQ)]
      rfl
    · cases hr9
  · obtain ⟨k, p, hr9, rfl, rfl⟩ := h
    rcases e3 with ⟨gS', rfl, -⟩ | ⟨k2, hk, rfl, rfl⟩
    · cases hr9
    · cases hr9
      exact ⟨k, blk tc A G q1 lo ko hs SA SL SG SK SQ Z, rfl, rfl, fun _ _ => rfl, hk, mRE (c_X12_speed l dC dI sk sv tc (A 16) (G 16) x1 x2 e1) (hI.er (Er.z _ _)) hB' h7 rfl ⟨by decide, by decide, rfl, rfl, by decide, by decide⟩⟩
theorem top_leave (l : Launch) (hst : l.stackTraces = false) (dC : Nat → ClassId) (dI : Nat → Nat → Nat) (sk sv : Nat → Nat) (tc : Nat → ClassId) (ax am : Nat) {t : Int32} {w : va_W} (x1 x2 x3 : Int32) (h3 : x3 = 0 ∨ x3 = 1) (hT : Top tc ax am t w) : SC l (dC, dI) sk sv tc yX11_leave cX11_leave 5 (some .boolean) [.ref ax, .int x1, .int x2, .int x3] w (PIz l (dC, dI) sk sv tc yX12_leave cX12_leave 5 (some .boolean) ax am [.ref am, .int x1, .int x2, .int x3]) (PEr [0] (fun _ => 1) l (dC, dI) sk sv tc yX12_leave cX12_leave 5 (some .boolean) ax am [.ref am, .int x1, .int x2, .int x3]) := by
  obtain ⟨A, G, q1, lo, ko, sh, hs, SA, SL, SG, SK, SQ, Z, rfl, rfl, rfl, hI, hB, h7, rfl⟩ := hT
  obtain ⟨rm, j, hr, r1, hj, ej, hq, hA⟩ := hI.acts.rem hI.ok
  obtain ⟨G4, G5, hz, hR4⟩ := slz (tc := tc) (hs := hs) (SA := SA) (SL := SL) (SG := SG) (SK := SK) (SQ := SQ) hj hI.ok hI.rs
  obtain ⟨v, g', res, e1, e2, e3, ez⟩ := t_leave hI.ok hI.rs hr r1 hq x1 x2 x3 h3
  have hB' : hb g' := K_f_X12_leave _ _ _ _ hB _ e1
  have ej2 : (fRemS (fRem1 (G 0))).toNatClampNeg = j := by rw [ej, nI_clamp (by omega)]
  have hz2 : SlZ tc (mrw hs SA) (fRemS (fRem1 (G 0))).toNatClampNeg (slB tc hs SA SL SG SK SQ j) (G 2) (G 3) G4 G5 := by rw [ej2]; exact hz
  refine sC (f := blk tc A G q1 lo ko hs SA SL SG SK SQ Z) (is := [0, 14, 2, 3, j + 20]) (c_X11_leave l hst dC dI sk sv tc (A 0) (A 1 0) (A 4 0) (A 6 0) (A 7 0) (A 8 0) (A 9 0) (A 11 0) (A 12 0) (A 13 0) (mrow hs SA 12) (A 2) (lref lo) (A 3) (A 14 0) (mrw hs SA) (slB tc hs SA SL SG SK SQ j) (G 0) (G 2) (G 3) x1 x2 x3 G4 G5 e2 hz2) nd5 (lt5 hj) ⟨by decide, by decide, rfl, rfl, by decide, by decide⟩ (fun v9 w' h => ?_) (fun E w' h => ?_)
  · obtain ⟨r, p, u1, u2, hr9, rfl, rfl⟩ := h
    rcases e3 with ⟨gS', rfl, h0, c1, c2, c3, c4, c5, c6⟩ | ⟨k, -, rfl, -⟩
    · cases hr9
      refine ⟨blk tc A (va_up (va_up G 0 (fRem2 (fRem1 (G 0)))) 2 gS') q1 lo ko (va_up hs j true) (va_up SA j u1) (va_up SL j u2) (va_up SG j G4) (va_up SK j G5) (va_up SQ j (lref lo)) Z, ?_, fun i hi => blk_A (fun z => hi (by rw [z]; simp)) (fun z => hi (by rw [z]; simp)) (fun z => hi (by rw [z]; simp)) ((va_up_ne _ _ (fun z => hi (by rw [z]; simp))).trans (va_up_ne _ _ (fun z => hi (by rw [z]; simp)))) (fun _ => rfl) rfl (fun _ => rfl) (fun _ => rfl), by rcases ez with rfl | rfl; exact Or.inl rfl; exact Or.inr rfl, mR (c_X12_leave l dC dI sk sv tc (A 16) (G 16) x1 x2 x3 e1) (hI.act r1 hj (hA G4 G5 hR4) (fun i hi _ => c1 i hi) (by rw [c1 12 (by omega)]) c4 c5 c6 c2 c3 (hI.lw.c c4 c5 (fun p hp _ => c6 p hp)) rfl) hB' h7 h0 ⟨by decide, by decide, rfl, rfl, by decide, by decide⟩⟩
      rw [ej2, ← mrow12 (hs := hs) (SA := SA) hj u1, mrw_up hj, ← slB_s (hs := hs) (SA := SA) (SL := SL) (SG := SG) (SK := SK) (SQ := SQ)]
      rfl
    · cases hr9
  · obtain ⟨k, p, hr9, rfl, rfl⟩ := h
    rcases e3 with ⟨gS', rfl, -⟩ | ⟨k2, hk, rfl, rfl⟩
    · cases hr9
    · cases hr9
      exact ⟨k, blk tc A G q1 lo ko hs SA SL SG SK SQ Z, rfl, rfl, fun _ _ => rfl, hk, mRE (c_X12_leave l dC dI sk sv tc (A 16) (G 16) x1 x2 x3 e1) (hI.er (Er.z _ _)) hB' h7 rfl ⟨by decide, by decide, rfl, rfl, by decide, by decide⟩⟩
theorem top_minutes (l : Launch) (hst : l.stackTraces = false) (dC : Nat → ClassId) (dI : Nat → Nat → Nat) (sk sv : Nat → Nat) (tc : Nat → ClassId) (ax am : Nat) {t : Int32} {w : va_W} (x1 : Int32) (hT : Top tc ax am t w) : SC l (dC, dI) sk sv tc yX11_minutes cX11_minutes 2 (some .int) [.ref ax, .int x1] w (PIr l (dC, dI) sk sv tc yX12_minutes cX12_minutes 2 (some .int) ax am [.ref am, .int x1]) (PEr [1] (fun _ => 1) l (dC, dI) sk sv tc yX12_minutes cX12_minutes 2 (some .int) ax am [.ref am, .int x1]) := by
  obtain ⟨A, G, q1, lo, ko, sh, hs, SA, SL, SG, SK, SQ, Z, rfl, rfl, rfl, hI, hB, h7, rfl⟩ := hT
  obtain ⟨rm, j, hr, r1, hj, ej, hq, hA⟩ := hI.acts.rem hI.ok
  obtain ⟨G4, G5, hz, hR4⟩ := slz (tc := tc) (hs := hs) (SA := SA) (SL := SL) (SG := SG) (SK := SK) (SQ := SQ) hj hI.ok hI.rs
  have m1 : rm 1 = G 16 1 := r1 1 (by omega) (by omega)
  have ej2 : (fRemS (fRem1 (G 0))).toNatClampNeg = j := by rw [ej, nI_clamp (by omega)]
  have hz2 : SlZ tc (mrw hs SA) (fRemS (fRem1 (G 0))).toNatClampNeg (slB tc hs SA SL SG SK SQ j) (G 2) (G 3) G4 G5 := by rw [ej2]; exact hz
  cases lo with
  | none =>
    obtain ⟨v, g', res, e1, e2, e3⟩ := t_minutesN hI.ok hI.rs hI.no1 hr r1 hq (G 8) (G 9) (G 10) x1
    have hB' : hb g' := K_f_X12_minutes _ _ hB _ e1
    refine sC (f := blk tc A G q1 none ko hs SA SL SG SK SQ Z) (is := [0, 14, 2, 3, 8, 9, 10, j + 20]) (c_X11_minutes_n l hst dC dI sk sv tc (A 0) (A 1 0) (A 4 0) (A 6 0) (A 7 0) (A 11 0) (A 12 0) (A 13 0) (mrow hs SA 12) (A 2) (A 3) (A 8) (A 9) (A 10) (A 14 0) (mrw hs SA) (slB tc hs SA SL SG SK SQ j) (G 0) (G 2) (G 3) (G 8) (G 9) (G 10) x1 G4 G5 e2 hz2) nd8 (lt8 hj) ⟨by decide, by decide, rfl, rfl, by decide, by decide⟩ (fun v9 w' h => ?_) (fun E w' h => ?_)
    · obtain ⟨r, p, u1, u2, hr9, rfl, rfl⟩ := h
      rcases e3 with ⟨gS', gL', gH', gF', rfl, h0, b3, b4, b5⟩ | ⟨rfl, -⟩
      · cases hr9
        refine ⟨blk tc A (va_up (va_up (va_up (va_up (va_up G 0 (fRem2 (fRem1 (G 0)))) 2 gS') 3 gL') 8 gH') 10 gF') q1 none ko (va_up hs j true) (va_up SA j u1) (va_up SL j u2) (va_up SG j G4) (va_up SK j G5) (va_up SQ j (lref none)) Z, ?_, fun i hi => blk_A (fun z => hi (by rw [z]; simp)) (fun z => hi (by rw [z]; simp)) (fun z => hi (by rw [z]; simp)) (((((va_up_ne _ _ (fun z => hi (by rw [z]; simp))).trans (va_up_ne _ _ (fun z => hi (by rw [z]; simp)))).trans (va_up_ne _ _ (fun z => hi (by rw [z]; simp)))).trans (va_up_ne _ _ (fun z => hi (by rw [z]; simp)))).trans (va_up_ne _ _ (fun z => hi (by rw [z]; simp)))) (fun _ => rfl) rfl (fun _ => rfl) (fun _ => rfl), ⟨v, rfl⟩, mR (c_X12_minutes l dC dI sk sv tc (A 16) (G 16) x1 e1) (hI.act (lo' := none) r1 hj (hA G4 G5 hR4) (fun i h1 h2 => b3.1 i h1 h2) b3.2.1 ((b3.2.2 1 (by omega)).trans (by rw [m1])) ((b3.2.2 2 (by omega)).trans (by rw [m1])) (fun p hp => (b3.2.2 p (by omega)).trans (by rw [m1])) b4 b5 ((b3.2.2 1 (by omega)).trans (by rw [m1]; exact hI.lw)) rfl) hB' h7 h0 ⟨by decide, by decide, rfl, rfl, by decide, by decide⟩⟩
        rw [ej2, ← mrow12 (hs := hs) (SA := SA) hj u1, mrw_up hj, ← slB_s (hs := hs) (SA := SA) (SL := SL) (SG := SG) (SK := SK) (SQ := SQ)]
        rfl
      · cases hr9
    · obtain ⟨k, p, hr9, rfl, rfl⟩ := h
      rcases e3 with ⟨gS', gL', gH', gF', rfl, -⟩ | ⟨rfl, rfl⟩
      · cases hr9
      · cases hr9
        exact ⟨1, blk tc A G q1 none ko hs SA SL SG SK SQ Z, rfl, rfl, fun _ _ => rfl, by decide, mRE (c_X12_minutes l dC dI sk sv tc (A 16) (G 16) x1 e1) (hI.er (Er.z _ _)) hB' h7 rfl ⟨by decide, by decide, rfl, rfl, by decide, by decide⟩⟩
  | some L =>
    obtain ⟨v, g', res, e1, e2, e3⟩ := t_minutesL hI.ok hI.rs hI.lw hr r1 hq (G 8) (G 9) (G 10) x1
    have hB' : hb g' := K_f_X12_minutes _ _ hB _ e1
    refine sC (f := blk tc A G q1 (some L) ko hs SA SL SG SK SQ Z) (is := [0, 14, 2, 3, 8, 9, 10, 15, j + 20]) (c_X11_minutes_l l hst dC dI sk sv tc L.2.2 (A 0) (A 1 0) (A 4 0) (A 6 0) (A 7 0) (A 11 0) (A 12 0) (A 13 0) (mrow hs SA 12) (A 2) (A 3) (A 8) (A 9) (A 10) L.1 (A 14 0) (mrw hs SA) (slB tc hs SA SL SG SK SQ j) (G 0) (G 2) (G 3) (G 8) (G 9) (G 10) L.2.1 x1 G4 G5 e2 hz2) nd9 (lt9 hj) ⟨by decide, by decide, rfl, rfl, by decide, by decide⟩ (fun v9 w' h => ?_) (fun E w' h => ?_)
    · obtain ⟨r, p, u1, u2, hr9, rfl, rfl⟩ := h
      rcases e3 with ⟨gS', gL', gH', gF', gl', rfl, h0, b3, b4, b5, b6⟩ | ⟨rfl, -⟩
      · cases hr9
        refine ⟨blk tc A (va_up (va_up (va_up (va_up (va_up G 0 (fRem2 (fRem1 (G 0)))) 2 gS') 3 gL') 8 gH') 10 gF') q1 (some (L.1, gl', L.2.2)) ko (va_up hs j true) (va_up SA j u1) (va_up SL j u2) (va_up SG j G4) (va_up SK j G5) (va_up SQ j (lref (some L))) Z, ?_, fun i hi => blk_A (fun z => hi (by rw [z]; simp)) (fun z => hi (by rw [z]; simp)) (fun z => hi (by rw [z]; simp)) (((((va_up_ne _ _ (fun z => hi (by rw [z]; simp))).trans (va_up_ne _ _ (fun z => hi (by rw [z]; simp)))).trans (va_up_ne _ _ (fun z => hi (by rw [z]; simp)))).trans (va_up_ne _ _ (fun z => hi (by rw [z]; simp)))).trans (va_up_ne _ _ (fun z => hi (by rw [z]; simp)))) (fun z => absurd (by rw [z]; simp) hi) rfl (fun _ => rfl) (fun _ => rfl), ⟨v, rfl⟩, mR (c_X12_minutes l dC dI sk sv tc (A 16) (G 16) x1 e1) (hI.act (lo' := (some (L.1, gl', L.2.2))) r1 hj (hA G4 G5 hR4) (fun i h1 h2 => b3.1 i h1 h2) b3.2.1 ((b3.2.2 1 (by omega)).trans (by rw [m1])) ((b3.2.2 2 (by omega)).trans (by rw [m1])) (fun p hp => (b3.2.2 p (by omega)).trans (by rw [m1])) b4 b5 b6 rfl) hB' h7 h0 ⟨by decide, by decide, rfl, rfl, by decide, by decide⟩⟩
        rw [ej2, ← mrow12 (hs := hs) (SA := SA) hj u1, mrw_up hj, ← slB_s (hs := hs) (SA := SA) (SL := SL) (SG := SG) (SK := SK) (SQ := SQ)]
        rfl
      · cases hr9
    · obtain ⟨k, p, hr9, rfl, rfl⟩ := h
      rcases e3 with ⟨gS', gL', gH', gF', gl', rfl, -⟩ | ⟨rfl, rfl⟩
      · cases hr9
      · cases hr9
        exact ⟨1, blk tc A G q1 (some L) ko hs SA SL SG SK SQ Z, rfl, rfl, fun _ _ => rfl, by decide, mRE (c_X12_minutes l dC dI sk sv tc (A 16) (G 16) x1 e1) (hI.er (Er.z _ _)) hB' h7 rfl ⟨by decide, by decide, rfl, rfl, by decide, by decide⟩⟩
theorem top_undo (l : Launch) (hst : l.stackTraces = false) (dC : Nat → ClassId) (dI : Nat → Nat → Nat) (sk sv : Nat → Nat) (tc : Nat → ClassId) (ax am : Nat) {t : Int32} {w : va_W} (hT : Top tc ax am t w) : SC l (dC, dI) sk sv tc yX11_undo cX11_undo 2 (some .boolean) [.ref ax] w (PIa l (dC, dI) sk sv tc yX12_undo cX12_undo 2 (some .boolean) ax am [.ref am]) (fun _ _ => False) := by
  obtain ⟨A, G, q1, lo, ko, sh, hs, SA, SL, SG, SK, SQ, Z, rfl, rfl, rfl, hI, hB, h7, rfl⟩ := hT
  by_cases z : 0 < G 0 12 0
  · obtain ⟨g', j, G2, G3, hj, ej, hsj, hqj, hc, e1, h0, inv⟩ := t_undo1 hI z
    have hB' : hb g' := K_f_X12_undo _ hB _ e1
    refine sCP (f := blk tc A G q1 lo ko hs SA SL SG SK SQ Z) (is := [0, 14, 2, 3, j + 20]) (zr := []) (c_X11_undo1 l dC dI sk sv tc (A 0) (A 1 0) (A 4 0) (A 6 0) (A 7 0) (A 8 0) (A 9 0) (A 11 0) (A 12 0) (A 13 0) (A 14 0) (mrow hs SA 12) (mrw hs SA) (A 2) (lref lo) (A 3) (G 0) (G 2) (G 3) (SA j) (SL j) (SG j) (SK j) G2 G3 (SQ j) z (by rw [ej]; exact nI_in hj (by omega)) (by rw [ej, nI_clamp (by omega), mrw_j hj]; unfold mrow; rw [if_pos hsj]) hc) (List.Perm.of_eq (by rw [List.append_nil, ← slB_t hsj]; rfl)) nd5 (lt5 hj) ⟨by decide, by decide, rfl, rfl, by decide, by decide⟩ (fun v9 w' h => ?_) (fun E w' h => h.elim)
    obtain ⟨rfl, rfl⟩ := h
    exact ⟨blk tc A (va_up (va_up (va_up G 0 (pu (G 0) 12 0 (G 0 12 0 - 1))) 2 G2) 3 G3) q1 lo ko hs SA SL SG SK SQ Z, List.Perm.of_eq (by rw [List.append_nil, ← slB_t hsj, hqj]; rfl), fun i hi => blk_N (((va_up_ne _ _ (fun z => hi (by rw [z]; simp))).trans (va_up_ne _ _ (fun z => hi (by rw [z]; simp)))).trans (va_up_ne _ _ (fun z => hi (by rw [z]; simp)))) (fun _ => rfl) (fun _ => rfl) rfl (fun _ => rfl) (fun _ => rfl), ⟨1, rfl⟩, mRA (c_X12_undo l dC dI sk sv tc (A 16) (G 16) e1) inv hB' h7 ⟨by decide, by decide, rfl, rfl, by decide, by decide⟩⟩
  · have e1 := t_undo0 hI.acts z
    have hB' := K_f_X12_undo _ hB _ e1
    refine sC (f := blk tc A G q1 lo ko hs SA SL SG SK SQ Z) (is := [0, 14, 2, 3]) (CZ.fr (zr := []) (c_X11_undo0 l dC dI sk sv tc (A 0) (A 1 0) (A 4 0) (A 6 0) (A 7 0) (A 8 0) (A 9 0) (A 11 0) (A 12 0) (A 13 0) (A 14 0) (mrow hs SA 12) (mrw hs SA) (A 2) (lref lo) (A 3) (G 0) (G 2) (G 3) [] z) (List.Perm.of_eq (by simp only [List.append_nil]; rfl)) (PN' := fun v w' => v = some (.int 0) ∧ w' = flB (blk tc A G q1 lo ko hs SA SL SG SK SQ Z) [0, 14, 2, 3]) (PX' := fun _ _ => False) (fun v w' h => ⟨_, List.Perm.refl _, h.1, by rw [h.2]; simp only [List.append_nil]; rfl⟩) (fun _ _ h => h.elim)) (by decide) (by decide) ⟨by decide, by decide, rfl, rfl, by decide, by decide⟩ (fun v9 w' h => ?_) (fun E w' h => h.elim)
    obtain ⟨rfl, rfl⟩ := h
    exact ⟨blk tc A G q1 lo ko hs SA SL SG SK SQ Z, rfl, fun _ _ => rfl, ⟨0, rfl⟩, mRA (c_X12_undo l dC dI sk sv tc (A 16) (G 16) e1) (hI.er (Er.z _ _)) hB' h7 ⟨by decide, by decide, rfl, rfl, by decide, by decide⟩⟩
theorem top_back (l : Launch) (hst : l.stackTraces = false) (dC : Nat → ClassId) (dI : Nat → Nat → Nat) (sk sv : Nat → Nat) (tc : Nat → ClassId) (ax am : Nat) {t : Int32} {w : va_W} (hT : Top tc ax am t w) : SC l (dC, dI) sk sv tc yX11_back cX11_back 1 (some .boolean) [.ref ax] w (PIa l (dC, dI) sk sv tc yX12_back cX12_back 2 (some .boolean) ax am [.ref am]) (fun _ _ => False) := by
  obtain ⟨A, G, q1, lo, ko, sh, hs, SA, SL, SG, SK, SQ, Z, rfl, rfl, rfl, hI, hB, h7, rfl⟩ := hT
  cases hk : hs 12 with
  | false =>
    have e1 := t_back0 hI hk
    have hB' := K_f_X12_back _ hB _ e1
    have hm : mrow hs SA 12 = none := by unfold mrow; rw [if_neg (by rw [hk]; decide)]
    have eq : ∀ A0 : va_W, flB (blk tc A G q1 lo ko hs SA SL SG SK SQ Z) [0, 2, 3] = wPU tc (A 0) (G 0) (A 1 0) (A 2 0) (A 4 0) (A 6 0) (A 7 0) (A 8 0) (A 9 0) (A 11 0) (A 12 0) (A 13 0) (A 14 0) none ++ (wSt tc (A 2) (G 2) (lref lo) (A 3 0) ++ (wLg tc (A 3) (G 3) ++ [])) := fun _ => by rw [List.append_nil, ← hm]; rfl
    refine sC (f := blk tc A G q1 lo ko hs SA SL SG SK SQ Z) (is := [0, 2, 3]) (CZ.fr (zr := []) (c_X11_back0 l dC dI sk sv tc (A 0) (A 1 0) (A 4 0) (A 6 0) (A 7 0) (A 8 0) (A 9 0) (A 11 0) (A 12 0) (A 13 0) (A 14 0) (A 2) (lref lo) (A 3) (G 0) (G 2) (G 3) []) (List.Perm.of_eq (by rw [List.append_nil]; exact eq [])) (PN' := fun v w' => v = some (.int 0) ∧ w' = flB (blk tc A G q1 lo ko hs SA SL SG SK SQ Z) [0, 2, 3]) (PX' := fun _ _ => False) (fun v w' h => ⟨_, List.Perm.refl _, h.1, by rw [h.2, List.append_nil]; exact (eq []).symm⟩) (fun _ _ h => h.elim)) (by decide) (by decide) ⟨by decide, by decide, rfl, rfl, by decide, by decide⟩ (fun v9 w' h => ?_) (fun E w' h => h.elim)
    obtain ⟨rfl, rfl⟩ := h
    exact ⟨blk tc A G q1 lo ko hs SA SL SG SK SQ Z, rfl, fun _ _ => rfl, ⟨0, rfl⟩, mRA (c_X12_back l dC dI sk sv tc (A 16) (G 16) e1) (hI.er (Er.z _ _)) hB' h7 ⟨by decide, by decide, rfl, rfl, by decide, by decide⟩⟩
  | true =>
    obtain ⟨g', G2, G3, hc, e1, h0, inv⟩ := t_back1 hI hk
    have hB' : hb g' := K_f_X12_back _ hB _ e1
    have hm : mrow hs SA 12 = some (SA 12 0) := by unfold mrow; rw [if_pos hk]
    have ct := c_X11_back1 l dC dI sk sv tc (A 0) (A 1 0) (A 4 0) (A 6 0) (A 7 0) (A 8 0) (A 9 0) (A 11 0) (A 12 0) (A 13 0) (A 14 0) (A 2) (lref lo) (A 3) (G 0) (G 2) (G 3) (SA 12) (SL 12) (SG 12) (SK 12) G2 G3 (SQ 12) hc
    rw [← hm, ← slB_t hk] at ct
    cases sh with
    | true =>
      obtain ⟨hq, inv⟩ := inv lo ko (fun _ => rfl) (fun z => absurd z (by decide))
      refine sC (f := blk tc A G q1 lo ko hs SA SL SG SK SQ Z) (is := [0, 2, 3, 32]) ct (by decide) (by decide) ⟨by decide, by decide, rfl, rfl, by decide, by decide⟩ (fun v9 w' h => ?_) (fun E w' h => h.elim)
      obtain ⟨rfl, rfl⟩ := h
      exact ⟨blk tc A (va_up (va_up (va_up G 0 (pu (G 0) 12 0 0)) 2 G2) 3 G3) q1 lo ko hs SA SL SG SK SQ Z, by rw [hq]; rfl, fun i hi => blk_N (((va_up_ne _ _ (fun z => hi (by rw [z]; decide))).trans (va_up_ne _ _ (fun z => hi (by rw [z]; decide)))).trans (va_up_ne _ _ (fun z => hi (by rw [z]; decide)))) (fun _ => rfl) (fun _ => rfl) rfl (fun _ => rfl) (fun _ => rfl), ⟨1, rfl⟩, mRA (c_X12_back l dC dI sk sv tc (A 16) (G 16) e1) inv hB' h7 ⟨by decide, by decide, rfl, rfl, by decide, by decide⟩⟩
    | false =>
      obtain ⟨hq, inv⟩ := inv ko none (fun z => absurd z (by decide)) (fun _ => rfl)
      refine sCP (f := blk tc A G q1 lo ko hs SA SL SG SK SQ Z) (is := [0, 2, 3, 32, 15, 17, 18]) (zr := lawB tc lo ++ (Z ++ lawB tc ko)) ct (List.Perm.of_eq (by simp only [List.append_assoc]; rfl)) (by decide) (by decide) ⟨by decide, by decide, rfl, rfl, by decide, by decide⟩ (fun v9 w' h => ?_) (fun E w' h => h.elim)
      obtain ⟨rfl, rfl⟩ := h
      refine ⟨blk tc A (va_up (va_up (va_up G 0 (pu (G 0) 12 0 0)) 2 G2) 3 G3) q1 ko none hs SA SL SG SK SQ (Z ++ lawB tc lo), ?_, fun i hi => blk_L (((va_up_ne _ _ (fun z => hi (by rw [z]; decide))).trans (va_up_ne _ _ (fun z => hi (by rw [z]; decide)))).trans (va_up_ne _ _ (fun z => hi (by rw [z]; decide)))) (fun z => hi (by rw [z]; decide)) (fun z => hi (by rw [z]; decide)) (fun z => hi (by rw [z]; decide)) (fun z => hi (by rw [z]; decide)), ⟨1, rfl⟩, mRA (c_X12_back l dC dI sk sv tc (A 16) (G 16) e1) inv hB' h7 ⟨by decide, by decide, rfl, rfl, by decide, by decide⟩⟩
      rw [hq]
      simp only [List.append_assoc]
      refine List.Perm.append_left _ (List.Perm.append_left _ (List.Perm.append_left _ (List.Perm.append_left _ ?_)))
      show List.Perm (lawB tc lo ++ (Z ++ lawB tc ko)) (lawB tc ko ++ ((Z ++ lawB tc lo) ++ []))
      rw [List.append_nil]
      have p1 := List.perm_append_comm (l₁ := lawB tc lo) (l₂ := Z ++ lawB tc ko)
      have p2 := List.perm_append_comm (l₁ := Z) (l₂ := lawB tc ko)
      have p3 := (p2.append_right (lawB tc lo))
      simp only [List.append_assoc] at p1 p3 ⊢
      exact p1.trans p3
theorem top_image (l : Launch) (hst : l.stackTraces = false) (dC : Nat → ClassId) (dI : Nat → Nat → Nat) (sk sv : Nat → Nat) (tc : Nat → ClassId) (ax am : Nat) {t : Int32} {w : va_W} (hT : Top tc ax am t w) : SC l (dC, dI) sk sv tc yX11_image cX11_image 1 none [.ref ax] w (fun v w1 => v = none ∧ MR l (dC, dI) sk sv tc yX12_image cX12_image 2 none am [.ref am] w1 (fun b w2 => b = none ∧ ∃ t, Top tc ax am t w2)) (fun _ _ => False) := by
  obtain ⟨A, G, q1, lo, ko, sh, hs, SA, SL, SG, SK, SQ, Z, rfl, rfl, rfl, hI, hB, h7, rfl⟩ := hT
  obtain ⟨g', e1, h0, inv⟩ := t_image hI
  have hB' : hb g' := K_f_X12_image _ hB _ e1
  cases hk : hs 12 with
  | false =>
    obtain ⟨G4, G5, k1, hR4⟩ := k_copy hI.ok hI.rs g0St gz
    have hm : mrow hs SA 12 = none := by unfold mrow; rw [if_neg (by rw [hk]; decide)]
    have ct := c_X11_image_f l dC dI sk sv tc (A 0) (A 1 0) (A 4 0) (A 6 0) (A 7 0) (A 8 0) (A 9 0) (A 11 0) (A 12 0) (A 13 0) (A 14 0) (A 2) (lref lo) (A 3) (G 0) (G 2) (G 3) G4 G5 k1
    rw [← hm, ← slB_f (tc := tc) (SA := SA) (SL := SL) (SG := SG) (SK := SK) (SQ := SQ) hk] at ct
    refine sCP (f := blk tc A G q1 lo ko hs SA SL SG SK SQ Z) (is := [0, 2, 3, 32, 17, 18]) (zr := Z ++ lawB tc ko) ct (List.Perm.of_eq (by simp only [List.append_assoc]; rfl)) (by decide) (by decide) ⟨by decide, by decide, rfl, rfl, by decide, by decide⟩ (fun v9 w' h => ?_) (fun E w' h => h.elim)
    · obtain ⟨rfl, u1, u2, rfl⟩ := h
      refine ⟨blk tc A G q1 lo none (va_up hs 12 true) (va_up SA 12 u1) (va_up SL 12 u2) (va_up SG 12 G4) (va_up SK 12 G5) (va_up SQ 12 (lref lo)) (Z ++ lawB tc ko), ?_, fun i hi => ?_, rfl, mRA (c_X12_image l dC dI sk sv tc (A 16) (G 16) e1) (inv G4 G5 none hR4) hB' h7 ⟨by decide, by decide, rfl, rfl, by decide, by decide⟩⟩
      · have em : mrow (va_up hs 12 true) (va_up SA 12 u1) 12 = some (u1 0) := by unfold mrow; rw [va_up_self, va_up_self, if_pos rfl]
        rw [← em, ← slB_s (hs := hs) (SA := SA) (SL := SL) (SG := SG) (SK := SK) (SQ := SQ)]
        simp only [List.append_assoc]
        refine List.Perm.append_left _ (List.Perm.append_left _ (List.Perm.append_left _ (List.Perm.append_left _ ?_)))
        show List.Perm (Z ++ lawB tc ko) ((Z ++ lawB tc ko) ++ [])
        rw [List.append_nil]
      · exact blk_I (fun z => hi (by rw [z]; decide)) (fun z => hi (by rw [z]; decide)) (fun z => hi (by rw [z]; decide)) (fun z => hi (by rw [z]; decide))
  | true =>
    obtain ⟨G4, G5, k1, hR4⟩ := k_copy hI.ok hI.rs (SG 12) (SK 12)
    have hm : mrow hs SA 12 = some (SA 12 0) := by unfold mrow; rw [if_pos hk]
    have ct := c_X11_image_o l dC dI sk sv tc (A 0) (A 1 0) (A 4 0) (A 6 0) (A 7 0) (A 8 0) (A 9 0) (A 11 0) (A 12 0) (A 13 0) (A 14 0) (A 2) (lref lo) (A 3) (G 0) (G 2) (G 3) (SA 12) (SL 12) (SG 12) (SK 12) (SQ 12) G4 G5 k1
    rw [← hm, ← slB_t hk] at ct
    refine sCP (f := blk tc A G q1 lo ko hs SA SL SG SK SQ Z) (is := [0, 2, 3, 32, 17, 18]) (zr := Z ++ lawB tc ko) ct (List.Perm.of_eq (by simp only [List.append_assoc]; rfl)) (by decide) (by decide) ⟨by decide, by decide, rfl, rfl, by decide, by decide⟩ (fun v9 w' h => ?_) (fun E w' h => h.elim)
    · obtain ⟨rfl, u1, u2, rfl⟩ := h
      refine ⟨blk tc A G q1 lo none (va_up hs 12 true) (va_up SA 12 u1) (va_up SL 12 u2) (va_up SG 12 G4) (va_up SK 12 G5) (va_up SQ 12 (lref lo)) (Z ++ lawB tc ko), ?_, fun i hi => ?_, rfl, mRA (c_X12_image l dC dI sk sv tc (A 16) (G 16) e1) (inv G4 G5 none hR4) hB' h7 ⟨by decide, by decide, rfl, rfl, by decide, by decide⟩⟩
      · have em : mrow (va_up hs 12 true) (va_up SA 12 u1) 12 = some (u1 0) := by unfold mrow; rw [va_up_self, va_up_self, if_pos rfl]
        rw [← em, ← slB_s (hs := hs) (SA := SA) (SL := SL) (SG := SG) (SK := SK) (SQ := SQ)]
        simp only [List.append_assoc]
        refine List.Perm.append_left _ (List.Perm.append_left _ (List.Perm.append_left _ (List.Perm.append_left _ ?_)))
        show List.Perm (Z ++ lawB tc ko) ((Z ++ lawB tc ko) ++ [])
        rw [List.append_nil]
      · exact blk_I (fun z => hi (by rw [z]; decide)) (fun z => hi (by rw [z]; decide)) (fun z => hi (by rw [z]; decide)) (fun z => hi (by rw [z]; decide))
