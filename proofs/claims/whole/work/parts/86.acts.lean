def f_X11_rem (g : Pic) : Option Pic := gdi (fRemS (fRem1 g)) 12 (some (fRem2 (fRem1 g)))

def f_X11_speak (g0 : Pic) (g2 : Pic) (g3 : Pic) (x1 : Int32) : Option ((Nat × (Pic × Pic)) ⊕ (Int32 × (Pic × Pic))) := lr (f_X11_needWord g0 g2 x1) (fun e => .inl (e.1, (g0, g2))) (fun _ => (if (g2 4 0) < 20 then bd (f_X11_rem g0) (fun g0_2 => gdi (g2 4 0) 20 (nm (pu g2 5 ((g2 4 0).toNatClampNeg) x1) (fun g2_4 => nm (pu g2_4 4 0 ((g2_4 4 0) + 1)) (fun g2_5 => some (.inr ((g2_5 4 0), ((fRem2 (fRem1 g0)), g2_5))))))) else some (.inl (3, (g0, g2)))))
abbrev rm_X11_speak : Room := { frames := 7, cells := 13, slots := 475, locals := 221 }
set_option maxHeartbeats 4000000 in
set_option maxRecDepth 100000 in
theorem c_X11_speak (l : Launch) (hst : l.stackTraces = false) (dC : Nat → ClassId) (dI : Nat → Nat → Nat) (sk sv : Nat → Nat) (tc : Nat → ClassId) (a0 : Nat → Nat) (q0_0 : Nat) (q0_2 : Nat) (q0_3 : Nat) (q0_4 : Nat) (q0_5 : Nat) (q0_6 : Nat) (q0_7 : Nat) (q0_8 : Nat) (q0_9 : Nat) (q0_13 : Option Nat) (a2 : Nat → Nat) (q2_18 : Option Nat) (a3 : Nat → Nat) (am : Nat) (mr : Nat → Option Nat) (zz : va_W) (g0 : Pic) (g2 : Pic) (g3 : Pic) (x1 : Int32) (G4 G5 : Pic) {res : ((Nat × (Pic × Pic)) ⊕ (Int32 × (Pic × Pic)))} (h : f_X11_speak g0 g2 g3 x1 = some res) (hz : SlZ tc mr (fRemS (fRem1 g0)).toNatClampNeg zz g2 g3 G4 G5) : CZ l (dC, dI) sk sv (TY tc) yX11_speak (.code yX11_speak cX11_speak 2 (some .int)) rm_X11_speak 13 475 [.ref (a0 0), .int x1] (wPU tc a0 g0 q0_0 (a2 0) q0_2 q0_3 q0_4 q0_5 q0_6 q0_7 q0_8 q0_9 am q0_13 ++ (wMm tc am mr ++ (wSt tc a2 g2 q2_18 (a3 0) ++ (wLg tc a3 g3 ++ (zz))))) (fun v w' => ∃ (r : Int32) (p : Pic × Pic) (u1 u2 : Nat → Nat), res = .inr (r, p) ∧ v = some (.int r) ∧ w' = (wPU tc a0 p.1 q0_0 (a2 0) q0_2 q0_3 q0_4 q0_5 q0_6 q0_7 q0_8 q0_9 am q0_13 ++ (wMm tc am (va_up mr (fRemS (fRem1 g0)).toNatClampNeg (some (u1 0))) ++ (wSt tc a2 p.2 q2_18 (a3 0) ++ (wLg tc a3 g3 ++ ((wSt tc u1 G4 q2_18 (u2 0) ++ wLg tc u2 G5))))))) (fun E w' => ∃ (n9 : Nat) (p : Pic × Pic), res = .inl (n9, p) ∧ E = exn n9 ∧ w' = (wPU tc a0 g0 q0_0 (a2 0) q0_2 q0_3 q0_4 q0_5 q0_6 q0_7 q0_8 q0_9 am q0_13 ++ (wMm tc am mr ++ (wSt tc a2 g2 q2_18 (a3 0) ++ (wLg tc a3 g3 ++ (zz)))))) := by
  refine ofCZ (by decide) (Nat.le_of_ble_eq_true rfl) ?_
  intro pr e s m args below meth c A Q ls H locs X hT hQ hD0 hP hS hl
  have hD : ∀ (z0 : Pic) (z1 : Pic) (z2 : Pic) (z3 : Pic) (z4 : Pic), va_D A (wPU tc a0 z0 q0_0 (a2 0) q0_2 q0_3 q0_4 q0_5 q0_6 q0_7 q0_8 q0_9 am q0_13 ++ (wMm tc am mr ++ (wSt tc a2 z2 q2_18 (a3 0) ++ (wLg tc a3 z3 ++ (zz))))) := fun z0 z1 z2 z3 z4 => D_fst (ws := (wPU tc a0 g0 q0_0 (a2 0) q0_2 q0_3 q0_4 q0_5 q0_6 q0_7 q0_8 q0_9 am q0_13 ++ (wMm tc am mr ++ (wSt tc a2 g2 q2_18 (a3 0) ++ (wLg tc a3 g3 ++ (zz)))))) rfl hD0
  have hl : lv_has ls 2 [(0, .ref (a0 0)), (1, .int x1)] := hl
  unfold f_X11_speak at h
  refine lv_aload_n X.1 X.2.1 dX11_speak_0 rfl (lv_at hl 0 rfl) ?_
  refine lv_iload_n X.1 X.2.1 dX11_speak_1 rfl (lv_at hl 1 rfl) ?_
  obtain ⟨ex_1, hc_1, h1_1, h2_1⟩ := lr_el h
  refine callZ (ws := (wPU tc a0 g0 q0_0 (a2 0) q0_2 q0_3 q0_4 q0_5 q0_6 q0_7 q0_8 q0_9 am q0_13 ++ (wMm tc am mr ++ (wSt tc a2 g2 q2_18 (a3 0) ++ (wLg tc a3 g3 ++ (zz)))))) (As := [.int x1]) (rest := []) X.y ((CU.zv (c_X11_needWord l hst dC dI sk sv tc a0 q0_0 q0_2 q0_3 q0_4 q0_5 q0_6 q0_7 q0_8 q0_9 am q0_13 a2 q2_18 (a3 0) g0 g2 x1 hc_1) (fun _ _ => rfl)).fr (w := (wPU tc a0 g0 q0_0 (a2 0) q0_2 q0_3 q0_4 q0_5 q0_6 q0_7 q0_8 q0_9 am q0_13 ++ (wMm tc am mr ++ (wSt tc a2 g2 q2_18 (a3 0) ++ (wLg tc a3 g3 ++ (zz)))))) (PN' := fun v w' => v = none ∧ w' = (wPU tc a0 g0 q0_0 (a2 0) q0_2 q0_3 q0_4 q0_5 q0_6 q0_7 q0_8 q0_9 am q0_13 ++ (wMm tc am mr ++ (wSt tc a2 g2 q2_18 (a3 0) ++ (wLg tc a3 g3 ++ (zz))))) ∧ ∃ u, ex_1 = .inr u) (PX' := fun E w' => w' = (wPU tc a0 g0 q0_0 (a2 0) q0_2 q0_3 q0_4 q0_5 q0_6 q0_7 q0_8 q0_9 am q0_13 ++ (wMm tc am mr ++ (wSt tc a2 g2 q2_18 (a3 0) ++ (wLg tc a3 g3 ++ (zz))))) ∧ ∃ n9 u, ex_1 = .inl (n9, u) ∧ E = exn n9) (pB [wPU tc a0 g0 q0_0 (a2 0) q0_2 q0_3 q0_4 q0_5 q0_6 q0_7 q0_8 q0_9 am q0_13, wMm tc am mr, wSt tc a2 g2 q2_18 (a3 0), wLg tc a3 g3, zz] [0, 1, 2, 3, 4] [0, 2] [1, 3, 4] (by decide)) (fun v w' h => by obtain ⟨u, q, z1, z2, z3⟩ := h; subst z3; exact ⟨_, (pB [wPU tc a0 g0 q0_0 (a2 0) q0_2 q0_3 q0_4 q0_5 q0_6 q0_7 q0_8 q0_9 am q0_13, wMm tc am mr, wSt tc a2 g2 q2_18 (a3 0), wLg tc a3 g3, zz] [0, 1, 2, 3, 4] [0, 2] [1, 3, 4] (by decide)).symm, z2, rfl, u, z1⟩) (fun E w' h => by obtain ⟨n9, u, q, z1, z2, z3⟩ := h; subst z3; exact ⟨_, (pB [wPU tc a0 g0 q0_0 (a2 0) q0_2 q0_3 q0_4 q0_5 q0_6 q0_7 q0_8 q0_9 am q0_13, wMm tc am mr, wSt tc a2 g2 q2_18 (a3 0), wLg tc a3 g3, zz] [0, 1, 2, 3, 4] [0, 2] [1, 3, 4] (by decide)).symm, rfl, n9, u, z1, z2⟩)) mw_4_210 mw_4_212 mp_1_5 mw_1_1 mw_4_213 dc_X11_needWord ⟨Nat.le_of_ble_eq_true rfl, Nat.le_of_ble_eq_true rfl⟩ rfl rfl ⟨Nat.le_of_ble_eq_true rfl, Nat.le_of_ble_eq_true rfl⟩ hP (hD _ gz _ _ gz) hS (List.mem_of_getElem? (i := 0) rfl) rfl rfl hl.1 (Nat.le_of_ble_eq_true rfl) dX11_speak_2 (fun v w' H locs hn hP hD9 hS => ?_) (fun E q ce w' H locs hx hP hD9 hS y1 y2 y3 => ?_)
  rotate_left
  · obtain ⟨rfl, n9, u9, hu9, hE9⟩ := hx
    exact outZ hT X.2.2.2.2.2.2.1 hQ ⟨n9, _, (h1_1 _ hu9).symm, hE9, rfl⟩ hP hD9 hS y1 y2 y3 (Nat.le_of_ble_eq_true rfl) (Nat.le_of_ble_eq_true rfl)
  obtain ⟨rfl, rfl, u_1, hu_1⟩ := hn
  have h := h2_1 _ hu_1
  refine W.eq (g2 := F0 m 5 ls []) rfl ?_
  refine lv_aload_n X.1 X.2.1 dX11_speak_5 rfl (lv_at hl 0 rfl) ?_
  refine r_get (C := RX11) (T := TX11) (N := 15) (ci := 11) (v := .ref (a2 0)) X iw11 hP 0 rfl rfl 1 rfl mw_2_144 rfl dX11_speak_6 ?_
  refine r_get (C := RX9) (T := TX9) (N := 20) (ci := 9) (v := .int (g2 4 0)) X iw9 hP 2 rfl rfl 4 rfl mw_1_130 rfl dX11_speak_9 ?_
  refine lv_bipush (v := 20) X.1 X.2.1 dX11_speak_12 (by decide) ?_
  refine lv_icmp_lt (tgt := 28) X.1 X.2.1 dX11_speak_14 (by decide) (fun hc => ?_) (fun hc => ?_)
  · have h := it_t hc h
    refine lv_aload_n X.1 X.2.1 dX11_speak_28 rfl (lv_at hl 0 rfl) ?_
    obtain ⟨g0_2, hc_2, h⟩ := bd_el h
    obtain ⟨hin_2, e_2⟩ := gdi_el hc_2
    obtain rfl : fRem2 (fRem1 g0) = g0_2 := Option.some.inj e_2
    refine callZ (ws := (wPU tc a0 g0 q0_0 (a2 0) q0_2 q0_3 q0_4 q0_5 q0_6 q0_7 q0_8 q0_9 am q0_13 ++ (wMm tc am mr ++ (wSt tc a2 g2 q2_18 (a3 0) ++ (wLg tc a3 g3 ++ (zz)))))) (As := []) (rest := []) X.y (c_X11_rememberNow l dC dI sk sv tc a0 q0_0 q0_2 q0_3 q0_4 q0_5 q0_6 q0_7 q0_8 q0_9 am q0_13 mr a2 q2_18 a3 g0 g2 g3 zz G4 G5 hin_2 hz) mw_5_204 mw_5_206 mp_1_9 mw_1_1 mw_5_207 dc_X11_rememberNow ⟨Nat.le_of_ble_eq_true rfl, Nat.le_of_ble_eq_true rfl⟩ rfl rfl ⟨Nat.le_of_ble_eq_true rfl, Nat.le_of_ble_eq_true rfl⟩ hP (hD _ gz _ _ gz) hS (List.mem_of_getElem? (i := 0) rfl) rfl rfl hl.1 (Nat.le_of_ble_eq_true rfl) dX11_speak_29 (fun v w' H locs hn hP hD9 hS => ?_) (fun _ _ _ _ _ _ h => h.elim)
    obtain ⟨hv_2, u1, u2, hw_2⟩ := hn
    subst hv_2
    subst hw_2
    have hD : ∀ (z0 : Pic) (z1 : Pic) (z2 : Pic) (z3 : Pic) (z4 : Pic), va_D A (wPU tc a0 z0 q0_0 (a2 0) q0_2 q0_3 q0_4 q0_5 q0_6 q0_7 q0_8 q0_9 am q0_13 ++ (wMm tc am (va_up mr (fRemS (fRem1 g0)).toNatClampNeg (some (u1 0))) ++ (wSt tc a2 z2 q2_18 (a3 0) ++ (wLg tc a3 z3 ++ ((wSt tc u1 G4 q2_18 (u2 0) ++ wLg tc u2 G5)))))) := fun z0 z1 z2 z3 z4 => D_fst (ws := (wPU tc a0 (fRem2 (fRem1 g0)) q0_0 (a2 0) q0_2 q0_3 q0_4 q0_5 q0_6 q0_7 q0_8 q0_9 am q0_13 ++ (wMm tc am (va_up mr (fRemS (fRem1 g0)).toNatClampNeg (some (u1 0))) ++ (wSt tc a2 g2 q2_18 (a3 0) ++ (wLg tc a3 g3 ++ ((wSt tc u1 G4 q2_18 (u2 0) ++ wLg tc u2 G5))))))) rfl hD9
    refine W.eq (g2 := F0 m 32 ls []) rfl ?_
    refine lv_aload_n X.1 X.2.1 dX11_speak_32 rfl (lv_at hl 0 rfl) ?_
    refine r_get (C := RX11) (T := TX11) (N := 15) (ci := 11) (v := .ref (a2 0)) X iw11 hP 0 rfl rfl 1 rfl mw_2_144 rfl dX11_speak_33 ?_
    refine r_get (C := RX9) (T := TX9) (N := 20) (ci := 9) (v := .ref (a2 6)) X iw9 hP 2 rfl rfl 5 rfl mw_1_136 rfl dX11_speak_36 ?_
    refine lv_aload_n X.1 X.2.1 dX11_speak_39 rfl (lv_at hl 0 rfl) ?_
    refine r_get (C := RX11) (T := TX11) (N := 15) (ci := 11) (v := .ref (a2 0)) X iw11 hP 0 rfl rfl 1 rfl mw_2_144 rfl dX11_speak_40 ?_
    refine r_get (C := RX9) (T := TX9) (N := 20) (ci := 9) (v := .int (g2 4 0)) X iw9 hP 2 rfl rfl 4 rfl mw_1_130 rfl dX11_speak_43 ?_
    refine lv_iload_n X.1 X.2.1 dX11_speak_46 rfl (lv_at hl 1 rfl) ?_
    obtain ⟨hg_3, h⟩ := gdi_el h
    obtain ⟨g2_4, eg2_4, h⟩ := nm_el h
    refine r_iast X hP (hD _ gz _ _ gz) hS 6 0 rfl rfl hg_3 rfl dX11_speak_47 (wPU tc a0 (fRem2 (fRem1 g0)) q0_0 (a2 0) q0_2 q0_3 q0_4 q0_5 q0_6 q0_7 q0_8 q0_9 am q0_13 ++ (wMm tc am (va_up mr (fRemS (fRem1 g0)).toNatClampNeg (some (u1 0))) ++ (wSt tc a2 g2_4 q2_18 (a3 0) ++ (wLg tc a3 g3 ++ ((wSt tc u1 G4 q2_18 (u2 0) ++ wLg tc u2 G5)))))) (by rw [eg2_4]; rfl) (fun H locs hP hS => ?_)
    refine lv_aload_n X.1 X.2.1 dX11_speak_48 rfl (lv_at hl 0 rfl) ?_
    refine r_get (C := RX11) (T := TX11) (N := 15) (ci := 11) (v := .ref (a2 0)) X iw11 hP 0 rfl rfl 1 rfl mw_2_144 rfl dX11_speak_49 ?_
    refine lv_dup X.1 X.2.1 dX11_speak_52 rfl ?_
    refine r_get (C := RX9) (T := TX9) (N := 20) (ci := 9) (v := .int (g2_4 4 0)) X iw9 hP 2 rfl rfl 4 rfl mw_1_130 rfl dX11_speak_53 ?_
    refine lv_iconst (v := 1) X.1 X.2.1 dX11_speak_56 (by decide) ?_
    refine lv_iadd X.1 X.2.1 dX11_speak_57 ?_
    obtain ⟨g2_5, eg2_5, h⟩ := nm_el h
    refine r_put (C := RX9) (T := TX9) (N := 20) (ci := 9) tyX9 tyX9_ok nmX9 X iw9 hP (hD _ gz _ _ gz) hS 2 rfl rfl 4 rfl mw_1_130 rfl rfl rfl rfl dX11_speak_58 (wPU tc a0 (fRem2 (fRem1 g0)) q0_0 (a2 0) q0_2 q0_3 q0_4 q0_5 q0_6 q0_7 q0_8 q0_9 am q0_13 ++ (wMm tc am (va_up mr (fRemS (fRem1 g0)).toNatClampNeg (some (u1 0))) ++ (wSt tc a2 g2_5 q2_18 (a3 0) ++ (wLg tc a3 g3 ++ ((wSt tc u1 G4 q2_18 (u2 0) ++ wLg tc u2 G5)))))) (by rw [eg2_5]; rfl) (fun H locs hP hS => ?_)
    refine lv_aload_n X.1 X.2.1 dX11_speak_61 rfl (lv_at hl 0 rfl) ?_
    refine r_get (C := RX11) (T := TX11) (N := 15) (ci := 11) (v := .ref (a2 0)) X iw11 hP 0 rfl rfl 1 rfl mw_2_144 rfl dX11_speak_62 ?_
    refine r_get (C := RX9) (T := TX9) (N := 20) (ci := 9) (v := .int (g2_5 4 0)) X iw9 hP 2 rfl rfl 4 rfl mw_1_130 rfl dX11_speak_65 ?_
    exact retZ_i X.1 X.2.1 X.2.2.1 X.2.2.2.2.2.2.1 hQ ⟨_, ((fRem2 (fRem1 g0)), g2_5), u1, u2, (Option.some.inj h).symm, rfl, rfl⟩ hP (hD _ gz _ _ gz) hS (Nat.le_of_ble_eq_true rfl) (Nat.le_of_ble_eq_true rfl) dX11_speak_68
  · have h := it_f hc h
    exact thrZ_W (ws := (wPU tc a0 g0 q0_0 (a2 0) q0_2 q0_3 q0_4 q0_5 q0_6 q0_7 q0_8 q0_9 am q0_13 ++ (wMm tc am mr ++ (wSt tc a2 g2 q2_18 (a3 0) ++ (wLg tc a3 g3 ++ (zz)))))) (k := 3) (text := "the speech has 20 words") (ti := 28) ⟨3, _, (Option.some.inj h).symm, rfl, rfl⟩ X hT hst at_271 mw_6_5 mw_1_28 (List.mem_of_getElem? (i := 34) rfl) hQ hP (hD _ gz _ _ gz) hS hl.1 dX11_speak_17 dX11_speak_20 dX11_speak_21 dX11_speak_24 dX11_speak_27 (Nat.le_of_ble_eq_true rfl) (Nat.le_of_ble_eq_true rfl) (Nat.le_of_ble_eq_true rfl) (Nat.le_of_ble_eq_true rfl) (Nat.le_of_ble_eq_true rfl) (Nat.le_of_ble_eq_true rfl)

def f_X11_leave (g0 : Pic) (g2 : Pic) (g3 : Pic) (x1 : Int32) (x2 : Int32) (x3 : Int32) : Option ((Nat × (Pic × Pic)) ⊕ (Int32 × (Pic × Pic))) := lr (f_X11_needWriter g0 g2 x1) (fun e => .inl (e.1, (g0, g2))) (fun _ => lr (f_X11_needLetter g0 x2) (fun e => .inl (e.1, (g0, g2))) (fun _ => bd (f_X11_rem g0) (fun g0_3 => gdi x1 5 (jn (fun (s0_J36 : Int32) => jn (fun (g2_J59 : Pic) => jn (fun (s0_J70 : Int32) => gdb s0_J70 (some (.inr (s0_J70, ((fRem2 (fRem1 g0)), g2_J59))))) (fun J70 => (if s0_J36 = x3 then J70 0 else J70 1))) (fun J59 => (if s0_J36 = x3 then J59 g2 else gdi x1 5 (gdi x1 5 (nm (pu g2 8 (x1.toNatClampNeg) ((g2 8 (x1.toNatClampNeg)) ^^^ ((1 : Int32) <<< (x2 &&& 31)))) (fun g2_8 => J59 g2_8)))))) (fun J36 => (if (((g2 8 (x1.toNatClampNeg)) >>> (x2 &&& 31)) &&& 1) = 1 then J36 1 else J36 0))))))
abbrev rm_X11_leave : Room := { frames := 7, cells := 14, slots := 481, locals := 221 }
set_option maxHeartbeats 4000000 in
set_option maxRecDepth 100000 in
theorem c_X11_leave (l : Launch) (hst : l.stackTraces = false) (dC : Nat → ClassId) (dI : Nat → Nat → Nat) (sk sv : Nat → Nat) (tc : Nat → ClassId) (a0 : Nat → Nat) (q0_0 : Nat) (q0_2 : Nat) (q0_3 : Nat) (q0_4 : Nat) (q0_5 : Nat) (q0_6 : Nat) (q0_7 : Nat) (q0_8 : Nat) (q0_9 : Nat) (q0_13 : Option Nat) (a2 : Nat → Nat) (q2_18 : Option Nat) (a3 : Nat → Nat) (am : Nat) (mr : Nat → Option Nat) (zz : va_W) (g0 : Pic) (g2 : Pic) (g3 : Pic) (x1 : Int32) (x2 : Int32) (x3 : Int32) (G4 G5 : Pic) {res : ((Nat × (Pic × Pic)) ⊕ (Int32 × (Pic × Pic)))} (h : f_X11_leave g0 g2 g3 x1 x2 x3 = some res) (hz : SlZ tc mr (fRemS (fRem1 g0)).toNatClampNeg zz g2 g3 G4 G5) : CZ l (dC, dI) sk sv (TY tc) yX11_leave (.code yX11_leave cX11_leave 5 (some .boolean)) rm_X11_leave 14 481 [.ref (a0 0), .int x1, .int x2, .int x3] (wPU tc a0 g0 q0_0 (a2 0) q0_2 q0_3 q0_4 q0_5 q0_6 q0_7 q0_8 q0_9 am q0_13 ++ (wMm tc am mr ++ (wSt tc a2 g2 q2_18 (a3 0) ++ (wLg tc a3 g3 ++ (zz))))) (fun v w' => ∃ (r : Int32) (p : Pic × Pic) (u1 u2 : Nat → Nat), res = .inr (r, p) ∧ v = some (.int r) ∧ w' = (wPU tc a0 p.1 q0_0 (a2 0) q0_2 q0_3 q0_4 q0_5 q0_6 q0_7 q0_8 q0_9 am q0_13 ++ (wMm tc am (va_up mr (fRemS (fRem1 g0)).toNatClampNeg (some (u1 0))) ++ (wSt tc a2 p.2 q2_18 (a3 0) ++ (wLg tc a3 g3 ++ ((wSt tc u1 G4 q2_18 (u2 0) ++ wLg tc u2 G5))))))) (fun E w' => ∃ (n9 : Nat) (p : Pic × Pic), res = .inl (n9, p) ∧ E = exn n9 ∧ w' = (wPU tc a0 g0 q0_0 (a2 0) q0_2 q0_3 q0_4 q0_5 q0_6 q0_7 q0_8 q0_9 am q0_13 ++ (wMm tc am mr ++ (wSt tc a2 g2 q2_18 (a3 0) ++ (wLg tc a3 g3 ++ (zz)))))) := by
  refine ofCZ (by decide) (Nat.le_of_ble_eq_true rfl) ?_
  intro pr e s m args below meth c A Q ls H locs X hT hQ hD0 hP hS hl
  have hD : ∀ (z0 : Pic) (z1 : Pic) (z2 : Pic) (z3 : Pic) (z4 : Pic), va_D A (wPU tc a0 z0 q0_0 (a2 0) q0_2 q0_3 q0_4 q0_5 q0_6 q0_7 q0_8 q0_9 am q0_13 ++ (wMm tc am mr ++ (wSt tc a2 z2 q2_18 (a3 0) ++ (wLg tc a3 z3 ++ (zz))))) := fun z0 z1 z2 z3 z4 => D_fst (ws := (wPU tc a0 g0 q0_0 (a2 0) q0_2 q0_3 q0_4 q0_5 q0_6 q0_7 q0_8 q0_9 am q0_13 ++ (wMm tc am mr ++ (wSt tc a2 g2 q2_18 (a3 0) ++ (wLg tc a3 g3 ++ (zz)))))) rfl hD0
  have hl : lv_has ls 5 [(0, .ref (a0 0)), (1, .int x1), (2, .int x2), (3, .int x3)] := hl
  unfold f_X11_leave at h
  refine lv_aload_n X.1 X.2.1 dX11_leave_0 rfl (lv_at hl 0 rfl) ?_
  refine lv_iload_n X.1 X.2.1 dX11_leave_1 rfl (lv_at hl 1 rfl) ?_
  obtain ⟨ex_1, hc_1, h1_1, h2_1⟩ := lr_el h
  refine callZ (ws := (wPU tc a0 g0 q0_0 (a2 0) q0_2 q0_3 q0_4 q0_5 q0_6 q0_7 q0_8 q0_9 am q0_13 ++ (wMm tc am mr ++ (wSt tc a2 g2 q2_18 (a3 0) ++ (wLg tc a3 g3 ++ (zz)))))) (As := [.int x1]) (rest := []) X.y ((CU.zv (c_X11_needWriter l hst dC dI sk sv tc a0 q0_0 q0_2 q0_3 q0_4 q0_5 q0_6 q0_7 q0_8 q0_9 am q0_13 a2 q2_18 (a3 0) g0 g2 x1 hc_1) (fun _ _ => rfl)).fr (w := (wPU tc a0 g0 q0_0 (a2 0) q0_2 q0_3 q0_4 q0_5 q0_6 q0_7 q0_8 q0_9 am q0_13 ++ (wMm tc am mr ++ (wSt tc a2 g2 q2_18 (a3 0) ++ (wLg tc a3 g3 ++ (zz)))))) (PN' := fun v w' => v = none ∧ w' = (wPU tc a0 g0 q0_0 (a2 0) q0_2 q0_3 q0_4 q0_5 q0_6 q0_7 q0_8 q0_9 am q0_13 ++ (wMm tc am mr ++ (wSt tc a2 g2 q2_18 (a3 0) ++ (wLg tc a3 g3 ++ (zz))))) ∧ ∃ u, ex_1 = .inr u) (PX' := fun E w' => w' = (wPU tc a0 g0 q0_0 (a2 0) q0_2 q0_3 q0_4 q0_5 q0_6 q0_7 q0_8 q0_9 am q0_13 ++ (wMm tc am mr ++ (wSt tc a2 g2 q2_18 (a3 0) ++ (wLg tc a3 g3 ++ (zz))))) ∧ ∃ n9 u, ex_1 = .inl (n9, u) ∧ E = exn n9) (pB [wPU tc a0 g0 q0_0 (a2 0) q0_2 q0_3 q0_4 q0_5 q0_6 q0_7 q0_8 q0_9 am q0_13, wMm tc am mr, wSt tc a2 g2 q2_18 (a3 0), wLg tc a3 g3, zz] [0, 1, 2, 3, 4] [0, 2] [1, 3, 4] (by decide)) (fun v w' h => by obtain ⟨u, q, z1, z2, z3⟩ := h; subst z3; exact ⟨_, (pB [wPU tc a0 g0 q0_0 (a2 0) q0_2 q0_3 q0_4 q0_5 q0_6 q0_7 q0_8 q0_9 am q0_13, wMm tc am mr, wSt tc a2 g2 q2_18 (a3 0), wLg tc a3 g3, zz] [0, 1, 2, 3, 4] [0, 2] [1, 3, 4] (by decide)).symm, z2, rfl, u, z1⟩) (fun E w' h => by obtain ⟨n9, u, q, z1, z2, z3⟩ := h; subst z3; exact ⟨_, (pB [wPU tc a0 g0 q0_0 (a2 0) q0_2 q0_3 q0_4 q0_5 q0_6 q0_7 q0_8 q0_9 am q0_13, wMm tc am mr, wSt tc a2 g2 q2_18 (a3 0), wLg tc a3 g3, zz] [0, 1, 2, 3, 4] [0, 2] [1, 3, 4] (by decide)).symm, rfl, n9, u, z1, z2⟩)) mw_5_38 mw_5_40 mp_1_6 mw_1_1 mw_5_41 dc_X11_needWriter ⟨Nat.le_of_ble_eq_true rfl, Nat.le_of_ble_eq_true rfl⟩ rfl rfl ⟨Nat.le_of_ble_eq_true rfl, Nat.le_of_ble_eq_true rfl⟩ hP (hD _ gz _ _ gz) hS (List.mem_of_getElem? (i := 0) rfl) rfl rfl hl.1 (Nat.le_of_ble_eq_true rfl) dX11_leave_2 (fun v w' H locs hn hP hD9 hS => ?_) (fun E q ce w' H locs hx hP hD9 hS y1 y2 y3 => ?_)
  rotate_left
  · obtain ⟨rfl, n9, u9, hu9, hE9⟩ := hx
    exact outZ hT X.2.2.2.2.2.2.1 hQ ⟨n9, _, (h1_1 _ hu9).symm, hE9, rfl⟩ hP hD9 hS y1 y2 y3 (Nat.le_of_ble_eq_true rfl) (Nat.le_of_ble_eq_true rfl)
  obtain ⟨rfl, rfl, u_1, hu_1⟩ := hn
  have h := h2_1 _ hu_1
  refine W.eq (g2 := F0 m 5 ls []) rfl ?_
  refine lv_aload_n X.1 X.2.1 dX11_leave_5 rfl (lv_at hl 0 rfl) ?_
  refine lv_iload_n X.1 X.2.1 dX11_leave_6 rfl (lv_at hl 2 rfl) ?_
  obtain ⟨ex_2, hc_2, h1_2, h2_2⟩ := lr_el h
  refine callZ (ws := (wPU tc a0 g0 q0_0 (a2 0) q0_2 q0_3 q0_4 q0_5 q0_6 q0_7 q0_8 q0_9 am q0_13 ++ (wMm tc am mr ++ (wSt tc a2 g2 q2_18 (a3 0) ++ (wLg tc a3 g3 ++ (zz)))))) (As := [.int x2]) (rest := []) X.y ((CU.zv (c_X11_needLetter l hst dC dI sk sv tc a0 q0_0 (a2 0) q0_2 q0_3 q0_4 q0_5 q0_6 q0_7 q0_8 q0_9 am q0_13 g0 x2 hc_2) (fun _ _ => rfl)).fr (w := (wPU tc a0 g0 q0_0 (a2 0) q0_2 q0_3 q0_4 q0_5 q0_6 q0_7 q0_8 q0_9 am q0_13 ++ (wMm tc am mr ++ (wSt tc a2 g2 q2_18 (a3 0) ++ (wLg tc a3 g3 ++ (zz)))))) (PN' := fun v w' => v = none ∧ w' = (wPU tc a0 g0 q0_0 (a2 0) q0_2 q0_3 q0_4 q0_5 q0_6 q0_7 q0_8 q0_9 am q0_13 ++ (wMm tc am mr ++ (wSt tc a2 g2 q2_18 (a3 0) ++ (wLg tc a3 g3 ++ (zz))))) ∧ ∃ u, ex_2 = .inr u) (PX' := fun E w' => w' = (wPU tc a0 g0 q0_0 (a2 0) q0_2 q0_3 q0_4 q0_5 q0_6 q0_7 q0_8 q0_9 am q0_13 ++ (wMm tc am mr ++ (wSt tc a2 g2 q2_18 (a3 0) ++ (wLg tc a3 g3 ++ (zz))))) ∧ ∃ n9 u, ex_2 = .inl (n9, u) ∧ E = exn n9) (pB [wPU tc a0 g0 q0_0 (a2 0) q0_2 q0_3 q0_4 q0_5 q0_6 q0_7 q0_8 q0_9 am q0_13, wMm tc am mr, wSt tc a2 g2 q2_18 (a3 0), wLg tc a3 g3, zz] [0, 1, 2, 3, 4] [0] [1, 2, 3, 4] (by decide)) (fun v w' h => by obtain ⟨u, q, z1, z2, z3⟩ := h; subst z3; exact ⟨_, (pB [wPU tc a0 g0 q0_0 (a2 0) q0_2 q0_3 q0_4 q0_5 q0_6 q0_7 q0_8 q0_9 am q0_13, wMm tc am mr, wSt tc a2 g2 q2_18 (a3 0), wLg tc a3 g3, zz] [0, 1, 2, 3, 4] [0] [1, 2, 3, 4] (by decide)).symm, z2, rfl, u, z1⟩) (fun E w' h => by obtain ⟨n9, u, q, z1, z2, z3⟩ := h; subst z3; exact ⟨_, (pB [wPU tc a0 g0 q0_0 (a2 0) q0_2 q0_3 q0_4 q0_5 q0_6 q0_7 q0_8 q0_9 am q0_13, wMm tc am mr, wSt tc a2 g2 q2_18 (a3 0), wLg tc a3 g3, zz] [0, 1, 2, 3, 4] [0] [1, 2, 3, 4] (by decide)).symm, rfl, n9, u, z1, z2⟩)) mw_6_28 mw_6_30 mp_1_10 mw_1_1 mw_6_31 dc_X11_needLetter ⟨Nat.le_of_ble_eq_true rfl, Nat.le_of_ble_eq_true rfl⟩ rfl rfl ⟨Nat.le_of_ble_eq_true rfl, Nat.le_of_ble_eq_true rfl⟩ hP (hD _ gz _ _ gz) hS (List.mem_of_getElem? (i := 0) rfl) rfl rfl hl.1 (Nat.le_of_ble_eq_true rfl) dX11_leave_7 (fun v w' H locs hn hP hD9 hS => ?_) (fun E q ce w' H locs hx hP hD9 hS y1 y2 y3 => ?_)
  rotate_left
  · obtain ⟨rfl, n9, u9, hu9, hE9⟩ := hx
    exact outZ hT X.2.2.2.2.2.2.1 hQ ⟨n9, _, (h1_2 _ hu9).symm, hE9, rfl⟩ hP hD9 hS y1 y2 y3 (Nat.le_of_ble_eq_true rfl) (Nat.le_of_ble_eq_true rfl)
  obtain ⟨rfl, rfl, u_2, hu_2⟩ := hn
  have h := h2_2 _ hu_2
  refine W.eq (g2 := F0 m 10 ls []) rfl ?_
  refine lv_aload_n X.1 X.2.1 dX11_leave_10 rfl (lv_at hl 0 rfl) ?_
  obtain ⟨g0_3, hc_3, h⟩ := bd_el h
  obtain ⟨hin_3, e_3⟩ := gdi_el hc_3
  obtain rfl : fRem2 (fRem1 g0) = g0_3 := Option.some.inj e_3
  refine callZ (ws := (wPU tc a0 g0 q0_0 (a2 0) q0_2 q0_3 q0_4 q0_5 q0_6 q0_7 q0_8 q0_9 am q0_13 ++ (wMm tc am mr ++ (wSt tc a2 g2 q2_18 (a3 0) ++ (wLg tc a3 g3 ++ (zz)))))) (As := []) (rest := []) X.y (c_X11_rememberNow l dC dI sk sv tc a0 q0_0 q0_2 q0_3 q0_4 q0_5 q0_6 q0_7 q0_8 q0_9 am q0_13 mr a2 q2_18 a3 g0 g2 g3 zz G4 G5 hin_3 hz) mw_5_204 mw_5_206 mp_1_9 mw_1_1 mw_5_207 dc_X11_rememberNow ⟨Nat.le_of_ble_eq_true rfl, Nat.le_of_ble_eq_true rfl⟩ rfl rfl ⟨Nat.le_of_ble_eq_true rfl, Nat.le_of_ble_eq_true rfl⟩ hP (hD _ gz _ _ gz) hS (List.mem_of_getElem? (i := 0) rfl) rfl rfl hl.1 (Nat.le_of_ble_eq_true rfl) dX11_leave_11 (fun v w' H locs hn hP hD9 hS => ?_) (fun _ _ _ _ _ _ h => h.elim)
  obtain ⟨hv_3, u1, u2, hw_3⟩ := hn
  subst hv_3
  subst hw_3
  have hD : ∀ (z0 : Pic) (z1 : Pic) (z2 : Pic) (z3 : Pic) (z4 : Pic), va_D A (wPU tc a0 z0 q0_0 (a2 0) q0_2 q0_3 q0_4 q0_5 q0_6 q0_7 q0_8 q0_9 am q0_13 ++ (wMm tc am (va_up mr (fRemS (fRem1 g0)).toNatClampNeg (some (u1 0))) ++ (wSt tc a2 z2 q2_18 (a3 0) ++ (wLg tc a3 z3 ++ ((wSt tc u1 G4 q2_18 (u2 0) ++ wLg tc u2 G5)))))) := fun z0 z1 z2 z3 z4 => D_fst (ws := (wPU tc a0 (fRem2 (fRem1 g0)) q0_0 (a2 0) q0_2 q0_3 q0_4 q0_5 q0_6 q0_7 q0_8 q0_9 am q0_13 ++ (wMm tc am (va_up mr (fRemS (fRem1 g0)).toNatClampNeg (some (u1 0))) ++ (wSt tc a2 g2 q2_18 (a3 0) ++ (wLg tc a3 g3 ++ ((wSt tc u1 G4 q2_18 (u2 0) ++ wLg tc u2 G5))))))) rfl hD9
  refine W.eq (g2 := F0 m 14 ls []) rfl ?_
  refine lv_aload_n X.1 X.2.1 dX11_leave_14 rfl (lv_at hl 0 rfl) ?_
  refine r_get (C := RX11) (T := TX11) (N := 15) (ci := 11) (v := .ref (a2 0)) X iw11 hP 0 rfl rfl 1 rfl mw_2_144 rfl dX11_leave_15 ?_
  refine r_get (C := RX9) (T := TX9) (N := 20) (ci := 9) (v := .ref (a2 9)) X iw9 hP 2 rfl rfl 8 rfl mw_1_151 rfl dX11_leave_18 ?_
  refine lv_iload_n X.1 X.2.1 dX11_leave_21 rfl (lv_at hl 1 rfl) ?_
  obtain ⟨hg_4, h⟩ := gdi_el h
  refine r_iald X hP 7 0 rfl rfl hg_4 rfl dX11_leave_22 ?_
  refine lv_iload_n X.1 X.2.1 dX11_leave_23 rfl (lv_at hl 2 rfl) ?_
  refine lv_ishr X.1 X.2.1 dX11_leave_24 ?_
  refine lv_iconst (v := 1) X.1 X.2.1 dX11_leave_25 (by decide) ?_
  refine lv_iand X.1 X.2.1 dX11_leave_26 ?_
  refine lv_iconst (v := 1) X.1 X.2.1 dX11_leave_27 (by decide) ?_
  obtain ⟨J36, eJ36, h⟩ := jn_el h
  have HJ36 : ∀ (s0_J36 : Int32) (H : Heap) (locs : List Loc) (ls : Array Slot), J36 s0_J36 = some res → va_P (dC, dI) vwCl (wPU tc a0 (fRem2 (fRem1 g0)) q0_0 (a2 0) q0_2 q0_3 q0_4 q0_5 q0_6 q0_7 q0_8 q0_9 am q0_13 ++ (wMm tc am (va_up mr (fRemS (fRem1 g0)).toNatClampNeg (some (u1 0))) ++ (wSt tc a2 g2 q2_18 (a3 0) ++ (wLg tc a3 g3 ++ ((wSt tc u1 G4 q2_18 (u2 0) ++ wLg tc u2 G5)))))) H → va_S A s.heap H locs → lv_has ls 5 [(0, .ref (a0 0)), (1, .int x1), (2, .int x2), (3, .int x3)] → W pr l e rm_X11_leave s m args below meth c H locs 14 481 Q (F0 m 36 ls [.int s0_J36]) := by
    intro s0_J36 H locs ls h hP hS hl
    rw [eJ36] at h
    refine lv_istore (lv' := [(4, .int s0_J36), (0, .ref (a0 0)), (1, .int x1), (2, .int x2), (3, .int x3)]) X.1 X.2.1 dX11_leave_36 hl (by decide) rfl (fun ls hl => ?_)
    refine lv_iload X.1 X.2.1 dX11_leave_38 (lv_at hl 0 rfl) ?_
    refine lv_iload_n X.1 X.2.1 dX11_leave_40 rfl (lv_at hl 4 rfl) ?_
    obtain ⟨J59, eJ59, h⟩ := jn_el h
    have HJ59 : ∀ (g2_J59 : Pic) (H : Heap) (locs : List Loc) (ls : Array Slot), J59 g2_J59 = some res → va_P (dC, dI) vwCl (wPU tc a0 (fRem2 (fRem1 g0)) q0_0 (a2 0) q0_2 q0_3 q0_4 q0_5 q0_6 q0_7 q0_8 q0_9 am q0_13 ++ (wMm tc am (va_up mr (fRemS (fRem1 g0)).toNatClampNeg (some (u1 0))) ++ (wSt tc a2 g2_J59 q2_18 (a3 0) ++ (wLg tc a3 g3 ++ ((wSt tc u1 G4 q2_18 (u2 0) ++ wLg tc u2 G5)))))) H → va_S A s.heap H locs → lv_has ls 5 [(3, .int x3), (4, .int s0_J36)] → W pr l e rm_X11_leave s m args below meth c H locs 14 481 Q (F0 m 59 ls []) := by
      intro g2_J59 H locs ls h hP hS hl
      rw [eJ59] at h
      refine lv_iload X.1 X.2.1 dX11_leave_59 (lv_at hl 1 rfl) ?_
      refine lv_iload_n X.1 X.2.1 dX11_leave_61 rfl (lv_at hl 0 rfl) ?_
      obtain ⟨J70, eJ70, h⟩ := jn_el h
      have HJ70 : ∀ (s0_J70 : Int32) (H : Heap) (locs : List Loc) (ls : Array Slot), J70 s0_J70 = some res → va_P (dC, dI) vwCl (wPU tc a0 (fRem2 (fRem1 g0)) q0_0 (a2 0) q0_2 q0_3 q0_4 q0_5 q0_6 q0_7 q0_8 q0_9 am q0_13 ++ (wMm tc am (va_up mr (fRemS (fRem1 g0)).toNatClampNeg (some (u1 0))) ++ (wSt tc a2 g2_J59 q2_18 (a3 0) ++ (wLg tc a3 g3 ++ ((wSt tc u1 G4 q2_18 (u2 0) ++ wLg tc u2 G5)))))) H → va_S A s.heap H locs → lv_has ls 5 [] → W pr l e rm_X11_leave s m args below meth c H locs 14 481 Q (F0 m 70 ls [.int s0_J70]) := by
        intro s0_J70 H locs ls h hP hS hl
        rw [eJ70] at h
        obtain ⟨hg_5, h⟩ := gdb_el h
        exact retZ_z hg_5 X.1 X.2.1 X.2.2.1 X.2.2.2.2.2.2.1 hQ ⟨_, ((fRem2 (fRem1 g0)), g2_J59), u1, u2, (Option.some.inj h).symm, rfl, rfl⟩ hP (hD _ gz _ _ gz) hS (Nat.le_of_ble_eq_true rfl) (Nat.le_of_ble_eq_true rfl) dX11_leave_70
      refine lv_icmp_eq (tgt := 69) X.1 X.2.1 dX11_leave_62 (by decide) (fun hc => ?_) (fun hc => ?_)
      · have h := it_t hc h
        refine lv_iconst (v := 0) X.1 X.2.1 dX11_leave_69 (by decide) ?_
        exact HJ70 0 H locs ls h hP hS (lv_sub hl [] rfl)
      · have h := it_f hc h
        refine lv_iconst (v := 1) X.1 X.2.1 dX11_leave_65 (by decide) ?_
        refine lv_goto (tgt := 70) X.1 X.2.1 dX11_leave_66 (by decide) ?_
        exact HJ70 1 H locs ls h hP hS (lv_sub hl [] rfl)
    refine lv_icmp_eq (tgt := 59) X.1 X.2.1 dX11_leave_41 (by decide) (fun hc => ?_) (fun hc => ?_)
    · have h := it_t hc h
      exact HJ59 g2 H locs ls h hP hS (lv_sub hl [4, 0] rfl)
    · have h := it_f hc h
      refine lv_aload_n X.1 X.2.1 dX11_leave_44 rfl (lv_at hl 1 rfl) ?_
      refine r_get (C := RX11) (T := TX11) (N := 15) (ci := 11) (v := .ref (a2 0)) X iw11 hP 0 rfl rfl 1 rfl mw_2_144 rfl dX11_leave_45 ?_
      refine r_get (C := RX9) (T := TX9) (N := 20) (ci := 9) (v := .ref (a2 9)) X iw9 hP 2 rfl rfl 8 rfl mw_1_151 rfl dX11_leave_48 ?_
      refine lv_iload_n X.1 X.2.1 dX11_leave_51 rfl (lv_at hl 2 rfl) ?_
      refine lv_dup2_11 X.1 X.2.1 dX11_leave_52 rfl rfl ?_
      obtain ⟨hg_6, h⟩ := gdi_el h
      refine r_iald X hP 7 0 rfl rfl hg_6 rfl dX11_leave_53 ?_
      refine lv_iconst (v := 1) X.1 X.2.1 dX11_leave_54 (by decide) ?_
      refine lv_iload_n X.1 X.2.1 dX11_leave_55 rfl (lv_at hl 3 rfl) ?_
      refine lv_ishl X.1 X.2.1 dX11_leave_56 ?_
      refine lv_ixor X.1 X.2.1 dX11_leave_57 ?_
      obtain ⟨hg_7, h⟩ := gdi_el h
      obtain ⟨g2_8, eg2_8, h⟩ := nm_el h
      refine r_iast X hP (hD _ gz _ _ gz) hS 7 0 rfl rfl hg_7 rfl dX11_leave_58 (wPU tc a0 (fRem2 (fRem1 g0)) q0_0 (a2 0) q0_2 q0_3 q0_4 q0_5 q0_6 q0_7 q0_8 q0_9 am q0_13 ++ (wMm tc am (va_up mr (fRemS (fRem1 g0)).toNatClampNeg (some (u1 0))) ++ (wSt tc a2 g2_8 q2_18 (a3 0) ++ (wLg tc a3 g3 ++ ((wSt tc u1 G4 q2_18 (u2 0) ++ wLg tc u2 G5)))))) (by rw [eg2_8]; rfl) (fun H locs hP hS => ?_)
      exact HJ59 g2_8 H locs ls h hP hS (lv_sub hl [4, 0] rfl)
  refine lv_icmp_ne (tgt := 35) X.1 X.2.1 dX11_leave_28 (by decide) (fun hc => ?_) (fun hc => ?_)
  · have h := it_f hc h
    refine lv_iconst (v := 0) X.1 X.2.1 dX11_leave_35 (by decide) ?_
    exact HJ36 0 H locs ls h hP hS (lv_sub hl [0, 1, 2, 3] rfl)
  · have h := it_t hc h
    refine lv_iconst (v := 1) X.1 X.2.1 dX11_leave_31 (by decide) ?_
    refine lv_goto (tgt := 36) X.1 X.2.1 dX11_leave_32 (by decide) ?_
    exact HJ36 1 H locs ls h hP hS (lv_sub hl [0, 1, 2, 3] rfl)

def f_X11_learn (g0 : Pic) (g2 : Pic) (g3 : Pic) (x1 : Int32) : Option ((Nat × (Pic × Pic)) ⊕ (Int32 × (Pic × Pic))) := lr (f_X11_needWriter g0 g2 x1) (fun e => .inl (e.1, (g0, g2))) (fun _ => bd (f_X11_rem g0) (fun g0_2 => gdi x1 5 (gdi x1 5 (nm (pu g2 10 (x1.toNatClampNeg) (if 9 < ((g2 10 (x1.toNatClampNeg)) + 1) then 9 else ((g2 10 (x1.toNatClampNeg)) + 1))) (fun g2_5 => gdi x1 5 (some (.inr ((g2_5 10 (x1.toNatClampNeg)), ((fRem2 (fRem1 g0)), g2_5)))))))))
abbrev rm_X11_learn : Room := { frames := 7, cells := 13, slots := 475, locals := 221 }
set_option maxHeartbeats 4000000 in
set_option maxRecDepth 100000 in
theorem c_X11_learn (l : Launch) (hst : l.stackTraces = false) (dC : Nat → ClassId) (dI : Nat → Nat → Nat) (sk sv : Nat → Nat) (tc : Nat → ClassId) (a0 : Nat → Nat) (q0_0 : Nat) (q0_2 : Nat) (q0_3 : Nat) (q0_4 : Nat) (q0_5 : Nat) (q0_6 : Nat) (q0_7 : Nat) (q0_8 : Nat) (q0_9 : Nat) (q0_13 : Option Nat) (a2 : Nat → Nat) (q2_18 : Option Nat) (a3 : Nat → Nat) (am : Nat) (mr : Nat → Option Nat) (zz : va_W) (g0 : Pic) (g2 : Pic) (g3 : Pic) (x1 : Int32) (G4 G5 : Pic) {res : ((Nat × (Pic × Pic)) ⊕ (Int32 × (Pic × Pic)))} (h : f_X11_learn g0 g2 g3 x1 = some res) (hz : SlZ tc mr (fRemS (fRem1 g0)).toNatClampNeg zz g2 g3 G4 G5) : CZ l (dC, dI) sk sv (TY tc) yX11_learn (.code yX11_learn cX11_learn 2 (some .int)) rm_X11_learn 13 475 [.ref (a0 0), .int x1] (wPU tc a0 g0 q0_0 (a2 0) q0_2 q0_3 q0_4 q0_5 q0_6 q0_7 q0_8 q0_9 am q0_13 ++ (wMm tc am mr ++ (wSt tc a2 g2 q2_18 (a3 0) ++ (wLg tc a3 g3 ++ (zz))))) (fun v w' => ∃ (r : Int32) (p : Pic × Pic) (u1 u2 : Nat → Nat), res = .inr (r, p) ∧ v = some (.int r) ∧ w' = (wPU tc a0 p.1 q0_0 (a2 0) q0_2 q0_3 q0_4 q0_5 q0_6 q0_7 q0_8 q0_9 am q0_13 ++ (wMm tc am (va_up mr (fRemS (fRem1 g0)).toNatClampNeg (some (u1 0))) ++ (wSt tc a2 p.2 q2_18 (a3 0) ++ (wLg tc a3 g3 ++ ((wSt tc u1 G4 q2_18 (u2 0) ++ wLg tc u2 G5))))))) (fun E w' => ∃ (n9 : Nat) (p : Pic × Pic), res = .inl (n9, p) ∧ E = exn n9 ∧ w' = (wPU tc a0 g0 q0_0 (a2 0) q0_2 q0_3 q0_4 q0_5 q0_6 q0_7 q0_8 q0_9 am q0_13 ++ (wMm tc am mr ++ (wSt tc a2 g2 q2_18 (a3 0) ++ (wLg tc a3 g3 ++ (zz)))))) := by
  refine ofCZ (by decide) (Nat.le_of_ble_eq_true rfl) ?_
  intro pr e s m args below meth c A Q ls H locs X hT hQ hD0 hP hS hl
  have hD : ∀ (z0 : Pic) (z1 : Pic) (z2 : Pic) (z3 : Pic) (z4 : Pic), va_D A (wPU tc a0 z0 q0_0 (a2 0) q0_2 q0_3 q0_4 q0_5 q0_6 q0_7 q0_8 q0_9 am q0_13 ++ (wMm tc am mr ++ (wSt tc a2 z2 q2_18 (a3 0) ++ (wLg tc a3 z3 ++ (zz))))) := fun z0 z1 z2 z3 z4 => D_fst (ws := (wPU tc a0 g0 q0_0 (a2 0) q0_2 q0_3 q0_4 q0_5 q0_6 q0_7 q0_8 q0_9 am q0_13 ++ (wMm tc am mr ++ (wSt tc a2 g2 q2_18 (a3 0) ++ (wLg tc a3 g3 ++ (zz)))))) rfl hD0
  have hl : lv_has ls 2 [(0, .ref (a0 0)), (1, .int x1)] := hl
  unfold f_X11_learn at h
  refine lv_aload_n X.1 X.2.1 dX11_learn_0 rfl (lv_at hl 0 rfl) ?_
  refine lv_iload_n X.1 X.2.1 dX11_learn_1 rfl (lv_at hl 1 rfl) ?_
  obtain ⟨ex_1, hc_1, h1_1, h2_1⟩ := lr_el h
  refine callZ (ws := (wPU tc a0 g0 q0_0 (a2 0) q0_2 q0_3 q0_4 q0_5 q0_6 q0_7 q0_8 q0_9 am q0_13 ++ (wMm tc am mr ++ (wSt tc a2 g2 q2_18 (a3 0) ++ (wLg tc a3 g3 ++ (zz)))))) (As := [.int x1]) (rest := []) X.y ((CU.zv (c_X11_needWriter l hst dC dI sk sv tc a0 q0_0 q0_2 q0_3 q0_4 q0_5 q0_6 q0_7 q0_8 q0_9 am q0_13 a2 q2_18 (a3 0) g0 g2 x1 hc_1) (fun _ _ => rfl)).fr (w := (wPU tc a0 g0 q0_0 (a2 0) q0_2 q0_3 q0_4 q0_5 q0_6 q0_7 q0_8 q0_9 am q0_13 ++ (wMm tc am mr ++ (wSt tc a2 g2 q2_18 (a3 0) ++ (wLg tc a3 g3 ++ (zz)))))) (PN' := fun v w' => v = none ∧ w' = (wPU tc a0 g0 q0_0 (a2 0) q0_2 q0_3 q0_4 q0_5 q0_6 q0_7 q0_8 q0_9 am q0_13 ++ (wMm tc am mr ++ (wSt tc a2 g2 q2_18 (a3 0) ++ (wLg tc a3 g3 ++ (zz))))) ∧ ∃ u, ex_1 = .inr u) (PX' := fun E w' => w' = (wPU tc a0 g0 q0_0 (a2 0) q0_2 q0_3 q0_4 q0_5 q0_6 q0_7 q0_8 q0_9 am q0_13 ++ (wMm tc am mr ++ (wSt tc a2 g2 q2_18 (a3 0) ++ (wLg tc a3 g3 ++ (zz))))) ∧ ∃ n9 u, ex_1 = .inl (n9, u) ∧ E = exn n9) (pB [wPU tc a0 g0 q0_0 (a2 0) q0_2 q0_3 q0_4 q0_5 q0_6 q0_7 q0_8 q0_9 am q0_13, wMm tc am mr, wSt tc a2 g2 q2_18 (a3 0), wLg tc a3 g3, zz] [0, 1, 2, 3, 4] [0, 2] [1, 3, 4] (by decide)) (fun v w' h => by obtain ⟨u, q, z1, z2, z3⟩ := h; subst z3; exact ⟨_, (pB [wPU tc a0 g0 q0_0 (a2 0) q0_2 q0_3 q0_4 q0_5 q0_6 q0_7 q0_8 q0_9 am q0_13, wMm tc am mr, wSt tc a2 g2 q2_18 (a3 0), wLg tc a3 g3, zz] [0, 1, 2, 3, 4] [0, 2] [1, 3, 4] (by decide)).symm, z2, rfl, u, z1⟩) (fun E w' h => by obtain ⟨n9, u, q, z1, z2, z3⟩ := h; subst z3; exact ⟨_, (pB [wPU tc a0 g0 q0_0 (a2 0) q0_2 q0_3 q0_4 q0_5 q0_6 q0_7 q0_8 q0_9 am q0_13, wMm tc am mr, wSt tc a2 g2 q2_18 (a3 0), wLg tc a3 g3, zz] [0, 1, 2, 3, 4] [0, 2] [1, 3, 4] (by decide)).symm, rfl, n9, u, z1, z2⟩)) mw_5_38 mw_5_40 mp_1_6 mw_1_1 mw_5_41 dc_X11_needWriter ⟨Nat.le_of_ble_eq_true rfl, Nat.le_of_ble_eq_true rfl⟩ rfl rfl ⟨Nat.le_of_ble_eq_true rfl, Nat.le_of_ble_eq_true rfl⟩ hP (hD _ gz _ _ gz) hS (List.mem_of_getElem? (i := 0) rfl) rfl rfl hl.1 (Nat.le_of_ble_eq_true rfl) dX11_learn_2 (fun v w' H locs hn hP hD9 hS => ?_) (fun E q ce w' H locs hx hP hD9 hS y1 y2 y3 => ?_)
  rotate_left
  · obtain ⟨rfl, n9, u9, hu9, hE9⟩ := hx
    exact outZ hT X.2.2.2.2.2.2.1 hQ ⟨n9, _, (h1_1 _ hu9).symm, hE9, rfl⟩ hP hD9 hS y1 y2 y3 (Nat.le_of_ble_eq_true rfl) (Nat.le_of_ble_eq_true rfl)
  obtain ⟨rfl, rfl, u_1, hu_1⟩ := hn
  have h := h2_1 _ hu_1
  refine W.eq (g2 := F0 m 5 ls []) rfl ?_
  refine lv_aload_n X.1 X.2.1 dX11_learn_5 rfl (lv_at hl 0 rfl) ?_
  obtain ⟨g0_2, hc_2, h⟩ := bd_el h
  obtain ⟨hin_2, e_2⟩ := gdi_el hc_2
  obtain rfl : fRem2 (fRem1 g0) = g0_2 := Option.some.inj e_2
  refine callZ (ws := (wPU tc a0 g0 q0_0 (a2 0) q0_2 q0_3 q0_4 q0_5 q0_6 q0_7 q0_8 q0_9 am q0_13 ++ (wMm tc am mr ++ (wSt tc a2 g2 q2_18 (a3 0) ++ (wLg tc a3 g3 ++ (zz)))))) (As := []) (rest := []) X.y (c_X11_rememberNow l dC dI sk sv tc a0 q0_0 q0_2 q0_3 q0_4 q0_5 q0_6 q0_7 q0_8 q0_9 am q0_13 mr a2 q2_18 a3 g0 g2 g3 zz G4 G5 hin_2 hz) mw_5_204 mw_5_206 mp_1_9 mw_1_1 mw_5_207 dc_X11_rememberNow ⟨Nat.le_of_ble_eq_true rfl, Nat.le_of_ble_eq_true rfl⟩ rfl rfl ⟨Nat.le_of_ble_eq_true rfl, Nat.le_of_ble_eq_true rfl⟩ hP (hD _ gz _ _ gz) hS (List.mem_of_getElem? (i := 0) rfl) rfl rfl hl.1 (Nat.le_of_ble_eq_true rfl) dX11_learn_6 (fun v w' H locs hn hP hD9 hS => ?_) (fun _ _ _ _ _ _ h => h.elim)
  obtain ⟨hv_2, u1, u2, hw_2⟩ := hn
  subst hv_2
  subst hw_2
  have hD : ∀ (z0 : Pic) (z1 : Pic) (z2 : Pic) (z3 : Pic) (z4 : Pic), va_D A (wPU tc a0 z0 q0_0 (a2 0) q0_2 q0_3 q0_4 q0_5 q0_6 q0_7 q0_8 q0_9 am q0_13 ++ (wMm tc am (va_up mr (fRemS (fRem1 g0)).toNatClampNeg (some (u1 0))) ++ (wSt tc a2 z2 q2_18 (a3 0) ++ (wLg tc a3 z3 ++ ((wSt tc u1 G4 q2_18 (u2 0) ++ wLg tc u2 G5)))))) := fun z0 z1 z2 z3 z4 => D_fst (ws := (wPU tc a0 (fRem2 (fRem1 g0)) q0_0 (a2 0) q0_2 q0_3 q0_4 q0_5 q0_6 q0_7 q0_8 q0_9 am q0_13 ++ (wMm tc am (va_up mr (fRemS (fRem1 g0)).toNatClampNeg (some (u1 0))) ++ (wSt tc a2 g2 q2_18 (a3 0) ++ (wLg tc a3 g3 ++ ((wSt tc u1 G4 q2_18 (u2 0) ++ wLg tc u2 G5))))))) rfl hD9
  refine W.eq (g2 := F0 m 9 ls []) rfl ?_
  refine lv_aload_n X.1 X.2.1 dX11_learn_9 rfl (lv_at hl 0 rfl) ?_
  refine r_get (C := RX11) (T := TX11) (N := 15) (ci := 11) (v := .ref (a2 0)) X iw11 hP 0 rfl rfl 1 rfl mw_2_144 rfl dX11_learn_10 ?_
  refine r_get (C := RX9) (T := TX9) (N := 20) (ci := 9) (v := .ref (a2 11)) X iw9 hP 2 rfl rfl 10 rfl mw_1_161 rfl dX11_learn_13 ?_
  refine lv_iload_n X.1 X.2.1 dX11_learn_16 rfl (lv_at hl 1 rfl) ?_
  refine lv_aload_n X.1 X.2.1 dX11_learn_17 rfl (lv_at hl 0 rfl) ?_
  refine r_get (C := RX11) (T := TX11) (N := 15) (ci := 11) (v := .ref (a2 0)) X iw11 hP 0 rfl rfl 1 rfl mw_2_144 rfl dX11_learn_18 ?_
  refine r_get (C := RX9) (T := TX9) (N := 20) (ci := 9) (v := .ref (a2 11)) X iw9 hP 2 rfl rfl 10 rfl mw_1_161 rfl dX11_learn_21 ?_
  refine lv_iload_n X.1 X.2.1 dX11_learn_24 rfl (lv_at hl 1 rfl) ?_
  obtain ⟨hg_3, h⟩ := gdi_el h
  refine r_iald X hP 9 0 rfl rfl hg_3 rfl dX11_learn_25 ?_
  refine lv_iconst (v := 1) X.1 X.2.1 dX11_learn_26 (by decide) ?_
  refine lv_iadd X.1 X.2.1 dX11_learn_27 ?_
  refine lv_bipush (v := 9) X.1 X.2.1 dX11_learn_28 (by decide) ?_
  refine r_min X mw_6_40 mw_3_9 mw_1_25 mw_3_10 hl.1 (Nat.le_of_ble_eq_true rfl) (Nat.le_of_ble_eq_true rfl) ⟨Nat.le_of_ble_eq_true rfl, Nat.le_of_ble_eq_true rfl⟩ dX11_learn_30 ?_
  obtain ⟨hg_4, h⟩ := gdi_el h
  obtain ⟨g2_5, eg2_5, h⟩ := nm_el h
  refine r_iast X hP (hD _ gz _ _ gz) hS 9 0 rfl rfl hg_4 rfl dX11_learn_33 (wPU tc a0 (fRem2 (fRem1 g0)) q0_0 (a2 0) q0_2 q0_3 q0_4 q0_5 q0_6 q0_7 q0_8 q0_9 am q0_13 ++ (wMm tc am (va_up mr (fRemS (fRem1 g0)).toNatClampNeg (some (u1 0))) ++ (wSt tc a2 g2_5 q2_18 (a3 0) ++ (wLg tc a3 g3 ++ ((wSt tc u1 G4 q2_18 (u2 0) ++ wLg tc u2 G5)))))) (by rw [eg2_5]; rfl) (fun H locs hP hS => ?_)
  refine lv_aload_n X.1 X.2.1 dX11_learn_34 rfl (lv_at hl 0 rfl) ?_
  refine r_get (C := RX11) (T := TX11) (N := 15) (ci := 11) (v := .ref (a2 0)) X iw11 hP 0 rfl rfl 1 rfl mw_2_144 rfl dX11_learn_35 ?_
  refine r_get (C := RX9) (T := TX9) (N := 20) (ci := 9) (v := .ref (a2 11)) X iw9 hP 2 rfl rfl 10 rfl mw_1_161 rfl dX11_learn_38 ?_
  refine lv_iload_n X.1 X.2.1 dX11_learn_41 rfl (lv_at hl 1 rfl) ?_
  obtain ⟨hg_6, h⟩ := gdi_el h
  refine r_iald X hP 9 0 rfl rfl hg_6 rfl dX11_learn_42 ?_
  exact retZ_i X.1 X.2.1 X.2.2.1 X.2.2.2.2.2.2.1 hQ ⟨_, ((fRem2 (fRem1 g0)), g2_5), u1, u2, (Option.some.inj h).symm, rfl, rfl⟩ hP (hD _ gz _ _ gz) hS (Nat.le_of_ble_eq_true rfl) (Nat.le_of_ble_eq_true rfl) dX11_learn_43

def f_X11_rest (g0 : Pic) (g2 : Pic) (g3 : Pic) (x1 : Int32) : Option ((Nat × (Pic × Pic)) ⊕ (Int32 × (Pic × Pic))) := lr (f_X11_needWriter g0 g2 x1) (fun e => .inl (e.1, (g0, g2))) (fun _ => bd (f_X11_rem g0) (fun g0_2 => gdi x1 5 (nm ((g2 11 (x1.toNatClampNeg))) (fun x2_4 => gdi x1 5 (nm (pu g2 11 (x1.toNatClampNeg) 0) (fun g2_6 => some (.inr (x2_4, ((fRem2 (fRem1 g0)), g2_6)))))))))
abbrev rm_X11_rest : Room := { frames := 7, cells := 13, slots := 475, locals := 221 }
set_option maxHeartbeats 4000000 in
set_option maxRecDepth 100000 in
theorem c_X11_rest (l : Launch) (hst : l.stackTraces = false) (dC : Nat → ClassId) (dI : Nat → Nat → Nat) (sk sv : Nat → Nat) (tc : Nat → ClassId) (a0 : Nat → Nat) (q0_0 : Nat) (q0_2 : Nat) (q0_3 : Nat) (q0_4 : Nat) (q0_5 : Nat) (q0_6 : Nat) (q0_7 : Nat) (q0_8 : Nat) (q0_9 : Nat) (q0_13 : Option Nat) (a2 : Nat → Nat) (q2_18 : Option Nat) (a3 : Nat → Nat) (am : Nat) (mr : Nat → Option Nat) (zz : va_W) (g0 : Pic) (g2 : Pic) (g3 : Pic) (x1 : Int32) (G4 G5 : Pic) {res : ((Nat × (Pic × Pic)) ⊕ (Int32 × (Pic × Pic)))} (h : f_X11_rest g0 g2 g3 x1 = some res) (hz : SlZ tc mr (fRemS (fRem1 g0)).toNatClampNeg zz g2 g3 G4 G5) : CZ l (dC, dI) sk sv (TY tc) yX11_rest (.code yX11_rest cX11_rest 3 (some .int)) rm_X11_rest 13 475 [.ref (a0 0), .int x1] (wPU tc a0 g0 q0_0 (a2 0) q0_2 q0_3 q0_4 q0_5 q0_6 q0_7 q0_8 q0_9 am q0_13 ++ (wMm tc am mr ++ (wSt tc a2 g2 q2_18 (a3 0) ++ (wLg tc a3 g3 ++ (zz))))) (fun v w' => ∃ (r : Int32) (p : Pic × Pic) (u1 u2 : Nat → Nat), res = .inr (r, p) ∧ v = some (.int r) ∧ w' = (wPU tc a0 p.1 q0_0 (a2 0) q0_2 q0_3 q0_4 q0_5 q0_6 q0_7 q0_8 q0_9 am q0_13 ++ (wMm tc am (va_up mr (fRemS (fRem1 g0)).toNatClampNeg (some (u1 0))) ++ (wSt tc a2 p.2 q2_18 (a3 0) ++ (wLg tc a3 g3 ++ ((wSt tc u1 G4 q2_18 (u2 0) ++ wLg tc u2 G5))))))) (fun E w' => ∃ (n9 : Nat) (p : Pic × Pic), res = .inl (n9, p) ∧ E = exn n9 ∧ w' = (wPU tc a0 g0 q0_0 (a2 0) q0_2 q0_3 q0_4 q0_5 q0_6 q0_7 q0_8 q0_9 am q0_13 ++ (wMm tc am mr ++ (wSt tc a2 g2 q2_18 (a3 0) ++ (wLg tc a3 g3 ++ (zz)))))) := by
  refine ofCZ (by decide) (Nat.le_of_ble_eq_true rfl) ?_
  intro pr e s m args below meth c A Q ls H locs X hT hQ hD0 hP hS hl
  have hD : ∀ (z0 : Pic) (z1 : Pic) (z2 : Pic) (z3 : Pic) (z4 : Pic), va_D A (wPU tc a0 z0 q0_0 (a2 0) q0_2 q0_3 q0_4 q0_5 q0_6 q0_7 q0_8 q0_9 am q0_13 ++ (wMm tc am mr ++ (wSt tc a2 z2 q2_18 (a3 0) ++ (wLg tc a3 z3 ++ (zz))))) := fun z0 z1 z2 z3 z4 => D_fst (ws := (wPU tc a0 g0 q0_0 (a2 0) q0_2 q0_3 q0_4 q0_5 q0_6 q0_7 q0_8 q0_9 am q0_13 ++ (wMm tc am mr ++ (wSt tc a2 g2 q2_18 (a3 0) ++ (wLg tc a3 g3 ++ (zz)))))) rfl hD0
  have hl : lv_has ls 3 [(0, .ref (a0 0)), (1, .int x1)] := hl
  unfold f_X11_rest at h
  refine lv_aload_n X.1 X.2.1 dX11_rest_0 rfl (lv_at hl 0 rfl) ?_
  refine lv_iload_n X.1 X.2.1 dX11_rest_1 rfl (lv_at hl 1 rfl) ?_
  obtain ⟨ex_1, hc_1, h1_1, h2_1⟩ := lr_el h
  refine callZ (ws := (wPU tc a0 g0 q0_0 (a2 0) q0_2 q0_3 q0_4 q0_5 q0_6 q0_7 q0_8 q0_9 am q0_13 ++ (wMm tc am mr ++ (wSt tc a2 g2 q2_18 (a3 0) ++ (wLg tc a3 g3 ++ (zz)))))) (As := [.int x1]) (rest := []) X.y ((CU.zv (c_X11_needWriter l hst dC dI sk sv tc a0 q0_0 q0_2 q0_3 q0_4 q0_5 q0_6 q0_7 q0_8 q0_9 am q0_13 a2 q2_18 (a3 0) g0 g2 x1 hc_1) (fun _ _ => rfl)).fr (w := (wPU tc a0 g0 q0_0 (a2 0) q0_2 q0_3 q0_4 q0_5 q0_6 q0_7 q0_8 q0_9 am q0_13 ++ (wMm tc am mr ++ (wSt tc a2 g2 q2_18 (a3 0) ++ (wLg tc a3 g3 ++ (zz)))))) (PN' := fun v w' => v = none ∧ w' = (wPU tc a0 g0 q0_0 (a2 0) q0_2 q0_3 q0_4 q0_5 q0_6 q0_7 q0_8 q0_9 am q0_13 ++ (wMm tc am mr ++ (wSt tc a2 g2 q2_18 (a3 0) ++ (wLg tc a3 g3 ++ (zz))))) ∧ ∃ u, ex_1 = .inr u) (PX' := fun E w' => w' = (wPU tc a0 g0 q0_0 (a2 0) q0_2 q0_3 q0_4 q0_5 q0_6 q0_7 q0_8 q0_9 am q0_13 ++ (wMm tc am mr ++ (wSt tc a2 g2 q2_18 (a3 0) ++ (wLg tc a3 g3 ++ (zz))))) ∧ ∃ n9 u, ex_1 = .inl (n9, u) ∧ E = exn n9) (pB [wPU tc a0 g0 q0_0 (a2 0) q0_2 q0_3 q0_4 q0_5 q0_6 q0_7 q0_8 q0_9 am q0_13, wMm tc am mr, wSt tc a2 g2 q2_18 (a3 0), wLg tc a3 g3, zz] [0, 1, 2, 3, 4] [0, 2] [1, 3, 4] (by decide)) (fun v w' h => by obtain ⟨u, q, z1, z2, z3⟩ := h; subst z3; exact ⟨_, (pB [wPU tc a0 g0 q0_0 (a2 0) q0_2 q0_3 q0_4 q0_5 q0_6 q0_7 q0_8 q0_9 am q0_13, wMm tc am mr, wSt tc a2 g2 q2_18 (a3 0), wLg tc a3 g3, zz] [0, 1, 2, 3, 4] [0, 2] [1, 3, 4] (by decide)).symm, z2, rfl, u, z1⟩) (fun E w' h => by obtain ⟨n9, u, q, z1, z2, z3⟩ := h; subst z3; exact ⟨_, (pB [wPU tc a0 g0 q0_0 (a2 0) q0_2 q0_3 q0_4 q0_5 q0_6 q0_7 q0_8 q0_9 am q0_13, wMm tc am mr, wSt tc a2 g2 q2_18 (a3 0), wLg tc a3 g3, zz] [0, 1, 2, 3, 4] [0, 2] [1, 3, 4] (by decide)).symm, rfl, n9, u, z1, z2⟩)) mw_5_38 mw_5_40 mp_1_6 mw_1_1 mw_5_41 dc_X11_needWriter ⟨Nat.le_of_ble_eq_true rfl, Nat.le_of_ble_eq_true rfl⟩ rfl rfl ⟨Nat.le_of_ble_eq_true rfl, Nat.le_of_ble_eq_true rfl⟩ hP (hD _ gz _ _ gz) hS (List.mem_of_getElem? (i := 0) rfl) rfl rfl hl.1 (Nat.le_of_ble_eq_true rfl) dX11_rest_2 (fun v w' H locs hn hP hD9 hS => ?_) (fun E q ce w' H locs hx hP hD9 hS y1 y2 y3 => ?_)
  rotate_left
  · obtain ⟨rfl, n9, u9, hu9, hE9⟩ := hx
    exact outZ hT X.2.2.2.2.2.2.1 hQ ⟨n9, _, (h1_1 _ hu9).symm, hE9, rfl⟩ hP hD9 hS y1 y2 y3 (Nat.le_of_ble_eq_true rfl) (Nat.le_of_ble_eq_true rfl)
  obtain ⟨rfl, rfl, u_1, hu_1⟩ := hn
  have h := h2_1 _ hu_1
  refine W.eq (g2 := F0 m 5 ls []) rfl ?_
  refine lv_aload_n X.1 X.2.1 dX11_rest_5 rfl (lv_at hl 0 rfl) ?_
  obtain ⟨g0_2, hc_2, h⟩ := bd_el h
  obtain ⟨hin_2, e_2⟩ := gdi_el hc_2
  obtain rfl : fRem2 (fRem1 g0) = g0_2 := Option.some.inj e_2
  refine callZ (ws := (wPU tc a0 g0 q0_0 (a2 0) q0_2 q0_3 q0_4 q0_5 q0_6 q0_7 q0_8 q0_9 am q0_13 ++ (wMm tc am mr ++ (wSt tc a2 g2 q2_18 (a3 0) ++ (wLg tc a3 g3 ++ (zz)))))) (As := []) (rest := []) X.y (c_X11_rememberNow l dC dI sk sv tc a0 q0_0 q0_2 q0_3 q0_4 q0_5 q0_6 q0_7 q0_8 q0_9 am q0_13 mr a2 q2_18 a3 g0 g2 g3 zz G4 G5 hin_2 hz) mw_5_204 mw_5_206 mp_1_9 mw_1_1 mw_5_207 dc_X11_rememberNow ⟨Nat.le_of_ble_eq_true rfl, Nat.le_of_ble_eq_true rfl⟩ rfl rfl ⟨Nat.le_of_ble_eq_true rfl, Nat.le_of_ble_eq_true rfl⟩ hP (hD _ gz _ _ gz) hS (List.mem_of_getElem? (i := 0) rfl) rfl rfl hl.1 (Nat.le_of_ble_eq_true rfl) dX11_rest_6 (fun v w' H locs hn hP hD9 hS => ?_) (fun _ _ _ _ _ _ h => h.elim)
  obtain ⟨hv_2, u1, u2, hw_2⟩ := hn
  subst hv_2
  subst hw_2
  have hD : ∀ (z0 : Pic) (z1 : Pic) (z2 : Pic) (z3 : Pic) (z4 : Pic), va_D A (wPU tc a0 z0 q0_0 (a2 0) q0_2 q0_3 q0_4 q0_5 q0_6 q0_7 q0_8 q0_9 am q0_13 ++ (wMm tc am (va_up mr (fRemS (fRem1 g0)).toNatClampNeg (some (u1 0))) ++ (wSt tc a2 z2 q2_18 (a3 0) ++ (wLg tc a3 z3 ++ ((wSt tc u1 G4 q2_18 (u2 0) ++ wLg tc u2 G5)))))) := fun z0 z1 z2 z3 z4 => D_fst (ws := (wPU tc a0 (fRem2 (fRem1 g0)) q0_0 (a2 0) q0_2 q0_3 q0_4 q0_5 q0_6 q0_7 q0_8 q0_9 am q0_13 ++ (wMm tc am (va_up mr (fRemS (fRem1 g0)).toNatClampNeg (some (u1 0))) ++ (wSt tc a2 g2 q2_18 (a3 0) ++ (wLg tc a3 g3 ++ ((wSt tc u1 G4 q2_18 (u2 0) ++ wLg tc u2 G5))))))) rfl hD9
  refine W.eq (g2 := F0 m 9 ls []) rfl ?_
  refine lv_aload_n X.1 X.2.1 dX11_rest_9 rfl (lv_at hl 0 rfl) ?_
  refine r_get (C := RX11) (T := TX11) (N := 15) (ci := 11) (v := .ref (a2 0)) X iw11 hP 0 rfl rfl 1 rfl mw_2_144 rfl dX11_rest_10 ?_
  refine r_get (C := RX9) (T := TX9) (N := 20) (ci := 9) (v := .ref (a2 12)) X iw9 hP 2 rfl rfl 11 rfl mw_1_166 rfl dX11_rest_13 ?_
  refine lv_iload_n X.1 X.2.1 dX11_rest_16 rfl (lv_at hl 1 rfl) ?_
  obtain ⟨hg_3, h⟩ := gdi_el h
  refine r_iald X hP 10 0 rfl rfl hg_3 rfl dX11_rest_17 ?_
  obtain ⟨x2_4, ex2_4, h⟩ := nm_el h
  refine tp_i ex2_4 ?_
  refine lv_istore_n (lv' := [(2, .int x2_4), (0, .ref (a0 0)), (1, .int x1)]) X.1 X.2.1 dX11_rest_18 rfl hl (by decide) rfl (fun ls hl => ?_)
  refine lv_aload_n X.1 X.2.1 dX11_rest_19 rfl (lv_at hl 1 rfl) ?_
  refine r_get (C := RX11) (T := TX11) (N := 15) (ci := 11) (v := .ref (a2 0)) X iw11 hP 0 rfl rfl 1 rfl mw_2_144 rfl dX11_rest_20 ?_
  refine r_get (C := RX9) (T := TX9) (N := 20) (ci := 9) (v := .ref (a2 12)) X iw9 hP 2 rfl rfl 11 rfl mw_1_166 rfl dX11_rest_23 ?_
  refine lv_iload_n X.1 X.2.1 dX11_rest_26 rfl (lv_at hl 2 rfl) ?_
  refine lv_iconst (v := 0) X.1 X.2.1 dX11_rest_27 (by decide) ?_
  obtain ⟨hg_5, h⟩ := gdi_el h
  obtain ⟨g2_6, eg2_6, h⟩ := nm_el h
  refine r_iast X hP (hD _ gz _ _ gz) hS 10 0 rfl rfl hg_5 rfl dX11_rest_28 (wPU tc a0 (fRem2 (fRem1 g0)) q0_0 (a2 0) q0_2 q0_3 q0_4 q0_5 q0_6 q0_7 q0_8 q0_9 am q0_13 ++ (wMm tc am (va_up mr (fRemS (fRem1 g0)).toNatClampNeg (some (u1 0))) ++ (wSt tc a2 g2_6 q2_18 (a3 0) ++ (wLg tc a3 g3 ++ ((wSt tc u1 G4 q2_18 (u2 0) ++ wLg tc u2 G5)))))) (by rw [eg2_6]; rfl) (fun H locs hP hS => ?_)
  refine lv_iload_n X.1 X.2.1 dX11_rest_29 rfl (lv_at hl 0 rfl) ?_
  exact retZ_i X.1 X.2.1 X.2.2.1 X.2.2.2.2.2.2.1 hQ ⟨_, ((fRem2 (fRem1 g0)), g2_6), u1, u2, (Option.some.inj h).symm, rfl, rfl⟩ hP (hD _ gz _ _ gz) hS (Nat.le_of_ble_eq_true rfl) (Nat.le_of_ble_eq_true rfl) dX11_rest_30

def f_X11_often (g0 : Pic) (g2 : Pic) (g3 : Pic) (x1 : Int32) (x2 : Int32) : Option ((Nat × (Pic × Pic)) ⊕ (Int32 × (Pic × Pic))) := lr (f_X11_needWord g0 g2 x1) (fun e => .inl (e.1, (g0, g2))) (fun _ => lr (f_X11_needNumber g0 x2 1 99) (fun e => .inl (e.1, (g0, g2))) (fun _ => bd (f_X11_rem g0) (fun g0_3 => gdi x1 8 (nm ((g2 3 (x1.toNatClampNeg))) (fun x3_5 => gdi x1 8 (nm (pu g2 3 (x1.toNatClampNeg) x2) (fun g2_7 => some (.inr (x3_5, ((fRem2 (fRem1 g0)), g2_7))))))))))
abbrev rm_X11_often : Room := { frames := 7, cells := 14, slots := 481, locals := 221 }
set_option maxHeartbeats 4000000 in
set_option maxRecDepth 100000 in
theorem c_X11_often (l : Launch) (hst : l.stackTraces = false) (dC : Nat → ClassId) (dI : Nat → Nat → Nat) (sk sv : Nat → Nat) (tc : Nat → ClassId) (a0 : Nat → Nat) (q0_0 : Nat) (q0_2 : Nat) (q0_3 : Nat) (q0_4 : Nat) (q0_5 : Nat) (q0_6 : Nat) (q0_7 : Nat) (q0_8 : Nat) (q0_9 : Nat) (q0_13 : Option Nat) (a2 : Nat → Nat) (q2_18 : Option Nat) (a3 : Nat → Nat) (am : Nat) (mr : Nat → Option Nat) (zz : va_W) (g0 : Pic) (g2 : Pic) (g3 : Pic) (x1 : Int32) (x2 : Int32) (G4 G5 : Pic) {res : ((Nat × (Pic × Pic)) ⊕ (Int32 × (Pic × Pic)))} (h : f_X11_often g0 g2 g3 x1 x2 = some res) (hz : SlZ tc mr (fRemS (fRem1 g0)).toNatClampNeg zz g2 g3 G4 G5) : CZ l (dC, dI) sk sv (TY tc) yX11_often (.code yX11_often cX11_often 4 (some .int)) rm_X11_often 14 481 [.ref (a0 0), .int x1, .int x2] (wPU tc a0 g0 q0_0 (a2 0) q0_2 q0_3 q0_4 q0_5 q0_6 q0_7 q0_8 q0_9 am q0_13 ++ (wMm tc am mr ++ (wSt tc a2 g2 q2_18 (a3 0) ++ (wLg tc a3 g3 ++ (zz))))) (fun v w' => ∃ (r : Int32) (p : Pic × Pic) (u1 u2 : Nat → Nat), res = .inr (r, p) ∧ v = some (.int r) ∧ w' = (wPU tc a0 p.1 q0_0 (a2 0) q0_2 q0_3 q0_4 q0_5 q0_6 q0_7 q0_8 q0_9 am q0_13 ++ (wMm tc am (va_up mr (fRemS (fRem1 g0)).toNatClampNeg (some (u1 0))) ++ (wSt tc a2 p.2 q2_18 (a3 0) ++ (wLg tc a3 g3 ++ ((wSt tc u1 G4 q2_18 (u2 0) ++ wLg tc u2 G5))))))) (fun E w' => ∃ (n9 : Nat) (p : Pic × Pic), res = .inl (n9, p) ∧ E = exn n9 ∧ w' = (wPU tc a0 g0 q0_0 (a2 0) q0_2 q0_3 q0_4 q0_5 q0_6 q0_7 q0_8 q0_9 am q0_13 ++ (wMm tc am mr ++ (wSt tc a2 g2 q2_18 (a3 0) ++ (wLg tc a3 g3 ++ (zz)))))) := by
  refine ofCZ (by decide) (Nat.le_of_ble_eq_true rfl) ?_
  intro pr e s m args below meth c A Q ls H locs X hT hQ hD0 hP hS hl
  have hD : ∀ (z0 : Pic) (z1 : Pic) (z2 : Pic) (z3 : Pic) (z4 : Pic), va_D A (wPU tc a0 z0 q0_0 (a2 0) q0_2 q0_3 q0_4 q0_5 q0_6 q0_7 q0_8 q0_9 am q0_13 ++ (wMm tc am mr ++ (wSt tc a2 z2 q2_18 (a3 0) ++ (wLg tc a3 z3 ++ (zz))))) := fun z0 z1 z2 z3 z4 => D_fst (ws := (wPU tc a0 g0 q0_0 (a2 0) q0_2 q0_3 q0_4 q0_5 q0_6 q0_7 q0_8 q0_9 am q0_13 ++ (wMm tc am mr ++ (wSt tc a2 g2 q2_18 (a3 0) ++ (wLg tc a3 g3 ++ (zz)))))) rfl hD0
  have hl : lv_has ls 4 [(0, .ref (a0 0)), (1, .int x1), (2, .int x2)] := hl
  unfold f_X11_often at h
  refine lv_aload_n X.1 X.2.1 dX11_often_0 rfl (lv_at hl 0 rfl) ?_
  refine lv_iload_n X.1 X.2.1 dX11_often_1 rfl (lv_at hl 1 rfl) ?_
  obtain ⟨ex_1, hc_1, h1_1, h2_1⟩ := lr_el h
  refine callZ (ws := (wPU tc a0 g0 q0_0 (a2 0) q0_2 q0_3 q0_4 q0_5 q0_6 q0_7 q0_8 q0_9 am q0_13 ++ (wMm tc am mr ++ (wSt tc a2 g2 q2_18 (a3 0) ++ (wLg tc a3 g3 ++ (zz)))))) (As := [.int x1]) (rest := []) X.y ((CU.zv (c_X11_needWord l hst dC dI sk sv tc a0 q0_0 q0_2 q0_3 q0_4 q0_5 q0_6 q0_7 q0_8 q0_9 am q0_13 a2 q2_18 (a3 0) g0 g2 x1 hc_1) (fun _ _ => rfl)).fr (w := (wPU tc a0 g0 q0_0 (a2 0) q0_2 q0_3 q0_4 q0_5 q0_6 q0_7 q0_8 q0_9 am q0_13 ++ (wMm tc am mr ++ (wSt tc a2 g2 q2_18 (a3 0) ++ (wLg tc a3 g3 ++ (zz)))))) (PN' := fun v w' => v = none ∧ w' = (wPU tc a0 g0 q0_0 (a2 0) q0_2 q0_3 q0_4 q0_5 q0_6 q0_7 q0_8 q0_9 am q0_13 ++ (wMm tc am mr ++ (wSt tc a2 g2 q2_18 (a3 0) ++ (wLg tc a3 g3 ++ (zz))))) ∧ ∃ u, ex_1 = .inr u) (PX' := fun E w' => w' = (wPU tc a0 g0 q0_0 (a2 0) q0_2 q0_3 q0_4 q0_5 q0_6 q0_7 q0_8 q0_9 am q0_13 ++ (wMm tc am mr ++ (wSt tc a2 g2 q2_18 (a3 0) ++ (wLg tc a3 g3 ++ (zz))))) ∧ ∃ n9 u, ex_1 = .inl (n9, u) ∧ E = exn n9) (pB [wPU tc a0 g0 q0_0 (a2 0) q0_2 q0_3 q0_4 q0_5 q0_6 q0_7 q0_8 q0_9 am q0_13, wMm tc am mr, wSt tc a2 g2 q2_18 (a3 0), wLg tc a3 g3, zz] [0, 1, 2, 3, 4] [0, 2] [1, 3, 4] (by decide)) (fun v w' h => by obtain ⟨u, q, z1, z2, z3⟩ := h; subst z3; exact ⟨_, (pB [wPU tc a0 g0 q0_0 (a2 0) q0_2 q0_3 q0_4 q0_5 q0_6 q0_7 q0_8 q0_9 am q0_13, wMm tc am mr, wSt tc a2 g2 q2_18 (a3 0), wLg tc a3 g3, zz] [0, 1, 2, 3, 4] [0, 2] [1, 3, 4] (by decide)).symm, z2, rfl, u, z1⟩) (fun E w' h => by obtain ⟨n9, u, q, z1, z2, z3⟩ := h; subst z3; exact ⟨_, (pB [wPU tc a0 g0 q0_0 (a2 0) q0_2 q0_3 q0_4 q0_5 q0_6 q0_7 q0_8 q0_9 am q0_13, wMm tc am mr, wSt tc a2 g2 q2_18 (a3 0), wLg tc a3 g3, zz] [0, 1, 2, 3, 4] [0, 2] [1, 3, 4] (by decide)).symm, rfl, n9, u, z1, z2⟩)) mw_4_210 mw_4_212 mp_1_5 mw_1_1 mw_4_213 dc_X11_needWord ⟨Nat.le_of_ble_eq_true rfl, Nat.le_of_ble_eq_true rfl⟩ rfl rfl ⟨Nat.le_of_ble_eq_true rfl, Nat.le_of_ble_eq_true rfl⟩ hP (hD _ gz _ _ gz) hS (List.mem_of_getElem? (i := 0) rfl) rfl rfl hl.1 (Nat.le_of_ble_eq_true rfl) dX11_often_2 (fun v w' H locs hn hP hD9 hS => ?_) (fun E q ce w' H locs hx hP hD9 hS y1 y2 y3 => ?_)
  rotate_left
  · obtain ⟨rfl, n9, u9, hu9, hE9⟩ := hx
    exact outZ hT X.2.2.2.2.2.2.1 hQ ⟨n9, _, (h1_1 _ hu9).symm, hE9, rfl⟩ hP hD9 hS y1 y2 y3 (Nat.le_of_ble_eq_true rfl) (Nat.le_of_ble_eq_true rfl)
  obtain ⟨rfl, rfl, u_1, hu_1⟩ := hn
  have h := h2_1 _ hu_1
  refine W.eq (g2 := F0 m 5 ls []) rfl ?_
  refine lv_aload_n X.1 X.2.1 dX11_often_5 rfl (lv_at hl 0 rfl) ?_
  refine lv_iload_n X.1 X.2.1 dX11_often_6 rfl (lv_at hl 2 rfl) ?_
  refine lv_iconst (v := 1) X.1 X.2.1 dX11_often_7 (by decide) ?_
  refine lv_bipush (v := 99) X.1 X.2.1 dX11_often_8 (by decide) ?_
  obtain ⟨ex_2, hc_2, h1_2, h2_2⟩ := lr_el h
  refine callZ (ws := (wPU tc a0 g0 q0_0 (a2 0) q0_2 q0_3 q0_4 q0_5 q0_6 q0_7 q0_8 q0_9 am q0_13 ++ (wMm tc am mr ++ (wSt tc a2 g2 q2_18 (a3 0) ++ (wLg tc a3 g3 ++ (zz)))))) (As := [.int x2, .int 1, .int 99]) (rest := []) X.y ((CU.zv (c_X11_needNumber l hst dC dI sk sv tc a0 q0_0 (a2 0) q0_2 q0_3 q0_4 q0_5 q0_6 q0_7 q0_8 q0_9 am q0_13 g0 x2 1 99 hc_2) (fun _ _ => rfl)).fr (w := (wPU tc a0 g0 q0_0 (a2 0) q0_2 q0_3 q0_4 q0_5 q0_6 q0_7 q0_8 q0_9 am q0_13 ++ (wMm tc am mr ++ (wSt tc a2 g2 q2_18 (a3 0) ++ (wLg tc a3 g3 ++ (zz)))))) (PN' := fun v w' => v = none ∧ w' = (wPU tc a0 g0 q0_0 (a2 0) q0_2 q0_3 q0_4 q0_5 q0_6 q0_7 q0_8 q0_9 am q0_13 ++ (wMm tc am mr ++ (wSt tc a2 g2 q2_18 (a3 0) ++ (wLg tc a3 g3 ++ (zz))))) ∧ ∃ u, ex_2 = .inr u) (PX' := fun E w' => w' = (wPU tc a0 g0 q0_0 (a2 0) q0_2 q0_3 q0_4 q0_5 q0_6 q0_7 q0_8 q0_9 am q0_13 ++ (wMm tc am mr ++ (wSt tc a2 g2 q2_18 (a3 0) ++ (wLg tc a3 g3 ++ (zz))))) ∧ ∃ n9 u, ex_2 = .inl (n9, u) ∧ E = exn n9) (pB [wPU tc a0 g0 q0_0 (a2 0) q0_2 q0_3 q0_4 q0_5 q0_6 q0_7 q0_8 q0_9 am q0_13, wMm tc am mr, wSt tc a2 g2 q2_18 (a3 0), wLg tc a3 g3, zz] [0, 1, 2, 3, 4] [0] [1, 2, 3, 4] (by decide)) (fun v w' h => by obtain ⟨u, q, z1, z2, z3⟩ := h; subst z3; exact ⟨_, (pB [wPU tc a0 g0 q0_0 (a2 0) q0_2 q0_3 q0_4 q0_5 q0_6 q0_7 q0_8 q0_9 am q0_13, wMm tc am mr, wSt tc a2 g2 q2_18 (a3 0), wLg tc a3 g3, zz] [0, 1, 2, 3, 4] [0] [1, 2, 3, 4] (by decide)).symm, z2, rfl, u, z1⟩) (fun E w' h => by obtain ⟨n9, u, q, z1, z2, z3⟩ := h; subst z3; exact ⟨_, (pB [wPU tc a0 g0 q0_0 (a2 0) q0_2 q0_3 q0_4 q0_5 q0_6 q0_7 q0_8 q0_9 am q0_13, wMm tc am mr, wSt tc a2 g2 q2_18 (a3 0), wLg tc a3 g3, zz] [0, 1, 2, 3, 4] [0] [1, 2, 3, 4] (by decide)).symm, rfl, n9, u, z1, z2⟩)) mw_5_199 mw_5_201 mp_1_8 mw_1_1 mw_5_202 dc_X11_needNumber ⟨Nat.le_of_ble_eq_true rfl, Nat.le_of_ble_eq_true rfl⟩ rfl rfl ⟨Nat.le_of_ble_eq_true rfl, Nat.le_of_ble_eq_true rfl⟩ hP (hD _ gz _ _ gz) hS (List.mem_of_getElem? (i := 0) rfl) rfl rfl hl.1 (Nat.le_of_ble_eq_true rfl) dX11_often_10 (fun v w' H locs hn hP hD9 hS => ?_) (fun E q ce w' H locs hx hP hD9 hS y1 y2 y3 => ?_)
  rotate_left
  · obtain ⟨rfl, n9, u9, hu9, hE9⟩ := hx
    exact outZ hT X.2.2.2.2.2.2.1 hQ ⟨n9, _, (h1_2 _ hu9).symm, hE9, rfl⟩ hP hD9 hS y1 y2 y3 (Nat.le_of_ble_eq_true rfl) (Nat.le_of_ble_eq_true rfl)
  obtain ⟨rfl, rfl, u_2, hu_2⟩ := hn
  have h := h2_2 _ hu_2
  refine W.eq (g2 := F0 m 13 ls []) rfl ?_
  refine lv_aload_n X.1 X.2.1 dX11_often_13 rfl (lv_at hl 0 rfl) ?_
  obtain ⟨g0_3, hc_3, h⟩ := bd_el h
  obtain ⟨hin_3, e_3⟩ := gdi_el hc_3
  obtain rfl : fRem2 (fRem1 g0) = g0_3 := Option.some.inj e_3
  refine callZ (ws := (wPU tc a0 g0 q0_0 (a2 0) q0_2 q0_3 q0_4 q0_5 q0_6 q0_7 q0_8 q0_9 am q0_13 ++ (wMm tc am mr ++ (wSt tc a2 g2 q2_18 (a3 0) ++ (wLg tc a3 g3 ++ (zz)))))) (As := []) (rest := []) X.y (c_X11_rememberNow l dC dI sk sv tc a0 q0_0 q0_2 q0_3 q0_4 q0_5 q0_6 q0_7 q0_8 q0_9 am q0_13 mr a2 q2_18 a3 g0 g2 g3 zz G4 G5 hin_3 hz) mw_5_204 mw_5_206 mp_1_9 mw_1_1 mw_5_207 dc_X11_rememberNow ⟨Nat.le_of_ble_eq_true rfl, Nat.le_of_ble_eq_true rfl⟩ rfl rfl ⟨Nat.le_of_ble_eq_true rfl, Nat.le_of_ble_eq_true rfl⟩ hP (hD _ gz _ _ gz) hS (List.mem_of_getElem? (i := 0) rfl) rfl rfl hl.1 (Nat.le_of_ble_eq_true rfl) dX11_often_14 (fun v w' H locs hn hP hD9 hS => ?_) (fun _ _ _ _ _ _ h => h.elim)
  obtain ⟨hv_3, u1, u2, hw_3⟩ := hn
  subst hv_3
  subst hw_3
  have hD : ∀ (z0 : Pic) (z1 : Pic) (z2 : Pic) (z3 : Pic) (z4 : Pic), va_D A (wPU tc a0 z0 q0_0 (a2 0) q0_2 q0_3 q0_4 q0_5 q0_6 q0_7 q0_8 q0_9 am q0_13 ++ (wMm tc am (va_up mr (fRemS (fRem1 g0)).toNatClampNeg (some (u1 0))) ++ (wSt tc a2 z2 q2_18 (a3 0) ++ (wLg tc a3 z3 ++ ((wSt tc u1 G4 q2_18 (u2 0) ++ wLg tc u2 G5)))))) := fun z0 z1 z2 z3 z4 => D_fst (ws := (wPU tc a0 (fRem2 (fRem1 g0)) q0_0 (a2 0) q0_2 q0_3 q0_4 q0_5 q0_6 q0_7 q0_8 q0_9 am q0_13 ++ (wMm tc am (va_up mr (fRemS (fRem1 g0)).toNatClampNeg (some (u1 0))) ++ (wSt tc a2 g2 q2_18 (a3 0) ++ (wLg tc a3 g3 ++ ((wSt tc u1 G4 q2_18 (u2 0) ++ wLg tc u2 G5))))))) rfl hD9
  refine W.eq (g2 := F0 m 17 ls []) rfl ?_
  refine lv_aload_n X.1 X.2.1 dX11_often_17 rfl (lv_at hl 0 rfl) ?_
  refine r_get (C := RX11) (T := TX11) (N := 15) (ci := 11) (v := .ref (a2 0)) X iw11 hP 0 rfl rfl 1 rfl mw_2_144 rfl dX11_often_18 ?_
  refine r_get (C := RX9) (T := TX9) (N := 20) (ci := 9) (v := .ref (a2 4)) X iw9 hP 2 rfl rfl 3 rfl mw_1_122 rfl dX11_often_21 ?_
  refine lv_iload_n X.1 X.2.1 dX11_often_24 rfl (lv_at hl 1 rfl) ?_
  obtain ⟨hg_4, h⟩ := gdi_el h
  refine r_iald X hP 5 0 rfl rfl hg_4 rfl dX11_often_25 ?_
  obtain ⟨x3_5, ex3_5, h⟩ := nm_el h
  refine tp_i ex3_5 ?_
  refine lv_istore_n (lv' := [(3, .int x3_5), (0, .ref (a0 0)), (1, .int x1), (2, .int x2)]) X.1 X.2.1 dX11_often_26 rfl hl (by decide) rfl (fun ls hl => ?_)
  refine lv_aload_n X.1 X.2.1 dX11_often_27 rfl (lv_at hl 1 rfl) ?_
  refine r_get (C := RX11) (T := TX11) (N := 15) (ci := 11) (v := .ref (a2 0)) X iw11 hP 0 rfl rfl 1 rfl mw_2_144 rfl dX11_often_28 ?_
  refine r_get (C := RX9) (T := TX9) (N := 20) (ci := 9) (v := .ref (a2 4)) X iw9 hP 2 rfl rfl 3 rfl mw_1_122 rfl dX11_often_31 ?_
  refine lv_iload_n X.1 X.2.1 dX11_often_34 rfl (lv_at hl 2 rfl) ?_
  refine lv_iload_n X.1 X.2.1 dX11_often_35 rfl (lv_at hl 3 rfl) ?_
  obtain ⟨hg_6, h⟩ := gdi_el h
  obtain ⟨g2_7, eg2_7, h⟩ := nm_el h
  refine r_iast X hP (hD _ gz _ _ gz) hS 5 0 rfl rfl hg_6 rfl dX11_often_36 (wPU tc a0 (fRem2 (fRem1 g0)) q0_0 (a2 0) q0_2 q0_3 q0_4 q0_5 q0_6 q0_7 q0_8 q0_9 am q0_13 ++ (wMm tc am (va_up mr (fRemS (fRem1 g0)).toNatClampNeg (some (u1 0))) ++ (wSt tc a2 g2_7 q2_18 (a3 0) ++ (wLg tc a3 g3 ++ ((wSt tc u1 G4 q2_18 (u2 0) ++ wLg tc u2 G5)))))) (by rw [eg2_7]; rfl) (fun H locs hP hS => ?_)
  refine lv_iload_n X.1 X.2.1 dX11_often_37 rfl (lv_at hl 0 rfl) ?_
  exact retZ_i X.1 X.2.1 X.2.2.1 X.2.2.2.2.2.2.1 hQ ⟨_, ((fRem2 (fRem1 g0)), g2_7), u1, u2, (Option.some.inj h).symm, rfl, rfl⟩ hP (hD _ gz _ _ gz) hS (Nat.le_of_ble_eq_true rfl) (Nat.le_of_ble_eq_true rfl) dX11_often_38

def f_X11_tempo (g0 : Pic) (g2 : Pic) (g3 : Pic) (x1 : Int32) : Option ((Nat × (Pic × Pic)) ⊕ (Int32 × (Pic × Pic))) := lr (f_X11_needNumber g0 x1 1 9) (fun e => .inl (e.1, (g0, g2))) (fun _ => bd (f_X11_rem g0) (fun g0_2 => nm ((g2 13 0)) (fun x2_3 => nm (pu g2 13 0 x1) (fun g2_4 => some (.inr (x2_3, ((fRem2 (fRem1 g0)), g2_4)))))))
abbrev rm_X11_tempo : Room := { frames := 7, cells := 13, slots := 475, locals := 221 }
set_option maxHeartbeats 4000000 in
set_option maxRecDepth 100000 in
theorem c_X11_tempo (l : Launch) (hst : l.stackTraces = false) (dC : Nat → ClassId) (dI : Nat → Nat → Nat) (sk sv : Nat → Nat) (tc : Nat → ClassId) (a0 : Nat → Nat) (q0_0 : Nat) (q0_2 : Nat) (q0_3 : Nat) (q0_4 : Nat) (q0_5 : Nat) (q0_6 : Nat) (q0_7 : Nat) (q0_8 : Nat) (q0_9 : Nat) (q0_13 : Option Nat) (a2 : Nat → Nat) (q2_18 : Option Nat) (a3 : Nat → Nat) (am : Nat) (mr : Nat → Option Nat) (zz : va_W) (g0 : Pic) (g2 : Pic) (g3 : Pic) (x1 : Int32) (G4 G5 : Pic) {res : ((Nat × (Pic × Pic)) ⊕ (Int32 × (Pic × Pic)))} (h : f_X11_tempo g0 g2 g3 x1 = some res) (hz : SlZ tc mr (fRemS (fRem1 g0)).toNatClampNeg zz g2 g3 G4 G5) : CZ l (dC, dI) sk sv (TY tc) yX11_tempo (.code yX11_tempo cX11_tempo 3 (some .int)) rm_X11_tempo 13 475 [.ref (a0 0), .int x1] (wPU tc a0 g0 q0_0 (a2 0) q0_2 q0_3 q0_4 q0_5 q0_6 q0_7 q0_8 q0_9 am q0_13 ++ (wMm tc am mr ++ (wSt tc a2 g2 q2_18 (a3 0) ++ (wLg tc a3 g3 ++ (zz))))) (fun v w' => ∃ (r : Int32) (p : Pic × Pic) (u1 u2 : Nat → Nat), res = .inr (r, p) ∧ v = some (.int r) ∧ w' = (wPU tc a0 p.1 q0_0 (a2 0) q0_2 q0_3 q0_4 q0_5 q0_6 q0_7 q0_8 q0_9 am q0_13 ++ (wMm tc am (va_up mr (fRemS (fRem1 g0)).toNatClampNeg (some (u1 0))) ++ (wSt tc a2 p.2 q2_18 (a3 0) ++ (wLg tc a3 g3 ++ ((wSt tc u1 G4 q2_18 (u2 0) ++ wLg tc u2 G5))))))) (fun E w' => ∃ (n9 : Nat) (p : Pic × Pic), res = .inl (n9, p) ∧ E = exn n9 ∧ w' = (wPU tc a0 g0 q0_0 (a2 0) q0_2 q0_3 q0_4 q0_5 q0_6 q0_7 q0_8 q0_9 am q0_13 ++ (wMm tc am mr ++ (wSt tc a2 g2 q2_18 (a3 0) ++ (wLg tc a3 g3 ++ (zz)))))) := by
  refine ofCZ (by decide) (Nat.le_of_ble_eq_true rfl) ?_
  intro pr e s m args below meth c A Q ls H locs X hT hQ hD0 hP hS hl
  have hD : ∀ (z0 : Pic) (z1 : Pic) (z2 : Pic) (z3 : Pic) (z4 : Pic), va_D A (wPU tc a0 z0 q0_0 (a2 0) q0_2 q0_3 q0_4 q0_5 q0_6 q0_7 q0_8 q0_9 am q0_13 ++ (wMm tc am mr ++ (wSt tc a2 z2 q2_18 (a3 0) ++ (wLg tc a3 z3 ++ (zz))))) := fun z0 z1 z2 z3 z4 => D_fst (ws := (wPU tc a0 g0 q0_0 (a2 0) q0_2 q0_3 q0_4 q0_5 q0_6 q0_7 q0_8 q0_9 am q0_13 ++ (wMm tc am mr ++ (wSt tc a2 g2 q2_18 (a3 0) ++ (wLg tc a3 g3 ++ (zz)))))) rfl hD0
  have hl : lv_has ls 3 [(0, .ref (a0 0)), (1, .int x1)] := hl
  unfold f_X11_tempo at h
  refine lv_aload_n X.1 X.2.1 dX11_tempo_0 rfl (lv_at hl 0 rfl) ?_
  refine lv_iload_n X.1 X.2.1 dX11_tempo_1 rfl (lv_at hl 1 rfl) ?_
  refine lv_iconst (v := 1) X.1 X.2.1 dX11_tempo_2 (by decide) ?_
  refine lv_bipush (v := 9) X.1 X.2.1 dX11_tempo_3 (by decide) ?_
  obtain ⟨ex_1, hc_1, h1_1, h2_1⟩ := lr_el h
  refine callZ (ws := (wPU tc a0 g0 q0_0 (a2 0) q0_2 q0_3 q0_4 q0_5 q0_6 q0_7 q0_8 q0_9 am q0_13 ++ (wMm tc am mr ++ (wSt tc a2 g2 q2_18 (a3 0) ++ (wLg tc a3 g3 ++ (zz)))))) (As := [.int x1, .int 1, .int 9]) (rest := []) X.y ((CU.zv (c_X11_needNumber l hst dC dI sk sv tc a0 q0_0 (a2 0) q0_2 q0_3 q0_4 q0_5 q0_6 q0_7 q0_8 q0_9 am q0_13 g0 x1 1 9 hc_1) (fun _ _ => rfl)).fr (w := (wPU tc a0 g0 q0_0 (a2 0) q0_2 q0_3 q0_4 q0_5 q0_6 q0_7 q0_8 q0_9 am q0_13 ++ (wMm tc am mr ++ (wSt tc a2 g2 q2_18 (a3 0) ++ (wLg tc a3 g3 ++ (zz)))))) (PN' := fun v w' => v = none ∧ w' = (wPU tc a0 g0 q0_0 (a2 0) q0_2 q0_3 q0_4 q0_5 q0_6 q0_7 q0_8 q0_9 am q0_13 ++ (wMm tc am mr ++ (wSt tc a2 g2 q2_18 (a3 0) ++ (wLg tc a3 g3 ++ (zz))))) ∧ ∃ u, ex_1 = .inr u) (PX' := fun E w' => w' = (wPU tc a0 g0 q0_0 (a2 0) q0_2 q0_3 q0_4 q0_5 q0_6 q0_7 q0_8 q0_9 am q0_13 ++ (wMm tc am mr ++ (wSt tc a2 g2 q2_18 (a3 0) ++ (wLg tc a3 g3 ++ (zz))))) ∧ ∃ n9 u, ex_1 = .inl (n9, u) ∧ E = exn n9) (pB [wPU tc a0 g0 q0_0 (a2 0) q0_2 q0_3 q0_4 q0_5 q0_6 q0_7 q0_8 q0_9 am q0_13, wMm tc am mr, wSt tc a2 g2 q2_18 (a3 0), wLg tc a3 g3, zz] [0, 1, 2, 3, 4] [0] [1, 2, 3, 4] (by decide)) (fun v w' h => by obtain ⟨u, q, z1, z2, z3⟩ := h; subst z3; exact ⟨_, (pB [wPU tc a0 g0 q0_0 (a2 0) q0_2 q0_3 q0_4 q0_5 q0_6 q0_7 q0_8 q0_9 am q0_13, wMm tc am mr, wSt tc a2 g2 q2_18 (a3 0), wLg tc a3 g3, zz] [0, 1, 2, 3, 4] [0] [1, 2, 3, 4] (by decide)).symm, z2, rfl, u, z1⟩) (fun E w' h => by obtain ⟨n9, u, q, z1, z2, z3⟩ := h; subst z3; exact ⟨_, (pB [wPU tc a0 g0 q0_0 (a2 0) q0_2 q0_3 q0_4 q0_5 q0_6 q0_7 q0_8 q0_9 am q0_13, wMm tc am mr, wSt tc a2 g2 q2_18 (a3 0), wLg tc a3 g3, zz] [0, 1, 2, 3, 4] [0] [1, 2, 3, 4] (by decide)).symm, rfl, n9, u, z1, z2⟩)) mw_5_199 mw_5_201 mp_1_8 mw_1_1 mw_5_202 dc_X11_needNumber ⟨Nat.le_of_ble_eq_true rfl, Nat.le_of_ble_eq_true rfl⟩ rfl rfl ⟨Nat.le_of_ble_eq_true rfl, Nat.le_of_ble_eq_true rfl⟩ hP (hD _ gz _ _ gz) hS (List.mem_of_getElem? (i := 0) rfl) rfl rfl hl.1 (Nat.le_of_ble_eq_true rfl) dX11_tempo_5 (fun v w' H locs hn hP hD9 hS => ?_) (fun E q ce w' H locs hx hP hD9 hS y1 y2 y3 => ?_)
  rotate_left
  · obtain ⟨rfl, n9, u9, hu9, hE9⟩ := hx
    exact outZ hT X.2.2.2.2.2.2.1 hQ ⟨n9, _, (h1_1 _ hu9).symm, hE9, rfl⟩ hP hD9 hS y1 y2 y3 (Nat.le_of_ble_eq_true rfl) (Nat.le_of_ble_eq_true rfl)
  obtain ⟨rfl, rfl, u_1, hu_1⟩ := hn
  have h := h2_1 _ hu_1
  refine W.eq (g2 := F0 m 8 ls []) rfl ?_
  refine lv_aload_n X.1 X.2.1 dX11_tempo_8 rfl (lv_at hl 0 rfl) ?_
  obtain ⟨g0_2, hc_2, h⟩ := bd_el h
  obtain ⟨hin_2, e_2⟩ := gdi_el hc_2
  obtain rfl : fRem2 (fRem1 g0) = g0_2 := Option.some.inj e_2
  refine callZ (ws := (wPU tc a0 g0 q0_0 (a2 0) q0_2 q0_3 q0_4 q0_5 q0_6 q0_7 q0_8 q0_9 am q0_13 ++ (wMm tc am mr ++ (wSt tc a2 g2 q2_18 (a3 0) ++ (wLg tc a3 g3 ++ (zz)))))) (As := []) (rest := []) X.y (c_X11_rememberNow l dC dI sk sv tc a0 q0_0 q0_2 q0_3 q0_4 q0_5 q0_6 q0_7 q0_8 q0_9 am q0_13 mr a2 q2_18 a3 g0 g2 g3 zz G4 G5 hin_2 hz) mw_5_204 mw_5_206 mp_1_9 mw_1_1 mw_5_207 dc_X11_rememberNow ⟨Nat.le_of_ble_eq_true rfl, Nat.le_of_ble_eq_true rfl⟩ rfl rfl ⟨Nat.le_of_ble_eq_true rfl, Nat.le_of_ble_eq_true rfl⟩ hP (hD _ gz _ _ gz) hS (List.mem_of_getElem? (i := 0) rfl) rfl rfl hl.1 (Nat.le_of_ble_eq_true rfl) dX11_tempo_9 (fun v w' H locs hn hP hD9 hS => ?_) (fun _ _ _ _ _ _ h => h.elim)
  obtain ⟨hv_2, u1, u2, hw_2⟩ := hn
  subst hv_2
  subst hw_2
  have hD : ∀ (z0 : Pic) (z1 : Pic) (z2 : Pic) (z3 : Pic) (z4 : Pic), va_D A (wPU tc a0 z0 q0_0 (a2 0) q0_2 q0_3 q0_4 q0_5 q0_6 q0_7 q0_8 q0_9 am q0_13 ++ (wMm tc am (va_up mr (fRemS (fRem1 g0)).toNatClampNeg (some (u1 0))) ++ (wSt tc a2 z2 q2_18 (a3 0) ++ (wLg tc a3 z3 ++ ((wSt tc u1 G4 q2_18 (u2 0) ++ wLg tc u2 G5)))))) := fun z0 z1 z2 z3 z4 => D_fst (ws := (wPU tc a0 (fRem2 (fRem1 g0)) q0_0 (a2 0) q0_2 q0_3 q0_4 q0_5 q0_6 q0_7 q0_8 q0_9 am q0_13 ++ (wMm tc am (va_up mr (fRemS (fRem1 g0)).toNatClampNeg (some (u1 0))) ++ (wSt tc a2 g2 q2_18 (a3 0) ++ (wLg tc a3 g3 ++ ((wSt tc u1 G4 q2_18 (u2 0) ++ wLg tc u2 G5))))))) rfl hD9
  refine W.eq (g2 := F0 m 12 ls []) rfl ?_
  refine lv_aload_n X.1 X.2.1 dX11_tempo_12 rfl (lv_at hl 0 rfl) ?_
  refine r_get (C := RX11) (T := TX11) (N := 15) (ci := 11) (v := .ref (a2 0)) X iw11 hP 0 rfl rfl 1 rfl mw_2_144 rfl dX11_tempo_13 ?_
  refine r_get (C := RX9) (T := TX9) (N := 20) (ci := 9) (v := .int (g2 13 0)) X iw9 hP 2 rfl rfl 13 rfl mw_1_175 rfl dX11_tempo_16 ?_
  obtain ⟨x2_3, ex2_3, h⟩ := nm_el h
  refine tp_i ex2_3 ?_
  refine lv_istore_n (lv' := [(2, .int x2_3), (0, .ref (a0 0)), (1, .int x1)]) X.1 X.2.1 dX11_tempo_19 rfl hl (by decide) rfl (fun ls hl => ?_)
  refine lv_aload_n X.1 X.2.1 dX11_tempo_20 rfl (lv_at hl 1 rfl) ?_
  refine r_get (C := RX11) (T := TX11) (N := 15) (ci := 11) (v := .ref (a2 0)) X iw11 hP 0 rfl rfl 1 rfl mw_2_144 rfl dX11_tempo_21 ?_
  refine lv_iload_n X.1 X.2.1 dX11_tempo_24 rfl (lv_at hl 2 rfl) ?_
  obtain ⟨g2_4, eg2_4, h⟩ := nm_el h
  refine r_put (C := RX9) (T := TX9) (N := 20) (ci := 9) tyX9 tyX9_ok nmX9 X iw9 hP (hD _ gz _ _ gz) hS 2 rfl rfl 13 rfl mw_1_175 rfl rfl rfl rfl dX11_tempo_25 (wPU tc a0 (fRem2 (fRem1 g0)) q0_0 (a2 0) q0_2 q0_3 q0_4 q0_5 q0_6 q0_7 q0_8 q0_9 am q0_13 ++ (wMm tc am (va_up mr (fRemS (fRem1 g0)).toNatClampNeg (some (u1 0))) ++ (wSt tc a2 g2_4 q2_18 (a3 0) ++ (wLg tc a3 g3 ++ ((wSt tc u1 G4 q2_18 (u2 0) ++ wLg tc u2 G5)))))) (by rw [eg2_4]; rfl) (fun H locs hP hS => ?_)
  refine lv_iload_n X.1 X.2.1 dX11_tempo_28 rfl (lv_at hl 0 rfl) ?_
  exact retZ_i X.1 X.2.1 X.2.2.1 X.2.2.2.2.2.2.1 hQ ⟨_, ((fRem2 (fRem1 g0)), g2_4), u1, u2, (Option.some.inj h).symm, rfl, rfl⟩ hP (hD _ gz _ _ gz) hS (Nat.le_of_ble_eq_true rfl) (Nat.le_of_ble_eq_true rfl) dX11_tempo_29

def f_X11_speed (g0 : Pic) (g2 : Pic) (g3 : Pic) (x1 : Int32) (x2 : Int32) : Option ((Nat × (Pic × Pic)) ⊕ (Int32 × (Pic × Pic))) := lr (f_X11_needWriter g0 g2 x1) (fun e => .inl (e.1, (g0, g2))) (fun _ => lr (f_X11_needNumber g0 x2 1 9) (fun e => .inl (e.1, (g0, g2))) (fun _ => bd (f_X11_rem g0) (fun g0_3 => gdi x1 5 (nm ((g2 9 (x1.toNatClampNeg))) (fun x3_5 => gdi x1 5 (nm (pu g2 9 (x1.toNatClampNeg) x2) (fun g2_7 => some (.inr (x3_5, ((fRem2 (fRem1 g0)), g2_7))))))))))
abbrev rm_X11_speed : Room := { frames := 7, cells := 14, slots := 481, locals := 221 }
set_option maxHeartbeats 4000000 in
set_option maxRecDepth 100000 in
theorem c_X11_speed (l : Launch) (hst : l.stackTraces = false) (dC : Nat → ClassId) (dI : Nat → Nat → Nat) (sk sv : Nat → Nat) (tc : Nat → ClassId) (a0 : Nat → Nat) (q0_0 : Nat) (q0_2 : Nat) (q0_3 : Nat) (q0_4 : Nat) (q0_5 : Nat) (q0_6 : Nat) (q0_7 : Nat) (q0_8 : Nat) (q0_9 : Nat) (q0_13 : Option Nat) (a2 : Nat → Nat) (q2_18 : Option Nat) (a3 : Nat → Nat) (am : Nat) (mr : Nat → Option Nat) (zz : va_W) (g0 : Pic) (g2 : Pic) (g3 : Pic) (x1 : Int32) (x2 : Int32) (G4 G5 : Pic) {res : ((Nat × (Pic × Pic)) ⊕ (Int32 × (Pic × Pic)))} (h : f_X11_speed g0 g2 g3 x1 x2 = some res) (hz : SlZ tc mr (fRemS (fRem1 g0)).toNatClampNeg zz g2 g3 G4 G5) : CZ l (dC, dI) sk sv (TY tc) yX11_speed (.code yX11_speed cX11_speed 4 (some .int)) rm_X11_speed 14 481 [.ref (a0 0), .int x1, .int x2] (wPU tc a0 g0 q0_0 (a2 0) q0_2 q0_3 q0_4 q0_5 q0_6 q0_7 q0_8 q0_9 am q0_13 ++ (wMm tc am mr ++ (wSt tc a2 g2 q2_18 (a3 0) ++ (wLg tc a3 g3 ++ (zz))))) (fun v w' => ∃ (r : Int32) (p : Pic × Pic) (u1 u2 : Nat → Nat), res = .inr (r, p) ∧ v = some (.int r) ∧ w' = (wPU tc a0 p.1 q0_0 (a2 0) q0_2 q0_3 q0_4 q0_5 q0_6 q0_7 q0_8 q0_9 am q0_13 ++ (wMm tc am (va_up mr (fRemS (fRem1 g0)).toNatClampNeg (some (u1 0))) ++ (wSt tc a2 p.2 q2_18 (a3 0) ++ (wLg tc a3 g3 ++ ((wSt tc u1 G4 q2_18 (u2 0) ++ wLg tc u2 G5))))))) (fun E w' => ∃ (n9 : Nat) (p : Pic × Pic), res = .inl (n9, p) ∧ E = exn n9 ∧ w' = (wPU tc a0 g0 q0_0 (a2 0) q0_2 q0_3 q0_4 q0_5 q0_6 q0_7 q0_8 q0_9 am q0_13 ++ (wMm tc am mr ++ (wSt tc a2 g2 q2_18 (a3 0) ++ (wLg tc a3 g3 ++ (zz)))))) := by
  refine ofCZ (by decide) (Nat.le_of_ble_eq_true rfl) ?_
  intro pr e s m args below meth c A Q ls H locs X hT hQ hD0 hP hS hl
  have hD : ∀ (z0 : Pic) (z1 : Pic) (z2 : Pic) (z3 : Pic) (z4 : Pic), va_D A (wPU tc a0 z0 q0_0 (a2 0) q0_2 q0_3 q0_4 q0_5 q0_6 q0_7 q0_8 q0_9 am q0_13 ++ (wMm tc am mr ++ (wSt tc a2 z2 q2_18 (a3 0) ++ (wLg tc a3 z3 ++ (zz))))) := fun z0 z1 z2 z3 z4 => D_fst (ws := (wPU tc a0 g0 q0_0 (a2 0) q0_2 q0_3 q0_4 q0_5 q0_6 q0_7 q0_8 q0_9 am q0_13 ++ (wMm tc am mr ++ (wSt tc a2 g2 q2_18 (a3 0) ++ (wLg tc a3 g3 ++ (zz)))))) rfl hD0
  have hl : lv_has ls 4 [(0, .ref (a0 0)), (1, .int x1), (2, .int x2)] := hl
  unfold f_X11_speed at h
  refine lv_aload_n X.1 X.2.1 dX11_speed_0 rfl (lv_at hl 0 rfl) ?_
  refine lv_iload_n X.1 X.2.1 dX11_speed_1 rfl (lv_at hl 1 rfl) ?_
  obtain ⟨ex_1, hc_1, h1_1, h2_1⟩ := lr_el h
  refine callZ (ws := (wPU tc a0 g0 q0_0 (a2 0) q0_2 q0_3 q0_4 q0_5 q0_6 q0_7 q0_8 q0_9 am q0_13 ++ (wMm tc am mr ++ (wSt tc a2 g2 q2_18 (a3 0) ++ (wLg tc a3 g3 ++ (zz)))))) (As := [.int x1]) (rest := []) X.y ((CU.zv (c_X11_needWriter l hst dC dI sk sv tc a0 q0_0 q0_2 q0_3 q0_4 q0_5 q0_6 q0_7 q0_8 q0_9 am q0_13 a2 q2_18 (a3 0) g0 g2 x1 hc_1) (fun _ _ => rfl)).fr (w := (wPU tc a0 g0 q0_0 (a2 0) q0_2 q0_3 q0_4 q0_5 q0_6 q0_7 q0_8 q0_9 am q0_13 ++ (wMm tc am mr ++ (wSt tc a2 g2 q2_18 (a3 0) ++ (wLg tc a3 g3 ++ (zz)))))) (PN' := fun v w' => v = none ∧ w' = (wPU tc a0 g0 q0_0 (a2 0) q0_2 q0_3 q0_4 q0_5 q0_6 q0_7 q0_8 q0_9 am q0_13 ++ (wMm tc am mr ++ (wSt tc a2 g2 q2_18 (a3 0) ++ (wLg tc a3 g3 ++ (zz))))) ∧ ∃ u, ex_1 = .inr u) (PX' := fun E w' => w' = (wPU tc a0 g0 q0_0 (a2 0) q0_2 q0_3 q0_4 q0_5 q0_6 q0_7 q0_8 q0_9 am q0_13 ++ (wMm tc am mr ++ (wSt tc a2 g2 q2_18 (a3 0) ++ (wLg tc a3 g3 ++ (zz))))) ∧ ∃ n9 u, ex_1 = .inl (n9, u) ∧ E = exn n9) (pB [wPU tc a0 g0 q0_0 (a2 0) q0_2 q0_3 q0_4 q0_5 q0_6 q0_7 q0_8 q0_9 am q0_13, wMm tc am mr, wSt tc a2 g2 q2_18 (a3 0), wLg tc a3 g3, zz] [0, 1, 2, 3, 4] [0, 2] [1, 3, 4] (by decide)) (fun v w' h => by obtain ⟨u, q, z1, z2, z3⟩ := h; subst z3; exact ⟨_, (pB [wPU tc a0 g0 q0_0 (a2 0) q0_2 q0_3 q0_4 q0_5 q0_6 q0_7 q0_8 q0_9 am q0_13, wMm tc am mr, wSt tc a2 g2 q2_18 (a3 0), wLg tc a3 g3, zz] [0, 1, 2, 3, 4] [0, 2] [1, 3, 4] (by decide)).symm, z2, rfl, u, z1⟩) (fun E w' h => by obtain ⟨n9, u, q, z1, z2, z3⟩ := h; subst z3; exact ⟨_, (pB [wPU tc a0 g0 q0_0 (a2 0) q0_2 q0_3 q0_4 q0_5 q0_6 q0_7 q0_8 q0_9 am q0_13, wMm tc am mr, wSt tc a2 g2 q2_18 (a3 0), wLg tc a3 g3, zz] [0, 1, 2, 3, 4] [0, 2] [1, 3, 4] (by decide)).symm, rfl, n9, u, z1, z2⟩)) mw_5_38 mw_5_40 mp_1_6 mw_1_1 mw_5_41 dc_X11_needWriter ⟨Nat.le_of_ble_eq_true rfl, Nat.le_of_ble_eq_true rfl⟩ rfl rfl ⟨Nat.le_of_ble_eq_true rfl, Nat.le_of_ble_eq_true rfl⟩ hP (hD _ gz _ _ gz) hS (List.mem_of_getElem? (i := 0) rfl) rfl rfl hl.1 (Nat.le_of_ble_eq_true rfl) dX11_speed_2 (fun v w' H locs hn hP hD9 hS => ?_) (fun E q ce w' H locs hx hP hD9 hS y1 y2 y3 => ?_)
  rotate_left
  · obtain ⟨rfl, n9, u9, hu9, hE9⟩ := hx
    exact outZ hT X.2.2.2.2.2.2.1 hQ ⟨n9, _, (h1_1 _ hu9).symm, hE9, rfl⟩ hP hD9 hS y1 y2 y3 (Nat.le_of_ble_eq_true rfl) (Nat.le_of_ble_eq_true rfl)
  obtain ⟨rfl, rfl, u_1, hu_1⟩ := hn
  have h := h2_1 _ hu_1
  refine W.eq (g2 := F0 m 5 ls []) rfl ?_
  refine lv_aload_n X.1 X.2.1 dX11_speed_5 rfl (lv_at hl 0 rfl) ?_
  refine lv_iload_n X.1 X.2.1 dX11_speed_6 rfl (lv_at hl 2 rfl) ?_
  refine lv_iconst (v := 1) X.1 X.2.1 dX11_speed_7 (by decide) ?_
  refine lv_bipush (v := 9) X.1 X.2.1 dX11_speed_8 (by decide) ?_
  obtain ⟨ex_2, hc_2, h1_2, h2_2⟩ := lr_el h
  refine callZ (ws := (wPU tc a0 g0 q0_0 (a2 0) q0_2 q0_3 q0_4 q0_5 q0_6 q0_7 q0_8 q0_9 am q0_13 ++ (wMm tc am mr ++ (wSt tc a2 g2 q2_18 (a3 0) ++ (wLg tc a3 g3 ++ (zz)))))) (As := [.int x2, .int 1, .int 9]) (rest := []) X.y ((CU.zv (c_X11_needNumber l hst dC dI sk sv tc a0 q0_0 (a2 0) q0_2 q0_3 q0_4 q0_5 q0_6 q0_7 q0_8 q0_9 am q0_13 g0 x2 1 9 hc_2) (fun _ _ => rfl)).fr (w := (wPU tc a0 g0 q0_0 (a2 0) q0_2 q0_3 q0_4 q0_5 q0_6 q0_7 q0_8 q0_9 am q0_13 ++ (wMm tc am mr ++ (wSt tc a2 g2 q2_18 (a3 0) ++ (wLg tc a3 g3 ++ (zz)))))) (PN' := fun v w' => v = none ∧ w' = (wPU tc a0 g0 q0_0 (a2 0) q0_2 q0_3 q0_4 q0_5 q0_6 q0_7 q0_8 q0_9 am q0_13 ++ (wMm tc am mr ++ (wSt tc a2 g2 q2_18 (a3 0) ++ (wLg tc a3 g3 ++ (zz))))) ∧ ∃ u, ex_2 = .inr u) (PX' := fun E w' => w' = (wPU tc a0 g0 q0_0 (a2 0) q0_2 q0_3 q0_4 q0_5 q0_6 q0_7 q0_8 q0_9 am q0_13 ++ (wMm tc am mr ++ (wSt tc a2 g2 q2_18 (a3 0) ++ (wLg tc a3 g3 ++ (zz))))) ∧ ∃ n9 u, ex_2 = .inl (n9, u) ∧ E = exn n9) (pB [wPU tc a0 g0 q0_0 (a2 0) q0_2 q0_3 q0_4 q0_5 q0_6 q0_7 q0_8 q0_9 am q0_13, wMm tc am mr, wSt tc a2 g2 q2_18 (a3 0), wLg tc a3 g3, zz] [0, 1, 2, 3, 4] [0] [1, 2, 3, 4] (by decide)) (fun v w' h => by obtain ⟨u, q, z1, z2, z3⟩ := h; subst z3; exact ⟨_, (pB [wPU tc a0 g0 q0_0 (a2 0) q0_2 q0_3 q0_4 q0_5 q0_6 q0_7 q0_8 q0_9 am q0_13, wMm tc am mr, wSt tc a2 g2 q2_18 (a3 0), wLg tc a3 g3, zz] [0, 1, 2, 3, 4] [0] [1, 2, 3, 4] (by decide)).symm, z2, rfl, u, z1⟩) (fun E w' h => by obtain ⟨n9, u, q, z1, z2, z3⟩ := h; subst z3; exact ⟨_, (pB [wPU tc a0 g0 q0_0 (a2 0) q0_2 q0_3 q0_4 q0_5 q0_6 q0_7 q0_8 q0_9 am q0_13, wMm tc am mr, wSt tc a2 g2 q2_18 (a3 0), wLg tc a3 g3, zz] [0, 1, 2, 3, 4] [0] [1, 2, 3, 4] (by decide)).symm, rfl, n9, u, z1, z2⟩)) mw_5_199 mw_5_201 mp_1_8 mw_1_1 mw_5_202 dc_X11_needNumber ⟨Nat.le_of_ble_eq_true rfl, Nat.le_of_ble_eq_true rfl⟩ rfl rfl ⟨Nat.le_of_ble_eq_true rfl, Nat.le_of_ble_eq_true rfl⟩ hP (hD _ gz _ _ gz) hS (List.mem_of_getElem? (i := 0) rfl) rfl rfl hl.1 (Nat.le_of_ble_eq_true rfl) dX11_speed_10 (fun v w' H locs hn hP hD9 hS => ?_) (fun E q ce w' H locs hx hP hD9 hS y1 y2 y3 => ?_)
  rotate_left
  · obtain ⟨rfl, n9, u9, hu9, hE9⟩ := hx
    exact outZ hT X.2.2.2.2.2.2.1 hQ ⟨n9, _, (h1_2 _ hu9).symm, hE9, rfl⟩ hP hD9 hS y1 y2 y3 (Nat.le_of_ble_eq_true rfl) (Nat.le_of_ble_eq_true rfl)
  obtain ⟨rfl, rfl, u_2, hu_2⟩ := hn
  have h := h2_2 _ hu_2
  refine W.eq (g2 := F0 m 13 ls []) rfl ?_
  refine lv_aload_n X.1 X.2.1 dX11_speed_13 rfl (lv_at hl 0 rfl) ?_
  obtain ⟨g0_3, hc_3, h⟩ := bd_el h
  obtain ⟨hin_3, e_3⟩ := gdi_el hc_3
  obtain rfl : fRem2 (fRem1 g0) = g0_3 := Option.some.inj e_3
  refine callZ (ws := (wPU tc a0 g0 q0_0 (a2 0) q0_2 q0_3 q0_4 q0_5 q0_6 q0_7 q0_8 q0_9 am q0_13 ++ (wMm tc am mr ++ (wSt tc a2 g2 q2_18 (a3 0) ++ (wLg tc a3 g3 ++ (zz)))))) (As := []) (rest := []) X.y (c_X11_rememberNow l dC dI sk sv tc a0 q0_0 q0_2 q0_3 q0_4 q0_5 q0_6 q0_7 q0_8 q0_9 am q0_13 mr a2 q2_18 a3 g0 g2 g3 zz G4 G5 hin_3 hz) mw_5_204 mw_5_206 mp_1_9 mw_1_1 mw_5_207 dc_X11_rememberNow ⟨Nat.le_of_ble_eq_true rfl, Nat.le_of_ble_eq_true rfl⟩ rfl rfl ⟨Nat.le_of_ble_eq_true rfl, Nat.le_of_ble_eq_true rfl⟩ hP (hD _ gz _ _ gz) hS (List.mem_of_getElem? (i := 0) rfl) rfl rfl hl.1 (Nat.le_of_ble_eq_true rfl) dX11_speed_14 (fun v w' H locs hn hP hD9 hS => ?_) (fun _ _ _ _ _ _ h => h.elim)
  obtain ⟨hv_3, u1, u2, hw_3⟩ := hn
  subst hv_3
  subst hw_3
  have hD : ∀ (z0 : Pic) (z1 : Pic) (z2 : Pic) (z3 : Pic) (z4 : Pic), va_D A (wPU tc a0 z0 q0_0 (a2 0) q0_2 q0_3 q0_4 q0_5 q0_6 q0_7 q0_8 q0_9 am q0_13 ++ (wMm tc am (va_up mr (fRemS (fRem1 g0)).toNatClampNeg (some (u1 0))) ++ (wSt tc a2 z2 q2_18 (a3 0) ++ (wLg tc a3 z3 ++ ((wSt tc u1 G4 q2_18 (u2 0) ++ wLg tc u2 G5)))))) := fun z0 z1 z2 z3 z4 => D_fst (ws := (wPU tc a0 (fRem2 (fRem1 g0)) q0_0 (a2 0) q0_2 q0_3 q0_4 q0_5 q0_6 q0_7 q0_8 q0_9 am q0_13 ++ (wMm tc am (va_up mr (fRemS (fRem1 g0)).toNatClampNeg (some (u1 0))) ++ (wSt tc a2 g2 q2_18 (a3 0) ++ (wLg tc a3 g3 ++ ((wSt tc u1 G4 q2_18 (u2 0) ++ wLg tc u2 G5))))))) rfl hD9
  refine W.eq (g2 := F0 m 17 ls []) rfl ?_
  refine lv_aload_n X.1 X.2.1 dX11_speed_17 rfl (lv_at hl 0 rfl) ?_
  refine r_get (C := RX11) (T := TX11) (N := 15) (ci := 11) (v := .ref (a2 0)) X iw11 hP 0 rfl rfl 1 rfl mw_2_144 rfl dX11_speed_18 ?_
  refine r_get (C := RX9) (T := TX9) (N := 20) (ci := 9) (v := .ref (a2 10)) X iw9 hP 2 rfl rfl 9 rfl mw_1_157 rfl dX11_speed_21 ?_
  refine lv_iload_n X.1 X.2.1 dX11_speed_24 rfl (lv_at hl 1 rfl) ?_
  obtain ⟨hg_4, h⟩ := gdi_el h
  refine r_iald X hP 8 0 rfl rfl hg_4 rfl dX11_speed_25 ?_
  obtain ⟨x3_5, ex3_5, h⟩ := nm_el h
  refine tp_i ex3_5 ?_
  refine lv_istore_n (lv' := [(3, .int x3_5), (0, .ref (a0 0)), (1, .int x1), (2, .int x2)]) X.1 X.2.1 dX11_speed_26 rfl hl (by decide) rfl (fun ls hl => ?_)
  refine lv_aload_n X.1 X.2.1 dX11_speed_27 rfl (lv_at hl 1 rfl) ?_
  refine r_get (C := RX11) (T := TX11) (N := 15) (ci := 11) (v := .ref (a2 0)) X iw11 hP 0 rfl rfl 1 rfl mw_2_144 rfl dX11_speed_28 ?_
  refine r_get (C := RX9) (T := TX9) (N := 20) (ci := 9) (v := .ref (a2 10)) X iw9 hP 2 rfl rfl 9 rfl mw_1_157 rfl dX11_speed_31 ?_
  refine lv_iload_n X.1 X.2.1 dX11_speed_34 rfl (lv_at hl 2 rfl) ?_
  refine lv_iload_n X.1 X.2.1 dX11_speed_35 rfl (lv_at hl 3 rfl) ?_
  obtain ⟨hg_6, h⟩ := gdi_el h
  obtain ⟨g2_7, eg2_7, h⟩ := nm_el h
  refine r_iast X hP (hD _ gz _ _ gz) hS 8 0 rfl rfl hg_6 rfl dX11_speed_36 (wPU tc a0 (fRem2 (fRem1 g0)) q0_0 (a2 0) q0_2 q0_3 q0_4 q0_5 q0_6 q0_7 q0_8 q0_9 am q0_13 ++ (wMm tc am (va_up mr (fRemS (fRem1 g0)).toNatClampNeg (some (u1 0))) ++ (wSt tc a2 g2_7 q2_18 (a3 0) ++ (wLg tc a3 g3 ++ ((wSt tc u1 G4 q2_18 (u2 0) ++ wLg tc u2 G5)))))) (by rw [eg2_7]; rfl) (fun H locs hP hS => ?_)
  refine lv_iload_n X.1 X.2.1 dX11_speed_37 rfl (lv_at hl 0 rfl) ?_
  exact retZ_i X.1 X.2.1 X.2.2.1 X.2.2.2.2.2.2.1 hQ ⟨_, ((fRem2 (fRem1 g0)), g2_7), u1, u2, (Option.some.inj h).symm, rfl, rfl⟩ hP (hD _ gz _ _ gz) hS (Nat.le_of_ble_eq_true rfl) (Nat.le_of_ble_eq_true rfl) dX11_speed_38

def f_X11_minutes_n (g0 : Pic) (g2 : Pic) (g3 : Pic) (g4 : Pic) (g5 : Pic) (g6 : Pic) (x1 : Int32) : Option ((Nat × (Pic × Pic × Pic × Pic × Pic)) ⊕ (Int32 × (Pic × Pic × Pic × Pic × Pic))) := lr (f_X11_needNumber g0 x1 1 60) (fun e => .inl (e.1, (g0, g2, g3, g4, g6))) (fun _ => bd (f_X11_rem g0) (fun g0_2 => bd5 (f_X0_pass_n g5 g6 g4 g2 g3 x1 1) (fun r_3 g6_3 g4_3 g2_3 g3_3 => some (.inr (r_3, ((fRem2 (fRem1 g0)), g2_3, g3_3, g4_3, g6_3))))))
abbrev rm_X11_minutes_n : Room := { frames := 7, cells := 13, slots := 475, locals := 221 }
set_option maxHeartbeats 4000000 in
set_option maxRecDepth 100000 in
theorem c_X11_minutes_n (l : Launch) (hst : l.stackTraces = false) (dC : Nat → ClassId) (dI : Nat → Nat → Nat) (sk sv : Nat → Nat) (tc : Nat → ClassId) (a0 : Nat → Nat) (q0_0 : Nat) (q0_2 : Nat) (q0_3 : Nat) (q0_4 : Nat) (q0_7 : Nat) (q0_8 : Nat) (q0_9 : Nat) (q0_13 : Option Nat) (a2 : Nat → Nat) (a3 : Nat → Nat) (a4 : Nat → Nat) (a5 : Nat → Nat) (a6 : Nat → Nat) (am : Nat) (mr : Nat → Option Nat) (zz : va_W) (g0 : Pic) (g2 : Pic) (g3 : Pic) (g4 : Pic) (g5 : Pic) (g6 : Pic) (x1 : Int32) (G4 G5 : Pic) {res : ((Nat × (Pic × Pic × Pic × Pic × Pic)) ⊕ (Int32 × (Pic × Pic × Pic × Pic × Pic)))} (h : f_X11_minutes_n g0 g2 g3 g4 g5 g6 x1 = some res) (hz : SlZ tc mr (fRemS (fRem1 g0)).toNatClampNeg zz g2 g3 G4 G5) : CZ l (dC, dI) sk sv (TY tc) yX11_minutes (.code yX11_minutes cX11_minutes 2 (some .int)) rm_X11_minutes_n 13 475 [.ref (a0 0), .int x1] (wPU tc a0 g0 q0_0 (a2 0) q0_2 q0_3 q0_4 (a4 0) (a5 0) q0_7 q0_8 q0_9 am q0_13 ++ (wMm tc am mr ++ (wSt tc a2 g2 none (a3 0) ++ (wLg tc a3 g3 ++ (wHd tc a4 g4 ++ (wCk tc a5 g5 (a4 0) (a6 0) ++ (wFa tc a6 g6 ++ (zz)))))))) (fun v w' => ∃ (r : Int32) (p : Pic × Pic × Pic × Pic × Pic) (u1 u2 : Nat → Nat), res = .inr (r, p) ∧ v = some (.int r) ∧ w' = (wPU tc a0 p.1 q0_0 (a2 0) q0_2 q0_3 q0_4 (a4 0) (a5 0) q0_7 q0_8 q0_9 am q0_13 ++ (wMm tc am (va_up mr (fRemS (fRem1 g0)).toNatClampNeg (some (u1 0))) ++ (wSt tc a2 p.2.1 none (a3 0) ++ (wLg tc a3 p.2.2.1 ++ (wHd tc a4 p.2.2.2.1 ++ (wCk tc a5 g5 (a4 0) (a6 0) ++ (wFa tc a6 p.2.2.2.2 ++ ((wSt tc u1 G4 none (u2 0) ++ wLg tc u2 G5)))))))))) (fun E w' => ∃ (n9 : Nat) (p : Pic × Pic × Pic × Pic × Pic), res = .inl (n9, p) ∧ E = exn n9 ∧ w' = (wPU tc a0 g0 q0_0 (a2 0) q0_2 q0_3 q0_4 (a4 0) (a5 0) q0_7 q0_8 q0_9 am q0_13 ++ (wMm tc am mr ++ (wSt tc a2 g2 none (a3 0) ++ (wLg tc a3 g3 ++ (wHd tc a4 g4 ++ (wCk tc a5 g5 (a4 0) (a6 0) ++ (wFa tc a6 g6 ++ (zz))))))))) := by
  refine ofCZ (by decide) (Nat.le_of_ble_eq_true rfl) ?_
  intro pr e s m args below meth c A Q ls H locs X hT hQ hD0 hP hS hl
  have hD : ∀ (z0 : Pic) (z1 : Pic) (z2 : Pic) (z3 : Pic) (z4 : Pic) (z5 : Pic) (z6 : Pic) (z7 : Pic), va_D A (wPU tc a0 z0 q0_0 (a2 0) q0_2 q0_3 q0_4 (a4 0) (a5 0) q0_7 q0_8 q0_9 am q0_13 ++ (wMm tc am mr ++ (wSt tc a2 z2 none (a3 0) ++ (wLg tc a3 z3 ++ (wHd tc a4 z4 ++ (wCk tc a5 z5 (a4 0) (a6 0) ++ (wFa tc a6 z6 ++ (zz)))))))) := fun z0 z1 z2 z3 z4 z5 z6 z7 => D_fst (ws := (wPU tc a0 g0 q0_0 (a2 0) q0_2 q0_3 q0_4 (a4 0) (a5 0) q0_7 q0_8 q0_9 am q0_13 ++ (wMm tc am mr ++ (wSt tc a2 g2 none (a3 0) ++ (wLg tc a3 g3 ++ (wHd tc a4 g4 ++ (wCk tc a5 g5 (a4 0) (a6 0) ++ (wFa tc a6 g6 ++ (zz))))))))) rfl hD0
  have hl : lv_has ls 2 [(0, .ref (a0 0)), (1, .int x1)] := hl
  unfold f_X11_minutes_n at h
  refine lv_aload_n X.1 X.2.1 dX11_minutes_0 rfl (lv_at hl 0 rfl) ?_
  refine lv_iload_n X.1 X.2.1 dX11_minutes_1 rfl (lv_at hl 1 rfl) ?_
  refine lv_iconst (v := 1) X.1 X.2.1 dX11_minutes_2 (by decide) ?_
  refine lv_bipush (v := 60) X.1 X.2.1 dX11_minutes_3 (by decide) ?_
  obtain ⟨ex_1, hc_1, h1_1, h2_1⟩ := lr_el h
  refine callZ (ws := (wPU tc a0 g0 q0_0 (a2 0) q0_2 q0_3 q0_4 (a4 0) (a5 0) q0_7 q0_8 q0_9 am q0_13 ++ (wMm tc am mr ++ (wSt tc a2 g2 none (a3 0) ++ (wLg tc a3 g3 ++ (wHd tc a4 g4 ++ (wCk tc a5 g5 (a4 0) (a6 0) ++ (wFa tc a6 g6 ++ (zz))))))))) (As := [.int x1, .int 1, .int 60]) (rest := []) X.y ((CU.zv (c_X11_needNumber l hst dC dI sk sv tc a0 q0_0 (a2 0) q0_2 q0_3 q0_4 (a4 0) (a5 0) q0_7 q0_8 q0_9 am q0_13 g0 x1 1 60 hc_1) (fun _ _ => rfl)).fr (w := (wPU tc a0 g0 q0_0 (a2 0) q0_2 q0_3 q0_4 (a4 0) (a5 0) q0_7 q0_8 q0_9 am q0_13 ++ (wMm tc am mr ++ (wSt tc a2 g2 none (a3 0) ++ (wLg tc a3 g3 ++ (wHd tc a4 g4 ++ (wCk tc a5 g5 (a4 0) (a6 0) ++ (wFa tc a6 g6 ++ (zz))))))))) (PN' := fun v w' => v = none ∧ w' = (wPU tc a0 g0 q0_0 (a2 0) q0_2 q0_3 q0_4 (a4 0) (a5 0) q0_7 q0_8 q0_9 am q0_13 ++ (wMm tc am mr ++ (wSt tc a2 g2 none (a3 0) ++ (wLg tc a3 g3 ++ (wHd tc a4 g4 ++ (wCk tc a5 g5 (a4 0) (a6 0) ++ (wFa tc a6 g6 ++ (zz)))))))) ∧ ∃ u, ex_1 = .inr u) (PX' := fun E w' => w' = (wPU tc a0 g0 q0_0 (a2 0) q0_2 q0_3 q0_4 (a4 0) (a5 0) q0_7 q0_8 q0_9 am q0_13 ++ (wMm tc am mr ++ (wSt tc a2 g2 none (a3 0) ++ (wLg tc a3 g3 ++ (wHd tc a4 g4 ++ (wCk tc a5 g5 (a4 0) (a6 0) ++ (wFa tc a6 g6 ++ (zz)))))))) ∧ ∃ n9 u, ex_1 = .inl (n9, u) ∧ E = exn n9) (pB [wPU tc a0 g0 q0_0 (a2 0) q0_2 q0_3 q0_4 (a4 0) (a5 0) q0_7 q0_8 q0_9 am q0_13, wMm tc am mr, wSt tc a2 g2 none (a3 0), wLg tc a3 g3, wHd tc a4 g4, wCk tc a5 g5 (a4 0) (a6 0), wFa tc a6 g6, zz] [0, 1, 2, 3, 4, 5, 6, 7] [0] [1, 2, 3, 4, 5, 6, 7] (by decide)) (fun v w' h => by obtain ⟨u, q, z1, z2, z3⟩ := h; subst z3; exact ⟨_, (pB [wPU tc a0 g0 q0_0 (a2 0) q0_2 q0_3 q0_4 (a4 0) (a5 0) q0_7 q0_8 q0_9 am q0_13, wMm tc am mr, wSt tc a2 g2 none (a3 0), wLg tc a3 g3, wHd tc a4 g4, wCk tc a5 g5 (a4 0) (a6 0), wFa tc a6 g6, zz] [0, 1, 2, 3, 4, 5, 6, 7] [0] [1, 2, 3, 4, 5, 6, 7] (by decide)).symm, z2, rfl, u, z1⟩) (fun E w' h => by obtain ⟨n9, u, q, z1, z2, z3⟩ := h; subst z3; exact ⟨_, (pB [wPU tc a0 g0 q0_0 (a2 0) q0_2 q0_3 q0_4 (a4 0) (a5 0) q0_7 q0_8 q0_9 am q0_13, wMm tc am mr, wSt tc a2 g2 none (a3 0), wLg tc a3 g3, wHd tc a4 g4, wCk tc a5 g5 (a4 0) (a6 0), wFa tc a6 g6, zz] [0, 1, 2, 3, 4, 5, 6, 7] [0] [1, 2, 3, 4, 5, 6, 7] (by decide)).symm, rfl, n9, u, z1, z2⟩)) mw_5_199 mw_5_201 mp_1_8 mw_1_1 mw_5_202 dc_X11_needNumber ⟨Nat.le_of_ble_eq_true rfl, Nat.le_of_ble_eq_true rfl⟩ rfl rfl ⟨Nat.le_of_ble_eq_true rfl, Nat.le_of_ble_eq_true rfl⟩ hP (hD _ gz _ _ _ gz _ gz) hS (List.mem_of_getElem? (i := 0) rfl) rfl rfl hl.1 (Nat.le_of_ble_eq_true rfl) dX11_minutes_5 (fun v w' H locs hn hP hD9 hS => ?_) (fun E q ce w' H locs hx hP hD9 hS y1 y2 y3 => ?_)
  rotate_left
  · obtain ⟨rfl, n9, u9, hu9, hE9⟩ := hx
    exact outZ hT X.2.2.2.2.2.2.1 hQ ⟨n9, _, (h1_1 _ hu9).symm, hE9, rfl⟩ hP hD9 hS y1 y2 y3 (Nat.le_of_ble_eq_true rfl) (Nat.le_of_ble_eq_true rfl)
  obtain ⟨rfl, rfl, u_1, hu_1⟩ := hn
  have h := h2_1 _ hu_1
  refine W.eq (g2 := F0 m 8 ls []) rfl ?_
  refine lv_aload_n X.1 X.2.1 dX11_minutes_8 rfl (lv_at hl 0 rfl) ?_
  obtain ⟨g0_2, hc_2, h⟩ := bd_el h
  obtain ⟨hin_2, e_2⟩ := gdi_el hc_2
  obtain rfl : fRem2 (fRem1 g0) = g0_2 := Option.some.inj e_2
  refine callZ (ws := (wPU tc a0 g0 q0_0 (a2 0) q0_2 q0_3 q0_4 (a4 0) (a5 0) q0_7 q0_8 q0_9 am q0_13 ++ (wMm tc am mr ++ (wSt tc a2 g2 none (a3 0) ++ (wLg tc a3 g3 ++ (wHd tc a4 g4 ++ (wCk tc a5 g5 (a4 0) (a6 0) ++ (wFa tc a6 g6 ++ (zz))))))))) (As := []) (rest := []) X.y ((c_X11_rememberNow l dC dI sk sv tc a0 q0_0 q0_2 q0_3 q0_4 (a4 0) (a5 0) q0_7 q0_8 q0_9 am q0_13 mr a2 none a3 g0 g2 g3 zz G4 G5 hin_2 hz).fr (w := (wPU tc a0 g0 q0_0 (a2 0) q0_2 q0_3 q0_4 (a4 0) (a5 0) q0_7 q0_8 q0_9 am q0_13 ++ (wMm tc am mr ++ (wSt tc a2 g2 none (a3 0) ++ (wLg tc a3 g3 ++ (wHd tc a4 g4 ++ (wCk tc a5 g5 (a4 0) (a6 0) ++ (wFa tc a6 g6 ++ (zz))))))))) (PN' := fun v w' => v = none ∧ ∃ u1 u2 : Nat → Nat, w' = (wPU tc a0 (fRem2 (fRem1 g0)) q0_0 (a2 0) q0_2 q0_3 q0_4 (a4 0) (a5 0) q0_7 q0_8 q0_9 am q0_13 ++ (wMm tc am (va_up mr (fRemS (fRem1 g0)).toNatClampNeg (some (u1 0))) ++ (wSt tc a2 g2 none (a3 0) ++ (wLg tc a3 g3 ++ (wHd tc a4 g4 ++ (wCk tc a5 g5 (a4 0) (a6 0) ++ (wFa tc a6 g6 ++ ((wSt tc u1 G4 none (u2 0) ++ wLg tc u2 G5)))))))))) (PX' := fun _ _ => False) (pB [wPU tc a0 g0 q0_0 (a2 0) q0_2 q0_3 q0_4 (a4 0) (a5 0) q0_7 q0_8 q0_9 am q0_13, wMm tc am mr, wSt tc a2 g2 none (a3 0), wLg tc a3 g3, wHd tc a4 g4, wCk tc a5 g5 (a4 0) (a6 0), wFa tc a6 g6, zz] [0, 1, 2, 3, 4, 5, 6, 7] [0, 1, 2, 3, 7] [4, 5, 6] (by decide)) (fun v w' h => by obtain ⟨h1, u1, u2, h2⟩ := h; subst h2; exact ⟨_, (pB [wPU tc a0 (fRem2 (fRem1 g0)) q0_0 (a2 0) q0_2 q0_3 q0_4 (a4 0) (a5 0) q0_7 q0_8 q0_9 am q0_13, wMm tc am (va_up mr (fRemS (fRem1 g0)).toNatClampNeg (some (u1 0))), wSt tc a2 g2 none (a3 0), wLg tc a3 g3, wHd tc a4 g4, wCk tc a5 g5 (a4 0) (a6 0), wFa tc a6 g6, (wSt tc u1 G4 none (u2 0) ++ wLg tc u2 G5)] [0, 1, 2, 3, 4, 5, 6, 7] [0, 1, 2, 3, 7] [4, 5, 6] (by decide)).symm, h1, u1, u2, rfl⟩) (fun _ _ h => h.elim)) mw_5_204 mw_5_206 mp_1_9 mw_1_1 mw_5_207 dc_X11_rememberNow ⟨Nat.le_of_ble_eq_true rfl, Nat.le_of_ble_eq_true rfl⟩ rfl rfl ⟨Nat.le_of_ble_eq_true rfl, Nat.le_of_ble_eq_true rfl⟩ hP (hD _ gz _ _ _ gz _ gz) hS (List.mem_of_getElem? (i := 0) rfl) rfl rfl hl.1 (Nat.le_of_ble_eq_true rfl) dX11_minutes_9 (fun v w' H locs hn hP hD9 hS => ?_) (fun _ _ _ _ _ _ h => h.elim)
  obtain ⟨hv_2, u1, u2, hw_2⟩ := hn
  subst hv_2
  subst hw_2
  have hD : ∀ (z0 : Pic) (z1 : Pic) (z2 : Pic) (z3 : Pic) (z4 : Pic) (z5 : Pic) (z6 : Pic) (z7 : Pic), va_D A (wPU tc a0 z0 q0_0 (a2 0) q0_2 q0_3 q0_4 (a4 0) (a5 0) q0_7 q0_8 q0_9 am q0_13 ++ (wMm tc am (va_up mr (fRemS (fRem1 g0)).toNatClampNeg (some (u1 0))) ++ (wSt tc a2 z2 none (a3 0) ++ (wLg tc a3 z3 ++ (wHd tc a4 z4 ++ (wCk tc a5 z5 (a4 0) (a6 0) ++ (wFa tc a6 z6 ++ ((wSt tc u1 G4 none (u2 0) ++ wLg tc u2 G5))))))))) := fun z0 z1 z2 z3 z4 z5 z6 z7 => D_fst (ws := (wPU tc a0 (fRem2 (fRem1 g0)) q0_0 (a2 0) q0_2 q0_3 q0_4 (a4 0) (a5 0) q0_7 q0_8 q0_9 am q0_13 ++ (wMm tc am (va_up mr (fRemS (fRem1 g0)).toNatClampNeg (some (u1 0))) ++ (wSt tc a2 g2 none (a3 0) ++ (wLg tc a3 g3 ++ (wHd tc a4 g4 ++ (wCk tc a5 g5 (a4 0) (a6 0) ++ (wFa tc a6 g6 ++ ((wSt tc u1 G4 none (u2 0) ++ wLg tc u2 G5)))))))))) rfl hD9
  refine W.eq (g2 := F0 m 12 ls []) rfl ?_
  refine lv_aload_n X.1 X.2.1 dX11_minutes_12 rfl (lv_at hl 0 rfl) ?_
  refine r_get (C := RX11) (T := TX11) (N := 15) (ci := 11) (v := .ref (a5 0)) X iw11 hP 0 rfl rfl 6 rfl mw_2_149 rfl dX11_minutes_13 ?_
  refine lv_aload_n X.1 X.2.1 dX11_minutes_16 rfl (lv_at hl 0 rfl) ?_
  refine r_get (C := RX11) (T := TX11) (N := 15) (ci := 11) (v := .ref (a2 0)) X iw11 hP 0 rfl rfl 1 rfl mw_2_144 rfl dX11_minutes_17 ?_
  refine lv_iload_n X.1 X.2.1 dX11_minutes_20 rfl (lv_at hl 1 rfl) ?_
  refine lv_iconst (v := 1) X.1 X.2.1 dX11_minutes_21 (by decide) ?_
  obtain ⟨r_3, g6_3, g4_3, g2_3, g3_3, hc_3, h⟩ := bd5_el h
  refine callZ (ws := (wPU tc a0 (fRem2 (fRem1 g0)) q0_0 (a2 0) q0_2 q0_3 q0_4 (a4 0) (a5 0) q0_7 q0_8 q0_9 am q0_13 ++ (wMm tc am (va_up mr (fRemS (fRem1 g0)).toNatClampNeg (some (u1 0))) ++ (wSt tc a2 g2 none (a3 0) ++ (wLg tc a3 g3 ++ (wHd tc a4 g4 ++ (wCk tc a5 g5 (a4 0) (a6 0) ++ (wFa tc a6 g6 ++ ((wSt tc u1 G4 none (u2 0) ++ wLg tc u2 G5)))))))))) (As := [.ref (a2 0), .int x1, .int 1]) (rest := []) X.y ((CT.z (c_X0_pass_n l dC dI sk sv tc a5 a6 a4 a2 a3 g5 g6 g4 g2 g3 x1 1 hc_3) rfl).fr (w := (wPU tc a0 (fRem2 (fRem1 g0)) q0_0 (a2 0) q0_2 q0_3 q0_4 (a4 0) (a5 0) q0_7 q0_8 q0_9 am q0_13 ++ (wMm tc am (va_up mr (fRemS (fRem1 g0)).toNatClampNeg (some (u1 0))) ++ (wSt tc a2 g2 none (a3 0) ++ (wLg tc a3 g3 ++ (wHd tc a4 g4 ++ (wCk tc a5 g5 (a4 0) (a6 0) ++ (wFa tc a6 g6 ++ ((wSt tc u1 G4 none (u2 0) ++ wLg tc u2 G5)))))))))) (PN' := fun v w' => v = some (.int r_3) ∧ w' = (wPU tc a0 (fRem2 (fRem1 g0)) q0_0 (a2 0) q0_2 q0_3 q0_4 (a4 0) (a5 0) q0_7 q0_8 q0_9 am q0_13 ++ (wMm tc am (va_up mr (fRemS (fRem1 g0)).toNatClampNeg (some (u1 0))) ++ (wSt tc a2 g2_3 none (a3 0) ++ (wLg tc a3 g3_3 ++ (wHd tc a4 g4_3 ++ (wCk tc a5 g5 (a4 0) (a6 0) ++ (wFa tc a6 g6_3 ++ ((wSt tc u1 G4 none (u2 0) ++ wLg tc u2 G5)))))))))) (PX' := fun _ _ => False) (pB [wPU tc a0 (fRem2 (fRem1 g0)) q0_0 (a2 0) q0_2 q0_3 q0_4 (a4 0) (a5 0) q0_7 q0_8 q0_9 am q0_13, wMm tc am (va_up mr (fRemS (fRem1 g0)).toNatClampNeg (some (u1 0))), wSt tc a2 g2 none (a3 0), wLg tc a3 g3, wHd tc a4 g4, wCk tc a5 g5 (a4 0) (a6 0), wFa tc a6 g6, (wSt tc u1 G4 none (u2 0) ++ wLg tc u2 G5)] [0, 1, 2, 3, 4, 5, 6, 7] [5, 6, 4, 2, 3] [0, 1, 7] (by decide)) (fun v w' h => by obtain ⟨z2, z3⟩ := h; subst z3; exact ⟨_, (pB [wPU tc a0 (fRem2 (fRem1 g0)) q0_0 (a2 0) q0_2 q0_3 q0_4 (a4 0) (a5 0) q0_7 q0_8 q0_9 am q0_13, wMm tc am (va_up mr (fRemS (fRem1 g0)).toNatClampNeg (some (u1 0))), wSt tc a2 g2_3 none (a3 0), wLg tc a3 g3_3, wHd tc a4 g4_3, wCk tc a5 g5 (a4 0) (a6 0), wFa tc a6 g6_3, (wSt tc u1 G4 none (u2 0) ++ wLg tc u2 G5)] [0, 1, 2, 3, 4, 5, 6, 7] [5, 6, 4, 2, 3] [0, 1, 7] (by decide)).symm, z2, rfl⟩) (fun _ _ h => h.elim)) mw_5_208 mw_5_209 mw_5_210 mw_1_8 mw_5_211 dc_X0_pass ⟨Nat.le_of_ble_eq_true rfl, Nat.le_of_ble_eq_true rfl⟩ rfl rfl ⟨Nat.le_of_ble_eq_true rfl, Nat.le_of_ble_eq_true rfl⟩ hP (hD _ gz _ _ _ gz _ gz) hS (List.mem_of_getElem? (i := 19) rfl) rfl rfl hl.1 (Nat.le_of_ble_eq_true rfl) dX11_minutes_22 (fun v w' H locs hn hP hD9 hS => ?_) (fun _ _ _ _ _ _ h => h.elim)
  obtain ⟨rfl, rfl⟩ := hn
  refine W.eq (g2 := F0 m 25 ls [.int r_3]) rfl ?_
  exact retZ_i X.1 X.2.1 X.2.2.1 X.2.2.2.2.2.2.1 hQ ⟨_, ((fRem2 (fRem1 g0)), g2_3, g3_3, g4_3, g6_3), u1, u2, (Option.some.inj h).symm, rfl, rfl⟩ hP (hD _ gz _ _ _ gz _ gz) hS (Nat.le_of_ble_eq_true rfl) (Nat.le_of_ble_eq_true rfl) dX11_minutes_25

def f_X11_minutes_l (ln7 : Nat → Nat) (g0 : Pic) (g2 : Pic) (g3 : Pic) (g4 : Pic) (g5 : Pic) (g6 : Pic) (g7 : Pic) (x1 : Int32) : Option ((Nat × (Pic × Pic × Pic × Pic × Pic × Pic)) ⊕ (Int32 × (Pic × Pic × Pic × Pic × Pic × Pic))) := lr (f_X11_needNumber g0 x1 1 60) (fun e => .inl (e.1, (g0, g2, g3, g4, g6, g7))) (fun _ => bd (f_X11_rem g0) (fun g0_2 => bd6 (f_X0_pass_l ln7 g5 g7 g6 g4 g2 g3 x1 1) (fun r_3 g7_3 g6_3 g4_3 g2_3 g3_3 => some (.inr (r_3, ((fRem2 (fRem1 g0)), g2_3, g3_3, g4_3, g6_3, g7_3))))))
abbrev rm_X11_minutes_l : Room := { frames := 7, cells := 13, slots := 475, locals := 221 }
set_option maxHeartbeats 4000000 in
set_option maxRecDepth 100000 in
theorem c_X11_minutes_l (l : Launch) (hst : l.stackTraces = false) (dC : Nat → ClassId) (dI : Nat → Nat → Nat) (sk sv : Nat → Nat) (tc : Nat → ClassId) (ln7 : Nat → Nat) (a0 : Nat → Nat) (q0_0 : Nat) (q0_2 : Nat) (q0_3 : Nat) (q0_4 : Nat) (q0_7 : Nat) (q0_8 : Nat) (q0_9 : Nat) (q0_13 : Option Nat) (a2 : Nat → Nat) (a3 : Nat → Nat) (a4 : Nat → Nat) (a5 : Nat → Nat) (a6 : Nat → Nat) (a7 : Nat → Nat) (am : Nat) (mr : Nat → Option Nat) (zz : va_W) (g0 : Pic) (g2 : Pic) (g3 : Pic) (g4 : Pic) (g5 : Pic) (g6 : Pic) (g7 : Pic) (x1 : Int32) (G4 G5 : Pic) {res : ((Nat × (Pic × Pic × Pic × Pic × Pic × Pic)) ⊕ (Int32 × (Pic × Pic × Pic × Pic × Pic × Pic)))} (h : f_X11_minutes_l ln7 g0 g2 g3 g4 g5 g6 g7 x1 = some res) (hz : SlZ tc mr (fRemS (fRem1 g0)).toNatClampNeg zz g2 g3 G4 G5) : CZ l (dC, dI) sk sv (TY tc) yX11_minutes (.code yX11_minutes cX11_minutes 2 (some .int)) rm_X11_minutes_l 13 475 [.ref (a0 0), .int x1] (wPU tc a0 g0 q0_0 (a2 0) q0_2 q0_3 q0_4 (a4 0) (a5 0) q0_7 q0_8 q0_9 am q0_13 ++ (wMm tc am mr ++ (wSt tc a2 g2 (some (a7 0)) (a3 0) ++ (wLg tc a3 g3 ++ (wHd tc a4 g4 ++ (wCk tc a5 g5 (a4 0) (a6 0) ++ (wFa tc a6 g6 ++ (wLw tc a7 g7 ln7 ++ (zz))))))))) (fun v w' => ∃ (r : Int32) (p : Pic × Pic × Pic × Pic × Pic × Pic) (u1 u2 : Nat → Nat), res = .inr (r, p) ∧ v = some (.int r) ∧ w' = (wPU tc a0 p.1 q0_0 (a2 0) q0_2 q0_3 q0_4 (a4 0) (a5 0) q0_7 q0_8 q0_9 am q0_13 ++ (wMm tc am (va_up mr (fRemS (fRem1 g0)).toNatClampNeg (some (u1 0))) ++ (wSt tc a2 p.2.1 (some (a7 0)) (a3 0) ++ (wLg tc a3 p.2.2.1 ++ (wHd tc a4 p.2.2.2.1 ++ (wCk tc a5 g5 (a4 0) (a6 0) ++ (wFa tc a6 p.2.2.2.2.1 ++ (wLw tc a7 p.2.2.2.2.2 ln7 ++ ((wSt tc u1 G4 (some (a7 0)) (u2 0) ++ wLg tc u2 G5))))))))))) (fun E w' => ∃ (n9 : Nat) (p : Pic × Pic × Pic × Pic × Pic × Pic), res = .inl (n9, p) ∧ E = exn n9 ∧ w' = (wPU tc a0 g0 q0_0 (a2 0) q0_2 q0_3 q0_4 (a4 0) (a5 0) q0_7 q0_8 q0_9 am q0_13 ++ (wMm tc am mr ++ (wSt tc a2 g2 (some (a7 0)) (a3 0) ++ (wLg tc a3 g3 ++ (wHd tc a4 g4 ++ (wCk tc a5 g5 (a4 0) (a6 0) ++ (wFa tc a6 g6 ++ (wLw tc a7 g7 ln7 ++ (zz)))))))))) := by
  refine ofCZ (by decide) (Nat.le_of_ble_eq_true rfl) ?_
  intro pr e s m args below meth c A Q ls H locs X hT hQ hD0 hP hS hl
  have hD : ∀ (z0 : Pic) (z1 : Pic) (z2 : Pic) (z3 : Pic) (z4 : Pic) (z5 : Pic) (z6 : Pic) (z7 : Pic) (z8 : Pic), va_D A (wPU tc a0 z0 q0_0 (a2 0) q0_2 q0_3 q0_4 (a4 0) (a5 0) q0_7 q0_8 q0_9 am q0_13 ++ (wMm tc am mr ++ (wSt tc a2 z2 (some (a7 0)) (a3 0) ++ (wLg tc a3 z3 ++ (wHd tc a4 z4 ++ (wCk tc a5 z5 (a4 0) (a6 0) ++ (wFa tc a6 z6 ++ (wLw tc a7 z7 ln7 ++ (zz))))))))) := fun z0 z1 z2 z3 z4 z5 z6 z7 z8 => D_fst (ws := (wPU tc a0 g0 q0_0 (a2 0) q0_2 q0_3 q0_4 (a4 0) (a5 0) q0_7 q0_8 q0_9 am q0_13 ++ (wMm tc am mr ++ (wSt tc a2 g2 (some (a7 0)) (a3 0) ++ (wLg tc a3 g3 ++ (wHd tc a4 g4 ++ (wCk tc a5 g5 (a4 0) (a6 0) ++ (wFa tc a6 g6 ++ (wLw tc a7 g7 ln7 ++ (zz)))))))))) rfl hD0
  have hl : lv_has ls 2 [(0, .ref (a0 0)), (1, .int x1)] := hl
  unfold f_X11_minutes_l at h
  refine lv_aload_n X.1 X.2.1 dX11_minutes_0 rfl (lv_at hl 0 rfl) ?_
  refine lv_iload_n X.1 X.2.1 dX11_minutes_1 rfl (lv_at hl 1 rfl) ?_
  refine lv_iconst (v := 1) X.1 X.2.1 dX11_minutes_2 (by decide) ?_
  refine lv_bipush (v := 60) X.1 X.2.1 dX11_minutes_3 (by decide) ?_
  obtain ⟨ex_1, hc_1, h1_1, h2_1⟩ := lr_el h
  refine callZ (ws := (wPU tc a0 g0 q0_0 (a2 0) q0_2 q0_3 q0_4 (a4 0) (a5 0) q0_7 q0_8 q0_9 am q0_13 ++ (wMm tc am mr ++ (wSt tc a2 g2 (some (a7 0)) (a3 0) ++ (wLg tc a3 g3 ++ (wHd tc a4 g4 ++ (wCk tc a5 g5 (a4 0) (a6 0) ++ (wFa tc a6 g6 ++ (wLw tc a7 g7 ln7 ++ (zz)))))))))) (As := [.int x1, .int 1, .int 60]) (rest := []) X.y ((CU.zv (c_X11_needNumber l hst dC dI sk sv tc a0 q0_0 (a2 0) q0_2 q0_3 q0_4 (a4 0) (a5 0) q0_7 q0_8 q0_9 am q0_13 g0 x1 1 60 hc_1) (fun _ _ => rfl)).fr (w := (wPU tc a0 g0 q0_0 (a2 0) q0_2 q0_3 q0_4 (a4 0) (a5 0) q0_7 q0_8 q0_9 am q0_13 ++ (wMm tc am mr ++ (wSt tc a2 g2 (some (a7 0)) (a3 0) ++ (wLg tc a3 g3 ++ (wHd tc a4 g4 ++ (wCk tc a5 g5 (a4 0) (a6 0) ++ (wFa tc a6 g6 ++ (wLw tc a7 g7 ln7 ++ (zz)))))))))) (PN' := fun v w' => v = none ∧ w' = (wPU tc a0 g0 q0_0 (a2 0) q0_2 q0_3 q0_4 (a4 0) (a5 0) q0_7 q0_8 q0_9 am q0_13 ++ (wMm tc am mr ++ (wSt tc a2 g2 (some (a7 0)) (a3 0) ++ (wLg tc a3 g3 ++ (wHd tc a4 g4 ++ (wCk tc a5 g5 (a4 0) (a6 0) ++ (wFa tc a6 g6 ++ (wLw tc a7 g7 ln7 ++ (zz))))))))) ∧ ∃ u, ex_1 = .inr u) (PX' := fun E w' => w' = (wPU tc a0 g0 q0_0 (a2 0) q0_2 q0_3 q0_4 (a4 0) (a5 0) q0_7 q0_8 q0_9 am q0_13 ++ (wMm tc am mr ++ (wSt tc a2 g2 (some (a7 0)) (a3 0) ++ (wLg tc a3 g3 ++ (wHd tc a4 g4 ++ (wCk tc a5 g5 (a4 0) (a6 0) ++ (wFa tc a6 g6 ++ (wLw tc a7 g7 ln7 ++ (zz))))))))) ∧ ∃ n9 u, ex_1 = .inl (n9, u) ∧ E = exn n9) (pB [wPU tc a0 g0 q0_0 (a2 0) q0_2 q0_3 q0_4 (a4 0) (a5 0) q0_7 q0_8 q0_9 am q0_13, wMm tc am mr, wSt tc a2 g2 (some (a7 0)) (a3 0), wLg tc a3 g3, wHd tc a4 g4, wCk tc a5 g5 (a4 0) (a6 0), wFa tc a6 g6, wLw tc a7 g7 ln7, zz] [0, 1, 2, 3, 4, 5, 6, 7, 8] [0] [1, 2, 3, 4, 5, 6, 7, 8] (by decide)) (fun v w' h => by obtain ⟨u, q, z1, z2, z3⟩ := h; subst z3; exact ⟨_, (pB [wPU tc a0 g0 q0_0 (a2 0) q0_2 q0_3 q0_4 (a4 0) (a5 0) q0_7 q0_8 q0_9 am q0_13, wMm tc am mr, wSt tc a2 g2 (some (a7 0)) (a3 0), wLg tc a3 g3, wHd tc a4 g4, wCk tc a5 g5 (a4 0) (a6 0), wFa tc a6 g6, wLw tc a7 g7 ln7, zz] [0, 1, 2, 3, 4, 5, 6, 7, 8] [0] [1, 2, 3, 4, 5, 6, 7, 8] (by decide)).symm, z2, rfl, u, z1⟩) (fun E w' h => by obtain ⟨n9, u, q, z1, z2, z3⟩ := h; subst z3; exact ⟨_, (pB [wPU tc a0 g0 q0_0 (a2 0) q0_2 q0_3 q0_4 (a4 0) (a5 0) q0_7 q0_8 q0_9 am q0_13, wMm tc am mr, wSt tc a2 g2 (some (a7 0)) (a3 0), wLg tc a3 g3, wHd tc a4 g4, wCk tc a5 g5 (a4 0) (a6 0), wFa tc a6 g6, wLw tc a7 g7 ln7, zz] [0, 1, 2, 3, 4, 5, 6, 7, 8] [0] [1, 2, 3, 4, 5, 6, 7, 8] (by decide)).symm, rfl, n9, u, z1, z2⟩)) mw_5_199 mw_5_201 mp_1_8 mw_1_1 mw_5_202 dc_X11_needNumber ⟨Nat.le_of_ble_eq_true rfl, Nat.le_of_ble_eq_true rfl⟩ rfl rfl ⟨Nat.le_of_ble_eq_true rfl, Nat.le_of_ble_eq_true rfl⟩ hP (hD _ gz _ _ _ gz _ _ gz) hS (List.mem_of_getElem? (i := 0) rfl) rfl rfl hl.1 (Nat.le_of_ble_eq_true rfl) dX11_minutes_5 (fun v w' H locs hn hP hD9 hS => ?_) (fun E q ce w' H locs hx hP hD9 hS y1 y2 y3 => ?_)
  rotate_left
  · obtain ⟨rfl, n9, u9, hu9, hE9⟩ := hx
    exact outZ hT X.2.2.2.2.2.2.1 hQ ⟨n9, _, (h1_1 _ hu9).symm, hE9, rfl⟩ hP hD9 hS y1 y2 y3 (Nat.le_of_ble_eq_true rfl) (Nat.le_of_ble_eq_true rfl)
  obtain ⟨rfl, rfl, u_1, hu_1⟩ := hn
  have h := h2_1 _ hu_1
  refine W.eq (g2 := F0 m 8 ls []) rfl ?_
  refine lv_aload_n X.1 X.2.1 dX11_minutes_8 rfl (lv_at hl 0 rfl) ?_
  obtain ⟨g0_2, hc_2, h⟩ := bd_el h
  obtain ⟨hin_2, e_2⟩ := gdi_el hc_2
  obtain rfl : fRem2 (fRem1 g0) = g0_2 := Option.some.inj e_2
  refine callZ (ws := (wPU tc a0 g0 q0_0 (a2 0) q0_2 q0_3 q0_4 (a4 0) (a5 0) q0_7 q0_8 q0_9 am q0_13 ++ (wMm tc am mr ++ (wSt tc a2 g2 (some (a7 0)) (a3 0) ++ (wLg tc a3 g3 ++ (wHd tc a4 g4 ++ (wCk tc a5 g5 (a4 0) (a6 0) ++ (wFa tc a6 g6 ++ (wLw tc a7 g7 ln7 ++ (zz)))))))))) (As := []) (rest := []) X.y ((c_X11_rememberNow l dC dI sk sv tc a0 q0_0 q0_2 q0_3 q0_4 (a4 0) (a5 0) q0_7 q0_8 q0_9 am q0_13 mr a2 (some (a7 0)) a3 g0 g2 g3 zz G4 G5 hin_2 hz).fr (w := (wPU tc a0 g0 q0_0 (a2 0) q0_2 q0_3 q0_4 (a4 0) (a5 0) q0_7 q0_8 q0_9 am q0_13 ++ (wMm tc am mr ++ (wSt tc a2 g2 (some (a7 0)) (a3 0) ++ (wLg tc a3 g3 ++ (wHd tc a4 g4 ++ (wCk tc a5 g5 (a4 0) (a6 0) ++ (wFa tc a6 g6 ++ (wLw tc a7 g7 ln7 ++ (zz)))))))))) (PN' := fun v w' => v = none ∧ ∃ u1 u2 : Nat → Nat, w' = (wPU tc a0 (fRem2 (fRem1 g0)) q0_0 (a2 0) q0_2 q0_3 q0_4 (a4 0) (a5 0) q0_7 q0_8 q0_9 am q0_13 ++ (wMm tc am (va_up mr (fRemS (fRem1 g0)).toNatClampNeg (some (u1 0))) ++ (wSt tc a2 g2 (some (a7 0)) (a3 0) ++ (wLg tc a3 g3 ++ (wHd tc a4 g4 ++ (wCk tc a5 g5 (a4 0) (a6 0) ++ (wFa tc a6 g6 ++ (wLw tc a7 g7 ln7 ++ ((wSt tc u1 G4 (some (a7 0)) (u2 0) ++ wLg tc u2 G5))))))))))) (PX' := fun _ _ => False) (pB [wPU tc a0 g0 q0_0 (a2 0) q0_2 q0_3 q0_4 (a4 0) (a5 0) q0_7 q0_8 q0_9 am q0_13, wMm tc am mr, wSt tc a2 g2 (some (a7 0)) (a3 0), wLg tc a3 g3, wHd tc a4 g4, wCk tc a5 g5 (a4 0) (a6 0), wFa tc a6 g6, wLw tc a7 g7 ln7, zz] [0, 1, 2, 3, 4, 5, 6, 7, 8] [0, 1, 2, 3, 8] [4, 5, 6, 7] (by decide)) (fun v w' h => by obtain ⟨h1, u1, u2, h2⟩ := h; subst h2; exact ⟨_, (pB [wPU tc a0 (fRem2 (fRem1 g0)) q0_0 (a2 0) q0_2 q0_3 q0_4 (a4 0) (a5 0) q0_7 q0_8 q0_9 am q0_13, wMm tc am (va_up mr (fRemS (fRem1 g0)).toNatClampNeg (some (u1 0))), wSt tc a2 g2 (some (a7 0)) (a3 0), wLg tc a3 g3, wHd tc a4 g4, wCk tc a5 g5 (a4 0) (a6 0), wFa tc a6 g6, wLw tc a7 g7 ln7, (wSt tc u1 G4 (some (a7 0)) (u2 0) ++ wLg tc u2 G5)] [0, 1, 2, 3, 4, 5, 6, 7, 8] [0, 1, 2, 3, 8] [4, 5, 6, 7] (by decide)).symm, h1, u1, u2, rfl⟩) (fun _ _ h => h.elim)) mw_5_204 mw_5_206 mp_1_9 mw_1_1 mw_5_207 dc_X11_rememberNow ⟨Nat.le_of_ble_eq_true rfl, Nat.le_of_ble_eq_true rfl⟩ rfl rfl ⟨Nat.le_of_ble_eq_true rfl, Nat.le_of_ble_eq_true rfl⟩ hP (hD _ gz _ _ _ gz _ _ gz) hS (List.mem_of_getElem? (i := 0) rfl) rfl rfl hl.1 (Nat.le_of_ble_eq_true rfl) dX11_minutes_9 (fun v w' H locs hn hP hD9 hS => ?_) (fun _ _ _ _ _ _ h => h.elim)
  obtain ⟨hv_2, u1, u2, hw_2⟩ := hn
  subst hv_2
  subst hw_2
  have hD : ∀ (z0 : Pic) (z1 : Pic) (z2 : Pic) (z3 : Pic) (z4 : Pic) (z5 : Pic) (z6 : Pic) (z7 : Pic) (z8 : Pic), va_D A (wPU tc a0 z0 q0_0 (a2 0) q0_2 q0_3 q0_4 (a4 0) (a5 0) q0_7 q0_8 q0_9 am q0_13 ++ (wMm tc am (va_up mr (fRemS (fRem1 g0)).toNatClampNeg (some (u1 0))) ++ (wSt tc a2 z2 (some (a7 0)) (a3 0) ++ (wLg tc a3 z3 ++ (wHd tc a4 z4 ++ (wCk tc a5 z5 (a4 0) (a6 0) ++ (wFa tc a6 z6 ++ (wLw tc a7 z7 ln7 ++ ((wSt tc u1 G4 (some (a7 0)) (u2 0) ++ wLg tc u2 G5)))))))))) := fun z0 z1 z2 z3 z4 z5 z6 z7 z8 => D_fst (ws := (wPU tc a0 (fRem2 (fRem1 g0)) q0_0 (a2 0) q0_2 q0_3 q0_4 (a4 0) (a5 0) q0_7 q0_8 q0_9 am q0_13 ++ (wMm tc am (va_up mr (fRemS (fRem1 g0)).toNatClampNeg (some (u1 0))) ++ (wSt tc a2 g2 (some (a7 0)) (a3 0) ++ (wLg tc a3 g3 ++ (wHd tc a4 g4 ++ (wCk tc a5 g5 (a4 0) (a6 0) ++ (wFa tc a6 g6 ++ (wLw tc a7 g7 ln7 ++ ((wSt tc u1 G4 (some (a7 0)) (u2 0) ++ wLg tc u2 G5))))))))))) rfl hD9
  refine W.eq (g2 := F0 m 12 ls []) rfl ?_
  refine lv_aload_n X.1 X.2.1 dX11_minutes_12 rfl (lv_at hl 0 rfl) ?_
  refine r_get (C := RX11) (T := TX11) (N := 15) (ci := 11) (v := .ref (a5 0)) X iw11 hP 0 rfl rfl 6 rfl mw_2_149 rfl dX11_minutes_13 ?_
  refine lv_aload_n X.1 X.2.1 dX11_minutes_16 rfl (lv_at hl 0 rfl) ?_
  refine r_get (C := RX11) (T := TX11) (N := 15) (ci := 11) (v := .ref (a2 0)) X iw11 hP 0 rfl rfl 1 rfl mw_2_144 rfl dX11_minutes_17 ?_
  refine lv_iload_n X.1 X.2.1 dX11_minutes_20 rfl (lv_at hl 1 rfl) ?_
  refine lv_iconst (v := 1) X.1 X.2.1 dX11_minutes_21 (by decide) ?_
  obtain ⟨r_3, g7_3, g6_3, g4_3, g2_3, g3_3, hc_3, h⟩ := bd6_el h
  refine callZ (ws := (wPU tc a0 (fRem2 (fRem1 g0)) q0_0 (a2 0) q0_2 q0_3 q0_4 (a4 0) (a5 0) q0_7 q0_8 q0_9 am q0_13 ++ (wMm tc am (va_up mr (fRemS (fRem1 g0)).toNatClampNeg (some (u1 0))) ++ (wSt tc a2 g2 (some (a7 0)) (a3 0) ++ (wLg tc a3 g3 ++ (wHd tc a4 g4 ++ (wCk tc a5 g5 (a4 0) (a6 0) ++ (wFa tc a6 g6 ++ (wLw tc a7 g7 ln7 ++ ((wSt tc u1 G4 (some (a7 0)) (u2 0) ++ wLg tc u2 G5))))))))))) (As := [.ref (a2 0), .int x1, .int 1]) (rest := []) X.y ((CT.z (c_X0_pass_l l dC dI sk sv tc ln7 a5 a7 a6 a4 a2 a3 g5 g7 g6 g4 g2 g3 x1 1 hc_3) rfl).fr (w := (wPU tc a0 (fRem2 (fRem1 g0)) q0_0 (a2 0) q0_2 q0_3 q0_4 (a4 0) (a5 0) q0_7 q0_8 q0_9 am q0_13 ++ (wMm tc am (va_up mr (fRemS (fRem1 g0)).toNatClampNeg (some (u1 0))) ++ (wSt tc a2 g2 (some (a7 0)) (a3 0) ++ (wLg tc a3 g3 ++ (wHd tc a4 g4 ++ (wCk tc a5 g5 (a4 0) (a6 0) ++ (wFa tc a6 g6 ++ (wLw tc a7 g7 ln7 ++ ((wSt tc u1 G4 (some (a7 0)) (u2 0) ++ wLg tc u2 G5))))))))))) (PN' := fun v w' => v = some (.int r_3) ∧ w' = (wPU tc a0 (fRem2 (fRem1 g0)) q0_0 (a2 0) q0_2 q0_3 q0_4 (a4 0) (a5 0) q0_7 q0_8 q0_9 am q0_13 ++ (wMm tc am (va_up mr (fRemS (fRem1 g0)).toNatClampNeg (some (u1 0))) ++ (wSt tc a2 g2_3 (some (a7 0)) (a3 0) ++ (wLg tc a3 g3_3 ++ (wHd tc a4 g4_3 ++ (wCk tc a5 g5 (a4 0) (a6 0) ++ (wFa tc a6 g6_3 ++ (wLw tc a7 g7_3 ln7 ++ ((wSt tc u1 G4 (some (a7 0)) (u2 0) ++ wLg tc u2 G5))))))))))) (PX' := fun _ _ => False) (pB [wPU tc a0 (fRem2 (fRem1 g0)) q0_0 (a2 0) q0_2 q0_3 q0_4 (a4 0) (a5 0) q0_7 q0_8 q0_9 am q0_13, wMm tc am (va_up mr (fRemS (fRem1 g0)).toNatClampNeg (some (u1 0))), wSt tc a2 g2 (some (a7 0)) (a3 0), wLg tc a3 g3, wHd tc a4 g4, wCk tc a5 g5 (a4 0) (a6 0), wFa tc a6 g6, wLw tc a7 g7 ln7, (wSt tc u1 G4 (some (a7 0)) (u2 0) ++ wLg tc u2 G5)] [0, 1, 2, 3, 4, 5, 6, 7, 8] [5, 7, 6, 4, 2, 3] [0, 1, 8] (by decide)) (fun v w' h => by obtain ⟨z2, z3⟩ := h; subst z3; exact ⟨_, (pB [wPU tc a0 (fRem2 (fRem1 g0)) q0_0 (a2 0) q0_2 q0_3 q0_4 (a4 0) (a5 0) q0_7 q0_8 q0_9 am q0_13, wMm tc am (va_up mr (fRemS (fRem1 g0)).toNatClampNeg (some (u1 0))), wSt tc a2 g2_3 (some (a7 0)) (a3 0), wLg tc a3 g3_3, wHd tc a4 g4_3, wCk tc a5 g5 (a4 0) (a6 0), wFa tc a6 g6_3, wLw tc a7 g7_3 ln7, (wSt tc u1 G4 (some (a7 0)) (u2 0) ++ wLg tc u2 G5)] [0, 1, 2, 3, 4, 5, 6, 7, 8] [5, 7, 6, 4, 2, 3] [0, 1, 8] (by decide)).symm, z2, rfl⟩) (fun _ _ h => h.elim)) mw_5_208 mw_5_209 mw_5_210 mw_1_8 mw_5_211 dc_X0_pass ⟨Nat.le_of_ble_eq_true rfl, Nat.le_of_ble_eq_true rfl⟩ rfl rfl ⟨Nat.le_of_ble_eq_true rfl, Nat.le_of_ble_eq_true rfl⟩ hP (hD _ gz _ _ _ gz _ _ gz) hS (List.mem_of_getElem? (i := 19) rfl) rfl rfl hl.1 (Nat.le_of_ble_eq_true rfl) dX11_minutes_22 (fun v w' H locs hn hP hD9 hS => ?_) (fun _ _ _ _ _ _ h => h.elim)
  obtain ⟨rfl, rfl⟩ := hn
  refine W.eq (g2 := F0 m 25 ls [.int r_3]) rfl ?_
  exact retZ_i X.1 X.2.1 X.2.2.1 X.2.2.2.2.2.2.1 hQ ⟨_, ((fRem2 (fRem1 g0)), g2_3, g3_3, g4_3, g6_3, g7_3), u1, u2, (Option.some.inj h).symm, rfl, rfl⟩ hP (hD _ gz _ _ _ gz _ _ gz) hS (Nat.le_of_ble_eq_true rfl) (Nat.le_of_ble_eq_true rfl) dX11_minutes_25
