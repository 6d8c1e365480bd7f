abbrev rm_X11_law : Room := { frames := 46, cells := 7, slots := 481, locals := 2800 }
set_option maxHeartbeats 4000000 in
set_option maxRecDepth 100000 in
theorem c_X11_law (l : Launch) (hst : l.stackTraces = false) (dC : Nat → ClassId) (dI : Nat → Nat → Nat) (sk sv : Nat → Nat) (tc : Nat → ClassId) (a0 a1 a2 a7 : Nat → Nat) (r2 r3 r5 r6 r7 r8 r9 am r19 : Nat) (r13 q2 : Option Nat) (g0 g1 g2 g7 : Pic) {r : Int32} {G7 G1 : Pic} (h : f_X5_readsText g7 g1 = some (r, G7, G1)) (hb : ¬ r = 0 → (¬ (G7 5 0) < 0 ∧ (G7 5 0).toNatClampNeg ≤ 12) ∧ (¬ (G7 5 0) + 1 < 0 ∧ ((G7 5 0) + 1).toNatClampNeg ≤ 13) ∧ (¬ G7 3 (G7 5 0).toNatClampNeg < 0 ∧ (G7 3 (G7 5 0).toNatClampNeg).toNatClampNeg ≤ 400)) : CZ l (dC, dI) sk sv (TY tc) yX11_law (.code yX11_law cX11_law 3 (some .int)) rm_X11_law 7 481 [.ref (a0 0)] (wPU tc a0 g0 (a1 0) (a2 0) r2 r3 (a7 0) r5 r6 r7 r8 r9 am r13 ++ (wTp tc a1 g1 ++ (wSt tc a2 g2 q2 r19 ++ wLR tc a7 g7 (a1 0)))) (fun v w' => ¬ r = 0 ∧ ∃ u : Nat → Nat, v = some (.int (G7 5 0)) ∧ w' = (wPU tc a0 (pu (pu g0 14 0 (G1 7 0)) 12 0 0) (a1 0) (a2 0) r2 r3 (a7 0) r5 r6 r7 r8 r9 am r13 ++ (wTp tc a1 G1 ++ (wSt tc a2 g2 (some (u 0)) r19 ++ (wLR tc a7 G7 (a1 0) ++ wLw tc u (gLaw (G7 5 0) (G7 1) (G7 2) (G7 3) (G7 4)) (lnLaw (G7 5 0) (G7 3))))))) (fun E w' => r = 0 ∧ E = exn 1 ∧ w' = (wPU tc a0 (pu g0 14 0 (G1 7 0)) (a1 0) (a2 0) r2 r3 (a7 0) r5 r6 r7 r8 r9 am r13 ++ (wTp tc a1 G1 ++ (wSt tc a2 g2 q2 r19 ++ wLR tc a7 G7 (a1 0))))) := by
  refine ofCZ (by decide) (Nat.le_of_ble_eq_true rfl) ?_
  intro pr e s m args below meth c A Q ls H locs X hT hQ hD0 hP hS hl
  have hD : ∀ z0 z1 z7, va_D A (wPU tc a0 z0 (a1 0) (a2 0) r2 r3 (a7 0) r5 r6 r7 r8 r9 am r13 ++ (wTp tc a1 z1 ++ (wSt tc a2 g2 q2 r19 ++ wLR tc a7 z7 (a1 0)))) := fun z0 z1 z7 => D_fst (ws := (wPU tc a0 g0 (a1 0) (a2 0) r2 r3 (a7 0) r5 r6 r7 r8 r9 am r13 ++ (wTp tc a1 g1 ++ (wSt tc a2 g2 q2 r19 ++ wLR tc a7 g7 (a1 0))))) rfl hD0
  have hl : lv_has ls 3 [(0, .ref (a0 0))] := hl
  refine lv_aload_n X.1 X.2.1 dX11_law_0 rfl (lv_at hl 0 rfl) ?_
  refine r_get (C := RX11) (T := TX11) (N := 15) (ci := 11) (v := .ref (a7 0)) X iw11 hP 0 rfl rfl 4 rfl mw_2_147 rfl dX11_law_1 ?_
  refine callZ (ws := (wPU tc a0 g0 (a1 0) (a2 0) r2 r3 (a7 0) r5 r6 r7 r8 r9 am r13 ++ (wTp tc a1 g1 ++ (wSt tc a2 g2 q2 r19 ++ wLR tc a7 g7 (a1 0))))) (As := []) (rest := []) X.y (CZ.fr (CT.z (c_X5_readsText l dC dI sk sv tc a7 a1 g7 g1 h) rfl) (w := (wPU tc a0 g0 (a1 0) (a2 0) r2 r3 (a7 0) r5 r6 r7 r8 r9 am r13 ++ (wTp tc a1 g1 ++ (wSt tc a2 g2 q2 r19 ++ wLR tc a7 g7 (a1 0))))) (PN' := fun v w' => v = some (.int r) ∧ w' = (wPU tc a0 g0 (a1 0) (a2 0) r2 r3 (a7 0) r5 r6 r7 r8 r9 am r13 ++ (wTp tc a1 G1 ++ (wSt tc a2 g2 q2 r19 ++ wLR tc a7 G7 (a1 0))))) (PX' := fun _ _ => False) (pB [wPU tc a0 g0 (a1 0) (a2 0) r2 r3 (a7 0) r5 r6 r7 r8 r9 am r13, wTp tc a1 g1, wSt tc a2 g2 q2 r19, wLR tc a7 g7 (a1 0)] [0, 1, 2, 3] [3, 1] [0, 2] (by decide)) (fun v w' h => by obtain ⟨z2, z3⟩ := h; subst z3; exact ⟨_, (pB [wPU tc a0 g0 (a1 0) (a2 0) r2 r3 (a7 0) r5 r6 r7 r8 r9 am r13, wTp tc a1 G1, wSt tc a2 g2 q2 r19, wLR tc a7 G7 (a1 0)] [0, 1, 2, 3] [3, 1] [0, 2] (by decide)).symm, z2, rfl⟩) (fun _ _ h => h.elim)) mw_4_99 mw_4_100 mw_4_101 mw_1_6 mw_4_102 dc_X5_readsText ⟨(Nat.le_of_ble_eq_true rfl), (Nat.le_of_ble_eq_true rfl)⟩ rfl rfl ⟨(Nat.le_of_ble_eq_true rfl), (Nat.le_of_ble_eq_true rfl)⟩ hP (hD _ _ _) hS (List.mem_of_getElem? (i := 13) rfl) rfl rfl hl.1 (Nat.le_of_ble_eq_true rfl) dX11_law_4 (fun v w' H locs hn hP hD9 hS => ?_) (fun _ _ _ _ _ _ h => h.elim)
  obtain ⟨rfl, rfl⟩ := hn
  refine W.eq (g2 := F0 m 7 ls [.int r]) rfl ?_
  refine lv_istore_n (lv' := [(1, .int r), (0, .ref (a0 0))]) X.1 X.2.1 dX11_law_7 rfl hl (by decide) rfl (fun ls hl => ?_)
  refine lv_aload_n X.1 X.2.1 dX11_law_8 rfl (lv_at hl 1 rfl) ?_
  refine lv_aload_n X.1 X.2.1 dX11_law_9 rfl (lv_at hl 1 rfl) ?_
  refine r_get (C := RX11) (T := TX11) (N := 15) (ci := 11) (v := .ref (a1 0)) X iw11 hP 0 rfl rfl 0 rfl mw_2_143 rfl dX11_law_10 ?_
  refine r_get (C := RX10) (T := TX10) (N := 8) (ci := 10) (v := .int (G1 7 0)) X iw10 hP 1 rfl rfl 7 rfl mw_1_60 rfl dX11_law_13 ?_
  refine r_put (C := RX11) (T := TX11) (N := 15) (ci := 11) tyX11 tyX11_ok nmX11 X iw11 hP (hD _ _ _) hS 0 rfl rfl 14 rfl mw_2_157 rfl rfl rfl rfl dX11_law_16 ((wPU tc a0 (pu g0 14 0 (G1 7 0)) (a1 0) (a2 0) r2 r3 (a7 0) r5 r6 r7 r8 r9 am r13 ++ (wTp tc a1 G1 ++ (wSt tc a2 g2 q2 r19 ++ wLR tc a7 G7 (a1 0))))) (rfl) (fun H locs hP hS => ?_)
  refine lv_iload_n X.1 X.2.1 dX11_law_19 rfl (lv_at hl 0 rfl) ?_
  refine lv_if_ne (tgt := 33) X.1 X.2.1 dX11_law_20 (by decide) (fun hc => ?_) (fun hc => ?_)
  rotate_left
  · exact thrZ_S (ws := (wPU tc a0 (pu g0 14 0 (G1 7 0)) (a1 0) (a2 0) r2 r3 (a7 0) r5 r6 r7 r8 r9 am r13 ++ (wTp tc a1 G1 ++ (wSt tc a2 g2 q2 r19 ++ wLR tc a7 G7 (a1 0))))) (k := 1) (text := "the text is wrong") (ti := 11) ⟨hc, rfl, rfl⟩ X hT hst at_114 mw_4_6 mw_1_21 (List.mem_of_getElem? (i := 11) rfl) hQ hP (hD _ _ _) hS hl.1 dX11_law_23 dX11_law_26 dX11_law_27 dX11_law_29 dX11_law_32 (Nat.le_of_ble_eq_true rfl) (Nat.le_of_ble_eq_true rfl) (Nat.le_of_ble_eq_true rfl) (Nat.le_of_ble_eq_true rfl) (Nat.le_of_ble_eq_true rfl) (Nat.le_of_ble_eq_true rfl)
  obtain ⟨hx, hy, hz⟩ := hb hc
  refine lv_aload_n X.1 X.2.1 dX11_law_33 rfl (lv_at hl 1 rfl) ?_
  refine r_get (C := RX11) (T := TX11) (N := 15) (ci := 11) (v := .ref (a7 0)) X iw11 hP 0 rfl rfl 4 rfl mw_2_147 rfl dX11_law_34 ?_
  refine callZ (ws := (wPU tc a0 (pu g0 14 0 (G1 7 0)) (a1 0) (a2 0) r2 r3 (a7 0) r5 r6 r7 r8 r9 am r13 ++ (wTp tc a1 G1 ++ (wSt tc a2 g2 q2 r19 ++ wLR tc a7 G7 (a1 0))))) (As := []) (rest := []) X.y (CZ.fr (CR.z (n_X5_newLaw l dC dI sk sv tc a7 G7 (a1 0) hx hy hz)) (w := (wPU tc a0 (pu g0 14 0 (G1 7 0)) (a1 0) (a2 0) r2 r3 (a7 0) r5 r6 r7 r8 r9 am r13 ++ (wTp tc a1 G1 ++ (wSt tc a2 g2 q2 r19 ++ wLR tc a7 G7 (a1 0))))) (PN' := fun v w' => ∃ u : Nat → Nat, v = some (.ref (u 0)) ∧ w' = (wPU tc a0 (pu g0 14 0 (G1 7 0)) (a1 0) (a2 0) r2 r3 (a7 0) r5 r6 r7 r8 r9 am r13 ++ (wTp tc a1 G1 ++ (wSt tc a2 g2 q2 r19 ++ (wLR tc a7 G7 (a1 0) ++ wLw tc u (gLaw (G7 5 0) (G7 1) (G7 2) (G7 3) (G7 4)) (lnLaw (G7 5 0) (G7 3))))))) (PX' := fun _ _ => False) (pB [wPU tc a0 (pu g0 14 0 (G1 7 0)) (a1 0) (a2 0) r2 r3 (a7 0) r5 r6 r7 r8 r9 am r13, wTp tc a1 G1, wSt tc a2 g2 q2 r19, wLR tc a7 G7 (a1 0)] [0, 1, 2, 3] [3] [0, 1, 2] (by decide)) (fun v w' h => by obtain ⟨u, z2, z3⟩ := h; subst z3; exact ⟨_, (pB [wPU tc a0 (pu g0 14 0 (G1 7 0)) (a1 0) (a2 0) r2 r3 (a7 0) r5 r6 r7 r8 r9 am r13, wTp tc a1 G1, wSt tc a2 g2 q2 r19, wLR tc a7 G7 (a1 0), wLw tc u (gLaw (G7 5 0) (G7 1) (G7 2) (G7 3) (G7 4)) (lnLaw (G7 5 0) (G7 3))] [0, 1, 2, 3, 4] [3, 4] [0, 1, 2] (by decide)).symm, u, z2, rfl⟩) (fun _ _ h => h.elim)) mw_4_159 mw_4_160 mw_4_161 mw_1_6 mw_4_162 dc_X5_newLaw ⟨(Nat.le_of_ble_eq_true rfl), (Nat.le_of_ble_eq_true rfl)⟩ rfl rfl ⟨(Nat.le_of_ble_eq_true rfl), (Nat.le_of_ble_eq_true rfl)⟩ hP (hD _ _ _) hS (List.mem_of_getElem? (i := 13) rfl) rfl rfl hl.1 (Nat.le_of_ble_eq_true rfl) dX11_law_37 (fun v w' H locs hn hP hD9 hS => ?_) (fun _ _ _ _ _ _ h => h.elim)
  obtain ⟨u, rfl, rfl⟩ := hn
  refine W.eq (g2 := F0 m 40 ls [.ref (u 0)]) rfl ?_
  have hD : ∀ z0 z1 zq z7, va_D A (wPU tc a0 z0 (a1 0) (a2 0) r2 r3 (a7 0) r5 r6 r7 r8 r9 am r13 ++ (wTp tc a1 z1 ++ (wSt tc a2 g2 zq r19 ++ (wLR tc a7 z7 (a1 0) ++ wLw tc u (gLaw (G7 5 0) (G7 1) (G7 2) (G7 3) (G7 4)) (lnLaw (G7 5 0) (G7 3)))))) := fun z0 z1 zq z7 => D_fst (ws := (wPU tc a0 (pu g0 14 0 (G1 7 0)) (a1 0) (a2 0) r2 r3 (a7 0) r5 r6 r7 r8 r9 am r13 ++ (wTp tc a1 G1 ++ (wSt tc a2 g2 q2 r19 ++ (wLR tc a7 G7 (a1 0) ++ wLw tc u (gLaw (G7 5 0) (G7 1) (G7 2) (G7 3) (G7 4)) (lnLaw (G7 5 0) (G7 3))))))) rfl hD9
  refine lv_astore_n (lv' := [(2, .ref (u 0)), (1, .int r), (0, .ref (a0 0))]) X.1 X.2.1 dX11_law_40 rfl hl (by decide) rfl (fun ls hl => ?_)
  refine lv_aload_n X.1 X.2.1 dX11_law_41 rfl (lv_at hl 2 rfl) ?_
  refine r_get (C := RX11) (T := TX11) (N := 15) (ci := 11) (v := .ref (a2 0)) X iw11 hP 0 rfl rfl 1 rfl mw_2_144 rfl dX11_law_42 ?_
  refine lv_aload_n X.1 X.2.1 dX11_law_45 rfl (lv_at hl 0 rfl) ?_
  refine r_put (C := RX9) (T := TX9) (N := 20) (ci := 9) tyX9 tyX9_ok nmX9 X iw9 hP (hD _ _ _ _) hS 3 rfl rfl 18 rfl mw_1_189 rfl rfl rfl rfl dX11_law_46 ((wPU tc a0 (pu g0 14 0 (G1 7 0)) (a1 0) (a2 0) r2 r3 (a7 0) r5 r6 r7 r8 r9 am r13 ++ (wTp tc a1 G1 ++ (wSt tc a2 g2 (some (u 0)) r19 ++ (wLR tc a7 G7 (a1 0) ++ wLw tc u (gLaw (G7 5 0) (G7 1) (G7 2) (G7 3) (G7 4)) (lnLaw (G7 5 0) (G7 3))))))) (rfl) (fun H locs hP hS => ?_)
  refine lv_aload_n X.1 X.2.1 dX11_law_49 rfl (lv_at hl 2 rfl) ?_
  refine callZ (ws := (wPU tc a0 (pu g0 14 0 (G1 7 0)) (a1 0) (a2 0) r2 r3 (a7 0) r5 r6 r7 r8 r9 am r13 ++ (wTp tc a1 G1 ++ (wSt tc a2 g2 (some (u 0)) r19 ++ (wLR tc a7 G7 (a1 0) ++ wLw tc u (gLaw (G7 5 0) (G7 1) (G7 2) (G7 3) (G7 4)) (lnLaw (G7 5 0) (G7 3))))))) (As := []) (rest := []) X.y (CZ.fr (CT.z (c_X11_forgetActs l dC dI sk sv tc a0 (a1 0) (a2 0) r2 r3 (a7 0) r5 r6 r7 r8 r9 am r13 (pu g0 14 0 (G1 7 0)) (show f_X11_forgetActs (pu g0 14 0 (G1 7 0)) = some (pu (pu g0 14 0 (G1 7 0)) 12 0 0) from rfl)) rfl) (w := (wPU tc a0 (pu g0 14 0 (G1 7 0)) (a1 0) (a2 0) r2 r3 (a7 0) r5 r6 r7 r8 r9 am r13 ++ (wTp tc a1 G1 ++ (wSt tc a2 g2 (some (u 0)) r19 ++ (wLR tc a7 G7 (a1 0) ++ wLw tc u (gLaw (G7 5 0) (G7 1) (G7 2) (G7 3) (G7 4)) (lnLaw (G7 5 0) (G7 3))))))) (PN' := fun v w' => v = none ∧ w' = (wPU tc a0 (pu (pu g0 14 0 (G1 7 0)) 12 0 0) (a1 0) (a2 0) r2 r3 (a7 0) r5 r6 r7 r8 r9 am r13 ++ (wTp tc a1 G1 ++ (wSt tc a2 g2 (some (u 0)) r19 ++ (wLR tc a7 G7 (a1 0) ++ wLw tc u (gLaw (G7 5 0) (G7 1) (G7 2) (G7 3) (G7 4)) (lnLaw (G7 5 0) (G7 3))))))) (PX' := fun _ _ => False) (pB [wPU tc a0 (pu g0 14 0 (G1 7 0)) (a1 0) (a2 0) r2 r3 (a7 0) r5 r6 r7 r8 r9 am r13, wTp tc a1 G1, wSt tc a2 g2 (some (u 0)) r19, wLR tc a7 G7 (a1 0), wLw tc u (gLaw (G7 5 0) (G7 1) (G7 2) (G7 3) (G7 4)) (lnLaw (G7 5 0) (G7 3))] [0, 1, 2, 3, 4] [0] [1, 2, 3, 4] (by decide)) (fun v w' h => by obtain ⟨z2, z3⟩ := h; subst z3; exact ⟨_, (pB [wPU tc a0 (pu (pu g0 14 0 (G1 7 0)) 12 0 0) (a1 0) (a2 0) r2 r3 (a7 0) r5 r6 r7 r8 r9 am r13, wTp tc a1 G1, wSt tc a2 g2 (some (u 0)) r19, wLR tc a7 G7 (a1 0), wLw tc u (gLaw (G7 5 0) (G7 1) (G7 2) (G7 3) (G7 4)) (lnLaw (G7 5 0) (G7 3))] [0, 1, 2, 3, 4] [0] [1, 2, 3, 4] (by decide)).symm, z2, rfl⟩) (fun _ _ h => h.elim)) mw_3_99 mw_3_101 mp_1_1 mw_1_1 mw_3_102 dc_X11_forgetActs ⟨(Nat.le_of_ble_eq_true rfl), (Nat.le_of_ble_eq_true rfl)⟩ rfl rfl ⟨(Nat.le_of_ble_eq_true rfl), (Nat.le_of_ble_eq_true rfl)⟩ hP (hD _ _ _ _) hS (List.mem_of_getElem? (i := 0) rfl) rfl rfl hl.1 (Nat.le_of_ble_eq_true rfl) dX11_law_50 (fun v w' H locs hn hP hD9 hS => ?_) (fun _ _ _ _ _ _ h => h.elim)
  obtain ⟨rfl, rfl⟩ := hn
  refine W.eq (g2 := F0 m 53 ls []) rfl ?_
  refine lv_aload_n X.1 X.2.1 dX11_law_53 rfl (lv_at hl 0 rfl) ?_
  refine r_get (C := RX4) (T := TX4) (N := 6) (ci := 4) (v := .int (G7 5 0)) X iw4 hP 18 rfl rfl 0 rfl mw_4_182 rfl dX11_law_54 ?_
  exact retZ_i X.1 X.2.1 X.2.2.1 X.2.2.2.2.2.2.1 hQ ⟨hc, u, rfl, rfl⟩ hP (hD _ _ _ _) hS (Nat.le_of_ble_eq_true rfl) (Nat.le_of_ble_eq_true rfl) dX11_law_57
abbrev rm_X11_undo : Room := { frames := 4, cells := 0, slots := 0, locals := 200 }
def fUndS (g : Pic) : Int32 := (g 11 0 + g 12 0 - 1) - (g 11 0 + g 12 0 - 1) / 12 * 12
set_option maxHeartbeats 4000000 in
set_option maxRecDepth 100000 in
theorem c_X11_undo0 (l : Launch) (dC : Nat → ClassId) (dI : Nat → Nat → Nat) (sk sv : Nat → Nat) (tc : Nat → ClassId) (a0 : Nat → Nat) (r0 r2 r3 r4 r5 r6 r7 r8 r9 am : Nat) (r13 : Option Nat) (mr : Nat → Option Nat) (a2 : Nat → Nat) (q2 : Option Nat) (a3 : Nat → Nat) (g0 g2 g3 : Pic) (z : va_W) (h0 : ¬ 0 < g0 12 0) : CZ l (dC, dI) sk sv (TY tc) yX11_undo (.code yX11_undo cX11_undo 2 (some .boolean)) rm_X11_undo 0 0 [.ref (a0 0)] (wPU tc a0 g0 r0 (a2 0) r2 r3 r4 r5 r6 r7 r8 r9 am r13 ++ (wMm tc am mr ++ (wSt tc a2 g2 q2 (a3 0) ++ (wLg tc a3 g3 ++ z)))) (fun v w' => v = some (.int 0) ∧ w' = (wPU tc a0 g0 r0 (a2 0) r2 r3 r4 r5 r6 r7 r8 r9 am r13 ++ (wMm tc am mr ++ (wSt tc a2 g2 q2 (a3 0) ++ (wLg tc a3 g3 ++ z))))) (fun _ _ => False) := by
  refine ofCZ (by decide) (Nat.le_of_ble_eq_true rfl) ?_
  intro pr e s m args below meth c A Q ls H locs X hT hQ hD hP hS hl
  have hl : lv_has ls 2 [(0, .ref (a0 0))] := hl
  refine lv_aload_n X.1 X.2.1 dX11_undo_0 rfl (lv_at hl 0 rfl) ?_
  refine r_get (C := RX11) (T := TX11) (N := 15) (ci := 11) (v := .int (g0 12 0)) X iw11 hP 0 rfl rfl 12 rfl mw_2_155 rfl dX11_undo_1 ?_
  refine lv_if_gt (tgt := 9) X.1 X.2.1 dX11_undo_4 (by decide) (fun hc => absurd hc h0) (fun hc => ?_)
  refine lv_iconst (v := 0) X.1 X.2.1 dX11_undo_7 (by decide) ?_
  exact retZ_z (by decide) X.1 X.2.1 X.2.2.1 X.2.2.2.2.2.2.1 hQ ⟨rfl, rfl⟩ hP hD hS (Nat.le_of_ble_eq_true rfl) (Nat.le_of_ble_eq_true rfl) dX11_undo_8
set_option maxHeartbeats 4000000 in
set_option maxRecDepth 100000 in
theorem c_X11_undo1 (l : Launch) (dC : Nat → ClassId) (dI : Nat → Nat → Nat) (sk sv : Nat → Nat) (tc : Nat → ClassId) (a0 : Nat → Nat) (r0 r2 r3 r4 r5 r6 r7 r8 r9 am : Nat) (r13 : Option Nat) (mr : Nat → Option Nat) (a2 : Nat → Nat) (q2 : Option Nat) (a3 : Nat → Nat) (g0 g2 g3 : Pic) (a4 a5 : Nat → Nat) (g4 g5 G2 G3 : Pic) (q4 : Option Nat) (h0 : 0 < g0 12 0) (hin : vp_in (fUndS g0) 12) (hm : mr (fUndS g0).toNatClampNeg = some (a4 0)) (hc : f_X9_copyFrom g2 g4 g3 g5 = some (G2, G3)) : CZ l (dC, dI) sk sv (TY tc) yX11_undo (.code yX11_undo cX11_undo 2 (some .boolean)) rm_X11_undo 0 0 [.ref (a0 0)] (wPU tc a0 g0 r0 (a2 0) r2 r3 r4 r5 r6 r7 r8 r9 am r13 ++ (wMm tc am mr ++ (wSt tc a2 g2 q2 (a3 0) ++ (wLg tc a3 g3 ++ (wSt tc a4 g4 q4 (a5 0) ++ wLg tc a5 g5))))) (fun v w' => v = some (.int 1) ∧ w' = (wPU tc a0 (pu g0 12 0 (g0 12 0 - 1)) r0 (a2 0) r2 r3 r4 r5 r6 r7 r8 r9 am r13 ++ (wMm tc am mr ++ (wSt tc a2 G2 q4 (a3 0) ++ (wLg tc a3 G3 ++ (wSt tc a4 g4 q4 (a5 0) ++ wLg tc a5 g5)))))) (fun _ _ => False) := by
  refine ofCZ (by decide) (Nat.le_of_ble_eq_true rfl) ?_
  intro pr e s m args below meth c A Q ls H locs X hT hQ hD0 hP hS hl
  have hl : lv_has ls 2 [(0, .ref (a0 0))] := hl
  have hD : ∀ z0 z2 zq z3, va_D A (wPU tc a0 z0 r0 (a2 0) r2 r3 r4 r5 r6 r7 r8 r9 am r13 ++ (wMm tc am mr ++ (wSt tc a2 z2 zq (a3 0) ++ (wLg tc a3 z3 ++ (wSt tc a4 g4 q4 (a5 0) ++ wLg tc a5 g5))))) := fun z0 z2 zq z3 => D_fst (ws := (wPU tc a0 g0 r0 (a2 0) r2 r3 r4 r5 r6 r7 r8 r9 am r13 ++ (wMm tc am mr ++ (wSt tc a2 g2 q2 (a3 0) ++ (wLg tc a3 g3 ++ (wSt tc a4 g4 q4 (a5 0) ++ wLg tc a5 g5)))))) rfl hD0
  refine lv_aload_n X.1 X.2.1 dX11_undo_0 rfl (lv_at hl 0 rfl) ?_
  refine r_get (C := RX11) (T := TX11) (N := 15) (ci := 11) (v := .int (g0 12 0)) X iw11 hP 0 rfl rfl 12 rfl mw_2_155 rfl dX11_undo_1 ?_
  refine lv_if_gt (tgt := 9) X.1 X.2.1 dX11_undo_4 (by decide) (fun _ => ?_) (fun hq => absurd h0 hq)
  refine lv_aload_n X.1 X.2.1 dX11_undo_9 rfl (lv_at hl 0 rfl) ?_
  refine r_get (C := RX11) (T := TX11) (N := 15) (ci := 11) (v := .ref am) X iw11 hP 0 rfl rfl 10 rfl mw_2_153 rfl dX11_undo_10 ?_
  refine lv_aload_n X.1 X.2.1 dX11_undo_13 rfl (lv_at hl 0 rfl) ?_
  refine r_get (C := RX11) (T := TX11) (N := 15) (ci := 11) (v := .int (g0 11 0)) X iw11 hP 0 rfl rfl 11 rfl mw_2_154 rfl dX11_undo_14 ?_
  refine lv_aload_n X.1 X.2.1 dX11_undo_17 rfl (lv_at hl 0 rfl) ?_
  refine r_get (C := RX11) (T := TX11) (N := 15) (ci := 11) (v := .int (g0 12 0)) X iw11 hP 0 rfl rfl 12 rfl mw_2_155 rfl dX11_undo_18 ?_
  refine lv_iadd X.1 X.2.1 dX11_undo_21 ?_
  refine lv_iconst (v := 1) X.1 X.2.1 dX11_undo_22 (by decide) ?_
  refine lv_isub X.1 X.2.1 dX11_undo_23 ?_
  refine lv_bipush (v := 12) X.1 X.2.1 dX11_undo_24 (by decide) ?_
  refine lv_irem X.1 X.2.1 dX11_undo_26 (by decide) ?_
  obtain ⟨x1, ex1⟩ : ∃ x, x = fUndS g0 := ⟨_, rfl⟩
  refine tp_i (show x1 = (g0 11 0 + g0 12 0 - 1) - (g0 11 0 + g0 12 0 - 1) / 12 * 12 from ex1) ?_
  rw [← ex1] at hin hm
  refine va_aldq X.1 X.2.1 X.2.2.2.2.2.2.2.2.1 hP 1 3 rfl rfl hin dX11_undo_27 ?_
  rw [hm]
  refine W.eq (g2 := F0 m 28 ls [.ref (a4 0)]) rfl ?_
  refine lv_astore_n (lv' := [(1, .ref (a4 0)), (0, .ref (a0 0))]) X.1 X.2.1 dX11_undo_28 rfl hl (by decide) rfl (fun ls hl => ?_)
  refine lv_aload_n X.1 X.2.1 dX11_undo_29 rfl (lv_at hl 0 rfl) ?_
  refine lv_ifnonnull (tgt := 35) X.1 X.2.1 dX11_undo_30 (by decide) ?_
  refine lv_aload_n X.1 X.2.1 dX11_undo_35 rfl (lv_at hl 1 rfl) ?_
  refine r_get (C := RX11) (T := TX11) (N := 15) (ci := 11) (v := .ref (a2 0)) X iw11 hP 0 rfl rfl 1 rfl mw_2_144 rfl dX11_undo_36 ?_
  refine lv_aload_n X.1 X.2.1 dX11_undo_39 rfl (lv_at hl 0 rfl) ?_
  refine call_Q (ws := (wPU tc a0 g0 r0 (a2 0) r2 r3 r4 r5 r6 r7 r8 r9 am r13 ++ (wMm tc am mr ++ (wSt tc a2 g2 q2 (a3 0) ++ (wLg tc a3 g3 ++ (wSt tc a4 g4 q4 (a5 0) ++ wLg tc a5 g5)))))) (ws' := (wPU tc a0 g0 r0 (a2 0) r2 r3 r4 r5 r6 r7 r8 r9 am r13 ++ (wMm tc am mr ++ (wSt tc a2 G2 q4 (a3 0) ++ (wLg tc a3 G3 ++ (wSt tc a4 g4 q4 (a5 0) ++ wLg tc a5 g5)))))) (wr := (wPU tc a0 g0 r0 (a2 0) r2 r3 r4 r5 r6 r7 r8 r9 am r13 ++ wMm tc am mr)) [2, 3, 4, 5, 6, 7, 8, 9, 10, 11, 14, 15, 16, 17, 18, 19, 20, 21, 22, 23, 12, 13, 24, 25] [0, 1] [0, 1, 2, 3, 4, 5, 6, 7, 8, 9, 10, 11, 22, 23, 12, 13, 14, 15, 16, 17, 18, 19, 20, 21, 24, 25] (As := [.ref (a4 0)]) (rest := []) X (c_X9_copyFrom l dC dI sk sv tc a2 q2 a4 q4 a3 a5 g2 g4 g3 g5 hc) mw_3_79 mw_3_80 mw_3_81 mw_1_3 mw_3_82 dc_X9_copyFrom ⟨(Nat.le_of_ble_eq_true rfl), (Nat.le_of_ble_eq_true rfl)⟩ rfl rfl ⟨(Nat.le_of_ble_eq_true rfl), (Nat.le_of_ble_eq_true rfl)⟩ ⟨rfl, rfl, rfl, rfl, by decide, rfl, rfl⟩ hP (hD _ _ _ _) hS 0 rfl rfl rfl hl.1 (Nat.le_of_ble_eq_true rfl) dX11_undo_40 (fun H locs hP hS => ?_)
  refine W.eq (g2 := F0 m 43 ls []) rfl ?_
  refine lv_aload_n X.1 X.2.1 dX11_undo_43 rfl (lv_at hl 1 rfl) ?_
  refine lv_dup X.1 X.2.1 dX11_undo_44 rfl ?_
  refine r_get (C := RX11) (T := TX11) (N := 15) (ci := 11) (v := .int (g0 12 0)) X iw11 hP 0 rfl rfl 12 rfl mw_2_155 rfl dX11_undo_45 ?_
  refine lv_iconst (v := 1) X.1 X.2.1 dX11_undo_48 (by decide) ?_
  refine lv_isub X.1 X.2.1 dX11_undo_49 ?_
  refine r_put (C := RX11) (T := TX11) (N := 15) (ci := 11) tyX11 tyX11_ok nmX11 X iw11 hP (hD _ _ _ _) hS 0 rfl rfl 12 rfl mw_2_155 rfl rfl rfl rfl dX11_undo_50 ((wPU tc a0 (pu g0 12 0 (g0 12 0 - 1)) r0 (a2 0) r2 r3 r4 r5 r6 r7 r8 r9 am r13 ++ (wMm tc am mr ++ (wSt tc a2 G2 q4 (a3 0) ++ (wLg tc a3 G3 ++ (wSt tc a4 g4 q4 (a5 0) ++ wLg tc a5 g5)))))) (rfl) (fun H locs hP hS => ?_)
  refine lv_iconst (v := 1) X.1 X.2.1 dX11_undo_53 (by decide) ?_
  exact retZ_z (by decide) X.1 X.2.1 X.2.2.1 X.2.2.2.2.2.2.1 hQ ⟨rfl, rfl⟩ hP (hD _ _ _ _) hS (Nat.le_of_ble_eq_true rfl) (Nat.le_of_ble_eq_true rfl) dX11_undo_54
abbrev rm_X11_image : Room := { frames := 4, cells := 12, slots := 469, locals := 200 }
abbrev rm_X11_back : Room := { frames := 4, cells := 0, slots := 0, locals := 200 }
set_option maxHeartbeats 4000000 in
set_option maxRecDepth 100000 in
theorem ima_18 {pr : Program} {l : Launch} {e : Env} {dC : Nat → ClassId} {dI : Nat → Nat → Nat} {sk sv : Nat → Nat} {tc : Nat → ClassId} {s : State} {m : MethodId} {args : Array Value} {below : List Frame} {meth : Method} {c : Code} {A : Nat → Prop} {H : Heap} {locs : List Loc} {cells slots : Nat} {Q : State → Prop} {ls : Array Slot} (a0 : Nat → Nat) (r0 r2 r3 r4 r5 r6 r7 r8 r9 am : Nat) (a2 : Nat → Nat) (q2 : Option Nat) (a3 : Nat → Nat) (g0 g2 g3 : Pic) (a4 a5 : Nat → Nat) (g4 g5 G4 G5 : Pic) (q4 : Option Nat) (X : CX pr (dC, dI) sk sv (TY tc) yX11_image cX11_image 1 none s m args meth c A) {PX : String → va_W → Prop} (hc : f_X9_copyFrom g4 g2 g5 g3 = some (G4, G5)) (hQ : vx_MQ below (QcZ (dC, dI) A (fun v w' => v = none ∧ ∃ u1 u2 : Nat → Nat, w' = (wPU tc a0 g0 r0 (a2 0) r2 r3 r4 r5 r6 r7 r8 r9 am (some (u1 0)) ++ (wSt tc a2 g2 q2 (a3 0) ++ (wLg tc a3 g3 ++ (wSt tc u1 G4 q2 (u2 0) ++ wLg tc u2 G5)))))) (XcZ (dC, dI) A PX) args s 12 469 A = Q) (hcr : cells ≤ 12 ∧ slots ≤ 469) (hD0 : va_D A (wPU tc a0 g0 r0 (a2 0) r2 r3 r4 r5 r6 r7 r8 r9 am (some (a4 0)) ++ (wSt tc a2 g2 q2 (a3 0) ++ (wLg tc a3 g3 ++ (wSt tc a4 g4 q4 (a5 0) ++ wLg tc a5 g5))))) (hP : va_P (dC, dI) vwCl (wPU tc a0 g0 r0 (a2 0) r2 r3 r4 r5 r6 r7 r8 r9 am (some (a4 0)) ++ (wSt tc a2 g2 q2 (a3 0) ++ (wLg tc a3 g3 ++ (wSt tc a4 g4 q4 (a5 0) ++ wLg tc a5 g5)))) H) (hS : va_S A s.heap H locs) (hl : lv_has ls 1 [(0, .ref (a0 0))]) : W pr l e rm_X11_image s m args below meth c H locs cells slots Q (F0 m 18 ls []) := by
  have hD : ∀ z4 z5 zq, va_D A (wPU tc a0 g0 r0 (a2 0) r2 r3 r4 r5 r6 r7 r8 r9 am (some (a4 0)) ++ (wSt tc a2 g2 q2 (a3 0) ++ (wLg tc a3 g3 ++ (wSt tc a4 z4 zq (a5 0) ++ wLg tc a5 z5)))) := fun z4 z5 zq => D_fst (ws := (wPU tc a0 g0 r0 (a2 0) r2 r3 r4 r5 r6 r7 r8 r9 am (some (a4 0)) ++ (wSt tc a2 g2 q2 (a3 0) ++ (wLg tc a3 g3 ++ (wSt tc a4 g4 q4 (a5 0) ++ wLg tc a5 g5))))) rfl hD0
  refine lv_aload_n X.1 X.2.1 dX11_image_18 rfl (lv_at hl 0 rfl) ?_
  refine r_get (C := RX11) (T := TX11) (N := 15) (ci := 11) (v := .ref (a4 0)) X iw11 hP 0 rfl rfl 13 rfl mw_2_156 rfl dX11_image_19 ?_
  refine lv_aload_n X.1 X.2.1 dX11_image_22 rfl (lv_at hl 0 rfl) ?_
  refine r_get (C := RX11) (T := TX11) (N := 15) (ci := 11) (v := .ref (a2 0)) X iw11 hP 0 rfl rfl 1 rfl mw_2_144 rfl dX11_image_23 ?_
  refine call_Q (ws := (wPU tc a0 g0 r0 (a2 0) r2 r3 r4 r5 r6 r7 r8 r9 am (some (a4 0)) ++ (wSt tc a2 g2 q2 (a3 0) ++ (wLg tc a3 g3 ++ (wSt tc a4 g4 q4 (a5 0) ++ wLg tc a5 g5))))) (ws' := (wPU tc a0 g0 r0 (a2 0) r2 r3 r4 r5 r6 r7 r8 r9 am (some (a4 0)) ++ (wSt tc a2 g2 q2 (a3 0) ++ (wLg tc a3 g3 ++ (wSt tc a4 G4 q2 (a5 0) ++ wLg tc a5 G5))))) (wr := (wPU tc a0 g0 r0 (a2 0) r2 r3 r4 r5 r6 r7 r8 r9 am (some (a4 0)))) [13, 14, 15, 16, 17, 18, 19, 20, 21, 22, 1, 2, 3, 4, 5, 6, 7, 8, 9, 10, 23, 24, 11, 12] [0] [0, 11, 12, 13, 14, 15, 16, 17, 18, 19, 20, 23, 24, 1, 2, 3, 4, 5, 6, 7, 8, 9, 10, 21, 22] (As := [.ref (a2 0)]) (rest := []) X (c_X9_copyFrom l dC dI sk sv tc a4 q4 a2 q2 a5 a3 g4 g2 g5 g3 hc) mw_3_79 mw_3_80 mw_3_81 mw_1_3 mw_3_82 dc_X9_copyFrom ⟨(Nat.le_of_ble_eq_true rfl), (Nat.le_of_ble_eq_true rfl)⟩ rfl rfl hcr ⟨rfl, rfl, rfl, rfl, by decide, rfl, rfl⟩ hP (hD _ _ _) hS 0 rfl rfl rfl hl.1 (Nat.le_of_ble_eq_true rfl) dX11_image_26 (fun H locs hP hS => ?_)
  refine W.eq (g2 := F0 m 29 ls []) rfl ?_
  exact retZ_v X.1 X.2.1 X.2.2.1 X.2.2.2.2.2.2.1 hQ ⟨rfl, a4, a5, rfl⟩ hP (hD _ _ _) hS hcr.1 hcr.2 dX11_image_29
set_option maxHeartbeats 4000000 in
set_option maxRecDepth 100000 in
theorem c_X11_image_o (l : Launch) (dC : Nat → ClassId) (dI : Nat → Nat → Nat) (sk sv : Nat → Nat) (tc : Nat → ClassId) (a0 : Nat → Nat) (r0 r2 r3 r4 r5 r6 r7 r8 r9 am : Nat) (a2 : Nat → Nat) (q2 : Option Nat) (a3 : Nat → Nat) (g0 g2 g3 : Pic) (a4 a5 : Nat → Nat) (g4 g5 : Pic) (q4 : Option Nat) (G4 G5 : Pic) (hc : f_X9_copyFrom g4 g2 g5 g3 = some (G4, G5)) : CZ l (dC, dI) sk sv (TY tc) yX11_image (.code yX11_image cX11_image 1 none) rm_X11_image 12 469 [.ref (a0 0)] (wPU tc a0 g0 r0 (a2 0) r2 r3 r4 r5 r6 r7 r8 r9 am (some (a4 0)) ++ (wSt tc a2 g2 q2 (a3 0) ++ (wLg tc a3 g3 ++ (wSt tc a4 g4 q4 (a5 0) ++ wLg tc a5 g5)))) (fun v w' => v = none ∧ ∃ u1 u2 : Nat → Nat, w' = (wPU tc a0 g0 r0 (a2 0) r2 r3 r4 r5 r6 r7 r8 r9 am (some (u1 0)) ++ (wSt tc a2 g2 q2 (a3 0) ++ (wLg tc a3 g3 ++ (wSt tc u1 G4 q2 (u2 0) ++ wLg tc u2 G5))))) (fun _ _ => False) := by
  refine ofCZ (by decide) (Nat.le_of_ble_eq_true rfl) ?_
  intro pr e s m args below meth c A Q ls H locs X hT hQ hD hP hS hl
  have hl : lv_has ls 1 [(0, .ref (a0 0))] := hl
  refine lv_aload_n X.1 X.2.1 dX11_image_0 rfl (lv_at hl 0 rfl) ?_
  refine r_get (C := RX11) (T := TX11) (N := 15) (ci := 11) (v := .ref (a4 0)) X iw11 hP 0 rfl rfl 13 rfl mw_2_156 rfl dX11_image_1 ?_
  refine lv_ifnonnull (tgt := 18) X.1 X.2.1 dX11_image_4 (by decide) ?_
  exact ima_18 a0 r0 r2 r3 r4 r5 r6 r7 r8 r9 am a2 q2 a3 g0 g2 g3 a4 a5 g4 g5 G4 G5 q4 X hc hQ ⟨(Nat.le_of_ble_eq_true rfl), (Nat.le_of_ble_eq_true rfl)⟩ hD hP hS hl
set_option maxHeartbeats 4000000 in
set_option maxRecDepth 100000 in
theorem c_X11_image_f (l : Launch) (dC : Nat → ClassId) (dI : Nat → Nat → Nat) (sk sv : Nat → Nat) (tc : Nat → ClassId) (a0 : Nat → Nat) (r0 r2 r3 r4 r5 r6 r7 r8 r9 am : Nat) (a2 : Nat → Nat) (q2 : Option Nat) (a3 : Nat → Nat) (g0 g2 g3 : Pic) (G4 G5 : Pic) (hc : f_X9_copyFrom g0St g2 gz g3 = some (G4, G5)) : CZ l (dC, dI) sk sv (TY tc) yX11_image (.code yX11_image cX11_image 1 none) rm_X11_image 12 469 [.ref (a0 0)] (wPU tc a0 g0 r0 (a2 0) r2 r3 r4 r5 r6 r7 r8 r9 am none ++ (wSt tc a2 g2 q2 (a3 0) ++ (wLg tc a3 g3 ++ []))) (fun v w' => v = none ∧ ∃ u1 u2 : Nat → Nat, w' = (wPU tc a0 g0 r0 (a2 0) r2 r3 r4 r5 r6 r7 r8 r9 am (some (u1 0)) ++ (wSt tc a2 g2 q2 (a3 0) ++ (wLg tc a3 g3 ++ (wSt tc u1 G4 q2 (u2 0) ++ wLg tc u2 G5))))) (fun _ _ => False) := by
  refine ofCZ (by decide) (Nat.le_of_ble_eq_true rfl) ?_
  intro pr e s m args below meth c A Q ls H locs X hT hQ hD hP hS hl
  have hl : lv_has ls 1 [(0, .ref (a0 0))] := hl
  refine lv_aload_n X.1 X.2.1 dX11_image_0 rfl (lv_at hl 0 rfl) ?_
  refine r_get (C := RX11) (T := TX11) (N := 15) (ci := 11) (v := .null) X iw11 hP 0 rfl rfl 13 rfl mw_2_156 rfl dX11_image_1 ?_
  refine lv_ifnonnullN X.1 X.2.1 dX11_image_4 ?_
  refine lv_aload_n X.1 X.2.1 dX11_image_7 rfl (lv_at hl 0 rfl) ?_
  refine r_new (C := RX9) (T := TX9) (N := 20) (ci := 9) (fs := [.int 0, .null, .null, .null, .int 0, .null, .int 0, .int 0, .null, .null, .null, .null, .null, .int 0, .int 0, .int 0, .int 0, .int 0, .null, .null]) tyX9 tyX9_ok X iw9 mw_1_79 mw_1_80 mw_1_3 rfl (by decide) hP hD hS (Nat.le_of_ble_eq_true rfl) (Nat.le_of_ble_eq_true rfl) dX11_image_8 (fun q H hP hD hS => ?_)
  refine lv_dup X.1 X.2.1 dX11_image_11 rfl ?_
  refine call_IN (As := []) (rest := [.ref q, .ref (a0 0)]) (ws := (wPU tc a0 g0 r0 (a2 0) r2 r3 r4 r5 r6 r7 r8 r9 am none ++ (wSt tc a2 g2 q2 (a3 0) ++ (wLg tc a3 g3 ++ []))) ++ [(q, .inr (9, [.int 0, .null, .null, .null, .int 0, .null, .int 0, .int 0, .null, .null, .null, .null, .null, .int 0, .int 0, .int 0, .int 0, .int 0, .null, .null]))]) (wc := [(q, .inr (9, [.int 0, .null, .null, .null, .int 0, .null, .int 0, .int 0, .null, .null, .null, .null, .null, .int 0, .int 0, .int 0, .int 0, .int 0, .null, .null]))]) (wr := (wPU tc a0 g0 r0 (a2 0) r2 r3 r4 r5 r6 r7 r8 r9 am none ++ (wSt tc a2 g2 q2 (a3 0) ++ (wLg tc a3 g3 ++ [])))) [13] [0, 1, 2, 3, 4, 5, 6, 7, 8, 9, 10, 11, 12] X (n_X9_init l dC dI sk sv tc q) (List.mem_of_getElem? (i := 1) rfl) mw_1_82 mw_1_3 mw_1_83 ⟨by decide +kernel, by decide +kernel, show (parseMethodDescriptor yX9_init.desc).map (fun d => d.parameters.length) = some 0 by decide +kernel⟩ rfl ⟨(Nat.le_of_ble_eq_true rfl), (Nat.le_of_ble_eq_true rfl)⟩ rfl rfl ⟨(Nat.le_of_ble_eq_true rfl), (Nat.le_of_ble_eq_true rfl)⟩ ⟨rfl, rfl, rfl, rfl, by decide⟩ hP hD hS hl.1 (Nat.le_of_ble_eq_true rfl) dX11_image_12 (fun u H locs hP hD hS => ?_)
  have hP : va_P (dC, dI) vwCl (wPU tc a0 g0 r0 (a2 0) r2 r3 r4 r5 r6 r7 r8 r9 am none ++ (wSt tc a2 g2 q2 (a3 0) ++ (wLg tc a3 g3 ++ (wSt tc (ad q u.1) g0St none (u.2 0) ++ wLg tc u.2 gz)))) H := hP
  have hD : va_D A (wPU tc a0 g0 r0 (a2 0) r2 r3 r4 r5 r6 r7 r8 r9 am none ++ (wSt tc a2 g2 q2 (a3 0) ++ (wLg tc a3 g3 ++ (wSt tc (ad q u.1) g0St none (u.2 0) ++ wLg tc u.2 gz)))) := hD
  refine r_put (C := RX11) (T := TX11) (N := 15) (ci := 11) tyX11 tyX11_ok nmX11 X iw11 hP hD hS 0 rfl rfl 13 rfl mw_2_156 rfl rfl rfl rfl dX11_image_15 ((wPU tc a0 g0 r0 (a2 0) r2 r3 r4 r5 r6 r7 r8 r9 am (some q) ++ (wSt tc a2 g2 q2 (a3 0) ++ (wLg tc a3 g3 ++ (wSt tc (ad q u.1) g0St none (u.2 0) ++ wLg tc u.2 gz))))) (rfl) (fun H locs hP hS => ?_)
  have hD : va_D A (wPU tc a0 g0 r0 (a2 0) r2 r3 r4 r5 r6 r7 r8 r9 am (some q) ++ (wSt tc a2 g2 q2 (a3 0) ++ (wLg tc a3 g3 ++ (wSt tc (ad q u.1) g0St none (u.2 0) ++ wLg tc u.2 gz)))) := D_fst (ws := (wPU tc a0 g0 r0 (a2 0) r2 r3 r4 r5 r6 r7 r8 r9 am none ++ (wSt tc a2 g2 q2 (a3 0) ++ (wLg tc a3 g3 ++ (wSt tc (ad q u.1) g0St none (u.2 0) ++ wLg tc u.2 gz))))) rfl hD
  exact ima_18 a0 r0 r2 r3 r4 r5 r6 r7 r8 r9 am a2 q2 a3 g0 g2 g3 (ad q u.1) u.2 g0St gz G4 G5 none X hc hQ ⟨(Nat.le_of_ble_eq_true rfl), (Nat.le_of_ble_eq_true rfl)⟩ hD hP hS hl
set_option maxHeartbeats 4000000 in
set_option maxRecDepth 100000 in
theorem c_X11_back0 (l : Launch) (dC : Nat → ClassId) (dI : Nat → Nat → Nat) (sk sv : Nat → Nat) (tc : Nat → ClassId) (a0 : Nat → Nat) (r0 r2 r3 r4 r5 r6 r7 r8 r9 am : Nat) (a2 : Nat → Nat) (q2 : Option Nat) (a3 : Nat → Nat) (g0 g2 g3 : Pic) (z : va_W) : CZ l (dC, dI) sk sv (TY tc) yX11_back (.code yX11_back cX11_back 1 (some .boolean)) rm_X11_back 0 0 [.ref (a0 0)] (wPU tc a0 g0 r0 (a2 0) r2 r3 r4 r5 r6 r7 r8 r9 am none ++ (wSt tc a2 g2 q2 (a3 0) ++ (wLg tc a3 g3 ++ z))) (fun v w' => v = some (.int 0) ∧ w' = (wPU tc a0 g0 r0 (a2 0) r2 r3 r4 r5 r6 r7 r8 r9 am none ++ (wSt tc a2 g2 q2 (a3 0) ++ (wLg tc a3 g3 ++ z)))) (fun _ _ => False) := by
  refine ofCZ (by decide) (Nat.le_of_ble_eq_true rfl) ?_
  intro pr e s m args below meth c A Q ls H locs X hT hQ hD hP hS hl
  have hl : lv_has ls 1 [(0, .ref (a0 0))] := hl
  refine lv_aload_n X.1 X.2.1 dX11_back_0 rfl (lv_at hl 0 rfl) ?_
  refine r_get (C := RX11) (T := TX11) (N := 15) (ci := 11) (v := .null) X iw11 hP 0 rfl rfl 13 rfl mw_2_156 rfl dX11_back_1 ?_
  refine lv_ifnonnullN X.1 X.2.1 dX11_back_4 ?_
  refine lv_iconst (v := 0) X.1 X.2.1 dX11_back_7 (by decide) ?_
  exact retZ_z (by decide) X.1 X.2.1 X.2.2.1 X.2.2.2.2.2.2.1 hQ ⟨rfl, rfl⟩ hP hD hS (Nat.le_of_ble_eq_true rfl) (Nat.le_of_ble_eq_true rfl) dX11_back_8
set_option maxHeartbeats 4000000 in
set_option maxRecDepth 100000 in
theorem c_X11_back1 (l : Launch) (dC : Nat → ClassId) (dI : Nat → Nat → Nat) (sk sv : Nat → Nat) (tc : Nat → ClassId) (a0 : Nat → Nat) (r0 r2 r3 r4 r5 r6 r7 r8 r9 am : Nat) (a2 : Nat → Nat) (q2 : Option Nat) (a3 : Nat → Nat) (g0 g2 g3 : Pic) (a4 a5 : Nat → Nat) (g4 g5 G2 G3 : Pic) (q4 : Option Nat) (hc : f_X9_copyFrom g2 g4 g3 g5 = some (G2, G3)) : CZ l (dC, dI) sk sv (TY tc) yX11_back (.code yX11_back cX11_back 1 (some .boolean)) rm_X11_back 0 0 [.ref (a0 0)] (wPU tc a0 g0 r0 (a2 0) r2 r3 r4 r5 r6 r7 r8 r9 am (some (a4 0)) ++ (wSt tc a2 g2 q2 (a3 0) ++ (wLg tc a3 g3 ++ (wSt tc a4 g4 q4 (a5 0) ++ wLg tc a5 g5)))) (fun v w' => v = some (.int 1) ∧ w' = (wPU tc a0 (pu g0 12 0 0) r0 (a2 0) r2 r3 r4 r5 r6 r7 r8 r9 am (some (a4 0)) ++ (wSt tc a2 G2 q4 (a3 0) ++ (wLg tc a3 G3 ++ (wSt tc a4 g4 q4 (a5 0) ++ wLg tc a5 g5))))) (fun _ _ => False) := by
  refine ofCZ (by decide) (Nat.le_of_ble_eq_true rfl) ?_
  intro pr e s m args below meth c A Q ls H locs X hT hQ hD0 hP hS hl
  have hl : lv_has ls 1 [(0, .ref (a0 0))] := hl
  have hD : ∀ z0 z2 zq z3, va_D A (wPU tc a0 z0 r0 (a2 0) r2 r3 r4 r5 r6 r7 r8 r9 am (some (a4 0)) ++ (wSt tc a2 z2 zq (a3 0) ++ (wLg tc a3 z3 ++ (wSt tc a4 g4 q4 (a5 0) ++ wLg tc a5 g5)))) := fun z0 z2 zq z3 => D_fst (ws := (wPU tc a0 g0 r0 (a2 0) r2 r3 r4 r5 r6 r7 r8 r9 am (some (a4 0)) ++ (wSt tc a2 g2 q2 (a3 0) ++ (wLg tc a3 g3 ++ (wSt tc a4 g4 q4 (a5 0) ++ wLg tc a5 g5))))) rfl hD0
  refine lv_aload_n X.1 X.2.1 dX11_back_0 rfl (lv_at hl 0 rfl) ?_
  refine r_get (C := RX11) (T := TX11) (N := 15) (ci := 11) (v := .ref (a4 0)) X iw11 hP 0 rfl rfl 13 rfl mw_2_156 rfl dX11_back_1 ?_
  refine lv_ifnonnull (tgt := 9) X.1 X.2.1 dX11_back_4 (by decide) ?_
  refine lv_aload_n X.1 X.2.1 dX11_back_9 rfl (lv_at hl 0 rfl) ?_
  refine r_get (C := RX11) (T := TX11) (N := 15) (ci := 11) (v := .ref (a2 0)) X iw11 hP 0 rfl rfl 1 rfl mw_2_144 rfl dX11_back_10 ?_
  refine lv_aload_n X.1 X.2.1 dX11_back_13 rfl (lv_at hl 0 rfl) ?_
  refine r_get (C := RX11) (T := TX11) (N := 15) (ci := 11) (v := .ref (a4 0)) X iw11 hP 0 rfl rfl 13 rfl mw_2_156 rfl dX11_back_14 ?_
  refine call_Q (ws := (wPU tc a0 g0 r0 (a2 0) r2 r3 r4 r5 r6 r7 r8 r9 am (some (a4 0)) ++ (wSt tc a2 g2 q2 (a3 0) ++ (wLg tc a3 g3 ++ (wSt tc a4 g4 q4 (a5 0) ++ wLg tc a5 g5))))) (ws' := (wPU tc a0 g0 r0 (a2 0) r2 r3 r4 r5 r6 r7 r8 r9 am (some (a4 0)) ++ (wSt tc a2 G2 q4 (a3 0) ++ (wLg tc a3 G3 ++ (wSt tc a4 g4 q4 (a5 0) ++ wLg tc a5 g5))))) (wr := (wPU tc a0 g0 r0 (a2 0) r2 r3 r4 r5 r6 r7 r8 r9 am (some (a4 0)))) [1, 2, 3, 4, 5, 6, 7, 8, 9, 10, 13, 14, 15, 16, 17, 18, 19, 20, 21, 22, 11, 12, 23, 24] [0] [0, 1, 2, 3, 4, 5, 6, 7, 8, 9, 10, 21, 22, 11, 12, 13, 14, 15, 16, 17, 18, 19, 20, 23, 24] (As := [.ref (a4 0)]) (rest := []) X (c_X9_copyFrom l dC dI sk sv tc a2 q2 a4 q4 a3 a5 g2 g4 g3 g5 hc) mw_3_79 mw_3_80 mw_3_81 mw_1_3 mw_3_82 dc_X9_copyFrom ⟨(Nat.le_of_ble_eq_true rfl), (Nat.le_of_ble_eq_true rfl)⟩ rfl rfl ⟨(Nat.le_of_ble_eq_true rfl), (Nat.le_of_ble_eq_true rfl)⟩ ⟨rfl, rfl, rfl, rfl, by decide, rfl, rfl⟩ hP (hD _ _ _ _) hS 0 rfl rfl rfl hl.1 (Nat.le_of_ble_eq_true rfl) dX11_back_17 (fun H locs hP hS => ?_)
  refine W.eq (g2 := F0 m 20 ls []) rfl ?_
  refine lv_aload_n X.1 X.2.1 dX11_back_20 rfl (lv_at hl 0 rfl) ?_
  refine callZ (ws := (wPU tc a0 g0 r0 (a2 0) r2 r3 r4 r5 r6 r7 r8 r9 am (some (a4 0)) ++ (wSt tc a2 G2 q4 (a3 0) ++ (wLg tc a3 G3 ++ (wSt tc a4 g4 q4 (a5 0) ++ wLg tc a5 g5))))) (As := []) (rest := []) X.y (CZ.fr (CT.z (c_X11_forgetActs l dC dI sk sv tc a0 r0 (a2 0) r2 r3 r4 r5 r6 r7 r8 r9 am (some (a4 0)) g0 (show f_X11_forgetActs g0 = some (pu g0 12 0 0) from rfl)) rfl) (w := (wPU tc a0 g0 r0 (a2 0) r2 r3 r4 r5 r6 r7 r8 r9 am (some (a4 0)) ++ (wSt tc a2 G2 q4 (a3 0) ++ (wLg tc a3 G3 ++ (wSt tc a4 g4 q4 (a5 0) ++ wLg tc a5 g5))))) (PN' := fun v w' => v = none ∧ w' = (wPU tc a0 (pu g0 12 0 0) r0 (a2 0) r2 r3 r4 r5 r6 r7 r8 r9 am (some (a4 0)) ++ (wSt tc a2 G2 q4 (a3 0) ++ (wLg tc a3 G3 ++ (wSt tc a4 g4 q4 (a5 0) ++ wLg tc a5 g5))))) (PX' := fun _ _ => False) (pB [wPU tc a0 g0 r0 (a2 0) r2 r3 r4 r5 r6 r7 r8 r9 am (some (a4 0)), wSt tc a2 G2 q4 (a3 0), wLg tc a3 G3, (wSt tc a4 g4 q4 (a5 0) ++ wLg tc a5 g5)] [0, 1, 2, 3] [0] [1, 2, 3] (by decide)) (fun v w' h => by obtain ⟨z2, z3⟩ := h; subst z3; exact ⟨_, (pB [wPU tc a0 (pu g0 12 0 0) r0 (a2 0) r2 r3 r4 r5 r6 r7 r8 r9 am (some (a4 0)), wSt tc a2 G2 q4 (a3 0), wLg tc a3 G3, (wSt tc a4 g4 q4 (a5 0) ++ wLg tc a5 g5)] [0, 1, 2, 3] [0] [1, 2, 3] (by decide)).symm, z2, rfl⟩) (fun _ _ h => h.elim)) mw_3_99 mw_3_101 mp_1_1 mw_1_1 mw_3_102 dc_X11_forgetActs ⟨(Nat.le_of_ble_eq_true rfl), (Nat.le_of_ble_eq_true rfl)⟩ rfl rfl ⟨(Nat.le_of_ble_eq_true rfl), (Nat.le_of_ble_eq_true rfl)⟩ hP (hD _ _ _ _) hS (List.mem_of_getElem? (i := 0) rfl) rfl rfl hl.1 (Nat.le_of_ble_eq_true rfl) dX11_back_21 (fun v w' H locs hn hP hD9 hS => ?_) (fun _ _ _ _ _ _ h => h.elim)
  obtain ⟨rfl, rfl⟩ := hn
  refine W.eq (g2 := F0 m 24 ls []) rfl ?_
  refine lv_iconst (v := 1) X.1 X.2.1 dX11_back_24 (by decide) ?_
  exact retZ_z (by decide) X.1 X.2.1 X.2.2.1 X.2.2.2.2.2.2.1 hQ ⟨rfl, rfl⟩ hP (hD _ _ _ _) hS (Nat.le_of_ble_eq_true rfl) (Nat.le_of_ble_eq_true rfl) dX11_back_25
abbrev rm_X11_great : Room := { frames := 3, cells := 0, slots := 0, locals := 80 }
def f_X11_oftenest (g0 g2 : Pic) (x1 : Int32) : Option Int32 := if x1 = 0 then f_X11_greatest_lengths g0 g2 (g2 0 0) else f_X11_greatest_often g0 g2 (g2 0 0)
set_option maxHeartbeats 4000000 in
set_option maxRecDepth 100000 in
theorem c_X11_oftenest (l : Launch) (dC : Nat → ClassId) (dI : Nat → Nat → Nat) (sk sv : Nat → Nat) (tc : Nat → ClassId) (a0 : Nat → Nat) (r0 r2 r3 r4 r5 r6 r7 r8 r9 am : Nat) (r13 : Option Nat) (a2 : Nat → Nat) (q2 : Option Nat) (r19 : Nat) (g0 g2 : Pic) (x1 : Int32) {r : Int32} (h : f_X11_oftenest g0 g2 x1 = some r) : CZ l (dC, dI) sk sv (TY tc) yX11_oftenest (.code yX11_oftenest cX11_oftenest 2 (some .int)) rm_X11_great 0 0 [.ref (a0 0), .int x1] (wPU tc a0 g0 r0 (a2 0) r2 r3 r4 r5 r6 r7 r8 r9 am r13 ++ wSt tc a2 g2 q2 r19) (fun v w' => v = some (.int r) ∧ w' = (wPU tc a0 g0 r0 (a2 0) r2 r3 r4 r5 r6 r7 r8 r9 am r13 ++ wSt tc a2 g2 q2 r19)) (fun _ _ => False) := by
  unfold f_X11_oftenest at h
  refine ofCZ (by decide) (Nat.le_of_ble_eq_true rfl) ?_
  intro pr e s m args below meth c A Q ls H locs X hT hQ hD hP hS hl
  have hl : lv_has ls 2 [(0, .ref (a0 0)), (1, .int x1)] := hl
  refine lv_aload_n X.1 X.2.1 dX11_oftenest_0 rfl (lv_at hl 0 rfl) ?_
  refine lv_iload_n X.1 X.2.1 dX11_oftenest_1 rfl (lv_at hl 1 rfl) ?_
  refine lv_if_eq (tgt := 15) X.1 X.2.1 dX11_oftenest_2 (by decide) (fun hc => ?_) (fun hc => ?_)
  · have h := it_t hc h
    refine lv_aload_n X.1 X.2.1 dX11_oftenest_15 rfl (lv_at hl 0 rfl) ?_
    refine r_get (C := RX11) (T := TX11) (N := 15) (ci := 11) (v := .ref (a2 0)) X iw11 hP 0 rfl rfl 1 rfl mw_2_144 rfl dX11_oftenest_16 ?_
    refine r_get (C := RX9) (T := TX9) (N := 20) (ci := 9) (v := .ref (a2 3)) X iw9 hP 1 rfl rfl 2 rfl mw_1_118 rfl dX11_oftenest_19 ?_
    refine lv_aload_n X.1 X.2.1 dX11_oftenest_22 rfl (lv_at hl 0 rfl) ?_
    refine r_get (C := RX11) (T := TX11) (N := 15) (ci := 11) (v := .ref (a2 0)) X iw11 hP 0 rfl rfl 1 rfl mw_2_144 rfl dX11_oftenest_23 ?_
    refine r_get (C := RX9) (T := TX9) (N := 20) (ci := 9) (v := .int (g2 0 0)) X iw9 hP 1 rfl rfl 0 rfl mw_1_108 rfl dX11_oftenest_26 ?_
    refine callZ (ws := (wPU tc a0 g0 r0 (a2 0) r2 r3 r4 r5 r6 r7 r8 r9 am r13 ++ wSt tc a2 g2 q2 r19)) (As := [.ref (a2 3), .int (g2 0 0)]) (rest := []) X.y (CZ.fr (CT.z (c_X11_greatest_lengths l dC dI sk sv tc a0 r0 r2 r3 r4 r5 r6 r7 r8 r9 am r13 a2 q2 r19 g0 g2 (g2 0 0) h) rfl) (w := (wPU tc a0 g0 r0 (a2 0) r2 r3 r4 r5 r6 r7 r8 r9 am r13 ++ wSt tc a2 g2 q2 r19)) (PN' := fun v w' => v = some (.int r) ∧ w' = (wPU tc a0 g0 r0 (a2 0) r2 r3 r4 r5 r6 r7 r8 r9 am r13 ++ wSt tc a2 g2 q2 r19)) (PX' := fun _ _ => False) (pB [wPU tc a0 g0 r0 (a2 0) r2 r3 r4 r5 r6 r7 r8 r9 am r13, wSt tc a2 g2 q2 r19] [0, 1] [0, 1] [] (by decide)) (fun v w' h => by obtain ⟨z2, z3⟩ := h; subst z3; exact ⟨_, (pB [wPU tc a0 g0 r0 (a2 0) r2 r3 r4 r5 r6 r7 r8 r9 am r13, wSt tc a2 g2 q2 r19] [0, 1] [0, 1] [] (by decide)).symm, z2, rfl⟩) (fun _ _ h => h.elim)) mw_3_39 mw_3_41 mp_1_0 mw_1_1 mw_3_42 dc_X11_greatest ⟨(Nat.le_of_ble_eq_true rfl), (Nat.le_of_ble_eq_true rfl)⟩ rfl rfl ⟨(Nat.le_of_ble_eq_true rfl), (Nat.le_of_ble_eq_true rfl)⟩ hP hD hS (List.mem_of_getElem? (i := 0) rfl) rfl rfl hl.1 (Nat.le_of_ble_eq_true rfl) dX11_oftenest_29 (fun v w' H locs hn hP hD9 hS => ?_) (fun _ _ _ _ _ _ h => h.elim)
    obtain ⟨rfl, rfl⟩ := hn
    refine W.eq (g2 := F0 m 32 ls [.int r]) rfl ?_
    exact retZ_i X.1 X.2.1 X.2.2.1 X.2.2.2.2.2.2.1 hQ ⟨rfl, rfl⟩ hP hD9 hS (Nat.le_of_ble_eq_true rfl) (Nat.le_of_ble_eq_true rfl) dX11_oftenest_32
  · have h := it_f hc h
    refine lv_aload_n X.1 X.2.1 dX11_oftenest_5 rfl (lv_at hl 0 rfl) ?_
    refine r_get (C := RX11) (T := TX11) (N := 15) (ci := 11) (v := .ref (a2 0)) X iw11 hP 0 rfl rfl 1 rfl mw_2_144 rfl dX11_oftenest_6 ?_
    refine r_get (C := RX9) (T := TX9) (N := 20) (ci := 9) (v := .ref (a2 4)) X iw9 hP 1 rfl rfl 3 rfl mw_1_122 rfl dX11_oftenest_9 ?_
    refine lv_goto (tgt := 22) X.1 X.2.1 dX11_oftenest_12 (by decide) ?_
    refine lv_aload_n X.1 X.2.1 dX11_oftenest_22 rfl (lv_at hl 0 rfl) ?_
    refine r_get (C := RX11) (T := TX11) (N := 15) (ci := 11) (v := .ref (a2 0)) X iw11 hP 0 rfl rfl 1 rfl mw_2_144 rfl dX11_oftenest_23 ?_
    refine r_get (C := RX9) (T := TX9) (N := 20) (ci := 9) (v := .int (g2 0 0)) X iw9 hP 1 rfl rfl 0 rfl mw_1_108 rfl dX11_oftenest_26 ?_
    refine callZ (ws := (wPU tc a0 g0 r0 (a2 0) r2 r3 r4 r5 r6 r7 r8 r9 am r13 ++ wSt tc a2 g2 q2 r19)) (As := [.ref (a2 4), .int (g2 0 0)]) (rest := []) X.y (CZ.fr (CT.z (c_X11_greatest_often l dC dI sk sv tc a0 r0 r2 r3 r4 r5 r6 r7 r8 r9 am r13 a2 q2 r19 g0 g2 (g2 0 0) h) rfl) (w := (wPU tc a0 g0 r0 (a2 0) r2 r3 r4 r5 r6 r7 r8 r9 am r13 ++ wSt tc a2 g2 q2 r19)) (PN' := fun v w' => v = some (.int r) ∧ w' = (wPU tc a0 g0 r0 (a2 0) r2 r3 r4 r5 r6 r7 r8 r9 am r13 ++ wSt tc a2 g2 q2 r19)) (PX' := fun _ _ => False) (pB [wPU tc a0 g0 r0 (a2 0) r2 r3 r4 r5 r6 r7 r8 r9 am r13, wSt tc a2 g2 q2 r19] [0, 1] [0, 1] [] (by decide)) (fun v w' h => by obtain ⟨z2, z3⟩ := h; subst z3; exact ⟨_, (pB [wPU tc a0 g0 r0 (a2 0) r2 r3 r4 r5 r6 r7 r8 r9 am r13, wSt tc a2 g2 q2 r19] [0, 1] [0, 1] [] (by decide)).symm, z2, rfl⟩) (fun _ _ h => h.elim)) mw_3_39 mw_3_41 mp_1_0 mw_1_1 mw_3_42 dc_X11_greatest ⟨(Nat.le_of_ble_eq_true rfl), (Nat.le_of_ble_eq_true rfl)⟩ rfl rfl ⟨(Nat.le_of_ble_eq_true rfl), (Nat.le_of_ble_eq_true rfl)⟩ hP hD hS (List.mem_of_getElem? (i := 0) rfl) rfl rfl hl.1 (Nat.le_of_ble_eq_true rfl) dX11_oftenest_29 (fun v w' H locs hn hP hD9 hS => ?_) (fun _ _ _ _ _ _ h => h.elim)
    obtain ⟨rfl, rfl⟩ := hn
    refine W.eq (g2 := F0 m 32 ls [.int r]) rfl ?_
    exact retZ_i X.1 X.2.1 X.2.2.1 X.2.2.2.2.2.2.1 hQ ⟨rfl, rfl⟩ hP hD9 hS (Nat.le_of_ble_eq_true rfl) (Nat.le_of_ble_eq_true rfl) dX11_oftenest_32
def f_X11_quickest (g0 g2 : Pic) (x1 : Int32) : Option Int32 := if x1 = 0 then f_X11_greatest_tired g0 g2 (g2 7 0) else f_X11_greatest_speed g0 g2 (g2 7 0)
set_option maxHeartbeats 4000000 in
set_option maxRecDepth 100000 in
theorem c_X11_quickest (l : Launch) (dC : Nat → ClassId) (dI : Nat → Nat → Nat) (sk sv : Nat → Nat) (tc : Nat → ClassId) (a0 : Nat → Nat) (r0 r2 r3 r4 r5 r6 r7 r8 r9 am : Nat) (r13 : Option Nat) (a2 : Nat → Nat) (q2 : Option Nat) (r19 : Nat) (g0 g2 : Pic) (x1 : Int32) {r : Int32} (h : f_X11_quickest g0 g2 x1 = some r) : CZ l (dC, dI) sk sv (TY tc) yX11_quickest (.code yX11_quickest cX11_quickest 2 (some .int)) rm_X11_great 0 0 [.ref (a0 0), .int x1] (wPU tc a0 g0 r0 (a2 0) r2 r3 r4 r5 r6 r7 r8 r9 am r13 ++ wSt tc a2 g2 q2 r19) (fun v w' => v = some (.int r) ∧ w' = (wPU tc a0 g0 r0 (a2 0) r2 r3 r4 r5 r6 r7 r8 r9 am r13 ++ wSt tc a2 g2 q2 r19)) (fun _ _ => False) := by
  unfold f_X11_quickest at h
  refine ofCZ (by decide) (Nat.le_of_ble_eq_true rfl) ?_
  intro pr e s m args below meth c A Q ls H locs X hT hQ hD hP hS hl
  have hl : lv_has ls 2 [(0, .ref (a0 0)), (1, .int x1)] := hl
  refine lv_aload_n X.1 X.2.1 dX11_quickest_0 rfl (lv_at hl 0 rfl) ?_
  refine lv_iload_n X.1 X.2.1 dX11_quickest_1 rfl (lv_at hl 1 rfl) ?_
  refine lv_if_eq (tgt := 15) X.1 X.2.1 dX11_quickest_2 (by decide) (fun hc => ?_) (fun hc => ?_)
  · have h := it_t hc h
    refine lv_aload_n X.1 X.2.1 dX11_quickest_15 rfl (lv_at hl 0 rfl) ?_
    refine r_get (C := RX11) (T := TX11) (N := 15) (ci := 11) (v := .ref (a2 0)) X iw11 hP 0 rfl rfl 1 rfl mw_2_144 rfl dX11_quickest_16 ?_
    refine r_get (C := RX9) (T := TX9) (N := 20) (ci := 9) (v := .ref (a2 12)) X iw9 hP 1 rfl rfl 11 rfl mw_1_166 rfl dX11_quickest_19 ?_
    refine lv_aload_n X.1 X.2.1 dX11_quickest_22 rfl (lv_at hl 0 rfl) ?_
    refine r_get (C := RX11) (T := TX11) (N := 15) (ci := 11) (v := .ref (a2 0)) X iw11 hP 0 rfl rfl 1 rfl mw_2_144 rfl dX11_quickest_23 ?_
    refine r_get (C := RX9) (T := TX9) (N := 20) (ci := 9) (v := .int (g2 7 0)) X iw9 hP 1 rfl rfl 7 rfl mw_1_146 rfl dX11_quickest_26 ?_
    refine callZ (ws := (wPU tc a0 g0 r0 (a2 0) r2 r3 r4 r5 r6 r7 r8 r9 am r13 ++ wSt tc a2 g2 q2 r19)) (As := [.ref (a2 12), .int (g2 7 0)]) (rest := []) X.y (CZ.fr (CT.z (c_X11_greatest_tired l dC dI sk sv tc a0 r0 r2 r3 r4 r5 r6 r7 r8 r9 am r13 a2 q2 r19 g0 g2 (g2 7 0) h) rfl) (w := (wPU tc a0 g0 r0 (a2 0) r2 r3 r4 r5 r6 r7 r8 r9 am r13 ++ wSt tc a2 g2 q2 r19)) (PN' := fun v w' => v = some (.int r) ∧ w' = (wPU tc a0 g0 r0 (a2 0) r2 r3 r4 r5 r6 r7 r8 r9 am r13 ++ wSt tc a2 g2 q2 r19)) (PX' := fun _ _ => False) (pB [wPU tc a0 g0 r0 (a2 0) r2 r3 r4 r5 r6 r7 r8 r9 am r13, wSt tc a2 g2 q2 r19] [0, 1] [0, 1] [] (by decide)) (fun v w' h => by obtain ⟨z2, z3⟩ := h; subst z3; exact ⟨_, (pB [wPU tc a0 g0 r0 (a2 0) r2 r3 r4 r5 r6 r7 r8 r9 am r13, wSt tc a2 g2 q2 r19] [0, 1] [0, 1] [] (by decide)).symm, z2, rfl⟩) (fun _ _ h => h.elim)) mw_3_39 mw_3_41 mp_1_0 mw_1_1 mw_3_42 dc_X11_greatest ⟨(Nat.le_of_ble_eq_true rfl), (Nat.le_of_ble_eq_true rfl)⟩ rfl rfl ⟨(Nat.le_of_ble_eq_true rfl), (Nat.le_of_ble_eq_true rfl)⟩ hP hD hS (List.mem_of_getElem? (i := 0) rfl) rfl rfl hl.1 (Nat.le_of_ble_eq_true rfl) dX11_quickest_29 (fun v w' H locs hn hP hD9 hS => ?_) (fun _ _ _ _ _ _ h => h.elim)
    obtain ⟨rfl, rfl⟩ := hn
    refine W.eq (g2 := F0 m 32 ls [.int r]) rfl ?_
    exact retZ_i X.1 X.2.1 X.2.2.1 X.2.2.2.2.2.2.1 hQ ⟨rfl, rfl⟩ hP hD9 hS (Nat.le_of_ble_eq_true rfl) (Nat.le_of_ble_eq_true rfl) dX11_quickest_32
  · have h := it_f hc h
    refine lv_aload_n X.1 X.2.1 dX11_quickest_5 rfl (lv_at hl 0 rfl) ?_
    refine r_get (C := RX11) (T := TX11) (N := 15) (ci := 11) (v := .ref (a2 0)) X iw11 hP 0 rfl rfl 1 rfl mw_2_144 rfl dX11_quickest_6 ?_
    refine r_get (C := RX9) (T := TX9) (N := 20) (ci := 9) (v := .ref (a2 10)) X iw9 hP 1 rfl rfl 9 rfl mw_1_157 rfl dX11_quickest_9 ?_
    refine lv_goto (tgt := 22) X.1 X.2.1 dX11_quickest_12 (by decide) ?_
    refine lv_aload_n X.1 X.2.1 dX11_quickest_22 rfl (lv_at hl 0 rfl) ?_
    refine r_get (C := RX11) (T := TX11) (N := 15) (ci := 11) (v := .ref (a2 0)) X iw11 hP 0 rfl rfl 1 rfl mw_2_144 rfl dX11_quickest_23 ?_
    refine r_get (C := RX9) (T := TX9) (N := 20) (ci := 9) (v := .int (g2 7 0)) X iw9 hP 1 rfl rfl 7 rfl mw_1_146 rfl dX11_quickest_26 ?_
    refine callZ (ws := (wPU tc a0 g0 r0 (a2 0) r2 r3 r4 r5 r6 r7 r8 r9 am r13 ++ wSt tc a2 g2 q2 r19)) (As := [.ref (a2 10), .int (g2 7 0)]) (rest := []) X.y (CZ.fr (CT.z (c_X11_greatest_speed l dC dI sk sv tc a0 r0 r2 r3 r4 r5 r6 r7 r8 r9 am r13 a2 q2 r19 g0 g2 (g2 7 0) h) rfl) (w := (wPU tc a0 g0 r0 (a2 0) r2 r3 r4 r5 r6 r7 r8 r9 am r13 ++ wSt tc a2 g2 q2 r19)) (PN' := fun v w' => v = some (.int r) ∧ w' = (wPU tc a0 g0 r0 (a2 0) r2 r3 r4 r5 r6 r7 r8 r9 am r13 ++ wSt tc a2 g2 q2 r19)) (PX' := fun _ _ => False) (pB [wPU tc a0 g0 r0 (a2 0) r2 r3 r4 r5 r6 r7 r8 r9 am r13, wSt tc a2 g2 q2 r19] [0, 1] [0, 1] [] (by decide)) (fun v w' h => by obtain ⟨z2, z3⟩ := h; subst z3; exact ⟨_, (pB [wPU tc a0 g0 r0 (a2 0) r2 r3 r4 r5 r6 r7 r8 r9 am r13, wSt tc a2 g2 q2 r19] [0, 1] [0, 1] [] (by decide)).symm, z2, rfl⟩) (fun _ _ h => h.elim)) mw_3_39 mw_3_41 mp_1_0 mw_1_1 mw_3_42 dc_X11_greatest ⟨(Nat.le_of_ble_eq_true rfl), (Nat.le_of_ble_eq_true rfl)⟩ rfl rfl ⟨(Nat.le_of_ble_eq_true rfl), (Nat.le_of_ble_eq_true rfl)⟩ hP hD hS (List.mem_of_getElem? (i := 0) rfl) rfl rfl hl.1 (Nat.le_of_ble_eq_true rfl) dX11_quickest_29 (fun v w' H locs hn hP hD9 hS => ?_) (fun _ _ _ _ _ _ h => h.elim)
    obtain ⟨rfl, rfl⟩ := hn
    refine W.eq (g2 := F0 m 32 ls [.int r]) rfl ?_
    exact retZ_i X.1 X.2.1 X.2.2.1 X.2.2.2.2.2.2.1 hQ ⟨rfl, rfl⟩ hP hD9 hS (Nat.le_of_ble_eq_true rfl) (Nat.le_of_ble_eq_true rfl) dX11_quickest_32
