def f_X11_ahead_n (g0 : Pic) (g1 : Pic) (g2 : Pic) (g3 : Pic) (g4 : Pic) (g5 : Pic) (g6 : Pic) (g7 : Pic) (x1 : Int32) (x2 : Int32) : Option ((Nat × (Pic × Pic × Pic × Pic)) ⊕ (Int32 × (Pic × Pic × Pic × Pic))) := lr (f_X11_needWriter g0 g1 x1) (fun e => .inl (e.1, (g3, g4, g5, g7))) (fun _ => lr (f_X11_needNumber g0 x2 0 60) (fun e => .inl (e.1, (g3, g4, g5, g7))) (fun _ => bd2 (f_X9_copyFrom g3 g1 g4 g2) (fun g3_3 g4_3 => bd5 (f_X0_pass_n g6 g7 g5 g3_3 g4_3 x2 0) (fun r_4 g7_4 g5_4 g3_4 g4_4 => gdi x1 5 (some (.inr ((g3_4 11 (x1.toNatClampNeg)), (g3_4, g4_4, g5_4, g7_4))))))))
abbrev rm_X11_ahead_n : Room := { frames := 7, cells := 2, slots := 12, locals := 143 }
set_option maxHeartbeats 4000000 in
set_option maxRecDepth 100000 in
theorem c_X11_ahead_n (l : Launch) (hst : l.stackTraces = false) (dC : Nat → ClassId) (dI : Nat → Nat → Nat) (sk sv : Nat → Nat) (tc : Nat → ClassId) (a0 : Nat → Nat) (q0_0 : Nat) (q0_3 : Nat) (q0_4 : Nat) (q0_7 : Nat) (q0_8 : Nat) (q0_9 : Nat) (q0_10 : Nat) (q0_13 : Option Nat) (a1 : Nat → Nat) (a2 : Nat → Nat) (a3 : Nat → Nat) (q3_18 : Option Nat) (a4 : Nat → Nat) (a5 : Nat → Nat) (a6 : Nat → Nat) (a7 : Nat → Nat) (g0 : Pic) (g1 : Pic) (g2 : Pic) (g3 : Pic) (g4 : Pic) (g5 : Pic) (g6 : Pic) (g7 : Pic) (x1 : Int32) (x2 : Int32) {res : ((Nat × (Pic × Pic × Pic × Pic)) ⊕ (Int32 × (Pic × Pic × Pic × Pic)))} (h : f_X11_ahead_n g0 g1 g2 g3 g4 g5 g6 g7 x1 x2 = some res) : CU l (dC, dI) sk sv (TY tc) yX11_ahead cX11_ahead 3 (some .int) rm_X11_ahead_n 2 12 [.ref (a0 0), .int x1, .int x2] (wPU tc a0 g0 q0_0 (a1 0) (a3 0) q0_3 q0_4 (a5 0) (a6 0) q0_7 q0_8 q0_9 q0_10 q0_13 ++ (wSt tc a1 g1 none (a2 0) ++ (wLg tc a2 g2 ++ (wSt tc a3 g3 q3_18 (a4 0) ++ (wLg tc a4 g4 ++ (wHd tc a5 g5 ++ (wCk tc a6 g6 (a5 0) (a7 0) ++ (wFa tc a7 g7)))))))) (oI (fun u q => (wPU tc a0 g0 q0_0 (a1 0) (a3 0) q0_3 q0_4 (a5 0) (a6 0) q0_7 q0_8 q0_9 q0_10 q0_13 ++ (wSt tc a1 g1 none (a2 0) ++ (wLg tc a2 g2 ++ (wSt tc a3 u.1 q (a4 0) ++ (wLg tc a4 u.2.1 ++ (wHd tc a5 u.2.2.1 ++ (wCk tc a6 g6 (a5 0) (a7 0) ++ (wFa tc a7 u.2.2.2))))))))) res) := by
  refine ofCU (by decide) (Nat.le_of_ble_eq_true rfl) ?_
  intro pr e s m args below meth c A Q ls H locs X hT hQ hD0 hP hS hl
  have hD : ∀ z0 z1 z2 z3 z4 z5 z6 z7, va_D A (wPU tc a0 z0 q0_0 (a1 0) (a3 0) q0_3 q0_4 (a5 0) (a6 0) q0_7 q0_8 q0_9 q0_10 q0_13 ++ (wSt tc a1 z1 none (a2 0) ++ (wLg tc a2 z2 ++ (wSt tc a3 z3 q3_18 (a4 0) ++ (wLg tc a4 z4 ++ (wHd tc a5 z5 ++ (wCk tc a6 z6 (a5 0) (a7 0) ++ (wFa tc a7 z7)))))))) := fun z0 z1 z2 z3 z4 z5 z6 z7 => D_fst (ws := (wPU tc a0 g0 q0_0 (a1 0) (a3 0) q0_3 q0_4 (a5 0) (a6 0) q0_7 q0_8 q0_9 q0_10 q0_13 ++ (wSt tc a1 g1 none (a2 0) ++ (wLg tc a2 g2 ++ (wSt tc a3 g3 q3_18 (a4 0) ++ (wLg tc a4 g4 ++ (wHd tc a5 g5 ++ (wCk tc a6 g6 (a5 0) (a7 0) ++ (wFa tc a7 g7))))))))) rfl hD0
  have hDq : ∀ z0 z1 z2 z3 z4 z5 z6 z7 (zq : Option Nat), va_D A (wPU tc a0 z0 q0_0 (a1 0) (a3 0) q0_3 q0_4 (a5 0) (a6 0) q0_7 q0_8 q0_9 q0_10 q0_13 ++ (wSt tc a1 z1 none (a2 0) ++ (wLg tc a2 z2 ++ (wSt tc a3 z3 zq (a4 0) ++ (wLg tc a4 z4 ++ (wHd tc a5 z5 ++ (wCk tc a6 z6 (a5 0) (a7 0) ++ (wFa tc a7 z7)))))))) := fun z0 z1 z2 z3 z4 z5 z6 z7 zq => D_fst (ws := (wPU tc a0 g0 q0_0 (a1 0) (a3 0) q0_3 q0_4 (a5 0) (a6 0) q0_7 q0_8 q0_9 q0_10 q0_13 ++ (wSt tc a1 g1 none (a2 0) ++ (wLg tc a2 g2 ++ (wSt tc a3 g3 q3_18 (a4 0) ++ (wLg tc a4 g4 ++ (wHd tc a5 g5 ++ (wCk tc a6 g6 (a5 0) (a7 0) ++ (wFa tc a7 g7))))))))) rfl hD0
  have hl : lv_has ls 3 [(0, .ref (a0 0)), (1, .int x1), (2, .int x2)] := hl
  unfold f_X11_ahead_n at h
  refine lv_aload_n X.1 X.2.1 dX11_ahead_0 rfl (lv_at hl 0 rfl) ?_
  refine lv_iload_n X.1 X.2.1 dX11_ahead_1 rfl (lv_at hl 1 rfl) ?_
  obtain ⟨ex_1, hc_1, h1_1, h2_1⟩ := lr_el h
  rcases ex_1 with e_1 | r_1
  · exact callU_t (ws := (wPU tc a0 g0 q0_0 (a1 0) (a3 0) q0_3 q0_4 (a5 0) (a6 0) q0_7 q0_8 q0_9 q0_10 q0_13 ++ (wSt tc a1 g1 none (a2 0) ++ (wLg tc a2 g2 ++ (wSt tc a3 g3 q3_18 (a4 0) ++ (wLg tc a4 g4 ++ (wHd tc a5 g5 ++ (wCk tc a6 g6 (a5 0) (a7 0) ++ (wFa tc a7 g7))))))))) (ws' := (wPU tc a0 g0 q0_0 (a1 0) (a3 0) q0_3 q0_4 (a5 0) (a6 0) q0_7 q0_8 q0_9 q0_10 q0_13 ++ (wSt tc a1 g1 none (a2 0) ++ (wLg tc a2 g2 ++ (wSt tc a3 g3 q3_18 (a4 0) ++ (wLg tc a4 g4 ++ (wHd tc a5 g5 ++ (wCk tc a6 g6 (a5 0) (a7 0) ++ (wFa tc a7 g7))))))))) (wr := (wLg tc a2 g2 ++ (wSt tc a3 g3 q3_18 (a4 0) ++ (wLg tc a4 g4 ++ (wHd tc a5 g5 ++ (wCk tc a6 g6 (a5 0) (a7 0) ++ (wFa tc a7 g7))))))) [0, 1, 2, 3, 4, 5, 6, 7, 8, 9, 10] [11, 12, 13, 14, 15, 16, 17, 18, 19, 20, 21, 22, 23, 24, 25, 26, 27, 28, 29, 30, 31] [21, 22, 23, 24, 25, 26, 27, 28, 29, 30, 31, 0, 1, 2, 3, 4, 5, 6, 7, 8, 9, 10, 11, 12, 13, 14, 15, 16, 17, 18, 19, 20] (As := [.int x1]) (rest := []) q3_18 rfl (oUi (fun u q => (wPU tc a0 g0 q0_0 (a1 0) (a3 0) q0_3 q0_4 (a5 0) (a6 0) q0_7 q0_8 q0_9 q0_10 q0_13 ++ (wSt tc a1 g1 none (a2 0) ++ (wLg tc a2 g2 ++ (wSt tc a3 u.1 q (a4 0) ++ (wLg tc a4 u.2.1 ++ (wHd tc a5 u.2.2.1 ++ (wCk tc a6 g6 (a5 0) (a7 0) ++ (wFa tc a7 u.2.2.2))))))))) (h1_1 _ rfl)) X hT hQ (c_X11_needWriter l hst dC dI sk sv tc a0 q0_0 (a3 0) q0_3 q0_4 (a5 0) (a6 0) q0_7 q0_8 q0_9 q0_10 q0_13 a1 none (a2 0) g0 g1 x1 hc_1) mw_5_38 mw_5_40 mp_1_6 mw_1_1 mw_5_41 dc_X11_needWriter ⟨Nat.le_of_ble_eq_true rfl, Nat.le_of_ble_eq_true rfl⟩ rfl rfl ⟨Nat.le_of_ble_eq_true rfl, Nat.le_of_ble_eq_true rfl⟩ ⟨rfl, rfl, rfl, rfl, by decide, rfl, rfl⟩ hP (hDq _ _ _ _ _ _ _ _ _) hS 0 rfl rfl rfl hl.1 (Nat.le_of_ble_eq_true rfl) dX11_ahead_2 (Nat.le_of_ble_eq_true rfl) (Nat.le_of_ble_eq_true rfl)
  have h := h2_1 _ rfl
  refine callU_n (ws := (wPU tc a0 g0 q0_0 (a1 0) (a3 0) q0_3 q0_4 (a5 0) (a6 0) q0_7 q0_8 q0_9 q0_10 q0_13 ++ (wSt tc a1 g1 none (a2 0) ++ (wLg tc a2 g2 ++ (wSt tc a3 g3 q3_18 (a4 0) ++ (wLg tc a4 g4 ++ (wHd tc a5 g5 ++ (wCk tc a6 g6 (a5 0) (a7 0) ++ (wFa tc a7 g7))))))))) (ws' := (wPU tc a0 g0 q0_0 (a1 0) (a3 0) q0_3 q0_4 (a5 0) (a6 0) q0_7 q0_8 q0_9 q0_10 q0_13 ++ (wSt tc a1 g1 none (a2 0) ++ (wLg tc a2 g2 ++ (wSt tc a3 g3 q3_18 (a4 0) ++ (wLg tc a4 g4 ++ (wHd tc a5 g5 ++ (wCk tc a6 g6 (a5 0) (a7 0) ++ (wFa tc a7 g7))))))))) (wr := (wLg tc a2 g2 ++ (wSt tc a3 g3 q3_18 (a4 0) ++ (wLg tc a4 g4 ++ (wHd tc a5 g5 ++ (wCk tc a6 g6 (a5 0) (a7 0) ++ (wFa tc a7 g7))))))) [0, 1, 2, 3, 4, 5, 6, 7, 8, 9, 10] [11, 12, 13, 14, 15, 16, 17, 18, 19, 20, 21, 22, 23, 24, 25, 26, 27, 28, 29, 30, 31] [21, 22, 23, 24, 25, 26, 27, 28, 29, 30, 31, 0, 1, 2, 3, 4, 5, 6, 7, 8, 9, 10, 11, 12, 13, 14, 15, 16, 17, 18, 19, 20] (As := [.int x1]) (rest := []) X (c_X11_needWriter l hst dC dI sk sv tc a0 q0_0 (a3 0) q0_3 q0_4 (a5 0) (a6 0) q0_7 q0_8 q0_9 q0_10 q0_13 a1 none (a2 0) g0 g1 x1 hc_1) mw_5_38 mw_5_40 mp_1_6 mw_1_1 mw_5_41 dc_X11_needWriter ⟨Nat.le_of_ble_eq_true rfl, Nat.le_of_ble_eq_true rfl⟩ rfl rfl ⟨Nat.le_of_ble_eq_true rfl, Nat.le_of_ble_eq_true rfl⟩ ⟨rfl, rfl, rfl, rfl, by decide, rfl, rfl⟩ hP (hDq _ _ _ _ _ _ _ _ _) hS 0 rfl rfl rfl hl.1 (Nat.le_of_ble_eq_true rfl) dX11_ahead_2 (fun H locs hP hS => ?_)
  refine W.eq (g2 := F0 m 5 ls []) rfl ?_
  refine lv_aload_n X.1 X.2.1 dX11_ahead_5 rfl (lv_at hl 0 rfl) ?_
  refine lv_iload_n X.1 X.2.1 dX11_ahead_6 rfl (lv_at hl 2 rfl) ?_
  refine lv_iconst (v := 0) X.1 X.2.1 dX11_ahead_7 (by decide) ?_
  refine lv_bipush (v := 60) X.1 X.2.1 dX11_ahead_8 (by decide) ?_
  obtain ⟨ex_2, hc_2, h1_2, h2_2⟩ := lr_el h
  rcases ex_2 with e_2 | r_2
  · exact callU_t (ws := (wPU tc a0 g0 q0_0 (a1 0) (a3 0) q0_3 q0_4 (a5 0) (a6 0) q0_7 q0_8 q0_9 q0_10 q0_13 ++ (wSt tc a1 g1 none (a2 0) ++ (wLg tc a2 g2 ++ (wSt tc a3 g3 q3_18 (a4 0) ++ (wLg tc a4 g4 ++ (wHd tc a5 g5 ++ (wCk tc a6 g6 (a5 0) (a7 0) ++ (wFa tc a7 g7))))))))) (ws' := (wPU tc a0 g0 q0_0 (a1 0) (a3 0) q0_3 q0_4 (a5 0) (a6 0) q0_7 q0_8 q0_9 q0_10 q0_13 ++ (wSt tc a1 g1 none (a2 0) ++ (wLg tc a2 g2 ++ (wSt tc a3 g3 q3_18 (a4 0) ++ (wLg tc a4 g4 ++ (wHd tc a5 g5 ++ (wCk tc a6 g6 (a5 0) (a7 0) ++ (wFa tc a7 g7))))))))) (wr := (wSt tc a1 g1 none (a2 0) ++ (wLg tc a2 g2 ++ (wSt tc a3 g3 q3_18 (a4 0) ++ (wLg tc a4 g4 ++ (wHd tc a5 g5 ++ (wCk tc a6 g6 (a5 0) (a7 0) ++ (wFa tc a7 g7)))))))) [0] [1, 2, 3, 4, 5, 6, 7, 8, 9, 10, 11, 12, 13, 14, 15, 16, 17, 18, 19, 20, 21, 22, 23, 24, 25, 26, 27, 28, 29, 30, 31] [31, 0, 1, 2, 3, 4, 5, 6, 7, 8, 9, 10, 11, 12, 13, 14, 15, 16, 17, 18, 19, 20, 21, 22, 23, 24, 25, 26, 27, 28, 29, 30] (As := [.int x2, .int 0, .int 60]) (rest := []) q3_18 rfl (oUi (fun u q => (wPU tc a0 g0 q0_0 (a1 0) (a3 0) q0_3 q0_4 (a5 0) (a6 0) q0_7 q0_8 q0_9 q0_10 q0_13 ++ (wSt tc a1 g1 none (a2 0) ++ (wLg tc a2 g2 ++ (wSt tc a3 u.1 q (a4 0) ++ (wLg tc a4 u.2.1 ++ (wHd tc a5 u.2.2.1 ++ (wCk tc a6 g6 (a5 0) (a7 0) ++ (wFa tc a7 u.2.2.2))))))))) (h1_2 _ rfl)) X hT hQ (c_X11_needNumber l hst dC dI sk sv tc a0 q0_0 (a1 0) (a3 0) q0_3 q0_4 (a5 0) (a6 0) q0_7 q0_8 q0_9 q0_10 q0_13 g0 x2 0 60 hc_2) mw_5_199 mw_5_201 mp_1_8 mw_1_1 mw_5_202 dc_X11_needNumber ⟨Nat.le_of_ble_eq_true rfl, Nat.le_of_ble_eq_true rfl⟩ rfl rfl ⟨Nat.le_of_ble_eq_true rfl, Nat.le_of_ble_eq_true rfl⟩ ⟨rfl, rfl, rfl, rfl, by decide, rfl, rfl⟩ hP (hDq _ _ _ _ _ _ _ _ _) hS 0 rfl rfl rfl hl.1 (Nat.le_of_ble_eq_true rfl) dX11_ahead_10 (Nat.le_of_ble_eq_true rfl) (Nat.le_of_ble_eq_true rfl)
  have h := h2_2 _ rfl
  refine callU_n (ws := (wPU tc a0 g0 q0_0 (a1 0) (a3 0) q0_3 q0_4 (a5 0) (a6 0) q0_7 q0_8 q0_9 q0_10 q0_13 ++ (wSt tc a1 g1 none (a2 0) ++ (wLg tc a2 g2 ++ (wSt tc a3 g3 q3_18 (a4 0) ++ (wLg tc a4 g4 ++ (wHd tc a5 g5 ++ (wCk tc a6 g6 (a5 0) (a7 0) ++ (wFa tc a7 g7))))))))) (ws' := (wPU tc a0 g0 q0_0 (a1 0) (a3 0) q0_3 q0_4 (a5 0) (a6 0) q0_7 q0_8 q0_9 q0_10 q0_13 ++ (wSt tc a1 g1 none (a2 0) ++ (wLg tc a2 g2 ++ (wSt tc a3 g3 q3_18 (a4 0) ++ (wLg tc a4 g4 ++ (wHd tc a5 g5 ++ (wCk tc a6 g6 (a5 0) (a7 0) ++ (wFa tc a7 g7))))))))) (wr := (wSt tc a1 g1 none (a2 0) ++ (wLg tc a2 g2 ++ (wSt tc a3 g3 q3_18 (a4 0) ++ (wLg tc a4 g4 ++ (wHd tc a5 g5 ++ (wCk tc a6 g6 (a5 0) (a7 0) ++ (wFa tc a7 g7)))))))) [0] [1, 2, 3, 4, 5, 6, 7, 8, 9, 10, 11, 12, 13, 14, 15, 16, 17, 18, 19, 20, 21, 22, 23, 24, 25, 26, 27, 28, 29, 30, 31] [31, 0, 1, 2, 3, 4, 5, 6, 7, 8, 9, 10, 11, 12, 13, 14, 15, 16, 17, 18, 19, 20, 21, 22, 23, 24, 25, 26, 27, 28, 29, 30] (As := [.int x2, .int 0, .int 60]) (rest := []) X (c_X11_needNumber l hst dC dI sk sv tc a0 q0_0 (a1 0) (a3 0) q0_3 q0_4 (a5 0) (a6 0) q0_7 q0_8 q0_9 q0_10 q0_13 g0 x2 0 60 hc_2) mw_5_199 mw_5_201 mp_1_8 mw_1_1 mw_5_202 dc_X11_needNumber ⟨Nat.le_of_ble_eq_true rfl, Nat.le_of_ble_eq_true rfl⟩ rfl rfl ⟨Nat.le_of_ble_eq_true rfl, Nat.le_of_ble_eq_true rfl⟩ ⟨rfl, rfl, rfl, rfl, by decide, rfl, rfl⟩ hP (hDq _ _ _ _ _ _ _ _ _) hS 0 rfl rfl rfl hl.1 (Nat.le_of_ble_eq_true rfl) dX11_ahead_10 (fun H locs hP hS => ?_)
  refine W.eq (g2 := F0 m 13 ls []) rfl ?_
  refine lv_aload_n X.1 X.2.1 dX11_ahead_13 rfl (lv_at hl 0 rfl) ?_
  refine r_get (C := RX11) (T := TX11) (N := 15) (ci := 11) (v := .ref (a3 0)) X iw11 hP 0 rfl rfl 2 rfl mw_2_145 rfl dX11_ahead_14 ?_
  refine lv_aload_n X.1 X.2.1 dX11_ahead_17 rfl (lv_at hl 0 rfl) ?_
  refine r_get (C := RX11) (T := TX11) (N := 15) (ci := 11) (v := .ref (a1 0)) X iw11 hP 0 rfl rfl 1 rfl mw_2_144 rfl dX11_ahead_18 ?_
  obtain ⟨g3_3, g4_3, hc_3, h⟩ := bd2_el h
  refine call_Q (ws := (wPU tc a0 g0 q0_0 (a1 0) (a3 0) q0_3 q0_4 (a5 0) (a6 0) q0_7 q0_8 q0_9 q0_10 q0_13 ++ (wSt tc a1 g1 none (a2 0) ++ (wLg tc a2 g2 ++ (wSt tc a3 g3 q3_18 (a4 0) ++ (wLg tc a4 g4 ++ (wHd tc a5 g5 ++ (wCk tc a6 g6 (a5 0) (a7 0) ++ (wFa tc a7 g7))))))))) (ws' := (wPU tc a0 g0 q0_0 (a1 0) (a3 0) q0_3 q0_4 (a5 0) (a6 0) q0_7 q0_8 q0_9 q0_10 q0_13 ++ (wSt tc a1 g1 none (a2 0) ++ (wLg tc a2 g2 ++ (wSt tc a3 g3_3 none (a4 0) ++ (wLg tc a4 g4_3 ++ (wHd tc a5 g5 ++ (wCk tc a6 g6 (a5 0) (a7 0) ++ (wFa tc a7 g7))))))))) (wr := (wPU tc a0 g0 q0_0 (a1 0) (a3 0) q0_3 q0_4 (a5 0) (a6 0) q0_7 q0_8 q0_9 q0_10 q0_13 ++ (wHd tc a5 g5 ++ (wCk tc a6 g6 (a5 0) (a7 0) ++ (wFa tc a7 g7))))) [13, 14, 15, 16, 17, 18, 19, 20, 21, 22, 1, 2, 3, 4, 5, 6, 7, 8, 9, 10, 23, 24, 11, 12] [0, 25, 26, 27, 28, 29, 30, 31] [0, 18, 19, 20, 21, 22, 23, 24, 25, 26, 27, 30, 31, 8, 9, 10, 11, 12, 13, 14, 15, 16, 17, 28, 29, 1, 2, 3, 4, 5, 6, 7] (As := [.ref (a1 0)]) (rest := []) X (c_X9_copyFrom l dC dI sk sv tc a3 q3_18 a1 none a4 a2 g3 g1 g4 g2 hc_3) mw_3_79 mw_3_80 mw_3_81 mw_1_3 mw_3_82 dc_X9_copyFrom ⟨Nat.le_of_ble_eq_true rfl, Nat.le_of_ble_eq_true rfl⟩ rfl rfl ⟨Nat.le_of_ble_eq_true rfl, Nat.le_of_ble_eq_true rfl⟩ ⟨rfl, rfl, rfl, rfl, by decide, rfl, rfl⟩ hP (hDq _ _ _ _ _ _ _ _ _) hS 0 rfl rfl rfl hl.1 (Nat.le_of_ble_eq_true rfl) dX11_ahead_21 (fun H locs hP hS => ?_)
  refine W.eq (g2 := F0 m 24 ls []) rfl ?_
  refine lv_aload_n X.1 X.2.1 dX11_ahead_24 rfl (lv_at hl 0 rfl) ?_
  refine r_get (C := RX11) (T := TX11) (N := 15) (ci := 11) (v := .ref (a6 0)) X iw11 hP 0 rfl rfl 6 rfl mw_2_149 rfl dX11_ahead_25 ?_
  refine lv_aload_n X.1 X.2.1 dX11_ahead_28 rfl (lv_at hl 0 rfl) ?_
  refine r_get (C := RX11) (T := TX11) (N := 15) (ci := 11) (v := .ref (a3 0)) X iw11 hP 0 rfl rfl 2 rfl mw_2_145 rfl dX11_ahead_29 ?_
  refine lv_iload_n X.1 X.2.1 dX11_ahead_32 rfl (lv_at hl 2 rfl) ?_
  refine lv_iconst (v := 0) X.1 X.2.1 dX11_ahead_33 (by decide) ?_
  obtain ⟨r_4, g7_4, g5_4, g3_4, g4_4, hc_4, h⟩ := bd5_el h
  refine call_Q (ws := (wPU tc a0 g0 q0_0 (a1 0) (a3 0) q0_3 q0_4 (a5 0) (a6 0) q0_7 q0_8 q0_9 q0_10 q0_13 ++ (wSt tc a1 g1 none (a2 0) ++ (wLg tc a2 g2 ++ (wSt tc a3 g3_3 none (a4 0) ++ (wLg tc a4 g4_3 ++ (wHd tc a5 g5 ++ (wCk tc a6 g6 (a5 0) (a7 0) ++ (wFa tc a7 g7))))))))) (ws' := (wPU tc a0 g0 q0_0 (a1 0) (a3 0) q0_3 q0_4 (a5 0) (a6 0) q0_7 q0_8 q0_9 q0_10 q0_13 ++ (wSt tc a1 g1 none (a2 0) ++ (wLg tc a2 g2 ++ (wSt tc a3 g3_4 none (a4 0) ++ (wLg tc a4 g4_4 ++ (wHd tc a5 g5_4 ++ (wCk tc a6 g6 (a5 0) (a7 0) ++ (wFa tc a7 g7_4))))))))) (wr := (wPU tc a0 g0 q0_0 (a1 0) (a3 0) q0_3 q0_4 (a5 0) (a6 0) q0_7 q0_8 q0_9 q0_10 q0_13 ++ (wSt tc a1 g1 none (a2 0) ++ (wLg tc a2 g2)))) [30, 31, 25, 26, 27, 28, 29, 13, 14, 15, 16, 17, 18, 19, 20, 21, 22, 23, 24] [0, 1, 2, 3, 4, 5, 6, 7, 8, 9, 10, 11, 12] [0, 1, 2, 3, 4, 5, 6, 7, 8, 9, 10, 11, 12, 20, 21, 22, 23, 24, 25, 26, 27, 28, 29, 30, 31, 15, 16, 17, 18, 19, 13, 14] (As := [.ref (a3 0), .int x2, .int 0]) (rest := []) X (c_X0_pass_n l dC dI sk sv tc a6 a7 a5 a3 a4 g6 g7 g5 g3_3 g4_3 x2 0 hc_4) mw_5_208 mw_5_209 mw_5_210 mw_1_8 mw_5_211 dc_X0_pass ⟨Nat.le_of_ble_eq_true rfl, Nat.le_of_ble_eq_true rfl⟩ rfl rfl ⟨Nat.le_of_ble_eq_true rfl, Nat.le_of_ble_eq_true rfl⟩ ⟨rfl, rfl, rfl, rfl, by decide, rfl, rfl⟩ hP (hDq _ _ _ _ _ _ _ _ _) hS 0 rfl rfl rfl hl.1 (Nat.le_of_ble_eq_true rfl) dX11_ahead_34 (fun H locs hP hS => ?_)
  refine W.eq (g2 := F0 m 37 ls [.int r_4]) rfl ?_
  refine lv_pop X.1 X.2.1 dX11_ahead_37 rfl ?_
  refine lv_aload_n X.1 X.2.1 dX11_ahead_38 rfl (lv_at hl 0 rfl) ?_
  refine r_get (C := RX11) (T := TX11) (N := 15) (ci := 11) (v := .ref (a3 0)) X iw11 hP 0 rfl rfl 2 rfl mw_2_145 rfl dX11_ahead_39 ?_
  refine r_get (C := RX9) (T := TX9) (N := 20) (ci := 9) (v := .ref (a3 12)) X iw9 hP 13 rfl rfl 11 rfl mw_1_166 rfl dX11_ahead_42 ?_
  refine lv_iload_n X.1 X.2.1 dX11_ahead_45 rfl (lv_at hl 1 rfl) ?_
  obtain ⟨hg_5, h⟩ := gdi_el h
  refine r_iald X hP 21 0 rfl rfl hg_5 rfl dX11_ahead_46 ?_
  exact retU_i (fun u q => (wPU tc a0 g0 q0_0 (a1 0) (a3 0) q0_3 q0_4 (a5 0) (a6 0) q0_7 q0_8 q0_9 q0_10 q0_13 ++ (wSt tc a1 g1 none (a2 0) ++ (wLg tc a2 g2 ++ (wSt tc a3 u.1 q (a4 0) ++ (wLg tc a4 u.2.1 ++ (wHd tc a5 u.2.2.1 ++ (wCk tc a6 g6 (a5 0) (a7 0) ++ (wFa tc a7 u.2.2.2))))))))) none (Option.some.inj h) X hQ hP hS (Nat.le_of_ble_eq_true rfl) (Nat.le_of_ble_eq_true rfl) dX11_ahead_47

def f_X11_ahead_l (ln8 : Nat → Nat) (g0 : Pic) (g1 : Pic) (g2 : Pic) (g3 : Pic) (g4 : Pic) (g5 : Pic) (g6 : Pic) (g7 : Pic) (g8 : Pic) (x1 : Int32) (x2 : Int32) : Option ((Nat × (Pic × Pic × Pic × Pic × Pic)) ⊕ (Int32 × (Pic × Pic × Pic × Pic × Pic))) := lr (f_X11_needWriter g0 g1 x1) (fun e => .inl (e.1, (g3, g4, g5, g7, g8))) (fun _ => lr (f_X11_needNumber g0 x2 0 60) (fun e => .inl (e.1, (g3, g4, g5, g7, g8))) (fun _ => bd2 (f_X9_copyFrom g3 g1 g4 g2) (fun g3_3 g4_3 => bd6 (f_X0_pass_l ln8 g6 g8 g7 g5 g3_3 g4_3 x2 0) (fun r_4 g8_4 g7_4 g5_4 g3_4 g4_4 => gdi x1 5 (some (.inr ((g3_4 11 (x1.toNatClampNeg)), (g3_4, g4_4, g5_4, g7_4, g8_4))))))))
abbrev rm_X11_ahead_l : Room := { frames := 7, cells := 2, slots := 12, locals := 168 }
set_option maxHeartbeats 4000000 in
set_option maxRecDepth 100000 in
theorem c_X11_ahead_l (l : Launch) (hst : l.stackTraces = false) (dC : Nat → ClassId) (dI : Nat → Nat → Nat) (sk sv : Nat → Nat) (tc : Nat → ClassId) (ln8 : Nat → Nat) (a0 : Nat → Nat) (q0_0 : Nat) (q0_3 : Nat) (q0_4 : Nat) (q0_7 : Nat) (q0_8 : Nat) (q0_9 : Nat) (q0_10 : Nat) (q0_13 : Option Nat) (a1 : Nat → Nat) (a2 : Nat → Nat) (a3 : Nat → Nat) (q3_18 : Option Nat) (a4 : Nat → Nat) (a5 : Nat → Nat) (a6 : Nat → Nat) (a7 : Nat → Nat) (a8 : Nat → Nat) (g0 : Pic) (g1 : Pic) (g2 : Pic) (g3 : Pic) (g4 : Pic) (g5 : Pic) (g6 : Pic) (g7 : Pic) (g8 : Pic) (x1 : Int32) (x2 : Int32) {res : ((Nat × (Pic × Pic × Pic × Pic × Pic)) ⊕ (Int32 × (Pic × Pic × Pic × Pic × Pic)))} (h : f_X11_ahead_l ln8 g0 g1 g2 g3 g4 g5 g6 g7 g8 x1 x2 = some res) : CU l (dC, dI) sk sv (TY tc) yX11_ahead cX11_ahead 3 (some .int) rm_X11_ahead_l 2 12 [.ref (a0 0), .int x1, .int x2] (wPU tc a0 g0 q0_0 (a1 0) (a3 0) q0_3 q0_4 (a5 0) (a6 0) q0_7 q0_8 q0_9 q0_10 q0_13 ++ (wSt tc a1 g1 (some (a8 0)) (a2 0) ++ (wLg tc a2 g2 ++ (wSt tc a3 g3 q3_18 (a4 0) ++ (wLg tc a4 g4 ++ (wHd tc a5 g5 ++ (wCk tc a6 g6 (a5 0) (a7 0) ++ (wFa tc a7 g7 ++ (wLw tc a8 g8 ln8))))))))) (oI (fun u q => (wPU tc a0 g0 q0_0 (a1 0) (a3 0) q0_3 q0_4 (a5 0) (a6 0) q0_7 q0_8 q0_9 q0_10 q0_13 ++ (wSt tc a1 g1 (some (a8 0)) (a2 0) ++ (wLg tc a2 g2 ++ (wSt tc a3 u.1 q (a4 0) ++ (wLg tc a4 u.2.1 ++ (wHd tc a5 u.2.2.1 ++ (wCk tc a6 g6 (a5 0) (a7 0) ++ (wFa tc a7 u.2.2.2.1 ++ (wLw tc a8 u.2.2.2.2 ln8)))))))))) res) := by
  refine ofCU (by decide) (Nat.le_of_ble_eq_true rfl) ?_
  intro pr e s m args below meth c A Q ls H locs X hT hQ hD0 hP hS hl
  have hD : ∀ z0 z1 z2 z3 z4 z5 z6 z7 z8, va_D A (wPU tc a0 z0 q0_0 (a1 0) (a3 0) q0_3 q0_4 (a5 0) (a6 0) q0_7 q0_8 q0_9 q0_10 q0_13 ++ (wSt tc a1 z1 (some (a8 0)) (a2 0) ++ (wLg tc a2 z2 ++ (wSt tc a3 z3 q3_18 (a4 0) ++ (wLg tc a4 z4 ++ (wHd tc a5 z5 ++ (wCk tc a6 z6 (a5 0) (a7 0) ++ (wFa tc a7 z7 ++ (wLw tc a8 z8 ln8))))))))) := fun z0 z1 z2 z3 z4 z5 z6 z7 z8 => D_fst (ws := (wPU tc a0 g0 q0_0 (a1 0) (a3 0) q0_3 q0_4 (a5 0) (a6 0) q0_7 q0_8 q0_9 q0_10 q0_13 ++ (wSt tc a1 g1 (some (a8 0)) (a2 0) ++ (wLg tc a2 g2 ++ (wSt tc a3 g3 q3_18 (a4 0) ++ (wLg tc a4 g4 ++ (wHd tc a5 g5 ++ (wCk tc a6 g6 (a5 0) (a7 0) ++ (wFa tc a7 g7 ++ (wLw tc a8 g8 ln8)))))))))) rfl hD0
  have hDq : ∀ z0 z1 z2 z3 z4 z5 z6 z7 z8 (zq : Option Nat), va_D A (wPU tc a0 z0 q0_0 (a1 0) (a3 0) q0_3 q0_4 (a5 0) (a6 0) q0_7 q0_8 q0_9 q0_10 q0_13 ++ (wSt tc a1 z1 (some (a8 0)) (a2 0) ++ (wLg tc a2 z2 ++ (wSt tc a3 z3 zq (a4 0) ++ (wLg tc a4 z4 ++ (wHd tc a5 z5 ++ (wCk tc a6 z6 (a5 0) (a7 0) ++ (wFa tc a7 z7 ++ (wLw tc a8 z8 ln8))))))))) := fun z0 z1 z2 z3 z4 z5 z6 z7 z8 zq => D_fst (ws := (wPU tc a0 g0 q0_0 (a1 0) (a3 0) q0_3 q0_4 (a5 0) (a6 0) q0_7 q0_8 q0_9 q0_10 q0_13 ++ (wSt tc a1 g1 (some (a8 0)) (a2 0) ++ (wLg tc a2 g2 ++ (wSt tc a3 g3 q3_18 (a4 0) ++ (wLg tc a4 g4 ++ (wHd tc a5 g5 ++ (wCk tc a6 g6 (a5 0) (a7 0) ++ (wFa tc a7 g7 ++ (wLw tc a8 g8 ln8)))))))))) rfl hD0
  have hl : lv_has ls 3 [(0, .ref (a0 0)), (1, .int x1), (2, .int x2)] := hl
  unfold f_X11_ahead_l at h
  refine lv_aload_n X.1 X.2.1 dX11_ahead_0 rfl (lv_at hl 0 rfl) ?_
  refine lv_iload_n X.1 X.2.1 dX11_ahead_1 rfl (lv_at hl 1 rfl) ?_
  obtain ⟨ex_1, hc_1, h1_1, h2_1⟩ := lr_el h
  rcases ex_1 with e_1 | r_1
  · exact callU_t (ws := (wPU tc a0 g0 q0_0 (a1 0) (a3 0) q0_3 q0_4 (a5 0) (a6 0) q0_7 q0_8 q0_9 q0_10 q0_13 ++ (wSt tc a1 g1 (some (a8 0)) (a2 0) ++ (wLg tc a2 g2 ++ (wSt tc a3 g3 q3_18 (a4 0) ++ (wLg tc a4 g4 ++ (wHd tc a5 g5 ++ (wCk tc a6 g6 (a5 0) (a7 0) ++ (wFa tc a7 g7 ++ (wLw tc a8 g8 ln8)))))))))) (ws' := (wPU tc a0 g0 q0_0 (a1 0) (a3 0) q0_3 q0_4 (a5 0) (a6 0) q0_7 q0_8 q0_9 q0_10 q0_13 ++ (wSt tc a1 g1 (some (a8 0)) (a2 0) ++ (wLg tc a2 g2 ++ (wSt tc a3 g3 q3_18 (a4 0) ++ (wLg tc a4 g4 ++ (wHd tc a5 g5 ++ (wCk tc a6 g6 (a5 0) (a7 0) ++ (wFa tc a7 g7 ++ (wLw tc a8 g8 ln8)))))))))) (wr := (wLg tc a2 g2 ++ (wSt tc a3 g3 q3_18 (a4 0) ++ (wLg tc a4 g4 ++ (wHd tc a5 g5 ++ (wCk tc a6 g6 (a5 0) (a7 0) ++ (wFa tc a7 g7 ++ (wLw tc a8 g8 ln8)))))))) [0, 1, 2, 3, 4, 5, 6, 7, 8, 9, 10] [11, 12, 13, 14, 15, 16, 17, 18, 19, 20, 21, 22, 23, 24, 25, 26, 27, 28, 29, 30, 31, 32, 33, 34, 35, 36, 37] [27, 28, 29, 30, 31, 32, 33, 34, 35, 36, 37, 0, 1, 2, 3, 4, 5, 6, 7, 8, 9, 10, 11, 12, 13, 14, 15, 16, 17, 18, 19, 20, 21, 22, 23, 24, 25, 26] (As := [.int x1]) (rest := []) q3_18 rfl (oUi (fun u q => (wPU tc a0 g0 q0_0 (a1 0) (a3 0) q0_3 q0_4 (a5 0) (a6 0) q0_7 q0_8 q0_9 q0_10 q0_13 ++ (wSt tc a1 g1 (some (a8 0)) (a2 0) ++ (wLg tc a2 g2 ++ (wSt tc a3 u.1 q (a4 0) ++ (wLg tc a4 u.2.1 ++ (wHd tc a5 u.2.2.1 ++ (wCk tc a6 g6 (a5 0) (a7 0) ++ (wFa tc a7 u.2.2.2.1 ++ (wLw tc a8 u.2.2.2.2 ln8)))))))))) (h1_1 _ rfl)) X hT hQ (c_X11_needWriter l hst dC dI sk sv tc a0 q0_0 (a3 0) q0_3 q0_4 (a5 0) (a6 0) q0_7 q0_8 q0_9 q0_10 q0_13 a1 (some (a8 0)) (a2 0) g0 g1 x1 hc_1) mw_5_38 mw_5_40 mp_1_6 mw_1_1 mw_5_41 dc_X11_needWriter ⟨Nat.le_of_ble_eq_true rfl, Nat.le_of_ble_eq_true rfl⟩ rfl rfl ⟨Nat.le_of_ble_eq_true rfl, Nat.le_of_ble_eq_true rfl⟩ ⟨rfl, rfl, rfl, rfl, by decide, rfl, rfl⟩ hP (hDq _ _ _ _ _ _ _ _ _ _) hS 0 rfl rfl rfl hl.1 (Nat.le_of_ble_eq_true rfl) dX11_ahead_2 (Nat.le_of_ble_eq_true rfl) (Nat.le_of_ble_eq_true rfl)
  have h := h2_1 _ rfl
  refine callU_n (ws := (wPU tc a0 g0 q0_0 (a1 0) (a3 0) q0_3 q0_4 (a5 0) (a6 0) q0_7 q0_8 q0_9 q0_10 q0_13 ++ (wSt tc a1 g1 (some (a8 0)) (a2 0) ++ (wLg tc a2 g2 ++ (wSt tc a3 g3 q3_18 (a4 0) ++ (wLg tc a4 g4 ++ (wHd tc a5 g5 ++ (wCk tc a6 g6 (a5 0) (a7 0) ++ (wFa tc a7 g7 ++ (wLw tc a8 g8 ln8)))))))))) (ws' := (wPU tc a0 g0 q0_0 (a1 0) (a3 0) q0_3 q0_4 (a5 0) (a6 0) q0_7 q0_8 q0_9 q0_10 q0_13 ++ (wSt tc a1 g1 (some (a8 0)) (a2 0) ++ (wLg tc a2 g2 ++ (wSt tc a3 g3 q3_18 (a4 0) ++ (wLg tc a4 g4 ++ (wHd tc a5 g5 ++ (wCk tc a6 g6 (a5 0) (a7 0) ++ (wFa tc a7 g7 ++ (wLw tc a8 g8 ln8)))))))))) (wr := (wLg tc a2 g2 ++ (wSt tc a3 g3 q3_18 (a4 0) ++ (wLg tc a4 g4 ++ (wHd tc a5 g5 ++ (wCk tc a6 g6 (a5 0) (a7 0) ++ (wFa tc a7 g7 ++ (wLw tc a8 g8 ln8)))))))) [0, 1, 2, 3, 4, 5, 6, 7, 8, 9, 10] [11, 12, 13, 14, 15, 16, 17, 18, 19, 20, 21, 22, 23, 24, 25, 26, 27, 28, 29, 30, 31, 32, 33, 34, 35, 36, 37] [27, 28, 29, 30, 31, 32, 33, 34, 35, 36, 37, 0, 1, 2, 3, 4, 5, 6, 7, 8, 9, 10, 11, 12, 13, 14, 15, 16, 17, 18, 19, 20, 21, 22, 23, 24, 25, 26] (As := [.int x1]) (rest := []) X (c_X11_needWriter l hst dC dI sk sv tc a0 q0_0 (a3 0) q0_3 q0_4 (a5 0) (a6 0) q0_7 q0_8 q0_9 q0_10 q0_13 a1 (some (a8 0)) (a2 0) g0 g1 x1 hc_1) mw_5_38 mw_5_40 mp_1_6 mw_1_1 mw_5_41 dc_X11_needWriter ⟨Nat.le_of_ble_eq_true rfl, Nat.le_of_ble_eq_true rfl⟩ rfl rfl ⟨Nat.le_of_ble_eq_true rfl, Nat.le_of_ble_eq_true rfl⟩ ⟨rfl, rfl, rfl, rfl, by decide, rfl, rfl⟩ hP (hDq _ _ _ _ _ _ _ _ _ _) hS 0 rfl rfl rfl hl.1 (Nat.le_of_ble_eq_true rfl) dX11_ahead_2 (fun H locs hP hS => ?_)
  refine W.eq (g2 := F0 m 5 ls []) rfl ?_
  refine lv_aload_n X.1 X.2.1 dX11_ahead_5 rfl (lv_at hl 0 rfl) ?_
  refine lv_iload_n X.1 X.2.1 dX11_ahead_6 rfl (lv_at hl 2 rfl) ?_
  refine lv_iconst (v := 0) X.1 X.2.1 dX11_ahead_7 (by decide) ?_
  refine lv_bipush (v := 60) X.1 X.2.1 dX11_ahead_8 (by decide) ?_
  obtain ⟨ex_2, hc_2, h1_2, h2_2⟩ := lr_el h
  rcases ex_2 with e_2 | r_2
  · exact callU_t (ws := (wPU tc a0 g0 q0_0 (a1 0) (a3 0) q0_3 q0_4 (a5 0) (a6 0) q0_7 q0_8 q0_9 q0_10 q0_13 ++ (wSt tc a1 g1 (some (a8 0)) (a2 0) ++ (wLg tc a2 g2 ++ (wSt tc a3 g3 q3_18 (a4 0) ++ (wLg tc a4 g4 ++ (wHd tc a5 g5 ++ (wCk tc a6 g6 (a5 0) (a7 0) ++ (wFa tc a7 g7 ++ (wLw tc a8 g8 ln8)))))))))) (ws' := (wPU tc a0 g0 q0_0 (a1 0) (a3 0) q0_3 q0_4 (a5 0) (a6 0) q0_7 q0_8 q0_9 q0_10 q0_13 ++ (wSt tc a1 g1 (some (a8 0)) (a2 0) ++ (wLg tc a2 g2 ++ (wSt tc a3 g3 q3_18 (a4 0) ++ (wLg tc a4 g4 ++ (wHd tc a5 g5 ++ (wCk tc a6 g6 (a5 0) (a7 0) ++ (wFa tc a7 g7 ++ (wLw tc a8 g8 ln8)))))))))) (wr := (wSt tc a1 g1 (some (a8 0)) (a2 0) ++ (wLg tc a2 g2 ++ (wSt tc a3 g3 q3_18 (a4 0) ++ (wLg tc a4 g4 ++ (wHd tc a5 g5 ++ (wCk tc a6 g6 (a5 0) (a7 0) ++ (wFa tc a7 g7 ++ (wLw tc a8 g8 ln8))))))))) [0] [1, 2, 3, 4, 5, 6, 7, 8, 9, 10, 11, 12, 13, 14, 15, 16, 17, 18, 19, 20, 21, 22, 23, 24, 25, 26, 27, 28, 29, 30, 31, 32, 33, 34, 35, 36, 37] [37, 0, 1, 2, 3, 4, 5, 6, 7, 8, 9, 10, 11, 12, 13, 14, 15, 16, 17, 18, 19, 20, 21, 22, 23, 24, 25, 26, 27, 28, 29, 30, 31, 32, 33, 34, 35, 36] (As := [.int x2, .int 0, .int 60]) (rest := []) q3_18 rfl (oUi (fun u q => (wPU tc a0 g0 q0_0 (a1 0) (a3 0) q0_3 q0_4 (a5 0) (a6 0) q0_7 q0_8 q0_9 q0_10 q0_13 ++ (wSt tc a1 g1 (some (a8 0)) (a2 0) ++ (wLg tc a2 g2 ++ (wSt tc a3 u.1 q (a4 0) ++ (wLg tc a4 u.2.1 ++ (wHd tc a5 u.2.2.1 ++ (wCk tc a6 g6 (a5 0) (a7 0) ++ (wFa tc a7 u.2.2.2.1 ++ (wLw tc a8 u.2.2.2.2 ln8)))))))))) (h1_2 _ rfl)) X hT hQ (c_X11_needNumber l hst dC dI sk sv tc a0 q0_0 (a1 0) (a3 0) q0_3 q0_4 (a5 0) (a6 0) q0_7 q0_8 q0_9 q0_10 q0_13 g0 x2 0 60 hc_2) mw_5_199 mw_5_201 mp_1_8 mw_1_1 mw_5_202 dc_X11_needNumber ⟨Nat.le_of_ble_eq_true rfl, Nat.le_of_ble_eq_true rfl⟩ rfl rfl ⟨Nat.le_of_ble_eq_true rfl, Nat.le_of_ble_eq_true rfl⟩ ⟨rfl, rfl, rfl, rfl, by decide, rfl, rfl⟩ hP (hDq _ _ _ _ _ _ _ _ _ _) hS 0 rfl rfl rfl hl.1 (Nat.le_of_ble_eq_true rfl) dX11_ahead_10 (Nat.le_of_ble_eq_true rfl) (Nat.le_of_ble_eq_true rfl)
  have h := h2_2 _ rfl
  refine callU_n (ws := (wPU tc a0 g0 q0_0 (a1 0) (a3 0) q0_3 q0_4 (a5 0) (a6 0) q0_7 q0_8 q0_9 q0_10 q0_13 ++ (wSt tc a1 g1 (some (a8 0)) (a2 0) ++ (wLg tc a2 g2 ++ (wSt tc a3 g3 q3_18 (a4 0) ++ (wLg tc a4 g4 ++ (wHd tc a5 g5 ++ (wCk tc a6 g6 (a5 0) (a7 0) ++ (wFa tc a7 g7 ++ (wLw tc a8 g8 ln8)))))))))) (ws' := (wPU tc a0 g0 q0_0 (a1 0) (a3 0) q0_3 q0_4 (a5 0) (a6 0) q0_7 q0_8 q0_9 q0_10 q0_13 ++ (wSt tc a1 g1 (some (a8 0)) (a2 0) ++ (wLg tc a2 g2 ++ (wSt tc a3 g3 q3_18 (a4 0) ++ (wLg tc a4 g4 ++ (wHd tc a5 g5 ++ (wCk tc a6 g6 (a5 0) (a7 0) ++ (wFa tc a7 g7 ++ (wLw tc a8 g8 ln8)))))))))) (wr := (wSt tc a1 g1 (some (a8 0)) (a2 0) ++ (wLg tc a2 g2 ++ (wSt tc a3 g3 q3_18 (a4 0) ++ (wLg tc a4 g4 ++ (wHd tc a5 g5 ++ (wCk tc a6 g6 (a5 0) (a7 0) ++ (wFa tc a7 g7 ++ (wLw tc a8 g8 ln8))))))))) [0] [1, 2, 3, 4, 5, 6, 7, 8, 9, 10, 11, 12, 13, 14, 15, 16, 17, 18, 19, 20, 21, 22, 23, 24, 25, 26, 27, 28, 29, 30, 31, 32, 33, 34, 35, 36, 37] [37, 0, 1, 2, 3, 4, 5, 6, 7, 8, 9, 10, 11, 12, 13, 14, 15, 16, 17, 18, 19, 20, 21, 22, 23, 24, 25, 26, 27, 28, 29, 30, 31, 32, 33, 34, 35, 36] (As := [.int x2, .int 0, .int 60]) (rest := []) X (c_X11_needNumber l hst dC dI sk sv tc a0 q0_0 (a1 0) (a3 0) q0_3 q0_4 (a5 0) (a6 0) q0_7 q0_8 q0_9 q0_10 q0_13 g0 x2 0 60 hc_2) mw_5_199 mw_5_201 mp_1_8 mw_1_1 mw_5_202 dc_X11_needNumber ⟨Nat.le_of_ble_eq_true rfl, Nat.le_of_ble_eq_true rfl⟩ rfl rfl ⟨Nat.le_of_ble_eq_true rfl, Nat.le_of_ble_eq_true rfl⟩ ⟨rfl, rfl, rfl, rfl, by decide, rfl, rfl⟩ hP (hDq _ _ _ _ _ _ _ _ _ _) hS 0 rfl rfl rfl hl.1 (Nat.le_of_ble_eq_true rfl) dX11_ahead_10 (fun H locs hP hS => ?_)
  refine W.eq (g2 := F0 m 13 ls []) rfl ?_
  refine lv_aload_n X.1 X.2.1 dX11_ahead_13 rfl (lv_at hl 0 rfl) ?_
  refine r_get (C := RX11) (T := TX11) (N := 15) (ci := 11) (v := .ref (a3 0)) X iw11 hP 0 rfl rfl 2 rfl mw_2_145 rfl dX11_ahead_14 ?_
  refine lv_aload_n X.1 X.2.1 dX11_ahead_17 rfl (lv_at hl 0 rfl) ?_
  refine r_get (C := RX11) (T := TX11) (N := 15) (ci := 11) (v := .ref (a1 0)) X iw11 hP 0 rfl rfl 1 rfl mw_2_144 rfl dX11_ahead_18 ?_
  obtain ⟨g3_3, g4_3, hc_3, h⟩ := bd2_el h
  refine call_Q (ws := (wPU tc a0 g0 q0_0 (a1 0) (a3 0) q0_3 q0_4 (a5 0) (a6 0) q0_7 q0_8 q0_9 q0_10 q0_13 ++ (wSt tc a1 g1 (some (a8 0)) (a2 0) ++ (wLg tc a2 g2 ++ (wSt tc a3 g3 q3_18 (a4 0) ++ (wLg tc a4 g4 ++ (wHd tc a5 g5 ++ (wCk tc a6 g6 (a5 0) (a7 0) ++ (wFa tc a7 g7 ++ (wLw tc a8 g8 ln8)))))))))) (ws' := (wPU tc a0 g0 q0_0 (a1 0) (a3 0) q0_3 q0_4 (a5 0) (a6 0) q0_7 q0_8 q0_9 q0_10 q0_13 ++ (wSt tc a1 g1 (some (a8 0)) (a2 0) ++ (wLg tc a2 g2 ++ (wSt tc a3 g3_3 (some (a8 0)) (a4 0) ++ (wLg tc a4 g4_3 ++ (wHd tc a5 g5 ++ (wCk tc a6 g6 (a5 0) (a7 0) ++ (wFa tc a7 g7 ++ (wLw tc a8 g8 ln8)))))))))) (wr := (wPU tc a0 g0 q0_0 (a1 0) (a3 0) q0_3 q0_4 (a5 0) (a6 0) q0_7 q0_8 q0_9 q0_10 q0_13 ++ (wHd tc a5 g5 ++ (wCk tc a6 g6 (a5 0) (a7 0) ++ (wFa tc a7 g7 ++ (wLw tc a8 g8 ln8)))))) [13, 14, 15, 16, 17, 18, 19, 20, 21, 22, 1, 2, 3, 4, 5, 6, 7, 8, 9, 10, 23, 24, 11, 12] [0, 25, 26, 27, 28, 29, 30, 31, 32, 33, 34, 35, 36, 37] [0, 24, 25, 26, 27, 28, 29, 30, 31, 32, 33, 36, 37, 14, 15, 16, 17, 18, 19, 20, 21, 22, 23, 34, 35, 1, 2, 3, 4, 5, 6, 7, 8, 9, 10, 11, 12, 13] (As := [.ref (a1 0)]) (rest := []) X (c_X9_copyFrom l dC dI sk sv tc a3 q3_18 a1 (some (a8 0)) a4 a2 g3 g1 g4 g2 hc_3) mw_3_79 mw_3_80 mw_3_81 mw_1_3 mw_3_82 dc_X9_copyFrom ⟨Nat.le_of_ble_eq_true rfl, Nat.le_of_ble_eq_true rfl⟩ rfl rfl ⟨Nat.le_of_ble_eq_true rfl, Nat.le_of_ble_eq_true rfl⟩ ⟨rfl, rfl, rfl, rfl, by decide, rfl, rfl⟩ hP (hDq _ _ _ _ _ _ _ _ _ _) hS 0 rfl rfl rfl hl.1 (Nat.le_of_ble_eq_true rfl) dX11_ahead_21 (fun H locs hP hS => ?_)
  refine W.eq (g2 := F0 m 24 ls []) rfl ?_
  refine lv_aload_n X.1 X.2.1 dX11_ahead_24 rfl (lv_at hl 0 rfl) ?_
  refine r_get (C := RX11) (T := TX11) (N := 15) (ci := 11) (v := .ref (a6 0)) X iw11 hP 0 rfl rfl 6 rfl mw_2_149 rfl dX11_ahead_25 ?_
  refine lv_aload_n X.1 X.2.1 dX11_ahead_28 rfl (lv_at hl 0 rfl) ?_
  refine r_get (C := RX11) (T := TX11) (N := 15) (ci := 11) (v := .ref (a3 0)) X iw11 hP 0 rfl rfl 2 rfl mw_2_145 rfl dX11_ahead_29 ?_
  refine lv_iload_n X.1 X.2.1 dX11_ahead_32 rfl (lv_at hl 2 rfl) ?_
  refine lv_iconst (v := 0) X.1 X.2.1 dX11_ahead_33 (by decide) ?_
  obtain ⟨r_4, g8_4, g7_4, g5_4, g3_4, g4_4, hc_4, h⟩ := bd6_el h
  refine call_Q (ws := (wPU tc a0 g0 q0_0 (a1 0) (a3 0) q0_3 q0_4 (a5 0) (a6 0) q0_7 q0_8 q0_9 q0_10 q0_13 ++ (wSt tc a1 g1 (some (a8 0)) (a2 0) ++ (wLg tc a2 g2 ++ (wSt tc a3 g3_3 (some (a8 0)) (a4 0) ++ (wLg tc a4 g4_3 ++ (wHd tc a5 g5 ++ (wCk tc a6 g6 (a5 0) (a7 0) ++ (wFa tc a7 g7 ++ (wLw tc a8 g8 ln8)))))))))) (ws' := (wPU tc a0 g0 q0_0 (a1 0) (a3 0) q0_3 q0_4 (a5 0) (a6 0) q0_7 q0_8 q0_9 q0_10 q0_13 ++ (wSt tc a1 g1 (some (a8 0)) (a2 0) ++ (wLg tc a2 g2 ++ (wSt tc a3 g3_4 (some (a8 0)) (a4 0) ++ (wLg tc a4 g4_4 ++ (wHd tc a5 g5_4 ++ (wCk tc a6 g6 (a5 0) (a7 0) ++ (wFa tc a7 g7_4 ++ (wLw tc a8 g8_4 ln8)))))))))) (wr := (wPU tc a0 g0 q0_0 (a1 0) (a3 0) q0_3 q0_4 (a5 0) (a6 0) q0_7 q0_8 q0_9 q0_10 q0_13 ++ (wSt tc a1 g1 (some (a8 0)) (a2 0) ++ (wLg tc a2 g2)))) [30, 32, 33, 34, 35, 36, 37, 31, 25, 26, 27, 28, 29, 13, 14, 15, 16, 17, 18, 19, 20, 21, 22, 23, 24] [0, 1, 2, 3, 4, 5, 6, 7, 8, 9, 10, 11, 12] [0, 1, 2, 3, 4, 5, 6, 7, 8, 9, 10, 11, 12, 26, 27, 28, 29, 30, 31, 32, 33, 34, 35, 36, 37, 21, 22, 23, 24, 25, 13, 20, 14, 15, 16, 17, 18, 19] (As := [.ref (a3 0), .int x2, .int 0]) (rest := []) X (c_X0_pass_l l dC dI sk sv tc ln8 a6 a8 a7 a5 a3 a4 g6 g8 g7 g5 g3_3 g4_3 x2 0 hc_4) mw_5_208 mw_5_209 mw_5_210 mw_1_8 mw_5_211 dc_X0_pass ⟨Nat.le_of_ble_eq_true rfl, Nat.le_of_ble_eq_true rfl⟩ rfl rfl ⟨Nat.le_of_ble_eq_true rfl, Nat.le_of_ble_eq_true rfl⟩ ⟨rfl, rfl, rfl, rfl, by decide, rfl, rfl⟩ hP (hDq _ _ _ _ _ _ _ _ _ _) hS 0 rfl rfl rfl hl.1 (Nat.le_of_ble_eq_true rfl) dX11_ahead_34 (fun H locs hP hS => ?_)
  refine W.eq (g2 := F0 m 37 ls [.int r_4]) rfl ?_
  refine lv_pop X.1 X.2.1 dX11_ahead_37 rfl ?_
  refine lv_aload_n X.1 X.2.1 dX11_ahead_38 rfl (lv_at hl 0 rfl) ?_
  refine r_get (C := RX11) (T := TX11) (N := 15) (ci := 11) (v := .ref (a3 0)) X iw11 hP 0 rfl rfl 2 rfl mw_2_145 rfl dX11_ahead_39 ?_
  refine r_get (C := RX9) (T := TX9) (N := 20) (ci := 9) (v := .ref (a3 12)) X iw9 hP 13 rfl rfl 11 rfl mw_1_166 rfl dX11_ahead_42 ?_
  refine lv_iload_n X.1 X.2.1 dX11_ahead_45 rfl (lv_at hl 1 rfl) ?_
  obtain ⟨hg_5, h⟩ := gdi_el h
  refine r_iald X hP 21 0 rfl rfl hg_5 rfl dX11_ahead_46 ?_
  exact retU_i (fun u q => (wPU tc a0 g0 q0_0 (a1 0) (a3 0) q0_3 q0_4 (a5 0) (a6 0) q0_7 q0_8 q0_9 q0_10 q0_13 ++ (wSt tc a1 g1 (some (a8 0)) (a2 0) ++ (wLg tc a2 g2 ++ (wSt tc a3 u.1 q (a4 0) ++ (wLg tc a4 u.2.1 ++ (wHd tc a5 u.2.2.1 ++ (wCk tc a6 g6 (a5 0) (a7 0) ++ (wFa tc a7 u.2.2.2.1 ++ (wLw tc a8 u.2.2.2.2 ln8)))))))))) (some (a8 0)) (Option.some.inj h) X hQ hP hS (Nat.le_of_ble_eq_true rfl) (Nat.le_of_ble_eq_true rfl) dX11_ahead_47

def f_X11_trial_n (g0 : Pic) (g1 : Pic) (g2 : Pic) (g3 : Pic) (g4 : Pic) (g5 : Pic) (g6 : Pic) (g7 : Pic) (x1 : Int32) (x2 : Int32) : Option ((Nat × (Pic × Pic × Pic × Pic)) ⊕ (Int32 × (Pic × Pic × Pic × Pic))) := lr (f_X11_needNumber g0 x1 0 60) (fun e => .inl (e.1, (g3, g4, g5, g7))) (fun _ => bd2 (f_X9_copyFrom g3 g1 g4 g2) (fun g3_2 g4_2 => bd5 (f_X0_pass_n g6 g7 g5 g3_2 g4_2 x1 1) (fun r_3 g7_3 g5_3 g3_3 g4_3 => jn (fun (s0_J55 : Int32) => some (.inr (s0_J55, (g3_3, g4_3, g5_3, g7_3)))) (fun J55 => (if x2 = 0 then bd (f_X9_onAllPages g3_3 1) (fun r_4 => J55 r_4) else bd (f_X9_tiredTogether g3_3) (fun r_5 => J55 r_5))))))
abbrev rm_X11_trial_n : Room := { frames := 7, cells := 1, slots := 6, locals := 143 }
set_option maxHeartbeats 4000000 in
set_option maxRecDepth 100000 in
theorem c_X11_trial_n (l : Launch) (hst : l.stackTraces = false) (dC : Nat → ClassId) (dI : Nat → Nat → Nat) (sk sv : Nat → Nat) (tc : Nat → ClassId) (a0 : Nat → Nat) (q0_0 : Nat) (q0_3 : Nat) (q0_4 : Nat) (q0_7 : Nat) (q0_8 : Nat) (q0_9 : Nat) (q0_10 : Nat) (q0_13 : Option Nat) (a1 : Nat → Nat) (a2 : Nat → Nat) (a3 : Nat → Nat) (q3_18 : Option Nat) (a4 : Nat → Nat) (a5 : Nat → Nat) (a6 : Nat → Nat) (a7 : Nat → Nat) (g0 : Pic) (g1 : Pic) (g2 : Pic) (g3 : Pic) (g4 : Pic) (g5 : Pic) (g6 : Pic) (g7 : Pic) (x1 : Int32) (x2 : Int32) {res : ((Nat × (Pic × Pic × Pic × Pic)) ⊕ (Int32 × (Pic × Pic × Pic × Pic)))} (h : f_X11_trial_n g0 g1 g2 g3 g4 g5 g6 g7 x1 x2 = some res) : CU l (dC, dI) sk sv (TY tc) yX11_trial cX11_trial 3 (some .int) rm_X11_trial_n 1 6 [.ref (a0 0), .int x1, .int x2] (wPU tc a0 g0 q0_0 (a1 0) (a3 0) q0_3 q0_4 (a5 0) (a6 0) q0_7 q0_8 q0_9 q0_10 q0_13 ++ (wSt tc a1 g1 none (a2 0) ++ (wLg tc a2 g2 ++ (wSt tc a3 g3 q3_18 (a4 0) ++ (wLg tc a4 g4 ++ (wHd tc a5 g5 ++ (wCk tc a6 g6 (a5 0) (a7 0) ++ (wFa tc a7 g7)))))))) (oI (fun u q => (wPU tc a0 g0 q0_0 (a1 0) (a3 0) q0_3 q0_4 (a5 0) (a6 0) q0_7 q0_8 q0_9 q0_10 q0_13 ++ (wSt tc a1 g1 none (a2 0) ++ (wLg tc a2 g2 ++ (wSt tc a3 u.1 q (a4 0) ++ (wLg tc a4 u.2.1 ++ (wHd tc a5 u.2.2.1 ++ (wCk tc a6 g6 (a5 0) (a7 0) ++ (wFa tc a7 u.2.2.2))))))))) res) := by
  refine ofCU (by decide) (Nat.le_of_ble_eq_true rfl) ?_
  intro pr e s m args below meth c A Q ls H locs X hT hQ hD0 hP hS hl
  have hD : ∀ z0 z1 z2 z3 z4 z5 z6 z7, va_D A (wPU tc a0 z0 q0_0 (a1 0) (a3 0) q0_3 q0_4 (a5 0) (a6 0) q0_7 q0_8 q0_9 q0_10 q0_13 ++ (wSt tc a1 z1 none (a2 0) ++ (wLg tc a2 z2 ++ (wSt tc a3 z3 q3_18 (a4 0) ++ (wLg tc a4 z4 ++ (wHd tc a5 z5 ++ (wCk tc a6 z6 (a5 0) (a7 0) ++ (wFa tc a7 z7)))))))) := fun z0 z1 z2 z3 z4 z5 z6 z7 => D_fst (ws := (wPU tc a0 g0 q0_0 (a1 0) (a3 0) q0_3 q0_4 (a5 0) (a6 0) q0_7 q0_8 q0_9 q0_10 q0_13 ++ (wSt tc a1 g1 none (a2 0) ++ (wLg tc a2 g2 ++ (wSt tc a3 g3 q3_18 (a4 0) ++ (wLg tc a4 g4 ++ (wHd tc a5 g5 ++ (wCk tc a6 g6 (a5 0) (a7 0) ++ (wFa tc a7 g7))))))))) rfl hD0
  have hDq : ∀ z0 z1 z2 z3 z4 z5 z6 z7 (zq : Option Nat), va_D A (wPU tc a0 z0 q0_0 (a1 0) (a3 0) q0_3 q0_4 (a5 0) (a6 0) q0_7 q0_8 q0_9 q0_10 q0_13 ++ (wSt tc a1 z1 none (a2 0) ++ (wLg tc a2 z2 ++ (wSt tc a3 z3 zq (a4 0) ++ (wLg tc a4 z4 ++ (wHd tc a5 z5 ++ (wCk tc a6 z6 (a5 0) (a7 0) ++ (wFa tc a7 z7)))))))) := fun z0 z1 z2 z3 z4 z5 z6 z7 zq => D_fst (ws := (wPU tc a0 g0 q0_0 (a1 0) (a3 0) q0_3 q0_4 (a5 0) (a6 0) q0_7 q0_8 q0_9 q0_10 q0_13 ++ (wSt tc a1 g1 none (a2 0) ++ (wLg tc a2 g2 ++ (wSt tc a3 g3 q3_18 (a4 0) ++ (wLg tc a4 g4 ++ (wHd tc a5 g5 ++ (wCk tc a6 g6 (a5 0) (a7 0) ++ (wFa tc a7 g7))))))))) rfl hD0
  have hl : lv_has ls 3 [(0, .ref (a0 0)), (1, .int x1), (2, .int x2)] := hl
  unfold f_X11_trial_n at h
  refine lv_aload_n X.1 X.2.1 dX11_trial_0 rfl (lv_at hl 0 rfl) ?_
  refine lv_iload_n X.1 X.2.1 dX11_trial_1 rfl (lv_at hl 1 rfl) ?_
  refine lv_iconst (v := 0) X.1 X.2.1 dX11_trial_2 (by decide) ?_
  refine lv_bipush (v := 60) X.1 X.2.1 dX11_trial_3 (by decide) ?_
  obtain ⟨ex_1, hc_1, h1_1, h2_1⟩ := lr_el h
  rcases ex_1 with e_1 | r_1
  · exact callU_t (ws := (wPU tc a0 g0 q0_0 (a1 0) (a3 0) q0_3 q0_4 (a5 0) (a6 0) q0_7 q0_8 q0_9 q0_10 q0_13 ++ (wSt tc a1 g1 none (a2 0) ++ (wLg tc a2 g2 ++ (wSt tc a3 g3 q3_18 (a4 0) ++ (wLg tc a4 g4 ++ (wHd tc a5 g5 ++ (wCk tc a6 g6 (a5 0) (a7 0) ++ (wFa tc a7 g7))))))))) (ws' := (wPU tc a0 g0 q0_0 (a1 0) (a3 0) q0_3 q0_4 (a5 0) (a6 0) q0_7 q0_8 q0_9 q0_10 q0_13 ++ (wSt tc a1 g1 none (a2 0) ++ (wLg tc a2 g2 ++ (wSt tc a3 g3 q3_18 (a4 0) ++ (wLg tc a4 g4 ++ (wHd tc a5 g5 ++ (wCk tc a6 g6 (a5 0) (a7 0) ++ (wFa tc a7 g7))))))))) (wr := (wSt tc a1 g1 none (a2 0) ++ (wLg tc a2 g2 ++ (wSt tc a3 g3 q3_18 (a4 0) ++ (wLg tc a4 g4 ++ (wHd tc a5 g5 ++ (wCk tc a6 g6 (a5 0) (a7 0) ++ (wFa tc a7 g7)))))))) [0] [1, 2, 3, 4, 5, 6, 7, 8, 9, 10, 11, 12, 13, 14, 15, 16, 17, 18, 19, 20, 21, 22, 23, 24, 25, 26, 27, 28, 29, 30, 31] [31, 0, 1, 2, 3, 4, 5, 6, 7, 8, 9, 10, 11, 12, 13, 14, 15, 16, 17, 18, 19, 20, 21, 22, 23, 24, 25, 26, 27, 28, 29, 30] (As := [.int x1, .int 0, .int 60]) (rest := []) q3_18 rfl (oUi (fun u q => (wPU tc a0 g0 q0_0 (a1 0) (a3 0) q0_3 q0_4 (a5 0) (a6 0) q0_7 q0_8 q0_9 q0_10 q0_13 ++ (wSt tc a1 g1 none (a2 0) ++ (wLg tc a2 g2 ++ (wSt tc a3 u.1 q (a4 0) ++ (wLg tc a4 u.2.1 ++ (wHd tc a5 u.2.2.1 ++ (wCk tc a6 g6 (a5 0) (a7 0) ++ (wFa tc a7 u.2.2.2))))))))) (h1_1 _ rfl)) X hT hQ (c_X11_needNumber l hst dC dI sk sv tc a0 q0_0 (a1 0) (a3 0) q0_3 q0_4 (a5 0) (a6 0) q0_7 q0_8 q0_9 q0_10 q0_13 g0 x1 0 60 hc_1) mw_5_199 mw_5_201 mp_1_8 mw_1_1 mw_5_202 dc_X11_needNumber ⟨Nat.le_of_ble_eq_true rfl, Nat.le_of_ble_eq_true rfl⟩ rfl rfl ⟨Nat.le_of_ble_eq_true rfl, Nat.le_of_ble_eq_true rfl⟩ ⟨rfl, rfl, rfl, rfl, by decide, rfl, rfl⟩ hP (hDq _ _ _ _ _ _ _ _ _) hS 0 rfl rfl rfl hl.1 (Nat.le_of_ble_eq_true rfl) dX11_trial_5 (Nat.le_of_ble_eq_true rfl) (Nat.le_of_ble_eq_true rfl)
  have h := h2_1 _ rfl
  refine callU_n (ws := (wPU tc a0 g0 q0_0 (a1 0) (a3 0) q0_3 q0_4 (a5 0) (a6 0) q0_7 q0_8 q0_9 q0_10 q0_13 ++ (wSt tc a1 g1 none (a2 0) ++ (wLg tc a2 g2 ++ (wSt tc a3 g3 q3_18 (a4 0) ++ (wLg tc a4 g4 ++ (wHd tc a5 g5 ++ (wCk tc a6 g6 (a5 0) (a7 0) ++ (wFa tc a7 g7))))))))) (ws' := (wPU tc a0 g0 q0_0 (a1 0) (a3 0) q0_3 q0_4 (a5 0) (a6 0) q0_7 q0_8 q0_9 q0_10 q0_13 ++ (wSt tc a1 g1 none (a2 0) ++ (wLg tc a2 g2 ++ (wSt tc a3 g3 q3_18 (a4 0) ++ (wLg tc a4 g4 ++ (wHd tc a5 g5 ++ (wCk tc a6 g6 (a5 0) (a7 0) ++ (wFa tc a7 g7))))))))) (wr := (wSt tc a1 g1 none (a2 0) ++ (wLg tc a2 g2 ++ (wSt tc a3 g3 q3_18 (a4 0) ++ (wLg tc a4 g4 ++ (wHd tc a5 g5 ++ (wCk tc a6 g6 (a5 0) (a7 0) ++ (wFa tc a7 g7)))))))) [0] [1, 2, 3, 4, 5, 6, 7, 8, 9, 10, 11, 12, 13, 14, 15, 16, 17, 18, 19, 20, 21, 22, 23, 24, 25, 26, 27, 28, 29, 30, 31] [31, 0, 1, 2, 3, 4, 5, 6, 7, 8, 9, 10, 11, 12, 13, 14, 15, 16, 17, 18, 19, 20, 21, 22, 23, 24, 25, 26, 27, 28, 29, 30] (As := [.int x1, .int 0, .int 60]) (rest := []) X (c_X11_needNumber l hst dC dI sk sv tc a0 q0_0 (a1 0) (a3 0) q0_3 q0_4 (a5 0) (a6 0) q0_7 q0_8 q0_9 q0_10 q0_13 g0 x1 0 60 hc_1) mw_5_199 mw_5_201 mp_1_8 mw_1_1 mw_5_202 dc_X11_needNumber ⟨Nat.le_of_ble_eq_true rfl, Nat.le_of_ble_eq_true rfl⟩ rfl rfl ⟨Nat.le_of_ble_eq_true rfl, Nat.le_of_ble_eq_true rfl⟩ ⟨rfl, rfl, rfl, rfl, by decide, rfl, rfl⟩ hP (hDq _ _ _ _ _ _ _ _ _) hS 0 rfl rfl rfl hl.1 (Nat.le_of_ble_eq_true rfl) dX11_trial_5 (fun H locs hP hS => ?_)
  refine W.eq (g2 := F0 m 8 ls []) rfl ?_
  refine lv_aload_n X.1 X.2.1 dX11_trial_8 rfl (lv_at hl 0 rfl) ?_
  refine r_get (C := RX11) (T := TX11) (N := 15) (ci := 11) (v := .ref (a3 0)) X iw11 hP 0 rfl rfl 2 rfl mw_2_145 rfl dX11_trial_9 ?_
  refine lv_aload_n X.1 X.2.1 dX11_trial_12 rfl (lv_at hl 0 rfl) ?_
  refine r_get (C := RX11) (T := TX11) (N := 15) (ci := 11) (v := .ref (a1 0)) X iw11 hP 0 rfl rfl 1 rfl mw_2_144 rfl dX11_trial_13 ?_
  obtain ⟨g3_2, g4_2, hc_2, h⟩ := bd2_el h
  refine call_Q (ws := (wPU tc a0 g0 q0_0 (a1 0) (a3 0) q0_3 q0_4 (a5 0) (a6 0) q0_7 q0_8 q0_9 q0_10 q0_13 ++ (wSt tc a1 g1 none (a2 0) ++ (wLg tc a2 g2 ++ (wSt tc a3 g3 q3_18 (a4 0) ++ (wLg tc a4 g4 ++ (wHd tc a5 g5 ++ (wCk tc a6 g6 (a5 0) (a7 0) ++ (wFa tc a7 g7))))))))) (ws' := (wPU tc a0 g0 q0_0 (a1 0) (a3 0) q0_3 q0_4 (a5 0) (a6 0) q0_7 q0_8 q0_9 q0_10 q0_13 ++ (wSt tc a1 g1 none (a2 0) ++ (wLg tc a2 g2 ++ (wSt tc a3 g3_2 none (a4 0) ++ (wLg tc a4 g4_2 ++ (wHd tc a5 g5 ++ (wCk tc a6 g6 (a5 0) (a7 0) ++ (wFa tc a7 g7))))))))) (wr := (wPU tc a0 g0 q0_0 (a1 0) (a3 0) q0_3 q0_4 (a5 0) (a6 0) q0_7 q0_8 q0_9 q0_10 q0_13 ++ (wHd tc a5 g5 ++ (wCk tc a6 g6 (a5 0) (a7 0) ++ (wFa tc a7 g7))))) [13, 14, 15, 16, 17, 18, 19, 20, 21, 22, 1, 2, 3, 4, 5, 6, 7, 8, 9, 10, 23, 24, 11, 12] [0, 25, 26, 27, 28, 29, 30, 31] [0, 18, 19, 20, 21, 22, 23, 24, 25, 26, 27, 30, 31, 8, 9, 10, 11, 12, 13, 14, 15, 16, 17, 28, 29, 1, 2, 3, 4, 5, 6, 7] (As := [.ref (a1 0)]) (rest := []) X (c_X9_copyFrom l dC dI sk sv tc a3 q3_18 a1 none a4 a2 g3 g1 g4 g2 hc_2) mw_3_79 mw_3_80 mw_3_81 mw_1_3 mw_3_82 dc_X9_copyFrom ⟨Nat.le_of_ble_eq_true rfl, Nat.le_of_ble_eq_true rfl⟩ rfl rfl ⟨Nat.le_of_ble_eq_true rfl, Nat.le_of_ble_eq_true rfl⟩ ⟨rfl, rfl, rfl, rfl, by decide, rfl, rfl⟩ hP (hDq _ _ _ _ _ _ _ _ _) hS 0 rfl rfl rfl hl.1 (Nat.le_of_ble_eq_true rfl) dX11_trial_16 (fun H locs hP hS => ?_)
  refine W.eq (g2 := F0 m 19 ls []) rfl ?_
  refine lv_aload_n X.1 X.2.1 dX11_trial_19 rfl (lv_at hl 0 rfl) ?_
  refine r_get (C := RX11) (T := TX11) (N := 15) (ci := 11) (v := .ref (a6 0)) X iw11 hP 0 rfl rfl 6 rfl mw_2_149 rfl dX11_trial_20 ?_
  refine lv_aload_n X.1 X.2.1 dX11_trial_23 rfl (lv_at hl 0 rfl) ?_
  refine r_get (C := RX11) (T := TX11) (N := 15) (ci := 11) (v := .ref (a3 0)) X iw11 hP 0 rfl rfl 2 rfl mw_2_145 rfl dX11_trial_24 ?_
  refine lv_iload_n X.1 X.2.1 dX11_trial_27 rfl (lv_at hl 1 rfl) ?_
  refine lv_iconst (v := 1) X.1 X.2.1 dX11_trial_28 (by decide) ?_
  obtain ⟨r_3, g7_3, g5_3, g3_3, g4_3, hc_3, h⟩ := bd5_el h
  refine call_Q (ws := (wPU tc a0 g0 q0_0 (a1 0) (a3 0) q0_3 q0_4 (a5 0) (a6 0) q0_7 q0_8 q0_9 q0_10 q0_13 ++ (wSt tc a1 g1 none (a2 0) ++ (wLg tc a2 g2 ++ (wSt tc a3 g3_2 none (a4 0) ++ (wLg tc a4 g4_2 ++ (wHd tc a5 g5 ++ (wCk tc a6 g6 (a5 0) (a7 0) ++ (wFa tc a7 g7))))))))) (ws' := (wPU tc a0 g0 q0_0 (a1 0) (a3 0) q0_3 q0_4 (a5 0) (a6 0) q0_7 q0_8 q0_9 q0_10 q0_13 ++ (wSt tc a1 g1 none (a2 0) ++ (wLg tc a2 g2 ++ (wSt tc a3 g3_3 none (a4 0) ++ (wLg tc a4 g4_3 ++ (wHd tc a5 g5_3 ++ (wCk tc a6 g6 (a5 0) (a7 0) ++ (wFa tc a7 g7_3))))))))) (wr := (wPU tc a0 g0 q0_0 (a1 0) (a3 0) q0_3 q0_4 (a5 0) (a6 0) q0_7 q0_8 q0_9 q0_10 q0_13 ++ (wSt tc a1 g1 none (a2 0) ++ (wLg tc a2 g2)))) [30, 31, 25, 26, 27, 28, 29, 13, 14, 15, 16, 17, 18, 19, 20, 21, 22, 23, 24] [0, 1, 2, 3, 4, 5, 6, 7, 8, 9, 10, 11, 12] [0, 1, 2, 3, 4, 5, 6, 7, 8, 9, 10, 11, 12, 20, 21, 22, 23, 24, 25, 26, 27, 28, 29, 30, 31, 15, 16, 17, 18, 19, 13, 14] (As := [.ref (a3 0), .int x1, .int 1]) (rest := []) X (c_X0_pass_n l dC dI sk sv tc a6 a7 a5 a3 a4 g6 g7 g5 g3_2 g4_2 x1 1 hc_3) mw_5_208 mw_5_209 mw_5_210 mw_1_8 mw_5_211 dc_X0_pass ⟨Nat.le_of_ble_eq_true rfl, Nat.le_of_ble_eq_true rfl⟩ rfl rfl ⟨Nat.le_of_ble_eq_true rfl, Nat.le_of_ble_eq_true rfl⟩ ⟨rfl, rfl, rfl, rfl, by decide, rfl, rfl⟩ hP (hDq _ _ _ _ _ _ _ _ _) hS 0 rfl rfl rfl hl.1 (Nat.le_of_ble_eq_true rfl) dX11_trial_29 (fun H locs hP hS => ?_)
  refine W.eq (g2 := F0 m 32 ls [.int r_3]) rfl ?_
  refine lv_pop X.1 X.2.1 dX11_trial_32 rfl ?_
  refine lv_iload_n X.1 X.2.1 dX11_trial_33 rfl (lv_at hl 2 rfl) ?_
  obtain ⟨J55, eJ55, h⟩ := jn_el h
  have HJ55 : ∀ (s0_J55 : Int32) (H : Heap) (locs : List Loc) (ls : Array Slot), J55 s0_J55 = some res → va_P (dC, dI) vwCl (wPU tc a0 g0 q0_0 (a1 0) (a3 0) q0_3 q0_4 (a5 0) (a6 0) q0_7 q0_8 q0_9 q0_10 q0_13 ++ (wSt tc a1 g1 none (a2 0) ++ (wLg tc a2 g2 ++ (wSt tc a3 g3_3 none (a4 0) ++ (wLg tc a4 g4_3 ++ (wHd tc a5 g5_3 ++ (wCk tc a6 g6 (a5 0) (a7 0) ++ (wFa tc a7 g7_3)))))))) H → va_S A s.heap H locs → lv_has ls 3 [] → W pr l e rm_X11_trial_n s m args below meth c H locs 1 6 Q (F0 m 55 ls [.int s0_J55]) := by
    intro s0_J55 H locs ls h hP hS hl
    rw [eJ55] at h
    exact retU_i (fun u q => (wPU tc a0 g0 q0_0 (a1 0) (a3 0) q0_3 q0_4 (a5 0) (a6 0) q0_7 q0_8 q0_9 q0_10 q0_13 ++ (wSt tc a1 g1 none (a2 0) ++ (wLg tc a2 g2 ++ (wSt tc a3 u.1 q (a4 0) ++ (wLg tc a4 u.2.1 ++ (wHd tc a5 u.2.2.1 ++ (wCk tc a6 g6 (a5 0) (a7 0) ++ (wFa tc a7 u.2.2.2))))))))) none (Option.some.inj h) X hQ hP hS (Nat.le_of_ble_eq_true rfl) (Nat.le_of_ble_eq_true rfl) dX11_trial_55
  refine lv_if_eq (tgt := 47) X.1 X.2.1 dX11_trial_34 (by decide) (fun hc => ?_) (fun hc => ?_)
  · have h := it_t hc h
    refine lv_aload_n X.1 X.2.1 dX11_trial_47 rfl (lv_at hl 0 rfl) ?_
    refine r_get (C := RX11) (T := TX11) (N := 15) (ci := 11) (v := .ref (a3 0)) X iw11 hP 0 rfl rfl 2 rfl mw_2_145 rfl dX11_trial_48 ?_
    refine lv_iconst (v := 1) X.1 X.2.1 dX11_trial_51 (by decide) ?_
    obtain ⟨r_4, hc_4, h⟩ := bd_el h
    refine call_Vsi (ws := (wPU tc a0 g0 q0_0 (a1 0) (a3 0) q0_3 q0_4 (a5 0) (a6 0) q0_7 q0_8 q0_9 q0_10 q0_13 ++ (wSt tc a1 g1 none (a2 0) ++ (wLg tc a2 g2 ++ (wSt tc a3 g3_3 none (a4 0) ++ (wLg tc a4 g4_3 ++ (wHd tc a5 g5_3 ++ (wCk tc a6 g6 (a5 0) (a7 0) ++ (wFa tc a7 g7_3))))))))) (ws' := (wPU tc a0 g0 q0_0 (a1 0) (a3 0) q0_3 q0_4 (a5 0) (a6 0) q0_7 q0_8 q0_9 q0_10 q0_13 ++ (wSt tc a1 g1 none (a2 0) ++ (wLg tc a2 g2 ++ (wSt tc a3 g3_3 none (a4 0) ++ (wLg tc a4 g4_3 ++ (wHd tc a5 g5_3 ++ (wCk tc a6 g6 (a5 0) (a7 0) ++ (wFa tc a7 g7_3))))))))) (wPU tc a0 g0 q0_0 (a1 0) (a3 0) q0_3 q0_4 (a5 0) (a6 0) q0_7 q0_8 q0_9 q0_10 q0_13 ++ (wSt tc a1 g1 none (a2 0) ++ (wLg tc a2 g2))) (wLg tc a4 g4_3 ++ (wHd tc a5 g5_3 ++ (wCk tc a6 g6 (a5 0) (a7 0) ++ (wFa tc a7 g7_3)))) (As := [.int 1]) (rest := []) X (c_X9_onAllPages l dC dI sk sv tc a3 none (a4 0) g3_3 1 hc_4) mw_7_77 mw_5_99 mw_5_100 mw_1_3 mw_5_101 dc_X9_onAllPages ⟨Nat.le_of_ble_eq_true rfl, Nat.le_of_ble_eq_true rfl⟩ rfl rfl ⟨Nat.le_of_ble_eq_true rfl, Nat.le_of_ble_eq_true rfl⟩ (by simp only [List.append_assoc, List.nil_append, List.append_nil]) (by simp only [List.append_assoc, List.nil_append, List.append_nil]) hP (hDq _ _ _ _ _ _ _ _ _) hS 0 rfl rfl rfl hl.1 (Nat.le_of_ble_eq_true rfl) dX11_trial_52 (fun H locs hP hS => ?_)
    exact HJ55 r_4 H locs ls h hP hS (lv_sub hl [] rfl)
  · have h := it_f hc h
    refine lv_aload_n X.1 X.2.1 dX11_trial_37 rfl (lv_at hl 0 rfl) ?_
    refine r_get (C := RX11) (T := TX11) (N := 15) (ci := 11) (v := .ref (a3 0)) X iw11 hP 0 rfl rfl 2 rfl mw_2_145 rfl dX11_trial_38 ?_
    obtain ⟨r_5, hc_5, h⟩ := bd_el h
    refine call_Vsi (ws := (wPU tc a0 g0 q0_0 (a1 0) (a3 0) q0_3 q0_4 (a5 0) (a6 0) q0_7 q0_8 q0_9 q0_10 q0_13 ++ (wSt tc a1 g1 none (a2 0) ++ (wLg tc a2 g2 ++ (wSt tc a3 g3_3 none (a4 0) ++ (wLg tc a4 g4_3 ++ (wHd tc a5 g5_3 ++ (wCk tc a6 g6 (a5 0) (a7 0) ++ (wFa tc a7 g7_3))))))))) (ws' := (wPU tc a0 g0 q0_0 (a1 0) (a3 0) q0_3 q0_4 (a5 0) (a6 0) q0_7 q0_8 q0_9 q0_10 q0_13 ++ (wSt tc a1 g1 none (a2 0) ++ (wLg tc a2 g2 ++ (wSt tc a3 g3_3 none (a4 0) ++ (wLg tc a4 g4_3 ++ (wHd tc a5 g5_3 ++ (wCk tc a6 g6 (a5 0) (a7 0) ++ (wFa tc a7 g7_3))))))))) (wPU tc a0 g0 q0_0 (a1 0) (a3 0) q0_3 q0_4 (a5 0) (a6 0) q0_7 q0_8 q0_9 q0_10 q0_13 ++ (wSt tc a1 g1 none (a2 0) ++ (wLg tc a2 g2))) (wLg tc a4 g4_3 ++ (wHd tc a5 g5_3 ++ (wCk tc a6 g6 (a5 0) (a7 0) ++ (wFa tc a7 g7_3)))) (As := []) (rest := []) X (c_X9_tiredTogether l dC dI sk sv tc a3 none (a4 0) g3_3 hc_5) mw_3_107 mw_3_108 mw_3_109 mw_1_3 mw_3_110 dc_X9_tiredTogether ⟨Nat.le_of_ble_eq_true rfl, Nat.le_of_ble_eq_true rfl⟩ rfl rfl ⟨Nat.le_of_ble_eq_true rfl, Nat.le_of_ble_eq_true rfl⟩ (by simp only [List.append_assoc, List.nil_append, List.append_nil]) (by simp only [List.append_assoc, List.nil_append, List.append_nil]) hP (hDq _ _ _ _ _ _ _ _ _) hS 0 rfl rfl rfl hl.1 (Nat.le_of_ble_eq_true rfl) dX11_trial_41 (fun H locs hP hS => ?_)
    refine lv_goto (tgt := 55) X.1 X.2.1 dX11_trial_44 (by decide) ?_
    exact HJ55 r_5 H locs ls h hP hS (lv_sub hl [] rfl)

def f_X11_trial_l (ln8 : Nat → Nat) (g0 : Pic) (g1 : Pic) (g2 : Pic) (g3 : Pic) (g4 : Pic) (g5 : Pic) (g6 : Pic) (g7 : Pic) (g8 : Pic) (x1 : Int32) (x2 : Int32) : Option ((Nat × (Pic × Pic × Pic × Pic × Pic)) ⊕ (Int32 × (Pic × Pic × Pic × Pic × Pic))) := lr (f_X11_needNumber g0 x1 0 60) (fun e => .inl (e.1, (g3, g4, g5, g7, g8))) (fun _ => bd2 (f_X9_copyFrom g3 g1 g4 g2) (fun g3_2 g4_2 => bd6 (f_X0_pass_l ln8 g6 g8 g7 g5 g3_2 g4_2 x1 1) (fun r_3 g8_3 g7_3 g5_3 g3_3 g4_3 => jn (fun (s0_J55 : Int32) => some (.inr (s0_J55, (g3_3, g4_3, g5_3, g7_3, g8_3)))) (fun J55 => (if x2 = 0 then bd (f_X9_onAllPages g3_3 1) (fun r_4 => J55 r_4) else bd (f_X9_tiredTogether g3_3) (fun r_5 => J55 r_5))))))
abbrev rm_X11_trial_l : Room := { frames := 7, cells := 1, slots := 6, locals := 168 }
set_option maxHeartbeats 4000000 in
set_option maxRecDepth 100000 in
theorem c_X11_trial_l (l : Launch) (hst : l.stackTraces = false) (dC : Nat → ClassId) (dI : Nat → Nat → Nat) (sk sv : Nat → Nat) (tc : Nat → ClassId) (ln8 : Nat → Nat) (a0 : Nat → Nat) (q0_0 : Nat) (q0_3 : Nat) (q0_4 : Nat) (q0_7 : Nat) (q0_8 : Nat) (q0_9 : Nat) (q0_10 : Nat) (q0_13 : Option Nat) (a1 : Nat → Nat) (a2 : Nat → Nat) (a3 : Nat → Nat) (q3_18 : Option Nat) (a4 : Nat → Nat) (a5 : Nat → Nat) (a6 : Nat → Nat) (a7 : Nat → Nat) (a8 : Nat → Nat) (g0 : Pic) (g1 : Pic) (g2 : Pic) (g3 : Pic) (g4 : Pic) (g5 : Pic) (g6 : Pic) (g7 : Pic) (g8 : Pic) (x1 : Int32) (x2 : Int32) {res : ((Nat × (Pic × Pic × Pic × Pic × Pic)) ⊕ (Int32 × (Pic × Pic × Pic × Pic × Pic)))} (h : f_X11_trial_l ln8 g0 g1 g2 g3 g4 g5 g6 g7 g8 x1 x2 = some res) : CU l (dC, dI) sk sv (TY tc) yX11_trial cX11_trial 3 (some .int) rm_X11_trial_l 1 6 [.ref (a0 0), .int x1, .int x2] (wPU tc a0 g0 q0_0 (a1 0) (a3 0) q0_3 q0_4 (a5 0) (a6 0) q0_7 q0_8 q0_9 q0_10 q0_13 ++ (wSt tc a1 g1 (some (a8 0)) (a2 0) ++ (wLg tc a2 g2 ++ (wSt tc a3 g3 q3_18 (a4 0) ++ (wLg tc a4 g4 ++ (wHd tc a5 g5 ++ (wCk tc a6 g6 (a5 0) (a7 0) ++ (wFa tc a7 g7 ++ (wLw tc a8 g8 ln8))))))))) (oI (fun u q => (wPU tc a0 g0 q0_0 (a1 0) (a3 0) q0_3 q0_4 (a5 0) (a6 0) q0_7 q0_8 q0_9 q0_10 q0_13 ++ (wSt tc a1 g1 (some (a8 0)) (a2 0) ++ (wLg tc a2 g2 ++ (wSt tc a3 u.1 q (a4 0) ++ (wLg tc a4 u.2.1 ++ (wHd tc a5 u.2.2.1 ++ (wCk tc a6 g6 (a5 0) (a7 0) ++ (wFa tc a7 u.2.2.2.1 ++ (wLw tc a8 u.2.2.2.2 ln8)))))))))) res) := by
  refine ofCU (by decide) (Nat.le_of_ble_eq_true rfl) ?_
  intro pr e s m args below meth c A Q ls H locs X hT hQ hD0 hP hS hl
  have hD : ∀ z0 z1 z2 z3 z4 z5 z6 z7 z8, va_D A (wPU tc a0 z0 q0_0 (a1 0) (a3 0) q0_3 q0_4 (a5 0) (a6 0) q0_7 q0_8 q0_9 q0_10 q0_13 ++ (wSt tc a1 z1 (some (a8 0)) (a2 0) ++ (wLg tc a2 z2 ++ (wSt tc a3 z3 q3_18 (a4 0) ++ (wLg tc a4 z4 ++ (wHd tc a5 z5 ++ (wCk tc a6 z6 (a5 0) (a7 0) ++ (wFa tc a7 z7 ++ (wLw tc a8 z8 ln8))))))))) := fun z0 z1 z2 z3 z4 z5 z6 z7 z8 => D_fst (ws := (wPU tc a0 g0 q0_0 (a1 0) (a3 0) q0_3 q0_4 (a5 0) (a6 0) q0_7 q0_8 q0_9 q0_10 q0_13 ++ (wSt tc a1 g1 (some (a8 0)) (a2 0) ++ (wLg tc a2 g2 ++ (wSt tc a3 g3 q3_18 (a4 0) ++ (wLg tc a4 g4 ++ (wHd tc a5 g5 ++ (wCk tc a6 g6 (a5 0) (a7 0) ++ (wFa tc a7 g7 ++ (wLw tc a8 g8 ln8)))))))))) rfl hD0
  have hDq : ∀ z0 z1 z2 z3 z4 z5 z6 z7 z8 (zq : Option Nat), va_D A (wPU tc a0 z0 q0_0 (a1 0) (a3 0) q0_3 q0_4 (a5 0) (a6 0) q0_7 q0_8 q0_9 q0_10 q0_13 ++ (wSt tc a1 z1 (some (a8 0)) (a2 0) ++ (wLg tc a2 z2 ++ (wSt tc a3 z3 zq (a4 0) ++ (wLg tc a4 z4 ++ (wHd tc a5 z5 ++ (wCk tc a6 z6 (a5 0) (a7 0) ++ (wFa tc a7 z7 ++ (wLw tc a8 z8 ln8))))))))) := fun z0 z1 z2 z3 z4 z5 z6 z7 z8 zq => D_fst (ws := (wPU tc a0 g0 q0_0 (a1 0) (a3 0) q0_3 q0_4 (a5 0) (a6 0) q0_7 q0_8 q0_9 q0_10 q0_13 ++ (wSt tc a1 g1 (some (a8 0)) (a2 0) ++ (wLg tc a2 g2 ++ (wSt tc a3 g3 q3_18 (a4 0) ++ (wLg tc a4 g4 ++ (wHd tc a5 g5 ++ (wCk tc a6 g6 (a5 0) (a7 0) ++ (wFa tc a7 g7 ++ (wLw tc a8 g8 ln8)))))))))) rfl hD0
  have hl : lv_has ls 3 [(0, .ref (a0 0)), (1, .int x1), (2, .int x2)] := hl
  unfold f_X11_trial_l at h
  refine lv_aload_n X.1 X.2.1 dX11_trial_0 rfl (lv_at hl 0 rfl) ?_
  refine lv_iload_n X.1 X.2.1 dX11_trial_1 rfl (lv_at hl 1 rfl) ?_
  refine lv_iconst (v := 0) X.1 X.2.1 dX11_trial_2 (by decide) ?_
  refine lv_bipush (v := 60) X.1 X.2.1 dX11_trial_3 (by decide) ?_
  obtain ⟨ex_1, hc_1, h1_1, h2_1⟩ := lr_el h
  rcases ex_1 with e_1 | r_1
  · exact callU_t (ws := (wPU tc a0 g0 q0_0 (a1 0) (a3 0) q0_3 q0_4 (a5 0) (a6 0) q0_7 q0_8 q0_9 q0_10 q0_13 ++ (wSt tc a1 g1 (some (a8 0)) (a2 0) ++ (wLg tc a2 g2 ++ (wSt tc a3 g3 q3_18 (a4 0) ++ (wLg tc a4 g4 ++ (wHd tc a5 g5 ++ (wCk tc a6 g6 (a5 0) (a7 0) ++ (wFa tc a7 g7 ++ (wLw tc a8 g8 ln8)))))))))) (ws' := (wPU tc a0 g0 q0_0 (a1 0) (a3 0) q0_3 q0_4 (a5 0) (a6 0) q0_7 q0_8 q0_9 q0_10 q0_13 ++ (wSt tc a1 g1 (some (a8 0)) (a2 0) ++ (wLg tc a2 g2 ++ (wSt tc a3 g3 q3_18 (a4 0) ++ (wLg tc a4 g4 ++ (wHd tc a5 g5 ++ (wCk tc a6 g6 (a5 0) (a7 0) ++ (wFa tc a7 g7 ++ (wLw tc a8 g8 ln8)))))))))) (wr := (wSt tc a1 g1 (some (a8 0)) (a2 0) ++ (wLg tc a2 g2 ++ (wSt tc a3 g3 q3_18 (a4 0) ++ (wLg tc a4 g4 ++ (wHd tc a5 g5 ++ (wCk tc a6 g6 (a5 0) (a7 0) ++ (wFa tc a7 g7 ++ (wLw tc a8 g8 ln8))))))))) [0] [1, 2, 3, 4, 5, 6, 7, 8, 9, 10, 11, 12, 13, 14, 15, 16, 17, 18, 19, 20, 21, 22, 23, 24, 25, 26, 27, 28, 29, 30, 31, 32, 33, 34, 35, 36, 37] [37, 0, 1, 2, 3, 4, 5, 6, 7, 8, 9, 10, 11, 12, 13, 14, 15, 16, 17, 18, 19, 20, 21, 22, 23, 24, 25, 26, 27, 28, 29, 30, 31, 32, 33, 34, 35, 36] (As := [.int x1, .int 0, .int 60]) (rest := []) q3_18 rfl (oUi (fun u q => (wPU tc a0 g0 q0_0 (a1 0) (a3 0) q0_3 q0_4 (a5 0) (a6 0) q0_7 q0_8 q0_9 q0_10 q0_13 ++ (wSt tc a1 g1 (some (a8 0)) (a2 0) ++ (wLg tc a2 g2 ++ (wSt tc a3 u.1 q (a4 0) ++ (wLg tc a4 u.2.1 ++ (wHd tc a5 u.2.2.1 ++ (wCk tc a6 g6 (a5 0) (a7 0) ++ (wFa tc a7 u.2.2.2.1 ++ (wLw tc a8 u.2.2.2.2 ln8)))))))))) (h1_1 _ rfl)) X hT hQ (c_X11_needNumber l hst dC dI sk sv tc a0 q0_0 (a1 0) (a3 0) q0_3 q0_4 (a5 0) (a6 0) q0_7 q0_8 q0_9 q0_10 q0_13 g0 x1 0 60 hc_1) mw_5_199 mw_5_201 mp_1_8 mw_1_1 mw_5_202 dc_X11_needNumber ⟨Nat.le_of_ble_eq_true rfl, Nat.le_of_ble_eq_true rfl⟩ rfl rfl ⟨Nat.le_of_ble_eq_true rfl, Nat.le_of_ble_eq_true rfl⟩ ⟨rfl, rfl, rfl, rfl, by decide, rfl, rfl⟩ hP (hDq _ _ _ _ _ _ _ _ _ _) hS 0 rfl rfl rfl hl.1 (Nat.le_of_ble_eq_true rfl) dX11_trial_5 (Nat.le_of_ble_eq_true rfl) (Nat.le_of_ble_eq_true rfl)
  have h := h2_1 _ rfl
  refine callU_n (ws := (wPU tc a0 g0 q0_0 (a1 0) (a3 0) q0_3 q0_4 (a5 0) (a6 0) q0_7 q0_8 q0_9 q0_10 q0_13 ++ (wSt tc a1 g1 (some (a8 0)) (a2 0) ++ (wLg tc a2 g2 ++ (wSt tc a3 g3 q3_18 (a4 0) ++ (wLg tc a4 g4 ++ (wHd tc a5 g5 ++ (wCk tc a6 g6 (a5 0) (a7 0) ++ (wFa tc a7 g7 ++ (wLw tc a8 g8 ln8)))))))))) (ws' := (wPU tc a0 g0 q0_0 (a1 0) (a3 0) q0_3 q0_4 (a5 0) (a6 0) q0_7 q0_8 q0_9 q0_10 q0_13 ++ (wSt tc a1 g1 (some (a8 0)) (a2 0) ++ (wLg tc a2 g2 ++ (wSt tc a3 g3 q3_18 (a4 0) ++ (wLg tc a4 g4 ++ (wHd tc a5 g5 ++ (wCk tc a6 g6 (a5 0) (a7 0) ++ (wFa tc a7 g7 ++ (wLw tc a8 g8 ln8)))))))))) (wr := (wSt tc a1 g1 (some (a8 0)) (a2 0) ++ (wLg tc a2 g2 ++ (wSt tc a3 g3 q3_18 (a4 0) ++ (wLg tc a4 g4 ++ (wHd tc a5 g5 ++ (wCk tc a6 g6 (a5 0) (a7 0) ++ (wFa tc a7 g7 ++ (wLw tc a8 g8 ln8))))))))) [0] [1, 2, 3, 4, 5, 6, 7, 8, 9, 10, 11, 12, 13, 14, 15, 16, 17, 18, 19, 20, 21, 22, 23, 24, 25, 26, 27, 28, 29, 30, 31, 32, 33, 34, 35, 36, 37] [37, 0, 1, 2, 3, 4, 5, 6, 7, 8, 9, 10, 11, 12, 13, 14, 15, 16, 17, 18, 19, 20, 21, 22, 23, 24, 25, 26, 27, 28, 29, 30, 31, 32, 33, 34, 35, 36] (As := [.int x1, .int 0, .int 60]) (rest := []) X (c_X11_needNumber l hst dC dI sk sv tc a0 q0_0 (a1 0) (a3 0) q0_3 q0_4 (a5 0) (a6 0) q0_7 q0_8 q0_9 q0_10 q0_13 g0 x1 0 60 hc_1) mw_5_199 mw_5_201 mp_1_8 mw_1_1 mw_5_202 dc_X11_needNumber ⟨Nat.le_of_ble_eq_true rfl, Nat.le_of_ble_eq_true rfl⟩ rfl rfl ⟨Nat.le_of_ble_eq_true rfl, Nat.le_of_ble_eq_true rfl⟩ ⟨rfl, rfl, rfl, rfl, by decide, rfl, rfl⟩ hP (hDq _ _ _ _ _ _ _ _ _ _) hS 0 rfl rfl rfl hl.1 (Nat.le_of_ble_eq_true rfl) dX11_trial_5 (fun H locs hP hS => ?_)
  refine W.eq (g2 := F0 m 8 ls []) rfl ?_
  refine lv_aload_n X.1 X.2.1 dX11_trial_8 rfl (lv_at hl 0 rfl) ?_
  refine r_get (C := RX11) (T := TX11) (N := 15) (ci := 11) (v := .ref (a3 0)) X iw11 hP 0 rfl rfl 2 rfl mw_2_145 rfl dX11_trial_9 ?_
  refine lv_aload_n X.1 X.2.1 dX11_trial_12 rfl (lv_at hl 0 rfl) ?_
  refine r_get (C := RX11) (T := TX11) (N := 15) (ci := 11) (v := .ref (a1 0)) X iw11 hP 0 rfl rfl 1 rfl mw_2_144 rfl dX11_trial_13 ?_
  obtain ⟨g3_2, g4_2, hc_2, h⟩ := bd2_el h
  refine call_Q (ws := (wPU tc a0 g0 q0_0 (a1 0) (a3 0) q0_3 q0_4 (a5 0) (a6 0) q0_7 q0_8 q0_9 q0_10 q0_13 ++ (wSt tc a1 g1 (some (a8 0)) (a2 0) ++ (wLg tc a2 g2 ++ (wSt tc a3 g3 q3_18 (a4 0) ++ (wLg tc a4 g4 ++ (wHd tc a5 g5 ++ (wCk tc a6 g6 (a5 0) (a7 0) ++ (wFa tc a7 g7 ++ (wLw tc a8 g8 ln8)))))))))) (ws' := (wPU tc a0 g0 q0_0 (a1 0) (a3 0) q0_3 q0_4 (a5 0) (a6 0) q0_7 q0_8 q0_9 q0_10 q0_13 ++ (wSt tc a1 g1 (some (a8 0)) (a2 0) ++ (wLg tc a2 g2 ++ (wSt tc a3 g3_2 (some (a8 0)) (a4 0) ++ (wLg tc a4 g4_2 ++ (wHd tc a5 g5 ++ (wCk tc a6 g6 (a5 0) (a7 0) ++ (wFa tc a7 g7 ++ (wLw tc a8 g8 ln8)))))))))) (wr := (wPU tc a0 g0 q0_0 (a1 0) (a3 0) q0_3 q0_4 (a5 0) (a6 0) q0_7 q0_8 q0_9 q0_10 q0_13 ++ (wHd tc a5 g5 ++ (wCk tc a6 g6 (a5 0) (a7 0) ++ (wFa tc a7 g7 ++ (wLw tc a8 g8 ln8)))))) [13, 14, 15, 16, 17, 18, 19, 20, 21, 22, 1, 2, 3, 4, 5, 6, 7, 8, 9, 10, 23, 24, 11, 12] [0, 25, 26, 27, 28, 29, 30, 31, 32, 33, 34, 35, 36, 37] [0, 24, 25, 26, 27, 28, 29, 30, 31, 32, 33, 36, 37, 14, 15, 16, 17, 18, 19, 20, 21, 22, 23, 34, 35, 1, 2, 3, 4, 5, 6, 7, 8, 9, 10, 11, 12, 13] (As := [.ref (a1 0)]) (rest := []) X (c_X9_copyFrom l dC dI sk sv tc a3 q3_18 a1 (some (a8 0)) a4 a2 g3 g1 g4 g2 hc_2) mw_3_79 mw_3_80 mw_3_81 mw_1_3 mw_3_82 dc_X9_copyFrom ⟨Nat.le_of_ble_eq_true rfl, Nat.le_of_ble_eq_true rfl⟩ rfl rfl ⟨Nat.le_of_ble_eq_true rfl, Nat.le_of_ble_eq_true rfl⟩ ⟨rfl, rfl, rfl, rfl, by decide, rfl, rfl⟩ hP (hDq _ _ _ _ _ _ _ _ _ _) hS 0 rfl rfl rfl hl.1 (Nat.le_of_ble_eq_true rfl) dX11_trial_16 (fun H locs hP hS => ?_)
  refine W.eq (g2 := F0 m 19 ls []) rfl ?_
  refine lv_aload_n X.1 X.2.1 dX11_trial_19 rfl (lv_at hl 0 rfl) ?_
  refine r_get (C := RX11) (T := TX11) (N := 15) (ci := 11) (v := .ref (a6 0)) X iw11 hP 0 rfl rfl 6 rfl mw_2_149 rfl dX11_trial_20 ?_
  refine lv_aload_n X.1 X.2.1 dX11_trial_23 rfl (lv_at hl 0 rfl) ?_
  refine r_get (C := RX11) (T := TX11) (N := 15) (ci := 11) (v := .ref (a3 0)) X iw11 hP 0 rfl rfl 2 rfl mw_2_145 rfl dX11_trial_24 ?_
  refine lv_iload_n X.1 X.2.1 dX11_trial_27 rfl (lv_at hl 1 rfl) ?_
  refine lv_iconst (v := 1) X.1 X.2.1 dX11_trial_28 (by decide) ?_
  obtain ⟨r_3, g8_3, g7_3, g5_3, g3_3, g4_3, hc_3, h⟩ := bd6_el h
  refine call_Q (ws := (wPU tc a0 g0 q0_0 (a1 0) (a3 0) q0_3 q0_4 (a5 0) (a6 0) q0_7 q0_8 q0_9 q0_10 q0_13 ++ (wSt tc a1 g1 (some (a8 0)) (a2 0) ++ (wLg tc a2 g2 ++ (wSt tc a3 g3_2 (some (a8 0)) (a4 0) ++ (wLg tc a4 g4_2 ++ (wHd tc a5 g5 ++ (wCk tc a6 g6 (a5 0) (a7 0) ++ (wFa tc a7 g7 ++ (wLw tc a8 g8 ln8)))))))))) (ws' := (wPU tc a0 g0 q0_0 (a1 0) (a3 0) q0_3 q0_4 (a5 0) (a6 0) q0_7 q0_8 q0_9 q0_10 q0_13 ++ (wSt tc a1 g1 (some (a8 0)) (a2 0) ++ (wLg tc a2 g2 ++ (wSt tc a3 g3_3 (some (a8 0)) (a4 0) ++ (wLg tc a4 g4_3 ++ (wHd tc a5 g5_3 ++ (wCk tc a6 g6 (a5 0) (a7 0) ++ (wFa tc a7 g7_3 ++ (wLw tc a8 g8_3 ln8)))))))))) (wr := (wPU tc a0 g0 q0_0 (a1 0) (a3 0) q0_3 q0_4 (a5 0) (a6 0) q0_7 q0_8 q0_9 q0_10 q0_13 ++ (wSt tc a1 g1 (some (a8 0)) (a2 0) ++ (wLg tc a2 g2)))) [30, 32, 33, 34, 35, 36, 37, 31, 25, 26, 27, 28, 29, 13, 14, 15, 16, 17, 18, 19, 20, 21, 22, 23, 24] [0, 1, 2, 3, 4, 5, 6, 7, 8, 9, 10, 11, 12] [0, 1, 2, 3, 4, 5, 6, 7, 8, 9, 10, 11, 12, 26, 27, 28, 29, 30, 31, 32, 33, 34, 35, 36, 37, 21, 22, 23, 24, 25, 13, 20, 14, 15, 16, 17, 18, 19] (As := [.ref (a3 0), .int x1, .int 1]) (rest := []) X (c_X0_pass_l l dC dI sk sv tc ln8 a6 a8 a7 a5 a3 a4 g6 g8 g7 g5 g3_2 g4_2 x1 1 hc_3) mw_5_208 mw_5_209 mw_5_210 mw_1_8 mw_5_211 dc_X0_pass ⟨Nat.le_of_ble_eq_true rfl, Nat.le_of_ble_eq_true rfl⟩ rfl rfl ⟨Nat.le_of_ble_eq_true rfl, Nat.le_of_ble_eq_true rfl⟩ ⟨rfl, rfl, rfl, rfl, by decide, rfl, rfl⟩ hP (hDq _ _ _ _ _ _ _ _ _ _) hS 0 rfl rfl rfl hl.1 (Nat.le_of_ble_eq_true rfl) dX11_trial_29 (fun H locs hP hS => ?_)
  refine W.eq (g2 := F0 m 32 ls [.int r_3]) rfl ?_
  refine lv_pop X.1 X.2.1 dX11_trial_32 rfl ?_
  refine lv_iload_n X.1 X.2.1 dX11_trial_33 rfl (lv_at hl 2 rfl) ?_
  obtain ⟨J55, eJ55, h⟩ := jn_el h
  have HJ55 : ∀ (s0_J55 : Int32) (H : Heap) (locs : List Loc) (ls : Array Slot), J55 s0_J55 = some res → va_P (dC, dI) vwCl (wPU tc a0 g0 q0_0 (a1 0) (a3 0) q0_3 q0_4 (a5 0) (a6 0) q0_7 q0_8 q0_9 q0_10 q0_13 ++ (wSt tc a1 g1 (some (a8 0)) (a2 0) ++ (wLg tc a2 g2 ++ (wSt tc a3 g3_3 (some (a8 0)) (a4 0) ++ (wLg tc a4 g4_3 ++ (wHd tc a5 g5_3 ++ (wCk tc a6 g6 (a5 0) (a7 0) ++ (wFa tc a7 g7_3 ++ (wLw tc a8 g8_3 ln8))))))))) H → va_S A s.heap H locs → lv_has ls 3 [] → W pr l e rm_X11_trial_l s m args below meth c H locs 1 6 Q (F0 m 55 ls [.int s0_J55]) := by
    intro s0_J55 H locs ls h hP hS hl
    rw [eJ55] at h
    exact retU_i (fun u q => (wPU tc a0 g0 q0_0 (a1 0) (a3 0) q0_3 q0_4 (a5 0) (a6 0) q0_7 q0_8 q0_9 q0_10 q0_13 ++ (wSt tc a1 g1 (some (a8 0)) (a2 0) ++ (wLg tc a2 g2 ++ (wSt tc a3 u.1 q (a4 0) ++ (wLg tc a4 u.2.1 ++ (wHd tc a5 u.2.2.1 ++ (wCk tc a6 g6 (a5 0) (a7 0) ++ (wFa tc a7 u.2.2.2.1 ++ (wLw tc a8 u.2.2.2.2 ln8)))))))))) (some (a8 0)) (Option.some.inj h) X hQ hP hS (Nat.le_of_ble_eq_true rfl) (Nat.le_of_ble_eq_true rfl) dX11_trial_55
  refine lv_if_eq (tgt := 47) X.1 X.2.1 dX11_trial_34 (by decide) (fun hc => ?_) (fun hc => ?_)
  · have h := it_t hc h
    refine lv_aload_n X.1 X.2.1 dX11_trial_47 rfl (lv_at hl 0 rfl) ?_
    refine r_get (C := RX11) (T := TX11) (N := 15) (ci := 11) (v := .ref (a3 0)) X iw11 hP 0 rfl rfl 2 rfl mw_2_145 rfl dX11_trial_48 ?_
    refine lv_iconst (v := 1) X.1 X.2.1 dX11_trial_51 (by decide) ?_
    obtain ⟨r_4, hc_4, h⟩ := bd_el h
    refine call_Vsi (ws := (wPU tc a0 g0 q0_0 (a1 0) (a3 0) q0_3 q0_4 (a5 0) (a6 0) q0_7 q0_8 q0_9 q0_10 q0_13 ++ (wSt tc a1 g1 (some (a8 0)) (a2 0) ++ (wLg tc a2 g2 ++ (wSt tc a3 g3_3 (some (a8 0)) (a4 0) ++ (wLg tc a4 g4_3 ++ (wHd tc a5 g5_3 ++ (wCk tc a6 g6 (a5 0) (a7 0) ++ (wFa tc a7 g7_3 ++ (wLw tc a8 g8_3 ln8)))))))))) (ws' := (wPU tc a0 g0 q0_0 (a1 0) (a3 0) q0_3 q0_4 (a5 0) (a6 0) q0_7 q0_8 q0_9 q0_10 q0_13 ++ (wSt tc a1 g1 (some (a8 0)) (a2 0) ++ (wLg tc a2 g2 ++ (wSt tc a3 g3_3 (some (a8 0)) (a4 0) ++ (wLg tc a4 g4_3 ++ (wHd tc a5 g5_3 ++ (wCk tc a6 g6 (a5 0) (a7 0) ++ (wFa tc a7 g7_3 ++ (wLw tc a8 g8_3 ln8)))))))))) (wPU tc a0 g0 q0_0 (a1 0) (a3 0) q0_3 q0_4 (a5 0) (a6 0) q0_7 q0_8 q0_9 q0_10 q0_13 ++ (wSt tc a1 g1 (some (a8 0)) (a2 0) ++ (wLg tc a2 g2))) (wLg tc a4 g4_3 ++ (wHd tc a5 g5_3 ++ (wCk tc a6 g6 (a5 0) (a7 0) ++ (wFa tc a7 g7_3 ++ (wLw tc a8 g8_3 ln8))))) (As := [.int 1]) (rest := []) X (c_X9_onAllPages l dC dI sk sv tc a3 (some (a8 0)) (a4 0) g3_3 1 hc_4) mw_7_77 mw_5_99 mw_5_100 mw_1_3 mw_5_101 dc_X9_onAllPages ⟨Nat.le_of_ble_eq_true rfl, Nat.le_of_ble_eq_true rfl⟩ rfl rfl ⟨Nat.le_of_ble_eq_true rfl, Nat.le_of_ble_eq_true rfl⟩ (by simp only [List.append_assoc, List.nil_append, List.append_nil]) (by simp only [List.append_assoc, List.nil_append, List.append_nil]) hP (hDq _ _ _ _ _ _ _ _ _ _) hS 0 rfl rfl rfl hl.1 (Nat.le_of_ble_eq_true rfl) dX11_trial_52 (fun H locs hP hS => ?_)
    exact HJ55 r_4 H locs ls h hP hS (lv_sub hl [] rfl)
  · have h := it_f hc h
    refine lv_aload_n X.1 X.2.1 dX11_trial_37 rfl (lv_at hl 0 rfl) ?_
    refine r_get (C := RX11) (T := TX11) (N := 15) (ci := 11) (v := .ref (a3 0)) X iw11 hP 0 rfl rfl 2 rfl mw_2_145 rfl dX11_trial_38 ?_
    obtain ⟨r_5, hc_5, h⟩ := bd_el h
    refine call_Vsi (ws := (wPU tc a0 g0 q0_0 (a1 0) (a3 0) q0_3 q0_4 (a5 0) (a6 0) q0_7 q0_8 q0_9 q0_10 q0_13 ++ (wSt tc a1 g1 (some (a8 0)) (a2 0) ++ (wLg tc a2 g2 ++ (wSt tc a3 g3_3 (some (a8 0)) (a4 0) ++ (wLg tc a4 g4_3 ++ (wHd tc a5 g5_3 ++ (wCk tc a6 g6 (a5 0) (a7 0) ++ (wFa tc a7 g7_3 ++ (wLw tc a8 g8_3 ln8)))))))))) (ws' := (wPU tc a0 g0 q0_0 (a1 0) (a3 0) q0_3 q0_4 (a5 0) (a6 0) q0_7 q0_8 q0_9 q0_10 q0_13 ++ (wSt tc a1 g1 (some (a8 0)) (a2 0) ++ (wLg tc a2 g2 ++ (wSt tc a3 g3_3 (some (a8 0)) (a4 0) ++ (wLg tc a4 g4_3 ++ (wHd tc a5 g5_3 ++ (wCk tc a6 g6 (a5 0) (a7 0) ++ (wFa tc a7 g7_3 ++ (wLw tc a8 g8_3 ln8)))))))))) (wPU tc a0 g0 q0_0 (a1 0) (a3 0) q0_3 q0_4 (a5 0) (a6 0) q0_7 q0_8 q0_9 q0_10 q0_13 ++ (wSt tc a1 g1 (some (a8 0)) (a2 0) ++ (wLg tc a2 g2))) (wLg tc a4 g4_3 ++ (wHd tc a5 g5_3 ++ (wCk tc a6 g6 (a5 0) (a7 0) ++ (wFa tc a7 g7_3 ++ (wLw tc a8 g8_3 ln8))))) (As := []) (rest := []) X (c_X9_tiredTogether l dC dI sk sv tc a3 (some (a8 0)) (a4 0) g3_3 hc_5) mw_3_107 mw_3_108 mw_3_109 mw_1_3 mw_3_110 dc_X9_tiredTogether ⟨Nat.le_of_ble_eq_true rfl, Nat.le_of_ble_eq_true rfl⟩ rfl rfl ⟨Nat.le_of_ble_eq_true rfl, Nat.le_of_ble_eq_true rfl⟩ (by simp only [List.append_assoc, List.nil_append, List.append_nil]) (by simp only [List.append_assoc, List.nil_append, List.append_nil]) hP (hDq _ _ _ _ _ _ _ _ _ _) hS 0 rfl rfl rfl hl.1 (Nat.le_of_ble_eq_true rfl) dX11_trial_41 (fun H locs hP hS => ?_)
    refine lv_goto (tgt := 55) X.1 X.2.1 dX11_trial_44 (by decide) ?_
    exact HJ55 r_5 H locs ls h hP hS (lv_sub hl [] rfl)

def f_X11_span_n_L17 (x1 : Int32) (x2 : Int32) (g0 : Pic) (g1 : Pic) (g2 : Pic) (g6 : Pic) (n : Nat) (a : Int32 × Int32 × Int32 × Pic × Pic × Pic × Pic) : Option (Int32 × Int32 × Pic × Pic × Pic × Pic) := lp (fun (rec : Int32 × Int32 × Int32 × Pic × Pic × Pic × Pic → Option (Int32 × Int32 × Pic × Pic × Pic × Pic)) (a : Int32 × Int32 × Int32 × Pic × Pic × Pic × Pic) => match a with | (x3, x4, x5, g3, g4, g5, g7) => (if 6 < x5 then some (x3, x4, g3, g4, g5, g7) else bd2 (f_X9_copyFrom g3 g1 g4 g2) (fun g3_2 g4_2 => nm (pu g3_2 16 0 x5) (fun g3_3 => bd5 (f_X0_pass_n g6 g7 g5 g3_3 g4_2 x1 1) (fun r_4 g7_4 g5_4 g3_4 g4_4 => bd (f_X9_onAllPages g3_4 2) (fun r_5 => nm ((if r_5 < x3 then r_5 else x3)) (fun x3_6 => nm ((if x4 < r_5 then r_5 else x4)) (fun x4_7 => nm (x5 + 1) (fun x5_8 => rec (x3_6, x4_7, x5_8, g3_4, g4_4, g5_4, g7_4)))))))))) n a
def f_X11_span_n (g0 : Pic) (g1 : Pic) (g2 : Pic) (g3 : Pic) (g4 : Pic) (g5 : Pic) (g6 : Pic) (g7 : Pic) (x1 : Int32) (x2 : Int32) : Option ((Nat × (Pic × Pic × Pic × Pic)) ⊕ (Int32 × (Pic × Pic × Pic × Pic))) := lr (f_X11_needNumber g0 x1 0 60) (fun e => .inl (e.1, (g3, g4, g5, g7))) (fun _ => bd (f_X11_span_n_L17 x1 x2 g0 g1 g2 g6 fu (100, 0, 1, g3, g4, g5, g7)) (fun (x3_9, x4_9, g3_9, g4_9, g5_9, g7_9) => jn (fun (s0_J100 : Int32) => some (.inr (s0_J100, (g3_9, g4_9, g5_9, g7_9)))) (fun J100 => (if x2 = 0 then J100 x3_9 else J100 x4_9))))
abbrev rm_X11_span_n : Room := { frames := 7, cells := 1, slots := 6, locals := 143 }
set_option maxHeartbeats 4000000 in
set_option maxRecDepth 100000 in
theorem c_X11_span_n (l : Launch) (hst : l.stackTraces = false) (dC : Nat → ClassId) (dI : Nat → Nat → Nat) (sk sv : Nat → Nat) (tc : Nat → ClassId) (a0 : Nat → Nat) (q0_0 : Nat) (q0_3 : Nat) (q0_4 : Nat) (q0_7 : Nat) (q0_8 : Nat) (q0_9 : Nat) (q0_10 : Nat) (q0_13 : Option Nat) (a1 : Nat → Nat) (a2 : Nat → Nat) (a3 : Nat → Nat) (q3_18 : Option Nat) (a4 : Nat → Nat) (a5 : Nat → Nat) (a6 : Nat → Nat) (a7 : Nat → Nat) (g0 : Pic) (g1 : Pic) (g2 : Pic) (g3 : Pic) (g4 : Pic) (g5 : Pic) (g6 : Pic) (g7 : Pic) (x1 : Int32) (x2 : Int32) {res : ((Nat × (Pic × Pic × Pic × Pic)) ⊕ (Int32 × (Pic × Pic × Pic × Pic)))} (h : f_X11_span_n g0 g1 g2 g3 g4 g5 g6 g7 x1 x2 = some res) : CU l (dC, dI) sk sv (TY tc) yX11_span cX11_span 7 (some .int) rm_X11_span_n 1 6 [.ref (a0 0), .int x1, .int x2] (wPU tc a0 g0 q0_0 (a1 0) (a3 0) q0_3 q0_4 (a5 0) (a6 0) q0_7 q0_8 q0_9 q0_10 q0_13 ++ (wSt tc a1 g1 none (a2 0) ++ (wLg tc a2 g2 ++ (wSt tc a3 g3 q3_18 (a4 0) ++ (wLg tc a4 g4 ++ (wHd tc a5 g5 ++ (wCk tc a6 g6 (a5 0) (a7 0) ++ (wFa tc a7 g7)))))))) (oI (fun u q => (wPU tc a0 g0 q0_0 (a1 0) (a3 0) q0_3 q0_4 (a5 0) (a6 0) q0_7 q0_8 q0_9 q0_10 q0_13 ++ (wSt tc a1 g1 none (a2 0) ++ (wLg tc a2 g2 ++ (wSt tc a3 u.1 q (a4 0) ++ (wLg tc a4 u.2.1 ++ (wHd tc a5 u.2.2.1 ++ (wCk tc a6 g6 (a5 0) (a7 0) ++ (wFa tc a7 u.2.2.2))))))))) res) := by
  refine ofCU (by decide) (Nat.le_of_ble_eq_true rfl) ?_
  intro pr e s m args below meth c A Q ls H locs X hT hQ hD0 hP hS hl
  have hD : ∀ z0 z1 z2 z3 z4 z5 z6 z7, va_D A (wPU tc a0 z0 q0_0 (a1 0) (a3 0) q0_3 q0_4 (a5 0) (a6 0) q0_7 q0_8 q0_9 q0_10 q0_13 ++ (wSt tc a1 z1 none (a2 0) ++ (wLg tc a2 z2 ++ (wSt tc a3 z3 q3_18 (a4 0) ++ (wLg tc a4 z4 ++ (wHd tc a5 z5 ++ (wCk tc a6 z6 (a5 0) (a7 0) ++ (wFa tc a7 z7)))))))) := fun z0 z1 z2 z3 z4 z5 z6 z7 => D_fst (ws := (wPU tc a0 g0 q0_0 (a1 0) (a3 0) q0_3 q0_4 (a5 0) (a6 0) q0_7 q0_8 q0_9 q0_10 q0_13 ++ (wSt tc a1 g1 none (a2 0) ++ (wLg tc a2 g2 ++ (wSt tc a3 g3 q3_18 (a4 0) ++ (wLg tc a4 g4 ++ (wHd tc a5 g5 ++ (wCk tc a6 g6 (a5 0) (a7 0) ++ (wFa tc a7 g7))))))))) rfl hD0
  have hDq : ∀ z0 z1 z2 z3 z4 z5 z6 z7 (zq : Option Nat), va_D A (wPU tc a0 z0 q0_0 (a1 0) (a3 0) q0_3 q0_4 (a5 0) (a6 0) q0_7 q0_8 q0_9 q0_10 q0_13 ++ (wSt tc a1 z1 none (a2 0) ++ (wLg tc a2 z2 ++ (wSt tc a3 z3 zq (a4 0) ++ (wLg tc a4 z4 ++ (wHd tc a5 z5 ++ (wCk tc a6 z6 (a5 0) (a7 0) ++ (wFa tc a7 z7)))))))) := fun z0 z1 z2 z3 z4 z5 z6 z7 zq => D_fst (ws := (wPU tc a0 g0 q0_0 (a1 0) (a3 0) q0_3 q0_4 (a5 0) (a6 0) q0_7 q0_8 q0_9 q0_10 q0_13 ++ (wSt tc a1 g1 none (a2 0) ++ (wLg tc a2 g2 ++ (wSt tc a3 g3 q3_18 (a4 0) ++ (wLg tc a4 g4 ++ (wHd tc a5 g5 ++ (wCk tc a6 g6 (a5 0) (a7 0) ++ (wFa tc a7 g7))))))))) rfl hD0
  have hl : lv_has ls 7 [(0, .ref (a0 0)), (1, .int x1), (2, .int x2)] := hl
  have HL17 : ∀ (x1 : Int32) (x2 : Int32) (n : Nat) (x3 : Int32) (x4 : Int32) (x5 : Int32) (g3 : Pic) (g4 : Pic) (g5 : Pic) (g7 : Pic) (q3_18 : Option Nat) (ex : (Int32 × Int32 × Pic × Pic × Pic × Pic)), f_X11_span_n_L17 x1 x2 g0 g1 g2 g6 n (x3, x4, x5, g3, g4, g5, g7) = some ex → ∀ (H : Heap) (locs : List Loc) (ls : Array Slot), va_P (dC, dI) vwCl (wPU tc a0 g0 q0_0 (a1 0) (a3 0) q0_3 q0_4 (a5 0) (a6 0) q0_7 q0_8 q0_9 q0_10 q0_13 ++ (wSt tc a1 g1 none (a2 0) ++ (wLg tc a2 g2 ++ (wSt tc a3 g3 q3_18 (a4 0) ++ (wLg tc a4 g4 ++ (wHd tc a5 g5 ++ (wCk tc a6 g6 (a5 0) (a7 0) ++ (wFa tc a7 g7)))))))) H → va_S A s.heap H locs → lv_has ls 7 [(0, .ref (a0 0)), (1, .int x1), (2, .int x2), (3, .int x3), (4, .int x4), (5, .int x5)] → (∀ (y3 : Int32) (y4 : Int32) (k3 : Pic) (k4 : Pic) (k5 : Pic) (k7 : Pic) (kq3_18 : Option Nat), (y3, y4, k3, k4, k5, k7) = ex → ∀ (H : Heap) (locs : List Loc) (ls : Array Slot), va_P (dC, dI) vwCl (wPU tc a0 g0 q0_0 (a1 0) (a3 0) q0_3 q0_4 (a5 0) (a6 0) q0_7 q0_8 q0_9 q0_10 q0_13 ++ (wSt tc a1 g1 none (a2 0) ++ (wLg tc a2 g2 ++ (wSt tc a3 k3 kq3_18 (a4 0) ++ (wLg tc a4 k4 ++ (wHd tc a5 k5 ++ (wCk tc a6 g6 (a5 0) (a7 0) ++ (wFa tc a7 k7)))))))) H → va_S A s.heap H locs → lv_has ls 7 [(2, .int x2), (3, .int y3), (4, .int y4)] → W pr l e rm_X11_span_n s m args below meth c H locs 1 6 Q (F0 m 90 ls [])) → W pr l e rm_X11_span_n s m args below meth c H locs 1 6 Q (F0 m 17 ls []) := by
    intro x1 x2 n
    induction n with
    | zero => intro x3 x4 x5 g3 g4 g5 g7 q3_18 ex h; exact lp_z h
    | succ n ih =>
      intro x3 x4 x5 g3 g4 g5 g7 q3_18 ex h H locs ls hP hS hl K
      have h := lp_s h
      refine lv_iload X.1 X.2.1 dX11_span_17 (lv_at hl 5 rfl) ?_
      refine lv_bipush (v := 6) X.1 X.2.1 dX11_span_19 (by decide) ?_
      refine lv_icmp_gt (tgt := 90) X.1 X.2.1 dX11_span_21 (by decide) (fun hc => ?_) (fun hc => ?_)
      · have h := it_t hc h
        exact K x3 x4 g3 g4 g5 g7 q3_18 (Option.some.inj h) H locs ls hP hS (lv_sub hl [2, 3, 4] rfl)
      · have h := it_f hc h
        refine lv_aload_n X.1 X.2.1 dX11_span_24 rfl (lv_at hl 0 rfl) ?_
        refine r_get (C := RX11) (T := TX11) (N := 15) (ci := 11) (v := .ref (a3 0)) X iw11 hP 0 rfl rfl 2 rfl mw_2_145 rfl dX11_span_25 ?_
        refine lv_aload_n X.1 X.2.1 dX11_span_28 rfl (lv_at hl 0 rfl) ?_
        refine r_get (C := RX11) (T := TX11) (N := 15) (ci := 11) (v := .ref (a1 0)) X iw11 hP 0 rfl rfl 1 rfl mw_2_144 rfl dX11_span_29 ?_
        obtain ⟨g3_2, g4_2, hc_2, h⟩ := bd2_el h
        refine call_Q (ws := (wPU tc a0 g0 q0_0 (a1 0) (a3 0) q0_3 q0_4 (a5 0) (a6 0) q0_7 q0_8 q0_9 q0_10 q0_13 ++ (wSt tc a1 g1 none (a2 0) ++ (wLg tc a2 g2 ++ (wSt tc a3 g3 q3_18 (a4 0) ++ (wLg tc a4 g4 ++ (wHd tc a5 g5 ++ (wCk tc a6 g6 (a5 0) (a7 0) ++ (wFa tc a7 g7))))))))) (ws' := (wPU tc a0 g0 q0_0 (a1 0) (a3 0) q0_3 q0_4 (a5 0) (a6 0) q0_7 q0_8 q0_9 q0_10 q0_13 ++ (wSt tc a1 g1 none (a2 0) ++ (wLg tc a2 g2 ++ (wSt tc a3 g3_2 none (a4 0) ++ (wLg tc a4 g4_2 ++ (wHd tc a5 g5 ++ (wCk tc a6 g6 (a5 0) (a7 0) ++ (wFa tc a7 g7))))))))) (wr := (wPU tc a0 g0 q0_0 (a1 0) (a3 0) q0_3 q0_4 (a5 0) (a6 0) q0_7 q0_8 q0_9 q0_10 q0_13 ++ (wHd tc a5 g5 ++ (wCk tc a6 g6 (a5 0) (a7 0) ++ (wFa tc a7 g7))))) [13, 14, 15, 16, 17, 18, 19, 20, 21, 22, 1, 2, 3, 4, 5, 6, 7, 8, 9, 10, 23, 24, 11, 12] [0, 25, 26, 27, 28, 29, 30, 31] [0, 18, 19, 20, 21, 22, 23, 24, 25, 26, 27, 30, 31, 8, 9, 10, 11, 12, 13, 14, 15, 16, 17, 28, 29, 1, 2, 3, 4, 5, 6, 7] (As := [.ref (a1 0)]) (rest := []) X (c_X9_copyFrom l dC dI sk sv tc a3 q3_18 a1 none a4 a2 g3 g1 g4 g2 hc_2) mw_3_79 mw_3_80 mw_3_81 mw_1_3 mw_3_82 dc_X9_copyFrom ⟨Nat.le_of_ble_eq_true rfl, Nat.le_of_ble_eq_true rfl⟩ rfl rfl ⟨Nat.le_of_ble_eq_true rfl, Nat.le_of_ble_eq_true rfl⟩ ⟨rfl, rfl, rfl, rfl, by decide, rfl, rfl⟩ hP (hDq _ _ _ _ _ _ _ _ _) hS 0 rfl rfl rfl hl.1 (Nat.le_of_ble_eq_true rfl) dX11_span_32 (fun H locs hP hS => ?_)
        refine W.eq (g2 := F0 m 35 ls []) rfl ?_
        refine lv_aload_n X.1 X.2.1 dX11_span_35 rfl (lv_at hl 0 rfl) ?_
        refine r_get (C := RX11) (T := TX11) (N := 15) (ci := 11) (v := .ref (a3 0)) X iw11 hP 0 rfl rfl 2 rfl mw_2_145 rfl dX11_span_36 ?_
        refine lv_iload X.1 X.2.1 dX11_span_39 (lv_at hl 5 rfl) ?_
        obtain ⟨g3_3, eg3_3, h⟩ := nm_el h
        refine r_put (C := RX9) (T := TX9) (N := 20) (ci := 9) tyX9 tyX9_ok nmX9 X iw9 hP (hDq _ _ _ _ _ _ _ _ _) hS 13 rfl rfl 16 rfl mw_1_185 rfl rfl rfl rfl dX11_span_41 (wPU tc a0 g0 q0_0 (a1 0) (a3 0) q0_3 q0_4 (a5 0) (a6 0) q0_7 q0_8 q0_9 q0_10 q0_13 ++ (wSt tc a1 g1 none (a2 0) ++ (wLg tc a2 g2 ++ (wSt tc a3 g3_3 none (a4 0) ++ (wLg tc a4 g4_2 ++ (wHd tc a5 g5 ++ (wCk tc a6 g6 (a5 0) (a7 0) ++ (wFa tc a7 g7)))))))) (by rw [eg3_3]; rfl) (fun H locs hP hS => ?_)
        refine lv_aload_n X.1 X.2.1 dX11_span_44 rfl (lv_at hl 0 rfl) ?_
        refine r_get (C := RX11) (T := TX11) (N := 15) (ci := 11) (v := .ref (a6 0)) X iw11 hP 0 rfl rfl 6 rfl mw_2_149 rfl dX11_span_45 ?_
        refine lv_aload_n X.1 X.2.1 dX11_span_48 rfl (lv_at hl 0 rfl) ?_
        refine r_get (C := RX11) (T := TX11) (N := 15) (ci := 11) (v := .ref (a3 0)) X iw11 hP 0 rfl rfl 2 rfl mw_2_145 rfl dX11_span_49 ?_
        refine lv_iload_n X.1 X.2.1 dX11_span_52 rfl (lv_at hl 1 rfl) ?_
        refine lv_iconst (v := 1) X.1 X.2.1 dX11_span_53 (by decide) ?_
        obtain ⟨r_4, g7_4, g5_4, g3_4, g4_4, hc_4, h⟩ := bd5_el h
        refine call_Q (ws := (wPU tc a0 g0 q0_0 (a1 0) (a3 0) q0_3 q0_4 (a5 0) (a6 0) q0_7 q0_8 q0_9 q0_10 q0_13 ++ (wSt tc a1 g1 none (a2 0) ++ (wLg tc a2 g2 ++ (wSt tc a3 g3_3 none (a4 0) ++ (wLg tc a4 g4_2 ++ (wHd tc a5 g5 ++ (wCk tc a6 g6 (a5 0) (a7 0) ++ (wFa tc a7 g7))))))))) (ws' := (wPU tc a0 g0 q0_0 (a1 0) (a3 0) q0_3 q0_4 (a5 0) (a6 0) q0_7 q0_8 q0_9 q0_10 q0_13 ++ (wSt tc a1 g1 none (a2 0) ++ (wLg tc a2 g2 ++ (wSt tc a3 g3_4 none (a4 0) ++ (wLg tc a4 g4_4 ++ (wHd tc a5 g5_4 ++ (wCk tc a6 g6 (a5 0) (a7 0) ++ (wFa tc a7 g7_4))))))))) (wr := (wPU tc a0 g0 q0_0 (a1 0) (a3 0) q0_3 q0_4 (a5 0) (a6 0) q0_7 q0_8 q0_9 q0_10 q0_13 ++ (wSt tc a1 g1 none (a2 0) ++ (wLg tc a2 g2)))) [30, 31, 25, 26, 27, 28, 29, 13, 14, 15, 16, 17, 18, 19, 20, 21, 22, 23, 24] [0, 1, 2, 3, 4, 5, 6, 7, 8, 9, 10, 11, 12] [0, 1, 2, 3, 4, 5, 6, 7, 8, 9, 10, 11, 12, 20, 21, 22, 23, 24, 25, 26, 27, 28, 29, 30, 31, 15, 16, 17, 18, 19, 13, 14] (As := [.ref (a3 0), .int x1, .int 1]) (rest := []) X (c_X0_pass_n l dC dI sk sv tc a6 a7 a5 a3 a4 g6 g7 g5 g3_3 g4_2 x1 1 hc_4) mw_5_208 mw_5_209 mw_5_210 mw_1_8 mw_5_211 dc_X0_pass ⟨Nat.le_of_ble_eq_true rfl, Nat.le_of_ble_eq_true rfl⟩ rfl rfl ⟨Nat.le_of_ble_eq_true rfl, Nat.le_of_ble_eq_true rfl⟩ ⟨rfl, rfl, rfl, rfl, by decide, rfl, rfl⟩ hP (hDq _ _ _ _ _ _ _ _ _) hS 0 rfl rfl rfl hl.1 (Nat.le_of_ble_eq_true rfl) dX11_span_54 (fun H locs hP hS => ?_)
        refine W.eq (g2 := F0 m 57 ls [.int r_4]) rfl ?_
        refine lv_pop X.1 X.2.1 dX11_span_57 rfl ?_
        refine lv_aload_n X.1 X.2.1 dX11_span_58 rfl (lv_at hl 0 rfl) ?_
        refine r_get (C := RX11) (T := TX11) (N := 15) (ci := 11) (v := .ref (a3 0)) X iw11 hP 0 rfl rfl 2 rfl mw_2_145 rfl dX11_span_59 ?_
        refine lv_iconst (v := 2) X.1 X.2.1 dX11_span_62 (by decide) ?_
        obtain ⟨r_5, hc_5, h⟩ := bd_el h
        refine call_Vsi (ws := (wPU tc a0 g0 q0_0 (a1 0) (a3 0) q0_3 q0_4 (a5 0) (a6 0) q0_7 q0_8 q0_9 q0_10 q0_13 ++ (wSt tc a1 g1 none (a2 0) ++ (wLg tc a2 g2 ++ (wSt tc a3 g3_4 none (a4 0) ++ (wLg tc a4 g4_4 ++ (wHd tc a5 g5_4 ++ (wCk tc a6 g6 (a5 0) (a7 0) ++ (wFa tc a7 g7_4))))))))) (ws' := (wPU tc a0 g0 q0_0 (a1 0) (a3 0) q0_3 q0_4 (a5 0) (a6 0) q0_7 q0_8 q0_9 q0_10 q0_13 ++ (wSt tc a1 g1 none (a2 0) ++ (wLg tc a2 g2 ++ (wSt tc a3 g3_4 none (a4 0) ++ (wLg tc a4 g4_4 ++ (wHd tc a5 g5_4 ++ (wCk tc a6 g6 (a5 0) (a7 0) ++ (wFa tc a7 g7_4))))))))) (wPU tc a0 g0 q0_0 (a1 0) (a3 0) q0_3 q0_4 (a5 0) (a6 0) q0_7 q0_8 q0_9 q0_10 q0_13 ++ (wSt tc a1 g1 none (a2 0) ++ (wLg tc a2 g2))) (wLg tc a4 g4_4 ++ (wHd tc a5 g5_4 ++ (wCk tc a6 g6 (a5 0) (a7 0) ++ (wFa tc a7 g7_4)))) (As := [.int 2]) (rest := []) X (c_X9_onAllPages l dC dI sk sv tc a3 none (a4 0) g3_4 2 hc_5) mw_7_77 mw_5_99 mw_5_100 mw_1_3 mw_5_101 dc_X9_onAllPages ⟨Nat.le_of_ble_eq_true rfl, Nat.le_of_ble_eq_true rfl⟩ rfl rfl ⟨Nat.le_of_ble_eq_true rfl, Nat.le_of_ble_eq_true rfl⟩ (by simp only [List.append_assoc, List.nil_append, List.append_nil]) (by simp only [List.append_assoc, List.nil_append, List.append_nil]) hP (hDq _ _ _ _ _ _ _ _ _) hS 0 rfl rfl rfl hl.1 (Nat.le_of_ble_eq_true rfl) dX11_span_63 (fun H locs hP hS => ?_)
        refine lv_istore (lv' := [(6, .int r_5), (0, .ref (a0 0)), (1, .int x1), (2, .int x2), (3, .int x3), (4, .int x4), (5, .int x5)]) X.1 X.2.1 dX11_span_66 hl (by decide) rfl (fun ls hl => ?_)
        refine lv_iload_n X.1 X.2.1 dX11_span_68 rfl (lv_at hl 4 rfl) ?_
        refine lv_iload X.1 X.2.1 dX11_span_69 (lv_at hl 0 rfl) ?_
        refine r_min X mw_6_40 mw_3_9 mw_1_25 mw_3_10 hl.1 (Nat.le_of_ble_eq_true rfl) (Nat.le_of_ble_eq_true rfl) ⟨Nat.le_of_ble_eq_true rfl, Nat.le_of_ble_eq_true rfl⟩ dX11_span_71 ?_
        obtain ⟨x3_6, ex3_6, h⟩ := nm_el h
        refine tp_i ex3_6 ?_
        refine lv_istore_n (lv' := [(3, .int x3_6), (6, .int r_5), (0, .ref (a0 0)), (1, .int x1), (2, .int x2), (4, .int x4), (5, .int x5)]) X.1 X.2.1 dX11_span_74 rfl hl (by decide) rfl (fun ls hl => ?_)
        refine lv_iload X.1 X.2.1 dX11_span_75 (lv_at hl 5 rfl) ?_
        refine lv_iload X.1 X.2.1 dX11_span_77 (lv_at hl 1 rfl) ?_
        refine r_max X mw_7_85 mw_3_21 mw_1_25 mw_3_22 hl.1 (Nat.le_of_ble_eq_true rfl) (Nat.le_of_ble_eq_true rfl) ⟨Nat.le_of_ble_eq_true rfl, Nat.le_of_ble_eq_true rfl⟩ dX11_span_79 ?_
        obtain ⟨x4_7, ex4_7, h⟩ := nm_el h
        refine tp_i ex4_7 ?_
        refine lv_istore (lv' := [(4, .int x4_7), (3, .int x3_6), (6, .int r_5), (0, .ref (a0 0)), (1, .int x1), (2, .int x2), (5, .int x5)]) X.1 X.2.1 dX11_span_82 hl (by decide) rfl (fun ls hl => ?_)
        obtain ⟨x5_8, ex5_8, h⟩ := nm_el h
        refine lv_iinc (v := x5_8) (lv' := [(5, .int x5_8), (4, .int x4_7), (3, .int x3_6), (6, .int r_5), (0, .ref (a0 0)), (1, .int x1), (2, .int x2)]) X.1 X.2.1 dX11_span_84 hl (k := 6) rfl (by rw [ex5_8]; rfl) (by decide) rfl (fun ls hl => ?_)
        refine lv_goto (tgt := 17) X.1 X.2.1 dX11_span_87 (by decide) ?_
        exact ih x3_6 x4_7 x5_8 g3_4 g4_4 g5_4 g7_4 none ex h H locs ls hP hS (lv_sub hl [4, 5, 6, 2, 1, 0] rfl) K
  unfold f_X11_span_n at h
  refine lv_aload_n X.1 X.2.1 dX11_span_0 rfl (lv_at hl 0 rfl) ?_
  refine lv_iload_n X.1 X.2.1 dX11_span_1 rfl (lv_at hl 1 rfl) ?_
  refine lv_iconst (v := 0) X.1 X.2.1 dX11_span_2 (by decide) ?_
  refine lv_bipush (v := 60) X.1 X.2.1 dX11_span_3 (by decide) ?_
  obtain ⟨ex_1, hc_1, h1_1, h2_1⟩ := lr_el h
  rcases ex_1 with e_1 | r_1
  · exact callU_t (ws := (wPU tc a0 g0 q0_0 (a1 0) (a3 0) q0_3 q0_4 (a5 0) (a6 0) q0_7 q0_8 q0_9 q0_10 q0_13 ++ (wSt tc a1 g1 none (a2 0) ++ (wLg tc a2 g2 ++ (wSt tc a3 g3 q3_18 (a4 0) ++ (wLg tc a4 g4 ++ (wHd tc a5 g5 ++ (wCk tc a6 g6 (a5 0) (a7 0) ++ (wFa tc a7 g7))))))))) (ws' := (wPU tc a0 g0 q0_0 (a1 0) (a3 0) q0_3 q0_4 (a5 0) (a6 0) q0_7 q0_8 q0_9 q0_10 q0_13 ++ (wSt tc a1 g1 none (a2 0) ++ (wLg tc a2 g2 ++ (wSt tc a3 g3 q3_18 (a4 0) ++ (wLg tc a4 g4 ++ (wHd tc a5 g5 ++ (wCk tc a6 g6 (a5 0) (a7 0) ++ (wFa tc a7 g7))))))))) (wr := (wSt tc a1 g1 none (a2 0) ++ (wLg tc a2 g2 ++ (wSt tc a3 g3 q3_18 (a4 0) ++ (wLg tc a4 g4 ++ (wHd tc a5 g5 ++ (wCk tc a6 g6 (a5 0) (a7 0) ++ (wFa tc a7 g7)))))))) [0] [1, 2, 3, 4, 5, 6, 7, 8, 9, 10, 11, 12, 13, 14, 15, 16, 17, 18, 19, 20, 21, 22, 23, 24, 25, 26, 27, 28, 29, 30, 31] [31, 0, 1, 2, 3, 4, 5, 6, 7, 8, 9, 10, 11, 12, 13, 14, 15, 16, 17, 18, 19, 20, 21, 22, 23, 24, 25, 26, 27, 28, 29, 30] (As := [.int x1, .int 0, .int 60]) (rest := []) q3_18 rfl (oUi (fun u q => (wPU tc a0 g0 q0_0 (a1 0) (a3 0) q0_3 q0_4 (a5 0) (a6 0) q0_7 q0_8 q0_9 q0_10 q0_13 ++ (wSt tc a1 g1 none (a2 0) ++ (wLg tc a2 g2 ++ (wSt tc a3 u.1 q (a4 0) ++ (wLg tc a4 u.2.1 ++ (wHd tc a5 u.2.2.1 ++ (wCk tc a6 g6 (a5 0) (a7 0) ++ (wFa tc a7 u.2.2.2))))))))) (h1_1 _ rfl)) X hT hQ (c_X11_needNumber l hst dC dI sk sv tc a0 q0_0 (a1 0) (a3 0) q0_3 q0_4 (a5 0) (a6 0) q0_7 q0_8 q0_9 q0_10 q0_13 g0 x1 0 60 hc_1) mw_5_199 mw_5_201 mp_1_8 mw_1_1 mw_5_202 dc_X11_needNumber ⟨Nat.le_of_ble_eq_true rfl, Nat.le_of_ble_eq_true rfl⟩ rfl rfl ⟨Nat.le_of_ble_eq_true rfl, Nat.le_of_ble_eq_true rfl⟩ ⟨rfl, rfl, rfl, rfl, by decide, rfl, rfl⟩ hP (hDq _ _ _ _ _ _ _ _ _) hS 0 rfl rfl rfl hl.1 (Nat.le_of_ble_eq_true rfl) dX11_span_5 (Nat.le_of_ble_eq_true rfl) (Nat.le_of_ble_eq_true rfl)
  have h := h2_1 _ rfl
  refine callU_n (ws := (wPU tc a0 g0 q0_0 (a1 0) (a3 0) q0_3 q0_4 (a5 0) (a6 0) q0_7 q0_8 q0_9 q0_10 q0_13 ++ (wSt tc a1 g1 none (a2 0) ++ (wLg tc a2 g2 ++ (wSt tc a3 g3 q3_18 (a4 0) ++ (wLg tc a4 g4 ++ (wHd tc a5 g5 ++ (wCk tc a6 g6 (a5 0) (a7 0) ++ (wFa tc a7 g7))))))))) (ws' := (wPU tc a0 g0 q0_0 (a1 0) (a3 0) q0_3 q0_4 (a5 0) (a6 0) q0_7 q0_8 q0_9 q0_10 q0_13 ++ (wSt tc a1 g1 none (a2 0) ++ (wLg tc a2 g2 ++ (wSt tc a3 g3 q3_18 (a4 0) ++ (wLg tc a4 g4 ++ (wHd tc a5 g5 ++ (wCk tc a6 g6 (a5 0) (a7 0) ++ (wFa tc a7 g7))))))))) (wr := (wSt tc a1 g1 none (a2 0) ++ (wLg tc a2 g2 ++ (wSt tc a3 g3 q3_18 (a4 0) ++ (wLg tc a4 g4 ++ (wHd tc a5 g5 ++ (wCk tc a6 g6 (a5 0) (a7 0) ++ (wFa tc a7 g7)))))))) [0] [1, 2, 3, 4, 5, 6, 7, 8, 9, 10, 11, 12, 13, 14, 15, 16, 17, 18, 19, 20, 21, 22, 23, 24, 25, 26, 27, 28, 29, 30, 31] [31, 0, 1, 2, 3, 4, 5, 6, 7, 8, 9, 10, 11, 12, 13, 14, 15, 16, 17, 18, 19, 20, 21, 22, 23, 24, 25, 26, 27, 28, 29, 30] (As := [.int x1, .int 0, .int 60]) (rest := []) X (c_X11_needNumber l hst dC dI sk sv tc a0 q0_0 (a1 0) (a3 0) q0_3 q0_4 (a5 0) (a6 0) q0_7 q0_8 q0_9 q0_10 q0_13 g0 x1 0 60 hc_1) mw_5_199 mw_5_201 mp_1_8 mw_1_1 mw_5_202 dc_X11_needNumber ⟨Nat.le_of_ble_eq_true rfl, Nat.le_of_ble_eq_true rfl⟩ rfl rfl ⟨Nat.le_of_ble_eq_true rfl, Nat.le_of_ble_eq_true rfl⟩ ⟨rfl, rfl, rfl, rfl, by decide, rfl, rfl⟩ hP (hDq _ _ _ _ _ _ _ _ _) hS 0 rfl rfl rfl hl.1 (Nat.le_of_ble_eq_true rfl) dX11_span_5 (fun H locs hP hS => ?_)
  refine W.eq (g2 := F0 m 8 ls []) rfl ?_
  refine lv_bipush (v := 100) X.1 X.2.1 dX11_span_8 (by decide) ?_
  refine lv_istore_n (lv' := [(3, .int 100), (0, .ref (a0 0)), (1, .int x1), (2, .int x2)]) X.1 X.2.1 dX11_span_10 rfl hl (by decide) rfl (fun ls hl => ?_)
  refine lv_iconst (v := 0) X.1 X.2.1 dX11_span_11 (by decide) ?_
  refine lv_istore (lv' := [(4, .int 0), (3, .int 100), (0, .ref (a0 0)), (1, .int x1), (2, .int x2)]) X.1 X.2.1 dX11_span_12 hl (by decide) rfl (fun ls hl => ?_)
  refine lv_iconst (v := 1) X.1 X.2.1 dX11_span_14 (by decide) ?_
  refine lv_istore (lv' := [(5, .int 1), (4, .int 0), (3, .int 100), (0, .ref (a0 0)), (1, .int x1), (2, .int x2)]) X.1 X.2.1 dX11_span_15 hl (by decide) rfl (fun ls hl => ?_)
  obtain ⟨ex_9, hL_9, h⟩ := bd_el h
  refine HL17 x1 x2 fu 100 0 1 g3 g4 g5 g7 q3_18 ex_9 hL_9 H locs ls hP hS (lv_sub hl [3, 4, 5, 2, 1, 0] rfl) (fun x3_9 x4_9 g3_9 g4_9 g5_9 g7_9 q3_18_9 he H locs ls hP hS hl => ?_)
  subst he
  refine lv_iload_n X.1 X.2.1 dX11_span_90 rfl (lv_at hl 0 rfl) ?_
  obtain ⟨J100, eJ100, h⟩ := jn_el h
  have HJ100 : ∀ (s0_J100 : Int32) (H : Heap) (locs : List Loc) (ls : Array Slot), J100 s0_J100 = some res → va_P (dC, dI) vwCl (wPU tc a0 g0 q0_0 (a1 0) (a3 0) q0_3 q0_4 (a5 0) (a6 0) q0_7 q0_8 q0_9 q0_10 q0_13 ++ (wSt tc a1 g1 none (a2 0) ++ (wLg tc a2 g2 ++ (wSt tc a3 g3_9 q3_18_9 (a4 0) ++ (wLg tc a4 g4_9 ++ (wHd tc a5 g5_9 ++ (wCk tc a6 g6 (a5 0) (a7 0) ++ (wFa tc a7 g7_9)))))))) H → va_S A s.heap H locs → lv_has ls 7 [] → W pr l e rm_X11_span_n s m args below meth c H locs 1 6 Q (F0 m 100 ls [.int s0_J100]) := by
    intro s0_J100 H locs ls h hP hS hl
    rw [eJ100] at h
    exact retU_i (fun u q => (wPU tc a0 g0 q0_0 (a1 0) (a3 0) q0_3 q0_4 (a5 0) (a6 0) q0_7 q0_8 q0_9 q0_10 q0_13 ++ (wSt tc a1 g1 none (a2 0) ++ (wLg tc a2 g2 ++ (wSt tc a3 u.1 q (a4 0) ++ (wLg tc a4 u.2.1 ++ (wHd tc a5 u.2.2.1 ++ (wCk tc a6 g6 (a5 0) (a7 0) ++ (wFa tc a7 u.2.2.2))))))))) q3_18_9 (Option.some.inj h) X hQ hP hS (Nat.le_of_ble_eq_true rfl) (Nat.le_of_ble_eq_true rfl) dX11_span_100
  refine lv_if_eq (tgt := 99) X.1 X.2.1 dX11_span_91 (by decide) (fun hc => ?_) (fun hc => ?_)
  · have h := it_t hc h
    refine lv_iload_n X.1 X.2.1 dX11_span_99 rfl (lv_at hl 1 rfl) ?_
    exact HJ100 x3_9 H locs ls h hP hS (lv_sub hl [] rfl)
  · have h := it_f hc h
    refine lv_iload X.1 X.2.1 dX11_span_94 (lv_at hl 2 rfl) ?_
    refine lv_goto (tgt := 100) X.1 X.2.1 dX11_span_96 (by decide) ?_
    exact HJ100 x4_9 H locs ls h hP hS (lv_sub hl [] rfl)

def f_X11_span_l_L17 (ln8 : Nat → Nat) (x1 : Int32) (x2 : Int32) (g0 : Pic) (g1 : Pic) (g2 : Pic) (g6 : Pic) (n : Nat) (a : Int32 × Int32 × Int32 × Pic × Pic × Pic × Pic × Pic) : Option (Int32 × Int32 × Pic × Pic × Pic × Pic × Pic) := lp (fun (rec : Int32 × Int32 × Int32 × Pic × Pic × Pic × Pic × Pic → Option (Int32 × Int32 × Pic × Pic × Pic × Pic × Pic)) (a : Int32 × Int32 × Int32 × Pic × Pic × Pic × Pic × Pic) => match a with | (x3, x4, x5, g3, g4, g5, g7, g8) => (if 6 < x5 then some (x3, x4, g3, g4, g5, g7, g8) else bd2 (f_X9_copyFrom g3 g1 g4 g2) (fun g3_2 g4_2 => nm (pu g3_2 16 0 x5) (fun g3_3 => bd6 (f_X0_pass_l ln8 g6 g8 g7 g5 g3_3 g4_2 x1 1) (fun r_4 g8_4 g7_4 g5_4 g3_4 g4_4 => bd (f_X9_onAllPages g3_4 2) (fun r_5 => nm ((if r_5 < x3 then r_5 else x3)) (fun x3_6 => nm ((if x4 < r_5 then r_5 else x4)) (fun x4_7 => nm (x5 + 1) (fun x5_8 => rec (x3_6, x4_7, x5_8, g3_4, g4_4, g5_4, g7_4, g8_4)))))))))) n a
def f_X11_span_l (ln8 : Nat → Nat) (g0 : Pic) (g1 : Pic) (g2 : Pic) (g3 : Pic) (g4 : Pic) (g5 : Pic) (g6 : Pic) (g7 : Pic) (g8 : Pic) (x1 : Int32) (x2 : Int32) : Option ((Nat × (Pic × Pic × Pic × Pic × Pic)) ⊕ (Int32 × (Pic × Pic × Pic × Pic × Pic))) := lr (f_X11_needNumber g0 x1 0 60) (fun e => .inl (e.1, (g3, g4, g5, g7, g8))) (fun _ => bd (f_X11_span_l_L17 ln8 x1 x2 g0 g1 g2 g6 fu (100, 0, 1, g3, g4, g5, g7, g8)) (fun (x3_9, x4_9, g3_9, g4_9, g5_9, g7_9, g8_9) => jn (fun (s0_J100 : Int32) => some (.inr (s0_J100, (g3_9, g4_9, g5_9, g7_9, g8_9)))) (fun J100 => (if x2 = 0 then J100 x3_9 else J100 x4_9))))
abbrev rm_X11_span_l : Room := { frames := 7, cells := 1, slots := 6, locals := 168 }
set_option maxHeartbeats 4000000 in
set_option maxRecDepth 100000 in
theorem c_X11_span_l (l : Launch) (hst : l.stackTraces = false) (dC : Nat → ClassId) (dI : Nat → Nat → Nat) (sk sv : Nat → Nat) (tc : Nat → ClassId) (ln8 : Nat → Nat) (a0 : Nat → Nat) (q0_0 : Nat) (q0_3 : Nat) (q0_4 : Nat) (q0_7 : Nat) (q0_8 : Nat) (q0_9 : Nat) (q0_10 : Nat) (q0_13 : Option Nat) (a1 : Nat → Nat) (a2 : Nat → Nat) (a3 : Nat → Nat) (q3_18 : Option Nat) (a4 : Nat → Nat) (a5 : Nat → Nat) (a6 : Nat → Nat) (a7 : Nat → Nat) (a8 : Nat → Nat) (g0 : Pic) (g1 : Pic) (g2 : Pic) (g3 : Pic) (g4 : Pic) (g5 : Pic) (g6 : Pic) (g7 : Pic) (g8 : Pic) (x1 : Int32) (x2 : Int32) {res : ((Nat × (Pic × Pic × Pic × Pic × Pic)) ⊕ (Int32 × (Pic × Pic × Pic × Pic × Pic)))} (h : f_X11_span_l ln8 g0 g1 g2 g3 g4 g5 g6 g7 g8 x1 x2 = some res) : CU l (dC, dI) sk sv (TY tc) yX11_span cX11_span 7 (some .int) rm_X11_span_l 1 6 [.ref (a0 0), .int x1, .int x2] (wPU tc a0 g0 q0_0 (a1 0) (a3 0) q0_3 q0_4 (a5 0) (a6 0) q0_7 q0_8 q0_9 q0_10 q0_13 ++ (wSt tc a1 g1 (some (a8 0)) (a2 0) ++ (wLg tc a2 g2 ++ (wSt tc a3 g3 q3_18 (a4 0) ++ (wLg tc a4 g4 ++ (wHd tc a5 g5 ++ (wCk tc a6 g6 (a5 0) (a7 0) ++ (wFa tc a7 g7 ++ (wLw tc a8 g8 ln8))))))))) (oI (fun u q => (wPU tc a0 g0 q0_0 (a1 0) (a3 0) q0_3 q0_4 (a5 0) (a6 0) q0_7 q0_8 q0_9 q0_10 q0_13 ++ (wSt tc a1 g1 (some (a8 0)) (a2 0) ++ (wLg tc a2 g2 ++ (wSt tc a3 u.1 q (a4 0) ++ (wLg tc a4 u.2.1 ++ (wHd tc a5 u.2.2.1 ++ (wCk tc a6 g6 (a5 0) (a7 0) ++ (wFa tc a7 u.2.2.2.1 ++ (wLw tc a8 u.2.2.2.2 ln8)))))))))) res) := by
  refine ofCU (by decide) (Nat.le_of_ble_eq_true rfl) ?_
  intro pr e s m args below meth c A Q ls H locs X hT hQ hD0 hP hS hl
  have hD : ∀ z0 z1 z2 z3 z4 z5 z6 z7 z8, va_D A (wPU tc a0 z0 q0_0 (a1 0) (a3 0) q0_3 q0_4 (a5 0) (a6 0) q0_7 q0_8 q0_9 q0_10 q0_13 ++ (wSt tc a1 z1 (some (a8 0)) (a2 0) ++ (wLg tc a2 z2 ++ (wSt tc a3 z3 q3_18 (a4 0) ++ (wLg tc a4 z4 ++ (wHd tc a5 z5 ++ (wCk tc a6 z6 (a5 0) (a7 0) ++ (wFa tc a7 z7 ++ (wLw tc a8 z8 ln8))))))))) := fun z0 z1 z2 z3 z4 z5 z6 z7 z8 => D_fst (ws := (wPU tc a0 g0 q0_0 (a1 0) (a3 0) q0_3 q0_4 (a5 0) (a6 0) q0_7 q0_8 q0_9 q0_10 q0_13 ++ (wSt tc a1 g1 (some (a8 0)) (a2 0) ++ (wLg tc a2 g2 ++ (wSt tc a3 g3 q3_18 (a4 0) ++ (wLg tc a4 g4 ++ (wHd tc a5 g5 ++ (wCk tc a6 g6 (a5 0) (a7 0) ++ (wFa tc a7 g7 ++ (wLw tc a8 g8 ln8)))))))))) rfl hD0
  have hDq : ∀ z0 z1 z2 z3 z4 z5 z6 z7 z8 (zq : Option Nat), va_D A (wPU tc a0 z0 q0_0 (a1 0) (a3 0) q0_3 q0_4 (a5 0) (a6 0) q0_7 q0_8 q0_9 q0_10 q0_13 ++ (wSt tc a1 z1 (some (a8 0)) (a2 0) ++ (wLg tc a2 z2 ++ (wSt tc a3 z3 zq (a4 0) ++ (wLg tc a4 z4 ++ (wHd tc a5 z5 ++ (wCk tc a6 z6 (a5 0) (a7 0) ++ (wFa tc a7 z7 ++ (wLw tc a8 z8 ln8))))))))) := fun z0 z1 z2 z3 z4 z5 z6 z7 z8 zq => D_fst (ws := (wPU tc a0 g0 q0_0 (a1 0) (a3 0) q0_3 q0_4 (a5 0) (a6 0) q0_7 q0_8 q0_9 q0_10 q0_13 ++ (wSt tc a1 g1 (some (a8 0)) (a2 0) ++ (wLg tc a2 g2 ++ (wSt tc a3 g3 q3_18 (a4 0) ++ (wLg tc a4 g4 ++ (wHd tc a5 g5 ++ (wCk tc a6 g6 (a5 0) (a7 0) ++ (wFa tc a7 g7 ++ (wLw tc a8 g8 ln8)))))))))) rfl hD0
  have hl : lv_has ls 7 [(0, .ref (a0 0)), (1, .int x1), (2, .int x2)] := hl
  have HL17 : ∀ (x1 : Int32) (x2 : Int32) (n : Nat) (x3 : Int32) (x4 : Int32) (x5 : Int32) (g3 : Pic) (g4 : Pic) (g5 : Pic) (g7 : Pic) (g8 : Pic) (q3_18 : Option Nat) (ex : (Int32 × Int32 × Pic × Pic × Pic × Pic × Pic)), f_X11_span_l_L17 ln8 x1 x2 g0 g1 g2 g6 n (x3, x4, x5, g3, g4, g5, g7, g8) = some ex → ∀ (H : Heap) (locs : List Loc) (ls : Array Slot), va_P (dC, dI) vwCl (wPU tc a0 g0 q0_0 (a1 0) (a3 0) q0_3 q0_4 (a5 0) (a6 0) q0_7 q0_8 q0_9 q0_10 q0_13 ++ (wSt tc a1 g1 (some (a8 0)) (a2 0) ++ (wLg tc a2 g2 ++ (wSt tc a3 g3 q3_18 (a4 0) ++ (wLg tc a4 g4 ++ (wHd tc a5 g5 ++ (wCk tc a6 g6 (a5 0) (a7 0) ++ (wFa tc a7 g7 ++ (wLw tc a8 g8 ln8))))))))) H → va_S A s.heap H locs → lv_has ls 7 [(0, .ref (a0 0)), (1, .int x1), (2, .int x2), (3, .int x3), (4, .int x4), (5, .int x5)] → (∀ (y3 : Int32) (y4 : Int32) (k3 : Pic) (k4 : Pic) (k5 : Pic) (k7 : Pic) (k8 : Pic) (kq3_18 : Option Nat), (y3, y4, k3, k4, k5, k7, k8) = ex → ∀ (H : Heap) (locs : List Loc) (ls : Array Slot), va_P (dC, dI) vwCl (wPU tc a0 g0 q0_0 (a1 0) (a3 0) q0_3 q0_4 (a5 0) (a6 0) q0_7 q0_8 q0_9 q0_10 q0_13 ++ (wSt tc a1 g1 (some (a8 0)) (a2 0) ++ (wLg tc a2 g2 ++ (wSt tc a3 k3 kq3_18 (a4 0) ++ (wLg tc a4 k4 ++ (wHd tc a5 k5 ++ (wCk tc a6 g6 (a5 0) (a7 0) ++ (wFa tc a7 k7 ++ (wLw tc a8 k8 ln8))))))))) H → va_S A s.heap H locs → lv_has ls 7 [(2, .int x2), (3, .int y3), (4, .int y4)] → W pr l e rm_X11_span_l s m args below meth c H locs 1 6 Q (F0 m 90 ls [])) → W pr l e rm_X11_span_l s m args below meth c H locs 1 6 Q (F0 m 17 ls []) := by
    intro x1 x2 n
    induction n with
    | zero => intro x3 x4 x5 g3 g4 g5 g7 g8 q3_18 ex h; exact lp_z h
    | succ n ih =>
      intro x3 x4 x5 g3 g4 g5 g7 g8 q3_18 ex h H locs ls hP hS hl K
      have h := lp_s h
      refine lv_iload X.1 X.2.1 dX11_span_17 (lv_at hl 5 rfl) ?_
      refine lv_bipush (v := 6) X.1 X.2.1 dX11_span_19 (by decide) ?_
      refine lv_icmp_gt (tgt := 90) X.1 X.2.1 dX11_span_21 (by decide) (fun hc => ?_) (fun hc => ?_)
      · have h := it_t hc h
        exact K x3 x4 g3 g4 g5 g7 g8 q3_18 (Option.some.inj h) H locs ls hP hS (lv_sub hl [2, 3, 4] rfl)
      · have h := it_f hc h
        refine lv_aload_n X.1 X.2.1 dX11_span_24 rfl (lv_at hl 0 rfl) ?_
        refine r_get (C := RX11) (T := TX11) (N := 15) (ci := 11) (v := .ref (a3 0)) X iw11 hP 0 rfl rfl 2 rfl mw_2_145 rfl dX11_span_25 ?_
        refine lv_aload_n X.1 X.2.1 dX11_span_28 rfl (lv_at hl 0 rfl) ?_
        refine r_get (C := RX11) (T := TX11) (N := 15) (ci := 11) (v := .ref (a1 0)) X iw11 hP 0 rfl rfl 1 rfl mw_2_144 rfl dX11_span_29 ?_
        obtain ⟨g3_2, g4_2, hc_2, h⟩ := bd2_el h
        refine call_Q (ws := (wPU tc a0 g0 q0_0 (a1 0) (a3 0) q0_3 q0_4 (a5 0) (a6 0) q0_7 q0_8 q0_9 q0_10 q0_13 ++ (wSt tc a1 g1 (some (a8 0)) (a2 0) ++ (wLg tc a2 g2 ++ (wSt tc a3 g3 q3_18 (a4 0) ++ (wLg tc a4 g4 ++ (wHd tc a5 g5 ++ (wCk tc a6 g6 (a5 0) (a7 0) ++ (wFa tc a7 g7 ++ (wLw tc a8 g8 ln8)))))))))) (ws' := (wPU tc a0 g0 q0_0 (a1 0) (a3 0) q0_3 q0_4 (a5 0) (a6 0) q0_7 q0_8 q0_9 q0_10 q0_13 ++ (wSt tc a1 g1 (some (a8 0)) (a2 0) ++ (wLg tc a2 g2 ++ (wSt tc a3 g3_2 (some (a8 0)) (a4 0) ++ (wLg tc a4 g4_2 ++ (wHd tc a5 g5 ++ (wCk tc a6 g6 (a5 0) (a7 0) ++ (wFa tc a7 g7 ++ (wLw tc a8 g8 ln8)))))))))) (wr := (wPU tc a0 g0 q0_0 (a1 0) (a3 0) q0_3 q0_4 (a5 0) (a6 0) q0_7 q0_8 q0_9 q0_10 q0_13 ++ (wHd tc a5 g5 ++ (wCk tc a6 g6 (a5 0) (a7 0) ++ (wFa tc a7 g7 ++ (wLw tc a8 g8 ln8)))))) [13, 14, 15, 16, 17, 18, 19, 20, 21, 22, 1, 2, 3, 4, 5, 6, 7, 8, 9, 10, 23, 24, 11, 12] [0, 25, 26, 27, 28, 29, 30, 31, 32, 33, 34, 35, 36, 37] [0, 24, 25, 26, 27, 28, 29, 30, 31, 32, 33, 36, 37, 14, 15, 16, 17, 18, 19, 20, 21, 22, 23, 34, 35, 1, 2, 3, 4, 5, 6, 7, 8, 9, 10, 11, 12, 13] (As := [.ref (a1 0)]) (rest := []) X (c_X9_copyFrom l dC dI sk sv tc a3 q3_18 a1 (some (a8 0)) a4 a2 g3 g1 g4 g2 hc_2) mw_3_79 mw_3_80 mw_3_81 mw_1_3 mw_3_82 dc_X9_copyFrom ⟨Nat.le_of_ble_eq_true rfl, Nat.le_of_ble_eq_true rfl⟩ rfl rfl ⟨Nat.le_of_ble_eq_true rfl, Nat.le_of_ble_eq_true rfl⟩ ⟨rfl, rfl, rfl, rfl, by decide, rfl, rfl⟩ hP (hDq _ _ _ _ _ _ _ _ _ _) hS 0 rfl rfl rfl hl.1 (Nat.le_of_ble_eq_true rfl) dX11_span_32 (fun H locs hP hS => ?_)
        refine W.eq (g2 := F0 m 35 ls []) rfl ?_
        refine lv_aload_n X.1 X.2.1 dX11_span_35 rfl (lv_at hl 0 rfl) ?_
        refine r_get (C := RX11) (T := TX11) (N := 15) (ci := 11) (v := .ref (a3 0)) X iw11 hP 0 rfl rfl 2 rfl mw_2_145 rfl dX11_span_36 ?_
        refine lv_iload X.1 X.2.1 dX11_span_39 (lv_at hl 5 rfl) ?_
        obtain ⟨g3_3, eg3_3, h⟩ := nm_el h
        refine r_put (C := RX9) (T := TX9) (N := 20) (ci := 9) tyX9 tyX9_ok nmX9 X iw9 hP (hDq _ _ _ _ _ _ _ _ _ _) hS 13 rfl rfl 16 rfl mw_1_185 rfl rfl rfl rfl dX11_span_41 (wPU tc a0 g0 q0_0 (a1 0) (a3 0) q0_3 q0_4 (a5 0) (a6 0) q0_7 q0_8 q0_9 q0_10 q0_13 ++ (wSt tc a1 g1 (some (a8 0)) (a2 0) ++ (wLg tc a2 g2 ++ (wSt tc a3 g3_3 (some (a8 0)) (a4 0) ++ (wLg tc a4 g4_2 ++ (wHd tc a5 g5 ++ (wCk tc a6 g6 (a5 0) (a7 0) ++ (wFa tc a7 g7 ++ (wLw tc a8 g8 ln8))))))))) (by rw [eg3_3]; rfl) (fun H locs hP hS => ?_)
        refine lv_aload_n X.1 X.2.1 dX11_span_44 rfl (lv_at hl 0 rfl) ?_
        refine r_get (C := RX11) (T := TX11) (N := 15) (ci := 11) (v := .ref (a6 0)) X iw11 hP 0 rfl rfl 6 rfl mw_2_149 rfl dX11_span_45 ?_
        refine lv_aload_n X.1 X.2.1 dX11_span_48 rfl (lv_at hl 0 rfl) ?_
        refine r_get (C := RX11) (T := TX11) (N := 15) (ci := 11) (v := .ref (a3 0)) X iw11 hP 0 rfl rfl 2 rfl mw_2_145 rfl dX11_span_49 ?_
        refine lv_iload_n X.1 X.2.1 dX11_span_52 rfl (lv_at hl 1 rfl) ?_
        refine lv_iconst (v := 1) X.1 X.2.1 dX11_span_53 (by decide) ?_
        obtain ⟨r_4, g8_4, g7_4, g5_4, g3_4, g4_4, hc_4, h⟩ := bd6_el h
        refine call_Q (ws := (wPU tc a0 g0 q0_0 (a1 0) (a3 0) q0_3 q0_4 (a5 0) (a6 0) q0_7 q0_8 q0_9 q0_10 q0_13 ++ (wSt tc a1 g1 (some (a8 0)) (a2 0) ++ (wLg tc a2 g2 ++ (wSt tc a3 g3_3 (some (a8 0)) (a4 0) ++ (wLg tc a4 g4_2 ++ (wHd tc a5 g5 ++ (wCk tc a6 g6 (a5 0) (a7 0) ++ (wFa tc a7 g7 ++ (wLw tc a8 g8 ln8)))))))))) (ws' := (wPU tc a0 g0 q0_0 (a1 0) (a3 0) q0_3 q0_4 (a5 0) (a6 0) q0_7 q0_8 q0_9 q0_10 q0_13 ++ (wSt tc a1 g1 (some (a8 0)) (a2 0) ++ (wLg tc a2 g2 ++ (wSt tc a3 g3_4 (some (a8 0)) (a4 0) ++ (wLg tc a4 g4_4 ++ (wHd tc a5 g5_4 ++ (wCk tc a6 g6 (a5 0) (a7 0) ++ (wFa tc a7 g7_4 ++ (wLw tc a8 g8_4 ln8)))))))))) (wr := (wPU tc a0 g0 q0_0 (a1 0) (a3 0) q0_3 q0_4 (a5 0) (a6 0) q0_7 q0_8 q0_9 q0_10 q0_13 ++ (wSt tc a1 g1 (some (a8 0)) (a2 0) ++ (wLg tc a2 g2)))) [30, 32, 33, 34, 35, 36, 37, 31, 25, 26, 27, 28, 29, 13, 14, 15, 16, 17, 18, 19, 20, 21, 22, 23, 24] [0, 1, 2, 3, 4, 5, 6, 7, 8, 9, 10, 11, 12] [0, 1, 2, 3, 4, 5, 6, 7, 8, 9, 10, 11, 12, 26, 27, 28, 29, 30, 31, 32, 33, 34, 35, 36, 37, 21, 22, 23, 24, 25, 13, 20, 14, 15, 16, 17, 18, 19] (As := [.ref (a3 0), .int x1, .int 1]) (rest := []) X (c_X0_pass_l l dC dI sk sv tc ln8 a6 a8 a7 a5 a3 a4 g6 g8 g7 g5 g3_3 g4_2 x1 1 hc_4) mw_5_208 mw_5_209 mw_5_210 mw_1_8 mw_5_211 dc_X0_pass ⟨Nat.le_of_ble_eq_true rfl, Nat.le_of_ble_eq_true rfl⟩ rfl rfl ⟨Nat.le_of_ble_eq_true rfl, Nat.le_of_ble_eq_true rfl⟩ ⟨rfl, rfl, rfl, rfl, by decide, rfl, rfl⟩ hP (hDq _ _ _ _ _ _ _ _ _ _) hS 0 rfl rfl rfl hl.1 (Nat.le_of_ble_eq_true rfl) dX11_span_54 (fun H locs hP hS => ?_)
        refine W.eq (g2 := F0 m 57 ls [.int r_4]) rfl ?_
        refine lv_pop X.1 X.2.1 dX11_span_57 rfl ?_
        refine lv_aload_n X.1 X.2.1 dX11_span_58 rfl (lv_at hl 0 rfl) ?_
        refine r_get (C := RX11) (T := TX11) (N := 15) (ci := 11) (v := .ref (a3 0)) X iw11 hP 0 rfl rfl 2 rfl mw_2_145 rfl dX11_span_59 ?_
        refine lv_iconst (v := 2) X.1 X.2.1 dX11_span_62 (by decide) ?_
        obtain ⟨r_5, hc_5, h⟩ := bd_el h
        refine call_Vsi (ws := (wPU tc a0 g0 q0_0 (a1 0) (a3 0) q0_3 q0_4 (a5 0) (a6 0) q0_7 q0_8 q0_9 q0_10 q0_13 ++ (wSt tc a1 g1 (some (a8 0)) (a2 0) ++ (wLg tc a2 g2 ++ (wSt tc a3 g3_4 (some (a8 0)) (a4 0) ++ (wLg tc a4 g4_4 ++ (wHd tc a5 g5_4 ++ (wCk tc a6 g6 (a5 0) (a7 0) ++ (wFa tc a7 g7_4 ++ (wLw tc a8 g8_4 ln8)))))))))) (ws' := (wPU tc a0 g0 q0_0 (a1 0) (a3 0) q0_3 q0_4 (a5 0) (a6 0) q0_7 q0_8 q0_9 q0_10 q0_13 ++ (wSt tc a1 g1 (some (a8 0)) (a2 0) ++ (wLg tc a2 g2 ++ (wSt tc a3 g3_4 (some (a8 0)) (a4 0) ++ (wLg tc a4 g4_4 ++ (wHd tc a5 g5_4 ++ (wCk tc a6 g6 (a5 0) (a7 0) ++ (wFa tc a7 g7_4 ++ (wLw tc a8 g8_4 ln8)))))))))) (wPU tc a0 g0 q0_0 (a1 0) (a3 0) q0_3 q0_4 (a5 0) (a6 0) q0_7 q0_8 q0_9 q0_10 q0_13 ++ (wSt tc a1 g1 (some (a8 0)) (a2 0) ++ (wLg tc a2 g2))) (wLg tc a4 g4_4 ++ (wHd tc a5 g5_4 ++ (wCk tc a6 g6 (a5 0) (a7 0) ++ (wFa tc a7 g7_4 ++ (wLw tc a8 g8_4 ln8))))) (As := [.int 2]) (rest := []) X (c_X9_onAllPages l dC dI sk sv tc a3 (some (a8 0)) (a4 0) g3_4 2 hc_5) mw_7_77 mw_5_99 mw_5_100 mw_1_3 mw_5_101 dc_X9_onAllPages ⟨Nat.le_of_ble_eq_true rfl, Nat.le_of_ble_eq_true rfl⟩ rfl rfl ⟨Nat.le_of_ble_eq_true rfl, Nat.le_of_ble_eq_true rfl⟩ (by simp only [List.append_assoc, List.nil_append, List.append_nil]) (by simp only [List.append_assoc, List.nil_append, List.append_nil]) hP (hDq _ _ _ _ _ _ _ _ _ _) hS 0 rfl rfl rfl hl.1 (Nat.le_of_ble_eq_true rfl) dX11_span_63 (fun H locs hP hS => ?_)
        refine lv_istore (lv' := [(6, .int r_5), (0, .ref (a0 0)), (1, .int x1), (2, .int x2), (3, .int x3), (4, .int x4), (5, .int x5)]) X.1 X.2.1 dX11_span_66 hl (by decide) rfl (fun ls hl => ?_)
        refine lv_iload_n X.1 X.2.1 dX11_span_68 rfl (lv_at hl 4 rfl) ?_
        refine lv_iload X.1 X.2.1 dX11_span_69 (lv_at hl 0 rfl) ?_
        refine r_min X mw_6_40 mw_3_9 mw_1_25 mw_3_10 hl.1 (Nat.le_of_ble_eq_true rfl) (Nat.le_of_ble_eq_true rfl) ⟨Nat.le_of_ble_eq_true rfl, Nat.le_of_ble_eq_true rfl⟩ dX11_span_71 ?_
        obtain ⟨x3_6, ex3_6, h⟩ := nm_el h
        refine tp_i ex3_6 ?_
        refine lv_istore_n (lv' := [(3, .int x3_6), (6, .int r_5), (0, .ref (a0 0)), (1, .int x1), (2, .int x2), (4, .int x4), (5, .int x5)]) X.1 X.2.1 dX11_span_74 rfl hl (by decide) rfl (fun ls hl => ?_)
        refine lv_iload X.1 X.2.1 dX11_span_75 (lv_at hl 5 rfl) ?_
        refine lv_iload X.1 X.2.1 dX11_span_77 (lv_at hl 1 rfl) ?_
        refine r_max X mw_7_85 mw_3_21 mw_1_25 mw_3_22 hl.1 (Nat.le_of_ble_eq_true rfl) (Nat.le_of_ble_eq_true rfl) ⟨Nat.le_of_ble_eq_true rfl, Nat.le_of_ble_eq_true rfl⟩ dX11_span_79 ?_
        obtain ⟨x4_7, ex4_7, h⟩ := nm_el h
        refine tp_i ex4_7 ?_
        refine lv_istore (lv' := [(4, .int x4_7), (3, .int x3_6), (6, .int r_5), (0, .ref (a0 0)), (1, .int x1), (2, .int x2), (5, .int x5)]) X.1 X.2.1 dX11_span_82 hl (by decide) rfl (fun ls hl => ?_)
        obtain ⟨x5_8, ex5_8, h⟩ := nm_el h
        refine lv_iinc (v := x5_8) (lv' := [(5, .int x5_8), (4, .int x4_7), (3, .int x3_6), (6, .int r_5), (0, .ref (a0 0)), (1, .int x1), (2, .int x2)]) X.1 X.2.1 dX11_span_84 hl (k := 6) rfl (by rw [ex5_8]; rfl) (by decide) rfl (fun ls hl => ?_)
        refine lv_goto (tgt := 17) X.1 X.2.1 dX11_span_87 (by decide) ?_
        exact ih x3_6 x4_7 x5_8 g3_4 g4_4 g5_4 g7_4 g8_4 (some (a8 0)) ex h H locs ls hP hS (lv_sub hl [4, 5, 6, 2, 1, 0] rfl) K
  unfold f_X11_span_l at h
  refine lv_aload_n X.1 X.2.1 dX11_span_0 rfl (lv_at hl 0 rfl) ?_
  refine lv_iload_n X.1 X.2.1 dX11_span_1 rfl (lv_at hl 1 rfl) ?_
  refine lv_iconst (v := 0) X.1 X.2.1 dX11_span_2 (by decide) ?_
  refine lv_bipush (v := 60) X.1 X.2.1 dX11_span_3 (by decide) ?_
  obtain ⟨ex_1, hc_1, h1_1, h2_1⟩ := lr_el h
  rcases ex_1 with e_1 | r_1
  · exact callU_t (ws := (wPU tc a0 g0 q0_0 (a1 0) (a3 0) q0_3 q0_4 (a5 0) (a6 0) q0_7 q0_8 q0_9 q0_10 q0_13 ++ (wSt tc a1 g1 (some (a8 0)) (a2 0) ++ (wLg tc a2 g2 ++ (wSt tc a3 g3 q3_18 (a4 0) ++ (wLg tc a4 g4 ++ (wHd tc a5 g5 ++ (wCk tc a6 g6 (a5 0) (a7 0) ++ (wFa tc a7 g7 ++ (wLw tc a8 g8 ln8)))))))))) (ws' := (wPU tc a0 g0 q0_0 (a1 0) (a3 0) q0_3 q0_4 (a5 0) (a6 0) q0_7 q0_8 q0_9 q0_10 q0_13 ++ (wSt tc a1 g1 (some (a8 0)) (a2 0) ++ (wLg tc a2 g2 ++ (wSt tc a3 g3 q3_18 (a4 0) ++ (wLg tc a4 g4 ++ (wHd tc a5 g5 ++ (wCk tc a6 g6 (a5 0) (a7 0) ++ (wFa tc a7 g7 ++ (wLw tc a8 g8 ln8)))))))))) (wr := (wSt tc a1 g1 (some (a8 0)) (a2 0) ++ (wLg tc a2 g2 ++ (wSt tc a3 g3 q3_18 (a4 0) ++ (wLg tc a4 g4 ++ (wHd tc a5 g5 ++ (wCk tc a6 g6 (a5 0) (a7 0) ++ (wFa tc a7 g7 ++ (wLw tc a8 g8 ln8))))))))) [0] [1, 2, 3, 4, 5, 6, 7, 8, 9, 10, 11, 12, 13, 14, 15, 16, 17, 18, 19, 20, 21, 22, 23, 24, 25, 26, 27, 28, 29, 30, 31, 32, 33, 34, 35, 36, 37] [37, 0, 1, 2, 3, 4, 5, 6, 7, 8, 9, 10, 11, 12, 13, 14, 15, 16, 17, 18, 19, 20, 21, 22, 23, 24, 25, 26, 27, 28, 29, 30, 31, 32, 33, 34, 35, 36] (As := [.int x1, .int 0, .int 60]) (rest := []) q3_18 rfl (oUi (fun u q => (wPU tc a0 g0 q0_0 (a1 0) (a3 0) q0_3 q0_4 (a5 0) (a6 0) q0_7 q0_8 q0_9 q0_10 q0_13 ++ (wSt tc a1 g1 (some (a8 0)) (a2 0) ++ (wLg tc a2 g2 ++ (wSt tc a3 u.1 q (a4 0) ++ (wLg tc a4 u.2.1 ++ (wHd tc a5 u.2.2.1 ++ (wCk tc a6 g6 (a5 0) (a7 0) ++ (wFa tc a7 u.2.2.2.1 ++ (wLw tc a8 u.2.2.2.2 ln8)))))))))) (h1_1 _ rfl)) X hT hQ (c_X11_needNumber l hst dC dI sk sv tc a0 q0_0 (a1 0) (a3 0) q0_3 q0_4 (a5 0) (a6 0) q0_7 q0_8 q0_9 q0_10 q0_13 g0 x1 0 60 hc_1) mw_5_199 mw_5_201 mp_1_8 mw_1_1 mw_5_202 dc_X11_needNumber ⟨Nat.le_of_ble_eq_true rfl, Nat.le_of_ble_eq_true rfl⟩ rfl rfl ⟨Nat.le_of_ble_eq_true rfl, Nat.le_of_ble_eq_true rfl⟩ ⟨rfl, rfl, rfl, rfl, by decide, rfl, rfl⟩ hP (hDq _ _ _ _ _ _ _ _ _ _) hS 0 rfl rfl rfl hl.1 (Nat.le_of_ble_eq_true rfl) dX11_span_5 (Nat.le_of_ble_eq_true rfl) (Nat.le_of_ble_eq_true rfl)
  have h := h2_1 _ rfl
  refine callU_n (ws := (wPU tc a0 g0 q0_0 (a1 0) (a3 0) q0_3 q0_4 (a5 0) (a6 0) q0_7 q0_8 q0_9 q0_10 q0_13 ++ (wSt tc a1 g1 (some (a8 0)) (a2 0) ++ (wLg tc a2 g2 ++ (wSt tc a3 g3 q3_18 (a4 0) ++ (wLg tc a4 g4 ++ (wHd tc a5 g5 ++ (wCk tc a6 g6 (a5 0) (a7 0) ++ (wFa tc a7 g7 ++ (wLw tc a8 g8 ln8)))))))))) (ws' := (wPU tc a0 g0 q0_0 (a1 0) (a3 0) q0_3 q0_4 (a5 0) (a6 0) q0_7 q0_8 q0_9 q0_10 q0_13 ++ (wSt tc a1 g1 (some (a8 0)) (a2 0) ++ (wLg tc a2 g2 ++ (wSt tc a3 g3 q3_18 (a4 0) ++ (wLg tc a4 g4 ++ (wHd tc a5 g5 ++ (wCk tc a6 g6 (a5 0) (a7 0) ++ (wFa tc a7 g7 ++ (wLw tc a8 g8 ln8)))))))))) (wr := (wSt tc a1 g1 (some (a8 0)) (a2 0) ++ (wLg tc a2 g2 ++ (wSt tc a3 g3 q3_18 (a4 0) ++ (wLg tc a4 g4 ++ (wHd tc a5 g5 ++ (wCk tc a6 g6 (a5 0) (a7 0) ++ (wFa tc a7 g7 ++ (wLw tc a8 g8 ln8))))))))) [0] [1, 2, 3, 4, 5, 6, 7, 8, 9, 10, 11, 12, 13, 14, 15, 16, 17, 18, 19, 20, 21, 22, 23, 24, 25, 26, 27, 28, 29, 30, 31, 32, 33, 34, 35, 36, 37] [37, 0, 1, 2, 3, 4, 5, 6, 7, 8, 9, 10, 11, 12, 13, 14, 15, 16, 17, 18, 19, 20, 21, 22, 23, 24, 25, 26, 27, 28, 29, 30, 31, 32, 33, 34, 35, 36] (As := [.int x1, .int 0, .int 60]) (rest := []) X (c_X11_needNumber l hst dC dI sk sv tc a0 q0_0 (a1 0) (a3 0) q0_3 q0_4 (a5 0) (a6 0) q0_7 q0_8 q0_9 q0_10 q0_13 g0 x1 0 60 hc_1) mw_5_199 mw_5_201 mp_1_8 mw_1_1 mw_5_202 dc_X11_needNumber ⟨Nat.le_of_ble_eq_true rfl, Nat.le_of_ble_eq_true rfl⟩ rfl rfl ⟨Nat.le_of_ble_eq_true rfl, Nat.le_of_ble_eq_true rfl⟩ ⟨rfl, rfl, rfl, rfl, by decide, rfl, rfl⟩ hP (hDq _ _ _ _ _ _ _ _ _ _) hS 0 rfl rfl rfl hl.1 (Nat.le_of_ble_eq_true rfl) dX11_span_5 (fun H locs hP hS => ?_)
  refine W.eq (g2 := F0 m 8 ls []) rfl ?_
  refine lv_bipush (v := 100) X.1 X.2.1 dX11_span_8 (by decide) ?_
  refine lv_istore_n (lv' := [(3, .int 100), (0, .ref (a0 0)), (1, .int x1), (2, .int x2)]) X.1 X.2.1 dX11_span_10 rfl hl (by decide) rfl (fun ls hl => ?_)
  refine lv_iconst (v := 0) X.1 X.2.1 dX11_span_11 (by decide) ?_
  refine lv_istore (lv' := [(4, .int 0), (3, .int 100), (0, .ref (a0 0)), (1, .int x1), (2, .int x2)]) X.1 X.2.1 dX11_span_12 hl (by decide) rfl (fun ls hl => ?_)
  refine lv_iconst (v := 1) X.1 X.2.1 dX11_span_14 (by decide) ?_
  refine lv_istore (lv' := [(5, .int 1), (4, .int 0), (3, .int 100), (0, .ref (a0 0)), (1, .int x1), (2, .int x2)]) X.1 X.2.1 dX11_span_15 hl (by decide) rfl (fun ls hl => ?_)
  obtain ⟨ex_9, hL_9, h⟩ := bd_el h
  refine HL17 x1 x2 fu 100 0 1 g3 g4 g5 g7 g8 q3_18 ex_9 hL_9 H locs ls hP hS (lv_sub hl [3, 4, 5, 2, 1, 0] rfl) (fun x3_9 x4_9 g3_9 g4_9 g5_9 g7_9 g8_9 q3_18_9 he H locs ls hP hS hl => ?_)
  subst he
  refine lv_iload_n X.1 X.2.1 dX11_span_90 rfl (lv_at hl 0 rfl) ?_
  obtain ⟨J100, eJ100, h⟩ := jn_el h
  have HJ100 : ∀ (s0_J100 : Int32) (H : Heap) (locs : List Loc) (ls : Array Slot), J100 s0_J100 = some res → va_P (dC, dI) vwCl (wPU tc a0 g0 q0_0 (a1 0) (a3 0) q0_3 q0_4 (a5 0) (a6 0) q0_7 q0_8 q0_9 q0_10 q0_13 ++ (wSt tc a1 g1 (some (a8 0)) (a2 0) ++ (wLg tc a2 g2 ++ (wSt tc a3 g3_9 q3_18_9 (a4 0) ++ (wLg tc a4 g4_9 ++ (wHd tc a5 g5_9 ++ (wCk tc a6 g6 (a5 0) (a7 0) ++ (wFa tc a7 g7_9 ++ (wLw tc a8 g8_9 ln8))))))))) H → va_S A s.heap H locs → lv_has ls 7 [] → W pr l e rm_X11_span_l s m args below meth c H locs 1 6 Q (F0 m 100 ls [.int s0_J100]) := by
    intro s0_J100 H locs ls h hP hS hl
    rw [eJ100] at h
    exact retU_i (fun u q => (wPU tc a0 g0 q0_0 (a1 0) (a3 0) q0_3 q0_4 (a5 0) (a6 0) q0_7 q0_8 q0_9 q0_10 q0_13 ++ (wSt tc a1 g1 (some (a8 0)) (a2 0) ++ (wLg tc a2 g2 ++ (wSt tc a3 u.1 q (a4 0) ++ (wLg tc a4 u.2.1 ++ (wHd tc a5 u.2.2.1 ++ (wCk tc a6 g6 (a5 0) (a7 0) ++ (wFa tc a7 u.2.2.2.1 ++ (wLw tc a8 u.2.2.2.2 ln8)))))))))) q3_18_9 (Option.some.inj h) X hQ hP hS (Nat.le_of_ble_eq_true rfl) (Nat.le_of_ble_eq_true rfl) dX11_span_100
  refine lv_if_eq (tgt := 99) X.1 X.2.1 dX11_span_91 (by decide) (fun hc => ?_) (fun hc => ?_)
  · have h := it_t hc h
    refine lv_iload_n X.1 X.2.1 dX11_span_99 rfl (lv_at hl 1 rfl) ?_
    exact HJ100 x3_9 H locs ls h hP hS (lv_sub hl [] rfl)
  · have h := it_f hc h
    refine lv_iload X.1 X.2.1 dX11_span_94 (lv_at hl 2 rfl) ?_
    refine lv_goto (tgt := 100) X.1 X.2.1 dX11_span_96 (by decide) ?_
    exact HJ100 x4_9 H locs ls h hP hS (lv_sub hl [] rfl)

def f_X11_led (g0 : Pic) (g1 : Pic) (g2 : Pic) (x1 : Int32) (x2 : Int32) : Option ((Nat × Unit) ⊕ (Int32 × Unit)) := lr (f_X11_needWriter g0 g1 x1) (fun e => .inl (e.1, ())) (fun _ => jn (fun (s0_J34 : Int32) => some (.inr (s0_J34, ()))) (fun J34 => (if x2 = 0 then bd (f_X7_rowsOf g2 x1) (fun r_2 => J34 r_2) else bd (f_X7_latestOf g2 x1) (fun r_3 => J34 r_3))))
abbrev rm_X11_led : Room := { frames := 7, cells := 1, slots := 6, locals := 141 }
set_option maxHeartbeats 4000000 in
set_option maxRecDepth 100000 in
theorem c_X11_led (l : Launch) (hst : l.stackTraces = false) (dC : Nat → ClassId) (dI : Nat → Nat → Nat) (sk sv : Nat → Nat) (tc : Nat → ClassId) (a0 : Nat → Nat) (q0_0 : Nat) (q0_2 : Nat) (q0_3 : Nat) (q0_4 : Nat) (q0_5 : Nat) (q0_6 : Nat) (q0_7 : Nat) (q0_8 : Nat) (q0_9 : Nat) (q0_10 : Nat) (q0_13 : Option Nat) (a1 : Nat → Nat) (q1_18 : Option Nat) (a2 : Nat → Nat) (g0 : Pic) (g1 : Pic) (g2 : Pic) (x1 : Int32) (x2 : Int32) {res : ((Nat × Unit) ⊕ (Int32 × Unit))} (h : f_X11_led g0 g1 g2 x1 x2 = some res) : CU l (dC, dI) sk sv (TY tc) yX11_led cX11_led 3 (some .int) rm_X11_led 1 6 [.ref (a0 0), .int x1, .int x2] (wPU tc a0 g0 q0_0 (a1 0) q0_2 q0_3 q0_4 q0_5 q0_6 q0_7 q0_8 q0_9 q0_10 q0_13 ++ (wSt tc a1 g1 q1_18 (a2 0) ++ (wLg tc a2 g2))) (oI (fun (_ : Unit) (_ : Option Nat) => (wPU tc a0 g0 q0_0 (a1 0) q0_2 q0_3 q0_4 q0_5 q0_6 q0_7 q0_8 q0_9 q0_10 q0_13 ++ (wSt tc a1 g1 q1_18 (a2 0) ++ (wLg tc a2 g2)))) res) := by
  refine ofCU (by decide) (Nat.le_of_ble_eq_true rfl) ?_
  intro pr e s m args below meth c A Q ls H locs X hT hQ hD0 hP hS hl
  have hD : ∀ z0 z1 z2, va_D A (wPU tc a0 z0 q0_0 (a1 0) q0_2 q0_3 q0_4 q0_5 q0_6 q0_7 q0_8 q0_9 q0_10 q0_13 ++ (wSt tc a1 z1 q1_18 (a2 0) ++ (wLg tc a2 z2))) := fun z0 z1 z2 => D_fst (ws := (wPU tc a0 g0 q0_0 (a1 0) q0_2 q0_3 q0_4 q0_5 q0_6 q0_7 q0_8 q0_9 q0_10 q0_13 ++ (wSt tc a1 g1 q1_18 (a2 0) ++ (wLg tc a2 g2)))) rfl hD0
  have hl : lv_has ls 3 [(0, .ref (a0 0)), (1, .int x1), (2, .int x2)] := hl
  unfold f_X11_led at h
  refine lv_aload_n X.1 X.2.1 dX11_led_0 rfl (lv_at hl 0 rfl) ?_
  refine lv_iload_n X.1 X.2.1 dX11_led_1 rfl (lv_at hl 1 rfl) ?_
  obtain ⟨ex_1, hc_1, h1_1, h2_1⟩ := lr_el h
  rcases ex_1 with e_1 | r_1
  · exact callU_t (ws := (wPU tc a0 g0 q0_0 (a1 0) q0_2 q0_3 q0_4 q0_5 q0_6 q0_7 q0_8 q0_9 q0_10 q0_13 ++ (wSt tc a1 g1 q1_18 (a2 0) ++ (wLg tc a2 g2)))) (ws' := (wPU tc a0 g0 q0_0 (a1 0) q0_2 q0_3 q0_4 q0_5 q0_6 q0_7 q0_8 q0_9 q0_10 q0_13 ++ (wSt tc a1 g1 q1_18 (a2 0) ++ (wLg tc a2 g2)))) (wr := (wLg tc a2 g2)) [0, 1, 2, 3, 4, 5, 6, 7, 8, 9, 10] [11, 12] [2, 3, 4, 5, 6, 7, 8, 9, 10, 11, 12, 0, 1] (As := [.int x1]) (rest := []) none rfl (oUi (fun (_ : Unit) (_ : Option Nat) => (wPU tc a0 g0 q0_0 (a1 0) q0_2 q0_3 q0_4 q0_5 q0_6 q0_7 q0_8 q0_9 q0_10 q0_13 ++ (wSt tc a1 g1 q1_18 (a2 0) ++ (wLg tc a2 g2)))) (h1_1 _ rfl)) X hT hQ (c_X11_needWriter l hst dC dI sk sv tc a0 q0_0 q0_2 q0_3 q0_4 q0_5 q0_6 q0_7 q0_8 q0_9 q0_10 q0_13 a1 q1_18 (a2 0) g0 g1 x1 hc_1) mw_5_38 mw_5_40 mp_1_6 mw_1_1 mw_5_41 dc_X11_needWriter ⟨Nat.le_of_ble_eq_true rfl, Nat.le_of_ble_eq_true rfl⟩ rfl rfl ⟨Nat.le_of_ble_eq_true rfl, Nat.le_of_ble_eq_true rfl⟩ ⟨rfl, rfl, rfl, rfl, by decide, rfl, rfl⟩ hP (hD _ _ _) hS 0 rfl rfl rfl hl.1 (Nat.le_of_ble_eq_true rfl) dX11_led_2 (Nat.le_of_ble_eq_true rfl) (Nat.le_of_ble_eq_true rfl)
  have h := h2_1 _ rfl
  refine callU_n (ws := (wPU tc a0 g0 q0_0 (a1 0) q0_2 q0_3 q0_4 q0_5 q0_6 q0_7 q0_8 q0_9 q0_10 q0_13 ++ (wSt tc a1 g1 q1_18 (a2 0) ++ (wLg tc a2 g2)))) (ws' := (wPU tc a0 g0 q0_0 (a1 0) q0_2 q0_3 q0_4 q0_5 q0_6 q0_7 q0_8 q0_9 q0_10 q0_13 ++ (wSt tc a1 g1 q1_18 (a2 0) ++ (wLg tc a2 g2)))) (wr := (wLg tc a2 g2)) [0, 1, 2, 3, 4, 5, 6, 7, 8, 9, 10] [11, 12] [2, 3, 4, 5, 6, 7, 8, 9, 10, 11, 12, 0, 1] (As := [.int x1]) (rest := []) X (c_X11_needWriter l hst dC dI sk sv tc a0 q0_0 q0_2 q0_3 q0_4 q0_5 q0_6 q0_7 q0_8 q0_9 q0_10 q0_13 a1 q1_18 (a2 0) g0 g1 x1 hc_1) mw_5_38 mw_5_40 mp_1_6 mw_1_1 mw_5_41 dc_X11_needWriter ⟨Nat.le_of_ble_eq_true rfl, Nat.le_of_ble_eq_true rfl⟩ rfl rfl ⟨Nat.le_of_ble_eq_true rfl, Nat.le_of_ble_eq_true rfl⟩ ⟨rfl, rfl, rfl, rfl, by decide, rfl, rfl⟩ hP (hD _ _ _) hS 0 rfl rfl rfl hl.1 (Nat.le_of_ble_eq_true rfl) dX11_led_2 (fun H locs hP hS => ?_)
  refine W.eq (g2 := F0 m 5 ls []) rfl ?_
  refine lv_iload_n X.1 X.2.1 dX11_led_5 rfl (lv_at hl 2 rfl) ?_
  obtain ⟨J34, eJ34, h⟩ := jn_el h
  have HJ34 : ∀ (s0_J34 : Int32) (H : Heap) (locs : List Loc) (ls : Array Slot), J34 s0_J34 = some res → va_P (dC, dI) vwCl (wPU tc a0 g0 q0_0 (a1 0) q0_2 q0_3 q0_4 q0_5 q0_6 q0_7 q0_8 q0_9 q0_10 q0_13 ++ (wSt tc a1 g1 q1_18 (a2 0) ++ (wLg tc a2 g2))) H → va_S A s.heap H locs → lv_has ls 3 [] → W pr l e rm_X11_led s m args below meth c H locs 1 6 Q (F0 m 34 ls [.int s0_J34]) := by
    intro s0_J34 H locs ls h hP hS hl
    rw [eJ34] at h
    exact retU_i (fun (_ : Unit) (_ : Option Nat) => (wPU tc a0 g0 q0_0 (a1 0) q0_2 q0_3 q0_4 q0_5 q0_6 q0_7 q0_8 q0_9 q0_10 q0_13 ++ (wSt tc a1 g1 q1_18 (a2 0) ++ (wLg tc a2 g2)))) none (Option.some.inj h) X hQ hP hS (Nat.le_of_ble_eq_true rfl) (Nat.le_of_ble_eq_true rfl) dX11_led_34
  refine lv_if_eq (tgt := 23) X.1 X.2.1 dX11_led_6 (by decide) (fun hc => ?_) (fun hc => ?_)
  · have h := it_t hc h
    refine lv_aload_n X.1 X.2.1 dX11_led_23 rfl (lv_at hl 0 rfl) ?_
    refine r_get (C := RX11) (T := TX11) (N := 15) (ci := 11) (v := .ref (a1 0)) X iw11 hP 0 rfl rfl 1 rfl mw_2_144 rfl dX11_led_24 ?_
    refine r_get (C := RX9) (T := TX9) (N := 20) (ci := 9) (v := .ref (a2 0)) X iw9 hP 1 rfl rfl 19 rfl mw_1_193 rfl dX11_led_27 ?_
    refine lv_iload_n X.1 X.2.1 dX11_led_30 rfl (lv_at hl 1 rfl) ?_
    obtain ⟨r_2, hc_2, h⟩ := bd_el h
    refine call_Vsi (ws := (wPU tc a0 g0 q0_0 (a1 0) q0_2 q0_3 q0_4 q0_5 q0_6 q0_7 q0_8 q0_9 q0_10 q0_13 ++ (wSt tc a1 g1 q1_18 (a2 0) ++ (wLg tc a2 g2)))) (ws' := (wPU tc a0 g0 q0_0 (a1 0) q0_2 q0_3 q0_4 q0_5 q0_6 q0_7 q0_8 q0_9 q0_10 q0_13 ++ (wSt tc a1 g1 q1_18 (a2 0) ++ (wLg tc a2 g2)))) (wPU tc a0 g0 q0_0 (a1 0) q0_2 q0_3 q0_4 q0_5 q0_6 q0_7 q0_8 q0_9 q0_10 q0_13 ++ (wSt tc a1 g1 q1_18 (a2 0))) [] (As := [.int x1]) (rest := []) X (c_X7_rowsOf l dC dI sk sv tc a2 g2 x1 hc_2) mw_7_101 mw_7_102 mw_7_103 mw_1_4 mw_7_104 dc_X7_rowsOf ⟨Nat.le_of_ble_eq_true rfl, Nat.le_of_ble_eq_true rfl⟩ rfl rfl ⟨Nat.le_of_ble_eq_true rfl, Nat.le_of_ble_eq_true rfl⟩ (by simp only [List.append_assoc, List.nil_append, List.append_nil]) (by simp only [List.append_assoc, List.nil_append, List.append_nil]) hP (hD _ _ _) hS 0 rfl rfl rfl hl.1 (Nat.le_of_ble_eq_true rfl) dX11_led_31 (fun H locs hP hS => ?_)
    exact HJ34 r_2 H locs ls h hP hS (lv_sub hl [] rfl)
  · have h := it_f hc h
    refine lv_aload_n X.1 X.2.1 dX11_led_9 rfl (lv_at hl 0 rfl) ?_
    refine r_get (C := RX11) (T := TX11) (N := 15) (ci := 11) (v := .ref (a1 0)) X iw11 hP 0 rfl rfl 1 rfl mw_2_144 rfl dX11_led_10 ?_
    refine r_get (C := RX9) (T := TX9) (N := 20) (ci := 9) (v := .ref (a2 0)) X iw9 hP 1 rfl rfl 19 rfl mw_1_193 rfl dX11_led_13 ?_
    refine lv_iload_n X.1 X.2.1 dX11_led_16 rfl (lv_at hl 1 rfl) ?_
    obtain ⟨r_3, hc_3, h⟩ := bd_el h
    refine call_Vsi (ws := (wPU tc a0 g0 q0_0 (a1 0) q0_2 q0_3 q0_4 q0_5 q0_6 q0_7 q0_8 q0_9 q0_10 q0_13 ++ (wSt tc a1 g1 q1_18 (a2 0) ++ (wLg tc a2 g2)))) (ws' := (wPU tc a0 g0 q0_0 (a1 0) q0_2 q0_3 q0_4 q0_5 q0_6 q0_7 q0_8 q0_9 q0_10 q0_13 ++ (wSt tc a1 g1 q1_18 (a2 0) ++ (wLg tc a2 g2)))) (wPU tc a0 g0 q0_0 (a1 0) q0_2 q0_3 q0_4 q0_5 q0_6 q0_7 q0_8 q0_9 q0_10 q0_13 ++ (wSt tc a1 g1 q1_18 (a2 0))) [] (As := [.int x1]) (rest := []) X (c_X7_latestOf l dC dI sk sv tc a2 g2 x1 hc_3) mw_7_93 mw_7_94 mw_7_95 mw_1_4 mw_7_96 dc_X7_latestOf ⟨Nat.le_of_ble_eq_true rfl, Nat.le_of_ble_eq_true rfl⟩ rfl rfl ⟨Nat.le_of_ble_eq_true rfl, Nat.le_of_ble_eq_true rfl⟩ (by simp only [List.append_assoc, List.nil_append, List.append_nil]) (by simp only [List.append_assoc, List.nil_append, List.append_nil]) hP (hD _ _ _) hS 0 rfl rfl rfl hl.1 (Nat.le_of_ble_eq_true rfl) dX11_led_17 (fun H locs hP hS => ?_)
    refine lv_goto (tgt := 34) X.1 X.2.1 dX11_led_20 (by decide) ?_
    exact HJ34 r_3 H locs ls h hP hS (lv_sub hl [] rfl)

def f_X11_log (g0 : Pic) (g1 : Pic) (g2 : Pic) (x1 : Int32) (x2 : Int32) : Option ((Nat × Unit) ⊕ (Int32 × Unit)) := jn (fun (_ : Unit) => some (.inl (2, ()))) (fun J9 => (if x2 < 0 then J9 () else (if x2 < 4 then bd (f_X7_tell g2 x1 x2) (fun r_1 => some (.inr (r_1, ()))) else J9 ())))
abbrev rm_X11_log : Room := { frames := 6, cells := 1, slots := 6, locals := 120 }
set_option maxHeartbeats 4000000 in
set_option maxRecDepth 100000 in
theorem c_X11_log (l : Launch) (hst : l.stackTraces = false) (dC : Nat → ClassId) (dI : Nat → Nat → Nat) (sk sv : Nat → Nat) (tc : Nat → ClassId) (a0 : Nat → Nat) (q0_0 : Nat) (q0_2 : Nat) (q0_3 : Nat) (q0_4 : Nat) (q0_5 : Nat) (q0_6 : Nat) (q0_7 : Nat) (q0_8 : Nat) (q0_9 : Nat) (q0_10 : Nat) (q0_13 : Option Nat) (a1 : Nat → Nat) (q1_18 : Option Nat) (a2 : Nat → Nat) (g0 : Pic) (g1 : Pic) (g2 : Pic) (x1 : Int32) (x2 : Int32) {res : ((Nat × Unit) ⊕ (Int32 × Unit))} (h : f_X11_log g0 g1 g2 x1 x2 = some res) : CU l (dC, dI) sk sv (TY tc) yX11_log cX11_log 3 (some .int) rm_X11_log 1 6 [.ref (a0 0), .int x1, .int x2] (wPU tc a0 g0 q0_0 (a1 0) q0_2 q0_3 q0_4 q0_5 q0_6 q0_7 q0_8 q0_9 q0_10 q0_13 ++ (wSt tc a1 g1 q1_18 (a2 0) ++ (wLg tc a2 g2))) (oI (fun (_ : Unit) (_ : Option Nat) => (wPU tc a0 g0 q0_0 (a1 0) q0_2 q0_3 q0_4 q0_5 q0_6 q0_7 q0_8 q0_9 q0_10 q0_13 ++ (wSt tc a1 g1 q1_18 (a2 0) ++ (wLg tc a2 g2)))) res) := by
  refine ofCU (by decide) (Nat.le_of_ble_eq_true rfl) ?_
  intro pr e s m args below meth c A Q ls H locs X hT hQ hD0 hP hS hl
  have hD : ∀ z0 z1 z2, va_D A (wPU tc a0 z0 q0_0 (a1 0) q0_2 q0_3 q0_4 q0_5 q0_6 q0_7 q0_8 q0_9 q0_10 q0_13 ++ (wSt tc a1 z1 q1_18 (a2 0) ++ (wLg tc a2 z2))) := fun z0 z1 z2 => D_fst (ws := (wPU tc a0 g0 q0_0 (a1 0) q0_2 q0_3 q0_4 q0_5 q0_6 q0_7 q0_8 q0_9 q0_10 q0_13 ++ (wSt tc a1 g1 q1_18 (a2 0) ++ (wLg tc a2 g2)))) rfl hD0
  have hl : lv_has ls 3 [(0, .ref (a0 0)), (1, .int x1), (2, .int x2)] := hl
  unfold f_X11_log at h
  refine lv_iload_n X.1 X.2.1 dX11_log_0 rfl (lv_at hl 2 rfl) ?_
  obtain ⟨J9, eJ9, h⟩ := jn_el h
  have HJ9 : ∀ (_ : Unit) (H : Heap) (locs : List Loc) (ls : Array Slot), J9 () = some res → va_P (dC, dI) vwCl (wPU tc a0 g0 q0_0 (a1 0) q0_2 q0_3 q0_4 q0_5 q0_6 q0_7 q0_8 q0_9 q0_10 q0_13 ++ (wSt tc a1 g1 q1_18 (a2 0) ++ (wLg tc a2 g2))) H → va_S A s.heap H locs → lv_has ls 3 [] → W pr l e rm_X11_log s m args below meth c H locs 0 0 Q (F0 m 9 ls []) := by
    intro _ H locs ls h hP hS hl
    rw [eJ9] at h
    exact thr_N 3 (text := "no such thing of a row") (ti := 32) none (oUi (fun (_ : Unit) (_ : Option Nat) => (wPU tc a0 g0 q0_0 (a1 0) q0_2 q0_3 q0_4 q0_5 q0_6 q0_7 q0_8 q0_9 q0_10 q0_13 ++ (wSt tc a1 g1 q1_18 (a2 0) ++ (wLg tc a2 g2)))) (Option.some.inj h)) X hT hst at_163 mw_5_7 mw_1_27 (List.mem_of_getElem? (i := 38) rfl) hQ hP hS hl.1 dX11_log_9 dX11_log_12 (Or.inr ⟨rfl, dX11_log_13⟩) dX11_log_16 dX11_log_19 (Nat.le_of_ble_eq_true rfl) (Nat.le_of_ble_eq_true rfl) (Nat.le_of_ble_eq_true rfl) (Nat.le_of_ble_eq_true rfl) (Nat.le_of_ble_eq_true rfl) (Nat.le_of_ble_eq_true rfl)
  refine lv_if_lt (tgt := 9) X.1 X.2.1 dX11_log_1 (by decide) (fun hc => ?_) (fun hc => ?_)
  · have h := it_t hc h
    exact HJ9 () H locs ls h hP hS (lv_sub hl [] rfl)
  · have h := it_f hc h
    refine lv_iload_n X.1 X.2.1 dX11_log_4 rfl (lv_at hl 2 rfl) ?_
    refine lv_iconst (v := 4) X.1 X.2.1 dX11_log_5 (by decide) ?_
    refine lv_icmp_lt (tgt := 20) X.1 X.2.1 dX11_log_6 (by decide) (fun hc => ?_) (fun hc => ?_)
    · have h := it_t hc h
      refine lv_aload_n X.1 X.2.1 dX11_log_20 rfl (lv_at hl 0 rfl) ?_
      refine r_get (C := RX11) (T := TX11) (N := 15) (ci := 11) (v := .ref (a1 0)) X iw11 hP 0 rfl rfl 1 rfl mw_2_144 rfl dX11_log_21 ?_
      refine r_get (C := RX9) (T := TX9) (N := 20) (ci := 9) (v := .ref (a2 0)) X iw9 hP 1 rfl rfl 19 rfl mw_1_193 rfl dX11_log_24 ?_
      refine lv_iload_n X.1 X.2.1 dX11_log_27 rfl (lv_at hl 1 rfl) ?_
      refine lv_iload_n X.1 X.2.1 dX11_log_28 rfl (lv_at hl 2 rfl) ?_
      obtain ⟨r_1, hc_1, h⟩ := bd_el h
      refine call_Vsi (ws := (wPU tc a0 g0 q0_0 (a1 0) q0_2 q0_3 q0_4 q0_5 q0_6 q0_7 q0_8 q0_9 q0_10 q0_13 ++ (wSt tc a1 g1 q1_18 (a2 0) ++ (wLg tc a2 g2)))) (ws' := (wPU tc a0 g0 q0_0 (a1 0) q0_2 q0_3 q0_4 q0_5 q0_6 q0_7 q0_8 q0_9 q0_10 q0_13 ++ (wSt tc a1 g1 q1_18 (a2 0) ++ (wLg tc a2 g2)))) (wPU tc a0 g0 q0_0 (a1 0) q0_2 q0_3 q0_4 q0_5 q0_6 q0_7 q0_8 q0_9 q0_10 q0_13 ++ (wSt tc a1 g1 q1_18 (a2 0))) [] (As := [.int x1, .int x2]) (rest := []) X (c_X7_tell l dC dI sk sv tc a2 g2 x1 x2 hc_1) mw_7_113 mw_7_98 mw_7_99 mw_1_4 mw_7_100 dc_X7_tell ⟨Nat.le_of_ble_eq_true rfl, Nat.le_of_ble_eq_true rfl⟩ rfl rfl ⟨Nat.zero_le _, Nat.zero_le _⟩ (by simp only [List.append_assoc, List.nil_append, List.append_nil]) (by simp only [List.append_assoc, List.nil_append, List.append_nil]) hP (hD _ _ _) hS 0 rfl rfl rfl hl.1 (Nat.le_of_ble_eq_true rfl) dX11_log_29 (fun H locs hP hS => ?_)
      exact retU_i (fun (_ : Unit) (_ : Option Nat) => (wPU tc a0 g0 q0_0 (a1 0) q0_2 q0_3 q0_4 q0_5 q0_6 q0_7 q0_8 q0_9 q0_10 q0_13 ++ (wSt tc a1 g1 q1_18 (a2 0) ++ (wLg tc a2 g2)))) none (Option.some.inj h) X hQ hP hS (Nat.le_of_ble_eq_true rfl) (Nat.le_of_ble_eq_true rfl) dX11_log_32
    · have h := it_f hc h
      exact HJ9 () H locs ls h hP hS (lv_sub hl [] rfl)

def f_X11_seed (g0 : Pic) (g1 : Pic) (x1 : Int32) : Option (Int32 × Pic) := nm ((g1 16 0)) (fun x2_1 => nm (pu g1 16 0 x1) (fun g1_2 => some (x2_1, g1_2)))
abbrev rm_X11_seed : Room := { frames := 0, cells := 0, slots := 0, locals := 0 }
set_option maxHeartbeats 4000000 in
set_option maxRecDepth 100000 in
theorem c_X11_seed (l : Launch) (dC : Nat → ClassId) (dI : Nat → Nat → Nat) (sk sv : Nat → Nat) (tc : Nat → ClassId) (a0 : Nat → Nat) (q0_0 : Nat) (q0_2 : Nat) (q0_3 : Nat) (q0_4 : Nat) (q0_5 : Nat) (q0_6 : Nat) (q0_7 : Nat) (q0_8 : Nat) (q0_9 : Nat) (q0_10 : Nat) (q0_13 : Option Nat) (a1 : Nat → Nat) (q1_18 : Option Nat) (q1_19 : Nat) (g0 : Pic) (g1 : Pic) (x1 : Int32) {r0 : Int32} {G1 : Pic} (h : f_X11_seed g0 g1 x1 = some (r0, G1)) : CT l (dC, dI) sk sv (TY tc) yX11_seed cX11_seed 3 (some .int) rm_X11_seed [.ref (a0 0), .int x1] (wPU tc a0 g0 q0_0 (a1 0) q0_2 q0_3 q0_4 q0_5 q0_6 q0_7 q0_8 q0_9 q0_10 q0_13 ++ (wSt tc a1 g1 q1_18 q1_19)) (some (.int r0)) (wPU tc a0 g0 q0_0 (a1 0) q0_2 q0_3 q0_4 q0_5 q0_6 q0_7 q0_8 q0_9 q0_10 q0_13 ++ (wSt tc a1 G1 q1_18 q1_19)) := by
  refine ofCT (by decide) (Nat.le_of_ble_eq_true rfl) ?_
  intro pr e s m args below meth c A Q ls H locs X hQ hD0 hP hS hl
  have hD : ∀ z0 z1, va_D A (wPU tc a0 z0 q0_0 (a1 0) q0_2 q0_3 q0_4 q0_5 q0_6 q0_7 q0_8 q0_9 q0_10 q0_13 ++ (wSt tc a1 z1 q1_18 q1_19)) := fun z0 z1 => D_fst (ws := (wPU tc a0 g0 q0_0 (a1 0) q0_2 q0_3 q0_4 q0_5 q0_6 q0_7 q0_8 q0_9 q0_10 q0_13 ++ (wSt tc a1 g1 q1_18 q1_19))) rfl hD0
  have hl : lv_has ls 3 [(0, .ref (a0 0)), (1, .int x1)] := hl
  unfold f_X11_seed at h
  refine lv_aload_n X.1 X.2.1 dX11_seed_0 rfl (lv_at hl 0 rfl) ?_
  refine r_get (C := RX11) (T := TX11) (N := 15) (ci := 11) (v := .ref (a1 0)) X iw11 hP 0 rfl rfl 1 rfl mw_2_144 rfl dX11_seed_1 ?_
  refine r_get (C := RX9) (T := TX9) (N := 20) (ci := 9) (v := .int (g1 16 0)) X iw9 hP 1 rfl rfl 16 rfl mw_1_185 rfl dX11_seed_4 ?_
  obtain ⟨x2_1, ex2_1, h⟩ := nm_el h
  refine tp_i ex2_1 ?_
  refine lv_istore_n (lv' := [(2, .int x2_1), (0, .ref (a0 0)), (1, .int x1)]) X.1 X.2.1 dX11_seed_7 rfl hl (by decide) rfl (fun ls hl => ?_)
  refine lv_aload_n X.1 X.2.1 dX11_seed_8 rfl (lv_at hl 1 rfl) ?_
  refine r_get (C := RX11) (T := TX11) (N := 15) (ci := 11) (v := .ref (a1 0)) X iw11 hP 0 rfl rfl 1 rfl mw_2_144 rfl dX11_seed_9 ?_
  refine lv_iload_n X.1 X.2.1 dX11_seed_12 rfl (lv_at hl 2 rfl) ?_
  obtain ⟨g1_2, eg1_2, h⟩ := nm_el h
  refine r_put (C := RX9) (T := TX9) (N := 20) (ci := 9) tyX9 tyX9_ok nmX9 X iw9 hP (hD _ _) hS 1 rfl rfl 16 rfl mw_1_185 rfl rfl rfl rfl dX11_seed_13 (wPU tc a0 g0 q0_0 (a1 0) q0_2 q0_3 q0_4 q0_5 q0_6 q0_7 q0_8 q0_9 q0_10 q0_13 ++ (wSt tc a1 g1_2 q1_18 q1_19)) (by rw [eg1_2]; rfl) (fun H locs hP hS => ?_)
  refine lv_iload_n X.1 X.2.1 dX11_seed_16 rfl (lv_at hl 0 rfl) ?_
  exact ret_i (fun u => (wPU tc a0 g0 q0_0 (a1 0) q0_2 q0_3 q0_4 q0_5 q0_6 q0_7 q0_8 q0_9 q0_10 q0_13 ++ (wSt tc a1 u q1_18 q1_19))) (res := (r0, G1)) (Option.some.inj h) X hQ hP hS dX11_seed_17

def f_X11_count_n (g0 : Pic) (g1 : Pic) (g2 : Pic) (x1 : Int32) : Option (Int32) := (if x1 = 0 then some (g1 0 0) else (if x1 = 1 then some (g1 7 0) else (if x1 = 2 then some (g1 17 0) else (if x1 = 3 then some (-1) else (if x1 = 4 then some (g1 4 0) else (if x1 = 5 then some (g1 6 0) else (if x1 = 6 then some (g1 13 0) else (if x1 = 7 then some (g1 14 0) else (if x1 = 8 then some (g1 15 0) else (if x1 = 9 then bd (f_X9_tiredTogether g1) (fun r_2 => some r_2) else (if x1 = 10 then some (g2 1 0) else (if x1 = 11 then some (g0 12 0) else some (-1)))))))))))))
abbrev rm_X11_count_n : Room := { frames := 1, cells := 0, slots := 0, locals := 22 }
set_option maxHeartbeats 4000000 in
set_option maxRecDepth 100000 in
theorem c_X11_count_n (l : Launch) (dC : Nat → ClassId) (dI : Nat → Nat → Nat) (sk sv : Nat → Nat) (tc : Nat → ClassId) (a0 : Nat → Nat) (q0_0 : Nat) (q0_2 : Nat) (q0_3 : Nat) (q0_4 : Nat) (q0_5 : Nat) (q0_6 : Nat) (q0_7 : Nat) (q0_8 : Nat) (q0_9 : Nat) (q0_10 : Nat) (q0_13 : Option Nat) (a1 : Nat → Nat) (a2 : Nat → Nat) (g0 : Pic) (g1 : Pic) (g2 : Pic) (x1 : Int32) {r0 : Int32} (h : f_X11_count_n g0 g1 g2 x1 = some r0) : CT l (dC, dI) sk sv (TY tc) yX11_count cX11_count 2 (some .int) rm_X11_count_n [.ref (a0 0), .int x1] (wPU tc a0 g0 q0_0 (a1 0) q0_2 q0_3 q0_4 q0_5 q0_6 q0_7 q0_8 q0_9 q0_10 q0_13 ++ (wSt tc a1 g1 none (a2 0) ++ (wLg tc a2 g2))) (some (.int r0)) (wPU tc a0 g0 q0_0 (a1 0) q0_2 q0_3 q0_4 q0_5 q0_6 q0_7 q0_8 q0_9 q0_10 q0_13 ++ (wSt tc a1 g1 none (a2 0) ++ (wLg tc a2 g2))) := by
  refine ofCT (by decide) (Nat.le_of_ble_eq_true rfl) ?_
  intro pr e s m args below meth c A Q ls H locs X hQ hD0 hP hS hl
  have hD : ∀ z0 z1 z2, va_D A (wPU tc a0 z0 q0_0 (a1 0) q0_2 q0_3 q0_4 q0_5 q0_6 q0_7 q0_8 q0_9 q0_10 q0_13 ++ (wSt tc a1 z1 none (a2 0) ++ (wLg tc a2 z2))) := fun z0 z1 z2 => D_fst (ws := (wPU tc a0 g0 q0_0 (a1 0) q0_2 q0_3 q0_4 q0_5 q0_6 q0_7 q0_8 q0_9 q0_10 q0_13 ++ (wSt tc a1 g1 none (a2 0) ++ (wLg tc a2 g2)))) rfl hD0
  have hl : lv_has ls 2 [(0, .ref (a0 0)), (1, .int x1)] := hl
  unfold f_X11_count_n at h
  refine lv_iload_n X.1 X.2.1 dX11_count_0 rfl (lv_at hl 1 rfl) ?_
  by_cases hq1_0 : x1 = 0
  · have h := it_t hq1_0 h
    refine lv_tableIn (tgt := 64) X.1 X.2.1 dX11_count_1 (by rw [hq1_0]; decide) (by rw [hq1_0]; decide) (by rw [hq1_0]; rfl) (by decide) ?_
    refine lv_aload_n X.1 X.2.1 dX11_count_64 rfl (lv_at hl 0 rfl) ?_
    refine r_get (C := RX11) (T := TX11) (N := 15) (ci := 11) (v := .ref (a1 0)) X iw11 hP 0 rfl rfl 1 rfl mw_2_144 rfl dX11_count_65 ?_
    refine r_get (C := RX9) (T := TX9) (N := 20) (ci := 9) (v := .int (g1 0 0)) X iw9 hP 1 rfl rfl 0 rfl mw_1_108 rfl dX11_count_68 ?_
    exact ret_i0 (Option.some.inj h) X hQ hP hS dX11_count_71
  · have h := it_f hq1_0 h
    by_cases hq1_1 : x1 = 1
    · have h := it_t hq1_1 h
      refine lv_tableIn (tgt := 72) X.1 X.2.1 dX11_count_1 (by rw [hq1_1]; decide) (by rw [hq1_1]; decide) (by rw [hq1_1]; rfl) (by decide) ?_
      refine lv_aload_n X.1 X.2.1 dX11_count_72 rfl (lv_at hl 0 rfl) ?_
      refine r_get (C := RX11) (T := TX11) (N := 15) (ci := 11) (v := .ref (a1 0)) X iw11 hP 0 rfl rfl 1 rfl mw_2_144 rfl dX11_count_73 ?_
      refine r_get (C := RX9) (T := TX9) (N := 20) (ci := 9) (v := .int (g1 7 0)) X iw9 hP 1 rfl rfl 7 rfl mw_1_146 rfl dX11_count_76 ?_
      exact ret_i0 (Option.some.inj h) X hQ hP hS dX11_count_79
    · have h := it_f hq1_1 h
      by_cases hq1_2 : x1 = 2
      · have h := it_t hq1_2 h
        refine lv_tableIn (tgt := 80) X.1 X.2.1 dX11_count_1 (by rw [hq1_2]; decide) (by rw [hq1_2]; decide) (by rw [hq1_2]; rfl) (by decide) ?_
        refine lv_aload_n X.1 X.2.1 dX11_count_80 rfl (lv_at hl 0 rfl) ?_
        refine r_get (C := RX11) (T := TX11) (N := 15) (ci := 11) (v := .ref (a1 0)) X iw11 hP 0 rfl rfl 1 rfl mw_2_144 rfl dX11_count_81 ?_
        refine r_get (C := RX9) (T := TX9) (N := 20) (ci := 9) (v := .int (g1 17 0)) X iw9 hP 1 rfl rfl 17 rfl mw_1_187 rfl dX11_count_84 ?_
        exact ret_i0 (Option.some.inj h) X hQ hP hS dX11_count_87
      · have h := it_f hq1_2 h
        by_cases hq1_3 : x1 = 3
        · have h := it_t hq1_3 h
          refine lv_tableIn (tgt := 88) X.1 X.2.1 dX11_count_1 (by rw [hq1_3]; decide) (by rw [hq1_3]; decide) (by rw [hq1_3]; rfl) (by decide) ?_
          refine lv_aload_n X.1 X.2.1 dX11_count_88 rfl (lv_at hl 0 rfl) ?_
          refine r_get (C := RX11) (T := TX11) (N := 15) (ci := 11) (v := .ref (a1 0)) X iw11 hP 0 rfl rfl 1 rfl mw_2_144 rfl dX11_count_89 ?_
          refine r_get (C := RX9) (T := TX9) (N := 20) (ci := 9) (v := .null) X iw9 hP 1 rfl rfl 18 rfl mw_1_189 rfl dX11_count_92 ?_
          refine lv_ifnonnullN X.1 X.2.1 dX11_count_95 ?_
          refine lv_iconst (v := (-1)) X.1 X.2.1 dX11_count_98 (by decide) ?_
          refine lv_goto (tgt := 112) X.1 X.2.1 dX11_count_99 (by decide) ?_
          exact ret_i0 (Option.some.inj h) X hQ hP hS dX11_count_112
        · have h := it_f hq1_3 h
          by_cases hq1_4 : x1 = 4
          · have h := it_t hq1_4 h
            refine lv_tableIn (tgt := 113) X.1 X.2.1 dX11_count_1 (by rw [hq1_4]; decide) (by rw [hq1_4]; decide) (by rw [hq1_4]; rfl) (by decide) ?_
            refine lv_aload_n X.1 X.2.1 dX11_count_113 rfl (lv_at hl 0 rfl) ?_
            refine r_get (C := RX11) (T := TX11) (N := 15) (ci := 11) (v := .ref (a1 0)) X iw11 hP 0 rfl rfl 1 rfl mw_2_144 rfl dX11_count_114 ?_
            refine r_get (C := RX9) (T := TX9) (N := 20) (ci := 9) (v := .int (g1 4 0)) X iw9 hP 1 rfl rfl 4 rfl mw_1_130 rfl dX11_count_117 ?_
            exact ret_i0 (Option.some.inj h) X hQ hP hS dX11_count_120
          · have h := it_f hq1_4 h
            by_cases hq1_5 : x1 = 5
            · have h := it_t hq1_5 h
              refine lv_tableIn (tgt := 121) X.1 X.2.1 dX11_count_1 (by rw [hq1_5]; decide) (by rw [hq1_5]; decide) (by rw [hq1_5]; rfl) (by decide) ?_
              refine lv_aload_n X.1 X.2.1 dX11_count_121 rfl (lv_at hl 0 rfl) ?_
              refine r_get (C := RX11) (T := TX11) (N := 15) (ci := 11) (v := .ref (a1 0)) X iw11 hP 0 rfl rfl 1 rfl mw_2_144 rfl dX11_count_122 ?_
              refine r_get (C := RX9) (T := TX9) (N := 20) (ci := 9) (v := .int (g1 6 0)) X iw9 hP 1 rfl rfl 6 rfl mw_1_140 rfl dX11_count_125 ?_
              exact ret_i0 (Option.some.inj h) X hQ hP hS dX11_count_128
            · have h := it_f hq1_5 h
              by_cases hq1_6 : x1 = 6
              · have h := it_t hq1_6 h
                refine lv_tableIn (tgt := 129) X.1 X.2.1 dX11_count_1 (by rw [hq1_6]; decide) (by rw [hq1_6]; decide) (by rw [hq1_6]; rfl) (by decide) ?_
                refine lv_aload_n X.1 X.2.1 dX11_count_129 rfl (lv_at hl 0 rfl) ?_
                refine r_get (C := RX11) (T := TX11) (N := 15) (ci := 11) (v := .ref (a1 0)) X iw11 hP 0 rfl rfl 1 rfl mw_2_144 rfl dX11_count_130 ?_
                refine r_get (C := RX9) (T := TX9) (N := 20) (ci := 9) (v := .int (g1 13 0)) X iw9 hP 1 rfl rfl 13 rfl mw_1_175 rfl dX11_count_133 ?_
                exact ret_i0 (Option.some.inj h) X hQ hP hS dX11_count_136
              · have h := it_f hq1_6 h
                by_cases hq1_7 : x1 = 7
                · have h := it_t hq1_7 h
                  refine lv_tableIn (tgt := 137) X.1 X.2.1 dX11_count_1 (by rw [hq1_7]; decide) (by rw [hq1_7]; decide) (by rw [hq1_7]; rfl) (by decide) ?_
                  refine lv_aload_n X.1 X.2.1 dX11_count_137 rfl (lv_at hl 0 rfl) ?_
                  refine r_get (C := RX11) (T := TX11) (N := 15) (ci := 11) (v := .ref (a1 0)) X iw11 hP 0 rfl rfl 1 rfl mw_2_144 rfl dX11_count_138 ?_
                  refine r_get (C := RX9) (T := TX9) (N := 20) (ci := 9) (v := .int (g1 14 0)) X iw9 hP 1 rfl rfl 14 rfl mw_1_179 rfl dX11_count_141 ?_
                  exact ret_i0 (Option.some.inj h) X hQ hP hS dX11_count_144
                · have h := it_f hq1_7 h
                  by_cases hq1_8 : x1 = 8
                  · have h := it_t hq1_8 h
                    refine lv_tableIn (tgt := 145) X.1 X.2.1 dX11_count_1 (by rw [hq1_8]; decide) (by rw [hq1_8]; decide) (by rw [hq1_8]; rfl) (by decide) ?_
                    refine lv_aload_n X.1 X.2.1 dX11_count_145 rfl (lv_at hl 0 rfl) ?_
                    refine r_get (C := RX11) (T := TX11) (N := 15) (ci := 11) (v := .ref (a1 0)) X iw11 hP 0 rfl rfl 1 rfl mw_2_144 rfl dX11_count_146 ?_
                    refine r_get (C := RX9) (T := TX9) (N := 20) (ci := 9) (v := .int (g1 15 0)) X iw9 hP 1 rfl rfl 15 rfl mw_1_183 rfl dX11_count_149 ?_
                    exact ret_i0 (Option.some.inj h) X hQ hP hS dX11_count_152
                  · have h := it_f hq1_8 h
                    by_cases hq1_9 : x1 = 9
                    · have h := it_t hq1_9 h
                      refine lv_tableIn (tgt := 153) X.1 X.2.1 dX11_count_1 (by rw [hq1_9]; decide) (by rw [hq1_9]; decide) (by rw [hq1_9]; rfl) (by decide) ?_
                      refine lv_aload_n X.1 X.2.1 dX11_count_153 rfl (lv_at hl 0 rfl) ?_
                      refine r_get (C := RX11) (T := TX11) (N := 15) (ci := 11) (v := .ref (a1 0)) X iw11 hP 0 rfl rfl 1 rfl mw_2_144 rfl dX11_count_154 ?_
                      obtain ⟨r_2, hc_2, h⟩ := bd_el h
                      refine call_Vsi (ws := (wPU tc a0 g0 q0_0 (a1 0) q0_2 q0_3 q0_4 q0_5 q0_6 q0_7 q0_8 q0_9 q0_10 q0_13 ++ (wSt tc a1 g1 none (a2 0) ++ (wLg tc a2 g2)))) (ws' := (wPU tc a0 g0 q0_0 (a1 0) q0_2 q0_3 q0_4 q0_5 q0_6 q0_7 q0_8 q0_9 q0_10 q0_13 ++ (wSt tc a1 g1 none (a2 0) ++ (wLg tc a2 g2)))) (wPU tc a0 g0 q0_0 (a1 0) q0_2 q0_3 q0_4 q0_5 q0_6 q0_7 q0_8 q0_9 q0_10 q0_13) (wLg tc a2 g2) (As := []) (rest := []) X (c_X9_tiredTogether l dC dI sk sv tc a1 none (a2 0) g1 hc_2) mw_3_107 mw_3_108 mw_3_109 mw_1_3 mw_3_110 dc_X9_tiredTogether ⟨Nat.le_of_ble_eq_true rfl, Nat.le_of_ble_eq_true rfl⟩ rfl rfl ⟨Nat.zero_le _, Nat.zero_le _⟩ (by simp only [List.append_assoc, List.nil_append, List.append_nil]) (by simp only [List.append_assoc, List.nil_append, List.append_nil]) hP (hD _ _ _) hS 0 rfl rfl rfl hl.1 (Nat.le_of_ble_eq_true rfl) dX11_count_157 (fun H locs hP hS => ?_)
                      exact ret_i0 (Option.some.inj h) X hQ hP hS dX11_count_160
                    · have h := it_f hq1_9 h
                      by_cases hq1_10 : x1 = 10
                      · have h := it_t hq1_10 h
                        refine lv_tableIn (tgt := 161) X.1 X.2.1 dX11_count_1 (by rw [hq1_10]; decide) (by rw [hq1_10]; decide) (by rw [hq1_10]; rfl) (by decide) ?_
                        refine lv_aload_n X.1 X.2.1 dX11_count_161 rfl (lv_at hl 0 rfl) ?_
                        refine r_get (C := RX11) (T := TX11) (N := 15) (ci := 11) (v := .ref (a1 0)) X iw11 hP 0 rfl rfl 1 rfl mw_2_144 rfl dX11_count_162 ?_
                        refine r_get (C := RX9) (T := TX9) (N := 20) (ci := 9) (v := .ref (a2 0)) X iw9 hP 1 rfl rfl 19 rfl mw_1_193 rfl dX11_count_165 ?_
                        refine r_get (C := RX7) (T := TX7) (N := 3) (ci := 7) (v := .int (g2 1 0)) X iw7 hP 11 rfl rfl 1 rfl mw_1_93 rfl dX11_count_168 ?_
                        exact ret_i0 (Option.some.inj h) X hQ hP hS dX11_count_171
                      · have h := it_f hq1_10 h
                        by_cases hq1_11 : x1 = 11
                        · have h := it_t hq1_11 h
                          refine lv_tableIn (tgt := 172) X.1 X.2.1 dX11_count_1 (by rw [hq1_11]; decide) (by rw [hq1_11]; decide) (by rw [hq1_11]; rfl) (by decide) ?_
                          refine lv_aload_n X.1 X.2.1 dX11_count_172 rfl (lv_at hl 0 rfl) ?_
                          refine r_get (C := RX11) (T := TX11) (N := 15) (ci := 11) (v := .int (g0 12 0)) X iw11 hP 0 rfl rfl 12 rfl mw_2_155 rfl dX11_count_173 ?_
                          exact ret_i0 (Option.some.inj h) X hQ hP hS dX11_count_176
                        · have h := it_f hq1_11 h
                          refine lv_tableOut (tgt := 177) X.1 X.2.1 dX11_count_1 (sw_out x1 [0, 1, 2, 3, 4, 5, 6, 7, 8, 9, 10, 11] 12 (by decide) (by decide) (by simp only [List.mem_cons, List.not_mem_nil, or_false, forall_eq_or_imp, forall_eq]; exact ⟨hq1_0, hq1_1, hq1_2, hq1_3, hq1_4, hq1_5, hq1_6, hq1_7, hq1_8, hq1_9, hq1_10, hq1_11⟩)) (by decide) ?_
                          refine lv_iconst (v := (-1)) X.1 X.2.1 dX11_count_177 (by decide) ?_
                          exact ret_i0 (Option.some.inj h) X hQ hP hS dX11_count_178

def f_X11_count_l (ln3 : Nat → Nat) (g0 : Pic) (g1 : Pic) (g2 : Pic) (g3 : Pic) (x1 : Int32) : Option (Int32) := (if x1 = 0 then some (g1 0 0) else (if x1 = 1 then some (g1 7 0) else (if x1 = 2 then some (g1 17 0) else (if x1 = 3 then some (g3 0 0) else (if x1 = 4 then some (g1 4 0) else (if x1 = 5 then some (g1 6 0) else (if x1 = 6 then some (g1 13 0) else (if x1 = 7 then some (g1 14 0) else (if x1 = 8 then some (g1 15 0) else (if x1 = 9 then bd (f_X9_tiredTogether g1) (fun r_2 => some r_2) else (if x1 = 10 then some (g2 1 0) else (if x1 = 11 then some (g0 12 0) else some (-1)))))))))))))
abbrev rm_X11_count_l : Room := { frames := 1, cells := 0, slots := 0, locals := 22 }
set_option maxHeartbeats 4000000 in
set_option maxRecDepth 100000 in
theorem c_X11_count_l (l : Launch) (dC : Nat → ClassId) (dI : Nat → Nat → Nat) (sk sv : Nat → Nat) (tc : Nat → ClassId) (ln3 : Nat → Nat) (a0 : Nat → Nat) (q0_0 : Nat) (q0_2 : Nat) (q0_3 : Nat) (q0_4 : Nat) (q0_5 : Nat) (q0_6 : Nat) (q0_7 : Nat) (q0_8 : Nat) (q0_9 : Nat) (q0_10 : Nat) (q0_13 : Option Nat) (a1 : Nat → Nat) (a2 : Nat → Nat) (a3 : Nat → Nat) (g0 : Pic) (g1 : Pic) (g2 : Pic) (g3 : Pic) (x1 : Int32) {r0 : Int32} (h : f_X11_count_l ln3 g0 g1 g2 g3 x1 = some r0) : CT l (dC, dI) sk sv (TY tc) yX11_count cX11_count 2 (some .int) rm_X11_count_l [.ref (a0 0), .int x1] (wPU tc a0 g0 q0_0 (a1 0) q0_2 q0_3 q0_4 q0_5 q0_6 q0_7 q0_8 q0_9 q0_10 q0_13 ++ (wSt tc a1 g1 (some (a3 0)) (a2 0) ++ (wLg tc a2 g2 ++ (wLw tc a3 g3 ln3)))) (some (.int r0)) (wPU tc a0 g0 q0_0 (a1 0) q0_2 q0_3 q0_4 q0_5 q0_6 q0_7 q0_8 q0_9 q0_10 q0_13 ++ (wSt tc a1 g1 (some (a3 0)) (a2 0) ++ (wLg tc a2 g2 ++ (wLw tc a3 g3 ln3)))) := by
  refine ofCT (by decide) (Nat.le_of_ble_eq_true rfl) ?_
  intro pr e s m args below meth c A Q ls H locs X hQ hD0 hP hS hl
  have hD : ∀ z0 z1 z2 z3, va_D A (wPU tc a0 z0 q0_0 (a1 0) q0_2 q0_3 q0_4 q0_5 q0_6 q0_7 q0_8 q0_9 q0_10 q0_13 ++ (wSt tc a1 z1 (some (a3 0)) (a2 0) ++ (wLg tc a2 z2 ++ (wLw tc a3 z3 ln3)))) := fun z0 z1 z2 z3 => D_fst (ws := (wPU tc a0 g0 q0_0 (a1 0) q0_2 q0_3 q0_4 q0_5 q0_6 q0_7 q0_8 q0_9 q0_10 q0_13 ++ (wSt tc a1 g1 (some (a3 0)) (a2 0) ++ (wLg tc a2 g2 ++ (wLw tc a3 g3 ln3))))) rfl hD0
  have hl : lv_has ls 2 [(0, .ref (a0 0)), (1, .int x1)] := hl
  unfold f_X11_count_l at h
  refine lv_iload_n X.1 X.2.1 dX11_count_0 rfl (lv_at hl 1 rfl) ?_
  by_cases hq1_0 : x1 = 0
  · have h := it_t hq1_0 h
    refine lv_tableIn (tgt := 64) X.1 X.2.1 dX11_count_1 (by rw [hq1_0]; decide) (by rw [hq1_0]; decide) (by rw [hq1_0]; rfl) (by decide) ?_
    refine lv_aload_n X.1 X.2.1 dX11_count_64 rfl (lv_at hl 0 rfl) ?_
    refine r_get (C := RX11) (T := TX11) (N := 15) (ci := 11) (v := .ref (a1 0)) X iw11 hP 0 rfl rfl 1 rfl mw_2_144 rfl dX11_count_65 ?_
    refine r_get (C := RX9) (T := TX9) (N := 20) (ci := 9) (v := .int (g1 0 0)) X iw9 hP 1 rfl rfl 0 rfl mw_1_108 rfl dX11_count_68 ?_
    exact ret_i0 (Option.some.inj h) X hQ hP hS dX11_count_71
  · have h := it_f hq1_0 h
    by_cases hq1_1 : x1 = 1
    · have h := it_t hq1_1 h
      refine lv_tableIn (tgt := 72) X.1 X.2.1 dX11_count_1 (by rw [hq1_1]; decide) (by rw [hq1_1]; decide) (by rw [hq1_1]; rfl) (by decide) ?_
      refine lv_aload_n X.1 X.2.1 dX11_count_72 rfl (lv_at hl 0 rfl) ?_
      refine r_get (C := RX11) (T := TX11) (N := 15) (ci := 11) (v := .ref (a1 0)) X iw11 hP 0 rfl rfl 1 rfl mw_2_144 rfl dX11_count_73 ?_
      refine r_get (C := RX9) (T := TX9) (N := 20) (ci := 9) (v := .int (g1 7 0)) X iw9 hP 1 rfl rfl 7 rfl mw_1_146 rfl dX11_count_76 ?_
      exact ret_i0 (Option.some.inj h) X hQ hP hS dX11_count_79
    · have h := it_f hq1_1 h
      by_cases hq1_2 : x1 = 2
      · have h := it_t hq1_2 h
        refine lv_tableIn (tgt := 80) X.1 X.2.1 dX11_count_1 (by rw [hq1_2]; decide) (by rw [hq1_2]; decide) (by rw [hq1_2]; rfl) (by decide) ?_
        refine lv_aload_n X.1 X.2.1 dX11_count_80 rfl (lv_at hl 0 rfl) ?_
        refine r_get (C := RX11) (T := TX11) (N := 15) (ci := 11) (v := .ref (a1 0)) X iw11 hP 0 rfl rfl 1 rfl mw_2_144 rfl dX11_count_81 ?_
        refine r_get (C := RX9) (T := TX9) (N := 20) (ci := 9) (v := .int (g1 17 0)) X iw9 hP 1 rfl rfl 17 rfl mw_1_187 rfl dX11_count_84 ?_
        exact ret_i0 (Option.some.inj h) X hQ hP hS dX11_count_87
      · have h := it_f hq1_2 h
        by_cases hq1_3 : x1 = 3
        · have h := it_t hq1_3 h
          refine lv_tableIn (tgt := 88) X.1 X.2.1 dX11_count_1 (by rw [hq1_3]; decide) (by rw [hq1_3]; decide) (by rw [hq1_3]; rfl) (by decide) ?_
          refine lv_aload_n X.1 X.2.1 dX11_count_88 rfl (lv_at hl 0 rfl) ?_
          refine r_get (C := RX11) (T := TX11) (N := 15) (ci := 11) (v := .ref (a1 0)) X iw11 hP 0 rfl rfl 1 rfl mw_2_144 rfl dX11_count_89 ?_
          refine r_get (C := RX9) (T := TX9) (N := 20) (ci := 9) (v := .ref (a3 0)) X iw9 hP 1 rfl rfl 18 rfl mw_1_189 rfl dX11_count_92 ?_
          refine lv_ifnonnull (tgt := 102) X.1 X.2.1 dX11_count_95 (by decide) ?_
          refine lv_aload_n X.1 X.2.1 dX11_count_102 rfl (lv_at hl 0 rfl) ?_
          refine r_get (C := RX11) (T := TX11) (N := 15) (ci := 11) (v := .ref (a1 0)) X iw11 hP 0 rfl rfl 1 rfl mw_2_144 rfl dX11_count_103 ?_
          refine r_get (C := RX9) (T := TX9) (N := 20) (ci := 9) (v := .ref (a3 0)) X iw9 hP 1 rfl rfl 18 rfl mw_1_189 rfl dX11_count_106 ?_
          refine r_get (C := RX4) (T := TX4) (N := 6) (ci := 4) (v := .int (g3 0 0)) X iw4 hP 13 rfl rfl 0 rfl mw_4_182 rfl dX11_count_109 ?_
          exact ret_i0 (Option.some.inj h) X hQ hP hS dX11_count_112
        · have h := it_f hq1_3 h
          by_cases hq1_4 : x1 = 4
          · have h := it_t hq1_4 h
            refine lv_tableIn (tgt := 113) X.1 X.2.1 dX11_count_1 (by rw [hq1_4]; decide) (by rw [hq1_4]; decide) (by rw [hq1_4]; rfl) (by decide) ?_
            refine lv_aload_n X.1 X.2.1 dX11_count_113 rfl (lv_at hl 0 rfl) ?_
            refine r_get (C := RX11) (T := TX11) (N := 15) (ci := 11) (v := .ref (a1 0)) X iw11 hP 0 rfl rfl 1 rfl mw_2_144 rfl dX11_count_114 ?_
            refine r_get (C := RX9) (T := TX9) (N := 20) (ci := 9) (v := .int (g1 4 0)) X iw9 hP 1 rfl rfl 4 rfl mw_1_130 rfl dX11_count_117 ?_
            exact ret_i0 (Option.some.inj h) X hQ hP hS dX11_count_120
          · have h := it_f hq1_4 h
            by_cases hq1_5 : x1 = 5
            · have h := it_t hq1_5 h
              refine lv_tableIn (tgt := 121) X.1 X.2.1 dX11_count_1 (by rw [hq1_5]; decide) (by rw [hq1_5]; decide) (by rw [hq1_5]; rfl) (by decide) ?_
              refine lv_aload_n X.1 X.2.1 dX11_count_121 rfl (lv_at hl 0 rfl) ?_
              refine r_get (C := RX11) (T := TX11) (N := 15) (ci := 11) (v := .ref (a1 0)) X iw11 hP 0 rfl rfl 1 rfl mw_2_144 rfl dX11_count_122 ?_
              refine r_get (C := RX9) (T := TX9) (N := 20) (ci := 9) (v := .int (g1 6 0)) X iw9 hP 1 rfl rfl 6 rfl mw_1_140 rfl dX11_count_125 ?_
              exact ret_i0 (Option.some.inj h) X hQ hP hS dX11_count_128
            · have h := it_f hq1_5 h
              by_cases hq1_6 : x1 = 6
              · have h := it_t hq1_6 h
                refine lv_tableIn (tgt := 129) X.1 X.2.1 dX11_count_1 (by rw [hq1_6]; decide) (by rw [hq1_6]; decide) (by rw [hq1_6]; rfl) (by decide) ?_
                refine lv_aload_n X.1 X.2.1 dX11_count_129 rfl (lv_at hl 0 rfl) ?_
                refine r_get (C := RX11) (T := TX11) (N := 15) (ci := 11) (v := .ref (a1 0)) X iw11 hP 0 rfl rfl 1 rfl mw_2_144 rfl dX11_count_130 ?_
                refine r_get (C := RX9) (T := TX9) (N := 20) (ci := 9) (v := .int (g1 13 0)) X iw9 hP 1 rfl rfl 13 rfl mw_1_175 rfl dX11_count_133 ?_
                exact ret_i0 (Option.some.inj h) X hQ hP hS dX11_count_136
              · have h := it_f hq1_6 h
                by_cases hq1_7 : x1 = 7
                · have h := it_t hq1_7 h
                  refine lv_tableIn (tgt := 137) X.1 X.2.1 dX11_count_1 (by rw [hq1_7]; decide) (by rw [hq1_7]; decide) (by rw [hq1_7]; rfl) (by decide) ?_
                  refine lv_aload_n X.1 X.2.1 dX11_count_137 rfl (lv_at hl 0 rfl) ?_
                  refine r_get (C := RX11) (T := TX11) (N := 15) (ci := 11) (v := .ref (a1 0)) X iw11 hP 0 rfl rfl 1 rfl mw_2_144 rfl dX11_count_138 ?_
                  refine r_get (C := RX9) (T := TX9) (N := 20) (ci := 9) (v := .int (g1 14 0)) X iw9 hP 1 rfl rfl 14 rfl mw_1_179 rfl dX11_count_141 ?_
                  exact ret_i0 (Option.some.inj h) X hQ hP hS dX11_count_144
                · have h := it_f hq1_7 h
                  by_cases hq1_8 : x1 = 8
                  · have h := it_t hq1_8 h
                    refine lv_tableIn (tgt := 145) X.1 X.2.1 dX11_count_1 (by rw [hq1_8]; decide) (by rw [hq1_8]; decide) (by rw [hq1_8]; rfl) (by decide) ?_
                    refine lv_aload_n X.1 X.2.1 dX11_count_145 rfl (lv_at hl 0 rfl) ?_
                    refine r_get (C := RX11) (T := TX11) (N := 15) (ci := 11) (v := .ref (a1 0)) X iw11 hP 0 rfl rfl 1 rfl mw_2_144 rfl dX11_count_146 ?_
                    refine r_get (C := RX9) (T := TX9) (N := 20) (ci := 9) (v := .int (g1 15 0)) X iw9 hP 1 rfl rfl 15 rfl mw_1_183 rfl dX11_count_149 ?_
                    exact ret_i0 (Option.some.inj h) X hQ hP hS dX11_count_152
                  · have h := it_f hq1_8 h
                    by_cases hq1_9 : x1 = 9
                    · have h := it_t hq1_9 h
                      refine lv_tableIn (tgt := 153) X.1 X.2.1 dX11_count_1 (by rw [hq1_9]; decide) (by rw [hq1_9]; decide) (by rw [hq1_9]; rfl) (by decide) ?_
                      refine lv_aload_n X.1 X.2.1 dX11_count_153 rfl (lv_at hl 0 rfl) ?_
                      refine r_get (C := RX11) (T := TX11) (N := 15) (ci := 11) (v := .ref (a1 0)) X iw11 hP 0 rfl rfl 1 rfl mw_2_144 rfl dX11_count_154 ?_
                      obtain ⟨r_2, hc_2, h⟩ := bd_el h
                      refine call_Vsi (ws := (wPU tc a0 g0 q0_0 (a1 0) q0_2 q0_3 q0_4 q0_5 q0_6 q0_7 q0_8 q0_9 q0_10 q0_13 ++ (wSt tc a1 g1 (some (a3 0)) (a2 0) ++ (wLg tc a2 g2 ++ (wLw tc a3 g3 ln3))))) (ws' := (wPU tc a0 g0 q0_0 (a1 0) q0_2 q0_3 q0_4 q0_5 q0_6 q0_7 q0_8 q0_9 q0_10 q0_13 ++ (wSt tc a1 g1 (some (a3 0)) (a2 0) ++ (wLg tc a2 g2 ++ (wLw tc a3 g3 ln3))))) (wPU tc a0 g0 q0_0 (a1 0) q0_2 q0_3 q0_4 q0_5 q0_6 q0_7 q0_8 q0_9 q0_10 q0_13) (wLg tc a2 g2 ++ (wLw tc a3 g3 ln3)) (As := []) (rest := []) X (c_X9_tiredTogether l dC dI sk sv tc a1 (some (a3 0)) (a2 0) g1 hc_2) mw_3_107 mw_3_108 mw_3_109 mw_1_3 mw_3_110 dc_X9_tiredTogether ⟨Nat.le_of_ble_eq_true rfl, Nat.le_of_ble_eq_true rfl⟩ rfl rfl ⟨Nat.zero_le _, Nat.zero_le _⟩ (by simp only [List.append_assoc, List.nil_append, List.append_nil]) (by simp only [List.append_assoc, List.nil_append, List.append_nil]) hP (hD _ _ _ _) hS 0 rfl rfl rfl hl.1 (Nat.le_of_ble_eq_true rfl) dX11_count_157 (fun H locs hP hS => ?_)
                      exact ret_i0 (Option.some.inj h) X hQ hP hS dX11_count_160
                    · have h := it_f hq1_9 h
                      by_cases hq1_10 : x1 = 10
                      · have h := it_t hq1_10 h
                        refine lv_tableIn (tgt := 161) X.1 X.2.1 dX11_count_1 (by rw [hq1_10]; decide) (by rw [hq1_10]; decide) (by rw [hq1_10]; rfl) (by decide) ?_
                        refine lv_aload_n X.1 X.2.1 dX11_count_161 rfl (lv_at hl 0 rfl) ?_
                        refine r_get (C := RX11) (T := TX11) (N := 15) (ci := 11) (v := .ref (a1 0)) X iw11 hP 0 rfl rfl 1 rfl mw_2_144 rfl dX11_count_162 ?_
                        refine r_get (C := RX9) (T := TX9) (N := 20) (ci := 9) (v := .ref (a2 0)) X iw9 hP 1 rfl rfl 19 rfl mw_1_193 rfl dX11_count_165 ?_
                        refine r_get (C := RX7) (T := TX7) (N := 3) (ci := 7) (v := .int (g2 1 0)) X iw7 hP 11 rfl rfl 1 rfl mw_1_93 rfl dX11_count_168 ?_
                        exact ret_i0 (Option.some.inj h) X hQ hP hS dX11_count_171
                      · have h := it_f hq1_10 h
                        by_cases hq1_11 : x1 = 11
                        · have h := it_t hq1_11 h
                          refine lv_tableIn (tgt := 172) X.1 X.2.1 dX11_count_1 (by rw [hq1_11]; decide) (by rw [hq1_11]; decide) (by rw [hq1_11]; rfl) (by decide) ?_
                          refine lv_aload_n X.1 X.2.1 dX11_count_172 rfl (lv_at hl 0 rfl) ?_
                          refine r_get (C := RX11) (T := TX11) (N := 15) (ci := 11) (v := .int (g0 12 0)) X iw11 hP 0 rfl rfl 12 rfl mw_2_155 rfl dX11_count_173 ?_
                          exact ret_i0 (Option.some.inj h) X hQ hP hS dX11_count_176
                        · have h := it_f hq1_11 h
                          refine lv_tableOut (tgt := 177) X.1 X.2.1 dX11_count_1 (sw_out x1 [0, 1, 2, 3, 4, 5, 6, 7, 8, 9, 10, 11] 12 (by decide) (by decide) (by simp only [List.mem_cons, List.not_mem_nil, or_false, forall_eq_or_imp, forall_eq]; exact ⟨hq1_0, hq1_1, hq1_2, hq1_3, hq1_4, hq1_5, hq1_6, hq1_7, hq1_8, hq1_9, hq1_10, hq1_11⟩)) (by decide) ?_
                          refine lv_iconst (v := (-1)) X.1 X.2.1 dX11_count_177 (by decide) ?_
                          exact ret_i0 (Option.some.inj h) X hQ hP hS dX11_count_178
