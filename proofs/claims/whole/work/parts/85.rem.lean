def wMm (tc : Nat → ClassId) (am : Nat) (mr : Nat → Option Nat) : va_W := [(am, .inl (tc 3, 12, .inr (.inr (.inr (.inr mr)))))]
def fRem1 (g : Pic) : Pic := if g 12 0 < 12 then g else pu (pu g 11 0 ((g 11 0 + 1) - (g 11 0 + 1) / 12 * 12)) 12 0 11
def fRemS (g : Pic) : Int32 := (g 11 0 + g 12 0) - (g 11 0 + g 12 0) / 12 * 12
def fRem2 (g : Pic) : Pic := pu g 12 0 (g 12 0 + 1)
/-- what stands in the slot j, and what is copied into it -/
def SlZ (tc : Nat → ClassId) (mr : Nat → Option Nat) (j : Nat) (z : va_W) (g2 g3 G4 G5 : Pic) : Prop := (mr j = none ∧ z = [] ∧ f_X9_copyFrom g0St g2 gz g3 = some (G4, G5)) ∨ (∃ (a4 a5 : Nat → Nat) (g4 g5 : Pic) (q4 : Option Nat), mr j = some (a4 0) ∧ z = wSt tc a4 g4 q4 (a5 0) ++ wLg tc a5 g5 ∧ f_X9_copyFrom g4 g2 g5 g3 = some (G4, G5))
theorem up_same {f : Nat → Option Nat} {j : Nat} {v : Option Nat} (h : f j = v) : va_up f j v = f := by
  funext k
  by_cases z : k = j
  · subst z; rw [va_up_self, h]
  · rw [va_up_ne _ _ z]

abbrev rm_X11_rememberNow : Room := { frames := 6, cells := 12, slots := 469, locals := 200 }
set_option maxHeartbeats 4000000 in
set_option maxRecDepth 100000 in
theorem rem_63 {pr : Program} {l : Launch} {e : Env} {dC : Nat → ClassId} {dI : Nat → Nat → Nat} {sk sv : Nat → Nat} {tc : Nat → ClassId} {s : State} {m : MethodId} {args : Array Value} {below : List Frame} {meth : Method} {c : Code} {A : Nat → Prop} {H : Heap} {locs : List Loc} {cells slots : Nat} {Q : State → Prop} {ls : Array Slot} (a0 : Nat → Nat) (r0 r2 r3 r4 r5 r6 r7 r8 r9 am : Nat) (r13 : Option Nat) (mr : Nat → Option Nat) (a2 : Nat → Nat) (q2 : Option Nat) (a3 : Nat → Nat) (g0 g2 g3 : Pic) (a4 a5 : Nat → Nat) (g4 g5 G4 G5 : Pic) (q4 : Option Nat) (x1 : Int32) (X : CX pr (dC, dI) sk sv (TY tc) yX11_rememberNow cX11_rememberNow 2 none s m args meth c A) {mc ms : Nat} {PN : Option Value → va_W → Prop} {PX : String → va_W → Prop} (hm : mr x1.toNatClampNeg = some (a4 0)) (hin : vp_in x1 12) (hc : f_X9_copyFrom g4 g2 g5 g3 = some (G4, G5)) (hQ : vx_MQ below (QcZ (dC, dI) A PN) (XcZ (dC, dI) A PX) args s mc ms A = Q) (hn : PN none (wPU tc a0 (fRem2 g0) r0 (a2 0) r2 r3 r4 r5 r6 r7 r8 r9 am r13 ++ (wMm tc am mr ++ (wSt tc a2 g2 q2 (a3 0) ++ (wLg tc a3 g3 ++ (wSt tc a4 G4 q2 (a5 0) ++ wLg tc a5 G5)))))) (hcr : cells ≤ 12 ∧ slots ≤ 469) (hcm : cells ≤ mc) (hsm : slots ≤ ms) (hD0 : va_D A (wPU tc a0 g0 r0 (a2 0) r2 r3 r4 r5 r6 r7 r8 r9 am r13 ++ (wMm tc am mr ++ (wSt tc a2 g2 q2 (a3 0) ++ (wLg tc a3 g3 ++ (wSt tc a4 g4 q4 (a5 0) ++ wLg tc a5 g5)))))) (hP : va_P (dC, dI) vwCl (wPU tc a0 g0 r0 (a2 0) r2 r3 r4 r5 r6 r7 r8 r9 am r13 ++ (wMm tc am mr ++ (wSt tc a2 g2 q2 (a3 0) ++ (wLg tc a3 g3 ++ (wSt tc a4 g4 q4 (a5 0) ++ wLg tc a5 g5))))) H) (hS : va_S A s.heap H locs) (hl : lv_has ls 2 [(1, .int x1), (0, .ref (a0 0))]) : W pr l e rm_X11_rememberNow s m args below meth c H locs cells slots Q (F0 m 63 ls []) := by
  have hD : ∀ z0 z2 z3 z4 z5 (zm : Nat → Option Nat) zq, va_D A (wPU tc a0 z0 r0 (a2 0) r2 r3 r4 r5 r6 r7 r8 r9 am r13 ++ (wMm tc am zm ++ (wSt tc a2 z2 q2 (a3 0) ++ (wLg tc a3 z3 ++ (wSt tc a4 z4 zq (a5 0) ++ wLg tc a5 z5))))) := fun z0 z2 z3 z4 z5 zm zq => D_fst (ws := (wPU tc a0 g0 r0 (a2 0) r2 r3 r4 r5 r6 r7 r8 r9 am r13 ++ (wMm tc am mr ++ (wSt tc a2 g2 q2 (a3 0) ++ (wLg tc a3 g3 ++ (wSt tc a4 g4 q4 (a5 0) ++ wLg tc a5 g5)))))) rfl hD0
  refine lv_aload_n X.1 X.2.1 dX11_rememberNow_63 rfl (lv_at hl 1 rfl) ?_
  refine r_get (C := RX11) (T := TX11) (N := 15) (ci := 11) (v := .ref am) X iw11 hP 0 rfl rfl 10 rfl mw_2_153 rfl dX11_rememberNow_64 ?_
  refine lv_iload_n X.1 X.2.1 dX11_rememberNow_67 rfl (lv_at hl 0 rfl) ?_
  refine va_aldq X.1 X.2.1 X.2.2.2.2.2.2.2.2.1 hP 1 3 rfl rfl hin dX11_rememberNow_68 ?_
  rw [hm]
  refine W.eq (g2 := F0 m 69 ls [.ref (a4 0)]) rfl ?_
  refine lv_aload_n X.1 X.2.1 dX11_rememberNow_69 rfl (lv_at hl 1 rfl) ?_
  refine r_get (C := RX11) (T := TX11) (N := 15) (ci := 11) (v := .ref (a2 0)) X iw11 hP 0 rfl rfl 1 rfl mw_2_144 rfl dX11_rememberNow_70 ?_
  refine call_Q (ws := (wPU tc a0 g0 r0 (a2 0) r2 r3 r4 r5 r6 r7 r8 r9 am r13 ++ (wMm tc am mr ++ (wSt tc a2 g2 q2 (a3 0) ++ (wLg tc a3 g3 ++ (wSt tc a4 g4 q4 (a5 0) ++ wLg tc a5 g5)))))) (ws' := (wPU tc a0 g0 r0 (a2 0) r2 r3 r4 r5 r6 r7 r8 r9 am r13 ++ (wMm tc am mr ++ (wSt tc a2 g2 q2 (a3 0) ++ (wLg tc a3 g3 ++ (wSt tc a4 G4 q2 (a5 0) ++ wLg tc a5 G5)))))) (wr := (wPU tc a0 g0 r0 (a2 0) r2 r3 r4 r5 r6 r7 r8 r9 am r13 ++ wMm tc am mr)) [14, 15, 16, 17, 18, 19, 20, 21, 22, 23, 2, 3, 4, 5, 6, 7, 8, 9, 10, 11, 24, 25, 12, 13] [0, 1] [0, 1, 12, 13, 14, 15, 16, 17, 18, 19, 20, 21, 24, 25, 2, 3, 4, 5, 6, 7, 8, 9, 10, 11, 22, 23] (As := [.ref (a2 0)]) (rest := []) X (c_X9_copyFrom l dC dI sk sv tc a4 q4 a2 q2 a5 a3 g4 g2 g5 g3 hc) mw_3_79 mw_3_80 mw_3_81 mw_1_3 mw_3_82 dc_X9_copyFrom ⟨(Nat.le_of_ble_eq_true rfl), (Nat.le_of_ble_eq_true rfl)⟩ rfl rfl hcr ⟨rfl, rfl, rfl, rfl, by decide, rfl, rfl⟩ hP (hD _ _ _ _ _ _ _) hS 0 rfl rfl rfl hl.1 (Nat.le_of_ble_eq_true rfl) dX11_rememberNow_73 (fun H locs hP hS => ?_)
  refine W.eq (g2 := F0 m 76 ls []) rfl ?_
  refine lv_aload_n X.1 X.2.1 dX11_rememberNow_76 rfl (lv_at hl 1 rfl) ?_
  refine lv_dup X.1 X.2.1 dX11_rememberNow_77 rfl ?_
  refine r_get (C := RX11) (T := TX11) (N := 15) (ci := 11) (v := .int (g0 12 0)) X iw11 hP 0 rfl rfl 12 rfl mw_2_155 rfl dX11_rememberNow_78 ?_
  refine lv_iconst (v := 1) X.1 X.2.1 dX11_rememberNow_81 (by decide) ?_
  refine lv_iadd X.1 X.2.1 dX11_rememberNow_82 ?_
  refine r_put (C := RX11) (T := TX11) (N := 15) (ci := 11) tyX11 tyX11_ok nmX11 X iw11 hP (hD _ _ _ _ _ _ _) hS 0 rfl rfl 12 rfl mw_2_155 rfl rfl rfl rfl dX11_rememberNow_83 ((wPU tc a0 (fRem2 g0) r0 (a2 0) r2 r3 r4 r5 r6 r7 r8 r9 am r13 ++ (wMm tc am mr ++ (wSt tc a2 g2 q2 (a3 0) ++ (wLg tc a3 g3 ++ (wSt tc a4 G4 q2 (a5 0) ++ wLg tc a5 G5)))))) (rfl) (fun H locs hP hS => ?_)
  exact retZ_v X.1 X.2.1 X.2.2.1 X.2.2.2.2.2.2.1 hQ hn hP (hD _ _ _ _ _ _ _) hS hcm hsm dX11_rememberNow_86
set_option maxHeartbeats 4000000 in
set_option maxRecDepth 100000 in
theorem rem_28o {pr : Program} {l : Launch} {e : Env} {dC : Nat → ClassId} {dI : Nat → Nat → Nat} {sk sv : Nat → Nat} {tc : Nat → ClassId} {s : State} {m : MethodId} {args : Array Value} {below : List Frame} {meth : Method} {c : Code} {A : Nat → Prop} {H : Heap} {locs : List Loc} {Q : State → Prop} {ls : Array Slot} (a0 : Nat → Nat) (r0 r2 r3 r4 r5 r6 r7 r8 r9 am : Nat) (r13 : Option Nat) (mr : Nat → Option Nat) (a2 : Nat → Nat) (q2 : Option Nat) (a3 : Nat → Nat) (g0 g2 g3 : Pic) (a4 a5 : Nat → Nat) (g4 g5 : Pic) (q4 : Option Nat) (G4 G5 : Pic) (X : CX pr (dC, dI) sk sv (TY tc) yX11_rememberNow cX11_rememberNow 2 none s m args meth c A) {PN : Option Value → va_W → Prop} {PX : String → va_W → Prop} (hm : mr (fRemS g0).toNatClampNeg = some (a4 0)) (hin : vp_in (fRemS g0) 12) (hc : f_X9_copyFrom g4 g2 g5 g3 = some (G4, G5)) (hQ : vx_MQ below (QcZ (dC, dI) A PN) (XcZ (dC, dI) A PX) args s 12 469 A = Q) (hn : ∀ u1 u2 : Nat → Nat, va_up mr (fRemS g0).toNatClampNeg (some (u1 0)) = mr → PN none (wPU tc a0 (fRem2 g0) r0 (a2 0) r2 r3 r4 r5 r6 r7 r8 r9 am r13 ++ (wMm tc am mr ++ (wSt tc a2 g2 q2 (a3 0) ++ (wLg tc a3 g3 ++ (wSt tc u1 G4 q2 (u2 0) ++ wLg tc u2 G5)))))) (hD0 : va_D A (wPU tc a0 g0 r0 (a2 0) r2 r3 r4 r5 r6 r7 r8 r9 am r13 ++ (wMm tc am mr ++ (wSt tc a2 g2 q2 (a3 0) ++ (wLg tc a3 g3 ++ (wSt tc a4 g4 q4 (a5 0) ++ wLg tc a5 g5)))))) (hP : va_P (dC, dI) vwCl (wPU tc a0 g0 r0 (a2 0) r2 r3 r4 r5 r6 r7 r8 r9 am r13 ++ (wMm tc am mr ++ (wSt tc a2 g2 q2 (a3 0) ++ (wLg tc a3 g3 ++ (wSt tc a4 g4 q4 (a5 0) ++ wLg tc a5 g5))))) H) (hS : va_S A s.heap H locs) (hl : lv_has ls 2 [(0, .ref (a0 0))]) : W pr l e rm_X11_rememberNow s m args below meth c H locs 0 0 Q (F0 m 28 ls []) := by
  have hD : ∀ z0, va_D A (wPU tc a0 z0 r0 (a2 0) r2 r3 r4 r5 r6 r7 r8 r9 am r13 ++ (wMm tc am mr ++ (wSt tc a2 g2 q2 (a3 0) ++ (wLg tc a3 g3 ++ (wSt tc a4 g4 q4 (a5 0) ++ wLg tc a5 g5))))) := fun z0 => D_fst (ws := (wPU tc a0 g0 r0 (a2 0) r2 r3 r4 r5 r6 r7 r8 r9 am r13 ++ (wMm tc am mr ++ (wSt tc a2 g2 q2 (a3 0) ++ (wLg tc a3 g3 ++ (wSt tc a4 g4 q4 (a5 0) ++ wLg tc a5 g5)))))) rfl hD0
  refine lv_aload_n X.1 X.2.1 dX11_rememberNow_28 rfl (lv_at hl 0 rfl) ?_
  refine r_get (C := RX11) (T := TX11) (N := 15) (ci := 11) (v := .int (g0 11 0)) X iw11 hP 0 rfl rfl 11 rfl mw_2_154 rfl dX11_rememberNow_29 ?_
  refine lv_aload_n X.1 X.2.1 dX11_rememberNow_32 rfl (lv_at hl 0 rfl) ?_
  refine r_get (C := RX11) (T := TX11) (N := 15) (ci := 11) (v := .int (g0 12 0)) X iw11 hP 0 rfl rfl 12 rfl mw_2_155 rfl dX11_rememberNow_33 ?_
  refine lv_iadd X.1 X.2.1 dX11_rememberNow_36 ?_
  refine lv_bipush (v := 12) X.1 X.2.1 dX11_rememberNow_37 (by decide) ?_
  refine lv_irem X.1 X.2.1 dX11_rememberNow_39 (by decide) ?_
  obtain ⟨x1, ex1⟩ : ∃ x, x = fRemS g0 := ⟨_, rfl⟩
  refine tp_i (show x1 = g0 11 0 + g0 12 0 - (g0 11 0 + g0 12 0) / 12 * 12 from ex1) ?_
  rw [← ex1] at hin hm hn
  refine lv_istore_n (lv' := [(1, .int x1), (0, .ref (a0 0))]) X.1 X.2.1 dX11_rememberNow_40 rfl hl (by decide) rfl (fun ls hl => ?_)
  refine lv_aload_n X.1 X.2.1 dX11_rememberNow_41 rfl (lv_at hl 1 rfl) ?_
  refine r_get (C := RX11) (T := TX11) (N := 15) (ci := 11) (v := .ref am) X iw11 hP 0 rfl rfl 10 rfl mw_2_153 rfl dX11_rememberNow_42 ?_
  refine lv_iload_n X.1 X.2.1 dX11_rememberNow_45 rfl (lv_at hl 0 rfl) ?_
  refine va_aldq X.1 X.2.1 X.2.2.2.2.2.2.2.2.1 hP 1 3 rfl rfl hin dX11_rememberNow_46 ?_
  rw [hm]
  refine W.eq (g2 := F0 m 47 ls [.ref (a4 0)]) rfl ?_
  refine lv_ifnonnull (tgt := 63) X.1 X.2.1 dX11_rememberNow_47 (by decide) ?_
  exact rem_63 a0 r0 r2 r3 r4 r5 r6 r7 r8 r9 am r13 mr a2 q2 a3 g0 g2 g3 a4 a5 g4 g5 G4 G5 q4 x1 X hm hin hc hQ (hn a4 a5 (up_same hm)) ⟨(Nat.le_of_ble_eq_true rfl), (Nat.le_of_ble_eq_true rfl)⟩ (Nat.le_of_ble_eq_true rfl) (Nat.le_of_ble_eq_true rfl) hD0 hP hS hl
set_option maxHeartbeats 4000000 in
set_option maxRecDepth 100000 in
theorem rem_28f {pr : Program} {l : Launch} {e : Env} {dC : Nat → ClassId} {dI : Nat → Nat → Nat} {sk sv : Nat → Nat} {tc : Nat → ClassId} {s : State} {m : MethodId} {args : Array Value} {below : List Frame} {meth : Method} {c : Code} {A : Nat → Prop} {H : Heap} {locs : List Loc} {Q : State → Prop} {ls : Array Slot} (a0 : Nat → Nat) (r0 r2 r3 r4 r5 r6 r7 r8 r9 am : Nat) (r13 : Option Nat) (mr : Nat → Option Nat) (a2 : Nat → Nat) (q2 : Option Nat) (a3 : Nat → Nat) (g0 g2 g3 : Pic) (G4 G5 : Pic) (X : CX pr (dC, dI) sk sv (TY tc) yX11_rememberNow cX11_rememberNow 2 none s m args meth c A) {PN : Option Value → va_W → Prop} {PX : String → va_W → Prop} (hm : mr (fRemS g0).toNatClampNeg = none) (hin : vp_in (fRemS g0) 12) (hc : f_X9_copyFrom g0St g2 gz g3 = some (G4, G5)) (hQ : vx_MQ below (QcZ (dC, dI) A PN) (XcZ (dC, dI) A PX) args s 12 469 A = Q) (hn : ∀ u1 u2 : Nat → Nat, True = True → PN none (wPU tc a0 (fRem2 g0) r0 (a2 0) r2 r3 r4 r5 r6 r7 r8 r9 am r13 ++ (wMm tc am (va_up mr (fRemS g0).toNatClampNeg (some (u1 0))) ++ (wSt tc a2 g2 q2 (a3 0) ++ (wLg tc a3 g3 ++ (wSt tc u1 G4 q2 (u2 0) ++ wLg tc u2 G5)))))) (hD0 : va_D A (wPU tc a0 g0 r0 (a2 0) r2 r3 r4 r5 r6 r7 r8 r9 am r13 ++ (wMm tc am mr ++ (wSt tc a2 g2 q2 (a3 0) ++ (wLg tc a3 g3 ++ []))))) (hP : va_P (dC, dI) vwCl (wPU tc a0 g0 r0 (a2 0) r2 r3 r4 r5 r6 r7 r8 r9 am r13 ++ (wMm tc am mr ++ (wSt tc a2 g2 q2 (a3 0) ++ (wLg tc a3 g3 ++ [])))) H) (hS : va_S A s.heap H locs) (hl : lv_has ls 2 [(0, .ref (a0 0))]) : W pr l e rm_X11_rememberNow s m args below meth c H locs 0 0 Q (F0 m 28 ls []) := by
  have hD := hD0
  refine lv_aload_n X.1 X.2.1 dX11_rememberNow_28 rfl (lv_at hl 0 rfl) ?_
  refine r_get (C := RX11) (T := TX11) (N := 15) (ci := 11) (v := .int (g0 11 0)) X iw11 hP 0 rfl rfl 11 rfl mw_2_154 rfl dX11_rememberNow_29 ?_
  refine lv_aload_n X.1 X.2.1 dX11_rememberNow_32 rfl (lv_at hl 0 rfl) ?_
  refine r_get (C := RX11) (T := TX11) (N := 15) (ci := 11) (v := .int (g0 12 0)) X iw11 hP 0 rfl rfl 12 rfl mw_2_155 rfl dX11_rememberNow_33 ?_
  refine lv_iadd X.1 X.2.1 dX11_rememberNow_36 ?_
  refine lv_bipush (v := 12) X.1 X.2.1 dX11_rememberNow_37 (by decide) ?_
  refine lv_irem X.1 X.2.1 dX11_rememberNow_39 (by decide) ?_
  obtain ⟨x1, ex1⟩ : ∃ x, x = fRemS g0 := ⟨_, rfl⟩
  refine tp_i (show x1 = g0 11 0 + g0 12 0 - (g0 11 0 + g0 12 0) / 12 * 12 from ex1) ?_
  rw [← ex1] at hin hm hn
  refine lv_istore_n (lv' := [(1, .int x1), (0, .ref (a0 0))]) X.1 X.2.1 dX11_rememberNow_40 rfl hl (by decide) rfl (fun ls hl => ?_)
  refine lv_aload_n X.1 X.2.1 dX11_rememberNow_41 rfl (lv_at hl 1 rfl) ?_
  refine r_get (C := RX11) (T := TX11) (N := 15) (ci := 11) (v := .ref am) X iw11 hP 0 rfl rfl 10 rfl mw_2_153 rfl dX11_rememberNow_42 ?_
  refine lv_iload_n X.1 X.2.1 dX11_rememberNow_45 rfl (lv_at hl 0 rfl) ?_
  refine va_aldq X.1 X.2.1 X.2.2.2.2.2.2.2.2.1 hP 1 3 rfl rfl hin dX11_rememberNow_46 ?_
  rw [hm]
  refine W.eq (g2 := F0 m 47 ls [.null]) rfl ?_
  refine lv_ifnonnullN X.1 X.2.1 dX11_rememberNow_47 ?_
  refine lv_aload_n X.1 X.2.1 dX11_rememberNow_50 rfl (lv_at hl 1 rfl) ?_
  refine r_get (C := RX11) (T := TX11) (N := 15) (ci := 11) (v := .ref am) X iw11 hP 0 rfl rfl 10 rfl mw_2_153 rfl dX11_rememberNow_51 ?_
  refine lv_iload_n X.1 X.2.1 dX11_rememberNow_54 rfl (lv_at hl 0 rfl) ?_
  refine r_new (C := RX9) (T := TX9) (N := 20) (ci := 9) (fs := [.int 0, .null, .null, .null, .int 0, .null, .int 0, .int 0, .null, .null, .null, .null, .null, .int 0, .int 0, .int 0, .int 0, .int 0, .null, .null]) tyX9 tyX9_ok X iw9 mw_1_79 mw_1_80 mw_1_3 rfl (by decide) hP hD hS (Nat.le_of_ble_eq_true rfl) (Nat.le_of_ble_eq_true rfl) dX11_rememberNow_55 (fun q H hP hD hS => ?_)
  refine lv_dup X.1 X.2.1 dX11_rememberNow_58 rfl ?_
  refine call_IN (As := []) (rest := [.ref q, .int x1, .ref am]) (ws := (wPU tc a0 g0 r0 (a2 0) r2 r3 r4 r5 r6 r7 r8 r9 am r13 ++ (wMm tc am mr ++ (wSt tc a2 g2 q2 (a3 0) ++ (wLg tc a3 g3 ++ [])))) ++ [(q, .inr (9, [.int 0, .null, .null, .null, .int 0, .null, .int 0, .int 0, .null, .null, .null, .null, .null, .int 0, .int 0, .int 0, .int 0, .int 0, .null, .null]))]) (wc := [(q, .inr (9, [.int 0, .null, .null, .null, .int 0, .null, .int 0, .int 0, .null, .null, .null, .null, .null, .int 0, .int 0, .int 0, .int 0, .int 0, .null, .null]))]) (wr := (wPU tc a0 g0 r0 (a2 0) r2 r3 r4 r5 r6 r7 r8 r9 am r13 ++ (wMm tc am mr ++ (wSt tc a2 g2 q2 (a3 0) ++ (wLg tc a3 g3 ++ []))))) [14] [0, 1, 2, 3, 4, 5, 6, 7, 8, 9, 10, 11, 12, 13] X (n_X9_init l dC dI sk sv tc q) (List.mem_of_getElem? (i := 1) rfl) mw_1_82 mw_1_3 mw_1_83 ⟨by decide +kernel, by decide +kernel, show (parseMethodDescriptor yX9_init.desc).map (fun d => d.parameters.length) = some 0 by decide +kernel⟩ rfl ⟨(Nat.le_of_ble_eq_true rfl), (Nat.le_of_ble_eq_true rfl)⟩ rfl rfl ⟨(Nat.le_of_ble_eq_true rfl), (Nat.le_of_ble_eq_true rfl)⟩ ⟨rfl, rfl, rfl, rfl, by decide⟩ hP hD hS hl.1 (Nat.le_of_ble_eq_true rfl) dX11_rememberNow_59 (fun u H locs hP hD hS => ?_)
  have hP : va_P (dC, dI) vwCl (wPU tc a0 g0 r0 (a2 0) r2 r3 r4 r5 r6 r7 r8 r9 am r13 ++ (wMm tc am mr ++ (wSt tc a2 g2 q2 (a3 0) ++ (wLg tc a3 g3 ++ (wSt tc (ad q u.1) g0St none (u.2 0) ++ wLg tc u.2 gz))))) H := hP
  have hD : va_D A (wPU tc a0 g0 r0 (a2 0) r2 r3 r4 r5 r6 r7 r8 r9 am r13 ++ (wMm tc am mr ++ (wSt tc a2 g2 q2 (a3 0) ++ (wLg tc a3 g3 ++ (wSt tc (ad q u.1) g0St none (u.2 0) ++ wLg tc u.2 gz))))) := hD
  refine va_astq X.1 X.2.1 X.2.2.2.2.2.2.2.2.1 hP hD hS 1 3 14 9 (r := (RX9, TX9, 20)) rfl rfl rfl rfl hin dX11_rememberNow_62 (fun H locs hP hD hS => ?_)
  have hP : va_P (dC, dI) vwCl (wPU tc a0 g0 r0 (a2 0) r2 r3 r4 r5 r6 r7 r8 r9 am r13 ++ (wMm tc am (va_up mr x1.toNatClampNeg (some q)) ++ (wSt tc a2 g2 q2 (a3 0) ++ (wLg tc a3 g3 ++ (wSt tc (ad q u.1) g0St none (u.2 0) ++ wLg tc u.2 gz))))) H := hP
  have hD : va_D A (wPU tc a0 g0 r0 (a2 0) r2 r3 r4 r5 r6 r7 r8 r9 am r13 ++ (wMm tc am (va_up mr x1.toNatClampNeg (some q)) ++ (wSt tc a2 g2 q2 (a3 0) ++ (wLg tc a3 g3 ++ (wSt tc (ad q u.1) g0St none (u.2 0) ++ wLg tc u.2 gz))))) := hD
  exact rem_63 a0 r0 r2 r3 r4 r5 r6 r7 r8 r9 am r13 (va_up mr x1.toNatClampNeg (some q)) a2 q2 a3 g0 g2 g3 (ad q u.1) u.2 g0St gz G4 G5 none x1 X (va_up_self _ _ _) hin hc hQ (hn (ad q u.1) u.2 rfl) ⟨(Nat.le_of_ble_eq_true rfl), (Nat.le_of_ble_eq_true rfl)⟩ (Nat.le_of_ble_eq_true rfl) (Nat.le_of_ble_eq_true rfl) hD hP hS hl
set_option maxHeartbeats 4000000 in
set_option maxRecDepth 100000 in
theorem c_X11_rememberNow (l : Launch) (dC : Nat → ClassId) (dI : Nat → Nat → Nat) (sk sv : Nat → Nat) (tc : Nat → ClassId) (a0 : Nat → Nat) (r0 r2 r3 r4 r5 r6 r7 r8 r9 am : Nat) (r13 : Option Nat) (mr : Nat → Option Nat) (a2 : Nat → Nat) (q2 : Option Nat) (a3 : Nat → Nat) (g0 g2 g3 : Pic) (z : va_W) (G4 G5 : Pic) (hin : vp_in (fRemS (fRem1 g0)) 12) (hz : SlZ tc mr (fRemS (fRem1 g0)).toNatClampNeg z g2 g3 G4 G5) : CZ l (dC, dI) sk sv (TY tc) yX11_rememberNow (.code yX11_rememberNow cX11_rememberNow 2 none) rm_X11_rememberNow 12 469 [.ref (a0 0)] (wPU tc a0 g0 r0 (a2 0) r2 r3 r4 r5 r6 r7 r8 r9 am r13 ++ (wMm tc am mr ++ (wSt tc a2 g2 q2 (a3 0) ++ (wLg tc a3 g3 ++ z)))) (fun v w' => v = none ∧ ∃ u1 u2 : Nat → Nat, w' = (wPU tc a0 (fRem2 (fRem1 g0)) r0 (a2 0) r2 r3 r4 r5 r6 r7 r8 r9 am r13 ++ (wMm tc am (va_up mr (fRemS (fRem1 g0)).toNatClampNeg (some (u1 0))) ++ (wSt tc a2 g2 q2 (a3 0) ++ (wLg tc a3 g3 ++ (wSt tc u1 G4 q2 (u2 0) ++ wLg tc u2 G5)))))) (fun _ _ => False) := by
  refine ofCZ (by decide) (Nat.le_of_ble_eq_true rfl) ?_
  intro pr e s m args below meth c A Q ls H locs X hT hQ hD0 hP hS hl
  have hD : ∀ z0, va_D A (wPU tc a0 z0 r0 (a2 0) r2 r3 r4 r5 r6 r7 r8 r9 am r13 ++ (wMm tc am mr ++ (wSt tc a2 g2 q2 (a3 0) ++ (wLg tc a3 g3 ++ z)))) := fun z0 => D_fst (ws := (wPU tc a0 g0 r0 (a2 0) r2 r3 r4 r5 r6 r7 r8 r9 am r13 ++ (wMm tc am mr ++ (wSt tc a2 g2 q2 (a3 0) ++ (wLg tc a3 g3 ++ z))))) rfl hD0
  have hl : lv_has ls 2 [(0, .ref (a0 0))] := hl
  have K : ∀ (H : Heap) (locs : List Loc), va_P (dC, dI) vwCl (wPU tc a0 (fRem1 g0) r0 (a2 0) r2 r3 r4 r5 r6 r7 r8 r9 am r13 ++ (wMm tc am mr ++ (wSt tc a2 g2 q2 (a3 0) ++ (wLg tc a3 g3 ++ z)))) H → va_S A s.heap H locs → W pr l e rm_X11_rememberNow s m args below meth c H locs 0 0 Q (F0 m 28 ls []) := by
    intro H locs hP hS
    rcases hz with ⟨z1, z2, z3⟩ | ⟨a4, a5, g4, g5, q4, z1, z2, z3⟩
    · subst z2
      exact rem_28f a0 r0 r2 r3 r4 r5 r6 r7 r8 r9 am r13 mr a2 q2 a3 (fRem1 g0) g2 g3 G4 G5 X z1 hin z3 hQ (fun u1 u2 _ => ⟨rfl, u1, u2, rfl⟩) (hD _) hP hS hl
    · subst z2
      exact rem_28o a0 r0 r2 r3 r4 r5 r6 r7 r8 r9 am r13 mr a2 q2 a3 (fRem1 g0) g2 g3 a4 a5 g4 g5 q4 G4 G5 X z1 hin z3 hQ (fun u1 u2 h => ⟨rfl, u1, u2, by rw [h]⟩) (hD _) hP hS hl
  refine lv_aload_n X.1 X.2.1 dX11_rememberNow_0 rfl (lv_at hl 0 rfl) ?_
  refine r_get (C := RX11) (T := TX11) (N := 15) (ci := 11) (v := .int (g0 12 0)) X iw11 hP 0 rfl rfl 12 rfl mw_2_155 rfl dX11_rememberNow_1 ?_
  refine lv_bipush (v := 12) X.1 X.2.1 dX11_rememberNow_4 (by decide) ?_
  refine lv_icmp_lt (tgt := 28) X.1 X.2.1 dX11_rememberNow_6 (by decide) (fun hc => ?_) (fun hc => ?_)
  · have e1 : fRem1 g0 = g0 := if_pos hc
    rw [e1] at K
    exact K H locs hP hS
  · have e1 : fRem1 g0 = pu (pu g0 11 0 ((g0 11 0 + 1) - (g0 11 0 + 1) / 12 * 12)) 12 0 11 := if_neg hc
    rw [e1] at K
    refine lv_aload_n X.1 X.2.1 dX11_rememberNow_9 rfl (lv_at hl 0 rfl) ?_
    refine lv_aload_n X.1 X.2.1 dX11_rememberNow_10 rfl (lv_at hl 0 rfl) ?_
    refine r_get (C := RX11) (T := TX11) (N := 15) (ci := 11) (v := .int (g0 11 0)) X iw11 hP 0 rfl rfl 11 rfl mw_2_154 rfl dX11_rememberNow_11 ?_
    refine lv_iconst (v := 1) X.1 X.2.1 dX11_rememberNow_14 (by decide) ?_
    refine lv_iadd X.1 X.2.1 dX11_rememberNow_15 ?_
    refine lv_bipush (v := 12) X.1 X.2.1 dX11_rememberNow_16 (by decide) ?_
    refine lv_irem X.1 X.2.1 dX11_rememberNow_18 (by decide) ?_
    refine r_put (C := RX11) (T := TX11) (N := 15) (ci := 11) tyX11 tyX11_ok nmX11 X iw11 hP (hD _) hS 0 rfl rfl 11 rfl mw_2_154 rfl rfl rfl rfl dX11_rememberNow_19 ((wPU tc a0 (pu g0 11 0 ((g0 11 0 + 1) - (g0 11 0 + 1) / 12 * 12)) r0 (a2 0) r2 r3 r4 r5 r6 r7 r8 r9 am r13 ++ (wMm tc am mr ++ (wSt tc a2 g2 q2 (a3 0) ++ (wLg tc a3 g3 ++ z))))) (rfl) (fun H locs hP hS => ?_)
    refine lv_aload_n X.1 X.2.1 dX11_rememberNow_22 rfl (lv_at hl 0 rfl) ?_
    refine lv_bipush (v := 11) X.1 X.2.1 dX11_rememberNow_23 (by decide) ?_
    refine r_put (C := RX11) (T := TX11) (N := 15) (ci := 11) tyX11 tyX11_ok nmX11 X iw11 hP (hD _) hS 0 rfl rfl 12 rfl mw_2_155 rfl rfl rfl rfl dX11_rememberNow_25 ((wPU tc a0 (pu (pu g0 11 0 ((g0 11 0 + 1) - (g0 11 0 + 1) / 12 * 12)) 12 0 11) r0 (a2 0) r2 r3 r4 r5 r6 r7 r8 r9 am r13 ++ (wMm tc am mr ++ (wSt tc a2 g2 q2 (a3 0) ++ (wLg tc a3 g3 ++ z))))) (rfl) (fun H locs hP hS => ?_)
    exact K H locs hP hS
