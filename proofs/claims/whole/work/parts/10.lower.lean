def wSt (tc : Nat → ClassId) (a : Nat → Nat) (g : Pic) (r18 : Option Nat) (r19 : Nat) : va_W := [(a 0, .inr (9, [.int (g 0 0), .ref (a 2), .ref (a 3), .ref (a 4), .int (g 4 0), .ref (a 6), .int (g 6 0), .int (g 7 0), .ref (a 9), .ref (a 10), .ref (a 11), .ref (a 12), .ref (a 13), .int (g 13 0), .int (g 14 0), .int (g 15 0), .int (g 16 0), .int (g 17 0), va_rf r18, .ref r19])), (a 2, .inl (tc 0, 48, .inl (g 1))), (a 3, .inl (tc 0, 8, .inl (g 2))), (a 4, .inl (tc 0, 8, .inl (g 3))), (a 6, .inl (tc 0, 20, .inl (g 5))), (a 9, .inl (tc 0, 5, .inl (g 8))), (a 10, .inl (tc 0, 5, .inl (g 9))), (a 11, .inl (tc 0, 5, .inl (g 10))), (a 12, .inl (tc 0, 5, .inl (g 11))), (a 13, .inl (tc 0, 100, .inl (g 12)))]
def wLg (tc : Nat → ClassId) (a : Nat → Nat) (g : Pic) : va_W := [(a 0, .inr (7, [.ref (a 1), .int (g 1 0), .int (g 2 0)])), (a 1, .inl (tc 0, 240, .inl (g 0)))]
def wHd (tc : Nat → ClassId) (a : Nat → Nat) (g : Pic) : va_W := [(a 0, .inr (3, [.ref (a 1), .ref (a 2), .ref (a 3), .ref (a 4), .int (g 4 0)])), (a 1, .inl (tc 0, 8, .inl (g 0))), (a 2, .inl (tc 0, 8, .inl (g 1))), (a 3, .inl (tc 0, 8, .inl (g 2))), (a 4, .inl (tc 0, 8, .inl (g 3)))]
def wTp (tc : Nat → ClassId) (a : Nat → Nat) (g : Pic) : va_W := [(a 0, .inr (10, [.ref (a 1), .int (g 1 0), .int (g 2 0), .int (g 3 0), .int (g 4 0), .int (g 5 0), .int (g 6 0), .int (g 7 0)])), (a 1, .inl (tc 0, 400, .inl (g 0)))]
def wFa (tc : Nat → ClassId) (a : Nat → Nat) (g : Pic) : va_W := [(a 0, .inl (tc 0, 9, .inl (g 0)))]
def wCk (tc : Nat → ClassId) (a : Nat → Nat) (g : Pic) (r0 : Nat) (r1 : Nat) : va_W := [(a 0, .inr (0, [.ref r0, .ref r1]))]
def wLw (tc : Nat → ClassId) (a : Nat → Nat) (g : Pic) (ln : Nat → Nat) : va_W := [(a 0, .inr (4, [.int (g 0 0), .ref (a 2), .ref (a 3), .ref (a 4), .ref (a 5), .ref (a 6)])), (a 2, .inl (tc 0, ln 1, .inl (g 1))), (a 3, .inl (tc 0, ln 2, .inl (g 2))), (a 4, .inl (tc 0, ln 3, .inl (g 3))), (a 5, .inl (tc 0, ln 4, .inl (g 4))), (a 6, .inl (tc 0, 32, .inl (g 5)))]
def wCl (tc : Nat → ClassId) (a : Nat → Nat) (g : Pic) (r0 : Nat) (r1 : Nat) : va_W := [(a 0, .inr (1, [.ref r0, .ref r1, .ref (a 3), .ref (a 4), .int (g 4 0), .int (g 5 0)])), (a 3, .inl (tc 0, 256, .inl (g 2))), (a 4, .inl (tc 0, 9, .inl (g 3)))]
def wEv (tc : Nat → ClassId) (a : Nat → Nat) (g : Pic) (r0 : Nat) (r1 : Nat) : va_W := [(a 0, .inr (2, [.ref r0, .ref r1]))]
def wLR (tc : Nat → ClassId) (a : Nat → Nat) (g : Pic) (r0 : Nat) : va_W := [(a 0, .inr (5, [.ref r0, .ref (a 2), .ref (a 3), .ref (a 4), .ref (a 5), .int (g 5 0), .int (g 6 0)])), (a 2, .inl (tc 0, 12, .inl (g 1))), (a 3, .inl (tc 0, 12, .inl (g 2))), (a 4, .inl (tc 0, 13, .inl (g 3))), (a 5, .inl (tc 0, 400, .inl (g 4)))]
def wLx (tc : Nat → ClassId) (a : Nat → Nat) (g : Pic) (r0 : Nat) : va_W := [(a 0, .inr (6, [.ref r0, .ref (a 2), .ref (a 3), .ref (a 4)])), (a 2, .inl (tc 0, 7, .inl (g 1))), (a 3, .inl (tc 0, 7, .inl (g 2))), (a 4, .inl (tc 0, 1161, .inl (g 3)))]
def wSc (tc : Nat → ClassId) (a : Nat → Nat) (g : Pic) (r0 : Nat) (r1 : Nat) : va_W := [(a 0, .inr (8, [.ref r0, .ref r1, .ref (a 3), .ref (a 4), .ref (a 5), .int (g 5 0)])), (a 3, .inl (tc 0, 5, .inl (g 2))), (a 4, .inl (tc 0, 32, .inl (g 3))), (a 5, .inl (tc 0, 5, .inl (g 4)))]
def f_X7_copyFrom (g0 : Pic) (g1 : Pic) : Option (Pic) := nm (pr_ g0 0 (va_cpy (g1 0) (g0 0) 0 0 240)) (fun g0_1 => nm (pu g0_1 1 0 (g1 1 0)) (fun g0_2 => nm (pu g0_2 2 0 (g1 2 0)) (fun g0_3 => some g0_3)))
abbrev rm_X7_copyFrom : Room := { frames := 1, cells := 0, slots := 0, locals := 100 }
set_option maxHeartbeats 4000000 in
set_option maxRecDepth 100000 in
theorem c_X7_copyFrom (l : Launch) (dC : Nat → ClassId) (dI : Nat → Nat → Nat) (sk sv : Nat → Nat) (tc : Nat → ClassId) (a0 : Nat → Nat) (a1 : Nat → Nat) (g0 : Pic) (g1 : Pic) {G0 : Pic} (h : f_X7_copyFrom g0 g1 = some G0) : CT l (dC, dI) sk sv (TY tc) yX7_copyFrom cX7_copyFrom 2 none rm_X7_copyFrom [.ref (a0 0), .ref (a1 0)] (wLg tc a0 g0 ++ (wLg tc a1 g1)) none (wLg tc a0 G0 ++ (wLg tc a1 g1)) := by
  refine ofCT (by decide) (Nat.le_of_ble_eq_true rfl) ?_
  intro pr e s m args below meth c A Q ls H locs X hQ hD0 hP hS hl
  have hD : ∀ z0 z1, va_D A (wLg tc a0 z0 ++ (wLg tc a1 z1)) := fun z0 z1 => D_fst (ws := (wLg tc a0 g0 ++ (wLg tc a1 g1))) rfl hD0
  have hl : lv_has ls 2 [(0, .ref (a0 0)), (1, .ref (a1 0))] := hl
  unfold f_X7_copyFrom at h
  refine lv_aload_n X.1 X.2.1 dX7_copyFrom_0 rfl (lv_at hl 1 rfl) ?_
  refine r_get (C := RX7) (T := TX7) (N := 3) (ci := 7) (v := .ref (a1 1)) X iw7 hP 2 rfl rfl 0 rfl mw_1_91 rfl dX7_copyFrom_1 ?_
  refine lv_iconst (v := 0) X.1 X.2.1 dX7_copyFrom_4 (by decide) ?_
  refine lv_aload_n X.1 X.2.1 dX7_copyFrom_5 rfl (lv_at hl 0 rfl) ?_
  refine r_get (C := RX7) (T := TX7) (N := 3) (ci := 7) (v := .ref (a0 1)) X iw7 hP 0 rfl rfl 0 rfl mw_1_91 rfl dX7_copyFrom_6 ?_
  refine lv_iconst (v := 0) X.1 X.2.1 dX7_copyFrom_9 (by decide) ?_
  refine lv_aload_n X.1 X.2.1 dX7_copyFrom_10 rfl (lv_at hl 0 rfl) ?_
  refine r_get (C := RX7) (T := TX7) (N := 3) (ci := 7) (v := .ref (a0 1)) X iw7 hP 0 rfl rfl 0 rfl mw_1_91 rfl dX7_copyFrom_11 ?_
  refine r_alen (v := 240) X hP 1 0 rfl rfl rfl dX7_copyFrom_14 ?_
  obtain ⟨g0_1, eg0_1, h⟩ := nm_el h
  refine r_copy (N := 240) (Ni := 240) X mw_3_90 mw_3_85 mw_3_84 mw_1_13 hl.1 ⟨by decide, by decide⟩ hP (hD _ _) hS 3 1 rfl rfl rfl rfl (Nat.le_of_ble_eq_true rfl) (Nat.le_of_ble_eq_true rfl) dX7_copyFrom_15 (wLg tc a0 g0_1 ++ (wLg tc a1 g1)) (by rw [eg0_1]; rfl) (fun H locs hP hS => ?_)
  refine lv_aload_n X.1 X.2.1 dX7_copyFrom_18 rfl (lv_at hl 0 rfl) ?_
  refine lv_aload_n X.1 X.2.1 dX7_copyFrom_19 rfl (lv_at hl 1 rfl) ?_
  refine r_get (C := RX7) (T := TX7) (N := 3) (ci := 7) (v := .int (g1 1 0)) X iw7 hP 2 rfl rfl 1 rfl mw_1_92 rfl dX7_copyFrom_20 ?_
  obtain ⟨g0_2, eg0_2, h⟩ := nm_el h
  refine r_put (C := RX7) (T := TX7) (N := 3) (ci := 7) tyX7 tyX7_ok nmX7 X iw7 hP (hD _ _) hS 0 rfl rfl 1 rfl mw_1_92 rfl rfl rfl rfl dX7_copyFrom_23 (wLg tc a0 g0_2 ++ (wLg tc a1 g1)) (by rw [eg0_2]; rfl) (fun H locs hP hS => ?_)
  refine lv_aload_n X.1 X.2.1 dX7_copyFrom_26 rfl (lv_at hl 0 rfl) ?_
  refine lv_aload_n X.1 X.2.1 dX7_copyFrom_27 rfl (lv_at hl 1 rfl) ?_
  refine r_get (C := RX7) (T := TX7) (N := 3) (ci := 7) (v := .int (g1 2 0)) X iw7 hP 2 rfl rfl 2 rfl mw_1_94 rfl dX7_copyFrom_28 ?_
  obtain ⟨g0_3, eg0_3, h⟩ := nm_el h
  refine r_put (C := RX7) (T := TX7) (N := 3) (ci := 7) tyX7 tyX7_ok nmX7 X iw7 hP (hD _ _) hS 0 rfl rfl 2 rfl mw_1_94 rfl rfl rfl rfl dX7_copyFrom_31 (wLg tc a0 g0_3 ++ (wLg tc a1 g1)) (by rw [eg0_3]; rfl) (fun H locs hP hS => ?_)
  exact ret_v (fun u => (wLg tc a0 u ++ (wLg tc a1 g1))) (res := G0) (Option.some.inj h) X hQ hP hS dX7_copyFrom_34

def f_X7_add (g0 : Pic) (x1 : Int32) (x2 : Int32) (x3 : Int32) (x4 : Int32) : Option (Pic) := nm (((g0 2 0) * 4)) (fun x5_1 => gdi x5_1 240 (nm (pu g0 0 (x5_1.toNatClampNeg) x1) (fun g0_3 => gdi (x5_1 + 1) 240 (nm (pu g0_3 0 ((x5_1 + 1).toNatClampNeg) x2) (fun g0_5 => gdi (x5_1 + 2) 240 (nm (pu g0_5 0 ((x5_1 + 2).toNatClampNeg) x3) (fun g0_7 => gdi (x5_1 + 3) 240 (nm (pu g0_7 0 ((x5_1 + 3).toNatClampNeg) x4) (fun g0_9 => nm (pu g0_9 2 0 (((g0_9 2 0) + 1) - ((g0_9 2 0) + 1) / 60 * 60)) (fun g0_10 => nm (pu g0_10 1 0 (if 60 < ((g0_10 1 0) + 1) then 60 else ((g0_10 1 0) + 1))) (fun g0_11 => some g0_11)))))))))))
abbrev rm_X7_add : Room := { frames := 1, cells := 0, slots := 0, locals := 40 }
set_option maxHeartbeats 4000000 in
set_option maxRecDepth 100000 in
theorem c_X7_add (l : Launch) (dC : Nat → ClassId) (dI : Nat → Nat → Nat) (sk sv : Nat → Nat) (tc : Nat → ClassId) (a0 : Nat → Nat) (g0 : Pic) (x1 : Int32) (x2 : Int32) (x3 : Int32) (x4 : Int32) {G0 : Pic} (h : f_X7_add g0 x1 x2 x3 x4 = some G0) : CT l (dC, dI) sk sv (TY tc) yX7_add cX7_add 6 none rm_X7_add [.ref (a0 0), .int x1, .int x2, .int x3, .int x4] (wLg tc a0 g0) none (wLg tc a0 G0) := by
  refine ofCT (by decide) (Nat.le_of_ble_eq_true rfl) ?_
  intro pr e s m args below meth c A Q ls H locs X hQ hD0 hP hS hl
  have hD : ∀ z0, va_D A (wLg tc a0 z0) := fun z0 => D_fst (ws := (wLg tc a0 g0)) rfl hD0
  have hl : lv_has ls 6 [(0, .ref (a0 0)), (1, .int x1), (2, .int x2), (3, .int x3), (4, .int x4)] := hl
  unfold f_X7_add at h
  refine lv_aload_n X.1 X.2.1 dX7_add_0 rfl (lv_at hl 0 rfl) ?_
  refine r_get (C := RX7) (T := TX7) (N := 3) (ci := 7) (v := .int (g0 2 0)) X iw7 hP 0 rfl rfl 2 rfl mw_1_94 rfl dX7_add_1 ?_
  refine lv_iconst (v := 4) X.1 X.2.1 dX7_add_4 (by decide) ?_
  refine lv_imul X.1 X.2.1 dX7_add_5 ?_
  obtain ⟨x5_1, ex5_1, h⟩ := nm_el h
  refine tp_i ex5_1 ?_
  refine lv_istore (lv' := [(5, .int x5_1), (0, .ref (a0 0)), (1, .int x1), (2, .int x2), (3, .int x3), (4, .int x4)]) X.1 X.2.1 dX7_add_6 hl (by decide) rfl (fun ls hl => ?_)
  refine lv_aload_n X.1 X.2.1 dX7_add_8 rfl (lv_at hl 1 rfl) ?_
  refine r_get (C := RX7) (T := TX7) (N := 3) (ci := 7) (v := .ref (a0 1)) X iw7 hP 0 rfl rfl 0 rfl mw_1_91 rfl dX7_add_9 ?_
  refine lv_iload X.1 X.2.1 dX7_add_12 (lv_at hl 0 rfl) ?_
  refine lv_iload_n X.1 X.2.1 dX7_add_14 rfl (lv_at hl 2 rfl) ?_
  obtain ⟨hg_2, h⟩ := gdi_el h
  obtain ⟨g0_3, eg0_3, h⟩ := nm_el h
  refine r_iast X hP (hD _) hS 1 0 rfl rfl hg_2 rfl dX7_add_15 (wLg tc a0 g0_3) (by rw [eg0_3]; rfl) (fun H locs hP hS => ?_)
  refine lv_aload_n X.1 X.2.1 dX7_add_16 rfl (lv_at hl 1 rfl) ?_
  refine r_get (C := RX7) (T := TX7) (N := 3) (ci := 7) (v := .ref (a0 1)) X iw7 hP 0 rfl rfl 0 rfl mw_1_91 rfl dX7_add_17 ?_
  refine lv_iload X.1 X.2.1 dX7_add_20 (lv_at hl 0 rfl) ?_
  refine lv_iconst (v := 1) X.1 X.2.1 dX7_add_22 (by decide) ?_
  refine lv_iadd X.1 X.2.1 dX7_add_23 ?_
  refine lv_iload_n X.1 X.2.1 dX7_add_24 rfl (lv_at hl 3 rfl) ?_
  obtain ⟨hg_4, h⟩ := gdi_el h
  obtain ⟨g0_5, eg0_5, h⟩ := nm_el h
  refine r_iast X hP (hD _) hS 1 0 rfl rfl hg_4 rfl dX7_add_25 (wLg tc a0 g0_5) (by rw [eg0_5]; rfl) (fun H locs hP hS => ?_)
  refine lv_aload_n X.1 X.2.1 dX7_add_26 rfl (lv_at hl 1 rfl) ?_
  refine r_get (C := RX7) (T := TX7) (N := 3) (ci := 7) (v := .ref (a0 1)) X iw7 hP 0 rfl rfl 0 rfl mw_1_91 rfl dX7_add_27 ?_
  refine lv_iload X.1 X.2.1 dX7_add_30 (lv_at hl 0 rfl) ?_
  refine lv_iconst (v := 2) X.1 X.2.1 dX7_add_32 (by decide) ?_
  refine lv_iadd X.1 X.2.1 dX7_add_33 ?_
  refine lv_iload_n X.1 X.2.1 dX7_add_34 rfl (lv_at hl 4 rfl) ?_
  obtain ⟨hg_6, h⟩ := gdi_el h
  obtain ⟨g0_7, eg0_7, h⟩ := nm_el h
  refine r_iast X hP (hD _) hS 1 0 rfl rfl hg_6 rfl dX7_add_35 (wLg tc a0 g0_7) (by rw [eg0_7]; rfl) (fun H locs hP hS => ?_)
  refine lv_aload_n X.1 X.2.1 dX7_add_36 rfl (lv_at hl 1 rfl) ?_
  refine r_get (C := RX7) (T := TX7) (N := 3) (ci := 7) (v := .ref (a0 1)) X iw7 hP 0 rfl rfl 0 rfl mw_1_91 rfl dX7_add_37 ?_
  refine lv_iload X.1 X.2.1 dX7_add_40 (lv_at hl 0 rfl) ?_
  refine lv_iconst (v := 3) X.1 X.2.1 dX7_add_42 (by decide) ?_
  refine lv_iadd X.1 X.2.1 dX7_add_43 ?_
  refine lv_iload X.1 X.2.1 dX7_add_44 (lv_at hl 5 rfl) ?_
  obtain ⟨hg_8, h⟩ := gdi_el h
  obtain ⟨g0_9, eg0_9, h⟩ := nm_el h
  refine r_iast X hP (hD _) hS 1 0 rfl rfl hg_8 rfl dX7_add_46 (wLg tc a0 g0_9) (by rw [eg0_9]; rfl) (fun H locs hP hS => ?_)
  refine lv_aload_n X.1 X.2.1 dX7_add_47 rfl (lv_at hl 1 rfl) ?_
  refine lv_aload_n X.1 X.2.1 dX7_add_48 rfl (lv_at hl 1 rfl) ?_
  refine r_get (C := RX7) (T := TX7) (N := 3) (ci := 7) (v := .int (g0_9 2 0)) X iw7 hP 0 rfl rfl 2 rfl mw_1_94 rfl dX7_add_49 ?_
  refine lv_iconst (v := 1) X.1 X.2.1 dX7_add_52 (by decide) ?_
  refine lv_iadd X.1 X.2.1 dX7_add_53 ?_
  refine lv_bipush (v := 60) X.1 X.2.1 dX7_add_54 (by decide) ?_
  refine lv_irem X.1 X.2.1 dX7_add_56 (by decide) ?_
  obtain ⟨g0_10, eg0_10, h⟩ := nm_el h
  refine r_put (C := RX7) (T := TX7) (N := 3) (ci := 7) tyX7 tyX7_ok nmX7 X iw7 hP (hD _) hS 0 rfl rfl 2 rfl mw_1_94 rfl rfl rfl rfl dX7_add_57 (wLg tc a0 g0_10) (by rw [eg0_10]; rfl) (fun H locs hP hS => ?_)
  refine lv_aload_n X.1 X.2.1 dX7_add_60 rfl (lv_at hl 1 rfl) ?_
  refine lv_aload_n X.1 X.2.1 dX7_add_61 rfl (lv_at hl 1 rfl) ?_
  refine r_get (C := RX7) (T := TX7) (N := 3) (ci := 7) (v := .int (g0_10 1 0)) X iw7 hP 0 rfl rfl 1 rfl mw_1_92 rfl dX7_add_62 ?_
  refine lv_iconst (v := 1) X.1 X.2.1 dX7_add_65 (by decide) ?_
  refine lv_iadd X.1 X.2.1 dX7_add_66 ?_
  refine lv_bipush (v := 60) X.1 X.2.1 dX7_add_67 (by decide) ?_
  refine r_min X mw_5_232 mw_3_9 mw_1_25 mw_3_10 hl.1 (Nat.le_of_ble_eq_true rfl) (Nat.le_of_ble_eq_true rfl) ⟨Nat.zero_le _, Nat.zero_le _⟩ dX7_add_69 ?_
  obtain ⟨g0_11, eg0_11, h⟩ := nm_el h
  refine r_put (C := RX7) (T := TX7) (N := 3) (ci := 7) tyX7 tyX7_ok nmX7 X iw7 hP (hD _) hS 0 rfl rfl 1 rfl mw_1_92 rfl rfl rfl rfl dX7_add_72 (wLg tc a0 g0_11) (by rw [eg0_11]; rfl) (fun H locs hP hS => ?_)
  exact ret_v (fun u => (wLg tc a0 u)) (res := G0) (Option.some.inj h) X hQ hP hS dX7_add_75

def f_X7_tell (g0 : Pic) (x1 : Int32) (x2 : Int32) : Option (Int32) := jn (fun (s0_J39 : Int32) => some s0_J39) (fun J39 => jn (fun (_ : Unit) => J39 (-1)) (fun J12 => (if x1 < 0 then J12 () else (if x1 < (g0 1 0) then gdi (((((((g0 2 0) + 60) - 1) - x1) - ((((g0 2 0) + 60) - 1) - x1) / 60 * 60) * 4) + x2) 240 (J39 (g0 0 ((((((((g0 2 0) + 60) - 1) - x1) - ((((g0 2 0) + 60) - 1) - x1) / 60 * 60) * 4) + x2).toNatClampNeg))) else J12 ()))))
abbrev rm_X7_tell : Room := { frames := 0, cells := 0, slots := 0, locals := 0 }
set_option maxHeartbeats 4000000 in
set_option maxRecDepth 100000 in
theorem c_X7_tell (l : Launch) (dC : Nat → ClassId) (dI : Nat → Nat → Nat) (sk sv : Nat → Nat) (tc : Nat → ClassId) (a0 : Nat → Nat) (g0 : Pic) (x1 : Int32) (x2 : Int32) {r0 : Int32} (h : f_X7_tell g0 x1 x2 = some r0) : CT l (dC, dI) sk sv (TY tc) yX7_tell cX7_tell 3 (some .int) rm_X7_tell [.ref (a0 0), .int x1, .int x2] (wLg tc a0 g0) (some (.int r0)) (wLg tc a0 g0) := by
  refine ofCT (by decide) (Nat.le_of_ble_eq_true rfl) ?_
  intro pr e s m args below meth c A Q ls H locs X hQ hD0 hP hS hl
  have hD : ∀ z0, va_D A (wLg tc a0 z0) := fun z0 => D_fst (ws := (wLg tc a0 g0)) rfl hD0
  have hl : lv_has ls 3 [(0, .ref (a0 0)), (1, .int x1), (2, .int x2)] := hl
  unfold f_X7_tell at h
  refine lv_iload_n X.1 X.2.1 dX7_tell_0 rfl (lv_at hl 1 rfl) ?_
  obtain ⟨J39, eJ39, h⟩ := jn_el h
  have HJ39 : ∀ (s0_J39 : Int32) (H : Heap) (locs : List Loc) (ls : Array Slot), J39 s0_J39 = some r0 → va_P (dC, dI) vwCl (wLg tc a0 g0) H → va_S A s.heap H locs → lv_has ls 3 [] → W pr l e rm_X7_tell s m args below meth c H locs 0 0 Q (F0 m 39 ls [.int s0_J39]) := by
    intro s0_J39 H locs ls h hP hS hl
    rw [eJ39] at h
    exact ret_i0 (Option.some.inj h) X hQ hP hS dX7_tell_39
  obtain ⟨J12, eJ12, h⟩ := jn_el h
  have HJ12 : ∀ (_ : Unit) (H : Heap) (locs : List Loc) (ls : Array Slot), J12 () = some r0 → va_P (dC, dI) vwCl (wLg tc a0 g0) H → va_S A s.heap H locs → lv_has ls 3 [] → W pr l e rm_X7_tell s m args below meth c H locs 0 0 Q (F0 m 12 ls []) := by
    intro _ H locs ls h hP hS hl
    rw [eJ12] at h
    refine lv_iconst (v := (-1)) X.1 X.2.1 dX7_tell_12 (by decide) ?_
    refine lv_goto (tgt := 39) X.1 X.2.1 dX7_tell_13 (by decide) ?_
    exact HJ39 (-1) H locs ls h hP hS (lv_sub hl [] rfl)
  refine lv_if_lt (tgt := 12) X.1 X.2.1 dX7_tell_1 (by decide) (fun hc => ?_) (fun hc => ?_)
  · have h := it_t hc h
    exact HJ12 () H locs ls h hP hS (lv_sub hl [] rfl)
  · have h := it_f hc h
    refine lv_iload_n X.1 X.2.1 dX7_tell_4 rfl (lv_at hl 1 rfl) ?_
    refine lv_aload_n X.1 X.2.1 dX7_tell_5 rfl (lv_at hl 0 rfl) ?_
    refine r_get (C := RX7) (T := TX7) (N := 3) (ci := 7) (v := .int (g0 1 0)) X iw7 hP 0 rfl rfl 1 rfl mw_1_92 rfl dX7_tell_6 ?_
    refine lv_icmp_lt (tgt := 16) X.1 X.2.1 dX7_tell_9 (by decide) (fun hc => ?_) (fun hc => ?_)
    · have h := it_t hc h
      refine lv_aload_n X.1 X.2.1 dX7_tell_16 rfl (lv_at hl 0 rfl) ?_
      refine r_get (C := RX7) (T := TX7) (N := 3) (ci := 7) (v := .ref (a0 1)) X iw7 hP 0 rfl rfl 0 rfl mw_1_91 rfl dX7_tell_17 ?_
      refine lv_aload_n X.1 X.2.1 dX7_tell_20 rfl (lv_at hl 0 rfl) ?_
      refine r_get (C := RX7) (T := TX7) (N := 3) (ci := 7) (v := .int (g0 2 0)) X iw7 hP 0 rfl rfl 2 rfl mw_1_94 rfl dX7_tell_21 ?_
      refine lv_bipush (v := 60) X.1 X.2.1 dX7_tell_24 (by decide) ?_
      refine lv_iadd X.1 X.2.1 dX7_tell_26 ?_
      refine lv_iconst (v := 1) X.1 X.2.1 dX7_tell_27 (by decide) ?_
      refine lv_isub X.1 X.2.1 dX7_tell_28 ?_
      refine lv_iload_n X.1 X.2.1 dX7_tell_29 rfl (lv_at hl 1 rfl) ?_
      refine lv_isub X.1 X.2.1 dX7_tell_30 ?_
      refine lv_bipush (v := 60) X.1 X.2.1 dX7_tell_31 (by decide) ?_
      refine lv_irem X.1 X.2.1 dX7_tell_33 (by decide) ?_
      refine lv_iconst (v := 4) X.1 X.2.1 dX7_tell_34 (by decide) ?_
      refine lv_imul X.1 X.2.1 dX7_tell_35 ?_
      refine lv_iload_n X.1 X.2.1 dX7_tell_36 rfl (lv_at hl 2 rfl) ?_
      refine lv_iadd X.1 X.2.1 dX7_tell_37 ?_
      obtain ⟨hg_1, h⟩ := gdi_el h
      refine r_iald X hP 1 0 rfl rfl hg_1 rfl dX7_tell_38 ?_
      exact HJ39 (g0 0 ((((((((g0 2 0) + 60) - 1) - x1) - ((((g0 2 0) + 60) - 1) - x1) / 60 * 60) * 4) + x2).toNatClampNeg)) H locs ls h hP hS (lv_sub hl [] rfl)
    · have h := it_f hc h
      exact HJ12 () H locs ls h hP hS (lv_sub hl [] rfl)

def f_X7_rowsOf_L4 (x1 : Int32) (g0 : Pic) (n : Nat) (a : Int32 × Int32) : Option (Int32) := lp (fun (rec : Int32 × Int32 → Option (Int32)) (a : Int32 × Int32) => match a with | (x2, x3) => (if (g0 1 0) ≤ x3 then some x2 else bd (f_X7_tell g0 x3 1) (fun r_1 => jn (fun (x2_J25 : Int32) => nm (x3 + 1) (fun x3_2 => rec (x2_J25, x3_2))) (fun J25 => (if r_1 = x1 then nm (x2 + 1) (fun x2_3 => J25 x2_3) else J25 x2))))) n a
def f_X7_rowsOf (g0 : Pic) (x1 : Int32) : Option (Int32) := bd (f_X7_rowsOf_L4 x1 g0 fu (0, 0)) (fun x2_4 => some x2_4)
abbrev rm_X7_rowsOf : Room := { frames := 1, cells := 0, slots := 0, locals := 22 }
set_option maxHeartbeats 4000000 in
set_option maxRecDepth 100000 in
theorem c_X7_rowsOf (l : Launch) (dC : Nat → ClassId) (dI : Nat → Nat → Nat) (sk sv : Nat → Nat) (tc : Nat → ClassId) (a0 : Nat → Nat) (g0 : Pic) (x1 : Int32) {r0 : Int32} (h : f_X7_rowsOf g0 x1 = some r0) : CT l (dC, dI) sk sv (TY tc) yX7_rowsOf cX7_rowsOf 4 (some .int) rm_X7_rowsOf [.ref (a0 0), .int x1] (wLg tc a0 g0) (some (.int r0)) (wLg tc a0 g0) := by
  refine ofCT (by decide) (Nat.le_of_ble_eq_true rfl) ?_
  intro pr e s m args below meth c A Q ls H locs X hQ hD0 hP hS hl
  have hD : ∀ z0, va_D A (wLg tc a0 z0) := fun z0 => D_fst (ws := (wLg tc a0 g0)) rfl hD0
  have hl : lv_has ls 4 [(0, .ref (a0 0)), (1, .int x1)] := hl
  have HL4 : ∀ (x1 : Int32) (n : Nat) (x2 : Int32) (x3 : Int32) (ex : (Int32)), f_X7_rowsOf_L4 x1 g0 n (x2, x3) = some ex → ∀ (H : Heap) (locs : List Loc) (ls : Array Slot), va_P (dC, dI) vwCl (wLg tc a0 g0) H → va_S A s.heap H locs → lv_has ls 4 [(0, .ref (a0 0)), (1, .int x1), (2, .int x2), (3, .int x3)] → (∀ (y2 : Int32), y2 = ex → ∀ (H : Heap) (locs : List Loc) (ls : Array Slot), va_P (dC, dI) vwCl (wLg tc a0 g0) H → va_S A s.heap H locs → lv_has ls 4 [(2, .int y2)] → W pr l e rm_X7_rowsOf s m args below meth c H locs 0 0 Q (F0 m 31 ls [])) → W pr l e rm_X7_rowsOf s m args below meth c H locs 0 0 Q (F0 m 4 ls []) := by
    intro x1 n
    induction n with
    | zero => intro x2 x3 ex h; exact lp_z h
    | succ n ih =>
      intro x2 x3 ex h H locs ls hP hS hl K
      have h := lp_s h
      refine lv_iload_n X.1 X.2.1 dX7_rowsOf_4 rfl (lv_at hl 3 rfl) ?_
      refine lv_aload_n X.1 X.2.1 dX7_rowsOf_5 rfl (lv_at hl 0 rfl) ?_
      refine r_get (C := RX7) (T := TX7) (N := 3) (ci := 7) (v := .int (g0 1 0)) X iw7 hP 0 rfl rfl 1 rfl mw_1_92 rfl dX7_rowsOf_6 ?_
      refine lv_icmp_ge (tgt := 31) X.1 X.2.1 dX7_rowsOf_9 (by decide) (fun hc => ?_) (fun hc => ?_)
      · have h := it_t hc h
        exact K x2 (Option.some.inj h) H locs ls hP hS (lv_sub hl [2] rfl)
      · have h := it_f hc h
        refine lv_aload_n X.1 X.2.1 dX7_rowsOf_12 rfl (lv_at hl 0 rfl) ?_
        refine lv_iload_n X.1 X.2.1 dX7_rowsOf_13 rfl (lv_at hl 3 rfl) ?_
        refine lv_iconst (v := 1) X.1 X.2.1 dX7_rowsOf_14 (by decide) ?_
        obtain ⟨r_1, hc_1, h⟩ := bd_el h
        refine call_V1i (As := [.int x3, .int 1]) (rest := []) X (c_X7_tell l dC dI sk sv tc a0 g0 x3 1 hc_1) mw_7_97 mw_7_98 mw_7_99 mw_1_4 mw_7_100 dc_X7_tell ⟨Nat.le_of_ble_eq_true rfl, Nat.le_of_ble_eq_true rfl⟩ rfl rfl ⟨Nat.zero_le _, Nat.zero_le _⟩ hP (hD _) hS 0 rfl rfl rfl hl.1 (Nat.le_of_ble_eq_true rfl) dX7_rowsOf_15 (fun H locs hP hS => ?_)
        refine lv_iload_n X.1 X.2.1 dX7_rowsOf_18 rfl (lv_at hl 1 rfl) ?_
        obtain ⟨J25, eJ25, h⟩ := jn_el h
        have HJ25 : ∀ (x2_J25 : Int32) (H : Heap) (locs : List Loc) (ls : Array Slot), J25 x2_J25 = some ex → va_P (dC, dI) vwCl (wLg tc a0 g0) H → va_S A s.heap H locs → lv_has ls 4 [(0, .ref (a0 0)), (1, .int x1), (2, .int x2_J25), (3, .int x3)] → W pr l e rm_X7_rowsOf s m args below meth c H locs 0 0 Q (F0 m 25 ls []) := by
          intro x2_J25 H locs ls h hP hS hl
          rw [eJ25] at h
          obtain ⟨x3_2, ex3_2, h⟩ := nm_el h
          refine lv_iinc (v := x3_2) (lv' := [(3, .int x3_2), (0, .ref (a0 0)), (1, .int x1), (2, .int x2_J25)]) X.1 X.2.1 dX7_rowsOf_25 hl (k := 3) rfl (by rw [ex3_2]; rfl) (by decide) rfl (fun ls hl => ?_)
          refine lv_goto (tgt := 4) X.1 X.2.1 dX7_rowsOf_28 (by decide) ?_
          exact ih x2_J25 x3_2 ex h H locs ls hP hS (lv_sub hl [1, 2, 3, 0] rfl) K
        refine lv_icmp_ne (tgt := 25) X.1 X.2.1 dX7_rowsOf_19 (by decide) (fun hc => ?_) (fun hc => ?_)
        · have h := it_f hc h
          exact HJ25 x2 H locs ls h hP hS (lv_sub hl [0, 1, 2, 3] rfl)
        · have h := it_t hc h
          obtain ⟨x2_3, ex2_3, h⟩ := nm_el h
          refine lv_iinc (v := x2_3) (lv' := [(2, .int x2_3), (0, .ref (a0 0)), (1, .int x1), (3, .int x3)]) X.1 X.2.1 dX7_rowsOf_22 hl (k := 2) rfl (by rw [ex2_3]; rfl) (by decide) rfl (fun ls hl => ?_)
          exact HJ25 x2_3 H locs ls h hP hS (lv_sub hl [1, 2, 0, 3] rfl)
  unfold f_X7_rowsOf at h
  refine lv_iconst (v := 0) X.1 X.2.1 dX7_rowsOf_0 (by decide) ?_
  refine lv_istore_n (lv' := [(2, .int 0), (0, .ref (a0 0)), (1, .int x1)]) X.1 X.2.1 dX7_rowsOf_1 rfl hl (by decide) rfl (fun ls hl => ?_)
  refine lv_iconst (v := 0) X.1 X.2.1 dX7_rowsOf_2 (by decide) ?_
  refine lv_istore_n (lv' := [(3, .int 0), (2, .int 0), (0, .ref (a0 0)), (1, .int x1)]) X.1 X.2.1 dX7_rowsOf_3 rfl hl (by decide) rfl (fun ls hl => ?_)
  obtain ⟨ex_4, hL_4, h⟩ := bd_el h
  refine HL4 x1 fu 0 0 ex_4 hL_4 H locs ls hP hS (lv_sub hl [2, 3, 1, 0] rfl) (fun x2_4 he H locs ls hP hS hl => ?_)
  subst he
  refine lv_iload_n X.1 X.2.1 dX7_rowsOf_31 rfl (lv_at hl 0 rfl) ?_
  exact ret_i0 (Option.some.inj h) X hQ hP hS dX7_rowsOf_32

def f_X7_latestOf_L2 (x1 : Int32) (g0 : Pic) (n : Nat) (a : Int32) : Option ((Int32) ⊕ (Unit)) := lp (fun (rec : Int32 → Option ((Int32) ⊕ (Unit))) (a : Int32) => (fun (x2 : Int32) => (if (g0 1 0) ≤ x2 then some (.inr ()) else bd (f_X7_tell g0 x2 1) (fun r_1 => (if r_1 = x1 then bd (f_X7_tell g0 x2 0) (fun r_3 => some (.inl r_3)) else nm (x2 + 1) (fun x2_2 => rec x2_2))))) a) n a
def f_X7_latestOf (g0 : Pic) (x1 : Int32) : Option (Int32) := lr (f_X7_latestOf_L2 x1 g0 fu 0) (fun a => a) (fun _ => some (-1))
abbrev rm_X7_latestOf : Room := { frames := 1, cells := 0, slots := 0, locals := 22 }
set_option maxHeartbeats 4000000 in
set_option maxRecDepth 100000 in
theorem c_X7_latestOf (l : Launch) (dC : Nat → ClassId) (dI : Nat → Nat → Nat) (sk sv : Nat → Nat) (tc : Nat → ClassId) (a0 : Nat → Nat) (g0 : Pic) (x1 : Int32) {r0 : Int32} (h : f_X7_latestOf g0 x1 = some r0) : CT l (dC, dI) sk sv (TY tc) yX7_latestOf cX7_latestOf 3 (some .int) rm_X7_latestOf [.ref (a0 0), .int x1] (wLg tc a0 g0) (some (.int r0)) (wLg tc a0 g0) := by
  refine ofCT (by decide) (Nat.le_of_ble_eq_true rfl) ?_
  intro pr e s m args below meth c A Q ls H locs X hQ hD0 hP hS hl
  have hD : ∀ z0, va_D A (wLg tc a0 z0) := fun z0 => D_fst (ws := (wLg tc a0 g0)) rfl hD0
  have hl : lv_has ls 3 [(0, .ref (a0 0)), (1, .int x1)] := hl
  have HL2 : ∀ (x1 : Int32) (n : Nat) (x2 : Int32) (ex : ((Int32) ⊕ (Unit))), f_X7_latestOf_L2 x1 g0 n x2 = some ex → (∀ rv, ex = .inl rv → rv = r0) → ∀ (H : Heap) (locs : List Loc) (ls : Array Slot), va_P (dC, dI) vwCl (wLg tc a0 g0) H → va_S A s.heap H locs → lv_has ls 3 [(0, .ref (a0 0)), (1, .int x1), (2, .int x2)] → (.inr () = ex → ∀ (H : Heap) (locs : List Loc) (ls : Array Slot), va_P (dC, dI) vwCl (wLg tc a0 g0) H → va_S A s.heap H locs → lv_has ls 3 [] → W pr l e rm_X7_latestOf s m args below meth c H locs 0 0 Q (F0 m 33 ls [])) → W pr l e rm_X7_latestOf s m args below meth c H locs 0 0 Q (F0 m 2 ls []) := by
    intro x1 n
    induction n with
    | zero => intro x2 ex h; exact lp_z h
    | succ n ih =>
      intro x2 ex h hR H locs ls hP hS hl K
      have h := lp_s h
      refine lv_iload_n X.1 X.2.1 dX7_latestOf_2 rfl (lv_at hl 2 rfl) ?_
      refine lv_aload_n X.1 X.2.1 dX7_latestOf_3 rfl (lv_at hl 0 rfl) ?_
      refine r_get (C := RX7) (T := TX7) (N := 3) (ci := 7) (v := .int (g0 1 0)) X iw7 hP 0 rfl rfl 1 rfl mw_1_92 rfl dX7_latestOf_4 ?_
      refine lv_icmp_ge (tgt := 33) X.1 X.2.1 dX7_latestOf_7 (by decide) (fun hc => ?_) (fun hc => ?_)
      · have h := it_t hc h
        exact K  (Option.some.inj h) H locs ls hP hS (lv_sub hl [] rfl)
      · have h := it_f hc h
        refine lv_aload_n X.1 X.2.1 dX7_latestOf_10 rfl (lv_at hl 0 rfl) ?_
        refine lv_iload_n X.1 X.2.1 dX7_latestOf_11 rfl (lv_at hl 2 rfl) ?_
        refine lv_iconst (v := 1) X.1 X.2.1 dX7_latestOf_12 (by decide) ?_
        obtain ⟨r_1, hc_1, h⟩ := bd_el h
        refine call_V1i (As := [.int x2, .int 1]) (rest := []) X (c_X7_tell l dC dI sk sv tc a0 g0 x2 1 hc_1) mw_7_97 mw_7_98 mw_7_99 mw_1_4 mw_7_100 dc_X7_tell ⟨Nat.le_of_ble_eq_true rfl, Nat.le_of_ble_eq_true rfl⟩ rfl rfl ⟨Nat.zero_le _, Nat.zero_le _⟩ hP (hD _) hS 0 rfl rfl rfl hl.1 (Nat.le_of_ble_eq_true rfl) dX7_latestOf_13 (fun H locs hP hS => ?_)
        refine lv_iload_n X.1 X.2.1 dX7_latestOf_16 rfl (lv_at hl 1 rfl) ?_
        refine lv_icmp_ne (tgt := 27) X.1 X.2.1 dX7_latestOf_17 (by decide) (fun hc => ?_) (fun hc => ?_)
        · have h := it_f hc h
          obtain ⟨x2_2, ex2_2, h⟩ := nm_el h
          refine lv_iinc (v := x2_2) (lv' := [(2, .int x2_2), (0, .ref (a0 0)), (1, .int x1)]) X.1 X.2.1 dX7_latestOf_27 hl (k := 2) rfl (by rw [ex2_2]; rfl) (by decide) rfl (fun ls hl => ?_)
          refine lv_goto (tgt := 2) X.1 X.2.1 dX7_latestOf_30 (by decide) ?_
          exact ih x2_2 ex h hR H locs ls hP hS (lv_sub hl [1, 2, 0] rfl) K
        · have h := it_t hc h
          refine lv_aload_n X.1 X.2.1 dX7_latestOf_20 rfl (lv_at hl 0 rfl) ?_
          refine lv_iload_n X.1 X.2.1 dX7_latestOf_21 rfl (lv_at hl 2 rfl) ?_
          refine lv_iconst (v := 0) X.1 X.2.1 dX7_latestOf_22 (by decide) ?_
          obtain ⟨r_3, hc_3, h⟩ := bd_el h
          refine call_V1i (As := [.int x2, .int 0]) (rest := []) X (c_X7_tell l dC dI sk sv tc a0 g0 x2 0 hc_3) mw_7_97 mw_7_98 mw_7_99 mw_1_4 mw_7_100 dc_X7_tell ⟨Nat.le_of_ble_eq_true rfl, Nat.le_of_ble_eq_true rfl⟩ rfl rfl ⟨Nat.zero_le _, Nat.zero_le _⟩ hP (hD _) hS 0 rfl rfl rfl hl.1 (Nat.le_of_ble_eq_true rfl) dX7_latestOf_23 (fun H locs hP hS => ?_)
          exact ret_i0 (hR _ (Option.some.inj h).symm) X hQ hP hS dX7_latestOf_26
  unfold f_X7_latestOf at h
  refine lv_iconst (v := 0) X.1 X.2.1 dX7_latestOf_0 (by decide) ?_
  refine lv_istore_n (lv' := [(2, .int 0), (0, .ref (a0 0)), (1, .int x1)]) X.1 X.2.1 dX7_latestOf_1 rfl hl (by decide) rfl (fun ls hl => ?_)
  obtain ⟨ex_4, hL_4, h1_4, h2_4⟩ := lr_el h
  refine HL2 x1 fu 0 ex_4 hL_4 (fun rv hq => h1_4 rv hq) H locs ls hP hS (lv_sub hl [1, 2, 0] rfl) (fun  he H locs ls hP hS hl => ?_)
  have h := h2_4 _ he.symm
  refine lv_iconst (v := (-1)) X.1 X.2.1 dX7_latestOf_33 (by decide) ?_
  exact ret_i0 (Option.some.inj h) X hQ hP hS dX7_latestOf_34

def f_X9_copyFrom (g0 : Pic) (g1 : Pic) (g2 : Pic) (g3 : Pic) : Option (Pic × Pic) := nm (pu g0 0 0 (g1 0 0)) (fun g0_1 => nm (pr_ g0_1 1 (va_cpy (g1 1) (g0_1 1) 0 0 48)) (fun g0_2 => nm (pr_ g0_2 2 (va_cpy (g1 2) (g0_2 2) 0 0 8)) (fun g0_3 => nm (pr_ g0_3 3 (va_cpy (g1 3) (g0_3 3) 0 0 8)) (fun g0_4 => nm (pu g0_4 4 0 (g1 4 0)) (fun g0_5 => nm (pr_ g0_5 5 (va_cpy (g1 5) (g0_5 5) 0 0 20)) (fun g0_6 => nm (pu g0_6 6 0 (g1 6 0)) (fun g0_7 => nm (pu g0_7 7 0 (g1 7 0)) (fun g0_8 => nm (pr_ g0_8 8 (va_cpy (g1 8) (g0_8 8) 0 0 5)) (fun g0_9 => nm (pr_ g0_9 9 (va_cpy (g1 9) (g0_9 9) 0 0 5)) (fun g0_10 => nm (pr_ g0_10 10 (va_cpy (g1 10) (g0_10 10) 0 0 5)) (fun g0_11 => nm (pr_ g0_11 11 (va_cpy (g1 11) (g0_11 11) 0 0 5)) (fun g0_12 => nm (pr_ g0_12 12 (va_cpy (g1 12) (g0_12 12) 0 0 100)) (fun g0_13 => nm (pu g0_13 13 0 (g1 13 0)) (fun g0_14 => nm (pu g0_14 14 0 (g1 14 0)) (fun g0_15 => nm (pu g0_15 15 0 (g1 15 0)) (fun g0_16 => nm (pu g0_16 16 0 (g1 16 0)) (fun g0_17 => nm (pu g0_17 17 0 (g1 17 0)) (fun g0_18 => bd (f_X7_copyFrom g2 g3) (fun g2_19 => some (g0_18, g2_19))))))))))))))))))))
abbrev rm_X9_copyFrom : Room := { frames := 2, cells := 0, slots := 0, locals := 121 }
set_option maxHeartbeats 4000000 in
set_option maxRecDepth 100000 in
theorem c_X9_copyFrom (l : Launch) (dC : Nat → ClassId) (dI : Nat → Nat → Nat) (sk sv : Nat → Nat) (tc : Nat → ClassId) (a0 : Nat → Nat) (q0_18 : Option Nat) (a1 : Nat → Nat) (q1_18 : Option Nat) (a2 : Nat → Nat) (a3 : Nat → Nat) (g0 : Pic) (g1 : Pic) (g2 : Pic) (g3 : Pic) {G0 : Pic} {G2 : Pic} (h : f_X9_copyFrom g0 g1 g2 g3 = some (G0, G2)) : CT l (dC, dI) sk sv (TY tc) yX9_copyFrom cX9_copyFrom 2 none rm_X9_copyFrom [.ref (a0 0), .ref (a1 0)] (wSt tc a0 g0 q0_18 (a2 0) ++ (wSt tc a1 g1 q1_18 (a3 0) ++ (wLg tc a2 g2 ++ (wLg tc a3 g3)))) none (wSt tc a0 G0 q1_18 (a2 0) ++ (wSt tc a1 g1 q1_18 (a3 0) ++ (wLg tc a2 G2 ++ (wLg tc a3 g3)))) := by
  refine ofCT (by decide) (Nat.le_of_ble_eq_true rfl) ?_
  intro pr e s m args below meth c A Q ls H locs X hQ hD0 hP hS hl
  have hD : ∀ z0 z1 z2 z3, va_D A (wSt tc a0 z0 q0_18 (a2 0) ++ (wSt tc a1 z1 q1_18 (a3 0) ++ (wLg tc a2 z2 ++ (wLg tc a3 z3)))) := fun z0 z1 z2 z3 => D_fst (ws := (wSt tc a0 g0 q0_18 (a2 0) ++ (wSt tc a1 g1 q1_18 (a3 0) ++ (wLg tc a2 g2 ++ (wLg tc a3 g3))))) rfl hD0
  have hl : lv_has ls 2 [(0, .ref (a0 0)), (1, .ref (a1 0))] := hl
  unfold f_X9_copyFrom at h
  refine lv_aload_n X.1 X.2.1 dX9_copyFrom_0 rfl (lv_at hl 0 rfl) ?_
  refine lv_aload_n X.1 X.2.1 dX9_copyFrom_1 rfl (lv_at hl 1 rfl) ?_
  refine r_get (C := RX9) (T := TX9) (N := 20) (ci := 9) (v := .int (g1 0 0)) X iw9 hP 10 rfl rfl 0 rfl mw_1_102 rfl dX9_copyFrom_2 ?_
  obtain ⟨g0_1, eg0_1, h⟩ := nm_el h
  refine r_put (C := RX9) (T := TX9) (N := 20) (ci := 9) tyX9 tyX9_ok nmX9 X iw9 hP (hD _ _ _ _) hS 0 rfl rfl 0 rfl mw_1_102 rfl rfl rfl rfl dX9_copyFrom_5 (wSt tc a0 g0_1 q0_18 (a2 0) ++ (wSt tc a1 g1 q1_18 (a3 0) ++ (wLg tc a2 g2 ++ (wLg tc a3 g3)))) (by rw [eg0_1]; rfl) (fun H locs hP hS => ?_)
  refine lv_aload_n X.1 X.2.1 dX9_copyFrom_8 rfl (lv_at hl 1 rfl) ?_
  refine r_get (C := RX9) (T := TX9) (N := 20) (ci := 9) (v := .ref (a1 2)) X iw9 hP 10 rfl rfl 1 rfl mw_1_109 rfl dX9_copyFrom_9 ?_
  refine lv_iconst (v := 0) X.1 X.2.1 dX9_copyFrom_12 (by decide) ?_
  refine lv_aload_n X.1 X.2.1 dX9_copyFrom_13 rfl (lv_at hl 0 rfl) ?_
  refine r_get (C := RX9) (T := TX9) (N := 20) (ci := 9) (v := .ref (a0 2)) X iw9 hP 0 rfl rfl 1 rfl mw_1_109 rfl dX9_copyFrom_14 ?_
  refine lv_iconst (v := 0) X.1 X.2.1 dX9_copyFrom_17 (by decide) ?_
  refine lv_aload_n X.1 X.2.1 dX9_copyFrom_18 rfl (lv_at hl 0 rfl) ?_
  refine r_get (C := RX9) (T := TX9) (N := 20) (ci := 9) (v := .ref (a0 2)) X iw9 hP 0 rfl rfl 1 rfl mw_1_109 rfl dX9_copyFrom_19 ?_
  refine r_alen (v := 48) X hP 1 0 rfl rfl rfl dX9_copyFrom_22 ?_
  obtain ⟨g0_2, eg0_2, h⟩ := nm_el h
  refine r_copy (N := 48) (Ni := 48) X mw_3_83 mw_3_85 mw_3_84 mw_1_13 hl.1 ⟨by decide, by decide⟩ hP (hD _ _ _ _) hS 11 1 rfl rfl rfl rfl (Nat.le_of_ble_eq_true rfl) (Nat.le_of_ble_eq_true rfl) dX9_copyFrom_23 (wSt tc a0 g0_2 q0_18 (a2 0) ++ (wSt tc a1 g1 q1_18 (a3 0) ++ (wLg tc a2 g2 ++ (wLg tc a3 g3)))) (by rw [eg0_2]; rfl) (fun H locs hP hS => ?_)
  refine lv_aload_n X.1 X.2.1 dX9_copyFrom_26 rfl (lv_at hl 1 rfl) ?_
  refine r_get (C := RX9) (T := TX9) (N := 20) (ci := 9) (v := .ref (a1 3)) X iw9 hP 10 rfl rfl 2 rfl mw_1_113 rfl dX9_copyFrom_27 ?_
  refine lv_iconst (v := 0) X.1 X.2.1 dX9_copyFrom_30 (by decide) ?_
  refine lv_aload_n X.1 X.2.1 dX9_copyFrom_31 rfl (lv_at hl 0 rfl) ?_
  refine r_get (C := RX9) (T := TX9) (N := 20) (ci := 9) (v := .ref (a0 3)) X iw9 hP 0 rfl rfl 2 rfl mw_1_113 rfl dX9_copyFrom_32 ?_
  refine lv_iconst (v := 0) X.1 X.2.1 dX9_copyFrom_35 (by decide) ?_
  refine lv_aload_n X.1 X.2.1 dX9_copyFrom_36 rfl (lv_at hl 0 rfl) ?_
  refine r_get (C := RX9) (T := TX9) (N := 20) (ci := 9) (v := .ref (a0 3)) X iw9 hP 0 rfl rfl 2 rfl mw_1_113 rfl dX9_copyFrom_37 ?_
  refine r_alen (v := 8) X hP 2 0 rfl rfl rfl dX9_copyFrom_40 ?_
  obtain ⟨g0_3, eg0_3, h⟩ := nm_el h
  refine r_copy (N := 8) (Ni := 8) X mw_3_83 mw_3_85 mw_3_84 mw_1_13 hl.1 ⟨by decide, by decide⟩ hP (hD _ _ _ _) hS 12 2 rfl rfl rfl rfl (Nat.le_of_ble_eq_true rfl) (Nat.le_of_ble_eq_true rfl) dX9_copyFrom_41 (wSt tc a0 g0_3 q0_18 (a2 0) ++ (wSt tc a1 g1 q1_18 (a3 0) ++ (wLg tc a2 g2 ++ (wLg tc a3 g3)))) (by rw [eg0_3]; rfl) (fun H locs hP hS => ?_)
  refine lv_aload_n X.1 X.2.1 dX9_copyFrom_44 rfl (lv_at hl 1 rfl) ?_
  refine r_get (C := RX9) (T := TX9) (N := 20) (ci := 9) (v := .ref (a1 4)) X iw9 hP 10 rfl rfl 3 rfl mw_1_119 rfl dX9_copyFrom_45 ?_
  refine lv_iconst (v := 0) X.1 X.2.1 dX9_copyFrom_48 (by decide) ?_
  refine lv_aload_n X.1 X.2.1 dX9_copyFrom_49 rfl (lv_at hl 0 rfl) ?_
  refine r_get (C := RX9) (T := TX9) (N := 20) (ci := 9) (v := .ref (a0 4)) X iw9 hP 0 rfl rfl 3 rfl mw_1_119 rfl dX9_copyFrom_50 ?_
  refine lv_iconst (v := 0) X.1 X.2.1 dX9_copyFrom_53 (by decide) ?_
  refine lv_aload_n X.1 X.2.1 dX9_copyFrom_54 rfl (lv_at hl 0 rfl) ?_
  refine r_get (C := RX9) (T := TX9) (N := 20) (ci := 9) (v := .ref (a0 4)) X iw9 hP 0 rfl rfl 3 rfl mw_1_119 rfl dX9_copyFrom_55 ?_
  refine r_alen (v := 8) X hP 3 0 rfl rfl rfl dX9_copyFrom_58 ?_
  obtain ⟨g0_4, eg0_4, h⟩ := nm_el h
  refine r_copy (N := 8) (Ni := 8) X mw_3_83 mw_3_85 mw_3_84 mw_1_13 hl.1 ⟨by decide, by decide⟩ hP (hD _ _ _ _) hS 13 3 rfl rfl rfl rfl (Nat.le_of_ble_eq_true rfl) (Nat.le_of_ble_eq_true rfl) dX9_copyFrom_59 (wSt tc a0 g0_4 q0_18 (a2 0) ++ (wSt tc a1 g1 q1_18 (a3 0) ++ (wLg tc a2 g2 ++ (wLg tc a3 g3)))) (by rw [eg0_4]; rfl) (fun H locs hP hS => ?_)
  refine lv_aload_n X.1 X.2.1 dX9_copyFrom_62 rfl (lv_at hl 0 rfl) ?_
  refine lv_aload_n X.1 X.2.1 dX9_copyFrom_63 rfl (lv_at hl 1 rfl) ?_
  refine r_get (C := RX9) (T := TX9) (N := 20) (ci := 9) (v := .int (g1 4 0)) X iw9 hP 10 rfl rfl 4 rfl mw_1_126 rfl dX9_copyFrom_64 ?_
  obtain ⟨g0_5, eg0_5, h⟩ := nm_el h
  refine r_put (C := RX9) (T := TX9) (N := 20) (ci := 9) tyX9 tyX9_ok nmX9 X iw9 hP (hD _ _ _ _) hS 0 rfl rfl 4 rfl mw_1_126 rfl rfl rfl rfl dX9_copyFrom_67 (wSt tc a0 g0_5 q0_18 (a2 0) ++ (wSt tc a1 g1 q1_18 (a3 0) ++ (wLg tc a2 g2 ++ (wLg tc a3 g3)))) (by rw [eg0_5]; rfl) (fun H locs hP hS => ?_)
  refine lv_aload_n X.1 X.2.1 dX9_copyFrom_70 rfl (lv_at hl 1 rfl) ?_
  refine r_get (C := RX9) (T := TX9) (N := 20) (ci := 9) (v := .ref (a1 6)) X iw9 hP 10 rfl rfl 5 rfl mw_1_131 rfl dX9_copyFrom_71 ?_
  refine lv_iconst (v := 0) X.1 X.2.1 dX9_copyFrom_74 (by decide) ?_
  refine lv_aload_n X.1 X.2.1 dX9_copyFrom_75 rfl (lv_at hl 0 rfl) ?_
  refine r_get (C := RX9) (T := TX9) (N := 20) (ci := 9) (v := .ref (a0 6)) X iw9 hP 0 rfl rfl 5 rfl mw_1_131 rfl dX9_copyFrom_76 ?_
  refine lv_iconst (v := 0) X.1 X.2.1 dX9_copyFrom_79 (by decide) ?_
  refine lv_aload_n X.1 X.2.1 dX9_copyFrom_80 rfl (lv_at hl 0 rfl) ?_
  refine r_get (C := RX9) (T := TX9) (N := 20) (ci := 9) (v := .ref (a0 6)) X iw9 hP 0 rfl rfl 5 rfl mw_1_131 rfl dX9_copyFrom_81 ?_
  refine r_alen (v := 20) X hP 4 0 rfl rfl rfl dX9_copyFrom_84 ?_
  obtain ⟨g0_6, eg0_6, h⟩ := nm_el h
  refine r_copy (N := 20) (Ni := 20) X mw_3_83 mw_3_85 mw_3_84 mw_1_13 hl.1 ⟨by decide, by decide⟩ hP (hD _ _ _ _) hS 14 4 rfl rfl rfl rfl (Nat.le_of_ble_eq_true rfl) (Nat.le_of_ble_eq_true rfl) dX9_copyFrom_85 (wSt tc a0 g0_6 q0_18 (a2 0) ++ (wSt tc a1 g1 q1_18 (a3 0) ++ (wLg tc a2 g2 ++ (wLg tc a3 g3)))) (by rw [eg0_6]; rfl) (fun H locs hP hS => ?_)
  refine lv_aload_n X.1 X.2.1 dX9_copyFrom_88 rfl (lv_at hl 0 rfl) ?_
  refine lv_aload_n X.1 X.2.1 dX9_copyFrom_89 rfl (lv_at hl 1 rfl) ?_
  refine r_get (C := RX9) (T := TX9) (N := 20) (ci := 9) (v := .int (g1 6 0)) X iw9 hP 10 rfl rfl 6 rfl mw_1_138 rfl dX9_copyFrom_90 ?_
  obtain ⟨g0_7, eg0_7, h⟩ := nm_el h
  refine r_put (C := RX9) (T := TX9) (N := 20) (ci := 9) tyX9 tyX9_ok nmX9 X iw9 hP (hD _ _ _ _) hS 0 rfl rfl 6 rfl mw_1_138 rfl rfl rfl rfl dX9_copyFrom_93 (wSt tc a0 g0_7 q0_18 (a2 0) ++ (wSt tc a1 g1 q1_18 (a3 0) ++ (wLg tc a2 g2 ++ (wLg tc a3 g3)))) (by rw [eg0_7]; rfl) (fun H locs hP hS => ?_)
  refine lv_aload_n X.1 X.2.1 dX9_copyFrom_96 rfl (lv_at hl 0 rfl) ?_
  refine lv_aload_n X.1 X.2.1 dX9_copyFrom_97 rfl (lv_at hl 1 rfl) ?_
  refine r_get (C := RX9) (T := TX9) (N := 20) (ci := 9) (v := .int (g1 7 0)) X iw9 hP 10 rfl rfl 7 rfl mw_1_141 rfl dX9_copyFrom_98 ?_
  obtain ⟨g0_8, eg0_8, h⟩ := nm_el h
  refine r_put (C := RX9) (T := TX9) (N := 20) (ci := 9) tyX9 tyX9_ok nmX9 X iw9 hP (hD _ _ _ _) hS 0 rfl rfl 7 rfl mw_1_141 rfl rfl rfl rfl dX9_copyFrom_101 (wSt tc a0 g0_8 q0_18 (a2 0) ++ (wSt tc a1 g1 q1_18 (a3 0) ++ (wLg tc a2 g2 ++ (wLg tc a3 g3)))) (by rw [eg0_8]; rfl) (fun H locs hP hS => ?_)
  refine lv_aload_n X.1 X.2.1 dX9_copyFrom_104 rfl (lv_at hl 1 rfl) ?_
  refine r_get (C := RX9) (T := TX9) (N := 20) (ci := 9) (v := .ref (a1 9)) X iw9 hP 10 rfl rfl 8 rfl mw_1_147 rfl dX9_copyFrom_105 ?_
  refine lv_iconst (v := 0) X.1 X.2.1 dX9_copyFrom_108 (by decide) ?_
  refine lv_aload_n X.1 X.2.1 dX9_copyFrom_109 rfl (lv_at hl 0 rfl) ?_
  refine r_get (C := RX9) (T := TX9) (N := 20) (ci := 9) (v := .ref (a0 9)) X iw9 hP 0 rfl rfl 8 rfl mw_1_147 rfl dX9_copyFrom_110 ?_
  refine lv_iconst (v := 0) X.1 X.2.1 dX9_copyFrom_113 (by decide) ?_
  refine lv_aload_n X.1 X.2.1 dX9_copyFrom_114 rfl (lv_at hl 0 rfl) ?_
  refine r_get (C := RX9) (T := TX9) (N := 20) (ci := 9) (v := .ref (a0 9)) X iw9 hP 0 rfl rfl 8 rfl mw_1_147 rfl dX9_copyFrom_115 ?_
  refine r_alen (v := 5) X hP 5 0 rfl rfl rfl dX9_copyFrom_118 ?_
  obtain ⟨g0_9, eg0_9, h⟩ := nm_el h
  refine r_copy (N := 5) (Ni := 5) X mw_3_83 mw_3_85 mw_3_84 mw_1_13 hl.1 ⟨by decide, by decide⟩ hP (hD _ _ _ _) hS 15 5 rfl rfl rfl rfl (Nat.le_of_ble_eq_true rfl) (Nat.le_of_ble_eq_true rfl) dX9_copyFrom_119 (wSt tc a0 g0_9 q0_18 (a2 0) ++ (wSt tc a1 g1 q1_18 (a3 0) ++ (wLg tc a2 g2 ++ (wLg tc a3 g3)))) (by rw [eg0_9]; rfl) (fun H locs hP hS => ?_)
  refine lv_aload_n X.1 X.2.1 dX9_copyFrom_122 rfl (lv_at hl 1 rfl) ?_
  refine r_get (C := RX9) (T := TX9) (N := 20) (ci := 9) (v := .ref (a1 10)) X iw9 hP 10 rfl rfl 9 rfl mw_1_153 rfl dX9_copyFrom_123 ?_
  refine lv_iconst (v := 0) X.1 X.2.1 dX9_copyFrom_126 (by decide) ?_
  refine lv_aload_n X.1 X.2.1 dX9_copyFrom_127 rfl (lv_at hl 0 rfl) ?_
  refine r_get (C := RX9) (T := TX9) (N := 20) (ci := 9) (v := .ref (a0 10)) X iw9 hP 0 rfl rfl 9 rfl mw_1_153 rfl dX9_copyFrom_128 ?_
  refine lv_iconst (v := 0) X.1 X.2.1 dX9_copyFrom_131 (by decide) ?_
  refine lv_aload_n X.1 X.2.1 dX9_copyFrom_132 rfl (lv_at hl 0 rfl) ?_
  refine r_get (C := RX9) (T := TX9) (N := 20) (ci := 9) (v := .ref (a0 10)) X iw9 hP 0 rfl rfl 9 rfl mw_1_153 rfl dX9_copyFrom_133 ?_
  refine r_alen (v := 5) X hP 6 0 rfl rfl rfl dX9_copyFrom_136 ?_
  obtain ⟨g0_10, eg0_10, h⟩ := nm_el h
  refine r_copy (N := 5) (Ni := 5) X mw_3_83 mw_3_85 mw_3_84 mw_1_13 hl.1 ⟨by decide, by decide⟩ hP (hD _ _ _ _) hS 16 6 rfl rfl rfl rfl (Nat.le_of_ble_eq_true rfl) (Nat.le_of_ble_eq_true rfl) dX9_copyFrom_137 (wSt tc a0 g0_10 q0_18 (a2 0) ++ (wSt tc a1 g1 q1_18 (a3 0) ++ (wLg tc a2 g2 ++ (wLg tc a3 g3)))) (by rw [eg0_10]; rfl) (fun H locs hP hS => ?_)
  refine lv_aload_n X.1 X.2.1 dX9_copyFrom_140 rfl (lv_at hl 1 rfl) ?_
  refine r_get (C := RX9) (T := TX9) (N := 20) (ci := 9) (v := .ref (a1 11)) X iw9 hP 10 rfl rfl 10 rfl mw_1_158 rfl dX9_copyFrom_141 ?_
  refine lv_iconst (v := 0) X.1 X.2.1 dX9_copyFrom_144 (by decide) ?_
  refine lv_aload_n X.1 X.2.1 dX9_copyFrom_145 rfl (lv_at hl 0 rfl) ?_
  refine r_get (C := RX9) (T := TX9) (N := 20) (ci := 9) (v := .ref (a0 11)) X iw9 hP 0 rfl rfl 10 rfl mw_1_158 rfl dX9_copyFrom_146 ?_
  refine lv_iconst (v := 0) X.1 X.2.1 dX9_copyFrom_149 (by decide) ?_
  refine lv_aload_n X.1 X.2.1 dX9_copyFrom_150 rfl (lv_at hl 0 rfl) ?_
  refine r_get (C := RX9) (T := TX9) (N := 20) (ci := 9) (v := .ref (a0 11)) X iw9 hP 0 rfl rfl 10 rfl mw_1_158 rfl dX9_copyFrom_151 ?_
  refine r_alen (v := 5) X hP 7 0 rfl rfl rfl dX9_copyFrom_154 ?_
  obtain ⟨g0_11, eg0_11, h⟩ := nm_el h
  refine r_copy (N := 5) (Ni := 5) X mw_3_83 mw_3_85 mw_3_84 mw_1_13 hl.1 ⟨by decide, by decide⟩ hP (hD _ _ _ _) hS 17 7 rfl rfl rfl rfl (Nat.le_of_ble_eq_true rfl) (Nat.le_of_ble_eq_true rfl) dX9_copyFrom_155 (wSt tc a0 g0_11 q0_18 (a2 0) ++ (wSt tc a1 g1 q1_18 (a3 0) ++ (wLg tc a2 g2 ++ (wLg tc a3 g3)))) (by rw [eg0_11]; rfl) (fun H locs hP hS => ?_)
  refine lv_aload_n X.1 X.2.1 dX9_copyFrom_158 rfl (lv_at hl 1 rfl) ?_
  refine r_get (C := RX9) (T := TX9) (N := 20) (ci := 9) (v := .ref (a1 12)) X iw9 hP 10 rfl rfl 11 rfl mw_1_163 rfl dX9_copyFrom_159 ?_
  refine lv_iconst (v := 0) X.1 X.2.1 dX9_copyFrom_162 (by decide) ?_
  refine lv_aload_n X.1 X.2.1 dX9_copyFrom_163 rfl (lv_at hl 0 rfl) ?_
  refine r_get (C := RX9) (T := TX9) (N := 20) (ci := 9) (v := .ref (a0 12)) X iw9 hP 0 rfl rfl 11 rfl mw_1_163 rfl dX9_copyFrom_164 ?_
  refine lv_iconst (v := 0) X.1 X.2.1 dX9_copyFrom_167 (by decide) ?_
  refine lv_aload_n X.1 X.2.1 dX9_copyFrom_168 rfl (lv_at hl 0 rfl) ?_
  refine r_get (C := RX9) (T := TX9) (N := 20) (ci := 9) (v := .ref (a0 12)) X iw9 hP 0 rfl rfl 11 rfl mw_1_163 rfl dX9_copyFrom_169 ?_
  refine r_alen (v := 5) X hP 8 0 rfl rfl rfl dX9_copyFrom_172 ?_
  obtain ⟨g0_12, eg0_12, h⟩ := nm_el h
  refine r_copy (N := 5) (Ni := 5) X mw_3_83 mw_3_85 mw_3_84 mw_1_13 hl.1 ⟨by decide, by decide⟩ hP (hD _ _ _ _) hS 18 8 rfl rfl rfl rfl (Nat.le_of_ble_eq_true rfl) (Nat.le_of_ble_eq_true rfl) dX9_copyFrom_173 (wSt tc a0 g0_12 q0_18 (a2 0) ++ (wSt tc a1 g1 q1_18 (a3 0) ++ (wLg tc a2 g2 ++ (wLg tc a3 g3)))) (by rw [eg0_12]; rfl) (fun H locs hP hS => ?_)
  refine lv_aload_n X.1 X.2.1 dX9_copyFrom_176 rfl (lv_at hl 1 rfl) ?_
  refine r_get (C := RX9) (T := TX9) (N := 20) (ci := 9) (v := .ref (a1 13)) X iw9 hP 10 rfl rfl 12 rfl mw_1_168 rfl dX9_copyFrom_177 ?_
  refine lv_iconst (v := 0) X.1 X.2.1 dX9_copyFrom_180 (by decide) ?_
  refine lv_aload_n X.1 X.2.1 dX9_copyFrom_181 rfl (lv_at hl 0 rfl) ?_
  refine r_get (C := RX9) (T := TX9) (N := 20) (ci := 9) (v := .ref (a0 13)) X iw9 hP 0 rfl rfl 12 rfl mw_1_168 rfl dX9_copyFrom_182 ?_
  refine lv_iconst (v := 0) X.1 X.2.1 dX9_copyFrom_185 (by decide) ?_
  refine lv_aload_n X.1 X.2.1 dX9_copyFrom_186 rfl (lv_at hl 0 rfl) ?_
  refine r_get (C := RX9) (T := TX9) (N := 20) (ci := 9) (v := .ref (a0 13)) X iw9 hP 0 rfl rfl 12 rfl mw_1_168 rfl dX9_copyFrom_187 ?_
  refine r_alen (v := 100) X hP 9 0 rfl rfl rfl dX9_copyFrom_190 ?_
  obtain ⟨g0_13, eg0_13, h⟩ := nm_el h
  refine r_copy (N := 100) (Ni := 100) X mw_3_83 mw_3_85 mw_3_84 mw_1_13 hl.1 ⟨by decide, by decide⟩ hP (hD _ _ _ _) hS 19 9 rfl rfl rfl rfl (Nat.le_of_ble_eq_true rfl) (Nat.le_of_ble_eq_true rfl) dX9_copyFrom_191 (wSt tc a0 g0_13 q0_18 (a2 0) ++ (wSt tc a1 g1 q1_18 (a3 0) ++ (wLg tc a2 g2 ++ (wLg tc a3 g3)))) (by rw [eg0_13]; rfl) (fun H locs hP hS => ?_)
  refine lv_aload_n X.1 X.2.1 dX9_copyFrom_194 rfl (lv_at hl 0 rfl) ?_
  refine lv_aload_n X.1 X.2.1 dX9_copyFrom_195 rfl (lv_at hl 1 rfl) ?_
  refine r_get (C := RX9) (T := TX9) (N := 20) (ci := 9) (v := .int (g1 13 0)) X iw9 hP 10 rfl rfl 13 rfl mw_1_171 rfl dX9_copyFrom_196 ?_
  obtain ⟨g0_14, eg0_14, h⟩ := nm_el h
  refine r_put (C := RX9) (T := TX9) (N := 20) (ci := 9) tyX9 tyX9_ok nmX9 X iw9 hP (hD _ _ _ _) hS 0 rfl rfl 13 rfl mw_1_171 rfl rfl rfl rfl dX9_copyFrom_199 (wSt tc a0 g0_14 q0_18 (a2 0) ++ (wSt tc a1 g1 q1_18 (a3 0) ++ (wLg tc a2 g2 ++ (wLg tc a3 g3)))) (by rw [eg0_14]; rfl) (fun H locs hP hS => ?_)
  refine lv_aload_n X.1 X.2.1 dX9_copyFrom_202 rfl (lv_at hl 0 rfl) ?_
  refine lv_aload_n X.1 X.2.1 dX9_copyFrom_203 rfl (lv_at hl 1 rfl) ?_
  refine r_get (C := RX9) (T := TX9) (N := 20) (ci := 9) (v := .int (g1 14 0)) X iw9 hP 10 rfl rfl 14 rfl mw_1_176 rfl dX9_copyFrom_204 ?_
  obtain ⟨g0_15, eg0_15, h⟩ := nm_el h
  refine r_put (C := RX9) (T := TX9) (N := 20) (ci := 9) tyX9 tyX9_ok nmX9 X iw9 hP (hD _ _ _ _) hS 0 rfl rfl 14 rfl mw_1_176 rfl rfl rfl rfl dX9_copyFrom_207 (wSt tc a0 g0_15 q0_18 (a2 0) ++ (wSt tc a1 g1 q1_18 (a3 0) ++ (wLg tc a2 g2 ++ (wLg tc a3 g3)))) (by rw [eg0_15]; rfl) (fun H locs hP hS => ?_)
  refine lv_aload_n X.1 X.2.1 dX9_copyFrom_210 rfl (lv_at hl 0 rfl) ?_
  refine lv_aload_n X.1 X.2.1 dX9_copyFrom_211 rfl (lv_at hl 1 rfl) ?_
  refine r_get (C := RX9) (T := TX9) (N := 20) (ci := 9) (v := .int (g1 15 0)) X iw9 hP 10 rfl rfl 15 rfl mw_1_181 rfl dX9_copyFrom_212 ?_
  obtain ⟨g0_16, eg0_16, h⟩ := nm_el h
  refine r_put (C := RX9) (T := TX9) (N := 20) (ci := 9) tyX9 tyX9_ok nmX9 X iw9 hP (hD _ _ _ _) hS 0 rfl rfl 15 rfl mw_1_181 rfl rfl rfl rfl dX9_copyFrom_215 (wSt tc a0 g0_16 q0_18 (a2 0) ++ (wSt tc a1 g1 q1_18 (a3 0) ++ (wLg tc a2 g2 ++ (wLg tc a3 g3)))) (by rw [eg0_16]; rfl) (fun H locs hP hS => ?_)
  refine lv_aload_n X.1 X.2.1 dX9_copyFrom_218 rfl (lv_at hl 0 rfl) ?_
  refine lv_aload_n X.1 X.2.1 dX9_copyFrom_219 rfl (lv_at hl 1 rfl) ?_
  refine r_get (C := RX9) (T := TX9) (N := 20) (ci := 9) (v := .int (g1 16 0)) X iw9 hP 10 rfl rfl 16 rfl mw_1_184 rfl dX9_copyFrom_220 ?_
  obtain ⟨g0_17, eg0_17, h⟩ := nm_el h
  refine r_put (C := RX9) (T := TX9) (N := 20) (ci := 9) tyX9 tyX9_ok nmX9 X iw9 hP (hD _ _ _ _) hS 0 rfl rfl 16 rfl mw_1_184 rfl rfl rfl rfl dX9_copyFrom_223 (wSt tc a0 g0_17 q0_18 (a2 0) ++ (wSt tc a1 g1 q1_18 (a3 0) ++ (wLg tc a2 g2 ++ (wLg tc a3 g3)))) (by rw [eg0_17]; rfl) (fun H locs hP hS => ?_)
  refine lv_aload_n X.1 X.2.1 dX9_copyFrom_226 rfl (lv_at hl 0 rfl) ?_
  refine lv_aload_n X.1 X.2.1 dX9_copyFrom_227 rfl (lv_at hl 1 rfl) ?_
  refine r_get (C := RX9) (T := TX9) (N := 20) (ci := 9) (v := .int (g1 17 0)) X iw9 hP 10 rfl rfl 17 rfl mw_1_186 rfl dX9_copyFrom_228 ?_
  obtain ⟨g0_18, eg0_18, h⟩ := nm_el h
  refine r_put (C := RX9) (T := TX9) (N := 20) (ci := 9) tyX9 tyX9_ok nmX9 X iw9 hP (hD _ _ _ _) hS 0 rfl rfl 17 rfl mw_1_186 rfl rfl rfl rfl dX9_copyFrom_231 (wSt tc a0 g0_18 q0_18 (a2 0) ++ (wSt tc a1 g1 q1_18 (a3 0) ++ (wLg tc a2 g2 ++ (wLg tc a3 g3)))) (by rw [eg0_18]; rfl) (fun H locs hP hS => ?_)
  refine lv_aload_n X.1 X.2.1 dX9_copyFrom_234 rfl (lv_at hl 0 rfl) ?_
  refine lv_aload_n X.1 X.2.1 dX9_copyFrom_235 rfl (lv_at hl 1 rfl) ?_
  refine r_get (C := RX9) (T := TX9) (N := 20) (ci := 9) (v := va_rf q1_18) X iw9 hP 10 rfl rfl 18 rfl mw_1_188 rfl dX9_copyFrom_236 ?_
  refine r_put (C := RX9) (T := TX9) (N := 20) (ci := 9) tyX9 tyX9_ok nmX9 X iw9 hP (D_fst (ws := (wSt tc a0 g0 q0_18 (a2 0) ++ (wSt tc a1 g1 q1_18 (a3 0) ++ (wLg tc a2 g2 ++ (wLg tc a3 g3))))) rfl hD0) hS 0 rfl rfl 18 rfl mw_1_188 rfl (nq _ _).1 (nq _ _).2 rfl dX9_copyFrom_239 (wSt tc a0 g0_18 q1_18 (a2 0) ++ (wSt tc a1 g1 q1_18 (a3 0) ++ (wLg tc a2 g2 ++ (wLg tc a3 g3)))) rfl (fun H locs hP hS => ?_)
  refine lv_aload_n X.1 X.2.1 dX9_copyFrom_242 rfl (lv_at hl 0 rfl) ?_
  refine r_get (C := RX9) (T := TX9) (N := 20) (ci := 9) (v := .ref (a2 0)) X iw9 hP 0 rfl rfl 19 rfl mw_1_191 rfl dX9_copyFrom_243 ?_
  refine lv_aload_n X.1 X.2.1 dX9_copyFrom_246 rfl (lv_at hl 1 rfl) ?_
  refine r_get (C := RX9) (T := TX9) (N := 20) (ci := 9) (v := .ref (a3 0)) X iw9 hP 10 rfl rfl 19 rfl mw_1_191 rfl dX9_copyFrom_247 ?_
  obtain ⟨g2_19, hc_19, h⟩ := bd_el h
  refine call_Vsv (ws := (wSt tc a0 g0_18 q1_18 (a2 0) ++ (wSt tc a1 g1 q1_18 (a3 0) ++ (wLg tc a2 g2 ++ (wLg tc a3 g3))))) (ws' := (wSt tc a0 g0_18 q1_18 (a2 0) ++ (wSt tc a1 g1 q1_18 (a3 0) ++ (wLg tc a2 g2_19 ++ (wLg tc a3 g3))))) (wSt tc a0 g0_18 q1_18 (a2 0) ++ (wSt tc a1 g1 q1_18 (a3 0))) [] (As := [.ref (a3 0)]) (rest := []) X (c_X7_copyFrom l dC dI sk sv tc a2 a3 g2 g3 hc_19) mw_3_86 mw_3_87 mw_3_88 mw_1_4 mw_3_89 dc_X7_copyFrom ⟨Nat.le_of_ble_eq_true rfl, Nat.le_of_ble_eq_true rfl⟩ rfl rfl ⟨Nat.zero_le _, Nat.zero_le _⟩ (by simp only [List.append_assoc, List.nil_append, List.append_nil]) (by simp only [List.append_assoc, List.nil_append, List.append_nil]) hP (D_fst (ws := (wSt tc a0 g0 q0_18 (a2 0) ++ (wSt tc a1 g1 q1_18 (a3 0) ++ (wLg tc a2 g2 ++ (wLg tc a3 g3))))) rfl hD0) hS 0 rfl rfl rfl hl.1 (Nat.le_of_ble_eq_true rfl) dX9_copyFrom_250 (fun H locs hP hS => ?_)
  exact ret_v (fun u => (wSt tc a0 u.1 q1_18 (a2 0) ++ (wSt tc a1 g1 q1_18 (a3 0) ++ (wLg tc a2 u.2 ++ (wLg tc a3 g3))))) (res := (G0, G2)) (Option.some.inj h) X hQ hP hS dX9_copyFrom_253

def f_X9_letterAt (g0 : Pic) (x1 : Int32) (x2 : Int32) : Option (Int32) := jn (fun (s0_J29 : Int32) => some s0_J29) (fun J29 => jn (fun (_ : Unit) => J29 (-1)) (fun J14 => (if x2 < 0 then J14 () else gdi x1 8 ((if x2 < (g0 2 (x1.toNatClampNeg)) then gdi ((x1 * 6) + x2) 48 (J29 (g0 1 (((x1 * 6) + x2).toNatClampNeg))) else J14 ())))))
abbrev rm_X9_letterAt : Room := { frames := 0, cells := 0, slots := 0, locals := 0 }
set_option maxHeartbeats 4000000 in
set_option maxRecDepth 100000 in
theorem c_X9_letterAt (l : Launch) (dC : Nat → ClassId) (dI : Nat → Nat → Nat) (sk sv : Nat → Nat) (tc : Nat → ClassId) (a0 : Nat → Nat) (q0_18 : Option Nat) (q0_19 : Nat) (g0 : Pic) (x1 : Int32) (x2 : Int32) {r0 : Int32} (h : f_X9_letterAt g0 x1 x2 = some r0) : CT l (dC, dI) sk sv (TY tc) yX9_letterAt cX9_letterAt 3 (some .int) rm_X9_letterAt [.ref (a0 0), .int x1, .int x2] (wSt tc a0 g0 q0_18 q0_19) (some (.int r0)) (wSt tc a0 g0 q0_18 q0_19) := by
  refine ofCT (by decide) (Nat.le_of_ble_eq_true rfl) ?_
  intro pr e s m args below meth c A Q ls H locs X hQ hD0 hP hS hl
  have hD : ∀ z0, va_D A (wSt tc a0 z0 q0_18 q0_19) := fun z0 => D_fst (ws := (wSt tc a0 g0 q0_18 q0_19)) rfl hD0
  have hl : lv_has ls 3 [(0, .ref (a0 0)), (1, .int x1), (2, .int x2)] := hl
  unfold f_X9_letterAt at h
  refine lv_iload_n X.1 X.2.1 dX9_letterAt_0 rfl (lv_at hl 2 rfl) ?_
  obtain ⟨J29, eJ29, h⟩ := jn_el h
  have HJ29 : ∀ (s0_J29 : Int32) (H : Heap) (locs : List Loc) (ls : Array Slot), J29 s0_J29 = some r0 → va_P (dC, dI) vwCl (wSt tc a0 g0 q0_18 q0_19) H → va_S A s.heap H locs → lv_has ls 3 [] → W pr l e rm_X9_letterAt s m args below meth c H locs 0 0 Q (F0 m 29 ls [.int s0_J29]) := by
    intro s0_J29 H locs ls h hP hS hl
    rw [eJ29] at h
    exact ret_i0 (Option.some.inj h) X hQ hP hS dX9_letterAt_29
  obtain ⟨J14, eJ14, h⟩ := jn_el h
  have HJ14 : ∀ (_ : Unit) (H : Heap) (locs : List Loc) (ls : Array Slot), J14 () = some r0 → va_P (dC, dI) vwCl (wSt tc a0 g0 q0_18 q0_19) H → va_S A s.heap H locs → lv_has ls 3 [] → W pr l e rm_X9_letterAt s m args below meth c H locs 0 0 Q (F0 m 14 ls []) := by
    intro _ H locs ls h hP hS hl
    rw [eJ14] at h
    refine lv_iconst (v := (-1)) X.1 X.2.1 dX9_letterAt_14 (by decide) ?_
    refine lv_goto (tgt := 29) X.1 X.2.1 dX9_letterAt_15 (by decide) ?_
    exact HJ29 (-1) H locs ls h hP hS (lv_sub hl [] rfl)
  refine lv_if_lt (tgt := 14) X.1 X.2.1 dX9_letterAt_1 (by decide) (fun hc => ?_) (fun hc => ?_)
  · have h := it_t hc h
    exact HJ14 () H locs ls h hP hS (lv_sub hl [] rfl)
  · have h := it_f hc h
    refine lv_iload_n X.1 X.2.1 dX9_letterAt_4 rfl (lv_at hl 2 rfl) ?_
    refine lv_aload_n X.1 X.2.1 dX9_letterAt_5 rfl (lv_at hl 0 rfl) ?_
    refine r_get (C := RX9) (T := TX9) (N := 20) (ci := 9) (v := .ref (a0 3)) X iw9 hP 0 rfl rfl 2 rfl mw_1_113 rfl dX9_letterAt_6 ?_
    refine lv_iload_n X.1 X.2.1 dX9_letterAt_9 rfl (lv_at hl 1 rfl) ?_
    obtain ⟨hg_1, h⟩ := gdi_el h
    refine r_iald X hP 2 0 rfl rfl hg_1 rfl dX9_letterAt_10 ?_
    refine lv_icmp_lt (tgt := 18) X.1 X.2.1 dX9_letterAt_11 (by decide) (fun hc => ?_) (fun hc => ?_)
    · have h := it_t hc h
      refine lv_aload_n X.1 X.2.1 dX9_letterAt_18 rfl (lv_at hl 0 rfl) ?_
      refine r_get (C := RX9) (T := TX9) (N := 20) (ci := 9) (v := .ref (a0 2)) X iw9 hP 0 rfl rfl 1 rfl mw_1_109 rfl dX9_letterAt_19 ?_
      refine lv_iload_n X.1 X.2.1 dX9_letterAt_22 rfl (lv_at hl 1 rfl) ?_
      refine lv_bipush (v := 6) X.1 X.2.1 dX9_letterAt_23 (by decide) ?_
      refine lv_imul X.1 X.2.1 dX9_letterAt_25 ?_
      refine lv_iload_n X.1 X.2.1 dX9_letterAt_26 rfl (lv_at hl 2 rfl) ?_
      refine lv_iadd X.1 X.2.1 dX9_letterAt_27 ?_
      obtain ⟨hg_2, h⟩ := gdi_el h
      refine r_iald X hP 1 0 rfl rfl hg_2 rfl dX9_letterAt_28 ?_
      exact HJ29 (g0 1 (((x1 * 6) + x2).toNatClampNeg)) H locs ls h hP hS (lv_sub hl [] rfl)
    · have h := it_f hc h
      exact HJ14 () H locs ls h hP hS (lv_sub hl [] rfl)

def f_X9_strokesOf_L5 (x1 : Int32) (x2 : Int32) (g0 : Pic) (n : Nat) (a : Int32 × Int32) : Option (Int32) := lp (fun (rec : Int32 × Int32 → Option (Int32)) (a : Int32 × Int32) => match a with | (x3, x4) => gdi x1 8 ((if (g0 2 (x1.toNatClampNeg)) ≤ x4 then some x3 else gdi ((x1 * 6) + x4) 48 (jn (fun (x3_J38 : Int32) => nm (x4 + 1) (fun x4_3 => rec (x3_J38, x4_3))) (fun J38 => (if ((x2 >>> ((g0 1 (((x1 * 6) + x4).toNatClampNeg)) &&& 31)) &&& 1) = 0 then nm (x3 + 1) (fun x3_4 => J38 x3_4) else J38 x3)))))) n a
def f_X9_strokesOf (g0 : Pic) (x1 : Int32) (x2 : Int32) : Option (Int32) := bd (f_X9_strokesOf_L5 x1 x2 g0 fu (0, 0)) (fun x3_5 => some x3_5)
abbrev rm_X9_strokesOf : Room := { frames := 0, cells := 0, slots := 0, locals := 0 }
set_option maxHeartbeats 4000000 in
set_option maxRecDepth 100000 in
theorem c_X9_strokesOf (l : Launch) (dC : Nat → ClassId) (dI : Nat → Nat → Nat) (sk sv : Nat → Nat) (tc : Nat → ClassId) (a0 : Nat → Nat) (q0_18 : Option Nat) (q0_19 : Nat) (g0 : Pic) (x1 : Int32) (x2 : Int32) {r0 : Int32} (h : f_X9_strokesOf g0 x1 x2 = some r0) : CT l (dC, dI) sk sv (TY tc) yX9_strokesOf cX9_strokesOf 5 (some .int) rm_X9_strokesOf [.ref (a0 0), .int x1, .int x2] (wSt tc a0 g0 q0_18 q0_19) (some (.int r0)) (wSt tc a0 g0 q0_18 q0_19) := by
  refine ofCT (by decide) (Nat.le_of_ble_eq_true rfl) ?_
  intro pr e s m args below meth c A Q ls H locs X hQ hD0 hP hS hl
  have hD : ∀ z0, va_D A (wSt tc a0 z0 q0_18 q0_19) := fun z0 => D_fst (ws := (wSt tc a0 g0 q0_18 q0_19)) rfl hD0
  have hl : lv_has ls 5 [(0, .ref (a0 0)), (1, .int x1), (2, .int x2)] := hl
  have HL5 : ∀ (x1 : Int32) (x2 : Int32) (n : Nat) (x3 : Int32) (x4 : Int32) (ex : (Int32)), f_X9_strokesOf_L5 x1 x2 g0 n (x3, x4) = some ex → ∀ (H : Heap) (locs : List Loc) (ls : Array Slot), va_P (dC, dI) vwCl (wSt tc a0 g0 q0_18 q0_19) H → va_S A s.heap H locs → lv_has ls 5 [(0, .ref (a0 0)), (1, .int x1), (2, .int x2), (3, .int x3), (4, .int x4)] → (∀ (y3 : Int32), y3 = ex → ∀ (H : Heap) (locs : List Loc) (ls : Array Slot), va_P (dC, dI) vwCl (wSt tc a0 g0 q0_18 q0_19) H → va_S A s.heap H locs → lv_has ls 5 [(3, .int y3)] → W pr l e rm_X9_strokesOf s m args below meth c H locs 0 0 Q (F0 m 44 ls [])) → W pr l e rm_X9_strokesOf s m args below meth c H locs 0 0 Q (F0 m 5 ls []) := by
    intro x1 x2 n
    induction n with
    | zero => intro x3 x4 ex h; exact lp_z h
    | succ n ih =>
      intro x3 x4 ex h H locs ls hP hS hl K
      have h := lp_s h
      refine lv_iload X.1 X.2.1 dX9_strokesOf_5 (lv_at hl 4 rfl) ?_
      refine lv_aload_n X.1 X.2.1 dX9_strokesOf_7 rfl (lv_at hl 0 rfl) ?_
      refine r_get (C := RX9) (T := TX9) (N := 20) (ci := 9) (v := .ref (a0 3)) X iw9 hP 0 rfl rfl 2 rfl mw_1_113 rfl dX9_strokesOf_8 ?_
      refine lv_iload_n X.1 X.2.1 dX9_strokesOf_11 rfl (lv_at hl 1 rfl) ?_
      obtain ⟨hg_1, h⟩ := gdi_el h
      refine r_iald X hP 2 0 rfl rfl hg_1 rfl dX9_strokesOf_12 ?_
      refine lv_icmp_ge (tgt := 44) X.1 X.2.1 dX9_strokesOf_13 (by decide) (fun hc => ?_) (fun hc => ?_)
      · have h := it_t hc h
        exact K x3 (Option.some.inj h) H locs ls hP hS (lv_sub hl [3] rfl)
      · have h := it_f hc h
        refine lv_iload_n X.1 X.2.1 dX9_strokesOf_16 rfl (lv_at hl 2 rfl) ?_
        refine lv_aload_n X.1 X.2.1 dX9_strokesOf_17 rfl (lv_at hl 0 rfl) ?_
        refine r_get (C := RX9) (T := TX9) (N := 20) (ci := 9) (v := .ref (a0 2)) X iw9 hP 0 rfl rfl 1 rfl mw_1_109 rfl dX9_strokesOf_18 ?_
        refine lv_iload_n X.1 X.2.1 dX9_strokesOf_21 rfl (lv_at hl 1 rfl) ?_
        refine lv_bipush (v := 6) X.1 X.2.1 dX9_strokesOf_22 (by decide) ?_
        refine lv_imul X.1 X.2.1 dX9_strokesOf_24 ?_
        refine lv_iload X.1 X.2.1 dX9_strokesOf_25 (lv_at hl 4 rfl) ?_
        refine lv_iadd X.1 X.2.1 dX9_strokesOf_27 ?_
        obtain ⟨hg_2, h⟩ := gdi_el h
        refine r_iald X hP 1 0 rfl rfl hg_2 rfl dX9_strokesOf_28 ?_
        refine lv_ishr X.1 X.2.1 dX9_strokesOf_29 ?_
        refine lv_iconst (v := 1) X.1 X.2.1 dX9_strokesOf_30 (by decide) ?_
        refine lv_iand X.1 X.2.1 dX9_strokesOf_31 ?_
        obtain ⟨J38, eJ38, h⟩ := jn_el h
        have HJ38 : ∀ (x3_J38 : Int32) (H : Heap) (locs : List Loc) (ls : Array Slot), J38 x3_J38 = some ex → va_P (dC, dI) vwCl (wSt tc a0 g0 q0_18 q0_19) H → va_S A s.heap H locs → lv_has ls 5 [(0, .ref (a0 0)), (1, .int x1), (2, .int x2), (3, .int x3_J38), (4, .int x4)] → W pr l e rm_X9_strokesOf s m args below meth c H locs 0 0 Q (F0 m 38 ls []) := by
          intro x3_J38 H locs ls h hP hS hl
          rw [eJ38] at h
          obtain ⟨x4_3, ex4_3, h⟩ := nm_el h
          refine lv_iinc (v := x4_3) (lv' := [(4, .int x4_3), (0, .ref (a0 0)), (1, .int x1), (2, .int x2), (3, .int x3_J38)]) X.1 X.2.1 dX9_strokesOf_38 hl (k := 4) rfl (by rw [ex4_3]; rfl) (by decide) rfl (fun ls hl => ?_)
          refine lv_goto (tgt := 5) X.1 X.2.1 dX9_strokesOf_41 (by decide) ?_
          exact ih x3_J38 x4_3 ex h H locs ls hP hS (lv_sub hl [1, 2, 3, 4, 0] rfl) K
        refine lv_if_ne (tgt := 38) X.1 X.2.1 dX9_strokesOf_32 (by decide) (fun hc => ?_) (fun hc => ?_)
        · have h := it_f hc h
          exact HJ38 x3 H locs ls h hP hS (lv_sub hl [0, 1, 2, 3, 4] rfl)
        · have h := it_t hc h
          obtain ⟨x3_4, ex3_4, h⟩ := nm_el h
          refine lv_iinc (v := x3_4) (lv' := [(3, .int x3_4), (0, .ref (a0 0)), (1, .int x1), (2, .int x2), (4, .int x4)]) X.1 X.2.1 dX9_strokesOf_35 hl (k := 3) rfl (by rw [ex3_4]; rfl) (by decide) rfl (fun ls hl => ?_)
          exact HJ38 x3_4 H locs ls h hP hS (lv_sub hl [1, 2, 3, 0, 4] rfl)
  unfold f_X9_strokesOf at h
  refine lv_iconst (v := 0) X.1 X.2.1 dX9_strokesOf_0 (by decide) ?_
  refine lv_istore_n (lv' := [(3, .int 0), (0, .ref (a0 0)), (1, .int x1), (2, .int x2)]) X.1 X.2.1 dX9_strokesOf_1 rfl hl (by decide) rfl (fun ls hl => ?_)
  refine lv_iconst (v := 0) X.1 X.2.1 dX9_strokesOf_2 (by decide) ?_
  refine lv_istore (lv' := [(4, .int 0), (3, .int 0), (0, .ref (a0 0)), (1, .int x1), (2, .int x2)]) X.1 X.2.1 dX9_strokesOf_3 hl (by decide) rfl (fun ls hl => ?_)
  obtain ⟨ex_5, hL_5, h⟩ := bd_el h
  refine HL5 x1 x2 fu 0 0 ex_5 hL_5 H locs ls hP hS (lv_sub hl [2, 3, 4, 1, 0] rfl) (fun x3_5 he H locs ls hP hS hl => ?_)
  subst he
  refine lv_iload_n X.1 X.2.1 dX9_strokesOf_44 rfl (lv_at hl 0 rfl) ?_
  exact ret_i0 (Option.some.inj h) X hQ hP hS dX9_strokesOf_45

def f_X9_onPage (g0 : Pic) (x1 : Int32) (x2 : Int32) : Option (Int32) := gdi ((x1 * 20) + x2) 100 (some (g0 12 (((x1 * 20) + x2).toNatClampNeg)))
abbrev rm_X9_onPage : Room := { frames := 0, cells := 0, slots := 0, locals := 0 }
set_option maxHeartbeats 4000000 in
set_option maxRecDepth 100000 in
theorem c_X9_onPage (l : Launch) (dC : Nat → ClassId) (dI : Nat → Nat → Nat) (sk sv : Nat → Nat) (tc : Nat → ClassId) (a0 : Nat → Nat) (q0_18 : Option Nat) (q0_19 : Nat) (g0 : Pic) (x1 : Int32) (x2 : Int32) {r0 : Int32} (h : f_X9_onPage g0 x1 x2 = some r0) : CT l (dC, dI) sk sv (TY tc) yX9_onPage cX9_onPage 3 (some .int) rm_X9_onPage [.ref (a0 0), .int x1, .int x2] (wSt tc a0 g0 q0_18 q0_19) (some (.int r0)) (wSt tc a0 g0 q0_18 q0_19) := by
  refine ofCT (by decide) (Nat.le_of_ble_eq_true rfl) ?_
  intro pr e s m args below meth c A Q ls H locs X hQ hD0 hP hS hl
  have hD : ∀ z0, va_D A (wSt tc a0 z0 q0_18 q0_19) := fun z0 => D_fst (ws := (wSt tc a0 g0 q0_18 q0_19)) rfl hD0
  have hl : lv_has ls 3 [(0, .ref (a0 0)), (1, .int x1), (2, .int x2)] := hl
  unfold f_X9_onPage at h
  refine lv_aload_n X.1 X.2.1 dX9_onPage_0 rfl (lv_at hl 0 rfl) ?_
  refine r_get (C := RX9) (T := TX9) (N := 20) (ci := 9) (v := .ref (a0 13)) X iw9 hP 0 rfl rfl 12 rfl mw_1_168 rfl dX9_onPage_1 ?_
  refine lv_iload_n X.1 X.2.1 dX9_onPage_4 rfl (lv_at hl 1 rfl) ?_
  refine lv_bipush (v := 20) X.1 X.2.1 dX9_onPage_5 (by decide) ?_
  refine lv_imul X.1 X.2.1 dX9_onPage_7 ?_
  refine lv_iload_n X.1 X.2.1 dX9_onPage_8 rfl (lv_at hl 2 rfl) ?_
  refine lv_iadd X.1 X.2.1 dX9_onPage_9 ?_
  obtain ⟨hg_1, h⟩ := gdi_el h
  refine r_iald X hP 9 0 rfl rfl hg_1 rfl dX9_onPage_10 ?_
  exact ret_i0 (Option.some.inj h) X hQ hP hS dX9_onPage_11

def f_X9_onPageOf_L5 (x1 : Int32) (x2 : Int32) (g0 : Pic) (n : Nat) (a : Int32 × Int32) : Option (Int32) := lp (fun (rec : Int32 × Int32 → Option (Int32)) (a : Int32 × Int32) => match a with | (x3, x4) => (if (g0 6 0) ≤ x4 then some x3 else bd (f_X9_onPage g0 x1 x4) (fun r_1 => jn (fun (x3_J28 : Int32) => nm (x4 + 1) (fun x4_2 => rec (x3_J28, x4_2))) (fun J28 => (if r_1 = x2 then nm (x3 + 1) (fun x3_3 => J28 x3_3) else J28 x3))))) n a
def f_X9_onPageOf (g0 : Pic) (x1 : Int32) (x2 : Int32) : Option (Int32) := bd (f_X9_onPageOf_L5 x1 x2 g0 fu (0, 0)) (fun x3_4 => some x3_4)
abbrev rm_X9_onPageOf : Room := { frames := 1, cells := 0, slots := 0, locals := 22 }
set_option maxHeartbeats 4000000 in
set_option maxRecDepth 100000 in
theorem c_X9_onPageOf (l : Launch) (dC : Nat → ClassId) (dI : Nat → Nat → Nat) (sk sv : Nat → Nat) (tc : Nat → ClassId) (a0 : Nat → Nat) (q0_18 : Option Nat) (q0_19 : Nat) (g0 : Pic) (x1 : Int32) (x2 : Int32) {r0 : Int32} (h : f_X9_onPageOf g0 x1 x2 = some r0) : CT l (dC, dI) sk sv (TY tc) yX9_onPageOf cX9_onPageOf 5 (some .int) rm_X9_onPageOf [.ref (a0 0), .int x1, .int x2] (wSt tc a0 g0 q0_18 q0_19) (some (.int r0)) (wSt tc a0 g0 q0_18 q0_19) := by
  refine ofCT (by decide) (Nat.le_of_ble_eq_true rfl) ?_
  intro pr e s m args below meth c A Q ls H locs X hQ hD0 hP hS hl
  have hD : ∀ z0, va_D A (wSt tc a0 z0 q0_18 q0_19) := fun z0 => D_fst (ws := (wSt tc a0 g0 q0_18 q0_19)) rfl hD0
  have hl : lv_has ls 5 [(0, .ref (a0 0)), (1, .int x1), (2, .int x2)] := hl
  have HL5 : ∀ (x1 : Int32) (x2 : Int32) (n : Nat) (x3 : Int32) (x4 : Int32) (ex : (Int32)), f_X9_onPageOf_L5 x1 x2 g0 n (x3, x4) = some ex → ∀ (H : Heap) (locs : List Loc) (ls : Array Slot), va_P (dC, dI) vwCl (wSt tc a0 g0 q0_18 q0_19) H → va_S A s.heap H locs → lv_has ls 5 [(0, .ref (a0 0)), (1, .int x1), (2, .int x2), (3, .int x3), (4, .int x4)] → (∀ (y3 : Int32), y3 = ex → ∀ (H : Heap) (locs : List Loc) (ls : Array Slot), va_P (dC, dI) vwCl (wSt tc a0 g0 q0_18 q0_19) H → va_S A s.heap H locs → lv_has ls 5 [(3, .int y3)] → W pr l e rm_X9_onPageOf s m args below meth c H locs 0 0 Q (F0 m 34 ls [])) → W pr l e rm_X9_onPageOf s m args below meth c H locs 0 0 Q (F0 m 5 ls []) := by
    intro x1 x2 n
    induction n with
    | zero => intro x3 x4 ex h; exact lp_z h
    | succ n ih =>
      intro x3 x4 ex h H locs ls hP hS hl K
      have h := lp_s h
      refine lv_iload X.1 X.2.1 dX9_onPageOf_5 (lv_at hl 4 rfl) ?_
      refine lv_aload_n X.1 X.2.1 dX9_onPageOf_7 rfl (lv_at hl 0 rfl) ?_
      refine r_get (C := RX9) (T := TX9) (N := 20) (ci := 9) (v := .int (g0 6 0)) X iw9 hP 0 rfl rfl 6 rfl mw_1_138 rfl dX9_onPageOf_8 ?_
      refine lv_icmp_ge (tgt := 34) X.1 X.2.1 dX9_onPageOf_11 (by decide) (fun hc => ?_) (fun hc => ?_)
      · have h := it_t hc h
        exact K x3 (Option.some.inj h) H locs ls hP hS (lv_sub hl [3] rfl)
      · have h := it_f hc h
        refine lv_aload_n X.1 X.2.1 dX9_onPageOf_14 rfl (lv_at hl 0 rfl) ?_
        refine lv_iload_n X.1 X.2.1 dX9_onPageOf_15 rfl (lv_at hl 1 rfl) ?_
        refine lv_iload X.1 X.2.1 dX9_onPageOf_16 (lv_at hl 4 rfl) ?_
        obtain ⟨r_1, hc_1, h⟩ := bd_el h
        refine call_V1i (As := [.int x1, .int x4]) (rest := []) X (c_X9_onPage l dC dI sk sv tc a0 q0_18 q0_19 g0 x1 x4 hc_1) mw_5_88 mw_5_77 mw_5_78 mw_1_3 mw_5_79 dc_X9_onPage ⟨Nat.le_of_ble_eq_true rfl, Nat.le_of_ble_eq_true rfl⟩ rfl rfl ⟨Nat.zero_le _, Nat.zero_le _⟩ hP (hD _) hS 0 rfl rfl rfl hl.1 (Nat.le_of_ble_eq_true rfl) dX9_onPageOf_18 (fun H locs hP hS => ?_)
        refine lv_iload_n X.1 X.2.1 dX9_onPageOf_21 rfl (lv_at hl 2 rfl) ?_
        obtain ⟨J28, eJ28, h⟩ := jn_el h
        have HJ28 : ∀ (x3_J28 : Int32) (H : Heap) (locs : List Loc) (ls : Array Slot), J28 x3_J28 = some ex → va_P (dC, dI) vwCl (wSt tc a0 g0 q0_18 q0_19) H → va_S A s.heap H locs → lv_has ls 5 [(0, .ref (a0 0)), (1, .int x1), (2, .int x2), (3, .int x3_J28), (4, .int x4)] → W pr l e rm_X9_onPageOf s m args below meth c H locs 0 0 Q (F0 m 28 ls []) := by
          intro x3_J28 H locs ls h hP hS hl
          rw [eJ28] at h
          obtain ⟨x4_2, ex4_2, h⟩ := nm_el h
          refine lv_iinc (v := x4_2) (lv' := [(4, .int x4_2), (0, .ref (a0 0)), (1, .int x1), (2, .int x2), (3, .int x3_J28)]) X.1 X.2.1 dX9_onPageOf_28 hl (k := 4) rfl (by rw [ex4_2]; rfl) (by decide) rfl (fun ls hl => ?_)
          refine lv_goto (tgt := 5) X.1 X.2.1 dX9_onPageOf_31 (by decide) ?_
          exact ih x3_J28 x4_2 ex h H locs ls hP hS (lv_sub hl [1, 2, 3, 4, 0] rfl) K
        refine lv_icmp_ne (tgt := 28) X.1 X.2.1 dX9_onPageOf_22 (by decide) (fun hc => ?_) (fun hc => ?_)
        · have h := it_f hc h
          exact HJ28 x3 H locs ls h hP hS (lv_sub hl [0, 1, 2, 3, 4] rfl)
        · have h := it_t hc h
          obtain ⟨x3_3, ex3_3, h⟩ := nm_el h
          refine lv_iinc (v := x3_3) (lv' := [(3, .int x3_3), (0, .ref (a0 0)), (1, .int x1), (2, .int x2), (4, .int x4)]) X.1 X.2.1 dX9_onPageOf_25 hl (k := 3) rfl (by rw [ex3_3]; rfl) (by decide) rfl (fun ls hl => ?_)
          exact HJ28 x3_3 H locs ls h hP hS (lv_sub hl [1, 2, 3, 0, 4] rfl)
  unfold f_X9_onPageOf at h
  refine lv_iconst (v := 0) X.1 X.2.1 dX9_onPageOf_0 (by decide) ?_
  refine lv_istore_n (lv' := [(3, .int 0), (0, .ref (a0 0)), (1, .int x1), (2, .int x2)]) X.1 X.2.1 dX9_onPageOf_1 rfl hl (by decide) rfl (fun ls hl => ?_)
  refine lv_iconst (v := 0) X.1 X.2.1 dX9_onPageOf_2 (by decide) ?_
  refine lv_istore (lv' := [(4, .int 0), (3, .int 0), (0, .ref (a0 0)), (1, .int x1), (2, .int x2)]) X.1 X.2.1 dX9_onPageOf_3 hl (by decide) rfl (fun ls hl => ?_)
  obtain ⟨ex_4, hL_4, h⟩ := bd_el h
  refine HL5 x1 x2 fu 0 0 ex_4 hL_4 H locs ls hP hS (lv_sub hl [2, 3, 4, 1, 0] rfl) (fun x3_4 he H locs ls hP hS hl => ?_)
  subst he
  refine lv_iload_n X.1 X.2.1 dX9_onPageOf_34 rfl (lv_at hl 0 rfl) ?_
  exact ret_i0 (Option.some.inj h) X hQ hP hS dX9_onPageOf_35

def f_X9_onAllPages_L4 (x1 : Int32) (g0 : Pic) (n : Nat) (a : Int32 × Int32) : Option (Int32) := lp (fun (rec : Int32 × Int32 → Option (Int32)) (a : Int32 × Int32) => match a with | (x2, x3) => (if (g0 7 0) ≤ x3 then some x2 else bd (f_X9_onPageOf g0 x3 x1) (fun r_1 => nm ((x2 + r_1)) (fun x2_2 => nm (x3 + 1) (fun x3_3 => rec (x2_2, x3_3)))))) n a
def f_X9_onAllPages (g0 : Pic) (x1 : Int32) : Option (Int32) := bd (f_X9_onAllPages_L4 x1 g0 fu (0, 0)) (fun x2_4 => some x2_4)
abbrev rm_X9_onAllPages : Room := { frames := 2, cells := 0, slots := 0, locals := 46 }
set_option maxHeartbeats 4000000 in
set_option maxRecDepth 100000 in
theorem c_X9_onAllPages (l : Launch) (dC : Nat → ClassId) (dI : Nat → Nat → Nat) (sk sv : Nat → Nat) (tc : Nat → ClassId) (a0 : Nat → Nat) (q0_18 : Option Nat) (q0_19 : Nat) (g0 : Pic) (x1 : Int32) {r0 : Int32} (h : f_X9_onAllPages g0 x1 = some r0) : CT l (dC, dI) sk sv (TY tc) yX9_onAllPages cX9_onAllPages 4 (some .int) rm_X9_onAllPages [.ref (a0 0), .int x1] (wSt tc a0 g0 q0_18 q0_19) (some (.int r0)) (wSt tc a0 g0 q0_18 q0_19) := by
  refine ofCT (by decide) (Nat.le_of_ble_eq_true rfl) ?_
  intro pr e s m args below meth c A Q ls H locs X hQ hD0 hP hS hl
  have hD : ∀ z0, va_D A (wSt tc a0 z0 q0_18 q0_19) := fun z0 => D_fst (ws := (wSt tc a0 g0 q0_18 q0_19)) rfl hD0
  have hl : lv_has ls 4 [(0, .ref (a0 0)), (1, .int x1)] := hl
  have HL4 : ∀ (x1 : Int32) (n : Nat) (x2 : Int32) (x3 : Int32) (ex : (Int32)), f_X9_onAllPages_L4 x1 g0 n (x2, x3) = some ex → ∀ (H : Heap) (locs : List Loc) (ls : Array Slot), va_P (dC, dI) vwCl (wSt tc a0 g0 q0_18 q0_19) H → va_S A s.heap H locs → lv_has ls 4 [(0, .ref (a0 0)), (1, .int x1), (2, .int x2), (3, .int x3)] → (∀ (y2 : Int32), y2 = ex → ∀ (H : Heap) (locs : List Loc) (ls : Array Slot), va_P (dC, dI) vwCl (wSt tc a0 g0 q0_18 q0_19) H → va_S A s.heap H locs → lv_has ls 4 [(2, .int y2)] → W pr l e rm_X9_onAllPages s m args below meth c H locs 0 0 Q (F0 m 27 ls [])) → W pr l e rm_X9_onAllPages s m args below meth c H locs 0 0 Q (F0 m 4 ls []) := by
    intro x1 n
    induction n with
    | zero => intro x2 x3 ex h; exact lp_z h
    | succ n ih =>
      intro x2 x3 ex h H locs ls hP hS hl K
      have h := lp_s h
      refine lv_iload_n X.1 X.2.1 dX9_onAllPages_4 rfl (lv_at hl 3 rfl) ?_
      refine lv_aload_n X.1 X.2.1 dX9_onAllPages_5 rfl (lv_at hl 0 rfl) ?_
      refine r_get (C := RX9) (T := TX9) (N := 20) (ci := 9) (v := .int (g0 7 0)) X iw9 hP 0 rfl rfl 7 rfl mw_1_141 rfl dX9_onAllPages_6 ?_
      refine lv_icmp_ge (tgt := 27) X.1 X.2.1 dX9_onAllPages_9 (by decide) (fun hc => ?_) (fun hc => ?_)
      · have h := it_t hc h
        exact K x2 (Option.some.inj h) H locs ls hP hS (lv_sub hl [2] rfl)
      · have h := it_f hc h
        refine lv_iload_n X.1 X.2.1 dX9_onAllPages_12 rfl (lv_at hl 2 rfl) ?_
        refine lv_aload_n X.1 X.2.1 dX9_onAllPages_13 rfl (lv_at hl 0 rfl) ?_
        refine lv_iload_n X.1 X.2.1 dX9_onAllPages_14 rfl (lv_at hl 3 rfl) ?_
        refine lv_iload_n X.1 X.2.1 dX9_onAllPages_15 rfl (lv_at hl 1 rfl) ?_
        obtain ⟨r_1, hc_1, h⟩ := bd_el h
        refine call_V1i (As := [.int x3, .int x1]) (rest := [.int x2]) X (c_X9_onPageOf l dC dI sk sv tc a0 q0_18 q0_19 g0 x3 x1 hc_1) mw_5_102 mw_5_85 mw_5_86 mw_1_3 mw_5_87 dc_X9_onPageOf ⟨Nat.le_of_ble_eq_true rfl, Nat.le_of_ble_eq_true rfl⟩ rfl rfl ⟨Nat.zero_le _, Nat.zero_le _⟩ hP (hD _) hS 0 rfl rfl rfl hl.1 (Nat.le_of_ble_eq_true rfl) dX9_onAllPages_16 (fun H locs hP hS => ?_)
        refine lv_iadd X.1 X.2.1 dX9_onAllPages_19 ?_
        obtain ⟨x2_2, ex2_2, h⟩ := nm_el h
        refine tp_i ex2_2 ?_
        refine lv_istore_n (lv' := [(2, .int x2_2), (0, .ref (a0 0)), (1, .int x1), (3, .int x3)]) X.1 X.2.1 dX9_onAllPages_20 rfl hl (by decide) rfl (fun ls hl => ?_)
        obtain ⟨x3_3, ex3_3, h⟩ := nm_el h
        refine lv_iinc (v := x3_3) (lv' := [(3, .int x3_3), (2, .int x2_2), (0, .ref (a0 0)), (1, .int x1)]) X.1 X.2.1 dX9_onAllPages_21 hl (k := 3) rfl (by rw [ex3_3]; rfl) (by decide) rfl (fun ls hl => ?_)
        refine lv_goto (tgt := 4) X.1 X.2.1 dX9_onAllPages_24 (by decide) ?_
        exact ih x2_2 x3_3 ex h H locs ls hP hS (lv_sub hl [2, 3, 1, 0] rfl) K
  unfold f_X9_onAllPages at h
  refine lv_iconst (v := 0) X.1 X.2.1 dX9_onAllPages_0 (by decide) ?_
  refine lv_istore_n (lv' := [(2, .int 0), (0, .ref (a0 0)), (1, .int x1)]) X.1 X.2.1 dX9_onAllPages_1 rfl hl (by decide) rfl (fun ls hl => ?_)
  refine lv_iconst (v := 0) X.1 X.2.1 dX9_onAllPages_2 (by decide) ?_
  refine lv_istore_n (lv' := [(3, .int 0), (2, .int 0), (0, .ref (a0 0)), (1, .int x1)]) X.1 X.2.1 dX9_onAllPages_3 rfl hl (by decide) rfl (fun ls hl => ?_)
  obtain ⟨ex_4, hL_4, h⟩ := bd_el h
  refine HL4 x1 fu 0 0 ex_4 hL_4 H locs ls hP hS (lv_sub hl [2, 3, 1, 0] rfl) (fun x2_4 he H locs ls hP hS hl => ?_)
  subst he
  refine lv_iload_n X.1 X.2.1 dX9_onAllPages_27 rfl (lv_at hl 0 rfl) ?_
  exact ret_i0 (Option.some.inj h) X hQ hP hS dX9_onAllPages_28

def f_X9_tiredTogether_L4 (g0 : Pic) (n : Nat) (a : Int32 × Int32) : Option (Int32) := lp (fun (rec : Int32 × Int32 → Option (Int32)) (a : Int32 × Int32) => match a with | (x1, x2) => (if (g0 7 0) ≤ x2 then some x1 else gdi x2 5 (nm ((x1 + (g0 11 (x2.toNatClampNeg)))) (fun x1_2 => nm (x2 + 1) (fun x2_3 => rec (x1_2, x2_3)))))) n a
def f_X9_tiredTogether (g0 : Pic) : Option (Int32) := bd (f_X9_tiredTogether_L4 g0 fu (0, 0)) (fun x1_4 => some x1_4)
abbrev rm_X9_tiredTogether : Room := { frames := 0, cells := 0, slots := 0, locals := 0 }
set_option maxHeartbeats 4000000 in
set_option maxRecDepth 100000 in
theorem c_X9_tiredTogether (l : Launch) (dC : Nat → ClassId) (dI : Nat → Nat → Nat) (sk sv : Nat → Nat) (tc : Nat → ClassId) (a0 : Nat → Nat) (q0_18 : Option Nat) (q0_19 : Nat) (g0 : Pic) {r0 : Int32} (h : f_X9_tiredTogether g0 = some r0) : CT l (dC, dI) sk sv (TY tc) yX9_tiredTogether cX9_tiredTogether 3 (some .int) rm_X9_tiredTogether [.ref (a0 0)] (wSt tc a0 g0 q0_18 q0_19) (some (.int r0)) (wSt tc a0 g0 q0_18 q0_19) := by
  refine ofCT (by decide) (Nat.le_of_ble_eq_true rfl) ?_
  intro pr e s m args below meth c A Q ls H locs X hQ hD0 hP hS hl
  have hD : ∀ z0, va_D A (wSt tc a0 z0 q0_18 q0_19) := fun z0 => D_fst (ws := (wSt tc a0 g0 q0_18 q0_19)) rfl hD0
  have hl : lv_has ls 3 [(0, .ref (a0 0))] := hl
  have HL4 : ∀ (n : Nat) (x1 : Int32) (x2 : Int32) (ex : (Int32)), f_X9_tiredTogether_L4 g0 n (x1, x2) = some ex → ∀ (H : Heap) (locs : List Loc) (ls : Array Slot), va_P (dC, dI) vwCl (wSt tc a0 g0 q0_18 q0_19) H → va_S A s.heap H locs → lv_has ls 3 [(0, .ref (a0 0)), (1, .int x1), (2, .int x2)] → (∀ (y1 : Int32), y1 = ex → ∀ (H : Heap) (locs : List Loc) (ls : Array Slot), va_P (dC, dI) vwCl (wSt tc a0 g0 q0_18 q0_19) H → va_S A s.heap H locs → lv_has ls 3 [(1, .int y1)] → W pr l e rm_X9_tiredTogether s m args below meth c H locs 0 0 Q (F0 m 27 ls [])) → W pr l e rm_X9_tiredTogether s m args below meth c H locs 0 0 Q (F0 m 4 ls []) := by
    intro n
    induction n with
    | zero => intro x1 x2 ex h; exact lp_z h
    | succ n ih =>
      intro x1 x2 ex h H locs ls hP hS hl K
      have h := lp_s h
      refine lv_iload_n X.1 X.2.1 dX9_tiredTogether_4 rfl (lv_at hl 2 rfl) ?_
      refine lv_aload_n X.1 X.2.1 dX9_tiredTogether_5 rfl (lv_at hl 0 rfl) ?_
      refine r_get (C := RX9) (T := TX9) (N := 20) (ci := 9) (v := .int (g0 7 0)) X iw9 hP 0 rfl rfl 7 rfl mw_1_141 rfl dX9_tiredTogether_6 ?_
      refine lv_icmp_ge (tgt := 27) X.1 X.2.1 dX9_tiredTogether_9 (by decide) (fun hc => ?_) (fun hc => ?_)
      · have h := it_t hc h
        exact K x1 (Option.some.inj h) H locs ls hP hS (lv_sub hl [1] rfl)
      · have h := it_f hc h
        refine lv_iload_n X.1 X.2.1 dX9_tiredTogether_12 rfl (lv_at hl 1 rfl) ?_
        refine lv_aload_n X.1 X.2.1 dX9_tiredTogether_13 rfl (lv_at hl 0 rfl) ?_
        refine r_get (C := RX9) (T := TX9) (N := 20) (ci := 9) (v := .ref (a0 12)) X iw9 hP 0 rfl rfl 11 rfl mw_1_163 rfl dX9_tiredTogether_14 ?_
        refine lv_iload_n X.1 X.2.1 dX9_tiredTogether_17 rfl (lv_at hl 2 rfl) ?_
        obtain ⟨hg_1, h⟩ := gdi_el h
        refine r_iald X hP 8 0 rfl rfl hg_1 rfl dX9_tiredTogether_18 ?_
        refine lv_iadd X.1 X.2.1 dX9_tiredTogether_19 ?_
        obtain ⟨x1_2, ex1_2, h⟩ := nm_el h
        refine tp_i ex1_2 ?_
        refine lv_istore_n (lv' := [(1, .int x1_2), (0, .ref (a0 0)), (2, .int x2)]) X.1 X.2.1 dX9_tiredTogether_20 rfl hl (by decide) rfl (fun ls hl => ?_)
        obtain ⟨x2_3, ex2_3, h⟩ := nm_el h
        refine lv_iinc (v := x2_3) (lv' := [(2, .int x2_3), (1, .int x1_2), (0, .ref (a0 0))]) X.1 X.2.1 dX9_tiredTogether_21 hl (k := 2) rfl (by rw [ex2_3]; rfl) (by decide) rfl (fun ls hl => ?_)
        refine lv_goto (tgt := 4) X.1 X.2.1 dX9_tiredTogether_24 (by decide) ?_
        exact ih x1_2 x2_3 ex h H locs ls hP hS (lv_sub hl [2, 1, 0] rfl) K
  unfold f_X9_tiredTogether at h
  refine lv_iconst (v := 0) X.1 X.2.1 dX9_tiredTogether_0 (by decide) ?_
  refine lv_istore_n (lv' := [(1, .int 0), (0, .ref (a0 0))]) X.1 X.2.1 dX9_tiredTogether_1 rfl hl (by decide) rfl (fun ls hl => ?_)
  refine lv_iconst (v := 0) X.1 X.2.1 dX9_tiredTogether_2 (by decide) ?_
  refine lv_istore_n (lv' := [(2, .int 0), (1, .int 0), (0, .ref (a0 0))]) X.1 X.2.1 dX9_tiredTogether_3 rfl hl (by decide) rfl (fun ls hl => ?_)
  obtain ⟨ex_4, hL_4, h⟩ := bd_el h
  refine HL4  fu 0 0 ex_4 hL_4 H locs ls hP hS (lv_sub hl [2, 1, 0] rfl) (fun x1_4 he H locs ls hP hS hl => ?_)
  subst he
  refine lv_iload_n X.1 X.2.1 dX9_tiredTogether_27 rfl (lv_at hl 0 rfl) ?_
  exact ret_i0 (Option.some.inj h) X hQ hP hS dX9_tiredTogether_28

def f_X9_draw (g0 : Pic) : Option (Int32 × Pic) := nm (pu g0 16 0 ((1103515245 * (g0 16 0)) + 12345)) (fun g0_1 => some (((((g0_1 16 0).toUInt32 >>> ((16 : Int32).toUInt32 &&& Int32.toUInt32 31)).toInt32) &&& 32767), g0_1))
abbrev rm_X9_draw : Room := { frames := 0, cells := 0, slots := 0, locals := 0 }
set_option maxHeartbeats 4000000 in
set_option maxRecDepth 100000 in
theorem c_X9_draw (l : Launch) (dC : Nat → ClassId) (dI : Nat → Nat → Nat) (sk sv : Nat → Nat) (tc : Nat → ClassId) (a0 : Nat → Nat) (q0_18 : Option Nat) (q0_19 : Nat) (g0 : Pic) {r0 : Int32} {G0 : Pic} (h : f_X9_draw g0 = some (r0, G0)) : CT l (dC, dI) sk sv (TY tc) yX9_draw cX9_draw 1 (some .int) rm_X9_draw [.ref (a0 0)] (wSt tc a0 g0 q0_18 q0_19) (some (.int r0)) (wSt tc a0 G0 q0_18 q0_19) := by
  refine ofCT (by decide) (Nat.le_of_ble_eq_true rfl) ?_
  intro pr e s m args below meth c A Q ls H locs X hQ hD0 hP hS hl
  have hD : ∀ z0, va_D A (wSt tc a0 z0 q0_18 q0_19) := fun z0 => D_fst (ws := (wSt tc a0 g0 q0_18 q0_19)) rfl hD0
  have hl : lv_has ls 1 [(0, .ref (a0 0))] := hl
  unfold f_X9_draw at h
  refine lv_aload_n X.1 X.2.1 dX9_draw_0 rfl (lv_at hl 0 rfl) ?_
  refine lv_ldc (v := 1103515245) X.1 X.2.1 X.2.2.2.2.1 (X.2.2.2.2.2.1 _ (List.mem_cons_of_mem _ mw_5_222)) dX9_draw_1 ?_
  refine lv_aload_n X.1 X.2.1 dX9_draw_3 rfl (lv_at hl 0 rfl) ?_
  refine r_get (C := RX9) (T := TX9) (N := 20) (ci := 9) (v := .int (g0 16 0)) X iw9 hP 0 rfl rfl 16 rfl mw_1_184 rfl dX9_draw_4 ?_
  refine lv_imul X.1 X.2.1 dX9_draw_7 ?_
  refine lv_sipush (v := 12345) X.1 X.2.1 dX9_draw_8 (by decide) ?_
  refine lv_iadd X.1 X.2.1 dX9_draw_11 ?_
  obtain ⟨g0_1, eg0_1, h⟩ := nm_el h
  refine r_put (C := RX9) (T := TX9) (N := 20) (ci := 9) tyX9 tyX9_ok nmX9 X iw9 hP (hD _) hS 0 rfl rfl 16 rfl mw_1_184 rfl rfl rfl rfl dX9_draw_12 (wSt tc a0 g0_1 q0_18 q0_19) (by rw [eg0_1]; rfl) (fun H locs hP hS => ?_)
  refine lv_aload_n X.1 X.2.1 dX9_draw_15 rfl (lv_at hl 0 rfl) ?_
  refine r_get (C := RX9) (T := TX9) (N := 20) (ci := 9) (v := .int (g0_1 16 0)) X iw9 hP 0 rfl rfl 16 rfl mw_1_184 rfl dX9_draw_16 ?_
  refine lv_bipush (v := 16) X.1 X.2.1 dX9_draw_19 (by decide) ?_
  refine lv_iushr X.1 X.2.1 dX9_draw_21 rfl ?_
  refine lv_sipush (v := 32767) X.1 X.2.1 dX9_draw_22 (by decide) ?_
  refine lv_iand X.1 X.2.1 dX9_draw_25 ?_
  exact ret_i (fun u => (wSt tc a0 u q0_18 q0_19)) (res := (r0, G0)) (Option.some.inj h) X hQ hP hS dX9_draw_26

def f_X3_take_L51 (x2 : Int32) (x3 : Int32) (g0 : Pic) (g1 : Pic) (n : Nat) (a : Int32 × Int32 × Int32) : Option (Int32 × Int32) := lp (fun (rec : Int32 × Int32 × Int32 → Option (Int32 × Int32)) (a : Int32 × Int32 × Int32) => match a with | (x4, x5, x6) => gdi x3 8 ((if (g0 2 (x3.toNatClampNeg)) ≤ x6 then some (x4, x5) else gdi ((x3 * 6) + x6) 48 (nm ((g1 1 (((x3 * 6) + x6).toNatClampNeg))) (fun x7_10 => jn (fun (x4_J99 : Int32) (x5_J99 : Int32) => nm (x6 + 1) (fun x6_11 => rec (x4_J99, x5_J99, x6_11))) (fun J99 => (if ((x2 >>> (x7_10 &&& 31)) &&& 1) = 0 then nm (((x4 <<< (4 &&& 31)) ||| (x7_10 + 1))) (fun x4_12 => nm (x5 + 1) (fun x5_13 => J99 x4_12 x5_13)) else J99 x4 x5))))))) n a
def f_X3_take_L10 (x2 : Int32) (g1 : Pic) (n : Nat) (a : Int32 × Pic) : Option (Pic) := lp (fun (rec : Int32 × Pic → Option (Pic)) (a : Int32 × Pic) => match a with | (x3, g0) => (if (g0 4 0) ≤ x3 then some g0 else gdi x3 8 (gdi x3 8 (nm (pu g0 2 (x3.toNatClampNeg) (g1 2 (x3.toNatClampNeg))) (fun g0_4 => gdi x3 8 (gdi x3 8 (nm (pu g0_4 3 (x3.toNatClampNeg) (g1 3 (x3.toNatClampNeg))) (fun g0_7 => bd (f_X3_take_L51 x2 x3 g0_7 g1 fu (0, 0, 0)) (fun (x4_14, x5_14) => gdi x3 8 (nm (pu g0_7 0 (x3.toNatClampNeg) x4_14) (fun g0_16 => gdi x3 8 (nm (pu g0_16 1 (x3.toNatClampNeg) x5_14) (fun g0_18 => nm (x3 + 1) (fun x3_19 => rec (x3_19, g0_18))))))))))))))) n a
def f_X3_take (g0 : Pic) (g1 : Pic) (x2 : Int32) : Option (Pic) := nm (pu g0 4 0 (g1 0 0)) (fun g0_1 => bd (f_X3_take_L10 x2 g1 fu (0, g0_1)) (fun g0_20 => some g0_20))
abbrev rm_X3_take : Room := { frames := 0, cells := 0, slots := 0, locals := 0 }
set_option maxHeartbeats 4000000 in
set_option maxRecDepth 100000 in
theorem c_X3_take (l : Launch) (dC : Nat → ClassId) (dI : Nat → Nat → Nat) (sk sv : Nat → Nat) (tc : Nat → ClassId) (a0 : Nat → Nat) (a1 : Nat → Nat) (q1_18 : Option Nat) (q1_19 : Nat) (g0 : Pic) (g1 : Pic) (x2 : Int32) {G0 : Pic} (h : f_X3_take g0 g1 x2 = some G0) : CT l (dC, dI) sk sv (TY tc) yX3_take cX3_take 8 none rm_X3_take [.ref (a0 0), .ref (a1 0), .int x2] (wHd tc a0 g0 ++ (wSt tc a1 g1 q1_18 q1_19)) none (wHd tc a0 G0 ++ (wSt tc a1 g1 q1_18 q1_19)) := by
  refine ofCT (by decide) (Nat.le_of_ble_eq_true rfl) ?_
  intro pr e s m args below meth c A Q ls H locs X hQ hD0 hP hS hl
  have hD : ∀ z0 z1, va_D A (wHd tc a0 z0 ++ (wSt tc a1 z1 q1_18 q1_19)) := fun z0 z1 => D_fst (ws := (wHd tc a0 g0 ++ (wSt tc a1 g1 q1_18 q1_19))) rfl hD0
  have hl : lv_has ls 8 [(0, .ref (a0 0)), (1, .ref (a1 0)), (2, .int x2)] := hl
  have HL51 : ∀ (x2 : Int32) (x3 : Int32) (g0 : Pic) (n : Nat) (x4 : Int32) (x5 : Int32) (x6 : Int32) (ex : (Int32 × Int32)), f_X3_take_L51 x2 x3 g0 g1 n (x4, x5, x6) = some ex → ∀ (H : Heap) (locs : List Loc) (ls : Array Slot), va_P (dC, dI) vwCl (wHd tc a0 g0 ++ (wSt tc a1 g1 q1_18 q1_19)) H → va_S A s.heap H locs → lv_has ls 8 [(0, .ref (a0 0)), (1, .ref (a1 0)), (2, .int x2), (3, .int x3), (4, .int x4), (5, .int x5), (6, .int x6)] → (∀ (y4 : Int32) (y5 : Int32), (y4, y5) = ex → ∀ (H : Heap) (locs : List Loc) (ls : Array Slot), va_P (dC, dI) vwCl (wHd tc a0 g0 ++ (wSt tc a1 g1 q1_18 q1_19)) H → va_S A s.heap H locs → lv_has ls 8 [(0, .ref (a0 0)), (1, .ref (a1 0)), (2, .int x2), (3, .int x3), (4, .int y4), (5, .int y5)] → W pr l e rm_X3_take s m args below meth c H locs 0 0 Q (F0 m 105 ls [])) → W pr l e rm_X3_take s m args below meth c H locs 0 0 Q (F0 m 51 ls []) := by
    intro x2 x3 g0 n
    induction n with
    | zero => intro x4 x5 x6 ex h; exact lp_z h
    | succ n ih =>
      intro x4 x5 x6 ex h H locs ls hP hS hl K
      have h := lp_s h
      refine lv_iload X.1 X.2.1 dX3_take_51 (lv_at hl 6 rfl) ?_
      refine lv_aload_n X.1 X.2.1 dX3_take_53 rfl (lv_at hl 0 rfl) ?_
      refine r_get (C := RX3) (T := TX3) (N := 5) (ci := 3) (v := .ref (a0 3)) X iw3 hP 0 rfl rfl 2 rfl mw_2_46 rfl dX3_take_54 ?_
      refine lv_iload_n X.1 X.2.1 dX3_take_57 rfl (lv_at hl 3 rfl) ?_
      obtain ⟨hg_8, h⟩ := gdi_el h
      refine r_iald X hP 3 0 rfl rfl hg_8 rfl dX3_take_58 ?_
      refine lv_icmp_ge (tgt := 105) X.1 X.2.1 dX3_take_59 (by decide) (fun hc => ?_) (fun hc => ?_)
      · have h := it_t hc h
        exact K x4 x5 (Option.some.inj h) H locs ls hP hS (lv_sub hl [0, 1, 2, 3, 4, 5] rfl)
      · have h := it_f hc h
        refine lv_aload_n X.1 X.2.1 dX3_take_62 rfl (lv_at hl 1 rfl) ?_
        refine r_get (C := RX9) (T := TX9) (N := 20) (ci := 9) (v := .ref (a1 2)) X iw9 hP 5 rfl rfl 1 rfl mw_1_110 rfl dX3_take_63 ?_
        refine lv_iload_n X.1 X.2.1 dX3_take_66 rfl (lv_at hl 3 rfl) ?_
        refine lv_bipush (v := 6) X.1 X.2.1 dX3_take_67 (by decide) ?_
        refine lv_imul X.1 X.2.1 dX3_take_69 ?_
        refine lv_iload X.1 X.2.1 dX3_take_70 (lv_at hl 6 rfl) ?_
        refine lv_iadd X.1 X.2.1 dX3_take_72 ?_
        obtain ⟨hg_9, h⟩ := gdi_el h
        refine r_iald X hP 6 0 rfl rfl hg_9 rfl dX3_take_73 ?_
        obtain ⟨x7_10, ex7_10, h⟩ := nm_el h
        refine tp_i ex7_10 ?_
        refine lv_istore (lv' := [(7, .int x7_10), (0, .ref (a0 0)), (1, .ref (a1 0)), (2, .int x2), (3, .int x3), (4, .int x4), (5, .int x5), (6, .int x6)]) X.1 X.2.1 dX3_take_74 hl (by decide) rfl (fun ls hl => ?_)
        refine lv_iload_n X.1 X.2.1 dX3_take_76 rfl (lv_at hl 3 rfl) ?_
        refine lv_iload X.1 X.2.1 dX3_take_77 (lv_at hl 0 rfl) ?_
        refine lv_ishr X.1 X.2.1 dX3_take_79 ?_
        refine lv_iconst (v := 1) X.1 X.2.1 dX3_take_80 (by decide) ?_
        refine lv_iand X.1 X.2.1 dX3_take_81 ?_
        obtain ⟨J99, eJ99, h⟩ := jn_el h
        have HJ99 : ∀ (x4_J99 : Int32) (x5_J99 : Int32) (H : Heap) (locs : List Loc) (ls : Array Slot), J99 x4_J99 x5_J99 = some ex → va_P (dC, dI) vwCl (wHd tc a0 g0 ++ (wSt tc a1 g1 q1_18 q1_19)) H → va_S A s.heap H locs → lv_has ls 8 [(0, .ref (a0 0)), (1, .ref (a1 0)), (2, .int x2), (3, .int x3), (4, .int x4_J99), (5, .int x5_J99), (6, .int x6)] → W pr l e rm_X3_take s m args below meth c H locs 0 0 Q (F0 m 99 ls []) := by
          intro x4_J99 x5_J99 H locs ls h hP hS hl
          rw [eJ99] at h
          obtain ⟨x6_11, ex6_11, h⟩ := nm_el h
          refine lv_iinc (v := x6_11) (lv' := [(6, .int x6_11), (0, .ref (a0 0)), (1, .ref (a1 0)), (2, .int x2), (3, .int x3), (4, .int x4_J99), (5, .int x5_J99)]) X.1 X.2.1 dX3_take_99 hl (k := 6) rfl (by rw [ex6_11]; rfl) (by decide) rfl (fun ls hl => ?_)
          refine lv_goto (tgt := 51) X.1 X.2.1 dX3_take_102 (by decide) ?_
          exact ih x4_J99 x5_J99 x6_11 ex h H locs ls hP hS (lv_sub hl [1, 2, 3, 4, 5, 6, 0] rfl) K
        refine lv_if_ne (tgt := 99) X.1 X.2.1 dX3_take_82 (by decide) (fun hc => ?_) (fun hc => ?_)
        · have h := it_f hc h
          exact HJ99 x4 x5 H locs ls h hP hS (lv_sub hl [1, 2, 3, 4, 5, 6, 7] rfl)
        · have h := it_t hc h
          refine lv_iload X.1 X.2.1 dX3_take_85 (lv_at hl 5 rfl) ?_
          refine lv_iconst (v := 4) X.1 X.2.1 dX3_take_87 (by decide) ?_
          refine lv_ishl X.1 X.2.1 dX3_take_88 ?_
          refine lv_iload X.1 X.2.1 dX3_take_89 (lv_at hl 0 rfl) ?_
          refine lv_iconst (v := 1) X.1 X.2.1 dX3_take_91 (by decide) ?_
          refine lv_iadd X.1 X.2.1 dX3_take_92 ?_
          refine lv_ior X.1 X.2.1 dX3_take_93 ?_
          obtain ⟨x4_12, ex4_12, h⟩ := nm_el h
          refine tp_i ex4_12 ?_
          refine lv_istore (lv' := [(4, .int x4_12), (7, .int x7_10), (0, .ref (a0 0)), (1, .ref (a1 0)), (2, .int x2), (3, .int x3), (5, .int x5), (6, .int x6)]) X.1 X.2.1 dX3_take_94 hl (by decide) rfl (fun ls hl => ?_)
          obtain ⟨x5_13, ex5_13, h⟩ := nm_el h
          refine lv_iinc (v := x5_13) (lv' := [(5, .int x5_13), (4, .int x4_12), (7, .int x7_10), (0, .ref (a0 0)), (1, .ref (a1 0)), (2, .int x2), (3, .int x3), (6, .int x6)]) X.1 X.2.1 dX3_take_96 hl (k := 6) rfl (by rw [ex5_13]; rfl) (by decide) rfl (fun ls hl => ?_)
          exact HJ99 x4_12 x5_13 H locs ls h hP hS (lv_sub hl [3, 4, 5, 6, 1, 0, 7] rfl)
  have HL10 : ∀ (x2 : Int32) (n : Nat) (x3 : Int32) (g0 : Pic) (ex : (Pic)), f_X3_take_L10 x2 g1 n (x3, g0) = some ex → ∀ (H : Heap) (locs : List Loc) (ls : Array Slot), va_P (dC, dI) vwCl (wHd tc a0 g0 ++ (wSt tc a1 g1 q1_18 q1_19)) H → va_S A s.heap H locs → lv_has ls 8 [(0, .ref (a0 0)), (1, .ref (a1 0)), (2, .int x2), (3, .int x3)] → (∀ (k0 : Pic), k0 = ex → ∀ (H : Heap) (locs : List Loc) (ls : Array Slot), va_P (dC, dI) vwCl (wHd tc a0 k0 ++ (wSt tc a1 g1 q1_18 q1_19)) H → va_S A s.heap H locs → lv_has ls 8 [] → W pr l e rm_X3_take s m args below meth c H locs 0 0 Q (F0 m 127 ls [])) → W pr l e rm_X3_take s m args below meth c H locs 0 0 Q (F0 m 10 ls []) := by
    intro x2 n
    induction n with
    | zero => intro x3 g0 ex h; exact lp_z h
    | succ n ih =>
      intro x3 g0 ex h H locs ls hP hS hl K
      have h := lp_s h
      refine lv_iload_n X.1 X.2.1 dX3_take_10 rfl (lv_at hl 3 rfl) ?_
      refine lv_aload_n X.1 X.2.1 dX3_take_11 rfl (lv_at hl 0 rfl) ?_
      refine r_get (C := RX3) (T := TX3) (N := 5) (ci := 3) (v := .int (g0 4 0)) X iw3 hP 0 rfl rfl 4 rfl mw_2_48 rfl dX3_take_12 ?_
      refine lv_icmp_ge (tgt := 127) X.1 X.2.1 dX3_take_15 (by decide) (fun hc => ?_) (fun hc => ?_)
      · have h := it_t hc h
        exact K g0 (Option.some.inj h) H locs ls hP hS (lv_sub hl [] rfl)
      · have h := it_f hc h
        refine lv_aload_n X.1 X.2.1 dX3_take_18 rfl (lv_at hl 0 rfl) ?_
        refine r_get (C := RX3) (T := TX3) (N := 5) (ci := 3) (v := .ref (a0 3)) X iw3 hP 0 rfl rfl 2 rfl mw_2_46 rfl dX3_take_19 ?_
        refine lv_iload_n X.1 X.2.1 dX3_take_22 rfl (lv_at hl 3 rfl) ?_
        refine lv_aload_n X.1 X.2.1 dX3_take_23 rfl (lv_at hl 1 rfl) ?_
        refine r_get (C := RX9) (T := TX9) (N := 20) (ci := 9) (v := .ref (a1 3)) X iw9 hP 5 rfl rfl 2 rfl mw_1_115 rfl dX3_take_24 ?_
        refine lv_iload_n X.1 X.2.1 dX3_take_27 rfl (lv_at hl 3 rfl) ?_
        obtain ⟨hg_2, h⟩ := gdi_el h
        refine r_iald X hP 7 0 rfl rfl hg_2 rfl dX3_take_28 ?_
        obtain ⟨hg_3, h⟩ := gdi_el h
        obtain ⟨g0_4, eg0_4, h⟩ := nm_el h
        refine r_iast X hP (hD _ _) hS 3 0 rfl rfl hg_3 rfl dX3_take_29 (wHd tc a0 g0_4 ++ (wSt tc a1 g1 q1_18 q1_19)) (by rw [eg0_4]; rfl) (fun H locs hP hS => ?_)
        refine lv_aload_n X.1 X.2.1 dX3_take_30 rfl (lv_at hl 0 rfl) ?_
        refine r_get (C := RX3) (T := TX3) (N := 5) (ci := 3) (v := .ref (a0 4)) X iw3 hP 0 rfl rfl 3 rfl mw_2_47 rfl dX3_take_31 ?_
        refine lv_iload_n X.1 X.2.1 dX3_take_34 rfl (lv_at hl 3 rfl) ?_
        refine lv_aload_n X.1 X.2.1 dX3_take_35 rfl (lv_at hl 1 rfl) ?_
        refine r_get (C := RX9) (T := TX9) (N := 20) (ci := 9) (v := .ref (a1 4)) X iw9 hP 5 rfl rfl 3 rfl mw_1_120 rfl dX3_take_36 ?_
        refine lv_iload_n X.1 X.2.1 dX3_take_39 rfl (lv_at hl 3 rfl) ?_
        obtain ⟨hg_5, h⟩ := gdi_el h
        refine r_iald X hP 8 0 rfl rfl hg_5 rfl dX3_take_40 ?_
        obtain ⟨hg_6, h⟩ := gdi_el h
        obtain ⟨g0_7, eg0_7, h⟩ := nm_el h
        refine r_iast X hP (hD _ _) hS 4 0 rfl rfl hg_6 rfl dX3_take_41 (wHd tc a0 g0_7 ++ (wSt tc a1 g1 q1_18 q1_19)) (by rw [eg0_7]; rfl) (fun H locs hP hS => ?_)
        refine lv_iconst (v := 0) X.1 X.2.1 dX3_take_42 (by decide) ?_
        refine lv_istore (lv' := [(4, .int 0), (0, .ref (a0 0)), (1, .ref (a1 0)), (2, .int x2), (3, .int x3)]) X.1 X.2.1 dX3_take_43 hl (by decide) rfl (fun ls hl => ?_)
        refine lv_iconst (v := 0) X.1 X.2.1 dX3_take_45 (by decide) ?_
        refine lv_istore (lv' := [(5, .int 0), (4, .int 0), (0, .ref (a0 0)), (1, .ref (a1 0)), (2, .int x2), (3, .int x3)]) X.1 X.2.1 dX3_take_46 hl (by decide) rfl (fun ls hl => ?_)
        refine lv_iconst (v := 0) X.1 X.2.1 dX3_take_48 (by decide) ?_
        refine lv_istore (lv' := [(6, .int 0), (5, .int 0), (4, .int 0), (0, .ref (a0 0)), (1, .ref (a1 0)), (2, .int x2), (3, .int x3)]) X.1 X.2.1 dX3_take_49 hl (by decide) rfl (fun ls hl => ?_)
        obtain ⟨ex_14, hL_14, h⟩ := bd_el h
        refine HL51 x2 x3 g0_7 fu 0 0 0 ex_14 hL_14 H locs ls hP hS (lv_sub hl [3, 4, 5, 6, 2, 1, 0] rfl) (fun x4_14 x5_14 he H locs ls hP hS hl => ?_)
        subst he
        refine lv_aload_n X.1 X.2.1 dX3_take_105 rfl (lv_at hl 0 rfl) ?_
        refine r_get (C := RX3) (T := TX3) (N := 5) (ci := 3) (v := .ref (a0 1)) X iw3 hP 0 rfl rfl 0 rfl mw_2_42 rfl dX3_take_106 ?_
        refine lv_iload_n X.1 X.2.1 dX3_take_109 rfl (lv_at hl 3 rfl) ?_
        refine lv_iload X.1 X.2.1 dX3_take_110 (lv_at hl 4 rfl) ?_
        obtain ⟨hg_15, h⟩ := gdi_el h
        obtain ⟨g0_16, eg0_16, h⟩ := nm_el h
        refine r_iast X hP (hD _ _) hS 1 0 rfl rfl hg_15 rfl dX3_take_112 (wHd tc a0 g0_16 ++ (wSt tc a1 g1 q1_18 q1_19)) (by rw [eg0_16]; rfl) (fun H locs hP hS => ?_)
        refine lv_aload_n X.1 X.2.1 dX3_take_113 rfl (lv_at hl 0 rfl) ?_
        refine r_get (C := RX3) (T := TX3) (N := 5) (ci := 3) (v := .ref (a0 2)) X iw3 hP 0 rfl rfl 1 rfl mw_2_43 rfl dX3_take_114 ?_
        refine lv_iload_n X.1 X.2.1 dX3_take_117 rfl (lv_at hl 3 rfl) ?_
        refine lv_iload X.1 X.2.1 dX3_take_118 (lv_at hl 5 rfl) ?_
        obtain ⟨hg_17, h⟩ := gdi_el h
        obtain ⟨g0_18, eg0_18, h⟩ := nm_el h
        refine r_iast X hP (hD _ _) hS 2 0 rfl rfl hg_17 rfl dX3_take_120 (wHd tc a0 g0_18 ++ (wSt tc a1 g1 q1_18 q1_19)) (by rw [eg0_18]; rfl) (fun H locs hP hS => ?_)
        obtain ⟨x3_19, ex3_19, h⟩ := nm_el h
        refine lv_iinc (v := x3_19) (lv' := [(3, .int x3_19), (0, .ref (a0 0)), (1, .ref (a1 0)), (2, .int x2), (4, .int x4_14), (5, .int x5_14)]) X.1 X.2.1 dX3_take_121 hl (k := 3) rfl (by rw [ex3_19]; rfl) (by decide) rfl (fun ls hl => ?_)
        refine lv_goto (tgt := 10) X.1 X.2.1 dX3_take_124 (by decide) ?_
        exact ih x3_19 g0_18 ex h H locs ls hP hS (lv_sub hl [1, 2, 3, 0] rfl) K
  unfold f_X3_take at h
  refine lv_aload_n X.1 X.2.1 dX3_take_0 rfl (lv_at hl 0 rfl) ?_
  refine lv_aload_n X.1 X.2.1 dX3_take_1 rfl (lv_at hl 1 rfl) ?_
  refine r_get (C := RX9) (T := TX9) (N := 20) (ci := 9) (v := .int (g1 0 0)) X iw9 hP 5 rfl rfl 0 rfl mw_1_103 rfl dX3_take_2 ?_
  obtain ⟨g0_1, eg0_1, h⟩ := nm_el h
  refine r_put (C := RX3) (T := TX3) (N := 5) (ci := 3) tyX3 tyX3_ok nmX3 X iw3 hP (hD _ _) hS 0 rfl rfl 4 rfl mw_2_48 rfl rfl rfl rfl dX3_take_5 (wHd tc a0 g0_1 ++ (wSt tc a1 g1 q1_18 q1_19)) (by rw [eg0_1]; rfl) (fun H locs hP hS => ?_)
  refine lv_iconst (v := 0) X.1 X.2.1 dX3_take_8 (by decide) ?_
  refine lv_istore_n (lv' := [(3, .int 0), (0, .ref (a0 0)), (1, .ref (a1 0)), (2, .int x2)]) X.1 X.2.1 dX3_take_9 rfl hl (by decide) rfl (fun ls hl => ?_)
  obtain ⟨ex_20, hL_20, h⟩ := bd_el h
  refine HL10 x2 fu 0 g0_1 ex_20 hL_20 H locs ls hP hS (lv_sub hl [1, 2, 3, 0] rfl) (fun g0_20 he H locs ls hP hS hl => ?_)
  subst he
  exact ret_v (fun u => (wHd tc a0 u ++ (wSt tc a1 g1 q1_18 q1_19))) (res := G0) (Option.some.inj h) X hQ hP hS dX3_take_127

def f_X3_alikeTo_L4 (x1 : Int32) (g0 : Pic) (n : Nat) (a : Int32 × Int32) : Option (Int32) := lp (fun (rec : Int32 × Int32 → Option (Int32)) (a : Int32 × Int32) => match a with | (x2, x3) => (if (g0 4 0) ≤ x3 then some x2 else gdi x3 8 (gdi x1 8 (jn (fun (x2_J33 : Int32) => nm (x3 + 1) (fun x3_3 => rec (x2_J33, x3_3))) (fun J33 => (if (g0 0 (x3.toNatClampNeg)) = (g0 0 (x1.toNatClampNeg)) then nm ((x2 ||| ((1 : Int32) <<< (x3 &&& 31)))) (fun x2_4 => J33 x2_4) else J33 x2)))))) n a
def f_X3_alikeTo (g0 : Pic) (x1 : Int32) : Option (Int32) := bd (f_X3_alikeTo_L4 x1 g0 fu (0, 0)) (fun x2_5 => some x2_5)
abbrev rm_X3_alikeTo : Room := { frames := 0, cells := 0, slots := 0, locals := 0 }
set_option maxHeartbeats 4000000 in
set_option maxRecDepth 100000 in
theorem c_X3_alikeTo (l : Launch) (dC : Nat → ClassId) (dI : Nat → Nat → Nat) (sk sv : Nat → Nat) (tc : Nat → ClassId) (a0 : Nat → Nat) (g0 : Pic) (x1 : Int32) {r0 : Int32} (h : f_X3_alikeTo g0 x1 = some r0) : CT l (dC, dI) sk sv (TY tc) yX3_alikeTo cX3_alikeTo 4 (some .int) rm_X3_alikeTo [.ref (a0 0), .int x1] (wHd tc a0 g0) (some (.int r0)) (wHd tc a0 g0) := by
  refine ofCT (by decide) (Nat.le_of_ble_eq_true rfl) ?_
  intro pr e s m args below meth c A Q ls H locs X hQ hD0 hP hS hl
  have hD : ∀ z0, va_D A (wHd tc a0 z0) := fun z0 => D_fst (ws := (wHd tc a0 g0)) rfl hD0
  have hl : lv_has ls 4 [(0, .ref (a0 0)), (1, .int x1)] := hl
  have HL4 : ∀ (x1 : Int32) (n : Nat) (x2 : Int32) (x3 : Int32) (ex : (Int32)), f_X3_alikeTo_L4 x1 g0 n (x2, x3) = some ex → ∀ (H : Heap) (locs : List Loc) (ls : Array Slot), va_P (dC, dI) vwCl (wHd tc a0 g0) H → va_S A s.heap H locs → lv_has ls 4 [(0, .ref (a0 0)), (1, .int x1), (2, .int x2), (3, .int x3)] → (∀ (y2 : Int32), y2 = ex → ∀ (H : Heap) (locs : List Loc) (ls : Array Slot), va_P (dC, dI) vwCl (wHd tc a0 g0) H → va_S A s.heap H locs → lv_has ls 4 [(2, .int y2)] → W pr l e rm_X3_alikeTo s m args below meth c H locs 0 0 Q (F0 m 39 ls [])) → W pr l e rm_X3_alikeTo s m args below meth c H locs 0 0 Q (F0 m 4 ls []) := by
    intro x1 n
    induction n with
    | zero => intro x2 x3 ex h; exact lp_z h
    | succ n ih =>
      intro x2 x3 ex h H locs ls hP hS hl K
      have h := lp_s h
      refine lv_iload_n X.1 X.2.1 dX3_alikeTo_4 rfl (lv_at hl 3 rfl) ?_
      refine lv_aload_n X.1 X.2.1 dX3_alikeTo_5 rfl (lv_at hl 0 rfl) ?_
      refine r_get (C := RX3) (T := TX3) (N := 5) (ci := 3) (v := .int (g0 4 0)) X iw3 hP 0 rfl rfl 4 rfl mw_2_48 rfl dX3_alikeTo_6 ?_
      refine lv_icmp_ge (tgt := 39) X.1 X.2.1 dX3_alikeTo_9 (by decide) (fun hc => ?_) (fun hc => ?_)
      · have h := it_t hc h
        exact K x2 (Option.some.inj h) H locs ls hP hS (lv_sub hl [2] rfl)
      · have h := it_f hc h
        refine lv_aload_n X.1 X.2.1 dX3_alikeTo_12 rfl (lv_at hl 0 rfl) ?_
        refine r_get (C := RX3) (T := TX3) (N := 5) (ci := 3) (v := .ref (a0 1)) X iw3 hP 0 rfl rfl 0 rfl mw_2_42 rfl dX3_alikeTo_13 ?_
        refine lv_iload_n X.1 X.2.1 dX3_alikeTo_16 rfl (lv_at hl 3 rfl) ?_
        obtain ⟨hg_1, h⟩ := gdi_el h
        refine r_iald X hP 1 0 rfl rfl hg_1 rfl dX3_alikeTo_17 ?_
        refine lv_aload_n X.1 X.2.1 dX3_alikeTo_18 rfl (lv_at hl 0 rfl) ?_
        refine r_get (C := RX3) (T := TX3) (N := 5) (ci := 3) (v := .ref (a0 1)) X iw3 hP 0 rfl rfl 0 rfl mw_2_42 rfl dX3_alikeTo_19 ?_
        refine lv_iload_n X.1 X.2.1 dX3_alikeTo_22 rfl (lv_at hl 1 rfl) ?_
        obtain ⟨hg_2, h⟩ := gdi_el h
        refine r_iald X hP 1 0 rfl rfl hg_2 rfl dX3_alikeTo_23 ?_
        obtain ⟨J33, eJ33, h⟩ := jn_el h
        have HJ33 : ∀ (x2_J33 : Int32) (H : Heap) (locs : List Loc) (ls : Array Slot), J33 x2_J33 = some ex → va_P (dC, dI) vwCl (wHd tc a0 g0) H → va_S A s.heap H locs → lv_has ls 4 [(0, .ref (a0 0)), (1, .int x1), (2, .int x2_J33), (3, .int x3)] → W pr l e rm_X3_alikeTo s m args below meth c H locs 0 0 Q (F0 m 33 ls []) := by
          intro x2_J33 H locs ls h hP hS hl
          rw [eJ33] at h
          obtain ⟨x3_3, ex3_3, h⟩ := nm_el h
          refine lv_iinc (v := x3_3) (lv' := [(3, .int x3_3), (0, .ref (a0 0)), (1, .int x1), (2, .int x2_J33)]) X.1 X.2.1 dX3_alikeTo_33 hl (k := 3) rfl (by rw [ex3_3]; rfl) (by decide) rfl (fun ls hl => ?_)
          refine lv_goto (tgt := 4) X.1 X.2.1 dX3_alikeTo_36 (by decide) ?_
          exact ih x2_J33 x3_3 ex h H locs ls hP hS (lv_sub hl [1, 2, 3, 0] rfl) K
        refine lv_icmp_ne (tgt := 33) X.1 X.2.1 dX3_alikeTo_24 (by decide) (fun hc => ?_) (fun hc => ?_)
        · have h := it_f hc h
          exact HJ33 x2 H locs ls h hP hS (lv_sub hl [0, 1, 2, 3] rfl)
        · have h := it_t hc h
          refine lv_iload_n X.1 X.2.1 dX3_alikeTo_27 rfl (lv_at hl 2 rfl) ?_
          refine lv_iconst (v := 1) X.1 X.2.1 dX3_alikeTo_28 (by decide) ?_
          refine lv_iload_n X.1 X.2.1 dX3_alikeTo_29 rfl (lv_at hl 3 rfl) ?_
          refine lv_ishl X.1 X.2.1 dX3_alikeTo_30 ?_
          refine lv_ior X.1 X.2.1 dX3_alikeTo_31 ?_
          obtain ⟨x2_4, ex2_4, h⟩ := nm_el h
          refine tp_i ex2_4 ?_
          refine lv_istore_n (lv' := [(2, .int x2_4), (0, .ref (a0 0)), (1, .int x1), (3, .int x3)]) X.1 X.2.1 dX3_alikeTo_32 rfl hl (by decide) rfl (fun ls hl => ?_)
          exact HJ33 x2_4 H locs ls h hP hS (lv_sub hl [1, 2, 0, 3] rfl)
  unfold f_X3_alikeTo at h
  refine lv_iconst (v := 0) X.1 X.2.1 dX3_alikeTo_0 (by decide) ?_
  refine lv_istore_n (lv' := [(2, .int 0), (0, .ref (a0 0)), (1, .int x1)]) X.1 X.2.1 dX3_alikeTo_1 rfl hl (by decide) rfl (fun ls hl => ?_)
  refine lv_iconst (v := 0) X.1 X.2.1 dX3_alikeTo_2 (by decide) ?_
  refine lv_istore_n (lv' := [(3, .int 0), (2, .int 0), (0, .ref (a0 0)), (1, .int x1)]) X.1 X.2.1 dX3_alikeTo_3 rfl hl (by decide) rfl (fun ls hl => ?_)
  obtain ⟨ex_5, hL_5, h⟩ := bd_el h
  refine HL4 x1 fu 0 0 ex_5 hL_5 H locs ls hP hS (lv_sub hl [2, 3, 1, 0] rfl) (fun x2_5 he H locs ls hP hS hl => ?_)
  subst he
  refine lv_iload_n X.1 X.2.1 dX3_alikeTo_39 rfl (lv_at hl 0 rfl) ?_
  exact ret_i0 (Option.some.inj h) X hQ hP hS dX3_alikeTo_40

def f_X3_readAs_L4 (x1 : Int32) (g0 : Pic) (n : Nat) (a : Int32 × Int32) : Option (Int32) := lp (fun (rec : Int32 × Int32 → Option (Int32)) (a : Int32 × Int32) => match a with | (x2, x3) => (if (g0 4 0) ≤ x3 then some x2 else gdi x3 8 (gdi x1 8 (jn (fun (x2_J49 : Int32) => nm (x3 + 1) (fun x3_3 => rec (x2_J49, x3_3))) (fun J49 => (if (g0 0 (x3.toNatClampNeg)) = (g0 0 (x1.toNatClampNeg)) then jn (fun (_ : Unit) => J49 x3) (fun J47 => (if x2 = (-1) then J47 () else gdi x3 8 (gdi x2 8 ((if (g0 3 (x3.toNatClampNeg)) ≤ (g0 3 (x2.toNatClampNeg)) then J49 x2 else J47 ()))))) else J49 x2)))))) n a
def f_X3_readAs (g0 : Pic) (x1 : Int32) : Option (Int32) := bd (f_X3_readAs_L4 x1 g0 fu ((-1), 0)) (fun x2_6 => some x2_6)
abbrev rm_X3_readAs : Room := { frames := 0, cells := 0, slots := 0, locals := 0 }
set_option maxHeartbeats 4000000 in
set_option maxRecDepth 100000 in
theorem c_X3_readAs (l : Launch) (dC : Nat → ClassId) (dI : Nat → Nat → Nat) (sk sv : Nat → Nat) (tc : Nat → ClassId) (a0 : Nat → Nat) (g0 : Pic) (x1 : Int32) {r0 : Int32} (h : f_X3_readAs g0 x1 = some r0) : CT l (dC, dI) sk sv (TY tc) yX3_readAs cX3_readAs 4 (some .int) rm_X3_readAs [.ref (a0 0), .int x1] (wHd tc a0 g0) (some (.int r0)) (wHd tc a0 g0) := by
  refine ofCT (by decide) (Nat.le_of_ble_eq_true rfl) ?_
  intro pr e s m args below meth c A Q ls H locs X hQ hD0 hP hS hl
  have hD : ∀ z0, va_D A (wHd tc a0 z0) := fun z0 => D_fst (ws := (wHd tc a0 g0)) rfl hD0
  have hl : lv_has ls 4 [(0, .ref (a0 0)), (1, .int x1)] := hl
  have HL4 : ∀ (x1 : Int32) (n : Nat) (x2 : Int32) (x3 : Int32) (ex : (Int32)), f_X3_readAs_L4 x1 g0 n (x2, x3) = some ex → ∀ (H : Heap) (locs : List Loc) (ls : Array Slot), va_P (dC, dI) vwCl (wHd tc a0 g0) H → va_S A s.heap H locs → lv_has ls 4 [(0, .ref (a0 0)), (1, .int x1), (2, .int x2), (3, .int x3)] → (∀ (y2 : Int32), y2 = ex → ∀ (H : Heap) (locs : List Loc) (ls : Array Slot), va_P (dC, dI) vwCl (wHd tc a0 g0) H → va_S A s.heap H locs → lv_has ls 4 [(2, .int y2)] → W pr l e rm_X3_readAs s m args below meth c H locs 0 0 Q (F0 m 55 ls [])) → W pr l e rm_X3_readAs s m args below meth c H locs 0 0 Q (F0 m 4 ls []) := by
    intro x1 n
    induction n with
    | zero => intro x2 x3 ex h; exact lp_z h
    | succ n ih =>
      intro x2 x3 ex h H locs ls hP hS hl K
      have h := lp_s h
      refine lv_iload_n X.1 X.2.1 dX3_readAs_4 rfl (lv_at hl 3 rfl) ?_
      refine lv_aload_n X.1 X.2.1 dX3_readAs_5 rfl (lv_at hl 0 rfl) ?_
      refine r_get (C := RX3) (T := TX3) (N := 5) (ci := 3) (v := .int (g0 4 0)) X iw3 hP 0 rfl rfl 4 rfl mw_2_48 rfl dX3_readAs_6 ?_
      refine lv_icmp_ge (tgt := 55) X.1 X.2.1 dX3_readAs_9 (by decide) (fun hc => ?_) (fun hc => ?_)
      · have h := it_t hc h
        exact K x2 (Option.some.inj h) H locs ls hP hS (lv_sub hl [2] rfl)
      · have h := it_f hc h
        refine lv_aload_n X.1 X.2.1 dX3_readAs_12 rfl (lv_at hl 0 rfl) ?_
        refine r_get (C := RX3) (T := TX3) (N := 5) (ci := 3) (v := .ref (a0 1)) X iw3 hP 0 rfl rfl 0 rfl mw_2_42 rfl dX3_readAs_13 ?_
        refine lv_iload_n X.1 X.2.1 dX3_readAs_16 rfl (lv_at hl 3 rfl) ?_
        obtain ⟨hg_1, h⟩ := gdi_el h
        refine r_iald X hP 1 0 rfl rfl hg_1 rfl dX3_readAs_17 ?_
        refine lv_aload_n X.1 X.2.1 dX3_readAs_18 rfl (lv_at hl 0 rfl) ?_
        refine r_get (C := RX3) (T := TX3) (N := 5) (ci := 3) (v := .ref (a0 1)) X iw3 hP 0 rfl rfl 0 rfl mw_2_42 rfl dX3_readAs_19 ?_
        refine lv_iload_n X.1 X.2.1 dX3_readAs_22 rfl (lv_at hl 1 rfl) ?_
        obtain ⟨hg_2, h⟩ := gdi_el h
        refine r_iald X hP 1 0 rfl rfl hg_2 rfl dX3_readAs_23 ?_
        obtain ⟨J49, eJ49, h⟩ := jn_el h
        have HJ49 : ∀ (x2_J49 : Int32) (H : Heap) (locs : List Loc) (ls : Array Slot), J49 x2_J49 = some ex → va_P (dC, dI) vwCl (wHd tc a0 g0) H → va_S A s.heap H locs → lv_has ls 4 [(0, .ref (a0 0)), (1, .int x1), (2, .int x2_J49), (3, .int x3)] → W pr l e rm_X3_readAs s m args below meth c H locs 0 0 Q (F0 m 49 ls []) := by
          intro x2_J49 H locs ls h hP hS hl
          rw [eJ49] at h
          obtain ⟨x3_3, ex3_3, h⟩ := nm_el h
          refine lv_iinc (v := x3_3) (lv' := [(3, .int x3_3), (0, .ref (a0 0)), (1, .int x1), (2, .int x2_J49)]) X.1 X.2.1 dX3_readAs_49 hl (k := 3) rfl (by rw [ex3_3]; rfl) (by decide) rfl (fun ls hl => ?_)
          refine lv_goto (tgt := 4) X.1 X.2.1 dX3_readAs_52 (by decide) ?_
          exact ih x2_J49 x3_3 ex h H locs ls hP hS (lv_sub hl [1, 2, 3, 0] rfl) K
        refine lv_icmp_ne (tgt := 49) X.1 X.2.1 dX3_readAs_24 (by decide) (fun hc => ?_) (fun hc => ?_)
        · have h := it_f hc h
          exact HJ49 x2 H locs ls h hP hS (lv_sub hl [0, 1, 2, 3] rfl)
        · have h := it_t hc h
          refine lv_iload_n X.1 X.2.1 dX3_readAs_27 rfl (lv_at hl 2 rfl) ?_
          refine lv_iconst (v := (-1)) X.1 X.2.1 dX3_readAs_28 (by decide) ?_
          obtain ⟨J47, eJ47, h⟩ := jn_el h
          have HJ47 : ∀ (_ : Unit) (H : Heap) (locs : List Loc) (ls : Array Slot), J47 () = some ex → va_P (dC, dI) vwCl (wHd tc a0 g0) H → va_S A s.heap H locs → lv_has ls 4 [(0, .ref (a0 0)), (1, .int x1), (3, .int x3)] → W pr l e rm_X3_readAs s m args below meth c H locs 0 0 Q (F0 m 47 ls []) := by
            intro _ H locs ls h hP hS hl
            rw [eJ47] at h
            refine lv_iload_n X.1 X.2.1 dX3_readAs_47 rfl (lv_at hl 2 rfl) ?_
            refine lv_istore_n (lv' := [(2, .int x3), (0, .ref (a0 0)), (1, .int x1), (3, .int x3)]) X.1 X.2.1 dX3_readAs_48 rfl hl (by decide) rfl (fun ls hl => ?_)
            exact HJ49 x3 H locs ls h hP hS (lv_sub hl [1, 2, 0, 3] rfl)
          refine lv_icmp_eq (tgt := 47) X.1 X.2.1 dX3_readAs_29 (by decide) (fun hc => ?_) (fun hc => ?_)
          · have h := it_t hc h
            exact HJ47 () H locs ls h hP hS (lv_sub hl [0, 1, 3] rfl)
          · have h := it_f hc h
            refine lv_aload_n X.1 X.2.1 dX3_readAs_32 rfl (lv_at hl 0 rfl) ?_
            refine r_get (C := RX3) (T := TX3) (N := 5) (ci := 3) (v := .ref (a0 4)) X iw3 hP 0 rfl rfl 3 rfl mw_2_47 rfl dX3_readAs_33 ?_
            refine lv_iload_n X.1 X.2.1 dX3_readAs_36 rfl (lv_at hl 3 rfl) ?_
            obtain ⟨hg_4, h⟩ := gdi_el h
            refine r_iald X hP 4 0 rfl rfl hg_4 rfl dX3_readAs_37 ?_
            refine lv_aload_n X.1 X.2.1 dX3_readAs_38 rfl (lv_at hl 0 rfl) ?_
            refine r_get (C := RX3) (T := TX3) (N := 5) (ci := 3) (v := .ref (a0 4)) X iw3 hP 0 rfl rfl 3 rfl mw_2_47 rfl dX3_readAs_39 ?_
            refine lv_iload_n X.1 X.2.1 dX3_readAs_42 rfl (lv_at hl 2 rfl) ?_
            obtain ⟨hg_5, h⟩ := gdi_el h
            refine r_iald X hP 4 0 rfl rfl hg_5 rfl dX3_readAs_43 ?_
            refine lv_icmp_le (tgt := 49) X.1 X.2.1 dX3_readAs_44 (by decide) (fun hc => ?_) (fun hc => ?_)
            · have h := it_t hc h
              exact HJ49 x2 H locs ls h hP hS (lv_sub hl [0, 1, 2, 3] rfl)
            · have h := it_f hc h
              exact HJ47 () H locs ls h hP hS (lv_sub hl [0, 1, 3] rfl)
  unfold f_X3_readAs at h
  refine lv_iconst (v := (-1)) X.1 X.2.1 dX3_readAs_0 (by decide) ?_
  refine lv_istore_n (lv' := [(2, .int (-1)), (0, .ref (a0 0)), (1, .int x1)]) X.1 X.2.1 dX3_readAs_1 rfl hl (by decide) rfl (fun ls hl => ?_)
  refine lv_iconst (v := 0) X.1 X.2.1 dX3_readAs_2 (by decide) ?_
  refine lv_istore_n (lv' := [(3, .int 0), (2, .int (-1)), (0, .ref (a0 0)), (1, .int x1)]) X.1 X.2.1 dX3_readAs_3 rfl hl (by decide) rfl (fun ls hl => ?_)
  obtain ⟨ex_6, hL_6, h⟩ := bd_el h
  refine HL4 x1 fu (-1) 0 ex_6 hL_6 H locs ls hP hS (lv_sub hl [2, 3, 1, 0] rfl) (fun x2_6 he H locs ls hP hS hl => ?_)
  subst he
  refine lv_iload_n X.1 X.2.1 dX3_readAs_55 rfl (lv_at hl 0 rfl) ?_
  exact ret_i0 (Option.some.inj h) X hQ hP hS dX3_readAs_56

def f_X3_allDiffer_L2 (g0 : Pic) (n : Nat) (a : Int32) : Option ((Int32) ⊕ (Unit)) := lp (fun (rec : Int32 → Option ((Int32) ⊕ (Unit))) (a : Int32) => (fun (x1 : Int32) => (if (g0 4 0) ≤ x1 then some (.inr ()) else bd (f_X3_alikeTo g0 x1) (fun r_1 => (if r_1 = ((1 : Int32) <<< (x1 &&& 31)) then nm (x1 + 1) (fun x1_2 => rec x1_2) else some (.inl 0))))) a) n a
def f_X3_allDiffer (g0 : Pic) : Option (Int32) := lr (f_X3_allDiffer_L2 g0 fu 0) (fun a => a) (fun _ => some 1)
abbrev rm_X3_allDiffer : Room := { frames := 1, cells := 0, slots := 0, locals := 23 }
set_option maxHeartbeats 4000000 in
set_option maxRecDepth 100000 in
theorem c_X3_allDiffer (l : Launch) (dC : Nat → ClassId) (dI : Nat → Nat → Nat) (sk sv : Nat → Nat) (tc : Nat → ClassId) (a0 : Nat → Nat) (g0 : Pic) {r0 : Int32} (h : f_X3_allDiffer g0 = some r0) : CT l (dC, dI) sk sv (TY tc) yX3_allDiffer cX3_allDiffer 2 (some .boolean) rm_X3_allDiffer [.ref (a0 0)] (wHd tc a0 g0) (some (.int r0)) (wHd tc a0 g0) := by
  refine ofCT (by decide) (Nat.le_of_ble_eq_true rfl) ?_
  intro pr e s m args below meth c A Q ls H locs X hQ hD0 hP hS hl
  have hD : ∀ z0, va_D A (wHd tc a0 z0) := fun z0 => D_fst (ws := (wHd tc a0 g0)) rfl hD0
  have hl : lv_has ls 2 [(0, .ref (a0 0))] := hl
  have HL2 : ∀ (n : Nat) (x1 : Int32) (ex : ((Int32) ⊕ (Unit))), f_X3_allDiffer_L2 g0 n x1 = some ex → (∀ rv, ex = .inl rv → rv = r0) → ∀ (H : Heap) (locs : List Loc) (ls : Array Slot), va_P (dC, dI) vwCl (wHd tc a0 g0) H → va_S A s.heap H locs → lv_has ls 2 [(0, .ref (a0 0)), (1, .int x1)] → (.inr () = ex → ∀ (H : Heap) (locs : List Loc) (ls : Array Slot), va_P (dC, dI) vwCl (wHd tc a0 g0) H → va_S A s.heap H locs → lv_has ls 2 [] → W pr l e rm_X3_allDiffer s m args below meth c H locs 0 0 Q (F0 m 29 ls [])) → W pr l e rm_X3_allDiffer s m args below meth c H locs 0 0 Q (F0 m 2 ls []) := by
    intro n
    induction n with
    | zero => intro x1 ex h; exact lp_z h
    | succ n ih =>
      intro x1 ex h hR H locs ls hP hS hl K
      have h := lp_s h
      refine lv_iload_n X.1 X.2.1 dX3_allDiffer_2 rfl (lv_at hl 1 rfl) ?_
      refine lv_aload_n X.1 X.2.1 dX3_allDiffer_3 rfl (lv_at hl 0 rfl) ?_
      refine r_get (C := RX3) (T := TX3) (N := 5) (ci := 3) (v := .int (g0 4 0)) X iw3 hP 0 rfl rfl 4 rfl mw_2_48 rfl dX3_allDiffer_4 ?_
      refine lv_icmp_ge (tgt := 29) X.1 X.2.1 dX3_allDiffer_7 (by decide) (fun hc => ?_) (fun hc => ?_)
      · have h := it_t hc h
        exact K  (Option.some.inj h) H locs ls hP hS (lv_sub hl [] rfl)
      · have h := it_f hc h
        refine lv_aload_n X.1 X.2.1 dX3_allDiffer_10 rfl (lv_at hl 0 rfl) ?_
        refine lv_iload_n X.1 X.2.1 dX3_allDiffer_11 rfl (lv_at hl 1 rfl) ?_
        obtain ⟨r_1, hc_1, h⟩ := bd_el h
        refine call_V1i (As := [.int x1]) (rest := []) X (c_X3_alikeTo l dC dI sk sv tc a0 g0 x1 hc_1) mw_2_227 mw_2_228 mw_2_229 mw_1_7 mw_2_230 dc_X3_alikeTo ⟨Nat.le_of_ble_eq_true rfl, Nat.le_of_ble_eq_true rfl⟩ rfl rfl ⟨Nat.zero_le _, Nat.zero_le _⟩ hP (hD _) hS 0 rfl rfl rfl hl.1 (Nat.le_of_ble_eq_true rfl) dX3_allDiffer_12 (fun H locs hP hS => ?_)
        refine lv_iconst (v := 1) X.1 X.2.1 dX3_allDiffer_15 (by decide) ?_
        refine lv_iload_n X.1 X.2.1 dX3_allDiffer_16 rfl (lv_at hl 1 rfl) ?_
        refine lv_ishl X.1 X.2.1 dX3_allDiffer_17 ?_
        refine lv_icmp_eq (tgt := 23) X.1 X.2.1 dX3_allDiffer_18 (by decide) (fun hc => ?_) (fun hc => ?_)
        · have h := it_t hc h
          obtain ⟨x1_2, ex1_2, h⟩ := nm_el h
          refine lv_iinc (v := x1_2) (lv' := [(1, .int x1_2), (0, .ref (a0 0))]) X.1 X.2.1 dX3_allDiffer_23 hl (k := 1) rfl (by rw [ex1_2]; rfl) (by decide) rfl (fun ls hl => ?_)
          refine lv_goto (tgt := 2) X.1 X.2.1 dX3_allDiffer_26 (by decide) ?_
          exact ih x1_2 ex h hR H locs ls hP hS (lv_sub hl [1, 0] rfl) K
        · have h := it_f hc h
          refine lv_iconst (v := 0) X.1 X.2.1 dX3_allDiffer_21 (by decide) ?_
          exact ret_z0 (by decide) (hR _ (Option.some.inj h).symm) X hQ hP hS dX3_allDiffer_22
  unfold f_X3_allDiffer at h
  refine lv_iconst (v := 0) X.1 X.2.1 dX3_allDiffer_0 (by decide) ?_
  refine lv_istore_n (lv' := [(1, .int 0), (0, .ref (a0 0))]) X.1 X.2.1 dX3_allDiffer_1 rfl hl (by decide) rfl (fun ls hl => ?_)
  obtain ⟨ex_3, hL_3, h1_3, h2_3⟩ := lr_el h
  refine HL2  fu 0 ex_3 hL_3 (fun rv hq => h1_3 rv hq) H locs ls hP hS (lv_sub hl [1, 0] rfl) (fun  he H locs ls hP hS hl => ?_)
  have h := h2_3 _ he.symm
  refine lv_iconst (v := 1) X.1 X.2.1 dX3_allDiffer_29 (by decide) ?_
  exact ret_z0 (by decide) (Option.some.inj h) X hQ hP hS dX3_allDiffer_30

def f_X3_clean_L4 (g0 : Pic) (n : Nat) (a : Int32 × Int32) : Option (Int32) := lp (fun (rec : Int32 × Int32 → Option (Int32)) (a : Int32 × Int32) => match a with | (x1, x2) => (if (g0 4 0) ≤ x2 then some x1 else gdi x2 8 (jn (fun (x1_J27 : Int32) => nm (x2 + 1) (fun x2_2 => rec (x1_J27, x2_2))) (fun J27 => (if (g0 1 (x2.toNatClampNeg)) = 0 then nm ((x1 ||| ((1 : Int32) <<< (x2 &&& 31)))) (fun x1_3 => J27 x1_3) else J27 x1))))) n a
def f_X3_clean (g0 : Pic) : Option (Int32) := bd (f_X3_clean_L4 g0 fu (0, 0)) (fun x1_4 => some x1_4)
abbrev rm_X3_clean : Room := { frames := 0, cells := 0, slots := 0, locals := 0 }
set_option maxHeartbeats 4000000 in
set_option maxRecDepth 100000 in
theorem c_X3_clean (l : Launch) (dC : Nat → ClassId) (dI : Nat → Nat → Nat) (sk sv : Nat → Nat) (tc : Nat → ClassId) (a0 : Nat → Nat) (g0 : Pic) {r0 : Int32} (h : f_X3_clean g0 = some r0) : CT l (dC, dI) sk sv (TY tc) yX3_clean cX3_clean 3 (some .int) rm_X3_clean [.ref (a0 0)] (wHd tc a0 g0) (some (.int r0)) (wHd tc a0 g0) := by
  refine ofCT (by decide) (Nat.le_of_ble_eq_true rfl) ?_
  intro pr e s m args below meth c A Q ls H locs X hQ hD0 hP hS hl
  have hD : ∀ z0, va_D A (wHd tc a0 z0) := fun z0 => D_fst (ws := (wHd tc a0 g0)) rfl hD0
  have hl : lv_has ls 3 [(0, .ref (a0 0))] := hl
  have HL4 : ∀ (n : Nat) (x1 : Int32) (x2 : Int32) (ex : (Int32)), f_X3_clean_L4 g0 n (x1, x2) = some ex → ∀ (H : Heap) (locs : List Loc) (ls : Array Slot), va_P (dC, dI) vwCl (wHd tc a0 g0) H → va_S A s.heap H locs → lv_has ls 3 [(0, .ref (a0 0)), (1, .int x1), (2, .int x2)] → (∀ (y1 : Int32), y1 = ex → ∀ (H : Heap) (locs : List Loc) (ls : Array Slot), va_P (dC, dI) vwCl (wHd tc a0 g0) H → va_S A s.heap H locs → lv_has ls 3 [(1, .int y1)] → W pr l e rm_X3_clean s m args below meth c H locs 0 0 Q (F0 m 33 ls [])) → W pr l e rm_X3_clean s m args below meth c H locs 0 0 Q (F0 m 4 ls []) := by
    intro n
    induction n with
    | zero => intro x1 x2 ex h; exact lp_z h
    | succ n ih =>
      intro x1 x2 ex h H locs ls hP hS hl K
      have h := lp_s h
      refine lv_iload_n X.1 X.2.1 dX3_clean_4 rfl (lv_at hl 2 rfl) ?_
      refine lv_aload_n X.1 X.2.1 dX3_clean_5 rfl (lv_at hl 0 rfl) ?_
      refine r_get (C := RX3) (T := TX3) (N := 5) (ci := 3) (v := .int (g0 4 0)) X iw3 hP 0 rfl rfl 4 rfl mw_2_48 rfl dX3_clean_6 ?_
      refine lv_icmp_ge (tgt := 33) X.1 X.2.1 dX3_clean_9 (by decide) (fun hc => ?_) (fun hc => ?_)
      · have h := it_t hc h
        exact K x1 (Option.some.inj h) H locs ls hP hS (lv_sub hl [1] rfl)
      · have h := it_f hc h
        refine lv_aload_n X.1 X.2.1 dX3_clean_12 rfl (lv_at hl 0 rfl) ?_
        refine r_get (C := RX3) (T := TX3) (N := 5) (ci := 3) (v := .ref (a0 2)) X iw3 hP 0 rfl rfl 1 rfl mw_2_43 rfl dX3_clean_13 ?_
        refine lv_iload_n X.1 X.2.1 dX3_clean_16 rfl (lv_at hl 2 rfl) ?_
        obtain ⟨hg_1, h⟩ := gdi_el h
        refine r_iald X hP 2 0 rfl rfl hg_1 rfl dX3_clean_17 ?_
        obtain ⟨J27, eJ27, h⟩ := jn_el h
        have HJ27 : ∀ (x1_J27 : Int32) (H : Heap) (locs : List Loc) (ls : Array Slot), J27 x1_J27 = some ex → va_P (dC, dI) vwCl (wHd tc a0 g0) H → va_S A s.heap H locs → lv_has ls 3 [(0, .ref (a0 0)), (1, .int x1_J27), (2, .int x2)] → W pr l e rm_X3_clean s m args below meth c H locs 0 0 Q (F0 m 27 ls []) := by
          intro x1_J27 H locs ls h hP hS hl
          rw [eJ27] at h
          obtain ⟨x2_2, ex2_2, h⟩ := nm_el h
          refine lv_iinc (v := x2_2) (lv' := [(2, .int x2_2), (0, .ref (a0 0)), (1, .int x1_J27)]) X.1 X.2.1 dX3_clean_27 hl (k := 2) rfl (by rw [ex2_2]; rfl) (by decide) rfl (fun ls hl => ?_)
          refine lv_goto (tgt := 4) X.1 X.2.1 dX3_clean_30 (by decide) ?_
          exact ih x1_J27 x2_2 ex h H locs ls hP hS (lv_sub hl [1, 2, 0] rfl) K
        refine lv_if_ne (tgt := 27) X.1 X.2.1 dX3_clean_18 (by decide) (fun hc => ?_) (fun hc => ?_)
        · have h := it_f hc h
          exact HJ27 x1 H locs ls h hP hS (lv_sub hl [0, 1, 2] rfl)
        · have h := it_t hc h
          refine lv_iload_n X.1 X.2.1 dX3_clean_21 rfl (lv_at hl 1 rfl) ?_
          refine lv_iconst (v := 1) X.1 X.2.1 dX3_clean_22 (by decide) ?_
          refine lv_iload_n X.1 X.2.1 dX3_clean_23 rfl (lv_at hl 2 rfl) ?_
          refine lv_ishl X.1 X.2.1 dX3_clean_24 ?_
          refine lv_ior X.1 X.2.1 dX3_clean_25 ?_
          obtain ⟨x1_3, ex1_3, h⟩ := nm_el h
          refine tp_i ex1_3 ?_
          refine lv_istore_n (lv' := [(1, .int x1_3), (0, .ref (a0 0)), (2, .int x2)]) X.1 X.2.1 dX3_clean_26 rfl hl (by decide) rfl (fun ls hl => ?_)
          exact HJ27 x1_3 H locs ls h hP hS (lv_sub hl [1, 0, 2] rfl)
  unfold f_X3_clean at h
  refine lv_iconst (v := 0) X.1 X.2.1 dX3_clean_0 (by decide) ?_
  refine lv_istore_n (lv' := [(1, .int 0), (0, .ref (a0 0))]) X.1 X.2.1 dX3_clean_1 rfl hl (by decide) rfl (fun ls hl => ?_)
  refine lv_iconst (v := 0) X.1 X.2.1 dX3_clean_2 (by decide) ?_
  refine lv_istore_n (lv' := [(2, .int 0), (1, .int 0), (0, .ref (a0 0))]) X.1 X.2.1 dX3_clean_3 rfl hl (by decide) rfl (fun ls hl => ?_)
  obtain ⟨ex_4, hL_4, h⟩ := bd_el h
  refine HL4  fu 0 0 ex_4 hL_4 H locs ls hP hS (lv_sub hl [2, 1, 0] rfl) (fun x1_4 he H locs ls hP hS hl => ?_)
  subst he
  refine lv_iload_n X.1 X.2.1 dX3_clean_33 rfl (lv_at hl 0 rfl) ?_
  exact ret_i0 (Option.some.inj h) X hQ hP hS dX3_clean_34

def f_X3_lost_L4 (g0 : Pic) (n : Nat) (a : Int32 × Int32) : Option (Int32) := lp (fun (rec : Int32 × Int32 → Option (Int32)) (a : Int32 × Int32) => match a with | (x1, x2) => (if (g0 4 0) ≤ x2 then some x1 else bd (f_X3_readAs g0 x2) (fun r_1 => jn (fun (x1_J30 : Int32) => nm (x2 + 1) (fun x2_2 => rec (x1_J30, x2_2))) (fun J30 => (if r_1 = x2 then J30 x1 else gdi x2 8 (nm ((x1 + (g0 3 (x2.toNatClampNeg)))) (fun x1_4 => J30 x1_4))))))) n a
def f_X3_lost (g0 : Pic) : Option (Int32) := bd (f_X3_lost_L4 g0 fu (0, 0)) (fun x1_5 => some x1_5)
abbrev rm_X3_lost : Room := { frames := 1, cells := 0, slots := 0, locals := 23 }
set_option maxHeartbeats 4000000 in
set_option maxRecDepth 100000 in
theorem c_X3_lost (l : Launch) (dC : Nat → ClassId) (dI : Nat → Nat → Nat) (sk sv : Nat → Nat) (tc : Nat → ClassId) (a0 : Nat → Nat) (g0 : Pic) {r0 : Int32} (h : f_X3_lost g0 = some r0) : CT l (dC, dI) sk sv (TY tc) yX3_lost cX3_lost 3 (some .int) rm_X3_lost [.ref (a0 0)] (wHd tc a0 g0) (some (.int r0)) (wHd tc a0 g0) := by
  refine ofCT (by decide) (Nat.le_of_ble_eq_true rfl) ?_
  intro pr e s m args below meth c A Q ls H locs X hQ hD0 hP hS hl
  have hD : ∀ z0, va_D A (wHd tc a0 z0) := fun z0 => D_fst (ws := (wHd tc a0 g0)) rfl hD0
  have hl : lv_has ls 3 [(0, .ref (a0 0))] := hl
  have HL4 : ∀ (n : Nat) (x1 : Int32) (x2 : Int32) (ex : (Int32)), f_X3_lost_L4 g0 n (x1, x2) = some ex → ∀ (H : Heap) (locs : List Loc) (ls : Array Slot), va_P (dC, dI) vwCl (wHd tc a0 g0) H → va_S A s.heap H locs → lv_has ls 3 [(0, .ref (a0 0)), (1, .int x1), (2, .int x2)] → (∀ (y1 : Int32), y1 = ex → ∀ (H : Heap) (locs : List Loc) (ls : Array Slot), va_P (dC, dI) vwCl (wHd tc a0 g0) H → va_S A s.heap H locs → lv_has ls 3 [(1, .int y1)] → W pr l e rm_X3_lost s m args below meth c H locs 0 0 Q (F0 m 36 ls [])) → W pr l e rm_X3_lost s m args below meth c H locs 0 0 Q (F0 m 4 ls []) := by
    intro n
    induction n with
    | zero => intro x1 x2 ex h; exact lp_z h
    | succ n ih =>
      intro x1 x2 ex h H locs ls hP hS hl K
      have h := lp_s h
      refine lv_iload_n X.1 X.2.1 dX3_lost_4 rfl (lv_at hl 2 rfl) ?_
      refine lv_aload_n X.1 X.2.1 dX3_lost_5 rfl (lv_at hl 0 rfl) ?_
      refine r_get (C := RX3) (T := TX3) (N := 5) (ci := 3) (v := .int (g0 4 0)) X iw3 hP 0 rfl rfl 4 rfl mw_2_48 rfl dX3_lost_6 ?_
      refine lv_icmp_ge (tgt := 36) X.1 X.2.1 dX3_lost_9 (by decide) (fun hc => ?_) (fun hc => ?_)
      · have h := it_t hc h
        exact K x1 (Option.some.inj h) H locs ls hP hS (lv_sub hl [1] rfl)
      · have h := it_f hc h
        refine lv_aload_n X.1 X.2.1 dX3_lost_12 rfl (lv_at hl 0 rfl) ?_
        refine lv_iload_n X.1 X.2.1 dX3_lost_13 rfl (lv_at hl 2 rfl) ?_
        obtain ⟨r_1, hc_1, h⟩ := bd_el h
        refine call_V1i (As := [.int x2]) (rest := []) X (c_X3_readAs l dC dI sk sv tc a0 g0 x2 hc_1) mw_5_55 mw_5_56 mw_5_57 mw_1_7 mw_5_58 dc_X3_readAs ⟨Nat.le_of_ble_eq_true rfl, Nat.le_of_ble_eq_true rfl⟩ rfl rfl ⟨Nat.zero_le _, Nat.zero_le _⟩ hP (hD _) hS 0 rfl rfl rfl hl.1 (Nat.le_of_ble_eq_true rfl) dX3_lost_14 (fun H locs hP hS => ?_)
        refine lv_iload_n X.1 X.2.1 dX3_lost_17 rfl (lv_at hl 2 rfl) ?_
        obtain ⟨J30, eJ30, h⟩ := jn_el h
        have HJ30 : ∀ (x1_J30 : Int32) (H : Heap) (locs : List Loc) (ls : Array Slot), J30 x1_J30 = some ex → va_P (dC, dI) vwCl (wHd tc a0 g0) H → va_S A s.heap H locs → lv_has ls 3 [(0, .ref (a0 0)), (1, .int x1_J30), (2, .int x2)] → W pr l e rm_X3_lost s m args below meth c H locs 0 0 Q (F0 m 30 ls []) := by
          intro x1_J30 H locs ls h hP hS hl
          rw [eJ30] at h
          obtain ⟨x2_2, ex2_2, h⟩ := nm_el h
          refine lv_iinc (v := x2_2) (lv' := [(2, .int x2_2), (0, .ref (a0 0)), (1, .int x1_J30)]) X.1 X.2.1 dX3_lost_30 hl (k := 2) rfl (by rw [ex2_2]; rfl) (by decide) rfl (fun ls hl => ?_)
          refine lv_goto (tgt := 4) X.1 X.2.1 dX3_lost_33 (by decide) ?_
          exact ih x1_J30 x2_2 ex h H locs ls hP hS (lv_sub hl [1, 2, 0] rfl) K
        refine lv_icmp_eq (tgt := 30) X.1 X.2.1 dX3_lost_18 (by decide) (fun hc => ?_) (fun hc => ?_)
        · have h := it_t hc h
          exact HJ30 x1 H locs ls h hP hS (lv_sub hl [0, 1, 2] rfl)
        · have h := it_f hc h
          refine lv_iload_n X.1 X.2.1 dX3_lost_21 rfl (lv_at hl 1 rfl) ?_
          refine lv_aload_n X.1 X.2.1 dX3_lost_22 rfl (lv_at hl 0 rfl) ?_
          refine r_get (C := RX3) (T := TX3) (N := 5) (ci := 3) (v := .ref (a0 4)) X iw3 hP 0 rfl rfl 3 rfl mw_2_47 rfl dX3_lost_23 ?_
          refine lv_iload_n X.1 X.2.1 dX3_lost_26 rfl (lv_at hl 2 rfl) ?_
          obtain ⟨hg_3, h⟩ := gdi_el h
          refine r_iald X hP 4 0 rfl rfl hg_3 rfl dX3_lost_27 ?_
          refine lv_iadd X.1 X.2.1 dX3_lost_28 ?_
          obtain ⟨x1_4, ex1_4, h⟩ := nm_el h
          refine tp_i ex1_4 ?_
          refine lv_istore_n (lv' := [(1, .int x1_4), (0, .ref (a0 0)), (2, .int x2)]) X.1 X.2.1 dX3_lost_29 rfl hl (by decide) rfl (fun ls hl => ?_)
          exact HJ30 x1_4 H locs ls h hP hS (lv_sub hl [1, 0, 2] rfl)
  unfold f_X3_lost at h
  refine lv_iconst (v := 0) X.1 X.2.1 dX3_lost_0 (by decide) ?_
  refine lv_istore_n (lv' := [(1, .int 0), (0, .ref (a0 0))]) X.1 X.2.1 dX3_lost_1 rfl hl (by decide) rfl (fun ls hl => ?_)
  refine lv_iconst (v := 0) X.1 X.2.1 dX3_lost_2 (by decide) ?_
  refine lv_istore_n (lv' := [(2, .int 0), (1, .int 0), (0, .ref (a0 0))]) X.1 X.2.1 dX3_lost_3 rfl hl (by decide) rfl (fun ls hl => ?_)
  obtain ⟨ex_5, hL_5, h⟩ := bd_el h
  refine HL4  fu 0 0 ex_5 hL_5 H locs ls hP hS (lv_sub hl [2, 1, 0] rfl) (fun x1_5 he H locs ls hP hS hl => ?_)
  subst he
  refine lv_iload_n X.1 X.2.1 dX3_lost_36 rfl (lv_at hl 0 rfl) ?_
  exact ret_i0 (Option.some.inj h) X hQ hP hS dX3_lost_37

def f_X3_saved_L4 (g0 : Pic) (n : Nat) (a : Int32 × Int32) : Option (Int32) := lp (fun (rec : Int32 × Int32 → Option (Int32)) (a : Int32 × Int32) => match a with | (x1, x2) => (if (g0 4 0) ≤ x2 then some x1 else gdi x2 8 (gdi x2 8 (gdi x2 8 (nm ((x1 + (((g0 2 (x2.toNatClampNeg)) - (g0 1 (x2.toNatClampNeg))) * (g0 3 (x2.toNatClampNeg))))) (fun x1_4 => nm (x2 + 1) (fun x2_5 => rec (x1_4, x2_5)))))))) n a
def f_X3_saved (g0 : Pic) : Option (Int32) := bd (f_X3_saved_L4 g0 fu (0, 0)) (fun x1_6 => some x1_6)
abbrev rm_X3_saved : Room := { frames := 0, cells := 0, slots := 0, locals := 0 }
set_option maxHeartbeats 4000000 in
set_option maxRecDepth 100000 in
theorem c_X3_saved (l : Launch) (dC : Nat → ClassId) (dI : Nat → Nat → Nat) (sk sv : Nat → Nat) (tc : Nat → ClassId) (a0 : Nat → Nat) (g0 : Pic) {r0 : Int32} (h : f_X3_saved g0 = some r0) : CT l (dC, dI) sk sv (TY tc) yX3_saved cX3_saved 3 (some .int) rm_X3_saved [.ref (a0 0)] (wHd tc a0 g0) (some (.int r0)) (wHd tc a0 g0) := by
  refine ofCT (by decide) (Nat.le_of_ble_eq_true rfl) ?_
  intro pr e s m args below meth c A Q ls H locs X hQ hD0 hP hS hl
  have hD : ∀ z0, va_D A (wHd tc a0 z0) := fun z0 => D_fst (ws := (wHd tc a0 g0)) rfl hD0
  have hl : lv_has ls 3 [(0, .ref (a0 0))] := hl
  have HL4 : ∀ (n : Nat) (x1 : Int32) (x2 : Int32) (ex : (Int32)), f_X3_saved_L4 g0 n (x1, x2) = some ex → ∀ (H : Heap) (locs : List Loc) (ls : Array Slot), va_P (dC, dI) vwCl (wHd tc a0 g0) H → va_S A s.heap H locs → lv_has ls 3 [(0, .ref (a0 0)), (1, .int x1), (2, .int x2)] → (∀ (y1 : Int32), y1 = ex → ∀ (H : Heap) (locs : List Loc) (ls : Array Slot), va_P (dC, dI) vwCl (wHd tc a0 g0) H → va_S A s.heap H locs → lv_has ls 3 [(1, .int y1)] → W pr l e rm_X3_saved s m args below meth c H locs 0 0 Q (F0 m 41 ls [])) → W pr l e rm_X3_saved s m args below meth c H locs 0 0 Q (F0 m 4 ls []) := by
    intro n
    induction n with
    | zero => intro x1 x2 ex h; exact lp_z h
    | succ n ih =>
      intro x1 x2 ex h H locs ls hP hS hl K
      have h := lp_s h
      refine lv_iload_n X.1 X.2.1 dX3_saved_4 rfl (lv_at hl 2 rfl) ?_
      refine lv_aload_n X.1 X.2.1 dX3_saved_5 rfl (lv_at hl 0 rfl) ?_
      refine r_get (C := RX3) (T := TX3) (N := 5) (ci := 3) (v := .int (g0 4 0)) X iw3 hP 0 rfl rfl 4 rfl mw_2_48 rfl dX3_saved_6 ?_
      refine lv_icmp_ge (tgt := 41) X.1 X.2.1 dX3_saved_9 (by decide) (fun hc => ?_) (fun hc => ?_)
      · have h := it_t hc h
        exact K x1 (Option.some.inj h) H locs ls hP hS (lv_sub hl [1] rfl)
      · have h := it_f hc h
        refine lv_iload_n X.1 X.2.1 dX3_saved_12 rfl (lv_at hl 1 rfl) ?_
        refine lv_aload_n X.1 X.2.1 dX3_saved_13 rfl (lv_at hl 0 rfl) ?_
        refine r_get (C := RX3) (T := TX3) (N := 5) (ci := 3) (v := .ref (a0 3)) X iw3 hP 0 rfl rfl 2 rfl mw_2_46 rfl dX3_saved_14 ?_
        refine lv_iload_n X.1 X.2.1 dX3_saved_17 rfl (lv_at hl 2 rfl) ?_
        obtain ⟨hg_1, h⟩ := gdi_el h
        refine r_iald X hP 3 0 rfl rfl hg_1 rfl dX3_saved_18 ?_
        refine lv_aload_n X.1 X.2.1 dX3_saved_19 rfl (lv_at hl 0 rfl) ?_
        refine r_get (C := RX3) (T := TX3) (N := 5) (ci := 3) (v := .ref (a0 2)) X iw3 hP 0 rfl rfl 1 rfl mw_2_43 rfl dX3_saved_20 ?_
        refine lv_iload_n X.1 X.2.1 dX3_saved_23 rfl (lv_at hl 2 rfl) ?_
        obtain ⟨hg_2, h⟩ := gdi_el h
        refine r_iald X hP 2 0 rfl rfl hg_2 rfl dX3_saved_24 ?_
        refine lv_isub X.1 X.2.1 dX3_saved_25 ?_
        refine lv_aload_n X.1 X.2.1 dX3_saved_26 rfl (lv_at hl 0 rfl) ?_
        refine r_get (C := RX3) (T := TX3) (N := 5) (ci := 3) (v := .ref (a0 4)) X iw3 hP 0 rfl rfl 3 rfl mw_2_47 rfl dX3_saved_27 ?_
        refine lv_iload_n X.1 X.2.1 dX3_saved_30 rfl (lv_at hl 2 rfl) ?_
        obtain ⟨hg_3, h⟩ := gdi_el h
        refine r_iald X hP 4 0 rfl rfl hg_3 rfl dX3_saved_31 ?_
        refine lv_imul X.1 X.2.1 dX3_saved_32 ?_
        refine lv_iadd X.1 X.2.1 dX3_saved_33 ?_
        obtain ⟨x1_4, ex1_4, h⟩ := nm_el h
        refine tp_i ex1_4 ?_
        refine lv_istore_n (lv' := [(1, .int x1_4), (0, .ref (a0 0)), (2, .int x2)]) X.1 X.2.1 dX3_saved_34 rfl hl (by decide) rfl (fun ls hl => ?_)
        obtain ⟨x2_5, ex2_5, h⟩ := nm_el h
        refine lv_iinc (v := x2_5) (lv' := [(2, .int x2_5), (1, .int x1_4), (0, .ref (a0 0))]) X.1 X.2.1 dX3_saved_35 hl (k := 2) rfl (by rw [ex2_5]; rfl) (by decide) rfl (fun ls hl => ?_)
        refine lv_goto (tgt := 4) X.1 X.2.1 dX3_saved_38 (by decide) ?_
        exact ih x1_4 x2_5 ex h H locs ls hP hS (lv_sub hl [2, 1, 0] rfl) K
  unfold f_X3_saved at h
  refine lv_iconst (v := 0) X.1 X.2.1 dX3_saved_0 (by decide) ?_
  refine lv_istore_n (lv' := [(1, .int 0), (0, .ref (a0 0))]) X.1 X.2.1 dX3_saved_1 rfl hl (by decide) rfl (fun ls hl => ?_)
  refine lv_iconst (v := 0) X.1 X.2.1 dX3_saved_2 (by decide) ?_
  refine lv_istore_n (lv' := [(2, .int 0), (1, .int 0), (0, .ref (a0 0))]) X.1 X.2.1 dX3_saved_3 rfl hl (by decide) rfl (fun ls hl => ?_)
  obtain ⟨ex_6, hL_6, h⟩ := bd_el h
  refine HL4  fu 0 0 ex_6 hL_6 H locs ls hP hS (lv_sub hl [2, 1, 0] rfl) (fun x1_6 he H locs ls hP hS hl => ?_)
  subst he
  refine lv_iload_n X.1 X.2.1 dX3_saved_41 rfl (lv_at hl 0 rfl) ?_
  exact ret_i0 (Option.some.inj h) X hQ hP hS dX3_saved_42

def f_X10_addNumber_L3 (x1 : Int32) (n : Nat) (a : Int32 × Pic) : Option (Pic) := lp (fun (rec : Int32 × Pic → Option (Pic)) (a : Int32 × Pic) => match a with | (x2, g0) => (if x2 < 0 then some g0 else jn (fun (g0_J43 : Pic) => nm (x2 + (-8)) (fun x2_1 => rec (x2_1, g0_J43))) (fun J43 => (if 400 ≤ (g0 1 0) then J43 g0 else gdi (g0 1 0) 400 (nm (pu g0 0 ((g0 1 0).toNatClampNeg) (((x1.toUInt32 >>> (x2.toUInt32 &&& Int32.toUInt32 31)).toInt32) &&& 255)) (fun g0_3 => nm (pu g0_3 1 0 ((g0_3 1 0) + 1)) (fun g0_4 => J43 g0_4))))))) n a
def f_X10_addNumber (g0 : Pic) (x1 : Int32) : Option (Pic) := bd (f_X10_addNumber_L3 x1 fu (24, g0)) (fun g0_5 => some g0_5)
abbrev rm_X10_addNumber : Room := { frames := 0, cells := 0, slots := 0, locals := 0 }
set_option maxHeartbeats 4000000 in
set_option maxRecDepth 100000 in
theorem c_X10_addNumber (l : Launch) (dC : Nat → ClassId) (dI : Nat → Nat → Nat) (sk sv : Nat → Nat) (tc : Nat → ClassId) (a0 : Nat → Nat) (g0 : Pic) (x1 : Int32) {G0 : Pic} (h : f_X10_addNumber g0 x1 = some G0) : CT l (dC, dI) sk sv (TY tc) yX10_addNumber cX10_addNumber 3 none rm_X10_addNumber [.ref (a0 0), .int x1] (wTp tc a0 g0) none (wTp tc a0 G0) := by
  refine ofCT (by decide) (Nat.le_of_ble_eq_true rfl) ?_
  intro pr e s m args below meth c A Q ls H locs X hQ hD0 hP hS hl
  have hD : ∀ z0, va_D A (wTp tc a0 z0) := fun z0 => D_fst (ws := (wTp tc a0 g0)) rfl hD0
  have hl : lv_has ls 3 [(0, .ref (a0 0)), (1, .int x1)] := hl
  have HL3 : ∀ (x1 : Int32) (n : Nat) (x2 : Int32) (g0 : Pic) (ex : (Pic)), f_X10_addNumber_L3 x1 n (x2, g0) = some ex → ∀ (H : Heap) (locs : List Loc) (ls : Array Slot), va_P (dC, dI) vwCl (wTp tc a0 g0) H → va_S A s.heap H locs → lv_has ls 3 [(0, .ref (a0 0)), (1, .int x1), (2, .int x2)] → (∀ (k0 : Pic), k0 = ex → ∀ (H : Heap) (locs : List Loc) (ls : Array Slot), va_P (dC, dI) vwCl (wTp tc a0 k0) H → va_S A s.heap H locs → lv_has ls 3 [] → W pr l e rm_X10_addNumber s m args below meth c H locs 0 0 Q (F0 m 49 ls [])) → W pr l e rm_X10_addNumber s m args below meth c H locs 0 0 Q (F0 m 3 ls []) := by
    intro x1 n
    induction n with
    | zero => intro x2 g0 ex h; exact lp_z h
    | succ n ih =>
      intro x2 g0 ex h H locs ls hP hS hl K
      have h := lp_s h
      refine lv_iload_n X.1 X.2.1 dX10_addNumber_3 rfl (lv_at hl 2 rfl) ?_
      refine lv_if_lt (tgt := 49) X.1 X.2.1 dX10_addNumber_4 (by decide) (fun hc => ?_) (fun hc => ?_)
      · have h := it_t hc h
        exact K g0 (Option.some.inj h) H locs ls hP hS (lv_sub hl [] rfl)
      · have h := it_f hc h
        refine lv_aload_n X.1 X.2.1 dX10_addNumber_7 rfl (lv_at hl 0 rfl) ?_
        refine r_get (C := RX10) (T := TX10) (N := 8) (ci := 10) (v := .int (g0 1 0)) X iw10 hP 0 rfl rfl 1 rfl mw_1_47 rfl dX10_addNumber_8 ?_
        refine lv_sipush (v := 400) X.1 X.2.1 dX10_addNumber_11 (by decide) ?_
        obtain ⟨J43, eJ43, h⟩ := jn_el h
        have HJ43 : ∀ (g0_J43 : Pic) (H : Heap) (locs : List Loc) (ls : Array Slot), J43 g0_J43 = some ex → va_P (dC, dI) vwCl (wTp tc a0 g0_J43) H → va_S A s.heap H locs → lv_has ls 3 [(0, .ref (a0 0)), (1, .int x1), (2, .int x2)] → W pr l e rm_X10_addNumber s m args below meth c H locs 0 0 Q (F0 m 43 ls []) := by
          intro g0_J43 H locs ls h hP hS hl
          rw [eJ43] at h
          obtain ⟨x2_1, ex2_1, h⟩ := nm_el h
          refine lv_iinc (v := x2_1) (lv' := [(2, .int x2_1), (0, .ref (a0 0)), (1, .int x1)]) X.1 X.2.1 dX10_addNumber_43 hl (k := 2) rfl (by rw [ex2_1]; rfl) (by decide) rfl (fun ls hl => ?_)
          refine lv_goto (tgt := 3) X.1 X.2.1 dX10_addNumber_46 (by decide) ?_
          exact ih x2_1 g0_J43 ex h H locs ls hP hS (lv_sub hl [1, 2, 0] rfl) K
        refine lv_icmp_ge (tgt := 43) X.1 X.2.1 dX10_addNumber_14 (by decide) (fun hc => ?_) (fun hc => ?_)
        · have h := it_t hc h
          exact HJ43 g0 H locs ls h hP hS (lv_sub hl [0, 1, 2] rfl)
        · have h := it_f hc h
          refine lv_aload_n X.1 X.2.1 dX10_addNumber_17 rfl (lv_at hl 0 rfl) ?_
          refine r_get (C := RX10) (T := TX10) (N := 8) (ci := 10) (v := .ref (a0 1)) X iw10 hP 0 rfl rfl 0 rfl mw_1_44 rfl dX10_addNumber_18 ?_
          refine lv_aload_n X.1 X.2.1 dX10_addNumber_21 rfl (lv_at hl 0 rfl) ?_
          refine r_get (C := RX10) (T := TX10) (N := 8) (ci := 10) (v := .int (g0 1 0)) X iw10 hP 0 rfl rfl 1 rfl mw_1_47 rfl dX10_addNumber_22 ?_
          refine lv_iload_n X.1 X.2.1 dX10_addNumber_25 rfl (lv_at hl 1 rfl) ?_
          refine lv_iload_n X.1 X.2.1 dX10_addNumber_26 rfl (lv_at hl 2 rfl) ?_
          refine lv_iushr X.1 X.2.1 dX10_addNumber_27 rfl ?_
          refine lv_sipush (v := 255) X.1 X.2.1 dX10_addNumber_28 (by decide) ?_
          refine lv_iand X.1 X.2.1 dX10_addNumber_31 ?_
          obtain ⟨hg_2, h⟩ := gdi_el h
          obtain ⟨g0_3, eg0_3, h⟩ := nm_el h
          refine r_iast X hP (hD _) hS 1 0 rfl rfl hg_2 rfl dX10_addNumber_32 (wTp tc a0 g0_3) (by rw [eg0_3]; rfl) (fun H locs hP hS => ?_)
          refine lv_aload_n X.1 X.2.1 dX10_addNumber_33 rfl (lv_at hl 0 rfl) ?_
          refine lv_dup X.1 X.2.1 dX10_addNumber_34 rfl ?_
          refine r_get (C := RX10) (T := TX10) (N := 8) (ci := 10) (v := .int (g0_3 1 0)) X iw10 hP 0 rfl rfl 1 rfl mw_1_47 rfl dX10_addNumber_35 ?_
          refine lv_iconst (v := 1) X.1 X.2.1 dX10_addNumber_38 (by decide) ?_
          refine lv_iadd X.1 X.2.1 dX10_addNumber_39 ?_
          obtain ⟨g0_4, eg0_4, h⟩ := nm_el h
          refine r_put (C := RX10) (T := TX10) (N := 8) (ci := 10) tyX10 tyX10_ok nmX10 X iw10 hP (hD _) hS 0 rfl rfl 1 rfl mw_1_47 rfl rfl rfl rfl dX10_addNumber_40 (wTp tc a0 g0_4) (by rw [eg0_4]; rfl) (fun H locs hP hS => ?_)
          exact HJ43 g0_4 H locs ls h hP hS (lv_sub hl [0, 1, 2] rfl)
  unfold f_X10_addNumber at h
  refine lv_bipush (v := 24) X.1 X.2.1 dX10_addNumber_0 (by decide) ?_
  refine lv_istore_n (lv' := [(2, .int 24), (0, .ref (a0 0)), (1, .int x1)]) X.1 X.2.1 dX10_addNumber_2 rfl hl (by decide) rfl (fun ls hl => ?_)
  obtain ⟨ex_5, hL_5, h⟩ := bd_el h
  refine HL3 x1 fu 24 g0 ex_5 hL_5 H locs ls hP hS (lv_sub hl [1, 2, 0] rfl) (fun g0_5 he H locs ls hP hS hl => ?_)
  subst he
  exact ret_v (fun u => (wTp tc a0 u)) (res := G0) (Option.some.inj h) X hQ hP hS dX10_addNumber_49

def f_X10_step_L5 (g0 : Pic) (n : Nat) (a : Int32) : Option (Int32) := lp (fun (rec : Int32 → Option (Int32)) (a : Int32) => (fun (x1 : Int32) => (if (g0 2 0) ≤ x1 then some x1 else gdi x1 400 ((if (g0 0 (x1.toNatClampNeg)) = 32 then nm (x1 + 1) (fun x1_3 => rec x1_3) else some x1)))) a) n a
def f_X10_step_L146 (n : Nat) (a : Int32 × Pic) : Option (Int32 × Pic) := lp (fun (rec : Int32 × Pic → Option (Int32 × Pic)) (a : Int32 × Pic) => match a with | (x1, g0) => (if (g0 2 0) ≤ x1 then some (x1, g0) else gdi x1 400 ((if (g0 0 (x1.toNatClampNeg)) < 48 then some (x1, g0) else gdi x1 400 ((if 57 < (g0 0 (x1.toNatClampNeg)) then some (x1, g0) else jn (fun (s1_J208 : Int32) => nm (pu g0 6 0 s1_J208) (fun g0_18 => nm (x1 + 1) (fun x1_19 => rec (x1_19, g0_18)))) (fun J208 => (if 3 ≤ (x1 - (g0 4 0)) then J208 (-1) else gdi x1 400 (J208 ((((g0 6 0) * 10) + (g0 0 (x1.toNatClampNeg))) - 48)))))))))) n a
def f_X10_step_L83 (g0 : Pic) (n : Nat) (a : Int32) : Option (Int32) := lp (fun (rec : Int32 → Option (Int32)) (a : Int32) => (fun (x1 : Int32) => (if (g0 2 0) ≤ x1 then some x1 else gdi x1 400 ((if (g0 0 (x1.toNatClampNeg)) < 97 then some x1 else gdi x1 400 ((if 122 < (g0 0 (x1.toNatClampNeg)) then some x1 else nm (x1 + 1) (fun x1_26 => rec x1_26))))))) a) n a
def f_X10_step (g0 : Pic) : Option (Pic) := nm ((g0 5 0)) (fun x1_1 => bd (f_X10_step_L5 g0 fu x1_1) (fun x1_4 => nm (pu g0 4 0 x1_4) (fun g0_5 => nm (pu g0_5 6 0 0) (fun g0_6 => jn (fun (x1_J235 : Int32) (g0_J235 : Pic) => nm (pu g0_J235 5 0 x1_J235) (fun g0_7 => some g0_7)) (fun J235 => (if x1_4 < (g0_6 2 0) then gdi x1_4 400 (jn (fun (_ : Unit) => gdi x1_4 400 (jn (fun (_ : Unit) => nm (pu g0_6 3 0 3) (fun g0_10 => gdi x1_4 400 (nm (pu g0_10 6 0 (g0_10 0 (x1_4.toNatClampNeg))) (fun g0_12 => nm (x1_4 + 1) (fun x1_13 => J235 x1_13 g0_12))))) (fun J217 => (if (g0_6 0 (x1_4.toNatClampNeg)) < 48 then J217 () else gdi x1_4 400 ((if 57 < (g0_6 0 (x1_4.toNatClampNeg)) then J217 () else nm (pu g0_6 3 0 2) (fun g0_15 => bd (f_X10_step_L146  fu (x1_4, g0_15)) (fun (x1_21, g0_21) => J235 x1_21 g0_21)))))))) (fun J119 => (if (g0_6 0 (x1_4.toNatClampNeg)) < 97 then J119 () else gdi x1_4 400 ((if 122 < (g0_6 0 (x1_4.toNatClampNeg)) then J119 () else nm (pu g0_6 3 0 1) (fun g0_23 => bd (f_X10_step_L83 g0_23 fu x1_4) (fun x1_27 => J235 x1_27 g0_23))))))) else nm (pu g0_6 3 0 0) (fun g0_28 => J235 x1_4 g0_28)))))))
abbrev rm_X10_step : Room := { frames := 0, cells := 0, slots := 0, locals := 0 }
set_option maxHeartbeats 4000000 in
set_option maxRecDepth 100000 in
theorem c_X10_step (l : Launch) (dC : Nat → ClassId) (dI : Nat → Nat → Nat) (sk sv : Nat → Nat) (tc : Nat → ClassId) (a0 : Nat → Nat) (g0 : Pic) {G0 : Pic} (h : f_X10_step g0 = some G0) : CT l (dC, dI) sk sv (TY tc) yX10_step cX10_step 2 none rm_X10_step [.ref (a0 0)] (wTp tc a0 g0) none (wTp tc a0 G0) := by
  refine ofCT (by decide) (Nat.le_of_ble_eq_true rfl) ?_
  intro pr e s m args below meth c A Q ls H locs X hQ hD0 hP hS hl
  have hD : ∀ z0, va_D A (wTp tc a0 z0) := fun z0 => D_fst (ws := (wTp tc a0 g0)) rfl hD0
  have hl : lv_has ls 2 [(0, .ref (a0 0))] := hl
  have HL5 : ∀ (g0 : Pic) (n : Nat) (x1 : Int32) (ex : (Int32)), f_X10_step_L5 g0 n x1 = some ex → ∀ (H : Heap) (locs : List Loc) (ls : Array Slot), va_P (dC, dI) vwCl (wTp tc a0 g0) H → va_S A s.heap H locs → lv_has ls 2 [(0, .ref (a0 0)), (1, .int x1)] → (∀ (y1 : Int32), y1 = ex → ∀ (H : Heap) (locs : List Loc) (ls : Array Slot), va_P (dC, dI) vwCl (wTp tc a0 g0) H → va_S A s.heap H locs → lv_has ls 2 [(0, .ref (a0 0)), (1, .int y1)] → W pr l e rm_X10_step s m args below meth c H locs 0 0 Q (F0 m 30 ls [])) → W pr l e rm_X10_step s m args below meth c H locs 0 0 Q (F0 m 5 ls []) := by
    intro g0 n
    induction n with
    | zero => intro x1 ex h; exact lp_z h
    | succ n ih =>
      intro x1 ex h H locs ls hP hS hl K
      have h := lp_s h
      refine lv_iload_n X.1 X.2.1 dX10_step_5 rfl (lv_at hl 1 rfl) ?_
      refine lv_aload_n X.1 X.2.1 dX10_step_6 rfl (lv_at hl 0 rfl) ?_
      refine r_get (C := RX10) (T := TX10) (N := 8) (ci := 10) (v := .int (g0 2 0)) X iw10 hP 0 rfl rfl 2 rfl mw_1_49 rfl dX10_step_7 ?_
      refine lv_icmp_ge (tgt := 30) X.1 X.2.1 dX10_step_10 (by decide) (fun hc => ?_) (fun hc => ?_)
      · have h := it_t hc h
        exact K x1 (Option.some.inj h) H locs ls hP hS (lv_sub hl [0, 1] rfl)
      · have h := it_f hc h
        refine lv_aload_n X.1 X.2.1 dX10_step_13 rfl (lv_at hl 0 rfl) ?_
        refine r_get (C := RX10) (T := TX10) (N := 8) (ci := 10) (v := .ref (a0 1)) X iw10 hP 0 rfl rfl 0 rfl mw_1_44 rfl dX10_step_14 ?_
        refine lv_iload_n X.1 X.2.1 dX10_step_17 rfl (lv_at hl 1 rfl) ?_
        obtain ⟨hg_2, h⟩ := gdi_el h
        refine r_iald X hP 1 0 rfl rfl hg_2 rfl dX10_step_18 ?_
        refine lv_bipush (v := 32) X.1 X.2.1 dX10_step_19 (by decide) ?_
        refine lv_icmp_ne (tgt := 30) X.1 X.2.1 dX10_step_21 (by decide) (fun hc => ?_) (fun hc => ?_)
        · have h := it_f hc h
          exact K x1 (Option.some.inj h) H locs ls hP hS (lv_sub hl [0, 1] rfl)
        · have h := it_t hc h
          obtain ⟨x1_3, ex1_3, h⟩ := nm_el h
          refine lv_iinc (v := x1_3) (lv' := [(1, .int x1_3), (0, .ref (a0 0))]) X.1 X.2.1 dX10_step_24 hl (k := 1) rfl (by rw [ex1_3]; rfl) (by decide) rfl (fun ls hl => ?_)
          refine lv_goto (tgt := 5) X.1 X.2.1 dX10_step_27 (by decide) ?_
          exact ih x1_3 ex h H locs ls hP hS (lv_sub hl [1, 0] rfl) K
  have HL146 : ∀ (n : Nat) (x1 : Int32) (g0 : Pic) (ex : (Int32 × Pic)), f_X10_step_L146  n (x1, g0) = some ex → ∀ (H : Heap) (locs : List Loc) (ls : Array Slot), va_P (dC, dI) vwCl (wTp tc a0 g0) H → va_S A s.heap H locs → lv_has ls 2 [(0, .ref (a0 0)), (1, .int x1)] → (∀ (y1 : Int32) (k0 : Pic), (y1, k0) = ex → ∀ (H : Heap) (locs : List Loc) (ls : Array Slot), va_P (dC, dI) vwCl (wTp tc a0 k0) H → va_S A s.heap H locs → lv_has ls 2 [(0, .ref (a0 0)), (1, .int y1)] → W pr l e rm_X10_step s m args below meth c H locs 0 0 Q (F0 m 235 ls [])) → W pr l e rm_X10_step s m args below meth c H locs 0 0 Q (F0 m 146 ls []) := by
    intro n
    induction n with
    | zero => intro x1 g0 ex h; exact lp_z h
    | succ n ih =>
      intro x1 g0 ex h H locs ls hP hS hl K
      have h := lp_s h
      refine lv_iload_n X.1 X.2.1 dX10_step_146 rfl (lv_at hl 1 rfl) ?_
      refine lv_aload_n X.1 X.2.1 dX10_step_147 rfl (lv_at hl 0 rfl) ?_
      refine r_get (C := RX10) (T := TX10) (N := 8) (ci := 10) (v := .int (g0 2 0)) X iw10 hP 0 rfl rfl 2 rfl mw_1_49 rfl dX10_step_148 ?_
      refine lv_icmp_ge (tgt := 235) X.1 X.2.1 dX10_step_151 (by decide) (fun hc => ?_) (fun hc => ?_)
      · have h := it_t hc h
        exact K x1 g0 (Option.some.inj h) H locs ls hP hS (lv_sub hl [0, 1] rfl)
      · have h := it_f hc h
        refine lv_aload_n X.1 X.2.1 dX10_step_154 rfl (lv_at hl 0 rfl) ?_
        refine r_get (C := RX10) (T := TX10) (N := 8) (ci := 10) (v := .ref (a0 1)) X iw10 hP 0 rfl rfl 0 rfl mw_1_44 rfl dX10_step_155 ?_
        refine lv_iload_n X.1 X.2.1 dX10_step_158 rfl (lv_at hl 1 rfl) ?_
        obtain ⟨hg_16, h⟩ := gdi_el h
        refine r_iald X hP 1 0 rfl rfl hg_16 rfl dX10_step_159 ?_
        refine lv_bipush (v := 48) X.1 X.2.1 dX10_step_160 (by decide) ?_
        refine lv_icmp_lt (tgt := 235) X.1 X.2.1 dX10_step_162 (by decide) (fun hc => ?_) (fun hc => ?_)
        · have h := it_t hc h
          exact K x1 g0 (Option.some.inj h) H locs ls hP hS (lv_sub hl [0, 1] rfl)
        · have h := it_f hc h
          refine lv_aload_n X.1 X.2.1 dX10_step_165 rfl (lv_at hl 0 rfl) ?_
          refine r_get (C := RX10) (T := TX10) (N := 8) (ci := 10) (v := .ref (a0 1)) X iw10 hP 0 rfl rfl 0 rfl mw_1_44 rfl dX10_step_166 ?_
          refine lv_iload_n X.1 X.2.1 dX10_step_169 rfl (lv_at hl 1 rfl) ?_
          obtain ⟨hg_17, h⟩ := gdi_el h
          refine r_iald X hP 1 0 rfl rfl hg_17 rfl dX10_step_170 ?_
          refine lv_bipush (v := 57) X.1 X.2.1 dX10_step_171 (by decide) ?_
          refine lv_icmp_gt (tgt := 235) X.1 X.2.1 dX10_step_173 (by decide) (fun hc => ?_) (fun hc => ?_)
          · have h := it_t hc h
            exact K x1 g0 (Option.some.inj h) H locs ls hP hS (lv_sub hl [0, 1] rfl)
          · have h := it_f hc h
            refine lv_aload_n X.1 X.2.1 dX10_step_176 rfl (lv_at hl 0 rfl) ?_
            refine lv_iload_n X.1 X.2.1 dX10_step_177 rfl (lv_at hl 1 rfl) ?_
            refine lv_aload_n X.1 X.2.1 dX10_step_178 rfl (lv_at hl 0 rfl) ?_
            refine r_get (C := RX10) (T := TX10) (N := 8) (ci := 10) (v := .int (g0 4 0)) X iw10 hP 0 rfl rfl 4 rfl mw_1_53 rfl dX10_step_179 ?_
            refine lv_isub X.1 X.2.1 dX10_step_182 ?_
            refine lv_iconst (v := 3) X.1 X.2.1 dX10_step_183 (by decide) ?_
            obtain ⟨J208, eJ208, h⟩ := jn_el h
            have HJ208 : ∀ (s1_J208 : Int32) (H : Heap) (locs : List Loc) (ls : Array Slot), J208 s1_J208 = some ex → va_P (dC, dI) vwCl (wTp tc a0 g0) H → va_S A s.heap H locs → lv_has ls 2 [(0, .ref (a0 0)), (1, .int x1)] → W pr l e rm_X10_step s m args below meth c H locs 0 0 Q (F0 m 208 ls [.int s1_J208, .ref (a0 0)]) := by
              intro s1_J208 H locs ls h hP hS hl
              rw [eJ208] at h
              obtain ⟨g0_18, eg0_18, h⟩ := nm_el h
              refine r_put (C := RX10) (T := TX10) (N := 8) (ci := 10) tyX10 tyX10_ok nmX10 X iw10 hP (hD _) hS 0 rfl rfl 6 rfl mw_1_57 rfl rfl rfl rfl dX10_step_208 (wTp tc a0 g0_18) (by rw [eg0_18]; rfl) (fun H locs hP hS => ?_)
              obtain ⟨x1_19, ex1_19, h⟩ := nm_el h
              refine lv_iinc (v := x1_19) (lv' := [(1, .int x1_19), (0, .ref (a0 0))]) X.1 X.2.1 dX10_step_211 hl (k := 1) rfl (by rw [ex1_19]; rfl) (by decide) rfl (fun ls hl => ?_)
              refine lv_goto (tgt := 146) X.1 X.2.1 dX10_step_214 (by decide) ?_
              exact ih x1_19 g0_18 ex h H locs ls hP hS (lv_sub hl [1, 0] rfl) K
            refine lv_icmp_ge (tgt := 207) X.1 X.2.1 dX10_step_184 (by decide) (fun hc => ?_) (fun hc => ?_)
            · have h := it_t hc h
              refine lv_iconst (v := (-1)) X.1 X.2.1 dX10_step_207 (by decide) ?_
              exact HJ208 (-1) H locs ls h hP hS (lv_sub hl [0, 1] rfl)
            · have h := it_f hc h
              refine lv_aload_n X.1 X.2.1 dX10_step_187 rfl (lv_at hl 0 rfl) ?_
              refine r_get (C := RX10) (T := TX10) (N := 8) (ci := 10) (v := .int (g0 6 0)) X iw10 hP 0 rfl rfl 6 rfl mw_1_57 rfl dX10_step_188 ?_
              refine lv_bipush (v := 10) X.1 X.2.1 dX10_step_191 (by decide) ?_
              refine lv_imul X.1 X.2.1 dX10_step_193 ?_
              refine lv_aload_n X.1 X.2.1 dX10_step_194 rfl (lv_at hl 0 rfl) ?_
              refine r_get (C := RX10) (T := TX10) (N := 8) (ci := 10) (v := .ref (a0 1)) X iw10 hP 0 rfl rfl 0 rfl mw_1_44 rfl dX10_step_195 ?_
              refine lv_iload_n X.1 X.2.1 dX10_step_198 rfl (lv_at hl 1 rfl) ?_
              obtain ⟨hg_20, h⟩ := gdi_el h
              refine r_iald X hP 1 0 rfl rfl hg_20 rfl dX10_step_199 ?_
              refine lv_iadd X.1 X.2.1 dX10_step_200 ?_
              refine lv_bipush (v := 48) X.1 X.2.1 dX10_step_201 (by decide) ?_
              refine lv_isub X.1 X.2.1 dX10_step_203 ?_
              refine lv_goto (tgt := 208) X.1 X.2.1 dX10_step_204 (by decide) ?_
              exact HJ208 ((((g0 6 0) * 10) + (g0 0 (x1.toNatClampNeg))) - 48) H locs ls h hP hS (lv_sub hl [0, 1] rfl)
  have HL83 : ∀ (g0 : Pic) (n : Nat) (x1 : Int32) (ex : (Int32)), f_X10_step_L83 g0 n x1 = some ex → ∀ (H : Heap) (locs : List Loc) (ls : Array Slot), va_P (dC, dI) vwCl (wTp tc a0 g0) H → va_S A s.heap H locs → lv_has ls 2 [(0, .ref (a0 0)), (1, .int x1)] → (∀ (y1 : Int32), y1 = ex → ∀ (H : Heap) (locs : List Loc) (ls : Array Slot), va_P (dC, dI) vwCl (wTp tc a0 g0) H → va_S A s.heap H locs → lv_has ls 2 [(0, .ref (a0 0)), (1, .int y1)] → W pr l e rm_X10_step s m args below meth c H locs 0 0 Q (F0 m 235 ls [])) → W pr l e rm_X10_step s m args below meth c H locs 0 0 Q (F0 m 83 ls []) := by
    intro g0 n
    induction n with
    | zero => intro x1 ex h; exact lp_z h
    | succ n ih =>
      intro x1 ex h H locs ls hP hS hl K
      have h := lp_s h
      refine lv_iload_n X.1 X.2.1 dX10_step_83 rfl (lv_at hl 1 rfl) ?_
      refine lv_aload_n X.1 X.2.1 dX10_step_84 rfl (lv_at hl 0 rfl) ?_
      refine r_get (C := RX10) (T := TX10) (N := 8) (ci := 10) (v := .int (g0 2 0)) X iw10 hP 0 rfl rfl 2 rfl mw_1_49 rfl dX10_step_85 ?_
      refine lv_icmp_ge (tgt := 235) X.1 X.2.1 dX10_step_88 (by decide) (fun hc => ?_) (fun hc => ?_)
      · have h := it_t hc h
        exact K x1 (Option.some.inj h) H locs ls hP hS (lv_sub hl [0, 1] rfl)
      · have h := it_f hc h
        refine lv_aload_n X.1 X.2.1 dX10_step_91 rfl (lv_at hl 0 rfl) ?_
        refine r_get (C := RX10) (T := TX10) (N := 8) (ci := 10) (v := .ref (a0 1)) X iw10 hP 0 rfl rfl 0 rfl mw_1_44 rfl dX10_step_92 ?_
        refine lv_iload_n X.1 X.2.1 dX10_step_95 rfl (lv_at hl 1 rfl) ?_
        obtain ⟨hg_24, h⟩ := gdi_el h
        refine r_iald X hP 1 0 rfl rfl hg_24 rfl dX10_step_96 ?_
        refine lv_bipush (v := 97) X.1 X.2.1 dX10_step_97 (by decide) ?_
        refine lv_icmp_lt (tgt := 235) X.1 X.2.1 dX10_step_99 (by decide) (fun hc => ?_) (fun hc => ?_)
        · have h := it_t hc h
          exact K x1 (Option.some.inj h) H locs ls hP hS (lv_sub hl [0, 1] rfl)
        · have h := it_f hc h
          refine lv_aload_n X.1 X.2.1 dX10_step_102 rfl (lv_at hl 0 rfl) ?_
          refine r_get (C := RX10) (T := TX10) (N := 8) (ci := 10) (v := .ref (a0 1)) X iw10 hP 0 rfl rfl 0 rfl mw_1_44 rfl dX10_step_103 ?_
          refine lv_iload_n X.1 X.2.1 dX10_step_106 rfl (lv_at hl 1 rfl) ?_
          obtain ⟨hg_25, h⟩ := gdi_el h
          refine r_iald X hP 1 0 rfl rfl hg_25 rfl dX10_step_107 ?_
          refine lv_bipush (v := 122) X.1 X.2.1 dX10_step_108 (by decide) ?_
          refine lv_icmp_gt (tgt := 235) X.1 X.2.1 dX10_step_110 (by decide) (fun hc => ?_) (fun hc => ?_)
          · have h := it_t hc h
            exact K x1 (Option.some.inj h) H locs ls hP hS (lv_sub hl [0, 1] rfl)
          · have h := it_f hc h
            obtain ⟨x1_26, ex1_26, h⟩ := nm_el h
            refine lv_iinc (v := x1_26) (lv' := [(1, .int x1_26), (0, .ref (a0 0))]) X.1 X.2.1 dX10_step_113 hl (k := 1) rfl (by rw [ex1_26]; rfl) (by decide) rfl (fun ls hl => ?_)
            refine lv_goto (tgt := 83) X.1 X.2.1 dX10_step_116 (by decide) ?_
            exact ih x1_26 ex h H locs ls hP hS (lv_sub hl [1, 0] rfl) K
  unfold f_X10_step at h
  refine lv_aload_n X.1 X.2.1 dX10_step_0 rfl (lv_at hl 0 rfl) ?_
  refine r_get (C := RX10) (T := TX10) (N := 8) (ci := 10) (v := .int (g0 5 0)) X iw10 hP 0 rfl rfl 5 rfl mw_1_55 rfl dX10_step_1 ?_
  obtain ⟨x1_1, ex1_1, h⟩ := nm_el h
  refine tp_i ex1_1 ?_
  refine lv_istore_n (lv' := [(1, .int x1_1), (0, .ref (a0 0))]) X.1 X.2.1 dX10_step_4 rfl hl (by decide) rfl (fun ls hl => ?_)
  obtain ⟨ex_4, hL_4, h⟩ := bd_el h
  refine HL5 g0 fu x1_1 ex_4 hL_4 H locs ls hP hS (lv_sub hl [1, 0] rfl) (fun x1_4 he H locs ls hP hS hl => ?_)
  subst he
  refine lv_aload_n X.1 X.2.1 dX10_step_30 rfl (lv_at hl 0 rfl) ?_
  refine lv_iload_n X.1 X.2.1 dX10_step_31 rfl (lv_at hl 1 rfl) ?_
  obtain ⟨g0_5, eg0_5, h⟩ := nm_el h
  refine r_put (C := RX10) (T := TX10) (N := 8) (ci := 10) tyX10 tyX10_ok nmX10 X iw10 hP (hD _) hS 0 rfl rfl 4 rfl mw_1_53 rfl rfl rfl rfl dX10_step_32 (wTp tc a0 g0_5) (by rw [eg0_5]; rfl) (fun H locs hP hS => ?_)
  refine lv_aload_n X.1 X.2.1 dX10_step_35 rfl (lv_at hl 0 rfl) ?_
  refine lv_iconst (v := 0) X.1 X.2.1 dX10_step_36 (by decide) ?_
  obtain ⟨g0_6, eg0_6, h⟩ := nm_el h
  refine r_put (C := RX10) (T := TX10) (N := 8) (ci := 10) tyX10 tyX10_ok nmX10 X iw10 hP (hD _) hS 0 rfl rfl 6 rfl mw_1_57 rfl rfl rfl rfl dX10_step_37 (wTp tc a0 g0_6) (by rw [eg0_6]; rfl) (fun H locs hP hS => ?_)
  refine lv_iload_n X.1 X.2.1 dX10_step_40 rfl (lv_at hl 1 rfl) ?_
  refine lv_aload_n X.1 X.2.1 dX10_step_41 rfl (lv_at hl 0 rfl) ?_
  refine r_get (C := RX10) (T := TX10) (N := 8) (ci := 10) (v := .int (g0_6 2 0)) X iw10 hP 0 rfl rfl 2 rfl mw_1_49 rfl dX10_step_42 ?_
  obtain ⟨J235, eJ235, h⟩ := jn_el h
  have HJ235 : ∀ (x1_J235 : Int32) (g0_J235 : Pic) (H : Heap) (locs : List Loc) (ls : Array Slot), J235 x1_J235 g0_J235 = some G0 → va_P (dC, dI) vwCl (wTp tc a0 g0_J235) H → va_S A s.heap H locs → lv_has ls 2 [(0, .ref (a0 0)), (1, .int x1_J235)] → W pr l e rm_X10_step s m args below meth c H locs 0 0 Q (F0 m 235 ls []) := by
    intro x1_J235 g0_J235 H locs ls h hP hS hl
    rw [eJ235] at h
    refine lv_aload_n X.1 X.2.1 dX10_step_235 rfl (lv_at hl 0 rfl) ?_
    refine lv_iload_n X.1 X.2.1 dX10_step_236 rfl (lv_at hl 1 rfl) ?_
    obtain ⟨g0_7, eg0_7, h⟩ := nm_el h
    refine r_put (C := RX10) (T := TX10) (N := 8) (ci := 10) tyX10 tyX10_ok nmX10 X iw10 hP (hD _) hS 0 rfl rfl 5 rfl mw_1_55 rfl rfl rfl rfl dX10_step_237 (wTp tc a0 g0_7) (by rw [eg0_7]; rfl) (fun H locs hP hS => ?_)
    exact ret_v (fun u => (wTp tc a0 u)) (res := G0) (Option.some.inj h) X hQ hP hS dX10_step_240
  refine lv_icmp_lt (tgt := 56) X.1 X.2.1 dX10_step_45 (by decide) (fun hc => ?_) (fun hc => ?_)
  · have h := it_t hc h
    refine lv_aload_n X.1 X.2.1 dX10_step_56 rfl (lv_at hl 0 rfl) ?_
    refine r_get (C := RX10) (T := TX10) (N := 8) (ci := 10) (v := .ref (a0 1)) X iw10 hP 0 rfl rfl 0 rfl mw_1_44 rfl dX10_step_57 ?_
    refine lv_iload_n X.1 X.2.1 dX10_step_60 rfl (lv_at hl 1 rfl) ?_
    obtain ⟨hg_8, h⟩ := gdi_el h
    refine r_iald X hP 1 0 rfl rfl hg_8 rfl dX10_step_61 ?_
    refine lv_bipush (v := 97) X.1 X.2.1 dX10_step_62 (by decide) ?_
    obtain ⟨J119, eJ119, h⟩ := jn_el h
    have HJ119 : ∀ (_ : Unit) (H : Heap) (locs : List Loc) (ls : Array Slot), J119 () = some G0 → va_P (dC, dI) vwCl (wTp tc a0 g0_6) H → va_S A s.heap H locs → lv_has ls 2 [(0, .ref (a0 0)), (1, .int x1_4)] → W pr l e rm_X10_step s m args below meth c H locs 0 0 Q (F0 m 119 ls []) := by
      intro _ H locs ls h hP hS hl
      rw [eJ119] at h
      refine lv_aload_n X.1 X.2.1 dX10_step_119 rfl (lv_at hl 0 rfl) ?_
      refine r_get (C := RX10) (T := TX10) (N := 8) (ci := 10) (v := .ref (a0 1)) X iw10 hP 0 rfl rfl 0 rfl mw_1_44 rfl dX10_step_120 ?_
      refine lv_iload_n X.1 X.2.1 dX10_step_123 rfl (lv_at hl 1 rfl) ?_
      obtain ⟨hg_9, h⟩ := gdi_el h
      refine r_iald X hP 1 0 rfl rfl hg_9 rfl dX10_step_124 ?_
      refine lv_bipush (v := 48) X.1 X.2.1 dX10_step_125 (by decide) ?_
      obtain ⟨J217, eJ217, h⟩ := jn_el h
      have HJ217 : ∀ (_ : Unit) (H : Heap) (locs : List Loc) (ls : Array Slot), J217 () = some G0 → va_P (dC, dI) vwCl (wTp tc a0 g0_6) H → va_S A s.heap H locs → lv_has ls 2 [(0, .ref (a0 0)), (1, .int x1_4)] → W pr l e rm_X10_step s m args below meth c H locs 0 0 Q (F0 m 217 ls []) := by
        intro _ H locs ls h hP hS hl
        rw [eJ217] at h
        refine lv_aload_n X.1 X.2.1 dX10_step_217 rfl (lv_at hl 0 rfl) ?_
        refine lv_iconst (v := 3) X.1 X.2.1 dX10_step_218 (by decide) ?_
        obtain ⟨g0_10, eg0_10, h⟩ := nm_el h
        refine r_put (C := RX10) (T := TX10) (N := 8) (ci := 10) tyX10 tyX10_ok nmX10 X iw10 hP (hD _) hS 0 rfl rfl 3 rfl mw_1_52 rfl rfl rfl rfl dX10_step_219 (wTp tc a0 g0_10) (by rw [eg0_10]; rfl) (fun H locs hP hS => ?_)
        refine lv_aload_n X.1 X.2.1 dX10_step_222 rfl (lv_at hl 0 rfl) ?_
        refine lv_aload_n X.1 X.2.1 dX10_step_223 rfl (lv_at hl 0 rfl) ?_
        refine r_get (C := RX10) (T := TX10) (N := 8) (ci := 10) (v := .ref (a0 1)) X iw10 hP 0 rfl rfl 0 rfl mw_1_44 rfl dX10_step_224 ?_
        refine lv_iload_n X.1 X.2.1 dX10_step_227 rfl (lv_at hl 1 rfl) ?_
        obtain ⟨hg_11, h⟩ := gdi_el h
        refine r_iald X hP 1 0 rfl rfl hg_11 rfl dX10_step_228 ?_
        obtain ⟨g0_12, eg0_12, h⟩ := nm_el h
        refine r_put (C := RX10) (T := TX10) (N := 8) (ci := 10) tyX10 tyX10_ok nmX10 X iw10 hP (hD _) hS 0 rfl rfl 6 rfl mw_1_57 rfl rfl rfl rfl dX10_step_229 (wTp tc a0 g0_12) (by rw [eg0_12]; rfl) (fun H locs hP hS => ?_)
        obtain ⟨x1_13, ex1_13, h⟩ := nm_el h
        refine lv_iinc (v := x1_13) (lv' := [(1, .int x1_13), (0, .ref (a0 0))]) X.1 X.2.1 dX10_step_232 hl (k := 1) rfl (by rw [ex1_13]; rfl) (by decide) rfl (fun ls hl => ?_)
        exact HJ235 x1_13 g0_12 H locs ls h hP hS (lv_sub hl [1, 0] rfl)
      refine lv_icmp_lt (tgt := 217) X.1 X.2.1 dX10_step_127 (by decide) (fun hc => ?_) (fun hc => ?_)
      · have h := it_t hc h
        exact HJ217 () H locs ls h hP hS (lv_sub hl [0, 1] rfl)
      · have h := it_f hc h
        refine lv_aload_n X.1 X.2.1 dX10_step_130 rfl (lv_at hl 0 rfl) ?_
        refine r_get (C := RX10) (T := TX10) (N := 8) (ci := 10) (v := .ref (a0 1)) X iw10 hP 0 rfl rfl 0 rfl mw_1_44 rfl dX10_step_131 ?_
        refine lv_iload_n X.1 X.2.1 dX10_step_134 rfl (lv_at hl 1 rfl) ?_
        obtain ⟨hg_14, h⟩ := gdi_el h
        refine r_iald X hP 1 0 rfl rfl hg_14 rfl dX10_step_135 ?_
        refine lv_bipush (v := 57) X.1 X.2.1 dX10_step_136 (by decide) ?_
        refine lv_icmp_gt (tgt := 217) X.1 X.2.1 dX10_step_138 (by decide) (fun hc => ?_) (fun hc => ?_)
        · have h := it_t hc h
          exact HJ217 () H locs ls h hP hS (lv_sub hl [0, 1] rfl)
        · have h := it_f hc h
          refine lv_aload_n X.1 X.2.1 dX10_step_141 rfl (lv_at hl 0 rfl) ?_
          refine lv_iconst (v := 2) X.1 X.2.1 dX10_step_142 (by decide) ?_
          obtain ⟨g0_15, eg0_15, h⟩ := nm_el h
          refine r_put (C := RX10) (T := TX10) (N := 8) (ci := 10) tyX10 tyX10_ok nmX10 X iw10 hP (hD _) hS 0 rfl rfl 3 rfl mw_1_52 rfl rfl rfl rfl dX10_step_143 (wTp tc a0 g0_15) (by rw [eg0_15]; rfl) (fun H locs hP hS => ?_)
          obtain ⟨ex_21, hL_21, h⟩ := bd_el h
          refine HL146  fu x1_4 g0_15 ex_21 hL_21 H locs ls hP hS (lv_sub hl [0, 1] rfl) (fun x1_21 g0_21 he H locs ls hP hS hl => ?_)
          subst he
          exact HJ235 x1_21 g0_21 H locs ls h hP hS (lv_sub hl [0, 1] rfl)
    refine lv_icmp_lt (tgt := 119) X.1 X.2.1 dX10_step_64 (by decide) (fun hc => ?_) (fun hc => ?_)
    · have h := it_t hc h
      exact HJ119 () H locs ls h hP hS (lv_sub hl [0, 1] rfl)
    · have h := it_f hc h
      refine lv_aload_n X.1 X.2.1 dX10_step_67 rfl (lv_at hl 0 rfl) ?_
      refine r_get (C := RX10) (T := TX10) (N := 8) (ci := 10) (v := .ref (a0 1)) X iw10 hP 0 rfl rfl 0 rfl mw_1_44 rfl dX10_step_68 ?_
      refine lv_iload_n X.1 X.2.1 dX10_step_71 rfl (lv_at hl 1 rfl) ?_
      obtain ⟨hg_22, h⟩ := gdi_el h
      refine r_iald X hP 1 0 rfl rfl hg_22 rfl dX10_step_72 ?_
      refine lv_bipush (v := 122) X.1 X.2.1 dX10_step_73 (by decide) ?_
      refine lv_icmp_gt (tgt := 119) X.1 X.2.1 dX10_step_75 (by decide) (fun hc => ?_) (fun hc => ?_)
      · have h := it_t hc h
        exact HJ119 () H locs ls h hP hS (lv_sub hl [0, 1] rfl)
      · have h := it_f hc h
        refine lv_aload_n X.1 X.2.1 dX10_step_78 rfl (lv_at hl 0 rfl) ?_
        refine lv_iconst (v := 1) X.1 X.2.1 dX10_step_79 (by decide) ?_
        obtain ⟨g0_23, eg0_23, h⟩ := nm_el h
        refine r_put (C := RX10) (T := TX10) (N := 8) (ci := 10) tyX10 tyX10_ok nmX10 X iw10 hP (hD _) hS 0 rfl rfl 3 rfl mw_1_52 rfl rfl rfl rfl dX10_step_80 (wTp tc a0 g0_23) (by rw [eg0_23]; rfl) (fun H locs hP hS => ?_)
        obtain ⟨ex_27, hL_27, h⟩ := bd_el h
        refine HL83 g0_23 fu x1_4 ex_27 hL_27 H locs ls hP hS (lv_sub hl [0, 1] rfl) (fun x1_27 he H locs ls hP hS hl => ?_)
        subst he
        exact HJ235 x1_27 g0_23 H locs ls h hP hS (lv_sub hl [0, 1] rfl)
  · have h := it_f hc h
    refine lv_aload_n X.1 X.2.1 dX10_step_48 rfl (lv_at hl 0 rfl) ?_
    refine lv_iconst (v := 0) X.1 X.2.1 dX10_step_49 (by decide) ?_
    obtain ⟨g0_28, eg0_28, h⟩ := nm_el h
    refine r_put (C := RX10) (T := TX10) (N := 8) (ci := 10) tyX10 tyX10_ok nmX10 X iw10 hP (hD _) hS 0 rfl rfl 3 rfl mw_1_52 rfl rfl rfl rfl dX10_step_50 (wTp tc a0 g0_28) (by rw [eg0_28]; rfl) (fun H locs hP hS => ?_)
    refine lv_goto (tgt := 235) X.1 X.2.1 dX10_step_53 (by decide) ?_
    exact HJ235 x1_4 g0_28 H locs ls h hP hS (lv_sub hl [0, 1] rfl)

def f_X10_isName_L28 (k1 : Nat) (g0 : Pic) (n : Nat) (a : Int32) : Option ((Int32) ⊕ (Unit)) := lp (fun (rec : Int32 → Option ((Int32) ⊕ (Unit))) (a : Int32) => (fun (x2 : Int32) => bd (f_len k1) (fun r_2 => (if r_2 ≤ x2 then some (.inr ()) else gdi ((g0 4 0) + x2) 400 (bd (f_chr k1 x2) (fun r_4 => (if (g0 0 (((g0 4 0) + x2).toNatClampNeg)) = r_4 then nm (x2 + 1) (fun x2_5 => rec x2_5) else some (.inl 0))))))) a) n a
def f_X10_isName (k1 : Nat) (g0 : Pic) : Option (Int32) := jn (fun (_ : Unit) => some 0) (fun J24 => (if (g0 3 0) = 1 then bd (f_len k1) (fun r_1 => (if ((g0 5 0) - (g0 4 0)) = r_1 then lr (f_X10_isName_L28 k1 g0 fu 0) (fun a => a) (fun _ => some 1) else J24 ())) else J24 ()))
abbrev rm_X10_isName : Room := { frames := 4, cells := 0, slots := 0, locals := 111 }
set_option maxHeartbeats 4000000 in
set_option maxRecDepth 100000 in
theorem c_X10_isName (l : Launch) (dC : Nat → ClassId) (dI : Nat → Nat → Nat) (sk sv : Nat → Nat) (tc : Nat → ClassId) (k1 : Nat) (a0 : Nat → Nat) (g0 : Pic) {r0 : Int32} (h : f_X10_isName k1 g0 = some r0) (hk : k1 < strT.length) : CT l (dC, dI) sk sv (TY tc) yX10_isName cX10_isName 3 (some .boolean) rm_X10_isName [.ref (a0 0), .ref (sk k1)] (wTp tc a0 g0) (some (.int r0)) (wTp tc a0 g0) := by
  refine ofCT (by decide) (Nat.le_of_ble_eq_true rfl) ?_
  intro pr e s m args below meth c A Q ls H locs X hQ hD0 hP hS hl
  have hD : ∀ z0, va_D A (wTp tc a0 z0) := fun z0 => D_fst (ws := (wTp tc a0 g0)) rfl hD0
  have hl : lv_has ls 3 [(0, .ref (a0 0)), (1, .ref (sk k1))] := hl
  have HL28 : ∀ (n : Nat) (x2 : Int32) (ex : ((Int32) ⊕ (Unit))), f_X10_isName_L28 k1 g0 n x2 = some ex → (∀ rv, ex = .inl rv → rv = r0) → ∀ (H : Heap) (locs : List Loc) (ls : Array Slot), va_P (dC, dI) vwCl (wTp tc a0 g0) H → va_S A s.heap H locs → lv_has ls 3 [(0, .ref (a0 0)), (1, .ref (sk k1)), (2, .int x2)] → (.inr () = ex → ∀ (H : Heap) (locs : List Loc) (ls : Array Slot), va_P (dC, dI) vwCl (wTp tc a0 g0) H → va_S A s.heap H locs → lv_has ls 3 [] → W pr l e rm_X10_isName s m args below meth c H locs 0 0 Q (F0 m 63 ls [])) → W pr l e rm_X10_isName s m args below meth c H locs 0 0 Q (F0 m 28 ls []) := by
    intro n
    induction n with
    | zero => intro x2 ex h; exact lp_z h
    | succ n ih =>
      intro x2 ex h hR H locs ls hP hS hl K
      have h := lp_s h
      refine lv_iload_n X.1 X.2.1 dX10_isName_28 rfl (lv_at hl 2 rfl) ?_
      refine lv_aload_n X.1 X.2.1 dX10_isName_29 rfl (lv_at hl 1 rfl) ?_
      obtain ⟨r_2, hc_2, h⟩ := bd_el h
      refine call_R (As := []) (rest := [.int x2]) X (c_len l dC dI sk sv tc k1 hc_2 hk) mw_3_141 mw_3_142 mw_3_143 mw_1_14 mw_3_144 dc_J0_length_8abf5 ⟨Nat.le_of_ble_eq_true rfl, Nat.le_of_ble_eq_true rfl⟩ rfl rfl ⟨Nat.zero_le _, Nat.zero_le _⟩ hP (hD _) hS (X.2.2.2.2.2.2.2.2.2.1 k1 hk).1 hl.1 (Nat.le_of_ble_eq_true rfl) dX10_isName_30 (fun H locs hP hS => ?_)
      refine lv_icmp_ge (tgt := 63) X.1 X.2.1 dX10_isName_33 (by decide) (fun hc => ?_) (fun hc => ?_)
      · have h := it_t hc h
        exact K  (Option.some.inj h) H locs ls hP hS (lv_sub hl [] rfl)
      · have h := it_f hc h
        refine lv_aload_n X.1 X.2.1 dX10_isName_36 rfl (lv_at hl 0 rfl) ?_
        refine r_get (C := RX10) (T := TX10) (N := 8) (ci := 10) (v := .ref (a0 1)) X iw10 hP 0 rfl rfl 0 rfl mw_1_44 rfl dX10_isName_37 ?_
        refine lv_aload_n X.1 X.2.1 dX10_isName_40 rfl (lv_at hl 0 rfl) ?_
        refine r_get (C := RX10) (T := TX10) (N := 8) (ci := 10) (v := .int (g0 4 0)) X iw10 hP 0 rfl rfl 4 rfl mw_1_53 rfl dX10_isName_41 ?_
        refine lv_iload_n X.1 X.2.1 dX10_isName_44 rfl (lv_at hl 2 rfl) ?_
        refine lv_iadd X.1 X.2.1 dX10_isName_45 ?_
        obtain ⟨hg_3, h⟩ := gdi_el h
        refine r_iald X hP 1 0 rfl rfl hg_3 rfl dX10_isName_46 ?_
        refine lv_aload_n X.1 X.2.1 dX10_isName_47 rfl (lv_at hl 1 rfl) ?_
        refine lv_iload_n X.1 X.2.1 dX10_isName_48 rfl (lv_at hl 2 rfl) ?_
        obtain ⟨r_4, hc_4, h⟩ := bd_el h
        refine call_R (As := [.int x2]) (rest := [.int (g0 0 (((g0 4 0) + x2).toNatClampNeg))]) X (c_chr l dC dI sk sv tc k1 x2 hc_4 hk) mw_3_151 mw_3_152 mw_3_153 mw_1_14 mw_3_154 dc_J0_charAt_5068e ⟨Nat.le_of_ble_eq_true rfl, Nat.le_of_ble_eq_true rfl⟩ rfl rfl ⟨Nat.zero_le _, Nat.zero_le _⟩ hP (hD _) hS (X.2.2.2.2.2.2.2.2.2.1 k1 hk).1 hl.1 (Nat.le_of_ble_eq_true rfl) dX10_isName_49 (fun H locs hP hS => ?_)
        refine lv_icmp_eq (tgt := 57) X.1 X.2.1 dX10_isName_52 (by decide) (fun hc => ?_) (fun hc => ?_)
        · have h := it_t hc h
          obtain ⟨x2_5, ex2_5, h⟩ := nm_el h
          refine lv_iinc (v := x2_5) (lv' := [(2, .int x2_5), (0, .ref (a0 0)), (1, .ref (sk k1))]) X.1 X.2.1 dX10_isName_57 hl (k := 2) rfl (by rw [ex2_5]; rfl) (by decide) rfl (fun ls hl => ?_)
          refine lv_goto (tgt := 28) X.1 X.2.1 dX10_isName_60 (by decide) ?_
          exact ih x2_5 ex h hR H locs ls hP hS (lv_sub hl [1, 2, 0] rfl) K
        · have h := it_f hc h
          refine lv_iconst (v := 0) X.1 X.2.1 dX10_isName_55 (by decide) ?_
          exact ret_z0 (by decide) (hR _ (Option.some.inj h).symm) X hQ hP hS dX10_isName_56
  unfold f_X10_isName at h
  refine lv_aload_n X.1 X.2.1 dX10_isName_0 rfl (lv_at hl 0 rfl) ?_
  refine r_get (C := RX10) (T := TX10) (N := 8) (ci := 10) (v := .int (g0 3 0)) X iw10 hP 0 rfl rfl 3 rfl mw_1_52 rfl dX10_isName_1 ?_
  refine lv_iconst (v := 1) X.1 X.2.1 dX10_isName_4 (by decide) ?_
  obtain ⟨J24, eJ24, h⟩ := jn_el h
  have HJ24 : ∀ (_ : Unit) (H : Heap) (locs : List Loc) (ls : Array Slot), J24 () = some r0 → va_P (dC, dI) vwCl (wTp tc a0 g0) H → va_S A s.heap H locs → lv_has ls 3 [] → W pr l e rm_X10_isName s m args below meth c H locs 0 0 Q (F0 m 24 ls []) := by
    intro _ H locs ls h hP hS hl
    rw [eJ24] at h
    refine lv_iconst (v := 0) X.1 X.2.1 dX10_isName_24 (by decide) ?_
    exact ret_z0 (by decide) (Option.some.inj h) X hQ hP hS dX10_isName_25
  refine lv_icmp_ne (tgt := 24) X.1 X.2.1 dX10_isName_5 (by decide) (fun hc => ?_) (fun hc => ?_)
  · have h := it_f hc h
    exact HJ24 () H locs ls h hP hS (lv_sub hl [] rfl)
  · have h := it_t hc h
    refine lv_aload_n X.1 X.2.1 dX10_isName_8 rfl (lv_at hl 0 rfl) ?_
    refine r_get (C := RX10) (T := TX10) (N := 8) (ci := 10) (v := .int (g0 5 0)) X iw10 hP 0 rfl rfl 5 rfl mw_1_55 rfl dX10_isName_9 ?_
    refine lv_aload_n X.1 X.2.1 dX10_isName_12 rfl (lv_at hl 0 rfl) ?_
    refine r_get (C := RX10) (T := TX10) (N := 8) (ci := 10) (v := .int (g0 4 0)) X iw10 hP 0 rfl rfl 4 rfl mw_1_53 rfl dX10_isName_13 ?_
    refine lv_isub X.1 X.2.1 dX10_isName_16 ?_
    refine lv_aload_n X.1 X.2.1 dX10_isName_17 rfl (lv_at hl 1 rfl) ?_
    obtain ⟨r_1, hc_1, h⟩ := bd_el h
    refine call_R (As := []) (rest := [.int ((g0 5 0) - (g0 4 0))]) X (c_len l dC dI sk sv tc k1 hc_1 hk) mw_3_141 mw_3_142 mw_3_143 mw_1_14 mw_3_144 dc_J0_length_8abf5 ⟨Nat.le_of_ble_eq_true rfl, Nat.le_of_ble_eq_true rfl⟩ rfl rfl ⟨Nat.zero_le _, Nat.zero_le _⟩ hP (hD _) hS (X.2.2.2.2.2.2.2.2.2.1 k1 hk).1 hl.1 (Nat.le_of_ble_eq_true rfl) dX10_isName_18 (fun H locs hP hS => ?_)
    refine lv_icmp_eq (tgt := 26) X.1 X.2.1 dX10_isName_21 (by decide) (fun hc => ?_) (fun hc => ?_)
    · have h := it_t hc h
      refine lv_iconst (v := 0) X.1 X.2.1 dX10_isName_26 (by decide) ?_
      refine lv_istore_n (lv' := [(2, .int 0), (0, .ref (a0 0)), (1, .ref (sk k1))]) X.1 X.2.1 dX10_isName_27 rfl hl (by decide) rfl (fun ls hl => ?_)
      obtain ⟨ex_6, hL_6, h1_6, h2_6⟩ := lr_el h
      refine HL28  fu 0 ex_6 hL_6 (fun rv hq => h1_6 rv hq) H locs ls hP hS (lv_sub hl [1, 2, 0] rfl) (fun  he H locs ls hP hS hl => ?_)
      have h := h2_6 _ he.symm
      refine lv_iconst (v := 1) X.1 X.2.1 dX10_isName_63 (by decide) ?_
      exact ret_z0 (by decide) (Option.some.inj h) X hQ hP hS dX10_isName_64
    · have h := it_f hc h
      exact HJ24 () H locs ls h hP hS (lv_sub hl [] rfl)

def f_X10_takesName (k1 : Nat) (g0 : Pic) : Option (Int32 × Pic) := bd (f_X10_isName k1 g0) (fun r_1 => jn (fun (g0_J14 : Pic) => gdb r_1 (some (r_1, g0_J14))) (fun J14 => (if r_1 = 0 then J14 g0 else bd (f_X10_step g0) (fun g0_3 => J14 g0_3))))
abbrev rm_X10_takesName : Room := { frames := 5, cells := 0, slots := 0, locals := 133 }
set_option maxHeartbeats 4000000 in
set_option maxRecDepth 100000 in
theorem c_X10_takesName (l : Launch) (dC : Nat → ClassId) (dI : Nat → Nat → Nat) (sk sv : Nat → Nat) (tc : Nat → ClassId) (k1 : Nat) (a0 : Nat → Nat) (g0 : Pic) {r0 : Int32} {G0 : Pic} (h : f_X10_takesName k1 g0 = some (r0, G0)) (hk : k1 < strT.length) : CT l (dC, dI) sk sv (TY tc) yX10_takesName cX10_takesName 3 (some .boolean) rm_X10_takesName [.ref (a0 0), .ref (sk k1)] (wTp tc a0 g0) (some (.int r0)) (wTp tc a0 G0) := by
  refine ofCT (by decide) (Nat.le_of_ble_eq_true rfl) ?_
  intro pr e s m args below meth c A Q ls H locs X hQ hD0 hP hS hl
  have hD : ∀ z0, va_D A (wTp tc a0 z0) := fun z0 => D_fst (ws := (wTp tc a0 g0)) rfl hD0
  have hl : lv_has ls 3 [(0, .ref (a0 0)), (1, .ref (sk k1))] := hl
  unfold f_X10_takesName at h
  refine lv_aload_n X.1 X.2.1 dX10_takesName_0 rfl (lv_at hl 0 rfl) ?_
  refine lv_aload_n X.1 X.2.1 dX10_takesName_1 rfl (lv_at hl 1 rfl) ?_
  obtain ⟨r_1, hc_1, h⟩ := bd_el h
  refine call_V1i (As := [.ref (sk k1)]) (rest := []) X (c_X10_isName l dC dI sk sv tc k1 a0 g0 hc_1 hk) mw_3_207 mw_3_138 mw_3_139 mw_1_2 mw_3_140 dc_X10_isName ⟨Nat.le_of_ble_eq_true rfl, Nat.le_of_ble_eq_true rfl⟩ rfl rfl ⟨Nat.zero_le _, Nat.zero_le _⟩ hP (hD _) hS 0 rfl rfl rfl hl.1 (Nat.le_of_ble_eq_true rfl) dX10_takesName_2 (fun H locs hP hS => ?_)
  refine lv_istore_n (lv' := [(2, .int r_1), (0, .ref (a0 0)), (1, .ref (sk k1))]) X.1 X.2.1 dX10_takesName_5 rfl hl (by decide) rfl (fun ls hl => ?_)
  refine lv_iload_n X.1 X.2.1 dX10_takesName_6 rfl (lv_at hl 0 rfl) ?_
  obtain ⟨J14, eJ14, h⟩ := jn_el h
  have HJ14 : ∀ (g0_J14 : Pic) (H : Heap) (locs : List Loc) (ls : Array Slot), J14 g0_J14 = some (r0, G0) → va_P (dC, dI) vwCl (wTp tc a0 g0_J14) H → va_S A s.heap H locs → lv_has ls 3 [(2, .int r_1)] → W pr l e rm_X10_takesName s m args below meth c H locs 0 0 Q (F0 m 14 ls []) := by
    intro g0_J14 H locs ls h hP hS hl
    rw [eJ14] at h
    refine lv_iload_n X.1 X.2.1 dX10_takesName_14 rfl (lv_at hl 0 rfl) ?_
    obtain ⟨hg_2, h⟩ := gdb_el h
    exact ret_z (fun u => (wTp tc a0 u)) (res := (r0, G0)) hg_2 (Option.some.inj h) X hQ hP hS dX10_takesName_15
  refine lv_if_eq (tgt := 14) X.1 X.2.1 dX10_takesName_7 (by decide) (fun hc => ?_) (fun hc => ?_)
  · have h := it_t hc h
    exact HJ14 g0 H locs ls h hP hS (lv_sub hl [0] rfl)
  · have h := it_f hc h
    refine lv_aload_n X.1 X.2.1 dX10_takesName_10 rfl (lv_at hl 1 rfl) ?_
    obtain ⟨g0_3, hc_3, h⟩ := bd_el h
    refine call_V1v (As := []) (rest := []) X (c_X10_step l dC dI sk sv tc a0 g0 hc_3) mw_3_128 mw_3_129 mw_3_130 mw_1_2 mw_3_131 dc_X10_step ⟨Nat.le_of_ble_eq_true rfl, Nat.le_of_ble_eq_true rfl⟩ rfl rfl ⟨Nat.zero_le _, Nat.zero_le _⟩ hP (hD _) hS 0 rfl rfl rfl hl.1 (Nat.le_of_ble_eq_true rfl) dX10_takesName_11 (fun H locs hP hS => ?_)
    exact HJ14 g0_3 H locs ls h hP hS (lv_sub hl [0] rfl)

def f_X10_isSign (g0 : Pic) (x1 : Int32) : Option (Int32) := jn (fun (s0_J21 : Int32) => gdb s0_J21 (some s0_J21)) (fun J21 => jn (fun (_ : Unit) => J21 0) (fun J20 => (if (g0 3 0) = 3 then (if (g0 6 0) = x1 then J21 1 else J20 ()) else J20 ())))
abbrev rm_X10_isSign : Room := { frames := 0, cells := 0, slots := 0, locals := 0 }
set_option maxHeartbeats 4000000 in
set_option maxRecDepth 100000 in
theorem c_X10_isSign (l : Launch) (dC : Nat → ClassId) (dI : Nat → Nat → Nat) (sk sv : Nat → Nat) (tc : Nat → ClassId) (a0 : Nat → Nat) (g0 : Pic) (x1 : Int32) {r0 : Int32} (h : f_X10_isSign g0 x1 = some r0) : CT l (dC, dI) sk sv (TY tc) yX10_isSign cX10_isSign 2 (some .boolean) rm_X10_isSign [.ref (a0 0), .int x1] (wTp tc a0 g0) (some (.int r0)) (wTp tc a0 g0) := by
  refine ofCT (by decide) (Nat.le_of_ble_eq_true rfl) ?_
  intro pr e s m args below meth c A Q ls H locs X hQ hD0 hP hS hl
  have hD : ∀ z0, va_D A (wTp tc a0 z0) := fun z0 => D_fst (ws := (wTp tc a0 g0)) rfl hD0
  have hl : lv_has ls 2 [(0, .ref (a0 0)), (1, .int x1)] := hl
  unfold f_X10_isSign at h
  refine lv_aload_n X.1 X.2.1 dX10_isSign_0 rfl (lv_at hl 0 rfl) ?_
  refine r_get (C := RX10) (T := TX10) (N := 8) (ci := 10) (v := .int (g0 3 0)) X iw10 hP 0 rfl rfl 3 rfl mw_1_52 rfl dX10_isSign_1 ?_
  refine lv_iconst (v := 3) X.1 X.2.1 dX10_isSign_4 (by decide) ?_
  obtain ⟨J21, eJ21, h⟩ := jn_el h
  have HJ21 : ∀ (s0_J21 : Int32) (H : Heap) (locs : List Loc) (ls : Array Slot), J21 s0_J21 = some r0 → va_P (dC, dI) vwCl (wTp tc a0 g0) H → va_S A s.heap H locs → lv_has ls 2 [] → W pr l e rm_X10_isSign s m args below meth c H locs 0 0 Q (F0 m 21 ls [.int s0_J21]) := by
    intro s0_J21 H locs ls h hP hS hl
    rw [eJ21] at h
    obtain ⟨hg_1, h⟩ := gdb_el h
    exact ret_z0 hg_1 (Option.some.inj h) X hQ hP hS dX10_isSign_21
  obtain ⟨J20, eJ20, h⟩ := jn_el h
  have HJ20 : ∀ (_ : Unit) (H : Heap) (locs : List Loc) (ls : Array Slot), J20 () = some r0 → va_P (dC, dI) vwCl (wTp tc a0 g0) H → va_S A s.heap H locs → lv_has ls 2 [] → W pr l e rm_X10_isSign s m args below meth c H locs 0 0 Q (F0 m 20 ls []) := by
    intro _ H locs ls h hP hS hl
    rw [eJ20] at h
    refine lv_iconst (v := 0) X.1 X.2.1 dX10_isSign_20 (by decide) ?_
    exact HJ21 0 H locs ls h hP hS (lv_sub hl [] rfl)
  refine lv_icmp_ne (tgt := 20) X.1 X.2.1 dX10_isSign_5 (by decide) (fun hc => ?_) (fun hc => ?_)
  · have h := it_f hc h
    exact HJ20 () H locs ls h hP hS (lv_sub hl [] rfl)
  · have h := it_t hc h
    refine lv_aload_n X.1 X.2.1 dX10_isSign_8 rfl (lv_at hl 0 rfl) ?_
    refine r_get (C := RX10) (T := TX10) (N := 8) (ci := 10) (v := .int (g0 6 0)) X iw10 hP 0 rfl rfl 6 rfl mw_1_57 rfl dX10_isSign_9 ?_
    refine lv_iload_n X.1 X.2.1 dX10_isSign_12 rfl (lv_at hl 1 rfl) ?_
    refine lv_icmp_ne (tgt := 20) X.1 X.2.1 dX10_isSign_13 (by decide) (fun hc => ?_) (fun hc => ?_)
    · have h := it_f hc h
      exact HJ20 () H locs ls h hP hS (lv_sub hl [] rfl)
    · have h := it_t hc h
      refine lv_iconst (v := 1) X.1 X.2.1 dX10_isSign_16 (by decide) ?_
      refine lv_goto (tgt := 21) X.1 X.2.1 dX10_isSign_17 (by decide) ?_
      exact HJ21 1 H locs ls h hP hS (lv_sub hl [] rfl)

def f_X10_takesSign (g0 : Pic) (x1 : Int32) : Option (Int32 × Pic) := bd (f_X10_isSign g0 x1) (fun r_1 => jn (fun (g0_J14 : Pic) => gdb r_1 (some (r_1, g0_J14))) (fun J14 => (if r_1 = 0 then J14 g0 else bd (f_X10_step g0) (fun g0_3 => J14 g0_3))))
abbrev rm_X10_takesSign : Room := { frames := 1, cells := 0, slots := 0, locals := 21 }
set_option maxHeartbeats 4000000 in
set_option maxRecDepth 100000 in
theorem c_X10_takesSign (l : Launch) (dC : Nat → ClassId) (dI : Nat → Nat → Nat) (sk sv : Nat → Nat) (tc : Nat → ClassId) (a0 : Nat → Nat) (g0 : Pic) (x1 : Int32) {r0 : Int32} {G0 : Pic} (h : f_X10_takesSign g0 x1 = some (r0, G0)) : CT l (dC, dI) sk sv (TY tc) yX10_takesSign cX10_takesSign 3 (some .boolean) rm_X10_takesSign [.ref (a0 0), .int x1] (wTp tc a0 g0) (some (.int r0)) (wTp tc a0 G0) := by
  refine ofCT (by decide) (Nat.le_of_ble_eq_true rfl) ?_
  intro pr e s m args below meth c A Q ls H locs X hQ hD0 hP hS hl
  have hD : ∀ z0, va_D A (wTp tc a0 z0) := fun z0 => D_fst (ws := (wTp tc a0 g0)) rfl hD0
  have hl : lv_has ls 3 [(0, .ref (a0 0)), (1, .int x1)] := hl
  unfold f_X10_takesSign at h
  refine lv_aload_n X.1 X.2.1 dX10_takesSign_0 rfl (lv_at hl 0 rfl) ?_
  refine lv_iload_n X.1 X.2.1 dX10_takesSign_1 rfl (lv_at hl 1 rfl) ?_
  obtain ⟨r_1, hc_1, h⟩ := bd_el h
  refine call_V1i (As := [.int x1]) (rest := []) X (c_X10_isSign l dC dI sk sv tc a0 g0 x1 hc_1) mw_4_2 mw_4_3 mw_4_4 mw_1_2 mw_4_5 dc_X10_isSign ⟨Nat.le_of_ble_eq_true rfl, Nat.le_of_ble_eq_true rfl⟩ rfl rfl ⟨Nat.zero_le _, Nat.zero_le _⟩ hP (hD _) hS 0 rfl rfl rfl hl.1 (Nat.le_of_ble_eq_true rfl) dX10_takesSign_2 (fun H locs hP hS => ?_)
  refine lv_istore_n (lv' := [(2, .int r_1), (0, .ref (a0 0)), (1, .int x1)]) X.1 X.2.1 dX10_takesSign_5 rfl hl (by decide) rfl (fun ls hl => ?_)
  refine lv_iload_n X.1 X.2.1 dX10_takesSign_6 rfl (lv_at hl 0 rfl) ?_
  obtain ⟨J14, eJ14, h⟩ := jn_el h
  have HJ14 : ∀ (g0_J14 : Pic) (H : Heap) (locs : List Loc) (ls : Array Slot), J14 g0_J14 = some (r0, G0) → va_P (dC, dI) vwCl (wTp tc a0 g0_J14) H → va_S A s.heap H locs → lv_has ls 3 [(2, .int r_1)] → W pr l e rm_X10_takesSign s m args below meth c H locs 0 0 Q (F0 m 14 ls []) := by
    intro g0_J14 H locs ls h hP hS hl
    rw [eJ14] at h
    refine lv_iload_n X.1 X.2.1 dX10_takesSign_14 rfl (lv_at hl 0 rfl) ?_
    obtain ⟨hg_2, h⟩ := gdb_el h
    exact ret_z (fun u => (wTp tc a0 u)) (res := (r0, G0)) hg_2 (Option.some.inj h) X hQ hP hS dX10_takesSign_15
  refine lv_if_eq (tgt := 14) X.1 X.2.1 dX10_takesSign_7 (by decide) (fun hc => ?_) (fun hc => ?_)
  · have h := it_t hc h
    exact HJ14 g0 H locs ls h hP hS (lv_sub hl [0] rfl)
  · have h := it_f hc h
    refine lv_aload_n X.1 X.2.1 dX10_takesSign_10 rfl (lv_at hl 1 rfl) ?_
    obtain ⟨g0_3, hc_3, h⟩ := bd_el h
    refine call_V1v (As := []) (rest := []) X (c_X10_step l dC dI sk sv tc a0 g0 hc_3) mw_3_128 mw_3_129 mw_3_130 mw_1_2 mw_3_131 dc_X10_step ⟨Nat.le_of_ble_eq_true rfl, Nat.le_of_ble_eq_true rfl⟩ rfl rfl ⟨Nat.zero_le _, Nat.zero_le _⟩ hP (hD _) hS 0 rfl rfl rfl hl.1 (Nat.le_of_ble_eq_true rfl) dX10_takesSign_11 (fun H locs hP hS => ?_)
    exact HJ14 g0_3 H locs ls h hP hS (lv_sub hl [0] rfl)

def f_X10_letterOfName (g0 : Pic) (x1 : Int32) : Option (Int32) := gdi ((g0 4 0) + x1) 400 (nm (((g0 0 (((g0 4 0) + x1).toNatClampNeg)) - 97)) (fun x2_2 => jn (fun (s0_J30 : Int32) => some s0_J30) (fun J30 => jn (fun (_ : Unit) => J30 (-1)) (fun J25 => (if x2_2 < 0 then J25 () else (if x2_2 < 8 then J30 x2_2 else J25 ()))))))
abbrev rm_X10_letterOfName : Room := { frames := 0, cells := 0, slots := 0, locals := 0 }
set_option maxHeartbeats 4000000 in
set_option maxRecDepth 100000 in
theorem c_X10_letterOfName (l : Launch) (dC : Nat → ClassId) (dI : Nat → Nat → Nat) (sk sv : Nat → Nat) (tc : Nat → ClassId) (a0 : Nat → Nat) (g0 : Pic) (x1 : Int32) {r0 : Int32} (h : f_X10_letterOfName g0 x1 = some r0) : CT l (dC, dI) sk sv (TY tc) yX10_letterOfName cX10_letterOfName 3 (some .int) rm_X10_letterOfName [.ref (a0 0), .int x1] (wTp tc a0 g0) (some (.int r0)) (wTp tc a0 g0) := by
  refine ofCT (by decide) (Nat.le_of_ble_eq_true rfl) ?_
  intro pr e s m args below meth c A Q ls H locs X hQ hD0 hP hS hl
  have hD : ∀ z0, va_D A (wTp tc a0 z0) := fun z0 => D_fst (ws := (wTp tc a0 g0)) rfl hD0
  have hl : lv_has ls 3 [(0, .ref (a0 0)), (1, .int x1)] := hl
  unfold f_X10_letterOfName at h
  refine lv_aload_n X.1 X.2.1 dX10_letterOfName_0 rfl (lv_at hl 0 rfl) ?_
  refine r_get (C := RX10) (T := TX10) (N := 8) (ci := 10) (v := .ref (a0 1)) X iw10 hP 0 rfl rfl 0 rfl mw_1_44 rfl dX10_letterOfName_1 ?_
  refine lv_aload_n X.1 X.2.1 dX10_letterOfName_4 rfl (lv_at hl 0 rfl) ?_
  refine r_get (C := RX10) (T := TX10) (N := 8) (ci := 10) (v := .int (g0 4 0)) X iw10 hP 0 rfl rfl 4 rfl mw_1_53 rfl dX10_letterOfName_5 ?_
  refine lv_iload_n X.1 X.2.1 dX10_letterOfName_8 rfl (lv_at hl 1 rfl) ?_
  refine lv_iadd X.1 X.2.1 dX10_letterOfName_9 ?_
  obtain ⟨hg_1, h⟩ := gdi_el h
  refine r_iald X hP 1 0 rfl rfl hg_1 rfl dX10_letterOfName_10 ?_
  refine lv_bipush (v := 97) X.1 X.2.1 dX10_letterOfName_11 (by decide) ?_
  refine lv_isub X.1 X.2.1 dX10_letterOfName_13 ?_
  obtain ⟨x2_2, ex2_2, h⟩ := nm_el h
  refine tp_i ex2_2 ?_
  refine lv_istore_n (lv' := [(2, .int x2_2), (0, .ref (a0 0)), (1, .int x1)]) X.1 X.2.1 dX10_letterOfName_14 rfl hl (by decide) rfl (fun ls hl => ?_)
  refine lv_iload_n X.1 X.2.1 dX10_letterOfName_15 rfl (lv_at hl 0 rfl) ?_
  obtain ⟨J30, eJ30, h⟩ := jn_el h
  have HJ30 : ∀ (s0_J30 : Int32) (H : Heap) (locs : List Loc) (ls : Array Slot), J30 s0_J30 = some r0 → va_P (dC, dI) vwCl (wTp tc a0 g0) H → va_S A s.heap H locs → lv_has ls 3 [] → W pr l e rm_X10_letterOfName s m args below meth c H locs 0 0 Q (F0 m 30 ls [.int s0_J30]) := by
    intro s0_J30 H locs ls h hP hS hl
    rw [eJ30] at h
    exact ret_i0 (Option.some.inj h) X hQ hP hS dX10_letterOfName_30
  obtain ⟨J25, eJ25, h⟩ := jn_el h
  have HJ25 : ∀ (_ : Unit) (H : Heap) (locs : List Loc) (ls : Array Slot), J25 () = some r0 → va_P (dC, dI) vwCl (wTp tc a0 g0) H → va_S A s.heap H locs → lv_has ls 3 [] → W pr l e rm_X10_letterOfName s m args below meth c H locs 0 0 Q (F0 m 25 ls []) := by
    intro _ H locs ls h hP hS hl
    rw [eJ25] at h
    refine lv_iconst (v := (-1)) X.1 X.2.1 dX10_letterOfName_25 (by decide) ?_
    refine lv_goto (tgt := 30) X.1 X.2.1 dX10_letterOfName_26 (by decide) ?_
    exact HJ30 (-1) H locs ls h hP hS (lv_sub hl [] rfl)
  refine lv_if_lt (tgt := 25) X.1 X.2.1 dX10_letterOfName_16 (by decide) (fun hc => ?_) (fun hc => ?_)
  · have h := it_t hc h
    exact HJ25 () H locs ls h hP hS (lv_sub hl [] rfl)
  · have h := it_f hc h
    refine lv_iload_n X.1 X.2.1 dX10_letterOfName_19 rfl (lv_at hl 0 rfl) ?_
    refine lv_bipush (v := 8) X.1 X.2.1 dX10_letterOfName_20 (by decide) ?_
    refine lv_icmp_lt (tgt := 29) X.1 X.2.1 dX10_letterOfName_22 (by decide) (fun hc => ?_) (fun hc => ?_)
    · have h := it_t hc h
      refine lv_iload_n X.1 X.2.1 dX10_letterOfName_29 rfl (lv_at hl 0 rfl) ?_
      exact HJ30 x2_2 H locs ls h hP hS (lv_sub hl [] rfl)
    · have h := it_f hc h
      exact HJ25 () H locs ls h hP hS (lv_sub hl [] rfl)

def f_X10_refuse (g0 : Pic) : Option (Int32 × Pic) := jn (fun (g0_J16 : Pic) => some (0, g0_J16)) (fun J16 => (if (g0 7 0) = (-1) then nm (pu g0 7 0 (g0 4 0)) (fun g0_1 => J16 g0_1) else J16 g0))
abbrev rm_X10_refuse : Room := { frames := 0, cells := 0, slots := 0, locals := 0 }
set_option maxHeartbeats 4000000 in
set_option maxRecDepth 100000 in
theorem c_X10_refuse (l : Launch) (dC : Nat → ClassId) (dI : Nat → Nat → Nat) (sk sv : Nat → Nat) (tc : Nat → ClassId) (a0 : Nat → Nat) (g0 : Pic) {r0 : Int32} {G0 : Pic} (h : f_X10_refuse g0 = some (r0, G0)) : CT l (dC, dI) sk sv (TY tc) yX10_refuse cX10_refuse 1 (some .boolean) rm_X10_refuse [.ref (a0 0)] (wTp tc a0 g0) (some (.int r0)) (wTp tc a0 G0) := by
  refine ofCT (by decide) (Nat.le_of_ble_eq_true rfl) ?_
  intro pr e s m args below meth c A Q ls H locs X hQ hD0 hP hS hl
  have hD : ∀ z0, va_D A (wTp tc a0 z0) := fun z0 => D_fst (ws := (wTp tc a0 g0)) rfl hD0
  have hl : lv_has ls 1 [(0, .ref (a0 0))] := hl
  unfold f_X10_refuse at h
  refine lv_aload_n X.1 X.2.1 dX10_refuse_0 rfl (lv_at hl 0 rfl) ?_
  refine r_get (C := RX10) (T := TX10) (N := 8) (ci := 10) (v := .int (g0 7 0)) X iw10 hP 0 rfl rfl 7 rfl mw_1_59 rfl dX10_refuse_1 ?_
  refine lv_iconst (v := (-1)) X.1 X.2.1 dX10_refuse_4 (by decide) ?_
  obtain ⟨J16, eJ16, h⟩ := jn_el h
  have HJ16 : ∀ (g0_J16 : Pic) (H : Heap) (locs : List Loc) (ls : Array Slot), J16 g0_J16 = some (r0, G0) → va_P (dC, dI) vwCl (wTp tc a0 g0_J16) H → va_S A s.heap H locs → lv_has ls 1 [] → W pr l e rm_X10_refuse s m args below meth c H locs 0 0 Q (F0 m 16 ls []) := by
    intro g0_J16 H locs ls h hP hS hl
    rw [eJ16] at h
    refine lv_iconst (v := 0) X.1 X.2.1 dX10_refuse_16 (by decide) ?_
    exact ret_z (fun u => (wTp tc a0 u)) (res := (r0, G0)) (by decide) (Option.some.inj h) X hQ hP hS dX10_refuse_17
  refine lv_icmp_ne (tgt := 16) X.1 X.2.1 dX10_refuse_5 (by decide) (fun hc => ?_) (fun hc => ?_)
  · have h := it_f hc h
    exact HJ16 g0 H locs ls h hP hS (lv_sub hl [] rfl)
  · have h := it_t hc h
    refine lv_aload_n X.1 X.2.1 dX10_refuse_8 rfl (lv_at hl 0 rfl) ?_
    refine lv_aload_n X.1 X.2.1 dX10_refuse_9 rfl (lv_at hl 0 rfl) ?_
    refine r_get (C := RX10) (T := TX10) (N := 8) (ci := 10) (v := .int (g0 4 0)) X iw10 hP 0 rfl rfl 4 rfl mw_1_53 rfl dX10_refuse_10 ?_
    obtain ⟨g0_1, eg0_1, h⟩ := nm_el h
    refine r_put (C := RX10) (T := TX10) (N := 8) (ci := 10) tyX10 tyX10_ok nmX10 X iw10 hP (hD _) hS 0 rfl rfl 7 rfl mw_1_59 rfl rfl rfl rfl dX10_refuse_13 (wTp tc a0 g0_1) (by rw [eg0_1]; rfl) (fun H locs hP hS => ?_)
    exact HJ16 g0_1 H locs ls h hP hS (lv_sub hl [] rfl)

def f_X10_open (g0 : Pic) : Option (Pic) := nm (pu g0 2 0 (g0 1 0)) (fun g0_1 => nm (pu g0_1 1 0 0) (fun g0_2 => nm (pu g0_2 5 0 0) (fun g0_3 => nm (pu g0_3 7 0 (-1)) (fun g0_4 => bd (f_X10_step g0_4) (fun g0_5 => some g0_5)))))
abbrev rm_X10_open : Room := { frames := 1, cells := 0, slots := 0, locals := 21 }
set_option maxHeartbeats 4000000 in
set_option maxRecDepth 100000 in
theorem c_X10_open (l : Launch) (dC : Nat → ClassId) (dI : Nat → Nat → Nat) (sk sv : Nat → Nat) (tc : Nat → ClassId) (a0 : Nat → Nat) (g0 : Pic) {G0 : Pic} (h : f_X10_open g0 = some G0) : CT l (dC, dI) sk sv (TY tc) yX10_open cX10_open 1 none rm_X10_open [.ref (a0 0)] (wTp tc a0 g0) none (wTp tc a0 G0) := by
  refine ofCT (by decide) (Nat.le_of_ble_eq_true rfl) ?_
  intro pr e s m args below meth c A Q ls H locs X hQ hD0 hP hS hl
  have hD : ∀ z0, va_D A (wTp tc a0 z0) := fun z0 => D_fst (ws := (wTp tc a0 g0)) rfl hD0
  have hl : lv_has ls 1 [(0, .ref (a0 0))] := hl
  unfold f_X10_open at h
  refine lv_aload_n X.1 X.2.1 dX10_open_0 rfl (lv_at hl 0 rfl) ?_
  refine lv_aload_n X.1 X.2.1 dX10_open_1 rfl (lv_at hl 0 rfl) ?_
  refine r_get (C := RX10) (T := TX10) (N := 8) (ci := 10) (v := .int (g0 1 0)) X iw10 hP 0 rfl rfl 1 rfl mw_1_47 rfl dX10_open_2 ?_
  obtain ⟨g0_1, eg0_1, h⟩ := nm_el h
  refine r_put (C := RX10) (T := TX10) (N := 8) (ci := 10) tyX10 tyX10_ok nmX10 X iw10 hP (hD _) hS 0 rfl rfl 2 rfl mw_1_49 rfl rfl rfl rfl dX10_open_5 (wTp tc a0 g0_1) (by rw [eg0_1]; rfl) (fun H locs hP hS => ?_)
  refine lv_aload_n X.1 X.2.1 dX10_open_8 rfl (lv_at hl 0 rfl) ?_
  refine lv_iconst (v := 0) X.1 X.2.1 dX10_open_9 (by decide) ?_
  obtain ⟨g0_2, eg0_2, h⟩ := nm_el h
  refine r_put (C := RX10) (T := TX10) (N := 8) (ci := 10) tyX10 tyX10_ok nmX10 X iw10 hP (hD _) hS 0 rfl rfl 1 rfl mw_1_47 rfl rfl rfl rfl dX10_open_10 (wTp tc a0 g0_2) (by rw [eg0_2]; rfl) (fun H locs hP hS => ?_)
  refine lv_aload_n X.1 X.2.1 dX10_open_13 rfl (lv_at hl 0 rfl) ?_
  refine lv_iconst (v := 0) X.1 X.2.1 dX10_open_14 (by decide) ?_
  obtain ⟨g0_3, eg0_3, h⟩ := nm_el h
  refine r_put (C := RX10) (T := TX10) (N := 8) (ci := 10) tyX10 tyX10_ok nmX10 X iw10 hP (hD _) hS 0 rfl rfl 5 rfl mw_1_55 rfl rfl rfl rfl dX10_open_15 (wTp tc a0 g0_3) (by rw [eg0_3]; rfl) (fun H locs hP hS => ?_)
  refine lv_aload_n X.1 X.2.1 dX10_open_18 rfl (lv_at hl 0 rfl) ?_
  refine lv_iconst (v := (-1)) X.1 X.2.1 dX10_open_19 (by decide) ?_
  obtain ⟨g0_4, eg0_4, h⟩ := nm_el h
  refine r_put (C := RX10) (T := TX10) (N := 8) (ci := 10) tyX10 tyX10_ok nmX10 X iw10 hP (hD _) hS 0 rfl rfl 7 rfl mw_1_59 rfl rfl rfl rfl dX10_open_20 (wTp tc a0 g0_4) (by rw [eg0_4]; rfl) (fun H locs hP hS => ?_)
  refine lv_aload_n X.1 X.2.1 dX10_open_23 rfl (lv_at hl 0 rfl) ?_
  obtain ⟨g0_5, hc_5, h⟩ := bd_el h
  refine call_V1v (As := []) (rest := []) X (c_X10_step l dC dI sk sv tc a0 g0_4 hc_5) mw_3_128 mw_3_129 mw_3_130 mw_1_2 mw_3_131 dc_X10_step ⟨Nat.le_of_ble_eq_true rfl, Nat.le_of_ble_eq_true rfl⟩ rfl rfl ⟨Nat.zero_le _, Nat.zero_le _⟩ hP (hD _) hS 0 rfl rfl rfl hl.1 (Nat.le_of_ble_eq_true rfl) dX10_open_24 (fun H locs hP hS => ?_)
  exact ret_v (fun u => (wTp tc a0 u)) (res := G0) (Option.some.inj h) X hQ hP hS dX10_open_27

def f_X10_takeNumber (g0 : Pic) (x1 : Int32) (x2 : Int32) : Option (Int32 × Pic) := jn (fun (_ : Unit) => bd2 (f_X10_refuse g0) (fun r_1 g0_1 => some ((-1), g0_1))) (fun J24 => (if (g0 3 0) = 2 then (if (g0 6 0) < x1 then J24 () else (if (g0 6 0) ≤ x2 then nm ((g0 6 0)) (fun x3_2 => bd (f_X10_step g0) (fun g0_3 => some (x3_2, g0_3))) else J24 ())) else J24 ()))
abbrev rm_X10_takeNumber : Room := { frames := 1, cells := 0, slots := 0, locals := 21 }
set_option maxHeartbeats 4000000 in
set_option maxRecDepth 100000 in
theorem c_X10_takeNumber (l : Launch) (dC : Nat → ClassId) (dI : Nat → Nat → Nat) (sk sv : Nat → Nat) (tc : Nat → ClassId) (a0 : Nat → Nat) (g0 : Pic) (x1 : Int32) (x2 : Int32) {r0 : Int32} {G0 : Pic} (h : f_X10_takeNumber g0 x1 x2 = some (r0, G0)) : CT l (dC, dI) sk sv (TY tc) yX10_takeNumber cX10_takeNumber 4 (some .int) rm_X10_takeNumber [.ref (a0 0), .int x1, .int x2] (wTp tc a0 g0) (some (.int r0)) (wTp tc a0 G0) := by
  refine ofCT (by decide) (Nat.le_of_ble_eq_true rfl) ?_
  intro pr e s m args below meth c A Q ls H locs X hQ hD0 hP hS hl
  have hD : ∀ z0, va_D A (wTp tc a0 z0) := fun z0 => D_fst (ws := (wTp tc a0 g0)) rfl hD0
  have hl : lv_has ls 4 [(0, .ref (a0 0)), (1, .int x1), (2, .int x2)] := hl
  unfold f_X10_takeNumber at h
  refine lv_aload_n X.1 X.2.1 dX10_takeNumber_0 rfl (lv_at hl 0 rfl) ?_
  refine r_get (C := RX10) (T := TX10) (N := 8) (ci := 10) (v := .int (g0 3 0)) X iw10 hP 0 rfl rfl 3 rfl mw_1_52 rfl dX10_takeNumber_1 ?_
  refine lv_iconst (v := 2) X.1 X.2.1 dX10_takeNumber_4 (by decide) ?_
  obtain ⟨J24, eJ24, h⟩ := jn_el h
  have HJ24 : ∀ (_ : Unit) (H : Heap) (locs : List Loc) (ls : Array Slot), J24 () = some (r0, G0) → va_P (dC, dI) vwCl (wTp tc a0 g0) H → va_S A s.heap H locs → lv_has ls 4 [(0, .ref (a0 0))] → W pr l e rm_X10_takeNumber s m args below meth c H locs 0 0 Q (F0 m 24 ls []) := by
    intro _ H locs ls h hP hS hl
    rw [eJ24] at h
    refine lv_aload_n X.1 X.2.1 dX10_takeNumber_24 rfl (lv_at hl 0 rfl) ?_
    obtain ⟨r_1, g0_1, hc_1, h⟩ := bd2_el h
    refine call_V1i (As := []) (rest := []) X (c_X10_refuse l dC dI sk sv tc a0 g0 hc_1) mw_3_212 mw_3_194 mw_3_195 mw_1_2 mw_3_196 dc_X10_refuse ⟨Nat.le_of_ble_eq_true rfl, Nat.le_of_ble_eq_true rfl⟩ rfl rfl ⟨Nat.zero_le _, Nat.zero_le _⟩ hP (hD _) hS 0 rfl rfl rfl hl.1 (Nat.le_of_ble_eq_true rfl) dX10_takeNumber_25 (fun H locs hP hS => ?_)
    refine lv_pop X.1 X.2.1 dX10_takeNumber_28 rfl ?_
    refine lv_iconst (v := (-1)) X.1 X.2.1 dX10_takeNumber_29 (by decide) ?_
    exact ret_i (fun u => (wTp tc a0 u)) (res := (r0, G0)) (Option.some.inj h) X hQ hP hS dX10_takeNumber_30
  refine lv_icmp_ne (tgt := 24) X.1 X.2.1 dX10_takeNumber_5 (by decide) (fun hc => ?_) (fun hc => ?_)
  · have h := it_f hc h
    exact HJ24 () H locs ls h hP hS (lv_sub hl [0] rfl)
  · have h := it_t hc h
    refine lv_aload_n X.1 X.2.1 dX10_takeNumber_8 rfl (lv_at hl 0 rfl) ?_
    refine r_get (C := RX10) (T := TX10) (N := 8) (ci := 10) (v := .int (g0 6 0)) X iw10 hP 0 rfl rfl 6 rfl mw_1_57 rfl dX10_takeNumber_9 ?_
    refine lv_iload_n X.1 X.2.1 dX10_takeNumber_12 rfl (lv_at hl 1 rfl) ?_
    refine lv_icmp_lt (tgt := 24) X.1 X.2.1 dX10_takeNumber_13 (by decide) (fun hc => ?_) (fun hc => ?_)
    · have h := it_t hc h
      exact HJ24 () H locs ls h hP hS (lv_sub hl [0] rfl)
    · have h := it_f hc h
      refine lv_aload_n X.1 X.2.1 dX10_takeNumber_16 rfl (lv_at hl 0 rfl) ?_
      refine r_get (C := RX10) (T := TX10) (N := 8) (ci := 10) (v := .int (g0 6 0)) X iw10 hP 0 rfl rfl 6 rfl mw_1_57 rfl dX10_takeNumber_17 ?_
      refine lv_iload_n X.1 X.2.1 dX10_takeNumber_20 rfl (lv_at hl 2 rfl) ?_
      refine lv_icmp_le (tgt := 31) X.1 X.2.1 dX10_takeNumber_21 (by decide) (fun hc => ?_) (fun hc => ?_)
      · have h := it_t hc h
        refine lv_aload_n X.1 X.2.1 dX10_takeNumber_31 rfl (lv_at hl 0 rfl) ?_
        refine r_get (C := RX10) (T := TX10) (N := 8) (ci := 10) (v := .int (g0 6 0)) X iw10 hP 0 rfl rfl 6 rfl mw_1_57 rfl dX10_takeNumber_32 ?_
        obtain ⟨x3_2, ex3_2, h⟩ := nm_el h
        refine tp_i ex3_2 ?_
        refine lv_istore_n (lv' := [(3, .int x3_2), (0, .ref (a0 0)), (1, .int x1), (2, .int x2)]) X.1 X.2.1 dX10_takeNumber_35 rfl hl (by decide) rfl (fun ls hl => ?_)
        refine lv_aload_n X.1 X.2.1 dX10_takeNumber_36 rfl (lv_at hl 1 rfl) ?_
        obtain ⟨g0_3, hc_3, h⟩ := bd_el h
        refine call_V1v (As := []) (rest := []) X (c_X10_step l dC dI sk sv tc a0 g0 hc_3) mw_3_128 mw_3_129 mw_3_130 mw_1_2 mw_3_131 dc_X10_step ⟨Nat.le_of_ble_eq_true rfl, Nat.le_of_ble_eq_true rfl⟩ rfl rfl ⟨Nat.zero_le _, Nat.zero_le _⟩ hP (hD _) hS 0 rfl rfl rfl hl.1 (Nat.le_of_ble_eq_true rfl) dX10_takeNumber_37 (fun H locs hP hS => ?_)
        refine lv_iload_n X.1 X.2.1 dX10_takeNumber_40 rfl (lv_at hl 0 rfl) ?_
        exact ret_i (fun u => (wTp tc a0 u)) (res := (r0, G0)) (Option.some.inj h) X hQ hP hS dX10_takeNumber_41
      · have h := it_f hc h
        exact HJ24 () H locs ls h hP hS (lv_sub hl [0] rfl)

def f_X4_join (ln0 : Nat → Nat) (g0 : Pic) (x1 : Int32) (x2 : Int32) (x3 : Int32) : Option (Int32) := (if x1 = 2001 then some (x2 &&& x3) else (if x1 = 2002 then some (x2 ||| x3) else (if x1 = 2003 then jn (fun (s0_J50 : Int32) => some s0_J50) (fun J50 => (if x3 ≤ x2 then J50 0 else J50 1)) else (if x1 = 2004 then jn (fun (s0_J61 : Int32) => some s0_J61) (fun J61 => (if x2 ≤ x3 then J61 0 else J61 1)) else some (x2 + x3)))))
abbrev rm_X4_join : Room := { frames := 0, cells := 0, slots := 0, locals := 0 }
set_option maxHeartbeats 4000000 in
set_option maxRecDepth 100000 in
theorem c_X4_join (l : Launch) (dC : Nat → ClassId) (dI : Nat → Nat → Nat) (sk sv : Nat → Nat) (tc : Nat → ClassId) (ln0 : Nat → Nat) (a0 : Nat → Nat) (g0 : Pic) (x1 : Int32) (x2 : Int32) (x3 : Int32) {r0 : Int32} (h : f_X4_join ln0 g0 x1 x2 x3 = some r0) : CT l (dC, dI) sk sv (TY tc) yX4_join cX4_join 4 (some .int) rm_X4_join [.ref (a0 0), .int x1, .int x2, .int x3] (wLw tc a0 g0 ln0) (some (.int r0)) (wLw tc a0 g0 ln0) := by
  refine ofCT (by decide) (Nat.le_of_ble_eq_true rfl) ?_
  intro pr e s m args below meth c A Q ls H locs X hQ hD0 hP hS hl
  have hD : ∀ z0, va_D A (wLw tc a0 z0 ln0) := fun z0 => D_fst (ws := (wLw tc a0 g0 ln0)) rfl hD0
  have hl : lv_has ls 4 [(0, .ref (a0 0)), (1, .int x1), (2, .int x2), (3, .int x3)] := hl
  unfold f_X4_join at h
  refine lv_iload_n X.1 X.2.1 dX4_join_0 rfl (lv_at hl 1 rfl) ?_
  by_cases hq1_0 : x1 = 2001
  · have h := it_t hq1_0 h
    refine lv_tableIn (tgt := 32) X.1 X.2.1 dX4_join_1 (by rw [hq1_0]; decide) (by rw [hq1_0]; decide) (by rw [hq1_0]; rfl) (by decide) ?_
    refine lv_iload_n X.1 X.2.1 dX4_join_32 rfl (lv_at hl 2 rfl) ?_
    refine lv_iload_n X.1 X.2.1 dX4_join_33 rfl (lv_at hl 3 rfl) ?_
    refine lv_iand X.1 X.2.1 dX4_join_34 ?_
    exact ret_i0 (Option.some.inj h) X hQ hP hS dX4_join_35
  · have h := it_f hq1_0 h
    by_cases hq1_1 : x1 = 2002
    · have h := it_t hq1_1 h
      refine lv_tableIn (tgt := 36) X.1 X.2.1 dX4_join_1 (by rw [hq1_1]; decide) (by rw [hq1_1]; decide) (by rw [hq1_1]; rfl) (by decide) ?_
      refine lv_iload_n X.1 X.2.1 dX4_join_36 rfl (lv_at hl 2 rfl) ?_
      refine lv_iload_n X.1 X.2.1 dX4_join_37 rfl (lv_at hl 3 rfl) ?_
      refine lv_ior X.1 X.2.1 dX4_join_38 ?_
      exact ret_i0 (Option.some.inj h) X hQ hP hS dX4_join_39
    · have h := it_f hq1_1 h
      by_cases hq1_2 : x1 = 2003
      · have h := it_t hq1_2 h
        refine lv_tableIn (tgt := 40) X.1 X.2.1 dX4_join_1 (by rw [hq1_2]; decide) (by rw [hq1_2]; decide) (by rw [hq1_2]; rfl) (by decide) ?_
        refine lv_iload_n X.1 X.2.1 dX4_join_40 rfl (lv_at hl 2 rfl) ?_
        refine lv_iload_n X.1 X.2.1 dX4_join_41 rfl (lv_at hl 3 rfl) ?_
        obtain ⟨J50, eJ50, h⟩ := jn_el h
        have HJ50 : ∀ (s0_J50 : Int32) (H : Heap) (locs : List Loc) (ls : Array Slot), J50 s0_J50 = some r0 → va_P (dC, dI) vwCl (wLw tc a0 g0 ln0) H → va_S A s.heap H locs → lv_has ls 4 [] → W pr l e rm_X4_join s m args below meth c H locs 0 0 Q (F0 m 50 ls [.int s0_J50]) := by
          intro s0_J50 H locs ls h hP hS hl
          rw [eJ50] at h
          exact ret_i0 (Option.some.inj h) X hQ hP hS dX4_join_50
        refine lv_icmp_ge (tgt := 49) X.1 X.2.1 dX4_join_42 (by decide) (fun hc => ?_) (fun hc => ?_)
        · have h := it_t hc h
          refine lv_iconst (v := 0) X.1 X.2.1 dX4_join_49 (by decide) ?_
          exact HJ50 0 H locs ls h hP hS (lv_sub hl [] rfl)
        · have h := it_f hc h
          refine lv_iconst (v := 1) X.1 X.2.1 dX4_join_45 (by decide) ?_
          refine lv_goto (tgt := 50) X.1 X.2.1 dX4_join_46 (by decide) ?_
          exact HJ50 1 H locs ls h hP hS (lv_sub hl [] rfl)
      · have h := it_f hq1_2 h
        by_cases hq1_3 : x1 = 2004
        · have h := it_t hq1_3 h
          refine lv_tableIn (tgt := 51) X.1 X.2.1 dX4_join_1 (by rw [hq1_3]; decide) (by rw [hq1_3]; decide) (by rw [hq1_3]; rfl) (by decide) ?_
          refine lv_iload_n X.1 X.2.1 dX4_join_51 rfl (lv_at hl 2 rfl) ?_
          refine lv_iload_n X.1 X.2.1 dX4_join_52 rfl (lv_at hl 3 rfl) ?_
          obtain ⟨J61, eJ61, h⟩ := jn_el h
          have HJ61 : ∀ (s0_J61 : Int32) (H : Heap) (locs : List Loc) (ls : Array Slot), J61 s0_J61 = some r0 → va_P (dC, dI) vwCl (wLw tc a0 g0 ln0) H → va_S A s.heap H locs → lv_has ls 4 [] → W pr l e rm_X4_join s m args below meth c H locs 0 0 Q (F0 m 61 ls [.int s0_J61]) := by
            intro s0_J61 H locs ls h hP hS hl
            rw [eJ61] at h
            exact ret_i0 (Option.some.inj h) X hQ hP hS dX4_join_61
          refine lv_icmp_le (tgt := 60) X.1 X.2.1 dX4_join_53 (by decide) (fun hc => ?_) (fun hc => ?_)
          · have h := it_t hc h
            refine lv_iconst (v := 0) X.1 X.2.1 dX4_join_60 (by decide) ?_
            exact HJ61 0 H locs ls h hP hS (lv_sub hl [] rfl)
          · have h := it_f hc h
            refine lv_iconst (v := 1) X.1 X.2.1 dX4_join_56 (by decide) ?_
            refine lv_goto (tgt := 61) X.1 X.2.1 dX4_join_57 (by decide) ?_
            exact HJ61 1 H locs ls h hP hS (lv_sub hl [] rfl)
        · have h := it_f hq1_3 h
          refine lv_tableOut (tgt := 62) X.1 X.2.1 dX4_join_1 (sw_out x1 [2001, 2002, 2003, 2004] 4 (by decide) (by decide) (by simp only [List.mem_cons, List.not_mem_nil, or_false, forall_eq_or_imp, forall_eq]; exact ⟨hq1_0, hq1_1, hq1_2, hq1_3⟩)) (by decide) ?_
          refine lv_iload_n X.1 X.2.1 dX4_join_62 rfl (lv_at hl 2 rfl) ?_
          refine lv_iload_n X.1 X.2.1 dX4_join_63 rfl (lv_at hl 3 rfl) ?_
          refine lv_iadd X.1 X.2.1 dX4_join_64 ?_
          exact ret_i0 (Option.some.inj h) X hQ hP hS dX4_join_65

def f_X4_holds_L10 (ln0 : Nat → Nat) (x1 : Int32) (g1 : Pic) (n : Nat) (a : Int32 × Int32 × Pic) : Option ((Int32 × Pic) ⊕ (Int32 × Pic)) := lp (fun (rec : Int32 × Int32 × Pic → Option ((Int32 × Pic) ⊕ (Int32 × Pic))) (a : Int32 × Int32 × Pic) => match a with | (x3, x4, g0) => gdi (x1 + 1) (ln0 3) ((if (g0 3 ((x1 + 1).toNatClampNeg)) ≤ x4 then some (.inr (x3, g0)) else gdi x4 (ln0 4) (nm ((g0 4 (x4.toNatClampNeg))) (fun x5_5 => jn (fun (x3_J157 : Int32) (g0_J157 : Pic) => nm (x4 + 1) (fun x4_6 => rec (x3_J157, x4_6, g0_J157))) (fun J157 => (if 2000 ≤ x5_5 then (if x5_5 = 2000 then (if 1 ≤ x3 then gdi (x3 - 1) 32 (gdi (x3 - 1) 32 (nm (pu g0 5 ((x3 - 1).toNatClampNeg) (1 - (g0 5 ((x3 - 1).toNatClampNeg)))) (fun g0_15 => J157 x3 g0_15))) else some (.inl (0, g0))) else (if 2 ≤ x3 then gdi (x3 - 2) 32 (gdi (x3 - 1) 32 (bd (f_X4_join ln0 g0 x5_5 (g0 5 ((x3 - 2).toNatClampNeg)) (g0 5 ((x3 - 1).toNatClampNeg))) (fun r_9 => gdi (x3 - 2) 32 (nm (pu g0 5 ((x3 - 2).toNatClampNeg) r_9) (fun g0_11 => nm (x3 + (-1)) (fun x3_12 => J157 x3_12 g0_11)))))) else some (.inl (0, g0)))) else (if x3 < 32 then jn (fun (s1_J74 : Int32) (s2_J74 : Int32) => gdi s1_J74 32 (nm (pu g0 5 (s1_J74.toNatClampNeg) s2_J74) (fun g0_17 => nm (x3 + 1) (fun x3_18 => J157 x3_18 g0_17)))) (fun J74 => (if 1000 ≤ x5_5 then gdi (x5_5 - 1000) 9 (J74 x3 (g1 0 ((x5_5 - 1000).toNatClampNeg))) else J74 x3 x5_5)) else some (.inl (0, g0)))))))))) n a
def f_X4_holds (ln0 : Nat → Nat) (g0 : Pic) (g1 : Pic) (x1 : Int32) : Option (Int32 × Pic) := gdi x1 (ln0 3) (nm ((g0 3 (x1.toNatClampNeg))) (fun x4_2 => lr (f_X4_holds_L10 ln0 x1 g1 fu (0, x4_2, g0)) (fun a => a) (fun (x3_20, g0_20) => jn (fun (s0_J184 : Int32) => gdb s0_J184 (some (s0_J184, g0_20))) (fun J184 => jn (fun (_ : Unit) => J184 1) (fun J179 => (if x3_20 = 0 then J179 () else gdi (x3_20 - 1) 32 ((if (g0_20 5 ((x3_20 - 1).toNatClampNeg)) = 1 then J179 () else J184 0))))))))
abbrev rm_X4_holds : Room := { frames := 1, cells := 0, slots := 0, locals := 23 }
set_option maxHeartbeats 4000000 in
set_option maxRecDepth 100000 in
theorem c_X4_holds (l : Launch) (dC : Nat → ClassId) (dI : Nat → Nat → Nat) (sk sv : Nat → Nat) (tc : Nat → ClassId) (ln0 : Nat → Nat) (a0 : Nat → Nat) (a1 : Nat → Nat) (g0 : Pic) (g1 : Pic) (x1 : Int32) {r0 : Int32} {G0 : Pic} (h : f_X4_holds ln0 g0 g1 x1 = some (r0, G0)) : CT l (dC, dI) sk sv (TY tc) yX4_holds cX4_holds 6 (some .boolean) rm_X4_holds [.ref (a0 0), .int x1, .ref (a1 0)] (wLw tc a0 g0 ln0 ++ (wFa tc a1 g1)) (some (.int r0)) (wLw tc a0 G0 ln0 ++ (wFa tc a1 g1)) := by
  refine ofCT (by decide) (Nat.le_of_ble_eq_true rfl) ?_
  intro pr e s m args below meth c A Q ls H locs X hQ hD0 hP hS hl
  have hD : ∀ z0 z1, va_D A (wLw tc a0 z0 ln0 ++ (wFa tc a1 z1)) := fun z0 z1 => D_fst (ws := (wLw tc a0 g0 ln0 ++ (wFa tc a1 g1))) rfl hD0
  have hl : lv_has ls 6 [(0, .ref (a0 0)), (1, .int x1), (2, .ref (a1 0))] := hl
  have HL10 : ∀ (x1 : Int32) (n : Nat) (x3 : Int32) (x4 : Int32) (g0 : Pic) (ex : ((Int32 × Pic) ⊕ (Int32 × Pic))), f_X4_holds_L10 ln0 x1 g1 n (x3, x4, g0) = some ex → (∀ rv, ex = .inl rv → rv = (r0, G0)) → ∀ (H : Heap) (locs : List Loc) (ls : Array Slot), va_P (dC, dI) vwCl (wLw tc a0 g0 ln0 ++ (wFa tc a1 g1)) H → va_S A s.heap H locs → lv_has ls 6 [(0, .ref (a0 0)), (1, .int x1), (2, .ref (a1 0)), (3, .int x3), (4, .int x4)] → (∀ (y3 : Int32) (k0 : Pic), .inr (y3, k0) = ex → ∀ (H : Heap) (locs : List Loc) (ls : Array Slot), va_P (dC, dI) vwCl (wLw tc a0 k0 ln0 ++ (wFa tc a1 g1)) H → va_S A s.heap H locs → lv_has ls 6 [(0, .ref (a0 0)), (3, .int y3)] → W pr l e rm_X4_holds s m args below meth c H locs 0 0 Q (F0 m 163 ls [])) → W pr l e rm_X4_holds s m args below meth c H locs 0 0 Q (F0 m 10 ls []) := by
    intro x1 n
    induction n with
    | zero => intro x3 x4 g0 ex h; exact lp_z h
    | succ n ih =>
      intro x3 x4 g0 ex h hR H locs ls hP hS hl K
      have h := lp_s h
      refine lv_iload X.1 X.2.1 dX4_holds_10 (lv_at hl 4 rfl) ?_
      refine lv_aload_n X.1 X.2.1 dX4_holds_12 rfl (lv_at hl 0 rfl) ?_
      refine r_get (C := RX4) (T := TX4) (N := 6) (ci := 4) (v := .ref (a0 4)) X iw4 hP 0 rfl rfl 3 rfl mw_4_185 rfl dX4_holds_13 ?_
      refine lv_iload_n X.1 X.2.1 dX4_holds_16 rfl (lv_at hl 1 rfl) ?_
      refine lv_iconst (v := 1) X.1 X.2.1 dX4_holds_17 (by decide) ?_
      refine lv_iadd X.1 X.2.1 dX4_holds_18 ?_
      obtain ⟨hg_3, h⟩ := gdi_el h
      refine r_iald X hP 3 0 rfl rfl hg_3 rfl dX4_holds_19 ?_
      refine lv_icmp_ge (tgt := 163) X.1 X.2.1 dX4_holds_20 (by decide) (fun hc => ?_) (fun hc => ?_)
      · have h := it_t hc h
        exact K x3 g0 (Option.some.inj h) H locs ls hP hS (lv_sub hl [0, 3] rfl)
      · have h := it_f hc h
        refine lv_aload_n X.1 X.2.1 dX4_holds_23 rfl (lv_at hl 0 rfl) ?_
        refine r_get (C := RX4) (T := TX4) (N := 6) (ci := 4) (v := .ref (a0 5)) X iw4 hP 0 rfl rfl 4 rfl mw_4_186 rfl dX4_holds_24 ?_
        refine lv_iload X.1 X.2.1 dX4_holds_27 (lv_at hl 4 rfl) ?_
        obtain ⟨hg_4, h⟩ := gdi_el h
        refine r_iald X hP 4 0 rfl rfl hg_4 rfl dX4_holds_29 ?_
        obtain ⟨x5_5, ex5_5, h⟩ := nm_el h
        refine tp_i ex5_5 ?_
        refine lv_istore (lv' := [(5, .int x5_5), (0, .ref (a0 0)), (1, .int x1), (2, .ref (a1 0)), (3, .int x3), (4, .int x4)]) X.1 X.2.1 dX4_holds_30 hl (by decide) rfl (fun ls hl => ?_)
        refine lv_iload X.1 X.2.1 dX4_holds_32 (lv_at hl 0 rfl) ?_
        refine lv_sipush (v := 2000) X.1 X.2.1 dX4_holds_34 (by decide) ?_
        obtain ⟨J157, eJ157, h⟩ := jn_el h
        have HJ157 : ∀ (x3_J157 : Int32) (g0_J157 : Pic) (H : Heap) (locs : List Loc) (ls : Array Slot), J157 x3_J157 g0_J157 = some ex → va_P (dC, dI) vwCl (wLw tc a0 g0_J157 ln0 ++ (wFa tc a1 g1)) H → va_S A s.heap H locs → lv_has ls 6 [(0, .ref (a0 0)), (1, .int x1), (2, .ref (a1 0)), (3, .int x3_J157), (4, .int x4)] → W pr l e rm_X4_holds s m args below meth c H locs 0 0 Q (F0 m 157 ls []) := by
          intro x3_J157 g0_J157 H locs ls h hP hS hl
          rw [eJ157] at h
          obtain ⟨x4_6, ex4_6, h⟩ := nm_el h
          refine lv_iinc (v := x4_6) (lv' := [(4, .int x4_6), (0, .ref (a0 0)), (1, .int x1), (2, .ref (a1 0)), (3, .int x3_J157)]) X.1 X.2.1 dX4_holds_157 hl (k := 4) rfl (by rw [ex4_6]; rfl) (by decide) rfl (fun ls hl => ?_)
          refine lv_goto (tgt := 10) X.1 X.2.1 dX4_holds_160 (by decide) ?_
          exact ih x3_J157 x4_6 g0_J157 ex h hR H locs ls hP hS (lv_sub hl [1, 2, 3, 4, 0] rfl) K
        refine lv_icmp_ge (tgt := 81) X.1 X.2.1 dX4_holds_37 (by decide) (fun hc => ?_) (fun hc => ?_)
        · have h := it_t hc h
          refine lv_iload X.1 X.2.1 dX4_holds_81 (lv_at hl 0 rfl) ?_
          refine lv_sipush (v := 2000) X.1 X.2.1 dX4_holds_83 (by decide) ?_
          refine lv_icmp_ne (tgt := 117) X.1 X.2.1 dX4_holds_86 (by decide) (fun hc => ?_) (fun hc => ?_)
          · have h := it_f hc h
            refine lv_iload_n X.1 X.2.1 dX4_holds_117 rfl (lv_at hl 4 rfl) ?_
            refine lv_iconst (v := 2) X.1 X.2.1 dX4_holds_118 (by decide) ?_
            refine lv_icmp_ge (tgt := 124) X.1 X.2.1 dX4_holds_119 (by decide) (fun hc => ?_) (fun hc => ?_)
            · have h := it_t hc h
              refine lv_aload_n X.1 X.2.1 dX4_holds_124 rfl (lv_at hl 1 rfl) ?_
              refine r_get (C := RX4) (T := TX4) (N := 6) (ci := 4) (v := .ref (a0 6)) X iw4 hP 0 rfl rfl 5 rfl mw_4_187 rfl dX4_holds_125 ?_
              refine lv_iload_n X.1 X.2.1 dX4_holds_128 rfl (lv_at hl 4 rfl) ?_
              refine lv_iconst (v := 2) X.1 X.2.1 dX4_holds_129 (by decide) ?_
              refine lv_isub X.1 X.2.1 dX4_holds_130 ?_
              refine lv_aload_n X.1 X.2.1 dX4_holds_131 rfl (lv_at hl 1 rfl) ?_
              refine lv_iload X.1 X.2.1 dX4_holds_132 (lv_at hl 0 rfl) ?_
              refine lv_aload_n X.1 X.2.1 dX4_holds_134 rfl (lv_at hl 1 rfl) ?_
              refine r_get (C := RX4) (T := TX4) (N := 6) (ci := 4) (v := .ref (a0 6)) X iw4 hP 0 rfl rfl 5 rfl mw_4_187 rfl dX4_holds_135 ?_
              refine lv_iload_n X.1 X.2.1 dX4_holds_138 rfl (lv_at hl 4 rfl) ?_
              refine lv_iconst (v := 2) X.1 X.2.1 dX4_holds_139 (by decide) ?_
              refine lv_isub X.1 X.2.1 dX4_holds_140 ?_
              obtain ⟨hg_7, h⟩ := gdi_el h
              refine r_iald X hP 5 0 rfl rfl hg_7 rfl dX4_holds_141 ?_
              refine lv_aload_n X.1 X.2.1 dX4_holds_142 rfl (lv_at hl 1 rfl) ?_
              refine r_get (C := RX4) (T := TX4) (N := 6) (ci := 4) (v := .ref (a0 6)) X iw4 hP 0 rfl rfl 5 rfl mw_4_187 rfl dX4_holds_143 ?_
              refine lv_iload_n X.1 X.2.1 dX4_holds_146 rfl (lv_at hl 4 rfl) ?_
              refine lv_iconst (v := 1) X.1 X.2.1 dX4_holds_147 (by decide) ?_
              refine lv_isub X.1 X.2.1 dX4_holds_148 ?_
              obtain ⟨hg_8, h⟩ := gdi_el h
              refine r_iald X hP 5 0 rfl rfl hg_8 rfl dX4_holds_149 ?_
              obtain ⟨r_9, hc_9, h⟩ := bd_el h
              refine call_Vsi (ws := (wLw tc a0 g0 ln0 ++ (wFa tc a1 g1))) (ws' := (wLw tc a0 g0 ln0 ++ (wFa tc a1 g1))) [] (wFa tc a1 g1) (As := [.int x5_5, .int (g0 5 ((x3 - 2).toNatClampNeg)), .int (g0 5 ((x3 - 1).toNatClampNeg))]) (rest := [.int (x3 - 2), .ref (a0 6)]) X (c_X4_join l dC dI sk sv tc ln0 a0 g0 x5_5 (g0 5 ((x3 - 2).toNatClampNeg)) (g0 5 ((x3 - 1).toNatClampNeg)) hc_9) mw_5_186 mw_5_187 mw_5_188 mw_1_23 mw_5_189 dc_X4_join ⟨Nat.le_of_ble_eq_true rfl, Nat.le_of_ble_eq_true rfl⟩ rfl rfl ⟨Nat.zero_le _, Nat.zero_le _⟩ (by simp only [List.append_assoc, List.nil_append, List.append_nil]) (by simp only [List.append_assoc, List.nil_append, List.append_nil]) hP (hD _ _) hS 0 rfl rfl rfl hl.1 (Nat.le_of_ble_eq_true rfl) dX4_holds_150 (fun H locs hP hS => ?_)
              obtain ⟨hg_10, h⟩ := gdi_el h
              obtain ⟨g0_11, eg0_11, h⟩ := nm_el h
              refine r_iast X hP (hD _ _) hS 5 0 rfl rfl hg_10 rfl dX4_holds_153 (wLw tc a0 g0_11 ln0 ++ (wFa tc a1 g1)) (by rw [eg0_11]; rfl) (fun H locs hP hS => ?_)
              obtain ⟨x3_12, ex3_12, h⟩ := nm_el h
              refine lv_iinc (v := x3_12) (lv' := [(3, .int x3_12), (5, .int x5_5), (0, .ref (a0 0)), (1, .int x1), (2, .ref (a1 0)), (4, .int x4)]) X.1 X.2.1 dX4_holds_154 hl (k := 4) rfl (by rw [ex3_12]; rfl) (by decide) rfl (fun ls hl => ?_)
              exact HJ157 x3_12 g0_11 H locs ls h hP hS (lv_sub hl [2, 3, 4, 0, 5] rfl)
            · have h := it_f hc h
              refine lv_iconst (v := 0) X.1 X.2.1 dX4_holds_122 (by decide) ?_
              exact ret_z (fun u => (wLw tc a0 u ln0 ++ (wFa tc a1 g1))) (res := (r0, G0)) (by decide) (hR _ (Option.some.inj h).symm) X hQ hP hS dX4_holds_123
          · have h := it_t hc h
            refine lv_iload_n X.1 X.2.1 dX4_holds_89 rfl (lv_at hl 4 rfl) ?_
            refine lv_iconst (v := 1) X.1 X.2.1 dX4_holds_90 (by decide) ?_
            refine lv_icmp_ge (tgt := 96) X.1 X.2.1 dX4_holds_91 (by decide) (fun hc => ?_) (fun hc => ?_)
            · have h := it_t hc h
              refine lv_aload_n X.1 X.2.1 dX4_holds_96 rfl (lv_at hl 1 rfl) ?_
              refine r_get (C := RX4) (T := TX4) (N := 6) (ci := 4) (v := .ref (a0 6)) X iw4 hP 0 rfl rfl 5 rfl mw_4_187 rfl dX4_holds_97 ?_
              refine lv_iload_n X.1 X.2.1 dX4_holds_100 rfl (lv_at hl 4 rfl) ?_
              refine lv_iconst (v := 1) X.1 X.2.1 dX4_holds_101 (by decide) ?_
              refine lv_isub X.1 X.2.1 dX4_holds_102 ?_
              refine lv_iconst (v := 1) X.1 X.2.1 dX4_holds_103 (by decide) ?_
              refine lv_aload_n X.1 X.2.1 dX4_holds_104 rfl (lv_at hl 1 rfl) ?_
              refine r_get (C := RX4) (T := TX4) (N := 6) (ci := 4) (v := .ref (a0 6)) X iw4 hP 0 rfl rfl 5 rfl mw_4_187 rfl dX4_holds_105 ?_
              refine lv_iload_n X.1 X.2.1 dX4_holds_108 rfl (lv_at hl 4 rfl) ?_
              refine lv_iconst (v := 1) X.1 X.2.1 dX4_holds_109 (by decide) ?_
              refine lv_isub X.1 X.2.1 dX4_holds_110 ?_
              obtain ⟨hg_13, h⟩ := gdi_el h
              refine r_iald X hP 5 0 rfl rfl hg_13 rfl dX4_holds_111 ?_
              refine lv_isub X.1 X.2.1 dX4_holds_112 ?_
              obtain ⟨hg_14, h⟩ := gdi_el h
              obtain ⟨g0_15, eg0_15, h⟩ := nm_el h
              refine r_iast X hP (hD _ _) hS 5 0 rfl rfl hg_14 rfl dX4_holds_113 (wLw tc a0 g0_15 ln0 ++ (wFa tc a1 g1)) (by rw [eg0_15]; rfl) (fun H locs hP hS => ?_)
              refine lv_goto (tgt := 157) X.1 X.2.1 dX4_holds_114 (by decide) ?_
              exact HJ157 x3 g0_15 H locs ls h hP hS (lv_sub hl [1, 2, 3, 4, 5] rfl)
            · have h := it_f hc h
              refine lv_iconst (v := 0) X.1 X.2.1 dX4_holds_94 (by decide) ?_
              exact ret_z (fun u => (wLw tc a0 u ln0 ++ (wFa tc a1 g1))) (res := (r0, G0)) (by decide) (hR _ (Option.some.inj h).symm) X hQ hP hS dX4_holds_95
        · have h := it_f hc h
          refine lv_iload_n X.1 X.2.1 dX4_holds_40 rfl (lv_at hl 4 rfl) ?_
          refine lv_bipush (v := 32) X.1 X.2.1 dX4_holds_41 (by decide) ?_
          refine lv_icmp_lt (tgt := 48) X.1 X.2.1 dX4_holds_43 (by decide) (fun hc => ?_) (fun hc => ?_)
          · have h := it_t hc h
            refine lv_aload_n X.1 X.2.1 dX4_holds_48 rfl (lv_at hl 1 rfl) ?_
            refine r_get (C := RX4) (T := TX4) (N := 6) (ci := 4) (v := .ref (a0 6)) X iw4 hP 0 rfl rfl 5 rfl mw_4_187 rfl dX4_holds_49 ?_
            refine lv_iload_n X.1 X.2.1 dX4_holds_52 rfl (lv_at hl 4 rfl) ?_
            refine lv_iload X.1 X.2.1 dX4_holds_53 (lv_at hl 0 rfl) ?_
            refine lv_sipush (v := 1000) X.1 X.2.1 dX4_holds_55 (by decide) ?_
            obtain ⟨J74, eJ74, h⟩ := jn_el h
            have HJ74 : ∀ (s1_J74 : Int32) (s2_J74 : Int32) (H : Heap) (locs : List Loc) (ls : Array Slot), J74 s1_J74 s2_J74 = some ex → va_P (dC, dI) vwCl (wLw tc a0 g0 ln0 ++ (wFa tc a1 g1)) H → va_S A s.heap H locs → lv_has ls 6 [(0, .ref (a0 0)), (1, .int x1), (2, .ref (a1 0)), (3, .int x3), (4, .int x4)] → W pr l e rm_X4_holds s m args below meth c H locs 0 0 Q (F0 m 74 ls [.int s2_J74, .int s1_J74, .ref (a0 6)]) := by
              intro s1_J74 s2_J74 H locs ls h hP hS hl
              rw [eJ74] at h
              obtain ⟨hg_16, h⟩ := gdi_el h
              obtain ⟨g0_17, eg0_17, h⟩ := nm_el h
              refine r_iast X hP (hD _ _) hS 5 0 rfl rfl hg_16 rfl dX4_holds_74 (wLw tc a0 g0_17 ln0 ++ (wFa tc a1 g1)) (by rw [eg0_17]; rfl) (fun H locs hP hS => ?_)
              obtain ⟨x3_18, ex3_18, h⟩ := nm_el h
              refine lv_iinc (v := x3_18) (lv' := [(3, .int x3_18), (0, .ref (a0 0)), (1, .int x1), (2, .ref (a1 0)), (4, .int x4)]) X.1 X.2.1 dX4_holds_75 hl (k := 3) rfl (by rw [ex3_18]; rfl) (by decide) rfl (fun ls hl => ?_)
              refine lv_goto (tgt := 157) X.1 X.2.1 dX4_holds_78 (by decide) ?_
              exact HJ157 x3_18 g0_17 H locs ls h hP hS (lv_sub hl [1, 2, 3, 0, 4] rfl)
            refine lv_icmp_ge (tgt := 66) X.1 X.2.1 dX4_holds_58 (by decide) (fun hc => ?_) (fun hc => ?_)
            · have h := it_t hc h
              refine lv_aload_n X.1 X.2.1 dX4_holds_66 rfl (lv_at hl 3 rfl) ?_
              refine lv_iload X.1 X.2.1 dX4_holds_67 (lv_at hl 0 rfl) ?_
              refine lv_sipush (v := 1000) X.1 X.2.1 dX4_holds_69 (by decide) ?_
              refine lv_isub X.1 X.2.1 dX4_holds_72 ?_
              obtain ⟨hg_19, h⟩ := gdi_el h
              refine r_iald X hP 6 0 rfl rfl hg_19 rfl dX4_holds_73 ?_
              exact HJ74 x3 (g1 0 ((x5_5 - 1000).toNatClampNeg)) H locs ls h hP hS (lv_sub hl [1, 2, 3, 4, 5] rfl)
            · have h := it_f hc h
              refine lv_iload X.1 X.2.1 dX4_holds_61 (lv_at hl 0 rfl) ?_
              refine lv_goto (tgt := 74) X.1 X.2.1 dX4_holds_63 (by decide) ?_
              exact HJ74 x3 x5_5 H locs ls h hP hS (lv_sub hl [1, 2, 3, 4, 5] rfl)
          · have h := it_f hc h
            refine lv_iconst (v := 0) X.1 X.2.1 dX4_holds_46 (by decide) ?_
            exact ret_z (fun u => (wLw tc a0 u ln0 ++ (wFa tc a1 g1))) (res := (r0, G0)) (by decide) (hR _ (Option.some.inj h).symm) X hQ hP hS dX4_holds_47
  unfold f_X4_holds at h
  refine lv_iconst (v := 0) X.1 X.2.1 dX4_holds_0 (by decide) ?_
  refine lv_istore_n (lv' := [(3, .int 0), (0, .ref (a0 0)), (1, .int x1), (2, .ref (a1 0))]) X.1 X.2.1 dX4_holds_1 rfl hl (by decide) rfl (fun ls hl => ?_)
  refine lv_aload_n X.1 X.2.1 dX4_holds_2 rfl (lv_at hl 1 rfl) ?_
  refine r_get (C := RX4) (T := TX4) (N := 6) (ci := 4) (v := .ref (a0 4)) X iw4 hP 0 rfl rfl 3 rfl mw_4_185 rfl dX4_holds_3 ?_
  refine lv_iload_n X.1 X.2.1 dX4_holds_6 rfl (lv_at hl 2 rfl) ?_
  obtain ⟨hg_1, h⟩ := gdi_el h
  refine r_iald X hP 3 0 rfl rfl hg_1 rfl dX4_holds_7 ?_
  obtain ⟨x4_2, ex4_2, h⟩ := nm_el h
  refine tp_i ex4_2 ?_
  refine lv_istore (lv' := [(4, .int x4_2), (3, .int 0), (0, .ref (a0 0)), (1, .int x1), (2, .ref (a1 0))]) X.1 X.2.1 dX4_holds_8 hl (by decide) rfl (fun ls hl => ?_)
  obtain ⟨ex_20, hL_20, h1_20, h2_20⟩ := lr_el h
  refine HL10 x1 fu 0 x4_2 g0 ex_20 hL_20 (fun rv hq => h1_20 rv hq) H locs ls hP hS (lv_sub hl [2, 3, 4, 1, 0] rfl) (fun x3_20 g0_20 he H locs ls hP hS hl => ?_)
  have h := h2_20 _ he.symm
  refine lv_iload_n X.1 X.2.1 dX4_holds_163 rfl (lv_at hl 1 rfl) ?_
  obtain ⟨J184, eJ184, h⟩ := jn_el h
  have HJ184 : ∀ (s0_J184 : Int32) (H : Heap) (locs : List Loc) (ls : Array Slot), J184 s0_J184 = some (r0, G0) → va_P (dC, dI) vwCl (wLw tc a0 g0_20 ln0 ++ (wFa tc a1 g1)) H → va_S A s.heap H locs → lv_has ls 6 [] → W pr l e rm_X4_holds s m args below meth c H locs 0 0 Q (F0 m 184 ls [.int s0_J184]) := by
    intro s0_J184 H locs ls h hP hS hl
    rw [eJ184] at h
    obtain ⟨hg_21, h⟩ := gdb_el h
    exact ret_z (fun u => (wLw tc a0 u ln0 ++ (wFa tc a1 g1))) (res := (r0, G0)) hg_21 (Option.some.inj h) X hQ hP hS dX4_holds_184
  obtain ⟨J179, eJ179, h⟩ := jn_el h
  have HJ179 : ∀ (_ : Unit) (H : Heap) (locs : List Loc) (ls : Array Slot), J179 () = some (r0, G0) → va_P (dC, dI) vwCl (wLw tc a0 g0_20 ln0 ++ (wFa tc a1 g1)) H → va_S A s.heap H locs → lv_has ls 6 [] → W pr l e rm_X4_holds s m args below meth c H locs 0 0 Q (F0 m 179 ls []) := by
    intro _ H locs ls h hP hS hl
    rw [eJ179] at h
    refine lv_iconst (v := 1) X.1 X.2.1 dX4_holds_179 (by decide) ?_
    refine lv_goto (tgt := 184) X.1 X.2.1 dX4_holds_180 (by decide) ?_
    exact HJ184 1 H locs ls h hP hS (lv_sub hl [] rfl)
  refine lv_if_eq (tgt := 179) X.1 X.2.1 dX4_holds_164 (by decide) (fun hc => ?_) (fun hc => ?_)
  · have h := it_t hc h
    exact HJ179 () H locs ls h hP hS (lv_sub hl [] rfl)
  · have h := it_f hc h
    refine lv_aload_n X.1 X.2.1 dX4_holds_167 rfl (lv_at hl 0 rfl) ?_
    refine r_get (C := RX4) (T := TX4) (N := 6) (ci := 4) (v := .ref (a0 6)) X iw4 hP 0 rfl rfl 5 rfl mw_4_187 rfl dX4_holds_168 ?_
    refine lv_iload_n X.1 X.2.1 dX4_holds_171 rfl (lv_at hl 1 rfl) ?_
    refine lv_iconst (v := 1) X.1 X.2.1 dX4_holds_172 (by decide) ?_
    refine lv_isub X.1 X.2.1 dX4_holds_173 ?_
    obtain ⟨hg_22, h⟩ := gdi_el h
    refine r_iald X hP 5 0 rfl rfl hg_22 rfl dX4_holds_174 ?_
    refine lv_iconst (v := 1) X.1 X.2.1 dX4_holds_175 (by decide) ?_
    refine lv_icmp_ne (tgt := 183) X.1 X.2.1 dX4_holds_176 (by decide) (fun hc => ?_) (fun hc => ?_)
    · have h := it_f hc h
      refine lv_iconst (v := 0) X.1 X.2.1 dX4_holds_183 (by decide) ?_
      exact HJ184 0 H locs ls h hP hS (lv_sub hl [] rfl)
    · have h := it_t hc h
      exact HJ179 () H locs ls h hP hS (lv_sub hl [] rfl)

def f_X4_sumOf_L5 (ln0 : Nat → Nat) (x1 : Int32) (g1 : Pic) (n : Nat) (a : Int32 × Int32 × Pic) : Option (Int32 × Pic) := lp (fun (rec : Int32 × Int32 × Pic → Option (Int32 × Pic)) (a : Int32 × Int32 × Pic) => match a with | (x3, x4, g0) => (if (g0 0 0) ≤ x4 then some (x3, g0) else gdi x4 (ln0 1) (jn (fun (x3_J45 : Int32) (g0_J45 : Pic) => nm (x4 + 1) (fun x4_2 => rec (x3_J45, x4_2, g0_J45))) (fun J45 => (if (g0 1 (x4.toNatClampNeg)) = x1 then bd2 (f_X4_holds ln0 g0 g1 x4) (fun r_3 g0_3 => (if r_3 = 0 then J45 x3 g0_3 else gdi x4 (ln0 2) (nm ((x3 + (g0_3 2 (x4.toNatClampNeg)))) (fun x3_5 => J45 x3_5 g0_3)))) else J45 x3 g0))))) n a
def f_X4_sumOf (ln0 : Nat → Nat) (g0 : Pic) (g1 : Pic) (x1 : Int32) : Option (Int32 × Pic) := bd (f_X4_sumOf_L5 ln0 x1 g1 fu (0, 0, g0)) (fun (x3_6, g0_6) => some (x3_6, g0_6))
abbrev rm_X4_sumOf : Room := { frames := 2, cells := 0, slots := 0, locals := 48 }
set_option maxHeartbeats 4000000 in
set_option maxRecDepth 100000 in
theorem c_X4_sumOf (l : Launch) (dC : Nat → ClassId) (dI : Nat → Nat → Nat) (sk sv : Nat → Nat) (tc : Nat → ClassId) (ln0 : Nat → Nat) (a0 : Nat → Nat) (a1 : Nat → Nat) (g0 : Pic) (g1 : Pic) (x1 : Int32) {r0 : Int32} {G0 : Pic} (h : f_X4_sumOf ln0 g0 g1 x1 = some (r0, G0)) : CT l (dC, dI) sk sv (TY tc) yX4_sumOf cX4_sumOf 5 (some .int) rm_X4_sumOf [.ref (a0 0), .int x1, .ref (a1 0)] (wLw tc a0 g0 ln0 ++ (wFa tc a1 g1)) (some (.int r0)) (wLw tc a0 G0 ln0 ++ (wFa tc a1 g1)) := by
  refine ofCT (by decide) (Nat.le_of_ble_eq_true rfl) ?_
  intro pr e s m args below meth c A Q ls H locs X hQ hD0 hP hS hl
  have hD : ∀ z0 z1, va_D A (wLw tc a0 z0 ln0 ++ (wFa tc a1 z1)) := fun z0 z1 => D_fst (ws := (wLw tc a0 g0 ln0 ++ (wFa tc a1 g1))) rfl hD0
  have hl : lv_has ls 5 [(0, .ref (a0 0)), (1, .int x1), (2, .ref (a1 0))] := hl
  have HL5 : ∀ (x1 : Int32) (n : Nat) (x3 : Int32) (x4 : Int32) (g0 : Pic) (ex : (Int32 × Pic)), f_X4_sumOf_L5 ln0 x1 g1 n (x3, x4, g0) = some ex → ∀ (H : Heap) (locs : List Loc) (ls : Array Slot), va_P (dC, dI) vwCl (wLw tc a0 g0 ln0 ++ (wFa tc a1 g1)) H → va_S A s.heap H locs → lv_has ls 5 [(0, .ref (a0 0)), (1, .int x1), (2, .ref (a1 0)), (3, .int x3), (4, .int x4)] → (∀ (y3 : Int32) (k0 : Pic), (y3, k0) = ex → ∀ (H : Heap) (locs : List Loc) (ls : Array Slot), va_P (dC, dI) vwCl (wLw tc a0 k0 ln0 ++ (wFa tc a1 g1)) H → va_S A s.heap H locs → lv_has ls 5 [(3, .int y3)] → W pr l e rm_X4_sumOf s m args below meth c H locs 0 0 Q (F0 m 51 ls [])) → W pr l e rm_X4_sumOf s m args below meth c H locs 0 0 Q (F0 m 5 ls []) := by
    intro x1 n
    induction n with
    | zero => intro x3 x4 g0 ex h; exact lp_z h
    | succ n ih =>
      intro x3 x4 g0 ex h H locs ls hP hS hl K
      have h := lp_s h
      refine lv_iload X.1 X.2.1 dX4_sumOf_5 (lv_at hl 4 rfl) ?_
      refine lv_aload_n X.1 X.2.1 dX4_sumOf_7 rfl (lv_at hl 0 rfl) ?_
      refine r_get (C := RX4) (T := TX4) (N := 6) (ci := 4) (v := .int (g0 0 0)) X iw4 hP 0 rfl rfl 0 rfl mw_4_181 rfl dX4_sumOf_8 ?_
      refine lv_icmp_ge (tgt := 51) X.1 X.2.1 dX4_sumOf_11 (by decide) (fun hc => ?_) (fun hc => ?_)
      · have h := it_t hc h
        exact K x3 g0 (Option.some.inj h) H locs ls hP hS (lv_sub hl [3] rfl)
      · have h := it_f hc h
        refine lv_aload_n X.1 X.2.1 dX4_sumOf_14 rfl (lv_at hl 0 rfl) ?_
        refine r_get (C := RX4) (T := TX4) (N := 6) (ci := 4) (v := .ref (a0 2)) X iw4 hP 0 rfl rfl 1 rfl mw_4_183 rfl dX4_sumOf_15 ?_
        refine lv_iload X.1 X.2.1 dX4_sumOf_18 (lv_at hl 4 rfl) ?_
        obtain ⟨hg_1, h⟩ := gdi_el h
        refine r_iald X hP 1 0 rfl rfl hg_1 rfl dX4_sumOf_20 ?_
        refine lv_iload_n X.1 X.2.1 dX4_sumOf_21 rfl (lv_at hl 1 rfl) ?_
        obtain ⟨J45, eJ45, h⟩ := jn_el h
        have HJ45 : ∀ (x3_J45 : Int32) (g0_J45 : Pic) (H : Heap) (locs : List Loc) (ls : Array Slot), J45 x3_J45 g0_J45 = some ex → va_P (dC, dI) vwCl (wLw tc a0 g0_J45 ln0 ++ (wFa tc a1 g1)) H → va_S A s.heap H locs → lv_has ls 5 [(0, .ref (a0 0)), (1, .int x1), (2, .ref (a1 0)), (3, .int x3_J45), (4, .int x4)] → W pr l e rm_X4_sumOf s m args below meth c H locs 0 0 Q (F0 m 45 ls []) := by
          intro x3_J45 g0_J45 H locs ls h hP hS hl
          rw [eJ45] at h
          obtain ⟨x4_2, ex4_2, h⟩ := nm_el h
          refine lv_iinc (v := x4_2) (lv' := [(4, .int x4_2), (0, .ref (a0 0)), (1, .int x1), (2, .ref (a1 0)), (3, .int x3_J45)]) X.1 X.2.1 dX4_sumOf_45 hl (k := 4) rfl (by rw [ex4_2]; rfl) (by decide) rfl (fun ls hl => ?_)
          refine lv_goto (tgt := 5) X.1 X.2.1 dX4_sumOf_48 (by decide) ?_
          exact ih x3_J45 x4_2 g0_J45 ex h H locs ls hP hS (lv_sub hl [1, 2, 3, 4, 0] rfl) K
        refine lv_icmp_ne (tgt := 45) X.1 X.2.1 dX4_sumOf_22 (by decide) (fun hc => ?_) (fun hc => ?_)
        · have h := it_f hc h
          exact HJ45 x3 g0 H locs ls h hP hS (lv_sub hl [0, 1, 2, 3, 4] rfl)
        · have h := it_t hc h
          refine lv_aload_n X.1 X.2.1 dX4_sumOf_25 rfl (lv_at hl 0 rfl) ?_
          refine lv_iload X.1 X.2.1 dX4_sumOf_26 (lv_at hl 4 rfl) ?_
          refine lv_aload_n X.1 X.2.1 dX4_sumOf_28 rfl (lv_at hl 2 rfl) ?_
          obtain ⟨r_3, g0_3, hc_3, h⟩ := bd2_el h
          refine call_V1i (As := [.int x4, .ref (a1 0)]) (rest := []) X (c_X4_holds l dC dI sk sv tc ln0 a0 a1 g0 g1 x4 hc_3) mw_5_182 mw_5_183 mw_5_184 mw_1_23 mw_5_185 dc_X4_holds ⟨Nat.le_of_ble_eq_true rfl, Nat.le_of_ble_eq_true rfl⟩ rfl rfl ⟨Nat.zero_le _, Nat.zero_le _⟩ hP (hD _ _) hS 0 rfl rfl rfl hl.1 (Nat.le_of_ble_eq_true rfl) dX4_sumOf_29 (fun H locs hP hS => ?_)
          refine lv_if_eq (tgt := 45) X.1 X.2.1 dX4_sumOf_32 (by decide) (fun hc => ?_) (fun hc => ?_)
          · have h := it_t hc h
            exact HJ45 x3 g0_3 H locs ls h hP hS (lv_sub hl [0, 1, 2, 3, 4] rfl)
          · have h := it_f hc h
            refine lv_iload_n X.1 X.2.1 dX4_sumOf_35 rfl (lv_at hl 3 rfl) ?_
            refine lv_aload_n X.1 X.2.1 dX4_sumOf_36 rfl (lv_at hl 0 rfl) ?_
            refine r_get (C := RX4) (T := TX4) (N := 6) (ci := 4) (v := .ref (a0 3)) X iw4 hP 0 rfl rfl 2 rfl mw_4_184 rfl dX4_sumOf_37 ?_
            refine lv_iload X.1 X.2.1 dX4_sumOf_40 (lv_at hl 4 rfl) ?_
            obtain ⟨hg_4, h⟩ := gdi_el h
            refine r_iald X hP 2 0 rfl rfl hg_4 rfl dX4_sumOf_42 ?_
            refine lv_iadd X.1 X.2.1 dX4_sumOf_43 ?_
            obtain ⟨x3_5, ex3_5, h⟩ := nm_el h
            refine tp_i ex3_5 ?_
            refine lv_istore_n (lv' := [(3, .int x3_5), (0, .ref (a0 0)), (1, .int x1), (2, .ref (a1 0)), (4, .int x4)]) X.1 X.2.1 dX4_sumOf_44 rfl hl (by decide) rfl (fun ls hl => ?_)
            exact HJ45 x3_5 g0_3 H locs ls h hP hS (lv_sub hl [1, 2, 3, 0, 4] rfl)
  unfold f_X4_sumOf at h
  refine lv_iconst (v := 0) X.1 X.2.1 dX4_sumOf_0 (by decide) ?_
  refine lv_istore_n (lv' := [(3, .int 0), (0, .ref (a0 0)), (1, .int x1), (2, .ref (a1 0))]) X.1 X.2.1 dX4_sumOf_1 rfl hl (by decide) rfl (fun ls hl => ?_)
  refine lv_iconst (v := 0) X.1 X.2.1 dX4_sumOf_2 (by decide) ?_
  refine lv_istore (lv' := [(4, .int 0), (3, .int 0), (0, .ref (a0 0)), (1, .int x1), (2, .ref (a1 0))]) X.1 X.2.1 dX4_sumOf_3 hl (by decide) rfl (fun ls hl => ?_)
  obtain ⟨ex_6, hL_6, h⟩ := bd_el h
  refine HL5 x1 fu 0 0 g0 ex_6 hL_6 H locs ls hP hS (lv_sub hl [2, 3, 4, 1, 0] rfl) (fun x3_6 g0_6 he H locs ls hP hS hl => ?_)
  subst he
  refine lv_iload_n X.1 X.2.1 dX4_sumOf_51 rfl (lv_at hl 0 rfl) ?_
  exact ret_i (fun u => (wLw tc a0 u ln0 ++ (wFa tc a1 g1))) (res := (r0, G0)) (Option.some.inj h) X hQ hP hS dX4_sumOf_52

def f_X6_changeOf_L13 (x1 : Int32) (x2 : Int32) (x3 : Int32) (g1 : Pic) (n : Nat) (a : Int32 × Pic) : Option (Pic) := lp (fun (rec : Int32 × Pic → Option (Pic)) (a : Int32 × Pic) => match a with | (x4, g0) => (if x3 < x4 then some g0 else gdi x4 7 (nm (pu g0 1 (x4.toNatClampNeg) x4) (fun g0_4 => nm (x4 + 1) (fun x4_5 => rec (x4_5, g0_4)))))) n a
def f_X6_changeOf_L64 (x1 : Int32) (x2 : Int32) (x3 : Int32) (x4 : Int32) (g1 : Pic) (n : Nat) (a : Int32 × Pic) : Option (Pic) := lp (fun (rec : Int32 × Pic → Option (Pic)) (a : Int32 × Pic) => match a with | (x5, g0) => (if x3 ≤ x5 then some g0 else bd (f_X9_letterAt g1 x1 x4) (fun r_9 => bd (f_X9_letterAt g1 x2 x5) (fun r_10 => jn (fun (s0_J98 : Int32) => gdi x5 7 (gdi (x5 + 1) 7 (gdi x5 7 (gdi (x5 + 1) 7 (nm (pu g0 2 ((x5 + 1).toNatClampNeg) (if ((if (g0 2 (x5.toNatClampNeg)) < (g0 1 ((x5 + 1).toNatClampNeg)) then (g0 2 (x5.toNatClampNeg)) else (g0 1 ((x5 + 1).toNatClampNeg))) + 1) < ((g0 1 (x5.toNatClampNeg)) + s0_J98) then ((if (g0 2 (x5.toNatClampNeg)) < (g0 1 ((x5 + 1).toNatClampNeg)) then (g0 2 (x5.toNatClampNeg)) else (g0 1 ((x5 + 1).toNatClampNeg))) + 1) else ((g0 1 (x5.toNatClampNeg)) + s0_J98))) (fun g0_15 => nm (x5 + 1) (fun x5_16 => rec (x5_16, g0_15)))))))) (fun J98 => (if r_9 = r_10 then J98 0 else J98 1)))))) n a
def f_X6_changeOf_L37 (x1 : Int32) (x2 : Int32) (x3 : Int32) (g1 : Pic) (n : Nat) (a : Int32 × Pic) : Option (Pic) := lp (fun (rec : Int32 × Pic → Option (Pic)) (a : Int32 × Pic) => match a with | (x4, g0) => gdi x1 8 ((if (g1 2 (x1.toNatClampNeg)) ≤ x4 then some g0 else nm (pu g0 2 0 (x4 + 1)) (fun g0_8 => bd (f_X6_changeOf_L64 x1 x2 x3 x4 g1 fu (0, g0_8)) (fun g0_17 => nm (pr_ g0_17 1 (va_cpy (g0_17 2) (g0_17 1) 0 0 7)) (fun g0_18 => nm (x4 + 1) (fun x4_19 => rec (x4_19, g0_18)))))))) n a
def f_X6_changeOf (g0 : Pic) (g1 : Pic) (x1 : Int32) (x2 : Int32) : Option (Int32 × Pic) := gdi x2 8 (nm ((g1 2 (x2.toNatClampNeg))) (fun x3_2 => bd (f_X6_changeOf_L13 x1 x2 x3_2 g1 fu (0, g0)) (fun g0_6 => bd (f_X6_changeOf_L37 x1 x2 x3_2 g1 fu (0, g0_6)) (fun g0_20 => gdi x3_2 7 (some ((g0_20 1 (x3_2.toNatClampNeg)), g0_20))))))
abbrev rm_X6_changeOf : Room := { frames := 1, cells := 0, slots := 0, locals := 100 }
set_option maxHeartbeats 4000000 in
set_option maxRecDepth 100000 in
theorem c_X6_changeOf (l : Launch) (dC : Nat → ClassId) (dI : Nat → Nat → Nat) (sk sv : Nat → Nat) (tc : Nat → ClassId) (a0 : Nat → Nat) (a1 : Nat → Nat) (q1_18 : Option Nat) (q1_19 : Nat) (g0 : Pic) (g1 : Pic) (x1 : Int32) (x2 : Int32) {r0 : Int32} {G0 : Pic} (h : f_X6_changeOf g0 g1 x1 x2 = some (r0, G0)) : CT l (dC, dI) sk sv (TY tc) yX6_changeOf cX6_changeOf 7 (some .int) rm_X6_changeOf [.ref (a0 0), .int x1, .int x2] (wLx tc a0 g0 (a1 0) ++ (wSt tc a1 g1 q1_18 q1_19)) (some (.int r0)) (wLx tc a0 G0 (a1 0) ++ (wSt tc a1 g1 q1_18 q1_19)) := by
  refine ofCT (by decide) (Nat.le_of_ble_eq_true rfl) ?_
  intro pr e s m args below meth c A Q ls H locs X hQ hD0 hP hS hl
  have hD : ∀ z0 z1, va_D A (wLx tc a0 z0 (a1 0) ++ (wSt tc a1 z1 q1_18 q1_19)) := fun z0 z1 => D_fst (ws := (wLx tc a0 g0 (a1 0) ++ (wSt tc a1 g1 q1_18 q1_19))) rfl hD0
  have hl : lv_has ls 7 [(0, .ref (a0 0)), (1, .int x1), (2, .int x2)] := hl
  have HL13 : ∀ (x1 : Int32) (x2 : Int32) (x3 : Int32) (n : Nat) (x4 : Int32) (g0 : Pic) (ex : (Pic)), f_X6_changeOf_L13 x1 x2 x3 g1 n (x4, g0) = some ex → ∀ (H : Heap) (locs : List Loc) (ls : Array Slot), va_P (dC, dI) vwCl (wLx tc a0 g0 (a1 0) ++ (wSt tc a1 g1 q1_18 q1_19)) H → va_S A s.heap H locs → lv_has ls 7 [(0, .ref (a0 0)), (1, .int x1), (2, .int x2), (3, .int x3), (4, .int x4)] → (∀ (k0 : Pic), k0 = ex → ∀ (H : Heap) (locs : List Loc) (ls : Array Slot), va_P (dC, dI) vwCl (wLx tc a0 k0 (a1 0) ++ (wSt tc a1 g1 q1_18 q1_19)) H → va_S A s.heap H locs → lv_has ls 7 [(0, .ref (a0 0)), (1, .int x1), (2, .int x2), (3, .int x3)] → W pr l e rm_X6_changeOf s m args below meth c H locs 0 0 Q (F0 m 34 ls [])) → W pr l e rm_X6_changeOf s m args below meth c H locs 0 0 Q (F0 m 13 ls []) := by
    intro x1 x2 x3 n
    induction n with
    | zero => intro x4 g0 ex h; exact lp_z h
    | succ n ih =>
      intro x4 g0 ex h H locs ls hP hS hl K
      have h := lp_s h
      refine lv_iload X.1 X.2.1 dX6_changeOf_13 (lv_at hl 4 rfl) ?_
      refine lv_iload_n X.1 X.2.1 dX6_changeOf_15 rfl (lv_at hl 3 rfl) ?_
      refine lv_icmp_gt (tgt := 34) X.1 X.2.1 dX6_changeOf_16 (by decide) (fun hc => ?_) (fun hc => ?_)
      · have h := it_t hc h
        exact K g0 (Option.some.inj h) H locs ls hP hS (lv_sub hl [0, 1, 2, 3] rfl)
      · have h := it_f hc h
        refine lv_aload_n X.1 X.2.1 dX6_changeOf_19 rfl (lv_at hl 0 rfl) ?_
        refine r_get (C := RX6) (T := TX6) (N := 4) (ci := 6) (v := .ref (a0 2)) X iw6 hP 0 rfl rfl 1 rfl mw_2_80 rfl dX6_changeOf_20 ?_
        refine lv_iload X.1 X.2.1 dX6_changeOf_23 (lv_at hl 4 rfl) ?_
        refine lv_iload X.1 X.2.1 dX6_changeOf_25 (lv_at hl 4 rfl) ?_
        obtain ⟨hg_3, h⟩ := gdi_el h
        obtain ⟨g0_4, eg0_4, h⟩ := nm_el h
        refine r_iast X hP (hD _ _) hS 1 0 rfl rfl hg_3 rfl dX6_changeOf_27 (wLx tc a0 g0_4 (a1 0) ++ (wSt tc a1 g1 q1_18 q1_19)) (by rw [eg0_4]; rfl) (fun H locs hP hS => ?_)
        obtain ⟨x4_5, ex4_5, h⟩ := nm_el h
        refine lv_iinc (v := x4_5) (lv' := [(4, .int x4_5), (0, .ref (a0 0)), (1, .int x1), (2, .int x2), (3, .int x3)]) X.1 X.2.1 dX6_changeOf_28 hl (k := 4) rfl (by rw [ex4_5]; rfl) (by decide) rfl (fun ls hl => ?_)
        refine lv_goto (tgt := 13) X.1 X.2.1 dX6_changeOf_31 (by decide) ?_
        exact ih x4_5 g0_4 ex h H locs ls hP hS (lv_sub hl [1, 2, 3, 4, 0] rfl) K
  have HL64 : ∀ (x1 : Int32) (x2 : Int32) (x3 : Int32) (x4 : Int32) (n : Nat) (x5 : Int32) (g0 : Pic) (ex : (Pic)), f_X6_changeOf_L64 x1 x2 x3 x4 g1 n (x5, g0) = some ex → ∀ (H : Heap) (locs : List Loc) (ls : Array Slot), va_P (dC, dI) vwCl (wLx tc a0 g0 (a1 0) ++ (wSt tc a1 g1 q1_18 q1_19)) H → va_S A s.heap H locs → lv_has ls 7 [(0, .ref (a0 0)), (1, .int x1), (2, .int x2), (3, .int x3), (4, .int x4), (5, .int x5)] → (∀ (k0 : Pic), k0 = ex → ∀ (H : Heap) (locs : List Loc) (ls : Array Slot), va_P (dC, dI) vwCl (wLx tc a0 k0 (a1 0) ++ (wSt tc a1 g1 q1_18 q1_19)) H → va_S A s.heap H locs → lv_has ls 7 [(0, .ref (a0 0)), (1, .int x1), (2, .int x2), (3, .int x3), (4, .int x4)] → W pr l e rm_X6_changeOf s m args below meth c H locs 0 0 Q (F0 m 149 ls [])) → W pr l e rm_X6_changeOf s m args below meth c H locs 0 0 Q (F0 m 64 ls []) := by
    intro x1 x2 x3 x4 n
    induction n with
    | zero => intro x5 g0 ex h; exact lp_z h
    | succ n ih =>
      intro x5 g0 ex h H locs ls hP hS hl K
      have h := lp_s h
      refine lv_iload X.1 X.2.1 dX6_changeOf_64 (lv_at hl 5 rfl) ?_
      refine lv_iload_n X.1 X.2.1 dX6_changeOf_66 rfl (lv_at hl 3 rfl) ?_
      refine lv_icmp_ge (tgt := 149) X.1 X.2.1 dX6_changeOf_67 (by decide) (fun hc => ?_) (fun hc => ?_)
      · have h := it_t hc h
        exact K g0 (Option.some.inj h) H locs ls hP hS (lv_sub hl [0, 1, 2, 3, 4] rfl)
      · have h := it_f hc h
        refine lv_aload_n X.1 X.2.1 dX6_changeOf_70 rfl (lv_at hl 0 rfl) ?_
        refine r_get (C := RX6) (T := TX6) (N := 4) (ci := 6) (v := .ref (a1 0)) X iw6 hP 0 rfl rfl 0 rfl mw_2_79 rfl dX6_changeOf_71 ?_
        refine lv_iload_n X.1 X.2.1 dX6_changeOf_74 rfl (lv_at hl 1 rfl) ?_
        refine lv_iload X.1 X.2.1 dX6_changeOf_75 (lv_at hl 4 rfl) ?_
        obtain ⟨r_9, hc_9, h⟩ := bd_el h
        refine call_Vsi (ws := (wLx tc a0 g0 (a1 0) ++ (wSt tc a1 g1 q1_18 q1_19))) (ws' := (wLx tc a0 g0 (a1 0) ++ (wSt tc a1 g1 q1_18 q1_19))) (wLx tc a0 g0 (a1 0)) [] (As := [.int x1, .int x4]) (rest := []) X (c_X9_letterAt l dC dI sk sv tc a1 q1_18 q1_19 g1 x1 x4 hc_9) mw_3_67 mw_3_68 mw_3_69 mw_1_3 mw_3_70 dc_X9_letterAt ⟨Nat.le_of_ble_eq_true rfl, Nat.le_of_ble_eq_true rfl⟩ rfl rfl ⟨Nat.zero_le _, Nat.zero_le _⟩ (by simp only [List.append_assoc, List.nil_append, List.append_nil]) (by simp only [List.append_assoc, List.nil_append, List.append_nil]) hP (hD _ _) hS 0 rfl rfl rfl hl.1 (Nat.le_of_ble_eq_true rfl) dX6_changeOf_77 (fun H locs hP hS => ?_)
        refine lv_aload_n X.1 X.2.1 dX6_changeOf_80 rfl (lv_at hl 0 rfl) ?_
        refine r_get (C := RX6) (T := TX6) (N := 4) (ci := 6) (v := .ref (a1 0)) X iw6 hP 0 rfl rfl 0 rfl mw_2_79 rfl dX6_changeOf_81 ?_
        refine lv_iload_n X.1 X.2.1 dX6_changeOf_84 rfl (lv_at hl 2 rfl) ?_
        refine lv_iload X.1 X.2.1 dX6_changeOf_85 (lv_at hl 5 rfl) ?_
        obtain ⟨r_10, hc_10, h⟩ := bd_el h
        refine call_Vsi (ws := (wLx tc a0 g0 (a1 0) ++ (wSt tc a1 g1 q1_18 q1_19))) (ws' := (wLx tc a0 g0 (a1 0) ++ (wSt tc a1 g1 q1_18 q1_19))) (wLx tc a0 g0 (a1 0)) [] (As := [.int x2, .int x5]) (rest := [.int r_9]) X (c_X9_letterAt l dC dI sk sv tc a1 q1_18 q1_19 g1 x2 x5 hc_10) mw_3_67 mw_3_68 mw_3_69 mw_1_3 mw_3_70 dc_X9_letterAt ⟨Nat.le_of_ble_eq_true rfl, Nat.le_of_ble_eq_true rfl⟩ rfl rfl ⟨Nat.zero_le _, Nat.zero_le _⟩ (by simp only [List.append_assoc, List.nil_append, List.append_nil]) (by simp only [List.append_assoc, List.nil_append, List.append_nil]) hP (hD _ _) hS 0 rfl rfl rfl hl.1 (Nat.le_of_ble_eq_true rfl) dX6_changeOf_87 (fun H locs hP hS => ?_)
        obtain ⟨J98, eJ98, h⟩ := jn_el h
        have HJ98 : ∀ (s0_J98 : Int32) (H : Heap) (locs : List Loc) (ls : Array Slot), J98 s0_J98 = some ex → va_P (dC, dI) vwCl (wLx tc a0 g0 (a1 0) ++ (wSt tc a1 g1 q1_18 q1_19)) H → va_S A s.heap H locs → lv_has ls 7 [(0, .ref (a0 0)), (1, .int x1), (2, .int x2), (3, .int x3), (4, .int x4), (5, .int x5)] → W pr l e rm_X6_changeOf s m args below meth c H locs 0 0 Q (F0 m 98 ls [.int s0_J98]) := by
          intro s0_J98 H locs ls h hP hS hl
          rw [eJ98] at h
          refine lv_istore (lv' := [(6, .int s0_J98), (0, .ref (a0 0)), (1, .int x1), (2, .int x2), (3, .int x3), (4, .int x4), (5, .int x5)]) X.1 X.2.1 dX6_changeOf_98 hl (by decide) rfl (fun ls hl => ?_)
          refine lv_aload_n X.1 X.2.1 dX6_changeOf_100 rfl (lv_at hl 1 rfl) ?_
          refine r_get (C := RX6) (T := TX6) (N := 4) (ci := 6) (v := .ref (a0 3)) X iw6 hP 0 rfl rfl 2 rfl mw_2_81 rfl dX6_changeOf_101 ?_
          refine lv_iload X.1 X.2.1 dX6_changeOf_104 (lv_at hl 6 rfl) ?_
          refine lv_iconst (v := 1) X.1 X.2.1 dX6_changeOf_106 (by decide) ?_
          refine lv_iadd X.1 X.2.1 dX6_changeOf_107 ?_
          refine lv_aload_n X.1 X.2.1 dX6_changeOf_108 rfl (lv_at hl 1 rfl) ?_
          refine r_get (C := RX6) (T := TX6) (N := 4) (ci := 6) (v := .ref (a0 2)) X iw6 hP 0 rfl rfl 1 rfl mw_2_80 rfl dX6_changeOf_109 ?_
          refine lv_iload X.1 X.2.1 dX6_changeOf_112 (lv_at hl 6 rfl) ?_
          obtain ⟨hg_11, h⟩ := gdi_el h
          refine r_iald X hP 1 0 rfl rfl hg_11 rfl dX6_changeOf_114 ?_
          refine lv_iload X.1 X.2.1 dX6_changeOf_115 (lv_at hl 0 rfl) ?_
          refine lv_iadd X.1 X.2.1 dX6_changeOf_117 ?_
          refine lv_aload_n X.1 X.2.1 dX6_changeOf_118 rfl (lv_at hl 1 rfl) ?_
          refine r_get (C := RX6) (T := TX6) (N := 4) (ci := 6) (v := .ref (a0 2)) X iw6 hP 0 rfl rfl 1 rfl mw_2_80 rfl dX6_changeOf_119 ?_
          refine lv_iload X.1 X.2.1 dX6_changeOf_122 (lv_at hl 6 rfl) ?_
          refine lv_iconst (v := 1) X.1 X.2.1 dX6_changeOf_124 (by decide) ?_
          refine lv_iadd X.1 X.2.1 dX6_changeOf_125 ?_
          obtain ⟨hg_12, h⟩ := gdi_el h
          refine r_iald X hP 1 0 rfl rfl hg_12 rfl dX6_changeOf_126 ?_
          refine lv_aload_n X.1 X.2.1 dX6_changeOf_127 rfl (lv_at hl 1 rfl) ?_
          refine r_get (C := RX6) (T := TX6) (N := 4) (ci := 6) (v := .ref (a0 3)) X iw6 hP 0 rfl rfl 2 rfl mw_2_81 rfl dX6_changeOf_128 ?_
          refine lv_iload X.1 X.2.1 dX6_changeOf_131 (lv_at hl 6 rfl) ?_
          obtain ⟨hg_13, h⟩ := gdi_el h
          refine r_iald X hP 2 0 rfl rfl hg_13 rfl dX6_changeOf_133 ?_
          refine r_min X mw_3_8 mw_3_9 mw_1_25 mw_3_10 hl.1 (Nat.le_of_ble_eq_true rfl) (Nat.le_of_ble_eq_true rfl) ⟨Nat.zero_le _, Nat.zero_le _⟩ dX6_changeOf_134 ?_
          refine lv_iconst (v := 1) X.1 X.2.1 dX6_changeOf_137 (by decide) ?_
          refine lv_iadd X.1 X.2.1 dX6_changeOf_138 ?_
          refine r_min X mw_3_8 mw_3_9 mw_1_25 mw_3_10 hl.1 (Nat.le_of_ble_eq_true rfl) (Nat.le_of_ble_eq_true rfl) ⟨Nat.zero_le _, Nat.zero_le _⟩ dX6_changeOf_139 ?_
          obtain ⟨hg_14, h⟩ := gdi_el h
          obtain ⟨g0_15, eg0_15, h⟩ := nm_el h
          refine r_iast X hP (hD _ _) hS 2 0 rfl rfl hg_14 rfl dX6_changeOf_142 (wLx tc a0 g0_15 (a1 0) ++ (wSt tc a1 g1 q1_18 q1_19)) (by rw [eg0_15]; rfl) (fun H locs hP hS => ?_)
          obtain ⟨x5_16, ex5_16, h⟩ := nm_el h
          refine lv_iinc (v := x5_16) (lv' := [(5, .int x5_16), (6, .int s0_J98), (0, .ref (a0 0)), (1, .int x1), (2, .int x2), (3, .int x3), (4, .int x4)]) X.1 X.2.1 dX6_changeOf_143 hl (k := 6) rfl (by rw [ex5_16]; rfl) (by decide) rfl (fun ls hl => ?_)
          refine lv_goto (tgt := 64) X.1 X.2.1 dX6_changeOf_146 (by decide) ?_
          exact ih x5_16 g0_15 ex h H locs ls hP hS (lv_sub hl [2, 3, 4, 5, 6, 0] rfl) K
        refine lv_icmp_ne (tgt := 97) X.1 X.2.1 dX6_changeOf_90 (by decide) (fun hc => ?_) (fun hc => ?_)
        · have h := it_f hc h
          refine lv_iconst (v := 1) X.1 X.2.1 dX6_changeOf_97 (by decide) ?_
          exact HJ98 1 H locs ls h hP hS (lv_sub hl [0, 1, 2, 3, 4, 5] rfl)
        · have h := it_t hc h
          refine lv_iconst (v := 0) X.1 X.2.1 dX6_changeOf_93 (by decide) ?_
          refine lv_goto (tgt := 98) X.1 X.2.1 dX6_changeOf_94 (by decide) ?_
          exact HJ98 0 H locs ls h hP hS (lv_sub hl [0, 1, 2, 3, 4, 5] rfl)
  have HL37 : ∀ (x1 : Int32) (x2 : Int32) (x3 : Int32) (n : Nat) (x4 : Int32) (g0 : Pic) (ex : (Pic)), f_X6_changeOf_L37 x1 x2 x3 g1 n (x4, g0) = some ex → ∀ (H : Heap) (locs : List Loc) (ls : Array Slot), va_P (dC, dI) vwCl (wLx tc a0 g0 (a1 0) ++ (wSt tc a1 g1 q1_18 q1_19)) H → va_S A s.heap H locs → lv_has ls 7 [(0, .ref (a0 0)), (1, .int x1), (2, .int x2), (3, .int x3), (4, .int x4)] → (∀ (k0 : Pic), k0 = ex → ∀ (H : Heap) (locs : List Loc) (ls : Array Slot), va_P (dC, dI) vwCl (wLx tc a0 k0 (a1 0) ++ (wSt tc a1 g1 q1_18 q1_19)) H → va_S A s.heap H locs → lv_has ls 7 [(0, .ref (a0 0)), (3, .int x3)] → W pr l e rm_X6_changeOf s m args below meth c H locs 0 0 Q (F0 m 173 ls [])) → W pr l e rm_X6_changeOf s m args below meth c H locs 0 0 Q (F0 m 37 ls []) := by
    intro x1 x2 x3 n
    induction n with
    | zero => intro x4 g0 ex h; exact lp_z h
    | succ n ih =>
      intro x4 g0 ex h H locs ls hP hS hl K
      have h := lp_s h
      refine lv_iload X.1 X.2.1 dX6_changeOf_37 (lv_at hl 4 rfl) ?_
      refine lv_aload_n X.1 X.2.1 dX6_changeOf_39 rfl (lv_at hl 0 rfl) ?_
      refine r_get (C := RX6) (T := TX6) (N := 4) (ci := 6) (v := .ref (a1 0)) X iw6 hP 0 rfl rfl 0 rfl mw_2_79 rfl dX6_changeOf_40 ?_
      refine r_get (C := RX9) (T := TX9) (N := 20) (ci := 9) (v := .ref (a1 3)) X iw9 hP 4 rfl rfl 2 rfl mw_1_114 rfl dX6_changeOf_43 ?_
      refine lv_iload_n X.1 X.2.1 dX6_changeOf_46 rfl (lv_at hl 1 rfl) ?_
      obtain ⟨hg_7, h⟩ := gdi_el h
      refine r_iald X hP 6 0 rfl rfl hg_7 rfl dX6_changeOf_47 ?_
      refine lv_icmp_ge (tgt := 173) X.1 X.2.1 dX6_changeOf_48 (by decide) (fun hc => ?_) (fun hc => ?_)
      · have h := it_t hc h
        exact K g0 (Option.some.inj h) H locs ls hP hS (lv_sub hl [0, 3] rfl)
      · have h := it_f hc h
        refine lv_aload_n X.1 X.2.1 dX6_changeOf_51 rfl (lv_at hl 0 rfl) ?_
        refine r_get (C := RX6) (T := TX6) (N := 4) (ci := 6) (v := .ref (a0 3)) X iw6 hP 0 rfl rfl 2 rfl mw_2_81 rfl dX6_changeOf_52 ?_
        refine lv_iconst (v := 0) X.1 X.2.1 dX6_changeOf_55 (by decide) ?_
        refine lv_iload X.1 X.2.1 dX6_changeOf_56 (lv_at hl 4 rfl) ?_
        refine lv_iconst (v := 1) X.1 X.2.1 dX6_changeOf_58 (by decide) ?_
        refine lv_iadd X.1 X.2.1 dX6_changeOf_59 ?_
        obtain ⟨g0_8, eg0_8, h⟩ := nm_el h
        refine r_iast X hP (hD _ _) hS 2 0 rfl rfl (j := 0) (by unfold vp_in; decide) (by decide) dX6_changeOf_60 (wLx tc a0 g0_8 (a1 0) ++ (wSt tc a1 g1 q1_18 q1_19)) (by rw [eg0_8]; rfl) (fun H locs hP hS => ?_)
        refine lv_iconst (v := 0) X.1 X.2.1 dX6_changeOf_61 (by decide) ?_
        refine lv_istore (lv' := [(5, .int 0), (0, .ref (a0 0)), (1, .int x1), (2, .int x2), (3, .int x3), (4, .int x4)]) X.1 X.2.1 dX6_changeOf_62 hl (by decide) rfl (fun ls hl => ?_)
        obtain ⟨ex_17, hL_17, h⟩ := bd_el h
        refine HL64 x1 x2 x3 x4 fu 0 g0_8 ex_17 hL_17 H locs ls hP hS (lv_sub hl [1, 2, 3, 4, 5, 0] rfl) (fun g0_17 he H locs ls hP hS hl => ?_)
        subst he
        refine lv_aload_n X.1 X.2.1 dX6_changeOf_149 rfl (lv_at hl 0 rfl) ?_
        refine r_get (C := RX6) (T := TX6) (N := 4) (ci := 6) (v := .ref (a0 3)) X iw6 hP 0 rfl rfl 2 rfl mw_2_81 rfl dX6_changeOf_150 ?_
        refine lv_iconst (v := 0) X.1 X.2.1 dX6_changeOf_153 (by decide) ?_
        refine lv_aload_n X.1 X.2.1 dX6_changeOf_154 rfl (lv_at hl 0 rfl) ?_
        refine r_get (C := RX6) (T := TX6) (N := 4) (ci := 6) (v := .ref (a0 2)) X iw6 hP 0 rfl rfl 1 rfl mw_2_80 rfl dX6_changeOf_155 ?_
        refine lv_iconst (v := 0) X.1 X.2.1 dX6_changeOf_158 (by decide) ?_
        refine lv_aload_n X.1 X.2.1 dX6_changeOf_159 rfl (lv_at hl 0 rfl) ?_
        refine r_get (C := RX6) (T := TX6) (N := 4) (ci := 6) (v := .ref (a0 2)) X iw6 hP 0 rfl rfl 1 rfl mw_2_80 rfl dX6_changeOf_160 ?_
        refine r_alen (v := 7) X hP 1 0 rfl rfl rfl dX6_changeOf_163 ?_
        obtain ⟨g0_18, eg0_18, h⟩ := nm_el h
        refine r_copy (N := 7) (Ni := 7) X mw_5_6 mw_3_85 mw_3_84 mw_1_13 hl.1 ⟨by decide, by decide⟩ hP (hD _ _) hS 2 1 rfl rfl rfl rfl (Nat.le_of_ble_eq_true rfl) (Nat.le_of_ble_eq_true rfl) dX6_changeOf_164 (wLx tc a0 g0_18 (a1 0) ++ (wSt tc a1 g1 q1_18 q1_19)) (by rw [eg0_18]; rfl) (fun H locs hP hS => ?_)
        obtain ⟨x4_19, ex4_19, h⟩ := nm_el h
        refine lv_iinc (v := x4_19) (lv' := [(4, .int x4_19), (0, .ref (a0 0)), (1, .int x1), (2, .int x2), (3, .int x3)]) X.1 X.2.1 dX6_changeOf_167 hl (k := 4) rfl (by rw [ex4_19]; rfl) (by decide) rfl (fun ls hl => ?_)
        refine lv_goto (tgt := 37) X.1 X.2.1 dX6_changeOf_170 (by decide) ?_
        exact ih x4_19 g0_18 ex h H locs ls hP hS (lv_sub hl [1, 2, 3, 4, 0] rfl) K
  unfold f_X6_changeOf at h
  refine lv_aload_n X.1 X.2.1 dX6_changeOf_0 rfl (lv_at hl 0 rfl) ?_
  refine r_get (C := RX6) (T := TX6) (N := 4) (ci := 6) (v := .ref (a1 0)) X iw6 hP 0 rfl rfl 0 rfl mw_2_79 rfl dX6_changeOf_1 ?_
  refine r_get (C := RX9) (T := TX9) (N := 20) (ci := 9) (v := .ref (a1 3)) X iw9 hP 4 rfl rfl 2 rfl mw_1_114 rfl dX6_changeOf_4 ?_
  refine lv_iload_n X.1 X.2.1 dX6_changeOf_7 rfl (lv_at hl 2 rfl) ?_
  obtain ⟨hg_1, h⟩ := gdi_el h
  refine r_iald X hP 6 0 rfl rfl hg_1 rfl dX6_changeOf_8 ?_
  obtain ⟨x3_2, ex3_2, h⟩ := nm_el h
  refine tp_i ex3_2 ?_
  refine lv_istore_n (lv' := [(3, .int x3_2), (0, .ref (a0 0)), (1, .int x1), (2, .int x2)]) X.1 X.2.1 dX6_changeOf_9 rfl hl (by decide) rfl (fun ls hl => ?_)
  refine lv_iconst (v := 0) X.1 X.2.1 dX6_changeOf_10 (by decide) ?_
  refine lv_istore (lv' := [(4, .int 0), (3, .int x3_2), (0, .ref (a0 0)), (1, .int x1), (2, .int x2)]) X.1 X.2.1 dX6_changeOf_11 hl (by decide) rfl (fun ls hl => ?_)
  obtain ⟨ex_6, hL_6, h⟩ := bd_el h
  refine HL13 x1 x2 x3_2 fu 0 g0 ex_6 hL_6 H locs ls hP hS (lv_sub hl [2, 3, 4, 1, 0] rfl) (fun g0_6 he H locs ls hP hS hl => ?_)
  subst he
  refine lv_iconst (v := 0) X.1 X.2.1 dX6_changeOf_34 (by decide) ?_
  refine lv_istore (lv' := [(4, .int 0), (0, .ref (a0 0)), (1, .int x1), (2, .int x2), (3, .int x3_2)]) X.1 X.2.1 dX6_changeOf_35 hl (by decide) rfl (fun ls hl => ?_)
  obtain ⟨ex_20, hL_20, h⟩ := bd_el h
  refine HL37 x1 x2 x3_2 fu 0 g0_6 ex_20 hL_20 H locs ls hP hS (lv_sub hl [1, 2, 3, 4, 0] rfl) (fun g0_20 he H locs ls hP hS hl => ?_)
  subst he
  refine lv_aload_n X.1 X.2.1 dX6_changeOf_173 rfl (lv_at hl 0 rfl) ?_
  refine r_get (C := RX6) (T := TX6) (N := 4) (ci := 6) (v := .ref (a0 2)) X iw6 hP 0 rfl rfl 1 rfl mw_2_80 rfl dX6_changeOf_174 ?_
  refine lv_iload_n X.1 X.2.1 dX6_changeOf_177 rfl (lv_at hl 1 rfl) ?_
  obtain ⟨hg_21, h⟩ := gdi_el h
  refine r_iald X hP 1 0 rfl rfl hg_21 rfl dX6_changeOf_178 ?_
  exact ret_i (fun u => (wLx tc a0 u (a1 0) ++ (wSt tc a1 g1 q1_18 q1_19))) (res := (r0, G0)) (Option.some.inj h) X hQ hP hS dX6_changeOf_179

def f_X6_closestTo_L8 (x1 : Int32) (g1 : Pic) (n : Nat) (a : Int32 × Int32 × Int32 × Pic) : Option (Int32 × Pic) := lp (fun (rec : Int32 × Int32 × Int32 × Pic → Option (Int32 × Pic)) (a : Int32 × Int32 × Int32 × Pic) => match a with | (x2, x3, x4, g0) => (if (g1 0 0) ≤ x4 then some (x2, g0) else jn (fun (s0_J38 : Int32) (g0_J38 : Pic) => jn (fun (x2_J52 : Int32) (x3_J52 : Int32) => nm (x4 + 1) (fun x4_1 => rec (x2_J52, x3_J52, x4_1, g0_J38))) (fun J52 => (if x3 ≤ s0_J38 then J52 x2 x3 else J52 x4 s0_J38))) (fun J38 => (if x4 = x1 then J38 1000000 g0 else bd2 (f_X6_changeOf g0 g1 x1 x4) (fun r_2 g0_2 => J38 r_2 g0_2))))) n a
def f_X6_closestTo (g0 : Pic) (g1 : Pic) (x1 : Int32) : Option (Int32 × Pic) := bd (f_X6_closestTo_L8 x1 g1 fu ((-1), 1000000, 0, g0)) (fun (x2_3, g0_3) => some (x2_3, g0_3))
abbrev rm_X6_closestTo : Room := { frames := 2, cells := 0, slots := 0, locals := 126 }
set_option maxHeartbeats 4000000 in
set_option maxRecDepth 100000 in
theorem c_X6_closestTo (l : Launch) (dC : Nat → ClassId) (dI : Nat → Nat → Nat) (sk sv : Nat → Nat) (tc : Nat → ClassId) (a0 : Nat → Nat) (a1 : Nat → Nat) (q1_18 : Option Nat) (q1_19 : Nat) (g0 : Pic) (g1 : Pic) (x1 : Int32) {r0 : Int32} {G0 : Pic} (h : f_X6_closestTo g0 g1 x1 = some (r0, G0)) : CT l (dC, dI) sk sv (TY tc) yX6_closestTo cX6_closestTo 6 (some .int) rm_X6_closestTo [.ref (a0 0), .int x1] (wLx tc a0 g0 (a1 0) ++ (wSt tc a1 g1 q1_18 q1_19)) (some (.int r0)) (wLx tc a0 G0 (a1 0) ++ (wSt tc a1 g1 q1_18 q1_19)) := by
  refine ofCT (by decide) (Nat.le_of_ble_eq_true rfl) ?_
  intro pr e s m args below meth c A Q ls H locs X hQ hD0 hP hS hl
  have hD : ∀ z0 z1, va_D A (wLx tc a0 z0 (a1 0) ++ (wSt tc a1 z1 q1_18 q1_19)) := fun z0 z1 => D_fst (ws := (wLx tc a0 g0 (a1 0) ++ (wSt tc a1 g1 q1_18 q1_19))) rfl hD0
  have hl : lv_has ls 6 [(0, .ref (a0 0)), (1, .int x1)] := hl
  have HL8 : ∀ (x1 : Int32) (n : Nat) (x2 : Int32) (x3 : Int32) (x4 : Int32) (g0 : Pic) (ex : (Int32 × Pic)), f_X6_closestTo_L8 x1 g1 n (x2, x3, x4, g0) = some ex → ∀ (H : Heap) (locs : List Loc) (ls : Array Slot), va_P (dC, dI) vwCl (wLx tc a0 g0 (a1 0) ++ (wSt tc a1 g1 q1_18 q1_19)) H → va_S A s.heap H locs → lv_has ls 6 [(0, .ref (a0 0)), (1, .int x1), (2, .int x2), (3, .int x3), (4, .int x4)] → (∀ (y2 : Int32) (k0 : Pic), (y2, k0) = ex → ∀ (H : Heap) (locs : List Loc) (ls : Array Slot), va_P (dC, dI) vwCl (wLx tc a0 k0 (a1 0) ++ (wSt tc a1 g1 q1_18 q1_19)) H → va_S A s.heap H locs → lv_has ls 6 [(2, .int y2)] → W pr l e rm_X6_closestTo s m args below meth c H locs 0 0 Q (F0 m 58 ls [])) → W pr l e rm_X6_closestTo s m args below meth c H locs 0 0 Q (F0 m 8 ls []) := by
    intro x1 n
    induction n with
    | zero => intro x2 x3 x4 g0 ex h; exact lp_z h
    | succ n ih =>
      intro x2 x3 x4 g0 ex h H locs ls hP hS hl K
      have h := lp_s h
      refine lv_iload X.1 X.2.1 dX6_closestTo_8 (lv_at hl 4 rfl) ?_
      refine lv_aload_n X.1 X.2.1 dX6_closestTo_10 rfl (lv_at hl 0 rfl) ?_
      refine r_get (C := RX6) (T := TX6) (N := 4) (ci := 6) (v := .ref (a1 0)) X iw6 hP 0 rfl rfl 0 rfl mw_2_79 rfl dX6_closestTo_11 ?_
      refine r_get (C := RX9) (T := TX9) (N := 20) (ci := 9) (v := .int (g1 0 0)) X iw9 hP 4 rfl rfl 0 rfl mw_1_105 rfl dX6_closestTo_14 ?_
      refine lv_icmp_ge (tgt := 58) X.1 X.2.1 dX6_closestTo_17 (by decide) (fun hc => ?_) (fun hc => ?_)
      · have h := it_t hc h
        exact K x2 g0 (Option.some.inj h) H locs ls hP hS (lv_sub hl [2] rfl)
      · have h := it_f hc h
        refine lv_iload X.1 X.2.1 dX6_closestTo_20 (lv_at hl 4 rfl) ?_
        refine lv_iload_n X.1 X.2.1 dX6_closestTo_22 rfl (lv_at hl 1 rfl) ?_
        obtain ⟨J38, eJ38, h⟩ := jn_el h
        have HJ38 : ∀ (s0_J38 : Int32) (g0_J38 : Pic) (H : Heap) (locs : List Loc) (ls : Array Slot), J38 s0_J38 g0_J38 = some ex → va_P (dC, dI) vwCl (wLx tc a0 g0_J38 (a1 0) ++ (wSt tc a1 g1 q1_18 q1_19)) H → va_S A s.heap H locs → lv_has ls 6 [(0, .ref (a0 0)), (1, .int x1), (2, .int x2), (3, .int x3), (4, .int x4)] → W pr l e rm_X6_closestTo s m args below meth c H locs 0 0 Q (F0 m 38 ls [.int s0_J38]) := by
          intro s0_J38 g0_J38 H locs ls h hP hS hl
          rw [eJ38] at h
          refine lv_istore (lv' := [(5, .int s0_J38), (0, .ref (a0 0)), (1, .int x1), (2, .int x2), (3, .int x3), (4, .int x4)]) X.1 X.2.1 dX6_closestTo_38 hl (by decide) rfl (fun ls hl => ?_)
          refine lv_iload X.1 X.2.1 dX6_closestTo_40 (lv_at hl 0 rfl) ?_
          refine lv_iload_n X.1 X.2.1 dX6_closestTo_42 rfl (lv_at hl 4 rfl) ?_
          obtain ⟨J52, eJ52, h⟩ := jn_el h
          have HJ52 : ∀ (x2_J52 : Int32) (x3_J52 : Int32) (H : Heap) (locs : List Loc) (ls : Array Slot), J52 x2_J52 x3_J52 = some ex → va_P (dC, dI) vwCl (wLx tc a0 g0_J38 (a1 0) ++ (wSt tc a1 g1 q1_18 q1_19)) H → va_S A s.heap H locs → lv_has ls 6 [(0, .ref (a0 0)), (1, .int x1), (2, .int x2_J52), (3, .int x3_J52), (4, .int x4)] → W pr l e rm_X6_closestTo s m args below meth c H locs 0 0 Q (F0 m 52 ls []) := by
            intro x2_J52 x3_J52 H locs ls h hP hS hl
            rw [eJ52] at h
            obtain ⟨x4_1, ex4_1, h⟩ := nm_el h
            refine lv_iinc (v := x4_1) (lv' := [(4, .int x4_1), (0, .ref (a0 0)), (1, .int x1), (2, .int x2_J52), (3, .int x3_J52)]) X.1 X.2.1 dX6_closestTo_52 hl (k := 4) rfl (by rw [ex4_1]; rfl) (by decide) rfl (fun ls hl => ?_)
            refine lv_goto (tgt := 8) X.1 X.2.1 dX6_closestTo_55 (by decide) ?_
            exact ih x2_J52 x3_J52 x4_1 g0_J38 ex h H locs ls hP hS (lv_sub hl [1, 2, 3, 4, 0] rfl) K
          refine lv_icmp_ge (tgt := 52) X.1 X.2.1 dX6_closestTo_43 (by decide) (fun hc => ?_) (fun hc => ?_)
          · have h := it_t hc h
            exact HJ52 x2 x3 H locs ls h hP hS (lv_sub hl [1, 2, 3, 4, 5] rfl)
          · have h := it_f hc h
            refine lv_iload X.1 X.2.1 dX6_closestTo_46 (lv_at hl 5 rfl) ?_
            refine lv_istore_n (lv' := [(2, .int x4), (5, .int s0_J38), (0, .ref (a0 0)), (1, .int x1), (3, .int x3), (4, .int x4)]) X.1 X.2.1 dX6_closestTo_48 rfl hl (by decide) rfl (fun ls hl => ?_)
            refine lv_iload X.1 X.2.1 dX6_closestTo_49 (lv_at hl 1 rfl) ?_
            refine lv_istore_n (lv' := [(3, .int s0_J38), (2, .int x4), (5, .int s0_J38), (0, .ref (a0 0)), (1, .int x1), (4, .int x4)]) X.1 X.2.1 dX6_closestTo_51 rfl hl (by decide) rfl (fun ls hl => ?_)
            exact HJ52 x4 s0_J38 H locs ls h hP hS (lv_sub hl [3, 4, 1, 0, 5] rfl)
        refine lv_icmp_ne (tgt := 31) X.1 X.2.1 dX6_closestTo_23 (by decide) (fun hc => ?_) (fun hc => ?_)
        · have h := it_f hc h
          refine lv_aload_n X.1 X.2.1 dX6_closestTo_31 rfl (lv_at hl 0 rfl) ?_
          refine lv_iload_n X.1 X.2.1 dX6_closestTo_32 rfl (lv_at hl 1 rfl) ?_
          refine lv_iload X.1 X.2.1 dX6_closestTo_33 (lv_at hl 4 rfl) ?_
          obtain ⟨r_2, g0_2, hc_2, h⟩ := bd2_el h
          refine call_V1i (As := [.int x1, .int x4]) (rest := []) X (c_X6_changeOf l dC dI sk sv tc a0 a1 q1_18 q1_19 g0 g1 x1 x4 hc_2) mw_5_2 mw_5_3 mw_5_4 mw_1_9 mw_5_5 dc_X6_changeOf ⟨Nat.le_of_ble_eq_true rfl, Nat.le_of_ble_eq_true rfl⟩ rfl rfl ⟨Nat.zero_le _, Nat.zero_le _⟩ hP (hD _ _) hS 0 rfl rfl rfl hl.1 (Nat.le_of_ble_eq_true rfl) dX6_closestTo_35 (fun H locs hP hS => ?_)
          exact HJ38 r_2 g0_2 H locs ls h hP hS (lv_sub hl [0, 1, 2, 3, 4] rfl)
        · have h := it_t hc h
          refine lv_ldc (v := 1000000) X.1 X.2.1 X.2.2.2.2.1 (X.2.2.2.2.2.1 _ (List.mem_cons_of_mem _ mw_3_3)) dX6_closestTo_26 ?_
          refine lv_goto (tgt := 38) X.1 X.2.1 dX6_closestTo_28 (by decide) ?_
          exact HJ38 1000000 g0 H locs ls h hP hS (lv_sub hl [0, 1, 2, 3, 4] rfl)
  unfold f_X6_closestTo at h
  refine lv_iconst (v := (-1)) X.1 X.2.1 dX6_closestTo_0 (by decide) ?_
  refine lv_istore_n (lv' := [(2, .int (-1)), (0, .ref (a0 0)), (1, .int x1)]) X.1 X.2.1 dX6_closestTo_1 rfl hl (by decide) rfl (fun ls hl => ?_)
  refine lv_ldc (v := 1000000) X.1 X.2.1 X.2.2.2.2.1 (X.2.2.2.2.2.1 _ (List.mem_cons_of_mem _ mw_3_3)) dX6_closestTo_2 ?_
  refine lv_istore_n (lv' := [(3, .int 1000000), (2, .int (-1)), (0, .ref (a0 0)), (1, .int x1)]) X.1 X.2.1 dX6_closestTo_4 rfl hl (by decide) rfl (fun ls hl => ?_)
  refine lv_iconst (v := 0) X.1 X.2.1 dX6_closestTo_5 (by decide) ?_
  refine lv_istore (lv' := [(4, .int 0), (3, .int 1000000), (2, .int (-1)), (0, .ref (a0 0)), (1, .int x1)]) X.1 X.2.1 dX6_closestTo_6 hl (by decide) rfl (fun ls hl => ?_)
  obtain ⟨ex_3, hL_3, h⟩ := bd_el h
  refine HL8 x1 fu (-1) 1000000 0 g0 ex_3 hL_3 H locs ls hP hS (lv_sub hl [3, 4, 2, 1, 0] rfl) (fun x2_3 g0_3 he H locs ls hP hS hl => ?_)
  subst he
  refine lv_iload_n X.1 X.2.1 dX6_closestTo_58 rfl (lv_at hl 0 rfl) ?_
  exact ret_i (fun u => (wLx tc a0 u (a1 0) ++ (wSt tc a1 g1 q1_18 q1_19))) (res := (r0, G0)) (Option.some.inj h) X hQ hP hS dX6_closestTo_59

def f_X6_neighboursOf_L18 (x1 : Int32) (x3 : Int32) (g1 : Pic) (n : Nat) (a : Int32 × Int32 × Pic) : Option (Int32 × Pic) := lp (fun (rec : Int32 × Int32 × Pic → Option (Int32 × Pic)) (a : Int32 × Int32 × Pic) => match a with | (x2, x4, g0) => (if (g1 0 0) ≤ x4 then some (x2, g0) else jn (fun (s0_J53 : Int32) => jn (fun (x2_J78 : Int32) (g0_J78 : Pic) => nm (x4 + 1) (fun x4_1 => rec (x2_J78, x4_1, g0_J78))) (fun J78 => (if s0_J53 = 0 then J78 x2 g0 else bd2 (f_X6_changeOf g0 g1 x3 x4) (fun r_2 g0_2 => (if 1 < r_2 then J78 x2 g0_2 else nm ((x2 ||| ((1 : Int32) <<< (x4 &&& 31)))) (fun x2_3 => J78 x2_3 g0_2)))))) (fun J53 => jn (fun (_ : Unit) => J53 0) (fun J52 => (if ((x1 >>> (x3 &&& 31)) &&& 1) = 1 then (if ((x1 >>> (x4 &&& 31)) &&& 1) = 0 then J53 1 else J52 ()) else J52 ()))))) n a
def f_X6_neighboursOf_L4 (x1 : Int32) (g1 : Pic) (n : Nat) (a : Int32 × Int32 × Pic) : Option (Int32 × Pic) := lp (fun (rec : Int32 × Int32 × Pic → Option (Int32 × Pic)) (a : Int32 × Int32 × Pic) => match a with | (x2, x3, g0) => (if (g1 0 0) ≤ x3 then some (x2, g0) else bd (f_X6_neighboursOf_L18 x1 x3 g1 fu (x2, 0, g0)) (fun (x2_4, g0_4) => nm (x3 + 1) (fun x3_5 => rec (x2_4, x3_5, g0_4))))) n a
def f_X6_neighboursOf (g0 : Pic) (g1 : Pic) (x1 : Int32) : Option (Int32 × Pic) := bd (f_X6_neighboursOf_L4 x1 g1 fu (0, 0, g0)) (fun (x2_6, g0_6) => some (x2_6, g0_6))
abbrev rm_X6_neighboursOf : Room := { frames := 2, cells := 0, slots := 0, locals := 126 }
set_option maxHeartbeats 4000000 in
set_option maxRecDepth 100000 in
theorem c_X6_neighboursOf (l : Launch) (dC : Nat → ClassId) (dI : Nat → Nat → Nat) (sk sv : Nat → Nat) (tc : Nat → ClassId) (a0 : Nat → Nat) (a1 : Nat → Nat) (q1_18 : Option Nat) (q1_19 : Nat) (g0 : Pic) (g1 : Pic) (x1 : Int32) {r0 : Int32} {G0 : Pic} (h : f_X6_neighboursOf g0 g1 x1 = some (r0, G0)) : CT l (dC, dI) sk sv (TY tc) yX6_neighboursOf cX6_neighboursOf 6 (some .int) rm_X6_neighboursOf [.ref (a0 0), .int x1] (wLx tc a0 g0 (a1 0) ++ (wSt tc a1 g1 q1_18 q1_19)) (some (.int r0)) (wLx tc a0 G0 (a1 0) ++ (wSt tc a1 g1 q1_18 q1_19)) := by
  refine ofCT (by decide) (Nat.le_of_ble_eq_true rfl) ?_
  intro pr e s m args below meth c A Q ls H locs X hQ hD0 hP hS hl
  have hD : ∀ z0 z1, va_D A (wLx tc a0 z0 (a1 0) ++ (wSt tc a1 z1 q1_18 q1_19)) := fun z0 z1 => D_fst (ws := (wLx tc a0 g0 (a1 0) ++ (wSt tc a1 g1 q1_18 q1_19))) rfl hD0
  have hl : lv_has ls 6 [(0, .ref (a0 0)), (1, .int x1)] := hl
  have HL18 : ∀ (x1 : Int32) (x3 : Int32) (n : Nat) (x2 : Int32) (x4 : Int32) (g0 : Pic) (ex : (Int32 × Pic)), f_X6_neighboursOf_L18 x1 x3 g1 n (x2, x4, g0) = some ex → ∀ (H : Heap) (locs : List Loc) (ls : Array Slot), va_P (dC, dI) vwCl (wLx tc a0 g0 (a1 0) ++ (wSt tc a1 g1 q1_18 q1_19)) H → va_S A s.heap H locs → lv_has ls 6 [(0, .ref (a0 0)), (1, .int x1), (2, .int x2), (3, .int x3), (4, .int x4)] → (∀ (y2 : Int32) (k0 : Pic), (y2, k0) = ex → ∀ (H : Heap) (locs : List Loc) (ls : Array Slot), va_P (dC, dI) vwCl (wLx tc a0 k0 (a1 0) ++ (wSt tc a1 g1 q1_18 q1_19)) H → va_S A s.heap H locs → lv_has ls 6 [(0, .ref (a0 0)), (1, .int x1), (2, .int y2), (3, .int x3)] → W pr l e rm_X6_neighboursOf s m args below meth c H locs 0 0 Q (F0 m 84 ls [])) → W pr l e rm_X6_neighboursOf s m args below meth c H locs 0 0 Q (F0 m 18 ls []) := by
    intro x1 x3 n
    induction n with
    | zero => intro x2 x4 g0 ex h; exact lp_z h
    | succ n ih =>
      intro x2 x4 g0 ex h H locs ls hP hS hl K
      have h := lp_s h
      refine lv_iload X.1 X.2.1 dX6_neighboursOf_18 (lv_at hl 4 rfl) ?_
      refine lv_aload_n X.1 X.2.1 dX6_neighboursOf_20 rfl (lv_at hl 0 rfl) ?_
      refine r_get (C := RX6) (T := TX6) (N := 4) (ci := 6) (v := .ref (a1 0)) X iw6 hP 0 rfl rfl 0 rfl mw_2_79 rfl dX6_neighboursOf_21 ?_
      refine r_get (C := RX9) (T := TX9) (N := 20) (ci := 9) (v := .int (g1 0 0)) X iw9 hP 4 rfl rfl 0 rfl mw_1_105 rfl dX6_neighboursOf_24 ?_
      refine lv_icmp_ge (tgt := 84) X.1 X.2.1 dX6_neighboursOf_27 (by decide) (fun hc => ?_) (fun hc => ?_)
      · have h := it_t hc h
        exact K x2 g0 (Option.some.inj h) H locs ls hP hS (lv_sub hl [0, 1, 2, 3] rfl)
      · have h := it_f hc h
        refine lv_iload_n X.1 X.2.1 dX6_neighboursOf_30 rfl (lv_at hl 1 rfl) ?_
        refine lv_iload_n X.1 X.2.1 dX6_neighboursOf_31 rfl (lv_at hl 3 rfl) ?_
        refine lv_ishr X.1 X.2.1 dX6_neighboursOf_32 ?_
        refine lv_iconst (v := 1) X.1 X.2.1 dX6_neighboursOf_33 (by decide) ?_
        refine lv_iand X.1 X.2.1 dX6_neighboursOf_34 ?_
        refine lv_iconst (v := 1) X.1 X.2.1 dX6_neighboursOf_35 (by decide) ?_
        obtain ⟨J53, eJ53, h⟩ := jn_el h
        have HJ53 : ∀ (s0_J53 : Int32) (H : Heap) (locs : List Loc) (ls : Array Slot), J53 s0_J53 = some ex → va_P (dC, dI) vwCl (wLx tc a0 g0 (a1 0) ++ (wSt tc a1 g1 q1_18 q1_19)) H → va_S A s.heap H locs → lv_has ls 6 [(0, .ref (a0 0)), (1, .int x1), (2, .int x2), (3, .int x3), (4, .int x4)] → W pr l e rm_X6_neighboursOf s m args below meth c H locs 0 0 Q (F0 m 53 ls [.int s0_J53]) := by
          intro s0_J53 H locs ls h hP hS hl
          rw [eJ53] at h
          refine lv_istore (lv' := [(5, .int s0_J53), (0, .ref (a0 0)), (1, .int x1), (2, .int x2), (3, .int x3), (4, .int x4)]) X.1 X.2.1 dX6_neighboursOf_53 hl (by decide) rfl (fun ls hl => ?_)
          refine lv_iload X.1 X.2.1 dX6_neighboursOf_55 (lv_at hl 0 rfl) ?_
          obtain ⟨J78, eJ78, h⟩ := jn_el h
          have HJ78 : ∀ (x2_J78 : Int32) (g0_J78 : Pic) (H : Heap) (locs : List Loc) (ls : Array Slot), J78 x2_J78 g0_J78 = some ex → va_P (dC, dI) vwCl (wLx tc a0 g0_J78 (a1 0) ++ (wSt tc a1 g1 q1_18 q1_19)) H → va_S A s.heap H locs → lv_has ls 6 [(0, .ref (a0 0)), (1, .int x1), (2, .int x2_J78), (3, .int x3), (4, .int x4)] → W pr l e rm_X6_neighboursOf s m args below meth c H locs 0 0 Q (F0 m 78 ls []) := by
            intro x2_J78 g0_J78 H locs ls h hP hS hl
            rw [eJ78] at h
            obtain ⟨x4_1, ex4_1, h⟩ := nm_el h
            refine lv_iinc (v := x4_1) (lv' := [(4, .int x4_1), (0, .ref (a0 0)), (1, .int x1), (2, .int x2_J78), (3, .int x3)]) X.1 X.2.1 dX6_neighboursOf_78 hl (k := 4) rfl (by rw [ex4_1]; rfl) (by decide) rfl (fun ls hl => ?_)
            refine lv_goto (tgt := 18) X.1 X.2.1 dX6_neighboursOf_81 (by decide) ?_
            exact ih x2_J78 x4_1 g0_J78 ex h H locs ls hP hS (lv_sub hl [1, 2, 3, 4, 0] rfl) K
          refine lv_if_eq (tgt := 78) X.1 X.2.1 dX6_neighboursOf_57 (by decide) (fun hc => ?_) (fun hc => ?_)
          · have h := it_t hc h
            exact HJ78 x2 g0 H locs ls h hP hS (lv_sub hl [1, 2, 3, 4, 5] rfl)
          · have h := it_f hc h
            refine lv_aload_n X.1 X.2.1 dX6_neighboursOf_60 rfl (lv_at hl 1 rfl) ?_
            refine lv_iload_n X.1 X.2.1 dX6_neighboursOf_61 rfl (lv_at hl 4 rfl) ?_
            refine lv_iload X.1 X.2.1 dX6_neighboursOf_62 (lv_at hl 5 rfl) ?_
            obtain ⟨r_2, g0_2, hc_2, h⟩ := bd2_el h
            refine call_V1i (As := [.int x3, .int x4]) (rest := []) X (c_X6_changeOf l dC dI sk sv tc a0 a1 q1_18 q1_19 g0 g1 x3 x4 hc_2) mw_5_2 mw_5_3 mw_5_4 mw_1_9 mw_5_5 dc_X6_changeOf ⟨Nat.le_of_ble_eq_true rfl, Nat.le_of_ble_eq_true rfl⟩ rfl rfl ⟨Nat.zero_le _, Nat.zero_le _⟩ hP (hD _ _) hS 0 rfl rfl rfl hl.1 (Nat.le_of_ble_eq_true rfl) dX6_neighboursOf_64 (fun H locs hP hS => ?_)
            refine lv_iconst (v := 1) X.1 X.2.1 dX6_neighboursOf_67 (by decide) ?_
            refine lv_icmp_gt (tgt := 78) X.1 X.2.1 dX6_neighboursOf_68 (by decide) (fun hc => ?_) (fun hc => ?_)
            · have h := it_t hc h
              exact HJ78 x2 g0_2 H locs ls h hP hS (lv_sub hl [1, 2, 3, 4, 5] rfl)
            · have h := it_f hc h
              refine lv_iload_n X.1 X.2.1 dX6_neighboursOf_71 rfl (lv_at hl 3 rfl) ?_
              refine lv_iconst (v := 1) X.1 X.2.1 dX6_neighboursOf_72 (by decide) ?_
              refine lv_iload X.1 X.2.1 dX6_neighboursOf_73 (lv_at hl 5 rfl) ?_
              refine lv_ishl X.1 X.2.1 dX6_neighboursOf_75 ?_
              refine lv_ior X.1 X.2.1 dX6_neighboursOf_76 ?_
              obtain ⟨x2_3, ex2_3, h⟩ := nm_el h
              refine tp_i ex2_3 ?_
              refine lv_istore_n (lv' := [(2, .int x2_3), (5, .int s0_J53), (0, .ref (a0 0)), (1, .int x1), (3, .int x3), (4, .int x4)]) X.1 X.2.1 dX6_neighboursOf_77 rfl hl (by decide) rfl (fun ls hl => ?_)
              exact HJ78 x2_3 g0_2 H locs ls h hP hS (lv_sub hl [2, 3, 0, 4, 5] rfl)
        obtain ⟨J52, eJ52, h⟩ := jn_el h
        have HJ52 : ∀ (_ : Unit) (H : Heap) (locs : List Loc) (ls : Array Slot), J52 () = some ex → va_P (dC, dI) vwCl (wLx tc a0 g0 (a1 0) ++ (wSt tc a1 g1 q1_18 q1_19)) H → va_S A s.heap H locs → lv_has ls 6 [(0, .ref (a0 0)), (1, .int x1), (2, .int x2), (3, .int x3), (4, .int x4)] → W pr l e rm_X6_neighboursOf s m args below meth c H locs 0 0 Q (F0 m 52 ls []) := by
          intro _ H locs ls h hP hS hl
          rw [eJ52] at h
          refine lv_iconst (v := 0) X.1 X.2.1 dX6_neighboursOf_52 (by decide) ?_
          exact HJ53 0 H locs ls h hP hS (lv_sub hl [0, 1, 2, 3, 4] rfl)
        refine lv_icmp_ne (tgt := 52) X.1 X.2.1 dX6_neighboursOf_36 (by decide) (fun hc => ?_) (fun hc => ?_)
        · have h := it_f hc h
          exact HJ52 () H locs ls h hP hS (lv_sub hl [0, 1, 2, 3, 4] rfl)
        · have h := it_t hc h
          refine lv_iload_n X.1 X.2.1 dX6_neighboursOf_39 rfl (lv_at hl 1 rfl) ?_
          refine lv_iload X.1 X.2.1 dX6_neighboursOf_40 (lv_at hl 4 rfl) ?_
          refine lv_ishr X.1 X.2.1 dX6_neighboursOf_42 ?_
          refine lv_iconst (v := 1) X.1 X.2.1 dX6_neighboursOf_43 (by decide) ?_
          refine lv_iand X.1 X.2.1 dX6_neighboursOf_44 ?_
          refine lv_if_ne (tgt := 52) X.1 X.2.1 dX6_neighboursOf_45 (by decide) (fun hc => ?_) (fun hc => ?_)
          · have h := it_f hc h
            exact HJ52 () H locs ls h hP hS (lv_sub hl [0, 1, 2, 3, 4] rfl)
          · have h := it_t hc h
            refine lv_iconst (v := 1) X.1 X.2.1 dX6_neighboursOf_48 (by decide) ?_
            refine lv_goto (tgt := 53) X.1 X.2.1 dX6_neighboursOf_49 (by decide) ?_
            exact HJ53 1 H locs ls h hP hS (lv_sub hl [0, 1, 2, 3, 4] rfl)
  have HL4 : ∀ (x1 : Int32) (n : Nat) (x2 : Int32) (x3 : Int32) (g0 : Pic) (ex : (Int32 × Pic)), f_X6_neighboursOf_L4 x1 g1 n (x2, x3, g0) = some ex → ∀ (H : Heap) (locs : List Loc) (ls : Array Slot), va_P (dC, dI) vwCl (wLx tc a0 g0 (a1 0) ++ (wSt tc a1 g1 q1_18 q1_19)) H → va_S A s.heap H locs → lv_has ls 6 [(0, .ref (a0 0)), (1, .int x1), (2, .int x2), (3, .int x3)] → (∀ (y2 : Int32) (k0 : Pic), (y2, k0) = ex → ∀ (H : Heap) (locs : List Loc) (ls : Array Slot), va_P (dC, dI) vwCl (wLx tc a0 k0 (a1 0) ++ (wSt tc a1 g1 q1_18 q1_19)) H → va_S A s.heap H locs → lv_has ls 6 [(2, .int y2)] → W pr l e rm_X6_neighboursOf s m args below meth c H locs 0 0 Q (F0 m 90 ls [])) → W pr l e rm_X6_neighboursOf s m args below meth c H locs 0 0 Q (F0 m 4 ls []) := by
    intro x1 n
    induction n with
    | zero => intro x2 x3 g0 ex h; exact lp_z h
    | succ n ih =>
      intro x2 x3 g0 ex h H locs ls hP hS hl K
      have h := lp_s h
      refine lv_iload_n X.1 X.2.1 dX6_neighboursOf_4 rfl (lv_at hl 3 rfl) ?_
      refine lv_aload_n X.1 X.2.1 dX6_neighboursOf_5 rfl (lv_at hl 0 rfl) ?_
      refine r_get (C := RX6) (T := TX6) (N := 4) (ci := 6) (v := .ref (a1 0)) X iw6 hP 0 rfl rfl 0 rfl mw_2_79 rfl dX6_neighboursOf_6 ?_
      refine r_get (C := RX9) (T := TX9) (N := 20) (ci := 9) (v := .int (g1 0 0)) X iw9 hP 4 rfl rfl 0 rfl mw_1_105 rfl dX6_neighboursOf_9 ?_
      refine lv_icmp_ge (tgt := 90) X.1 X.2.1 dX6_neighboursOf_12 (by decide) (fun hc => ?_) (fun hc => ?_)
      · have h := it_t hc h
        exact K x2 g0 (Option.some.inj h) H locs ls hP hS (lv_sub hl [2] rfl)
      · have h := it_f hc h
        refine lv_iconst (v := 0) X.1 X.2.1 dX6_neighboursOf_15 (by decide) ?_
        refine lv_istore (lv' := [(4, .int 0), (0, .ref (a0 0)), (1, .int x1), (2, .int x2), (3, .int x3)]) X.1 X.2.1 dX6_neighboursOf_16 hl (by decide) rfl (fun ls hl => ?_)
        obtain ⟨ex_4, hL_4, h⟩ := bd_el h
        refine HL18 x1 x3 fu x2 0 g0 ex_4 hL_4 H locs ls hP hS (lv_sub hl [1, 2, 3, 4, 0] rfl) (fun x2_4 g0_4 he H locs ls hP hS hl => ?_)
        subst he
        obtain ⟨x3_5, ex3_5, h⟩ := nm_el h
        refine lv_iinc (v := x3_5) (lv' := [(3, .int x3_5), (0, .ref (a0 0)), (1, .int x1), (2, .int x2_4)]) X.1 X.2.1 dX6_neighboursOf_84 hl (k := 3) rfl (by rw [ex3_5]; rfl) (by decide) rfl (fun ls hl => ?_)
        refine lv_goto (tgt := 4) X.1 X.2.1 dX6_neighboursOf_87 (by decide) ?_
        exact ih x2_4 x3_5 g0_4 ex h H locs ls hP hS (lv_sub hl [1, 2, 3, 0] rfl) K
  unfold f_X6_neighboursOf at h
  refine lv_iconst (v := 0) X.1 X.2.1 dX6_neighboursOf_0 (by decide) ?_
  refine lv_istore_n (lv' := [(2, .int 0), (0, .ref (a0 0)), (1, .int x1)]) X.1 X.2.1 dX6_neighboursOf_1 rfl hl (by decide) rfl (fun ls hl => ?_)
  refine lv_iconst (v := 0) X.1 X.2.1 dX6_neighboursOf_2 (by decide) ?_
  refine lv_istore_n (lv' := [(3, .int 0), (2, .int 0), (0, .ref (a0 0)), (1, .int x1)]) X.1 X.2.1 dX6_neighboursOf_3 rfl hl (by decide) rfl (fun ls hl => ?_)
  obtain ⟨ex_6, hL_6, h⟩ := bd_el h
  refine HL4 x1 fu 0 0 g0 ex_6 hL_6 H locs ls hP hS (lv_sub hl [2, 3, 1, 0] rfl) (fun x2_6 g0_6 he H locs ls hP hS hl => ?_)
  subst he
  refine lv_iload_n X.1 X.2.1 dX6_neighboursOf_90 rfl (lv_at hl 0 rfl) ?_
  exact ret_i (fun u => (wLx tc a0 u (a1 0) ++ (wSt tc a1 g1 q1_18 q1_19))) (res := (r0, G0)) (Option.some.inj h) X hQ hP hS dX6_neighboursOf_91

def f_X6_isEcho_L3 (x1 : Int32) (x2 : Int32) (x3 : Int32) (g0 : Pic) (g1 : Pic) (n : Nat) (a : Int32) : Option ((Int32) ⊕ (Unit)) := lp (fun (rec : Int32 → Option ((Int32) ⊕ (Unit))) (a : Int32) => (fun (x4 : Int32) => (if x3 ≤ x4 then some (.inr ()) else gdi (x1 + x4) 20 (gdi (x2 + x4) 20 ((if (g1 5 ((x1 + x4).toNatClampNeg)) = (g1 5 ((x2 + x4).toNatClampNeg)) then nm (x4 + 1) (fun x4_3 => rec x4_3) else some (.inl 0)))))) a) n a
def f_X6_isEcho (g0 : Pic) (g1 : Pic) (x1 : Int32) (x2 : Int32) (x3 : Int32) : Option (Int32) := lr (f_X6_isEcho_L3 x1 x2 x3 g0 g1 fu 0) (fun a => a) (fun _ => some 1)
abbrev rm_X6_isEcho : Room := { frames := 0, cells := 0, slots := 0, locals := 0 }
set_option maxHeartbeats 4000000 in
set_option maxRecDepth 100000 in
theorem c_X6_isEcho (l : Launch) (dC : Nat → ClassId) (dI : Nat → Nat → Nat) (sk sv : Nat → Nat) (tc : Nat → ClassId) (a0 : Nat → Nat) (a1 : Nat → Nat) (q1_18 : Option Nat) (q1_19 : Nat) (g0 : Pic) (g1 : Pic) (x1 : Int32) (x2 : Int32) (x3 : Int32) {r0 : Int32} (h : f_X6_isEcho g0 g1 x1 x2 x3 = some r0) : CT l (dC, dI) sk sv (TY tc) yX6_isEcho cX6_isEcho 5 (some .boolean) rm_X6_isEcho [.ref (a0 0), .int x1, .int x2, .int x3] (wLx tc a0 g0 (a1 0) ++ (wSt tc a1 g1 q1_18 q1_19)) (some (.int r0)) (wLx tc a0 g0 (a1 0) ++ (wSt tc a1 g1 q1_18 q1_19)) := by
  refine ofCT (by decide) (Nat.le_of_ble_eq_true rfl) ?_
  intro pr e s m args below meth c A Q ls H locs X hQ hD0 hP hS hl
  have hD : ∀ z0 z1, va_D A (wLx tc a0 z0 (a1 0) ++ (wSt tc a1 z1 q1_18 q1_19)) := fun z0 z1 => D_fst (ws := (wLx tc a0 g0 (a1 0) ++ (wSt tc a1 g1 q1_18 q1_19))) rfl hD0
  have hl : lv_has ls 5 [(0, .ref (a0 0)), (1, .int x1), (2, .int x2), (3, .int x3)] := hl
  have HL3 : ∀ (x1 : Int32) (x2 : Int32) (x3 : Int32) (n : Nat) (x4 : Int32) (ex : ((Int32) ⊕ (Unit))), f_X6_isEcho_L3 x1 x2 x3 g0 g1 n x4 = some ex → (∀ rv, ex = .inl rv → rv = r0) → ∀ (H : Heap) (locs : List Loc) (ls : Array Slot), va_P (dC, dI) vwCl (wLx tc a0 g0 (a1 0) ++ (wSt tc a1 g1 q1_18 q1_19)) H → va_S A s.heap H locs → lv_has ls 5 [(0, .ref (a0 0)), (1, .int x1), (2, .int x2), (3, .int x3), (4, .int x4)] → (.inr () = ex → ∀ (H : Heap) (locs : List Loc) (ls : Array Slot), va_P (dC, dI) vwCl (wLx tc a0 g0 (a1 0) ++ (wSt tc a1 g1 q1_18 q1_19)) H → va_S A s.heap H locs → lv_has ls 5 [] → W pr l e rm_X6_isEcho s m args below meth c H locs 0 0 Q (F0 m 44 ls [])) → W pr l e rm_X6_isEcho s m args below meth c H locs 0 0 Q (F0 m 3 ls []) := by
    intro x1 x2 x3 n
    induction n with
    | zero => intro x4 ex h; exact lp_z h
    | succ n ih =>
      intro x4 ex h hR H locs ls hP hS hl K
      have h := lp_s h
      refine lv_iload X.1 X.2.1 dX6_isEcho_3 (lv_at hl 4 rfl) ?_
      refine lv_iload_n X.1 X.2.1 dX6_isEcho_5 rfl (lv_at hl 3 rfl) ?_
      refine lv_icmp_ge (tgt := 44) X.1 X.2.1 dX6_isEcho_6 (by decide) (fun hc => ?_) (fun hc => ?_)
      · have h := it_t hc h
        exact K  (Option.some.inj h) H locs ls hP hS (lv_sub hl [] rfl)
      · have h := it_f hc h
        refine lv_aload_n X.1 X.2.1 dX6_isEcho_9 rfl (lv_at hl 0 rfl) ?_
        refine r_get (C := RX6) (T := TX6) (N := 4) (ci := 6) (v := .ref (a1 0)) X iw6 hP 0 rfl rfl 0 rfl mw_2_79 rfl dX6_isEcho_10 ?_
        refine r_get (C := RX9) (T := TX9) (N := 20) (ci := 9) (v := .ref (a1 6)) X iw9 hP 4 rfl rfl 5 rfl mw_1_134 rfl dX6_isEcho_13 ?_
        refine lv_iload_n X.1 X.2.1 dX6_isEcho_16 rfl (lv_at hl 1 rfl) ?_
        refine lv_iload X.1 X.2.1 dX6_isEcho_17 (lv_at hl 4 rfl) ?_
        refine lv_iadd X.1 X.2.1 dX6_isEcho_19 ?_
        obtain ⟨hg_1, h⟩ := gdi_el h
        refine r_iald X hP 8 0 rfl rfl hg_1 rfl dX6_isEcho_20 ?_
        refine lv_aload_n X.1 X.2.1 dX6_isEcho_21 rfl (lv_at hl 0 rfl) ?_
        refine r_get (C := RX6) (T := TX6) (N := 4) (ci := 6) (v := .ref (a1 0)) X iw6 hP 0 rfl rfl 0 rfl mw_2_79 rfl dX6_isEcho_22 ?_
        refine r_get (C := RX9) (T := TX9) (N := 20) (ci := 9) (v := .ref (a1 6)) X iw9 hP 4 rfl rfl 5 rfl mw_1_134 rfl dX6_isEcho_25 ?_
        refine lv_iload_n X.1 X.2.1 dX6_isEcho_28 rfl (lv_at hl 2 rfl) ?_
        refine lv_iload X.1 X.2.1 dX6_isEcho_29 (lv_at hl 4 rfl) ?_
        refine lv_iadd X.1 X.2.1 dX6_isEcho_31 ?_
        obtain ⟨hg_2, h⟩ := gdi_el h
        refine r_iald X hP 8 0 rfl rfl hg_2 rfl dX6_isEcho_32 ?_
        refine lv_icmp_eq (tgt := 38) X.1 X.2.1 dX6_isEcho_33 (by decide) (fun hc => ?_) (fun hc => ?_)
        · have h := it_t hc h
          obtain ⟨x4_3, ex4_3, h⟩ := nm_el h
          refine lv_iinc (v := x4_3) (lv' := [(4, .int x4_3), (0, .ref (a0 0)), (1, .int x1), (2, .int x2), (3, .int x3)]) X.1 X.2.1 dX6_isEcho_38 hl (k := 4) rfl (by rw [ex4_3]; rfl) (by decide) rfl (fun ls hl => ?_)
          refine lv_goto (tgt := 3) X.1 X.2.1 dX6_isEcho_41 (by decide) ?_
          exact ih x4_3 ex h hR H locs ls hP hS (lv_sub hl [1, 2, 3, 4, 0] rfl) K
        · have h := it_f hc h
          refine lv_iconst (v := 0) X.1 X.2.1 dX6_isEcho_36 (by decide) ?_
          exact ret_z0 (by decide) (hR _ (Option.some.inj h).symm) X hQ hP hS dX6_isEcho_37
  unfold f_X6_isEcho at h
  refine lv_iconst (v := 0) X.1 X.2.1 dX6_isEcho_0 (by decide) ?_
  refine lv_istore (lv' := [(4, .int 0), (0, .ref (a0 0)), (1, .int x1), (2, .int x2), (3, .int x3)]) X.1 X.2.1 dX6_isEcho_1 hl (by decide) rfl (fun ls hl => ?_)
  obtain ⟨ex_4, hL_4, h1_4, h2_4⟩ := lr_el h
  refine HL3 x1 x2 x3 fu 0 ex_4 hL_4 (fun rv hq => h1_4 rv hq) H locs ls hP hS (lv_sub hl [1, 2, 3, 4, 0] rfl) (fun  he H locs ls hP hS hl => ?_)
  have h := h2_4 _ he.symm
  refine lv_iconst (v := 1) X.1 X.2.1 dX6_isEcho_44 (by decide) ?_
  exact ret_z0 (by decide) (Option.some.inj h) X hQ hP hS dX6_isEcho_45

def f_X6_costAt (g0 : Pic) (g1 : Pic) (x1 : Int32) (x2 : Int32) (x3 : Int32) : Option (Int32) := nm ((x2 - ((128 : Int32) >>> (x3 &&& 31)))) (fun x4_1 => jn (fun (s0_J46 : Int32) => some s0_J46) (fun J46 => (if 0 ≤ x4_1 then gdi x1 8 (gdi (((x1 + 1) * 129) + x4_1) 1161 (J46 (((g1 3 (x1.toNatClampNeg)) * x3) + (g0 3 ((((x1 + 1) * 129) + x4_1).toNatClampNeg))))) else J46 1000000)))
abbrev rm_X6_costAt : Room := { frames := 0, cells := 0, slots := 0, locals := 0 }
set_option maxHeartbeats 4000000 in
set_option maxRecDepth 100000 in
theorem c_X6_costAt (l : Launch) (dC : Nat → ClassId) (dI : Nat → Nat → Nat) (sk sv : Nat → Nat) (tc : Nat → ClassId) (a0 : Nat → Nat) (a1 : Nat → Nat) (q1_18 : Option Nat) (q1_19 : Nat) (g0 : Pic) (g1 : Pic) (x1 : Int32) (x2 : Int32) (x3 : Int32) {r0 : Int32} (h : f_X6_costAt g0 g1 x1 x2 x3 = some r0) : CT l (dC, dI) sk sv (TY tc) yX6_costAt cX6_costAt 5 (some .int) rm_X6_costAt [.ref (a0 0), .int x1, .int x2, .int x3] (wLx tc a0 g0 (a1 0) ++ (wSt tc a1 g1 q1_18 q1_19)) (some (.int r0)) (wLx tc a0 g0 (a1 0) ++ (wSt tc a1 g1 q1_18 q1_19)) := by
  refine ofCT (by decide) (Nat.le_of_ble_eq_true rfl) ?_
  intro pr e s m args below meth c A Q ls H locs X hQ hD0 hP hS hl
  have hD : ∀ z0 z1, va_D A (wLx tc a0 z0 (a1 0) ++ (wSt tc a1 z1 q1_18 q1_19)) := fun z0 z1 => D_fst (ws := (wLx tc a0 g0 (a1 0) ++ (wSt tc a1 g1 q1_18 q1_19))) rfl hD0
  have hl : lv_has ls 5 [(0, .ref (a0 0)), (1, .int x1), (2, .int x2), (3, .int x3)] := hl
  unfold f_X6_costAt at h
  refine lv_iload_n X.1 X.2.1 dX6_costAt_0 rfl (lv_at hl 2 rfl) ?_
  refine lv_sipush (v := 128) X.1 X.2.1 dX6_costAt_1 (by decide) ?_
  refine lv_iload_n X.1 X.2.1 dX6_costAt_4 rfl (lv_at hl 3 rfl) ?_
  refine lv_ishr X.1 X.2.1 dX6_costAt_5 ?_
  refine lv_isub X.1 X.2.1 dX6_costAt_6 ?_
  obtain ⟨x4_1, ex4_1, h⟩ := nm_el h
  refine tp_i ex4_1 ?_
  refine lv_istore (lv' := [(4, .int x4_1), (0, .ref (a0 0)), (1, .int x1), (2, .int x2), (3, .int x3)]) X.1 X.2.1 dX6_costAt_7 hl (by decide) rfl (fun ls hl => ?_)
  refine lv_iload X.1 X.2.1 dX6_costAt_9 (lv_at hl 0 rfl) ?_
  obtain ⟨J46, eJ46, h⟩ := jn_el h
  have HJ46 : ∀ (s0_J46 : Int32) (H : Heap) (locs : List Loc) (ls : Array Slot), J46 s0_J46 = some r0 → va_P (dC, dI) vwCl (wLx tc a0 g0 (a1 0) ++ (wSt tc a1 g1 q1_18 q1_19)) H → va_S A s.heap H locs → lv_has ls 5 [] → W pr l e rm_X6_costAt s m args below meth c H locs 0 0 Q (F0 m 46 ls [.int s0_J46]) := by
    intro s0_J46 H locs ls h hP hS hl
    rw [eJ46] at h
    exact ret_i0 (Option.some.inj h) X hQ hP hS dX6_costAt_46
  refine lv_if_ge (tgt := 19) X.1 X.2.1 dX6_costAt_11 (by decide) (fun hc => ?_) (fun hc => ?_)
  · have h := it_t hc h
    refine lv_aload_n X.1 X.2.1 dX6_costAt_19 rfl (lv_at hl 1 rfl) ?_
    refine r_get (C := RX6) (T := TX6) (N := 4) (ci := 6) (v := .ref (a1 0)) X iw6 hP 0 rfl rfl 0 rfl mw_2_79 rfl dX6_costAt_20 ?_
    refine r_get (C := RX9) (T := TX9) (N := 20) (ci := 9) (v := .ref (a1 4)) X iw9 hP 4 rfl rfl 3 rfl mw_1_124 rfl dX6_costAt_23 ?_
    refine lv_iload_n X.1 X.2.1 dX6_costAt_26 rfl (lv_at hl 2 rfl) ?_
    obtain ⟨hg_2, h⟩ := gdi_el h
    refine r_iald X hP 7 0 rfl rfl hg_2 rfl dX6_costAt_27 ?_
    refine lv_iload_n X.1 X.2.1 dX6_costAt_28 rfl (lv_at hl 4 rfl) ?_
    refine lv_imul X.1 X.2.1 dX6_costAt_29 ?_
    refine lv_aload_n X.1 X.2.1 dX6_costAt_30 rfl (lv_at hl 1 rfl) ?_
    refine r_get (C := RX6) (T := TX6) (N := 4) (ci := 6) (v := .ref (a0 4)) X iw6 hP 0 rfl rfl 3 rfl mw_2_82 rfl dX6_costAt_31 ?_
    refine lv_iload_n X.1 X.2.1 dX6_costAt_34 rfl (lv_at hl 2 rfl) ?_
    refine lv_iconst (v := 1) X.1 X.2.1 dX6_costAt_35 (by decide) ?_
    refine lv_iadd X.1 X.2.1 dX6_costAt_36 ?_
    refine lv_sipush (v := 129) X.1 X.2.1 dX6_costAt_37 (by decide) ?_
    refine lv_imul X.1 X.2.1 dX6_costAt_40 ?_
    refine lv_iload X.1 X.2.1 dX6_costAt_41 (lv_at hl 0 rfl) ?_
    refine lv_iadd X.1 X.2.1 dX6_costAt_43 ?_
    obtain ⟨hg_3, h⟩ := gdi_el h
    refine r_iald X hP 3 0 rfl rfl hg_3 rfl dX6_costAt_44 ?_
    refine lv_iadd X.1 X.2.1 dX6_costAt_45 ?_
    exact HJ46 (((g1 3 (x1.toNatClampNeg)) * x3) + (g0 3 ((((x1 + 1) * 129) + x4_1).toNatClampNeg))) H locs ls h hP hS (lv_sub hl [] rfl)
  · have h := it_f hc h
    refine lv_ldc (v := 1000000) X.1 X.2.1 X.2.2.2.2.1 (X.2.2.2.2.2.1 _ (List.mem_cons_of_mem _ mw_3_3)) dX6_costAt_14 ?_
    refine lv_goto (tgt := 46) X.1 X.2.1 dX6_costAt_16 (by decide) ?_
    exact HJ46 1000000 H locs ls h hP hS (lv_sub hl [] rfl)

def f_X6_shortestAt_L2 (x1 : Int32) (x2 : Int32) (g0 : Pic) (g1 : Pic) (n : Nat) (a : Int32) : Option ((Int32) ⊕ (Unit)) := lp (fun (rec : Int32 → Option ((Int32) ⊕ (Unit))) (a : Int32) => (fun (x3 : Int32) => (if 7 ≤ x3 then some (.inr ()) else bd (f_X6_costAt g0 g1 x1 x2 x3) (fun r_1 => gdi ((x1 * 129) + x2) 1161 ((if r_1 = (g0 3 (((x1 * 129) + x2).toNatClampNeg)) then some (.inl x3) else nm (x3 + 1) (fun x3_3 => rec x3_3)))))) a) n a
def f_X6_shortestAt (g0 : Pic) (g1 : Pic) (x1 : Int32) (x2 : Int32) : Option (Int32) := lr (f_X6_shortestAt_L2 x1 x2 g0 g1 fu 1) (fun a => a) (fun _ => some 7)
abbrev rm_X6_shortestAt : Room := { frames := 1, cells := 0, slots := 0, locals := 24 }
set_option maxHeartbeats 4000000 in
set_option maxRecDepth 100000 in
theorem c_X6_shortestAt (l : Launch) (dC : Nat → ClassId) (dI : Nat → Nat → Nat) (sk sv : Nat → Nat) (tc : Nat → ClassId) (a0 : Nat → Nat) (a1 : Nat → Nat) (q1_18 : Option Nat) (q1_19 : Nat) (g0 : Pic) (g1 : Pic) (x1 : Int32) (x2 : Int32) {r0 : Int32} (h : f_X6_shortestAt g0 g1 x1 x2 = some r0) : CT l (dC, dI) sk sv (TY tc) yX6_shortestAt cX6_shortestAt 4 (some .int) rm_X6_shortestAt [.ref (a0 0), .int x1, .int x2] (wLx tc a0 g0 (a1 0) ++ (wSt tc a1 g1 q1_18 q1_19)) (some (.int r0)) (wLx tc a0 g0 (a1 0) ++ (wSt tc a1 g1 q1_18 q1_19)) := by
  refine ofCT (by decide) (Nat.le_of_ble_eq_true rfl) ?_
  intro pr e s m args below meth c A Q ls H locs X hQ hD0 hP hS hl
  have hD : ∀ z0 z1, va_D A (wLx tc a0 z0 (a1 0) ++ (wSt tc a1 z1 q1_18 q1_19)) := fun z0 z1 => D_fst (ws := (wLx tc a0 g0 (a1 0) ++ (wSt tc a1 g1 q1_18 q1_19))) rfl hD0
  have hl : lv_has ls 4 [(0, .ref (a0 0)), (1, .int x1), (2, .int x2)] := hl
  have HL2 : ∀ (x1 : Int32) (x2 : Int32) (n : Nat) (x3 : Int32) (ex : ((Int32) ⊕ (Unit))), f_X6_shortestAt_L2 x1 x2 g0 g1 n x3 = some ex → (∀ rv, ex = .inl rv → rv = r0) → ∀ (H : Heap) (locs : List Loc) (ls : Array Slot), va_P (dC, dI) vwCl (wLx tc a0 g0 (a1 0) ++ (wSt tc a1 g1 q1_18 q1_19)) H → va_S A s.heap H locs → lv_has ls 4 [(0, .ref (a0 0)), (1, .int x1), (2, .int x2), (3, .int x3)] → (.inr () = ex → ∀ (H : Heap) (locs : List Loc) (ls : Array Slot), va_P (dC, dI) vwCl (wLx tc a0 g0 (a1 0) ++ (wSt tc a1 g1 q1_18 q1_19)) H → va_S A s.heap H locs → lv_has ls 4 [] → W pr l e rm_X6_shortestAt s m args below meth c H locs 0 0 Q (F0 m 38 ls [])) → W pr l e rm_X6_shortestAt s m args below meth c H locs 0 0 Q (F0 m 2 ls []) := by
    intro x1 x2 n
    induction n with
    | zero => intro x3 ex h; exact lp_z h
    | succ n ih =>
      intro x3 ex h hR H locs ls hP hS hl K
      have h := lp_s h
      refine lv_iload_n X.1 X.2.1 dX6_shortestAt_2 rfl (lv_at hl 3 rfl) ?_
      refine lv_bipush (v := 7) X.1 X.2.1 dX6_shortestAt_3 (by decide) ?_
      refine lv_icmp_ge (tgt := 38) X.1 X.2.1 dX6_shortestAt_5 (by decide) (fun hc => ?_) (fun hc => ?_)
      · have h := it_t hc h
        exact K  (Option.some.inj h) H locs ls hP hS (lv_sub hl [] rfl)
      · have h := it_f hc h
        refine lv_aload_n X.1 X.2.1 dX6_shortestAt_8 rfl (lv_at hl 0 rfl) ?_
        refine lv_iload_n X.1 X.2.1 dX6_shortestAt_9 rfl (lv_at hl 1 rfl) ?_
        refine lv_iload_n X.1 X.2.1 dX6_shortestAt_10 rfl (lv_at hl 2 rfl) ?_
        refine lv_iload_n X.1 X.2.1 dX6_shortestAt_11 rfl (lv_at hl 3 rfl) ?_
        obtain ⟨r_1, hc_1, h⟩ := bd_el h
        refine call_V1i (As := [.int x1, .int x2, .int x3]) (rest := []) X (c_X6_costAt l dC dI sk sv tc a0 a1 q1_18 q1_19 g0 g1 x1 x2 x3 hc_1) mw_3_4 mw_3_5 mw_3_6 mw_1_9 mw_3_7 dc_X6_costAt ⟨Nat.le_of_ble_eq_true rfl, Nat.le_of_ble_eq_true rfl⟩ rfl rfl ⟨Nat.zero_le _, Nat.zero_le _⟩ hP (hD _ _) hS 0 rfl rfl rfl hl.1 (Nat.le_of_ble_eq_true rfl) dX6_shortestAt_12 (fun H locs hP hS => ?_)
        refine lv_aload_n X.1 X.2.1 dX6_shortestAt_15 rfl (lv_at hl 0 rfl) ?_
        refine r_get (C := RX6) (T := TX6) (N := 4) (ci := 6) (v := .ref (a0 4)) X iw6 hP 0 rfl rfl 3 rfl mw_2_82 rfl dX6_shortestAt_16 ?_
        refine lv_iload_n X.1 X.2.1 dX6_shortestAt_19 rfl (lv_at hl 1 rfl) ?_
        refine lv_sipush (v := 129) X.1 X.2.1 dX6_shortestAt_20 (by decide) ?_
        refine lv_imul X.1 X.2.1 dX6_shortestAt_23 ?_
        refine lv_iload_n X.1 X.2.1 dX6_shortestAt_24 rfl (lv_at hl 2 rfl) ?_
        refine lv_iadd X.1 X.2.1 dX6_shortestAt_25 ?_
        obtain ⟨hg_2, h⟩ := gdi_el h
        refine r_iald X hP 3 0 rfl rfl hg_2 rfl dX6_shortestAt_26 ?_
        refine lv_icmp_ne (tgt := 32) X.1 X.2.1 dX6_shortestAt_27 (by decide) (fun hc => ?_) (fun hc => ?_)
        · have h := it_f hc h
          obtain ⟨x3_3, ex3_3, h⟩ := nm_el h
          refine lv_iinc (v := x3_3) (lv' := [(3, .int x3_3), (0, .ref (a0 0)), (1, .int x1), (2, .int x2)]) X.1 X.2.1 dX6_shortestAt_32 hl (k := 3) rfl (by rw [ex3_3]; rfl) (by decide) rfl (fun ls hl => ?_)
          refine lv_goto (tgt := 2) X.1 X.2.1 dX6_shortestAt_35 (by decide) ?_
          exact ih x3_3 ex h hR H locs ls hP hS (lv_sub hl [1, 2, 3, 0] rfl) K
        · have h := it_t hc h
          refine lv_iload_n X.1 X.2.1 dX6_shortestAt_30 rfl (lv_at hl 3 rfl) ?_
          exact ret_i0 (hR _ (Option.some.inj h).symm) X hQ hP hS dX6_shortestAt_31
  unfold f_X6_shortestAt at h
  refine lv_iconst (v := 1) X.1 X.2.1 dX6_shortestAt_0 (by decide) ?_
  refine lv_istore_n (lv' := [(3, .int 1), (0, .ref (a0 0)), (1, .int x1), (2, .int x2)]) X.1 X.2.1 dX6_shortestAt_1 rfl hl (by decide) rfl (fun ls hl => ?_)
  obtain ⟨ex_4, hL_4, h1_4, h2_4⟩ := lr_el h
  refine HL2 x1 x2 fu 1 ex_4 hL_4 (fun rv hq => h1_4 rv hq) H locs ls hP hS (lv_sub hl [1, 2, 3, 0] rfl) (fun  he H locs ls hP hS hl => ?_)
  have h := h2_4 _ he.symm
  refine lv_bipush (v := 7) X.1 X.2.1 dX6_shortestAt_38 (by decide) ?_
  exact ret_i0 (Option.some.inj h) X hQ hP hS dX6_shortestAt_40

def f_X6_lettersOf_L4 (x1 : Int32) (g0 : Pic) (g1 : Pic) (n : Nat) (a : Int32 × Int32) : Option (Int32) := lp (fun (rec : Int32 × Int32 → Option (Int32)) (a : Int32 × Int32) => match a with | (x2, x3) => gdi x1 8 ((if (g1 2 (x1.toNatClampNeg)) ≤ x3 then some x2 else gdi ((x1 * 6) + x3) 48 (nm ((x2 + ((1 : Int32) <<< ((4 * (g1 1 (((x1 * 6) + x3).toNatClampNeg))) &&& 31)))) (fun x2_3 => nm (x3 + 1) (fun x3_4 => rec (x2_3, x3_4))))))) n a
def f_X6_lettersOf (g0 : Pic) (g1 : Pic) (x1 : Int32) : Option (Int32) := bd (f_X6_lettersOf_L4 x1 g0 g1 fu (0, 0)) (fun x2_5 => some x2_5)
abbrev rm_X6_lettersOf : Room := { frames := 0, cells := 0, slots := 0, locals := 0 }
set_option maxHeartbeats 4000000 in
set_option maxRecDepth 100000 in
theorem c_X6_lettersOf (l : Launch) (dC : Nat → ClassId) (dI : Nat → Nat → Nat) (sk sv : Nat → Nat) (tc : Nat → ClassId) (a0 : Nat → Nat) (a1 : Nat → Nat) (q1_18 : Option Nat) (q1_19 : Nat) (g0 : Pic) (g1 : Pic) (x1 : Int32) {r0 : Int32} (h : f_X6_lettersOf g0 g1 x1 = some r0) : CT l (dC, dI) sk sv (TY tc) yX6_lettersOf cX6_lettersOf 4 (some .int) rm_X6_lettersOf [.ref (a0 0), .int x1] (wLx tc a0 g0 (a1 0) ++ (wSt tc a1 g1 q1_18 q1_19)) (some (.int r0)) (wLx tc a0 g0 (a1 0) ++ (wSt tc a1 g1 q1_18 q1_19)) := by
  refine ofCT (by decide) (Nat.le_of_ble_eq_true rfl) ?_
  intro pr e s m args below meth c A Q ls H locs X hQ hD0 hP hS hl
  have hD : ∀ z0 z1, va_D A (wLx tc a0 z0 (a1 0) ++ (wSt tc a1 z1 q1_18 q1_19)) := fun z0 z1 => D_fst (ws := (wLx tc a0 g0 (a1 0) ++ (wSt tc a1 g1 q1_18 q1_19))) rfl hD0
  have hl : lv_has ls 4 [(0, .ref (a0 0)), (1, .int x1)] := hl
  have HL4 : ∀ (x1 : Int32) (n : Nat) (x2 : Int32) (x3 : Int32) (ex : (Int32)), f_X6_lettersOf_L4 x1 g0 g1 n (x2, x3) = some ex → ∀ (H : Heap) (locs : List Loc) (ls : Array Slot), va_P (dC, dI) vwCl (wLx tc a0 g0 (a1 0) ++ (wSt tc a1 g1 q1_18 q1_19)) H → va_S A s.heap H locs → lv_has ls 4 [(0, .ref (a0 0)), (1, .int x1), (2, .int x2), (3, .int x3)] → (∀ (y2 : Int32), y2 = ex → ∀ (H : Heap) (locs : List Loc) (ls : Array Slot), va_P (dC, dI) vwCl (wLx tc a0 g0 (a1 0) ++ (wSt tc a1 g1 q1_18 q1_19)) H → va_S A s.heap H locs → lv_has ls 4 [(2, .int y2)] → W pr l e rm_X6_lettersOf s m args below meth c H locs 0 0 Q (F0 m 44 ls [])) → W pr l e rm_X6_lettersOf s m args below meth c H locs 0 0 Q (F0 m 4 ls []) := by
    intro x1 n
    induction n with
    | zero => intro x2 x3 ex h; exact lp_z h
    | succ n ih =>
      intro x2 x3 ex h H locs ls hP hS hl K
      have h := lp_s h
      refine lv_iload_n X.1 X.2.1 dX6_lettersOf_4 rfl (lv_at hl 3 rfl) ?_
      refine lv_aload_n X.1 X.2.1 dX6_lettersOf_5 rfl (lv_at hl 0 rfl) ?_
      refine r_get (C := RX6) (T := TX6) (N := 4) (ci := 6) (v := .ref (a1 0)) X iw6 hP 0 rfl rfl 0 rfl mw_2_79 rfl dX6_lettersOf_6 ?_
      refine r_get (C := RX9) (T := TX9) (N := 20) (ci := 9) (v := .ref (a1 3)) X iw9 hP 4 rfl rfl 2 rfl mw_1_114 rfl dX6_lettersOf_9 ?_
      refine lv_iload_n X.1 X.2.1 dX6_lettersOf_12 rfl (lv_at hl 1 rfl) ?_
      obtain ⟨hg_1, h⟩ := gdi_el h
      refine r_iald X hP 6 0 rfl rfl hg_1 rfl dX6_lettersOf_13 ?_
      refine lv_icmp_ge (tgt := 44) X.1 X.2.1 dX6_lettersOf_14 (by decide) (fun hc => ?_) (fun hc => ?_)
      · have h := it_t hc h
        exact K x2 (Option.some.inj h) H locs ls hP hS (lv_sub hl [2] rfl)
      · have h := it_f hc h
        refine lv_iload_n X.1 X.2.1 dX6_lettersOf_17 rfl (lv_at hl 2 rfl) ?_
        refine lv_iconst (v := 1) X.1 X.2.1 dX6_lettersOf_18 (by decide) ?_
        refine lv_iconst (v := 4) X.1 X.2.1 dX6_lettersOf_19 (by decide) ?_
        refine lv_aload_n X.1 X.2.1 dX6_lettersOf_20 rfl (lv_at hl 0 rfl) ?_
        refine r_get (C := RX6) (T := TX6) (N := 4) (ci := 6) (v := .ref (a1 0)) X iw6 hP 0 rfl rfl 0 rfl mw_2_79 rfl dX6_lettersOf_21 ?_
        refine r_get (C := RX9) (T := TX9) (N := 20) (ci := 9) (v := .ref (a1 2)) X iw9 hP 4 rfl rfl 1 rfl mw_1_112 rfl dX6_lettersOf_24 ?_
        refine lv_iload_n X.1 X.2.1 dX6_lettersOf_27 rfl (lv_at hl 1 rfl) ?_
        refine lv_bipush (v := 6) X.1 X.2.1 dX6_lettersOf_28 (by decide) ?_
        refine lv_imul X.1 X.2.1 dX6_lettersOf_30 ?_
        refine lv_iload_n X.1 X.2.1 dX6_lettersOf_31 rfl (lv_at hl 3 rfl) ?_
        refine lv_iadd X.1 X.2.1 dX6_lettersOf_32 ?_
        obtain ⟨hg_2, h⟩ := gdi_el h
        refine r_iald X hP 5 0 rfl rfl hg_2 rfl dX6_lettersOf_33 ?_
        refine lv_imul X.1 X.2.1 dX6_lettersOf_34 ?_
        refine lv_ishl X.1 X.2.1 dX6_lettersOf_35 ?_
        refine lv_iadd X.1 X.2.1 dX6_lettersOf_36 ?_
        obtain ⟨x2_3, ex2_3, h⟩ := nm_el h
        refine tp_i ex2_3 ?_
        refine lv_istore_n (lv' := [(2, .int x2_3), (0, .ref (a0 0)), (1, .int x1), (3, .int x3)]) X.1 X.2.1 dX6_lettersOf_37 rfl hl (by decide) rfl (fun ls hl => ?_)
        obtain ⟨x3_4, ex3_4, h⟩ := nm_el h
        refine lv_iinc (v := x3_4) (lv' := [(3, .int x3_4), (2, .int x2_3), (0, .ref (a0 0)), (1, .int x1)]) X.1 X.2.1 dX6_lettersOf_38 hl (k := 3) rfl (by rw [ex3_4]; rfl) (by decide) rfl (fun ls hl => ?_)
        refine lv_goto (tgt := 4) X.1 X.2.1 dX6_lettersOf_41 (by decide) ?_
        exact ih x2_3 x3_4 ex h H locs ls hP hS (lv_sub hl [2, 3, 1, 0] rfl) K
  unfold f_X6_lettersOf at h
  refine lv_iconst (v := 0) X.1 X.2.1 dX6_lettersOf_0 (by decide) ?_
  refine lv_istore_n (lv' := [(2, .int 0), (0, .ref (a0 0)), (1, .int x1)]) X.1 X.2.1 dX6_lettersOf_1 rfl hl (by decide) rfl (fun ls hl => ?_)
  refine lv_iconst (v := 0) X.1 X.2.1 dX6_lettersOf_2 (by decide) ?_
  refine lv_istore_n (lv' := [(3, .int 0), (2, .int 0), (0, .ref (a0 0)), (1, .int x1)]) X.1 X.2.1 dX6_lettersOf_3 rfl hl (by decide) rfl (fun ls hl => ?_)
  obtain ⟨ex_5, hL_5, h⟩ := bd_el h
  refine HL4 x1 fu 0 0 ex_5 hL_5 H locs ls hP hS (lv_sub hl [2, 3, 1, 0] rfl) (fun x2_5 he H locs ls hP hS hl => ?_)
  subst he
  refine lv_iload_n X.1 X.2.1 dX6_lettersOf_44 rfl (lv_at hl 0 rfl) ?_
  exact ret_i0 (Option.some.inj h) X hQ hP hS dX6_lettersOf_45

def f_X6_usersOf_L18 (x1 : Int32) (x3 : Int32) (g0 : Pic) (g1 : Pic) (n : Nat) (a : Int32 × Int32) : Option (Int32) := lp (fun (rec : Int32 × Int32 → Option (Int32)) (a : Int32 × Int32) => match a with | (x2, x4) => gdi x3 8 ((if (g1 2 (x3.toNatClampNeg)) ≤ x4 then some x2 else bd (f_X9_letterAt g1 x3 x4) (fun r_2 => jn (fun (x2_J52 : Int32) => nm (x4 + 1) (fun x4_3 => rec (x2_J52, x4_3))) (fun J52 => (if r_2 = x1 then nm ((x2 ||| ((1 : Int32) <<< (x3 &&& 31)))) (fun x2_4 => J52 x2_4) else J52 x2)))))) n a
def f_X6_usersOf_L4 (x1 : Int32) (g0 : Pic) (g1 : Pic) (n : Nat) (a : Int32 × Int32) : Option (Int32) := lp (fun (rec : Int32 × Int32 → Option (Int32)) (a : Int32 × Int32) => match a with | (x2, x3) => (if (g1 0 0) ≤ x3 then some x2 else bd (f_X6_usersOf_L18 x1 x3 g0 g1 fu (x2, 0)) (fun x2_5 => nm (x3 + 1) (fun x3_6 => rec (x2_5, x3_6))))) n a
def f_X6_usersOf (g0 : Pic) (g1 : Pic) (x1 : Int32) : Option (Int32) := bd (f_X6_usersOf_L4 x1 g0 g1 fu (0, 0)) (fun x2_7 => some x2_7)
abbrev rm_X6_usersOf : Room := { frames := 1, cells := 0, slots := 0, locals := 22 }
set_option maxHeartbeats 4000000 in
set_option maxRecDepth 100000 in
theorem c_X6_usersOf (l : Launch) (dC : Nat → ClassId) (dI : Nat → Nat → Nat) (sk sv : Nat → Nat) (tc : Nat → ClassId) (a0 : Nat → Nat) (a1 : Nat → Nat) (q1_18 : Option Nat) (q1_19 : Nat) (g0 : Pic) (g1 : Pic) (x1 : Int32) {r0 : Int32} (h : f_X6_usersOf g0 g1 x1 = some r0) : CT l (dC, dI) sk sv (TY tc) yX6_usersOf cX6_usersOf 5 (some .int) rm_X6_usersOf [.ref (a0 0), .int x1] (wLx tc a0 g0 (a1 0) ++ (wSt tc a1 g1 q1_18 q1_19)) (some (.int r0)) (wLx tc a0 g0 (a1 0) ++ (wSt tc a1 g1 q1_18 q1_19)) := by
  refine ofCT (by decide) (Nat.le_of_ble_eq_true rfl) ?_
  intro pr e s m args below meth c A Q ls H locs X hQ hD0 hP hS hl
  have hD : ∀ z0 z1, va_D A (wLx tc a0 z0 (a1 0) ++ (wSt tc a1 z1 q1_18 q1_19)) := fun z0 z1 => D_fst (ws := (wLx tc a0 g0 (a1 0) ++ (wSt tc a1 g1 q1_18 q1_19))) rfl hD0
  have hl : lv_has ls 5 [(0, .ref (a0 0)), (1, .int x1)] := hl
  have HL18 : ∀ (x1 : Int32) (x3 : Int32) (n : Nat) (x2 : Int32) (x4 : Int32) (ex : (Int32)), f_X6_usersOf_L18 x1 x3 g0 g1 n (x2, x4) = some ex → ∀ (H : Heap) (locs : List Loc) (ls : Array Slot), va_P (dC, dI) vwCl (wLx tc a0 g0 (a1 0) ++ (wSt tc a1 g1 q1_18 q1_19)) H → va_S A s.heap H locs → lv_has ls 5 [(0, .ref (a0 0)), (1, .int x1), (2, .int x2), (3, .int x3), (4, .int x4)] → (∀ (y2 : Int32), y2 = ex → ∀ (H : Heap) (locs : List Loc) (ls : Array Slot), va_P (dC, dI) vwCl (wLx tc a0 g0 (a1 0) ++ (wSt tc a1 g1 q1_18 q1_19)) H → va_S A s.heap H locs → lv_has ls 5 [(0, .ref (a0 0)), (1, .int x1), (2, .int y2), (3, .int x3)] → W pr l e rm_X6_usersOf s m args below meth c H locs 0 0 Q (F0 m 58 ls [])) → W pr l e rm_X6_usersOf s m args below meth c H locs 0 0 Q (F0 m 18 ls []) := by
    intro x1 x3 n
    induction n with
    | zero => intro x2 x4 ex h; exact lp_z h
    | succ n ih =>
      intro x2 x4 ex h H locs ls hP hS hl K
      have h := lp_s h
      refine lv_iload X.1 X.2.1 dX6_usersOf_18 (lv_at hl 4 rfl) ?_
      refine lv_aload_n X.1 X.2.1 dX6_usersOf_20 rfl (lv_at hl 0 rfl) ?_
      refine r_get (C := RX6) (T := TX6) (N := 4) (ci := 6) (v := .ref (a1 0)) X iw6 hP 0 rfl rfl 0 rfl mw_2_79 rfl dX6_usersOf_21 ?_
      refine r_get (C := RX9) (T := TX9) (N := 20) (ci := 9) (v := .ref (a1 3)) X iw9 hP 4 rfl rfl 2 rfl mw_1_114 rfl dX6_usersOf_24 ?_
      refine lv_iload_n X.1 X.2.1 dX6_usersOf_27 rfl (lv_at hl 3 rfl) ?_
      obtain ⟨hg_1, h⟩ := gdi_el h
      refine r_iald X hP 6 0 rfl rfl hg_1 rfl dX6_usersOf_28 ?_
      refine lv_icmp_ge (tgt := 58) X.1 X.2.1 dX6_usersOf_29 (by decide) (fun hc => ?_) (fun hc => ?_)
      · have h := it_t hc h
        exact K x2 (Option.some.inj h) H locs ls hP hS (lv_sub hl [0, 1, 2, 3] rfl)
      · have h := it_f hc h
        refine lv_aload_n X.1 X.2.1 dX6_usersOf_32 rfl (lv_at hl 0 rfl) ?_
        refine r_get (C := RX6) (T := TX6) (N := 4) (ci := 6) (v := .ref (a1 0)) X iw6 hP 0 rfl rfl 0 rfl mw_2_79 rfl dX6_usersOf_33 ?_
        refine lv_iload_n X.1 X.2.1 dX6_usersOf_36 rfl (lv_at hl 3 rfl) ?_
        refine lv_iload X.1 X.2.1 dX6_usersOf_37 (lv_at hl 4 rfl) ?_
        obtain ⟨r_2, hc_2, h⟩ := bd_el h
        refine call_Vsi (ws := (wLx tc a0 g0 (a1 0) ++ (wSt tc a1 g1 q1_18 q1_19))) (ws' := (wLx tc a0 g0 (a1 0) ++ (wSt tc a1 g1 q1_18 q1_19))) (wLx tc a0 g0 (a1 0)) [] (As := [.int x3, .int x4]) (rest := []) X (c_X9_letterAt l dC dI sk sv tc a1 q1_18 q1_19 g1 x3 x4 hc_2) mw_3_67 mw_3_68 mw_3_69 mw_1_3 mw_3_70 dc_X9_letterAt ⟨Nat.le_of_ble_eq_true rfl, Nat.le_of_ble_eq_true rfl⟩ rfl rfl ⟨Nat.zero_le _, Nat.zero_le _⟩ (by simp only [List.append_assoc, List.nil_append, List.append_nil]) (by simp only [List.append_assoc, List.nil_append, List.append_nil]) hP (hD _ _) hS 0 rfl rfl rfl hl.1 (Nat.le_of_ble_eq_true rfl) dX6_usersOf_39 (fun H locs hP hS => ?_)
        refine lv_iload_n X.1 X.2.1 dX6_usersOf_42 rfl (lv_at hl 1 rfl) ?_
        obtain ⟨J52, eJ52, h⟩ := jn_el h
        have HJ52 : ∀ (x2_J52 : Int32) (H : Heap) (locs : List Loc) (ls : Array Slot), J52 x2_J52 = some ex → va_P (dC, dI) vwCl (wLx tc a0 g0 (a1 0) ++ (wSt tc a1 g1 q1_18 q1_19)) H → va_S A s.heap H locs → lv_has ls 5 [(0, .ref (a0 0)), (1, .int x1), (2, .int x2_J52), (3, .int x3), (4, .int x4)] → W pr l e rm_X6_usersOf s m args below meth c H locs 0 0 Q (F0 m 52 ls []) := by
          intro x2_J52 H locs ls h hP hS hl
          rw [eJ52] at h
          obtain ⟨x4_3, ex4_3, h⟩ := nm_el h
          refine lv_iinc (v := x4_3) (lv' := [(4, .int x4_3), (0, .ref (a0 0)), (1, .int x1), (2, .int x2_J52), (3, .int x3)]) X.1 X.2.1 dX6_usersOf_52 hl (k := 4) rfl (by rw [ex4_3]; rfl) (by decide) rfl (fun ls hl => ?_)
          refine lv_goto (tgt := 18) X.1 X.2.1 dX6_usersOf_55 (by decide) ?_
          exact ih x2_J52 x4_3 ex h H locs ls hP hS (lv_sub hl [1, 2, 3, 4, 0] rfl) K
        refine lv_icmp_ne (tgt := 52) X.1 X.2.1 dX6_usersOf_43 (by decide) (fun hc => ?_) (fun hc => ?_)
        · have h := it_f hc h
          exact HJ52 x2 H locs ls h hP hS (lv_sub hl [0, 1, 2, 3, 4] rfl)
        · have h := it_t hc h
          refine lv_iload_n X.1 X.2.1 dX6_usersOf_46 rfl (lv_at hl 2 rfl) ?_
          refine lv_iconst (v := 1) X.1 X.2.1 dX6_usersOf_47 (by decide) ?_
          refine lv_iload_n X.1 X.2.1 dX6_usersOf_48 rfl (lv_at hl 3 rfl) ?_
          refine lv_ishl X.1 X.2.1 dX6_usersOf_49 ?_
          refine lv_ior X.1 X.2.1 dX6_usersOf_50 ?_
          obtain ⟨x2_4, ex2_4, h⟩ := nm_el h
          refine tp_i ex2_4 ?_
          refine lv_istore_n (lv' := [(2, .int x2_4), (0, .ref (a0 0)), (1, .int x1), (3, .int x3), (4, .int x4)]) X.1 X.2.1 dX6_usersOf_51 rfl hl (by decide) rfl (fun ls hl => ?_)
          exact HJ52 x2_4 H locs ls h hP hS (lv_sub hl [1, 2, 0, 3, 4] rfl)
  have HL4 : ∀ (x1 : Int32) (n : Nat) (x2 : Int32) (x3 : Int32) (ex : (Int32)), f_X6_usersOf_L4 x1 g0 g1 n (x2, x3) = some ex → ∀ (H : Heap) (locs : List Loc) (ls : Array Slot), va_P (dC, dI) vwCl (wLx tc a0 g0 (a1 0) ++ (wSt tc a1 g1 q1_18 q1_19)) H → va_S A s.heap H locs → lv_has ls 5 [(0, .ref (a0 0)), (1, .int x1), (2, .int x2), (3, .int x3)] → (∀ (y2 : Int32), y2 = ex → ∀ (H : Heap) (locs : List Loc) (ls : Array Slot), va_P (dC, dI) vwCl (wLx tc a0 g0 (a1 0) ++ (wSt tc a1 g1 q1_18 q1_19)) H → va_S A s.heap H locs → lv_has ls 5 [(2, .int y2)] → W pr l e rm_X6_usersOf s m args below meth c H locs 0 0 Q (F0 m 64 ls [])) → W pr l e rm_X6_usersOf s m args below meth c H locs 0 0 Q (F0 m 4 ls []) := by
    intro x1 n
    induction n with
    | zero => intro x2 x3 ex h; exact lp_z h
    | succ n ih =>
      intro x2 x3 ex h H locs ls hP hS hl K
      have h := lp_s h
      refine lv_iload_n X.1 X.2.1 dX6_usersOf_4 rfl (lv_at hl 3 rfl) ?_
      refine lv_aload_n X.1 X.2.1 dX6_usersOf_5 rfl (lv_at hl 0 rfl) ?_
      refine r_get (C := RX6) (T := TX6) (N := 4) (ci := 6) (v := .ref (a1 0)) X iw6 hP 0 rfl rfl 0 rfl mw_2_79 rfl dX6_usersOf_6 ?_
      refine r_get (C := RX9) (T := TX9) (N := 20) (ci := 9) (v := .int (g1 0 0)) X iw9 hP 4 rfl rfl 0 rfl mw_1_105 rfl dX6_usersOf_9 ?_
      refine lv_icmp_ge (tgt := 64) X.1 X.2.1 dX6_usersOf_12 (by decide) (fun hc => ?_) (fun hc => ?_)
      · have h := it_t hc h
        exact K x2 (Option.some.inj h) H locs ls hP hS (lv_sub hl [2] rfl)
      · have h := it_f hc h
        refine lv_iconst (v := 0) X.1 X.2.1 dX6_usersOf_15 (by decide) ?_
        refine lv_istore (lv' := [(4, .int 0), (0, .ref (a0 0)), (1, .int x1), (2, .int x2), (3, .int x3)]) X.1 X.2.1 dX6_usersOf_16 hl (by decide) rfl (fun ls hl => ?_)
        obtain ⟨ex_5, hL_5, h⟩ := bd_el h
        refine HL18 x1 x3 fu x2 0 ex_5 hL_5 H locs ls hP hS (lv_sub hl [1, 2, 3, 4, 0] rfl) (fun x2_5 he H locs ls hP hS hl => ?_)
        subst he
        obtain ⟨x3_6, ex3_6, h⟩ := nm_el h
        refine lv_iinc (v := x3_6) (lv' := [(3, .int x3_6), (0, .ref (a0 0)), (1, .int x1), (2, .int x2_5)]) X.1 X.2.1 dX6_usersOf_58 hl (k := 3) rfl (by rw [ex3_6]; rfl) (by decide) rfl (fun ls hl => ?_)
        refine lv_goto (tgt := 4) X.1 X.2.1 dX6_usersOf_61 (by decide) ?_
        exact ih x2_5 x3_6 ex h H locs ls hP hS (lv_sub hl [1, 2, 3, 0] rfl) K
  unfold f_X6_usersOf at h
  refine lv_iconst (v := 0) X.1 X.2.1 dX6_usersOf_0 (by decide) ?_
  refine lv_istore_n (lv' := [(2, .int 0), (0, .ref (a0 0)), (1, .int x1)]) X.1 X.2.1 dX6_usersOf_1 rfl hl (by decide) rfl (fun ls hl => ?_)
  refine lv_iconst (v := 0) X.1 X.2.1 dX6_usersOf_2 (by decide) ?_
  refine lv_istore_n (lv' := [(3, .int 0), (2, .int 0), (0, .ref (a0 0)), (1, .int x1)]) X.1 X.2.1 dX6_usersOf_3 rfl hl (by decide) rfl (fun ls hl => ?_)
  obtain ⟨ex_7, hL_7, h⟩ := bd_el h
  refine HL4 x1 fu 0 0 ex_7 hL_7 H locs ls hP hS (lv_sub hl [2, 3, 1, 0] rfl) (fun x2_7 he H locs ls hP hS hl => ?_)
  subst he
  refine lv_iload_n X.1 X.2.1 dX6_usersOf_64 rfl (lv_at hl 0 rfl) ?_
  exact ret_i0 (Option.some.inj h) X hQ hP hS dX6_usersOf_65

def f_X6_stepsBetween_L7 (x2 : Int32) (g1 : Pic) (n : Nat) (a : Int32 × Int32 × Pic) : Option ((Int32 × Pic) ⊕ (Pic)) := lp (fun (rec : Int32 × Int32 × Pic → Option ((Int32 × Pic) ⊕ (Pic))) (a : Int32 × Int32 × Pic) => match a with | (x3, x4, g0) => (if 8 ≤ x4 then some (.inr g0) else (if ((x3 >>> (x2 &&& 31)) &&& 1) = 1 then some (.inl (x4, g0)) else bd2 (f_X6_neighboursOf g0 g1 x3) (fun r_2 g0_2 => nm ((x3 ||| r_2)) (fun x3_3 => nm (x4 + 1) (fun x4_4 => rec (x3_3, x4_4, g0_2))))))) n a
def f_X6_stepsBetween (g0 : Pic) (g1 : Pic) (x1 : Int32) (x2 : Int32) : Option (Int32 × Pic) := nm (((1 : Int32) <<< (x1 &&& 31))) (fun x3_1 => lr (f_X6_stepsBetween_L7 x2 g1 fu (x3_1, 0, g0)) (fun a => a) (fun g0_5 => some ((-1), g0_5)))
abbrev rm_X6_stepsBetween : Room := { frames := 3, cells := 0, slots := 0, locals := 151 }
set_option maxHeartbeats 4000000 in
set_option maxRecDepth 100000 in
theorem c_X6_stepsBetween (l : Launch) (dC : Nat → ClassId) (dI : Nat → Nat → Nat) (sk sv : Nat → Nat) (tc : Nat → ClassId) (a0 : Nat → Nat) (a1 : Nat → Nat) (q1_18 : Option Nat) (q1_19 : Nat) (g0 : Pic) (g1 : Pic) (x1 : Int32) (x2 : Int32) {r0 : Int32} {G0 : Pic} (h : f_X6_stepsBetween g0 g1 x1 x2 = some (r0, G0)) : CT l (dC, dI) sk sv (TY tc) yX6_stepsBetween cX6_stepsBetween 5 (some .int) rm_X6_stepsBetween [.ref (a0 0), .int x1, .int x2] (wLx tc a0 g0 (a1 0) ++ (wSt tc a1 g1 q1_18 q1_19)) (some (.int r0)) (wLx tc a0 G0 (a1 0) ++ (wSt tc a1 g1 q1_18 q1_19)) := by
  refine ofCT (by decide) (Nat.le_of_ble_eq_true rfl) ?_
  intro pr e s m args below meth c A Q ls H locs X hQ hD0 hP hS hl
  have hD : ∀ z0 z1, va_D A (wLx tc a0 z0 (a1 0) ++ (wSt tc a1 z1 q1_18 q1_19)) := fun z0 z1 => D_fst (ws := (wLx tc a0 g0 (a1 0) ++ (wSt tc a1 g1 q1_18 q1_19))) rfl hD0
  have hl : lv_has ls 5 [(0, .ref (a0 0)), (1, .int x1), (2, .int x2)] := hl
  have HL7 : ∀ (x2 : Int32) (n : Nat) (x3 : Int32) (x4 : Int32) (g0 : Pic) (ex : ((Int32 × Pic) ⊕ (Pic))), f_X6_stepsBetween_L7 x2 g1 n (x3, x4, g0) = some ex → (∀ rv, ex = .inl rv → rv = (r0, G0)) → ∀ (H : Heap) (locs : List Loc) (ls : Array Slot), va_P (dC, dI) vwCl (wLx tc a0 g0 (a1 0) ++ (wSt tc a1 g1 q1_18 q1_19)) H → va_S A s.heap H locs → lv_has ls 5 [(0, .ref (a0 0)), (2, .int x2), (3, .int x3), (4, .int x4)] → (∀ (k0 : Pic), .inr k0 = ex → ∀ (H : Heap) (locs : List Loc) (ls : Array Slot), va_P (dC, dI) vwCl (wLx tc a0 k0 (a1 0) ++ (wSt tc a1 g1 q1_18 q1_19)) H → va_S A s.heap H locs → lv_has ls 5 [] → W pr l e rm_X6_stepsBetween s m args below meth c H locs 0 0 Q (F0 m 40 ls [])) → W pr l e rm_X6_stepsBetween s m args below meth c H locs 0 0 Q (F0 m 7 ls []) := by
    intro x2 n
    induction n with
    | zero => intro x3 x4 g0 ex h; exact lp_z h
    | succ n ih =>
      intro x3 x4 g0 ex h hR H locs ls hP hS hl K
      have h := lp_s h
      refine lv_iload X.1 X.2.1 dX6_stepsBetween_7 (lv_at hl 3 rfl) ?_
      refine lv_bipush (v := 8) X.1 X.2.1 dX6_stepsBetween_9 (by decide) ?_
      refine lv_icmp_ge (tgt := 40) X.1 X.2.1 dX6_stepsBetween_11 (by decide) (fun hc => ?_) (fun hc => ?_)
      · have h := it_t hc h
        exact K g0 (Option.some.inj h) H locs ls hP hS (lv_sub hl [] rfl)
      · have h := it_f hc h
        refine lv_iload_n X.1 X.2.1 dX6_stepsBetween_14 rfl (lv_at hl 2 rfl) ?_
        refine lv_iload_n X.1 X.2.1 dX6_stepsBetween_15 rfl (lv_at hl 1 rfl) ?_
        refine lv_ishr X.1 X.2.1 dX6_stepsBetween_16 ?_
        refine lv_iconst (v := 1) X.1 X.2.1 dX6_stepsBetween_17 (by decide) ?_
        refine lv_iand X.1 X.2.1 dX6_stepsBetween_18 ?_
        refine lv_iconst (v := 1) X.1 X.2.1 dX6_stepsBetween_19 (by decide) ?_
        refine lv_icmp_ne (tgt := 26) X.1 X.2.1 dX6_stepsBetween_20 (by decide) (fun hc => ?_) (fun hc => ?_)
        · have h := it_f hc h
          refine lv_iload_n X.1 X.2.1 dX6_stepsBetween_26 rfl (lv_at hl 2 rfl) ?_
          refine lv_aload_n X.1 X.2.1 dX6_stepsBetween_27 rfl (lv_at hl 0 rfl) ?_
          refine lv_iload_n X.1 X.2.1 dX6_stepsBetween_28 rfl (lv_at hl 2 rfl) ?_
          obtain ⟨r_2, g0_2, hc_2, h⟩ := bd2_el h
          refine call_V1i (As := [.int x3]) (rest := [.int x3]) X (c_X6_neighboursOf l dC dI sk sv tc a0 a1 q1_18 q1_19 g0 g1 x3 hc_2) mw_6_222 mw_6_223 mw_6_224 mw_1_9 mw_6_225 dc_X6_neighboursOf ⟨Nat.le_of_ble_eq_true rfl, Nat.le_of_ble_eq_true rfl⟩ rfl rfl ⟨Nat.zero_le _, Nat.zero_le _⟩ hP (hD _ _) hS 0 rfl rfl rfl hl.1 (Nat.le_of_ble_eq_true rfl) dX6_stepsBetween_29 (fun H locs hP hS => ?_)
          refine lv_ior X.1 X.2.1 dX6_stepsBetween_32 ?_
          obtain ⟨x3_3, ex3_3, h⟩ := nm_el h
          refine tp_i ex3_3 ?_
          refine lv_istore_n (lv' := [(3, .int x3_3), (0, .ref (a0 0)), (2, .int x2), (4, .int x4)]) X.1 X.2.1 dX6_stepsBetween_33 rfl hl (by decide) rfl (fun ls hl => ?_)
          obtain ⟨x4_4, ex4_4, h⟩ := nm_el h
          refine lv_iinc (v := x4_4) (lv' := [(4, .int x4_4), (3, .int x3_3), (0, .ref (a0 0)), (2, .int x2)]) X.1 X.2.1 dX6_stepsBetween_34 hl (k := 3) rfl (by rw [ex4_4]; rfl) (by decide) rfl (fun ls hl => ?_)
          refine lv_goto (tgt := 7) X.1 X.2.1 dX6_stepsBetween_37 (by decide) ?_
          exact ih x3_3 x4_4 g0_2 ex h hR H locs ls hP hS (lv_sub hl [2, 3, 1, 0] rfl) K
        · have h := it_t hc h
          refine lv_iload X.1 X.2.1 dX6_stepsBetween_23 (lv_at hl 3 rfl) ?_
          exact ret_i (fun u => (wLx tc a0 u (a1 0) ++ (wSt tc a1 g1 q1_18 q1_19))) (res := (r0, G0)) (hR _ (Option.some.inj h).symm) X hQ hP hS dX6_stepsBetween_25
  unfold f_X6_stepsBetween at h
  refine lv_iconst (v := 1) X.1 X.2.1 dX6_stepsBetween_0 (by decide) ?_
  refine lv_iload_n X.1 X.2.1 dX6_stepsBetween_1 rfl (lv_at hl 1 rfl) ?_
  refine lv_ishl X.1 X.2.1 dX6_stepsBetween_2 ?_
  obtain ⟨x3_1, ex3_1, h⟩ := nm_el h
  refine tp_i ex3_1 ?_
  refine lv_istore_n (lv' := [(3, .int x3_1), (0, .ref (a0 0)), (1, .int x1), (2, .int x2)]) X.1 X.2.1 dX6_stepsBetween_3 rfl hl (by decide) rfl (fun ls hl => ?_)
  refine lv_iconst (v := 0) X.1 X.2.1 dX6_stepsBetween_4 (by decide) ?_
  refine lv_istore (lv' := [(4, .int 0), (3, .int x3_1), (0, .ref (a0 0)), (1, .int x1), (2, .int x2)]) X.1 X.2.1 dX6_stepsBetween_5 hl (by decide) rfl (fun ls hl => ?_)
  obtain ⟨ex_5, hL_5, h1_5, h2_5⟩ := lr_el h
  refine HL7 x2 fu x3_1 0 g0 ex_5 hL_5 (fun rv hq => h1_5 rv hq) H locs ls hP hS (lv_sub hl [2, 4, 1, 0] rfl) (fun g0_5 he H locs ls hP hS hl => ?_)
  have h := h2_5 _ he.symm
  refine lv_iconst (v := (-1)) X.1 X.2.1 dX6_stepsBetween_40 (by decide) ?_
  exact ret_i (fun u => (wLx tc a0 u (a1 0) ++ (wSt tc a1 g1 q1_18 q1_19))) (res := (r0, G0)) (Option.some.inj h) X hQ hP hS dX6_stepsBetween_41

def f_X6_longestEcho_L35 (x1 : Int32) (x2 : Int32) (g0 : Pic) (g1 : Pic) (n : Nat) (a : Int32) : Option ((Int32) ⊕ (Unit)) := lp (fun (rec : Int32 → Option ((Int32) ⊕ (Unit))) (a : Int32) => (fun (x3 : Int32) => (if (g1 4 0) < (x3 + x1) then some (.inr ()) else bd (f_X6_isEcho g0 g1 x2 x3 x1) (fun r_3 => (if r_3 = 0 then nm (x3 + 1) (fun x3_4 => rec x3_4) else some (.inl x1))))) a) n a
def f_X6_longestEcho_L16 (x1 : Int32) (g0 : Pic) (g1 : Pic) (n : Nat) (a : Int32) : Option ((Int32) ⊕ (Unit)) := lp (fun (rec : Int32 → Option ((Int32) ⊕ (Unit))) (a : Int32) => (fun (x2 : Int32) => (if (g1 4 0) < (x2 + (2 * x1)) then some (.inr ()) else nm ((x2 + x1)) (fun x3_2 => lr (f_X6_longestEcho_L35 x1 x2 g0 g1 fu x3_2) (fun a => .inl a) (fun _ => nm (x2 + 1) (fun x2_6 => rec x2_6))))) a) n a
def f_X6_longestEcho_L10 (g0 : Pic) (g1 : Pic) (n : Nat) (a : Int32) : Option ((Int32) ⊕ (Unit)) := lp (fun (rec : Int32 → Option ((Int32) ⊕ (Unit))) (a : Int32) => (fun (x1 : Int32) => (if x1 ≤ 0 then some (.inr ()) else lr (f_X6_longestEcho_L16 x1 g0 g1 fu 0) (fun a => .inl a) (fun _ => nm (x1 + (-1)) (fun x1_8 => rec x1_8)))) a) n a
def f_X6_longestEcho (g0 : Pic) (g1 : Pic) : Option (Int32) := nm (((g1 4 0) / 2)) (fun x1_1 => lr (f_X6_longestEcho_L10 g0 g1 fu x1_1) (fun a => a) (fun _ => some 0))
abbrev rm_X6_longestEcho : Room := { frames := 1, cells := 0, slots := 0, locals := 24 }
set_option maxHeartbeats 4000000 in
set_option maxRecDepth 100000 in
theorem c_X6_longestEcho (l : Launch) (dC : Nat → ClassId) (dI : Nat → Nat → Nat) (sk sv : Nat → Nat) (tc : Nat → ClassId) (a0 : Nat → Nat) (a1 : Nat → Nat) (q1_18 : Option Nat) (q1_19 : Nat) (g0 : Pic) (g1 : Pic) {r0 : Int32} (h : f_X6_longestEcho g0 g1 = some r0) : CT l (dC, dI) sk sv (TY tc) yX6_longestEcho cX6_longestEcho 4 (some .int) rm_X6_longestEcho [.ref (a0 0)] (wLx tc a0 g0 (a1 0) ++ (wSt tc a1 g1 q1_18 q1_19)) (some (.int r0)) (wLx tc a0 g0 (a1 0) ++ (wSt tc a1 g1 q1_18 q1_19)) := by
  refine ofCT (by decide) (Nat.le_of_ble_eq_true rfl) ?_
  intro pr e s m args below meth c A Q ls H locs X hQ hD0 hP hS hl
  have hD : ∀ z0 z1, va_D A (wLx tc a0 z0 (a1 0) ++ (wSt tc a1 z1 q1_18 q1_19)) := fun z0 z1 => D_fst (ws := (wLx tc a0 g0 (a1 0) ++ (wSt tc a1 g1 q1_18 q1_19))) rfl hD0
  have hl : lv_has ls 4 [(0, .ref (a0 0))] := hl
  have HL35 : ∀ (x1 : Int32) (x2 : Int32) (n : Nat) (x3 : Int32) (ex : ((Int32) ⊕ (Unit))), f_X6_longestEcho_L35 x1 x2 g0 g1 n x3 = some ex → (∀ rv, ex = .inl rv → rv = r0) → ∀ (H : Heap) (locs : List Loc) (ls : Array Slot), va_P (dC, dI) vwCl (wLx tc a0 g0 (a1 0) ++ (wSt tc a1 g1 q1_18 q1_19)) H → va_S A s.heap H locs → lv_has ls 4 [(0, .ref (a0 0)), (1, .int x1), (2, .int x2), (3, .int x3)] → (.inr () = ex → ∀ (H : Heap) (locs : List Loc) (ls : Array Slot), va_P (dC, dI) vwCl (wLx tc a0 g0 (a1 0) ++ (wSt tc a1 g1 q1_18 q1_19)) H → va_S A s.heap H locs → lv_has ls 4 [(0, .ref (a0 0)), (1, .int x1), (2, .int x2)] → W pr l e rm_X6_longestEcho s m args below meth c H locs 0 0 Q (F0 m 66 ls [])) → W pr l e rm_X6_longestEcho s m args below meth c H locs 0 0 Q (F0 m 35 ls []) := by
    intro x1 x2 n
    induction n with
    | zero => intro x3 ex h; exact lp_z h
    | succ n ih =>
      intro x3 ex h hR H locs ls hP hS hl K
      have h := lp_s h
      refine lv_iload_n X.1 X.2.1 dX6_longestEcho_35 rfl (lv_at hl 3 rfl) ?_
      refine lv_iload_n X.1 X.2.1 dX6_longestEcho_36 rfl (lv_at hl 1 rfl) ?_
      refine lv_iadd X.1 X.2.1 dX6_longestEcho_37 ?_
      refine lv_aload_n X.1 X.2.1 dX6_longestEcho_38 rfl (lv_at hl 0 rfl) ?_
      refine r_get (C := RX6) (T := TX6) (N := 4) (ci := 6) (v := .ref (a1 0)) X iw6 hP 0 rfl rfl 0 rfl mw_2_79 rfl dX6_longestEcho_39 ?_
      refine r_get (C := RX9) (T := TX9) (N := 20) (ci := 9) (v := .int (g1 4 0)) X iw9 hP 4 rfl rfl 4 rfl mw_1_128 rfl dX6_longestEcho_42 ?_
      refine lv_icmp_gt (tgt := 66) X.1 X.2.1 dX6_longestEcho_45 (by decide) (fun hc => ?_) (fun hc => ?_)
      · have h := it_t hc h
        exact K  (Option.some.inj h) H locs ls hP hS (lv_sub hl [0, 1, 2] rfl)
      · have h := it_f hc h
        refine lv_aload_n X.1 X.2.1 dX6_longestEcho_48 rfl (lv_at hl 0 rfl) ?_
        refine lv_iload_n X.1 X.2.1 dX6_longestEcho_49 rfl (lv_at hl 2 rfl) ?_
        refine lv_iload_n X.1 X.2.1 dX6_longestEcho_50 rfl (lv_at hl 3 rfl) ?_
        refine lv_iload_n X.1 X.2.1 dX6_longestEcho_51 rfl (lv_at hl 1 rfl) ?_
        obtain ⟨r_3, hc_3, h⟩ := bd_el h
        refine call_V1i (As := [.int x2, .int x3, .int x1]) (rest := []) X (c_X6_isEcho l dC dI sk sv tc a0 a1 q1_18 q1_19 g0 g1 x2 x3 x1 hc_3) mw_3_31 mw_3_32 mw_3_33 mw_1_9 mw_3_34 dc_X6_isEcho ⟨Nat.le_of_ble_eq_true rfl, Nat.le_of_ble_eq_true rfl⟩ rfl rfl ⟨Nat.zero_le _, Nat.zero_le _⟩ hP (hD _ _) hS 0 rfl rfl rfl hl.1 (Nat.le_of_ble_eq_true rfl) dX6_longestEcho_52 (fun H locs hP hS => ?_)
        refine lv_if_eq (tgt := 60) X.1 X.2.1 dX6_longestEcho_55 (by decide) (fun hc => ?_) (fun hc => ?_)
        · have h := it_t hc h
          obtain ⟨x3_4, ex3_4, h⟩ := nm_el h
          refine lv_iinc (v := x3_4) (lv' := [(3, .int x3_4), (0, .ref (a0 0)), (1, .int x1), (2, .int x2)]) X.1 X.2.1 dX6_longestEcho_60 hl (k := 3) rfl (by rw [ex3_4]; rfl) (by decide) rfl (fun ls hl => ?_)
          refine lv_goto (tgt := 35) X.1 X.2.1 dX6_longestEcho_63 (by decide) ?_
          exact ih x3_4 ex h hR H locs ls hP hS (lv_sub hl [1, 2, 3, 0] rfl) K
        · have h := it_f hc h
          refine lv_iload_n X.1 X.2.1 dX6_longestEcho_58 rfl (lv_at hl 1 rfl) ?_
          exact ret_i0 (hR _ (Option.some.inj h).symm) X hQ hP hS dX6_longestEcho_59
  have HL16 : ∀ (x1 : Int32) (n : Nat) (x2 : Int32) (ex : ((Int32) ⊕ (Unit))), f_X6_longestEcho_L16 x1 g0 g1 n x2 = some ex → (∀ rv, ex = .inl rv → rv = r0) → ∀ (H : Heap) (locs : List Loc) (ls : Array Slot), va_P (dC, dI) vwCl (wLx tc a0 g0 (a1 0) ++ (wSt tc a1 g1 q1_18 q1_19)) H → va_S A s.heap H locs → lv_has ls 4 [(0, .ref (a0 0)), (1, .int x1), (2, .int x2)] → (.inr () = ex → ∀ (H : Heap) (locs : List Loc) (ls : Array Slot), va_P (dC, dI) vwCl (wLx tc a0 g0 (a1 0) ++ (wSt tc a1 g1 q1_18 q1_19)) H → va_S A s.heap H locs → lv_has ls 4 [(0, .ref (a0 0)), (1, .int x1)] → W pr l e rm_X6_longestEcho s m args below meth c H locs 0 0 Q (F0 m 72 ls [])) → W pr l e rm_X6_longestEcho s m args below meth c H locs 0 0 Q (F0 m 16 ls []) := by
    intro x1 n
    induction n with
    | zero => intro x2 ex h; exact lp_z h
    | succ n ih =>
      intro x2 ex h hR H locs ls hP hS hl K
      have h := lp_s h
      refine lv_iload_n X.1 X.2.1 dX6_longestEcho_16 rfl (lv_at hl 2 rfl) ?_
      refine lv_iconst (v := 2) X.1 X.2.1 dX6_longestEcho_17 (by decide) ?_
      refine lv_iload_n X.1 X.2.1 dX6_longestEcho_18 rfl (lv_at hl 1 rfl) ?_
      refine lv_imul X.1 X.2.1 dX6_longestEcho_19 ?_
      refine lv_iadd X.1 X.2.1 dX6_longestEcho_20 ?_
      refine lv_aload_n X.1 X.2.1 dX6_longestEcho_21 rfl (lv_at hl 0 rfl) ?_
      refine r_get (C := RX6) (T := TX6) (N := 4) (ci := 6) (v := .ref (a1 0)) X iw6 hP 0 rfl rfl 0 rfl mw_2_79 rfl dX6_longestEcho_22 ?_
      refine r_get (C := RX9) (T := TX9) (N := 20) (ci := 9) (v := .int (g1 4 0)) X iw9 hP 4 rfl rfl 4 rfl mw_1_128 rfl dX6_longestEcho_25 ?_
      refine lv_icmp_gt (tgt := 72) X.1 X.2.1 dX6_longestEcho_28 (by decide) (fun hc => ?_) (fun hc => ?_)
      · have h := it_t hc h
        exact K  (Option.some.inj h) H locs ls hP hS (lv_sub hl [0, 1] rfl)
      · have h := it_f hc h
        refine lv_iload_n X.1 X.2.1 dX6_longestEcho_31 rfl (lv_at hl 2 rfl) ?_
        refine lv_iload_n X.1 X.2.1 dX6_longestEcho_32 rfl (lv_at hl 1 rfl) ?_
        refine lv_iadd X.1 X.2.1 dX6_longestEcho_33 ?_
        obtain ⟨x3_2, ex3_2, h⟩ := nm_el h
        refine tp_i ex3_2 ?_
        refine lv_istore_n (lv' := [(3, .int x3_2), (0, .ref (a0 0)), (1, .int x1), (2, .int x2)]) X.1 X.2.1 dX6_longestEcho_34 rfl hl (by decide) rfl (fun ls hl => ?_)
        obtain ⟨ex_5, hL_5, h1_5, h2_5⟩ := lr_el h
        refine HL35 x1 x2 fu x3_2 ex_5 hL_5 (fun rv hq => hR rv (h1_5 rv hq).symm) H locs ls hP hS (lv_sub hl [1, 2, 3, 0] rfl) (fun  he H locs ls hP hS hl => ?_)
        have h := h2_5 _ he.symm
        obtain ⟨x2_6, ex2_6, h⟩ := nm_el h
        refine lv_iinc (v := x2_6) (lv' := [(2, .int x2_6), (0, .ref (a0 0)), (1, .int x1)]) X.1 X.2.1 dX6_longestEcho_66 hl (k := 2) rfl (by rw [ex2_6]; rfl) (by decide) rfl (fun ls hl => ?_)
        refine lv_goto (tgt := 16) X.1 X.2.1 dX6_longestEcho_69 (by decide) ?_
        exact ih x2_6 ex h hR H locs ls hP hS (lv_sub hl [1, 2, 0] rfl) K
  have HL10 : ∀ (n : Nat) (x1 : Int32) (ex : ((Int32) ⊕ (Unit))), f_X6_longestEcho_L10 g0 g1 n x1 = some ex → (∀ rv, ex = .inl rv → rv = r0) → ∀ (H : Heap) (locs : List Loc) (ls : Array Slot), va_P (dC, dI) vwCl (wLx tc a0 g0 (a1 0) ++ (wSt tc a1 g1 q1_18 q1_19)) H → va_S A s.heap H locs → lv_has ls 4 [(0, .ref (a0 0)), (1, .int x1)] → (.inr () = ex → ∀ (H : Heap) (locs : List Loc) (ls : Array Slot), va_P (dC, dI) vwCl (wLx tc a0 g0 (a1 0) ++ (wSt tc a1 g1 q1_18 q1_19)) H → va_S A s.heap H locs → lv_has ls 4 [] → W pr l e rm_X6_longestEcho s m args below meth c H locs 0 0 Q (F0 m 78 ls [])) → W pr l e rm_X6_longestEcho s m args below meth c H locs 0 0 Q (F0 m 10 ls []) := by
    intro n
    induction n with
    | zero => intro x1 ex h; exact lp_z h
    | succ n ih =>
      intro x1 ex h hR H locs ls hP hS hl K
      have h := lp_s h
      refine lv_iload_n X.1 X.2.1 dX6_longestEcho_10 rfl (lv_at hl 1 rfl) ?_
      refine lv_if_le (tgt := 78) X.1 X.2.1 dX6_longestEcho_11 (by decide) (fun hc => ?_) (fun hc => ?_)
      · have h := it_t hc h
        exact K  (Option.some.inj h) H locs ls hP hS (lv_sub hl [] rfl)
      · have h := it_f hc h
        refine lv_iconst (v := 0) X.1 X.2.1 dX6_longestEcho_14 (by decide) ?_
        refine lv_istore_n (lv' := [(2, .int 0), (0, .ref (a0 0)), (1, .int x1)]) X.1 X.2.1 dX6_longestEcho_15 rfl hl (by decide) rfl (fun ls hl => ?_)
        obtain ⟨ex_7, hL_7, h1_7, h2_7⟩ := lr_el h
        refine HL16 x1 fu 0 ex_7 hL_7 (fun rv hq => hR rv (h1_7 rv hq).symm) H locs ls hP hS (lv_sub hl [1, 2, 0] rfl) (fun  he H locs ls hP hS hl => ?_)
        have h := h2_7 _ he.symm
        obtain ⟨x1_8, ex1_8, h⟩ := nm_el h
        refine lv_iinc (v := x1_8) (lv' := [(1, .int x1_8), (0, .ref (a0 0))]) X.1 X.2.1 dX6_longestEcho_72 hl (k := 1) rfl (by rw [ex1_8]; rfl) (by decide) rfl (fun ls hl => ?_)
        refine lv_goto (tgt := 10) X.1 X.2.1 dX6_longestEcho_75 (by decide) ?_
        exact ih x1_8 ex h hR H locs ls hP hS (lv_sub hl [1, 0] rfl) K
  unfold f_X6_longestEcho at h
  refine lv_aload_n X.1 X.2.1 dX6_longestEcho_0 rfl (lv_at hl 0 rfl) ?_
  refine r_get (C := RX6) (T := TX6) (N := 4) (ci := 6) (v := .ref (a1 0)) X iw6 hP 0 rfl rfl 0 rfl mw_2_79 rfl dX6_longestEcho_1 ?_
  refine r_get (C := RX9) (T := TX9) (N := 20) (ci := 9) (v := .int (g1 4 0)) X iw9 hP 4 rfl rfl 4 rfl mw_1_128 rfl dX6_longestEcho_4 ?_
  refine lv_iconst (v := 2) X.1 X.2.1 dX6_longestEcho_7 (by decide) ?_
  refine lv_idiv X.1 X.2.1 dX6_longestEcho_8 (by decide) ?_
  obtain ⟨x1_1, ex1_1, h⟩ := nm_el h
  refine tp_i ex1_1 ?_
  refine lv_istore_n (lv' := [(1, .int x1_1), (0, .ref (a0 0))]) X.1 X.2.1 dX6_longestEcho_9 rfl hl (by decide) rfl (fun ls hl => ?_)
  obtain ⟨ex_9, hL_9, h1_9, h2_9⟩ := lr_el h
  refine HL10  fu x1_1 ex_9 hL_9 (fun rv hq => h1_9 rv hq) H locs ls hP hS (lv_sub hl [1, 0] rfl) (fun  he H locs ls hP hS hl => ?_)
  have h := h2_9 _ he.symm
  refine lv_iconst (v := 0) X.1 X.2.1 dX6_longestEcho_78 (by decide) ?_
  exact ret_i0 (Option.some.inj h) X hQ hP hS dX6_longestEcho_79

def f_X6_findCosts_L2 (g1 : Pic) (n : Nat) (a : Int32 × Pic) : Option (Pic) := lp (fun (rec : Int32 × Pic → Option (Pic)) (a : Int32 × Pic) => match a with | (x1, g0) => (if 128 < x1 then some g0 else gdi (((g1 0 0) * 129) + x1) 1161 (nm (pu g0 3 ((((g1 0 0) * 129) + x1).toNatClampNeg) 0) (fun g0_2 => nm (x1 + 1) (fun x1_3 => rec (x1_3, g0_2)))))) n a
def f_X6_findCosts_L63 (x1 : Int32) (x2 : Int32) (g0 : Pic) (g1 : Pic) (n : Nat) (a : Int32 × Int32) : Option (Int32) := lp (fun (rec : Int32 × Int32 → Option (Int32)) (a : Int32 × Int32) => match a with | (x3, x4) => (if 7 < x4 then some x3 else bd (f_X6_costAt g0 g1 x1 x2 x4) (fun r_6 => nm ((if r_6 < x3 then r_6 else x3)) (fun x3_7 => nm (x4 + 1) (fun x4_8 => rec (x3_7, x4_8)))))) n a
def f_X6_findCosts_L50 (x1 : Int32) (g1 : Pic) (n : Nat) (a : Int32 × Pic) : Option (Pic) := lp (fun (rec : Int32 × Pic → Option (Pic)) (a : Int32 × Pic) => match a with | (x2, g0) => (if 128 < x2 then some g0 else bd (f_X6_findCosts_L63 x1 x2 g0 g1 fu (1000000, 1)) (fun x3_9 => gdi ((x1 * 129) + x2) 1161 (nm (pu g0 3 (((x1 * 129) + x2).toNatClampNeg) x3_9) (fun g0_11 => nm (x2 + 1) (fun x2_12 => rec (x2_12, g0_11))))))) n a
def f_X6_findCosts_L44 (g1 : Pic) (n : Nat) (a : Int32 × Pic) : Option (Pic) := lp (fun (rec : Int32 × Pic → Option (Pic)) (a : Int32 × Pic) => match a with | (x1, g0) => (if x1 < 0 then some g0 else bd (f_X6_findCosts_L50 x1 g1 fu (0, g0)) (fun g0_13 => nm (x1 + (-1)) (fun x1_14 => rec (x1_14, g0_13))))) n a
def f_X6_findCosts (g0 : Pic) (g1 : Pic) : Option (Pic) := bd (f_X6_findCosts_L2 g1 fu (0, g0)) (fun g0_4 => nm (((g1 0 0) - 1)) (fun x1_5 => bd (f_X6_findCosts_L44 g1 fu (x1_5, g0_4)) (fun g0_15 => some g0_15)))
abbrev rm_X6_findCosts : Room := { frames := 1, cells := 0, slots := 0, locals := 40 }
set_option maxHeartbeats 4000000 in
set_option maxRecDepth 100000 in
theorem c_X6_findCosts (l : Launch) (dC : Nat → ClassId) (dI : Nat → Nat → Nat) (sk sv : Nat → Nat) (tc : Nat → ClassId) (a0 : Nat → Nat) (a1 : Nat → Nat) (q1_18 : Option Nat) (q1_19 : Nat) (g0 : Pic) (g1 : Pic) {G0 : Pic} (h : f_X6_findCosts g0 g1 = some G0) : CT l (dC, dI) sk sv (TY tc) yX6_findCosts cX6_findCosts 5 none rm_X6_findCosts [.ref (a0 0)] (wLx tc a0 g0 (a1 0) ++ (wSt tc a1 g1 q1_18 q1_19)) none (wLx tc a0 G0 (a1 0) ++ (wSt tc a1 g1 q1_18 q1_19)) := by
  refine ofCT (by decide) (Nat.le_of_ble_eq_true rfl) ?_
  intro pr e s m args below meth c A Q ls H locs X hQ hD0 hP hS hl
  have hD : ∀ z0 z1, va_D A (wLx tc a0 z0 (a1 0) ++ (wSt tc a1 z1 q1_18 q1_19)) := fun z0 z1 => D_fst (ws := (wLx tc a0 g0 (a1 0) ++ (wSt tc a1 g1 q1_18 q1_19))) rfl hD0
  have hl : lv_has ls 5 [(0, .ref (a0 0))] := hl
  have HL2 : ∀ (n : Nat) (x1 : Int32) (g0 : Pic) (ex : (Pic)), f_X6_findCosts_L2 g1 n (x1, g0) = some ex → ∀ (H : Heap) (locs : List Loc) (ls : Array Slot), va_P (dC, dI) vwCl (wLx tc a0 g0 (a1 0) ++ (wSt tc a1 g1 q1_18 q1_19)) H → va_S A s.heap H locs → lv_has ls 5 [(0, .ref (a0 0)), (1, .int x1)] → (∀ (k0 : Pic), k0 = ex → ∀ (H : Heap) (locs : List Loc) (ls : Array Slot), va_P (dC, dI) vwCl (wLx tc a0 k0 (a1 0) ++ (wSt tc a1 g1 q1_18 q1_19)) H → va_S A s.heap H locs → lv_has ls 5 [(0, .ref (a0 0))] → W pr l e rm_X6_findCosts s m args below meth c H locs 0 0 Q (F0 m 34 ls [])) → W pr l e rm_X6_findCosts s m args below meth c H locs 0 0 Q (F0 m 2 ls []) := by
    intro n
    induction n with
    | zero => intro x1 g0 ex h; exact lp_z h
    | succ n ih =>
      intro x1 g0 ex h H locs ls hP hS hl K
      have h := lp_s h
      refine lv_iload_n X.1 X.2.1 dX6_findCosts_2 rfl (lv_at hl 1 rfl) ?_
      refine lv_sipush (v := 128) X.1 X.2.1 dX6_findCosts_3 (by decide) ?_
      refine lv_icmp_gt (tgt := 34) X.1 X.2.1 dX6_findCosts_6 (by decide) (fun hc => ?_) (fun hc => ?_)
      · have h := it_t hc h
        exact K g0 (Option.some.inj h) H locs ls hP hS (lv_sub hl [0] rfl)
      · have h := it_f hc h
        refine lv_aload_n X.1 X.2.1 dX6_findCosts_9 rfl (lv_at hl 0 rfl) ?_
        refine r_get (C := RX6) (T := TX6) (N := 4) (ci := 6) (v := .ref (a0 4)) X iw6 hP 0 rfl rfl 3 rfl mw_2_82 rfl dX6_findCosts_10 ?_
        refine lv_aload_n X.1 X.2.1 dX6_findCosts_13 rfl (lv_at hl 0 rfl) ?_
        refine r_get (C := RX6) (T := TX6) (N := 4) (ci := 6) (v := .ref (a1 0)) X iw6 hP 0 rfl rfl 0 rfl mw_2_79 rfl dX6_findCosts_14 ?_
        refine r_get (C := RX9) (T := TX9) (N := 20) (ci := 9) (v := .int (g1 0 0)) X iw9 hP 4 rfl rfl 0 rfl mw_1_105 rfl dX6_findCosts_17 ?_
        refine lv_sipush (v := 129) X.1 X.2.1 dX6_findCosts_20 (by decide) ?_
        refine lv_imul X.1 X.2.1 dX6_findCosts_23 ?_
        refine lv_iload_n X.1 X.2.1 dX6_findCosts_24 rfl (lv_at hl 1 rfl) ?_
        refine lv_iadd X.1 X.2.1 dX6_findCosts_25 ?_
        refine lv_iconst (v := 0) X.1 X.2.1 dX6_findCosts_26 (by decide) ?_
        obtain ⟨hg_1, h⟩ := gdi_el h
        obtain ⟨g0_2, eg0_2, h⟩ := nm_el h
        refine r_iast X hP (hD _ _) hS 3 0 rfl rfl hg_1 rfl dX6_findCosts_27 (wLx tc a0 g0_2 (a1 0) ++ (wSt tc a1 g1 q1_18 q1_19)) (by rw [eg0_2]; rfl) (fun H locs hP hS => ?_)
        obtain ⟨x1_3, ex1_3, h⟩ := nm_el h
        refine lv_iinc (v := x1_3) (lv' := [(1, .int x1_3), (0, .ref (a0 0))]) X.1 X.2.1 dX6_findCosts_28 hl (k := 1) rfl (by rw [ex1_3]; rfl) (by decide) rfl (fun ls hl => ?_)
        refine lv_goto (tgt := 2) X.1 X.2.1 dX6_findCosts_31 (by decide) ?_
        exact ih x1_3 g0_2 ex h H locs ls hP hS (lv_sub hl [1, 0] rfl) K
  have HL63 : ∀ (x1 : Int32) (x2 : Int32) (g0 : Pic) (n : Nat) (x3 : Int32) (x4 : Int32) (ex : (Int32)), f_X6_findCosts_L63 x1 x2 g0 g1 n (x3, x4) = some ex → ∀ (H : Heap) (locs : List Loc) (ls : Array Slot), va_P (dC, dI) vwCl (wLx tc a0 g0 (a1 0) ++ (wSt tc a1 g1 q1_18 q1_19)) H → va_S A s.heap H locs → lv_has ls 5 [(0, .ref (a0 0)), (1, .int x1), (2, .int x2), (3, .int x3), (4, .int x4)] → (∀ (y3 : Int32), y3 = ex → ∀ (H : Heap) (locs : List Loc) (ls : Array Slot), va_P (dC, dI) vwCl (wLx tc a0 g0 (a1 0) ++ (wSt tc a1 g1 q1_18 q1_19)) H → va_S A s.heap H locs → lv_has ls 5 [(0, .ref (a0 0)), (1, .int x1), (2, .int x2), (3, .int y3)] → W pr l e rm_X6_findCosts s m args below meth c H locs 0 0 Q (F0 m 89 ls [])) → W pr l e rm_X6_findCosts s m args below meth c H locs 0 0 Q (F0 m 63 ls []) := by
    intro x1 x2 g0 n
    induction n with
    | zero => intro x3 x4 ex h; exact lp_z h
    | succ n ih =>
      intro x3 x4 ex h H locs ls hP hS hl K
      have h := lp_s h
      refine lv_iload X.1 X.2.1 dX6_findCosts_63 (lv_at hl 4 rfl) ?_
      refine lv_bipush (v := 7) X.1 X.2.1 dX6_findCosts_65 (by decide) ?_
      refine lv_icmp_gt (tgt := 89) X.1 X.2.1 dX6_findCosts_67 (by decide) (fun hc => ?_) (fun hc => ?_)
      · have h := it_t hc h
        exact K x3 (Option.some.inj h) H locs ls hP hS (lv_sub hl [0, 1, 2, 3] rfl)
      · have h := it_f hc h
        refine lv_iload_n X.1 X.2.1 dX6_findCosts_70 rfl (lv_at hl 3 rfl) ?_
        refine lv_aload_n X.1 X.2.1 dX6_findCosts_71 rfl (lv_at hl 0 rfl) ?_
        refine lv_iload_n X.1 X.2.1 dX6_findCosts_72 rfl (lv_at hl 1 rfl) ?_
        refine lv_iload_n X.1 X.2.1 dX6_findCosts_73 rfl (lv_at hl 2 rfl) ?_
        refine lv_iload X.1 X.2.1 dX6_findCosts_74 (lv_at hl 4 rfl) ?_
        obtain ⟨r_6, hc_6, h⟩ := bd_el h
        refine call_V1i (As := [.int x1, .int x2, .int x4]) (rest := [.int x3]) X (c_X6_costAt l dC dI sk sv tc a0 a1 q1_18 q1_19 g0 g1 x1 x2 x4 hc_6) mw_3_4 mw_3_5 mw_3_6 mw_1_9 mw_3_7 dc_X6_costAt ⟨Nat.le_of_ble_eq_true rfl, Nat.le_of_ble_eq_true rfl⟩ rfl rfl ⟨Nat.zero_le _, Nat.zero_le _⟩ hP (hD _ _) hS 0 rfl rfl rfl hl.1 (Nat.le_of_ble_eq_true rfl) dX6_findCosts_76 (fun H locs hP hS => ?_)
        refine r_min X mw_3_8 mw_3_9 mw_1_25 mw_3_10 hl.1 (Nat.le_of_ble_eq_true rfl) (Nat.le_of_ble_eq_true rfl) ⟨Nat.zero_le _, Nat.zero_le _⟩ dX6_findCosts_79 ?_
        obtain ⟨x3_7, ex3_7, h⟩ := nm_el h
        refine tp_i ex3_7 ?_
        refine lv_istore_n (lv' := [(3, .int x3_7), (0, .ref (a0 0)), (1, .int x1), (2, .int x2), (4, .int x4)]) X.1 X.2.1 dX6_findCosts_82 rfl hl (by decide) rfl (fun ls hl => ?_)
        obtain ⟨x4_8, ex4_8, h⟩ := nm_el h
        refine lv_iinc (v := x4_8) (lv' := [(4, .int x4_8), (3, .int x3_7), (0, .ref (a0 0)), (1, .int x1), (2, .int x2)]) X.1 X.2.1 dX6_findCosts_83 hl (k := 4) rfl (by rw [ex4_8]; rfl) (by decide) rfl (fun ls hl => ?_)
        refine lv_goto (tgt := 63) X.1 X.2.1 dX6_findCosts_86 (by decide) ?_
        exact ih x3_7 x4_8 ex h H locs ls hP hS (lv_sub hl [2, 3, 4, 1, 0] rfl) K
  have HL50 : ∀ (x1 : Int32) (n : Nat) (x2 : Int32) (g0 : Pic) (ex : (Pic)), f_X6_findCosts_L50 x1 g1 n (x2, g0) = some ex → ∀ (H : Heap) (locs : List Loc) (ls : Array Slot), va_P (dC, dI) vwCl (wLx tc a0 g0 (a1 0) ++ (wSt tc a1 g1 q1_18 q1_19)) H → va_S A s.heap H locs → lv_has ls 5 [(0, .ref (a0 0)), (1, .int x1), (2, .int x2)] → (∀ (k0 : Pic), k0 = ex → ∀ (H : Heap) (locs : List Loc) (ls : Array Slot), va_P (dC, dI) vwCl (wLx tc a0 k0 (a1 0) ++ (wSt tc a1 g1 q1_18 q1_19)) H → va_S A s.heap H locs → lv_has ls 5 [(0, .ref (a0 0)), (1, .int x1)] → W pr l e rm_X6_findCosts s m args below meth c H locs 0 0 Q (F0 m 108 ls [])) → W pr l e rm_X6_findCosts s m args below meth c H locs 0 0 Q (F0 m 50 ls []) := by
    intro x1 n
    induction n with
    | zero => intro x2 g0 ex h; exact lp_z h
    | succ n ih =>
      intro x2 g0 ex h H locs ls hP hS hl K
      have h := lp_s h
      refine lv_iload_n X.1 X.2.1 dX6_findCosts_50 rfl (lv_at hl 2 rfl) ?_
      refine lv_sipush (v := 128) X.1 X.2.1 dX6_findCosts_51 (by decide) ?_
      refine lv_icmp_gt (tgt := 108) X.1 X.2.1 dX6_findCosts_54 (by decide) (fun hc => ?_) (fun hc => ?_)
      · have h := it_t hc h
        exact K g0 (Option.some.inj h) H locs ls hP hS (lv_sub hl [0, 1] rfl)
      · have h := it_f hc h
        refine lv_ldc (v := 1000000) X.1 X.2.1 X.2.2.2.2.1 (X.2.2.2.2.2.1 _ (List.mem_cons_of_mem _ mw_3_3)) dX6_findCosts_57 ?_
        refine lv_istore_n (lv' := [(3, .int 1000000), (0, .ref (a0 0)), (1, .int x1), (2, .int x2)]) X.1 X.2.1 dX6_findCosts_59 rfl hl (by decide) rfl (fun ls hl => ?_)
        refine lv_iconst (v := 1) X.1 X.2.1 dX6_findCosts_60 (by decide) ?_
        refine lv_istore (lv' := [(4, .int 1), (3, .int 1000000), (0, .ref (a0 0)), (1, .int x1), (2, .int x2)]) X.1 X.2.1 dX6_findCosts_61 hl (by decide) rfl (fun ls hl => ?_)
        obtain ⟨ex_9, hL_9, h⟩ := bd_el h
        refine HL63 x1 x2 g0 fu 1000000 1 ex_9 hL_9 H locs ls hP hS (lv_sub hl [2, 3, 4, 1, 0] rfl) (fun x3_9 he H locs ls hP hS hl => ?_)
        subst he
        refine lv_aload_n X.1 X.2.1 dX6_findCosts_89 rfl (lv_at hl 0 rfl) ?_
        refine r_get (C := RX6) (T := TX6) (N := 4) (ci := 6) (v := .ref (a0 4)) X iw6 hP 0 rfl rfl 3 rfl mw_2_82 rfl dX6_findCosts_90 ?_
        refine lv_iload_n X.1 X.2.1 dX6_findCosts_93 rfl (lv_at hl 1 rfl) ?_
        refine lv_sipush (v := 129) X.1 X.2.1 dX6_findCosts_94 (by decide) ?_
        refine lv_imul X.1 X.2.1 dX6_findCosts_97 ?_
        refine lv_iload_n X.1 X.2.1 dX6_findCosts_98 rfl (lv_at hl 2 rfl) ?_
        refine lv_iadd X.1 X.2.1 dX6_findCosts_99 ?_
        refine lv_iload_n X.1 X.2.1 dX6_findCosts_100 rfl (lv_at hl 3 rfl) ?_
        obtain ⟨hg_10, h⟩ := gdi_el h
        obtain ⟨g0_11, eg0_11, h⟩ := nm_el h
        refine r_iast X hP (hD _ _) hS 3 0 rfl rfl hg_10 rfl dX6_findCosts_101 (wLx tc a0 g0_11 (a1 0) ++ (wSt tc a1 g1 q1_18 q1_19)) (by rw [eg0_11]; rfl) (fun H locs hP hS => ?_)
        obtain ⟨x2_12, ex2_12, h⟩ := nm_el h
        refine lv_iinc (v := x2_12) (lv' := [(2, .int x2_12), (0, .ref (a0 0)), (1, .int x1), (3, .int x3_9)]) X.1 X.2.1 dX6_findCosts_102 hl (k := 2) rfl (by rw [ex2_12]; rfl) (by decide) rfl (fun ls hl => ?_)
        refine lv_goto (tgt := 50) X.1 X.2.1 dX6_findCosts_105 (by decide) ?_
        exact ih x2_12 g0_11 ex h H locs ls hP hS (lv_sub hl [1, 2, 0] rfl) K
  have HL44 : ∀ (n : Nat) (x1 : Int32) (g0 : Pic) (ex : (Pic)), f_X6_findCosts_L44 g1 n (x1, g0) = some ex → ∀ (H : Heap) (locs : List Loc) (ls : Array Slot), va_P (dC, dI) vwCl (wLx tc a0 g0 (a1 0) ++ (wSt tc a1 g1 q1_18 q1_19)) H → va_S A s.heap H locs → lv_has ls 5 [(0, .ref (a0 0)), (1, .int x1)] → (∀ (k0 : Pic), k0 = ex → ∀ (H : Heap) (locs : List Loc) (ls : Array Slot), va_P (dC, dI) vwCl (wLx tc a0 k0 (a1 0) ++ (wSt tc a1 g1 q1_18 q1_19)) H → va_S A s.heap H locs → lv_has ls 5 [] → W pr l e rm_X6_findCosts s m args below meth c H locs 0 0 Q (F0 m 114 ls [])) → W pr l e rm_X6_findCosts s m args below meth c H locs 0 0 Q (F0 m 44 ls []) := by
    intro n
    induction n with
    | zero => intro x1 g0 ex h; exact lp_z h
    | succ n ih =>
      intro x1 g0 ex h H locs ls hP hS hl K
      have h := lp_s h
      refine lv_iload_n X.1 X.2.1 dX6_findCosts_44 rfl (lv_at hl 1 rfl) ?_
      refine lv_if_lt (tgt := 114) X.1 X.2.1 dX6_findCosts_45 (by decide) (fun hc => ?_) (fun hc => ?_)
      · have h := it_t hc h
        exact K g0 (Option.some.inj h) H locs ls hP hS (lv_sub hl [] rfl)
      · have h := it_f hc h
        refine lv_iconst (v := 0) X.1 X.2.1 dX6_findCosts_48 (by decide) ?_
        refine lv_istore_n (lv' := [(2, .int 0), (0, .ref (a0 0)), (1, .int x1)]) X.1 X.2.1 dX6_findCosts_49 rfl hl (by decide) rfl (fun ls hl => ?_)
        obtain ⟨ex_13, hL_13, h⟩ := bd_el h
        refine HL50 x1 fu 0 g0 ex_13 hL_13 H locs ls hP hS (lv_sub hl [1, 2, 0] rfl) (fun g0_13 he H locs ls hP hS hl => ?_)
        subst he
        obtain ⟨x1_14, ex1_14, h⟩ := nm_el h
        refine lv_iinc (v := x1_14) (lv' := [(1, .int x1_14), (0, .ref (a0 0))]) X.1 X.2.1 dX6_findCosts_108 hl (k := 1) rfl (by rw [ex1_14]; rfl) (by decide) rfl (fun ls hl => ?_)
        refine lv_goto (tgt := 44) X.1 X.2.1 dX6_findCosts_111 (by decide) ?_
        exact ih x1_14 g0_13 ex h H locs ls hP hS (lv_sub hl [1, 0] rfl) K
  unfold f_X6_findCosts at h
  refine lv_iconst (v := 0) X.1 X.2.1 dX6_findCosts_0 (by decide) ?_
  refine lv_istore_n (lv' := [(1, .int 0), (0, .ref (a0 0))]) X.1 X.2.1 dX6_findCosts_1 rfl hl (by decide) rfl (fun ls hl => ?_)
  obtain ⟨ex_4, hL_4, h⟩ := bd_el h
  refine HL2  fu 0 g0 ex_4 hL_4 H locs ls hP hS (lv_sub hl [1, 0] rfl) (fun g0_4 he H locs ls hP hS hl => ?_)
  subst he
  refine lv_aload_n X.1 X.2.1 dX6_findCosts_34 rfl (lv_at hl 0 rfl) ?_
  refine r_get (C := RX6) (T := TX6) (N := 4) (ci := 6) (v := .ref (a1 0)) X iw6 hP 0 rfl rfl 0 rfl mw_2_79 rfl dX6_findCosts_35 ?_
  refine r_get (C := RX9) (T := TX9) (N := 20) (ci := 9) (v := .int (g1 0 0)) X iw9 hP 4 rfl rfl 0 rfl mw_1_105 rfl dX6_findCosts_38 ?_
  refine lv_iconst (v := 1) X.1 X.2.1 dX6_findCosts_41 (by decide) ?_
  refine lv_isub X.1 X.2.1 dX6_findCosts_42 ?_
  obtain ⟨x1_5, ex1_5, h⟩ := nm_el h
  refine tp_i ex1_5 ?_
  refine lv_istore_n (lv' := [(1, .int x1_5), (0, .ref (a0 0))]) X.1 X.2.1 dX6_findCosts_43 rfl hl (by decide) rfl (fun ls hl => ?_)
  obtain ⟨ex_15, hL_15, h⟩ := bd_el h
  refine HL44  fu x1_5 g0_4 ex_15 hL_15 H locs ls hP hS (lv_sub hl [1, 0] rfl) (fun g0_15 he H locs ls hP hS hl => ?_)
  subst he
  exact ret_v (fun u => (wLx tc a0 u (a1 0) ++ (wSt tc a1 g1 q1_18 q1_19))) (res := G0) (Option.some.inj h) X hQ hP hS dX6_findCosts_114

def f_X6_countTwins_L19 (x2 : Int32) (g0 : Pic) (g1 : Pic) (n : Nat) (a : Int32 × Int32) : Option (Int32) := lp (fun (rec : Int32 × Int32 → Option (Int32)) (a : Int32 × Int32) => match a with | (x1, x3) => (if (g1 0 0) ≤ x3 then some x1 else bd (f_X6_lettersOf g0 g1 x2) (fun r_2 => bd (f_X6_lettersOf g0 g1 x3) (fun r_3 => jn (fun (x1_J46 : Int32) => nm (x3 + 1) (fun x3_4 => rec (x1_J46, x3_4))) (fun J46 => (if r_2 = r_3 then nm (x1 + 1) (fun x1_5 => J46 x1_5) else J46 x1)))))) n a
def f_X6_countTwins_L4 (g0 : Pic) (g1 : Pic) (n : Nat) (a : Int32 × Int32) : Option (Int32) := lp (fun (rec : Int32 × Int32 → Option (Int32)) (a : Int32 × Int32) => match a with | (x1, x2) => (if (g1 0 0) ≤ x2 then some x1 else nm ((x2 + 1)) (fun x3_1 => bd (f_X6_countTwins_L19 x2 g0 g1 fu (x1, x3_1)) (fun x1_6 => nm (x2 + 1) (fun x2_7 => rec (x1_6, x2_7)))))) n a
def f_X6_countTwins (g0 : Pic) (g1 : Pic) : Option (Int32) := bd (f_X6_countTwins_L4 g0 g1 fu (0, 0)) (fun x1_8 => some x1_8)
abbrev rm_X6_countTwins : Room := { frames := 1, cells := 0, slots := 0, locals := 23 }
set_option maxHeartbeats 4000000 in
set_option maxRecDepth 100000 in
theorem c_X6_countTwins (l : Launch) (dC : Nat → ClassId) (dI : Nat → Nat → Nat) (sk sv : Nat → Nat) (tc : Nat → ClassId) (a0 : Nat → Nat) (a1 : Nat → Nat) (q1_18 : Option Nat) (q1_19 : Nat) (g0 : Pic) (g1 : Pic) {r0 : Int32} (h : f_X6_countTwins g0 g1 = some r0) : CT l (dC, dI) sk sv (TY tc) yX6_countTwins cX6_countTwins 4 (some .int) rm_X6_countTwins [.ref (a0 0)] (wLx tc a0 g0 (a1 0) ++ (wSt tc a1 g1 q1_18 q1_19)) (some (.int r0)) (wLx tc a0 g0 (a1 0) ++ (wSt tc a1 g1 q1_18 q1_19)) := by
  refine ofCT (by decide) (Nat.le_of_ble_eq_true rfl) ?_
  intro pr e s m args below meth c A Q ls H locs X hQ hD0 hP hS hl
  have hD : ∀ z0 z1, va_D A (wLx tc a0 z0 (a1 0) ++ (wSt tc a1 z1 q1_18 q1_19)) := fun z0 z1 => D_fst (ws := (wLx tc a0 g0 (a1 0) ++ (wSt tc a1 g1 q1_18 q1_19))) rfl hD0
  have hl : lv_has ls 4 [(0, .ref (a0 0))] := hl
  have HL19 : ∀ (x2 : Int32) (n : Nat) (x1 : Int32) (x3 : Int32) (ex : (Int32)), f_X6_countTwins_L19 x2 g0 g1 n (x1, x3) = some ex → ∀ (H : Heap) (locs : List Loc) (ls : Array Slot), va_P (dC, dI) vwCl (wLx tc a0 g0 (a1 0) ++ (wSt tc a1 g1 q1_18 q1_19)) H → va_S A s.heap H locs → lv_has ls 4 [(0, .ref (a0 0)), (1, .int x1), (2, .int x2), (3, .int x3)] → (∀ (y1 : Int32), y1 = ex → ∀ (H : Heap) (locs : List Loc) (ls : Array Slot), va_P (dC, dI) vwCl (wLx tc a0 g0 (a1 0) ++ (wSt tc a1 g1 q1_18 q1_19)) H → va_S A s.heap H locs → lv_has ls 4 [(0, .ref (a0 0)), (1, .int y1), (2, .int x2)] → W pr l e rm_X6_countTwins s m args below meth c H locs 0 0 Q (F0 m 52 ls [])) → W pr l e rm_X6_countTwins s m args below meth c H locs 0 0 Q (F0 m 19 ls []) := by
    intro x2 n
    induction n with
    | zero => intro x1 x3 ex h; exact lp_z h
    | succ n ih =>
      intro x1 x3 ex h H locs ls hP hS hl K
      have h := lp_s h
      refine lv_iload_n X.1 X.2.1 dX6_countTwins_19 rfl (lv_at hl 3 rfl) ?_
      refine lv_aload_n X.1 X.2.1 dX6_countTwins_20 rfl (lv_at hl 0 rfl) ?_
      refine r_get (C := RX6) (T := TX6) (N := 4) (ci := 6) (v := .ref (a1 0)) X iw6 hP 0 rfl rfl 0 rfl mw_2_79 rfl dX6_countTwins_21 ?_
      refine r_get (C := RX9) (T := TX9) (N := 20) (ci := 9) (v := .int (g1 0 0)) X iw9 hP 4 rfl rfl 0 rfl mw_1_105 rfl dX6_countTwins_24 ?_
      refine lv_icmp_ge (tgt := 52) X.1 X.2.1 dX6_countTwins_27 (by decide) (fun hc => ?_) (fun hc => ?_)
      · have h := it_t hc h
        exact K x1 (Option.some.inj h) H locs ls hP hS (lv_sub hl [0, 1, 2] rfl)
      · have h := it_f hc h
        refine lv_aload_n X.1 X.2.1 dX6_countTwins_30 rfl (lv_at hl 0 rfl) ?_
        refine lv_iload_n X.1 X.2.1 dX6_countTwins_31 rfl (lv_at hl 2 rfl) ?_
        obtain ⟨r_2, hc_2, h⟩ := bd_el h
        refine call_V1i (As := [.int x2]) (rest := []) X (c_X6_lettersOf l dC dI sk sv tc a0 a1 q1_18 q1_19 g0 g1 x2 hc_2) mw_3_55 mw_3_56 mw_3_57 mw_1_9 mw_3_58 dc_X6_lettersOf ⟨Nat.le_of_ble_eq_true rfl, Nat.le_of_ble_eq_true rfl⟩ rfl rfl ⟨Nat.zero_le _, Nat.zero_le _⟩ hP (hD _ _) hS 0 rfl rfl rfl hl.1 (Nat.le_of_ble_eq_true rfl) dX6_countTwins_32 (fun H locs hP hS => ?_)
        refine lv_aload_n X.1 X.2.1 dX6_countTwins_35 rfl (lv_at hl 0 rfl) ?_
        refine lv_iload_n X.1 X.2.1 dX6_countTwins_36 rfl (lv_at hl 3 rfl) ?_
        obtain ⟨r_3, hc_3, h⟩ := bd_el h
        refine call_V1i (As := [.int x3]) (rest := [.int r_2]) X (c_X6_lettersOf l dC dI sk sv tc a0 a1 q1_18 q1_19 g0 g1 x3 hc_3) mw_3_55 mw_3_56 mw_3_57 mw_1_9 mw_3_58 dc_X6_lettersOf ⟨Nat.le_of_ble_eq_true rfl, Nat.le_of_ble_eq_true rfl⟩ rfl rfl ⟨Nat.zero_le _, Nat.zero_le _⟩ hP (hD _ _) hS 0 rfl rfl rfl hl.1 (Nat.le_of_ble_eq_true rfl) dX6_countTwins_37 (fun H locs hP hS => ?_)
        obtain ⟨J46, eJ46, h⟩ := jn_el h
        have HJ46 : ∀ (x1_J46 : Int32) (H : Heap) (locs : List Loc) (ls : Array Slot), J46 x1_J46 = some ex → va_P (dC, dI) vwCl (wLx tc a0 g0 (a1 0) ++ (wSt tc a1 g1 q1_18 q1_19)) H → va_S A s.heap H locs → lv_has ls 4 [(0, .ref (a0 0)), (1, .int x1_J46), (2, .int x2), (3, .int x3)] → W pr l e rm_X6_countTwins s m args below meth c H locs 0 0 Q (F0 m 46 ls []) := by
          intro x1_J46 H locs ls h hP hS hl
          rw [eJ46] at h
          obtain ⟨x3_4, ex3_4, h⟩ := nm_el h
          refine lv_iinc (v := x3_4) (lv' := [(3, .int x3_4), (0, .ref (a0 0)), (1, .int x1_J46), (2, .int x2)]) X.1 X.2.1 dX6_countTwins_46 hl (k := 3) rfl (by rw [ex3_4]; rfl) (by decide) rfl (fun ls hl => ?_)
          refine lv_goto (tgt := 19) X.1 X.2.1 dX6_countTwins_49 (by decide) ?_
          exact ih x1_J46 x3_4 ex h H locs ls hP hS (lv_sub hl [1, 2, 3, 0] rfl) K
        refine lv_icmp_ne (tgt := 46) X.1 X.2.1 dX6_countTwins_40 (by decide) (fun hc => ?_) (fun hc => ?_)
        · have h := it_f hc h
          exact HJ46 x1 H locs ls h hP hS (lv_sub hl [0, 1, 2, 3] rfl)
        · have h := it_t hc h
          obtain ⟨x1_5, ex1_5, h⟩ := nm_el h
          refine lv_iinc (v := x1_5) (lv' := [(1, .int x1_5), (0, .ref (a0 0)), (2, .int x2), (3, .int x3)]) X.1 X.2.1 dX6_countTwins_43 hl (k := 1) rfl (by rw [ex1_5]; rfl) (by decide) rfl (fun ls hl => ?_)
          exact HJ46 x1_5 H locs ls h hP hS (lv_sub hl [1, 0, 2, 3] rfl)
  have HL4 : ∀ (n : Nat) (x1 : Int32) (x2 : Int32) (ex : (Int32)), f_X6_countTwins_L4 g0 g1 n (x1, x2) = some ex → ∀ (H : Heap) (locs : List Loc) (ls : Array Slot), va_P (dC, dI) vwCl (wLx tc a0 g0 (a1 0) ++ (wSt tc a1 g1 q1_18 q1_19)) H → va_S A s.heap H locs → lv_has ls 4 [(0, .ref (a0 0)), (1, .int x1), (2, .int x2)] → (∀ (y1 : Int32), y1 = ex → ∀ (H : Heap) (locs : List Loc) (ls : Array Slot), va_P (dC, dI) vwCl (wLx tc a0 g0 (a1 0) ++ (wSt tc a1 g1 q1_18 q1_19)) H → va_S A s.heap H locs → lv_has ls 4 [(1, .int y1)] → W pr l e rm_X6_countTwins s m args below meth c H locs 0 0 Q (F0 m 58 ls [])) → W pr l e rm_X6_countTwins s m args below meth c H locs 0 0 Q (F0 m 4 ls []) := by
    intro n
    induction n with
    | zero => intro x1 x2 ex h; exact lp_z h
    | succ n ih =>
      intro x1 x2 ex h H locs ls hP hS hl K
      have h := lp_s h
      refine lv_iload_n X.1 X.2.1 dX6_countTwins_4 rfl (lv_at hl 2 rfl) ?_
      refine lv_aload_n X.1 X.2.1 dX6_countTwins_5 rfl (lv_at hl 0 rfl) ?_
      refine r_get (C := RX6) (T := TX6) (N := 4) (ci := 6) (v := .ref (a1 0)) X iw6 hP 0 rfl rfl 0 rfl mw_2_79 rfl dX6_countTwins_6 ?_
      refine r_get (C := RX9) (T := TX9) (N := 20) (ci := 9) (v := .int (g1 0 0)) X iw9 hP 4 rfl rfl 0 rfl mw_1_105 rfl dX6_countTwins_9 ?_
      refine lv_icmp_ge (tgt := 58) X.1 X.2.1 dX6_countTwins_12 (by decide) (fun hc => ?_) (fun hc => ?_)
      · have h := it_t hc h
        exact K x1 (Option.some.inj h) H locs ls hP hS (lv_sub hl [1] rfl)
      · have h := it_f hc h
        refine lv_iload_n X.1 X.2.1 dX6_countTwins_15 rfl (lv_at hl 2 rfl) ?_
        refine lv_iconst (v := 1) X.1 X.2.1 dX6_countTwins_16 (by decide) ?_
        refine lv_iadd X.1 X.2.1 dX6_countTwins_17 ?_
        obtain ⟨x3_1, ex3_1, h⟩ := nm_el h
        refine tp_i ex3_1 ?_
        refine lv_istore_n (lv' := [(3, .int x3_1), (0, .ref (a0 0)), (1, .int x1), (2, .int x2)]) X.1 X.2.1 dX6_countTwins_18 rfl hl (by decide) rfl (fun ls hl => ?_)
        obtain ⟨ex_6, hL_6, h⟩ := bd_el h
        refine HL19 x2 fu x1 x3_1 ex_6 hL_6 H locs ls hP hS (lv_sub hl [1, 2, 3, 0] rfl) (fun x1_6 he H locs ls hP hS hl => ?_)
        subst he
        obtain ⟨x2_7, ex2_7, h⟩ := nm_el h
        refine lv_iinc (v := x2_7) (lv' := [(2, .int x2_7), (0, .ref (a0 0)), (1, .int x1_6)]) X.1 X.2.1 dX6_countTwins_52 hl (k := 2) rfl (by rw [ex2_7]; rfl) (by decide) rfl (fun ls hl => ?_)
        refine lv_goto (tgt := 4) X.1 X.2.1 dX6_countTwins_55 (by decide) ?_
        exact ih x1_6 x2_7 ex h H locs ls hP hS (lv_sub hl [1, 2, 0] rfl) K
  unfold f_X6_countTwins at h
  refine lv_iconst (v := 0) X.1 X.2.1 dX6_countTwins_0 (by decide) ?_
  refine lv_istore_n (lv' := [(1, .int 0), (0, .ref (a0 0))]) X.1 X.2.1 dX6_countTwins_1 rfl hl (by decide) rfl (fun ls hl => ?_)
  refine lv_iconst (v := 0) X.1 X.2.1 dX6_countTwins_2 (by decide) ?_
  refine lv_istore_n (lv' := [(2, .int 0), (1, .int 0), (0, .ref (a0 0))]) X.1 X.2.1 dX6_countTwins_3 rfl hl (by decide) rfl (fun ls hl => ?_)
  obtain ⟨ex_8, hL_8, h⟩ := bd_el h
  refine HL4  fu 0 0 ex_8 hL_8 H locs ls hP hS (lv_sub hl [2, 1, 0] rfl) (fun x1_8 he H locs ls hP hS hl => ?_)
  subst he
  refine lv_iload_n X.1 X.2.1 dX6_countTwins_58 rfl (lv_at hl 0 rfl) ?_
  exact ret_i0 (Option.some.inj h) X hQ hP hS dX6_countTwins_59

def f_X6_codesTogether (g0 : Pic) (g1 : Pic) : Option (Int32 × Pic) := (if 2 ≤ (g1 0 0) then bd (f_X6_findCosts g0 g1) (fun g0_1 => some ((g0_1 3 128), g0_1)) else some (0, g0))
abbrev rm_X6_codesTogether : Room := { frames := 2, cells := 0, slots := 0, locals := 64 }
set_option maxHeartbeats 4000000 in
set_option maxRecDepth 100000 in
theorem c_X6_codesTogether (l : Launch) (dC : Nat → ClassId) (dI : Nat → Nat → Nat) (sk sv : Nat → Nat) (tc : Nat → ClassId) (a0 : Nat → Nat) (a1 : Nat → Nat) (q1_18 : Option Nat) (q1_19 : Nat) (g0 : Pic) (g1 : Pic) {r0 : Int32} {G0 : Pic} (h : f_X6_codesTogether g0 g1 = some (r0, G0)) : CT l (dC, dI) sk sv (TY tc) yX6_codesTogether cX6_codesTogether 1 (some .int) rm_X6_codesTogether [.ref (a0 0)] (wLx tc a0 g0 (a1 0) ++ (wSt tc a1 g1 q1_18 q1_19)) (some (.int r0)) (wLx tc a0 G0 (a1 0) ++ (wSt tc a1 g1 q1_18 q1_19)) := by
  refine ofCT (by decide) (Nat.le_of_ble_eq_true rfl) ?_
  intro pr e s m args below meth c A Q ls H locs X hQ hD0 hP hS hl
  have hD : ∀ z0 z1, va_D A (wLx tc a0 z0 (a1 0) ++ (wSt tc a1 z1 q1_18 q1_19)) := fun z0 z1 => D_fst (ws := (wLx tc a0 g0 (a1 0) ++ (wSt tc a1 g1 q1_18 q1_19))) rfl hD0
  have hl : lv_has ls 1 [(0, .ref (a0 0))] := hl
  unfold f_X6_codesTogether at h
  refine lv_aload_n X.1 X.2.1 dX6_codesTogether_0 rfl (lv_at hl 0 rfl) ?_
  refine r_get (C := RX6) (T := TX6) (N := 4) (ci := 6) (v := .ref (a1 0)) X iw6 hP 0 rfl rfl 0 rfl mw_2_79 rfl dX6_codesTogether_1 ?_
  refine r_get (C := RX9) (T := TX9) (N := 20) (ci := 9) (v := .int (g1 0 0)) X iw9 hP 4 rfl rfl 0 rfl mw_1_105 rfl dX6_codesTogether_4 ?_
  refine lv_iconst (v := 2) X.1 X.2.1 dX6_codesTogether_7 (by decide) ?_
  refine lv_icmp_ge (tgt := 13) X.1 X.2.1 dX6_codesTogether_8 (by decide) (fun hc => ?_) (fun hc => ?_)
  · have h := it_t hc h
    refine lv_aload_n X.1 X.2.1 dX6_codesTogether_13 rfl (lv_at hl 0 rfl) ?_
    obtain ⟨g0_1, hc_1, h⟩ := bd_el h
    refine call_V1v (As := []) (rest := []) X (c_X6_findCosts l dC dI sk sv tc a0 a1 q1_18 q1_19 g0 g1 hc_1) mw_2_239 mw_3_0 mw_3_1 mw_1_9 mw_3_2 dc_X6_findCosts ⟨Nat.le_of_ble_eq_true rfl, Nat.le_of_ble_eq_true rfl⟩ rfl rfl ⟨Nat.zero_le _, Nat.zero_le _⟩ hP (hD _ _) hS 0 rfl rfl rfl hl.1 (Nat.le_of_ble_eq_true rfl) dX6_codesTogether_14 (fun H locs hP hS => ?_)
    refine lv_aload_n X.1 X.2.1 dX6_codesTogether_17 rfl (lv_at hl 0 rfl) ?_
    refine r_get (C := RX6) (T := TX6) (N := 4) (ci := 6) (v := .ref (a0 4)) X iw6 hP 0 rfl rfl 3 rfl mw_2_82 rfl dX6_codesTogether_18 ?_
    refine lv_sipush (v := 128) X.1 X.2.1 dX6_codesTogether_21 (by decide) ?_
    refine r_iald X hP 3 0 rfl rfl (j := 128) (by unfold vp_in; decide) (by decide) dX6_codesTogether_24 ?_
    exact ret_i (fun u => (wLx tc a0 u (a1 0) ++ (wSt tc a1 g1 q1_18 q1_19))) (res := (r0, G0)) (Option.some.inj h) X hQ hP hS dX6_codesTogether_25
  · have h := it_f hc h
    refine lv_iconst (v := 0) X.1 X.2.1 dX6_codesTogether_11 (by decide) ?_
    exact ret_i (fun u => (wLx tc a0 u (a1 0) ++ (wSt tc a1 g1 q1_18 q1_19))) (res := (r0, G0)) (Option.some.inj h) X hQ hP hS dX6_codesTogether_12

def f_X6_codeLength_L26 (x1 : Int32) (g0 : Pic) (g1 : Pic) (n : Nat) (a : Int32 × Int32 × Int32) : Option ((Int32 × Pic) ⊕ (Int32)) := lp (fun (rec : Int32 × Int32 × Int32 → Option ((Int32 × Pic) ⊕ (Int32))) (a : Int32 × Int32 × Int32) => match a with | (x2, x3, x4) => (if x1 < x4 then some (.inr x3) else bd (f_X6_shortestAt g0 g1 x4 x2) (fun r_2 => nm ((x2 - ((128 : Int32) >>> (r_2 &&& 31)))) (fun x2_3 => (if 0 ≤ x2_3 then nm (x4 + 1) (fun x4_4 => rec (x2_3, r_2, x4_4)) else some (.inl ((-1), g0))))))) n a
def f_X6_codeLength (g0 : Pic) (g1 : Pic) (x1 : Int32) : Option (Int32 × Pic) := (if 2 ≤ (g1 0 0) then bd (f_X6_findCosts g0 g1) (fun g0_1 => lr (f_X6_codeLength_L26 x1 g0_1 g1 fu (128, 0, 0)) (fun a => a) (fun x3_5 => some (x3_5, g0_1))) else some (0, g0))
abbrev rm_X6_codeLength : Room := { frames := 2, cells := 0, slots := 0, locals := 64 }
set_option maxHeartbeats 4000000 in
set_option maxRecDepth 100000 in
theorem c_X6_codeLength (l : Launch) (dC : Nat → ClassId) (dI : Nat → Nat → Nat) (sk sv : Nat → Nat) (tc : Nat → ClassId) (a0 : Nat → Nat) (a1 : Nat → Nat) (q1_18 : Option Nat) (q1_19 : Nat) (g0 : Pic) (g1 : Pic) (x1 : Int32) {r0 : Int32} {G0 : Pic} (h : f_X6_codeLength g0 g1 x1 = some (r0, G0)) : CT l (dC, dI) sk sv (TY tc) yX6_codeLength cX6_codeLength 5 (some .int) rm_X6_codeLength [.ref (a0 0), .int x1] (wLx tc a0 g0 (a1 0) ++ (wSt tc a1 g1 q1_18 q1_19)) (some (.int r0)) (wLx tc a0 G0 (a1 0) ++ (wSt tc a1 g1 q1_18 q1_19)) := by
  refine ofCT (by decide) (Nat.le_of_ble_eq_true rfl) ?_
  intro pr e s m args below meth c A Q ls H locs X hQ hD0 hP hS hl
  have hD : ∀ z0 z1, va_D A (wLx tc a0 z0 (a1 0) ++ (wSt tc a1 z1 q1_18 q1_19)) := fun z0 z1 => D_fst (ws := (wLx tc a0 g0 (a1 0) ++ (wSt tc a1 g1 q1_18 q1_19))) rfl hD0
  have hl : lv_has ls 5 [(0, .ref (a0 0)), (1, .int x1)] := hl
  have HL26 : ∀ (x1 : Int32) (g0 : Pic) (n : Nat) (x2 : Int32) (x3 : Int32) (x4 : Int32) (ex : ((Int32 × Pic) ⊕ (Int32))), f_X6_codeLength_L26 x1 g0 g1 n (x2, x3, x4) = some ex → (∀ rv, ex = .inl rv → rv = (r0, G0)) → ∀ (H : Heap) (locs : List Loc) (ls : Array Slot), va_P (dC, dI) vwCl (wLx tc a0 g0 (a1 0) ++ (wSt tc a1 g1 q1_18 q1_19)) H → va_S A s.heap H locs → lv_has ls 5 [(0, .ref (a0 0)), (1, .int x1), (2, .int x2), (3, .int x3), (4, .int x4)] → (∀ (y3 : Int32), .inr y3 = ex → ∀ (H : Heap) (locs : List Loc) (ls : Array Slot), va_P (dC, dI) vwCl (wLx tc a0 g0 (a1 0) ++ (wSt tc a1 g1 q1_18 q1_19)) H → va_S A s.heap H locs → lv_has ls 5 [(3, .int y3)] → W pr l e rm_X6_codeLength s m args below meth c H locs 0 0 Q (F0 m 60 ls [])) → W pr l e rm_X6_codeLength s m args below meth c H locs 0 0 Q (F0 m 26 ls []) := by
    intro x1 g0 n
    induction n with
    | zero => intro x2 x3 x4 ex h; exact lp_z h
    | succ n ih =>
      intro x2 x3 x4 ex h hR H locs ls hP hS hl K
      have h := lp_s h
      refine lv_iload X.1 X.2.1 dX6_codeLength_26 (lv_at hl 4 rfl) ?_
      refine lv_iload_n X.1 X.2.1 dX6_codeLength_28 rfl (lv_at hl 1 rfl) ?_
      refine lv_icmp_gt (tgt := 60) X.1 X.2.1 dX6_codeLength_29 (by decide) (fun hc => ?_) (fun hc => ?_)
      · have h := it_t hc h
        exact K x3 (Option.some.inj h) H locs ls hP hS (lv_sub hl [3] rfl)
      · have h := it_f hc h
        refine lv_aload_n X.1 X.2.1 dX6_codeLength_32 rfl (lv_at hl 0 rfl) ?_
        refine lv_iload X.1 X.2.1 dX6_codeLength_33 (lv_at hl 4 rfl) ?_
        refine lv_iload_n X.1 X.2.1 dX6_codeLength_35 rfl (lv_at hl 2 rfl) ?_
        obtain ⟨r_2, hc_2, h⟩ := bd_el h
        refine call_V1i (As := [.int x4, .int x2]) (rest := []) X (c_X6_shortestAt l dC dI sk sv tc a0 a1 q1_18 q1_19 g0 g1 x4 x2 hc_2) mw_4_234 mw_4_235 mw_4_236 mw_1_9 mw_4_237 dc_X6_shortestAt ⟨Nat.le_of_ble_eq_true rfl, Nat.le_of_ble_eq_true rfl⟩ rfl rfl ⟨Nat.zero_le _, Nat.zero_le _⟩ hP (hD _ _) hS 0 rfl rfl rfl hl.1 (Nat.le_of_ble_eq_true rfl) dX6_codeLength_36 (fun H locs hP hS => ?_)
        refine lv_istore_n (lv' := [(3, .int r_2), (0, .ref (a0 0)), (1, .int x1), (2, .int x2), (4, .int x4)]) X.1 X.2.1 dX6_codeLength_39 rfl hl (by decide) rfl (fun ls hl => ?_)
        refine lv_iload_n X.1 X.2.1 dX6_codeLength_40 rfl (lv_at hl 3 rfl) ?_
        refine lv_sipush (v := 128) X.1 X.2.1 dX6_codeLength_41 (by decide) ?_
        refine lv_iload_n X.1 X.2.1 dX6_codeLength_44 rfl (lv_at hl 0 rfl) ?_
        refine lv_ishr X.1 X.2.1 dX6_codeLength_45 ?_
        refine lv_isub X.1 X.2.1 dX6_codeLength_46 ?_
        obtain ⟨x2_3, ex2_3, h⟩ := nm_el h
        refine tp_i ex2_3 ?_
        refine lv_istore_n (lv' := [(2, .int x2_3), (3, .int r_2), (0, .ref (a0 0)), (1, .int x1), (4, .int x4)]) X.1 X.2.1 dX6_codeLength_47 rfl hl (by decide) rfl (fun ls hl => ?_)
        refine lv_iload_n X.1 X.2.1 dX6_codeLength_48 rfl (lv_at hl 0 rfl) ?_
        refine lv_if_ge (tgt := 54) X.1 X.2.1 dX6_codeLength_49 (by decide) (fun hc => ?_) (fun hc => ?_)
        · have h := it_t hc h
          obtain ⟨x4_4, ex4_4, h⟩ := nm_el h
          refine lv_iinc (v := x4_4) (lv' := [(4, .int x4_4), (2, .int x2_3), (3, .int r_2), (0, .ref (a0 0)), (1, .int x1)]) X.1 X.2.1 dX6_codeLength_54 hl (k := 4) rfl (by rw [ex4_4]; rfl) (by decide) rfl (fun ls hl => ?_)
          refine lv_goto (tgt := 26) X.1 X.2.1 dX6_codeLength_57 (by decide) ?_
          exact ih x2_3 r_2 x4_4 ex h hR H locs ls hP hS (lv_sub hl [3, 4, 1, 2, 0] rfl) K
        · have h := it_f hc h
          refine lv_iconst (v := (-1)) X.1 X.2.1 dX6_codeLength_52 (by decide) ?_
          exact ret_i (fun u => (wLx tc a0 u (a1 0) ++ (wSt tc a1 g1 q1_18 q1_19))) (res := (r0, G0)) (hR _ (Option.some.inj h).symm) X hQ hP hS dX6_codeLength_53
  unfold f_X6_codeLength at h
  refine lv_aload_n X.1 X.2.1 dX6_codeLength_0 rfl (lv_at hl 0 rfl) ?_
  refine r_get (C := RX6) (T := TX6) (N := 4) (ci := 6) (v := .ref (a1 0)) X iw6 hP 0 rfl rfl 0 rfl mw_2_79 rfl dX6_codeLength_1 ?_
  refine r_get (C := RX9) (T := TX9) (N := 20) (ci := 9) (v := .int (g1 0 0)) X iw9 hP 4 rfl rfl 0 rfl mw_1_105 rfl dX6_codeLength_4 ?_
  refine lv_iconst (v := 2) X.1 X.2.1 dX6_codeLength_7 (by decide) ?_
  refine lv_icmp_ge (tgt := 13) X.1 X.2.1 dX6_codeLength_8 (by decide) (fun hc => ?_) (fun hc => ?_)
  · have h := it_t hc h
    refine lv_aload_n X.1 X.2.1 dX6_codeLength_13 rfl (lv_at hl 0 rfl) ?_
    obtain ⟨g0_1, hc_1, h⟩ := bd_el h
    refine call_V1v (As := []) (rest := []) X (c_X6_findCosts l dC dI sk sv tc a0 a1 q1_18 q1_19 g0 g1 hc_1) mw_2_239 mw_3_0 mw_3_1 mw_1_9 mw_3_2 dc_X6_findCosts ⟨Nat.le_of_ble_eq_true rfl, Nat.le_of_ble_eq_true rfl⟩ rfl rfl ⟨Nat.zero_le _, Nat.zero_le _⟩ hP (hD _ _) hS 0 rfl rfl rfl hl.1 (Nat.le_of_ble_eq_true rfl) dX6_codeLength_14 (fun H locs hP hS => ?_)
    refine lv_sipush (v := 128) X.1 X.2.1 dX6_codeLength_17 (by decide) ?_
    refine lv_istore_n (lv' := [(2, .int 128), (0, .ref (a0 0)), (1, .int x1)]) X.1 X.2.1 dX6_codeLength_20 rfl hl (by decide) rfl (fun ls hl => ?_)
    refine lv_iconst (v := 0) X.1 X.2.1 dX6_codeLength_21 (by decide) ?_
    refine lv_istore_n (lv' := [(3, .int 0), (2, .int 128), (0, .ref (a0 0)), (1, .int x1)]) X.1 X.2.1 dX6_codeLength_22 rfl hl (by decide) rfl (fun ls hl => ?_)
    refine lv_iconst (v := 0) X.1 X.2.1 dX6_codeLength_23 (by decide) ?_
    refine lv_istore (lv' := [(4, .int 0), (3, .int 0), (2, .int 128), (0, .ref (a0 0)), (1, .int x1)]) X.1 X.2.1 dX6_codeLength_24 hl (by decide) rfl (fun ls hl => ?_)
    obtain ⟨ex_5, hL_5, h1_5, h2_5⟩ := lr_el h
    refine HL26 x1 g0_1 fu 128 0 0 ex_5 hL_5 (fun rv hq => h1_5 rv hq) H locs ls hP hS (lv_sub hl [3, 4, 2, 1, 0] rfl) (fun x3_5 he H locs ls hP hS hl => ?_)
    have h := h2_5 _ he.symm
    refine lv_iload_n X.1 X.2.1 dX6_codeLength_60 rfl (lv_at hl 0 rfl) ?_
    exact ret_i (fun u => (wLx tc a0 u (a1 0) ++ (wSt tc a1 g1 q1_18 q1_19))) (res := (r0, G0)) (Option.some.inj h) X hQ hP hS dX6_codeLength_61
  · have h := it_f hc h
    refine lv_iconst (v := 0) X.1 X.2.1 dX6_codeLength_11 (by decide) ?_
    exact ret_i (fun u => (wLx tc a0 u (a1 0) ++ (wSt tc a1 g1 q1_18 q1_19))) (res := (r0, G0)) (Option.some.inj h) X hQ hP hS dX6_codeLength_12

def f_X1_firstOf (g0 : Pic) (g1 : Pic) (g2 : Pic) (x1 : Int32) : Option (Int32) := gdi (2 * x1) 400 (some (g1 0 ((2 * x1).toNatClampNeg)))
abbrev rm_X1_firstOf : Room := { frames := 0, cells := 0, slots := 0, locals := 0 }
set_option maxHeartbeats 4000000 in
set_option maxRecDepth 100000 in
theorem c_X1_firstOf (l : Launch) (dC : Nat → ClassId) (dI : Nat → Nat → Nat) (sk sv : Nat → Nat) (tc : Nat → ClassId) (a0 : Nat → Nat) (a1 : Nat → Nat) (a2 : Nat → Nat) (q2_18 : Option Nat) (q2_19 : Nat) (g0 : Pic) (g1 : Pic) (g2 : Pic) (x1 : Int32) {r0 : Int32} (h : f_X1_firstOf g0 g1 g2 x1 = some r0) : CT l (dC, dI) sk sv (TY tc) yX1_firstOf cX1_firstOf 2 (some .int) rm_X1_firstOf [.ref (a0 0), .int x1] (wCl tc a0 g0 (a1 0) (a2 0) ++ (wTp tc a1 g1 ++ (wSt tc a2 g2 q2_18 q2_19))) (some (.int r0)) (wCl tc a0 g0 (a1 0) (a2 0) ++ (wTp tc a1 g1 ++ (wSt tc a2 g2 q2_18 q2_19))) := by
  refine ofCT (by decide) (Nat.le_of_ble_eq_true rfl) ?_
  intro pr e s m args below meth c A Q ls H locs X hQ hD0 hP hS hl
  have hD : ∀ z0 z1 z2, va_D A (wCl tc a0 z0 (a1 0) (a2 0) ++ (wTp tc a1 z1 ++ (wSt tc a2 z2 q2_18 q2_19))) := fun z0 z1 z2 => D_fst (ws := (wCl tc a0 g0 (a1 0) (a2 0) ++ (wTp tc a1 g1 ++ (wSt tc a2 g2 q2_18 q2_19)))) rfl hD0
  have hl : lv_has ls 2 [(0, .ref (a0 0)), (1, .int x1)] := hl
  unfold f_X1_firstOf at h
  refine lv_aload_n X.1 X.2.1 dX1_firstOf_0 rfl (lv_at hl 0 rfl) ?_
  refine r_get (C := RX1) (T := TX1) (N := 6) (ci := 1) (v := .ref (a1 0)) X iw1 hP 0 rfl rfl 0 rfl mw_2_98 rfl dX1_firstOf_1 ?_
  refine r_get (C := RX10) (T := TX10) (N := 8) (ci := 10) (v := .ref (a1 1)) X iw10 hP 3 rfl rfl 0 rfl mw_1_45 rfl dX1_firstOf_4 ?_
  refine lv_iconst (v := 2) X.1 X.2.1 dX1_firstOf_7 (by decide) ?_
  refine lv_iload_n X.1 X.2.1 dX1_firstOf_8 rfl (lv_at hl 1 rfl) ?_
  refine lv_imul X.1 X.2.1 dX1_firstOf_9 ?_
  obtain ⟨hg_1, h⟩ := gdi_el h
  refine r_iald X hP 4 0 rfl rfl hg_1 rfl dX1_firstOf_10 ?_
  exact ret_i0 (Option.some.inj h) X hQ hP hS dX1_firstOf_11

def f_X1_secondOf (g0 : Pic) (g1 : Pic) (g2 : Pic) (x1 : Int32) : Option (Int32) := gdi ((2 * x1) + 1) 400 (some (g1 0 (((2 * x1) + 1).toNatClampNeg)))
abbrev rm_X1_secondOf : Room := { frames := 0, cells := 0, slots := 0, locals := 0 }
set_option maxHeartbeats 4000000 in
set_option maxRecDepth 100000 in
theorem c_X1_secondOf (l : Launch) (dC : Nat → ClassId) (dI : Nat → Nat → Nat) (sk sv : Nat → Nat) (tc : Nat → ClassId) (a0 : Nat → Nat) (a1 : Nat → Nat) (a2 : Nat → Nat) (q2_18 : Option Nat) (q2_19 : Nat) (g0 : Pic) (g1 : Pic) (g2 : Pic) (x1 : Int32) {r0 : Int32} (h : f_X1_secondOf g0 g1 g2 x1 = some r0) : CT l (dC, dI) sk sv (TY tc) yX1_secondOf cX1_secondOf 2 (some .int) rm_X1_secondOf [.ref (a0 0), .int x1] (wCl tc a0 g0 (a1 0) (a2 0) ++ (wTp tc a1 g1 ++ (wSt tc a2 g2 q2_18 q2_19))) (some (.int r0)) (wCl tc a0 g0 (a1 0) (a2 0) ++ (wTp tc a1 g1 ++ (wSt tc a2 g2 q2_18 q2_19))) := by
  refine ofCT (by decide) (Nat.le_of_ble_eq_true rfl) ?_
  intro pr e s m args below meth c A Q ls H locs X hQ hD0 hP hS hl
  have hD : ∀ z0 z1 z2, va_D A (wCl tc a0 z0 (a1 0) (a2 0) ++ (wTp tc a1 z1 ++ (wSt tc a2 z2 q2_18 q2_19))) := fun z0 z1 z2 => D_fst (ws := (wCl tc a0 g0 (a1 0) (a2 0) ++ (wTp tc a1 g1 ++ (wSt tc a2 g2 q2_18 q2_19)))) rfl hD0
  have hl : lv_has ls 2 [(0, .ref (a0 0)), (1, .int x1)] := hl
  unfold f_X1_secondOf at h
  refine lv_aload_n X.1 X.2.1 dX1_secondOf_0 rfl (lv_at hl 0 rfl) ?_
  refine r_get (C := RX1) (T := TX1) (N := 6) (ci := 1) (v := .ref (a1 0)) X iw1 hP 0 rfl rfl 0 rfl mw_2_98 rfl dX1_secondOf_1 ?_
  refine r_get (C := RX10) (T := TX10) (N := 8) (ci := 10) (v := .ref (a1 1)) X iw10 hP 3 rfl rfl 0 rfl mw_1_45 rfl dX1_secondOf_4 ?_
  refine lv_iconst (v := 2) X.1 X.2.1 dX1_secondOf_7 (by decide) ?_
  refine lv_iload_n X.1 X.2.1 dX1_secondOf_8 rfl (lv_at hl 1 rfl) ?_
  refine lv_imul X.1 X.2.1 dX1_secondOf_9 ?_
  refine lv_iconst (v := 1) X.1 X.2.1 dX1_secondOf_10 (by decide) ?_
  refine lv_iadd X.1 X.2.1 dX1_secondOf_11 ?_
  obtain ⟨hg_1, h⟩ := gdi_el h
  refine r_iald X hP 4 0 rfl rfl hg_1 rfl dX1_secondOf_12 ?_
  exact ret_i0 (Option.some.inj h) X hQ hP hS dX1_secondOf_13

def f_X1_wrongRows_L4 (x1 : Int32) (g0 : Pic) (g1 : Pic) (g2 : Pic) (n : Nat) (a : Int32 × Int32) : Option (Int32) := lp (fun (rec : Int32 × Int32 → Option (Int32)) (a : Int32 × Int32) => match a with | (x2, x3) => (if (g0 5 0) ≤ x3 then some x2 else bd (f_X1_firstOf g0 g1 g2 x3) (fun r_1 => bd (f_X9_letterAt g2 x1 r_1) (fun r_2 => bd (f_X1_secondOf g0 g1 g2 x3) (fun r_3 => jn (fun (x2_J36 : Int32) => nm (x3 + 1) (fun x3_4 => rec (x2_J36, x3_4))) (fun J36 => (if r_2 = r_3 then J36 x2 else nm (x2 + 1) (fun x2_5 => J36 x2_5)))))))) n a
def f_X1_wrongRows (g0 : Pic) (g1 : Pic) (g2 : Pic) (x1 : Int32) : Option (Int32) := bd (f_X1_wrongRows_L4 x1 g0 g1 g2 fu (0, 0)) (fun x2_6 => some x2_6)
abbrev rm_X1_wrongRows : Room := { frames := 1, cells := 0, slots := 0, locals := 22 }
set_option maxHeartbeats 4000000 in
set_option maxRecDepth 100000 in
theorem c_X1_wrongRows (l : Launch) (dC : Nat → ClassId) (dI : Nat → Nat → Nat) (sk sv : Nat → Nat) (tc : Nat → ClassId) (a0 : Nat → Nat) (a1 : Nat → Nat) (a2 : Nat → Nat) (q2_18 : Option Nat) (q2_19 : Nat) (g0 : Pic) (g1 : Pic) (g2 : Pic) (x1 : Int32) {r0 : Int32} (h : f_X1_wrongRows g0 g1 g2 x1 = some r0) : CT l (dC, dI) sk sv (TY tc) yX1_wrongRows cX1_wrongRows 4 (some .int) rm_X1_wrongRows [.ref (a0 0), .int x1] (wCl tc a0 g0 (a1 0) (a2 0) ++ (wTp tc a1 g1 ++ (wSt tc a2 g2 q2_18 q2_19))) (some (.int r0)) (wCl tc a0 g0 (a1 0) (a2 0) ++ (wTp tc a1 g1 ++ (wSt tc a2 g2 q2_18 q2_19))) := by
  refine ofCT (by decide) (Nat.le_of_ble_eq_true rfl) ?_
  intro pr e s m args below meth c A Q ls H locs X hQ hD0 hP hS hl
  have hD : ∀ z0 z1 z2, va_D A (wCl tc a0 z0 (a1 0) (a2 0) ++ (wTp tc a1 z1 ++ (wSt tc a2 z2 q2_18 q2_19))) := fun z0 z1 z2 => D_fst (ws := (wCl tc a0 g0 (a1 0) (a2 0) ++ (wTp tc a1 g1 ++ (wSt tc a2 g2 q2_18 q2_19)))) rfl hD0
  have hl : lv_has ls 4 [(0, .ref (a0 0)), (1, .int x1)] := hl
  have HL4 : ∀ (x1 : Int32) (n : Nat) (x2 : Int32) (x3 : Int32) (ex : (Int32)), f_X1_wrongRows_L4 x1 g0 g1 g2 n (x2, x3) = some ex → ∀ (H : Heap) (locs : List Loc) (ls : Array Slot), va_P (dC, dI) vwCl (wCl tc a0 g0 (a1 0) (a2 0) ++ (wTp tc a1 g1 ++ (wSt tc a2 g2 q2_18 q2_19))) H → va_S A s.heap H locs → lv_has ls 4 [(0, .ref (a0 0)), (1, .int x1), (2, .int x2), (3, .int x3)] → (∀ (y2 : Int32), y2 = ex → ∀ (H : Heap) (locs : List Loc) (ls : Array Slot), va_P (dC, dI) vwCl (wCl tc a0 g0 (a1 0) (a2 0) ++ (wTp tc a1 g1 ++ (wSt tc a2 g2 q2_18 q2_19))) H → va_S A s.heap H locs → lv_has ls 4 [(2, .int y2)] → W pr l e rm_X1_wrongRows s m args below meth c H locs 0 0 Q (F0 m 42 ls [])) → W pr l e rm_X1_wrongRows s m args below meth c H locs 0 0 Q (F0 m 4 ls []) := by
    intro x1 n
    induction n with
    | zero => intro x2 x3 ex h; exact lp_z h
    | succ n ih =>
      intro x2 x3 ex h H locs ls hP hS hl K
      have h := lp_s h
      refine lv_iload_n X.1 X.2.1 dX1_wrongRows_4 rfl (lv_at hl 3 rfl) ?_
      refine lv_aload_n X.1 X.2.1 dX1_wrongRows_5 rfl (lv_at hl 0 rfl) ?_
      refine r_get (C := RX1) (T := TX1) (N := 6) (ci := 1) (v := .int (g0 5 0)) X iw1 hP 0 rfl rfl 5 rfl mw_2_103 rfl dX1_wrongRows_6 ?_
      refine lv_icmp_ge (tgt := 42) X.1 X.2.1 dX1_wrongRows_9 (by decide) (fun hc => ?_) (fun hc => ?_)
      · have h := it_t hc h
        exact K x2 (Option.some.inj h) H locs ls hP hS (lv_sub hl [2] rfl)
      · have h := it_f hc h
        refine lv_aload_n X.1 X.2.1 dX1_wrongRows_12 rfl (lv_at hl 0 rfl) ?_
        refine r_get (C := RX1) (T := TX1) (N := 6) (ci := 1) (v := .ref (a2 0)) X iw1 hP 0 rfl rfl 1 rfl mw_2_99 rfl dX1_wrongRows_13 ?_
        refine lv_iload_n X.1 X.2.1 dX1_wrongRows_16 rfl (lv_at hl 1 rfl) ?_
        refine lv_aload_n X.1 X.2.1 dX1_wrongRows_17 rfl (lv_at hl 0 rfl) ?_
        refine lv_iload_n X.1 X.2.1 dX1_wrongRows_18 rfl (lv_at hl 3 rfl) ?_
        obtain ⟨r_1, hc_1, h⟩ := bd_el h
        refine call_V1i (As := [.int x3]) (rest := [.int x1, .ref (a2 0)]) X (c_X1_firstOf l dC dI sk sv tc a0 a1 a2 q2_18 q2_19 g0 g1 g2 x3 hc_1) mw_6_91 mw_6_92 mw_6_93 mw_1_10 mw_6_94 dc_X1_firstOf ⟨Nat.le_of_ble_eq_true rfl, Nat.le_of_ble_eq_true rfl⟩ rfl rfl ⟨Nat.zero_le _, Nat.zero_le _⟩ hP (hD _ _ _) hS 0 rfl rfl rfl hl.1 (Nat.le_of_ble_eq_true rfl) dX1_wrongRows_19 (fun H locs hP hS => ?_)
        obtain ⟨r_2, hc_2, h⟩ := bd_el h
        refine call_Vsi (ws := (wCl tc a0 g0 (a1 0) (a2 0) ++ (wTp tc a1 g1 ++ (wSt tc a2 g2 q2_18 q2_19)))) (ws' := (wCl tc a0 g0 (a1 0) (a2 0) ++ (wTp tc a1 g1 ++ (wSt tc a2 g2 q2_18 q2_19)))) (wCl tc a0 g0 (a1 0) (a2 0) ++ (wTp tc a1 g1)) [] (As := [.int x1, .int r_1]) (rest := []) X (c_X9_letterAt l dC dI sk sv tc a2 q2_18 q2_19 g2 x1 r_1 hc_2) mw_6_112 mw_3_68 mw_3_69 mw_1_3 mw_3_70 dc_X9_letterAt ⟨Nat.le_of_ble_eq_true rfl, Nat.le_of_ble_eq_true rfl⟩ rfl rfl ⟨Nat.zero_le _, Nat.zero_le _⟩ (by simp only [List.append_assoc, List.nil_append, List.append_nil]) (by simp only [List.append_assoc, List.nil_append, List.append_nil]) hP (hD _ _ _) hS 0 rfl rfl rfl hl.1 (Nat.le_of_ble_eq_true rfl) dX1_wrongRows_22 (fun H locs hP hS => ?_)
        refine lv_aload_n X.1 X.2.1 dX1_wrongRows_25 rfl (lv_at hl 0 rfl) ?_
        refine lv_iload_n X.1 X.2.1 dX1_wrongRows_26 rfl (lv_at hl 3 rfl) ?_
        obtain ⟨r_3, hc_3, h⟩ := bd_el h
        refine call_V1i (As := [.int x3]) (rest := [.int r_2]) X (c_X1_secondOf l dC dI sk sv tc a0 a1 a2 q2_18 q2_19 g0 g1 g2 x3 hc_3) mw_6_95 mw_6_96 mw_6_97 mw_1_10 mw_6_98 dc_X1_secondOf ⟨Nat.le_of_ble_eq_true rfl, Nat.le_of_ble_eq_true rfl⟩ rfl rfl ⟨Nat.zero_le _, Nat.zero_le _⟩ hP (hD _ _ _) hS 0 rfl rfl rfl hl.1 (Nat.le_of_ble_eq_true rfl) dX1_wrongRows_27 (fun H locs hP hS => ?_)
        obtain ⟨J36, eJ36, h⟩ := jn_el h
        have HJ36 : ∀ (x2_J36 : Int32) (H : Heap) (locs : List Loc) (ls : Array Slot), J36 x2_J36 = some ex → va_P (dC, dI) vwCl (wCl tc a0 g0 (a1 0) (a2 0) ++ (wTp tc a1 g1 ++ (wSt tc a2 g2 q2_18 q2_19))) H → va_S A s.heap H locs → lv_has ls 4 [(0, .ref (a0 0)), (1, .int x1), (2, .int x2_J36), (3, .int x3)] → W pr l e rm_X1_wrongRows s m args below meth c H locs 0 0 Q (F0 m 36 ls []) := by
          intro x2_J36 H locs ls h hP hS hl
          rw [eJ36] at h
          obtain ⟨x3_4, ex3_4, h⟩ := nm_el h
          refine lv_iinc (v := x3_4) (lv' := [(3, .int x3_4), (0, .ref (a0 0)), (1, .int x1), (2, .int x2_J36)]) X.1 X.2.1 dX1_wrongRows_36 hl (k := 3) rfl (by rw [ex3_4]; rfl) (by decide) rfl (fun ls hl => ?_)
          refine lv_goto (tgt := 4) X.1 X.2.1 dX1_wrongRows_39 (by decide) ?_
          exact ih x2_J36 x3_4 ex h H locs ls hP hS (lv_sub hl [1, 2, 3, 0] rfl) K
        refine lv_icmp_eq (tgt := 36) X.1 X.2.1 dX1_wrongRows_30 (by decide) (fun hc => ?_) (fun hc => ?_)
        · have h := it_t hc h
          exact HJ36 x2 H locs ls h hP hS (lv_sub hl [0, 1, 2, 3] rfl)
        · have h := it_f hc h
          obtain ⟨x2_5, ex2_5, h⟩ := nm_el h
          refine lv_iinc (v := x2_5) (lv' := [(2, .int x2_5), (0, .ref (a0 0)), (1, .int x1), (3, .int x3)]) X.1 X.2.1 dX1_wrongRows_33 hl (k := 2) rfl (by rw [ex2_5]; rfl) (by decide) rfl (fun ls hl => ?_)
          exact HJ36 x2_5 H locs ls h hP hS (lv_sub hl [1, 2, 0, 3] rfl)
  unfold f_X1_wrongRows at h
  refine lv_iconst (v := 0) X.1 X.2.1 dX1_wrongRows_0 (by decide) ?_
  refine lv_istore_n (lv' := [(2, .int 0), (0, .ref (a0 0)), (1, .int x1)]) X.1 X.2.1 dX1_wrongRows_1 rfl hl (by decide) rfl (fun ls hl => ?_)
  refine lv_iconst (v := 0) X.1 X.2.1 dX1_wrongRows_2 (by decide) ?_
  refine lv_istore_n (lv' := [(3, .int 0), (2, .int 0), (0, .ref (a0 0)), (1, .int x1)]) X.1 X.2.1 dX1_wrongRows_3 rfl hl (by decide) rfl (fun ls hl => ?_)
  obtain ⟨ex_6, hL_6, h⟩ := bd_el h
  refine HL4 x1 fu 0 0 ex_6 hL_6 H locs ls hP hS (lv_sub hl [2, 3, 1, 0] rfl) (fun x2_6 he H locs ls hP hS hl => ?_)
  subst he
  refine lv_iload_n X.1 X.2.1 dX1_wrongRows_42 rfl (lv_at hl 0 rfl) ?_
  exact ret_i0 (Option.some.inj h) X hQ hP hS dX1_wrongRows_43

def f_X1_fittingWords_L4 (g0 : Pic) (g1 : Pic) (g2 : Pic) (n : Nat) (a : Int32 × Int32) : Option (Int32) := lp (fun (rec : Int32 × Int32 → Option (Int32)) (a : Int32 × Int32) => match a with | (x1, x2) => (if (g2 0 0) ≤ x2 then some x1 else bd (f_X1_wrongRows g0 g1 g2 x2) (fun r_1 => jn (fun (x1_J30 : Int32) => nm (x2 + 1) (fun x2_2 => rec (x1_J30, x2_2))) (fun J30 => (if 1 < r_1 then J30 x1 else nm ((x1 ||| ((1 : Int32) <<< (x2 &&& 31)))) (fun x1_3 => J30 x1_3)))))) n a
def f_X1_fittingWords (g0 : Pic) (g1 : Pic) (g2 : Pic) : Option (Int32) := bd (f_X1_fittingWords_L4 g0 g1 g2 fu (0, 0)) (fun x1_4 => some x1_4)
abbrev rm_X1_fittingWords : Room := { frames := 2, cells := 0, slots := 0, locals := 45 }
set_option maxHeartbeats 4000000 in
set_option maxRecDepth 100000 in
theorem c_X1_fittingWords (l : Launch) (dC : Nat → ClassId) (dI : Nat → Nat → Nat) (sk sv : Nat → Nat) (tc : Nat → ClassId) (a0 : Nat → Nat) (a1 : Nat → Nat) (a2 : Nat → Nat) (q2_18 : Option Nat) (q2_19 : Nat) (g0 : Pic) (g1 : Pic) (g2 : Pic) {r0 : Int32} (h : f_X1_fittingWords g0 g1 g2 = some r0) : CT l (dC, dI) sk sv (TY tc) yX1_fittingWords cX1_fittingWords 3 (some .int) rm_X1_fittingWords [.ref (a0 0)] (wCl tc a0 g0 (a1 0) (a2 0) ++ (wTp tc a1 g1 ++ (wSt tc a2 g2 q2_18 q2_19))) (some (.int r0)) (wCl tc a0 g0 (a1 0) (a2 0) ++ (wTp tc a1 g1 ++ (wSt tc a2 g2 q2_18 q2_19))) := by
  refine ofCT (by decide) (Nat.le_of_ble_eq_true rfl) ?_
  intro pr e s m args below meth c A Q ls H locs X hQ hD0 hP hS hl
  have hD : ∀ z0 z1 z2, va_D A (wCl tc a0 z0 (a1 0) (a2 0) ++ (wTp tc a1 z1 ++ (wSt tc a2 z2 q2_18 q2_19))) := fun z0 z1 z2 => D_fst (ws := (wCl tc a0 g0 (a1 0) (a2 0) ++ (wTp tc a1 g1 ++ (wSt tc a2 g2 q2_18 q2_19)))) rfl hD0
  have hl : lv_has ls 3 [(0, .ref (a0 0))] := hl
  have HL4 : ∀ (n : Nat) (x1 : Int32) (x2 : Int32) (ex : (Int32)), f_X1_fittingWords_L4 g0 g1 g2 n (x1, x2) = some ex → ∀ (H : Heap) (locs : List Loc) (ls : Array Slot), va_P (dC, dI) vwCl (wCl tc a0 g0 (a1 0) (a2 0) ++ (wTp tc a1 g1 ++ (wSt tc a2 g2 q2_18 q2_19))) H → va_S A s.heap H locs → lv_has ls 3 [(0, .ref (a0 0)), (1, .int x1), (2, .int x2)] → (∀ (y1 : Int32), y1 = ex → ∀ (H : Heap) (locs : List Loc) (ls : Array Slot), va_P (dC, dI) vwCl (wCl tc a0 g0 (a1 0) (a2 0) ++ (wTp tc a1 g1 ++ (wSt tc a2 g2 q2_18 q2_19))) H → va_S A s.heap H locs → lv_has ls 3 [(1, .int y1)] → W pr l e rm_X1_fittingWords s m args below meth c H locs 0 0 Q (F0 m 36 ls [])) → W pr l e rm_X1_fittingWords s m args below meth c H locs 0 0 Q (F0 m 4 ls []) := by
    intro n
    induction n with
    | zero => intro x1 x2 ex h; exact lp_z h
    | succ n ih =>
      intro x1 x2 ex h H locs ls hP hS hl K
      have h := lp_s h
      refine lv_iload_n X.1 X.2.1 dX1_fittingWords_4 rfl (lv_at hl 2 rfl) ?_
      refine lv_aload_n X.1 X.2.1 dX1_fittingWords_5 rfl (lv_at hl 0 rfl) ?_
      refine r_get (C := RX1) (T := TX1) (N := 6) (ci := 1) (v := .ref (a2 0)) X iw1 hP 0 rfl rfl 1 rfl mw_2_99 rfl dX1_fittingWords_6 ?_
      refine r_get (C := RX9) (T := TX9) (N := 20) (ci := 9) (v := .int (g2 0 0)) X iw9 hP 5 rfl rfl 0 rfl mw_1_104 rfl dX1_fittingWords_9 ?_
      refine lv_icmp_ge (tgt := 36) X.1 X.2.1 dX1_fittingWords_12 (by decide) (fun hc => ?_) (fun hc => ?_)
      · have h := it_t hc h
        exact K x1 (Option.some.inj h) H locs ls hP hS (lv_sub hl [1] rfl)
      · have h := it_f hc h
        refine lv_aload_n X.1 X.2.1 dX1_fittingWords_15 rfl (lv_at hl 0 rfl) ?_
        refine lv_iload_n X.1 X.2.1 dX1_fittingWords_16 rfl (lv_at hl 2 rfl) ?_
        obtain ⟨r_1, hc_1, h⟩ := bd_el h
        refine call_V1i (As := [.int x2]) (rest := []) X (c_X1_wrongRows l dC dI sk sv tc a0 a1 a2 q2_18 q2_19 g0 g1 g2 x2 hc_1) mw_6_108 mw_6_109 mw_6_110 mw_1_10 mw_6_111 dc_X1_wrongRows ⟨Nat.le_of_ble_eq_true rfl, Nat.le_of_ble_eq_true rfl⟩ rfl rfl ⟨Nat.zero_le _, Nat.zero_le _⟩ hP (hD _ _ _) hS 0 rfl rfl rfl hl.1 (Nat.le_of_ble_eq_true rfl) dX1_fittingWords_17 (fun H locs hP hS => ?_)
        refine lv_iconst (v := 1) X.1 X.2.1 dX1_fittingWords_20 (by decide) ?_
        obtain ⟨J30, eJ30, h⟩ := jn_el h
        have HJ30 : ∀ (x1_J30 : Int32) (H : Heap) (locs : List Loc) (ls : Array Slot), J30 x1_J30 = some ex → va_P (dC, dI) vwCl (wCl tc a0 g0 (a1 0) (a2 0) ++ (wTp tc a1 g1 ++ (wSt tc a2 g2 q2_18 q2_19))) H → va_S A s.heap H locs → lv_has ls 3 [(0, .ref (a0 0)), (1, .int x1_J30), (2, .int x2)] → W pr l e rm_X1_fittingWords s m args below meth c H locs 0 0 Q (F0 m 30 ls []) := by
          intro x1_J30 H locs ls h hP hS hl
          rw [eJ30] at h
          obtain ⟨x2_2, ex2_2, h⟩ := nm_el h
          refine lv_iinc (v := x2_2) (lv' := [(2, .int x2_2), (0, .ref (a0 0)), (1, .int x1_J30)]) X.1 X.2.1 dX1_fittingWords_30 hl (k := 2) rfl (by rw [ex2_2]; rfl) (by decide) rfl (fun ls hl => ?_)
          refine lv_goto (tgt := 4) X.1 X.2.1 dX1_fittingWords_33 (by decide) ?_
          exact ih x1_J30 x2_2 ex h H locs ls hP hS (lv_sub hl [1, 2, 0] rfl) K
        refine lv_icmp_gt (tgt := 30) X.1 X.2.1 dX1_fittingWords_21 (by decide) (fun hc => ?_) (fun hc => ?_)
        · have h := it_t hc h
          exact HJ30 x1 H locs ls h hP hS (lv_sub hl [0, 1, 2] rfl)
        · have h := it_f hc h
          refine lv_iload_n X.1 X.2.1 dX1_fittingWords_24 rfl (lv_at hl 1 rfl) ?_
          refine lv_iconst (v := 1) X.1 X.2.1 dX1_fittingWords_25 (by decide) ?_
          refine lv_iload_n X.1 X.2.1 dX1_fittingWords_26 rfl (lv_at hl 2 rfl) ?_
          refine lv_ishl X.1 X.2.1 dX1_fittingWords_27 ?_
          refine lv_ior X.1 X.2.1 dX1_fittingWords_28 ?_
          obtain ⟨x1_3, ex1_3, h⟩ := nm_el h
          refine tp_i ex1_3 ?_
          refine lv_istore_n (lv' := [(1, .int x1_3), (0, .ref (a0 0)), (2, .int x2)]) X.1 X.2.1 dX1_fittingWords_29 rfl hl (by decide) rfl (fun ls hl => ?_)
          exact HJ30 x1_3 H locs ls h hP hS (lv_sub hl [1, 0, 2] rfl)
  unfold f_X1_fittingWords at h
  refine lv_iconst (v := 0) X.1 X.2.1 dX1_fittingWords_0 (by decide) ?_
  refine lv_istore_n (lv' := [(1, .int 0), (0, .ref (a0 0))]) X.1 X.2.1 dX1_fittingWords_1 rfl hl (by decide) rfl (fun ls hl => ?_)
  refine lv_iconst (v := 0) X.1 X.2.1 dX1_fittingWords_2 (by decide) ?_
  refine lv_istore_n (lv' := [(2, .int 0), (1, .int 0), (0, .ref (a0 0))]) X.1 X.2.1 dX1_fittingWords_3 rfl hl (by decide) rfl (fun ls hl => ?_)
  obtain ⟨ex_4, hL_4, h⟩ := bd_el h
  refine HL4  fu 0 0 ex_4 hL_4 H locs ls hP hS (lv_sub hl [2, 1, 0] rfl) (fun x1_4 he H locs ls hP hS hl => ?_)
  subst he
  refine lv_iload_n X.1 X.2.1 dX1_fittingWords_36 rfl (lv_at hl 0 rfl) ?_
  exact ret_i0 (Option.some.inj h) X hQ hP hS dX1_fittingWords_37

def f_X1_likeliest_L6 (g0 : Pic) (g1 : Pic) (g2 : Pic) (n : Nat) (a : Int32 × Int32 × Int32) : Option (Int32) := lp (fun (rec : Int32 × Int32 × Int32 → Option (Int32)) (a : Int32 × Int32 × Int32) => match a with | (x1, x2, x3) => (if (g2 0 0) ≤ x3 then some x1 else bd (f_X1_wrongRows g0 g1 g2 x3) (fun r_1 => jn (fun (s0_J61 : Int32) => jn (fun (x1_J79 : Int32) (x2_J79 : Int32) => nm (x3 + 1) (fun x3_2 => rec (x1_J79, x2_J79, x3_2))) (fun J79 => jn (fun (_ : Unit) => J79 x3 r_1) (fun J74 => (if r_1 < x2 then J74 () else (if s0_J61 = 0 then J79 x1 x2 else J74 ()))))) (fun J61 => jn (fun (_ : Unit) => J61 0) (fun J60 => (if x1 = (-1) then J60 () else (if r_1 = x2 then gdi x3 8 (gdi x1 8 ((if (g2 3 (x3.toNatClampNeg)) ≤ (g2 3 (x1.toNatClampNeg)) then J60 () else J61 1))) else J60 ()))))))) n a
def f_X1_likeliest (g0 : Pic) (g1 : Pic) (g2 : Pic) : Option (Int32) := bd (f_X1_likeliest_L6 g0 g1 g2 fu ((-1), 2, 0)) (fun x1_5 => some x1_5)
abbrev rm_X1_likeliest : Room := { frames := 2, cells := 0, slots := 0, locals := 45 }
set_option maxHeartbeats 4000000 in
set_option maxRecDepth 100000 in
theorem c_X1_likeliest (l : Launch) (dC : Nat → ClassId) (dI : Nat → Nat → Nat) (sk sv : Nat → Nat) (tc : Nat → ClassId) (a0 : Nat → Nat) (a1 : Nat → Nat) (a2 : Nat → Nat) (q2_18 : Option Nat) (q2_19 : Nat) (g0 : Pic) (g1 : Pic) (g2 : Pic) {r0 : Int32} (h : f_X1_likeliest g0 g1 g2 = some r0) : CT l (dC, dI) sk sv (TY tc) yX1_likeliest cX1_likeliest 6 (some .int) rm_X1_likeliest [.ref (a0 0)] (wCl tc a0 g0 (a1 0) (a2 0) ++ (wTp tc a1 g1 ++ (wSt tc a2 g2 q2_18 q2_19))) (some (.int r0)) (wCl tc a0 g0 (a1 0) (a2 0) ++ (wTp tc a1 g1 ++ (wSt tc a2 g2 q2_18 q2_19))) := by
  refine ofCT (by decide) (Nat.le_of_ble_eq_true rfl) ?_
  intro pr e s m args below meth c A Q ls H locs X hQ hD0 hP hS hl
  have hD : ∀ z0 z1 z2, va_D A (wCl tc a0 z0 (a1 0) (a2 0) ++ (wTp tc a1 z1 ++ (wSt tc a2 z2 q2_18 q2_19))) := fun z0 z1 z2 => D_fst (ws := (wCl tc a0 g0 (a1 0) (a2 0) ++ (wTp tc a1 g1 ++ (wSt tc a2 g2 q2_18 q2_19)))) rfl hD0
  have hl : lv_has ls 6 [(0, .ref (a0 0))] := hl
  have HL6 : ∀ (n : Nat) (x1 : Int32) (x2 : Int32) (x3 : Int32) (ex : (Int32)), f_X1_likeliest_L6 g0 g1 g2 n (x1, x2, x3) = some ex → ∀ (H : Heap) (locs : List Loc) (ls : Array Slot), va_P (dC, dI) vwCl (wCl tc a0 g0 (a1 0) (a2 0) ++ (wTp tc a1 g1 ++ (wSt tc a2 g2 q2_18 q2_19))) H → va_S A s.heap H locs → lv_has ls 6 [(0, .ref (a0 0)), (1, .int x1), (2, .int x2), (3, .int x3)] → (∀ (y1 : Int32), y1 = ex → ∀ (H : Heap) (locs : List Loc) (ls : Array Slot), va_P (dC, dI) vwCl (wCl tc a0 g0 (a1 0) (a2 0) ++ (wTp tc a1 g1 ++ (wSt tc a2 g2 q2_18 q2_19))) H → va_S A s.heap H locs → lv_has ls 6 [(1, .int y1)] → W pr l e rm_X1_likeliest s m args below meth c H locs 0 0 Q (F0 m 85 ls [])) → W pr l e rm_X1_likeliest s m args below meth c H locs 0 0 Q (F0 m 6 ls []) := by
    intro n
    induction n with
    | zero => intro x1 x2 x3 ex h; exact lp_z h
    | succ n ih =>
      intro x1 x2 x3 ex h H locs ls hP hS hl K
      have h := lp_s h
      refine lv_iload_n X.1 X.2.1 dX1_likeliest_6 rfl (lv_at hl 3 rfl) ?_
      refine lv_aload_n X.1 X.2.1 dX1_likeliest_7 rfl (lv_at hl 0 rfl) ?_
      refine r_get (C := RX1) (T := TX1) (N := 6) (ci := 1) (v := .ref (a2 0)) X iw1 hP 0 rfl rfl 1 rfl mw_2_99 rfl dX1_likeliest_8 ?_
      refine r_get (C := RX9) (T := TX9) (N := 20) (ci := 9) (v := .int (g2 0 0)) X iw9 hP 5 rfl rfl 0 rfl mw_1_104 rfl dX1_likeliest_11 ?_
      refine lv_icmp_ge (tgt := 85) X.1 X.2.1 dX1_likeliest_14 (by decide) (fun hc => ?_) (fun hc => ?_)
      · have h := it_t hc h
        exact K x1 (Option.some.inj h) H locs ls hP hS (lv_sub hl [1] rfl)
      · have h := it_f hc h
        refine lv_aload_n X.1 X.2.1 dX1_likeliest_17 rfl (lv_at hl 0 rfl) ?_
        refine lv_iload_n X.1 X.2.1 dX1_likeliest_18 rfl (lv_at hl 3 rfl) ?_
        obtain ⟨r_1, hc_1, h⟩ := bd_el h
        refine call_V1i (As := [.int x3]) (rest := []) X (c_X1_wrongRows l dC dI sk sv tc a0 a1 a2 q2_18 q2_19 g0 g1 g2 x3 hc_1) mw_6_108 mw_6_109 mw_6_110 mw_1_10 mw_6_111 dc_X1_wrongRows ⟨Nat.le_of_ble_eq_true rfl, Nat.le_of_ble_eq_true rfl⟩ rfl rfl ⟨Nat.zero_le _, Nat.zero_le _⟩ hP (hD _ _ _) hS 0 rfl rfl rfl hl.1 (Nat.le_of_ble_eq_true rfl) dX1_likeliest_19 (fun H locs hP hS => ?_)
        refine lv_istore (lv' := [(4, .int r_1), (0, .ref (a0 0)), (1, .int x1), (2, .int x2), (3, .int x3)]) X.1 X.2.1 dX1_likeliest_22 hl (by decide) rfl (fun ls hl => ?_)
        refine lv_iload_n X.1 X.2.1 dX1_likeliest_24 rfl (lv_at hl 2 rfl) ?_
        refine lv_iconst (v := (-1)) X.1 X.2.1 dX1_likeliest_25 (by decide) ?_
        obtain ⟨J61, eJ61, h⟩ := jn_el h
        have HJ61 : ∀ (s0_J61 : Int32) (H : Heap) (locs : List Loc) (ls : Array Slot), J61 s0_J61 = some ex → va_P (dC, dI) vwCl (wCl tc a0 g0 (a1 0) (a2 0) ++ (wTp tc a1 g1 ++ (wSt tc a2 g2 q2_18 q2_19))) H → va_S A s.heap H locs → lv_has ls 6 [(0, .ref (a0 0)), (1, .int x1), (2, .int x2), (3, .int x3), (4, .int r_1)] → W pr l e rm_X1_likeliest s m args below meth c H locs 0 0 Q (F0 m 61 ls [.int s0_J61]) := by
          intro s0_J61 H locs ls h hP hS hl
          rw [eJ61] at h
          refine lv_istore (lv' := [(5, .int s0_J61), (0, .ref (a0 0)), (1, .int x1), (2, .int x2), (3, .int x3), (4, .int r_1)]) X.1 X.2.1 dX1_likeliest_61 hl (by decide) rfl (fun ls hl => ?_)
          refine lv_iload X.1 X.2.1 dX1_likeliest_63 (lv_at hl 5 rfl) ?_
          refine lv_iload_n X.1 X.2.1 dX1_likeliest_65 rfl (lv_at hl 3 rfl) ?_
          obtain ⟨J79, eJ79, h⟩ := jn_el h
          have HJ79 : ∀ (x1_J79 : Int32) (x2_J79 : Int32) (H : Heap) (locs : List Loc) (ls : Array Slot), J79 x1_J79 x2_J79 = some ex → va_P (dC, dI) vwCl (wCl tc a0 g0 (a1 0) (a2 0) ++ (wTp tc a1 g1 ++ (wSt tc a2 g2 q2_18 q2_19))) H → va_S A s.heap H locs → lv_has ls 6 [(0, .ref (a0 0)), (1, .int x1_J79), (2, .int x2_J79), (3, .int x3)] → W pr l e rm_X1_likeliest s m args below meth c H locs 0 0 Q (F0 m 79 ls []) := by
            intro x1_J79 x2_J79 H locs ls h hP hS hl
            rw [eJ79] at h
            obtain ⟨x3_2, ex3_2, h⟩ := nm_el h
            refine lv_iinc (v := x3_2) (lv' := [(3, .int x3_2), (0, .ref (a0 0)), (1, .int x1_J79), (2, .int x2_J79)]) X.1 X.2.1 dX1_likeliest_79 hl (k := 3) rfl (by rw [ex3_2]; rfl) (by decide) rfl (fun ls hl => ?_)
            refine lv_goto (tgt := 6) X.1 X.2.1 dX1_likeliest_82 (by decide) ?_
            exact ih x1_J79 x2_J79 x3_2 ex h H locs ls hP hS (lv_sub hl [1, 2, 3, 0] rfl) K
          obtain ⟨J74, eJ74, h⟩ := jn_el h
          have HJ74 : ∀ (_ : Unit) (H : Heap) (locs : List Loc) (ls : Array Slot), J74 () = some ex → va_P (dC, dI) vwCl (wCl tc a0 g0 (a1 0) (a2 0) ++ (wTp tc a1 g1 ++ (wSt tc a2 g2 q2_18 q2_19))) H → va_S A s.heap H locs → lv_has ls 6 [(0, .ref (a0 0)), (3, .int x3), (4, .int r_1)] → W pr l e rm_X1_likeliest s m args below meth c H locs 0 0 Q (F0 m 74 ls []) := by
            intro _ H locs ls h hP hS hl
            rw [eJ74] at h
            refine lv_iload_n X.1 X.2.1 dX1_likeliest_74 rfl (lv_at hl 1 rfl) ?_
            refine lv_istore_n (lv' := [(1, .int x3), (0, .ref (a0 0)), (3, .int x3), (4, .int r_1)]) X.1 X.2.1 dX1_likeliest_75 rfl hl (by decide) rfl (fun ls hl => ?_)
            refine lv_iload X.1 X.2.1 dX1_likeliest_76 (lv_at hl 3 rfl) ?_
            refine lv_istore_n (lv' := [(2, .int r_1), (1, .int x3), (0, .ref (a0 0)), (3, .int x3), (4, .int r_1)]) X.1 X.2.1 dX1_likeliest_78 rfl hl (by decide) rfl (fun ls hl => ?_)
            exact HJ79 x3 r_1 H locs ls h hP hS (lv_sub hl [2, 1, 0, 3] rfl)
          refine lv_icmp_lt (tgt := 74) X.1 X.2.1 dX1_likeliest_66 (by decide) (fun hc => ?_) (fun hc => ?_)
          · have h := it_t hc h
            exact HJ74 () H locs ls h hP hS (lv_sub hl [1, 4, 5] rfl)
          · have h := it_f hc h
            refine lv_iload X.1 X.2.1 dX1_likeliest_69 (lv_at hl 0 rfl) ?_
            refine lv_if_eq (tgt := 79) X.1 X.2.1 dX1_likeliest_71 (by decide) (fun hc => ?_) (fun hc => ?_)
            · have h := it_t hc h
              exact HJ79 x1 x2 H locs ls h hP hS (lv_sub hl [1, 2, 3, 4] rfl)
            · have h := it_f hc h
              exact HJ74 () H locs ls h hP hS (lv_sub hl [1, 4, 5] rfl)
        obtain ⟨J60, eJ60, h⟩ := jn_el h
        have HJ60 : ∀ (_ : Unit) (H : Heap) (locs : List Loc) (ls : Array Slot), J60 () = some ex → va_P (dC, dI) vwCl (wCl tc a0 g0 (a1 0) (a2 0) ++ (wTp tc a1 g1 ++ (wSt tc a2 g2 q2_18 q2_19))) H → va_S A s.heap H locs → lv_has ls 6 [(0, .ref (a0 0)), (1, .int x1), (2, .int x2), (3, .int x3), (4, .int r_1)] → W pr l e rm_X1_likeliest s m args below meth c H locs 0 0 Q (F0 m 60 ls []) := by
          intro _ H locs ls h hP hS hl
          rw [eJ60] at h
          refine lv_iconst (v := 0) X.1 X.2.1 dX1_likeliest_60 (by decide) ?_
          exact HJ61 0 H locs ls h hP hS (lv_sub hl [0, 1, 2, 3, 4] rfl)
        refine lv_icmp_eq (tgt := 60) X.1 X.2.1 dX1_likeliest_26 (by decide) (fun hc => ?_) (fun hc => ?_)
        · have h := it_t hc h
          exact HJ60 () H locs ls h hP hS (lv_sub hl [1, 2, 3, 4, 0] rfl)
        · have h := it_f hc h
          refine lv_iload X.1 X.2.1 dX1_likeliest_29 (lv_at hl 0 rfl) ?_
          refine lv_iload_n X.1 X.2.1 dX1_likeliest_31 rfl (lv_at hl 3 rfl) ?_
          refine lv_icmp_ne (tgt := 60) X.1 X.2.1 dX1_likeliest_32 (by decide) (fun hc => ?_) (fun hc => ?_)
          · have h := it_f hc h
            exact HJ60 () H locs ls h hP hS (lv_sub hl [1, 2, 3, 4, 0] rfl)
          · have h := it_t hc h
            refine lv_aload_n X.1 X.2.1 dX1_likeliest_35 rfl (lv_at hl 1 rfl) ?_
            refine r_get (C := RX1) (T := TX1) (N := 6) (ci := 1) (v := .ref (a2 0)) X iw1 hP 0 rfl rfl 1 rfl mw_2_99 rfl dX1_likeliest_36 ?_
            refine r_get (C := RX9) (T := TX9) (N := 20) (ci := 9) (v := .ref (a2 4)) X iw9 hP 5 rfl rfl 3 rfl mw_1_123 rfl dX1_likeliest_39 ?_
            refine lv_iload_n X.1 X.2.1 dX1_likeliest_42 rfl (lv_at hl 4 rfl) ?_
            obtain ⟨hg_3, h⟩ := gdi_el h
            refine r_iald X hP 8 0 rfl rfl hg_3 rfl dX1_likeliest_43 ?_
            refine lv_aload_n X.1 X.2.1 dX1_likeliest_44 rfl (lv_at hl 1 rfl) ?_
            refine r_get (C := RX1) (T := TX1) (N := 6) (ci := 1) (v := .ref (a2 0)) X iw1 hP 0 rfl rfl 1 rfl mw_2_99 rfl dX1_likeliest_45 ?_
            refine r_get (C := RX9) (T := TX9) (N := 20) (ci := 9) (v := .ref (a2 4)) X iw9 hP 5 rfl rfl 3 rfl mw_1_123 rfl dX1_likeliest_48 ?_
            refine lv_iload_n X.1 X.2.1 dX1_likeliest_51 rfl (lv_at hl 2 rfl) ?_
            obtain ⟨hg_4, h⟩ := gdi_el h
            refine r_iald X hP 8 0 rfl rfl hg_4 rfl dX1_likeliest_52 ?_
            refine lv_icmp_le (tgt := 60) X.1 X.2.1 dX1_likeliest_53 (by decide) (fun hc => ?_) (fun hc => ?_)
            · have h := it_t hc h
              exact HJ60 () H locs ls h hP hS (lv_sub hl [1, 2, 3, 4, 0] rfl)
            · have h := it_f hc h
              refine lv_iconst (v := 1) X.1 X.2.1 dX1_likeliest_56 (by decide) ?_
              refine lv_goto (tgt := 61) X.1 X.2.1 dX1_likeliest_57 (by decide) ?_
              exact HJ61 1 H locs ls h hP hS (lv_sub hl [1, 2, 3, 4, 0] rfl)
  unfold f_X1_likeliest at h
  refine lv_iconst (v := (-1)) X.1 X.2.1 dX1_likeliest_0 (by decide) ?_
  refine lv_istore_n (lv' := [(1, .int (-1)), (0, .ref (a0 0))]) X.1 X.2.1 dX1_likeliest_1 rfl hl (by decide) rfl (fun ls hl => ?_)
  refine lv_iconst (v := 2) X.1 X.2.1 dX1_likeliest_2 (by decide) ?_
  refine lv_istore_n (lv' := [(2, .int 2), (1, .int (-1)), (0, .ref (a0 0))]) X.1 X.2.1 dX1_likeliest_3 rfl hl (by decide) rfl (fun ls hl => ?_)
  refine lv_iconst (v := 0) X.1 X.2.1 dX1_likeliest_4 (by decide) ?_
  refine lv_istore_n (lv' := [(3, .int 0), (2, .int 2), (1, .int (-1)), (0, .ref (a0 0))]) X.1 X.2.1 dX1_likeliest_5 rfl hl (by decide) rfl (fun ls hl => ?_)
  obtain ⟨ex_5, hL_5, h⟩ := bd_el h
  refine HL6  fu (-1) 2 0 ex_5 hL_5 H locs ls hP hS (lv_sub hl [3, 2, 1, 0] rfl) (fun x1_5 he H locs ls hP hS hl => ?_)
  subst he
  refine lv_iload_n X.1 X.2.1 dX1_likeliest_85 rfl (lv_at hl 0 rfl) ?_
  exact ret_i0 (Option.some.inj h) X hQ hP hS dX1_likeliest_86

def f_X1_greatestPartAt_L13 (x1 : Int32) (x2 : Int32) (g1 : Pic) (g2 : Pic) (n : Nat) (a : Int32 × Int32 × Pic) : Option (Int32 × Pic) := lp (fun (rec : Int32 × Int32 × Pic → Option (Int32 × Pic)) (a : Int32 × Int32 × Pic) => match a with | (x3, x4, g0) => (if (g2 0 0) ≤ x4 then some (x3, g0) else jn (fun (x3_J72 : Int32) (g0_J72 : Pic) => nm (x4 + 1) (fun x4_2 => rec (x3_J72, x4_2, g0_J72))) (fun J72 => (if ((x2 >>> (x4 &&& 31)) &&& 1) = 1 then bd (f_X9_letterAt g2 x4 x1) (fun r_3 => nm ((r_3 + 1)) (fun x5_4 => gdi x5_4 9 (gdi x5_4 9 (nm (pu g0 3 (x5_4.toNatClampNeg) ((g0 3 (x5_4.toNatClampNeg)) + 1)) (fun g0_7 => gdi x5_4 9 (nm ((if x3 < (g0_7 3 (x5_4.toNatClampNeg)) then (g0_7 3 (x5_4.toNatClampNeg)) else x3)) (fun x3_9 => J72 x3_9 g0_7))))))) else J72 x3 g0)))) n a
def f_X1_greatestPartAt (g0 : Pic) (g1 : Pic) (g2 : Pic) (x1 : Int32) (x2 : Int32) : Option (Int32 × Pic) := nm (pr_ g0 3 (fl 9 0 (g0 3))) (fun g0_1 => bd (f_X1_greatestPartAt_L13 x1 x2 g1 g2 fu (0, 0, g0_1)) (fun (x3_10, g0_10) => some (x3_10, g0_10)))
abbrev rm_X1_greatestPartAt : Room := { frames := 1, cells := 0, slots := 0, locals := 40 }
set_option maxHeartbeats 4000000 in
set_option maxRecDepth 100000 in
theorem c_X1_greatestPartAt (l : Launch) (dC : Nat → ClassId) (dI : Nat → Nat → Nat) (sk sv : Nat → Nat) (tc : Nat → ClassId) (a0 : Nat → Nat) (a1 : Nat → Nat) (a2 : Nat → Nat) (q2_18 : Option Nat) (q2_19 : Nat) (g0 : Pic) (g1 : Pic) (g2 : Pic) (x1 : Int32) (x2 : Int32) {r0 : Int32} {G0 : Pic} (h : f_X1_greatestPartAt g0 g1 g2 x1 x2 = some (r0, G0)) : CT l (dC, dI) sk sv (TY tc) yX1_greatestPartAt cX1_greatestPartAt 6 (some .int) rm_X1_greatestPartAt [.ref (a0 0), .int x1, .int x2] (wCl tc a0 g0 (a1 0) (a2 0) ++ (wTp tc a1 g1 ++ (wSt tc a2 g2 q2_18 q2_19))) (some (.int r0)) (wCl tc a0 G0 (a1 0) (a2 0) ++ (wTp tc a1 g1 ++ (wSt tc a2 g2 q2_18 q2_19))) := by
  refine ofCT (by decide) (Nat.le_of_ble_eq_true rfl) ?_
  intro pr e s m args below meth c A Q ls H locs X hQ hD0 hP hS hl
  have hD : ∀ z0 z1 z2, va_D A (wCl tc a0 z0 (a1 0) (a2 0) ++ (wTp tc a1 z1 ++ (wSt tc a2 z2 q2_18 q2_19))) := fun z0 z1 z2 => D_fst (ws := (wCl tc a0 g0 (a1 0) (a2 0) ++ (wTp tc a1 g1 ++ (wSt tc a2 g2 q2_18 q2_19)))) rfl hD0
  have hl : lv_has ls 6 [(0, .ref (a0 0)), (1, .int x1), (2, .int x2)] := hl
  have HL13 : ∀ (x1 : Int32) (x2 : Int32) (n : Nat) (x3 : Int32) (x4 : Int32) (g0 : Pic) (ex : (Int32 × Pic)), f_X1_greatestPartAt_L13 x1 x2 g1 g2 n (x3, x4, g0) = some ex → ∀ (H : Heap) (locs : List Loc) (ls : Array Slot), va_P (dC, dI) vwCl (wCl tc a0 g0 (a1 0) (a2 0) ++ (wTp tc a1 g1 ++ (wSt tc a2 g2 q2_18 q2_19))) H → va_S A s.heap H locs → lv_has ls 6 [(0, .ref (a0 0)), (1, .int x1), (2, .int x2), (3, .int x3), (4, .int x4)] → (∀ (y3 : Int32) (k0 : Pic), (y3, k0) = ex → ∀ (H : Heap) (locs : List Loc) (ls : Array Slot), va_P (dC, dI) vwCl (wCl tc a0 k0 (a1 0) (a2 0) ++ (wTp tc a1 g1 ++ (wSt tc a2 g2 q2_18 q2_19))) H → va_S A s.heap H locs → lv_has ls 6 [(3, .int y3)] → W pr l e rm_X1_greatestPartAt s m args below meth c H locs 0 0 Q (F0 m 78 ls [])) → W pr l e rm_X1_greatestPartAt s m args below meth c H locs 0 0 Q (F0 m 13 ls []) := by
    intro x1 x2 n
    induction n with
    | zero => intro x3 x4 g0 ex h; exact lp_z h
    | succ n ih =>
      intro x3 x4 g0 ex h H locs ls hP hS hl K
      have h := lp_s h
      refine lv_iload X.1 X.2.1 dX1_greatestPartAt_13 (lv_at hl 4 rfl) ?_
      refine lv_aload_n X.1 X.2.1 dX1_greatestPartAt_15 rfl (lv_at hl 0 rfl) ?_
      refine r_get (C := RX1) (T := TX1) (N := 6) (ci := 1) (v := .ref (a2 0)) X iw1 hP 0 rfl rfl 1 rfl mw_2_99 rfl dX1_greatestPartAt_16 ?_
      refine r_get (C := RX9) (T := TX9) (N := 20) (ci := 9) (v := .int (g2 0 0)) X iw9 hP 5 rfl rfl 0 rfl mw_1_104 rfl dX1_greatestPartAt_19 ?_
      refine lv_icmp_ge (tgt := 78) X.1 X.2.1 dX1_greatestPartAt_22 (by decide) (fun hc => ?_) (fun hc => ?_)
      · have h := it_t hc h
        exact K x3 g0 (Option.some.inj h) H locs ls hP hS (lv_sub hl [3] rfl)
      · have h := it_f hc h
        refine lv_iload_n X.1 X.2.1 dX1_greatestPartAt_25 rfl (lv_at hl 2 rfl) ?_
        refine lv_iload X.1 X.2.1 dX1_greatestPartAt_26 (lv_at hl 4 rfl) ?_
        refine lv_ishr X.1 X.2.1 dX1_greatestPartAt_28 ?_
        refine lv_iconst (v := 1) X.1 X.2.1 dX1_greatestPartAt_29 (by decide) ?_
        refine lv_iand X.1 X.2.1 dX1_greatestPartAt_30 ?_
        refine lv_iconst (v := 1) X.1 X.2.1 dX1_greatestPartAt_31 (by decide) ?_
        obtain ⟨J72, eJ72, h⟩ := jn_el h
        have HJ72 : ∀ (x3_J72 : Int32) (g0_J72 : Pic) (H : Heap) (locs : List Loc) (ls : Array Slot), J72 x3_J72 g0_J72 = some ex → va_P (dC, dI) vwCl (wCl tc a0 g0_J72 (a1 0) (a2 0) ++ (wTp tc a1 g1 ++ (wSt tc a2 g2 q2_18 q2_19))) H → va_S A s.heap H locs → lv_has ls 6 [(0, .ref (a0 0)), (1, .int x1), (2, .int x2), (3, .int x3_J72), (4, .int x4)] → W pr l e rm_X1_greatestPartAt s m args below meth c H locs 0 0 Q (F0 m 72 ls []) := by
          intro x3_J72 g0_J72 H locs ls h hP hS hl
          rw [eJ72] at h
          obtain ⟨x4_2, ex4_2, h⟩ := nm_el h
          refine lv_iinc (v := x4_2) (lv' := [(4, .int x4_2), (0, .ref (a0 0)), (1, .int x1), (2, .int x2), (3, .int x3_J72)]) X.1 X.2.1 dX1_greatestPartAt_72 hl (k := 4) rfl (by rw [ex4_2]; rfl) (by decide) rfl (fun ls hl => ?_)
          refine lv_goto (tgt := 13) X.1 X.2.1 dX1_greatestPartAt_75 (by decide) ?_
          exact ih x3_J72 x4_2 g0_J72 ex h H locs ls hP hS (lv_sub hl [1, 2, 3, 4, 0] rfl) K
        refine lv_icmp_ne (tgt := 72) X.1 X.2.1 dX1_greatestPartAt_32 (by decide) (fun hc => ?_) (fun hc => ?_)
        · have h := it_f hc h
          exact HJ72 x3 g0 H locs ls h hP hS (lv_sub hl [0, 1, 2, 3, 4] rfl)
        · have h := it_t hc h
          refine lv_aload_n X.1 X.2.1 dX1_greatestPartAt_35 rfl (lv_at hl 0 rfl) ?_
          refine r_get (C := RX1) (T := TX1) (N := 6) (ci := 1) (v := .ref (a2 0)) X iw1 hP 0 rfl rfl 1 rfl mw_2_99 rfl dX1_greatestPartAt_36 ?_
          refine lv_iload X.1 X.2.1 dX1_greatestPartAt_39 (lv_at hl 4 rfl) ?_
          refine lv_iload_n X.1 X.2.1 dX1_greatestPartAt_41 rfl (lv_at hl 1 rfl) ?_
          obtain ⟨r_3, hc_3, h⟩ := bd_el h
          refine call_Vsi (ws := (wCl tc a0 g0 (a1 0) (a2 0) ++ (wTp tc a1 g1 ++ (wSt tc a2 g2 q2_18 q2_19)))) (ws' := (wCl tc a0 g0 (a1 0) (a2 0) ++ (wTp tc a1 g1 ++ (wSt tc a2 g2 q2_18 q2_19)))) (wCl tc a0 g0 (a1 0) (a2 0) ++ (wTp tc a1 g1)) [] (As := [.int x4, .int x1]) (rest := []) X (c_X9_letterAt l dC dI sk sv tc a2 q2_18 q2_19 g2 x4 x1 hc_3) mw_6_112 mw_3_68 mw_3_69 mw_1_3 mw_3_70 dc_X9_letterAt ⟨Nat.le_of_ble_eq_true rfl, Nat.le_of_ble_eq_true rfl⟩ rfl rfl ⟨Nat.zero_le _, Nat.zero_le _⟩ (by simp only [List.append_assoc, List.nil_append, List.append_nil]) (by simp only [List.append_assoc, List.nil_append, List.append_nil]) hP (hD _ _ _) hS 0 rfl rfl rfl hl.1 (Nat.le_of_ble_eq_true rfl) dX1_greatestPartAt_42 (fun H locs hP hS => ?_)
          refine lv_iconst (v := 1) X.1 X.2.1 dX1_greatestPartAt_45 (by decide) ?_
          refine lv_iadd X.1 X.2.1 dX1_greatestPartAt_46 ?_
          obtain ⟨x5_4, ex5_4, h⟩ := nm_el h
          refine tp_i ex5_4 ?_
          refine lv_istore (lv' := [(5, .int x5_4), (0, .ref (a0 0)), (1, .int x1), (2, .int x2), (3, .int x3), (4, .int x4)]) X.1 X.2.1 dX1_greatestPartAt_47 hl (by decide) rfl (fun ls hl => ?_)
          refine lv_aload_n X.1 X.2.1 dX1_greatestPartAt_49 rfl (lv_at hl 1 rfl) ?_
          refine r_get (C := RX1) (T := TX1) (N := 6) (ci := 1) (v := .ref (a0 4)) X iw1 hP 0 rfl rfl 3 rfl mw_2_101 rfl dX1_greatestPartAt_50 ?_
          refine lv_iload X.1 X.2.1 dX1_greatestPartAt_53 (lv_at hl 0 rfl) ?_
          refine lv_dup2_11 X.1 X.2.1 dX1_greatestPartAt_55 rfl rfl ?_
          obtain ⟨hg_5, h⟩ := gdi_el h
          refine r_iald X hP 2 0 rfl rfl hg_5 rfl dX1_greatestPartAt_56 ?_
          refine lv_iconst (v := 1) X.1 X.2.1 dX1_greatestPartAt_57 (by decide) ?_
          refine lv_iadd X.1 X.2.1 dX1_greatestPartAt_58 ?_
          obtain ⟨hg_6, h⟩ := gdi_el h
          obtain ⟨g0_7, eg0_7, h⟩ := nm_el h
          refine r_iast X hP (hD _ _ _) hS 2 0 rfl rfl hg_6 rfl dX1_greatestPartAt_59 (wCl tc a0 g0_7 (a1 0) (a2 0) ++ (wTp tc a1 g1 ++ (wSt tc a2 g2 q2_18 q2_19))) (by rw [eg0_7]; rfl) (fun H locs hP hS => ?_)
          refine lv_iload_n X.1 X.2.1 dX1_greatestPartAt_60 rfl (lv_at hl 4 rfl) ?_
          refine lv_aload_n X.1 X.2.1 dX1_greatestPartAt_61 rfl (lv_at hl 1 rfl) ?_
          refine r_get (C := RX1) (T := TX1) (N := 6) (ci := 1) (v := .ref (a0 4)) X iw1 hP 0 rfl rfl 3 rfl mw_2_101 rfl dX1_greatestPartAt_62 ?_
          refine lv_iload X.1 X.2.1 dX1_greatestPartAt_65 (lv_at hl 0 rfl) ?_
          obtain ⟨hg_8, h⟩ := gdi_el h
          refine r_iald X hP 2 0 rfl rfl hg_8 rfl dX1_greatestPartAt_67 ?_
          refine r_max X mw_6_144 mw_3_21 mw_1_25 mw_3_22 hl.1 (Nat.le_of_ble_eq_true rfl) (Nat.le_of_ble_eq_true rfl) ⟨Nat.zero_le _, Nat.zero_le _⟩ dX1_greatestPartAt_68 ?_
          obtain ⟨x3_9, ex3_9, h⟩ := nm_el h
          refine tp_i ex3_9 ?_
          refine lv_istore_n (lv' := [(3, .int x3_9), (5, .int x5_4), (0, .ref (a0 0)), (1, .int x1), (2, .int x2), (4, .int x4)]) X.1 X.2.1 dX1_greatestPartAt_71 rfl hl (by decide) rfl (fun ls hl => ?_)
          exact HJ72 x3_9 g0_7 H locs ls h hP hS (lv_sub hl [2, 3, 4, 0, 5] rfl)
  unfold f_X1_greatestPartAt at h
  refine lv_aload_n X.1 X.2.1 dX1_greatestPartAt_0 rfl (lv_at hl 0 rfl) ?_
  refine r_get (C := RX1) (T := TX1) (N := 6) (ci := 1) (v := .ref (a0 4)) X iw1 hP 0 rfl rfl 3 rfl mw_2_101 rfl dX1_greatestPartAt_1 ?_
  refine lv_iconst (v := 0) X.1 X.2.1 dX1_greatestPartAt_4 (by decide) ?_
  obtain ⟨g0_1, eg0_1, h⟩ := nm_el h
  refine call_cell (ws' := (wCl tc a0 g0_1 (a1 0) (a2 0) ++ (wTp tc a1 g1 ++ (wSt tc a2 g2 q2_18 q2_19)))) (As := [.ref (a0 4), .int 0]) (rest := []) X (c_fill l dC dI sk sv tc (a0 4) 9 (g0 3) 0 (by decide)) mw_6_141 mw_6_142 mw_1_24 mw_6_143 dc_J7_fill_53178 ⟨(Nat.le_of_ble_eq_true rfl), (Nat.le_of_ble_eq_true rfl)⟩ rfl rfl ⟨Nat.zero_le _, Nat.zero_le _⟩ hP (hD _ _ _) hS 2 rfl (by rw [eg0_1]; rfl) hl.1 (Nat.le_of_ble_eq_true rfl) dX1_greatestPartAt_5 (fun H locs hP hS => ?_)
  refine lv_iconst (v := 0) X.1 X.2.1 dX1_greatestPartAt_8 (by decide) ?_
  refine lv_istore_n (lv' := [(3, .int 0), (0, .ref (a0 0)), (1, .int x1), (2, .int x2)]) X.1 X.2.1 dX1_greatestPartAt_9 rfl hl (by decide) rfl (fun ls hl => ?_)
  refine lv_iconst (v := 0) X.1 X.2.1 dX1_greatestPartAt_10 (by decide) ?_
  refine lv_istore (lv' := [(4, .int 0), (3, .int 0), (0, .ref (a0 0)), (1, .int x1), (2, .int x2)]) X.1 X.2.1 dX1_greatestPartAt_11 hl (by decide) rfl (fun ls hl => ?_)
  obtain ⟨ex_10, hL_10, h⟩ := bd_el h
  refine HL13 x1 x2 fu 0 0 g0_1 ex_10 hL_10 H locs ls hP hS (lv_sub hl [2, 3, 4, 1, 0] rfl) (fun x3_10 g0_10 he H locs ls hP hS hl => ?_)
  subst he
  refine lv_iload_n X.1 X.2.1 dX1_greatestPartAt_78 rfl (lv_at hl 0 rfl) ?_
  exact ret_i (fun u => (wCl tc a0 u (a1 0) (a2 0) ++ (wTp tc a1 g1 ++ (wSt tc a2 g2 q2_18 q2_19)))) (res := (r0, G0)) (Option.some.inj h) X hQ hP hS dX1_greatestPartAt_79

def f_X1_fitsSet_L2 (x1 : Int32) (g0 : Pic) (g1 : Pic) (g2 : Pic) (n : Nat) (a : Int32) : Option ((Int32) ⊕ (Unit)) := lp (fun (rec : Int32 → Option ((Int32) ⊕ (Unit))) (a : Int32) => (fun (x2 : Int32) => (if (g0 5 0) ≤ x2 then some (.inr ()) else bd (f_X1_firstOf g0 g1 g2 x2) (fun r_1 => bd (f_X9_strokesOf g2 r_1 x1) (fun r_2 => bd (f_X1_secondOf g0 g1 g2 x2) (fun r_3 => (if r_2 = r_3 then nm (x2 + 1) (fun x2_4 => rec x2_4) else some (.inl 0))))))) a) n a
def f_X1_fitsSet (g0 : Pic) (g1 : Pic) (g2 : Pic) (x1 : Int32) : Option (Int32) := lr (f_X1_fitsSet_L2 x1 g0 g1 g2 fu 0) (fun a => a) (fun _ => some 1)
abbrev rm_X1_fitsSet : Room := { frames := 1, cells := 0, slots := 0, locals := 24 }
set_option maxHeartbeats 4000000 in
set_option maxRecDepth 100000 in
theorem c_X1_fitsSet (l : Launch) (dC : Nat → ClassId) (dI : Nat → Nat → Nat) (sk sv : Nat → Nat) (tc : Nat → ClassId) (a0 : Nat → Nat) (a1 : Nat → Nat) (a2 : Nat → Nat) (q2_18 : Option Nat) (q2_19 : Nat) (g0 : Pic) (g1 : Pic) (g2 : Pic) (x1 : Int32) {r0 : Int32} (h : f_X1_fitsSet g0 g1 g2 x1 = some r0) : CT l (dC, dI) sk sv (TY tc) yX1_fitsSet cX1_fitsSet 3 (some .boolean) rm_X1_fitsSet [.ref (a0 0), .int x1] (wCl tc a0 g0 (a1 0) (a2 0) ++ (wTp tc a1 g1 ++ (wSt tc a2 g2 q2_18 q2_19))) (some (.int r0)) (wCl tc a0 g0 (a1 0) (a2 0) ++ (wTp tc a1 g1 ++ (wSt tc a2 g2 q2_18 q2_19))) := by
  refine ofCT (by decide) (Nat.le_of_ble_eq_true rfl) ?_
  intro pr e s m args below meth c A Q ls H locs X hQ hD0 hP hS hl
  have hD : ∀ z0 z1 z2, va_D A (wCl tc a0 z0 (a1 0) (a2 0) ++ (wTp tc a1 z1 ++ (wSt tc a2 z2 q2_18 q2_19))) := fun z0 z1 z2 => D_fst (ws := (wCl tc a0 g0 (a1 0) (a2 0) ++ (wTp tc a1 g1 ++ (wSt tc a2 g2 q2_18 q2_19)))) rfl hD0
  have hl : lv_has ls 3 [(0, .ref (a0 0)), (1, .int x1)] := hl
  have HL2 : ∀ (x1 : Int32) (n : Nat) (x2 : Int32) (ex : ((Int32) ⊕ (Unit))), f_X1_fitsSet_L2 x1 g0 g1 g2 n x2 = some ex → (∀ rv, ex = .inl rv → rv = r0) → ∀ (H : Heap) (locs : List Loc) (ls : Array Slot), va_P (dC, dI) vwCl (wCl tc a0 g0 (a1 0) (a2 0) ++ (wTp tc a1 g1 ++ (wSt tc a2 g2 q2_18 q2_19))) H → va_S A s.heap H locs → lv_has ls 3 [(0, .ref (a0 0)), (1, .int x1), (2, .int x2)] → (.inr () = ex → ∀ (H : Heap) (locs : List Loc) (ls : Array Slot), va_P (dC, dI) vwCl (wCl tc a0 g0 (a1 0) (a2 0) ++ (wTp tc a1 g1 ++ (wSt tc a2 g2 q2_18 q2_19))) H → va_S A s.heap H locs → lv_has ls 3 [] → W pr l e rm_X1_fitsSet s m args below meth c H locs 0 0 Q (F0 m 39 ls [])) → W pr l e rm_X1_fitsSet s m args below meth c H locs 0 0 Q (F0 m 2 ls []) := by
    intro x1 n
    induction n with
    | zero => intro x2 ex h; exact lp_z h
    | succ n ih =>
      intro x2 ex h hR H locs ls hP hS hl K
      have h := lp_s h
      refine lv_iload_n X.1 X.2.1 dX1_fitsSet_2 rfl (lv_at hl 2 rfl) ?_
      refine lv_aload_n X.1 X.2.1 dX1_fitsSet_3 rfl (lv_at hl 0 rfl) ?_
      refine r_get (C := RX1) (T := TX1) (N := 6) (ci := 1) (v := .int (g0 5 0)) X iw1 hP 0 rfl rfl 5 rfl mw_2_103 rfl dX1_fitsSet_4 ?_
      refine lv_icmp_ge (tgt := 39) X.1 X.2.1 dX1_fitsSet_7 (by decide) (fun hc => ?_) (fun hc => ?_)
      · have h := it_t hc h
        exact K  (Option.some.inj h) H locs ls hP hS (lv_sub hl [] rfl)
      · have h := it_f hc h
        refine lv_aload_n X.1 X.2.1 dX1_fitsSet_10 rfl (lv_at hl 0 rfl) ?_
        refine r_get (C := RX1) (T := TX1) (N := 6) (ci := 1) (v := .ref (a2 0)) X iw1 hP 0 rfl rfl 1 rfl mw_2_99 rfl dX1_fitsSet_11 ?_
        refine lv_aload_n X.1 X.2.1 dX1_fitsSet_14 rfl (lv_at hl 0 rfl) ?_
        refine lv_iload_n X.1 X.2.1 dX1_fitsSet_15 rfl (lv_at hl 2 rfl) ?_
        obtain ⟨r_1, hc_1, h⟩ := bd_el h
        refine call_V1i (As := [.int x2]) (rest := [.ref (a2 0)]) X (c_X1_firstOf l dC dI sk sv tc a0 a1 a2 q2_18 q2_19 g0 g1 g2 x2 hc_1) mw_6_91 mw_6_92 mw_6_93 mw_1_10 mw_6_94 dc_X1_firstOf ⟨Nat.le_of_ble_eq_true rfl, Nat.le_of_ble_eq_true rfl⟩ rfl rfl ⟨Nat.zero_le _, Nat.zero_le _⟩ hP (hD _ _ _) hS 0 rfl rfl rfl hl.1 (Nat.le_of_ble_eq_true rfl) dX1_fitsSet_16 (fun H locs hP hS => ?_)
        refine lv_iload_n X.1 X.2.1 dX1_fitsSet_19 rfl (lv_at hl 1 rfl) ?_
        obtain ⟨r_2, hc_2, h⟩ := bd_el h
        refine call_Vsi (ws := (wCl tc a0 g0 (a1 0) (a2 0) ++ (wTp tc a1 g1 ++ (wSt tc a2 g2 q2_18 q2_19)))) (ws' := (wCl tc a0 g0 (a1 0) (a2 0) ++ (wTp tc a1 g1 ++ (wSt tc a2 g2 q2_18 q2_19)))) (wCl tc a0 g0 (a1 0) (a2 0) ++ (wTp tc a1 g1)) [] (As := [.int r_1, .int x1]) (rest := []) X (c_X9_strokesOf l dC dI sk sv tc a2 q2_18 q2_19 g2 r_1 x1 hc_2) mw_6_164 mw_5_120 mw_5_121 mw_1_3 mw_5_122 dc_X9_strokesOf ⟨Nat.le_of_ble_eq_true rfl, Nat.le_of_ble_eq_true rfl⟩ rfl rfl ⟨Nat.zero_le _, Nat.zero_le _⟩ (by simp only [List.append_assoc, List.nil_append, List.append_nil]) (by simp only [List.append_assoc, List.nil_append, List.append_nil]) hP (hD _ _ _) hS 0 rfl rfl rfl hl.1 (Nat.le_of_ble_eq_true rfl) dX1_fitsSet_20 (fun H locs hP hS => ?_)
        refine lv_aload_n X.1 X.2.1 dX1_fitsSet_23 rfl (lv_at hl 0 rfl) ?_
        refine lv_iload_n X.1 X.2.1 dX1_fitsSet_24 rfl (lv_at hl 2 rfl) ?_
        obtain ⟨r_3, hc_3, h⟩ := bd_el h
        refine call_V1i (As := [.int x2]) (rest := [.int r_2]) X (c_X1_secondOf l dC dI sk sv tc a0 a1 a2 q2_18 q2_19 g0 g1 g2 x2 hc_3) mw_6_95 mw_6_96 mw_6_97 mw_1_10 mw_6_98 dc_X1_secondOf ⟨Nat.le_of_ble_eq_true rfl, Nat.le_of_ble_eq_true rfl⟩ rfl rfl ⟨Nat.zero_le _, Nat.zero_le _⟩ hP (hD _ _ _) hS 0 rfl rfl rfl hl.1 (Nat.le_of_ble_eq_true rfl) dX1_fitsSet_25 (fun H locs hP hS => ?_)
        refine lv_icmp_eq (tgt := 33) X.1 X.2.1 dX1_fitsSet_28 (by decide) (fun hc => ?_) (fun hc => ?_)
        · have h := it_t hc h
          obtain ⟨x2_4, ex2_4, h⟩ := nm_el h
          refine lv_iinc (v := x2_4) (lv' := [(2, .int x2_4), (0, .ref (a0 0)), (1, .int x1)]) X.1 X.2.1 dX1_fitsSet_33 hl (k := 2) rfl (by rw [ex2_4]; rfl) (by decide) rfl (fun ls hl => ?_)
          refine lv_goto (tgt := 2) X.1 X.2.1 dX1_fitsSet_36 (by decide) ?_
          exact ih x2_4 ex h hR H locs ls hP hS (lv_sub hl [1, 2, 0] rfl) K
        · have h := it_f hc h
          refine lv_iconst (v := 0) X.1 X.2.1 dX1_fitsSet_31 (by decide) ?_
          exact ret_z0 (by decide) (hR _ (Option.some.inj h).symm) X hQ hP hS dX1_fitsSet_32
  unfold f_X1_fitsSet at h
  refine lv_iconst (v := 0) X.1 X.2.1 dX1_fitsSet_0 (by decide) ?_
  refine lv_istore_n (lv' := [(2, .int 0), (0, .ref (a0 0)), (1, .int x1)]) X.1 X.2.1 dX1_fitsSet_1 rfl hl (by decide) rfl (fun ls hl => ?_)
  obtain ⟨ex_5, hL_5, h1_5, h2_5⟩ := lr_el h
  refine HL2 x1 fu 0 ex_5 hL_5 (fun rv hq => h1_5 rv hq) H locs ls hP hS (lv_sub hl [1, 2, 0] rfl) (fun  he H locs ls hP hS hl => ?_)
  have h := h2_5 _ he.symm
  refine lv_iconst (v := 1) X.1 X.2.1 dX1_fitsSet_39 (by decide) ?_
  exact ret_z0 (by decide) (Option.some.inj h) X hQ hP hS dX1_fitsSet_40

def f_X1_findSets_L7 (g1 : Pic) (g2 : Pic) (n : Nat) (a : Int32 × Pic) : Option (Pic) := lp (fun (rec : Int32 × Pic → Option (Pic)) (a : Int32 × Pic) => match a with | (x1, g0) => (if 256 ≤ x1 then some g0 else bd (f_X1_fitsSet g0 g1 g2 x1) (fun r_2 => jn (fun (g0_J42 : Pic) => nm (x1 + 1) (fun x1_3 => rec (x1_3, g0_J42))) (fun J42 => (if r_2 = 0 then J42 g0 else gdi (g0 4 0) 256 (nm (pu g0 2 ((g0 4 0).toNatClampNeg) x1) (fun g0_5 => nm (pu g0_5 4 0 ((g0_5 4 0) + 1)) (fun g0_6 => J42 g0_6)))))))) n a
def f_X1_findSets (g0 : Pic) (g1 : Pic) (g2 : Pic) : Option (Int32 × Pic) := nm (pu g0 4 0 0) (fun g0_1 => bd (f_X1_findSets_L7 g1 g2 fu (0, g0_1)) (fun g0_7 => some ((g0_7 4 0), g0_7)))
abbrev rm_X1_findSets : Room := { frames := 2, cells := 0, slots := 0, locals := 46 }
set_option maxHeartbeats 4000000 in
set_option maxRecDepth 100000 in
theorem c_X1_findSets (l : Launch) (dC : Nat → ClassId) (dI : Nat → Nat → Nat) (sk sv : Nat → Nat) (tc : Nat → ClassId) (a0 : Nat → Nat) (a1 : Nat → Nat) (a2 : Nat → Nat) (q2_18 : Option Nat) (q2_19 : Nat) (g0 : Pic) (g1 : Pic) (g2 : Pic) {r0 : Int32} {G0 : Pic} (h : f_X1_findSets g0 g1 g2 = some (r0, G0)) : CT l (dC, dI) sk sv (TY tc) yX1_findSets cX1_findSets 2 (some .int) rm_X1_findSets [.ref (a0 0)] (wCl tc a0 g0 (a1 0) (a2 0) ++ (wTp tc a1 g1 ++ (wSt tc a2 g2 q2_18 q2_19))) (some (.int r0)) (wCl tc a0 G0 (a1 0) (a2 0) ++ (wTp tc a1 g1 ++ (wSt tc a2 g2 q2_18 q2_19))) := by
  refine ofCT (by decide) (Nat.le_of_ble_eq_true rfl) ?_
  intro pr e s m args below meth c A Q ls H locs X hQ hD0 hP hS hl
  have hD : ∀ z0 z1 z2, va_D A (wCl tc a0 z0 (a1 0) (a2 0) ++ (wTp tc a1 z1 ++ (wSt tc a2 z2 q2_18 q2_19))) := fun z0 z1 z2 => D_fst (ws := (wCl tc a0 g0 (a1 0) (a2 0) ++ (wTp tc a1 g1 ++ (wSt tc a2 g2 q2_18 q2_19)))) rfl hD0
  have hl : lv_has ls 2 [(0, .ref (a0 0))] := hl
  have HL7 : ∀ (n : Nat) (x1 : Int32) (g0 : Pic) (ex : (Pic)), f_X1_findSets_L7 g1 g2 n (x1, g0) = some ex → ∀ (H : Heap) (locs : List Loc) (ls : Array Slot), va_P (dC, dI) vwCl (wCl tc a0 g0 (a1 0) (a2 0) ++ (wTp tc a1 g1 ++ (wSt tc a2 g2 q2_18 q2_19))) H → va_S A s.heap H locs → lv_has ls 2 [(0, .ref (a0 0)), (1, .int x1)] → (∀ (k0 : Pic), k0 = ex → ∀ (H : Heap) (locs : List Loc) (ls : Array Slot), va_P (dC, dI) vwCl (wCl tc a0 k0 (a1 0) (a2 0) ++ (wTp tc a1 g1 ++ (wSt tc a2 g2 q2_18 q2_19))) H → va_S A s.heap H locs → lv_has ls 2 [(0, .ref (a0 0))] → W pr l e rm_X1_findSets s m args below meth c H locs 0 0 Q (F0 m 48 ls [])) → W pr l e rm_X1_findSets s m args below meth c H locs 0 0 Q (F0 m 7 ls []) := by
    intro n
    induction n with
    | zero => intro x1 g0 ex h; exact lp_z h
    | succ n ih =>
      intro x1 g0 ex h H locs ls hP hS hl K
      have h := lp_s h
      refine lv_iload_n X.1 X.2.1 dX1_findSets_7 rfl (lv_at hl 1 rfl) ?_
      refine lv_sipush (v := 256) X.1 X.2.1 dX1_findSets_8 (by decide) ?_
      refine lv_icmp_ge (tgt := 48) X.1 X.2.1 dX1_findSets_11 (by decide) (fun hc => ?_) (fun hc => ?_)
      · have h := it_t hc h
        exact K g0 (Option.some.inj h) H locs ls hP hS (lv_sub hl [0] rfl)
      · have h := it_f hc h
        refine lv_aload_n X.1 X.2.1 dX1_findSets_14 rfl (lv_at hl 0 rfl) ?_
        refine lv_iload_n X.1 X.2.1 dX1_findSets_15 rfl (lv_at hl 1 rfl) ?_
        obtain ⟨r_2, hc_2, h⟩ := bd_el h
        refine call_V1i (As := [.int x1]) (rest := []) X (c_X1_fitsSet l dC dI sk sv tc a0 a1 a2 q2_18 q2_19 g0 g1 g2 x1 hc_2) mw_6_160 mw_6_161 mw_6_162 mw_1_10 mw_6_163 dc_X1_fitsSet ⟨Nat.le_of_ble_eq_true rfl, Nat.le_of_ble_eq_true rfl⟩ rfl rfl ⟨Nat.zero_le _, Nat.zero_le _⟩ hP (hD _ _ _) hS 0 rfl rfl rfl hl.1 (Nat.le_of_ble_eq_true rfl) dX1_findSets_16 (fun H locs hP hS => ?_)
        obtain ⟨J42, eJ42, h⟩ := jn_el h
        have HJ42 : ∀ (g0_J42 : Pic) (H : Heap) (locs : List Loc) (ls : Array Slot), J42 g0_J42 = some ex → va_P (dC, dI) vwCl (wCl tc a0 g0_J42 (a1 0) (a2 0) ++ (wTp tc a1 g1 ++ (wSt tc a2 g2 q2_18 q2_19))) H → va_S A s.heap H locs → lv_has ls 2 [(0, .ref (a0 0)), (1, .int x1)] → W pr l e rm_X1_findSets s m args below meth c H locs 0 0 Q (F0 m 42 ls []) := by
          intro g0_J42 H locs ls h hP hS hl
          rw [eJ42] at h
          obtain ⟨x1_3, ex1_3, h⟩ := nm_el h
          refine lv_iinc (v := x1_3) (lv' := [(1, .int x1_3), (0, .ref (a0 0))]) X.1 X.2.1 dX1_findSets_42 hl (k := 1) rfl (by rw [ex1_3]; rfl) (by decide) rfl (fun ls hl => ?_)
          refine lv_goto (tgt := 7) X.1 X.2.1 dX1_findSets_45 (by decide) ?_
          exact ih x1_3 g0_J42 ex h H locs ls hP hS (lv_sub hl [1, 0] rfl) K
        refine lv_if_eq (tgt := 42) X.1 X.2.1 dX1_findSets_19 (by decide) (fun hc => ?_) (fun hc => ?_)
        · have h := it_t hc h
          exact HJ42 g0 H locs ls h hP hS (lv_sub hl [0, 1] rfl)
        · have h := it_f hc h
          refine lv_aload_n X.1 X.2.1 dX1_findSets_22 rfl (lv_at hl 0 rfl) ?_
          refine r_get (C := RX1) (T := TX1) (N := 6) (ci := 1) (v := .ref (a0 3)) X iw1 hP 0 rfl rfl 2 rfl mw_2_100 rfl dX1_findSets_23 ?_
          refine lv_aload_n X.1 X.2.1 dX1_findSets_26 rfl (lv_at hl 0 rfl) ?_
          refine r_get (C := RX1) (T := TX1) (N := 6) (ci := 1) (v := .int (g0 4 0)) X iw1 hP 0 rfl rfl 4 rfl mw_2_102 rfl dX1_findSets_27 ?_
          refine lv_iload_n X.1 X.2.1 dX1_findSets_30 rfl (lv_at hl 1 rfl) ?_
          obtain ⟨hg_4, h⟩ := gdi_el h
          obtain ⟨g0_5, eg0_5, h⟩ := nm_el h
          refine r_iast X hP (hD _ _ _) hS 1 0 rfl rfl hg_4 rfl dX1_findSets_31 (wCl tc a0 g0_5 (a1 0) (a2 0) ++ (wTp tc a1 g1 ++ (wSt tc a2 g2 q2_18 q2_19))) (by rw [eg0_5]; rfl) (fun H locs hP hS => ?_)
          refine lv_aload_n X.1 X.2.1 dX1_findSets_32 rfl (lv_at hl 0 rfl) ?_
          refine lv_dup X.1 X.2.1 dX1_findSets_33 rfl ?_
          refine r_get (C := RX1) (T := TX1) (N := 6) (ci := 1) (v := .int (g0_5 4 0)) X iw1 hP 0 rfl rfl 4 rfl mw_2_102 rfl dX1_findSets_34 ?_
          refine lv_iconst (v := 1) X.1 X.2.1 dX1_findSets_37 (by decide) ?_
          refine lv_iadd X.1 X.2.1 dX1_findSets_38 ?_
          obtain ⟨g0_6, eg0_6, h⟩ := nm_el h
          refine r_put (C := RX1) (T := TX1) (N := 6) (ci := 1) tyX1 tyX1_ok nmX1 X iw1 hP (hD _ _ _) hS 0 rfl rfl 4 rfl mw_2_102 rfl rfl rfl rfl dX1_findSets_39 (wCl tc a0 g0_6 (a1 0) (a2 0) ++ (wTp tc a1 g1 ++ (wSt tc a2 g2 q2_18 q2_19))) (by rw [eg0_6]; rfl) (fun H locs hP hS => ?_)
          exact HJ42 g0_6 H locs ls h hP hS (lv_sub hl [0, 1] rfl)
  unfold f_X1_findSets at h
  refine lv_aload_n X.1 X.2.1 dX1_findSets_0 rfl (lv_at hl 0 rfl) ?_
  refine lv_iconst (v := 0) X.1 X.2.1 dX1_findSets_1 (by decide) ?_
  obtain ⟨g0_1, eg0_1, h⟩ := nm_el h
  refine r_put (C := RX1) (T := TX1) (N := 6) (ci := 1) tyX1 tyX1_ok nmX1 X iw1 hP (hD _ _ _) hS 0 rfl rfl 4 rfl mw_2_102 rfl rfl rfl rfl dX1_findSets_2 (wCl tc a0 g0_1 (a1 0) (a2 0) ++ (wTp tc a1 g1 ++ (wSt tc a2 g2 q2_18 q2_19))) (by rw [eg0_1]; rfl) (fun H locs hP hS => ?_)
  refine lv_iconst (v := 0) X.1 X.2.1 dX1_findSets_5 (by decide) ?_
  refine lv_istore_n (lv' := [(1, .int 0), (0, .ref (a0 0))]) X.1 X.2.1 dX1_findSets_6 rfl hl (by decide) rfl (fun ls hl => ?_)
  obtain ⟨ex_7, hL_7, h⟩ := bd_el h
  refine HL7  fu 0 g0_1 ex_7 hL_7 H locs ls hP hS (lv_sub hl [1, 0] rfl) (fun g0_7 he H locs ls hP hS hl => ?_)
  subst he
  refine lv_aload_n X.1 X.2.1 dX1_findSets_48 rfl (lv_at hl 0 rfl) ?_
  refine r_get (C := RX1) (T := TX1) (N := 6) (ci := 1) (v := .int (g0_7 4 0)) X iw1 hP 0 rfl rfl 4 rfl mw_2_102 rfl dX1_findSets_49 ?_
  exact ret_i (fun u => (wCl tc a0 u (a1 0) (a2 0) ++ (wTp tc a1 g1 ++ (wSt tc a2 g2 q2_18 q2_19)))) (res := (r0, G0)) (Option.some.inj h) X hQ hP hS dX1_findSets_52

def f_X1_leastSet (g0 : Pic) (g1 : Pic) (g2 : Pic) : Option (Int32) := jn (fun (s0_J17 : Int32) => some s0_J17) (fun J17 => (if (g0 4 0) ≤ 0 then J17 (-1) else J17 (g0 2 0)))
abbrev rm_X1_leastSet : Room := { frames := 0, cells := 0, slots := 0, locals := 0 }
set_option maxHeartbeats 4000000 in
set_option maxRecDepth 100000 in
theorem c_X1_leastSet (l : Launch) (dC : Nat → ClassId) (dI : Nat → Nat → Nat) (sk sv : Nat → Nat) (tc : Nat → ClassId) (a0 : Nat → Nat) (a1 : Nat → Nat) (a2 : Nat → Nat) (q2_18 : Option Nat) (q2_19 : Nat) (g0 : Pic) (g1 : Pic) (g2 : Pic) {r0 : Int32} (h : f_X1_leastSet g0 g1 g2 = some r0) : CT l (dC, dI) sk sv (TY tc) yX1_leastSet cX1_leastSet 1 (some .int) rm_X1_leastSet [.ref (a0 0)] (wCl tc a0 g0 (a1 0) (a2 0) ++ (wTp tc a1 g1 ++ (wSt tc a2 g2 q2_18 q2_19))) (some (.int r0)) (wCl tc a0 g0 (a1 0) (a2 0) ++ (wTp tc a1 g1 ++ (wSt tc a2 g2 q2_18 q2_19))) := by
  refine ofCT (by decide) (Nat.le_of_ble_eq_true rfl) ?_
  intro pr e s m args below meth c A Q ls H locs X hQ hD0 hP hS hl
  have hD : ∀ z0 z1 z2, va_D A (wCl tc a0 z0 (a1 0) (a2 0) ++ (wTp tc a1 z1 ++ (wSt tc a2 z2 q2_18 q2_19))) := fun z0 z1 z2 => D_fst (ws := (wCl tc a0 g0 (a1 0) (a2 0) ++ (wTp tc a1 g1 ++ (wSt tc a2 g2 q2_18 q2_19)))) rfl hD0
  have hl : lv_has ls 1 [(0, .ref (a0 0))] := hl
  unfold f_X1_leastSet at h
  refine lv_aload_n X.1 X.2.1 dX1_leastSet_0 rfl (lv_at hl 0 rfl) ?_
  refine r_get (C := RX1) (T := TX1) (N := 6) (ci := 1) (v := .int (g0 4 0)) X iw1 hP 0 rfl rfl 4 rfl mw_2_102 rfl dX1_leastSet_1 ?_
  obtain ⟨J17, eJ17, h⟩ := jn_el h
  have HJ17 : ∀ (s0_J17 : Int32) (H : Heap) (locs : List Loc) (ls : Array Slot), J17 s0_J17 = some r0 → va_P (dC, dI) vwCl (wCl tc a0 g0 (a1 0) (a2 0) ++ (wTp tc a1 g1 ++ (wSt tc a2 g2 q2_18 q2_19))) H → va_S A s.heap H locs → lv_has ls 1 [] → W pr l e rm_X1_leastSet s m args below meth c H locs 0 0 Q (F0 m 17 ls [.int s0_J17]) := by
    intro s0_J17 H locs ls h hP hS hl
    rw [eJ17] at h
    exact ret_i0 (Option.some.inj h) X hQ hP hS dX1_leastSet_17
  refine lv_if_le (tgt := 16) X.1 X.2.1 dX1_leastSet_4 (by decide) (fun hc => ?_) (fun hc => ?_)
  · have h := it_t hc h
    refine lv_iconst (v := (-1)) X.1 X.2.1 dX1_leastSet_16 (by decide) ?_
    exact HJ17 (-1) H locs ls h hP hS (lv_sub hl [] rfl)
  · have h := it_f hc h
    refine lv_aload_n X.1 X.2.1 dX1_leastSet_7 rfl (lv_at hl 0 rfl) ?_
    refine r_get (C := RX1) (T := TX1) (N := 6) (ci := 1) (v := .ref (a0 3)) X iw1 hP 0 rfl rfl 2 rfl mw_2_100 rfl dX1_leastSet_8 ?_
    refine lv_iconst (v := 0) X.1 X.2.1 dX1_leastSet_11 (by decide) ?_
    refine r_iald X hP 1 0 rfl rfl (j := 0) (by unfold vp_in; decide) (by decide) dX1_leastSet_12 ?_
    refine lv_goto (tgt := 17) X.1 X.2.1 dX1_leastSet_13 (by decide) ?_
    exact HJ17 (g0 2 0) H locs ls h hP hS (lv_sub hl [] rfl)

def f_X1_greatestPartOf_L12 (x1 : Int32) (g1 : Pic) (g2 : Pic) (n : Nat) (a : Int32 × Int32 × Pic) : Option (Int32 × Pic) := lp (fun (rec : Int32 × Int32 × Pic → Option (Int32 × Pic)) (a : Int32 × Int32 × Pic) => match a with | (x2, x3, g0) => (if (g0 4 0) ≤ x3 then some (x2, g0) else gdi x3 256 (bd (f_X9_strokesOf g2 x1 (g0 2 (x3.toNatClampNeg))) (fun r_3 => gdi r_3 9 (gdi r_3 9 (nm (pu g0 3 (r_3.toNatClampNeg) ((g0 3 (r_3.toNatClampNeg)) + 1)) (fun g0_6 => gdi r_3 9 (nm ((if x2 < (g0_6 3 (r_3.toNatClampNeg)) then (g0_6 3 (r_3.toNatClampNeg)) else x2)) (fun x2_8 => nm (x3 + 1) (fun x3_9 => rec (x2_8, x3_9, g0_6))))))))))) n a
def f_X1_greatestPartOf (g0 : Pic) (g1 : Pic) (g2 : Pic) (x1 : Int32) : Option (Int32 × Pic) := nm (pr_ g0 3 (fl 9 0 (g0 3))) (fun g0_1 => bd (f_X1_greatestPartOf_L12 x1 g1 g2 fu (0, 0, g0_1)) (fun (x2_10, g0_10) => some (x2_10, g0_10)))
abbrev rm_X1_greatestPartOf : Room := { frames := 1, cells := 0, slots := 0, locals := 40 }
set_option maxHeartbeats 4000000 in
set_option maxRecDepth 100000 in
theorem c_X1_greatestPartOf (l : Launch) (dC : Nat → ClassId) (dI : Nat → Nat → Nat) (sk sv : Nat → Nat) (tc : Nat → ClassId) (a0 : Nat → Nat) (a1 : Nat → Nat) (a2 : Nat → Nat) (q2_18 : Option Nat) (q2_19 : Nat) (g0 : Pic) (g1 : Pic) (g2 : Pic) (x1 : Int32) {r0 : Int32} {G0 : Pic} (h : f_X1_greatestPartOf g0 g1 g2 x1 = some (r0, G0)) : CT l (dC, dI) sk sv (TY tc) yX1_greatestPartOf cX1_greatestPartOf 5 (some .int) rm_X1_greatestPartOf [.ref (a0 0), .int x1] (wCl tc a0 g0 (a1 0) (a2 0) ++ (wTp tc a1 g1 ++ (wSt tc a2 g2 q2_18 q2_19))) (some (.int r0)) (wCl tc a0 G0 (a1 0) (a2 0) ++ (wTp tc a1 g1 ++ (wSt tc a2 g2 q2_18 q2_19))) := by
  refine ofCT (by decide) (Nat.le_of_ble_eq_true rfl) ?_
  intro pr e s m args below meth c A Q ls H locs X hQ hD0 hP hS hl
  have hD : ∀ z0 z1 z2, va_D A (wCl tc a0 z0 (a1 0) (a2 0) ++ (wTp tc a1 z1 ++ (wSt tc a2 z2 q2_18 q2_19))) := fun z0 z1 z2 => D_fst (ws := (wCl tc a0 g0 (a1 0) (a2 0) ++ (wTp tc a1 g1 ++ (wSt tc a2 g2 q2_18 q2_19)))) rfl hD0
  have hl : lv_has ls 5 [(0, .ref (a0 0)), (1, .int x1)] := hl
  have HL12 : ∀ (x1 : Int32) (n : Nat) (x2 : Int32) (x3 : Int32) (g0 : Pic) (ex : (Int32 × Pic)), f_X1_greatestPartOf_L12 x1 g1 g2 n (x2, x3, g0) = some ex → ∀ (H : Heap) (locs : List Loc) (ls : Array Slot), va_P (dC, dI) vwCl (wCl tc a0 g0 (a1 0) (a2 0) ++ (wTp tc a1 g1 ++ (wSt tc a2 g2 q2_18 q2_19))) H → va_S A s.heap H locs → lv_has ls 5 [(0, .ref (a0 0)), (1, .int x1), (2, .int x2), (3, .int x3)] → (∀ (y2 : Int32) (k0 : Pic), (y2, k0) = ex → ∀ (H : Heap) (locs : List Loc) (ls : Array Slot), va_P (dC, dI) vwCl (wCl tc a0 k0 (a1 0) (a2 0) ++ (wTp tc a1 g1 ++ (wSt tc a2 g2 q2_18 q2_19))) H → va_S A s.heap H locs → lv_has ls 5 [(2, .int y2)] → W pr l e rm_X1_greatestPartOf s m args below meth c H locs 0 0 Q (F0 m 65 ls [])) → W pr l e rm_X1_greatestPartOf s m args below meth c H locs 0 0 Q (F0 m 12 ls []) := by
    intro x1 n
    induction n with
    | zero => intro x2 x3 g0 ex h; exact lp_z h
    | succ n ih =>
      intro x2 x3 g0 ex h H locs ls hP hS hl K
      have h := lp_s h
      refine lv_iload_n X.1 X.2.1 dX1_greatestPartOf_12 rfl (lv_at hl 3 rfl) ?_
      refine lv_aload_n X.1 X.2.1 dX1_greatestPartOf_13 rfl (lv_at hl 0 rfl) ?_
      refine r_get (C := RX1) (T := TX1) (N := 6) (ci := 1) (v := .int (g0 4 0)) X iw1 hP 0 rfl rfl 4 rfl mw_2_102 rfl dX1_greatestPartOf_14 ?_
      refine lv_icmp_ge (tgt := 65) X.1 X.2.1 dX1_greatestPartOf_17 (by decide) (fun hc => ?_) (fun hc => ?_)
      · have h := it_t hc h
        exact K x2 g0 (Option.some.inj h) H locs ls hP hS (lv_sub hl [2] rfl)
      · have h := it_f hc h
        refine lv_aload_n X.1 X.2.1 dX1_greatestPartOf_20 rfl (lv_at hl 0 rfl) ?_
        refine r_get (C := RX1) (T := TX1) (N := 6) (ci := 1) (v := .ref (a2 0)) X iw1 hP 0 rfl rfl 1 rfl mw_2_99 rfl dX1_greatestPartOf_21 ?_
        refine lv_iload_n X.1 X.2.1 dX1_greatestPartOf_24 rfl (lv_at hl 1 rfl) ?_
        refine lv_aload_n X.1 X.2.1 dX1_greatestPartOf_25 rfl (lv_at hl 0 rfl) ?_
        refine r_get (C := RX1) (T := TX1) (N := 6) (ci := 1) (v := .ref (a0 3)) X iw1 hP 0 rfl rfl 2 rfl mw_2_100 rfl dX1_greatestPartOf_26 ?_
        refine lv_iload_n X.1 X.2.1 dX1_greatestPartOf_29 rfl (lv_at hl 3 rfl) ?_
        obtain ⟨hg_2, h⟩ := gdi_el h
        refine r_iald X hP 1 0 rfl rfl hg_2 rfl dX1_greatestPartOf_30 ?_
        obtain ⟨r_3, hc_3, h⟩ := bd_el h
        refine call_Vsi (ws := (wCl tc a0 g0 (a1 0) (a2 0) ++ (wTp tc a1 g1 ++ (wSt tc a2 g2 q2_18 q2_19)))) (ws' := (wCl tc a0 g0 (a1 0) (a2 0) ++ (wTp tc a1 g1 ++ (wSt tc a2 g2 q2_18 q2_19)))) (wCl tc a0 g0 (a1 0) (a2 0) ++ (wTp tc a1 g1)) [] (As := [.int x1, .int (g0 2 (x3.toNatClampNeg))]) (rest := []) X (c_X9_strokesOf l dC dI sk sv tc a2 q2_18 q2_19 g2 x1 (g0 2 (x3.toNatClampNeg)) hc_3) mw_6_164 mw_5_120 mw_5_121 mw_1_3 mw_5_122 dc_X9_strokesOf ⟨Nat.le_of_ble_eq_true rfl, Nat.le_of_ble_eq_true rfl⟩ rfl rfl ⟨Nat.zero_le _, Nat.zero_le _⟩ (by simp only [List.append_assoc, List.nil_append, List.append_nil]) (by simp only [List.append_assoc, List.nil_append, List.append_nil]) hP (hD _ _ _) hS 0 rfl rfl rfl hl.1 (Nat.le_of_ble_eq_true rfl) dX1_greatestPartOf_31 (fun H locs hP hS => ?_)
        refine lv_istore (lv' := [(4, .int r_3), (0, .ref (a0 0)), (1, .int x1), (2, .int x2), (3, .int x3)]) X.1 X.2.1 dX1_greatestPartOf_34 hl (by decide) rfl (fun ls hl => ?_)
        refine lv_aload_n X.1 X.2.1 dX1_greatestPartOf_36 rfl (lv_at hl 1 rfl) ?_
        refine r_get (C := RX1) (T := TX1) (N := 6) (ci := 1) (v := .ref (a0 4)) X iw1 hP 0 rfl rfl 3 rfl mw_2_101 rfl dX1_greatestPartOf_37 ?_
        refine lv_iload X.1 X.2.1 dX1_greatestPartOf_40 (lv_at hl 0 rfl) ?_
        refine lv_dup2_11 X.1 X.2.1 dX1_greatestPartOf_42 rfl rfl ?_
        obtain ⟨hg_4, h⟩ := gdi_el h
        refine r_iald X hP 2 0 rfl rfl hg_4 rfl dX1_greatestPartOf_43 ?_
        refine lv_iconst (v := 1) X.1 X.2.1 dX1_greatestPartOf_44 (by decide) ?_
        refine lv_iadd X.1 X.2.1 dX1_greatestPartOf_45 ?_
        obtain ⟨hg_5, h⟩ := gdi_el h
        obtain ⟨g0_6, eg0_6, h⟩ := nm_el h
        refine r_iast X hP (hD _ _ _) hS 2 0 rfl rfl hg_5 rfl dX1_greatestPartOf_46 (wCl tc a0 g0_6 (a1 0) (a2 0) ++ (wTp tc a1 g1 ++ (wSt tc a2 g2 q2_18 q2_19))) (by rw [eg0_6]; rfl) (fun H locs hP hS => ?_)
        refine lv_iload_n X.1 X.2.1 dX1_greatestPartOf_47 rfl (lv_at hl 3 rfl) ?_
        refine lv_aload_n X.1 X.2.1 dX1_greatestPartOf_48 rfl (lv_at hl 1 rfl) ?_
        refine r_get (C := RX1) (T := TX1) (N := 6) (ci := 1) (v := .ref (a0 4)) X iw1 hP 0 rfl rfl 3 rfl mw_2_101 rfl dX1_greatestPartOf_49 ?_
        refine lv_iload X.1 X.2.1 dX1_greatestPartOf_52 (lv_at hl 0 rfl) ?_
        obtain ⟨hg_7, h⟩ := gdi_el h
        refine r_iald X hP 2 0 rfl rfl hg_7 rfl dX1_greatestPartOf_54 ?_
        refine r_max X mw_6_144 mw_3_21 mw_1_25 mw_3_22 hl.1 (Nat.le_of_ble_eq_true rfl) (Nat.le_of_ble_eq_true rfl) ⟨Nat.zero_le _, Nat.zero_le _⟩ dX1_greatestPartOf_55 ?_
        obtain ⟨x2_8, ex2_8, h⟩ := nm_el h
        refine tp_i ex2_8 ?_
        refine lv_istore_n (lv' := [(2, .int x2_8), (4, .int r_3), (0, .ref (a0 0)), (1, .int x1), (3, .int x3)]) X.1 X.2.1 dX1_greatestPartOf_58 rfl hl (by decide) rfl (fun ls hl => ?_)
        obtain ⟨x3_9, ex3_9, h⟩ := nm_el h
        refine lv_iinc (v := x3_9) (lv' := [(3, .int x3_9), (2, .int x2_8), (4, .int r_3), (0, .ref (a0 0)), (1, .int x1)]) X.1 X.2.1 dX1_greatestPartOf_59 hl (k := 4) rfl (by rw [ex3_9]; rfl) (by decide) rfl (fun ls hl => ?_)
        refine lv_goto (tgt := 12) X.1 X.2.1 dX1_greatestPartOf_62 (by decide) ?_
        exact ih x2_8 x3_9 g0_6 ex h H locs ls hP hS (lv_sub hl [3, 4, 1, 0] rfl) K
  unfold f_X1_greatestPartOf at h
  refine lv_aload_n X.1 X.2.1 dX1_greatestPartOf_0 rfl (lv_at hl 0 rfl) ?_
  refine r_get (C := RX1) (T := TX1) (N := 6) (ci := 1) (v := .ref (a0 4)) X iw1 hP 0 rfl rfl 3 rfl mw_2_101 rfl dX1_greatestPartOf_1 ?_
  refine lv_iconst (v := 0) X.1 X.2.1 dX1_greatestPartOf_4 (by decide) ?_
  obtain ⟨g0_1, eg0_1, h⟩ := nm_el h
  refine call_cell (ws' := (wCl tc a0 g0_1 (a1 0) (a2 0) ++ (wTp tc a1 g1 ++ (wSt tc a2 g2 q2_18 q2_19)))) (As := [.ref (a0 4), .int 0]) (rest := []) X (c_fill l dC dI sk sv tc (a0 4) 9 (g0 3) 0 (by decide)) mw_6_141 mw_6_142 mw_1_24 mw_6_143 dc_J7_fill_53178 ⟨(Nat.le_of_ble_eq_true rfl), (Nat.le_of_ble_eq_true rfl)⟩ rfl rfl ⟨Nat.zero_le _, Nat.zero_le _⟩ hP (hD _ _ _) hS 2 rfl (by rw [eg0_1]; rfl) hl.1 (Nat.le_of_ble_eq_true rfl) dX1_greatestPartOf_5 (fun H locs hP hS => ?_)
  refine lv_iconst (v := 0) X.1 X.2.1 dX1_greatestPartOf_8 (by decide) ?_
  refine lv_istore_n (lv' := [(2, .int 0), (0, .ref (a0 0)), (1, .int x1)]) X.1 X.2.1 dX1_greatestPartOf_9 rfl hl (by decide) rfl (fun ls hl => ?_)
  refine lv_iconst (v := 0) X.1 X.2.1 dX1_greatestPartOf_10 (by decide) ?_
  refine lv_istore_n (lv' := [(3, .int 0), (2, .int 0), (0, .ref (a0 0)), (1, .int x1)]) X.1 X.2.1 dX1_greatestPartOf_11 rfl hl (by decide) rfl (fun ls hl => ?_)
  obtain ⟨ex_10, hL_10, h⟩ := bd_el h
  refine HL12 x1 fu 0 0 g0_1 ex_10 hL_10 H locs ls hP hS (lv_sub hl [2, 3, 1, 0] rfl) (fun x2_10 g0_10 he H locs ls hP hS hl => ?_)
  subst he
  refine lv_iload_n X.1 X.2.1 dX1_greatestPartOf_65 rfl (lv_at hl 0 rfl) ?_
  exact ret_i (fun u => (wCl tc a0 u (a1 0) (a2 0) ++ (wTp tc a1 g1 ++ (wSt tc a2 g2 q2_18 q2_19)))) (res := (r0, G0)) (Option.some.inj h) X hQ hP hS dX1_greatestPartOf_66

def f_X1_fittingWriters_L4 (g0 : Pic) (g1 : Pic) (g2 : Pic) (n : Nat) (a : Int32 × Int32) : Option (Int32) := lp (fun (rec : Int32 × Int32 → Option (Int32)) (a : Int32 × Int32) => match a with | (x1, x2) => (if (g2 7 0) ≤ x2 then some x1 else gdi x2 5 (bd (f_X1_fitsSet g0 g1 g2 (g2 8 (x2.toNatClampNeg))) (fun r_2 => jn (fun (x1_J37 : Int32) => nm (x2 + 1) (fun x2_3 => rec (x1_J37, x2_3))) (fun J37 => (if r_2 = 0 then J37 x1 else nm ((x1 ||| ((1 : Int32) <<< (x2 &&& 31)))) (fun x1_4 => J37 x1_4))))))) n a
def f_X1_fittingWriters (g0 : Pic) (g1 : Pic) (g2 : Pic) : Option (Int32) := bd (f_X1_fittingWriters_L4 g0 g1 g2 fu (0, 0)) (fun x1_5 => some x1_5)
abbrev rm_X1_fittingWriters : Room := { frames := 2, cells := 0, slots := 0, locals := 46 }
set_option maxHeartbeats 4000000 in
set_option maxRecDepth 100000 in
theorem c_X1_fittingWriters (l : Launch) (dC : Nat → ClassId) (dI : Nat → Nat → Nat) (sk sv : Nat → Nat) (tc : Nat → ClassId) (a0 : Nat → Nat) (a1 : Nat → Nat) (a2 : Nat → Nat) (q2_18 : Option Nat) (q2_19 : Nat) (g0 : Pic) (g1 : Pic) (g2 : Pic) {r0 : Int32} (h : f_X1_fittingWriters g0 g1 g2 = some r0) : CT l (dC, dI) sk sv (TY tc) yX1_fittingWriters cX1_fittingWriters 3 (some .int) rm_X1_fittingWriters [.ref (a0 0)] (wCl tc a0 g0 (a1 0) (a2 0) ++ (wTp tc a1 g1 ++ (wSt tc a2 g2 q2_18 q2_19))) (some (.int r0)) (wCl tc a0 g0 (a1 0) (a2 0) ++ (wTp tc a1 g1 ++ (wSt tc a2 g2 q2_18 q2_19))) := by
  refine ofCT (by decide) (Nat.le_of_ble_eq_true rfl) ?_
  intro pr e s m args below meth c A Q ls H locs X hQ hD0 hP hS hl
  have hD : ∀ z0 z1 z2, va_D A (wCl tc a0 z0 (a1 0) (a2 0) ++ (wTp tc a1 z1 ++ (wSt tc a2 z2 q2_18 q2_19))) := fun z0 z1 z2 => D_fst (ws := (wCl tc a0 g0 (a1 0) (a2 0) ++ (wTp tc a1 g1 ++ (wSt tc a2 g2 q2_18 q2_19)))) rfl hD0
  have hl : lv_has ls 3 [(0, .ref (a0 0))] := hl
  have HL4 : ∀ (n : Nat) (x1 : Int32) (x2 : Int32) (ex : (Int32)), f_X1_fittingWriters_L4 g0 g1 g2 n (x1, x2) = some ex → ∀ (H : Heap) (locs : List Loc) (ls : Array Slot), va_P (dC, dI) vwCl (wCl tc a0 g0 (a1 0) (a2 0) ++ (wTp tc a1 g1 ++ (wSt tc a2 g2 q2_18 q2_19))) H → va_S A s.heap H locs → lv_has ls 3 [(0, .ref (a0 0)), (1, .int x1), (2, .int x2)] → (∀ (y1 : Int32), y1 = ex → ∀ (H : Heap) (locs : List Loc) (ls : Array Slot), va_P (dC, dI) vwCl (wCl tc a0 g0 (a1 0) (a2 0) ++ (wTp tc a1 g1 ++ (wSt tc a2 g2 q2_18 q2_19))) H → va_S A s.heap H locs → lv_has ls 3 [(1, .int y1)] → W pr l e rm_X1_fittingWriters s m args below meth c H locs 0 0 Q (F0 m 43 ls [])) → W pr l e rm_X1_fittingWriters s m args below meth c H locs 0 0 Q (F0 m 4 ls []) := by
    intro n
    induction n with
    | zero => intro x1 x2 ex h; exact lp_z h
    | succ n ih =>
      intro x1 x2 ex h H locs ls hP hS hl K
      have h := lp_s h
      refine lv_iload_n X.1 X.2.1 dX1_fittingWriters_4 rfl (lv_at hl 2 rfl) ?_
      refine lv_aload_n X.1 X.2.1 dX1_fittingWriters_5 rfl (lv_at hl 0 rfl) ?_
      refine r_get (C := RX1) (T := TX1) (N := 6) (ci := 1) (v := .ref (a2 0)) X iw1 hP 0 rfl rfl 1 rfl mw_2_99 rfl dX1_fittingWriters_6 ?_
      refine r_get (C := RX9) (T := TX9) (N := 20) (ci := 9) (v := .int (g2 7 0)) X iw9 hP 5 rfl rfl 7 rfl mw_1_145 rfl dX1_fittingWriters_9 ?_
      refine lv_icmp_ge (tgt := 43) X.1 X.2.1 dX1_fittingWriters_12 (by decide) (fun hc => ?_) (fun hc => ?_)
      · have h := it_t hc h
        exact K x1 (Option.some.inj h) H locs ls hP hS (lv_sub hl [1] rfl)
      · have h := it_f hc h
        refine lv_aload_n X.1 X.2.1 dX1_fittingWriters_15 rfl (lv_at hl 0 rfl) ?_
        refine lv_aload_n X.1 X.2.1 dX1_fittingWriters_16 rfl (lv_at hl 0 rfl) ?_
        refine r_get (C := RX1) (T := TX1) (N := 6) (ci := 1) (v := .ref (a2 0)) X iw1 hP 0 rfl rfl 1 rfl mw_2_99 rfl dX1_fittingWriters_17 ?_
        refine r_get (C := RX9) (T := TX9) (N := 20) (ci := 9) (v := .ref (a2 9)) X iw9 hP 5 rfl rfl 8 rfl mw_1_152 rfl dX1_fittingWriters_20 ?_
        refine lv_iload_n X.1 X.2.1 dX1_fittingWriters_23 rfl (lv_at hl 2 rfl) ?_
        obtain ⟨hg_1, h⟩ := gdi_el h
        refine r_iald X hP 10 0 rfl rfl hg_1 rfl dX1_fittingWriters_24 ?_
        obtain ⟨r_2, hc_2, h⟩ := bd_el h
        refine call_V1i (As := [.int (g2 8 (x2.toNatClampNeg))]) (rest := []) X (c_X1_fitsSet l dC dI sk sv tc a0 a1 a2 q2_18 q2_19 g0 g1 g2 (g2 8 (x2.toNatClampNeg)) hc_2) mw_6_160 mw_6_161 mw_6_162 mw_1_10 mw_6_163 dc_X1_fitsSet ⟨Nat.le_of_ble_eq_true rfl, Nat.le_of_ble_eq_true rfl⟩ rfl rfl ⟨Nat.zero_le _, Nat.zero_le _⟩ hP (hD _ _ _) hS 0 rfl rfl rfl hl.1 (Nat.le_of_ble_eq_true rfl) dX1_fittingWriters_25 (fun H locs hP hS => ?_)
        obtain ⟨J37, eJ37, h⟩ := jn_el h
        have HJ37 : ∀ (x1_J37 : Int32) (H : Heap) (locs : List Loc) (ls : Array Slot), J37 x1_J37 = some ex → va_P (dC, dI) vwCl (wCl tc a0 g0 (a1 0) (a2 0) ++ (wTp tc a1 g1 ++ (wSt tc a2 g2 q2_18 q2_19))) H → va_S A s.heap H locs → lv_has ls 3 [(0, .ref (a0 0)), (1, .int x1_J37), (2, .int x2)] → W pr l e rm_X1_fittingWriters s m args below meth c H locs 0 0 Q (F0 m 37 ls []) := by
          intro x1_J37 H locs ls h hP hS hl
          rw [eJ37] at h
          obtain ⟨x2_3, ex2_3, h⟩ := nm_el h
          refine lv_iinc (v := x2_3) (lv' := [(2, .int x2_3), (0, .ref (a0 0)), (1, .int x1_J37)]) X.1 X.2.1 dX1_fittingWriters_37 hl (k := 2) rfl (by rw [ex2_3]; rfl) (by decide) rfl (fun ls hl => ?_)
          refine lv_goto (tgt := 4) X.1 X.2.1 dX1_fittingWriters_40 (by decide) ?_
          exact ih x1_J37 x2_3 ex h H locs ls hP hS (lv_sub hl [1, 2, 0] rfl) K
        refine lv_if_eq (tgt := 37) X.1 X.2.1 dX1_fittingWriters_28 (by decide) (fun hc => ?_) (fun hc => ?_)
        · have h := it_t hc h
          exact HJ37 x1 H locs ls h hP hS (lv_sub hl [0, 1, 2] rfl)
        · have h := it_f hc h
          refine lv_iload_n X.1 X.2.1 dX1_fittingWriters_31 rfl (lv_at hl 1 rfl) ?_
          refine lv_iconst (v := 1) X.1 X.2.1 dX1_fittingWriters_32 (by decide) ?_
          refine lv_iload_n X.1 X.2.1 dX1_fittingWriters_33 rfl (lv_at hl 2 rfl) ?_
          refine lv_ishl X.1 X.2.1 dX1_fittingWriters_34 ?_
          refine lv_ior X.1 X.2.1 dX1_fittingWriters_35 ?_
          obtain ⟨x1_4, ex1_4, h⟩ := nm_el h
          refine tp_i ex1_4 ?_
          refine lv_istore_n (lv' := [(1, .int x1_4), (0, .ref (a0 0)), (2, .int x2)]) X.1 X.2.1 dX1_fittingWriters_36 rfl hl (by decide) rfl (fun ls hl => ?_)
          exact HJ37 x1_4 H locs ls h hP hS (lv_sub hl [1, 0, 2] rfl)
  unfold f_X1_fittingWriters at h
  refine lv_iconst (v := 0) X.1 X.2.1 dX1_fittingWriters_0 (by decide) ?_
  refine lv_istore_n (lv' := [(1, .int 0), (0, .ref (a0 0))]) X.1 X.2.1 dX1_fittingWriters_1 rfl hl (by decide) rfl (fun ls hl => ?_)
  refine lv_iconst (v := 0) X.1 X.2.1 dX1_fittingWriters_2 (by decide) ?_
  refine lv_istore_n (lv' := [(2, .int 0), (1, .int 0), (0, .ref (a0 0))]) X.1 X.2.1 dX1_fittingWriters_3 rfl hl (by decide) rfl (fun ls hl => ?_)
  obtain ⟨ex_5, hL_5, h⟩ := bd_el h
  refine HL4  fu 0 0 ex_5 hL_5 H locs ls hP hS (lv_sub hl [2, 1, 0] rfl) (fun x1_5 he H locs ls hP hS hl => ?_)
  subst he
  refine lv_iload_n X.1 X.2.1 dX1_fittingWriters_43 rfl (lv_at hl 0 rfl) ?_
  exact ret_i0 (Option.some.inj h) X hQ hP hS dX1_fittingWriters_44

def f_X1_takeRows_L40 (x1 : Int32) (x2 : Int32) (g0 : Pic) (g1 : Pic) (g2 : Pic) (n : Nat) (a : Int32) : Option ((Int32 × Pic × Pic) ⊕ (Unit)) := lp (fun (rec : Int32 → Option ((Int32 × Pic × Pic) ⊕ (Unit))) (a : Int32) => (fun (x4 : Int32) => (if (g0 5 0) ≤ x4 then some (.inr ()) else bd (f_X1_firstOf g0 g1 g2 x4) (fun r_4 => jn (fun (_ : Unit) => some (.inl (0, g0, g1))) (fun J69 => (if x1 ≤ r_4 then J69 () else bd (f_X1_secondOf g0 g1 g2 x4) (fun r_5 => (if r_5 < x2 then nm (x4 + 1) (fun x4_6 => rec x4_6) else J69 ()))))))) a) n a
def f_X1_takeRows (g0 : Pic) (g1 : Pic) (g2 : Pic) (x1 : Int32) (x2 : Int32) : Option (Int32 × Pic × Pic) := nm ((g1 1 0)) (fun x3_1 => nm (pu g1 1 0 0) (fun g1_2 => nm (pu g0 5 0 (x3_1 / 2)) (fun g0_3 => jn (fun (_ : Unit) => some (0, g0_3, g1_2)) (fun J35 => (if 40 < x3_1 then J35 () else (if (x3_1 - x3_1 / 2 * 2) = 0 then lr (f_X1_takeRows_L40 x1 x2 g0_3 g1_2 g2 fu 0) (fun a => a) (fun _ => some (1, g0_3, g1_2)) else J35 ()))))))
abbrev rm_X1_takeRows : Room := { frames := 1, cells := 0, slots := 0, locals := 21 }
set_option maxHeartbeats 4000000 in
set_option maxRecDepth 100000 in
theorem c_X1_takeRows (l : Launch) (dC : Nat → ClassId) (dI : Nat → Nat → Nat) (sk sv : Nat → Nat) (tc : Nat → ClassId) (a0 : Nat → Nat) (a1 : Nat → Nat) (a2 : Nat → Nat) (q2_18 : Option Nat) (q2_19 : Nat) (g0 : Pic) (g1 : Pic) (g2 : Pic) (x1 : Int32) (x2 : Int32) {r0 : Int32} {G0 : Pic} {G1 : Pic} (h : f_X1_takeRows g0 g1 g2 x1 x2 = some (r0, G0, G1)) : CT l (dC, dI) sk sv (TY tc) yX1_takeRows cX1_takeRows 5 (some .boolean) rm_X1_takeRows [.ref (a0 0), .int x1, .int x2] (wCl tc a0 g0 (a1 0) (a2 0) ++ (wTp tc a1 g1 ++ (wSt tc a2 g2 q2_18 q2_19))) (some (.int r0)) (wCl tc a0 G0 (a1 0) (a2 0) ++ (wTp tc a1 G1 ++ (wSt tc a2 g2 q2_18 q2_19))) := by
  refine ofCT (by decide) (Nat.le_of_ble_eq_true rfl) ?_
  intro pr e s m args below meth c A Q ls H locs X hQ hD0 hP hS hl
  have hD : ∀ z0 z1 z2, va_D A (wCl tc a0 z0 (a1 0) (a2 0) ++ (wTp tc a1 z1 ++ (wSt tc a2 z2 q2_18 q2_19))) := fun z0 z1 z2 => D_fst (ws := (wCl tc a0 g0 (a1 0) (a2 0) ++ (wTp tc a1 g1 ++ (wSt tc a2 g2 q2_18 q2_19)))) rfl hD0
  have hl : lv_has ls 5 [(0, .ref (a0 0)), (1, .int x1), (2, .int x2)] := hl
  have HL40 : ∀ (x1 : Int32) (x2 : Int32) (g0 : Pic) (g1 : Pic) (n : Nat) (x4 : Int32) (ex : ((Int32 × Pic × Pic) ⊕ (Unit))), f_X1_takeRows_L40 x1 x2 g0 g1 g2 n x4 = some ex → (∀ rv, ex = .inl rv → rv = (r0, G0, G1)) → ∀ (H : Heap) (locs : List Loc) (ls : Array Slot), va_P (dC, dI) vwCl (wCl tc a0 g0 (a1 0) (a2 0) ++ (wTp tc a1 g1 ++ (wSt tc a2 g2 q2_18 q2_19))) H → va_S A s.heap H locs → lv_has ls 5 [(0, .ref (a0 0)), (1, .int x1), (2, .int x2), (4, .int x4)] → (.inr () = ex → ∀ (H : Heap) (locs : List Loc) (ls : Array Slot), va_P (dC, dI) vwCl (wCl tc a0 g0 (a1 0) (a2 0) ++ (wTp tc a1 g1 ++ (wSt tc a2 g2 q2_18 q2_19))) H → va_S A s.heap H locs → lv_has ls 5 [] → W pr l e rm_X1_takeRows s m args below meth c H locs 0 0 Q (F0 m 77 ls [])) → W pr l e rm_X1_takeRows s m args below meth c H locs 0 0 Q (F0 m 40 ls []) := by
    intro x1 x2 g0 g1 n
    induction n with
    | zero => intro x4 ex h; exact lp_z h
    | succ n ih =>
      intro x4 ex h hR H locs ls hP hS hl K
      have h := lp_s h
      refine lv_iload X.1 X.2.1 dX1_takeRows_40 (lv_at hl 3 rfl) ?_
      refine lv_aload_n X.1 X.2.1 dX1_takeRows_42 rfl (lv_at hl 0 rfl) ?_
      refine r_get (C := RX1) (T := TX1) (N := 6) (ci := 1) (v := .int (g0 5 0)) X iw1 hP 0 rfl rfl 5 rfl mw_2_103 rfl dX1_takeRows_43 ?_
      refine lv_icmp_ge (tgt := 77) X.1 X.2.1 dX1_takeRows_46 (by decide) (fun hc => ?_) (fun hc => ?_)
      · have h := it_t hc h
        exact K  (Option.some.inj h) H locs ls hP hS (lv_sub hl [] rfl)
      · have h := it_f hc h
        refine lv_aload_n X.1 X.2.1 dX1_takeRows_49 rfl (lv_at hl 0 rfl) ?_
        refine lv_iload X.1 X.2.1 dX1_takeRows_50 (lv_at hl 3 rfl) ?_
        obtain ⟨r_4, hc_4, h⟩ := bd_el h
        refine call_V1i (As := [.int x4]) (rest := []) X (c_X1_firstOf l dC dI sk sv tc a0 a1 a2 q2_18 q2_19 g0 g1 g2 x4 hc_4) mw_6_91 mw_6_92 mw_6_93 mw_1_10 mw_6_94 dc_X1_firstOf ⟨Nat.le_of_ble_eq_true rfl, Nat.le_of_ble_eq_true rfl⟩ rfl rfl ⟨Nat.zero_le _, Nat.zero_le _⟩ hP (hD _ _ _) hS 0 rfl rfl rfl hl.1 (Nat.le_of_ble_eq_true rfl) dX1_takeRows_52 (fun H locs hP hS => ?_)
        refine lv_iload_n X.1 X.2.1 dX1_takeRows_55 rfl (lv_at hl 1 rfl) ?_
        obtain ⟨J69, eJ69, h⟩ := jn_el h
        have HJ69 : ∀ (_ : Unit) (H : Heap) (locs : List Loc) (ls : Array Slot), J69 () = some ex → va_P (dC, dI) vwCl (wCl tc a0 g0 (a1 0) (a2 0) ++ (wTp tc a1 g1 ++ (wSt tc a2 g2 q2_18 q2_19))) H → va_S A s.heap H locs → lv_has ls 5 [] → W pr l e rm_X1_takeRows s m args below meth c H locs 0 0 Q (F0 m 69 ls []) := by
          intro _ H locs ls h hP hS hl
          rw [eJ69] at h
          refine lv_iconst (v := 0) X.1 X.2.1 dX1_takeRows_69 (by decide) ?_
          exact ret_z (fun u => (wCl tc a0 u.1 (a1 0) (a2 0) ++ (wTp tc a1 u.2 ++ (wSt tc a2 g2 q2_18 q2_19)))) (res := (r0, G0, G1)) (by decide) (hR _ (Option.some.inj h).symm) X hQ hP hS dX1_takeRows_70
        refine lv_icmp_ge (tgt := 69) X.1 X.2.1 dX1_takeRows_56 (by decide) (fun hc => ?_) (fun hc => ?_)
        · have h := it_t hc h
          exact HJ69 () H locs ls h hP hS (lv_sub hl [] rfl)
        · have h := it_f hc h
          refine lv_aload_n X.1 X.2.1 dX1_takeRows_59 rfl (lv_at hl 0 rfl) ?_
          refine lv_iload X.1 X.2.1 dX1_takeRows_60 (lv_at hl 3 rfl) ?_
          obtain ⟨r_5, hc_5, h⟩ := bd_el h
          refine call_V1i (As := [.int x4]) (rest := []) X (c_X1_secondOf l dC dI sk sv tc a0 a1 a2 q2_18 q2_19 g0 g1 g2 x4 hc_5) mw_6_95 mw_6_96 mw_6_97 mw_1_10 mw_6_98 dc_X1_secondOf ⟨Nat.le_of_ble_eq_true rfl, Nat.le_of_ble_eq_true rfl⟩ rfl rfl ⟨Nat.zero_le _, Nat.zero_le _⟩ hP (hD _ _ _) hS 0 rfl rfl rfl hl.1 (Nat.le_of_ble_eq_true rfl) dX1_takeRows_62 (fun H locs hP hS => ?_)
          refine lv_iload_n X.1 X.2.1 dX1_takeRows_65 rfl (lv_at hl 2 rfl) ?_
          refine lv_icmp_lt (tgt := 71) X.1 X.2.1 dX1_takeRows_66 (by decide) (fun hc => ?_) (fun hc => ?_)
          · have h := it_t hc h
            obtain ⟨x4_6, ex4_6, h⟩ := nm_el h
            refine lv_iinc (v := x4_6) (lv' := [(4, .int x4_6), (0, .ref (a0 0)), (1, .int x1), (2, .int x2)]) X.1 X.2.1 dX1_takeRows_71 hl (k := 3) rfl (by rw [ex4_6]; rfl) (by decide) rfl (fun ls hl => ?_)
            refine lv_goto (tgt := 40) X.1 X.2.1 dX1_takeRows_74 (by decide) ?_
            exact ih x4_6 ex h hR H locs ls hP hS (lv_sub hl [1, 2, 3, 0] rfl) K
          · have h := it_f hc h
            exact HJ69 () H locs ls h hP hS (lv_sub hl [] rfl)
  unfold f_X1_takeRows at h
  refine lv_aload_n X.1 X.2.1 dX1_takeRows_0 rfl (lv_at hl 0 rfl) ?_
  refine r_get (C := RX1) (T := TX1) (N := 6) (ci := 1) (v := .ref (a1 0)) X iw1 hP 0 rfl rfl 0 rfl mw_2_98 rfl dX1_takeRows_1 ?_
  refine r_get (C := RX10) (T := TX10) (N := 8) (ci := 10) (v := .int (g1 1 0)) X iw10 hP 3 rfl rfl 1 rfl mw_1_48 rfl dX1_takeRows_4 ?_
  obtain ⟨x3_1, ex3_1, h⟩ := nm_el h
  refine tp_i ex3_1 ?_
  refine lv_istore_n (lv' := [(3, .int x3_1), (0, .ref (a0 0)), (1, .int x1), (2, .int x2)]) X.1 X.2.1 dX1_takeRows_7 rfl hl (by decide) rfl (fun ls hl => ?_)
  refine lv_aload_n X.1 X.2.1 dX1_takeRows_8 rfl (lv_at hl 1 rfl) ?_
  refine r_get (C := RX1) (T := TX1) (N := 6) (ci := 1) (v := .ref (a1 0)) X iw1 hP 0 rfl rfl 0 rfl mw_2_98 rfl dX1_takeRows_9 ?_
  refine lv_iconst (v := 0) X.1 X.2.1 dX1_takeRows_12 (by decide) ?_
  obtain ⟨g1_2, eg1_2, h⟩ := nm_el h
  refine r_put (C := RX10) (T := TX10) (N := 8) (ci := 10) tyX10 tyX10_ok nmX10 X iw10 hP (hD _ _ _) hS 3 rfl rfl 1 rfl mw_1_48 rfl rfl rfl rfl dX1_takeRows_13 (wCl tc a0 g0 (a1 0) (a2 0) ++ (wTp tc a1 g1_2 ++ (wSt tc a2 g2 q2_18 q2_19))) (by rw [eg1_2]; rfl) (fun H locs hP hS => ?_)
  refine lv_aload_n X.1 X.2.1 dX1_takeRows_16 rfl (lv_at hl 1 rfl) ?_
  refine lv_iload_n X.1 X.2.1 dX1_takeRows_17 rfl (lv_at hl 0 rfl) ?_
  refine lv_iconst (v := 2) X.1 X.2.1 dX1_takeRows_18 (by decide) ?_
  refine lv_idiv X.1 X.2.1 dX1_takeRows_19 (by decide) ?_
  obtain ⟨g0_3, eg0_3, h⟩ := nm_el h
  refine r_put (C := RX1) (T := TX1) (N := 6) (ci := 1) tyX1 tyX1_ok nmX1 X iw1 hP (hD _ _ _) hS 0 rfl rfl 5 rfl mw_2_103 rfl rfl rfl rfl dX1_takeRows_20 (wCl tc a0 g0_3 (a1 0) (a2 0) ++ (wTp tc a1 g1_2 ++ (wSt tc a2 g2 q2_18 q2_19))) (by rw [eg0_3]; rfl) (fun H locs hP hS => ?_)
  refine lv_iload_n X.1 X.2.1 dX1_takeRows_23 rfl (lv_at hl 0 rfl) ?_
  refine lv_bipush (v := 40) X.1 X.2.1 dX1_takeRows_24 (by decide) ?_
  obtain ⟨J35, eJ35, h⟩ := jn_el h
  have HJ35 : ∀ (_ : Unit) (H : Heap) (locs : List Loc) (ls : Array Slot), J35 () = some (r0, G0, G1) → va_P (dC, dI) vwCl (wCl tc a0 g0_3 (a1 0) (a2 0) ++ (wTp tc a1 g1_2 ++ (wSt tc a2 g2 q2_18 q2_19))) H → va_S A s.heap H locs → lv_has ls 5 [] → W pr l e rm_X1_takeRows s m args below meth c H locs 0 0 Q (F0 m 35 ls []) := by
    intro _ H locs ls h hP hS hl
    rw [eJ35] at h
    refine lv_iconst (v := 0) X.1 X.2.1 dX1_takeRows_35 (by decide) ?_
    exact ret_z (fun u => (wCl tc a0 u.1 (a1 0) (a2 0) ++ (wTp tc a1 u.2 ++ (wSt tc a2 g2 q2_18 q2_19)))) (res := (r0, G0, G1)) (by decide) (Option.some.inj h) X hQ hP hS dX1_takeRows_36
  refine lv_icmp_gt (tgt := 35) X.1 X.2.1 dX1_takeRows_26 (by decide) (fun hc => ?_) (fun hc => ?_)
  · have h := it_t hc h
    exact HJ35 () H locs ls h hP hS (lv_sub hl [] rfl)
  · have h := it_f hc h
    refine lv_iload_n X.1 X.2.1 dX1_takeRows_29 rfl (lv_at hl 0 rfl) ?_
    refine lv_iconst (v := 2) X.1 X.2.1 dX1_takeRows_30 (by decide) ?_
    refine lv_irem X.1 X.2.1 dX1_takeRows_31 (by decide) ?_
    refine lv_if_eq (tgt := 37) X.1 X.2.1 dX1_takeRows_32 (by decide) (fun hc => ?_) (fun hc => ?_)
    · have h := it_t hc h
      refine lv_iconst (v := 0) X.1 X.2.1 dX1_takeRows_37 (by decide) ?_
      refine lv_istore (lv' := [(4, .int 0), (3, .int x3_1), (0, .ref (a0 0)), (1, .int x1), (2, .int x2)]) X.1 X.2.1 dX1_takeRows_38 hl (by decide) rfl (fun ls hl => ?_)
      obtain ⟨ex_7, hL_7, h1_7, h2_7⟩ := lr_el h
      refine HL40 x1 x2 g0_3 g1_2 fu 0 ex_7 hL_7 (fun rv hq => h1_7 rv hq) H locs ls hP hS (lv_sub hl [2, 3, 4, 0] rfl) (fun  he H locs ls hP hS hl => ?_)
      have h := h2_7 _ he.symm
      refine lv_iconst (v := 1) X.1 X.2.1 dX1_takeRows_77 (by decide) ?_
      exact ret_z (fun u => (wCl tc a0 u.1 (a1 0) (a2 0) ++ (wTp tc a1 u.2 ++ (wSt tc a2 g2 q2_18 q2_19)))) (res := (r0, G0, G1)) (by decide) (Option.some.inj h) X hQ hP hS dX1_takeRows_78
    · have h := it_f hc h
      exact HJ35 () H locs ls h hP hS (lv_sub hl [] rfl)

def f_X1_placeToLook_L23 (x1 : Int32) (g1 : Pic) (g2 : Pic) (n : Nat) (a : Int32 × Int32 × Int32 × Pic) : Option (Int32 × Pic) := lp (fun (rec : Int32 × Int32 × Int32 × Pic → Option (Int32 × Pic)) (a : Int32 × Int32 × Int32 × Pic) => match a with | (x2, x3, x4, g0) => (if 6 ≤ x4 then some (x2, g0) else bd2 (f_X1_greatestPartAt g0 g1 g2 x4 x1) (fun r_3 g0_3 => jn (fun (x2_J51 : Int32) (x3_J51 : Int32) => nm (x4 + 1) (fun x4_4 => rec (x2_J51, x3_J51, x4_4, g0_3))) (fun J51 => (if x3 ≤ r_3 then J51 x2 x3 else J51 x4 r_3))))) n a
def f_X1_placeToLook (g0 : Pic) (g1 : Pic) (g2 : Pic) : Option (Int32 × Pic) := bd (f_X1_fittingWords g0 g1 g2) (fun r_1 => bd (f_J6_bitCount_0f7a4 r_1) (fun r_2 => (if 2 ≤ r_2 then bd (f_X1_placeToLook_L23 r_1 g1 g2 fu ((-1), 9, 0, g0)) (fun (x2_5, g0_5) => some (x2_5, g0_5)) else some ((-1), g0))))
abbrev rm_X1_placeToLook : Room := { frames := 3, cells := 0, slots := 0, locals := 67 }
set_option maxHeartbeats 4000000 in
set_option maxRecDepth 100000 in
theorem c_X1_placeToLook (l : Launch) (dC : Nat → ClassId) (dI : Nat → Nat → Nat) (sk sv : Nat → Nat) (tc : Nat → ClassId) (a0 : Nat → Nat) (a1 : Nat → Nat) (a2 : Nat → Nat) (q2_18 : Option Nat) (q2_19 : Nat) (g0 : Pic) (g1 : Pic) (g2 : Pic) {r0 : Int32} {G0 : Pic} (h : f_X1_placeToLook g0 g1 g2 = some (r0, G0)) : CT l (dC, dI) sk sv (TY tc) yX1_placeToLook cX1_placeToLook 6 (some .int) rm_X1_placeToLook [.ref (a0 0)] (wCl tc a0 g0 (a1 0) (a2 0) ++ (wTp tc a1 g1 ++ (wSt tc a2 g2 q2_18 q2_19))) (some (.int r0)) (wCl tc a0 G0 (a1 0) (a2 0) ++ (wTp tc a1 g1 ++ (wSt tc a2 g2 q2_18 q2_19))) := by
  refine ofCT (by decide) (Nat.le_of_ble_eq_true rfl) ?_
  intro pr e s m args below meth c A Q ls H locs X hQ hD0 hP hS hl
  have hD : ∀ z0 z1 z2, va_D A (wCl tc a0 z0 (a1 0) (a2 0) ++ (wTp tc a1 z1 ++ (wSt tc a2 z2 q2_18 q2_19))) := fun z0 z1 z2 => D_fst (ws := (wCl tc a0 g0 (a1 0) (a2 0) ++ (wTp tc a1 g1 ++ (wSt tc a2 g2 q2_18 q2_19)))) rfl hD0
  have hl : lv_has ls 6 [(0, .ref (a0 0))] := hl
  have HL23 : ∀ (x1 : Int32) (n : Nat) (x2 : Int32) (x3 : Int32) (x4 : Int32) (g0 : Pic) (ex : (Int32 × Pic)), f_X1_placeToLook_L23 x1 g1 g2 n (x2, x3, x4, g0) = some ex → ∀ (H : Heap) (locs : List Loc) (ls : Array Slot), va_P (dC, dI) vwCl (wCl tc a0 g0 (a1 0) (a2 0) ++ (wTp tc a1 g1 ++ (wSt tc a2 g2 q2_18 q2_19))) H → va_S A s.heap H locs → lv_has ls 6 [(0, .ref (a0 0)), (1, .int x1), (2, .int x2), (3, .int x3), (4, .int x4)] → (∀ (y2 : Int32) (k0 : Pic), (y2, k0) = ex → ∀ (H : Heap) (locs : List Loc) (ls : Array Slot), va_P (dC, dI) vwCl (wCl tc a0 k0 (a1 0) (a2 0) ++ (wTp tc a1 g1 ++ (wSt tc a2 g2 q2_18 q2_19))) H → va_S A s.heap H locs → lv_has ls 6 [(2, .int y2)] → W pr l e rm_X1_placeToLook s m args below meth c H locs 0 0 Q (F0 m 57 ls [])) → W pr l e rm_X1_placeToLook s m args below meth c H locs 0 0 Q (F0 m 23 ls []) := by
    intro x1 n
    induction n with
    | zero => intro x2 x3 x4 g0 ex h; exact lp_z h
    | succ n ih =>
      intro x2 x3 x4 g0 ex h H locs ls hP hS hl K
      have h := lp_s h
      refine lv_iload X.1 X.2.1 dX1_placeToLook_23 (lv_at hl 4 rfl) ?_
      refine lv_bipush (v := 6) X.1 X.2.1 dX1_placeToLook_25 (by decide) ?_
      refine lv_icmp_ge (tgt := 57) X.1 X.2.1 dX1_placeToLook_27 (by decide) (fun hc => ?_) (fun hc => ?_)
      · have h := it_t hc h
        exact K x2 g0 (Option.some.inj h) H locs ls hP hS (lv_sub hl [2] rfl)
      · have h := it_f hc h
        refine lv_aload_n X.1 X.2.1 dX1_placeToLook_30 rfl (lv_at hl 0 rfl) ?_
        refine lv_iload X.1 X.2.1 dX1_placeToLook_31 (lv_at hl 4 rfl) ?_
        refine lv_iload_n X.1 X.2.1 dX1_placeToLook_33 rfl (lv_at hl 1 rfl) ?_
        obtain ⟨r_3, g0_3, hc_3, h⟩ := bd2_el h
        refine call_V1i (As := [.int x4, .int x1]) (rest := []) X (c_X1_greatestPartAt l dC dI sk sv tc a0 a1 a2 q2_18 q2_19 g0 g1 g2 x4 x1 hc_3) mw_6_137 mw_6_138 mw_6_139 mw_1_10 mw_6_140 dc_X1_greatestPartAt ⟨Nat.le_of_ble_eq_true rfl, Nat.le_of_ble_eq_true rfl⟩ rfl rfl ⟨Nat.zero_le _, Nat.zero_le _⟩ hP (hD _ _ _) hS 0 rfl rfl rfl hl.1 (Nat.le_of_ble_eq_true rfl) dX1_placeToLook_34 (fun H locs hP hS => ?_)
        refine lv_istore (lv' := [(5, .int r_3), (0, .ref (a0 0)), (1, .int x1), (2, .int x2), (3, .int x3), (4, .int x4)]) X.1 X.2.1 dX1_placeToLook_37 hl (by decide) rfl (fun ls hl => ?_)
        refine lv_iload X.1 X.2.1 dX1_placeToLook_39 (lv_at hl 0 rfl) ?_
        refine lv_iload_n X.1 X.2.1 dX1_placeToLook_41 rfl (lv_at hl 4 rfl) ?_
        obtain ⟨J51, eJ51, h⟩ := jn_el h
        have HJ51 : ∀ (x2_J51 : Int32) (x3_J51 : Int32) (H : Heap) (locs : List Loc) (ls : Array Slot), J51 x2_J51 x3_J51 = some ex → va_P (dC, dI) vwCl (wCl tc a0 g0_3 (a1 0) (a2 0) ++ (wTp tc a1 g1 ++ (wSt tc a2 g2 q2_18 q2_19))) H → va_S A s.heap H locs → lv_has ls 6 [(0, .ref (a0 0)), (1, .int x1), (2, .int x2_J51), (3, .int x3_J51), (4, .int x4)] → W pr l e rm_X1_placeToLook s m args below meth c H locs 0 0 Q (F0 m 51 ls []) := by
          intro x2_J51 x3_J51 H locs ls h hP hS hl
          rw [eJ51] at h
          obtain ⟨x4_4, ex4_4, h⟩ := nm_el h
          refine lv_iinc (v := x4_4) (lv' := [(4, .int x4_4), (0, .ref (a0 0)), (1, .int x1), (2, .int x2_J51), (3, .int x3_J51)]) X.1 X.2.1 dX1_placeToLook_51 hl (k := 4) rfl (by rw [ex4_4]; rfl) (by decide) rfl (fun ls hl => ?_)
          refine lv_goto (tgt := 23) X.1 X.2.1 dX1_placeToLook_54 (by decide) ?_
          exact ih x2_J51 x3_J51 x4_4 g0_3 ex h H locs ls hP hS (lv_sub hl [1, 2, 3, 4, 0] rfl) K
        refine lv_icmp_ge (tgt := 51) X.1 X.2.1 dX1_placeToLook_42 (by decide) (fun hc => ?_) (fun hc => ?_)
        · have h := it_t hc h
          exact HJ51 x2 x3 H locs ls h hP hS (lv_sub hl [1, 2, 3, 4, 5] rfl)
        · have h := it_f hc h
          refine lv_iload X.1 X.2.1 dX1_placeToLook_45 (lv_at hl 5 rfl) ?_
          refine lv_istore_n (lv' := [(2, .int x4), (5, .int r_3), (0, .ref (a0 0)), (1, .int x1), (3, .int x3), (4, .int x4)]) X.1 X.2.1 dX1_placeToLook_47 rfl hl (by decide) rfl (fun ls hl => ?_)
          refine lv_iload X.1 X.2.1 dX1_placeToLook_48 (lv_at hl 1 rfl) ?_
          refine lv_istore_n (lv' := [(3, .int r_3), (2, .int x4), (5, .int r_3), (0, .ref (a0 0)), (1, .int x1), (4, .int x4)]) X.1 X.2.1 dX1_placeToLook_50 rfl hl (by decide) rfl (fun ls hl => ?_)
          exact HJ51 x4 r_3 H locs ls h hP hS (lv_sub hl [3, 4, 1, 0, 5] rfl)
  unfold f_X1_placeToLook at h
  refine lv_aload_n X.1 X.2.1 dX1_placeToLook_0 rfl (lv_at hl 0 rfl) ?_
  obtain ⟨r_1, hc_1, h⟩ := bd_el h
  refine call_V1i (As := []) (rest := []) X (c_X1_fittingWords l dC dI sk sv tc a0 a1 a2 q2_18 q2_19 g0 g1 g2 hc_1) mw_6_135 mw_6_105 mw_6_106 mw_1_10 mw_6_107 dc_X1_fittingWords ⟨Nat.le_of_ble_eq_true rfl, Nat.le_of_ble_eq_true rfl⟩ rfl rfl ⟨Nat.zero_le _, Nat.zero_le _⟩ hP (hD _ _ _) hS 0 rfl rfl rfl hl.1 (Nat.le_of_ble_eq_true rfl) dX1_placeToLook_1 (fun H locs hP hS => ?_)
  refine lv_istore_n (lv' := [(1, .int r_1), (0, .ref (a0 0))]) X.1 X.2.1 dX1_placeToLook_4 rfl hl (by decide) rfl (fun ls hl => ?_)
  refine lv_iload_n X.1 X.2.1 dX1_placeToLook_5 rfl (lv_at hl 0 rfl) ?_
  obtain ⟨r_2, hc_2, h⟩ := bd_el h
  refine call_S0i (As := [.int r_1]) (rest := []) X (c_J6_bitCount_0f7a4 l dC dI sk sv tc r_1 hc_2) mw_6_136 mw_2_214 mw_1_29 mw_2_215 dc_J6_bitCount_0f7a4 ⟨Nat.le_of_ble_eq_true rfl, Nat.le_of_ble_eq_true rfl⟩ rfl rfl ⟨Nat.zero_le _, Nat.zero_le _⟩ hP (hD _ _ _) hS hl.1 (Nat.le_of_ble_eq_true rfl) dX1_placeToLook_6 (fun H locs hP hS => ?_)
  refine lv_iconst (v := 2) X.1 X.2.1 dX1_placeToLook_9 (by decide) ?_
  refine lv_icmp_ge (tgt := 15) X.1 X.2.1 dX1_placeToLook_10 (by decide) (fun hc => ?_) (fun hc => ?_)
  · have h := it_t hc h
    refine lv_iconst (v := (-1)) X.1 X.2.1 dX1_placeToLook_15 (by decide) ?_
    refine lv_istore_n (lv' := [(2, .int (-1)), (1, .int r_1), (0, .ref (a0 0))]) X.1 X.2.1 dX1_placeToLook_16 rfl hl (by decide) rfl (fun ls hl => ?_)
    refine lv_bipush (v := 9) X.1 X.2.1 dX1_placeToLook_17 (by decide) ?_
    refine lv_istore_n (lv' := [(3, .int 9), (2, .int (-1)), (1, .int r_1), (0, .ref (a0 0))]) X.1 X.2.1 dX1_placeToLook_19 rfl hl (by decide) rfl (fun ls hl => ?_)
    refine lv_iconst (v := 0) X.1 X.2.1 dX1_placeToLook_20 (by decide) ?_
    refine lv_istore (lv' := [(4, .int 0), (3, .int 9), (2, .int (-1)), (1, .int r_1), (0, .ref (a0 0))]) X.1 X.2.1 dX1_placeToLook_21 hl (by decide) rfl (fun ls hl => ?_)
    obtain ⟨ex_5, hL_5, h⟩ := bd_el h
    refine HL23 r_1 fu (-1) 9 0 g0 ex_5 hL_5 H locs ls hP hS (lv_sub hl [4, 3, 2, 1, 0] rfl) (fun x2_5 g0_5 he H locs ls hP hS hl => ?_)
    subst he
    refine lv_iload_n X.1 X.2.1 dX1_placeToLook_57 rfl (lv_at hl 0 rfl) ?_
    exact ret_i (fun u => (wCl tc a0 u (a1 0) (a2 0) ++ (wTp tc a1 g1 ++ (wSt tc a2 g2 q2_18 q2_19)))) (res := (r0, G0)) (Option.some.inj h) X hQ hP hS dX1_placeToLook_58
  · have h := it_f hc h
    refine lv_iconst (v := (-1)) X.1 X.2.1 dX1_placeToLook_13 (by decide) ?_
    exact ret_i (fun u => (wCl tc a0 u (a1 0) (a2 0) ++ (wTp tc a1 g1 ++ (wSt tc a2 g2 q2_18 q2_19)))) (res := (r0, G0)) (Option.some.inj h) X hQ hP hS dX1_placeToLook_14

def f_X1_wordToAsk_L18 (g1 : Pic) (g2 : Pic) (n : Nat) (a : Int32 × Int32 × Int32 × Pic) : Option (Int32 × Pic) := lp (fun (rec : Int32 × Int32 × Int32 × Pic → Option (Int32 × Pic)) (a : Int32 × Int32 × Int32 × Pic) => match a with | (x1, x2, x3, g0) => (if (g2 0 0) ≤ x3 then some (x1, g0) else bd2 (f_X1_greatestPartOf g0 g1 g2 x3) (fun r_1 g0_1 => jn (fun (x1_J47 : Int32) (x2_J47 : Int32) => nm (x3 + 1) (fun x3_2 => rec (x1_J47, x2_J47, x3_2, g0_1))) (fun J47 => (if x2 ≤ r_1 then J47 x1 x2 else J47 x3 r_1))))) n a
def f_X1_wordToAsk (g0 : Pic) (g1 : Pic) (g2 : Pic) : Option (Int32 × Pic) := (if 2 ≤ (g0 4 0) then bd (f_X1_wordToAsk_L18 g1 g2 fu ((-1), 257, 0, g0)) (fun (x1_3, g0_3) => some (x1_3, g0_3)) else some ((-1), g0))
abbrev rm_X1_wordToAsk : Room := { frames := 2, cells := 0, slots := 0, locals := 64 }
set_option maxHeartbeats 4000000 in
set_option maxRecDepth 100000 in
theorem c_X1_wordToAsk (l : Launch) (dC : Nat → ClassId) (dI : Nat → Nat → Nat) (sk sv : Nat → Nat) (tc : Nat → ClassId) (a0 : Nat → Nat) (a1 : Nat → Nat) (a2 : Nat → Nat) (q2_18 : Option Nat) (q2_19 : Nat) (g0 : Pic) (g1 : Pic) (g2 : Pic) {r0 : Int32} {G0 : Pic} (h : f_X1_wordToAsk g0 g1 g2 = some (r0, G0)) : CT l (dC, dI) sk sv (TY tc) yX1_wordToAsk cX1_wordToAsk 5 (some .int) rm_X1_wordToAsk [.ref (a0 0)] (wCl tc a0 g0 (a1 0) (a2 0) ++ (wTp tc a1 g1 ++ (wSt tc a2 g2 q2_18 q2_19))) (some (.int r0)) (wCl tc a0 G0 (a1 0) (a2 0) ++ (wTp tc a1 g1 ++ (wSt tc a2 g2 q2_18 q2_19))) := by
  refine ofCT (by decide) (Nat.le_of_ble_eq_true rfl) ?_
  intro pr e s m args below meth c A Q ls H locs X hQ hD0 hP hS hl
  have hD : ∀ z0 z1 z2, va_D A (wCl tc a0 z0 (a1 0) (a2 0) ++ (wTp tc a1 z1 ++ (wSt tc a2 z2 q2_18 q2_19))) := fun z0 z1 z2 => D_fst (ws := (wCl tc a0 g0 (a1 0) (a2 0) ++ (wTp tc a1 g1 ++ (wSt tc a2 g2 q2_18 q2_19)))) rfl hD0
  have hl : lv_has ls 5 [(0, .ref (a0 0))] := hl
  have HL18 : ∀ (n : Nat) (x1 : Int32) (x2 : Int32) (x3 : Int32) (g0 : Pic) (ex : (Int32 × Pic)), f_X1_wordToAsk_L18 g1 g2 n (x1, x2, x3, g0) = some ex → ∀ (H : Heap) (locs : List Loc) (ls : Array Slot), va_P (dC, dI) vwCl (wCl tc a0 g0 (a1 0) (a2 0) ++ (wTp tc a1 g1 ++ (wSt tc a2 g2 q2_18 q2_19))) H → va_S A s.heap H locs → lv_has ls 5 [(0, .ref (a0 0)), (1, .int x1), (2, .int x2), (3, .int x3)] → (∀ (y1 : Int32) (k0 : Pic), (y1, k0) = ex → ∀ (H : Heap) (locs : List Loc) (ls : Array Slot), va_P (dC, dI) vwCl (wCl tc a0 k0 (a1 0) (a2 0) ++ (wTp tc a1 g1 ++ (wSt tc a2 g2 q2_18 q2_19))) H → va_S A s.heap H locs → lv_has ls 5 [(1, .int y1)] → W pr l e rm_X1_wordToAsk s m args below meth c H locs 0 0 Q (F0 m 53 ls [])) → W pr l e rm_X1_wordToAsk s m args below meth c H locs 0 0 Q (F0 m 18 ls []) := by
    intro n
    induction n with
    | zero => intro x1 x2 x3 g0 ex h; exact lp_z h
    | succ n ih =>
      intro x1 x2 x3 g0 ex h H locs ls hP hS hl K
      have h := lp_s h
      refine lv_iload_n X.1 X.2.1 dX1_wordToAsk_18 rfl (lv_at hl 3 rfl) ?_
      refine lv_aload_n X.1 X.2.1 dX1_wordToAsk_19 rfl (lv_at hl 0 rfl) ?_
      refine r_get (C := RX1) (T := TX1) (N := 6) (ci := 1) (v := .ref (a2 0)) X iw1 hP 0 rfl rfl 1 rfl mw_2_99 rfl dX1_wordToAsk_20 ?_
      refine r_get (C := RX9) (T := TX9) (N := 20) (ci := 9) (v := .int (g2 0 0)) X iw9 hP 5 rfl rfl 0 rfl mw_1_104 rfl dX1_wordToAsk_23 ?_
      refine lv_icmp_ge (tgt := 53) X.1 X.2.1 dX1_wordToAsk_26 (by decide) (fun hc => ?_) (fun hc => ?_)
      · have h := it_t hc h
        exact K x1 g0 (Option.some.inj h) H locs ls hP hS (lv_sub hl [1] rfl)
      · have h := it_f hc h
        refine lv_aload_n X.1 X.2.1 dX1_wordToAsk_29 rfl (lv_at hl 0 rfl) ?_
        refine lv_iload_n X.1 X.2.1 dX1_wordToAsk_30 rfl (lv_at hl 3 rfl) ?_
        obtain ⟨r_1, g0_1, hc_1, h⟩ := bd2_el h
        refine call_V1i (As := [.int x3]) (rest := []) X (c_X1_greatestPartOf l dC dI sk sv tc a0 a1 a2 q2_18 q2_19 g0 g1 g2 x3 hc_1) mw_6_180 mw_6_181 mw_6_182 mw_1_10 mw_6_183 dc_X1_greatestPartOf ⟨Nat.le_of_ble_eq_true rfl, Nat.le_of_ble_eq_true rfl⟩ rfl rfl ⟨Nat.zero_le _, Nat.zero_le _⟩ hP (hD _ _ _) hS 0 rfl rfl rfl hl.1 (Nat.le_of_ble_eq_true rfl) dX1_wordToAsk_31 (fun H locs hP hS => ?_)
        refine lv_istore (lv' := [(4, .int r_1), (0, .ref (a0 0)), (1, .int x1), (2, .int x2), (3, .int x3)]) X.1 X.2.1 dX1_wordToAsk_34 hl (by decide) rfl (fun ls hl => ?_)
        refine lv_iload X.1 X.2.1 dX1_wordToAsk_36 (lv_at hl 0 rfl) ?_
        refine lv_iload_n X.1 X.2.1 dX1_wordToAsk_38 rfl (lv_at hl 3 rfl) ?_
        obtain ⟨J47, eJ47, h⟩ := jn_el h
        have HJ47 : ∀ (x1_J47 : Int32) (x2_J47 : Int32) (H : Heap) (locs : List Loc) (ls : Array Slot), J47 x1_J47 x2_J47 = some ex → va_P (dC, dI) vwCl (wCl tc a0 g0_1 (a1 0) (a2 0) ++ (wTp tc a1 g1 ++ (wSt tc a2 g2 q2_18 q2_19))) H → va_S A s.heap H locs → lv_has ls 5 [(0, .ref (a0 0)), (1, .int x1_J47), (2, .int x2_J47), (3, .int x3)] → W pr l e rm_X1_wordToAsk s m args below meth c H locs 0 0 Q (F0 m 47 ls []) := by
          intro x1_J47 x2_J47 H locs ls h hP hS hl
          rw [eJ47] at h
          obtain ⟨x3_2, ex3_2, h⟩ := nm_el h
          refine lv_iinc (v := x3_2) (lv' := [(3, .int x3_2), (0, .ref (a0 0)), (1, .int x1_J47), (2, .int x2_J47)]) X.1 X.2.1 dX1_wordToAsk_47 hl (k := 3) rfl (by rw [ex3_2]; rfl) (by decide) rfl (fun ls hl => ?_)
          refine lv_goto (tgt := 18) X.1 X.2.1 dX1_wordToAsk_50 (by decide) ?_
          exact ih x1_J47 x2_J47 x3_2 g0_1 ex h H locs ls hP hS (lv_sub hl [1, 2, 3, 0] rfl) K
        refine lv_icmp_ge (tgt := 47) X.1 X.2.1 dX1_wordToAsk_39 (by decide) (fun hc => ?_) (fun hc => ?_)
        · have h := it_t hc h
          exact HJ47 x1 x2 H locs ls h hP hS (lv_sub hl [1, 2, 3, 4] rfl)
        · have h := it_f hc h
          refine lv_iload_n X.1 X.2.1 dX1_wordToAsk_42 rfl (lv_at hl 4 rfl) ?_
          refine lv_istore_n (lv' := [(1, .int x3), (4, .int r_1), (0, .ref (a0 0)), (2, .int x2), (3, .int x3)]) X.1 X.2.1 dX1_wordToAsk_43 rfl hl (by decide) rfl (fun ls hl => ?_)
          refine lv_iload X.1 X.2.1 dX1_wordToAsk_44 (lv_at hl 1 rfl) ?_
          refine lv_istore_n (lv' := [(2, .int r_1), (1, .int x3), (4, .int r_1), (0, .ref (a0 0)), (3, .int x3)]) X.1 X.2.1 dX1_wordToAsk_46 rfl hl (by decide) rfl (fun ls hl => ?_)
          exact HJ47 x3 r_1 H locs ls h hP hS (lv_sub hl [3, 1, 0, 4] rfl)
  unfold f_X1_wordToAsk at h
  refine lv_aload_n X.1 X.2.1 dX1_wordToAsk_0 rfl (lv_at hl 0 rfl) ?_
  refine r_get (C := RX1) (T := TX1) (N := 6) (ci := 1) (v := .int (g0 4 0)) X iw1 hP 0 rfl rfl 4 rfl mw_2_102 rfl dX1_wordToAsk_1 ?_
  refine lv_iconst (v := 2) X.1 X.2.1 dX1_wordToAsk_4 (by decide) ?_
  refine lv_icmp_ge (tgt := 10) X.1 X.2.1 dX1_wordToAsk_5 (by decide) (fun hc => ?_) (fun hc => ?_)
  · have h := it_t hc h
    refine lv_iconst (v := (-1)) X.1 X.2.1 dX1_wordToAsk_10 (by decide) ?_
    refine lv_istore_n (lv' := [(1, .int (-1)), (0, .ref (a0 0))]) X.1 X.2.1 dX1_wordToAsk_11 rfl hl (by decide) rfl (fun ls hl => ?_)
    refine lv_sipush (v := 257) X.1 X.2.1 dX1_wordToAsk_12 (by decide) ?_
    refine lv_istore_n (lv' := [(2, .int 257), (1, .int (-1)), (0, .ref (a0 0))]) X.1 X.2.1 dX1_wordToAsk_15 rfl hl (by decide) rfl (fun ls hl => ?_)
    refine lv_iconst (v := 0) X.1 X.2.1 dX1_wordToAsk_16 (by decide) ?_
    refine lv_istore_n (lv' := [(3, .int 0), (2, .int 257), (1, .int (-1)), (0, .ref (a0 0))]) X.1 X.2.1 dX1_wordToAsk_17 rfl hl (by decide) rfl (fun ls hl => ?_)
    obtain ⟨ex_3, hL_3, h⟩ := bd_el h
    refine HL18  fu (-1) 257 0 g0 ex_3 hL_3 H locs ls hP hS (lv_sub hl [3, 2, 1, 0] rfl) (fun x1_3 g0_3 he H locs ls hP hS hl => ?_)
    subst he
    refine lv_iload_n X.1 X.2.1 dX1_wordToAsk_53 rfl (lv_at hl 0 rfl) ?_
    exact ret_i (fun u => (wCl tc a0 u (a1 0) (a2 0) ++ (wTp tc a1 g1 ++ (wSt tc a2 g2 q2_18 q2_19)))) (res := (r0, G0)) (Option.some.inj h) X hQ hP hS dX1_wordToAsk_54
  · have h := it_f hc h
    refine lv_iconst (v := (-1)) X.1 X.2.1 dX1_wordToAsk_8 (by decide) ?_
    exact ret_i (fun u => (wCl tc a0 u (a1 0) (a2 0) ++ (wTp tc a1 g1 ++ (wSt tc a2 g2 q2_18 q2_19)))) (res := (r0, G0)) (Option.some.inj h) X hQ hP hS dX1_wordToAsk_9

def f_X1_takeHeard (g0 : Pic) (g1 : Pic) (g2 : Pic) : Option (Int32 × Pic × Pic) := bd3 (f_X1_takeRows g0 g1 g2 6 8) (fun r_1 g0_1 g1_1 => gdb r_1 (some (r_1, g0_1, g1_1)))
abbrev rm_X1_takeHeard : Room := { frames := 2, cells := 0, slots := 0, locals := 45 }
set_option maxHeartbeats 4000000 in
set_option maxRecDepth 100000 in
theorem c_X1_takeHeard (l : Launch) (dC : Nat → ClassId) (dI : Nat → Nat → Nat) (sk sv : Nat → Nat) (tc : Nat → ClassId) (a0 : Nat → Nat) (a1 : Nat → Nat) (a2 : Nat → Nat) (q2_18 : Option Nat) (q2_19 : Nat) (g0 : Pic) (g1 : Pic) (g2 : Pic) {r0 : Int32} {G0 : Pic} {G1 : Pic} (h : f_X1_takeHeard g0 g1 g2 = some (r0, G0, G1)) : CT l (dC, dI) sk sv (TY tc) yX1_takeHeard cX1_takeHeard 1 (some .boolean) rm_X1_takeHeard [.ref (a0 0)] (wCl tc a0 g0 (a1 0) (a2 0) ++ (wTp tc a1 g1 ++ (wSt tc a2 g2 q2_18 q2_19))) (some (.int r0)) (wCl tc a0 G0 (a1 0) (a2 0) ++ (wTp tc a1 G1 ++ (wSt tc a2 g2 q2_18 q2_19))) := by
  refine ofCT (by decide) (Nat.le_of_ble_eq_true rfl) ?_
  intro pr e s m args below meth c A Q ls H locs X hQ hD0 hP hS hl
  have hD : ∀ z0 z1 z2, va_D A (wCl tc a0 z0 (a1 0) (a2 0) ++ (wTp tc a1 z1 ++ (wSt tc a2 z2 q2_18 q2_19))) := fun z0 z1 z2 => D_fst (ws := (wCl tc a0 g0 (a1 0) (a2 0) ++ (wTp tc a1 g1 ++ (wSt tc a2 g2 q2_18 q2_19)))) rfl hD0
  have hl : lv_has ls 1 [(0, .ref (a0 0))] := hl
  unfold f_X1_takeHeard at h
  refine lv_aload_n X.1 X.2.1 dX1_takeHeard_0 rfl (lv_at hl 0 rfl) ?_
  refine lv_bipush (v := 6) X.1 X.2.1 dX1_takeHeard_1 (by decide) ?_
  refine lv_bipush (v := 8) X.1 X.2.1 dX1_takeHeard_3 (by decide) ?_
  obtain ⟨r_1, g0_1, g1_1, hc_1, h⟩ := bd3_el h
  refine call_V1i (As := [.int 6, .int 8]) (rest := []) X (c_X1_takeRows l dC dI sk sv tc a0 a1 a2 q2_18 q2_19 g0 g1 g2 6 8 hc_1) mw_6_87 mw_6_88 mw_6_89 mw_1_10 mw_6_90 dc_X1_takeRows ⟨Nat.le_of_ble_eq_true rfl, Nat.le_of_ble_eq_true rfl⟩ rfl rfl ⟨Nat.zero_le _, Nat.zero_le _⟩ hP (hD _ _ _) hS 0 rfl rfl rfl hl.1 (Nat.le_of_ble_eq_true rfl) dX1_takeHeard_5 (fun H locs hP hS => ?_)
  obtain ⟨hg_2, h⟩ := gdb_el h
  exact ret_z (fun u => (wCl tc a0 u.1 (a1 0) (a2 0) ++ (wTp tc a1 u.2 ++ (wSt tc a2 g2 q2_18 q2_19)))) (res := (r0, G0, G1)) hg_2 (Option.some.inj h) X hQ hP hS dX1_takeHeard_8

def f_X1_takeHand (g0 : Pic) (g1 : Pic) (g2 : Pic) : Option (Int32 × Pic × Pic) := bd3 (f_X1_takeRows g0 g1 g2 (g2 0 0) 7) (fun r_1 g0_1 g1_1 => gdb r_1 (some (r_1, g0_1, g1_1)))
abbrev rm_X1_takeHand : Room := { frames := 2, cells := 0, slots := 0, locals := 45 }
set_option maxHeartbeats 4000000 in
set_option maxRecDepth 100000 in
theorem c_X1_takeHand (l : Launch) (dC : Nat → ClassId) (dI : Nat → Nat → Nat) (sk sv : Nat → Nat) (tc : Nat → ClassId) (a0 : Nat → Nat) (a1 : Nat → Nat) (a2 : Nat → Nat) (q2_18 : Option Nat) (q2_19 : Nat) (g0 : Pic) (g1 : Pic) (g2 : Pic) {r0 : Int32} {G0 : Pic} {G1 : Pic} (h : f_X1_takeHand g0 g1 g2 = some (r0, G0, G1)) : CT l (dC, dI) sk sv (TY tc) yX1_takeHand cX1_takeHand 1 (some .boolean) rm_X1_takeHand [.ref (a0 0)] (wCl tc a0 g0 (a1 0) (a2 0) ++ (wTp tc a1 g1 ++ (wSt tc a2 g2 q2_18 q2_19))) (some (.int r0)) (wCl tc a0 G0 (a1 0) (a2 0) ++ (wTp tc a1 G1 ++ (wSt tc a2 g2 q2_18 q2_19))) := by
  refine ofCT (by decide) (Nat.le_of_ble_eq_true rfl) ?_
  intro pr e s m args below meth c A Q ls H locs X hQ hD0 hP hS hl
  have hD : ∀ z0 z1 z2, va_D A (wCl tc a0 z0 (a1 0) (a2 0) ++ (wTp tc a1 z1 ++ (wSt tc a2 z2 q2_18 q2_19))) := fun z0 z1 z2 => D_fst (ws := (wCl tc a0 g0 (a1 0) (a2 0) ++ (wTp tc a1 g1 ++ (wSt tc a2 g2 q2_18 q2_19)))) rfl hD0
  have hl : lv_has ls 1 [(0, .ref (a0 0))] := hl
  unfold f_X1_takeHand at h
  refine lv_aload_n X.1 X.2.1 dX1_takeHand_0 rfl (lv_at hl 0 rfl) ?_
  refine lv_aload_n X.1 X.2.1 dX1_takeHand_1 rfl (lv_at hl 0 rfl) ?_
  refine r_get (C := RX1) (T := TX1) (N := 6) (ci := 1) (v := .ref (a2 0)) X iw1 hP 0 rfl rfl 1 rfl mw_2_99 rfl dX1_takeHand_2 ?_
  refine r_get (C := RX9) (T := TX9) (N := 20) (ci := 9) (v := .int (g2 0 0)) X iw9 hP 5 rfl rfl 0 rfl mw_1_104 rfl dX1_takeHand_5 ?_
  refine lv_bipush (v := 7) X.1 X.2.1 dX1_takeHand_8 (by decide) ?_
  obtain ⟨r_1, g0_1, g1_1, hc_1, h⟩ := bd3_el h
  refine call_V1i (As := [.int (g2 0 0), .int 7]) (rest := []) X (c_X1_takeRows l dC dI sk sv tc a0 a1 a2 q2_18 q2_19 g0 g1 g2 (g2 0 0) 7 hc_1) mw_6_87 mw_6_88 mw_6_89 mw_1_10 mw_6_90 dc_X1_takeRows ⟨Nat.le_of_ble_eq_true rfl, Nat.le_of_ble_eq_true rfl⟩ rfl rfl ⟨Nat.zero_le _, Nat.zero_le _⟩ hP (hD _ _ _) hS 0 rfl rfl rfl hl.1 (Nat.le_of_ble_eq_true rfl) dX1_takeHand_10 (fun H locs hP hS => ?_)
  obtain ⟨hg_2, h⟩ := gdb_el h
  exact ret_z (fun u => (wCl tc a0 u.1 (a1 0) (a2 0) ++ (wTp tc a1 u.2 ++ (wSt tc a2 g2 q2_18 q2_19)))) (res := (r0, G0, G1)) hg_2 (Option.some.inj h) X hQ hP hS dX1_takeHand_13

def f_X8_lagOf_L45 (x2 : Int32) (x3 : Int32) (g1 : Pic) (g2 : Pic) (n : Nat) (a : Int32 × Int32 × Pic) : Option (Int32 × Pic) := lp (fun (rec : Int32 × Int32 × Pic → Option (Int32 × Pic)) (a : Int32 × Int32 × Pic) => match a with | (x4, x5, g0) => (if (g2 4 0) ≤ x5 then some (x4, g0) else nm ((if (g0 5 0) < (x5 * x2) then (x5 * x2) else (g0 5 0))) (fun x6_6 => nm ((if x4 < (x6_6 - (x5 * x2)) then (x6_6 - (x5 * x2)) else x4)) (fun x4_7 => gdi x5 20 (gdi (g2 5 (x5.toNatClampNeg)) 8 (gdz x3 (nm (pu g0 5 0 (x6_6 + ((((g1 1 ((g2 5 (x5.toNatClampNeg)).toNatClampNeg)) + x3) - 1) / x3))) (fun g0_11 => nm (x5 + 1) (fun x5_12 => rec (x4_7, x5_12, g0_11)))))))))) n a
def f_X8_lagOf (g0 : Pic) (g1 : Pic) (g2 : Pic) (x1 : Int32) (x2 : Int32) : Option (Int32 × Pic × Pic) := gdi x1 5 (bd (f_X3_take g1 g2 (g2 8 (x1.toNatClampNeg))) (fun g1_2 => gdi x1 5 (nm ((if 1 < (g2 9 (x1.toNatClampNeg)) then (g2 9 (x1.toNatClampNeg)) else 1)) (fun x3_4 => nm (pu g0 5 0 0) (fun g0_5 => bd (f_X8_lagOf_L45 x2 x3_4 g1_2 g2 fu (0, 0, g0_5)) (fun (x4_13, g0_13) => some (x4_13, g0_13, g1_2)))))))
abbrev rm_X8_lagOf : Room := { frames := 1, cells := 0, slots := 0, locals := 40 }
set_option maxHeartbeats 4000000 in
set_option maxRecDepth 100000 in
theorem c_X8_lagOf (l : Launch) (dC : Nat → ClassId) (dI : Nat → Nat → Nat) (sk sv : Nat → Nat) (tc : Nat → ClassId) (a0 : Nat → Nat) (a1 : Nat → Nat) (a2 : Nat → Nat) (q2_18 : Option Nat) (q2_19 : Nat) (g0 : Pic) (g1 : Pic) (g2 : Pic) (x1 : Int32) (x2 : Int32) {r0 : Int32} {G0 : Pic} {G1 : Pic} (h : f_X8_lagOf g0 g1 g2 x1 x2 = some (r0, G0, G1)) : CT l (dC, dI) sk sv (TY tc) yX8_lagOf cX8_lagOf 7 (some .int) rm_X8_lagOf [.ref (a0 0), .int x1, .int x2] (wSc tc a0 g0 (a2 0) (a1 0) ++ (wHd tc a1 g1 ++ (wSt tc a2 g2 q2_18 q2_19))) (some (.int r0)) (wSc tc a0 G0 (a2 0) (a1 0) ++ (wHd tc a1 G1 ++ (wSt tc a2 g2 q2_18 q2_19))) := by
  refine ofCT (by decide) (Nat.le_of_ble_eq_true rfl) ?_
  intro pr e s m args below meth c A Q ls H locs X hQ hD0 hP hS hl
  have hD : ∀ z0 z1 z2, va_D A (wSc tc a0 z0 (a2 0) (a1 0) ++ (wHd tc a1 z1 ++ (wSt tc a2 z2 q2_18 q2_19))) := fun z0 z1 z2 => D_fst (ws := (wSc tc a0 g0 (a2 0) (a1 0) ++ (wHd tc a1 g1 ++ (wSt tc a2 g2 q2_18 q2_19)))) rfl hD0
  have hl : lv_has ls 7 [(0, .ref (a0 0)), (1, .int x1), (2, .int x2)] := hl
  have HL45 : ∀ (x2 : Int32) (x3 : Int32) (g1 : Pic) (n : Nat) (x4 : Int32) (x5 : Int32) (g0 : Pic) (ex : (Int32 × Pic)), f_X8_lagOf_L45 x2 x3 g1 g2 n (x4, x5, g0) = some ex → ∀ (H : Heap) (locs : List Loc) (ls : Array Slot), va_P (dC, dI) vwCl (wSc tc a0 g0 (a2 0) (a1 0) ++ (wHd tc a1 g1 ++ (wSt tc a2 g2 q2_18 q2_19))) H → va_S A s.heap H locs → lv_has ls 7 [(0, .ref (a0 0)), (2, .int x2), (3, .int x3), (4, .int x4), (5, .int x5)] → (∀ (y4 : Int32) (k0 : Pic), (y4, k0) = ex → ∀ (H : Heap) (locs : List Loc) (ls : Array Slot), va_P (dC, dI) vwCl (wSc tc a0 k0 (a2 0) (a1 0) ++ (wHd tc a1 g1 ++ (wSt tc a2 g2 q2_18 q2_19))) H → va_S A s.heap H locs → lv_has ls 7 [(4, .int y4)] → W pr l e rm_X8_lagOf s m args below meth c H locs 0 0 Q (F0 m 121 ls [])) → W pr l e rm_X8_lagOf s m args below meth c H locs 0 0 Q (F0 m 45 ls []) := by
    intro x2 x3 g1 n
    induction n with
    | zero => intro x4 x5 g0 ex h; exact lp_z h
    | succ n ih =>
      intro x4 x5 g0 ex h H locs ls hP hS hl K
      have h := lp_s h
      refine lv_iload X.1 X.2.1 dX8_lagOf_45 (lv_at hl 4 rfl) ?_
      refine lv_aload_n X.1 X.2.1 dX8_lagOf_47 rfl (lv_at hl 0 rfl) ?_
      refine r_get (C := RX8) (T := TX8) (N := 6) (ci := 8) (v := .ref (a2 0)) X iw8 hP 0 rfl rfl 0 rfl mw_2_123 rfl dX8_lagOf_48 ?_
      refine r_get (C := RX9) (T := TX9) (N := 20) (ci := 9) (v := .int (g2 4 0)) X iw9 hP 9 rfl rfl 4 rfl mw_1_127 rfl dX8_lagOf_51 ?_
      refine lv_icmp_ge (tgt := 121) X.1 X.2.1 dX8_lagOf_54 (by decide) (fun hc => ?_) (fun hc => ?_)
      · have h := it_t hc h
        exact K x4 g0 (Option.some.inj h) H locs ls hP hS (lv_sub hl [3] rfl)
      · have h := it_f hc h
        refine lv_aload_n X.1 X.2.1 dX8_lagOf_57 rfl (lv_at hl 0 rfl) ?_
        refine r_get (C := RX8) (T := TX8) (N := 6) (ci := 8) (v := .int (g0 5 0)) X iw8 hP 0 rfl rfl 5 rfl mw_2_128 rfl dX8_lagOf_58 ?_
        refine lv_iload X.1 X.2.1 dX8_lagOf_61 (lv_at hl 4 rfl) ?_
        refine lv_iload_n X.1 X.2.1 dX8_lagOf_63 rfl (lv_at hl 1 rfl) ?_
        refine lv_imul X.1 X.2.1 dX8_lagOf_64 ?_
        refine r_max X mw_3_20 mw_3_21 mw_1_25 mw_3_22 hl.1 (Nat.le_of_ble_eq_true rfl) (Nat.le_of_ble_eq_true rfl) ⟨Nat.zero_le _, Nat.zero_le _⟩ dX8_lagOf_65 ?_
        obtain ⟨x6_6, ex6_6, h⟩ := nm_el h
        refine tp_i ex6_6 ?_
        refine lv_istore (lv' := [(6, .int x6_6), (0, .ref (a0 0)), (2, .int x2), (3, .int x3), (4, .int x4), (5, .int x5)]) X.1 X.2.1 dX8_lagOf_68 hl (by decide) rfl (fun ls hl => ?_)
        refine lv_iload X.1 X.2.1 dX8_lagOf_70 (lv_at hl 4 rfl) ?_
        refine lv_iload X.1 X.2.1 dX8_lagOf_72 (lv_at hl 0 rfl) ?_
        refine lv_iload X.1 X.2.1 dX8_lagOf_74 (lv_at hl 5 rfl) ?_
        refine lv_iload_n X.1 X.2.1 dX8_lagOf_76 rfl (lv_at hl 2 rfl) ?_
        refine lv_imul X.1 X.2.1 dX8_lagOf_77 ?_
        refine lv_isub X.1 X.2.1 dX8_lagOf_78 ?_
        refine r_max X mw_3_20 mw_3_21 mw_1_25 mw_3_22 hl.1 (Nat.le_of_ble_eq_true rfl) (Nat.le_of_ble_eq_true rfl) ⟨Nat.zero_le _, Nat.zero_le _⟩ dX8_lagOf_79 ?_
        obtain ⟨x4_7, ex4_7, h⟩ := nm_el h
        refine tp_i ex4_7 ?_
        refine lv_istore (lv' := [(4, .int x4_7), (6, .int x6_6), (0, .ref (a0 0)), (2, .int x2), (3, .int x3), (5, .int x5)]) X.1 X.2.1 dX8_lagOf_82 hl (by decide) rfl (fun ls hl => ?_)
        refine lv_aload_n X.1 X.2.1 dX8_lagOf_84 rfl (lv_at hl 2 rfl) ?_
        refine lv_iload X.1 X.2.1 dX8_lagOf_85 (lv_at hl 1 rfl) ?_
        refine lv_aload_n X.1 X.2.1 dX8_lagOf_87 rfl (lv_at hl 2 rfl) ?_
        refine r_get (C := RX8) (T := TX8) (N := 6) (ci := 8) (v := .ref (a1 0)) X iw8 hP 0 rfl rfl 1 rfl mw_2_124 rfl dX8_lagOf_88 ?_
        refine r_get (C := RX3) (T := TX3) (N := 5) (ci := 3) (v := .ref (a1 2)) X iw3 hP 4 rfl rfl 1 rfl mw_2_44 rfl dX8_lagOf_91 ?_
        refine lv_aload_n X.1 X.2.1 dX8_lagOf_94 rfl (lv_at hl 2 rfl) ?_
        refine r_get (C := RX8) (T := TX8) (N := 6) (ci := 8) (v := .ref (a2 0)) X iw8 hP 0 rfl rfl 0 rfl mw_2_123 rfl dX8_lagOf_95 ?_
        refine r_get (C := RX9) (T := TX9) (N := 20) (ci := 9) (v := .ref (a2 6)) X iw9 hP 9 rfl rfl 5 rfl mw_1_133 rfl dX8_lagOf_98 ?_
        refine lv_iload X.1 X.2.1 dX8_lagOf_101 (lv_at hl 5 rfl) ?_
        obtain ⟨hg_8, h⟩ := gdi_el h
        refine r_iald X hP 13 0 rfl rfl hg_8 rfl dX8_lagOf_103 ?_
        obtain ⟨hg_9, h⟩ := gdi_el h
        refine r_iald X hP 6 0 rfl rfl hg_9 rfl dX8_lagOf_104 ?_
        refine lv_iload_n X.1 X.2.1 dX8_lagOf_105 rfl (lv_at hl 4 rfl) ?_
        refine lv_iadd X.1 X.2.1 dX8_lagOf_106 ?_
        refine lv_iconst (v := 1) X.1 X.2.1 dX8_lagOf_107 (by decide) ?_
        refine lv_isub X.1 X.2.1 dX8_lagOf_108 ?_
        refine lv_iload_n X.1 X.2.1 dX8_lagOf_109 rfl (lv_at hl 4 rfl) ?_
        obtain ⟨hg_10, h⟩ := gdz_el h
        refine lv_idiv X.1 X.2.1 dX8_lagOf_110 hg_10 ?_
        refine lv_iadd X.1 X.2.1 dX8_lagOf_111 ?_
        obtain ⟨g0_11, eg0_11, h⟩ := nm_el h
        refine r_put (C := RX8) (T := TX8) (N := 6) (ci := 8) tyX8 tyX8_ok nmX8 X iw8 hP (hD _ _ _) hS 0 rfl rfl 5 rfl mw_2_128 rfl rfl rfl rfl dX8_lagOf_112 (wSc tc a0 g0_11 (a2 0) (a1 0) ++ (wHd tc a1 g1 ++ (wSt tc a2 g2 q2_18 q2_19))) (by rw [eg0_11]; rfl) (fun H locs hP hS => ?_)
        obtain ⟨x5_12, ex5_12, h⟩ := nm_el h
        refine lv_iinc (v := x5_12) (lv' := [(5, .int x5_12), (4, .int x4_7), (6, .int x6_6), (0, .ref (a0 0)), (2, .int x2), (3, .int x3)]) X.1 X.2.1 dX8_lagOf_115 hl (k := 5) rfl (by rw [ex5_12]; rfl) (by decide) rfl (fun ls hl => ?_)
        refine lv_goto (tgt := 45) X.1 X.2.1 dX8_lagOf_118 (by decide) ?_
        exact ih x4_7 x5_12 g0_11 ex h H locs ls hP hS (lv_sub hl [3, 4, 5, 1, 0] rfl) K
  unfold f_X8_lagOf at h
  refine lv_aload_n X.1 X.2.1 dX8_lagOf_0 rfl (lv_at hl 0 rfl) ?_
  refine r_get (C := RX8) (T := TX8) (N := 6) (ci := 8) (v := .ref (a1 0)) X iw8 hP 0 rfl rfl 1 rfl mw_2_124 rfl dX8_lagOf_1 ?_
  refine lv_aload_n X.1 X.2.1 dX8_lagOf_4 rfl (lv_at hl 0 rfl) ?_
  refine r_get (C := RX8) (T := TX8) (N := 6) (ci := 8) (v := .ref (a2 0)) X iw8 hP 0 rfl rfl 0 rfl mw_2_123 rfl dX8_lagOf_5 ?_
  refine lv_aload_n X.1 X.2.1 dX8_lagOf_8 rfl (lv_at hl 0 rfl) ?_
  refine r_get (C := RX8) (T := TX8) (N := 6) (ci := 8) (v := .ref (a2 0)) X iw8 hP 0 rfl rfl 0 rfl mw_2_123 rfl dX8_lagOf_9 ?_
  refine r_get (C := RX9) (T := TX9) (N := 20) (ci := 9) (v := .ref (a2 9)) X iw9 hP 9 rfl rfl 8 rfl mw_1_148 rfl dX8_lagOf_12 ?_
  refine lv_iload_n X.1 X.2.1 dX8_lagOf_15 rfl (lv_at hl 1 rfl) ?_
  obtain ⟨hg_1, h⟩ := gdi_el h
  refine r_iald X hP 14 0 rfl rfl hg_1 rfl dX8_lagOf_16 ?_
  obtain ⟨g1_2, hc_2, h⟩ := bd_el h
  refine call_Vsv (ws := (wSc tc a0 g0 (a2 0) (a1 0) ++ (wHd tc a1 g1 ++ (wSt tc a2 g2 q2_18 q2_19)))) (ws' := (wSc tc a0 g0 (a2 0) (a1 0) ++ (wHd tc a1 g1_2 ++ (wSt tc a2 g2 q2_18 q2_19)))) (wSc tc a0 g0 (a2 0) (a1 0)) [] (As := [.ref (a2 0), .int (g2 8 (x1.toNatClampNeg))]) (rest := []) X (c_X3_take l dC dI sk sv tc a1 a2 q2_18 q2_19 g1 g2 (g2 8 (x1.toNatClampNeg)) hc_2) mw_3_19 mw_2_220 mw_2_221 mw_1_7 mw_2_222 dc_X3_take ⟨Nat.le_of_ble_eq_true rfl, Nat.le_of_ble_eq_true rfl⟩ rfl rfl ⟨Nat.zero_le _, Nat.zero_le _⟩ (by simp only [List.append_assoc, List.nil_append, List.append_nil]) (by simp only [List.append_assoc, List.nil_append, List.append_nil]) hP (hD _ _ _) hS 0 rfl rfl rfl hl.1 (Nat.le_of_ble_eq_true rfl) dX8_lagOf_17 (fun H locs hP hS => ?_)
  refine lv_iconst (v := 1) X.1 X.2.1 dX8_lagOf_20 (by decide) ?_
  refine lv_aload_n X.1 X.2.1 dX8_lagOf_21 rfl (lv_at hl 0 rfl) ?_
  refine r_get (C := RX8) (T := TX8) (N := 6) (ci := 8) (v := .ref (a2 0)) X iw8 hP 0 rfl rfl 0 rfl mw_2_123 rfl dX8_lagOf_22 ?_
  refine r_get (C := RX9) (T := TX9) (N := 20) (ci := 9) (v := .ref (a2 10)) X iw9 hP 9 rfl rfl 9 rfl mw_1_154 rfl dX8_lagOf_25 ?_
  refine lv_iload_n X.1 X.2.1 dX8_lagOf_28 rfl (lv_at hl 1 rfl) ?_
  obtain ⟨hg_3, h⟩ := gdi_el h
  refine r_iald X hP 15 0 rfl rfl hg_3 rfl dX8_lagOf_29 ?_
  refine r_max X mw_3_20 mw_3_21 mw_1_25 mw_3_22 hl.1 (Nat.le_of_ble_eq_true rfl) (Nat.le_of_ble_eq_true rfl) ⟨Nat.zero_le _, Nat.zero_le _⟩ dX8_lagOf_30 ?_
  obtain ⟨x3_4, ex3_4, h⟩ := nm_el h
  refine tp_i ex3_4 ?_
  refine lv_istore_n (lv' := [(3, .int x3_4), (0, .ref (a0 0)), (1, .int x1), (2, .int x2)]) X.1 X.2.1 dX8_lagOf_33 rfl hl (by decide) rfl (fun ls hl => ?_)
  refine lv_iconst (v := 0) X.1 X.2.1 dX8_lagOf_34 (by decide) ?_
  refine lv_istore (lv' := [(4, .int 0), (3, .int x3_4), (0, .ref (a0 0)), (1, .int x1), (2, .int x2)]) X.1 X.2.1 dX8_lagOf_35 hl (by decide) rfl (fun ls hl => ?_)
  refine lv_aload_n X.1 X.2.1 dX8_lagOf_37 rfl (lv_at hl 2 rfl) ?_
  refine lv_iconst (v := 0) X.1 X.2.1 dX8_lagOf_38 (by decide) ?_
  obtain ⟨g0_5, eg0_5, h⟩ := nm_el h
  refine r_put (C := RX8) (T := TX8) (N := 6) (ci := 8) tyX8 tyX8_ok nmX8 X iw8 hP (hD _ _ _) hS 0 rfl rfl 5 rfl mw_2_128 rfl rfl rfl rfl dX8_lagOf_39 (wSc tc a0 g0_5 (a2 0) (a1 0) ++ (wHd tc a1 g1_2 ++ (wSt tc a2 g2 q2_18 q2_19))) (by rw [eg0_5]; rfl) (fun H locs hP hS => ?_)
  refine lv_iconst (v := 0) X.1 X.2.1 dX8_lagOf_42 (by decide) ?_
  refine lv_istore (lv' := [(5, .int 0), (4, .int 0), (3, .int x3_4), (0, .ref (a0 0)), (1, .int x1), (2, .int x2)]) X.1 X.2.1 dX8_lagOf_43 hl (by decide) rfl (fun ls hl => ?_)
  obtain ⟨ex_13, hL_13, h⟩ := bd_el h
  refine HL45 x2 x3_4 g1_2 fu 0 0 g0_5 ex_13 hL_13 H locs ls hP hS (lv_sub hl [3, 5, 2, 1, 0] rfl) (fun x4_13 g0_13 he H locs ls hP hS hl => ?_)
  subst he
  refine lv_iload X.1 X.2.1 dX8_lagOf_121 (lv_at hl 0 rfl) ?_
  exact ret_i (fun u => (wSc tc a0 u.1 (a2 0) (a1 0) ++ (wHd tc a1 u.2 ++ (wSt tc a2 g2 q2_18 q2_19)))) (res := (r0, G0, G1)) (Option.some.inj h) X hQ hP hS dX8_lagOf_123

def f_X8_edgeOf_L2 (x1 : Int32) (g2 : Pic) (n : Nat) (a : Int32 × Pic × Pic) : Option ((Int32 × Pic × Pic) ⊕ (Pic × Pic)) := lp (fun (rec : Int32 × Pic × Pic → Option ((Int32 × Pic × Pic) ⊕ (Pic × Pic))) (a : Int32 × Pic × Pic) => match a with | (x2, g0, g1) => (if 9 < x2 then some (.inr (g0, g1)) else bd3 (f_X8_lagOf g0 g1 g2 x1 x2) (fun r_1 g0_1 g1_1 => (if r_1 = 0 then some (.inl (x2, g0_1, g1_1)) else nm (x2 + 1) (fun x2_2 => rec (x2_2, g0_1, g1_1)))))) n a
def f_X8_edgeOf (g0 : Pic) (g1 : Pic) (g2 : Pic) (x1 : Int32) : Option (Int32 × Pic × Pic) := lr (f_X8_edgeOf_L2 x1 g2 fu (1, g0, g1)) (fun a => a) (fun (g0_3, g1_3) => some ((-1), g0_3, g1_3))
abbrev rm_X8_edgeOf : Room := { frames := 2, cells := 0, slots := 0, locals := 66 }
set_option maxHeartbeats 4000000 in
set_option maxRecDepth 100000 in
theorem c_X8_edgeOf (l : Launch) (dC : Nat → ClassId) (dI : Nat → Nat → Nat) (sk sv : Nat → Nat) (tc : Nat → ClassId) (a0 : Nat → Nat) (a1 : Nat → Nat) (a2 : Nat → Nat) (q2_18 : Option Nat) (q2_19 : Nat) (g0 : Pic) (g1 : Pic) (g2 : Pic) (x1 : Int32) {r0 : Int32} {G0 : Pic} {G1 : Pic} (h : f_X8_edgeOf g0 g1 g2 x1 = some (r0, G0, G1)) : CT l (dC, dI) sk sv (TY tc) yX8_edgeOf cX8_edgeOf 3 (some .int) rm_X8_edgeOf [.ref (a0 0), .int x1] (wSc tc a0 g0 (a2 0) (a1 0) ++ (wHd tc a1 g1 ++ (wSt tc a2 g2 q2_18 q2_19))) (some (.int r0)) (wSc tc a0 G0 (a2 0) (a1 0) ++ (wHd tc a1 G1 ++ (wSt tc a2 g2 q2_18 q2_19))) := by
  refine ofCT (by decide) (Nat.le_of_ble_eq_true rfl) ?_
  intro pr e s m args below meth c A Q ls H locs X hQ hD0 hP hS hl
  have hD : ∀ z0 z1 z2, va_D A (wSc tc a0 z0 (a2 0) (a1 0) ++ (wHd tc a1 z1 ++ (wSt tc a2 z2 q2_18 q2_19))) := fun z0 z1 z2 => D_fst (ws := (wSc tc a0 g0 (a2 0) (a1 0) ++ (wHd tc a1 g1 ++ (wSt tc a2 g2 q2_18 q2_19)))) rfl hD0
  have hl : lv_has ls 3 [(0, .ref (a0 0)), (1, .int x1)] := hl
  have HL2 : ∀ (x1 : Int32) (n : Nat) (x2 : Int32) (g0 : Pic) (g1 : Pic) (ex : ((Int32 × Pic × Pic) ⊕ (Pic × Pic))), f_X8_edgeOf_L2 x1 g2 n (x2, g0, g1) = some ex → (∀ rv, ex = .inl rv → rv = (r0, G0, G1)) → ∀ (H : Heap) (locs : List Loc) (ls : Array Slot), va_P (dC, dI) vwCl (wSc tc a0 g0 (a2 0) (a1 0) ++ (wHd tc a1 g1 ++ (wSt tc a2 g2 q2_18 q2_19))) H → va_S A s.heap H locs → lv_has ls 3 [(0, .ref (a0 0)), (1, .int x1), (2, .int x2)] → (∀ (k0 : Pic) (k1 : Pic), .inr (k0, k1) = ex → ∀ (H : Heap) (locs : List Loc) (ls : Array Slot), va_P (dC, dI) vwCl (wSc tc a0 k0 (a2 0) (a1 0) ++ (wHd tc a1 k1 ++ (wSt tc a2 g2 q2_18 q2_19))) H → va_S A s.heap H locs → lv_has ls 3 [] → W pr l e rm_X8_edgeOf s m args below meth c H locs 0 0 Q (F0 m 25 ls [])) → W pr l e rm_X8_edgeOf s m args below meth c H locs 0 0 Q (F0 m 2 ls []) := by
    intro x1 n
    induction n with
    | zero => intro x2 g0 g1 ex h; exact lp_z h
    | succ n ih =>
      intro x2 g0 g1 ex h hR H locs ls hP hS hl K
      have h := lp_s h
      refine lv_iload_n X.1 X.2.1 dX8_edgeOf_2 rfl (lv_at hl 2 rfl) ?_
      refine lv_bipush (v := 9) X.1 X.2.1 dX8_edgeOf_3 (by decide) ?_
      refine lv_icmp_gt (tgt := 25) X.1 X.2.1 dX8_edgeOf_5 (by decide) (fun hc => ?_) (fun hc => ?_)
      · have h := it_t hc h
        exact K g0 g1 (Option.some.inj h) H locs ls hP hS (lv_sub hl [] rfl)
      · have h := it_f hc h
        refine lv_aload_n X.1 X.2.1 dX8_edgeOf_8 rfl (lv_at hl 0 rfl) ?_
        refine lv_iload_n X.1 X.2.1 dX8_edgeOf_9 rfl (lv_at hl 1 rfl) ?_
        refine lv_iload_n X.1 X.2.1 dX8_edgeOf_10 rfl (lv_at hl 2 rfl) ?_
        obtain ⟨r_1, g0_1, g1_1, hc_1, h⟩ := bd3_el h
        refine call_V1i (As := [.int x1, .int x2]) (rest := []) X (c_X8_lagOf l dC dI sk sv tc a0 a1 a2 q2_18 q2_19 g0 g1 g2 x1 x2 hc_1) mw_5_67 mw_3_16 mw_3_17 mw_1_11 mw_3_18 dc_X8_lagOf ⟨Nat.le_of_ble_eq_true rfl, Nat.le_of_ble_eq_true rfl⟩ rfl rfl ⟨Nat.zero_le _, Nat.zero_le _⟩ hP (hD _ _ _) hS 0 rfl rfl rfl hl.1 (Nat.le_of_ble_eq_true rfl) dX8_edgeOf_11 (fun H locs hP hS => ?_)
        refine lv_if_ne (tgt := 19) X.1 X.2.1 dX8_edgeOf_14 (by decide) (fun hc => ?_) (fun hc => ?_)
        · have h := it_f hc h
          obtain ⟨x2_2, ex2_2, h⟩ := nm_el h
          refine lv_iinc (v := x2_2) (lv' := [(2, .int x2_2), (0, .ref (a0 0)), (1, .int x1)]) X.1 X.2.1 dX8_edgeOf_19 hl (k := 2) rfl (by rw [ex2_2]; rfl) (by decide) rfl (fun ls hl => ?_)
          refine lv_goto (tgt := 2) X.1 X.2.1 dX8_edgeOf_22 (by decide) ?_
          exact ih x2_2 g0_1 g1_1 ex h hR H locs ls hP hS (lv_sub hl [1, 2, 0] rfl) K
        · have h := it_t hc h
          refine lv_iload_n X.1 X.2.1 dX8_edgeOf_17 rfl (lv_at hl 2 rfl) ?_
          exact ret_i (fun u => (wSc tc a0 u.1 (a2 0) (a1 0) ++ (wHd tc a1 u.2 ++ (wSt tc a2 g2 q2_18 q2_19)))) (res := (r0, G0, G1)) (hR _ (Option.some.inj h).symm) X hQ hP hS dX8_edgeOf_18
  unfold f_X8_edgeOf at h
  refine lv_iconst (v := 1) X.1 X.2.1 dX8_edgeOf_0 (by decide) ?_
  refine lv_istore_n (lv' := [(2, .int 1), (0, .ref (a0 0)), (1, .int x1)]) X.1 X.2.1 dX8_edgeOf_1 rfl hl (by decide) rfl (fun ls hl => ?_)
  obtain ⟨ex_3, hL_3, h1_3, h2_3⟩ := lr_el h
  refine HL2 x1 fu 1 g0 g1 ex_3 hL_3 (fun rv hq => h1_3 rv hq) H locs ls hP hS (lv_sub hl [1, 2, 0] rfl) (fun g0_3 g1_3 he H locs ls hP hS hl => ?_)
  have h := h2_3 _ he.symm
  refine lv_iconst (v := (-1)) X.1 X.2.1 dX8_edgeOf_25 (by decide) ?_
  exact ret_i (fun u => (wSc tc a0 u.1 (a2 0) (a1 0) ++ (wHd tc a1 u.2 ++ (wSt tc a2 g2 q2_18 q2_19)))) (res := (r0, G0, G1)) (Option.some.inj h) X hQ hP hS dX8_edgeOf_26

def f_X8_runOf_L7 (x1 : Int32) (g0 : Pic) (g1 : Pic) (g2 : Pic) (n : Nat) (a : Int32 × Int32 × Int32) : Option (Int32) := lp (fun (rec : Int32 × Int32 × Int32 → Option (Int32)) (a : Int32 × Int32 × Int32) => match a with | (x2, x3, x4) => (if (g2 6 0) ≤ x4 then some x2 else bd (f_X9_onPage g2 x1 x4) (fun r_1 => jn (fun (s0_J40 : Int32) => nm ((if x2 < s0_J40 then s0_J40 else x2)) (fun x2_2 => nm (x4 + 1) (fun x4_3 => rec (x2_2, s0_J40, x4_3)))) (fun J40 => (if r_1 = 1 then J40 (x3 + 1) else J40 0))))) n a
def f_X8_runOf (g0 : Pic) (g1 : Pic) (g2 : Pic) (x1 : Int32) : Option (Int32) := bd (f_X8_runOf_L7 x1 g0 g1 g2 fu (0, 0, 0)) (fun x2_4 => some x2_4)
abbrev rm_X8_runOf : Room := { frames := 1, cells := 0, slots := 0, locals := 40 }
set_option maxHeartbeats 4000000 in
set_option maxRecDepth 100000 in
theorem c_X8_runOf (l : Launch) (dC : Nat → ClassId) (dI : Nat → Nat → Nat) (sk sv : Nat → Nat) (tc : Nat → ClassId) (a0 : Nat → Nat) (a1 : Nat → Nat) (a2 : Nat → Nat) (q2_18 : Option Nat) (q2_19 : Nat) (g0 : Pic) (g1 : Pic) (g2 : Pic) (x1 : Int32) {r0 : Int32} (h : f_X8_runOf g0 g1 g2 x1 = some r0) : CT l (dC, dI) sk sv (TY tc) yX8_runOf cX8_runOf 5 (some .int) rm_X8_runOf [.ref (a0 0), .int x1] (wSc tc a0 g0 (a2 0) (a1 0) ++ (wHd tc a1 g1 ++ (wSt tc a2 g2 q2_18 q2_19))) (some (.int r0)) (wSc tc a0 g0 (a2 0) (a1 0) ++ (wHd tc a1 g1 ++ (wSt tc a2 g2 q2_18 q2_19))) := by
  refine ofCT (by decide) (Nat.le_of_ble_eq_true rfl) ?_
  intro pr e s m args below meth c A Q ls H locs X hQ hD0 hP hS hl
  have hD : ∀ z0 z1 z2, va_D A (wSc tc a0 z0 (a2 0) (a1 0) ++ (wHd tc a1 z1 ++ (wSt tc a2 z2 q2_18 q2_19))) := fun z0 z1 z2 => D_fst (ws := (wSc tc a0 g0 (a2 0) (a1 0) ++ (wHd tc a1 g1 ++ (wSt tc a2 g2 q2_18 q2_19)))) rfl hD0
  have hl : lv_has ls 5 [(0, .ref (a0 0)), (1, .int x1)] := hl
  have HL7 : ∀ (x1 : Int32) (n : Nat) (x2 : Int32) (x3 : Int32) (x4 : Int32) (ex : (Int32)), f_X8_runOf_L7 x1 g0 g1 g2 n (x2, x3, x4) = some ex → ∀ (H : Heap) (locs : List Loc) (ls : Array Slot), va_P (dC, dI) vwCl (wSc tc a0 g0 (a2 0) (a1 0) ++ (wHd tc a1 g1 ++ (wSt tc a2 g2 q2_18 q2_19))) H → va_S A s.heap H locs → lv_has ls 5 [(0, .ref (a0 0)), (1, .int x1), (2, .int x2), (3, .int x3), (4, .int x4)] → (∀ (y2 : Int32), y2 = ex → ∀ (H : Heap) (locs : List Loc) (ls : Array Slot), va_P (dC, dI) vwCl (wSc tc a0 g0 (a2 0) (a1 0) ++ (wHd tc a1 g1 ++ (wSt tc a2 g2 q2_18 q2_19))) H → va_S A s.heap H locs → lv_has ls 5 [(2, .int y2)] → W pr l e rm_X8_runOf s m args below meth c H locs 0 0 Q (F0 m 53 ls [])) → W pr l e rm_X8_runOf s m args below meth c H locs 0 0 Q (F0 m 7 ls []) := by
    intro x1 n
    induction n with
    | zero => intro x2 x3 x4 ex h; exact lp_z h
    | succ n ih =>
      intro x2 x3 x4 ex h H locs ls hP hS hl K
      have h := lp_s h
      refine lv_iload X.1 X.2.1 dX8_runOf_7 (lv_at hl 4 rfl) ?_
      refine lv_aload_n X.1 X.2.1 dX8_runOf_9 rfl (lv_at hl 0 rfl) ?_
      refine r_get (C := RX8) (T := TX8) (N := 6) (ci := 8) (v := .ref (a2 0)) X iw8 hP 0 rfl rfl 0 rfl mw_2_123 rfl dX8_runOf_10 ?_
      refine r_get (C := RX9) (T := TX9) (N := 20) (ci := 9) (v := .int (g2 6 0)) X iw9 hP 9 rfl rfl 6 rfl mw_1_139 rfl dX8_runOf_13 ?_
      refine lv_icmp_ge (tgt := 53) X.1 X.2.1 dX8_runOf_16 (by decide) (fun hc => ?_) (fun hc => ?_)
      · have h := it_t hc h
        exact K x2 (Option.some.inj h) H locs ls hP hS (lv_sub hl [2] rfl)
      · have h := it_f hc h
        refine lv_aload_n X.1 X.2.1 dX8_runOf_19 rfl (lv_at hl 0 rfl) ?_
        refine r_get (C := RX8) (T := TX8) (N := 6) (ci := 8) (v := .ref (a2 0)) X iw8 hP 0 rfl rfl 0 rfl mw_2_123 rfl dX8_runOf_20 ?_
        refine lv_iload_n X.1 X.2.1 dX8_runOf_23 rfl (lv_at hl 1 rfl) ?_
        refine lv_iload X.1 X.2.1 dX8_runOf_24 (lv_at hl 4 rfl) ?_
        obtain ⟨r_1, hc_1, h⟩ := bd_el h
        refine call_Vsi (ws := (wSc tc a0 g0 (a2 0) (a1 0) ++ (wHd tc a1 g1 ++ (wSt tc a2 g2 q2_18 q2_19)))) (ws' := (wSc tc a0 g0 (a2 0) (a1 0) ++ (wHd tc a1 g1 ++ (wSt tc a2 g2 q2_18 q2_19)))) (wSc tc a0 g0 (a2 0) (a1 0) ++ (wHd tc a1 g1)) [] (As := [.int x1, .int x4]) (rest := []) X (c_X9_onPage l dC dI sk sv tc a2 q2_18 q2_19 g2 x1 x4 hc_1) mw_5_76 mw_5_77 mw_5_78 mw_1_3 mw_5_79 dc_X9_onPage ⟨Nat.le_of_ble_eq_true rfl, Nat.le_of_ble_eq_true rfl⟩ rfl rfl ⟨Nat.zero_le _, Nat.zero_le _⟩ (by simp only [List.append_assoc, List.nil_append, List.append_nil]) (by simp only [List.append_assoc, List.nil_append, List.append_nil]) hP (hD _ _ _) hS 0 rfl rfl rfl hl.1 (Nat.le_of_ble_eq_true rfl) dX8_runOf_26 (fun H locs hP hS => ?_)
        refine lv_iconst (v := 1) X.1 X.2.1 dX8_runOf_29 (by decide) ?_
        obtain ⟨J40, eJ40, h⟩ := jn_el h
        have HJ40 : ∀ (s0_J40 : Int32) (H : Heap) (locs : List Loc) (ls : Array Slot), J40 s0_J40 = some ex → va_P (dC, dI) vwCl (wSc tc a0 g0 (a2 0) (a1 0) ++ (wHd tc a1 g1 ++ (wSt tc a2 g2 q2_18 q2_19))) H → va_S A s.heap H locs → lv_has ls 5 [(0, .ref (a0 0)), (1, .int x1), (2, .int x2), (4, .int x4)] → W pr l e rm_X8_runOf s m args below meth c H locs 0 0 Q (F0 m 40 ls [.int s0_J40]) := by
          intro s0_J40 H locs ls h hP hS hl
          rw [eJ40] at h
          refine lv_istore_n (lv' := [(3, .int s0_J40), (0, .ref (a0 0)), (1, .int x1), (2, .int x2), (4, .int x4)]) X.1 X.2.1 dX8_runOf_40 rfl hl (by decide) rfl (fun ls hl => ?_)
          refine lv_iload_n X.1 X.2.1 dX8_runOf_41 rfl (lv_at hl 3 rfl) ?_
          refine lv_iload_n X.1 X.2.1 dX8_runOf_42 rfl (lv_at hl 0 rfl) ?_
          refine r_max X mw_3_20 mw_3_21 mw_1_25 mw_3_22 hl.1 (Nat.le_of_ble_eq_true rfl) (Nat.le_of_ble_eq_true rfl) ⟨Nat.zero_le _, Nat.zero_le _⟩ dX8_runOf_43 ?_
          obtain ⟨x2_2, ex2_2, h⟩ := nm_el h
          refine tp_i ex2_2 ?_
          refine lv_istore_n (lv' := [(2, .int x2_2), (3, .int s0_J40), (0, .ref (a0 0)), (1, .int x1), (4, .int x4)]) X.1 X.2.1 dX8_runOf_46 rfl hl (by decide) rfl (fun ls hl => ?_)
          obtain ⟨x4_3, ex4_3, h⟩ := nm_el h
          refine lv_iinc (v := x4_3) (lv' := [(4, .int x4_3), (2, .int x2_2), (3, .int s0_J40), (0, .ref (a0 0)), (1, .int x1)]) X.1 X.2.1 dX8_runOf_47 hl (k := 4) rfl (by rw [ex4_3]; rfl) (by decide) rfl (fun ls hl => ?_)
          refine lv_goto (tgt := 7) X.1 X.2.1 dX8_runOf_50 (by decide) ?_
          exact ih x2_2 s0_J40 x4_3 ex h H locs ls hP hS (lv_sub hl [3, 4, 1, 2, 0] rfl) K
        refine lv_icmp_ne (tgt := 39) X.1 X.2.1 dX8_runOf_30 (by decide) (fun hc => ?_) (fun hc => ?_)
        · have h := it_f hc h
          refine lv_iconst (v := 0) X.1 X.2.1 dX8_runOf_39 (by decide) ?_
          exact HJ40 0 H locs ls h hP hS (lv_sub hl [0, 1, 2, 4] rfl)
        · have h := it_t hc h
          refine lv_iload_n X.1 X.2.1 dX8_runOf_33 rfl (lv_at hl 3 rfl) ?_
          refine lv_iconst (v := 1) X.1 X.2.1 dX8_runOf_34 (by decide) ?_
          refine lv_iadd X.1 X.2.1 dX8_runOf_35 ?_
          refine lv_goto (tgt := 40) X.1 X.2.1 dX8_runOf_36 (by decide) ?_
          exact HJ40 (x3 + 1) H locs ls h hP hS (lv_sub hl [0, 1, 2, 4] rfl)
  unfold f_X8_runOf at h
  refine lv_iconst (v := 0) X.1 X.2.1 dX8_runOf_0 (by decide) ?_
  refine lv_istore_n (lv' := [(2, .int 0), (0, .ref (a0 0)), (1, .int x1)]) X.1 X.2.1 dX8_runOf_1 rfl hl (by decide) rfl (fun ls hl => ?_)
  refine lv_iconst (v := 0) X.1 X.2.1 dX8_runOf_2 (by decide) ?_
  refine lv_istore_n (lv' := [(3, .int 0), (2, .int 0), (0, .ref (a0 0)), (1, .int x1)]) X.1 X.2.1 dX8_runOf_3 rfl hl (by decide) rfl (fun ls hl => ?_)
  refine lv_iconst (v := 0) X.1 X.2.1 dX8_runOf_4 (by decide) ?_
  refine lv_istore (lv' := [(4, .int 0), (3, .int 0), (2, .int 0), (0, .ref (a0 0)), (1, .int x1)]) X.1 X.2.1 dX8_runOf_5 hl (by decide) rfl (fun ls hl => ?_)
  obtain ⟨ex_4, hL_4, h⟩ := bd_el h
  refine HL7 x1 fu 0 0 0 ex_4 hL_4 H locs ls hP hS (lv_sub hl [3, 4, 2, 1, 0] rfl) (fun x2_4 he H locs ls hP hS hl => ?_)
  subst he
  refine lv_iload_n X.1 X.2.1 dX8_runOf_53 rfl (lv_at hl 0 rfl) ?_
  exact ret_i0 (Option.some.inj h) X hQ hP hS dX8_runOf_54

def f_X8_gapsOf (g0 : Pic) (g1 : Pic) (g2 : Pic) (x1 : Int32) : Option (Int32) := bd (f_X9_onPageOf g2 x1 1) (fun r_1 => some ((g2 6 0) - r_1))
abbrev rm_X8_gapsOf : Room := { frames := 2, cells := 0, slots := 0, locals := 46 }
set_option maxHeartbeats 4000000 in
set_option maxRecDepth 100000 in
theorem c_X8_gapsOf (l : Launch) (dC : Nat → ClassId) (dI : Nat → Nat → Nat) (sk sv : Nat → Nat) (tc : Nat → ClassId) (a0 : Nat → Nat) (a1 : Nat → Nat) (a2 : Nat → Nat) (q2_18 : Option Nat) (q2_19 : Nat) (g0 : Pic) (g1 : Pic) (g2 : Pic) (x1 : Int32) {r0 : Int32} (h : f_X8_gapsOf g0 g1 g2 x1 = some r0) : CT l (dC, dI) sk sv (TY tc) yX8_gapsOf cX8_gapsOf 2 (some .int) rm_X8_gapsOf [.ref (a0 0), .int x1] (wSc tc a0 g0 (a2 0) (a1 0) ++ (wHd tc a1 g1 ++ (wSt tc a2 g2 q2_18 q2_19))) (some (.int r0)) (wSc tc a0 g0 (a2 0) (a1 0) ++ (wHd tc a1 g1 ++ (wSt tc a2 g2 q2_18 q2_19))) := by
  refine ofCT (by decide) (Nat.le_of_ble_eq_true rfl) ?_
  intro pr e s m args below meth c A Q ls H locs X hQ hD0 hP hS hl
  have hD : ∀ z0 z1 z2, va_D A (wSc tc a0 z0 (a2 0) (a1 0) ++ (wHd tc a1 z1 ++ (wSt tc a2 z2 q2_18 q2_19))) := fun z0 z1 z2 => D_fst (ws := (wSc tc a0 g0 (a2 0) (a1 0) ++ (wHd tc a1 g1 ++ (wSt tc a2 g2 q2_18 q2_19)))) rfl hD0
  have hl : lv_has ls 2 [(0, .ref (a0 0)), (1, .int x1)] := hl
  unfold f_X8_gapsOf at h
  refine lv_aload_n X.1 X.2.1 dX8_gapsOf_0 rfl (lv_at hl 0 rfl) ?_
  refine r_get (C := RX8) (T := TX8) (N := 6) (ci := 8) (v := .ref (a2 0)) X iw8 hP 0 rfl rfl 0 rfl mw_2_123 rfl dX8_gapsOf_1 ?_
  refine r_get (C := RX9) (T := TX9) (N := 20) (ci := 9) (v := .int (g2 6 0)) X iw9 hP 9 rfl rfl 6 rfl mw_1_139 rfl dX8_gapsOf_4 ?_
  refine lv_aload_n X.1 X.2.1 dX8_gapsOf_7 rfl (lv_at hl 0 rfl) ?_
  refine r_get (C := RX8) (T := TX8) (N := 6) (ci := 8) (v := .ref (a2 0)) X iw8 hP 0 rfl rfl 0 rfl mw_2_123 rfl dX8_gapsOf_8 ?_
  refine lv_iload_n X.1 X.2.1 dX8_gapsOf_11 rfl (lv_at hl 1 rfl) ?_
  refine lv_iconst (v := 1) X.1 X.2.1 dX8_gapsOf_12 (by decide) ?_
  obtain ⟨r_1, hc_1, h⟩ := bd_el h
  refine call_Vsi (ws := (wSc tc a0 g0 (a2 0) (a1 0) ++ (wHd tc a1 g1 ++ (wSt tc a2 g2 q2_18 q2_19)))) (ws' := (wSc tc a0 g0 (a2 0) (a1 0) ++ (wHd tc a1 g1 ++ (wSt tc a2 g2 q2_18 q2_19)))) (wSc tc a0 g0 (a2 0) (a1 0) ++ (wHd tc a1 g1)) [] (As := [.int x1, .int 1]) (rest := [.int (g2 6 0)]) X (c_X9_onPageOf l dC dI sk sv tc a2 q2_18 q2_19 g2 x1 1 hc_1) mw_5_84 mw_5_85 mw_5_86 mw_1_3 mw_5_87 dc_X9_onPageOf ⟨Nat.le_of_ble_eq_true rfl, Nat.le_of_ble_eq_true rfl⟩ rfl rfl ⟨Nat.zero_le _, Nat.zero_le _⟩ (by simp only [List.append_assoc, List.nil_append, List.append_nil]) (by simp only [List.append_assoc, List.nil_append, List.append_nil]) hP (hD _ _ _) hS 0 rfl rfl rfl hl.1 (Nat.le_of_ble_eq_true rfl) dX8_gapsOf_13 (fun H locs hP hS => ?_)
  refine lv_isub X.1 X.2.1 dX8_gapsOf_16 ?_
  exact ret_i0 (Option.some.inj h) X hQ hP hS dX8_gapsOf_17

def f_X8_trueOf_L24 (x1 : Int32) (g0 : Pic) (g1 : Pic) (g2 : Pic) (n : Nat) (a : Int32 × Int32) : Option (Int32) := lp (fun (rec : Int32 × Int32 → Option (Int32)) (a : Int32 × Int32) => match a with | (x2, x3) => (if (g2 6 0) ≤ x3 then some x2 else gdi x3 20 (nm ((g2 5 (x3.toNatClampNeg))) (fun x4_4 => bd (f_X9_onPage g2 x1 x3) (fun r_5 => jn (fun (x2_J76 : Int32) => nm (x3 + 1) (fun x3_6 => rec (x2_J76, x3_6))) (fun J76 => (if r_5 = 1 then bd (f_X3_readAs g1 x4_4) (fun r_7 => (if r_7 = x4_4 then nm (x2 + 1) (fun x2_8 => J76 x2_8) else J76 x2)) else J76 x2))))))) n a
def f_X8_trueOf (g0 : Pic) (g1 : Pic) (g2 : Pic) (x1 : Int32) : Option (Int32 × Pic) := gdi x1 5 (bd (f_X3_take g1 g2 (g2 8 (x1.toNatClampNeg))) (fun g1_2 => bd (f_X8_trueOf_L24 x1 g0 g1_2 g2 fu (0, 0)) (fun x2_9 => some (x2_9, g1_2))))
abbrev rm_X8_trueOf : Room := { frames := 1, cells := 0, slots := 0, locals := 27 }
set_option maxHeartbeats 4000000 in
set_option maxRecDepth 100000 in
theorem c_X8_trueOf (l : Launch) (dC : Nat → ClassId) (dI : Nat → Nat → Nat) (sk sv : Nat → Nat) (tc : Nat → ClassId) (a0 : Nat → Nat) (a1 : Nat → Nat) (a2 : Nat → Nat) (q2_18 : Option Nat) (q2_19 : Nat) (g0 : Pic) (g1 : Pic) (g2 : Pic) (x1 : Int32) {r0 : Int32} {G1 : Pic} (h : f_X8_trueOf g0 g1 g2 x1 = some (r0, G1)) : CT l (dC, dI) sk sv (TY tc) yX8_trueOf cX8_trueOf 5 (some .int) rm_X8_trueOf [.ref (a0 0), .int x1] (wSc tc a0 g0 (a2 0) (a1 0) ++ (wHd tc a1 g1 ++ (wSt tc a2 g2 q2_18 q2_19))) (some (.int r0)) (wSc tc a0 g0 (a2 0) (a1 0) ++ (wHd tc a1 G1 ++ (wSt tc a2 g2 q2_18 q2_19))) := by
  refine ofCT (by decide) (Nat.le_of_ble_eq_true rfl) ?_
  intro pr e s m args below meth c A Q ls H locs X hQ hD0 hP hS hl
  have hD : ∀ z0 z1 z2, va_D A (wSc tc a0 z0 (a2 0) (a1 0) ++ (wHd tc a1 z1 ++ (wSt tc a2 z2 q2_18 q2_19))) := fun z0 z1 z2 => D_fst (ws := (wSc tc a0 g0 (a2 0) (a1 0) ++ (wHd tc a1 g1 ++ (wSt tc a2 g2 q2_18 q2_19)))) rfl hD0
  have hl : lv_has ls 5 [(0, .ref (a0 0)), (1, .int x1)] := hl
  have HL24 : ∀ (x1 : Int32) (g1 : Pic) (n : Nat) (x2 : Int32) (x3 : Int32) (ex : (Int32)), f_X8_trueOf_L24 x1 g0 g1 g2 n (x2, x3) = some ex → ∀ (H : Heap) (locs : List Loc) (ls : Array Slot), va_P (dC, dI) vwCl (wSc tc a0 g0 (a2 0) (a1 0) ++ (wHd tc a1 g1 ++ (wSt tc a2 g2 q2_18 q2_19))) H → va_S A s.heap H locs → lv_has ls 5 [(0, .ref (a0 0)), (1, .int x1), (2, .int x2), (3, .int x3)] → (∀ (y2 : Int32), y2 = ex → ∀ (H : Heap) (locs : List Loc) (ls : Array Slot), va_P (dC, dI) vwCl (wSc tc a0 g0 (a2 0) (a1 0) ++ (wHd tc a1 g1 ++ (wSt tc a2 g2 q2_18 q2_19))) H → va_S A s.heap H locs → lv_has ls 5 [(2, .int y2)] → W pr l e rm_X8_trueOf s m args below meth c H locs 0 0 Q (F0 m 82 ls [])) → W pr l e rm_X8_trueOf s m args below meth c H locs 0 0 Q (F0 m 24 ls []) := by
    intro x1 g1 n
    induction n with
    | zero => intro x2 x3 ex h; exact lp_z h
    | succ n ih =>
      intro x2 x3 ex h H locs ls hP hS hl K
      have h := lp_s h
      refine lv_iload_n X.1 X.2.1 dX8_trueOf_24 rfl (lv_at hl 3 rfl) ?_
      refine lv_aload_n X.1 X.2.1 dX8_trueOf_25 rfl (lv_at hl 0 rfl) ?_
      refine r_get (C := RX8) (T := TX8) (N := 6) (ci := 8) (v := .ref (a2 0)) X iw8 hP 0 rfl rfl 0 rfl mw_2_123 rfl dX8_trueOf_26 ?_
      refine r_get (C := RX9) (T := TX9) (N := 20) (ci := 9) (v := .int (g2 6 0)) X iw9 hP 9 rfl rfl 6 rfl mw_1_139 rfl dX8_trueOf_29 ?_
      refine lv_icmp_ge (tgt := 82) X.1 X.2.1 dX8_trueOf_32 (by decide) (fun hc => ?_) (fun hc => ?_)
      · have h := it_t hc h
        exact K x2 (Option.some.inj h) H locs ls hP hS (lv_sub hl [2] rfl)
      · have h := it_f hc h
        refine lv_aload_n X.1 X.2.1 dX8_trueOf_35 rfl (lv_at hl 0 rfl) ?_
        refine r_get (C := RX8) (T := TX8) (N := 6) (ci := 8) (v := .ref (a2 0)) X iw8 hP 0 rfl rfl 0 rfl mw_2_123 rfl dX8_trueOf_36 ?_
        refine r_get (C := RX9) (T := TX9) (N := 20) (ci := 9) (v := .ref (a2 6)) X iw9 hP 9 rfl rfl 5 rfl mw_1_133 rfl dX8_trueOf_39 ?_
        refine lv_iload_n X.1 X.2.1 dX8_trueOf_42 rfl (lv_at hl 3 rfl) ?_
        obtain ⟨hg_3, h⟩ := gdi_el h
        refine r_iald X hP 13 0 rfl rfl hg_3 rfl dX8_trueOf_43 ?_
        obtain ⟨x4_4, ex4_4, h⟩ := nm_el h
        refine tp_i ex4_4 ?_
        refine lv_istore (lv' := [(4, .int x4_4), (0, .ref (a0 0)), (1, .int x1), (2, .int x2), (3, .int x3)]) X.1 X.2.1 dX8_trueOf_44 hl (by decide) rfl (fun ls hl => ?_)
        refine lv_aload_n X.1 X.2.1 dX8_trueOf_46 rfl (lv_at hl 1 rfl) ?_
        refine r_get (C := RX8) (T := TX8) (N := 6) (ci := 8) (v := .ref (a2 0)) X iw8 hP 0 rfl rfl 0 rfl mw_2_123 rfl dX8_trueOf_47 ?_
        refine lv_iload_n X.1 X.2.1 dX8_trueOf_50 rfl (lv_at hl 2 rfl) ?_
        refine lv_iload_n X.1 X.2.1 dX8_trueOf_51 rfl (lv_at hl 4 rfl) ?_
        obtain ⟨r_5, hc_5, h⟩ := bd_el h
        refine call_Vsi (ws := (wSc tc a0 g0 (a2 0) (a1 0) ++ (wHd tc a1 g1 ++ (wSt tc a2 g2 q2_18 q2_19)))) (ws' := (wSc tc a0 g0 (a2 0) (a1 0) ++ (wHd tc a1 g1 ++ (wSt tc a2 g2 q2_18 q2_19)))) (wSc tc a0 g0 (a2 0) (a1 0) ++ (wHd tc a1 g1)) [] (As := [.int x1, .int x3]) (rest := []) X (c_X9_onPage l dC dI sk sv tc a2 q2_18 q2_19 g2 x1 x3 hc_5) mw_5_76 mw_5_77 mw_5_78 mw_1_3 mw_5_79 dc_X9_onPage ⟨Nat.le_of_ble_eq_true rfl, Nat.le_of_ble_eq_true rfl⟩ rfl rfl ⟨Nat.zero_le _, Nat.zero_le _⟩ (by simp only [List.append_assoc, List.nil_append, List.append_nil]) (by simp only [List.append_assoc, List.nil_append, List.append_nil]) hP (hD _ _ _) hS 0 rfl rfl rfl hl.1 (Nat.le_of_ble_eq_true rfl) dX8_trueOf_52 (fun H locs hP hS => ?_)
        refine lv_iconst (v := 1) X.1 X.2.1 dX8_trueOf_55 (by decide) ?_
        obtain ⟨J76, eJ76, h⟩ := jn_el h
        have HJ76 : ∀ (x2_J76 : Int32) (H : Heap) (locs : List Loc) (ls : Array Slot), J76 x2_J76 = some ex → va_P (dC, dI) vwCl (wSc tc a0 g0 (a2 0) (a1 0) ++ (wHd tc a1 g1 ++ (wSt tc a2 g2 q2_18 q2_19))) H → va_S A s.heap H locs → lv_has ls 5 [(0, .ref (a0 0)), (1, .int x1), (2, .int x2_J76), (3, .int x3)] → W pr l e rm_X8_trueOf s m args below meth c H locs 0 0 Q (F0 m 76 ls []) := by
          intro x2_J76 H locs ls h hP hS hl
          rw [eJ76] at h
          obtain ⟨x3_6, ex3_6, h⟩ := nm_el h
          refine lv_iinc (v := x3_6) (lv' := [(3, .int x3_6), (0, .ref (a0 0)), (1, .int x1), (2, .int x2_J76)]) X.1 X.2.1 dX8_trueOf_76 hl (k := 3) rfl (by rw [ex3_6]; rfl) (by decide) rfl (fun ls hl => ?_)
          refine lv_goto (tgt := 24) X.1 X.2.1 dX8_trueOf_79 (by decide) ?_
          exact ih x2_J76 x3_6 ex h H locs ls hP hS (lv_sub hl [1, 2, 3, 0] rfl) K
        refine lv_icmp_ne (tgt := 76) X.1 X.2.1 dX8_trueOf_56 (by decide) (fun hc => ?_) (fun hc => ?_)
        · have h := it_f hc h
          exact HJ76 x2 H locs ls h hP hS (lv_sub hl [1, 2, 3, 4] rfl)
        · have h := it_t hc h
          refine lv_aload_n X.1 X.2.1 dX8_trueOf_59 rfl (lv_at hl 1 rfl) ?_
          refine r_get (C := RX8) (T := TX8) (N := 6) (ci := 8) (v := .ref (a1 0)) X iw8 hP 0 rfl rfl 1 rfl mw_2_124 rfl dX8_trueOf_60 ?_
          refine lv_iload X.1 X.2.1 dX8_trueOf_63 (lv_at hl 0 rfl) ?_
          obtain ⟨r_7, hc_7, h⟩ := bd_el h
          refine call_Vsi (ws := (wSc tc a0 g0 (a2 0) (a1 0) ++ (wHd tc a1 g1 ++ (wSt tc a2 g2 q2_18 q2_19)))) (ws' := (wSc tc a0 g0 (a2 0) (a1 0) ++ (wHd tc a1 g1 ++ (wSt tc a2 g2 q2_18 q2_19)))) (wSc tc a0 g0 (a2 0) (a1 0)) (wSt tc a2 g2 q2_18 q2_19) (As := [.int x4_4]) (rest := []) X (c_X3_readAs l dC dI sk sv tc a1 g1 x4_4 hc_7) mw_5_93 mw_5_56 mw_5_57 mw_1_7 mw_5_58 dc_X3_readAs ⟨Nat.le_of_ble_eq_true rfl, Nat.le_of_ble_eq_true rfl⟩ rfl rfl ⟨Nat.zero_le _, Nat.zero_le _⟩ (by simp only [List.append_assoc, List.nil_append, List.append_nil]) (by simp only [List.append_assoc, List.nil_append, List.append_nil]) hP (hD _ _ _) hS 0 rfl rfl rfl hl.1 (Nat.le_of_ble_eq_true rfl) dX8_trueOf_65 (fun H locs hP hS => ?_)
          refine lv_iload X.1 X.2.1 dX8_trueOf_68 (lv_at hl 0 rfl) ?_
          refine lv_icmp_ne (tgt := 76) X.1 X.2.1 dX8_trueOf_70 (by decide) (fun hc => ?_) (fun hc => ?_)
          · have h := it_f hc h
            exact HJ76 x2 H locs ls h hP hS (lv_sub hl [1, 2, 3, 4] rfl)
          · have h := it_t hc h
            obtain ⟨x2_8, ex2_8, h⟩ := nm_el h
            refine lv_iinc (v := x2_8) (lv' := [(2, .int x2_8), (4, .int x4_4), (0, .ref (a0 0)), (1, .int x1), (3, .int x3)]) X.1 X.2.1 dX8_trueOf_73 hl (k := 3) rfl (by rw [ex2_8]; rfl) (by decide) rfl (fun ls hl => ?_)
            exact HJ76 x2_8 H locs ls h hP hS (lv_sub hl [2, 3, 0, 4] rfl)
  unfold f_X8_trueOf at h
  refine lv_aload_n X.1 X.2.1 dX8_trueOf_0 rfl (lv_at hl 0 rfl) ?_
  refine r_get (C := RX8) (T := TX8) (N := 6) (ci := 8) (v := .ref (a1 0)) X iw8 hP 0 rfl rfl 1 rfl mw_2_124 rfl dX8_trueOf_1 ?_
  refine lv_aload_n X.1 X.2.1 dX8_trueOf_4 rfl (lv_at hl 0 rfl) ?_
  refine r_get (C := RX8) (T := TX8) (N := 6) (ci := 8) (v := .ref (a2 0)) X iw8 hP 0 rfl rfl 0 rfl mw_2_123 rfl dX8_trueOf_5 ?_
  refine lv_aload_n X.1 X.2.1 dX8_trueOf_8 rfl (lv_at hl 0 rfl) ?_
  refine r_get (C := RX8) (T := TX8) (N := 6) (ci := 8) (v := .ref (a2 0)) X iw8 hP 0 rfl rfl 0 rfl mw_2_123 rfl dX8_trueOf_9 ?_
  refine r_get (C := RX9) (T := TX9) (N := 20) (ci := 9) (v := .ref (a2 9)) X iw9 hP 9 rfl rfl 8 rfl mw_1_148 rfl dX8_trueOf_12 ?_
  refine lv_iload_n X.1 X.2.1 dX8_trueOf_15 rfl (lv_at hl 1 rfl) ?_
  obtain ⟨hg_1, h⟩ := gdi_el h
  refine r_iald X hP 14 0 rfl rfl hg_1 rfl dX8_trueOf_16 ?_
  obtain ⟨g1_2, hc_2, h⟩ := bd_el h
  refine call_Vsv (ws := (wSc tc a0 g0 (a2 0) (a1 0) ++ (wHd tc a1 g1 ++ (wSt tc a2 g2 q2_18 q2_19)))) (ws' := (wSc tc a0 g0 (a2 0) (a1 0) ++ (wHd tc a1 g1_2 ++ (wSt tc a2 g2 q2_18 q2_19)))) (wSc tc a0 g0 (a2 0) (a1 0)) [] (As := [.ref (a2 0), .int (g2 8 (x1.toNatClampNeg))]) (rest := []) X (c_X3_take l dC dI sk sv tc a1 a2 q2_18 q2_19 g1 g2 (g2 8 (x1.toNatClampNeg)) hc_2) mw_3_19 mw_2_220 mw_2_221 mw_1_7 mw_2_222 dc_X3_take ⟨Nat.le_of_ble_eq_true rfl, Nat.le_of_ble_eq_true rfl⟩ rfl rfl ⟨Nat.zero_le _, Nat.zero_le _⟩ (by simp only [List.append_assoc, List.nil_append, List.append_nil]) (by simp only [List.append_assoc, List.nil_append, List.append_nil]) hP (hD _ _ _) hS 0 rfl rfl rfl hl.1 (Nat.le_of_ble_eq_true rfl) dX8_trueOf_17 (fun H locs hP hS => ?_)
  refine lv_iconst (v := 0) X.1 X.2.1 dX8_trueOf_20 (by decide) ?_
  refine lv_istore_n (lv' := [(2, .int 0), (0, .ref (a0 0)), (1, .int x1)]) X.1 X.2.1 dX8_trueOf_21 rfl hl (by decide) rfl (fun ls hl => ?_)
  refine lv_iconst (v := 0) X.1 X.2.1 dX8_trueOf_22 (by decide) ?_
  refine lv_istore_n (lv' := [(3, .int 0), (2, .int 0), (0, .ref (a0 0)), (1, .int x1)]) X.1 X.2.1 dX8_trueOf_23 rfl hl (by decide) rfl (fun ls hl => ?_)
  obtain ⟨ex_9, hL_9, h⟩ := bd_el h
  refine HL24 x1 g1_2 fu 0 0 ex_9 hL_9 H locs ls hP hS (lv_sub hl [2, 3, 1, 0] rfl) (fun x2_9 he H locs ls hP hS hl => ?_)
  subst he
  refine lv_iload_n X.1 X.2.1 dX8_trueOf_82 rfl (lv_at hl 0 rfl) ?_
  exact ret_i (fun u => (wSc tc a0 g0 (a2 0) (a1 0) ++ (wHd tc a1 u ++ (wSt tc a2 g2 q2_18 q2_19)))) (res := (r0, G1)) (Option.some.inj h) X hQ hP hS dX8_trueOf_83

def f_X8_shareOf (g0 : Pic) (g1 : Pic) (g2 : Pic) (x1 : Int32) : Option (Int32) := bd (f_X9_onAllPages g2 1) (fun r_1 => jn (fun (s0_J31 : Int32) => some s0_J31) (fun J31 => (if r_1 = 0 then J31 0 else bd (f_X9_onPageOf g2 x1 1) (fun r_2 => gdz r_1 (J31 ((r_2 * 100) / r_1))))))
abbrev rm_X8_shareOf : Room := { frames := 3, cells := 0, slots := 0, locals := 69 }
set_option maxHeartbeats 4000000 in
set_option maxRecDepth 100000 in
theorem c_X8_shareOf (l : Launch) (dC : Nat → ClassId) (dI : Nat → Nat → Nat) (sk sv : Nat → Nat) (tc : Nat → ClassId) (a0 : Nat → Nat) (a1 : Nat → Nat) (a2 : Nat → Nat) (q2_18 : Option Nat) (q2_19 : Nat) (g0 : Pic) (g1 : Pic) (g2 : Pic) (x1 : Int32) {r0 : Int32} (h : f_X8_shareOf g0 g1 g2 x1 = some r0) : CT l (dC, dI) sk sv (TY tc) yX8_shareOf cX8_shareOf 3 (some .int) rm_X8_shareOf [.ref (a0 0), .int x1] (wSc tc a0 g0 (a2 0) (a1 0) ++ (wHd tc a1 g1 ++ (wSt tc a2 g2 q2_18 q2_19))) (some (.int r0)) (wSc tc a0 g0 (a2 0) (a1 0) ++ (wHd tc a1 g1 ++ (wSt tc a2 g2 q2_18 q2_19))) := by
  refine ofCT (by decide) (Nat.le_of_ble_eq_true rfl) ?_
  intro pr e s m args below meth c A Q ls H locs X hQ hD0 hP hS hl
  have hD : ∀ z0 z1 z2, va_D A (wSc tc a0 z0 (a2 0) (a1 0) ++ (wHd tc a1 z1 ++ (wSt tc a2 z2 q2_18 q2_19))) := fun z0 z1 z2 => D_fst (ws := (wSc tc a0 g0 (a2 0) (a1 0) ++ (wHd tc a1 g1 ++ (wSt tc a2 g2 q2_18 q2_19)))) rfl hD0
  have hl : lv_has ls 3 [(0, .ref (a0 0)), (1, .int x1)] := hl
  unfold f_X8_shareOf at h
  refine lv_aload_n X.1 X.2.1 dX8_shareOf_0 rfl (lv_at hl 0 rfl) ?_
  refine r_get (C := RX8) (T := TX8) (N := 6) (ci := 8) (v := .ref (a2 0)) X iw8 hP 0 rfl rfl 0 rfl mw_2_123 rfl dX8_shareOf_1 ?_
  refine lv_iconst (v := 1) X.1 X.2.1 dX8_shareOf_4 (by decide) ?_
  obtain ⟨r_1, hc_1, h⟩ := bd_el h
  refine call_Vsi (ws := (wSc tc a0 g0 (a2 0) (a1 0) ++ (wHd tc a1 g1 ++ (wSt tc a2 g2 q2_18 q2_19)))) (ws' := (wSc tc a0 g0 (a2 0) (a1 0) ++ (wHd tc a1 g1 ++ (wSt tc a2 g2 q2_18 q2_19)))) (wSc tc a0 g0 (a2 0) (a1 0) ++ (wHd tc a1 g1)) [] (As := [.int 1]) (rest := []) X (c_X9_onAllPages l dC dI sk sv tc a2 q2_18 q2_19 g2 1 hc_1) mw_5_98 mw_5_99 mw_5_100 mw_1_3 mw_5_101 dc_X9_onAllPages ⟨Nat.le_of_ble_eq_true rfl, Nat.le_of_ble_eq_true rfl⟩ rfl rfl ⟨Nat.zero_le _, Nat.zero_le _⟩ (by simp only [List.append_assoc, List.nil_append, List.append_nil]) (by simp only [List.append_assoc, List.nil_append, List.append_nil]) hP (hD _ _ _) hS 0 rfl rfl rfl hl.1 (Nat.le_of_ble_eq_true rfl) dX8_shareOf_5 (fun H locs hP hS => ?_)
  refine lv_istore_n (lv' := [(2, .int r_1), (0, .ref (a0 0)), (1, .int x1)]) X.1 X.2.1 dX8_shareOf_8 rfl hl (by decide) rfl (fun ls hl => ?_)
  refine lv_iload_n X.1 X.2.1 dX8_shareOf_9 rfl (lv_at hl 0 rfl) ?_
  obtain ⟨J31, eJ31, h⟩ := jn_el h
  have HJ31 : ∀ (s0_J31 : Int32) (H : Heap) (locs : List Loc) (ls : Array Slot), J31 s0_J31 = some r0 → va_P (dC, dI) vwCl (wSc tc a0 g0 (a2 0) (a1 0) ++ (wHd tc a1 g1 ++ (wSt tc a2 g2 q2_18 q2_19))) H → va_S A s.heap H locs → lv_has ls 3 [] → W pr l e rm_X8_shareOf s m args below meth c H locs 0 0 Q (F0 m 31 ls [.int s0_J31]) := by
    intro s0_J31 H locs ls h hP hS hl
    rw [eJ31] at h
    exact ret_i0 (Option.some.inj h) X hQ hP hS dX8_shareOf_31
  refine lv_if_ne (tgt := 17) X.1 X.2.1 dX8_shareOf_10 (by decide) (fun hc => ?_) (fun hc => ?_)
  · have h := it_f hc h
    refine lv_aload_n X.1 X.2.1 dX8_shareOf_17 rfl (lv_at hl 1 rfl) ?_
    refine r_get (C := RX8) (T := TX8) (N := 6) (ci := 8) (v := .ref (a2 0)) X iw8 hP 0 rfl rfl 0 rfl mw_2_123 rfl dX8_shareOf_18 ?_
    refine lv_iload_n X.1 X.2.1 dX8_shareOf_21 rfl (lv_at hl 2 rfl) ?_
    refine lv_iconst (v := 1) X.1 X.2.1 dX8_shareOf_22 (by decide) ?_
    obtain ⟨r_2, hc_2, h⟩ := bd_el h
    refine call_Vsi (ws := (wSc tc a0 g0 (a2 0) (a1 0) ++ (wHd tc a1 g1 ++ (wSt tc a2 g2 q2_18 q2_19)))) (ws' := (wSc tc a0 g0 (a2 0) (a1 0) ++ (wHd tc a1 g1 ++ (wSt tc a2 g2 q2_18 q2_19)))) (wSc tc a0 g0 (a2 0) (a1 0) ++ (wHd tc a1 g1)) [] (As := [.int x1, .int 1]) (rest := []) X (c_X9_onPageOf l dC dI sk sv tc a2 q2_18 q2_19 g2 x1 1 hc_2) mw_5_84 mw_5_85 mw_5_86 mw_1_3 mw_5_87 dc_X9_onPageOf ⟨Nat.le_of_ble_eq_true rfl, Nat.le_of_ble_eq_true rfl⟩ rfl rfl ⟨Nat.zero_le _, Nat.zero_le _⟩ (by simp only [List.append_assoc, List.nil_append, List.append_nil]) (by simp only [List.append_assoc, List.nil_append, List.append_nil]) hP (hD _ _ _) hS 0 rfl rfl rfl hl.1 (Nat.le_of_ble_eq_true rfl) dX8_shareOf_23 (fun H locs hP hS => ?_)
    refine lv_bipush (v := 100) X.1 X.2.1 dX8_shareOf_26 (by decide) ?_
    refine lv_imul X.1 X.2.1 dX8_shareOf_28 ?_
    refine lv_iload_n X.1 X.2.1 dX8_shareOf_29 rfl (lv_at hl 0 rfl) ?_
    obtain ⟨hg_3, h⟩ := gdz_el h
    refine lv_idiv X.1 X.2.1 dX8_shareOf_30 hg_3 ?_
    exact HJ31 ((r_2 * 100) / r_1) H locs ls h hP hS (lv_sub hl [] rfl)
  · have h := it_t hc h
    refine lv_iconst (v := 0) X.1 X.2.1 dX8_shareOf_13 (by decide) ?_
    refine lv_goto (tgt := 31) X.1 X.2.1 dX8_shareOf_14 (by decide) ?_
    exact HJ31 0 H locs ls h hP hS (lv_sub hl [] rfl)

def f_X8_claimOf (g0 : Pic) (g1 : Pic) (g2 : Pic) (x1 : Int32) : Option (Int32) := gdi x1 5 (gdi x1 5 (gdz ((g0 2 (x1.toNatClampNeg)) + 1) (some ((g2 9 (x1.toNatClampNeg)) / ((g0 2 (x1.toNatClampNeg)) + 1)))))
abbrev rm_X8_claimOf : Room := { frames := 0, cells := 0, slots := 0, locals := 0 }
set_option maxHeartbeats 4000000 in
set_option maxRecDepth 100000 in
theorem c_X8_claimOf (l : Launch) (dC : Nat → ClassId) (dI : Nat → Nat → Nat) (sk sv : Nat → Nat) (tc : Nat → ClassId) (a0 : Nat → Nat) (a1 : Nat → Nat) (a2 : Nat → Nat) (q2_18 : Option Nat) (q2_19 : Nat) (g0 : Pic) (g1 : Pic) (g2 : Pic) (x1 : Int32) {r0 : Int32} (h : f_X8_claimOf g0 g1 g2 x1 = some r0) : CT l (dC, dI) sk sv (TY tc) yX8_claimOf cX8_claimOf 2 (some .int) rm_X8_claimOf [.ref (a0 0), .int x1] (wSc tc a0 g0 (a2 0) (a1 0) ++ (wHd tc a1 g1 ++ (wSt tc a2 g2 q2_18 q2_19))) (some (.int r0)) (wSc tc a0 g0 (a2 0) (a1 0) ++ (wHd tc a1 g1 ++ (wSt tc a2 g2 q2_18 q2_19))) := by
  refine ofCT (by decide) (Nat.le_of_ble_eq_true rfl) ?_
  intro pr e s m args below meth c A Q ls H locs X hQ hD0 hP hS hl
  have hD : ∀ z0 z1 z2, va_D A (wSc tc a0 z0 (a2 0) (a1 0) ++ (wHd tc a1 z1 ++ (wSt tc a2 z2 q2_18 q2_19))) := fun z0 z1 z2 => D_fst (ws := (wSc tc a0 g0 (a2 0) (a1 0) ++ (wHd tc a1 g1 ++ (wSt tc a2 g2 q2_18 q2_19)))) rfl hD0
  have hl : lv_has ls 2 [(0, .ref (a0 0)), (1, .int x1)] := hl
  unfold f_X8_claimOf at h
  refine lv_aload_n X.1 X.2.1 dX8_claimOf_0 rfl (lv_at hl 0 rfl) ?_
  refine r_get (C := RX8) (T := TX8) (N := 6) (ci := 8) (v := .ref (a2 0)) X iw8 hP 0 rfl rfl 0 rfl mw_2_123 rfl dX8_claimOf_1 ?_
  refine r_get (C := RX9) (T := TX9) (N := 20) (ci := 9) (v := .ref (a2 10)) X iw9 hP 9 rfl rfl 9 rfl mw_1_154 rfl dX8_claimOf_4 ?_
  refine lv_iload_n X.1 X.2.1 dX8_claimOf_7 rfl (lv_at hl 1 rfl) ?_
  obtain ⟨hg_1, h⟩ := gdi_el h
  refine r_iald X hP 15 0 rfl rfl hg_1 rfl dX8_claimOf_8 ?_
  refine lv_aload_n X.1 X.2.1 dX8_claimOf_9 rfl (lv_at hl 0 rfl) ?_
  refine r_get (C := RX8) (T := TX8) (N := 6) (ci := 8) (v := .ref (a0 3)) X iw8 hP 0 rfl rfl 2 rfl mw_2_125 rfl dX8_claimOf_10 ?_
  refine lv_iload_n X.1 X.2.1 dX8_claimOf_13 rfl (lv_at hl 1 rfl) ?_
  obtain ⟨hg_2, h⟩ := gdi_el h
  refine r_iald X hP 1 0 rfl rfl hg_2 rfl dX8_claimOf_14 ?_
  refine lv_iconst (v := 1) X.1 X.2.1 dX8_claimOf_15 (by decide) ?_
  refine lv_iadd X.1 X.2.1 dX8_claimOf_16 ?_
  obtain ⟨hg_3, h⟩ := gdz_el h
  refine lv_idiv X.1 X.2.1 dX8_claimOf_17 hg_3 ?_
  exact ret_i0 (Option.some.inj h) X hQ hP hS dX8_claimOf_18

def f_X8_firstIn_L2 (x1 : Int32) (g0 : Pic) (g1 : Pic) (g2 : Pic) (n : Nat) (a : Int32) : Option ((Int32) ⊕ (Unit)) := lp (fun (rec : Int32 → Option ((Int32) ⊕ (Unit))) (a : Int32) => (fun (x2 : Int32) => (if (g2 7 0) ≤ x2 then some (.inr ()) else (if ((x1 >>> (x2 &&& 31)) &&& 1) = 1 then some (.inl x2) else nm (x2 + 1) (fun x2_1 => rec x2_1)))) a) n a
def f_X8_firstIn (g0 : Pic) (g1 : Pic) (g2 : Pic) (x1 : Int32) : Option (Int32) := lr (f_X8_firstIn_L2 x1 g0 g1 g2 fu 0) (fun a => a) (fun _ => some (-1))
abbrev rm_X8_firstIn : Room := { frames := 0, cells := 0, slots := 0, locals := 0 }
set_option maxHeartbeats 4000000 in
set_option maxRecDepth 100000 in
theorem c_X8_firstIn (l : Launch) (dC : Nat → ClassId) (dI : Nat → Nat → Nat) (sk sv : Nat → Nat) (tc : Nat → ClassId) (a0 : Nat → Nat) (a1 : Nat → Nat) (a2 : Nat → Nat) (q2_18 : Option Nat) (q2_19 : Nat) (g0 : Pic) (g1 : Pic) (g2 : Pic) (x1 : Int32) {r0 : Int32} (h : f_X8_firstIn g0 g1 g2 x1 = some r0) : CT l (dC, dI) sk sv (TY tc) yX8_firstIn cX8_firstIn 3 (some .int) rm_X8_firstIn [.ref (a0 0), .int x1] (wSc tc a0 g0 (a2 0) (a1 0) ++ (wHd tc a1 g1 ++ (wSt tc a2 g2 q2_18 q2_19))) (some (.int r0)) (wSc tc a0 g0 (a2 0) (a1 0) ++ (wHd tc a1 g1 ++ (wSt tc a2 g2 q2_18 q2_19))) := by
  refine ofCT (by decide) (Nat.le_of_ble_eq_true rfl) ?_
  intro pr e s m args below meth c A Q ls H locs X hQ hD0 hP hS hl
  have hD : ∀ z0 z1 z2, va_D A (wSc tc a0 z0 (a2 0) (a1 0) ++ (wHd tc a1 z1 ++ (wSt tc a2 z2 q2_18 q2_19))) := fun z0 z1 z2 => D_fst (ws := (wSc tc a0 g0 (a2 0) (a1 0) ++ (wHd tc a1 g1 ++ (wSt tc a2 g2 q2_18 q2_19)))) rfl hD0
  have hl : lv_has ls 3 [(0, .ref (a0 0)), (1, .int x1)] := hl
  have HL2 : ∀ (x1 : Int32) (n : Nat) (x2 : Int32) (ex : ((Int32) ⊕ (Unit))), f_X8_firstIn_L2 x1 g0 g1 g2 n x2 = some ex → (∀ rv, ex = .inl rv → rv = r0) → ∀ (H : Heap) (locs : List Loc) (ls : Array Slot), va_P (dC, dI) vwCl (wSc tc a0 g0 (a2 0) (a1 0) ++ (wHd tc a1 g1 ++ (wSt tc a2 g2 q2_18 q2_19))) H → va_S A s.heap H locs → lv_has ls 3 [(0, .ref (a0 0)), (1, .int x1), (2, .int x2)] → (.inr () = ex → ∀ (H : Heap) (locs : List Loc) (ls : Array Slot), va_P (dC, dI) vwCl (wSc tc a0 g0 (a2 0) (a1 0) ++ (wHd tc a1 g1 ++ (wSt tc a2 g2 q2_18 q2_19))) H → va_S A s.heap H locs → lv_has ls 3 [] → W pr l e rm_X8_firstIn s m args below meth c H locs 0 0 Q (F0 m 30 ls [])) → W pr l e rm_X8_firstIn s m args below meth c H locs 0 0 Q (F0 m 2 ls []) := by
    intro x1 n
    induction n with
    | zero => intro x2 ex h; exact lp_z h
    | succ n ih =>
      intro x2 ex h hR H locs ls hP hS hl K
      have h := lp_s h
      refine lv_iload_n X.1 X.2.1 dX8_firstIn_2 rfl (lv_at hl 2 rfl) ?_
      refine lv_aload_n X.1 X.2.1 dX8_firstIn_3 rfl (lv_at hl 0 rfl) ?_
      refine r_get (C := RX8) (T := TX8) (N := 6) (ci := 8) (v := .ref (a2 0)) X iw8 hP 0 rfl rfl 0 rfl mw_2_123 rfl dX8_firstIn_4 ?_
      refine r_get (C := RX9) (T := TX9) (N := 20) (ci := 9) (v := .int (g2 7 0)) X iw9 hP 9 rfl rfl 7 rfl mw_1_144 rfl dX8_firstIn_7 ?_
      refine lv_icmp_ge (tgt := 30) X.1 X.2.1 dX8_firstIn_10 (by decide) (fun hc => ?_) (fun hc => ?_)
      · have h := it_t hc h
        exact K  (Option.some.inj h) H locs ls hP hS (lv_sub hl [] rfl)
      · have h := it_f hc h
        refine lv_iload_n X.1 X.2.1 dX8_firstIn_13 rfl (lv_at hl 1 rfl) ?_
        refine lv_iload_n X.1 X.2.1 dX8_firstIn_14 rfl (lv_at hl 2 rfl) ?_
        refine lv_ishr X.1 X.2.1 dX8_firstIn_15 ?_
        refine lv_iconst (v := 1) X.1 X.2.1 dX8_firstIn_16 (by decide) ?_
        refine lv_iand X.1 X.2.1 dX8_firstIn_17 ?_
        refine lv_iconst (v := 1) X.1 X.2.1 dX8_firstIn_18 (by decide) ?_
        refine lv_icmp_ne (tgt := 24) X.1 X.2.1 dX8_firstIn_19 (by decide) (fun hc => ?_) (fun hc => ?_)
        · have h := it_f hc h
          obtain ⟨x2_1, ex2_1, h⟩ := nm_el h
          refine lv_iinc (v := x2_1) (lv' := [(2, .int x2_1), (0, .ref (a0 0)), (1, .int x1)]) X.1 X.2.1 dX8_firstIn_24 hl (k := 2) rfl (by rw [ex2_1]; rfl) (by decide) rfl (fun ls hl => ?_)
          refine lv_goto (tgt := 2) X.1 X.2.1 dX8_firstIn_27 (by decide) ?_
          exact ih x2_1 ex h hR H locs ls hP hS (lv_sub hl [1, 2, 0] rfl) K
        · have h := it_t hc h
          refine lv_iload_n X.1 X.2.1 dX8_firstIn_22 rfl (lv_at hl 2 rfl) ?_
          exact ret_i0 (hR _ (Option.some.inj h).symm) X hQ hP hS dX8_firstIn_23
  unfold f_X8_firstIn at h
  refine lv_iconst (v := 0) X.1 X.2.1 dX8_firstIn_0 (by decide) ?_
  refine lv_istore_n (lv' := [(2, .int 0), (0, .ref (a0 0)), (1, .int x1)]) X.1 X.2.1 dX8_firstIn_1 rfl hl (by decide) rfl (fun ls hl => ?_)
  obtain ⟨ex_2, hL_2, h1_2, h2_2⟩ := lr_el h
  refine HL2 x1 fu 0 ex_2 hL_2 (fun rv hq => h1_2 rv hq) H locs ls hP hS (lv_sub hl [1, 2, 0] rfl) (fun  he H locs ls hP hS hl => ?_)
  have h := h2_2 _ he.symm
  refine lv_iconst (v := (-1)) X.1 X.2.1 dX8_firstIn_30 (by decide) ?_
  exact ret_i0 (Option.some.inj h) X hQ hP hS dX8_firstIn_31

def f_X8_withPair (g0 : Pic) (g1 : Pic) (g2 : Pic) (x1 : Int32) (x2 : Int32) (x3 : Int32) : Option (Int32) := (if ((x1 >>> (x3 &&& 31)) &&& 1) = 0 then some (-1) else gdi x2 5 (gdi x3 5 (bd (f_J6_bitCount_0f7a4 ((g2 8 (x2.toNatClampNeg)) ^^^ (g2 8 (x3.toNatClampNeg)))) (fun r_3 => gdi ((x1 &&& (((1 : Int32) <<< (x2 &&& 31)) ^^^ (-1))) &&& (((1 : Int32) <<< (x3 &&& 31)) ^^^ (-1))) 32 (some (r_3 + (g0 3 (((x1 &&& (((1 : Int32) <<< (x2 &&& 31)) ^^^ (-1))) &&& (((1 : Int32) <<< (x3 &&& 31)) ^^^ (-1))).toNatClampNeg))))))))
abbrev rm_X8_withPair : Room := { frames := 1, cells := 0, slots := 0, locals := 20 }
set_option maxHeartbeats 4000000 in
set_option maxRecDepth 100000 in
theorem c_X8_withPair (l : Launch) (dC : Nat → ClassId) (dI : Nat → Nat → Nat) (sk sv : Nat → Nat) (tc : Nat → ClassId) (a0 : Nat → Nat) (a1 : Nat → Nat) (a2 : Nat → Nat) (q2_18 : Option Nat) (q2_19 : Nat) (g0 : Pic) (g1 : Pic) (g2 : Pic) (x1 : Int32) (x2 : Int32) (x3 : Int32) {r0 : Int32} (h : f_X8_withPair g0 g1 g2 x1 x2 x3 = some r0) : CT l (dC, dI) sk sv (TY tc) yX8_withPair cX8_withPair 5 (some .int) rm_X8_withPair [.ref (a0 0), .int x1, .int x2, .int x3] (wSc tc a0 g0 (a2 0) (a1 0) ++ (wHd tc a1 g1 ++ (wSt tc a2 g2 q2_18 q2_19))) (some (.int r0)) (wSc tc a0 g0 (a2 0) (a1 0) ++ (wHd tc a1 g1 ++ (wSt tc a2 g2 q2_18 q2_19))) := by
  refine ofCT (by decide) (Nat.le_of_ble_eq_true rfl) ?_
  intro pr e s m args below meth c A Q ls H locs X hQ hD0 hP hS hl
  have hD : ∀ z0 z1 z2, va_D A (wSc tc a0 z0 (a2 0) (a1 0) ++ (wHd tc a1 z1 ++ (wSt tc a2 z2 q2_18 q2_19))) := fun z0 z1 z2 => D_fst (ws := (wSc tc a0 g0 (a2 0) (a1 0) ++ (wHd tc a1 g1 ++ (wSt tc a2 g2 q2_18 q2_19)))) rfl hD0
  have hl : lv_has ls 5 [(0, .ref (a0 0)), (1, .int x1), (2, .int x2), (3, .int x3)] := hl
  unfold f_X8_withPair at h
  refine lv_iload_n X.1 X.2.1 dX8_withPair_0 rfl (lv_at hl 1 rfl) ?_
  refine lv_iload_n X.1 X.2.1 dX8_withPair_1 rfl (lv_at hl 3 rfl) ?_
  refine lv_ishr X.1 X.2.1 dX8_withPair_2 ?_
  refine lv_iconst (v := 1) X.1 X.2.1 dX8_withPair_3 (by decide) ?_
  refine lv_iand X.1 X.2.1 dX8_withPair_4 ?_
  refine lv_if_ne (tgt := 10) X.1 X.2.1 dX8_withPair_5 (by decide) (fun hc => ?_) (fun hc => ?_)
  · have h := it_f hc h
    refine lv_aload_n X.1 X.2.1 dX8_withPair_10 rfl (lv_at hl 0 rfl) ?_
    refine r_get (C := RX8) (T := TX8) (N := 6) (ci := 8) (v := .ref (a2 0)) X iw8 hP 0 rfl rfl 0 rfl mw_2_123 rfl dX8_withPair_11 ?_
    refine r_get (C := RX9) (T := TX9) (N := 20) (ci := 9) (v := .ref (a2 9)) X iw9 hP 9 rfl rfl 8 rfl mw_1_148 rfl dX8_withPair_14 ?_
    refine lv_iload_n X.1 X.2.1 dX8_withPair_17 rfl (lv_at hl 2 rfl) ?_
    obtain ⟨hg_1, h⟩ := gdi_el h
    refine r_iald X hP 14 0 rfl rfl hg_1 rfl dX8_withPair_18 ?_
    refine lv_aload_n X.1 X.2.1 dX8_withPair_19 rfl (lv_at hl 0 rfl) ?_
    refine r_get (C := RX8) (T := TX8) (N := 6) (ci := 8) (v := .ref (a2 0)) X iw8 hP 0 rfl rfl 0 rfl mw_2_123 rfl dX8_withPair_20 ?_
    refine r_get (C := RX9) (T := TX9) (N := 20) (ci := 9) (v := .ref (a2 9)) X iw9 hP 9 rfl rfl 8 rfl mw_1_148 rfl dX8_withPair_23 ?_
    refine lv_iload_n X.1 X.2.1 dX8_withPair_26 rfl (lv_at hl 3 rfl) ?_
    obtain ⟨hg_2, h⟩ := gdi_el h
    refine r_iald X hP 14 0 rfl rfl hg_2 rfl dX8_withPair_27 ?_
    refine lv_ixor X.1 X.2.1 dX8_withPair_28 ?_
    obtain ⟨r_3, hc_3, h⟩ := bd_el h
    refine call_S0i (As := [.int ((g2 8 (x2.toNatClampNeg)) ^^^ (g2 8 (x3.toNatClampNeg)))]) (rest := []) X (c_J6_bitCount_0f7a4 l dC dI sk sv tc ((g2 8 (x2.toNatClampNeg)) ^^^ (g2 8 (x3.toNatClampNeg))) hc_3) mw_7_21 mw_2_214 mw_1_29 mw_2_215 dc_J6_bitCount_0f7a4 ⟨Nat.le_of_ble_eq_true rfl, Nat.le_of_ble_eq_true rfl⟩ rfl rfl ⟨Nat.zero_le _, Nat.zero_le _⟩ hP (hD _ _ _) hS hl.1 (Nat.le_of_ble_eq_true rfl) dX8_withPair_29 (fun H locs hP hS => ?_)
    refine lv_istore (lv' := [(4, .int r_3), (0, .ref (a0 0)), (1, .int x1), (2, .int x2), (3, .int x3)]) X.1 X.2.1 dX8_withPair_32 hl (by decide) rfl (fun ls hl => ?_)
    refine lv_iload X.1 X.2.1 dX8_withPair_34 (lv_at hl 0 rfl) ?_
    refine lv_aload_n X.1 X.2.1 dX8_withPair_36 rfl (lv_at hl 1 rfl) ?_
    refine r_get (C := RX8) (T := TX8) (N := 6) (ci := 8) (v := .ref (a0 4)) X iw8 hP 0 rfl rfl 3 rfl mw_2_126 rfl dX8_withPair_37 ?_
    refine lv_iload_n X.1 X.2.1 dX8_withPair_40 rfl (lv_at hl 2 rfl) ?_
    refine lv_iconst (v := 1) X.1 X.2.1 dX8_withPair_41 (by decide) ?_
    refine lv_iload_n X.1 X.2.1 dX8_withPair_42 rfl (lv_at hl 3 rfl) ?_
    refine lv_ishl X.1 X.2.1 dX8_withPair_43 ?_
    refine lv_iconst (v := (-1)) X.1 X.2.1 dX8_withPair_44 (by decide) ?_
    refine lv_ixor X.1 X.2.1 dX8_withPair_45 ?_
    refine lv_iand X.1 X.2.1 dX8_withPair_46 ?_
    refine lv_iconst (v := 1) X.1 X.2.1 dX8_withPair_47 (by decide) ?_
    refine lv_iload_n X.1 X.2.1 dX8_withPair_48 rfl (lv_at hl 4 rfl) ?_
    refine lv_ishl X.1 X.2.1 dX8_withPair_49 ?_
    refine lv_iconst (v := (-1)) X.1 X.2.1 dX8_withPair_50 (by decide) ?_
    refine lv_ixor X.1 X.2.1 dX8_withPair_51 ?_
    refine lv_iand X.1 X.2.1 dX8_withPair_52 ?_
    obtain ⟨hg_4, h⟩ := gdi_el h
    refine r_iald X hP 2 0 rfl rfl hg_4 rfl dX8_withPair_53 ?_
    refine lv_iadd X.1 X.2.1 dX8_withPair_54 ?_
    exact ret_i0 (Option.some.inj h) X hQ hP hS dX8_withPair_55
  · have h := it_t hc h
    refine lv_iconst (v := (-1)) X.1 X.2.1 dX8_withPair_8 (by decide) ?_
    exact ret_i0 (Option.some.inj h) X hQ hP hS dX8_withPair_9

def f_X8_partnerIn_L27 (x1 : Int32) (x2 : Int32) (g0 : Pic) (g1 : Pic) (g2 : Pic) (n : Nat) (a : Int32) : Option ((Int32) ⊕ (Unit)) := lp (fun (rec : Int32 → Option ((Int32) ⊕ (Unit))) (a : Int32) => (fun (x3 : Int32) => (if (g2 7 0) ≤ x3 then some (.inr ()) else gdi x1 32 (bd (f_X8_withPair g0 g1 g2 x1 x2 x3) (fun r_5 => (if (g0 3 (x1.toNatClampNeg)) = r_5 then some (.inl x3) else nm (x3 + 1) (fun x3_6 => rec x3_6)))))) a) n a
def f_X8_partnerIn (g0 : Pic) (g1 : Pic) (g2 : Pic) (x1 : Int32) (x2 : Int32) : Option (Int32) := gdi x1 32 (gdi (x1 &&& (((1 : Int32) <<< (x2 &&& 31)) ^^^ (-1))) 32 ((if (g0 3 (x1.toNatClampNeg)) = (g0 3 ((x1 &&& (((1 : Int32) <<< (x2 &&& 31)) ^^^ (-1))).toNatClampNeg)) then some (-1) else nm ((x2 + 1)) (fun x3_3 => lr (f_X8_partnerIn_L27 x1 x2 g0 g1 g2 fu x3_3) (fun a => a) (fun _ => some (-1))))))
abbrev rm_X8_partnerIn : Room := { frames := 2, cells := 0, slots := 0, locals := 44 }
set_option maxHeartbeats 4000000 in
set_option maxRecDepth 100000 in
theorem c_X8_partnerIn (l : Launch) (dC : Nat → ClassId) (dI : Nat → Nat → Nat) (sk sv : Nat → Nat) (tc : Nat → ClassId) (a0 : Nat → Nat) (a1 : Nat → Nat) (a2 : Nat → Nat) (q2_18 : Option Nat) (q2_19 : Nat) (g0 : Pic) (g1 : Pic) (g2 : Pic) (x1 : Int32) (x2 : Int32) {r0 : Int32} (h : f_X8_partnerIn g0 g1 g2 x1 x2 = some r0) : CT l (dC, dI) sk sv (TY tc) yX8_partnerIn cX8_partnerIn 4 (some .int) rm_X8_partnerIn [.ref (a0 0), .int x1, .int x2] (wSc tc a0 g0 (a2 0) (a1 0) ++ (wHd tc a1 g1 ++ (wSt tc a2 g2 q2_18 q2_19))) (some (.int r0)) (wSc tc a0 g0 (a2 0) (a1 0) ++ (wHd tc a1 g1 ++ (wSt tc a2 g2 q2_18 q2_19))) := by
  refine ofCT (by decide) (Nat.le_of_ble_eq_true rfl) ?_
  intro pr e s m args below meth c A Q ls H locs X hQ hD0 hP hS hl
  have hD : ∀ z0 z1 z2, va_D A (wSc tc a0 z0 (a2 0) (a1 0) ++ (wHd tc a1 z1 ++ (wSt tc a2 z2 q2_18 q2_19))) := fun z0 z1 z2 => D_fst (ws := (wSc tc a0 g0 (a2 0) (a1 0) ++ (wHd tc a1 g1 ++ (wSt tc a2 g2 q2_18 q2_19)))) rfl hD0
  have hl : lv_has ls 4 [(0, .ref (a0 0)), (1, .int x1), (2, .int x2)] := hl
  have HL27 : ∀ (x1 : Int32) (x2 : Int32) (n : Nat) (x3 : Int32) (ex : ((Int32) ⊕ (Unit))), f_X8_partnerIn_L27 x1 x2 g0 g1 g2 n x3 = some ex → (∀ rv, ex = .inl rv → rv = r0) → ∀ (H : Heap) (locs : List Loc) (ls : Array Slot), va_P (dC, dI) vwCl (wSc tc a0 g0 (a2 0) (a1 0) ++ (wHd tc a1 g1 ++ (wSt tc a2 g2 q2_18 q2_19))) H → va_S A s.heap H locs → lv_has ls 4 [(0, .ref (a0 0)), (1, .int x1), (2, .int x2), (3, .int x3)] → (.inr () = ex → ∀ (H : Heap) (locs : List Loc) (ls : Array Slot), va_P (dC, dI) vwCl (wSc tc a0 g0 (a2 0) (a1 0) ++ (wHd tc a1 g1 ++ (wSt tc a2 g2 q2_18 q2_19))) H → va_S A s.heap H locs → lv_has ls 4 [] → W pr l e rm_X8_partnerIn s m args below meth c H locs 0 0 Q (F0 m 62 ls [])) → W pr l e rm_X8_partnerIn s m args below meth c H locs 0 0 Q (F0 m 27 ls []) := by
    intro x1 x2 n
    induction n with
    | zero => intro x3 ex h; exact lp_z h
    | succ n ih =>
      intro x3 ex h hR H locs ls hP hS hl K
      have h := lp_s h
      refine lv_iload_n X.1 X.2.1 dX8_partnerIn_27 rfl (lv_at hl 3 rfl) ?_
      refine lv_aload_n X.1 X.2.1 dX8_partnerIn_28 rfl (lv_at hl 0 rfl) ?_
      refine r_get (C := RX8) (T := TX8) (N := 6) (ci := 8) (v := .ref (a2 0)) X iw8 hP 0 rfl rfl 0 rfl mw_2_123 rfl dX8_partnerIn_29 ?_
      refine r_get (C := RX9) (T := TX9) (N := 20) (ci := 9) (v := .int (g2 7 0)) X iw9 hP 9 rfl rfl 7 rfl mw_1_144 rfl dX8_partnerIn_32 ?_
      refine lv_icmp_ge (tgt := 62) X.1 X.2.1 dX8_partnerIn_35 (by decide) (fun hc => ?_) (fun hc => ?_)
      · have h := it_t hc h
        exact K  (Option.some.inj h) H locs ls hP hS (lv_sub hl [] rfl)
      · have h := it_f hc h
        refine lv_aload_n X.1 X.2.1 dX8_partnerIn_38 rfl (lv_at hl 0 rfl) ?_
        refine r_get (C := RX8) (T := TX8) (N := 6) (ci := 8) (v := .ref (a0 4)) X iw8 hP 0 rfl rfl 3 rfl mw_2_126 rfl dX8_partnerIn_39 ?_
        refine lv_iload_n X.1 X.2.1 dX8_partnerIn_42 rfl (lv_at hl 1 rfl) ?_
        obtain ⟨hg_4, h⟩ := gdi_el h
        refine r_iald X hP 2 0 rfl rfl hg_4 rfl dX8_partnerIn_43 ?_
        refine lv_aload_n X.1 X.2.1 dX8_partnerIn_44 rfl (lv_at hl 0 rfl) ?_
        refine lv_iload_n X.1 X.2.1 dX8_partnerIn_45 rfl (lv_at hl 1 rfl) ?_
        refine lv_iload_n X.1 X.2.1 dX8_partnerIn_46 rfl (lv_at hl 2 rfl) ?_
        refine lv_iload_n X.1 X.2.1 dX8_partnerIn_47 rfl (lv_at hl 3 rfl) ?_
        obtain ⟨r_5, hc_5, h⟩ := bd_el h
        refine call_V1i (As := [.int x1, .int x2, .int x3]) (rest := [.int (g0 3 (x1.toNatClampNeg))]) X (c_X8_withPair l dC dI sk sv tc a0 a1 a2 q2_18 q2_19 g0 g1 g2 x1 x2 x3 hc_5) mw_7_17 mw_7_18 mw_7_19 mw_1_11 mw_7_20 dc_X8_withPair ⟨Nat.le_of_ble_eq_true rfl, Nat.le_of_ble_eq_true rfl⟩ rfl rfl ⟨Nat.zero_le _, Nat.zero_le _⟩ hP (hD _ _ _) hS 0 rfl rfl rfl hl.1 (Nat.le_of_ble_eq_true rfl) dX8_partnerIn_48 (fun H locs hP hS => ?_)
        refine lv_icmp_ne (tgt := 56) X.1 X.2.1 dX8_partnerIn_51 (by decide) (fun hc => ?_) (fun hc => ?_)
        · have h := it_f hc h
          obtain ⟨x3_6, ex3_6, h⟩ := nm_el h
          refine lv_iinc (v := x3_6) (lv' := [(3, .int x3_6), (0, .ref (a0 0)), (1, .int x1), (2, .int x2)]) X.1 X.2.1 dX8_partnerIn_56 hl (k := 3) rfl (by rw [ex3_6]; rfl) (by decide) rfl (fun ls hl => ?_)
          refine lv_goto (tgt := 27) X.1 X.2.1 dX8_partnerIn_59 (by decide) ?_
          exact ih x3_6 ex h hR H locs ls hP hS (lv_sub hl [1, 2, 3, 0] rfl) K
        · have h := it_t hc h
          refine lv_iload_n X.1 X.2.1 dX8_partnerIn_54 rfl (lv_at hl 3 rfl) ?_
          exact ret_i0 (hR _ (Option.some.inj h).symm) X hQ hP hS dX8_partnerIn_55
  unfold f_X8_partnerIn at h
  refine lv_aload_n X.1 X.2.1 dX8_partnerIn_0 rfl (lv_at hl 0 rfl) ?_
  refine r_get (C := RX8) (T := TX8) (N := 6) (ci := 8) (v := .ref (a0 4)) X iw8 hP 0 rfl rfl 3 rfl mw_2_126 rfl dX8_partnerIn_1 ?_
  refine lv_iload_n X.1 X.2.1 dX8_partnerIn_4 rfl (lv_at hl 1 rfl) ?_
  obtain ⟨hg_1, h⟩ := gdi_el h
  refine r_iald X hP 2 0 rfl rfl hg_1 rfl dX8_partnerIn_5 ?_
  refine lv_aload_n X.1 X.2.1 dX8_partnerIn_6 rfl (lv_at hl 0 rfl) ?_
  refine r_get (C := RX8) (T := TX8) (N := 6) (ci := 8) (v := .ref (a0 4)) X iw8 hP 0 rfl rfl 3 rfl mw_2_126 rfl dX8_partnerIn_7 ?_
  refine lv_iload_n X.1 X.2.1 dX8_partnerIn_10 rfl (lv_at hl 1 rfl) ?_
  refine lv_iconst (v := 1) X.1 X.2.1 dX8_partnerIn_11 (by decide) ?_
  refine lv_iload_n X.1 X.2.1 dX8_partnerIn_12 rfl (lv_at hl 2 rfl) ?_
  refine lv_ishl X.1 X.2.1 dX8_partnerIn_13 ?_
  refine lv_iconst (v := (-1)) X.1 X.2.1 dX8_partnerIn_14 (by decide) ?_
  refine lv_ixor X.1 X.2.1 dX8_partnerIn_15 ?_
  refine lv_iand X.1 X.2.1 dX8_partnerIn_16 ?_
  obtain ⟨hg_2, h⟩ := gdi_el h
  refine r_iald X hP 2 0 rfl rfl hg_2 rfl dX8_partnerIn_17 ?_
  refine lv_icmp_ne (tgt := 23) X.1 X.2.1 dX8_partnerIn_18 (by decide) (fun hc => ?_) (fun hc => ?_)
  · have h := it_f hc h
    refine lv_iload_n X.1 X.2.1 dX8_partnerIn_23 rfl (lv_at hl 2 rfl) ?_
    refine lv_iconst (v := 1) X.1 X.2.1 dX8_partnerIn_24 (by decide) ?_
    refine lv_iadd X.1 X.2.1 dX8_partnerIn_25 ?_
    obtain ⟨x3_3, ex3_3, h⟩ := nm_el h
    refine tp_i ex3_3 ?_
    refine lv_istore_n (lv' := [(3, .int x3_3), (0, .ref (a0 0)), (1, .int x1), (2, .int x2)]) X.1 X.2.1 dX8_partnerIn_26 rfl hl (by decide) rfl (fun ls hl => ?_)
    obtain ⟨ex_7, hL_7, h1_7, h2_7⟩ := lr_el h
    refine HL27 x1 x2 fu x3_3 ex_7 hL_7 (fun rv hq => h1_7 rv hq) H locs ls hP hS (lv_sub hl [1, 2, 3, 0] rfl) (fun  he H locs ls hP hS hl => ?_)
    have h := h2_7 _ he.symm
    refine lv_iconst (v := (-1)) X.1 X.2.1 dX8_partnerIn_62 (by decide) ?_
    exact ret_i0 (Option.some.inj h) X hQ hP hS dX8_partnerIn_63
  · have h := it_t hc h
    refine lv_iconst (v := (-1)) X.1 X.2.1 dX8_partnerIn_21 (by decide) ?_
    exact ret_i0 (Option.some.inj h) X hQ hP hS dX8_partnerIn_22

def f_X8_gainOf (g0 : Pic) (g1 : Pic) (g2 : Pic) (x1 : Int32) (x2 : Int32) : Option (Int32) := (if x2 = 0 then gdi x1 5 (some (g2 10 (x1.toNatClampNeg))) else (if x2 = 1 then gdi x1 5 (some (-((g2 11 (x1.toNatClampNeg)) / 10))) else (if x2 = 2 then some 1 else some 4)))
abbrev rm_X8_gainOf : Room := { frames := 0, cells := 0, slots := 0, locals := 0 }
set_option maxHeartbeats 4000000 in
set_option maxRecDepth 100000 in
theorem c_X8_gainOf (l : Launch) (dC : Nat → ClassId) (dI : Nat → Nat → Nat) (sk sv : Nat → Nat) (tc : Nat → ClassId) (a0 : Nat → Nat) (a1 : Nat → Nat) (a2 : Nat → Nat) (q2_18 : Option Nat) (q2_19 : Nat) (g0 : Pic) (g1 : Pic) (g2 : Pic) (x1 : Int32) (x2 : Int32) {r0 : Int32} (h : f_X8_gainOf g0 g1 g2 x1 x2 = some r0) : CT l (dC, dI) sk sv (TY tc) yX8_gainOf cX8_gainOf 3 (some .int) rm_X8_gainOf [.ref (a0 0), .int x1, .int x2] (wSc tc a0 g0 (a2 0) (a1 0) ++ (wHd tc a1 g1 ++ (wSt tc a2 g2 q2_18 q2_19))) (some (.int r0)) (wSc tc a0 g0 (a2 0) (a1 0) ++ (wHd tc a1 g1 ++ (wSt tc a2 g2 q2_18 q2_19))) := by
  refine ofCT (by decide) (Nat.le_of_ble_eq_true rfl) ?_
  intro pr e s m args below meth c A Q ls H locs X hQ hD0 hP hS hl
  have hD : ∀ z0 z1 z2, va_D A (wSc tc a0 z0 (a2 0) (a1 0) ++ (wHd tc a1 z1 ++ (wSt tc a2 z2 q2_18 q2_19))) := fun z0 z1 z2 => D_fst (ws := (wSc tc a0 g0 (a2 0) (a1 0) ++ (wHd tc a1 g1 ++ (wSt tc a2 g2 q2_18 q2_19)))) rfl hD0
  have hl : lv_has ls 3 [(0, .ref (a0 0)), (1, .int x1), (2, .int x2)] := hl
  unfold f_X8_gainOf at h
  refine lv_iload_n X.1 X.2.1 dX8_gainOf_0 rfl (lv_at hl 2 rfl) ?_
  by_cases hq1_0 : x2 = 0
  · have h := it_t hq1_0 h
    refine lv_tableIn (tgt := 28) X.1 X.2.1 dX8_gainOf_1 (by rw [hq1_0]; decide) (by rw [hq1_0]; decide) (by rw [hq1_0]; rfl) (by decide) ?_
    refine lv_aload_n X.1 X.2.1 dX8_gainOf_28 rfl (lv_at hl 0 rfl) ?_
    refine r_get (C := RX8) (T := TX8) (N := 6) (ci := 8) (v := .ref (a2 0)) X iw8 hP 0 rfl rfl 0 rfl mw_2_123 rfl dX8_gainOf_29 ?_
    refine r_get (C := RX9) (T := TX9) (N := 20) (ci := 9) (v := .ref (a2 11)) X iw9 hP 9 rfl rfl 10 rfl mw_1_162 rfl dX8_gainOf_32 ?_
    refine lv_iload_n X.1 X.2.1 dX8_gainOf_35 rfl (lv_at hl 1 rfl) ?_
    obtain ⟨hg_2, h⟩ := gdi_el h
    refine r_iald X hP 16 0 rfl rfl hg_2 rfl dX8_gainOf_36 ?_
    exact ret_i0 (Option.some.inj h) X hQ hP hS dX8_gainOf_37
  · have h := it_f hq1_0 h
    by_cases hq1_1 : x2 = 1
    · have h := it_t hq1_1 h
      refine lv_tableIn (tgt := 38) X.1 X.2.1 dX8_gainOf_1 (by rw [hq1_1]; decide) (by rw [hq1_1]; decide) (by rw [hq1_1]; rfl) (by decide) ?_
      refine lv_aload_n X.1 X.2.1 dX8_gainOf_38 rfl (lv_at hl 0 rfl) ?_
      refine r_get (C := RX8) (T := TX8) (N := 6) (ci := 8) (v := .ref (a2 0)) X iw8 hP 0 rfl rfl 0 rfl mw_2_123 rfl dX8_gainOf_39 ?_
      refine r_get (C := RX9) (T := TX9) (N := 20) (ci := 9) (v := .ref (a2 12)) X iw9 hP 9 rfl rfl 11 rfl mw_1_167 rfl dX8_gainOf_42 ?_
      refine lv_iload_n X.1 X.2.1 dX8_gainOf_45 rfl (lv_at hl 1 rfl) ?_
      obtain ⟨hg_3, h⟩ := gdi_el h
      refine r_iald X hP 17 0 rfl rfl hg_3 rfl dX8_gainOf_46 ?_
      refine lv_bipush (v := 10) X.1 X.2.1 dX8_gainOf_47 (by decide) ?_
      refine lv_idiv X.1 X.2.1 dX8_gainOf_49 (by decide) ?_
      refine lv_ineg X.1 X.2.1 dX8_gainOf_50 ?_
      exact ret_i0 (Option.some.inj h) X hQ hP hS dX8_gainOf_51
    · have h := it_f hq1_1 h
      by_cases hq1_2 : x2 = 2
      · have h := it_t hq1_2 h
        refine lv_tableIn (tgt := 52) X.1 X.2.1 dX8_gainOf_1 (by rw [hq1_2]; decide) (by rw [hq1_2]; decide) (by rw [hq1_2]; rfl) (by decide) ?_
        refine lv_iconst (v := 1) X.1 X.2.1 dX8_gainOf_52 (by decide) ?_
        exact ret_i0 (Option.some.inj h) X hQ hP hS dX8_gainOf_53
      · have h := it_f hq1_2 h
        refine lv_tableOut (tgt := 54) X.1 X.2.1 dX8_gainOf_1 (sw_out x2 [0, 1, 2] 3 (by decide) (by decide) (by simp only [List.mem_cons, List.not_mem_nil, or_false, forall_eq_or_imp, forall_eq]; exact ⟨hq1_0, hq1_1, hq1_2⟩)) (by decide) ?_
        refine lv_iconst (v := 4) X.1 X.2.1 dX8_gainOf_54 (by decide) ?_
        exact ret_i0 (Option.some.inj h) X hQ hP hS dX8_gainOf_55

def f_X8_speakerGain (g0 : Pic) (g1 : Pic) (g2 : Pic) (x1 : Int32) (x2 : Int32) : Option (Int32) := (if x2 = 0 then some 2 else (if x2 = 1 then some 1 else (if x2 = 2 then gdi x1 5 (some (-(g2 9 (x1.toNatClampNeg)))) else some 3)))
abbrev rm_X8_speakerGain : Room := { frames := 0, cells := 0, slots := 0, locals := 0 }
set_option maxHeartbeats 4000000 in
set_option maxRecDepth 100000 in
theorem c_X8_speakerGain (l : Launch) (dC : Nat → ClassId) (dI : Nat → Nat → Nat) (sk sv : Nat → Nat) (tc : Nat → ClassId) (a0 : Nat → Nat) (a1 : Nat → Nat) (a2 : Nat → Nat) (q2_18 : Option Nat) (q2_19 : Nat) (g0 : Pic) (g1 : Pic) (g2 : Pic) (x1 : Int32) (x2 : Int32) {r0 : Int32} (h : f_X8_speakerGain g0 g1 g2 x1 x2 = some r0) : CT l (dC, dI) sk sv (TY tc) yX8_speakerGain cX8_speakerGain 3 (some .int) rm_X8_speakerGain [.ref (a0 0), .int x1, .int x2] (wSc tc a0 g0 (a2 0) (a1 0) ++ (wHd tc a1 g1 ++ (wSt tc a2 g2 q2_18 q2_19))) (some (.int r0)) (wSc tc a0 g0 (a2 0) (a1 0) ++ (wHd tc a1 g1 ++ (wSt tc a2 g2 q2_18 q2_19))) := by
  refine ofCT (by decide) (Nat.le_of_ble_eq_true rfl) ?_
  intro pr e s m args below meth c A Q ls H locs X hQ hD0 hP hS hl
  have hD : ∀ z0 z1 z2, va_D A (wSc tc a0 z0 (a2 0) (a1 0) ++ (wHd tc a1 z1 ++ (wSt tc a2 z2 q2_18 q2_19))) := fun z0 z1 z2 => D_fst (ws := (wSc tc a0 g0 (a2 0) (a1 0) ++ (wHd tc a1 g1 ++ (wSt tc a2 g2 q2_18 q2_19)))) rfl hD0
  have hl : lv_has ls 3 [(0, .ref (a0 0)), (1, .int x1), (2, .int x2)] := hl
  unfold f_X8_speakerGain at h
  refine lv_iload_n X.1 X.2.1 dX8_speakerGain_0 rfl (lv_at hl 2 rfl) ?_
  by_cases hq1_0 : x2 = 0
  · have h := it_t hq1_0 h
    refine lv_tableIn (tgt := 28) X.1 X.2.1 dX8_speakerGain_1 (by rw [hq1_0]; decide) (by rw [hq1_0]; decide) (by rw [hq1_0]; rfl) (by decide) ?_
    refine lv_iconst (v := 2) X.1 X.2.1 dX8_speakerGain_28 (by decide) ?_
    exact ret_i0 (Option.some.inj h) X hQ hP hS dX8_speakerGain_29
  · have h := it_f hq1_0 h
    by_cases hq1_1 : x2 = 1
    · have h := it_t hq1_1 h
      refine lv_tableIn (tgt := 30) X.1 X.2.1 dX8_speakerGain_1 (by rw [hq1_1]; decide) (by rw [hq1_1]; decide) (by rw [hq1_1]; rfl) (by decide) ?_
      refine lv_iconst (v := 1) X.1 X.2.1 dX8_speakerGain_30 (by decide) ?_
      exact ret_i0 (Option.some.inj h) X hQ hP hS dX8_speakerGain_31
    · have h := it_f hq1_1 h
      by_cases hq1_2 : x2 = 2
      · have h := it_t hq1_2 h
        refine lv_tableIn (tgt := 32) X.1 X.2.1 dX8_speakerGain_1 (by rw [hq1_2]; decide) (by rw [hq1_2]; decide) (by rw [hq1_2]; rfl) (by decide) ?_
        refine lv_aload_n X.1 X.2.1 dX8_speakerGain_32 rfl (lv_at hl 0 rfl) ?_
        refine r_get (C := RX8) (T := TX8) (N := 6) (ci := 8) (v := .ref (a2 0)) X iw8 hP 0 rfl rfl 0 rfl mw_2_123 rfl dX8_speakerGain_33 ?_
        refine r_get (C := RX9) (T := TX9) (N := 20) (ci := 9) (v := .ref (a2 10)) X iw9 hP 9 rfl rfl 9 rfl mw_1_154 rfl dX8_speakerGain_36 ?_
        refine lv_iload_n X.1 X.2.1 dX8_speakerGain_39 rfl (lv_at hl 1 rfl) ?_
        obtain ⟨hg_2, h⟩ := gdi_el h
        refine r_iald X hP 15 0 rfl rfl hg_2 rfl dX8_speakerGain_40 ?_
        refine lv_ineg X.1 X.2.1 dX8_speakerGain_41 ?_
        exact ret_i0 (Option.some.inj h) X hQ hP hS dX8_speakerGain_42
      · have h := it_f hq1_2 h
        refine lv_tableOut (tgt := 43) X.1 X.2.1 dX8_speakerGain_1 (sw_out x2 [0, 1, 2] 3 (by decide) (by decide) (by simp only [List.mem_cons, List.not_mem_nil, or_false, forall_eq_or_imp, forall_eq]; exact ⟨hq1_0, hq1_1, hq1_2⟩)) (by decide) ?_
        refine lv_iconst (v := 3) X.1 X.2.1 dX8_speakerGain_43 (by decide) ?_
        exact ret_i0 (Option.some.inj h) X hQ hP hS dX8_speakerGain_44

def f_X8_doneOf (g0 : Pic) (g1 : Pic) (g2 : Pic) (x1 : Int32) : Option (Int32 × Pic × Pic) := bd3 (f_X8_lagOf g0 g1 g2 x1 (g2 13 0)) (fun r_1 g0_1 g1_1 => some ((g0_1 5 0), g0_1, g1_1))
abbrev rm_X8_doneOf : Room := { frames := 2, cells := 0, slots := 0, locals := 66 }
set_option maxHeartbeats 4000000 in
set_option maxRecDepth 100000 in
theorem c_X8_doneOf (l : Launch) (dC : Nat → ClassId) (dI : Nat → Nat → Nat) (sk sv : Nat → Nat) (tc : Nat → ClassId) (a0 : Nat → Nat) (a1 : Nat → Nat) (a2 : Nat → Nat) (q2_18 : Option Nat) (q2_19 : Nat) (g0 : Pic) (g1 : Pic) (g2 : Pic) (x1 : Int32) {r0 : Int32} {G0 : Pic} {G1 : Pic} (h : f_X8_doneOf g0 g1 g2 x1 = some (r0, G0, G1)) : CT l (dC, dI) sk sv (TY tc) yX8_doneOf cX8_doneOf 2 (some .int) rm_X8_doneOf [.ref (a0 0), .int x1] (wSc tc a0 g0 (a2 0) (a1 0) ++ (wHd tc a1 g1 ++ (wSt tc a2 g2 q2_18 q2_19))) (some (.int r0)) (wSc tc a0 G0 (a2 0) (a1 0) ++ (wHd tc a1 G1 ++ (wSt tc a2 g2 q2_18 q2_19))) := by
  refine ofCT (by decide) (Nat.le_of_ble_eq_true rfl) ?_
  intro pr e s m args below meth c A Q ls H locs X hQ hD0 hP hS hl
  have hD : ∀ z0 z1 z2, va_D A (wSc tc a0 z0 (a2 0) (a1 0) ++ (wHd tc a1 z1 ++ (wSt tc a2 z2 q2_18 q2_19))) := fun z0 z1 z2 => D_fst (ws := (wSc tc a0 g0 (a2 0) (a1 0) ++ (wHd tc a1 g1 ++ (wSt tc a2 g2 q2_18 q2_19)))) rfl hD0
  have hl : lv_has ls 2 [(0, .ref (a0 0)), (1, .int x1)] := hl
  unfold f_X8_doneOf at h
  refine lv_aload_n X.1 X.2.1 dX8_doneOf_0 rfl (lv_at hl 0 rfl) ?_
  refine lv_iload_n X.1 X.2.1 dX8_doneOf_1 rfl (lv_at hl 1 rfl) ?_
  refine lv_aload_n X.1 X.2.1 dX8_doneOf_2 rfl (lv_at hl 0 rfl) ?_
  refine r_get (C := RX8) (T := TX8) (N := 6) (ci := 8) (v := .ref (a2 0)) X iw8 hP 0 rfl rfl 0 rfl mw_2_123 rfl dX8_doneOf_3 ?_
  refine r_get (C := RX9) (T := TX9) (N := 20) (ci := 9) (v := .int (g2 13 0)) X iw9 hP 9 rfl rfl 13 rfl mw_1_172 rfl dX8_doneOf_6 ?_
  obtain ⟨r_1, g0_1, g1_1, hc_1, h⟩ := bd3_el h
  refine call_V1i (As := [.int x1, .int (g2 13 0)]) (rest := []) X (c_X8_lagOf l dC dI sk sv tc a0 a1 a2 q2_18 q2_19 g0 g1 g2 x1 (g2 13 0) hc_1) mw_5_67 mw_3_16 mw_3_17 mw_1_11 mw_3_18 dc_X8_lagOf ⟨Nat.le_of_ble_eq_true rfl, Nat.le_of_ble_eq_true rfl⟩ rfl rfl ⟨Nat.zero_le _, Nat.zero_le _⟩ hP (hD _ _ _) hS 0 rfl rfl rfl hl.1 (Nat.le_of_ble_eq_true rfl) dX8_doneOf_9 (fun H locs hP hS => ?_)
  refine lv_pop X.1 X.2.1 dX8_doneOf_12 rfl ?_
  refine lv_aload_n X.1 X.2.1 dX8_doneOf_13 rfl (lv_at hl 0 rfl) ?_
  refine r_get (C := RX8) (T := TX8) (N := 6) (ci := 8) (v := .int (g0_1 5 0)) X iw8 hP 0 rfl rfl 5 rfl mw_2_128 rfl dX8_doneOf_14 ?_
  exact ret_i (fun u => (wSc tc a0 u.1 (a2 0) (a1 0) ++ (wHd tc a1 u.2 ++ (wSt tc a2 g2 q2_18 q2_19)))) (res := (r0, G0, G1)) (Option.some.inj h) X hQ hP hS dX8_doneOf_17

def f_X8_pagesOf_L21 (x1 : Int32) (x2 : Int32) (x3 : Int32) (g0 : Pic) (g1 : Pic) (g2 : Pic) (n : Nat) (a : Int32 × Int32) : Option (Int32) := lp (fun (rec : Int32 × Int32 → Option (Int32)) (a : Int32 × Int32) => match a with | (x4, x5) => (if (g2 7 0) ≤ x5 then some x4 else bd (f_X8_claimOf g0 g1 g2 x5) (fun r_2 => bd (f_X8_claimOf g0 g1 g2 x4) (fun r_3 => jn (fun (x4_J52 : Int32) => nm (x5 + 1) (fun x5_4 => rec (x4_J52, x5_4))) (fun J52 => (if r_2 ≤ r_3 then J52 x4 else J52 x5)))))) n a
def f_X8_pagesOf_L10 (x1 : Int32) (x2 : Int32) (g1 : Pic) (g2 : Pic) (n : Nat) (a : Int32 × Pic) : Option (Pic) := lp (fun (rec : Int32 × Pic → Option (Pic)) (a : Int32 × Pic) => match a with | (x3, g0) => (if x2 ≤ x3 then some g0 else bd (f_X8_pagesOf_L21 x1 x2 x3 g0 g1 g2 fu (0, 1)) (fun x4_5 => gdi x4_5 5 (gdi x4_5 5 (nm (pu g0 2 (x4_5.toNatClampNeg) ((g0 2 (x4_5.toNatClampNeg)) + 1)) (fun g0_8 => nm (x3 + 1) (fun x3_9 => rec (x3_9, g0_8)))))))) n a
def f_X8_pagesOf (g0 : Pic) (g1 : Pic) (g2 : Pic) (x1 : Int32) (x2 : Int32) : Option (Int32 × Pic) := nm (pr_ g0 2 (fl 5 0 (g0 2))) (fun g0_1 => bd (f_X8_pagesOf_L10 x1 x2 g1 g2 fu (0, g0_1)) (fun g0_10 => gdi x1 5 (some ((g0_10 2 (x1.toNatClampNeg)), g0_10))))
abbrev rm_X8_pagesOf : Room := { frames := 1, cells := 0, slots := 0, locals := 23 }
set_option maxHeartbeats 4000000 in
set_option maxRecDepth 100000 in
theorem c_X8_pagesOf (l : Launch) (dC : Nat → ClassId) (dI : Nat → Nat → Nat) (sk sv : Nat → Nat) (tc : Nat → ClassId) (a0 : Nat → Nat) (a1 : Nat → Nat) (a2 : Nat → Nat) (q2_18 : Option Nat) (q2_19 : Nat) (g0 : Pic) (g1 : Pic) (g2 : Pic) (x1 : Int32) (x2 : Int32) {r0 : Int32} {G0 : Pic} (h : f_X8_pagesOf g0 g1 g2 x1 x2 = some (r0, G0)) : CT l (dC, dI) sk sv (TY tc) yX8_pagesOf cX8_pagesOf 6 (some .int) rm_X8_pagesOf [.ref (a0 0), .int x1, .int x2] (wSc tc a0 g0 (a2 0) (a1 0) ++ (wHd tc a1 g1 ++ (wSt tc a2 g2 q2_18 q2_19))) (some (.int r0)) (wSc tc a0 G0 (a2 0) (a1 0) ++ (wHd tc a1 g1 ++ (wSt tc a2 g2 q2_18 q2_19))) := by
  refine ofCT (by decide) (Nat.le_of_ble_eq_true rfl) ?_
  intro pr e s m args below meth c A Q ls H locs X hQ hD0 hP hS hl
  have hD : ∀ z0 z1 z2, va_D A (wSc tc a0 z0 (a2 0) (a1 0) ++ (wHd tc a1 z1 ++ (wSt tc a2 z2 q2_18 q2_19))) := fun z0 z1 z2 => D_fst (ws := (wSc tc a0 g0 (a2 0) (a1 0) ++ (wHd tc a1 g1 ++ (wSt tc a2 g2 q2_18 q2_19)))) rfl hD0
  have hl : lv_has ls 6 [(0, .ref (a0 0)), (1, .int x1), (2, .int x2)] := hl
  have HL21 : ∀ (x1 : Int32) (x2 : Int32) (x3 : Int32) (g0 : Pic) (n : Nat) (x4 : Int32) (x5 : Int32) (ex : (Int32)), f_X8_pagesOf_L21 x1 x2 x3 g0 g1 g2 n (x4, x5) = some ex → ∀ (H : Heap) (locs : List Loc) (ls : Array Slot), va_P (dC, dI) vwCl (wSc tc a0 g0 (a2 0) (a1 0) ++ (wHd tc a1 g1 ++ (wSt tc a2 g2 q2_18 q2_19))) H → va_S A s.heap H locs → lv_has ls 6 [(0, .ref (a0 0)), (1, .int x1), (2, .int x2), (3, .int x3), (4, .int x4), (5, .int x5)] → (∀ (y4 : Int32), y4 = ex → ∀ (H : Heap) (locs : List Loc) (ls : Array Slot), va_P (dC, dI) vwCl (wSc tc a0 g0 (a2 0) (a1 0) ++ (wHd tc a1 g1 ++ (wSt tc a2 g2 q2_18 q2_19))) H → va_S A s.heap H locs → lv_has ls 6 [(0, .ref (a0 0)), (1, .int x1), (2, .int x2), (3, .int x3), (4, .int y4)] → W pr l e rm_X8_pagesOf s m args below meth c H locs 0 0 Q (F0 m 58 ls [])) → W pr l e rm_X8_pagesOf s m args below meth c H locs 0 0 Q (F0 m 21 ls []) := by
    intro x1 x2 x3 g0 n
    induction n with
    | zero => intro x4 x5 ex h; exact lp_z h
    | succ n ih =>
      intro x4 x5 ex h H locs ls hP hS hl K
      have h := lp_s h
      refine lv_iload X.1 X.2.1 dX8_pagesOf_21 (lv_at hl 5 rfl) ?_
      refine lv_aload_n X.1 X.2.1 dX8_pagesOf_23 rfl (lv_at hl 0 rfl) ?_
      refine r_get (C := RX8) (T := TX8) (N := 6) (ci := 8) (v := .ref (a2 0)) X iw8 hP 0 rfl rfl 0 rfl mw_2_123 rfl dX8_pagesOf_24 ?_
      refine r_get (C := RX9) (T := TX9) (N := 20) (ci := 9) (v := .int (g2 7 0)) X iw9 hP 9 rfl rfl 7 rfl mw_1_144 rfl dX8_pagesOf_27 ?_
      refine lv_icmp_ge (tgt := 58) X.1 X.2.1 dX8_pagesOf_30 (by decide) (fun hc => ?_) (fun hc => ?_)
      · have h := it_t hc h
        exact K x4 (Option.some.inj h) H locs ls hP hS (lv_sub hl [0, 1, 2, 3, 4] rfl)
      · have h := it_f hc h
        refine lv_aload_n X.1 X.2.1 dX8_pagesOf_33 rfl (lv_at hl 0 rfl) ?_
        refine lv_iload X.1 X.2.1 dX8_pagesOf_34 (lv_at hl 5 rfl) ?_
        obtain ⟨r_2, hc_2, h⟩ := bd_el h
        refine call_V1i (As := [.int x5]) (rest := []) X (c_X8_claimOf l dC dI sk sv tc a0 a1 a2 q2_18 q2_19 g0 g1 g2 x5 hc_2) mw_6_238 mw_6_239 mw_7_0 mw_1_11 mw_7_1 dc_X8_claimOf ⟨Nat.le_of_ble_eq_true rfl, Nat.le_of_ble_eq_true rfl⟩ rfl rfl ⟨Nat.zero_le _, Nat.zero_le _⟩ hP (hD _ _ _) hS 0 rfl rfl rfl hl.1 (Nat.le_of_ble_eq_true rfl) dX8_pagesOf_36 (fun H locs hP hS => ?_)
        refine lv_aload_n X.1 X.2.1 dX8_pagesOf_39 rfl (lv_at hl 0 rfl) ?_
        refine lv_iload X.1 X.2.1 dX8_pagesOf_40 (lv_at hl 4 rfl) ?_
        obtain ⟨r_3, hc_3, h⟩ := bd_el h
        refine call_V1i (As := [.int x4]) (rest := [.int r_2]) X (c_X8_claimOf l dC dI sk sv tc a0 a1 a2 q2_18 q2_19 g0 g1 g2 x4 hc_3) mw_6_238 mw_6_239 mw_7_0 mw_1_11 mw_7_1 dc_X8_claimOf ⟨Nat.le_of_ble_eq_true rfl, Nat.le_of_ble_eq_true rfl⟩ rfl rfl ⟨Nat.zero_le _, Nat.zero_le _⟩ hP (hD _ _ _) hS 0 rfl rfl rfl hl.1 (Nat.le_of_ble_eq_true rfl) dX8_pagesOf_42 (fun H locs hP hS => ?_)
        obtain ⟨J52, eJ52, h⟩ := jn_el h
        have HJ52 : ∀ (x4_J52 : Int32) (H : Heap) (locs : List Loc) (ls : Array Slot), J52 x4_J52 = some ex → va_P (dC, dI) vwCl (wSc tc a0 g0 (a2 0) (a1 0) ++ (wHd tc a1 g1 ++ (wSt tc a2 g2 q2_18 q2_19))) H → va_S A s.heap H locs → lv_has ls 6 [(0, .ref (a0 0)), (1, .int x1), (2, .int x2), (3, .int x3), (4, .int x4_J52), (5, .int x5)] → W pr l e rm_X8_pagesOf s m args below meth c H locs 0 0 Q (F0 m 52 ls []) := by
          intro x4_J52 H locs ls h hP hS hl
          rw [eJ52] at h
          obtain ⟨x5_4, ex5_4, h⟩ := nm_el h
          refine lv_iinc (v := x5_4) (lv' := [(5, .int x5_4), (0, .ref (a0 0)), (1, .int x1), (2, .int x2), (3, .int x3), (4, .int x4_J52)]) X.1 X.2.1 dX8_pagesOf_52 hl (k := 5) rfl (by rw [ex5_4]; rfl) (by decide) rfl (fun ls hl => ?_)
          refine lv_goto (tgt := 21) X.1 X.2.1 dX8_pagesOf_55 (by decide) ?_
          exact ih x4_J52 x5_4 ex h H locs ls hP hS (lv_sub hl [1, 2, 3, 4, 5, 0] rfl) K
        refine lv_icmp_le (tgt := 52) X.1 X.2.1 dX8_pagesOf_45 (by decide) (fun hc => ?_) (fun hc => ?_)
        · have h := it_t hc h
          exact HJ52 x4 H locs ls h hP hS (lv_sub hl [0, 1, 2, 3, 4, 5] rfl)
        · have h := it_f hc h
          refine lv_iload X.1 X.2.1 dX8_pagesOf_48 (lv_at hl 5 rfl) ?_
          refine lv_istore (lv' := [(4, .int x5), (0, .ref (a0 0)), (1, .int x1), (2, .int x2), (3, .int x3), (5, .int x5)]) X.1 X.2.1 dX8_pagesOf_50 hl (by decide) rfl (fun ls hl => ?_)
          exact HJ52 x5 H locs ls h hP hS (lv_sub hl [1, 2, 3, 4, 0, 5] rfl)
  have HL10 : ∀ (x1 : Int32) (x2 : Int32) (n : Nat) (x3 : Int32) (g0 : Pic) (ex : (Pic)), f_X8_pagesOf_L10 x1 x2 g1 g2 n (x3, g0) = some ex → ∀ (H : Heap) (locs : List Loc) (ls : Array Slot), va_P (dC, dI) vwCl (wSc tc a0 g0 (a2 0) (a1 0) ++ (wHd tc a1 g1 ++ (wSt tc a2 g2 q2_18 q2_19))) H → va_S A s.heap H locs → lv_has ls 6 [(0, .ref (a0 0)), (1, .int x1), (2, .int x2), (3, .int x3)] → (∀ (k0 : Pic), k0 = ex → ∀ (H : Heap) (locs : List Loc) (ls : Array Slot), va_P (dC, dI) vwCl (wSc tc a0 k0 (a2 0) (a1 0) ++ (wHd tc a1 g1 ++ (wSt tc a2 g2 q2_18 q2_19))) H → va_S A s.heap H locs → lv_has ls 6 [(0, .ref (a0 0)), (1, .int x1)] → W pr l e rm_X8_pagesOf s m args below meth c H locs 0 0 Q (F0 m 75 ls [])) → W pr l e rm_X8_pagesOf s m args below meth c H locs 0 0 Q (F0 m 10 ls []) := by
    intro x1 x2 n
    induction n with
    | zero => intro x3 g0 ex h; exact lp_z h
    | succ n ih =>
      intro x3 g0 ex h H locs ls hP hS hl K
      have h := lp_s h
      refine lv_iload_n X.1 X.2.1 dX8_pagesOf_10 rfl (lv_at hl 3 rfl) ?_
      refine lv_iload_n X.1 X.2.1 dX8_pagesOf_11 rfl (lv_at hl 2 rfl) ?_
      refine lv_icmp_ge (tgt := 75) X.1 X.2.1 dX8_pagesOf_12 (by decide) (fun hc => ?_) (fun hc => ?_)
      · have h := it_t hc h
        exact K g0 (Option.some.inj h) H locs ls hP hS (lv_sub hl [0, 1] rfl)
      · have h := it_f hc h
        refine lv_iconst (v := 0) X.1 X.2.1 dX8_pagesOf_15 (by decide) ?_
        refine lv_istore (lv' := [(4, .int 0), (0, .ref (a0 0)), (1, .int x1), (2, .int x2), (3, .int x3)]) X.1 X.2.1 dX8_pagesOf_16 hl (by decide) rfl (fun ls hl => ?_)
        refine lv_iconst (v := 1) X.1 X.2.1 dX8_pagesOf_18 (by decide) ?_
        refine lv_istore (lv' := [(5, .int 1), (4, .int 0), (0, .ref (a0 0)), (1, .int x1), (2, .int x2), (3, .int x3)]) X.1 X.2.1 dX8_pagesOf_19 hl (by decide) rfl (fun ls hl => ?_)
        obtain ⟨ex_5, hL_5, h⟩ := bd_el h
        refine HL21 x1 x2 x3 g0 fu 0 1 ex_5 hL_5 H locs ls hP hS (lv_sub hl [2, 3, 4, 5, 1, 0] rfl) (fun x4_5 he H locs ls hP hS hl => ?_)
        subst he
        refine lv_aload_n X.1 X.2.1 dX8_pagesOf_58 rfl (lv_at hl 0 rfl) ?_
        refine r_get (C := RX8) (T := TX8) (N := 6) (ci := 8) (v := .ref (a0 3)) X iw8 hP 0 rfl rfl 2 rfl mw_2_125 rfl dX8_pagesOf_59 ?_
        refine lv_iload X.1 X.2.1 dX8_pagesOf_62 (lv_at hl 4 rfl) ?_
        refine lv_dup2_11 X.1 X.2.1 dX8_pagesOf_64 rfl rfl ?_
        obtain ⟨hg_6, h⟩ := gdi_el h
        refine r_iald X hP 1 0 rfl rfl hg_6 rfl dX8_pagesOf_65 ?_
        refine lv_iconst (v := 1) X.1 X.2.1 dX8_pagesOf_66 (by decide) ?_
        refine lv_iadd X.1 X.2.1 dX8_pagesOf_67 ?_
        obtain ⟨hg_7, h⟩ := gdi_el h
        obtain ⟨g0_8, eg0_8, h⟩ := nm_el h
        refine r_iast X hP (hD _ _ _) hS 1 0 rfl rfl hg_7 rfl dX8_pagesOf_68 (wSc tc a0 g0_8 (a2 0) (a1 0) ++ (wHd tc a1 g1 ++ (wSt tc a2 g2 q2_18 q2_19))) (by rw [eg0_8]; rfl) (fun H locs hP hS => ?_)
        obtain ⟨x3_9, ex3_9, h⟩ := nm_el h
        refine lv_iinc (v := x3_9) (lv' := [(3, .int x3_9), (0, .ref (a0 0)), (1, .int x1), (2, .int x2), (4, .int x4_5)]) X.1 X.2.1 dX8_pagesOf_69 hl (k := 3) rfl (by rw [ex3_9]; rfl) (by decide) rfl (fun ls hl => ?_)
        refine lv_goto (tgt := 10) X.1 X.2.1 dX8_pagesOf_72 (by decide) ?_
        exact ih x3_9 g0_8 ex h H locs ls hP hS (lv_sub hl [1, 2, 3, 0] rfl) K
  unfold f_X8_pagesOf at h
  refine lv_aload_n X.1 X.2.1 dX8_pagesOf_0 rfl (lv_at hl 0 rfl) ?_
  refine r_get (C := RX8) (T := TX8) (N := 6) (ci := 8) (v := .ref (a0 3)) X iw8 hP 0 rfl rfl 2 rfl mw_2_125 rfl dX8_pagesOf_1 ?_
  refine lv_iconst (v := 0) X.1 X.2.1 dX8_pagesOf_4 (by decide) ?_
  obtain ⟨g0_1, eg0_1, h⟩ := nm_el h
  refine call_cell (ws' := (wSc tc a0 g0_1 (a2 0) (a1 0) ++ (wHd tc a1 g1 ++ (wSt tc a2 g2 q2_18 q2_19)))) (As := [.ref (a0 3), .int 0]) (rest := []) X (c_fill l dC dI sk sv tc (a0 3) 5 (g0 2) 0 (by decide)) mw_6_237 mw_6_142 mw_1_24 mw_6_143 dc_J7_fill_53178 ⟨(Nat.le_of_ble_eq_true rfl), (Nat.le_of_ble_eq_true rfl)⟩ rfl rfl ⟨Nat.zero_le _, Nat.zero_le _⟩ hP (hD _ _ _) hS 1 rfl (by rw [eg0_1]; rfl) hl.1 (Nat.le_of_ble_eq_true rfl) dX8_pagesOf_5 (fun H locs hP hS => ?_)
  refine lv_iconst (v := 0) X.1 X.2.1 dX8_pagesOf_8 (by decide) ?_
  refine lv_istore_n (lv' := [(3, .int 0), (0, .ref (a0 0)), (1, .int x1), (2, .int x2)]) X.1 X.2.1 dX8_pagesOf_9 rfl hl (by decide) rfl (fun ls hl => ?_)
  obtain ⟨ex_10, hL_10, h⟩ := bd_el h
  refine HL10 x1 x2 fu 0 g0_1 ex_10 hL_10 H locs ls hP hS (lv_sub hl [1, 2, 3, 0] rfl) (fun g0_10 he H locs ls hP hS hl => ?_)
  subst he
  refine lv_aload_n X.1 X.2.1 dX8_pagesOf_75 rfl (lv_at hl 0 rfl) ?_
  refine r_get (C := RX8) (T := TX8) (N := 6) (ci := 8) (v := .ref (a0 3)) X iw8 hP 0 rfl rfl 2 rfl mw_2_125 rfl dX8_pagesOf_76 ?_
  refine lv_iload_n X.1 X.2.1 dX8_pagesOf_79 rfl (lv_at hl 1 rfl) ?_
  obtain ⟨hg_11, h⟩ := gdi_el h
  refine r_iald X hP 1 0 rfl rfl hg_11 rfl dX8_pagesOf_80 ?_
  exact ret_i (fun u => (wSc tc a0 u (a2 0) (a1 0) ++ (wHd tc a1 g1 ++ (wSt tc a2 g2 q2_18 q2_19)))) (res := (r0, G0)) (Option.some.inj h) X hQ hP hS dX8_pagesOf_81

def f_X8_findPairs_L58 (x1 : Int32) (x2 : Int32) (x3 : Int32) (g1 : Pic) (g2 : Pic) (n : Nat) (a : Int32 × Pic) : Option (Pic) := lp (fun (rec : Int32 × Pic → Option (Pic)) (a : Int32 × Pic) => match a with | (x4, g0) => (if (g2 7 0) ≤ x4 then some g0 else gdi x2 32 (bd (f_X8_withPair g0 g1 g2 x2 x3 x4) (fun r_11 => gdi x2 32 (nm (pu g0 3 (x2.toNatClampNeg) (if (g0 3 (x2.toNatClampNeg)) < r_11 then r_11 else (g0 3 (x2.toNatClampNeg)))) (fun g0_13 => nm (x4 + 1) (fun x4_14 => rec (x4_14, g0_13)))))))) n a
def f_X8_findPairs_L12 (x1 : Int32) (g1 : Pic) (g2 : Pic) (n : Nat) (a : Int32 × Pic) : Option (Pic) := lp (fun (rec : Int32 × Pic → Option (Pic)) (a : Int32 × Pic) => match a with | (x2, g0) => (if x1 ≤ x2 then some g0 else gdi x2 32 (nm (pu g0 3 (x2.toNatClampNeg) 0) (fun g0_3 => bd (f_X8_firstIn g0_3 g1 g2 x2) (fun r_4 => jn (fun (g0_J99 : Pic) => nm (x2 + 1) (fun x2_5 => rec (x2_5, g0_J99))) (fun J99 => (if r_4 = (-1) then J99 g0_3 else gdi (x2 &&& (((1 : Int32) <<< (r_4 &&& 31)) ^^^ (-1))) 32 (gdi x2 32 (nm (pu g0_3 3 (x2.toNatClampNeg) (g0_3 3 ((x2 &&& (((1 : Int32) <<< (r_4 &&& 31)) ^^^ (-1))).toNatClampNeg))) (fun g0_8 => nm ((r_4 + 1)) (fun x4_9 => bd (f_X8_findPairs_L58 x1 x2 r_4 g1 g2 fu (x4_9, g0_8)) (fun g0_15 => J99 g0_15)))))))))))) n a
def f_X8_findPairs (g0 : Pic) (g1 : Pic) (g2 : Pic) : Option (Int32 × Pic) := nm (((1 : Int32) <<< ((g2 7 0) &&& 31))) (fun x1_1 => bd (f_X8_findPairs_L12 x1_1 g1 g2 fu (0, g0)) (fun g0_16 => gdi (x1_1 - 1) 32 (some ((g0_16 3 ((x1_1 - 1).toNatClampNeg)), g0_16))))
abbrev rm_X8_findPairs : Room := { frames := 2, cells := 0, slots := 0, locals := 44 }
set_option maxHeartbeats 4000000 in
set_option maxRecDepth 100000 in
theorem c_X8_findPairs (l : Launch) (dC : Nat → ClassId) (dI : Nat → Nat → Nat) (sk sv : Nat → Nat) (tc : Nat → ClassId) (a0 : Nat → Nat) (a1 : Nat → Nat) (a2 : Nat → Nat) (q2_18 : Option Nat) (q2_19 : Nat) (g0 : Pic) (g1 : Pic) (g2 : Pic) {r0 : Int32} {G0 : Pic} (h : f_X8_findPairs g0 g1 g2 = some (r0, G0)) : CT l (dC, dI) sk sv (TY tc) yX8_findPairs cX8_findPairs 5 (some .int) rm_X8_findPairs [.ref (a0 0)] (wSc tc a0 g0 (a2 0) (a1 0) ++ (wHd tc a1 g1 ++ (wSt tc a2 g2 q2_18 q2_19))) (some (.int r0)) (wSc tc a0 G0 (a2 0) (a1 0) ++ (wHd tc a1 g1 ++ (wSt tc a2 g2 q2_18 q2_19))) := by
  refine ofCT (by decide) (Nat.le_of_ble_eq_true rfl) ?_
  intro pr e s m args below meth c A Q ls H locs X hQ hD0 hP hS hl
  have hD : ∀ z0 z1 z2, va_D A (wSc tc a0 z0 (a2 0) (a1 0) ++ (wHd tc a1 z1 ++ (wSt tc a2 z2 q2_18 q2_19))) := fun z0 z1 z2 => D_fst (ws := (wSc tc a0 g0 (a2 0) (a1 0) ++ (wHd tc a1 g1 ++ (wSt tc a2 g2 q2_18 q2_19)))) rfl hD0
  have hl : lv_has ls 5 [(0, .ref (a0 0))] := hl
  have HL58 : ∀ (x1 : Int32) (x2 : Int32) (x3 : Int32) (n : Nat) (x4 : Int32) (g0 : Pic) (ex : (Pic)), f_X8_findPairs_L58 x1 x2 x3 g1 g2 n (x4, g0) = some ex → ∀ (H : Heap) (locs : List Loc) (ls : Array Slot), va_P (dC, dI) vwCl (wSc tc a0 g0 (a2 0) (a1 0) ++ (wHd tc a1 g1 ++ (wSt tc a2 g2 q2_18 q2_19))) H → va_S A s.heap H locs → lv_has ls 5 [(0, .ref (a0 0)), (1, .int x1), (2, .int x2), (3, .int x3), (4, .int x4)] → (∀ (k0 : Pic), k0 = ex → ∀ (H : Heap) (locs : List Loc) (ls : Array Slot), va_P (dC, dI) vwCl (wSc tc a0 k0 (a2 0) (a1 0) ++ (wHd tc a1 g1 ++ (wSt tc a2 g2 q2_18 q2_19))) H → va_S A s.heap H locs → lv_has ls 5 [(0, .ref (a0 0)), (1, .int x1), (2, .int x2)] → W pr l e rm_X8_findPairs s m args below meth c H locs 0 0 Q (F0 m 99 ls [])) → W pr l e rm_X8_findPairs s m args below meth c H locs 0 0 Q (F0 m 58 ls []) := by
    intro x1 x2 x3 n
    induction n with
    | zero => intro x4 g0 ex h; exact lp_z h
    | succ n ih =>
      intro x4 g0 ex h H locs ls hP hS hl K
      have h := lp_s h
      refine lv_iload X.1 X.2.1 dX8_findPairs_58 (lv_at hl 4 rfl) ?_
      refine lv_aload_n X.1 X.2.1 dX8_findPairs_60 rfl (lv_at hl 0 rfl) ?_
      refine r_get (C := RX8) (T := TX8) (N := 6) (ci := 8) (v := .ref (a2 0)) X iw8 hP 0 rfl rfl 0 rfl mw_2_123 rfl dX8_findPairs_61 ?_
      refine r_get (C := RX9) (T := TX9) (N := 20) (ci := 9) (v := .int (g2 7 0)) X iw9 hP 9 rfl rfl 7 rfl mw_1_144 rfl dX8_findPairs_64 ?_
      refine lv_icmp_ge (tgt := 99) X.1 X.2.1 dX8_findPairs_67 (by decide) (fun hc => ?_) (fun hc => ?_)
      · have h := it_t hc h
        exact K g0 (Option.some.inj h) H locs ls hP hS (lv_sub hl [0, 1, 2] rfl)
      · have h := it_f hc h
        refine lv_aload_n X.1 X.2.1 dX8_findPairs_70 rfl (lv_at hl 0 rfl) ?_
        refine r_get (C := RX8) (T := TX8) (N := 6) (ci := 8) (v := .ref (a0 4)) X iw8 hP 0 rfl rfl 3 rfl mw_2_126 rfl dX8_findPairs_71 ?_
        refine lv_iload_n X.1 X.2.1 dX8_findPairs_74 rfl (lv_at hl 2 rfl) ?_
        refine lv_aload_n X.1 X.2.1 dX8_findPairs_75 rfl (lv_at hl 0 rfl) ?_
        refine r_get (C := RX8) (T := TX8) (N := 6) (ci := 8) (v := .ref (a0 4)) X iw8 hP 0 rfl rfl 3 rfl mw_2_126 rfl dX8_findPairs_76 ?_
        refine lv_iload_n X.1 X.2.1 dX8_findPairs_79 rfl (lv_at hl 2 rfl) ?_
        obtain ⟨hg_10, h⟩ := gdi_el h
        refine r_iald X hP 2 0 rfl rfl hg_10 rfl dX8_findPairs_80 ?_
        refine lv_aload_n X.1 X.2.1 dX8_findPairs_81 rfl (lv_at hl 0 rfl) ?_
        refine lv_iload_n X.1 X.2.1 dX8_findPairs_82 rfl (lv_at hl 2 rfl) ?_
        refine lv_iload_n X.1 X.2.1 dX8_findPairs_83 rfl (lv_at hl 3 rfl) ?_
        refine lv_iload X.1 X.2.1 dX8_findPairs_84 (lv_at hl 4 rfl) ?_
        obtain ⟨r_11, hc_11, h⟩ := bd_el h
        refine call_V1i (As := [.int x2, .int x3, .int x4]) (rest := [.int (g0 3 (x2.toNatClampNeg)), .int x2, .ref (a0 4)]) X (c_X8_withPair l dC dI sk sv tc a0 a1 a2 q2_18 q2_19 g0 g1 g2 x2 x3 x4 hc_11) mw_7_17 mw_7_18 mw_7_19 mw_1_11 mw_7_20 dc_X8_withPair ⟨Nat.le_of_ble_eq_true rfl, Nat.le_of_ble_eq_true rfl⟩ rfl rfl ⟨Nat.zero_le _, Nat.zero_le _⟩ hP (hD _ _ _) hS 0 rfl rfl rfl hl.1 (Nat.le_of_ble_eq_true rfl) dX8_findPairs_86 (fun H locs hP hS => ?_)
        refine r_max X mw_3_20 mw_3_21 mw_1_25 mw_3_22 hl.1 (Nat.le_of_ble_eq_true rfl) (Nat.le_of_ble_eq_true rfl) ⟨Nat.zero_le _, Nat.zero_le _⟩ dX8_findPairs_89 ?_
        obtain ⟨hg_12, h⟩ := gdi_el h
        obtain ⟨g0_13, eg0_13, h⟩ := nm_el h
        refine r_iast X hP (hD _ _ _) hS 2 0 rfl rfl hg_12 rfl dX8_findPairs_92 (wSc tc a0 g0_13 (a2 0) (a1 0) ++ (wHd tc a1 g1 ++ (wSt tc a2 g2 q2_18 q2_19))) (by rw [eg0_13]; rfl) (fun H locs hP hS => ?_)
        obtain ⟨x4_14, ex4_14, h⟩ := nm_el h
        refine lv_iinc (v := x4_14) (lv' := [(4, .int x4_14), (0, .ref (a0 0)), (1, .int x1), (2, .int x2), (3, .int x3)]) X.1 X.2.1 dX8_findPairs_93 hl (k := 4) rfl (by rw [ex4_14]; rfl) (by decide) rfl (fun ls hl => ?_)
        refine lv_goto (tgt := 58) X.1 X.2.1 dX8_findPairs_96 (by decide) ?_
        exact ih x4_14 g0_13 ex h H locs ls hP hS (lv_sub hl [1, 2, 3, 4, 0] rfl) K
  have HL12 : ∀ (x1 : Int32) (n : Nat) (x2 : Int32) (g0 : Pic) (ex : (Pic)), f_X8_findPairs_L12 x1 g1 g2 n (x2, g0) = some ex → ∀ (H : Heap) (locs : List Loc) (ls : Array Slot), va_P (dC, dI) vwCl (wSc tc a0 g0 (a2 0) (a1 0) ++ (wHd tc a1 g1 ++ (wSt tc a2 g2 q2_18 q2_19))) H → va_S A s.heap H locs → lv_has ls 5 [(0, .ref (a0 0)), (1, .int x1), (2, .int x2)] → (∀ (k0 : Pic), k0 = ex → ∀ (H : Heap) (locs : List Loc) (ls : Array Slot), va_P (dC, dI) vwCl (wSc tc a0 k0 (a2 0) (a1 0) ++ (wHd tc a1 g1 ++ (wSt tc a2 g2 q2_18 q2_19))) H → va_S A s.heap H locs → lv_has ls 5 [(0, .ref (a0 0)), (1, .int x1)] → W pr l e rm_X8_findPairs s m args below meth c H locs 0 0 Q (F0 m 105 ls [])) → W pr l e rm_X8_findPairs s m args below meth c H locs 0 0 Q (F0 m 12 ls []) := by
    intro x1 n
    induction n with
    | zero => intro x2 g0 ex h; exact lp_z h
    | succ n ih =>
      intro x2 g0 ex h H locs ls hP hS hl K
      have h := lp_s h
      refine lv_iload_n X.1 X.2.1 dX8_findPairs_12 rfl (lv_at hl 2 rfl) ?_
      refine lv_iload_n X.1 X.2.1 dX8_findPairs_13 rfl (lv_at hl 1 rfl) ?_
      refine lv_icmp_ge (tgt := 105) X.1 X.2.1 dX8_findPairs_14 (by decide) (fun hc => ?_) (fun hc => ?_)
      · have h := it_t hc h
        exact K g0 (Option.some.inj h) H locs ls hP hS (lv_sub hl [0, 1] rfl)
      · have h := it_f hc h
        refine lv_aload_n X.1 X.2.1 dX8_findPairs_17 rfl (lv_at hl 0 rfl) ?_
        refine r_get (C := RX8) (T := TX8) (N := 6) (ci := 8) (v := .ref (a0 4)) X iw8 hP 0 rfl rfl 3 rfl mw_2_126 rfl dX8_findPairs_18 ?_
        refine lv_iload_n X.1 X.2.1 dX8_findPairs_21 rfl (lv_at hl 2 rfl) ?_
        refine lv_iconst (v := 0) X.1 X.2.1 dX8_findPairs_22 (by decide) ?_
        obtain ⟨hg_2, h⟩ := gdi_el h
        obtain ⟨g0_3, eg0_3, h⟩ := nm_el h
        refine r_iast X hP (hD _ _ _) hS 2 0 rfl rfl hg_2 rfl dX8_findPairs_23 (wSc tc a0 g0_3 (a2 0) (a1 0) ++ (wHd tc a1 g1 ++ (wSt tc a2 g2 q2_18 q2_19))) (by rw [eg0_3]; rfl) (fun H locs hP hS => ?_)
        refine lv_aload_n X.1 X.2.1 dX8_findPairs_24 rfl (lv_at hl 0 rfl) ?_
        refine lv_iload_n X.1 X.2.1 dX8_findPairs_25 rfl (lv_at hl 2 rfl) ?_
        obtain ⟨r_4, hc_4, h⟩ := bd_el h
        refine call_V1i (As := [.int x2]) (rest := []) X (c_X8_firstIn l dC dI sk sv tc a0 a1 a2 q2_18 q2_19 g0_3 g1 g2 x2 hc_4) mw_7_13 mw_7_14 mw_7_15 mw_1_11 mw_7_16 dc_X8_firstIn ⟨Nat.le_of_ble_eq_true rfl, Nat.le_of_ble_eq_true rfl⟩ rfl rfl ⟨Nat.zero_le _, Nat.zero_le _⟩ hP (hD _ _ _) hS 0 rfl rfl rfl hl.1 (Nat.le_of_ble_eq_true rfl) dX8_findPairs_26 (fun H locs hP hS => ?_)
        refine lv_istore_n (lv' := [(3, .int r_4), (0, .ref (a0 0)), (1, .int x1), (2, .int x2)]) X.1 X.2.1 dX8_findPairs_29 rfl hl (by decide) rfl (fun ls hl => ?_)
        refine lv_iload_n X.1 X.2.1 dX8_findPairs_30 rfl (lv_at hl 0 rfl) ?_
        refine lv_iconst (v := (-1)) X.1 X.2.1 dX8_findPairs_31 (by decide) ?_
        obtain ⟨J99, eJ99, h⟩ := jn_el h
        have HJ99 : ∀ (g0_J99 : Pic) (H : Heap) (locs : List Loc) (ls : Array Slot), J99 g0_J99 = some ex → va_P (dC, dI) vwCl (wSc tc a0 g0_J99 (a2 0) (a1 0) ++ (wHd tc a1 g1 ++ (wSt tc a2 g2 q2_18 q2_19))) H → va_S A s.heap H locs → lv_has ls 5 [(0, .ref (a0 0)), (1, .int x1), (2, .int x2)] → W pr l e rm_X8_findPairs s m args below meth c H locs 0 0 Q (F0 m 99 ls []) := by
          intro g0_J99 H locs ls h hP hS hl
          rw [eJ99] at h
          obtain ⟨x2_5, ex2_5, h⟩ := nm_el h
          refine lv_iinc (v := x2_5) (lv' := [(2, .int x2_5), (0, .ref (a0 0)), (1, .int x1)]) X.1 X.2.1 dX8_findPairs_99 hl (k := 2) rfl (by rw [ex2_5]; rfl) (by decide) rfl (fun ls hl => ?_)
          refine lv_goto (tgt := 12) X.1 X.2.1 dX8_findPairs_102 (by decide) ?_
          exact ih x2_5 g0_J99 ex h H locs ls hP hS (lv_sub hl [1, 2, 0] rfl) K
        refine lv_icmp_eq (tgt := 99) X.1 X.2.1 dX8_findPairs_32 (by decide) (fun hc => ?_) (fun hc => ?_)
        · have h := it_t hc h
          exact HJ99 g0_3 H locs ls h hP hS (lv_sub hl [1, 2, 3] rfl)
        · have h := it_f hc h
          refine lv_aload_n X.1 X.2.1 dX8_findPairs_35 rfl (lv_at hl 1 rfl) ?_
          refine r_get (C := RX8) (T := TX8) (N := 6) (ci := 8) (v := .ref (a0 4)) X iw8 hP 0 rfl rfl 3 rfl mw_2_126 rfl dX8_findPairs_36 ?_
          refine lv_iload_n X.1 X.2.1 dX8_findPairs_39 rfl (lv_at hl 3 rfl) ?_
          refine lv_aload_n X.1 X.2.1 dX8_findPairs_40 rfl (lv_at hl 1 rfl) ?_
          refine r_get (C := RX8) (T := TX8) (N := 6) (ci := 8) (v := .ref (a0 4)) X iw8 hP 0 rfl rfl 3 rfl mw_2_126 rfl dX8_findPairs_41 ?_
          refine lv_iload_n X.1 X.2.1 dX8_findPairs_44 rfl (lv_at hl 3 rfl) ?_
          refine lv_iconst (v := 1) X.1 X.2.1 dX8_findPairs_45 (by decide) ?_
          refine lv_iload_n X.1 X.2.1 dX8_findPairs_46 rfl (lv_at hl 0 rfl) ?_
          refine lv_ishl X.1 X.2.1 dX8_findPairs_47 ?_
          refine lv_iconst (v := (-1)) X.1 X.2.1 dX8_findPairs_48 (by decide) ?_
          refine lv_ixor X.1 X.2.1 dX8_findPairs_49 ?_
          refine lv_iand X.1 X.2.1 dX8_findPairs_50 ?_
          obtain ⟨hg_6, h⟩ := gdi_el h
          refine r_iald X hP 2 0 rfl rfl hg_6 rfl dX8_findPairs_51 ?_
          obtain ⟨hg_7, h⟩ := gdi_el h
          obtain ⟨g0_8, eg0_8, h⟩ := nm_el h
          refine r_iast X hP (hD _ _ _) hS 2 0 rfl rfl hg_7 rfl dX8_findPairs_52 (wSc tc a0 g0_8 (a2 0) (a1 0) ++ (wHd tc a1 g1 ++ (wSt tc a2 g2 q2_18 q2_19))) (by rw [eg0_8]; rfl) (fun H locs hP hS => ?_)
          refine lv_iload_n X.1 X.2.1 dX8_findPairs_53 rfl (lv_at hl 0 rfl) ?_
          refine lv_iconst (v := 1) X.1 X.2.1 dX8_findPairs_54 (by decide) ?_
          refine lv_iadd X.1 X.2.1 dX8_findPairs_55 ?_
          obtain ⟨x4_9, ex4_9, h⟩ := nm_el h
          refine tp_i ex4_9 ?_
          refine lv_istore (lv' := [(4, .int x4_9), (3, .int r_4), (0, .ref (a0 0)), (1, .int x1), (2, .int x2)]) X.1 X.2.1 dX8_findPairs_56 hl (by decide) rfl (fun ls hl => ?_)
          obtain ⟨ex_15, hL_15, h⟩ := bd_el h
          refine HL58 x1 x2 r_4 fu x4_9 g0_8 ex_15 hL_15 H locs ls hP hS (lv_sub hl [2, 3, 4, 1, 0] rfl) (fun g0_15 he H locs ls hP hS hl => ?_)
          subst he
          exact HJ99 g0_15 H locs ls h hP hS (lv_sub hl [0, 1, 2] rfl)
  unfold f_X8_findPairs at h
  refine lv_iconst (v := 1) X.1 X.2.1 dX8_findPairs_0 (by decide) ?_
  refine lv_aload_n X.1 X.2.1 dX8_findPairs_1 rfl (lv_at hl 0 rfl) ?_
  refine r_get (C := RX8) (T := TX8) (N := 6) (ci := 8) (v := .ref (a2 0)) X iw8 hP 0 rfl rfl 0 rfl mw_2_123 rfl dX8_findPairs_2 ?_
  refine r_get (C := RX9) (T := TX9) (N := 20) (ci := 9) (v := .int (g2 7 0)) X iw9 hP 9 rfl rfl 7 rfl mw_1_144 rfl dX8_findPairs_5 ?_
  refine lv_ishl X.1 X.2.1 dX8_findPairs_8 ?_
  obtain ⟨x1_1, ex1_1, h⟩ := nm_el h
  refine tp_i ex1_1 ?_
  refine lv_istore_n (lv' := [(1, .int x1_1), (0, .ref (a0 0))]) X.1 X.2.1 dX8_findPairs_9 rfl hl (by decide) rfl (fun ls hl => ?_)
  refine lv_iconst (v := 0) X.1 X.2.1 dX8_findPairs_10 (by decide) ?_
  refine lv_istore_n (lv' := [(2, .int 0), (1, .int x1_1), (0, .ref (a0 0))]) X.1 X.2.1 dX8_findPairs_11 rfl hl (by decide) rfl (fun ls hl => ?_)
  obtain ⟨ex_16, hL_16, h⟩ := bd_el h
  refine HL12 x1_1 fu 0 g0 ex_16 hL_16 H locs ls hP hS (lv_sub hl [2, 1, 0] rfl) (fun g0_16 he H locs ls hP hS hl => ?_)
  subst he
  refine lv_aload_n X.1 X.2.1 dX8_findPairs_105 rfl (lv_at hl 0 rfl) ?_
  refine r_get (C := RX8) (T := TX8) (N := 6) (ci := 8) (v := .ref (a0 4)) X iw8 hP 0 rfl rfl 3 rfl mw_2_126 rfl dX8_findPairs_106 ?_
  refine lv_iload_n X.1 X.2.1 dX8_findPairs_109 rfl (lv_at hl 1 rfl) ?_
  refine lv_iconst (v := 1) X.1 X.2.1 dX8_findPairs_110 (by decide) ?_
  refine lv_isub X.1 X.2.1 dX8_findPairs_111 ?_
  obtain ⟨hg_17, h⟩ := gdi_el h
  refine r_iald X hP 2 0 rfl rfl hg_17 rfl dX8_findPairs_112 ?_
  exact ret_i (fun u => (wSc tc a0 u (a2 0) (a1 0) ++ (wHd tc a1 g1 ++ (wSt tc a2 g2 q2_18 q2_19)))) (res := (r0, G0)) (Option.some.inj h) X hQ hP hS dX8_findPairs_113

def f_X8_partnerOf_L22 (x1 : Int32) (g1 : Pic) (g2 : Pic) (n : Nat) (a : Int32 × Int32 × Pic) : Option (Pic) := lp (fun (rec : Int32 × Int32 × Pic → Option (Pic)) (a : Int32 × Int32 × Pic) => match a with | (x2, x3, g0) => (if (g2 7 0) ≤ x3 then some g0 else jn (fun (x2_J89 : Int32) (g0_J89 : Pic) => nm (x3 + 1) (fun x3_3 => rec (x2_J89, x3_3, g0_J89))) (fun J89 => (if ((x2 >>> (x3 &&& 31)) &&& 1) = 1 then bd (f_X8_partnerIn g0 g1 g2 x2 x3) (fun r_4 => nm ((x2 &&& (((1 : Int32) <<< (x3 &&& 31)) ^^^ (-1)))) (fun x2_5 => (if r_4 = (-1) then J89 x2_5 g0 else gdi x3 5 (nm (pu g0 4 (x3.toNatClampNeg) r_4) (fun g0_7 => gdi r_4 5 (nm (pu g0_7 4 (r_4.toNatClampNeg) x3) (fun g0_9 => nm ((x2_5 &&& (((1 : Int32) <<< (r_4 &&& 31)) ^^^ (-1)))) (fun x2_10 => J89 x2_10 g0_9)))))))) else J89 x2 g0)))) n a
def f_X8_partnerOf (g0 : Pic) (g1 : Pic) (g2 : Pic) (x1 : Int32) : Option (Int32 × Pic) := nm (pr_ g0 4 (fl 5 (-1) (g0 4))) (fun g0_1 => nm ((((1 : Int32) <<< ((g2 7 0) &&& 31)) - 1)) (fun x2_2 => bd (f_X8_partnerOf_L22 x1 g1 g2 fu (x2_2, 0, g0_1)) (fun g0_11 => gdi x1 5 (some ((g0_11 4 (x1.toNatClampNeg)), g0_11)))))
abbrev rm_X8_partnerOf : Room := { frames := 3, cells := 0, slots := 0, locals := 67 }
set_option maxHeartbeats 4000000 in
set_option maxRecDepth 100000 in
theorem c_X8_partnerOf (l : Launch) (dC : Nat → ClassId) (dI : Nat → Nat → Nat) (sk sv : Nat → Nat) (tc : Nat → ClassId) (a0 : Nat → Nat) (a1 : Nat → Nat) (a2 : Nat → Nat) (q2_18 : Option Nat) (q2_19 : Nat) (g0 : Pic) (g1 : Pic) (g2 : Pic) (x1 : Int32) {r0 : Int32} {G0 : Pic} (h : f_X8_partnerOf g0 g1 g2 x1 = some (r0, G0)) : CT l (dC, dI) sk sv (TY tc) yX8_partnerOf cX8_partnerOf 5 (some .int) rm_X8_partnerOf [.ref (a0 0), .int x1] (wSc tc a0 g0 (a2 0) (a1 0) ++ (wHd tc a1 g1 ++ (wSt tc a2 g2 q2_18 q2_19))) (some (.int r0)) (wSc tc a0 G0 (a2 0) (a1 0) ++ (wHd tc a1 g1 ++ (wSt tc a2 g2 q2_18 q2_19))) := by
  refine ofCT (by decide) (Nat.le_of_ble_eq_true rfl) ?_
  intro pr e s m args below meth c A Q ls H locs X hQ hD0 hP hS hl
  have hD : ∀ z0 z1 z2, va_D A (wSc tc a0 z0 (a2 0) (a1 0) ++ (wHd tc a1 z1 ++ (wSt tc a2 z2 q2_18 q2_19))) := fun z0 z1 z2 => D_fst (ws := (wSc tc a0 g0 (a2 0) (a1 0) ++ (wHd tc a1 g1 ++ (wSt tc a2 g2 q2_18 q2_19)))) rfl hD0
  have hl : lv_has ls 5 [(0, .ref (a0 0)), (1, .int x1)] := hl
  have HL22 : ∀ (x1 : Int32) (n : Nat) (x2 : Int32) (x3 : Int32) (g0 : Pic) (ex : (Pic)), f_X8_partnerOf_L22 x1 g1 g2 n (x2, x3, g0) = some ex → ∀ (H : Heap) (locs : List Loc) (ls : Array Slot), va_P (dC, dI) vwCl (wSc tc a0 g0 (a2 0) (a1 0) ++ (wHd tc a1 g1 ++ (wSt tc a2 g2 q2_18 q2_19))) H → va_S A s.heap H locs → lv_has ls 5 [(0, .ref (a0 0)), (1, .int x1), (2, .int x2), (3, .int x3)] → (∀ (k0 : Pic), k0 = ex → ∀ (H : Heap) (locs : List Loc) (ls : Array Slot), va_P (dC, dI) vwCl (wSc tc a0 k0 (a2 0) (a1 0) ++ (wHd tc a1 g1 ++ (wSt tc a2 g2 q2_18 q2_19))) H → va_S A s.heap H locs → lv_has ls 5 [(0, .ref (a0 0)), (1, .int x1)] → W pr l e rm_X8_partnerOf s m args below meth c H locs 0 0 Q (F0 m 95 ls [])) → W pr l e rm_X8_partnerOf s m args below meth c H locs 0 0 Q (F0 m 22 ls []) := by
    intro x1 n
    induction n with
    | zero => intro x2 x3 g0 ex h; exact lp_z h
    | succ n ih =>
      intro x2 x3 g0 ex h H locs ls hP hS hl K
      have h := lp_s h
      refine lv_iload_n X.1 X.2.1 dX8_partnerOf_22 rfl (lv_at hl 3 rfl) ?_
      refine lv_aload_n X.1 X.2.1 dX8_partnerOf_23 rfl (lv_at hl 0 rfl) ?_
      refine r_get (C := RX8) (T := TX8) (N := 6) (ci := 8) (v := .ref (a2 0)) X iw8 hP 0 rfl rfl 0 rfl mw_2_123 rfl dX8_partnerOf_24 ?_
      refine r_get (C := RX9) (T := TX9) (N := 20) (ci := 9) (v := .int (g2 7 0)) X iw9 hP 9 rfl rfl 7 rfl mw_1_144 rfl dX8_partnerOf_27 ?_
      refine lv_icmp_ge (tgt := 95) X.1 X.2.1 dX8_partnerOf_30 (by decide) (fun hc => ?_) (fun hc => ?_)
      · have h := it_t hc h
        exact K g0 (Option.some.inj h) H locs ls hP hS (lv_sub hl [0, 1] rfl)
      · have h := it_f hc h
        refine lv_iload_n X.1 X.2.1 dX8_partnerOf_33 rfl (lv_at hl 2 rfl) ?_
        refine lv_iload_n X.1 X.2.1 dX8_partnerOf_34 rfl (lv_at hl 3 rfl) ?_
        refine lv_ishr X.1 X.2.1 dX8_partnerOf_35 ?_
        refine lv_iconst (v := 1) X.1 X.2.1 dX8_partnerOf_36 (by decide) ?_
        refine lv_iand X.1 X.2.1 dX8_partnerOf_37 ?_
        refine lv_iconst (v := 1) X.1 X.2.1 dX8_partnerOf_38 (by decide) ?_
        obtain ⟨J89, eJ89, h⟩ := jn_el h
        have HJ89 : ∀ (x2_J89 : Int32) (g0_J89 : Pic) (H : Heap) (locs : List Loc) (ls : Array Slot), J89 x2_J89 g0_J89 = some ex → va_P (dC, dI) vwCl (wSc tc a0 g0_J89 (a2 0) (a1 0) ++ (wHd tc a1 g1 ++ (wSt tc a2 g2 q2_18 q2_19))) H → va_S A s.heap H locs → lv_has ls 5 [(0, .ref (a0 0)), (1, .int x1), (2, .int x2_J89), (3, .int x3)] → W pr l e rm_X8_partnerOf s m args below meth c H locs 0 0 Q (F0 m 89 ls []) := by
          intro x2_J89 g0_J89 H locs ls h hP hS hl
          rw [eJ89] at h
          obtain ⟨x3_3, ex3_3, h⟩ := nm_el h
          refine lv_iinc (v := x3_3) (lv' := [(3, .int x3_3), (0, .ref (a0 0)), (1, .int x1), (2, .int x2_J89)]) X.1 X.2.1 dX8_partnerOf_89 hl (k := 3) rfl (by rw [ex3_3]; rfl) (by decide) rfl (fun ls hl => ?_)
          refine lv_goto (tgt := 22) X.1 X.2.1 dX8_partnerOf_92 (by decide) ?_
          exact ih x2_J89 x3_3 g0_J89 ex h H locs ls hP hS (lv_sub hl [1, 2, 3, 0] rfl) K
        refine lv_icmp_ne (tgt := 89) X.1 X.2.1 dX8_partnerOf_39 (by decide) (fun hc => ?_) (fun hc => ?_)
        · have h := it_f hc h
          exact HJ89 x2 g0 H locs ls h hP hS (lv_sub hl [0, 1, 2, 3] rfl)
        · have h := it_t hc h
          refine lv_aload_n X.1 X.2.1 dX8_partnerOf_42 rfl (lv_at hl 0 rfl) ?_
          refine lv_iload_n X.1 X.2.1 dX8_partnerOf_43 rfl (lv_at hl 2 rfl) ?_
          refine lv_iload_n X.1 X.2.1 dX8_partnerOf_44 rfl (lv_at hl 3 rfl) ?_
          obtain ⟨r_4, hc_4, h⟩ := bd_el h
          refine call_V1i (As := [.int x2, .int x3]) (rest := []) X (c_X8_partnerIn l dC dI sk sv tc a0 a1 a2 q2_18 q2_19 g0 g1 g2 x2 x3 hc_4) mw_7_26 mw_7_27 mw_7_28 mw_1_11 mw_7_29 dc_X8_partnerIn ⟨Nat.le_of_ble_eq_true rfl, Nat.le_of_ble_eq_true rfl⟩ rfl rfl ⟨Nat.zero_le _, Nat.zero_le _⟩ hP (hD _ _ _) hS 0 rfl rfl rfl hl.1 (Nat.le_of_ble_eq_true rfl) dX8_partnerOf_45 (fun H locs hP hS => ?_)
          refine lv_istore (lv' := [(4, .int r_4), (0, .ref (a0 0)), (1, .int x1), (2, .int x2), (3, .int x3)]) X.1 X.2.1 dX8_partnerOf_48 hl (by decide) rfl (fun ls hl => ?_)
          refine lv_iload_n X.1 X.2.1 dX8_partnerOf_50 rfl (lv_at hl 3 rfl) ?_
          refine lv_iconst (v := 1) X.1 X.2.1 dX8_partnerOf_51 (by decide) ?_
          refine lv_iload_n X.1 X.2.1 dX8_partnerOf_52 rfl (lv_at hl 4 rfl) ?_
          refine lv_ishl X.1 X.2.1 dX8_partnerOf_53 ?_
          refine lv_iconst (v := (-1)) X.1 X.2.1 dX8_partnerOf_54 (by decide) ?_
          refine lv_ixor X.1 X.2.1 dX8_partnerOf_55 ?_
          refine lv_iand X.1 X.2.1 dX8_partnerOf_56 ?_
          obtain ⟨x2_5, ex2_5, h⟩ := nm_el h
          refine tp_i ex2_5 ?_
          refine lv_istore_n (lv' := [(2, .int x2_5), (4, .int r_4), (0, .ref (a0 0)), (1, .int x1), (3, .int x3)]) X.1 X.2.1 dX8_partnerOf_57 rfl hl (by decide) rfl (fun ls hl => ?_)
          refine lv_iload X.1 X.2.1 dX8_partnerOf_58 (lv_at hl 1 rfl) ?_
          refine lv_iconst (v := (-1)) X.1 X.2.1 dX8_partnerOf_60 (by decide) ?_
          refine lv_icmp_eq (tgt := 89) X.1 X.2.1 dX8_partnerOf_61 (by decide) (fun hc => ?_) (fun hc => ?_)
          · have h := it_t hc h
            exact HJ89 x2_5 g0 H locs ls h hP hS (lv_sub hl [2, 3, 0, 4] rfl)
          · have h := it_f hc h
            refine lv_aload_n X.1 X.2.1 dX8_partnerOf_64 rfl (lv_at hl 2 rfl) ?_
            refine r_get (C := RX8) (T := TX8) (N := 6) (ci := 8) (v := .ref (a0 5)) X iw8 hP 0 rfl rfl 4 rfl mw_2_127 rfl dX8_partnerOf_65 ?_
            refine lv_iload_n X.1 X.2.1 dX8_partnerOf_68 rfl (lv_at hl 4 rfl) ?_
            refine lv_iload X.1 X.2.1 dX8_partnerOf_69 (lv_at hl 1 rfl) ?_
            obtain ⟨hg_6, h⟩ := gdi_el h
            obtain ⟨g0_7, eg0_7, h⟩ := nm_el h
            refine r_iast X hP (hD _ _ _) hS 3 0 rfl rfl hg_6 rfl dX8_partnerOf_71 (wSc tc a0 g0_7 (a2 0) (a1 0) ++ (wHd tc a1 g1 ++ (wSt tc a2 g2 q2_18 q2_19))) (by rw [eg0_7]; rfl) (fun H locs hP hS => ?_)
            refine lv_aload_n X.1 X.2.1 dX8_partnerOf_72 rfl (lv_at hl 2 rfl) ?_
            refine r_get (C := RX8) (T := TX8) (N := 6) (ci := 8) (v := .ref (a0 5)) X iw8 hP 0 rfl rfl 4 rfl mw_2_127 rfl dX8_partnerOf_73 ?_
            refine lv_iload X.1 X.2.1 dX8_partnerOf_76 (lv_at hl 1 rfl) ?_
            refine lv_iload_n X.1 X.2.1 dX8_partnerOf_78 rfl (lv_at hl 4 rfl) ?_
            obtain ⟨hg_8, h⟩ := gdi_el h
            obtain ⟨g0_9, eg0_9, h⟩ := nm_el h
            refine r_iast X hP (hD _ _ _) hS 3 0 rfl rfl hg_8 rfl dX8_partnerOf_79 (wSc tc a0 g0_9 (a2 0) (a1 0) ++ (wHd tc a1 g1 ++ (wSt tc a2 g2 q2_18 q2_19))) (by rw [eg0_9]; rfl) (fun H locs hP hS => ?_)
            refine lv_iload_n X.1 X.2.1 dX8_partnerOf_80 rfl (lv_at hl 0 rfl) ?_
            refine lv_iconst (v := 1) X.1 X.2.1 dX8_partnerOf_81 (by decide) ?_
            refine lv_iload X.1 X.2.1 dX8_partnerOf_82 (lv_at hl 1 rfl) ?_
            refine lv_ishl X.1 X.2.1 dX8_partnerOf_84 ?_
            refine lv_iconst (v := (-1)) X.1 X.2.1 dX8_partnerOf_85 (by decide) ?_
            refine lv_ixor X.1 X.2.1 dX8_partnerOf_86 ?_
            refine lv_iand X.1 X.2.1 dX8_partnerOf_87 ?_
            obtain ⟨x2_10, ex2_10, h⟩ := nm_el h
            refine tp_i ex2_10 ?_
            refine lv_istore_n (lv' := [(2, .int x2_10), (4, .int r_4), (0, .ref (a0 0)), (1, .int x1), (3, .int x3)]) X.1 X.2.1 dX8_partnerOf_88 rfl hl (by decide) rfl (fun ls hl => ?_)
            exact HJ89 x2_10 g0_9 H locs ls h hP hS (lv_sub hl [2, 3, 0, 4] rfl)
  unfold f_X8_partnerOf at h
  refine lv_aload_n X.1 X.2.1 dX8_partnerOf_0 rfl (lv_at hl 0 rfl) ?_
  refine r_get (C := RX8) (T := TX8) (N := 6) (ci := 8) (v := .ref (a0 5)) X iw8 hP 0 rfl rfl 4 rfl mw_2_127 rfl dX8_partnerOf_1 ?_
  refine lv_iconst (v := (-1)) X.1 X.2.1 dX8_partnerOf_4 (by decide) ?_
  obtain ⟨g0_1, eg0_1, h⟩ := nm_el h
  refine call_cell (ws' := (wSc tc a0 g0_1 (a2 0) (a1 0) ++ (wHd tc a1 g1 ++ (wSt tc a2 g2 q2_18 q2_19)))) (As := [.ref (a0 5), .int (-1)]) (rest := []) X (c_fill l dC dI sk sv tc (a0 5) 5 (g0 4) (-1) (by decide)) mw_6_237 mw_6_142 mw_1_24 mw_6_143 dc_J7_fill_53178 ⟨(Nat.le_of_ble_eq_true rfl), (Nat.le_of_ble_eq_true rfl)⟩ rfl rfl ⟨Nat.zero_le _, Nat.zero_le _⟩ hP (hD _ _ _) hS 3 rfl (by rw [eg0_1]; rfl) hl.1 (Nat.le_of_ble_eq_true rfl) dX8_partnerOf_5 (fun H locs hP hS => ?_)
  refine lv_iconst (v := 1) X.1 X.2.1 dX8_partnerOf_8 (by decide) ?_
  refine lv_aload_n X.1 X.2.1 dX8_partnerOf_9 rfl (lv_at hl 0 rfl) ?_
  refine r_get (C := RX8) (T := TX8) (N := 6) (ci := 8) (v := .ref (a2 0)) X iw8 hP 0 rfl rfl 0 rfl mw_2_123 rfl dX8_partnerOf_10 ?_
  refine r_get (C := RX9) (T := TX9) (N := 20) (ci := 9) (v := .int (g2 7 0)) X iw9 hP 9 rfl rfl 7 rfl mw_1_144 rfl dX8_partnerOf_13 ?_
  refine lv_ishl X.1 X.2.1 dX8_partnerOf_16 ?_
  refine lv_iconst (v := 1) X.1 X.2.1 dX8_partnerOf_17 (by decide) ?_
  refine lv_isub X.1 X.2.1 dX8_partnerOf_18 ?_
  obtain ⟨x2_2, ex2_2, h⟩ := nm_el h
  refine tp_i ex2_2 ?_
  refine lv_istore_n (lv' := [(2, .int x2_2), (0, .ref (a0 0)), (1, .int x1)]) X.1 X.2.1 dX8_partnerOf_19 rfl hl (by decide) rfl (fun ls hl => ?_)
  refine lv_iconst (v := 0) X.1 X.2.1 dX8_partnerOf_20 (by decide) ?_
  refine lv_istore_n (lv' := [(3, .int 0), (2, .int x2_2), (0, .ref (a0 0)), (1, .int x1)]) X.1 X.2.1 dX8_partnerOf_21 rfl hl (by decide) rfl (fun ls hl => ?_)
  obtain ⟨ex_11, hL_11, h⟩ := bd_el h
  refine HL22 x1 fu x2_2 0 g0_1 ex_11 hL_11 H locs ls hP hS (lv_sub hl [2, 3, 1, 0] rfl) (fun g0_11 he H locs ls hP hS hl => ?_)
  subst he
  refine lv_aload_n X.1 X.2.1 dX8_partnerOf_95 rfl (lv_at hl 0 rfl) ?_
  refine r_get (C := RX8) (T := TX8) (N := 6) (ci := 8) (v := .ref (a0 5)) X iw8 hP 0 rfl rfl 4 rfl mw_2_127 rfl dX8_partnerOf_96 ?_
  refine lv_iload_n X.1 X.2.1 dX8_partnerOf_99 rfl (lv_at hl 1 rfl) ?_
  obtain ⟨hg_12, h⟩ := gdi_el h
  refine r_iald X hP 3 0 rfl rfl hg_12 rfl dX8_partnerOf_100 ?_
  exact ret_i (fun u => (wSc tc a0 u (a2 0) (a1 0) ++ (wHd tc a1 g1 ++ (wSt tc a2 g2 q2_18 q2_19)))) (res := (r0, G0)) (Option.some.inj h) X hQ hP hS dX8_partnerOf_101

def f_X8_steadyChoices_L4 (x1 : Int32) (g0 : Pic) (g1 : Pic) (g2 : Pic) (n : Nat) (a : Int32 × Int32) : Option (Int32) := lp (fun (rec : Int32 × Int32 → Option (Int32)) (a : Int32 × Int32) => match a with | (x2, x3) => (if 4 ≤ x3 then some x2 else bd (f_X8_gainOf g0 g1 g2 x1 x3) (fun r_1 => bd (f_X8_gainOf g0 g1 g2 x1 (x3 ^^^ 2)) (fun r_2 => jn (fun (s0_J31 : Int32) => bd (f_X8_speakerGain g0 g1 g2 x1 x3) (fun r_3 => bd (f_X8_speakerGain g0 g1 g2 x1 (x3 ^^^ 1)) (fun r_4 => jn (fun (s0_J55 : Int32) => jn (fun (x2_J73 : Int32) => nm (x3 + 1) (fun x3_5 => rec (x2_J73, x3_5))) (fun J73 => (if s0_J31 = 0 then J73 x2 else (if s0_J55 = 0 then J73 x2 else nm ((x2 ||| ((1 : Int32) <<< (x3 &&& 31)))) (fun x2_6 => J73 x2_6))))) (fun J55 => (if r_3 < r_4 then J55 0 else J55 1))))) (fun J31 => (if r_1 < r_2 then J31 0 else J31 1)))))) n a
def f_X8_steadyChoices (g0 : Pic) (g1 : Pic) (g2 : Pic) (x1 : Int32) : Option (Int32) := bd (f_X8_steadyChoices_L4 x1 g0 g1 g2 fu (0, 0)) (fun x2_7 => some x2_7)
abbrev rm_X8_steadyChoices : Room := { frames := 1, cells := 0, slots := 0, locals := 22 }
set_option maxHeartbeats 4000000 in
set_option maxRecDepth 100000 in
theorem c_X8_steadyChoices (l : Launch) (dC : Nat → ClassId) (dI : Nat → Nat → Nat) (sk sv : Nat → Nat) (tc : Nat → ClassId) (a0 : Nat → Nat) (a1 : Nat → Nat) (a2 : Nat → Nat) (q2_18 : Option Nat) (q2_19 : Nat) (g0 : Pic) (g1 : Pic) (g2 : Pic) (x1 : Int32) {r0 : Int32} (h : f_X8_steadyChoices g0 g1 g2 x1 = some r0) : CT l (dC, dI) sk sv (TY tc) yX8_steadyChoices cX8_steadyChoices 6 (some .int) rm_X8_steadyChoices [.ref (a0 0), .int x1] (wSc tc a0 g0 (a2 0) (a1 0) ++ (wHd tc a1 g1 ++ (wSt tc a2 g2 q2_18 q2_19))) (some (.int r0)) (wSc tc a0 g0 (a2 0) (a1 0) ++ (wHd tc a1 g1 ++ (wSt tc a2 g2 q2_18 q2_19))) := by
  refine ofCT (by decide) (Nat.le_of_ble_eq_true rfl) ?_
  intro pr e s m args below meth c A Q ls H locs X hQ hD0 hP hS hl
  have hD : ∀ z0 z1 z2, va_D A (wSc tc a0 z0 (a2 0) (a1 0) ++ (wHd tc a1 z1 ++ (wSt tc a2 z2 q2_18 q2_19))) := fun z0 z1 z2 => D_fst (ws := (wSc tc a0 g0 (a2 0) (a1 0) ++ (wHd tc a1 g1 ++ (wSt tc a2 g2 q2_18 q2_19)))) rfl hD0
  have hl : lv_has ls 6 [(0, .ref (a0 0)), (1, .int x1)] := hl
  have HL4 : ∀ (x1 : Int32) (n : Nat) (x2 : Int32) (x3 : Int32) (ex : (Int32)), f_X8_steadyChoices_L4 x1 g0 g1 g2 n (x2, x3) = some ex → ∀ (H : Heap) (locs : List Loc) (ls : Array Slot), va_P (dC, dI) vwCl (wSc tc a0 g0 (a2 0) (a1 0) ++ (wHd tc a1 g1 ++ (wSt tc a2 g2 q2_18 q2_19))) H → va_S A s.heap H locs → lv_has ls 6 [(0, .ref (a0 0)), (1, .int x1), (2, .int x2), (3, .int x3)] → (∀ (y2 : Int32), y2 = ex → ∀ (H : Heap) (locs : List Loc) (ls : Array Slot), va_P (dC, dI) vwCl (wSc tc a0 g0 (a2 0) (a1 0) ++ (wHd tc a1 g1 ++ (wSt tc a2 g2 q2_18 q2_19))) H → va_S A s.heap H locs → lv_has ls 6 [(2, .int y2)] → W pr l e rm_X8_steadyChoices s m args below meth c H locs 0 0 Q (F0 m 79 ls [])) → W pr l e rm_X8_steadyChoices s m args below meth c H locs 0 0 Q (F0 m 4 ls []) := by
    intro x1 n
    induction n with
    | zero => intro x2 x3 ex h; exact lp_z h
    | succ n ih =>
      intro x2 x3 ex h H locs ls hP hS hl K
      have h := lp_s h
      refine lv_iload_n X.1 X.2.1 dX8_steadyChoices_4 rfl (lv_at hl 3 rfl) ?_
      refine lv_iconst (v := 4) X.1 X.2.1 dX8_steadyChoices_5 (by decide) ?_
      refine lv_icmp_ge (tgt := 79) X.1 X.2.1 dX8_steadyChoices_6 (by decide) (fun hc => ?_) (fun hc => ?_)
      · have h := it_t hc h
        exact K x2 (Option.some.inj h) H locs ls hP hS (lv_sub hl [2] rfl)
      · have h := it_f hc h
        refine lv_aload_n X.1 X.2.1 dX8_steadyChoices_9 rfl (lv_at hl 0 rfl) ?_
        refine lv_iload_n X.1 X.2.1 dX8_steadyChoices_10 rfl (lv_at hl 1 rfl) ?_
        refine lv_iload_n X.1 X.2.1 dX8_steadyChoices_11 rfl (lv_at hl 3 rfl) ?_
        obtain ⟨r_1, hc_1, h⟩ := bd_el h
        refine call_V1i (As := [.int x1, .int x3]) (rest := []) X (c_X8_gainOf l dC dI sk sv tc a0 a1 a2 q2_18 q2_19 g0 g1 g2 x1 x3 hc_1) mw_7_41 mw_7_42 mw_7_43 mw_1_11 mw_7_44 dc_X8_gainOf ⟨Nat.le_of_ble_eq_true rfl, Nat.le_of_ble_eq_true rfl⟩ rfl rfl ⟨Nat.zero_le _, Nat.zero_le _⟩ hP (hD _ _ _) hS 0 rfl rfl rfl hl.1 (Nat.le_of_ble_eq_true rfl) dX8_steadyChoices_12 (fun H locs hP hS => ?_)
        refine lv_aload_n X.1 X.2.1 dX8_steadyChoices_15 rfl (lv_at hl 0 rfl) ?_
        refine lv_iload_n X.1 X.2.1 dX8_steadyChoices_16 rfl (lv_at hl 1 rfl) ?_
        refine lv_iload_n X.1 X.2.1 dX8_steadyChoices_17 rfl (lv_at hl 3 rfl) ?_
        refine lv_iconst (v := 2) X.1 X.2.1 dX8_steadyChoices_18 (by decide) ?_
        refine lv_ixor X.1 X.2.1 dX8_steadyChoices_19 ?_
        obtain ⟨r_2, hc_2, h⟩ := bd_el h
        refine call_V1i (As := [.int x1, .int (x3 ^^^ 2)]) (rest := [.int r_1]) X (c_X8_gainOf l dC dI sk sv tc a0 a1 a2 q2_18 q2_19 g0 g1 g2 x1 (x3 ^^^ 2) hc_2) mw_7_41 mw_7_42 mw_7_43 mw_1_11 mw_7_44 dc_X8_gainOf ⟨Nat.le_of_ble_eq_true rfl, Nat.le_of_ble_eq_true rfl⟩ rfl rfl ⟨Nat.zero_le _, Nat.zero_le _⟩ hP (hD _ _ _) hS 0 rfl rfl rfl hl.1 (Nat.le_of_ble_eq_true rfl) dX8_steadyChoices_20 (fun H locs hP hS => ?_)
        obtain ⟨J31, eJ31, h⟩ := jn_el h
        have HJ31 : ∀ (s0_J31 : Int32) (H : Heap) (locs : List Loc) (ls : Array Slot), J31 s0_J31 = some ex → va_P (dC, dI) vwCl (wSc tc a0 g0 (a2 0) (a1 0) ++ (wHd tc a1 g1 ++ (wSt tc a2 g2 q2_18 q2_19))) H → va_S A s.heap H locs → lv_has ls 6 [(0, .ref (a0 0)), (1, .int x1), (2, .int x2), (3, .int x3)] → W pr l e rm_X8_steadyChoices s m args below meth c H locs 0 0 Q (F0 m 31 ls [.int s0_J31]) := by
          intro s0_J31 H locs ls h hP hS hl
          rw [eJ31] at h
          refine lv_istore (lv' := [(4, .int s0_J31), (0, .ref (a0 0)), (1, .int x1), (2, .int x2), (3, .int x3)]) X.1 X.2.1 dX8_steadyChoices_31 hl (by decide) rfl (fun ls hl => ?_)
          refine lv_aload_n X.1 X.2.1 dX8_steadyChoices_33 rfl (lv_at hl 1 rfl) ?_
          refine lv_iload_n X.1 X.2.1 dX8_steadyChoices_34 rfl (lv_at hl 2 rfl) ?_
          refine lv_iload_n X.1 X.2.1 dX8_steadyChoices_35 rfl (lv_at hl 4 rfl) ?_
          obtain ⟨r_3, hc_3, h⟩ := bd_el h
          refine call_V1i (As := [.int x1, .int x3]) (rest := []) X (c_X8_speakerGain l dC dI sk sv tc a0 a1 a2 q2_18 q2_19 g0 g1 g2 x1 x3 hc_3) mw_7_45 mw_7_46 mw_7_47 mw_1_11 mw_7_48 dc_X8_speakerGain ⟨Nat.le_of_ble_eq_true rfl, Nat.le_of_ble_eq_true rfl⟩ rfl rfl ⟨Nat.zero_le _, Nat.zero_le _⟩ hP (hD _ _ _) hS 0 rfl rfl rfl hl.1 (Nat.le_of_ble_eq_true rfl) dX8_steadyChoices_36 (fun H locs hP hS => ?_)
          refine lv_aload_n X.1 X.2.1 dX8_steadyChoices_39 rfl (lv_at hl 1 rfl) ?_
          refine lv_iload_n X.1 X.2.1 dX8_steadyChoices_40 rfl (lv_at hl 2 rfl) ?_
          refine lv_iload_n X.1 X.2.1 dX8_steadyChoices_41 rfl (lv_at hl 4 rfl) ?_
          refine lv_iconst (v := 1) X.1 X.2.1 dX8_steadyChoices_42 (by decide) ?_
          refine lv_ixor X.1 X.2.1 dX8_steadyChoices_43 ?_
          obtain ⟨r_4, hc_4, h⟩ := bd_el h
          refine call_V1i (As := [.int x1, .int (x3 ^^^ 1)]) (rest := [.int r_3]) X (c_X8_speakerGain l dC dI sk sv tc a0 a1 a2 q2_18 q2_19 g0 g1 g2 x1 (x3 ^^^ 1) hc_4) mw_7_45 mw_7_46 mw_7_47 mw_1_11 mw_7_48 dc_X8_speakerGain ⟨Nat.le_of_ble_eq_true rfl, Nat.le_of_ble_eq_true rfl⟩ rfl rfl ⟨Nat.zero_le _, Nat.zero_le _⟩ hP (hD _ _ _) hS 0 rfl rfl rfl hl.1 (Nat.le_of_ble_eq_true rfl) dX8_steadyChoices_44 (fun H locs hP hS => ?_)
          obtain ⟨J55, eJ55, h⟩ := jn_el h
          have HJ55 : ∀ (s0_J55 : Int32) (H : Heap) (locs : List Loc) (ls : Array Slot), J55 s0_J55 = some ex → va_P (dC, dI) vwCl (wSc tc a0 g0 (a2 0) (a1 0) ++ (wHd tc a1 g1 ++ (wSt tc a2 g2 q2_18 q2_19))) H → va_S A s.heap H locs → lv_has ls 6 [(0, .ref (a0 0)), (1, .int x1), (2, .int x2), (3, .int x3), (4, .int s0_J31)] → W pr l e rm_X8_steadyChoices s m args below meth c H locs 0 0 Q (F0 m 55 ls [.int s0_J55]) := by
            intro s0_J55 H locs ls h hP hS hl
            rw [eJ55] at h
            refine lv_istore (lv' := [(5, .int s0_J55), (0, .ref (a0 0)), (1, .int x1), (2, .int x2), (3, .int x3), (4, .int s0_J31)]) X.1 X.2.1 dX8_steadyChoices_55 hl (by decide) rfl (fun ls hl => ?_)
            refine lv_iload X.1 X.2.1 dX8_steadyChoices_57 (lv_at hl 5 rfl) ?_
            obtain ⟨J73, eJ73, h⟩ := jn_el h
            have HJ73 : ∀ (x2_J73 : Int32) (H : Heap) (locs : List Loc) (ls : Array Slot), J73 x2_J73 = some ex → va_P (dC, dI) vwCl (wSc tc a0 g0 (a2 0) (a1 0) ++ (wHd tc a1 g1 ++ (wSt tc a2 g2 q2_18 q2_19))) H → va_S A s.heap H locs → lv_has ls 6 [(0, .ref (a0 0)), (1, .int x1), (2, .int x2_J73), (3, .int x3)] → W pr l e rm_X8_steadyChoices s m args below meth c H locs 0 0 Q (F0 m 73 ls []) := by
              intro x2_J73 H locs ls h hP hS hl
              rw [eJ73] at h
              obtain ⟨x3_5, ex3_5, h⟩ := nm_el h
              refine lv_iinc (v := x3_5) (lv' := [(3, .int x3_5), (0, .ref (a0 0)), (1, .int x1), (2, .int x2_J73)]) X.1 X.2.1 dX8_steadyChoices_73 hl (k := 3) rfl (by rw [ex3_5]; rfl) (by decide) rfl (fun ls hl => ?_)
              refine lv_goto (tgt := 4) X.1 X.2.1 dX8_steadyChoices_76 (by decide) ?_
              exact ih x2_J73 x3_5 ex h H locs ls hP hS (lv_sub hl [1, 2, 3, 0] rfl) K
            refine lv_if_eq (tgt := 73) X.1 X.2.1 dX8_steadyChoices_59 (by decide) (fun hc => ?_) (fun hc => ?_)
            · have h := it_t hc h
              exact HJ73 x2 H locs ls h hP hS (lv_sub hl [1, 2, 3, 4] rfl)
            · have h := it_f hc h
              refine lv_iload X.1 X.2.1 dX8_steadyChoices_62 (lv_at hl 0 rfl) ?_
              refine lv_if_eq (tgt := 73) X.1 X.2.1 dX8_steadyChoices_64 (by decide) (fun hc => ?_) (fun hc => ?_)
              · have h := it_t hc h
                exact HJ73 x2 H locs ls h hP hS (lv_sub hl [1, 2, 3, 4] rfl)
              · have h := it_f hc h
                refine lv_iload_n X.1 X.2.1 dX8_steadyChoices_67 rfl (lv_at hl 3 rfl) ?_
                refine lv_iconst (v := 1) X.1 X.2.1 dX8_steadyChoices_68 (by decide) ?_
                refine lv_iload_n X.1 X.2.1 dX8_steadyChoices_69 rfl (lv_at hl 4 rfl) ?_
                refine lv_ishl X.1 X.2.1 dX8_steadyChoices_70 ?_
                refine lv_ior X.1 X.2.1 dX8_steadyChoices_71 ?_
                obtain ⟨x2_6, ex2_6, h⟩ := nm_el h
                refine tp_i ex2_6 ?_
                refine lv_istore_n (lv' := [(2, .int x2_6), (5, .int s0_J55), (0, .ref (a0 0)), (1, .int x1), (3, .int x3), (4, .int s0_J31)]) X.1 X.2.1 dX8_steadyChoices_72 rfl hl (by decide) rfl (fun ls hl => ?_)
                exact HJ73 x2_6 H locs ls h hP hS (lv_sub hl [2, 3, 0, 4] rfl)
          refine lv_icmp_lt (tgt := 54) X.1 X.2.1 dX8_steadyChoices_47 (by decide) (fun hc => ?_) (fun hc => ?_)
          · have h := it_t hc h
            refine lv_iconst (v := 0) X.1 X.2.1 dX8_steadyChoices_54 (by decide) ?_
            exact HJ55 0 H locs ls h hP hS (lv_sub hl [1, 2, 3, 4, 0] rfl)
          · have h := it_f hc h
            refine lv_iconst (v := 1) X.1 X.2.1 dX8_steadyChoices_50 (by decide) ?_
            refine lv_goto (tgt := 55) X.1 X.2.1 dX8_steadyChoices_51 (by decide) ?_
            exact HJ55 1 H locs ls h hP hS (lv_sub hl [1, 2, 3, 4, 0] rfl)
        refine lv_icmp_lt (tgt := 30) X.1 X.2.1 dX8_steadyChoices_23 (by decide) (fun hc => ?_) (fun hc => ?_)
        · have h := it_t hc h
          refine lv_iconst (v := 0) X.1 X.2.1 dX8_steadyChoices_30 (by decide) ?_
          exact HJ31 0 H locs ls h hP hS (lv_sub hl [0, 1, 2, 3] rfl)
        · have h := it_f hc h
          refine lv_iconst (v := 1) X.1 X.2.1 dX8_steadyChoices_26 (by decide) ?_
          refine lv_goto (tgt := 31) X.1 X.2.1 dX8_steadyChoices_27 (by decide) ?_
          exact HJ31 1 H locs ls h hP hS (lv_sub hl [0, 1, 2, 3] rfl)
  unfold f_X8_steadyChoices at h
  refine lv_iconst (v := 0) X.1 X.2.1 dX8_steadyChoices_0 (by decide) ?_
  refine lv_istore_n (lv' := [(2, .int 0), (0, .ref (a0 0)), (1, .int x1)]) X.1 X.2.1 dX8_steadyChoices_1 rfl hl (by decide) rfl (fun ls hl => ?_)
  refine lv_iconst (v := 0) X.1 X.2.1 dX8_steadyChoices_2 (by decide) ?_
  refine lv_istore_n (lv' := [(3, .int 0), (2, .int 0), (0, .ref (a0 0)), (1, .int x1)]) X.1 X.2.1 dX8_steadyChoices_3 rfl hl (by decide) rfl (fun ls hl => ?_)
  obtain ⟨ex_7, hL_7, h⟩ := bd_el h
  refine HL4 x1 fu 0 0 ex_7 hL_7 H locs ls hP hS (lv_sub hl [2, 3, 1, 0] rfl) (fun x2_7 he H locs ls hP hS hl => ?_)
  subst he
  refine lv_iload_n X.1 X.2.1 dX8_steadyChoices_79 rfl (lv_at hl 0 rfl) ?_
  exact ret_i0 (Option.some.inj h) X hQ hP hS dX8_steadyChoices_80

def f_X2_readsWord_L72 (x1 : Int32) (x2 : Int32) (g0 : Pic) (n : Nat) (a : Int32 × Pic × Pic) : Option ((Int32 × Pic × Pic) ⊕ (Pic × Pic)) := lp (fun (rec : Int32 × Pic × Pic → Option ((Int32 × Pic × Pic) ⊕ (Pic × Pic))) (a : Int32 × Pic × Pic) => match a with | (x3, g1, g2) => (if x2 ≤ x3 then some (.inr (g1, g2)) else bd (f_X10_letterOfName g1 x3) (fun r_6 => (if r_6 = (-1) then bd2 (f_X10_refuse g1) (fun r_10 g1_10 => gdb r_10 (some (.inl (r_10, g1_10, g2)))) else gdi ((x1 * 6) + x3) 48 (nm (pu g2 1 (((x1 * 6) + x3).toNatClampNeg) r_6) (fun g2_8 => nm (x3 + 1) (fun x3_9 => rec (x3_9, g1, g2_8)))))))) n a
def f_X2_readsWord (g0 : Pic) (g1 : Pic) (g2 : Pic) : Option (Int32 × Pic × Pic) := nm ((g2 0 0)) (fun x1_1 => (if x1_1 < 8 then bd (f_X10_step g1) (fun g1_2 => nm (((g1_2 5 0) - (g1_2 4 0))) (fun x2_3 => jn (fun (_ : Unit) => bd2 (f_X10_refuse g1_2) (fun r_4 g1_4 => gdb r_4 (some (r_4, g1_4, g2)))) (fun J62 => (if (g1_2 3 0) = 1 then (if x2_3 ≤ 6 then lr (f_X2_readsWord_L72 x1_1 x2_3 g0 fu (0, g1_2, g2)) (fun a => a) (fun (g1_12, g2_12) => gdi x1_1 8 (nm (pu g2_12 2 (x1_1.toNatClampNeg) x2_3) (fun g2_14 => bd (f_X10_step g1_12) (fun g1_15 => bd2 (f_X10_takesName 1 g1_15) (fun r_16 g1_16 => (if r_16 = 0 then bd2 (f_X10_refuse g1_16) (fun r_23 g1_23 => gdb r_23 (some (r_23, g1_23, g2_14))) else bd2 (f_X10_takeNumber g1_16 1 99) (fun r_17 g1_17 => gdi x1_1 8 (nm (pu g2_14 3 (x1_1.toNatClampNeg) r_17) (fun g2_19 => nm (pu g2_19 0 0 ((g2_19 0 0) + 1)) (fun g2_20 => gdi x1_1 8 (jn (fun (s0_J210 : Int32) => gdb s0_J210 (some (s0_J210, g1_17, g2_20))) (fun J210 => (if (g2_20 3 (x1_1.toNatClampNeg)) = (-1) then J210 0 else J210 1))))))))))))) else J62 ()) else J62 ())))) else bd2 (f_X10_refuse g1) (fun r_25 g1_25 => gdb r_25 (some (r_25, g1_25, g2)))))
abbrev rm_X2_readsWord : Room := { frames := 6, cells := 0, slots := 0, locals := 155 }
set_option maxHeartbeats 4000000 in
set_option maxRecDepth 100000 in
theorem c_X2_readsWord (l : Launch) (dC : Nat → ClassId) (dI : Nat → Nat → Nat) (sk sv : Nat → Nat) (tc : Nat → ClassId) (a0 : Nat → Nat) (a1 : Nat → Nat) (a2 : Nat → Nat) (q2_18 : Option Nat) (q2_19 : Nat) (g0 : Pic) (g1 : Pic) (g2 : Pic) {r0 : Int32} {G1 : Pic} {G2 : Pic} (h : f_X2_readsWord g0 g1 g2 = some (r0, G1, G2)) : CT l (dC, dI) sk sv (TY tc) yX2_readsWord cX2_readsWord 5 (some .boolean) rm_X2_readsWord [.ref (a0 0)] (wEv tc a0 g0 (a1 0) (a2 0) ++ (wTp tc a1 g1 ++ (wSt tc a2 g2 q2_18 q2_19))) (some (.int r0)) (wEv tc a0 g0 (a1 0) (a2 0) ++ (wTp tc a1 G1 ++ (wSt tc a2 G2 q2_18 q2_19))) := by
  refine ofCT (by decide) (Nat.le_of_ble_eq_true rfl) ?_
  intro pr e s m args below meth c A Q ls H locs X hQ hD0 hP hS hl
  have hD : ∀ z0 z1 z2, va_D A (wEv tc a0 z0 (a1 0) (a2 0) ++ (wTp tc a1 z1 ++ (wSt tc a2 z2 q2_18 q2_19))) := fun z0 z1 z2 => D_fst (ws := (wEv tc a0 g0 (a1 0) (a2 0) ++ (wTp tc a1 g1 ++ (wSt tc a2 g2 q2_18 q2_19)))) rfl hD0
  have hl : lv_has ls 5 [(0, .ref (a0 0))] := hl
  have HL72 : ∀ (x1 : Int32) (x2 : Int32) (n : Nat) (x3 : Int32) (g1 : Pic) (g2 : Pic) (ex : ((Int32 × Pic × Pic) ⊕ (Pic × Pic))), f_X2_readsWord_L72 x1 x2 g0 n (x3, g1, g2) = some ex → (∀ rv, ex = .inl rv → rv = (r0, G1, G2)) → ∀ (H : Heap) (locs : List Loc) (ls : Array Slot), va_P (dC, dI) vwCl (wEv tc a0 g0 (a1 0) (a2 0) ++ (wTp tc a1 g1 ++ (wSt tc a2 g2 q2_18 q2_19))) H → va_S A s.heap H locs → lv_has ls 5 [(0, .ref (a0 0)), (1, .int x1), (2, .int x2), (3, .int x3)] → (∀ (k1 : Pic) (k2 : Pic), .inr (k1, k2) = ex → ∀ (H : Heap) (locs : List Loc) (ls : Array Slot), va_P (dC, dI) vwCl (wEv tc a0 g0 (a1 0) (a2 0) ++ (wTp tc a1 k1 ++ (wSt tc a2 k2 q2_18 q2_19))) H → va_S A s.heap H locs → lv_has ls 5 [(0, .ref (a0 0)), (1, .int x1), (2, .int x2)] → W pr l e rm_X2_readsWord s m args below meth c H locs 0 0 Q (F0 m 123 ls [])) → W pr l e rm_X2_readsWord s m args below meth c H locs 0 0 Q (F0 m 72 ls []) := by
    intro x1 x2 n
    induction n with
    | zero => intro x3 g1 g2 ex h; exact lp_z h
    | succ n ih =>
      intro x3 g1 g2 ex h hR H locs ls hP hS hl K
      have h := lp_s h
      refine lv_iload_n X.1 X.2.1 dX2_readsWord_72 rfl (lv_at hl 3 rfl) ?_
      refine lv_iload_n X.1 X.2.1 dX2_readsWord_73 rfl (lv_at hl 2 rfl) ?_
      refine lv_icmp_ge (tgt := 123) X.1 X.2.1 dX2_readsWord_74 (by decide) (fun hc => ?_) (fun hc => ?_)
      · have h := it_t hc h
        exact K g1 g2 (Option.some.inj h) H locs ls hP hS (lv_sub hl [0, 1, 2] rfl)
      · have h := it_f hc h
        refine lv_aload_n X.1 X.2.1 dX2_readsWord_77 rfl (lv_at hl 0 rfl) ?_
        refine r_get (C := RX2) (T := TX2) (N := 2) (ci := 2) (v := .ref (a1 0)) X iw2 hP 0 rfl rfl 0 rfl mw_2_1 rfl dX2_readsWord_78 ?_
        refine lv_iload_n X.1 X.2.1 dX2_readsWord_81 rfl (lv_at hl 3 rfl) ?_
        obtain ⟨r_6, hc_6, h⟩ := bd_el h
        refine call_Vsi (ws := (wEv tc a0 g0 (a1 0) (a2 0) ++ (wTp tc a1 g1 ++ (wSt tc a2 g2 q2_18 q2_19)))) (ws' := (wEv tc a0 g0 (a1 0) (a2 0) ++ (wTp tc a1 g1 ++ (wSt tc a2 g2 q2_18 q2_19)))) (wEv tc a0 g0 (a1 0) (a2 0)) (wSt tc a2 g2 q2_18 q2_19) (As := [.int x3]) (rest := []) X (c_X10_letterOfName l dC dI sk sv tc a1 g1 x3 hc_6) mw_3_198 mw_3_199 mw_3_200 mw_1_2 mw_3_201 dc_X10_letterOfName ⟨Nat.le_of_ble_eq_true rfl, Nat.le_of_ble_eq_true rfl⟩ rfl rfl ⟨Nat.zero_le _, Nat.zero_le _⟩ (by simp only [List.append_assoc, List.nil_append, List.append_nil]) (by simp only [List.append_assoc, List.nil_append, List.append_nil]) hP (hD _ _ _) hS 0 rfl rfl rfl hl.1 (Nat.le_of_ble_eq_true rfl) dX2_readsWord_82 (fun H locs hP hS => ?_)
        refine lv_istore (lv' := [(4, .int r_6), (0, .ref (a0 0)), (1, .int x1), (2, .int x2), (3, .int x3)]) X.1 X.2.1 dX2_readsWord_85 hl (by decide) rfl (fun ls hl => ?_)
        refine lv_iload X.1 X.2.1 dX2_readsWord_87 (lv_at hl 0 rfl) ?_
        refine lv_iconst (v := (-1)) X.1 X.2.1 dX2_readsWord_89 (by decide) ?_
        refine lv_icmp_ne (tgt := 101) X.1 X.2.1 dX2_readsWord_90 (by decide) (fun hc => ?_) (fun hc => ?_)
        · have h := it_f hc h
          refine lv_aload_n X.1 X.2.1 dX2_readsWord_101 rfl (lv_at hl 1 rfl) ?_
          refine r_get (C := RX2) (T := TX2) (N := 2) (ci := 2) (v := .ref (a2 0)) X iw2 hP 0 rfl rfl 1 rfl mw_2_2 rfl dX2_readsWord_102 ?_
          refine r_get (C := RX9) (T := TX9) (N := 20) (ci := 9) (v := .ref (a2 2)) X iw9 hP 3 rfl rfl 1 rfl mw_1_111 rfl dX2_readsWord_105 ?_
          refine lv_iload_n X.1 X.2.1 dX2_readsWord_108 rfl (lv_at hl 2 rfl) ?_
          refine lv_bipush (v := 6) X.1 X.2.1 dX2_readsWord_109 (by decide) ?_
          refine lv_imul X.1 X.2.1 dX2_readsWord_111 ?_
          refine lv_iload_n X.1 X.2.1 dX2_readsWord_112 rfl (lv_at hl 4 rfl) ?_
          refine lv_iadd X.1 X.2.1 dX2_readsWord_113 ?_
          refine lv_iload X.1 X.2.1 dX2_readsWord_114 (lv_at hl 0 rfl) ?_
          obtain ⟨hg_7, h⟩ := gdi_el h
          obtain ⟨g2_8, eg2_8, h⟩ := nm_el h
          refine r_iast X hP (hD _ _ _) hS 4 0 rfl rfl hg_7 rfl dX2_readsWord_116 (wEv tc a0 g0 (a1 0) (a2 0) ++ (wTp tc a1 g1 ++ (wSt tc a2 g2_8 q2_18 q2_19))) (by rw [eg2_8]; rfl) (fun H locs hP hS => ?_)
          obtain ⟨x3_9, ex3_9, h⟩ := nm_el h
          refine lv_iinc (v := x3_9) (lv' := [(3, .int x3_9), (4, .int r_6), (0, .ref (a0 0)), (1, .int x1), (2, .int x2)]) X.1 X.2.1 dX2_readsWord_117 hl (k := 4) rfl (by rw [ex3_9]; rfl) (by decide) rfl (fun ls hl => ?_)
          refine lv_goto (tgt := 72) X.1 X.2.1 dX2_readsWord_120 (by decide) ?_
          exact ih x3_9 g1 g2_8 ex h hR H locs ls hP hS (lv_sub hl [2, 3, 4, 0] rfl) K
        · have h := it_t hc h
          refine lv_aload_n X.1 X.2.1 dX2_readsWord_93 rfl (lv_at hl 1 rfl) ?_
          refine r_get (C := RX2) (T := TX2) (N := 2) (ci := 2) (v := .ref (a1 0)) X iw2 hP 0 rfl rfl 0 rfl mw_2_1 rfl dX2_readsWord_94 ?_
          obtain ⟨r_10, g1_10, hc_10, h⟩ := bd2_el h
          refine call_Vsi (ws := (wEv tc a0 g0 (a1 0) (a2 0) ++ (wTp tc a1 g1 ++ (wSt tc a2 g2 q2_18 q2_19)))) (ws' := (wEv tc a0 g0 (a1 0) (a2 0) ++ (wTp tc a1 g1_10 ++ (wSt tc a2 g2 q2_18 q2_19)))) (wEv tc a0 g0 (a1 0) (a2 0)) (wSt tc a2 g2 q2_18 q2_19) (As := []) (rest := []) X (c_X10_refuse l dC dI sk sv tc a1 g1 hc_10) mw_3_193 mw_3_194 mw_3_195 mw_1_2 mw_3_196 dc_X10_refuse ⟨Nat.le_of_ble_eq_true rfl, Nat.le_of_ble_eq_true rfl⟩ rfl rfl ⟨Nat.zero_le _, Nat.zero_le _⟩ (by simp only [List.append_assoc, List.nil_append, List.append_nil]) (by simp only [List.append_assoc, List.nil_append, List.append_nil]) hP (hD _ _ _) hS 0 rfl rfl rfl hl.1 (Nat.le_of_ble_eq_true rfl) dX2_readsWord_97 (fun H locs hP hS => ?_)
          obtain ⟨hg_11, h⟩ := gdb_el h
          exact ret_z (fun u => (wEv tc a0 g0 (a1 0) (a2 0) ++ (wTp tc a1 u.1 ++ (wSt tc a2 u.2 q2_18 q2_19)))) (res := (r0, G1, G2)) hg_11 (hR _ (Option.some.inj h).symm) X hQ hP hS dX2_readsWord_100
  unfold f_X2_readsWord at h
  refine lv_aload_n X.1 X.2.1 dX2_readsWord_0 rfl (lv_at hl 0 rfl) ?_
  refine r_get (C := RX2) (T := TX2) (N := 2) (ci := 2) (v := .ref (a2 0)) X iw2 hP 0 rfl rfl 1 rfl mw_2_2 rfl dX2_readsWord_1 ?_
  refine r_get (C := RX9) (T := TX9) (N := 20) (ci := 9) (v := .int (g2 0 0)) X iw9 hP 3 rfl rfl 0 rfl mw_1_106 rfl dX2_readsWord_4 ?_
  obtain ⟨x1_1, ex1_1, h⟩ := nm_el h
  refine tp_i ex1_1 ?_
  refine lv_istore_n (lv' := [(1, .int x1_1), (0, .ref (a0 0))]) X.1 X.2.1 dX2_readsWord_7 rfl hl (by decide) rfl (fun ls hl => ?_)
  refine lv_iload_n X.1 X.2.1 dX2_readsWord_8 rfl (lv_at hl 0 rfl) ?_
  refine lv_bipush (v := 8) X.1 X.2.1 dX2_readsWord_9 (by decide) ?_
  refine lv_icmp_lt (tgt := 22) X.1 X.2.1 dX2_readsWord_11 (by decide) (fun hc => ?_) (fun hc => ?_)
  · have h := it_t hc h
    refine lv_aload_n X.1 X.2.1 dX2_readsWord_22 rfl (lv_at hl 1 rfl) ?_
    refine r_get (C := RX2) (T := TX2) (N := 2) (ci := 2) (v := .ref (a1 0)) X iw2 hP 0 rfl rfl 0 rfl mw_2_1 rfl dX2_readsWord_23 ?_
    obtain ⟨g1_2, hc_2, h⟩ := bd_el h
    refine call_Vsv (ws := (wEv tc a0 g0 (a1 0) (a2 0) ++ (wTp tc a1 g1 ++ (wSt tc a2 g2 q2_18 q2_19)))) (ws' := (wEv tc a0 g0 (a1 0) (a2 0) ++ (wTp tc a1 g1_2 ++ (wSt tc a2 g2 q2_18 q2_19)))) (wEv tc a0 g0 (a1 0) (a2 0)) (wSt tc a2 g2 q2_18 q2_19) (As := []) (rest := []) X (c_X10_step l dC dI sk sv tc a1 g1 hc_2) mw_3_197 mw_3_129 mw_3_130 mw_1_2 mw_3_131 dc_X10_step ⟨Nat.le_of_ble_eq_true rfl, Nat.le_of_ble_eq_true rfl⟩ rfl rfl ⟨Nat.zero_le _, Nat.zero_le _⟩ (by simp only [List.append_assoc, List.nil_append, List.append_nil]) (by simp only [List.append_assoc, List.nil_append, List.append_nil]) hP (hD _ _ _) hS 0 rfl rfl rfl hl.1 (Nat.le_of_ble_eq_true rfl) dX2_readsWord_26 (fun H locs hP hS => ?_)
    refine lv_aload_n X.1 X.2.1 dX2_readsWord_29 rfl (lv_at hl 1 rfl) ?_
    refine r_get (C := RX2) (T := TX2) (N := 2) (ci := 2) (v := .ref (a1 0)) X iw2 hP 0 rfl rfl 0 rfl mw_2_1 rfl dX2_readsWord_30 ?_
    refine r_get (C := RX10) (T := TX10) (N := 8) (ci := 10) (v := .int (g1_2 5 0)) X iw10 hP 1 rfl rfl 5 rfl mw_1_56 rfl dX2_readsWord_33 ?_
    refine lv_aload_n X.1 X.2.1 dX2_readsWord_36 rfl (lv_at hl 1 rfl) ?_
    refine r_get (C := RX2) (T := TX2) (N := 2) (ci := 2) (v := .ref (a1 0)) X iw2 hP 0 rfl rfl 0 rfl mw_2_1 rfl dX2_readsWord_37 ?_
    refine r_get (C := RX10) (T := TX10) (N := 8) (ci := 10) (v := .int (g1_2 4 0)) X iw10 hP 1 rfl rfl 4 rfl mw_1_54 rfl dX2_readsWord_40 ?_
    refine lv_isub X.1 X.2.1 dX2_readsWord_43 ?_
    obtain ⟨x2_3, ex2_3, h⟩ := nm_el h
    refine tp_i ex2_3 ?_
    refine lv_istore_n (lv' := [(2, .int x2_3), (1, .int x1_1), (0, .ref (a0 0))]) X.1 X.2.1 dX2_readsWord_44 rfl hl (by decide) rfl (fun ls hl => ?_)
    refine lv_aload_n X.1 X.2.1 dX2_readsWord_45 rfl (lv_at hl 2 rfl) ?_
    refine r_get (C := RX2) (T := TX2) (N := 2) (ci := 2) (v := .ref (a1 0)) X iw2 hP 0 rfl rfl 0 rfl mw_2_1 rfl dX2_readsWord_46 ?_
    refine r_get (C := RX10) (T := TX10) (N := 8) (ci := 10) (v := .int (g1_2 3 0)) X iw10 hP 1 rfl rfl 3 rfl mw_1_50 rfl dX2_readsWord_49 ?_
    refine lv_iconst (v := 1) X.1 X.2.1 dX2_readsWord_52 (by decide) ?_
    obtain ⟨J62, eJ62, h⟩ := jn_el h
    have HJ62 : ∀ (_ : Unit) (H : Heap) (locs : List Loc) (ls : Array Slot), J62 () = some (r0, G1, G2) → va_P (dC, dI) vwCl (wEv tc a0 g0 (a1 0) (a2 0) ++ (wTp tc a1 g1_2 ++ (wSt tc a2 g2 q2_18 q2_19))) H → va_S A s.heap H locs → lv_has ls 5 [(0, .ref (a0 0))] → W pr l e rm_X2_readsWord s m args below meth c H locs 0 0 Q (F0 m 62 ls []) := by
      intro _ H locs ls h hP hS hl
      rw [eJ62] at h
      refine lv_aload_n X.1 X.2.1 dX2_readsWord_62 rfl (lv_at hl 0 rfl) ?_
      refine r_get (C := RX2) (T := TX2) (N := 2) (ci := 2) (v := .ref (a1 0)) X iw2 hP 0 rfl rfl 0 rfl mw_2_1 rfl dX2_readsWord_63 ?_
      obtain ⟨r_4, g1_4, hc_4, h⟩ := bd2_el h
      refine call_Vsi (ws := (wEv tc a0 g0 (a1 0) (a2 0) ++ (wTp tc a1 g1_2 ++ (wSt tc a2 g2 q2_18 q2_19)))) (ws' := (wEv tc a0 g0 (a1 0) (a2 0) ++ (wTp tc a1 g1_4 ++ (wSt tc a2 g2 q2_18 q2_19)))) (wEv tc a0 g0 (a1 0) (a2 0)) (wSt tc a2 g2 q2_18 q2_19) (As := []) (rest := []) X (c_X10_refuse l dC dI sk sv tc a1 g1_2 hc_4) mw_3_193 mw_3_194 mw_3_195 mw_1_2 mw_3_196 dc_X10_refuse ⟨Nat.le_of_ble_eq_true rfl, Nat.le_of_ble_eq_true rfl⟩ rfl rfl ⟨Nat.zero_le _, Nat.zero_le _⟩ (by simp only [List.append_assoc, List.nil_append, List.append_nil]) (by simp only [List.append_assoc, List.nil_append, List.append_nil]) hP (hD _ _ _) hS 0 rfl rfl rfl hl.1 (Nat.le_of_ble_eq_true rfl) dX2_readsWord_66 (fun H locs hP hS => ?_)
      obtain ⟨hg_5, h⟩ := gdb_el h
      exact ret_z (fun u => (wEv tc a0 g0 (a1 0) (a2 0) ++ (wTp tc a1 u.1 ++ (wSt tc a2 u.2 q2_18 q2_19)))) (res := (r0, G1, G2)) hg_5 (Option.some.inj h) X hQ hP hS dX2_readsWord_69
    refine lv_icmp_ne (tgt := 62) X.1 X.2.1 dX2_readsWord_53 (by decide) (fun hc => ?_) (fun hc => ?_)
    · have h := it_f hc h
      exact HJ62 () H locs ls h hP hS (lv_sub hl [2] rfl)
    · have h := it_t hc h
      refine lv_iload_n X.1 X.2.1 dX2_readsWord_56 rfl (lv_at hl 0 rfl) ?_
      refine lv_bipush (v := 6) X.1 X.2.1 dX2_readsWord_57 (by decide) ?_
      refine lv_icmp_le (tgt := 70) X.1 X.2.1 dX2_readsWord_59 (by decide) (fun hc => ?_) (fun hc => ?_)
      · have h := it_t hc h
        refine lv_iconst (v := 0) X.1 X.2.1 dX2_readsWord_70 (by decide) ?_
        refine lv_istore_n (lv' := [(3, .int 0), (2, .int x2_3), (1, .int x1_1), (0, .ref (a0 0))]) X.1 X.2.1 dX2_readsWord_71 rfl hl (by decide) rfl (fun ls hl => ?_)
        obtain ⟨ex_12, hL_12, h1_12, h2_12⟩ := lr_el h
        refine HL72 x1_1 x2_3 fu 0 g1_2 g2 ex_12 hL_12 (fun rv hq => h1_12 rv hq) H locs ls hP hS (lv_sub hl [3, 2, 1, 0] rfl) (fun g1_12 g2_12 he H locs ls hP hS hl => ?_)
        have h := h2_12 _ he.symm
        refine lv_aload_n X.1 X.2.1 dX2_readsWord_123 rfl (lv_at hl 0 rfl) ?_
        refine r_get (C := RX2) (T := TX2) (N := 2) (ci := 2) (v := .ref (a2 0)) X iw2 hP 0 rfl rfl 1 rfl mw_2_2 rfl dX2_readsWord_124 ?_
        refine r_get (C := RX9) (T := TX9) (N := 20) (ci := 9) (v := .ref (a2 3)) X iw9 hP 3 rfl rfl 2 rfl mw_1_116 rfl dX2_readsWord_127 ?_
        refine lv_iload_n X.1 X.2.1 dX2_readsWord_130 rfl (lv_at hl 1 rfl) ?_
        refine lv_iload_n X.1 X.2.1 dX2_readsWord_131 rfl (lv_at hl 2 rfl) ?_
        obtain ⟨hg_13, h⟩ := gdi_el h
        obtain ⟨g2_14, eg2_14, h⟩ := nm_el h
        refine r_iast X hP (hD _ _ _) hS 5 0 rfl rfl hg_13 rfl dX2_readsWord_132 (wEv tc a0 g0 (a1 0) (a2 0) ++ (wTp tc a1 g1_12 ++ (wSt tc a2 g2_14 q2_18 q2_19))) (by rw [eg2_14]; rfl) (fun H locs hP hS => ?_)
        refine lv_aload_n X.1 X.2.1 dX2_readsWord_133 rfl (lv_at hl 0 rfl) ?_
        refine r_get (C := RX2) (T := TX2) (N := 2) (ci := 2) (v := .ref (a1 0)) X iw2 hP 0 rfl rfl 0 rfl mw_2_1 rfl dX2_readsWord_134 ?_
        obtain ⟨g1_15, hc_15, h⟩ := bd_el h
        refine call_Vsv (ws := (wEv tc a0 g0 (a1 0) (a2 0) ++ (wTp tc a1 g1_12 ++ (wSt tc a2 g2_14 q2_18 q2_19)))) (ws' := (wEv tc a0 g0 (a1 0) (a2 0) ++ (wTp tc a1 g1_15 ++ (wSt tc a2 g2_14 q2_18 q2_19)))) (wEv tc a0 g0 (a1 0) (a2 0)) (wSt tc a2 g2_14 q2_18 q2_19) (As := []) (rest := []) X (c_X10_step l dC dI sk sv tc a1 g1_12 hc_15) mw_3_197 mw_3_129 mw_3_130 mw_1_2 mw_3_131 dc_X10_step ⟨Nat.le_of_ble_eq_true rfl, Nat.le_of_ble_eq_true rfl⟩ rfl rfl ⟨Nat.zero_le _, Nat.zero_le _⟩ (by simp only [List.append_assoc, List.nil_append, List.append_nil]) (by simp only [List.append_assoc, List.nil_append, List.append_nil]) hP (hD _ _ _) hS 0 rfl rfl rfl hl.1 (Nat.le_of_ble_eq_true rfl) dX2_readsWord_137 (fun H locs hP hS => ?_)
        refine lv_aload_n X.1 X.2.1 dX2_readsWord_140 rfl (lv_at hl 0 rfl) ?_
        refine r_get (C := RX2) (T := TX2) (N := 2) (ci := 2) (v := .ref (a1 0)) X iw2 hP 0 rfl rfl 0 rfl mw_2_1 rfl dX2_readsWord_141 ?_
        refine va_ldcS X.1 X.2.1 X.2.2.2.2.1 (X.2.2.2.2.2.2.2.2.2.2.2.2.2.1 ("PencilUp$EveningReader", 102, "often", 1) (List.mem_of_getElem? (i := 1) rfl)) dX2_readsWord_144 ?_
        obtain ⟨r_16, g1_16, hc_16, h⟩ := bd2_el h
        refine call_Vsi (ws := (wEv tc a0 g0 (a1 0) (a2 0) ++ (wTp tc a1 g1_15 ++ (wSt tc a2 g2_14 q2_18 q2_19)))) (ws' := (wEv tc a0 g0 (a1 0) (a2 0) ++ (wTp tc a1 g1_16 ++ (wSt tc a2 g2_14 q2_18 q2_19)))) (wEv tc a0 g0 (a1 0) (a2 0)) (wSt tc a2 g2_14 q2_18 q2_19) (As := [.ref (sk 1)]) (rest := []) X (c_X10_takesName l dC dI sk sv tc 1 a1 g1_15 hc_16 (by decide)) mw_3_203 mw_3_204 mw_3_205 mw_1_2 mw_3_206 dc_X10_takesName ⟨Nat.le_of_ble_eq_true rfl, Nat.le_of_ble_eq_true rfl⟩ rfl rfl ⟨Nat.zero_le _, Nat.zero_le _⟩ (by simp only [List.append_assoc, List.nil_append, List.append_nil]) (by simp only [List.append_assoc, List.nil_append, List.append_nil]) hP (hD _ _ _) hS 0 rfl rfl rfl hl.1 (Nat.le_of_ble_eq_true rfl) dX2_readsWord_146 (fun H locs hP hS => ?_)
        refine lv_if_ne (tgt := 160) X.1 X.2.1 dX2_readsWord_149 (by decide) (fun hc => ?_) (fun hc => ?_)
        · have h := it_f hc h
          refine lv_aload_n X.1 X.2.1 dX2_readsWord_160 rfl (lv_at hl 0 rfl) ?_
          refine r_get (C := RX2) (T := TX2) (N := 2) (ci := 2) (v := .ref (a2 0)) X iw2 hP 0 rfl rfl 1 rfl mw_2_2 rfl dX2_readsWord_161 ?_
          refine r_get (C := RX9) (T := TX9) (N := 20) (ci := 9) (v := .ref (a2 4)) X iw9 hP 3 rfl rfl 3 rfl mw_1_121 rfl dX2_readsWord_164 ?_
          refine lv_iload_n X.1 X.2.1 dX2_readsWord_167 rfl (lv_at hl 1 rfl) ?_
          refine lv_aload_n X.1 X.2.1 dX2_readsWord_168 rfl (lv_at hl 0 rfl) ?_
          refine r_get (C := RX2) (T := TX2) (N := 2) (ci := 2) (v := .ref (a1 0)) X iw2 hP 0 rfl rfl 0 rfl mw_2_1 rfl dX2_readsWord_169 ?_
          refine lv_iconst (v := 1) X.1 X.2.1 dX2_readsWord_172 (by decide) ?_
          refine lv_bipush (v := 99) X.1 X.2.1 dX2_readsWord_173 (by decide) ?_
          obtain ⟨r_17, g1_17, hc_17, h⟩ := bd2_el h
          refine call_Vsi (ws := (wEv tc a0 g0 (a1 0) (a2 0) ++ (wTp tc a1 g1_16 ++ (wSt tc a2 g2_14 q2_18 q2_19)))) (ws' := (wEv tc a0 g0 (a1 0) (a2 0) ++ (wTp tc a1 g1_17 ++ (wSt tc a2 g2_14 q2_18 q2_19)))) (wEv tc a0 g0 (a1 0) (a2 0)) (wSt tc a2 g2_14 q2_18 q2_19) (As := [.int 1, .int 99]) (rest := [.int x1_1, .ref (a2 4)]) X (c_X10_takeNumber l dC dI sk sv tc a1 g1_16 1 99 hc_17) mw_3_208 mw_3_209 mw_3_210 mw_1_2 mw_3_211 dc_X10_takeNumber ⟨Nat.le_of_ble_eq_true rfl, Nat.le_of_ble_eq_true rfl⟩ rfl rfl ⟨Nat.zero_le _, Nat.zero_le _⟩ (by simp only [List.append_assoc, List.nil_append, List.append_nil]) (by simp only [List.append_assoc, List.nil_append, List.append_nil]) hP (hD _ _ _) hS 0 rfl rfl rfl hl.1 (Nat.le_of_ble_eq_true rfl) dX2_readsWord_175 (fun H locs hP hS => ?_)
          obtain ⟨hg_18, h⟩ := gdi_el h
          obtain ⟨g2_19, eg2_19, h⟩ := nm_el h
          refine r_iast X hP (hD _ _ _) hS 6 0 rfl rfl hg_18 rfl dX2_readsWord_178 (wEv tc a0 g0 (a1 0) (a2 0) ++ (wTp tc a1 g1_17 ++ (wSt tc a2 g2_19 q2_18 q2_19))) (by rw [eg2_19]; rfl) (fun H locs hP hS => ?_)
          refine lv_aload_n X.1 X.2.1 dX2_readsWord_179 rfl (lv_at hl 0 rfl) ?_
          refine r_get (C := RX2) (T := TX2) (N := 2) (ci := 2) (v := .ref (a2 0)) X iw2 hP 0 rfl rfl 1 rfl mw_2_2 rfl dX2_readsWord_180 ?_
          refine lv_dup X.1 X.2.1 dX2_readsWord_183 rfl ?_
          refine r_get (C := RX9) (T := TX9) (N := 20) (ci := 9) (v := .int (g2_19 0 0)) X iw9 hP 3 rfl rfl 0 rfl mw_1_106 rfl dX2_readsWord_184 ?_
          refine lv_iconst (v := 1) X.1 X.2.1 dX2_readsWord_187 (by decide) ?_
          refine lv_iadd X.1 X.2.1 dX2_readsWord_188 ?_
          obtain ⟨g2_20, eg2_20, h⟩ := nm_el h
          refine r_put (C := RX9) (T := TX9) (N := 20) (ci := 9) tyX9 tyX9_ok nmX9 X iw9 hP (hD _ _ _) hS 3 rfl rfl 0 rfl mw_1_106 rfl rfl rfl rfl dX2_readsWord_189 (wEv tc a0 g0 (a1 0) (a2 0) ++ (wTp tc a1 g1_17 ++ (wSt tc a2 g2_20 q2_18 q2_19))) (by rw [eg2_20]; rfl) (fun H locs hP hS => ?_)
          refine lv_aload_n X.1 X.2.1 dX2_readsWord_192 rfl (lv_at hl 0 rfl) ?_
          refine r_get (C := RX2) (T := TX2) (N := 2) (ci := 2) (v := .ref (a2 0)) X iw2 hP 0 rfl rfl 1 rfl mw_2_2 rfl dX2_readsWord_193 ?_
          refine r_get (C := RX9) (T := TX9) (N := 20) (ci := 9) (v := .ref (a2 4)) X iw9 hP 3 rfl rfl 3 rfl mw_1_121 rfl dX2_readsWord_196 ?_
          refine lv_iload_n X.1 X.2.1 dX2_readsWord_199 rfl (lv_at hl 1 rfl) ?_
          obtain ⟨hg_21, h⟩ := gdi_el h
          refine r_iald X hP 6 0 rfl rfl hg_21 rfl dX2_readsWord_200 ?_
          refine lv_iconst (v := (-1)) X.1 X.2.1 dX2_readsWord_201 (by decide) ?_
          obtain ⟨J210, eJ210, h⟩ := jn_el h
          have HJ210 : ∀ (s0_J210 : Int32) (H : Heap) (locs : List Loc) (ls : Array Slot), J210 s0_J210 = some (r0, G1, G2) → va_P (dC, dI) vwCl (wEv tc a0 g0 (a1 0) (a2 0) ++ (wTp tc a1 g1_17 ++ (wSt tc a2 g2_20 q2_18 q2_19))) H → va_S A s.heap H locs → lv_has ls 5 [] → W pr l e rm_X2_readsWord s m args below meth c H locs 0 0 Q (F0 m 210 ls [.int s0_J210]) := by
            intro s0_J210 H locs ls h hP hS hl
            rw [eJ210] at h
            obtain ⟨hg_22, h⟩ := gdb_el h
            exact ret_z (fun u => (wEv tc a0 g0 (a1 0) (a2 0) ++ (wTp tc a1 u.1 ++ (wSt tc a2 u.2 q2_18 q2_19)))) (res := (r0, G1, G2)) hg_22 (Option.some.inj h) X hQ hP hS dX2_readsWord_210
          refine lv_icmp_eq (tgt := 209) X.1 X.2.1 dX2_readsWord_202 (by decide) (fun hc => ?_) (fun hc => ?_)
          · have h := it_t hc h
            refine lv_iconst (v := 0) X.1 X.2.1 dX2_readsWord_209 (by decide) ?_
            exact HJ210 0 H locs ls h hP hS (lv_sub hl [] rfl)
          · have h := it_f hc h
            refine lv_iconst (v := 1) X.1 X.2.1 dX2_readsWord_205 (by decide) ?_
            refine lv_goto (tgt := 210) X.1 X.2.1 dX2_readsWord_206 (by decide) ?_
            exact HJ210 1 H locs ls h hP hS (lv_sub hl [] rfl)
        · have h := it_t hc h
          refine lv_aload_n X.1 X.2.1 dX2_readsWord_152 rfl (lv_at hl 0 rfl) ?_
          refine r_get (C := RX2) (T := TX2) (N := 2) (ci := 2) (v := .ref (a1 0)) X iw2 hP 0 rfl rfl 0 rfl mw_2_1 rfl dX2_readsWord_153 ?_
          obtain ⟨r_23, g1_23, hc_23, h⟩ := bd2_el h
          refine call_Vsi (ws := (wEv tc a0 g0 (a1 0) (a2 0) ++ (wTp tc a1 g1_16 ++ (wSt tc a2 g2_14 q2_18 q2_19)))) (ws' := (wEv tc a0 g0 (a1 0) (a2 0) ++ (wTp tc a1 g1_23 ++ (wSt tc a2 g2_14 q2_18 q2_19)))) (wEv tc a0 g0 (a1 0) (a2 0)) (wSt tc a2 g2_14 q2_18 q2_19) (As := []) (rest := []) X (c_X10_refuse l dC dI sk sv tc a1 g1_16 hc_23) mw_3_193 mw_3_194 mw_3_195 mw_1_2 mw_3_196 dc_X10_refuse ⟨Nat.le_of_ble_eq_true rfl, Nat.le_of_ble_eq_true rfl⟩ rfl rfl ⟨Nat.zero_le _, Nat.zero_le _⟩ (by simp only [List.append_assoc, List.nil_append, List.append_nil]) (by simp only [List.append_assoc, List.nil_append, List.append_nil]) hP (hD _ _ _) hS 0 rfl rfl rfl hl.1 (Nat.le_of_ble_eq_true rfl) dX2_readsWord_156 (fun H locs hP hS => ?_)
          obtain ⟨hg_24, h⟩ := gdb_el h
          exact ret_z (fun u => (wEv tc a0 g0 (a1 0) (a2 0) ++ (wTp tc a1 u.1 ++ (wSt tc a2 u.2 q2_18 q2_19)))) (res := (r0, G1, G2)) hg_24 (Option.some.inj h) X hQ hP hS dX2_readsWord_159
      · have h := it_f hc h
        exact HJ62 () H locs ls h hP hS (lv_sub hl [2] rfl)
  · have h := it_f hc h
    refine lv_aload_n X.1 X.2.1 dX2_readsWord_14 rfl (lv_at hl 1 rfl) ?_
    refine r_get (C := RX2) (T := TX2) (N := 2) (ci := 2) (v := .ref (a1 0)) X iw2 hP 0 rfl rfl 0 rfl mw_2_1 rfl dX2_readsWord_15 ?_
    obtain ⟨r_25, g1_25, hc_25, h⟩ := bd2_el h
    refine call_Vsi (ws := (wEv tc a0 g0 (a1 0) (a2 0) ++ (wTp tc a1 g1 ++ (wSt tc a2 g2 q2_18 q2_19)))) (ws' := (wEv tc a0 g0 (a1 0) (a2 0) ++ (wTp tc a1 g1_25 ++ (wSt tc a2 g2 q2_18 q2_19)))) (wEv tc a0 g0 (a1 0) (a2 0)) (wSt tc a2 g2 q2_18 q2_19) (As := []) (rest := []) X (c_X10_refuse l dC dI sk sv tc a1 g1 hc_25) mw_3_193 mw_3_194 mw_3_195 mw_1_2 mw_3_196 dc_X10_refuse ⟨Nat.le_of_ble_eq_true rfl, Nat.le_of_ble_eq_true rfl⟩ rfl rfl ⟨Nat.zero_le _, Nat.zero_le _⟩ (by simp only [List.append_assoc, List.nil_append, List.append_nil]) (by simp only [List.append_assoc, List.nil_append, List.append_nil]) hP (hD _ _ _) hS 0 rfl rfl rfl hl.1 (Nat.le_of_ble_eq_true rfl) dX2_readsWord_18 (fun H locs hP hS => ?_)
    obtain ⟨hg_26, h⟩ := gdb_el h
    exact ret_z (fun u => (wEv tc a0 g0 (a1 0) (a2 0) ++ (wTp tc a1 u.1 ++ (wSt tc a2 u.2 q2_18 q2_19)))) (res := (r0, G1, G2)) hg_26 (Option.some.inj h) X hQ hP hS dX2_readsWord_21

def f_X2_addWriter_L57 (x5 : Int32) (g0 : Pic) (g1 : Pic) (n : Nat) (a : Int32 × Pic) : Option (Pic) := lp (fun (rec : Int32 × Pic → Option (Pic)) (a : Int32 × Pic) => match a with | (x6, g2) => (if 20 ≤ x6 then some g2 else gdi ((x5 * 20) + x6) 100 (nm (pu g2 12 (((x5 * 20) + x6).toNatClampNeg) 0) (fun g2_11 => nm (x6 + 1) (fun x6_12 => rec (x6_12, g2_11)))))) n a
def f_X2_addWriter (g0 : Pic) (g1 : Pic) (g2 : Pic) (x1 : Int32) (x2 : Int32) (x3 : Int32) (x4 : Int32) : Option (Pic) := nm ((g2 7 0)) (fun x5_1 => gdi x5_1 5 (nm (pu g2 9 (x5_1.toNatClampNeg) x1) (fun g2_3 => gdi x5_1 5 (nm (pu g2_3 10 (x5_1.toNatClampNeg) x2) (fun g2_5 => gdi x5_1 5 (nm (pu g2_5 11 (x5_1.toNatClampNeg) x3) (fun g2_7 => gdi x5_1 5 (nm (pu g2_7 8 (x5_1.toNatClampNeg) x4) (fun g2_9 => bd (f_X2_addWriter_L57 x5_1 g0 g1 fu (0, g2_9)) (fun g2_13 => nm (pu g2_13 7 0 ((g2_13 7 0) + 1)) (fun g2_14 => some g2_14)))))))))))
abbrev rm_X2_addWriter : Room := { frames := 0, cells := 0, slots := 0, locals := 0 }
set_option maxHeartbeats 4000000 in
set_option maxRecDepth 100000 in
theorem c_X2_addWriter (l : Launch) (dC : Nat → ClassId) (dI : Nat → Nat → Nat) (sk sv : Nat → Nat) (tc : Nat → ClassId) (a0 : Nat → Nat) (a1 : Nat → Nat) (a2 : Nat → Nat) (q2_18 : Option Nat) (q2_19 : Nat) (g0 : Pic) (g1 : Pic) (g2 : Pic) (x1 : Int32) (x2 : Int32) (x3 : Int32) (x4 : Int32) {G2 : Pic} (h : f_X2_addWriter g0 g1 g2 x1 x2 x3 x4 = some G2) : CT l (dC, dI) sk sv (TY tc) yX2_addWriter cX2_addWriter 7 none rm_X2_addWriter [.ref (a0 0), .int x1, .int x2, .int x3, .int x4] (wEv tc a0 g0 (a1 0) (a2 0) ++ (wTp tc a1 g1 ++ (wSt tc a2 g2 q2_18 q2_19))) none (wEv tc a0 g0 (a1 0) (a2 0) ++ (wTp tc a1 g1 ++ (wSt tc a2 G2 q2_18 q2_19))) := by
  refine ofCT (by decide) (Nat.le_of_ble_eq_true rfl) ?_
  intro pr e s m args below meth c A Q ls H locs X hQ hD0 hP hS hl
  have hD : ∀ z0 z1 z2, va_D A (wEv tc a0 z0 (a1 0) (a2 0) ++ (wTp tc a1 z1 ++ (wSt tc a2 z2 q2_18 q2_19))) := fun z0 z1 z2 => D_fst (ws := (wEv tc a0 g0 (a1 0) (a2 0) ++ (wTp tc a1 g1 ++ (wSt tc a2 g2 q2_18 q2_19)))) rfl hD0
  have hl : lv_has ls 7 [(0, .ref (a0 0)), (1, .int x1), (2, .int x2), (3, .int x3), (4, .int x4)] := hl
  have HL57 : ∀ (x5 : Int32) (n : Nat) (x6 : Int32) (g2 : Pic) (ex : (Pic)), f_X2_addWriter_L57 x5 g0 g1 n (x6, g2) = some ex → ∀ (H : Heap) (locs : List Loc) (ls : Array Slot), va_P (dC, dI) vwCl (wEv tc a0 g0 (a1 0) (a2 0) ++ (wTp tc a1 g1 ++ (wSt tc a2 g2 q2_18 q2_19))) H → va_S A s.heap H locs → lv_has ls 7 [(0, .ref (a0 0)), (5, .int x5), (6, .int x6)] → (∀ (k2 : Pic), k2 = ex → ∀ (H : Heap) (locs : List Loc) (ls : Array Slot), va_P (dC, dI) vwCl (wEv tc a0 g0 (a1 0) (a2 0) ++ (wTp tc a1 g1 ++ (wSt tc a2 k2 q2_18 q2_19))) H → va_S A s.heap H locs → lv_has ls 7 [(0, .ref (a0 0))] → W pr l e rm_X2_addWriter s m args below meth c H locs 0 0 Q (F0 m 87 ls [])) → W pr l e rm_X2_addWriter s m args below meth c H locs 0 0 Q (F0 m 57 ls []) := by
    intro x5 n
    induction n with
    | zero => intro x6 g2 ex h; exact lp_z h
    | succ n ih =>
      intro x6 g2 ex h H locs ls hP hS hl K
      have h := lp_s h
      refine lv_iload X.1 X.2.1 dX2_addWriter_57 (lv_at hl 2 rfl) ?_
      refine lv_bipush (v := 20) X.1 X.2.1 dX2_addWriter_59 (by decide) ?_
      refine lv_icmp_ge (tgt := 87) X.1 X.2.1 dX2_addWriter_61 (by decide) (fun hc => ?_) (fun hc => ?_)
      · have h := it_t hc h
        exact K g2 (Option.some.inj h) H locs ls hP hS (lv_sub hl [0] rfl)
      · have h := it_f hc h
        refine lv_aload_n X.1 X.2.1 dX2_addWriter_64 rfl (lv_at hl 0 rfl) ?_
        refine r_get (C := RX2) (T := TX2) (N := 2) (ci := 2) (v := .ref (a2 0)) X iw2 hP 0 rfl rfl 1 rfl mw_2_2 rfl dX2_addWriter_65 ?_
        refine r_get (C := RX9) (T := TX9) (N := 20) (ci := 9) (v := .ref (a2 13)) X iw9 hP 3 rfl rfl 12 rfl mw_1_170 rfl dX2_addWriter_68 ?_
        refine lv_iload X.1 X.2.1 dX2_addWriter_71 (lv_at hl 1 rfl) ?_
        refine lv_bipush (v := 20) X.1 X.2.1 dX2_addWriter_73 (by decide) ?_
        refine lv_imul X.1 X.2.1 dX2_addWriter_75 ?_
        refine lv_iload X.1 X.2.1 dX2_addWriter_76 (lv_at hl 2 rfl) ?_
        refine lv_iadd X.1 X.2.1 dX2_addWriter_78 ?_
        refine lv_iconst (v := 0) X.1 X.2.1 dX2_addWriter_79 (by decide) ?_
        obtain ⟨hg_10, h⟩ := gdi_el h
        obtain ⟨g2_11, eg2_11, h⟩ := nm_el h
        refine r_iast X hP (hD _ _ _) hS 12 0 rfl rfl hg_10 rfl dX2_addWriter_80 (wEv tc a0 g0 (a1 0) (a2 0) ++ (wTp tc a1 g1 ++ (wSt tc a2 g2_11 q2_18 q2_19))) (by rw [eg2_11]; rfl) (fun H locs hP hS => ?_)
        obtain ⟨x6_12, ex6_12, h⟩ := nm_el h
        refine lv_iinc (v := x6_12) (lv' := [(6, .int x6_12), (0, .ref (a0 0)), (5, .int x5)]) X.1 X.2.1 dX2_addWriter_81 hl (k := 2) rfl (by rw [ex6_12]; rfl) (by decide) rfl (fun ls hl => ?_)
        refine lv_goto (tgt := 57) X.1 X.2.1 dX2_addWriter_84 (by decide) ?_
        exact ih x6_12 g2_11 ex h H locs ls hP hS (lv_sub hl [1, 2, 0] rfl) K
  unfold f_X2_addWriter at h
  refine lv_aload_n X.1 X.2.1 dX2_addWriter_0 rfl (lv_at hl 0 rfl) ?_
  refine r_get (C := RX2) (T := TX2) (N := 2) (ci := 2) (v := .ref (a2 0)) X iw2 hP 0 rfl rfl 1 rfl mw_2_2 rfl dX2_addWriter_1 ?_
  refine r_get (C := RX9) (T := TX9) (N := 20) (ci := 9) (v := .int (g2 7 0)) X iw9 hP 3 rfl rfl 7 rfl mw_1_143 rfl dX2_addWriter_4 ?_
  obtain ⟨x5_1, ex5_1, h⟩ := nm_el h
  refine tp_i ex5_1 ?_
  refine lv_istore (lv' := [(5, .int x5_1), (0, .ref (a0 0)), (1, .int x1), (2, .int x2), (3, .int x3), (4, .int x4)]) X.1 X.2.1 dX2_addWriter_7 hl (by decide) rfl (fun ls hl => ?_)
  refine lv_aload_n X.1 X.2.1 dX2_addWriter_9 rfl (lv_at hl 1 rfl) ?_
  refine r_get (C := RX2) (T := TX2) (N := 2) (ci := 2) (v := .ref (a2 0)) X iw2 hP 0 rfl rfl 1 rfl mw_2_2 rfl dX2_addWriter_10 ?_
  refine r_get (C := RX9) (T := TX9) (N := 20) (ci := 9) (v := .ref (a2 10)) X iw9 hP 3 rfl rfl 9 rfl mw_1_155 rfl dX2_addWriter_13 ?_
  refine lv_iload X.1 X.2.1 dX2_addWriter_16 (lv_at hl 0 rfl) ?_
  refine lv_iload_n X.1 X.2.1 dX2_addWriter_18 rfl (lv_at hl 2 rfl) ?_
  obtain ⟨hg_2, h⟩ := gdi_el h
  obtain ⟨g2_3, eg2_3, h⟩ := nm_el h
  refine r_iast X hP (hD _ _ _) hS 9 0 rfl rfl hg_2 rfl dX2_addWriter_19 (wEv tc a0 g0 (a1 0) (a2 0) ++ (wTp tc a1 g1 ++ (wSt tc a2 g2_3 q2_18 q2_19))) (by rw [eg2_3]; rfl) (fun H locs hP hS => ?_)
  refine lv_aload_n X.1 X.2.1 dX2_addWriter_20 rfl (lv_at hl 1 rfl) ?_
  refine r_get (C := RX2) (T := TX2) (N := 2) (ci := 2) (v := .ref (a2 0)) X iw2 hP 0 rfl rfl 1 rfl mw_2_2 rfl dX2_addWriter_21 ?_
  refine r_get (C := RX9) (T := TX9) (N := 20) (ci := 9) (v := .ref (a2 11)) X iw9 hP 3 rfl rfl 10 rfl mw_1_159 rfl dX2_addWriter_24 ?_
  refine lv_iload X.1 X.2.1 dX2_addWriter_27 (lv_at hl 0 rfl) ?_
  refine lv_iload_n X.1 X.2.1 dX2_addWriter_29 rfl (lv_at hl 3 rfl) ?_
  obtain ⟨hg_4, h⟩ := gdi_el h
  obtain ⟨g2_5, eg2_5, h⟩ := nm_el h
  refine r_iast X hP (hD _ _ _) hS 10 0 rfl rfl hg_4 rfl dX2_addWriter_30 (wEv tc a0 g0 (a1 0) (a2 0) ++ (wTp tc a1 g1 ++ (wSt tc a2 g2_5 q2_18 q2_19))) (by rw [eg2_5]; rfl) (fun H locs hP hS => ?_)
  refine lv_aload_n X.1 X.2.1 dX2_addWriter_31 rfl (lv_at hl 1 rfl) ?_
  refine r_get (C := RX2) (T := TX2) (N := 2) (ci := 2) (v := .ref (a2 0)) X iw2 hP 0 rfl rfl 1 rfl mw_2_2 rfl dX2_addWriter_32 ?_
  refine r_get (C := RX9) (T := TX9) (N := 20) (ci := 9) (v := .ref (a2 12)) X iw9 hP 3 rfl rfl 11 rfl mw_1_165 rfl dX2_addWriter_35 ?_
  refine lv_iload X.1 X.2.1 dX2_addWriter_38 (lv_at hl 0 rfl) ?_
  refine lv_iload_n X.1 X.2.1 dX2_addWriter_40 rfl (lv_at hl 4 rfl) ?_
  obtain ⟨hg_6, h⟩ := gdi_el h
  obtain ⟨g2_7, eg2_7, h⟩ := nm_el h
  refine r_iast X hP (hD _ _ _) hS 11 0 rfl rfl hg_6 rfl dX2_addWriter_41 (wEv tc a0 g0 (a1 0) (a2 0) ++ (wTp tc a1 g1 ++ (wSt tc a2 g2_7 q2_18 q2_19))) (by rw [eg2_7]; rfl) (fun H locs hP hS => ?_)
  refine lv_aload_n X.1 X.2.1 dX2_addWriter_42 rfl (lv_at hl 1 rfl) ?_
  refine r_get (C := RX2) (T := TX2) (N := 2) (ci := 2) (v := .ref (a2 0)) X iw2 hP 0 rfl rfl 1 rfl mw_2_2 rfl dX2_addWriter_43 ?_
  refine r_get (C := RX9) (T := TX9) (N := 20) (ci := 9) (v := .ref (a2 9)) X iw9 hP 3 rfl rfl 8 rfl mw_1_149 rfl dX2_addWriter_46 ?_
  refine lv_iload X.1 X.2.1 dX2_addWriter_49 (lv_at hl 0 rfl) ?_
  refine lv_iload X.1 X.2.1 dX2_addWriter_51 (lv_at hl 5 rfl) ?_
  obtain ⟨hg_8, h⟩ := gdi_el h
  obtain ⟨g2_9, eg2_9, h⟩ := nm_el h
  refine r_iast X hP (hD _ _ _) hS 8 0 rfl rfl hg_8 rfl dX2_addWriter_53 (wEv tc a0 g0 (a1 0) (a2 0) ++ (wTp tc a1 g1 ++ (wSt tc a2 g2_9 q2_18 q2_19))) (by rw [eg2_9]; rfl) (fun H locs hP hS => ?_)
  refine lv_iconst (v := 0) X.1 X.2.1 dX2_addWriter_54 (by decide) ?_
  refine lv_istore (lv' := [(6, .int 0), (5, .int x5_1), (0, .ref (a0 0)), (1, .int x1), (2, .int x2), (3, .int x3), (4, .int x4)]) X.1 X.2.1 dX2_addWriter_55 hl (by decide) rfl (fun ls hl => ?_)
  obtain ⟨ex_13, hL_13, h⟩ := bd_el h
  refine HL57 x5_1 fu 0 g2_9 ex_13 hL_13 H locs ls hP hS (lv_sub hl [2, 1, 0] rfl) (fun g2_13 he H locs ls hP hS hl => ?_)
  subst he
  refine lv_aload_n X.1 X.2.1 dX2_addWriter_87 rfl (lv_at hl 0 rfl) ?_
  refine r_get (C := RX2) (T := TX2) (N := 2) (ci := 2) (v := .ref (a2 0)) X iw2 hP 0 rfl rfl 1 rfl mw_2_2 rfl dX2_addWriter_88 ?_
  refine lv_dup X.1 X.2.1 dX2_addWriter_91 rfl ?_
  refine r_get (C := RX9) (T := TX9) (N := 20) (ci := 9) (v := .int (g2_13 7 0)) X iw9 hP 3 rfl rfl 7 rfl mw_1_143 rfl dX2_addWriter_92 ?_
  refine lv_iconst (v := 1) X.1 X.2.1 dX2_addWriter_95 (by decide) ?_
  refine lv_iadd X.1 X.2.1 dX2_addWriter_96 ?_
  obtain ⟨g2_14, eg2_14, h⟩ := nm_el h
  refine r_put (C := RX9) (T := TX9) (N := 20) (ci := 9) tyX9 tyX9_ok nmX9 X iw9 hP (hD _ _ _) hS 3 rfl rfl 7 rfl mw_1_143 rfl rfl rfl rfl dX2_addWriter_97 (wEv tc a0 g0 (a1 0) (a2 0) ++ (wTp tc a1 g1 ++ (wSt tc a2 g2_14 q2_18 q2_19))) (by rw [eg2_14]; rfl) (fun H locs hP hS => ?_)
  exact ret_v (fun u => (wEv tc a0 g0 (a1 0) (a2 0) ++ (wTp tc a1 g1 ++ (wSt tc a2 u q2_18 q2_19)))) (res := G2) (Option.some.inj h) X hQ hP hS dX2_addWriter_100

def f_X2_takeLetterSet_L25 (g0 : Pic) (g2 : Pic) (n : Nat) (a : Int32 × Int32 × Pic) : Option ((Int32 × Pic) ⊕ (Int32 × Pic)) := lp (fun (rec : Int32 × Int32 × Pic → Option ((Int32 × Pic) ⊕ (Int32 × Pic))) (a : Int32 × Int32 × Pic) => match a with | (x1, x2, g1) => (if ((g1 5 0) - (g1 4 0)) ≤ x2 then some (.inr (x1, g1)) else bd (f_X10_letterOfName g1 x2) (fun r_1 => jn (fun (_ : Unit) => bd2 (f_X10_refuse g1) (fun r_2 g1_2 => some (.inl ((-1), g1_2)))) (fun J67 => (if r_1 = (-1) then J67 () else (if ((x1 >>> (r_1 &&& 31)) &&& 1) = 1 then J67 () else nm ((x1 ||| ((1 : Int32) <<< (r_1 &&& 31)))) (fun x1_3 => nm (x2 + 1) (fun x2_4 => rec (x1_3, x2_4, g1))))))))) n a
def f_X2_takeLetterSet (g0 : Pic) (g1 : Pic) (g2 : Pic) : Option (Int32 × Pic) := (if (g1 3 0) = 1 then lr (f_X2_takeLetterSet_L25 g0 g2 fu (0, 0, g1)) (fun a => a) (fun (x1_5, g1_5) => bd (f_X10_step g1_5) (fun g1_6 => some (x1_5, g1_6))) else bd2 (f_X10_refuse g1) (fun r_7 g1_7 => some ((-1), g1_7)))
abbrev rm_X2_takeLetterSet : Room := { frames := 1, cells := 0, slots := 0, locals := 22 }
set_option maxHeartbeats 4000000 in
set_option maxRecDepth 100000 in
theorem c_X2_takeLetterSet (l : Launch) (dC : Nat → ClassId) (dI : Nat → Nat → Nat) (sk sv : Nat → Nat) (tc : Nat → ClassId) (a0 : Nat → Nat) (a1 : Nat → Nat) (a2 : Nat → Nat) (q2_18 : Option Nat) (q2_19 : Nat) (g0 : Pic) (g1 : Pic) (g2 : Pic) {r0 : Int32} {G1 : Pic} (h : f_X2_takeLetterSet g0 g1 g2 = some (r0, G1)) : CT l (dC, dI) sk sv (TY tc) yX2_takeLetterSet cX2_takeLetterSet 4 (some .int) rm_X2_takeLetterSet [.ref (a0 0)] (wEv tc a0 g0 (a1 0) (a2 0) ++ (wTp tc a1 g1 ++ (wSt tc a2 g2 q2_18 q2_19))) (some (.int r0)) (wEv tc a0 g0 (a1 0) (a2 0) ++ (wTp tc a1 G1 ++ (wSt tc a2 g2 q2_18 q2_19))) := by
  refine ofCT (by decide) (Nat.le_of_ble_eq_true rfl) ?_
  intro pr e s m args below meth c A Q ls H locs X hQ hD0 hP hS hl
  have hD : ∀ z0 z1 z2, va_D A (wEv tc a0 z0 (a1 0) (a2 0) ++ (wTp tc a1 z1 ++ (wSt tc a2 z2 q2_18 q2_19))) := fun z0 z1 z2 => D_fst (ws := (wEv tc a0 g0 (a1 0) (a2 0) ++ (wTp tc a1 g1 ++ (wSt tc a2 g2 q2_18 q2_19)))) rfl hD0
  have hl : lv_has ls 4 [(0, .ref (a0 0))] := hl
  have HL25 : ∀ (n : Nat) (x1 : Int32) (x2 : Int32) (g1 : Pic) (ex : ((Int32 × Pic) ⊕ (Int32 × Pic))), f_X2_takeLetterSet_L25 g0 g2 n (x1, x2, g1) = some ex → (∀ rv, ex = .inl rv → rv = (r0, G1)) → ∀ (H : Heap) (locs : List Loc) (ls : Array Slot), va_P (dC, dI) vwCl (wEv tc a0 g0 (a1 0) (a2 0) ++ (wTp tc a1 g1 ++ (wSt tc a2 g2 q2_18 q2_19))) H → va_S A s.heap H locs → lv_has ls 4 [(0, .ref (a0 0)), (1, .int x1), (2, .int x2)] → (∀ (y1 : Int32) (k1 : Pic), .inr (y1, k1) = ex → ∀ (H : Heap) (locs : List Loc) (ls : Array Slot), va_P (dC, dI) vwCl (wEv tc a0 g0 (a1 0) (a2 0) ++ (wTp tc a1 k1 ++ (wSt tc a2 g2 q2_18 q2_19))) H → va_S A s.heap H locs → lv_has ls 4 [(0, .ref (a0 0)), (1, .int y1)] → W pr l e rm_X2_takeLetterSet s m args below meth c H locs 0 0 Q (F0 m 89 ls [])) → W pr l e rm_X2_takeLetterSet s m args below meth c H locs 0 0 Q (F0 m 25 ls []) := by
    intro n
    induction n with
    | zero => intro x1 x2 g1 ex h; exact lp_z h
    | succ n ih =>
      intro x1 x2 g1 ex h hR H locs ls hP hS hl K
      have h := lp_s h
      refine lv_iload_n X.1 X.2.1 dX2_takeLetterSet_25 rfl (lv_at hl 2 rfl) ?_
      refine lv_aload_n X.1 X.2.1 dX2_takeLetterSet_26 rfl (lv_at hl 0 rfl) ?_
      refine r_get (C := RX2) (T := TX2) (N := 2) (ci := 2) (v := .ref (a1 0)) X iw2 hP 0 rfl rfl 0 rfl mw_2_1 rfl dX2_takeLetterSet_27 ?_
      refine r_get (C := RX10) (T := TX10) (N := 8) (ci := 10) (v := .int (g1 5 0)) X iw10 hP 1 rfl rfl 5 rfl mw_1_56 rfl dX2_takeLetterSet_30 ?_
      refine lv_aload_n X.1 X.2.1 dX2_takeLetterSet_33 rfl (lv_at hl 0 rfl) ?_
      refine r_get (C := RX2) (T := TX2) (N := 2) (ci := 2) (v := .ref (a1 0)) X iw2 hP 0 rfl rfl 0 rfl mw_2_1 rfl dX2_takeLetterSet_34 ?_
      refine r_get (C := RX10) (T := TX10) (N := 8) (ci := 10) (v := .int (g1 4 0)) X iw10 hP 1 rfl rfl 4 rfl mw_1_54 rfl dX2_takeLetterSet_37 ?_
      refine lv_isub X.1 X.2.1 dX2_takeLetterSet_40 ?_
      refine lv_icmp_ge (tgt := 89) X.1 X.2.1 dX2_takeLetterSet_41 (by decide) (fun hc => ?_) (fun hc => ?_)
      · have h := it_t hc h
        exact K x1 g1 (Option.some.inj h) H locs ls hP hS (lv_sub hl [0, 1] rfl)
      · have h := it_f hc h
        refine lv_aload_n X.1 X.2.1 dX2_takeLetterSet_44 rfl (lv_at hl 0 rfl) ?_
        refine r_get (C := RX2) (T := TX2) (N := 2) (ci := 2) (v := .ref (a1 0)) X iw2 hP 0 rfl rfl 0 rfl mw_2_1 rfl dX2_takeLetterSet_45 ?_
        refine lv_iload_n X.1 X.2.1 dX2_takeLetterSet_48 rfl (lv_at hl 2 rfl) ?_
        obtain ⟨r_1, hc_1, h⟩ := bd_el h
        refine call_Vsi (ws := (wEv tc a0 g0 (a1 0) (a2 0) ++ (wTp tc a1 g1 ++ (wSt tc a2 g2 q2_18 q2_19)))) (ws' := (wEv tc a0 g0 (a1 0) (a2 0) ++ (wTp tc a1 g1 ++ (wSt tc a2 g2 q2_18 q2_19)))) (wEv tc a0 g0 (a1 0) (a2 0)) (wSt tc a2 g2 q2_18 q2_19) (As := [.int x2]) (rest := []) X (c_X10_letterOfName l dC dI sk sv tc a1 g1 x2 hc_1) mw_3_198 mw_3_199 mw_3_200 mw_1_2 mw_3_201 dc_X10_letterOfName ⟨Nat.le_of_ble_eq_true rfl, Nat.le_of_ble_eq_true rfl⟩ rfl rfl ⟨Nat.zero_le _, Nat.zero_le _⟩ (by simp only [List.append_assoc, List.nil_append, List.append_nil]) (by simp only [List.append_assoc, List.nil_append, List.append_nil]) hP (hD _ _ _) hS 0 rfl rfl rfl hl.1 (Nat.le_of_ble_eq_true rfl) dX2_takeLetterSet_49 (fun H locs hP hS => ?_)
        refine lv_istore_n (lv' := [(3, .int r_1), (0, .ref (a0 0)), (1, .int x1), (2, .int x2)]) X.1 X.2.1 dX2_takeLetterSet_52 rfl hl (by decide) rfl (fun ls hl => ?_)
        refine lv_iload_n X.1 X.2.1 dX2_takeLetterSet_53 rfl (lv_at hl 0 rfl) ?_
        refine lv_iconst (v := (-1)) X.1 X.2.1 dX2_takeLetterSet_54 (by decide) ?_
        obtain ⟨J67, eJ67, h⟩ := jn_el h
        have HJ67 : ∀ (_ : Unit) (H : Heap) (locs : List Loc) (ls : Array Slot), J67 () = some ex → va_P (dC, dI) vwCl (wEv tc a0 g0 (a1 0) (a2 0) ++ (wTp tc a1 g1 ++ (wSt tc a2 g2 q2_18 q2_19))) H → va_S A s.heap H locs → lv_has ls 4 [(0, .ref (a0 0))] → W pr l e rm_X2_takeLetterSet s m args below meth c H locs 0 0 Q (F0 m 67 ls []) := by
          intro _ H locs ls h hP hS hl
          rw [eJ67] at h
          refine lv_aload_n X.1 X.2.1 dX2_takeLetterSet_67 rfl (lv_at hl 0 rfl) ?_
          refine r_get (C := RX2) (T := TX2) (N := 2) (ci := 2) (v := .ref (a1 0)) X iw2 hP 0 rfl rfl 0 rfl mw_2_1 rfl dX2_takeLetterSet_68 ?_
          obtain ⟨r_2, g1_2, hc_2, h⟩ := bd2_el h
          refine call_Vsi (ws := (wEv tc a0 g0 (a1 0) (a2 0) ++ (wTp tc a1 g1 ++ (wSt tc a2 g2 q2_18 q2_19)))) (ws' := (wEv tc a0 g0 (a1 0) (a2 0) ++ (wTp tc a1 g1_2 ++ (wSt tc a2 g2 q2_18 q2_19)))) (wEv tc a0 g0 (a1 0) (a2 0)) (wSt tc a2 g2 q2_18 q2_19) (As := []) (rest := []) X (c_X10_refuse l dC dI sk sv tc a1 g1 hc_2) mw_3_193 mw_3_194 mw_3_195 mw_1_2 mw_3_196 dc_X10_refuse ⟨Nat.le_of_ble_eq_true rfl, Nat.le_of_ble_eq_true rfl⟩ rfl rfl ⟨Nat.zero_le _, Nat.zero_le _⟩ (by simp only [List.append_assoc, List.nil_append, List.append_nil]) (by simp only [List.append_assoc, List.nil_append, List.append_nil]) hP (hD _ _ _) hS 0 rfl rfl rfl hl.1 (Nat.le_of_ble_eq_true rfl) dX2_takeLetterSet_71 (fun H locs hP hS => ?_)
          refine lv_pop X.1 X.2.1 dX2_takeLetterSet_74 rfl ?_
          refine lv_iconst (v := (-1)) X.1 X.2.1 dX2_takeLetterSet_75 (by decide) ?_
          exact ret_i (fun u => (wEv tc a0 g0 (a1 0) (a2 0) ++ (wTp tc a1 u ++ (wSt tc a2 g2 q2_18 q2_19)))) (res := (r0, G1)) (hR _ (Option.some.inj h).symm) X hQ hP hS dX2_takeLetterSet_76
        refine lv_icmp_eq (tgt := 67) X.1 X.2.1 dX2_takeLetterSet_55 (by decide) (fun hc => ?_) (fun hc => ?_)
        · have h := it_t hc h
          exact HJ67 () H locs ls h hP hS (lv_sub hl [1] rfl)
        · have h := it_f hc h
          refine lv_iload_n X.1 X.2.1 dX2_takeLetterSet_58 rfl (lv_at hl 2 rfl) ?_
          refine lv_iload_n X.1 X.2.1 dX2_takeLetterSet_59 rfl (lv_at hl 0 rfl) ?_
          refine lv_ishr X.1 X.2.1 dX2_takeLetterSet_60 ?_
          refine lv_iconst (v := 1) X.1 X.2.1 dX2_takeLetterSet_61 (by decide) ?_
          refine lv_iand X.1 X.2.1 dX2_takeLetterSet_62 ?_
          refine lv_iconst (v := 1) X.1 X.2.1 dX2_takeLetterSet_63 (by decide) ?_
          refine lv_icmp_ne (tgt := 77) X.1 X.2.1 dX2_takeLetterSet_64 (by decide) (fun hc => ?_) (fun hc => ?_)
          · have h := it_f hc h
            refine lv_iload_n X.1 X.2.1 dX2_takeLetterSet_77 rfl (lv_at hl 2 rfl) ?_
            refine lv_iconst (v := 1) X.1 X.2.1 dX2_takeLetterSet_78 (by decide) ?_
            refine lv_iload_n X.1 X.2.1 dX2_takeLetterSet_79 rfl (lv_at hl 0 rfl) ?_
            refine lv_ishl X.1 X.2.1 dX2_takeLetterSet_80 ?_
            refine lv_ior X.1 X.2.1 dX2_takeLetterSet_81 ?_
            obtain ⟨x1_3, ex1_3, h⟩ := nm_el h
            refine tp_i ex1_3 ?_
            refine lv_istore_n (lv' := [(1, .int x1_3), (3, .int r_1), (0, .ref (a0 0)), (2, .int x2)]) X.1 X.2.1 dX2_takeLetterSet_82 rfl hl (by decide) rfl (fun ls hl => ?_)
            obtain ⟨x2_4, ex2_4, h⟩ := nm_el h
            refine lv_iinc (v := x2_4) (lv' := [(2, .int x2_4), (1, .int x1_3), (3, .int r_1), (0, .ref (a0 0))]) X.1 X.2.1 dX2_takeLetterSet_83 hl (k := 3) rfl (by rw [ex2_4]; rfl) (by decide) rfl (fun ls hl => ?_)
            refine lv_goto (tgt := 25) X.1 X.2.1 dX2_takeLetterSet_86 (by decide) ?_
            exact ih x1_3 x2_4 g1 ex h hR H locs ls hP hS (lv_sub hl [3, 1, 0] rfl) K
          · have h := it_t hc h
            exact HJ67 () H locs ls h hP hS (lv_sub hl [1] rfl)
  unfold f_X2_takeLetterSet at h
  refine lv_aload_n X.1 X.2.1 dX2_takeLetterSet_0 rfl (lv_at hl 0 rfl) ?_
  refine r_get (C := RX2) (T := TX2) (N := 2) (ci := 2) (v := .ref (a1 0)) X iw2 hP 0 rfl rfl 0 rfl mw_2_1 rfl dX2_takeLetterSet_1 ?_
  refine r_get (C := RX10) (T := TX10) (N := 8) (ci := 10) (v := .int (g1 3 0)) X iw10 hP 1 rfl rfl 3 rfl mw_1_50 rfl dX2_takeLetterSet_4 ?_
  refine lv_iconst (v := 1) X.1 X.2.1 dX2_takeLetterSet_7 (by decide) ?_
  refine lv_icmp_eq (tgt := 21) X.1 X.2.1 dX2_takeLetterSet_8 (by decide) (fun hc => ?_) (fun hc => ?_)
  · have h := it_t hc h
    refine lv_iconst (v := 0) X.1 X.2.1 dX2_takeLetterSet_21 (by decide) ?_
    refine lv_istore_n (lv' := [(1, .int 0), (0, .ref (a0 0))]) X.1 X.2.1 dX2_takeLetterSet_22 rfl hl (by decide) rfl (fun ls hl => ?_)
    refine lv_iconst (v := 0) X.1 X.2.1 dX2_takeLetterSet_23 (by decide) ?_
    refine lv_istore_n (lv' := [(2, .int 0), (1, .int 0), (0, .ref (a0 0))]) X.1 X.2.1 dX2_takeLetterSet_24 rfl hl (by decide) rfl (fun ls hl => ?_)
    obtain ⟨ex_5, hL_5, h1_5, h2_5⟩ := lr_el h
    refine HL25  fu 0 0 g1 ex_5 hL_5 (fun rv hq => h1_5 rv hq) H locs ls hP hS (lv_sub hl [2, 1, 0] rfl) (fun x1_5 g1_5 he H locs ls hP hS hl => ?_)
    have h := h2_5 _ he.symm
    refine lv_aload_n X.1 X.2.1 dX2_takeLetterSet_89 rfl (lv_at hl 0 rfl) ?_
    refine r_get (C := RX2) (T := TX2) (N := 2) (ci := 2) (v := .ref (a1 0)) X iw2 hP 0 rfl rfl 0 rfl mw_2_1 rfl dX2_takeLetterSet_90 ?_
    obtain ⟨g1_6, hc_6, h⟩ := bd_el h
    refine call_Vsv (ws := (wEv tc a0 g0 (a1 0) (a2 0) ++ (wTp tc a1 g1_5 ++ (wSt tc a2 g2 q2_18 q2_19)))) (ws' := (wEv tc a0 g0 (a1 0) (a2 0) ++ (wTp tc a1 g1_6 ++ (wSt tc a2 g2 q2_18 q2_19)))) (wEv tc a0 g0 (a1 0) (a2 0)) (wSt tc a2 g2 q2_18 q2_19) (As := []) (rest := []) X (c_X10_step l dC dI sk sv tc a1 g1_5 hc_6) mw_3_197 mw_3_129 mw_3_130 mw_1_2 mw_3_131 dc_X10_step ⟨Nat.le_of_ble_eq_true rfl, Nat.le_of_ble_eq_true rfl⟩ rfl rfl ⟨Nat.zero_le _, Nat.zero_le _⟩ (by simp only [List.append_assoc, List.nil_append, List.append_nil]) (by simp only [List.append_assoc, List.nil_append, List.append_nil]) hP (hD _ _ _) hS 0 rfl rfl rfl hl.1 (Nat.le_of_ble_eq_true rfl) dX2_takeLetterSet_93 (fun H locs hP hS => ?_)
    refine lv_iload_n X.1 X.2.1 dX2_takeLetterSet_96 rfl (lv_at hl 1 rfl) ?_
    exact ret_i (fun u => (wEv tc a0 g0 (a1 0) (a2 0) ++ (wTp tc a1 u ++ (wSt tc a2 g2 q2_18 q2_19)))) (res := (r0, G1)) (Option.some.inj h) X hQ hP hS dX2_takeLetterSet_97
  · have h := it_f hc h
    refine lv_aload_n X.1 X.2.1 dX2_takeLetterSet_11 rfl (lv_at hl 0 rfl) ?_
    refine r_get (C := RX2) (T := TX2) (N := 2) (ci := 2) (v := .ref (a1 0)) X iw2 hP 0 rfl rfl 0 rfl mw_2_1 rfl dX2_takeLetterSet_12 ?_
    obtain ⟨r_7, g1_7, hc_7, h⟩ := bd2_el h
    refine call_Vsi (ws := (wEv tc a0 g0 (a1 0) (a2 0) ++ (wTp tc a1 g1 ++ (wSt tc a2 g2 q2_18 q2_19)))) (ws' := (wEv tc a0 g0 (a1 0) (a2 0) ++ (wTp tc a1 g1_7 ++ (wSt tc a2 g2 q2_18 q2_19)))) (wEv tc a0 g0 (a1 0) (a2 0)) (wSt tc a2 g2 q2_18 q2_19) (As := []) (rest := []) X (c_X10_refuse l dC dI sk sv tc a1 g1 hc_7) mw_3_193 mw_3_194 mw_3_195 mw_1_2 mw_3_196 dc_X10_refuse ⟨Nat.le_of_ble_eq_true rfl, Nat.le_of_ble_eq_true rfl⟩ rfl rfl ⟨Nat.zero_le _, Nat.zero_le _⟩ (by simp only [List.append_assoc, List.nil_append, List.append_nil]) (by simp only [List.append_assoc, List.nil_append, List.append_nil]) hP (hD _ _ _) hS 0 rfl rfl rfl hl.1 (Nat.le_of_ble_eq_true rfl) dX2_takeLetterSet_15 (fun H locs hP hS => ?_)
    refine lv_pop X.1 X.2.1 dX2_takeLetterSet_18 rfl ?_
    refine lv_iconst (v := (-1)) X.1 X.2.1 dX2_takeLetterSet_19 (by decide) ?_
    exact ret_i (fun u => (wEv tc a0 g0 (a1 0) (a2 0) ++ (wTp tc a1 u ++ (wSt tc a2 g2 q2_18 q2_19)))) (res := (r0, G1)) (Option.some.inj h) X hQ hP hS dX2_takeLetterSet_20

def f_X2_readsSpeech_L2 (g0 : Pic) (n : Nat) (a : Int32 × Pic × Pic) : Option ((Int32 × Pic × Pic) ⊕ (Pic × Pic)) := lp (fun (rec : Int32 × Pic × Pic → Option ((Int32 × Pic × Pic) ⊕ (Pic × Pic))) (a : Int32 × Pic × Pic) => match a with | (x1, g1, g2) => (if 6 ≤ x1 then some (.inr (g1, g2)) else jn (fun (_ : Unit) => (if (g2 4 0) < 20 then bd2 (f_X10_takeNumber g1 0 ((g2 0 0) - 1)) (fun r_1 g1_1 => (if r_1 = (-1) then some (.inl (0, g1_1, g2)) else gdi (g2 4 0) 20 (nm (pu g2 5 ((g2 4 0).toNatClampNeg) r_1) (fun g2_3 => nm (pu g2_3 4 0 ((g2_3 4 0) + 1)) (fun g2_4 => nm (x1 + 1) (fun x1_5 => rec (x1_5, g1_1, g2_4))))))) else bd2 (f_X10_refuse g1) (fun r_6 g1_6 => gdb r_6 (some (.inl (r_6, g1_6, g2)))))) (fun J25 => (if x1 ≤ 0 then J25 () else (if (g1 3 0) = 2 then J25 () else some (.inl (1, g1, g2))))))) n a
def f_X2_readsSpeech (g0 : Pic) (g1 : Pic) (g2 : Pic) : Option (Int32 × Pic × Pic) := lr (f_X2_readsSpeech_L2 g0 fu (0, g1, g2)) (fun a => a) (fun (g1_8, g2_8) => jn (fun (s0_J131 : Int32) (g1_J131 : Pic) => gdb s0_J131 (some (s0_J131, g1_J131, g2_8))) (fun J131 => jn (fun (g1_J126 : Pic) => J131 1 g1_J126) (fun J126 => (if (g1_8 3 0) = 2 then bd2 (f_X10_refuse g1_8) (fun r_10 g1_10 => (if r_10 = 0 then J131 0 g1_10 else J126 g1_10)) else J126 g1_8))))
abbrev rm_X2_readsSpeech : Room := { frames := 2, cells := 0, slots := 0, locals := 44 }
set_option maxHeartbeats 4000000 in
set_option maxRecDepth 100000 in
theorem c_X2_readsSpeech (l : Launch) (dC : Nat → ClassId) (dI : Nat → Nat → Nat) (sk sv : Nat → Nat) (tc : Nat → ClassId) (a0 : Nat → Nat) (a1 : Nat → Nat) (a2 : Nat → Nat) (q2_18 : Option Nat) (q2_19 : Nat) (g0 : Pic) (g1 : Pic) (g2 : Pic) {r0 : Int32} {G1 : Pic} {G2 : Pic} (h : f_X2_readsSpeech g0 g1 g2 = some (r0, G1, G2)) : CT l (dC, dI) sk sv (TY tc) yX2_readsSpeech cX2_readsSpeech 3 (some .boolean) rm_X2_readsSpeech [.ref (a0 0)] (wEv tc a0 g0 (a1 0) (a2 0) ++ (wTp tc a1 g1 ++ (wSt tc a2 g2 q2_18 q2_19))) (some (.int r0)) (wEv tc a0 g0 (a1 0) (a2 0) ++ (wTp tc a1 G1 ++ (wSt tc a2 G2 q2_18 q2_19))) := by
  refine ofCT (by decide) (Nat.le_of_ble_eq_true rfl) ?_
  intro pr e s m args below meth c A Q ls H locs X hQ hD0 hP hS hl
  have hD : ∀ z0 z1 z2, va_D A (wEv tc a0 z0 (a1 0) (a2 0) ++ (wTp tc a1 z1 ++ (wSt tc a2 z2 q2_18 q2_19))) := fun z0 z1 z2 => D_fst (ws := (wEv tc a0 g0 (a1 0) (a2 0) ++ (wTp tc a1 g1 ++ (wSt tc a2 g2 q2_18 q2_19)))) rfl hD0
  have hl : lv_has ls 3 [(0, .ref (a0 0))] := hl
  have HL2 : ∀ (n : Nat) (x1 : Int32) (g1 : Pic) (g2 : Pic) (ex : ((Int32 × Pic × Pic) ⊕ (Pic × Pic))), f_X2_readsSpeech_L2 g0 n (x1, g1, g2) = some ex → (∀ rv, ex = .inl rv → rv = (r0, G1, G2)) → ∀ (H : Heap) (locs : List Loc) (ls : Array Slot), va_P (dC, dI) vwCl (wEv tc a0 g0 (a1 0) (a2 0) ++ (wTp tc a1 g1 ++ (wSt tc a2 g2 q2_18 q2_19))) H → va_S A s.heap H locs → lv_has ls 3 [(0, .ref (a0 0)), (1, .int x1)] → (∀ (k1 : Pic) (k2 : Pic), .inr (k1, k2) = ex → ∀ (H : Heap) (locs : List Loc) (ls : Array Slot), va_P (dC, dI) vwCl (wEv tc a0 g0 (a1 0) (a2 0) ++ (wTp tc a1 k1 ++ (wSt tc a2 k2 q2_18 q2_19))) H → va_S A s.heap H locs → lv_has ls 3 [(0, .ref (a0 0))] → W pr l e rm_X2_readsSpeech s m args below meth c H locs 0 0 Q (F0 m 105 ls [])) → W pr l e rm_X2_readsSpeech s m args below meth c H locs 0 0 Q (F0 m 2 ls []) := by
    intro n
    induction n with
    | zero => intro x1 g1 g2 ex h; exact lp_z h
    | succ n ih =>
      intro x1 g1 g2 ex h hR H locs ls hP hS hl K
      have h := lp_s h
      refine lv_iload_n X.1 X.2.1 dX2_readsSpeech_2 rfl (lv_at hl 1 rfl) ?_
      refine lv_bipush (v := 6) X.1 X.2.1 dX2_readsSpeech_3 (by decide) ?_
      refine lv_icmp_ge (tgt := 105) X.1 X.2.1 dX2_readsSpeech_5 (by decide) (fun hc => ?_) (fun hc => ?_)
      · have h := it_t hc h
        exact K g1 g2 (Option.some.inj h) H locs ls hP hS (lv_sub hl [0] rfl)
      · have h := it_f hc h
        refine lv_iload_n X.1 X.2.1 dX2_readsSpeech_8 rfl (lv_at hl 1 rfl) ?_
        obtain ⟨J25, eJ25, h⟩ := jn_el h
        have HJ25 : ∀ (_ : Unit) (H : Heap) (locs : List Loc) (ls : Array Slot), J25 () = some ex → va_P (dC, dI) vwCl (wEv tc a0 g0 (a1 0) (a2 0) ++ (wTp tc a1 g1 ++ (wSt tc a2 g2 q2_18 q2_19))) H → va_S A s.heap H locs → lv_has ls 3 [(0, .ref (a0 0)), (1, .int x1)] → W pr l e rm_X2_readsSpeech s m args below meth c H locs 0 0 Q (F0 m 25 ls []) := by
          intro _ H locs ls h hP hS hl
          rw [eJ25] at h
          refine lv_aload_n X.1 X.2.1 dX2_readsSpeech_25 rfl (lv_at hl 0 rfl) ?_
          refine r_get (C := RX2) (T := TX2) (N := 2) (ci := 2) (v := .ref (a2 0)) X iw2 hP 0 rfl rfl 1 rfl mw_2_2 rfl dX2_readsSpeech_26 ?_
          refine r_get (C := RX9) (T := TX9) (N := 20) (ci := 9) (v := .int (g2 4 0)) X iw9 hP 3 rfl rfl 4 rfl mw_1_129 rfl dX2_readsSpeech_29 ?_
          refine lv_bipush (v := 20) X.1 X.2.1 dX2_readsSpeech_32 (by decide) ?_
          refine lv_icmp_lt (tgt := 45) X.1 X.2.1 dX2_readsSpeech_34 (by decide) (fun hc => ?_) (fun hc => ?_)
          · have h := it_t hc h
            refine lv_aload_n X.1 X.2.1 dX2_readsSpeech_45 rfl (lv_at hl 0 rfl) ?_
            refine r_get (C := RX2) (T := TX2) (N := 2) (ci := 2) (v := .ref (a1 0)) X iw2 hP 0 rfl rfl 0 rfl mw_2_1 rfl dX2_readsSpeech_46 ?_
            refine lv_iconst (v := 0) X.1 X.2.1 dX2_readsSpeech_49 (by decide) ?_
            refine lv_aload_n X.1 X.2.1 dX2_readsSpeech_50 rfl (lv_at hl 0 rfl) ?_
            refine r_get (C := RX2) (T := TX2) (N := 2) (ci := 2) (v := .ref (a2 0)) X iw2 hP 0 rfl rfl 1 rfl mw_2_2 rfl dX2_readsSpeech_51 ?_
            refine r_get (C := RX9) (T := TX9) (N := 20) (ci := 9) (v := .int (g2 0 0)) X iw9 hP 3 rfl rfl 0 rfl mw_1_106 rfl dX2_readsSpeech_54 ?_
            refine lv_iconst (v := 1) X.1 X.2.1 dX2_readsSpeech_57 (by decide) ?_
            refine lv_isub X.1 X.2.1 dX2_readsSpeech_58 ?_
            obtain ⟨r_1, g1_1, hc_1, h⟩ := bd2_el h
            refine call_Vsi (ws := (wEv tc a0 g0 (a1 0) (a2 0) ++ (wTp tc a1 g1 ++ (wSt tc a2 g2 q2_18 q2_19)))) (ws' := (wEv tc a0 g0 (a1 0) (a2 0) ++ (wTp tc a1 g1_1 ++ (wSt tc a2 g2 q2_18 q2_19)))) (wEv tc a0 g0 (a1 0) (a2 0)) (wSt tc a2 g2 q2_18 q2_19) (As := [.int 0, .int ((g2 0 0) - 1)]) (rest := []) X (c_X10_takeNumber l dC dI sk sv tc a1 g1 0 ((g2 0 0) - 1) hc_1) mw_3_208 mw_3_209 mw_3_210 mw_1_2 mw_3_211 dc_X10_takeNumber ⟨Nat.le_of_ble_eq_true rfl, Nat.le_of_ble_eq_true rfl⟩ rfl rfl ⟨Nat.zero_le _, Nat.zero_le _⟩ (by simp only [List.append_assoc, List.nil_append, List.append_nil]) (by simp only [List.append_assoc, List.nil_append, List.append_nil]) hP (hD _ _ _) hS 0 rfl rfl rfl hl.1 (Nat.le_of_ble_eq_true rfl) dX2_readsSpeech_59 (fun H locs hP hS => ?_)
            refine lv_istore_n (lv' := [(2, .int r_1), (0, .ref (a0 0)), (1, .int x1)]) X.1 X.2.1 dX2_readsSpeech_62 rfl hl (by decide) rfl (fun ls hl => ?_)
            refine lv_iload_n X.1 X.2.1 dX2_readsSpeech_63 rfl (lv_at hl 0 rfl) ?_
            refine lv_iconst (v := (-1)) X.1 X.2.1 dX2_readsSpeech_64 (by decide) ?_
            refine lv_icmp_ne (tgt := 70) X.1 X.2.1 dX2_readsSpeech_65 (by decide) (fun hc => ?_) (fun hc => ?_)
            · have h := it_f hc h
              refine lv_aload_n X.1 X.2.1 dX2_readsSpeech_70 rfl (lv_at hl 1 rfl) ?_
              refine r_get (C := RX2) (T := TX2) (N := 2) (ci := 2) (v := .ref (a2 0)) X iw2 hP 0 rfl rfl 1 rfl mw_2_2 rfl dX2_readsSpeech_71 ?_
              refine r_get (C := RX9) (T := TX9) (N := 20) (ci := 9) (v := .ref (a2 6)) X iw9 hP 3 rfl rfl 5 rfl mw_1_135 rfl dX2_readsSpeech_74 ?_
              refine lv_aload_n X.1 X.2.1 dX2_readsSpeech_77 rfl (lv_at hl 1 rfl) ?_
              refine r_get (C := RX2) (T := TX2) (N := 2) (ci := 2) (v := .ref (a2 0)) X iw2 hP 0 rfl rfl 1 rfl mw_2_2 rfl dX2_readsSpeech_78 ?_
              refine r_get (C := RX9) (T := TX9) (N := 20) (ci := 9) (v := .int (g2 4 0)) X iw9 hP 3 rfl rfl 4 rfl mw_1_129 rfl dX2_readsSpeech_81 ?_
              refine lv_iload_n X.1 X.2.1 dX2_readsSpeech_84 rfl (lv_at hl 0 rfl) ?_
              obtain ⟨hg_2, h⟩ := gdi_el h
              obtain ⟨g2_3, eg2_3, h⟩ := nm_el h
              refine r_iast X hP (hD _ _ _) hS 7 0 rfl rfl hg_2 rfl dX2_readsSpeech_85 (wEv tc a0 g0 (a1 0) (a2 0) ++ (wTp tc a1 g1_1 ++ (wSt tc a2 g2_3 q2_18 q2_19))) (by rw [eg2_3]; rfl) (fun H locs hP hS => ?_)
              refine lv_aload_n X.1 X.2.1 dX2_readsSpeech_86 rfl (lv_at hl 1 rfl) ?_
              refine r_get (C := RX2) (T := TX2) (N := 2) (ci := 2) (v := .ref (a2 0)) X iw2 hP 0 rfl rfl 1 rfl mw_2_2 rfl dX2_readsSpeech_87 ?_
              refine lv_dup X.1 X.2.1 dX2_readsSpeech_90 rfl ?_
              refine r_get (C := RX9) (T := TX9) (N := 20) (ci := 9) (v := .int (g2_3 4 0)) X iw9 hP 3 rfl rfl 4 rfl mw_1_129 rfl dX2_readsSpeech_91 ?_
              refine lv_iconst (v := 1) X.1 X.2.1 dX2_readsSpeech_94 (by decide) ?_
              refine lv_iadd X.1 X.2.1 dX2_readsSpeech_95 ?_
              obtain ⟨g2_4, eg2_4, h⟩ := nm_el h
              refine r_put (C := RX9) (T := TX9) (N := 20) (ci := 9) tyX9 tyX9_ok nmX9 X iw9 hP (hD _ _ _) hS 3 rfl rfl 4 rfl mw_1_129 rfl rfl rfl rfl dX2_readsSpeech_96 (wEv tc a0 g0 (a1 0) (a2 0) ++ (wTp tc a1 g1_1 ++ (wSt tc a2 g2_4 q2_18 q2_19))) (by rw [eg2_4]; rfl) (fun H locs hP hS => ?_)
              obtain ⟨x1_5, ex1_5, h⟩ := nm_el h
              refine lv_iinc (v := x1_5) (lv' := [(1, .int x1_5), (2, .int r_1), (0, .ref (a0 0))]) X.1 X.2.1 dX2_readsSpeech_99 hl (k := 2) rfl (by rw [ex1_5]; rfl) (by decide) rfl (fun ls hl => ?_)
              refine lv_goto (tgt := 2) X.1 X.2.1 dX2_readsSpeech_102 (by decide) ?_
              exact ih x1_5 g1_1 g2_4 ex h hR H locs ls hP hS (lv_sub hl [2, 0] rfl) K
            · have h := it_t hc h
              refine lv_iconst (v := 0) X.1 X.2.1 dX2_readsSpeech_68 (by decide) ?_
              exact ret_z (fun u => (wEv tc a0 g0 (a1 0) (a2 0) ++ (wTp tc a1 u.1 ++ (wSt tc a2 u.2 q2_18 q2_19)))) (res := (r0, G1, G2)) (by decide) (hR _ (Option.some.inj h).symm) X hQ hP hS dX2_readsSpeech_69
          · have h := it_f hc h
            refine lv_aload_n X.1 X.2.1 dX2_readsSpeech_37 rfl (lv_at hl 0 rfl) ?_
            refine r_get (C := RX2) (T := TX2) (N := 2) (ci := 2) (v := .ref (a1 0)) X iw2 hP 0 rfl rfl 0 rfl mw_2_1 rfl dX2_readsSpeech_38 ?_
            obtain ⟨r_6, g1_6, hc_6, h⟩ := bd2_el h
            refine call_Vsi (ws := (wEv tc a0 g0 (a1 0) (a2 0) ++ (wTp tc a1 g1 ++ (wSt tc a2 g2 q2_18 q2_19)))) (ws' := (wEv tc a0 g0 (a1 0) (a2 0) ++ (wTp tc a1 g1_6 ++ (wSt tc a2 g2 q2_18 q2_19)))) (wEv tc a0 g0 (a1 0) (a2 0)) (wSt tc a2 g2 q2_18 q2_19) (As := []) (rest := []) X (c_X10_refuse l dC dI sk sv tc a1 g1 hc_6) mw_3_193 mw_3_194 mw_3_195 mw_1_2 mw_3_196 dc_X10_refuse ⟨Nat.le_of_ble_eq_true rfl, Nat.le_of_ble_eq_true rfl⟩ rfl rfl ⟨Nat.zero_le _, Nat.zero_le _⟩ (by simp only [List.append_assoc, List.nil_append, List.append_nil]) (by simp only [List.append_assoc, List.nil_append, List.append_nil]) hP (hD _ _ _) hS 0 rfl rfl rfl hl.1 (Nat.le_of_ble_eq_true rfl) dX2_readsSpeech_41 (fun H locs hP hS => ?_)
            obtain ⟨hg_7, h⟩ := gdb_el h
            exact ret_z (fun u => (wEv tc a0 g0 (a1 0) (a2 0) ++ (wTp tc a1 u.1 ++ (wSt tc a2 u.2 q2_18 q2_19)))) (res := (r0, G1, G2)) hg_7 (hR _ (Option.some.inj h).symm) X hQ hP hS dX2_readsSpeech_44
        refine lv_if_le (tgt := 25) X.1 X.2.1 dX2_readsSpeech_9 (by decide) (fun hc => ?_) (fun hc => ?_)
        · have h := it_t hc h
          exact HJ25 () H locs ls h hP hS (lv_sub hl [0, 1] rfl)
        · have h := it_f hc h
          refine lv_aload_n X.1 X.2.1 dX2_readsSpeech_12 rfl (lv_at hl 0 rfl) ?_
          refine r_get (C := RX2) (T := TX2) (N := 2) (ci := 2) (v := .ref (a1 0)) X iw2 hP 0 rfl rfl 0 rfl mw_2_1 rfl dX2_readsSpeech_13 ?_
          refine r_get (C := RX10) (T := TX10) (N := 8) (ci := 10) (v := .int (g1 3 0)) X iw10 hP 1 rfl rfl 3 rfl mw_1_50 rfl dX2_readsSpeech_16 ?_
          refine lv_iconst (v := 2) X.1 X.2.1 dX2_readsSpeech_19 (by decide) ?_
          refine lv_icmp_eq (tgt := 25) X.1 X.2.1 dX2_readsSpeech_20 (by decide) (fun hc => ?_) (fun hc => ?_)
          · have h := it_t hc h
            exact HJ25 () H locs ls h hP hS (lv_sub hl [0, 1] rfl)
          · have h := it_f hc h
            refine lv_iconst (v := 1) X.1 X.2.1 dX2_readsSpeech_23 (by decide) ?_
            exact ret_z (fun u => (wEv tc a0 g0 (a1 0) (a2 0) ++ (wTp tc a1 u.1 ++ (wSt tc a2 u.2 q2_18 q2_19)))) (res := (r0, G1, G2)) (by decide) (hR _ (Option.some.inj h).symm) X hQ hP hS dX2_readsSpeech_24
  unfold f_X2_readsSpeech at h
  refine lv_iconst (v := 0) X.1 X.2.1 dX2_readsSpeech_0 (by decide) ?_
  refine lv_istore_n (lv' := [(1, .int 0), (0, .ref (a0 0))]) X.1 X.2.1 dX2_readsSpeech_1 rfl hl (by decide) rfl (fun ls hl => ?_)
  obtain ⟨ex_8, hL_8, h1_8, h2_8⟩ := lr_el h
  refine HL2  fu 0 g1 g2 ex_8 hL_8 (fun rv hq => h1_8 rv hq) H locs ls hP hS (lv_sub hl [1, 0] rfl) (fun g1_8 g2_8 he H locs ls hP hS hl => ?_)
  have h := h2_8 _ he.symm
  refine lv_aload_n X.1 X.2.1 dX2_readsSpeech_105 rfl (lv_at hl 0 rfl) ?_
  refine r_get (C := RX2) (T := TX2) (N := 2) (ci := 2) (v := .ref (a1 0)) X iw2 hP 0 rfl rfl 0 rfl mw_2_1 rfl dX2_readsSpeech_106 ?_
  refine r_get (C := RX10) (T := TX10) (N := 8) (ci := 10) (v := .int (g1_8 3 0)) X iw10 hP 1 rfl rfl 3 rfl mw_1_50 rfl dX2_readsSpeech_109 ?_
  refine lv_iconst (v := 2) X.1 X.2.1 dX2_readsSpeech_112 (by decide) ?_
  obtain ⟨J131, eJ131, h⟩ := jn_el h
  have HJ131 : ∀ (s0_J131 : Int32) (g1_J131 : Pic) (H : Heap) (locs : List Loc) (ls : Array Slot), J131 s0_J131 g1_J131 = some (r0, G1, G2) → va_P (dC, dI) vwCl (wEv tc a0 g0 (a1 0) (a2 0) ++ (wTp tc a1 g1_J131 ++ (wSt tc a2 g2_8 q2_18 q2_19))) H → va_S A s.heap H locs → lv_has ls 3 [] → W pr l e rm_X2_readsSpeech s m args below meth c H locs 0 0 Q (F0 m 131 ls [.int s0_J131]) := by
    intro s0_J131 g1_J131 H locs ls h hP hS hl
    rw [eJ131] at h
    obtain ⟨hg_9, h⟩ := gdb_el h
    exact ret_z (fun u => (wEv tc a0 g0 (a1 0) (a2 0) ++ (wTp tc a1 u.1 ++ (wSt tc a2 u.2 q2_18 q2_19)))) (res := (r0, G1, G2)) hg_9 (Option.some.inj h) X hQ hP hS dX2_readsSpeech_131
  obtain ⟨J126, eJ126, h⟩ := jn_el h
  have HJ126 : ∀ (g1_J126 : Pic) (H : Heap) (locs : List Loc) (ls : Array Slot), J126 g1_J126 = some (r0, G1, G2) → va_P (dC, dI) vwCl (wEv tc a0 g0 (a1 0) (a2 0) ++ (wTp tc a1 g1_J126 ++ (wSt tc a2 g2_8 q2_18 q2_19))) H → va_S A s.heap H locs → lv_has ls 3 [] → W pr l e rm_X2_readsSpeech s m args below meth c H locs 0 0 Q (F0 m 126 ls []) := by
    intro g1_J126 H locs ls h hP hS hl
    rw [eJ126] at h
    refine lv_iconst (v := 1) X.1 X.2.1 dX2_readsSpeech_126 (by decide) ?_
    refine lv_goto (tgt := 131) X.1 X.2.1 dX2_readsSpeech_127 (by decide) ?_
    exact HJ131 1 g1_J126 H locs ls h hP hS (lv_sub hl [] rfl)
  refine lv_icmp_ne (tgt := 126) X.1 X.2.1 dX2_readsSpeech_113 (by decide) (fun hc => ?_) (fun hc => ?_)
  · have h := it_f hc h
    exact HJ126 g1_8 H locs ls h hP hS (lv_sub hl [] rfl)
  · have h := it_t hc h
    refine lv_aload_n X.1 X.2.1 dX2_readsSpeech_116 rfl (lv_at hl 0 rfl) ?_
    refine r_get (C := RX2) (T := TX2) (N := 2) (ci := 2) (v := .ref (a1 0)) X iw2 hP 0 rfl rfl 0 rfl mw_2_1 rfl dX2_readsSpeech_117 ?_
    obtain ⟨r_10, g1_10, hc_10, h⟩ := bd2_el h
    refine call_Vsi (ws := (wEv tc a0 g0 (a1 0) (a2 0) ++ (wTp tc a1 g1_8 ++ (wSt tc a2 g2_8 q2_18 q2_19)))) (ws' := (wEv tc a0 g0 (a1 0) (a2 0) ++ (wTp tc a1 g1_10 ++ (wSt tc a2 g2_8 q2_18 q2_19)))) (wEv tc a0 g0 (a1 0) (a2 0)) (wSt tc a2 g2_8 q2_18 q2_19) (As := []) (rest := []) X (c_X10_refuse l dC dI sk sv tc a1 g1_8 hc_10) mw_3_193 mw_3_194 mw_3_195 mw_1_2 mw_3_196 dc_X10_refuse ⟨Nat.le_of_ble_eq_true rfl, Nat.le_of_ble_eq_true rfl⟩ rfl rfl ⟨Nat.zero_le _, Nat.zero_le _⟩ (by simp only [List.append_assoc, List.nil_append, List.append_nil]) (by simp only [List.append_assoc, List.nil_append, List.append_nil]) hP (hD _ _ _) hS 0 rfl rfl rfl hl.1 (Nat.le_of_ble_eq_true rfl) dX2_readsSpeech_120 (fun H locs hP hS => ?_)
    refine lv_if_eq (tgt := 130) X.1 X.2.1 dX2_readsSpeech_123 (by decide) (fun hc => ?_) (fun hc => ?_)
    · have h := it_t hc h
      refine lv_iconst (v := 0) X.1 X.2.1 dX2_readsSpeech_130 (by decide) ?_
      exact HJ131 0 g1_10 H locs ls h hP hS (lv_sub hl [] rfl)
    · have h := it_f hc h
      exact HJ126 g1_10 H locs ls h hP hS (lv_sub hl [] rfl)

def f_X2_readsWriter (g0 : Pic) (g1 : Pic) (g2 : Pic) : Option (Int32 × Pic × Pic) := nm ((g2 7 0)) (fun x1_1 => (if x1_1 < 5 then bd (f_X10_step g1) (fun g1_2 => bd2 (f_X10_takesName 3 g1_2) (fun r_3 g1_3 => (if r_3 = 0 then bd2 (f_X10_refuse g1_3) (fun r_12 g1_12 => gdb r_12 (some (r_12, g1_12, g2))) else bd2 (f_X10_takeNumber g1_3 1 9) (fun r_4 g1_4 => (if r_4 = (-1) then some (0, g1_4, g2) else bd2 (f_X10_takesName 4 g1_4) (fun r_5 g1_5 => jn (fun (s0_J92 : Int32) (g1_J92 : Pic) => (if s0_J92 = (-1) then some (0, g1_J92, g2) else bd2 (f_X10_takesName 5 g1_J92) (fun r_6 g1_6 => jn (fun (s0_J126 : Int32) (g1_J126 : Pic) => (if s0_J126 = (-1) then some (0, g1_J126, g2) else bd2 (f_X10_takesName 6 g1_J126) (fun r_7 g1_7 => jn (fun (s0_J156 : Int32) (g1_J156 : Pic) => (if s0_J156 = (-1) then some (0, g1_J156, g2) else bd (f_X2_addWriter g0 g1_J156 g2 r_4 s0_J92 s0_J126 s0_J156) (fun g2_8 => some (1, g1_J156, g2_8)))) (fun J156 => (if r_7 = 0 then J156 0 g1_7 else bd2 (f_X2_takeLetterSet g0 g1_7 g2) (fun r_9 g1_9 => J156 r_9 g1_9)))))) (fun J126 => (if r_6 = 0 then J126 0 g1_6 else bd2 (f_X10_takeNumber g1_6 0 99) (fun r_10 g1_10 => J126 r_10 g1_10)))))) (fun J92 => (if r_5 = 0 then J92 0 g1_5 else bd2 (f_X10_takeNumber g1_5 0 9) (fun r_11 g1_11 => J92 r_11 g1_11))))))))) else bd2 (f_X10_refuse g1) (fun r_14 g1_14 => gdb r_14 (some (r_14, g1_14, g2)))))
abbrev rm_X2_readsWriter : Room := { frames := 6, cells := 0, slots := 0, locals := 155 }
set_option maxHeartbeats 4000000 in
set_option maxRecDepth 100000 in
theorem c_X2_readsWriter (l : Launch) (dC : Nat → ClassId) (dI : Nat → Nat → Nat) (sk sv : Nat → Nat) (tc : Nat → ClassId) (a0 : Nat → Nat) (a1 : Nat → Nat) (a2 : Nat → Nat) (q2_18 : Option Nat) (q2_19 : Nat) (g0 : Pic) (g1 : Pic) (g2 : Pic) {r0 : Int32} {G1 : Pic} {G2 : Pic} (h : f_X2_readsWriter g0 g1 g2 = some (r0, G1, G2)) : CT l (dC, dI) sk sv (TY tc) yX2_readsWriter cX2_readsWriter 6 (some .boolean) rm_X2_readsWriter [.ref (a0 0)] (wEv tc a0 g0 (a1 0) (a2 0) ++ (wTp tc a1 g1 ++ (wSt tc a2 g2 q2_18 q2_19))) (some (.int r0)) (wEv tc a0 g0 (a1 0) (a2 0) ++ (wTp tc a1 G1 ++ (wSt tc a2 G2 q2_18 q2_19))) := by
  refine ofCT (by decide) (Nat.le_of_ble_eq_true rfl) ?_
  intro pr e s m args below meth c A Q ls H locs X hQ hD0 hP hS hl
  have hD : ∀ z0 z1 z2, va_D A (wEv tc a0 z0 (a1 0) (a2 0) ++ (wTp tc a1 z1 ++ (wSt tc a2 z2 q2_18 q2_19))) := fun z0 z1 z2 => D_fst (ws := (wEv tc a0 g0 (a1 0) (a2 0) ++ (wTp tc a1 g1 ++ (wSt tc a2 g2 q2_18 q2_19)))) rfl hD0
  have hl : lv_has ls 6 [(0, .ref (a0 0))] := hl
  unfold f_X2_readsWriter at h
  refine lv_aload_n X.1 X.2.1 dX2_readsWriter_0 rfl (lv_at hl 0 rfl) ?_
  refine r_get (C := RX2) (T := TX2) (N := 2) (ci := 2) (v := .ref (a2 0)) X iw2 hP 0 rfl rfl 1 rfl mw_2_2 rfl dX2_readsWriter_1 ?_
  refine r_get (C := RX9) (T := TX9) (N := 20) (ci := 9) (v := .int (g2 7 0)) X iw9 hP 3 rfl rfl 7 rfl mw_1_143 rfl dX2_readsWriter_4 ?_
  obtain ⟨x1_1, ex1_1, h⟩ := nm_el h
  refine tp_i ex1_1 ?_
  refine lv_istore_n (lv' := [(1, .int x1_1), (0, .ref (a0 0))]) X.1 X.2.1 dX2_readsWriter_7 rfl hl (by decide) rfl (fun ls hl => ?_)
  refine lv_iload_n X.1 X.2.1 dX2_readsWriter_8 rfl (lv_at hl 0 rfl) ?_
  refine lv_iconst (v := 5) X.1 X.2.1 dX2_readsWriter_9 (by decide) ?_
  refine lv_icmp_lt (tgt := 21) X.1 X.2.1 dX2_readsWriter_10 (by decide) (fun hc => ?_) (fun hc => ?_)
  · have h := it_t hc h
    refine lv_aload_n X.1 X.2.1 dX2_readsWriter_21 rfl (lv_at hl 1 rfl) ?_
    refine r_get (C := RX2) (T := TX2) (N := 2) (ci := 2) (v := .ref (a1 0)) X iw2 hP 0 rfl rfl 0 rfl mw_2_1 rfl dX2_readsWriter_22 ?_
    obtain ⟨g1_2, hc_2, h⟩ := bd_el h
    refine call_Vsv (ws := (wEv tc a0 g0 (a1 0) (a2 0) ++ (wTp tc a1 g1 ++ (wSt tc a2 g2 q2_18 q2_19)))) (ws' := (wEv tc a0 g0 (a1 0) (a2 0) ++ (wTp tc a1 g1_2 ++ (wSt tc a2 g2 q2_18 q2_19)))) (wEv tc a0 g0 (a1 0) (a2 0)) (wSt tc a2 g2 q2_18 q2_19) (As := []) (rest := []) X (c_X10_step l dC dI sk sv tc a1 g1 hc_2) mw_3_197 mw_3_129 mw_3_130 mw_1_2 mw_3_131 dc_X10_step ⟨Nat.le_of_ble_eq_true rfl, Nat.le_of_ble_eq_true rfl⟩ rfl rfl ⟨Nat.zero_le _, Nat.zero_le _⟩ (by simp only [List.append_assoc, List.nil_append, List.append_nil]) (by simp only [List.append_assoc, List.nil_append, List.append_nil]) hP (hD _ _ _) hS 0 rfl rfl rfl hl.1 (Nat.le_of_ble_eq_true rfl) dX2_readsWriter_25 (fun H locs hP hS => ?_)
    refine lv_aload_n X.1 X.2.1 dX2_readsWriter_28 rfl (lv_at hl 1 rfl) ?_
    refine r_get (C := RX2) (T := TX2) (N := 2) (ci := 2) (v := .ref (a1 0)) X iw2 hP 0 rfl rfl 0 rfl mw_2_1 rfl dX2_readsWriter_29 ?_
    refine va_ldcS X.1 X.2.1 X.2.2.2.2.1 (X.2.2.2.2.2.2.2.2.2.2.2.2.2.1 ("PencilUp$EveningReader", 109, "speed", 3) (List.mem_of_getElem? (i := 3) rfl)) dX2_readsWriter_32 ?_
    obtain ⟨r_3, g1_3, hc_3, h⟩ := bd2_el h
    refine call_Vsi (ws := (wEv tc a0 g0 (a1 0) (a2 0) ++ (wTp tc a1 g1_2 ++ (wSt tc a2 g2 q2_18 q2_19)))) (ws' := (wEv tc a0 g0 (a1 0) (a2 0) ++ (wTp tc a1 g1_3 ++ (wSt tc a2 g2 q2_18 q2_19)))) (wEv tc a0 g0 (a1 0) (a2 0)) (wSt tc a2 g2 q2_18 q2_19) (As := [.ref (sk 3)]) (rest := []) X (c_X10_takesName l dC dI sk sv tc 3 a1 g1_2 hc_3 (by decide)) mw_3_203 mw_3_204 mw_3_205 mw_1_2 mw_3_206 dc_X10_takesName ⟨Nat.le_of_ble_eq_true rfl, Nat.le_of_ble_eq_true rfl⟩ rfl rfl ⟨Nat.zero_le _, Nat.zero_le _⟩ (by simp only [List.append_assoc, List.nil_append, List.append_nil]) (by simp only [List.append_assoc, List.nil_append, List.append_nil]) hP (hD _ _ _) hS 0 rfl rfl rfl hl.1 (Nat.le_of_ble_eq_true rfl) dX2_readsWriter_34 (fun H locs hP hS => ?_)
    refine lv_if_ne (tgt := 48) X.1 X.2.1 dX2_readsWriter_37 (by decide) (fun hc => ?_) (fun hc => ?_)
    · have h := it_f hc h
      refine lv_aload_n X.1 X.2.1 dX2_readsWriter_48 rfl (lv_at hl 1 rfl) ?_
      refine r_get (C := RX2) (T := TX2) (N := 2) (ci := 2) (v := .ref (a1 0)) X iw2 hP 0 rfl rfl 0 rfl mw_2_1 rfl dX2_readsWriter_49 ?_
      refine lv_iconst (v := 1) X.1 X.2.1 dX2_readsWriter_52 (by decide) ?_
      refine lv_bipush (v := 9) X.1 X.2.1 dX2_readsWriter_53 (by decide) ?_
      obtain ⟨r_4, g1_4, hc_4, h⟩ := bd2_el h
      refine call_Vsi (ws := (wEv tc a0 g0 (a1 0) (a2 0) ++ (wTp tc a1 g1_3 ++ (wSt tc a2 g2 q2_18 q2_19)))) (ws' := (wEv tc a0 g0 (a1 0) (a2 0) ++ (wTp tc a1 g1_4 ++ (wSt tc a2 g2 q2_18 q2_19)))) (wEv tc a0 g0 (a1 0) (a2 0)) (wSt tc a2 g2 q2_18 q2_19) (As := [.int 1, .int 9]) (rest := []) X (c_X10_takeNumber l dC dI sk sv tc a1 g1_3 1 9 hc_4) mw_3_208 mw_3_209 mw_3_210 mw_1_2 mw_3_211 dc_X10_takeNumber ⟨Nat.le_of_ble_eq_true rfl, Nat.le_of_ble_eq_true rfl⟩ rfl rfl ⟨Nat.zero_le _, Nat.zero_le _⟩ (by simp only [List.append_assoc, List.nil_append, List.append_nil]) (by simp only [List.append_assoc, List.nil_append, List.append_nil]) hP (hD _ _ _) hS 0 rfl rfl rfl hl.1 (Nat.le_of_ble_eq_true rfl) dX2_readsWriter_55 (fun H locs hP hS => ?_)
      refine lv_istore_n (lv' := [(2, .int r_4), (1, .int x1_1), (0, .ref (a0 0))]) X.1 X.2.1 dX2_readsWriter_58 rfl hl (by decide) rfl (fun ls hl => ?_)
      refine lv_iload_n X.1 X.2.1 dX2_readsWriter_59 rfl (lv_at hl 0 rfl) ?_
      refine lv_iconst (v := (-1)) X.1 X.2.1 dX2_readsWriter_60 (by decide) ?_
      refine lv_icmp_ne (tgt := 66) X.1 X.2.1 dX2_readsWriter_61 (by decide) (fun hc => ?_) (fun hc => ?_)
      · have h := it_f hc h
        refine lv_aload_n X.1 X.2.1 dX2_readsWriter_66 rfl (lv_at hl 2 rfl) ?_
        refine r_get (C := RX2) (T := TX2) (N := 2) (ci := 2) (v := .ref (a1 0)) X iw2 hP 0 rfl rfl 0 rfl mw_2_1 rfl dX2_readsWriter_67 ?_
        refine va_ldcS X.1 X.2.1 X.2.2.2.2.1 (X.2.2.2.2.2.2.2.2.2.2.2.2.2.1 ("PencilUp$EveningReader", 111, "skill", 4) (List.mem_of_getElem? (i := 4) rfl)) dX2_readsWriter_70 ?_
        obtain ⟨r_5, g1_5, hc_5, h⟩ := bd2_el h
        refine call_Vsi (ws := (wEv tc a0 g0 (a1 0) (a2 0) ++ (wTp tc a1 g1_4 ++ (wSt tc a2 g2 q2_18 q2_19)))) (ws' := (wEv tc a0 g0 (a1 0) (a2 0) ++ (wTp tc a1 g1_5 ++ (wSt tc a2 g2 q2_18 q2_19)))) (wEv tc a0 g0 (a1 0) (a2 0)) (wSt tc a2 g2 q2_18 q2_19) (As := [.ref (sk 4)]) (rest := []) X (c_X10_takesName l dC dI sk sv tc 4 a1 g1_4 hc_5 (by decide)) mw_3_203 mw_3_204 mw_3_205 mw_1_2 mw_3_206 dc_X10_takesName ⟨Nat.le_of_ble_eq_true rfl, Nat.le_of_ble_eq_true rfl⟩ rfl rfl ⟨Nat.zero_le _, Nat.zero_le _⟩ (by simp only [List.append_assoc, List.nil_append, List.append_nil]) (by simp only [List.append_assoc, List.nil_append, List.append_nil]) hP (hD _ _ _) hS 0 rfl rfl rfl hl.1 (Nat.le_of_ble_eq_true rfl) dX2_readsWriter_72 (fun H locs hP hS => ?_)
        obtain ⟨J92, eJ92, h⟩ := jn_el h
        have HJ92 : ∀ (s0_J92 : Int32) (g1_J92 : Pic) (H : Heap) (locs : List Loc) (ls : Array Slot), J92 s0_J92 g1_J92 = some (r0, G1, G2) → va_P (dC, dI) vwCl (wEv tc a0 g0 (a1 0) (a2 0) ++ (wTp tc a1 g1_J92 ++ (wSt tc a2 g2 q2_18 q2_19))) H → va_S A s.heap H locs → lv_has ls 6 [(0, .ref (a0 0)), (2, .int r_4)] → W pr l e rm_X2_readsWriter s m args below meth c H locs 0 0 Q (F0 m 92 ls [.int s0_J92]) := by
          intro s0_J92 g1_J92 H locs ls h hP hS hl
          rw [eJ92] at h
          refine lv_istore_n (lv' := [(3, .int s0_J92), (0, .ref (a0 0)), (2, .int r_4)]) X.1 X.2.1 dX2_readsWriter_92 rfl hl (by decide) rfl (fun ls hl => ?_)
          refine lv_iload_n X.1 X.2.1 dX2_readsWriter_93 rfl (lv_at hl 0 rfl) ?_
          refine lv_iconst (v := (-1)) X.1 X.2.1 dX2_readsWriter_94 (by decide) ?_
          refine lv_icmp_ne (tgt := 100) X.1 X.2.1 dX2_readsWriter_95 (by decide) (fun hc => ?_) (fun hc => ?_)
          · have h := it_f hc h
            refine lv_aload_n X.1 X.2.1 dX2_readsWriter_100 rfl (lv_at hl 1 rfl) ?_
            refine r_get (C := RX2) (T := TX2) (N := 2) (ci := 2) (v := .ref (a1 0)) X iw2 hP 0 rfl rfl 0 rfl mw_2_1 rfl dX2_readsWriter_101 ?_
            refine va_ldcS X.1 X.2.1 X.2.2.2.2.1 (X.2.2.2.2.2.2.2.2.2.2.2.2.2.1 ("PencilUp$EveningReader", 113, "tired", 5) (List.mem_of_getElem? (i := 5) rfl)) dX2_readsWriter_104 ?_
            obtain ⟨r_6, g1_6, hc_6, h⟩ := bd2_el h
            refine call_Vsi (ws := (wEv tc a0 g0 (a1 0) (a2 0) ++ (wTp tc a1 g1_J92 ++ (wSt tc a2 g2 q2_18 q2_19)))) (ws' := (wEv tc a0 g0 (a1 0) (a2 0) ++ (wTp tc a1 g1_6 ++ (wSt tc a2 g2 q2_18 q2_19)))) (wEv tc a0 g0 (a1 0) (a2 0)) (wSt tc a2 g2 q2_18 q2_19) (As := [.ref (sk 5)]) (rest := []) X (c_X10_takesName l dC dI sk sv tc 5 a1 g1_J92 hc_6 (by decide)) mw_3_203 mw_3_204 mw_3_205 mw_1_2 mw_3_206 dc_X10_takesName ⟨Nat.le_of_ble_eq_true rfl, Nat.le_of_ble_eq_true rfl⟩ rfl rfl ⟨Nat.zero_le _, Nat.zero_le _⟩ (by simp only [List.append_assoc, List.nil_append, List.append_nil]) (by simp only [List.append_assoc, List.nil_append, List.append_nil]) hP (hD _ _ _) hS 0 rfl rfl rfl hl.1 (Nat.le_of_ble_eq_true rfl) dX2_readsWriter_106 (fun H locs hP hS => ?_)
            obtain ⟨J126, eJ126, h⟩ := jn_el h
            have HJ126 : ∀ (s0_J126 : Int32) (g1_J126 : Pic) (H : Heap) (locs : List Loc) (ls : Array Slot), J126 s0_J126 g1_J126 = some (r0, G1, G2) → va_P (dC, dI) vwCl (wEv tc a0 g0 (a1 0) (a2 0) ++ (wTp tc a1 g1_J126 ++ (wSt tc a2 g2 q2_18 q2_19))) H → va_S A s.heap H locs → lv_has ls 6 [(0, .ref (a0 0)), (2, .int r_4), (3, .int s0_J92)] → W pr l e rm_X2_readsWriter s m args below meth c H locs 0 0 Q (F0 m 126 ls [.int s0_J126]) := by
              intro s0_J126 g1_J126 H locs ls h hP hS hl
              rw [eJ126] at h
              refine lv_istore (lv' := [(4, .int s0_J126), (0, .ref (a0 0)), (2, .int r_4), (3, .int s0_J92)]) X.1 X.2.1 dX2_readsWriter_126 hl (by decide) rfl (fun ls hl => ?_)
              refine lv_iload X.1 X.2.1 dX2_readsWriter_128 (lv_at hl 0 rfl) ?_
              refine lv_iconst (v := (-1)) X.1 X.2.1 dX2_readsWriter_130 (by decide) ?_
              refine lv_icmp_ne (tgt := 136) X.1 X.2.1 dX2_readsWriter_131 (by decide) (fun hc => ?_) (fun hc => ?_)
              · have h := it_f hc h
                refine lv_aload_n X.1 X.2.1 dX2_readsWriter_136 rfl (lv_at hl 1 rfl) ?_
                refine r_get (C := RX2) (T := TX2) (N := 2) (ci := 2) (v := .ref (a1 0)) X iw2 hP 0 rfl rfl 0 rfl mw_2_1 rfl dX2_readsWriter_137 ?_
                refine va_ldcS X.1 X.2.1 X.2.2.2.2.1 (X.2.2.2.2.2.2.2.2.2.2.2.2.2.1 ("PencilUp$EveningReader", 115, "leaves", 6) (List.mem_of_getElem? (i := 6) rfl)) dX2_readsWriter_140 ?_
                obtain ⟨r_7, g1_7, hc_7, h⟩ := bd2_el h
                refine call_Vsi (ws := (wEv tc a0 g0 (a1 0) (a2 0) ++ (wTp tc a1 g1_J126 ++ (wSt tc a2 g2 q2_18 q2_19)))) (ws' := (wEv tc a0 g0 (a1 0) (a2 0) ++ (wTp tc a1 g1_7 ++ (wSt tc a2 g2 q2_18 q2_19)))) (wEv tc a0 g0 (a1 0) (a2 0)) (wSt tc a2 g2 q2_18 q2_19) (As := [.ref (sk 6)]) (rest := []) X (c_X10_takesName l dC dI sk sv tc 6 a1 g1_J126 hc_7 (by decide)) mw_3_203 mw_3_204 mw_3_205 mw_1_2 mw_3_206 dc_X10_takesName ⟨Nat.le_of_ble_eq_true rfl, Nat.le_of_ble_eq_true rfl⟩ rfl rfl ⟨Nat.zero_le _, Nat.zero_le _⟩ (by simp only [List.append_assoc, List.nil_append, List.append_nil]) (by simp only [List.append_assoc, List.nil_append, List.append_nil]) hP (hD _ _ _) hS 0 rfl rfl rfl hl.1 (Nat.le_of_ble_eq_true rfl) dX2_readsWriter_142 (fun H locs hP hS => ?_)
                obtain ⟨J156, eJ156, h⟩ := jn_el h
                have HJ156 : ∀ (s0_J156 : Int32) (g1_J156 : Pic) (H : Heap) (locs : List Loc) (ls : Array Slot), J156 s0_J156 g1_J156 = some (r0, G1, G2) → va_P (dC, dI) vwCl (wEv tc a0 g0 (a1 0) (a2 0) ++ (wTp tc a1 g1_J156 ++ (wSt tc a2 g2 q2_18 q2_19))) H → va_S A s.heap H locs → lv_has ls 6 [(0, .ref (a0 0)), (2, .int r_4), (3, .int s0_J92), (4, .int s0_J126)] → W pr l e rm_X2_readsWriter s m args below meth c H locs 0 0 Q (F0 m 156 ls [.int s0_J156]) := by
                  intro s0_J156 g1_J156 H locs ls h hP hS hl
                  rw [eJ156] at h
                  refine lv_istore (lv' := [(5, .int s0_J156), (0, .ref (a0 0)), (2, .int r_4), (3, .int s0_J92), (4, .int s0_J126)]) X.1 X.2.1 dX2_readsWriter_156 hl (by decide) rfl (fun ls hl => ?_)
                  refine lv_iload X.1 X.2.1 dX2_readsWriter_158 (lv_at hl 0 rfl) ?_
                  refine lv_iconst (v := (-1)) X.1 X.2.1 dX2_readsWriter_160 (by decide) ?_
                  refine lv_icmp_ne (tgt := 166) X.1 X.2.1 dX2_readsWriter_161 (by decide) (fun hc => ?_) (fun hc => ?_)
                  · have h := it_f hc h
                    refine lv_aload_n X.1 X.2.1 dX2_readsWriter_166 rfl (lv_at hl 1 rfl) ?_
                    refine lv_iload_n X.1 X.2.1 dX2_readsWriter_167 rfl (lv_at hl 2 rfl) ?_
                    refine lv_iload_n X.1 X.2.1 dX2_readsWriter_168 rfl (lv_at hl 3 rfl) ?_
                    refine lv_iload X.1 X.2.1 dX2_readsWriter_169 (lv_at hl 4 rfl) ?_
                    refine lv_iload X.1 X.2.1 dX2_readsWriter_171 (lv_at hl 0 rfl) ?_
                    obtain ⟨g2_8, hc_8, h⟩ := bd_el h
                    refine call_V1v (As := [.int r_4, .int s0_J92, .int s0_J126, .int s0_J156]) (rest := []) X (c_X2_addWriter l dC dI sk sv tc a0 a1 a2 q2_18 q2_19 g0 g1_J156 g2 r_4 s0_J92 s0_J126 s0_J156 hc_8) mw_3_226 mw_3_227 mw_3_228 mw_1_5 mw_3_229 dc_X2_addWriter ⟨Nat.le_of_ble_eq_true rfl, Nat.le_of_ble_eq_true rfl⟩ rfl rfl ⟨Nat.zero_le _, Nat.zero_le _⟩ hP (hD _ _ _) hS 0 rfl rfl rfl hl.1 (Nat.le_of_ble_eq_true rfl) dX2_readsWriter_173 (fun H locs hP hS => ?_)
                    refine lv_iconst (v := 1) X.1 X.2.1 dX2_readsWriter_176 (by decide) ?_
                    exact ret_z (fun u => (wEv tc a0 g0 (a1 0) (a2 0) ++ (wTp tc a1 u.1 ++ (wSt tc a2 u.2 q2_18 q2_19)))) (res := (r0, G1, G2)) (by decide) (Option.some.inj h) X hQ hP hS dX2_readsWriter_177
                  · have h := it_t hc h
                    refine lv_iconst (v := 0) X.1 X.2.1 dX2_readsWriter_164 (by decide) ?_
                    exact ret_z (fun u => (wEv tc a0 g0 (a1 0) (a2 0) ++ (wTp tc a1 u.1 ++ (wSt tc a2 u.2 q2_18 q2_19)))) (res := (r0, G1, G2)) (by decide) (Option.some.inj h) X hQ hP hS dX2_readsWriter_165
                refine lv_if_eq (tgt := 155) X.1 X.2.1 dX2_readsWriter_145 (by decide) (fun hc => ?_) (fun hc => ?_)
                · have h := it_t hc h
                  refine lv_iconst (v := 0) X.1 X.2.1 dX2_readsWriter_155 (by decide) ?_
                  exact HJ156 0 g1_7 H locs ls h hP hS (lv_sub hl [1, 2, 3, 0] rfl)
                · have h := it_f hc h
                  refine lv_aload_n X.1 X.2.1 dX2_readsWriter_148 rfl (lv_at hl 1 rfl) ?_
                  obtain ⟨r_9, g1_9, hc_9, h⟩ := bd2_el h
                  refine call_V1i (As := []) (rest := []) X (c_X2_takeLetterSet l dC dI sk sv tc a0 a1 a2 q2_18 q2_19 g0 g1_7 g2 hc_9) mw_3_222 mw_3_223 mw_3_224 mw_1_5 mw_3_225 dc_X2_takeLetterSet ⟨Nat.le_of_ble_eq_true rfl, Nat.le_of_ble_eq_true rfl⟩ rfl rfl ⟨Nat.zero_le _, Nat.zero_le _⟩ hP (hD _ _ _) hS 0 rfl rfl rfl hl.1 (Nat.le_of_ble_eq_true rfl) dX2_readsWriter_149 (fun H locs hP hS => ?_)
                  refine lv_goto (tgt := 156) X.1 X.2.1 dX2_readsWriter_152 (by decide) ?_
                  exact HJ156 r_9 g1_9 H locs ls h hP hS (lv_sub hl [1, 2, 3, 0] rfl)
              · have h := it_t hc h
                refine lv_iconst (v := 0) X.1 X.2.1 dX2_readsWriter_134 (by decide) ?_
                exact ret_z (fun u => (wEv tc a0 g0 (a1 0) (a2 0) ++ (wTp tc a1 u.1 ++ (wSt tc a2 u.2 q2_18 q2_19)))) (res := (r0, G1, G2)) (by decide) (Option.some.inj h) X hQ hP hS dX2_readsWriter_135
            refine lv_if_eq (tgt := 125) X.1 X.2.1 dX2_readsWriter_109 (by decide) (fun hc => ?_) (fun hc => ?_)
            · have h := it_t hc h
              refine lv_iconst (v := 0) X.1 X.2.1 dX2_readsWriter_125 (by decide) ?_
              exact HJ126 0 g1_6 H locs ls h hP hS (lv_sub hl [1, 2, 0] rfl)
            · have h := it_f hc h
              refine lv_aload_n X.1 X.2.1 dX2_readsWriter_112 rfl (lv_at hl 1 rfl) ?_
              refine r_get (C := RX2) (T := TX2) (N := 2) (ci := 2) (v := .ref (a1 0)) X iw2 hP 0 rfl rfl 0 rfl mw_2_1 rfl dX2_readsWriter_113 ?_
              refine lv_iconst (v := 0) X.1 X.2.1 dX2_readsWriter_116 (by decide) ?_
              refine lv_bipush (v := 99) X.1 X.2.1 dX2_readsWriter_117 (by decide) ?_
              obtain ⟨r_10, g1_10, hc_10, h⟩ := bd2_el h
              refine call_Vsi (ws := (wEv tc a0 g0 (a1 0) (a2 0) ++ (wTp tc a1 g1_6 ++ (wSt tc a2 g2 q2_18 q2_19)))) (ws' := (wEv tc a0 g0 (a1 0) (a2 0) ++ (wTp tc a1 g1_10 ++ (wSt tc a2 g2 q2_18 q2_19)))) (wEv tc a0 g0 (a1 0) (a2 0)) (wSt tc a2 g2 q2_18 q2_19) (As := [.int 0, .int 99]) (rest := []) X (c_X10_takeNumber l dC dI sk sv tc a1 g1_6 0 99 hc_10) mw_3_208 mw_3_209 mw_3_210 mw_1_2 mw_3_211 dc_X10_takeNumber ⟨Nat.le_of_ble_eq_true rfl, Nat.le_of_ble_eq_true rfl⟩ rfl rfl ⟨Nat.zero_le _, Nat.zero_le _⟩ (by simp only [List.append_assoc, List.nil_append, List.append_nil]) (by simp only [List.append_assoc, List.nil_append, List.append_nil]) hP (hD _ _ _) hS 0 rfl rfl rfl hl.1 (Nat.le_of_ble_eq_true rfl) dX2_readsWriter_119 (fun H locs hP hS => ?_)
              refine lv_goto (tgt := 126) X.1 X.2.1 dX2_readsWriter_122 (by decide) ?_
              exact HJ126 r_10 g1_10 H locs ls h hP hS (lv_sub hl [1, 2, 0] rfl)
          · have h := it_t hc h
            refine lv_iconst (v := 0) X.1 X.2.1 dX2_readsWriter_98 (by decide) ?_
            exact ret_z (fun u => (wEv tc a0 g0 (a1 0) (a2 0) ++ (wTp tc a1 u.1 ++ (wSt tc a2 u.2 q2_18 q2_19)))) (res := (r0, G1, G2)) (by decide) (Option.some.inj h) X hQ hP hS dX2_readsWriter_99
        refine lv_if_eq (tgt := 91) X.1 X.2.1 dX2_readsWriter_75 (by decide) (fun hc => ?_) (fun hc => ?_)
        · have h := it_t hc h
          refine lv_iconst (v := 0) X.1 X.2.1 dX2_readsWriter_91 (by decide) ?_
          exact HJ92 0 g1_5 H locs ls h hP hS (lv_sub hl [2, 0] rfl)
        · have h := it_f hc h
          refine lv_aload_n X.1 X.2.1 dX2_readsWriter_78 rfl (lv_at hl 2 rfl) ?_
          refine r_get (C := RX2) (T := TX2) (N := 2) (ci := 2) (v := .ref (a1 0)) X iw2 hP 0 rfl rfl 0 rfl mw_2_1 rfl dX2_readsWriter_79 ?_
          refine lv_iconst (v := 0) X.1 X.2.1 dX2_readsWriter_82 (by decide) ?_
          refine lv_bipush (v := 9) X.1 X.2.1 dX2_readsWriter_83 (by decide) ?_
          obtain ⟨r_11, g1_11, hc_11, h⟩ := bd2_el h
          refine call_Vsi (ws := (wEv tc a0 g0 (a1 0) (a2 0) ++ (wTp tc a1 g1_5 ++ (wSt tc a2 g2 q2_18 q2_19)))) (ws' := (wEv tc a0 g0 (a1 0) (a2 0) ++ (wTp tc a1 g1_11 ++ (wSt tc a2 g2 q2_18 q2_19)))) (wEv tc a0 g0 (a1 0) (a2 0)) (wSt tc a2 g2 q2_18 q2_19) (As := [.int 0, .int 9]) (rest := []) X (c_X10_takeNumber l dC dI sk sv tc a1 g1_5 0 9 hc_11) mw_3_208 mw_3_209 mw_3_210 mw_1_2 mw_3_211 dc_X10_takeNumber ⟨Nat.le_of_ble_eq_true rfl, Nat.le_of_ble_eq_true rfl⟩ rfl rfl ⟨Nat.zero_le _, Nat.zero_le _⟩ (by simp only [List.append_assoc, List.nil_append, List.append_nil]) (by simp only [List.append_assoc, List.nil_append, List.append_nil]) hP (hD _ _ _) hS 0 rfl rfl rfl hl.1 (Nat.le_of_ble_eq_true rfl) dX2_readsWriter_85 (fun H locs hP hS => ?_)
          refine lv_goto (tgt := 92) X.1 X.2.1 dX2_readsWriter_88 (by decide) ?_
          exact HJ92 r_11 g1_11 H locs ls h hP hS (lv_sub hl [2, 0] rfl)
      · have h := it_t hc h
        refine lv_iconst (v := 0) X.1 X.2.1 dX2_readsWriter_64 (by decide) ?_
        exact ret_z (fun u => (wEv tc a0 g0 (a1 0) (a2 0) ++ (wTp tc a1 u.1 ++ (wSt tc a2 u.2 q2_18 q2_19)))) (res := (r0, G1, G2)) (by decide) (Option.some.inj h) X hQ hP hS dX2_readsWriter_65
    · have h := it_t hc h
      refine lv_aload_n X.1 X.2.1 dX2_readsWriter_40 rfl (lv_at hl 1 rfl) ?_
      refine r_get (C := RX2) (T := TX2) (N := 2) (ci := 2) (v := .ref (a1 0)) X iw2 hP 0 rfl rfl 0 rfl mw_2_1 rfl dX2_readsWriter_41 ?_
      obtain ⟨r_12, g1_12, hc_12, h⟩ := bd2_el h
      refine call_Vsi (ws := (wEv tc a0 g0 (a1 0) (a2 0) ++ (wTp tc a1 g1_3 ++ (wSt tc a2 g2 q2_18 q2_19)))) (ws' := (wEv tc a0 g0 (a1 0) (a2 0) ++ (wTp tc a1 g1_12 ++ (wSt tc a2 g2 q2_18 q2_19)))) (wEv tc a0 g0 (a1 0) (a2 0)) (wSt tc a2 g2 q2_18 q2_19) (As := []) (rest := []) X (c_X10_refuse l dC dI sk sv tc a1 g1_3 hc_12) mw_3_193 mw_3_194 mw_3_195 mw_1_2 mw_3_196 dc_X10_refuse ⟨Nat.le_of_ble_eq_true rfl, Nat.le_of_ble_eq_true rfl⟩ rfl rfl ⟨Nat.zero_le _, Nat.zero_le _⟩ (by simp only [List.append_assoc, List.nil_append, List.append_nil]) (by simp only [List.append_assoc, List.nil_append, List.append_nil]) hP (hD _ _ _) hS 0 rfl rfl rfl hl.1 (Nat.le_of_ble_eq_true rfl) dX2_readsWriter_44 (fun H locs hP hS => ?_)
      obtain ⟨hg_13, h⟩ := gdb_el h
      exact ret_z (fun u => (wEv tc a0 g0 (a1 0) (a2 0) ++ (wTp tc a1 u.1 ++ (wSt tc a2 u.2 q2_18 q2_19)))) (res := (r0, G1, G2)) hg_13 (Option.some.inj h) X hQ hP hS dX2_readsWriter_47
  · have h := it_f hc h
    refine lv_aload_n X.1 X.2.1 dX2_readsWriter_13 rfl (lv_at hl 1 rfl) ?_
    refine r_get (C := RX2) (T := TX2) (N := 2) (ci := 2) (v := .ref (a1 0)) X iw2 hP 0 rfl rfl 0 rfl mw_2_1 rfl dX2_readsWriter_14 ?_
    obtain ⟨r_14, g1_14, hc_14, h⟩ := bd2_el h
    refine call_Vsi (ws := (wEv tc a0 g0 (a1 0) (a2 0) ++ (wTp tc a1 g1 ++ (wSt tc a2 g2 q2_18 q2_19)))) (ws' := (wEv tc a0 g0 (a1 0) (a2 0) ++ (wTp tc a1 g1_14 ++ (wSt tc a2 g2 q2_18 q2_19)))) (wEv tc a0 g0 (a1 0) (a2 0)) (wSt tc a2 g2 q2_18 q2_19) (As := []) (rest := []) X (c_X10_refuse l dC dI sk sv tc a1 g1 hc_14) mw_3_193 mw_3_194 mw_3_195 mw_1_2 mw_3_196 dc_X10_refuse ⟨Nat.le_of_ble_eq_true rfl, Nat.le_of_ble_eq_true rfl⟩ rfl rfl ⟨Nat.zero_le _, Nat.zero_le _⟩ (by simp only [List.append_assoc, List.nil_append, List.append_nil]) (by simp only [List.append_assoc, List.nil_append, List.append_nil]) hP (hD _ _ _) hS 0 rfl rfl rfl hl.1 (Nat.le_of_ble_eq_true rfl) dX2_readsWriter_17 (fun H locs hP hS => ?_)
    obtain ⟨hg_15, h⟩ := gdb_el h
    exact ret_z (fun u => (wEv tc a0 g0 (a1 0) (a2 0) ++ (wTp tc a1 u.1 ++ (wSt tc a2 u.2 q2_18 q2_19)))) (res := (r0, G1, G2)) hg_15 (Option.some.inj h) X hQ hP hS dX2_readsWriter_20

def f_X2_readsLine (g0 : Pic) (g1 : Pic) (g2 : Pic) : Option (Int32 × Pic × Pic) := bd (f_X10_isName 0 g1) (fun r_1 => (if r_1 = 0 then bd (f_X10_isName 2 g1) (fun r_2 => (if r_2 = 0 then bd2 (f_X10_takesName 7 g1) (fun r_3 g1_3 => (if r_3 = 0 then bd2 (f_X10_takesName 8 g1_3) (fun r_4 g1_4 => (if r_4 = 0 then bd2 (f_X10_takesName 9 g1_4) (fun r_5 g1_5 => (if r_5 = 0 then bd2 (f_X10_takesName 10 g1_5) (fun r_6 g1_6 => (if r_6 = 0 then bd2 (f_X10_refuse g1_6) (fun r_7 g1_7 => gdb r_7 (some (r_7, g1_7, g2))) else bd2 (f_X10_takeNumber g1_6 0 999) (fun r_9 g1_9 => nm (pu g2 15 0 r_9) (fun g2_10 => jn (fun (s0_J189 : Int32) => gdb s0_J189 (some (s0_J189, g1_9, g2_10))) (fun J189 => (if (g2_10 15 0) = (-1) then J189 0 else J189 1)))))) else bd2 (f_X10_takeNumber g1_5 0 100) (fun r_12 g1_12 => nm (pu g2 14 0 r_12) (fun g2_13 => jn (fun (s0_J142 : Int32) => gdb s0_J142 (some (s0_J142, g1_12, g2_13))) (fun J142 => (if (g2_13 14 0) = (-1) then J142 0 else J142 1)))))) else bd2 (f_X10_takeNumber g1_4 1 9) (fun r_15 g1_15 => nm (pu g2 13 0 r_15) (fun g2_16 => jn (fun (s0_J96 : Int32) => gdb s0_J96 (some (s0_J96, g1_15, g2_16))) (fun J96 => (if (g2_16 13 0) = (-1) then J96 0 else J96 1)))))) else bd3 (f_X2_readsSpeech g0 g1_3 g2) (fun r_18 g1_18 g2_18 => gdb r_18 (some (r_18, g1_18, g2_18))))) else bd3 (f_X2_readsWriter g0 g1 g2) (fun r_20 g1_20 g2_20 => gdb r_20 (some (r_20, g1_20, g2_20))))) else bd3 (f_X2_readsWord g0 g1 g2) (fun r_22 g1_22 g2_22 => gdb r_22 (some (r_22, g1_22, g2_22)))))
abbrev rm_X2_readsLine : Room := { frames := 7, cells := 0, slots := 0, locals := 180 }
set_option maxHeartbeats 4000000 in
set_option maxRecDepth 100000 in
theorem c_X2_readsLine (l : Launch) (dC : Nat → ClassId) (dI : Nat → Nat → Nat) (sk sv : Nat → Nat) (tc : Nat → ClassId) (a0 : Nat → Nat) (a1 : Nat → Nat) (a2 : Nat → Nat) (q2_18 : Option Nat) (q2_19 : Nat) (g0 : Pic) (g1 : Pic) (g2 : Pic) {r0 : Int32} {G1 : Pic} {G2 : Pic} (h : f_X2_readsLine g0 g1 g2 = some (r0, G1, G2)) : CT l (dC, dI) sk sv (TY tc) yX2_readsLine cX2_readsLine 1 (some .boolean) rm_X2_readsLine [.ref (a0 0)] (wEv tc a0 g0 (a1 0) (a2 0) ++ (wTp tc a1 g1 ++ (wSt tc a2 g2 q2_18 q2_19))) (some (.int r0)) (wEv tc a0 g0 (a1 0) (a2 0) ++ (wTp tc a1 G1 ++ (wSt tc a2 G2 q2_18 q2_19))) := by
  refine ofCT (by decide) (Nat.le_of_ble_eq_true rfl) ?_
  intro pr e s m args below meth c A Q ls H locs X hQ hD0 hP hS hl
  have hD : ∀ z0 z1 z2, va_D A (wEv tc a0 z0 (a1 0) (a2 0) ++ (wTp tc a1 z1 ++ (wSt tc a2 z2 q2_18 q2_19))) := fun z0 z1 z2 => D_fst (ws := (wEv tc a0 g0 (a1 0) (a2 0) ++ (wTp tc a1 g1 ++ (wSt tc a2 g2 q2_18 q2_19)))) rfl hD0
  have hl : lv_has ls 1 [(0, .ref (a0 0))] := hl
  unfold f_X2_readsLine at h
  refine lv_aload_n X.1 X.2.1 dX2_readsLine_0 rfl (lv_at hl 0 rfl) ?_
  refine r_get (C := RX2) (T := TX2) (N := 2) (ci := 2) (v := .ref (a1 0)) X iw2 hP 0 rfl rfl 0 rfl mw_2_1 rfl dX2_readsLine_1 ?_
  refine va_ldcS X.1 X.2.1 X.2.2.2.2.1 (X.2.2.2.2.2.2.2.2.2.2.2.2.2.1 ("PencilUp$EveningReader", 39, "word", 0) (List.mem_of_getElem? (i := 0) rfl)) dX2_readsLine_4 ?_
  obtain ⟨r_1, hc_1, h⟩ := bd_el h
  refine call_Vsi (ws := (wEv tc a0 g0 (a1 0) (a2 0) ++ (wTp tc a1 g1 ++ (wSt tc a2 g2 q2_18 q2_19)))) (ws' := (wEv tc a0 g0 (a1 0) (a2 0) ++ (wTp tc a1 g1 ++ (wSt tc a2 g2 q2_18 q2_19)))) (wEv tc a0 g0 (a1 0) (a2 0)) (wSt tc a2 g2 q2_18 q2_19) (As := [.ref (sk 0)]) (rest := []) X (c_X10_isName l dC dI sk sv tc 0 a1 g1 hc_1 (by decide)) mw_3_137 mw_3_138 mw_3_139 mw_1_2 mw_3_140 dc_X10_isName ⟨Nat.le_of_ble_eq_true rfl, Nat.le_of_ble_eq_true rfl⟩ rfl rfl ⟨Nat.zero_le _, Nat.zero_le _⟩ (by simp only [List.append_assoc, List.nil_append, List.append_nil]) (by simp only [List.append_assoc, List.nil_append, List.append_nil]) hP (hD _ _ _) hS 0 rfl rfl rfl hl.1 (Nat.le_of_ble_eq_true rfl) dX2_readsLine_6 (fun H locs hP hS => ?_)
  refine lv_if_eq (tgt := 17) X.1 X.2.1 dX2_readsLine_9 (by decide) (fun hc => ?_) (fun hc => ?_)
  · have h := it_t hc h
    refine lv_aload_n X.1 X.2.1 dX2_readsLine_17 rfl (lv_at hl 0 rfl) ?_
    refine r_get (C := RX2) (T := TX2) (N := 2) (ci := 2) (v := .ref (a1 0)) X iw2 hP 0 rfl rfl 0 rfl mw_2_1 rfl dX2_readsLine_18 ?_
    refine va_ldcS X.1 X.2.1 X.2.2.2.2.1 (X.2.2.2.2.2.2.2.2.2.2.2.2.2.1 ("PencilUp$EveningReader", 48, "writer", 2) (List.mem_of_getElem? (i := 2) rfl)) dX2_readsLine_21 ?_
    obtain ⟨r_2, hc_2, h⟩ := bd_el h
    refine call_Vsi (ws := (wEv tc a0 g0 (a1 0) (a2 0) ++ (wTp tc a1 g1 ++ (wSt tc a2 g2 q2_18 q2_19)))) (ws' := (wEv tc a0 g0 (a1 0) (a2 0) ++ (wTp tc a1 g1 ++ (wSt tc a2 g2 q2_18 q2_19)))) (wEv tc a0 g0 (a1 0) (a2 0)) (wSt tc a2 g2 q2_18 q2_19) (As := [.ref (sk 2)]) (rest := []) X (c_X10_isName l dC dI sk sv tc 2 a1 g1 hc_2 (by decide)) mw_3_137 mw_3_138 mw_3_139 mw_1_2 mw_3_140 dc_X10_isName ⟨Nat.le_of_ble_eq_true rfl, Nat.le_of_ble_eq_true rfl⟩ rfl rfl ⟨Nat.zero_le _, Nat.zero_le _⟩ (by simp only [List.append_assoc, List.nil_append, List.append_nil]) (by simp only [List.append_assoc, List.nil_append, List.append_nil]) hP (hD _ _ _) hS 0 rfl rfl rfl hl.1 (Nat.le_of_ble_eq_true rfl) dX2_readsLine_23 (fun H locs hP hS => ?_)
    refine lv_if_eq (tgt := 34) X.1 X.2.1 dX2_readsLine_26 (by decide) (fun hc => ?_) (fun hc => ?_)
    · have h := it_t hc h
      refine lv_aload_n X.1 X.2.1 dX2_readsLine_34 rfl (lv_at hl 0 rfl) ?_
      refine r_get (C := RX2) (T := TX2) (N := 2) (ci := 2) (v := .ref (a1 0)) X iw2 hP 0 rfl rfl 0 rfl mw_2_1 rfl dX2_readsLine_35 ?_
      refine va_ldcS X.1 X.2.1 X.2.2.2.2.1 (X.2.2.2.2.2.2.2.2.2.2.2.2.2.1 ("PencilUp$EveningReader", 53, "speech", 7) (List.mem_of_getElem? (i := 7) rfl)) dX2_readsLine_38 ?_
      obtain ⟨r_3, g1_3, hc_3, h⟩ := bd2_el h
      refine call_Vsi (ws := (wEv tc a0 g0 (a1 0) (a2 0) ++ (wTp tc a1 g1 ++ (wSt tc a2 g2 q2_18 q2_19)))) (ws' := (wEv tc a0 g0 (a1 0) (a2 0) ++ (wTp tc a1 g1_3 ++ (wSt tc a2 g2 q2_18 q2_19)))) (wEv tc a0 g0 (a1 0) (a2 0)) (wSt tc a2 g2 q2_18 q2_19) (As := [.ref (sk 7)]) (rest := []) X (c_X10_takesName l dC dI sk sv tc 7 a1 g1 hc_3 (by decide)) mw_3_203 mw_3_204 mw_3_205 mw_1_2 mw_3_206 dc_X10_takesName ⟨Nat.le_of_ble_eq_true rfl, Nat.le_of_ble_eq_true rfl⟩ rfl rfl ⟨Nat.zero_le _, Nat.zero_le _⟩ (by simp only [List.append_assoc, List.nil_append, List.append_nil]) (by simp only [List.append_assoc, List.nil_append, List.append_nil]) hP (hD _ _ _) hS 0 rfl rfl rfl hl.1 (Nat.le_of_ble_eq_true rfl) dX2_readsLine_40 (fun H locs hP hS => ?_)
      refine lv_if_eq (tgt := 51) X.1 X.2.1 dX2_readsLine_43 (by decide) (fun hc => ?_) (fun hc => ?_)
      · have h := it_t hc h
        refine lv_aload_n X.1 X.2.1 dX2_readsLine_51 rfl (lv_at hl 0 rfl) ?_
        refine r_get (C := RX2) (T := TX2) (N := 2) (ci := 2) (v := .ref (a1 0)) X iw2 hP 0 rfl rfl 0 rfl mw_2_1 rfl dX2_readsLine_52 ?_
        refine va_ldcS X.1 X.2.1 X.2.2.2.2.1 (X.2.2.2.2.2.2.2.2.2.2.2.2.2.1 ("PencilUp$EveningReader", 61, "tempo", 8) (List.mem_of_getElem? (i := 8) rfl)) dX2_readsLine_55 ?_
        obtain ⟨r_4, g1_4, hc_4, h⟩ := bd2_el h
        refine call_Vsi (ws := (wEv tc a0 g0 (a1 0) (a2 0) ++ (wTp tc a1 g1_3 ++ (wSt tc a2 g2 q2_18 q2_19)))) (ws' := (wEv tc a0 g0 (a1 0) (a2 0) ++ (wTp tc a1 g1_4 ++ (wSt tc a2 g2 q2_18 q2_19)))) (wEv tc a0 g0 (a1 0) (a2 0)) (wSt tc a2 g2 q2_18 q2_19) (As := [.ref (sk 8)]) (rest := []) X (c_X10_takesName l dC dI sk sv tc 8 a1 g1_3 hc_4 (by decide)) mw_3_203 mw_3_204 mw_3_205 mw_1_2 mw_3_206 dc_X10_takesName ⟨Nat.le_of_ble_eq_true rfl, Nat.le_of_ble_eq_true rfl⟩ rfl rfl ⟨Nat.zero_le _, Nat.zero_le _⟩ (by simp only [List.append_assoc, List.nil_append, List.append_nil]) (by simp only [List.append_assoc, List.nil_append, List.append_nil]) hP (hD _ _ _) hS 0 rfl rfl rfl hl.1 (Nat.le_of_ble_eq_true rfl) dX2_readsLine_57 (fun H locs hP hS => ?_)
        refine lv_if_eq (tgt := 97) X.1 X.2.1 dX2_readsLine_60 (by decide) (fun hc => ?_) (fun hc => ?_)
        · have h := it_t hc h
          refine lv_aload_n X.1 X.2.1 dX2_readsLine_97 rfl (lv_at hl 0 rfl) ?_
          refine r_get (C := RX2) (T := TX2) (N := 2) (ci := 2) (v := .ref (a1 0)) X iw2 hP 0 rfl rfl 0 rfl mw_2_1 rfl dX2_readsLine_98 ?_
          refine va_ldcS X.1 X.2.1 X.2.2.2.2.1 (X.2.2.2.2.2.2.2.2.2.2.2.2.2.1 ("PencilUp$EveningReader", 71, "slip", 9) (List.mem_of_getElem? (i := 9) rfl)) dX2_readsLine_101 ?_
          obtain ⟨r_5, g1_5, hc_5, h⟩ := bd2_el h
          refine call_Vsi (ws := (wEv tc a0 g0 (a1 0) (a2 0) ++ (wTp tc a1 g1_4 ++ (wSt tc a2 g2 q2_18 q2_19)))) (ws' := (wEv tc a0 g0 (a1 0) (a2 0) ++ (wTp tc a1 g1_5 ++ (wSt tc a2 g2 q2_18 q2_19)))) (wEv tc a0 g0 (a1 0) (a2 0)) (wSt tc a2 g2 q2_18 q2_19) (As := [.ref (sk 9)]) (rest := []) X (c_X10_takesName l dC dI sk sv tc 9 a1 g1_4 hc_5 (by decide)) mw_3_203 mw_3_204 mw_3_205 mw_1_2 mw_3_206 dc_X10_takesName ⟨Nat.le_of_ble_eq_true rfl, Nat.le_of_ble_eq_true rfl⟩ rfl rfl ⟨Nat.zero_le _, Nat.zero_le _⟩ (by simp only [List.append_assoc, List.nil_append, List.append_nil]) (by simp only [List.append_assoc, List.nil_append, List.append_nil]) hP (hD _ _ _) hS 0 rfl rfl rfl hl.1 (Nat.le_of_ble_eq_true rfl) dX2_readsLine_103 (fun H locs hP hS => ?_)
          refine lv_if_eq (tgt := 143) X.1 X.2.1 dX2_readsLine_106 (by decide) (fun hc => ?_) (fun hc => ?_)
          · have h := it_t hc h
            refine lv_aload_n X.1 X.2.1 dX2_readsLine_143 rfl (lv_at hl 0 rfl) ?_
            refine r_get (C := RX2) (T := TX2) (N := 2) (ci := 2) (v := .ref (a1 0)) X iw2 hP 0 rfl rfl 0 rfl mw_2_1 rfl dX2_readsLine_144 ?_
            refine va_ldcS X.1 X.2.1 X.2.2.2.2.1 (X.2.2.2.2.2.2.2.2.2.2.2.2.2.1 ("PencilUp$EveningReader", 75, "minute", 10) (List.mem_of_getElem? (i := 10) rfl)) dX2_readsLine_147 ?_
            obtain ⟨r_6, g1_6, hc_6, h⟩ := bd2_el h
            refine call_Vsi (ws := (wEv tc a0 g0 (a1 0) (a2 0) ++ (wTp tc a1 g1_5 ++ (wSt tc a2 g2 q2_18 q2_19)))) (ws' := (wEv tc a0 g0 (a1 0) (a2 0) ++ (wTp tc a1 g1_6 ++ (wSt tc a2 g2 q2_18 q2_19)))) (wEv tc a0 g0 (a1 0) (a2 0)) (wSt tc a2 g2 q2_18 q2_19) (As := [.ref (sk 10)]) (rest := []) X (c_X10_takesName l dC dI sk sv tc 10 a1 g1_5 hc_6 (by decide)) mw_3_203 mw_3_204 mw_3_205 mw_1_2 mw_3_206 dc_X10_takesName ⟨Nat.le_of_ble_eq_true rfl, Nat.le_of_ble_eq_true rfl⟩ rfl rfl ⟨Nat.zero_le _, Nat.zero_le _⟩ (by simp only [List.append_assoc, List.nil_append, List.append_nil]) (by simp only [List.append_assoc, List.nil_append, List.append_nil]) hP (hD _ _ _) hS 0 rfl rfl rfl hl.1 (Nat.le_of_ble_eq_true rfl) dX2_readsLine_149 (fun H locs hP hS => ?_)
            refine lv_if_eq (tgt := 190) X.1 X.2.1 dX2_readsLine_152 (by decide) (fun hc => ?_) (fun hc => ?_)
            · have h := it_t hc h
              refine lv_aload_n X.1 X.2.1 dX2_readsLine_190 rfl (lv_at hl 0 rfl) ?_
              refine r_get (C := RX2) (T := TX2) (N := 2) (ci := 2) (v := .ref (a1 0)) X iw2 hP 0 rfl rfl 0 rfl mw_2_1 rfl dX2_readsLine_191 ?_
              obtain ⟨r_7, g1_7, hc_7, h⟩ := bd2_el h
              refine call_Vsi (ws := (wEv tc a0 g0 (a1 0) (a2 0) ++ (wTp tc a1 g1_6 ++ (wSt tc a2 g2 q2_18 q2_19)))) (ws' := (wEv tc a0 g0 (a1 0) (a2 0) ++ (wTp tc a1 g1_7 ++ (wSt tc a2 g2 q2_18 q2_19)))) (wEv tc a0 g0 (a1 0) (a2 0)) (wSt tc a2 g2 q2_18 q2_19) (As := []) (rest := []) X (c_X10_refuse l dC dI sk sv tc a1 g1_6 hc_7) mw_3_193 mw_3_194 mw_3_195 mw_1_2 mw_3_196 dc_X10_refuse ⟨Nat.le_of_ble_eq_true rfl, Nat.le_of_ble_eq_true rfl⟩ rfl rfl ⟨Nat.zero_le _, Nat.zero_le _⟩ (by simp only [List.append_assoc, List.nil_append, List.append_nil]) (by simp only [List.append_assoc, List.nil_append, List.append_nil]) hP (hD _ _ _) hS 0 rfl rfl rfl hl.1 (Nat.le_of_ble_eq_true rfl) dX2_readsLine_194 (fun H locs hP hS => ?_)
              obtain ⟨hg_8, h⟩ := gdb_el h
              exact ret_z (fun u => (wEv tc a0 g0 (a1 0) (a2 0) ++ (wTp tc a1 u.1 ++ (wSt tc a2 u.2 q2_18 q2_19)))) (res := (r0, G1, G2)) hg_8 (Option.some.inj h) X hQ hP hS dX2_readsLine_197
            · have h := it_f hc h
              refine lv_aload_n X.1 X.2.1 dX2_readsLine_155 rfl (lv_at hl 0 rfl) ?_
              refine r_get (C := RX2) (T := TX2) (N := 2) (ci := 2) (v := .ref (a2 0)) X iw2 hP 0 rfl rfl 1 rfl mw_2_2 rfl dX2_readsLine_156 ?_
              refine lv_aload_n X.1 X.2.1 dX2_readsLine_159 rfl (lv_at hl 0 rfl) ?_
              refine r_get (C := RX2) (T := TX2) (N := 2) (ci := 2) (v := .ref (a1 0)) X iw2 hP 0 rfl rfl 0 rfl mw_2_1 rfl dX2_readsLine_160 ?_
              refine lv_iconst (v := 0) X.1 X.2.1 dX2_readsLine_163 (by decide) ?_
              refine lv_sipush (v := 999) X.1 X.2.1 dX2_readsLine_164 (by decide) ?_
              obtain ⟨r_9, g1_9, hc_9, h⟩ := bd2_el h
              refine call_Vsi (ws := (wEv tc a0 g0 (a1 0) (a2 0) ++ (wTp tc a1 g1_6 ++ (wSt tc a2 g2 q2_18 q2_19)))) (ws' := (wEv tc a0 g0 (a1 0) (a2 0) ++ (wTp tc a1 g1_9 ++ (wSt tc a2 g2 q2_18 q2_19)))) (wEv tc a0 g0 (a1 0) (a2 0)) (wSt tc a2 g2 q2_18 q2_19) (As := [.int 0, .int 999]) (rest := [.ref (a2 0)]) X (c_X10_takeNumber l dC dI sk sv tc a1 g1_6 0 999 hc_9) mw_3_208 mw_3_209 mw_3_210 mw_1_2 mw_3_211 dc_X10_takeNumber ⟨Nat.le_of_ble_eq_true rfl, Nat.le_of_ble_eq_true rfl⟩ rfl rfl ⟨Nat.zero_le _, Nat.zero_le _⟩ (by simp only [List.append_assoc, List.nil_append, List.append_nil]) (by simp only [List.append_assoc, List.nil_append, List.append_nil]) hP (hD _ _ _) hS 0 rfl rfl rfl hl.1 (Nat.le_of_ble_eq_true rfl) dX2_readsLine_167 (fun H locs hP hS => ?_)
              obtain ⟨g2_10, eg2_10, h⟩ := nm_el h
              refine r_put (C := RX9) (T := TX9) (N := 20) (ci := 9) tyX9 tyX9_ok nmX9 X iw9 hP (hD _ _ _) hS 3 rfl rfl 15 rfl mw_1_182 rfl rfl rfl rfl dX2_readsLine_170 (wEv tc a0 g0 (a1 0) (a2 0) ++ (wTp tc a1 g1_9 ++ (wSt tc a2 g2_10 q2_18 q2_19))) (by rw [eg2_10]; rfl) (fun H locs hP hS => ?_)
              refine lv_aload_n X.1 X.2.1 dX2_readsLine_173 rfl (lv_at hl 0 rfl) ?_
              refine r_get (C := RX2) (T := TX2) (N := 2) (ci := 2) (v := .ref (a2 0)) X iw2 hP 0 rfl rfl 1 rfl mw_2_2 rfl dX2_readsLine_174 ?_
              refine r_get (C := RX9) (T := TX9) (N := 20) (ci := 9) (v := .int (g2_10 15 0)) X iw9 hP 3 rfl rfl 15 rfl mw_1_182 rfl dX2_readsLine_177 ?_
              refine lv_iconst (v := (-1)) X.1 X.2.1 dX2_readsLine_180 (by decide) ?_
              obtain ⟨J189, eJ189, h⟩ := jn_el h
              have HJ189 : ∀ (s0_J189 : Int32) (H : Heap) (locs : List Loc) (ls : Array Slot), J189 s0_J189 = some (r0, G1, G2) → va_P (dC, dI) vwCl (wEv tc a0 g0 (a1 0) (a2 0) ++ (wTp tc a1 g1_9 ++ (wSt tc a2 g2_10 q2_18 q2_19))) H → va_S A s.heap H locs → lv_has ls 1 [] → W pr l e rm_X2_readsLine s m args below meth c H locs 0 0 Q (F0 m 189 ls [.int s0_J189]) := by
                intro s0_J189 H locs ls h hP hS hl
                rw [eJ189] at h
                obtain ⟨hg_11, h⟩ := gdb_el h
                exact ret_z (fun u => (wEv tc a0 g0 (a1 0) (a2 0) ++ (wTp tc a1 u.1 ++ (wSt tc a2 u.2 q2_18 q2_19)))) (res := (r0, G1, G2)) hg_11 (Option.some.inj h) X hQ hP hS dX2_readsLine_189
              refine lv_icmp_eq (tgt := 188) X.1 X.2.1 dX2_readsLine_181 (by decide) (fun hc => ?_) (fun hc => ?_)
              · have h := it_t hc h
                refine lv_iconst (v := 0) X.1 X.2.1 dX2_readsLine_188 (by decide) ?_
                exact HJ189 0 H locs ls h hP hS (lv_sub hl [] rfl)
              · have h := it_f hc h
                refine lv_iconst (v := 1) X.1 X.2.1 dX2_readsLine_184 (by decide) ?_
                refine lv_goto (tgt := 189) X.1 X.2.1 dX2_readsLine_185 (by decide) ?_
                exact HJ189 1 H locs ls h hP hS (lv_sub hl [] rfl)
          · have h := it_f hc h
            refine lv_aload_n X.1 X.2.1 dX2_readsLine_109 rfl (lv_at hl 0 rfl) ?_
            refine r_get (C := RX2) (T := TX2) (N := 2) (ci := 2) (v := .ref (a2 0)) X iw2 hP 0 rfl rfl 1 rfl mw_2_2 rfl dX2_readsLine_110 ?_
            refine lv_aload_n X.1 X.2.1 dX2_readsLine_113 rfl (lv_at hl 0 rfl) ?_
            refine r_get (C := RX2) (T := TX2) (N := 2) (ci := 2) (v := .ref (a1 0)) X iw2 hP 0 rfl rfl 0 rfl mw_2_1 rfl dX2_readsLine_114 ?_
            refine lv_iconst (v := 0) X.1 X.2.1 dX2_readsLine_117 (by decide) ?_
            refine lv_bipush (v := 100) X.1 X.2.1 dX2_readsLine_118 (by decide) ?_
            obtain ⟨r_12, g1_12, hc_12, h⟩ := bd2_el h
            refine call_Vsi (ws := (wEv tc a0 g0 (a1 0) (a2 0) ++ (wTp tc a1 g1_5 ++ (wSt tc a2 g2 q2_18 q2_19)))) (ws' := (wEv tc a0 g0 (a1 0) (a2 0) ++ (wTp tc a1 g1_12 ++ (wSt tc a2 g2 q2_18 q2_19)))) (wEv tc a0 g0 (a1 0) (a2 0)) (wSt tc a2 g2 q2_18 q2_19) (As := [.int 0, .int 100]) (rest := [.ref (a2 0)]) X (c_X10_takeNumber l dC dI sk sv tc a1 g1_5 0 100 hc_12) mw_3_208 mw_3_209 mw_3_210 mw_1_2 mw_3_211 dc_X10_takeNumber ⟨Nat.le_of_ble_eq_true rfl, Nat.le_of_ble_eq_true rfl⟩ rfl rfl ⟨Nat.zero_le _, Nat.zero_le _⟩ (by simp only [List.append_assoc, List.nil_append, List.append_nil]) (by simp only [List.append_assoc, List.nil_append, List.append_nil]) hP (hD _ _ _) hS 0 rfl rfl rfl hl.1 (Nat.le_of_ble_eq_true rfl) dX2_readsLine_120 (fun H locs hP hS => ?_)
            obtain ⟨g2_13, eg2_13, h⟩ := nm_el h
            refine r_put (C := RX9) (T := TX9) (N := 20) (ci := 9) tyX9 tyX9_ok nmX9 X iw9 hP (hD _ _ _) hS 3 rfl rfl 14 rfl mw_1_177 rfl rfl rfl rfl dX2_readsLine_123 (wEv tc a0 g0 (a1 0) (a2 0) ++ (wTp tc a1 g1_12 ++ (wSt tc a2 g2_13 q2_18 q2_19))) (by rw [eg2_13]; rfl) (fun H locs hP hS => ?_)
            refine lv_aload_n X.1 X.2.1 dX2_readsLine_126 rfl (lv_at hl 0 rfl) ?_
            refine r_get (C := RX2) (T := TX2) (N := 2) (ci := 2) (v := .ref (a2 0)) X iw2 hP 0 rfl rfl 1 rfl mw_2_2 rfl dX2_readsLine_127 ?_
            refine r_get (C := RX9) (T := TX9) (N := 20) (ci := 9) (v := .int (g2_13 14 0)) X iw9 hP 3 rfl rfl 14 rfl mw_1_177 rfl dX2_readsLine_130 ?_
            refine lv_iconst (v := (-1)) X.1 X.2.1 dX2_readsLine_133 (by decide) ?_
            obtain ⟨J142, eJ142, h⟩ := jn_el h
            have HJ142 : ∀ (s0_J142 : Int32) (H : Heap) (locs : List Loc) (ls : Array Slot), J142 s0_J142 = some (r0, G1, G2) → va_P (dC, dI) vwCl (wEv tc a0 g0 (a1 0) (a2 0) ++ (wTp tc a1 g1_12 ++ (wSt tc a2 g2_13 q2_18 q2_19))) H → va_S A s.heap H locs → lv_has ls 1 [] → W pr l e rm_X2_readsLine s m args below meth c H locs 0 0 Q (F0 m 142 ls [.int s0_J142]) := by
              intro s0_J142 H locs ls h hP hS hl
              rw [eJ142] at h
              obtain ⟨hg_14, h⟩ := gdb_el h
              exact ret_z (fun u => (wEv tc a0 g0 (a1 0) (a2 0) ++ (wTp tc a1 u.1 ++ (wSt tc a2 u.2 q2_18 q2_19)))) (res := (r0, G1, G2)) hg_14 (Option.some.inj h) X hQ hP hS dX2_readsLine_142
            refine lv_icmp_eq (tgt := 141) X.1 X.2.1 dX2_readsLine_134 (by decide) (fun hc => ?_) (fun hc => ?_)
            · have h := it_t hc h
              refine lv_iconst (v := 0) X.1 X.2.1 dX2_readsLine_141 (by decide) ?_
              exact HJ142 0 H locs ls h hP hS (lv_sub hl [] rfl)
            · have h := it_f hc h
              refine lv_iconst (v := 1) X.1 X.2.1 dX2_readsLine_137 (by decide) ?_
              refine lv_goto (tgt := 142) X.1 X.2.1 dX2_readsLine_138 (by decide) ?_
              exact HJ142 1 H locs ls h hP hS (lv_sub hl [] rfl)
        · have h := it_f hc h
          refine lv_aload_n X.1 X.2.1 dX2_readsLine_63 rfl (lv_at hl 0 rfl) ?_
          refine r_get (C := RX2) (T := TX2) (N := 2) (ci := 2) (v := .ref (a2 0)) X iw2 hP 0 rfl rfl 1 rfl mw_2_2 rfl dX2_readsLine_64 ?_
          refine lv_aload_n X.1 X.2.1 dX2_readsLine_67 rfl (lv_at hl 0 rfl) ?_
          refine r_get (C := RX2) (T := TX2) (N := 2) (ci := 2) (v := .ref (a1 0)) X iw2 hP 0 rfl rfl 0 rfl mw_2_1 rfl dX2_readsLine_68 ?_
          refine lv_iconst (v := 1) X.1 X.2.1 dX2_readsLine_71 (by decide) ?_
          refine lv_bipush (v := 9) X.1 X.2.1 dX2_readsLine_72 (by decide) ?_
          obtain ⟨r_15, g1_15, hc_15, h⟩ := bd2_el h
          refine call_Vsi (ws := (wEv tc a0 g0 (a1 0) (a2 0) ++ (wTp tc a1 g1_4 ++ (wSt tc a2 g2 q2_18 q2_19)))) (ws' := (wEv tc a0 g0 (a1 0) (a2 0) ++ (wTp tc a1 g1_15 ++ (wSt tc a2 g2 q2_18 q2_19)))) (wEv tc a0 g0 (a1 0) (a2 0)) (wSt tc a2 g2 q2_18 q2_19) (As := [.int 1, .int 9]) (rest := [.ref (a2 0)]) X (c_X10_takeNumber l dC dI sk sv tc a1 g1_4 1 9 hc_15) mw_3_208 mw_3_209 mw_3_210 mw_1_2 mw_3_211 dc_X10_takeNumber ⟨Nat.le_of_ble_eq_true rfl, Nat.le_of_ble_eq_true rfl⟩ rfl rfl ⟨Nat.zero_le _, Nat.zero_le _⟩ (by simp only [List.append_assoc, List.nil_append, List.append_nil]) (by simp only [List.append_assoc, List.nil_append, List.append_nil]) hP (hD _ _ _) hS 0 rfl rfl rfl hl.1 (Nat.le_of_ble_eq_true rfl) dX2_readsLine_74 (fun H locs hP hS => ?_)
          obtain ⟨g2_16, eg2_16, h⟩ := nm_el h
          refine r_put (C := RX9) (T := TX9) (N := 20) (ci := 9) tyX9 tyX9_ok nmX9 X iw9 hP (hD _ _ _) hS 3 rfl rfl 13 rfl mw_1_173 rfl rfl rfl rfl dX2_readsLine_77 (wEv tc a0 g0 (a1 0) (a2 0) ++ (wTp tc a1 g1_15 ++ (wSt tc a2 g2_16 q2_18 q2_19))) (by rw [eg2_16]; rfl) (fun H locs hP hS => ?_)
          refine lv_aload_n X.1 X.2.1 dX2_readsLine_80 rfl (lv_at hl 0 rfl) ?_
          refine r_get (C := RX2) (T := TX2) (N := 2) (ci := 2) (v := .ref (a2 0)) X iw2 hP 0 rfl rfl 1 rfl mw_2_2 rfl dX2_readsLine_81 ?_
          refine r_get (C := RX9) (T := TX9) (N := 20) (ci := 9) (v := .int (g2_16 13 0)) X iw9 hP 3 rfl rfl 13 rfl mw_1_173 rfl dX2_readsLine_84 ?_
          refine lv_iconst (v := (-1)) X.1 X.2.1 dX2_readsLine_87 (by decide) ?_
          obtain ⟨J96, eJ96, h⟩ := jn_el h
          have HJ96 : ∀ (s0_J96 : Int32) (H : Heap) (locs : List Loc) (ls : Array Slot), J96 s0_J96 = some (r0, G1, G2) → va_P (dC, dI) vwCl (wEv tc a0 g0 (a1 0) (a2 0) ++ (wTp tc a1 g1_15 ++ (wSt tc a2 g2_16 q2_18 q2_19))) H → va_S A s.heap H locs → lv_has ls 1 [] → W pr l e rm_X2_readsLine s m args below meth c H locs 0 0 Q (F0 m 96 ls [.int s0_J96]) := by
            intro s0_J96 H locs ls h hP hS hl
            rw [eJ96] at h
            obtain ⟨hg_17, h⟩ := gdb_el h
            exact ret_z (fun u => (wEv tc a0 g0 (a1 0) (a2 0) ++ (wTp tc a1 u.1 ++ (wSt tc a2 u.2 q2_18 q2_19)))) (res := (r0, G1, G2)) hg_17 (Option.some.inj h) X hQ hP hS dX2_readsLine_96
          refine lv_icmp_eq (tgt := 95) X.1 X.2.1 dX2_readsLine_88 (by decide) (fun hc => ?_) (fun hc => ?_)
          · have h := it_t hc h
            refine lv_iconst (v := 0) X.1 X.2.1 dX2_readsLine_95 (by decide) ?_
            exact HJ96 0 H locs ls h hP hS (lv_sub hl [] rfl)
          · have h := it_f hc h
            refine lv_iconst (v := 1) X.1 X.2.1 dX2_readsLine_91 (by decide) ?_
            refine lv_goto (tgt := 96) X.1 X.2.1 dX2_readsLine_92 (by decide) ?_
            exact HJ96 1 H locs ls h hP hS (lv_sub hl [] rfl)
      · have h := it_f hc h
        refine lv_aload_n X.1 X.2.1 dX2_readsLine_46 rfl (lv_at hl 0 rfl) ?_
        obtain ⟨r_18, g1_18, g2_18, hc_18, h⟩ := bd3_el h
        refine call_V1i (As := []) (rest := []) X (c_X2_readsSpeech l dC dI sk sv tc a0 a1 a2 q2_18 q2_19 g0 g1_3 g2 hc_18) mw_3_231 mw_3_232 mw_3_233 mw_1_5 mw_3_234 dc_X2_readsSpeech ⟨Nat.le_of_ble_eq_true rfl, Nat.le_of_ble_eq_true rfl⟩ rfl rfl ⟨Nat.zero_le _, Nat.zero_le _⟩ hP (hD _ _ _) hS 0 rfl rfl rfl hl.1 (Nat.le_of_ble_eq_true rfl) dX2_readsLine_47 (fun H locs hP hS => ?_)
        obtain ⟨hg_19, h⟩ := gdb_el h
        exact ret_z (fun u => (wEv tc a0 g0 (a1 0) (a2 0) ++ (wTp tc a1 u.1 ++ (wSt tc a2 u.2 q2_18 q2_19)))) (res := (r0, G1, G2)) hg_19 (Option.some.inj h) X hQ hP hS dX2_readsLine_50
    · have h := it_f hc h
      refine lv_aload_n X.1 X.2.1 dX2_readsLine_29 rfl (lv_at hl 0 rfl) ?_
      obtain ⟨r_20, g1_20, g2_20, hc_20, h⟩ := bd3_el h
      refine call_V1i (As := []) (rest := []) X (c_X2_readsWriter l dC dI sk sv tc a0 a1 a2 q2_18 q2_19 g0 g1 g2 hc_20) mw_3_214 mw_3_215 mw_3_216 mw_1_5 mw_3_217 dc_X2_readsWriter ⟨Nat.le_of_ble_eq_true rfl, Nat.le_of_ble_eq_true rfl⟩ rfl rfl ⟨Nat.zero_le _, Nat.zero_le _⟩ hP (hD _ _ _) hS 0 rfl rfl rfl hl.1 (Nat.le_of_ble_eq_true rfl) dX2_readsLine_30 (fun H locs hP hS => ?_)
      obtain ⟨hg_21, h⟩ := gdb_el h
      exact ret_z (fun u => (wEv tc a0 g0 (a1 0) (a2 0) ++ (wTp tc a1 u.1 ++ (wSt tc a2 u.2 q2_18 q2_19)))) (res := (r0, G1, G2)) hg_21 (Option.some.inj h) X hQ hP hS dX2_readsLine_33
  · have h := it_f hc h
    refine lv_aload_n X.1 X.2.1 dX2_readsLine_12 rfl (lv_at hl 0 rfl) ?_
    obtain ⟨r_22, g1_22, g2_22, hc_22, h⟩ := bd3_el h
    refine call_V1i (As := []) (rest := []) X (c_X2_readsWord l dC dI sk sv tc a0 a1 a2 q2_18 q2_19 g0 g1 g2 hc_22) mw_3_189 mw_3_190 mw_3_191 mw_1_5 mw_3_192 dc_X2_readsWord ⟨Nat.le_of_ble_eq_true rfl, Nat.le_of_ble_eq_true rfl⟩ rfl rfl ⟨Nat.zero_le _, Nat.zero_le _⟩ hP (hD _ _ _) hS 0 rfl rfl rfl hl.1 (Nat.le_of_ble_eq_true rfl) dX2_readsLine_13 (fun H locs hP hS => ?_)
    obtain ⟨hg_23, h⟩ := gdb_el h
    exact ret_z (fun u => (wEv tc a0 g0 (a1 0) (a2 0) ++ (wTp tc a1 u.1 ++ (wSt tc a2 u.2 q2_18 q2_19)))) (res := (r0, G1, G2)) hg_23 (Option.some.inj h) X hQ hP hS dX2_readsLine_16

def f_X2_readsText_L21 (g0 : Pic) (n : Nat) (a : Int32 × Pic × Pic) : Option ((Int32 × Pic × Pic) ⊕ (Pic × Pic)) := lp (fun (rec : Int32 × Pic × Pic → Option ((Int32 × Pic × Pic) ⊕ (Pic × Pic))) (a : Int32 × Pic × Pic) => match a with | (x1, g1, g2) => (if 14 ≤ x1 then some (.inr (g1, g2)) else bd3 (f_X2_readsLine g0 g1 g2) (fun r_2 g1_2 g2_2 => (if r_2 = 0 then some (.inl (0, g1_2, g2_2)) else (if (g1_2 3 0) = 0 then some (.inl (1, g1_2, g2_2)) else bd2 (f_X10_takesSign g1_2 59) (fun r_3 g1_3 => (if r_3 = 0 then bd2 (f_X10_refuse g1_3) (fun r_5 g1_5 => gdb r_5 (some (.inl (r_5, g1_5, g2_2)))) else nm (x1 + 1) (fun x1_4 => rec (x1_4, g1_3, g2_2))))))))) n a
def f_X2_readsText (g0 : Pic) (g1 : Pic) (g2 : Pic) : Option (Int32 × Pic × Pic) := bd (f_X10_open g1) (fun g1_1 => (if (g1_1 3 0) = 0 then some (1, g1_1, g2) else lr (f_X2_readsText_L21 g0 fu (0, g1_1, g2)) (fun a => a) (fun (g1_7, g2_7) => bd2 (f_X10_refuse g1_7) (fun r_8 g1_8 => gdb r_8 (some (r_8, g1_8, g2_7))))))
abbrev rm_X2_readsText : Room := { frames := 8, cells := 0, slots := 0, locals := 200 }
set_option maxHeartbeats 4000000 in
set_option maxRecDepth 100000 in
theorem c_X2_readsText (l : Launch) (dC : Nat → ClassId) (dI : Nat → Nat → Nat) (sk sv : Nat → Nat) (tc : Nat → ClassId) (a0 : Nat → Nat) (a1 : Nat → Nat) (a2 : Nat → Nat) (q2_18 : Option Nat) (q2_19 : Nat) (g0 : Pic) (g1 : Pic) (g2 : Pic) {r0 : Int32} {G1 : Pic} {G2 : Pic} (h : f_X2_readsText g0 g1 g2 = some (r0, G1, G2)) : CT l (dC, dI) sk sv (TY tc) yX2_readsText cX2_readsText 2 (some .boolean) rm_X2_readsText [.ref (a0 0)] (wEv tc a0 g0 (a1 0) (a2 0) ++ (wTp tc a1 g1 ++ (wSt tc a2 g2 q2_18 q2_19))) (some (.int r0)) (wEv tc a0 g0 (a1 0) (a2 0) ++ (wTp tc a1 G1 ++ (wSt tc a2 G2 q2_18 q2_19))) := by
  refine ofCT (by decide) (Nat.le_of_ble_eq_true rfl) ?_
  intro pr e s m args below meth c A Q ls H locs X hQ hD0 hP hS hl
  have hD : ∀ z0 z1 z2, va_D A (wEv tc a0 z0 (a1 0) (a2 0) ++ (wTp tc a1 z1 ++ (wSt tc a2 z2 q2_18 q2_19))) := fun z0 z1 z2 => D_fst (ws := (wEv tc a0 g0 (a1 0) (a2 0) ++ (wTp tc a1 g1 ++ (wSt tc a2 g2 q2_18 q2_19)))) rfl hD0
  have hl : lv_has ls 2 [(0, .ref (a0 0))] := hl
  have HL21 : ∀ (n : Nat) (x1 : Int32) (g1 : Pic) (g2 : Pic) (ex : ((Int32 × Pic × Pic) ⊕ (Pic × Pic))), f_X2_readsText_L21 g0 n (x1, g1, g2) = some ex → (∀ rv, ex = .inl rv → rv = (r0, G1, G2)) → ∀ (H : Heap) (locs : List Loc) (ls : Array Slot), va_P (dC, dI) vwCl (wEv tc a0 g0 (a1 0) (a2 0) ++ (wTp tc a1 g1 ++ (wSt tc a2 g2 q2_18 q2_19))) H → va_S A s.heap H locs → lv_has ls 2 [(0, .ref (a0 0)), (1, .int x1)] → (∀ (k1 : Pic) (k2 : Pic), .inr (k1, k2) = ex → ∀ (H : Heap) (locs : List Loc) (ls : Array Slot), va_P (dC, dI) vwCl (wEv tc a0 g0 (a1 0) (a2 0) ++ (wTp tc a1 k1 ++ (wSt tc a2 k2 q2_18 q2_19))) H → va_S A s.heap H locs → lv_has ls 2 [(0, .ref (a0 0))] → W pr l e rm_X2_readsText s m args below meth c H locs 0 0 Q (F0 m 74 ls [])) → W pr l e rm_X2_readsText s m args below meth c H locs 0 0 Q (F0 m 21 ls []) := by
    intro n
    induction n with
    | zero => intro x1 g1 g2 ex h; exact lp_z h
    | succ n ih =>
      intro x1 g1 g2 ex h hR H locs ls hP hS hl K
      have h := lp_s h
      refine lv_iload_n X.1 X.2.1 dX2_readsText_21 rfl (lv_at hl 1 rfl) ?_
      refine lv_bipush (v := 14) X.1 X.2.1 dX2_readsText_22 (by decide) ?_
      refine lv_icmp_ge (tgt := 74) X.1 X.2.1 dX2_readsText_24 (by decide) (fun hc => ?_) (fun hc => ?_)
      · have h := it_t hc h
        exact K g1 g2 (Option.some.inj h) H locs ls hP hS (lv_sub hl [0] rfl)
      · have h := it_f hc h
        refine lv_aload_n X.1 X.2.1 dX2_readsText_27 rfl (lv_at hl 0 rfl) ?_
        obtain ⟨r_2, g1_2, g2_2, hc_2, h⟩ := bd3_el h
        refine call_V1i (As := []) (rest := []) X (c_X2_readsLine l dC dI sk sv tc a0 a1 a2 q2_18 q2_19 g0 g1 g2 hc_2) mw_3_132 mw_3_133 mw_3_134 mw_1_5 mw_3_135 dc_X2_readsLine ⟨Nat.le_of_ble_eq_true rfl, Nat.le_of_ble_eq_true rfl⟩ rfl rfl ⟨Nat.zero_le _, Nat.zero_le _⟩ hP (hD _ _ _) hS 0 rfl rfl rfl hl.1 (Nat.le_of_ble_eq_true rfl) dX2_readsText_28 (fun H locs hP hS => ?_)
        refine lv_if_ne (tgt := 36) X.1 X.2.1 dX2_readsText_31 (by decide) (fun hc => ?_) (fun hc => ?_)
        · have h := it_f hc h
          refine lv_aload_n X.1 X.2.1 dX2_readsText_36 rfl (lv_at hl 0 rfl) ?_
          refine r_get (C := RX2) (T := TX2) (N := 2) (ci := 2) (v := .ref (a1 0)) X iw2 hP 0 rfl rfl 0 rfl mw_2_1 rfl dX2_readsText_37 ?_
          refine r_get (C := RX10) (T := TX10) (N := 8) (ci := 10) (v := .int (g1_2 3 0)) X iw10 hP 1 rfl rfl 3 rfl mw_1_50 rfl dX2_readsText_40 ?_
          refine lv_if_ne (tgt := 48) X.1 X.2.1 dX2_readsText_43 (by decide) (fun hc => ?_) (fun hc => ?_)
          · have h := it_f hc h
            refine lv_aload_n X.1 X.2.1 dX2_readsText_48 rfl (lv_at hl 0 rfl) ?_
            refine r_get (C := RX2) (T := TX2) (N := 2) (ci := 2) (v := .ref (a1 0)) X iw2 hP 0 rfl rfl 0 rfl mw_2_1 rfl dX2_readsText_49 ?_
            refine lv_bipush (v := 59) X.1 X.2.1 dX2_readsText_52 (by decide) ?_
            obtain ⟨r_3, g1_3, hc_3, h⟩ := bd2_el h
            refine call_Vsi (ws := (wEv tc a0 g0 (a1 0) (a2 0) ++ (wTp tc a1 g1_2 ++ (wSt tc a2 g2_2 q2_18 q2_19)))) (ws' := (wEv tc a0 g0 (a1 0) (a2 0) ++ (wTp tc a1 g1_3 ++ (wSt tc a2 g2_2 q2_18 q2_19)))) (wEv tc a0 g0 (a1 0) (a2 0)) (wSt tc a2 g2_2 q2_18 q2_19) (As := [.int 59]) (rest := []) X (c_X10_takesSign l dC dI sk sv tc a1 g1_2 59 hc_3) mw_3_238 mw_3_239 mw_4_0 mw_1_2 mw_4_1 dc_X10_takesSign ⟨Nat.le_of_ble_eq_true rfl, Nat.le_of_ble_eq_true rfl⟩ rfl rfl ⟨Nat.zero_le _, Nat.zero_le _⟩ (by simp only [List.append_assoc, List.nil_append, List.append_nil]) (by simp only [List.append_assoc, List.nil_append, List.append_nil]) hP (hD _ _ _) hS 0 rfl rfl rfl hl.1 (Nat.le_of_ble_eq_true rfl) dX2_readsText_54 (fun H locs hP hS => ?_)
            refine lv_if_ne (tgt := 68) X.1 X.2.1 dX2_readsText_57 (by decide) (fun hc => ?_) (fun hc => ?_)
            · have h := it_f hc h
              obtain ⟨x1_4, ex1_4, h⟩ := nm_el h
              refine lv_iinc (v := x1_4) (lv' := [(1, .int x1_4), (0, .ref (a0 0))]) X.1 X.2.1 dX2_readsText_68 hl (k := 1) rfl (by rw [ex1_4]; rfl) (by decide) rfl (fun ls hl => ?_)
              refine lv_goto (tgt := 21) X.1 X.2.1 dX2_readsText_71 (by decide) ?_
              exact ih x1_4 g1_3 g2_2 ex h hR H locs ls hP hS (lv_sub hl [1, 0] rfl) K
            · have h := it_t hc h
              refine lv_aload_n X.1 X.2.1 dX2_readsText_60 rfl (lv_at hl 0 rfl) ?_
              refine r_get (C := RX2) (T := TX2) (N := 2) (ci := 2) (v := .ref (a1 0)) X iw2 hP 0 rfl rfl 0 rfl mw_2_1 rfl dX2_readsText_61 ?_
              obtain ⟨r_5, g1_5, hc_5, h⟩ := bd2_el h
              refine call_Vsi (ws := (wEv tc a0 g0 (a1 0) (a2 0) ++ (wTp tc a1 g1_3 ++ (wSt tc a2 g2_2 q2_18 q2_19)))) (ws' := (wEv tc a0 g0 (a1 0) (a2 0) ++ (wTp tc a1 g1_5 ++ (wSt tc a2 g2_2 q2_18 q2_19)))) (wEv tc a0 g0 (a1 0) (a2 0)) (wSt tc a2 g2_2 q2_18 q2_19) (As := []) (rest := []) X (c_X10_refuse l dC dI sk sv tc a1 g1_3 hc_5) mw_3_193 mw_3_194 mw_3_195 mw_1_2 mw_3_196 dc_X10_refuse ⟨Nat.le_of_ble_eq_true rfl, Nat.le_of_ble_eq_true rfl⟩ rfl rfl ⟨Nat.zero_le _, Nat.zero_le _⟩ (by simp only [List.append_assoc, List.nil_append, List.append_nil]) (by simp only [List.append_assoc, List.nil_append, List.append_nil]) hP (hD _ _ _) hS 0 rfl rfl rfl hl.1 (Nat.le_of_ble_eq_true rfl) dX2_readsText_64 (fun H locs hP hS => ?_)
              obtain ⟨hg_6, h⟩ := gdb_el h
              exact ret_z (fun u => (wEv tc a0 g0 (a1 0) (a2 0) ++ (wTp tc a1 u.1 ++ (wSt tc a2 u.2 q2_18 q2_19)))) (res := (r0, G1, G2)) hg_6 (hR _ (Option.some.inj h).symm) X hQ hP hS dX2_readsText_67
          · have h := it_t hc h
            refine lv_iconst (v := 1) X.1 X.2.1 dX2_readsText_46 (by decide) ?_
            exact ret_z (fun u => (wEv tc a0 g0 (a1 0) (a2 0) ++ (wTp tc a1 u.1 ++ (wSt tc a2 u.2 q2_18 q2_19)))) (res := (r0, G1, G2)) (by decide) (hR _ (Option.some.inj h).symm) X hQ hP hS dX2_readsText_47
        · have h := it_t hc h
          refine lv_iconst (v := 0) X.1 X.2.1 dX2_readsText_34 (by decide) ?_
          exact ret_z (fun u => (wEv tc a0 g0 (a1 0) (a2 0) ++ (wTp tc a1 u.1 ++ (wSt tc a2 u.2 q2_18 q2_19)))) (res := (r0, G1, G2)) (by decide) (hR _ (Option.some.inj h).symm) X hQ hP hS dX2_readsText_35
  unfold f_X2_readsText at h
  refine lv_aload_n X.1 X.2.1 dX2_readsText_0 rfl (lv_at hl 0 rfl) ?_
  refine r_get (C := RX2) (T := TX2) (N := 2) (ci := 2) (v := .ref (a1 0)) X iw2 hP 0 rfl rfl 0 rfl mw_2_1 rfl dX2_readsText_1 ?_
  obtain ⟨g1_1, hc_1, h⟩ := bd_el h
  refine call_Vsv (ws := (wEv tc a0 g0 (a1 0) (a2 0) ++ (wTp tc a1 g1 ++ (wSt tc a2 g2 q2_18 q2_19)))) (ws' := (wEv tc a0 g0 (a1 0) (a2 0) ++ (wTp tc a1 g1_1 ++ (wSt tc a2 g2 q2_18 q2_19)))) (wEv tc a0 g0 (a1 0) (a2 0)) (wSt tc a2 g2 q2_18 q2_19) (As := []) (rest := []) X (c_X10_open l dC dI sk sv tc a1 g1 hc_1) mw_3_124 mw_3_125 mw_3_126 mw_1_2 mw_3_127 dc_X10_open ⟨Nat.le_of_ble_eq_true rfl, Nat.le_of_ble_eq_true rfl⟩ rfl rfl ⟨Nat.zero_le _, Nat.zero_le _⟩ (by simp only [List.append_assoc, List.nil_append, List.append_nil]) (by simp only [List.append_assoc, List.nil_append, List.append_nil]) hP (hD _ _ _) hS 0 rfl rfl rfl hl.1 (Nat.le_of_ble_eq_true rfl) dX2_readsText_4 (fun H locs hP hS => ?_)
  refine lv_aload_n X.1 X.2.1 dX2_readsText_7 rfl (lv_at hl 0 rfl) ?_
  refine r_get (C := RX2) (T := TX2) (N := 2) (ci := 2) (v := .ref (a1 0)) X iw2 hP 0 rfl rfl 0 rfl mw_2_1 rfl dX2_readsText_8 ?_
  refine r_get (C := RX10) (T := TX10) (N := 8) (ci := 10) (v := .int (g1_1 3 0)) X iw10 hP 1 rfl rfl 3 rfl mw_1_50 rfl dX2_readsText_11 ?_
  refine lv_if_ne (tgt := 19) X.1 X.2.1 dX2_readsText_14 (by decide) (fun hc => ?_) (fun hc => ?_)
  · have h := it_f hc h
    refine lv_iconst (v := 0) X.1 X.2.1 dX2_readsText_19 (by decide) ?_
    refine lv_istore_n (lv' := [(1, .int 0), (0, .ref (a0 0))]) X.1 X.2.1 dX2_readsText_20 rfl hl (by decide) rfl (fun ls hl => ?_)
    obtain ⟨ex_7, hL_7, h1_7, h2_7⟩ := lr_el h
    refine HL21  fu 0 g1_1 g2 ex_7 hL_7 (fun rv hq => h1_7 rv hq) H locs ls hP hS (lv_sub hl [1, 0] rfl) (fun g1_7 g2_7 he H locs ls hP hS hl => ?_)
    have h := h2_7 _ he.symm
    refine lv_aload_n X.1 X.2.1 dX2_readsText_74 rfl (lv_at hl 0 rfl) ?_
    refine r_get (C := RX2) (T := TX2) (N := 2) (ci := 2) (v := .ref (a1 0)) X iw2 hP 0 rfl rfl 0 rfl mw_2_1 rfl dX2_readsText_75 ?_
    obtain ⟨r_8, g1_8, hc_8, h⟩ := bd2_el h
    refine call_Vsi (ws := (wEv tc a0 g0 (a1 0) (a2 0) ++ (wTp tc a1 g1_7 ++ (wSt tc a2 g2_7 q2_18 q2_19)))) (ws' := (wEv tc a0 g0 (a1 0) (a2 0) ++ (wTp tc a1 g1_8 ++ (wSt tc a2 g2_7 q2_18 q2_19)))) (wEv tc a0 g0 (a1 0) (a2 0)) (wSt tc a2 g2_7 q2_18 q2_19) (As := []) (rest := []) X (c_X10_refuse l dC dI sk sv tc a1 g1_7 hc_8) mw_3_193 mw_3_194 mw_3_195 mw_1_2 mw_3_196 dc_X10_refuse ⟨Nat.le_of_ble_eq_true rfl, Nat.le_of_ble_eq_true rfl⟩ rfl rfl ⟨Nat.zero_le _, Nat.zero_le _⟩ (by simp only [List.append_assoc, List.nil_append, List.append_nil]) (by simp only [List.append_assoc, List.nil_append, List.append_nil]) hP (hD _ _ _) hS 0 rfl rfl rfl hl.1 (Nat.le_of_ble_eq_true rfl) dX2_readsText_78 (fun H locs hP hS => ?_)
    obtain ⟨hg_9, h⟩ := gdb_el h
    exact ret_z (fun u => (wEv tc a0 g0 (a1 0) (a2 0) ++ (wTp tc a1 u.1 ++ (wSt tc a2 u.2 q2_18 q2_19)))) (res := (r0, G1, G2)) hg_9 (Option.some.inj h) X hQ hP hS dX2_readsText_81
  · have h := it_t hc h
    refine lv_iconst (v := 1) X.1 X.2.1 dX2_readsText_17 (by decide) ?_
    exact ret_z (fun u => (wEv tc a0 g0 (a1 0) (a2 0) ++ (wTp tc a1 u.1 ++ (wSt tc a2 u.2 q2_18 q2_19)))) (res := (r0, G1, G2)) (by decide) (Option.some.inj h) X hQ hP hS dX2_readsText_18

def f_X5_takeKind (g0 : Pic) (g1 : Pic) : Option (Int32 × Pic) := bd2 (f_X10_takesName 13 g1) (fun r_1 g1_1 => (if r_1 = 0 then bd2 (f_X10_takesName 14 g1_1) (fun r_2 g1_2 => (if r_2 = 0 then bd2 (f_X10_takesName 9 g1_2) (fun r_3 g1_3 => jn (fun (s0_J45 : Int32) => some (s0_J45, g1_3)) (fun J45 => (if r_3 = 0 then J45 (-1) else J45 2))) else some (1, g1_2))) else some (0, g1_1)))
abbrev rm_X5_takeKind : Room := { frames := 6, cells := 0, slots := 0, locals := 155 }
set_option maxHeartbeats 4000000 in
set_option maxRecDepth 100000 in
theorem c_X5_takeKind (l : Launch) (dC : Nat → ClassId) (dI : Nat → Nat → Nat) (sk sv : Nat → Nat) (tc : Nat → ClassId) (a0 : Nat → Nat) (a1 : Nat → Nat) (g0 : Pic) (g1 : Pic) {r0 : Int32} {G1 : Pic} (h : f_X5_takeKind g0 g1 = some (r0, G1)) : CT l (dC, dI) sk sv (TY tc) yX5_takeKind cX5_takeKind 1 (some .int) rm_X5_takeKind [.ref (a0 0)] (wLR tc a0 g0 (a1 0) ++ (wTp tc a1 g1)) (some (.int r0)) (wLR tc a0 g0 (a1 0) ++ (wTp tc a1 G1)) := by
  refine ofCT (by decide) (Nat.le_of_ble_eq_true rfl) ?_
  intro pr e s m args below meth c A Q ls H locs X hQ hD0 hP hS hl
  have hD : ∀ z0 z1, va_D A (wLR tc a0 z0 (a1 0) ++ (wTp tc a1 z1)) := fun z0 z1 => D_fst (ws := (wLR tc a0 g0 (a1 0) ++ (wTp tc a1 g1))) rfl hD0
  have hl : lv_has ls 1 [(0, .ref (a0 0))] := hl
  unfold f_X5_takeKind at h
  refine lv_aload_n X.1 X.2.1 dX5_takeKind_0 rfl (lv_at hl 0 rfl) ?_
  refine r_get (C := RX5) (T := TX5) (N := 7) (ci := 5) (v := .ref (a1 0)) X iw5 hP 0 rfl rfl 0 rfl mw_2_14 rfl dX5_takeKind_1 ?_
  refine va_ldcS X.1 X.2.1 X.2.2.2.2.1 (X.2.2.2.2.2.2.2.2.2.2.2.2.2.1 ("PencilUp$LawReader", 77, "tire", 13) (List.mem_of_getElem? (i := 13) rfl)) dX5_takeKind_4 ?_
  obtain ⟨r_1, g1_1, hc_1, h⟩ := bd2_el h
  refine call_Vsi (ws := (wLR tc a0 g0 (a1 0) ++ (wTp tc a1 g1))) (ws' := (wLR tc a0 g0 (a1 0) ++ (wTp tc a1 g1_1))) (wLR tc a0 g0 (a1 0)) [] (As := [.ref (sk 13)]) (rest := []) X (c_X10_takesName l dC dI sk sv tc 13 a1 g1 hc_1 (by decide)) mw_4_113 mw_3_204 mw_3_205 mw_1_2 mw_3_206 dc_X10_takesName ⟨Nat.le_of_ble_eq_true rfl, Nat.le_of_ble_eq_true rfl⟩ rfl rfl ⟨Nat.zero_le _, Nat.zero_le _⟩ (by simp only [List.append_assoc, List.nil_append, List.append_nil]) (by simp only [List.append_assoc, List.nil_append, List.append_nil]) hP (hD _ _) hS 0 rfl rfl rfl hl.1 (Nat.le_of_ble_eq_true rfl) dX5_takeKind_6 (fun H locs hP hS => ?_)
  refine lv_if_eq (tgt := 14) X.1 X.2.1 dX5_takeKind_9 (by decide) (fun hc => ?_) (fun hc => ?_)
  · have h := it_t hc h
    refine lv_aload_n X.1 X.2.1 dX5_takeKind_14 rfl (lv_at hl 0 rfl) ?_
    refine r_get (C := RX5) (T := TX5) (N := 7) (ci := 5) (v := .ref (a1 0)) X iw5 hP 0 rfl rfl 0 rfl mw_2_14 rfl dX5_takeKind_15 ?_
    refine va_ldcS X.1 X.2.1 X.2.2.2.2.1 (X.2.2.2.2.2.2.2.2.2.2.2.2.2.1 ("PencilUp$LawReader", 79, "rest", 14) (List.mem_of_getElem? (i := 14) rfl)) dX5_takeKind_18 ?_
    obtain ⟨r_2, g1_2, hc_2, h⟩ := bd2_el h
    refine call_Vsi (ws := (wLR tc a0 g0 (a1 0) ++ (wTp tc a1 g1_1))) (ws' := (wLR tc a0 g0 (a1 0) ++ (wTp tc a1 g1_2))) (wLR tc a0 g0 (a1 0)) [] (As := [.ref (sk 14)]) (rest := []) X (c_X10_takesName l dC dI sk sv tc 14 a1 g1_1 hc_2 (by decide)) mw_4_113 mw_3_204 mw_3_205 mw_1_2 mw_3_206 dc_X10_takesName ⟨Nat.le_of_ble_eq_true rfl, Nat.le_of_ble_eq_true rfl⟩ rfl rfl ⟨Nat.zero_le _, Nat.zero_le _⟩ (by simp only [List.append_assoc, List.nil_append, List.append_nil]) (by simp only [List.append_assoc, List.nil_append, List.append_nil]) hP (hD _ _) hS 0 rfl rfl rfl hl.1 (Nat.le_of_ble_eq_true rfl) dX5_takeKind_20 (fun H locs hP hS => ?_)
    refine lv_if_eq (tgt := 28) X.1 X.2.1 dX5_takeKind_23 (by decide) (fun hc => ?_) (fun hc => ?_)
    · have h := it_t hc h
      refine lv_aload_n X.1 X.2.1 dX5_takeKind_28 rfl (lv_at hl 0 rfl) ?_
      refine r_get (C := RX5) (T := TX5) (N := 7) (ci := 5) (v := .ref (a1 0)) X iw5 hP 0 rfl rfl 0 rfl mw_2_14 rfl dX5_takeKind_29 ?_
      refine va_ldcS X.1 X.2.1 X.2.2.2.2.1 (X.2.2.2.2.2.2.2.2.2.2.2.2.2.1 ("PencilUp$LawReader", 81, "slip", 9) (List.mem_of_getElem? (i := 15) rfl)) dX5_takeKind_32 ?_
      obtain ⟨r_3, g1_3, hc_3, h⟩ := bd2_el h
      refine call_Vsi (ws := (wLR tc a0 g0 (a1 0) ++ (wTp tc a1 g1_2))) (ws' := (wLR tc a0 g0 (a1 0) ++ (wTp tc a1 g1_3))) (wLR tc a0 g0 (a1 0)) [] (As := [.ref (sk 9)]) (rest := []) X (c_X10_takesName l dC dI sk sv tc 9 a1 g1_2 hc_3 (by decide)) mw_4_113 mw_3_204 mw_3_205 mw_1_2 mw_3_206 dc_X10_takesName ⟨Nat.le_of_ble_eq_true rfl, Nat.le_of_ble_eq_true rfl⟩ rfl rfl ⟨Nat.zero_le _, Nat.zero_le _⟩ (by simp only [List.append_assoc, List.nil_append, List.append_nil]) (by simp only [List.append_assoc, List.nil_append, List.append_nil]) hP (hD _ _) hS 0 rfl rfl rfl hl.1 (Nat.le_of_ble_eq_true rfl) dX5_takeKind_34 (fun H locs hP hS => ?_)
      obtain ⟨J45, eJ45, h⟩ := jn_el h
      have HJ45 : ∀ (s0_J45 : Int32) (H : Heap) (locs : List Loc) (ls : Array Slot), J45 s0_J45 = some (r0, G1) → va_P (dC, dI) vwCl (wLR tc a0 g0 (a1 0) ++ (wTp tc a1 g1_3)) H → va_S A s.heap H locs → lv_has ls 1 [] → W pr l e rm_X5_takeKind s m args below meth c H locs 0 0 Q (F0 m 45 ls [.int s0_J45]) := by
        intro s0_J45 H locs ls h hP hS hl
        rw [eJ45] at h
        exact ret_i (fun u => (wLR tc a0 g0 (a1 0) ++ (wTp tc a1 u))) (res := (r0, G1)) (Option.some.inj h) X hQ hP hS dX5_takeKind_45
      refine lv_if_eq (tgt := 44) X.1 X.2.1 dX5_takeKind_37 (by decide) (fun hc => ?_) (fun hc => ?_)
      · have h := it_t hc h
        refine lv_iconst (v := (-1)) X.1 X.2.1 dX5_takeKind_44 (by decide) ?_
        exact HJ45 (-1) H locs ls h hP hS (lv_sub hl [] rfl)
      · have h := it_f hc h
        refine lv_iconst (v := 2) X.1 X.2.1 dX5_takeKind_40 (by decide) ?_
        refine lv_goto (tgt := 45) X.1 X.2.1 dX5_takeKind_41 (by decide) ?_
        exact HJ45 2 H locs ls h hP hS (lv_sub hl [] rfl)
    · have h := it_f hc h
      refine lv_iconst (v := 1) X.1 X.2.1 dX5_takeKind_26 (by decide) ?_
      exact ret_i (fun u => (wLR tc a0 g0 (a1 0) ++ (wTp tc a1 u))) (res := (r0, G1)) (Option.some.inj h) X hQ hP hS dX5_takeKind_27
  · have h := it_f hc h
    refine lv_iconst (v := 0) X.1 X.2.1 dX5_takeKind_12 (by decide) ?_
    exact ret_i (fun u => (wLR tc a0 g0 (a1 0) ++ (wTp tc a1 u))) (res := (r0, G1)) (Option.some.inj h) X hQ hP hS dX5_takeKind_13

def f_X5_takeOrder (g0 : Pic) (g1 : Pic) : Option (Int32 × Pic) := bd2 (f_X10_takesSign g1 60) (fun r_1 g1_1 => (if r_1 = 0 then bd2 (f_X10_takesSign g1_1 62) (fun r_2 g1_2 => jn (fun (s0_J35 : Int32) => some (s0_J35, g1_2)) (fun J35 => (if r_2 = 0 then J35 (-1) else J35 2004))) else some (2003, g1_1)))
abbrev rm_X5_takeOrder : Room := { frames := 2, cells := 0, slots := 0, locals := 43 }
set_option maxHeartbeats 4000000 in
set_option maxRecDepth 100000 in
theorem c_X5_takeOrder (l : Launch) (dC : Nat → ClassId) (dI : Nat → Nat → Nat) (sk sv : Nat → Nat) (tc : Nat → ClassId) (a0 : Nat → Nat) (a1 : Nat → Nat) (g0 : Pic) (g1 : Pic) {r0 : Int32} {G1 : Pic} (h : f_X5_takeOrder g0 g1 = some (r0, G1)) : CT l (dC, dI) sk sv (TY tc) yX5_takeOrder cX5_takeOrder 1 (some .int) rm_X5_takeOrder [.ref (a0 0)] (wLR tc a0 g0 (a1 0) ++ (wTp tc a1 g1)) (some (.int r0)) (wLR tc a0 g0 (a1 0) ++ (wTp tc a1 G1)) := by
  refine ofCT (by decide) (Nat.le_of_ble_eq_true rfl) ?_
  intro pr e s m args below meth c A Q ls H locs X hQ hD0 hP hS hl
  have hD : ∀ z0 z1, va_D A (wLR tc a0 z0 (a1 0) ++ (wTp tc a1 z1)) := fun z0 z1 => D_fst (ws := (wLR tc a0 g0 (a1 0) ++ (wTp tc a1 g1))) rfl hD0
  have hl : lv_has ls 1 [(0, .ref (a0 0))] := hl
  unfold f_X5_takeOrder at h
  refine lv_aload_n X.1 X.2.1 dX5_takeOrder_0 rfl (lv_at hl 0 rfl) ?_
  refine r_get (C := RX5) (T := TX5) (N := 7) (ci := 5) (v := .ref (a1 0)) X iw5 hP 0 rfl rfl 0 rfl mw_2_14 rfl dX5_takeOrder_1 ?_
  refine lv_bipush (v := 60) X.1 X.2.1 dX5_takeOrder_4 (by decide) ?_
  obtain ⟨r_1, g1_1, hc_1, h⟩ := bd2_el h
  refine call_Vsi (ws := (wLR tc a0 g0 (a1 0) ++ (wTp tc a1 g1))) (ws' := (wLR tc a0 g0 (a1 0) ++ (wTp tc a1 g1_1))) (wLR tc a0 g0 (a1 0)) [] (As := [.int 60]) (rest := []) X (c_X10_takesSign l dC dI sk sv tc a1 g1 60 hc_1) mw_4_131 mw_3_239 mw_4_0 mw_1_2 mw_4_1 dc_X10_takesSign ⟨Nat.le_of_ble_eq_true rfl, Nat.le_of_ble_eq_true rfl⟩ rfl rfl ⟨Nat.zero_le _, Nat.zero_le _⟩ (by simp only [List.append_assoc, List.nil_append, List.append_nil]) (by simp only [List.append_assoc, List.nil_append, List.append_nil]) hP (hD _ _) hS 0 rfl rfl rfl hl.1 (Nat.le_of_ble_eq_true rfl) dX5_takeOrder_6 (fun H locs hP hS => ?_)
  refine lv_if_eq (tgt := 16) X.1 X.2.1 dX5_takeOrder_9 (by decide) (fun hc => ?_) (fun hc => ?_)
  · have h := it_t hc h
    refine lv_aload_n X.1 X.2.1 dX5_takeOrder_16 rfl (lv_at hl 0 rfl) ?_
    refine r_get (C := RX5) (T := TX5) (N := 7) (ci := 5) (v := .ref (a1 0)) X iw5 hP 0 rfl rfl 0 rfl mw_2_14 rfl dX5_takeOrder_17 ?_
    refine lv_bipush (v := 62) X.1 X.2.1 dX5_takeOrder_20 (by decide) ?_
    obtain ⟨r_2, g1_2, hc_2, h⟩ := bd2_el h
    refine call_Vsi (ws := (wLR tc a0 g0 (a1 0) ++ (wTp tc a1 g1_1))) (ws' := (wLR tc a0 g0 (a1 0) ++ (wTp tc a1 g1_2))) (wLR tc a0 g0 (a1 0)) [] (As := [.int 62]) (rest := []) X (c_X10_takesSign l dC dI sk sv tc a1 g1_1 62 hc_2) mw_4_131 mw_3_239 mw_4_0 mw_1_2 mw_4_1 dc_X10_takesSign ⟨Nat.le_of_ble_eq_true rfl, Nat.le_of_ble_eq_true rfl⟩ rfl rfl ⟨Nat.zero_le _, Nat.zero_le _⟩ (by simp only [List.append_assoc, List.nil_append, List.append_nil]) (by simp only [List.append_assoc, List.nil_append, List.append_nil]) hP (hD _ _) hS 0 rfl rfl rfl hl.1 (Nat.le_of_ble_eq_true rfl) dX5_takeOrder_22 (fun H locs hP hS => ?_)
    obtain ⟨J35, eJ35, h⟩ := jn_el h
    have HJ35 : ∀ (s0_J35 : Int32) (H : Heap) (locs : List Loc) (ls : Array Slot), J35 s0_J35 = some (r0, G1) → va_P (dC, dI) vwCl (wLR tc a0 g0 (a1 0) ++ (wTp tc a1 g1_2)) H → va_S A s.heap H locs → lv_has ls 1 [] → W pr l e rm_X5_takeOrder s m args below meth c H locs 0 0 Q (F0 m 35 ls [.int s0_J35]) := by
      intro s0_J35 H locs ls h hP hS hl
      rw [eJ35] at h
      exact ret_i (fun u => (wLR tc a0 g0 (a1 0) ++ (wTp tc a1 u))) (res := (r0, G1)) (Option.some.inj h) X hQ hP hS dX5_takeOrder_35
    refine lv_if_eq (tgt := 34) X.1 X.2.1 dX5_takeOrder_25 (by decide) (fun hc => ?_) (fun hc => ?_)
    · have h := it_t hc h
      refine lv_iconst (v := (-1)) X.1 X.2.1 dX5_takeOrder_34 (by decide) ?_
      exact HJ35 (-1) H locs ls h hP hS (lv_sub hl [] rfl)
    · have h := it_f hc h
      refine lv_sipush (v := 2004) X.1 X.2.1 dX5_takeOrder_28 (by decide) ?_
      refine lv_goto (tgt := 35) X.1 X.2.1 dX5_takeOrder_31 (by decide) ?_
      exact HJ35 2004 H locs ls h hP hS (lv_sub hl [] rfl)
  · have h := it_f hc h
    refine lv_sipush (v := 2003) X.1 X.2.1 dX5_takeOrder_12 (by decide) ?_
    exact ret_i (fun u => (wLR tc a0 g0 (a1 0) ++ (wTp tc a1 u))) (res := (r0, G1)) (Option.some.inj h) X hQ hP hS dX5_takeOrder_15

def f_X5_partHere (g0 : Pic) (g1 : Pic) : Option (Int32) := (if (g1 3 0) = 2 then some (g1 6 0) else bd (f_X10_isName 2 g1) (fun r_1 => (if r_1 = 0 then bd (f_X10_isName 0 g1) (fun r_2 => (if r_2 = 0 then bd (f_X10_isName 19 g1) (fun r_3 => (if r_3 = 0 then bd (f_X10_isName 20 g1) (fun r_4 => (if r_4 = 0 then bd (f_X10_isName 3 g1) (fun r_5 => (if r_5 = 0 then bd (f_X10_isName 4 g1) (fun r_6 => (if r_6 = 0 then bd (f_X10_isName 5 g1) (fun r_7 => jn (fun (s0_J134 : Int32) => some s0_J134) (fun J134 => (if r_7 = 0 then J134 (-1) else J134 1006))) else some 1005)) else some 1004)) else some 1003)) else some 1002)) else some 1001)) else some 1000)))
abbrev rm_X5_partHere : Room := { frames := 5, cells := 0, slots := 0, locals := 133 }
set_option maxHeartbeats 4000000 in
set_option maxRecDepth 100000 in
theorem c_X5_partHere (l : Launch) (dC : Nat → ClassId) (dI : Nat → Nat → Nat) (sk sv : Nat → Nat) (tc : Nat → ClassId) (a0 : Nat → Nat) (a1 : Nat → Nat) (g0 : Pic) (g1 : Pic) {r0 : Int32} (h : f_X5_partHere g0 g1 = some r0) : CT l (dC, dI) sk sv (TY tc) yX5_partHere cX5_partHere 1 (some .int) rm_X5_partHere [.ref (a0 0)] (wLR tc a0 g0 (a1 0) ++ (wTp tc a1 g1)) (some (.int r0)) (wLR tc a0 g0 (a1 0) ++ (wTp tc a1 g1)) := by
  refine ofCT (by decide) (Nat.le_of_ble_eq_true rfl) ?_
  intro pr e s m args below meth c A Q ls H locs X hQ hD0 hP hS hl
  have hD : ∀ z0 z1, va_D A (wLR tc a0 z0 (a1 0) ++ (wTp tc a1 z1)) := fun z0 z1 => D_fst (ws := (wLR tc a0 g0 (a1 0) ++ (wTp tc a1 g1))) rfl hD0
  have hl : lv_has ls 1 [(0, .ref (a0 0))] := hl
  unfold f_X5_partHere at h
  refine lv_aload_n X.1 X.2.1 dX5_partHere_0 rfl (lv_at hl 0 rfl) ?_
  refine r_get (C := RX5) (T := TX5) (N := 7) (ci := 5) (v := .ref (a1 0)) X iw5 hP 0 rfl rfl 0 rfl mw_2_14 rfl dX5_partHere_1 ?_
  refine r_get (C := RX10) (T := TX10) (N := 8) (ci := 10) (v := .int (g1 3 0)) X iw10 hP 5 rfl rfl 3 rfl mw_1_51 rfl dX5_partHere_4 ?_
  refine lv_iconst (v := 2) X.1 X.2.1 dX5_partHere_7 (by decide) ?_
  refine lv_icmp_ne (tgt := 19) X.1 X.2.1 dX5_partHere_8 (by decide) (fun hc => ?_) (fun hc => ?_)
  · have h := it_f hc h
    refine lv_aload_n X.1 X.2.1 dX5_partHere_19 rfl (lv_at hl 0 rfl) ?_
    refine r_get (C := RX5) (T := TX5) (N := 7) (ci := 5) (v := .ref (a1 0)) X iw5 hP 0 rfl rfl 0 rfl mw_2_14 rfl dX5_partHere_20 ?_
    refine va_ldcS X.1 X.2.1 X.2.2.2.2.1 (X.2.2.2.2.2.2.2.2.2.2.2.2.2.1 ("PencilUp$LawReader", 120, "writer", 2) (List.mem_of_getElem? (i := 20) rfl)) dX5_partHere_23 ?_
    obtain ⟨r_1, hc_1, h⟩ := bd_el h
    refine call_Vsi (ws := (wLR tc a0 g0 (a1 0) ++ (wTp tc a1 g1))) (ws' := (wLR tc a0 g0 (a1 0) ++ (wTp tc a1 g1))) (wLR tc a0 g0 (a1 0)) [] (As := [.ref (sk 2)]) (rest := []) X (c_X10_isName l dC dI sk sv tc 2 a1 g1 hc_1 (by decide)) mw_4_128 mw_3_138 mw_3_139 mw_1_2 mw_3_140 dc_X10_isName ⟨Nat.le_of_ble_eq_true rfl, Nat.le_of_ble_eq_true rfl⟩ rfl rfl ⟨Nat.zero_le _, Nat.zero_le _⟩ (by simp only [List.append_assoc, List.nil_append, List.append_nil]) (by simp only [List.append_assoc, List.nil_append, List.append_nil]) hP (hD _ _) hS 0 rfl rfl rfl hl.1 (Nat.le_of_ble_eq_true rfl) dX5_partHere_25 (fun H locs hP hS => ?_)
    refine lv_if_eq (tgt := 35) X.1 X.2.1 dX5_partHere_28 (by decide) (fun hc => ?_) (fun hc => ?_)
    · have h := it_t hc h
      refine lv_aload_n X.1 X.2.1 dX5_partHere_35 rfl (lv_at hl 0 rfl) ?_
      refine r_get (C := RX5) (T := TX5) (N := 7) (ci := 5) (v := .ref (a1 0)) X iw5 hP 0 rfl rfl 0 rfl mw_2_14 rfl dX5_partHere_36 ?_
      refine va_ldcS X.1 X.2.1 X.2.2.2.2.1 (X.2.2.2.2.2.2.2.2.2.2.2.2.2.1 ("PencilUp$LawReader", 122, "word", 0) (List.mem_of_getElem? (i := 21) rfl)) dX5_partHere_39 ?_
      obtain ⟨r_2, hc_2, h⟩ := bd_el h
      refine call_Vsi (ws := (wLR tc a0 g0 (a1 0) ++ (wTp tc a1 g1))) (ws' := (wLR tc a0 g0 (a1 0) ++ (wTp tc a1 g1))) (wLR tc a0 g0 (a1 0)) [] (As := [.ref (sk 0)]) (rest := []) X (c_X10_isName l dC dI sk sv tc 0 a1 g1 hc_2 (by decide)) mw_4_128 mw_3_138 mw_3_139 mw_1_2 mw_3_140 dc_X10_isName ⟨Nat.le_of_ble_eq_true rfl, Nat.le_of_ble_eq_true rfl⟩ rfl rfl ⟨Nat.zero_le _, Nat.zero_le _⟩ (by simp only [List.append_assoc, List.nil_append, List.append_nil]) (by simp only [List.append_assoc, List.nil_append, List.append_nil]) hP (hD _ _) hS 0 rfl rfl rfl hl.1 (Nat.le_of_ble_eq_true rfl) dX5_partHere_41 (fun H locs hP hS => ?_)
      refine lv_if_eq (tgt := 51) X.1 X.2.1 dX5_partHere_44 (by decide) (fun hc => ?_) (fun hc => ?_)
      · have h := it_t hc h
        refine lv_aload_n X.1 X.2.1 dX5_partHere_51 rfl (lv_at hl 0 rfl) ?_
        refine r_get (C := RX5) (T := TX5) (N := 7) (ci := 5) (v := .ref (a1 0)) X iw5 hP 0 rfl rfl 0 rfl mw_2_14 rfl dX5_partHere_52 ?_
        refine va_ldcS X.1 X.2.1 X.2.2.2.2.1 (X.2.2.2.2.2.2.2.2.2.2.2.2.2.1 ("PencilUp$LawReader", 124, "strokes", 19) (List.mem_of_getElem? (i := 22) rfl)) dX5_partHere_55 ?_
        obtain ⟨r_3, hc_3, h⟩ := bd_el h
        refine call_Vsi (ws := (wLR tc a0 g0 (a1 0) ++ (wTp tc a1 g1))) (ws' := (wLR tc a0 g0 (a1 0) ++ (wTp tc a1 g1))) (wLR tc a0 g0 (a1 0)) [] (As := [.ref (sk 19)]) (rest := []) X (c_X10_isName l dC dI sk sv tc 19 a1 g1 hc_3 (by decide)) mw_4_128 mw_3_138 mw_3_139 mw_1_2 mw_3_140 dc_X10_isName ⟨Nat.le_of_ble_eq_true rfl, Nat.le_of_ble_eq_true rfl⟩ rfl rfl ⟨Nat.zero_le _, Nat.zero_le _⟩ (by simp only [List.append_assoc, List.nil_append, List.append_nil]) (by simp only [List.append_assoc, List.nil_append, List.append_nil]) hP (hD _ _) hS 0 rfl rfl rfl hl.1 (Nat.le_of_ble_eq_true rfl) dX5_partHere_57 (fun H locs hP hS => ?_)
        refine lv_if_eq (tgt := 67) X.1 X.2.1 dX5_partHere_60 (by decide) (fun hc => ?_) (fun hc => ?_)
        · have h := it_t hc h
          refine lv_aload_n X.1 X.2.1 dX5_partHere_67 rfl (lv_at hl 0 rfl) ?_
          refine r_get (C := RX5) (T := TX5) (N := 7) (ci := 5) (v := .ref (a1 0)) X iw5 hP 0 rfl rfl 0 rfl mw_2_14 rfl dX5_partHere_68 ?_
          refine va_ldcS X.1 X.2.1 X.2.2.2.2.1 (X.2.2.2.2.2.2.2.2.2.2.2.2.2.1 ("PencilUp$LawReader", 126, "letters", 20) (List.mem_of_getElem? (i := 23) rfl)) dX5_partHere_71 ?_
          obtain ⟨r_4, hc_4, h⟩ := bd_el h
          refine call_Vsi (ws := (wLR tc a0 g0 (a1 0) ++ (wTp tc a1 g1))) (ws' := (wLR tc a0 g0 (a1 0) ++ (wTp tc a1 g1))) (wLR tc a0 g0 (a1 0)) [] (As := [.ref (sk 20)]) (rest := []) X (c_X10_isName l dC dI sk sv tc 20 a1 g1 hc_4 (by decide)) mw_4_128 mw_3_138 mw_3_139 mw_1_2 mw_3_140 dc_X10_isName ⟨Nat.le_of_ble_eq_true rfl, Nat.le_of_ble_eq_true rfl⟩ rfl rfl ⟨Nat.zero_le _, Nat.zero_le _⟩ (by simp only [List.append_assoc, List.nil_append, List.append_nil]) (by simp only [List.append_assoc, List.nil_append, List.append_nil]) hP (hD _ _) hS 0 rfl rfl rfl hl.1 (Nat.le_of_ble_eq_true rfl) dX5_partHere_73 (fun H locs hP hS => ?_)
          refine lv_if_eq (tgt := 83) X.1 X.2.1 dX5_partHere_76 (by decide) (fun hc => ?_) (fun hc => ?_)
          · have h := it_t hc h
            refine lv_aload_n X.1 X.2.1 dX5_partHere_83 rfl (lv_at hl 0 rfl) ?_
            refine r_get (C := RX5) (T := TX5) (N := 7) (ci := 5) (v := .ref (a1 0)) X iw5 hP 0 rfl rfl 0 rfl mw_2_14 rfl dX5_partHere_84 ?_
            refine va_ldcS X.1 X.2.1 X.2.2.2.2.1 (X.2.2.2.2.2.2.2.2.2.2.2.2.2.1 ("PencilUp$LawReader", 128, "speed", 3) (List.mem_of_getElem? (i := 24) rfl)) dX5_partHere_87 ?_
            obtain ⟨r_5, hc_5, h⟩ := bd_el h
            refine call_Vsi (ws := (wLR tc a0 g0 (a1 0) ++ (wTp tc a1 g1))) (ws' := (wLR tc a0 g0 (a1 0) ++ (wTp tc a1 g1))) (wLR tc a0 g0 (a1 0)) [] (As := [.ref (sk 3)]) (rest := []) X (c_X10_isName l dC dI sk sv tc 3 a1 g1 hc_5 (by decide)) mw_4_128 mw_3_138 mw_3_139 mw_1_2 mw_3_140 dc_X10_isName ⟨Nat.le_of_ble_eq_true rfl, Nat.le_of_ble_eq_true rfl⟩ rfl rfl ⟨Nat.zero_le _, Nat.zero_le _⟩ (by simp only [List.append_assoc, List.nil_append, List.append_nil]) (by simp only [List.append_assoc, List.nil_append, List.append_nil]) hP (hD _ _) hS 0 rfl rfl rfl hl.1 (Nat.le_of_ble_eq_true rfl) dX5_partHere_89 (fun H locs hP hS => ?_)
            refine lv_if_eq (tgt := 99) X.1 X.2.1 dX5_partHere_92 (by decide) (fun hc => ?_) (fun hc => ?_)
            · have h := it_t hc h
              refine lv_aload_n X.1 X.2.1 dX5_partHere_99 rfl (lv_at hl 0 rfl) ?_
              refine r_get (C := RX5) (T := TX5) (N := 7) (ci := 5) (v := .ref (a1 0)) X iw5 hP 0 rfl rfl 0 rfl mw_2_14 rfl dX5_partHere_100 ?_
              refine va_ldcS X.1 X.2.1 X.2.2.2.2.1 (X.2.2.2.2.2.2.2.2.2.2.2.2.2.1 ("PencilUp$LawReader", 130, "skill", 4) (List.mem_of_getElem? (i := 25) rfl)) dX5_partHere_103 ?_
              obtain ⟨r_6, hc_6, h⟩ := bd_el h
              refine call_Vsi (ws := (wLR tc a0 g0 (a1 0) ++ (wTp tc a1 g1))) (ws' := (wLR tc a0 g0 (a1 0) ++ (wTp tc a1 g1))) (wLR tc a0 g0 (a1 0)) [] (As := [.ref (sk 4)]) (rest := []) X (c_X10_isName l dC dI sk sv tc 4 a1 g1 hc_6 (by decide)) mw_4_128 mw_3_138 mw_3_139 mw_1_2 mw_3_140 dc_X10_isName ⟨Nat.le_of_ble_eq_true rfl, Nat.le_of_ble_eq_true rfl⟩ rfl rfl ⟨Nat.zero_le _, Nat.zero_le _⟩ (by simp only [List.append_assoc, List.nil_append, List.append_nil]) (by simp only [List.append_assoc, List.nil_append, List.append_nil]) hP (hD _ _) hS 0 rfl rfl rfl hl.1 (Nat.le_of_ble_eq_true rfl) dX5_partHere_105 (fun H locs hP hS => ?_)
              refine lv_if_eq (tgt := 115) X.1 X.2.1 dX5_partHere_108 (by decide) (fun hc => ?_) (fun hc => ?_)
              · have h := it_t hc h
                refine lv_aload_n X.1 X.2.1 dX5_partHere_115 rfl (lv_at hl 0 rfl) ?_
                refine r_get (C := RX5) (T := TX5) (N := 7) (ci := 5) (v := .ref (a1 0)) X iw5 hP 0 rfl rfl 0 rfl mw_2_14 rfl dX5_partHere_116 ?_
                refine va_ldcS X.1 X.2.1 X.2.2.2.2.1 (X.2.2.2.2.2.2.2.2.2.2.2.2.2.1 ("PencilUp$LawReader", 132, "tired", 5) (List.mem_of_getElem? (i := 26) rfl)) dX5_partHere_119 ?_
                obtain ⟨r_7, hc_7, h⟩ := bd_el h
                refine call_Vsi (ws := (wLR tc a0 g0 (a1 0) ++ (wTp tc a1 g1))) (ws' := (wLR tc a0 g0 (a1 0) ++ (wTp tc a1 g1))) (wLR tc a0 g0 (a1 0)) [] (As := [.ref (sk 5)]) (rest := []) X (c_X10_isName l dC dI sk sv tc 5 a1 g1 hc_7 (by decide)) mw_4_128 mw_3_138 mw_3_139 mw_1_2 mw_3_140 dc_X10_isName ⟨Nat.le_of_ble_eq_true rfl, Nat.le_of_ble_eq_true rfl⟩ rfl rfl ⟨Nat.zero_le _, Nat.zero_le _⟩ (by simp only [List.append_assoc, List.nil_append, List.append_nil]) (by simp only [List.append_assoc, List.nil_append, List.append_nil]) hP (hD _ _) hS 0 rfl rfl rfl hl.1 (Nat.le_of_ble_eq_true rfl) dX5_partHere_121 (fun H locs hP hS => ?_)
                obtain ⟨J134, eJ134, h⟩ := jn_el h
                have HJ134 : ∀ (s0_J134 : Int32) (H : Heap) (locs : List Loc) (ls : Array Slot), J134 s0_J134 = some r0 → va_P (dC, dI) vwCl (wLR tc a0 g0 (a1 0) ++ (wTp tc a1 g1)) H → va_S A s.heap H locs → lv_has ls 1 [] → W pr l e rm_X5_partHere s m args below meth c H locs 0 0 Q (F0 m 134 ls [.int s0_J134]) := by
                  intro s0_J134 H locs ls h hP hS hl
                  rw [eJ134] at h
                  exact ret_i0 (Option.some.inj h) X hQ hP hS dX5_partHere_134
                refine lv_if_eq (tgt := 133) X.1 X.2.1 dX5_partHere_124 (by decide) (fun hc => ?_) (fun hc => ?_)
                · have h := it_t hc h
                  refine lv_iconst (v := (-1)) X.1 X.2.1 dX5_partHere_133 (by decide) ?_
                  exact HJ134 (-1) H locs ls h hP hS (lv_sub hl [] rfl)
                · have h := it_f hc h
                  refine lv_sipush (v := 1006) X.1 X.2.1 dX5_partHere_127 (by decide) ?_
                  refine lv_goto (tgt := 134) X.1 X.2.1 dX5_partHere_130 (by decide) ?_
                  exact HJ134 1006 H locs ls h hP hS (lv_sub hl [] rfl)
              · have h := it_f hc h
                refine lv_sipush (v := 1005) X.1 X.2.1 dX5_partHere_111 (by decide) ?_
                exact ret_i0 (Option.some.inj h) X hQ hP hS dX5_partHere_114
            · have h := it_f hc h
              refine lv_sipush (v := 1004) X.1 X.2.1 dX5_partHere_95 (by decide) ?_
              exact ret_i0 (Option.some.inj h) X hQ hP hS dX5_partHere_98
          · have h := it_f hc h
            refine lv_sipush (v := 1003) X.1 X.2.1 dX5_partHere_79 (by decide) ?_
            exact ret_i0 (Option.some.inj h) X hQ hP hS dX5_partHere_82
        · have h := it_f hc h
          refine lv_sipush (v := 1002) X.1 X.2.1 dX5_partHere_63 (by decide) ?_
          exact ret_i0 (Option.some.inj h) X hQ hP hS dX5_partHere_66
      · have h := it_f hc h
        refine lv_sipush (v := 1001) X.1 X.2.1 dX5_partHere_47 (by decide) ?_
        exact ret_i0 (Option.some.inj h) X hQ hP hS dX5_partHere_50
    · have h := it_f hc h
      refine lv_sipush (v := 1000) X.1 X.2.1 dX5_partHere_31 (by decide) ?_
      exact ret_i0 (Option.some.inj h) X hQ hP hS dX5_partHere_34
  · have h := it_t hc h
    refine lv_aload_n X.1 X.2.1 dX5_partHere_11 rfl (lv_at hl 0 rfl) ?_
    refine r_get (C := RX5) (T := TX5) (N := 7) (ci := 5) (v := .ref (a1 0)) X iw5 hP 0 rfl rfl 0 rfl mw_2_14 rfl dX5_partHere_12 ?_
    refine r_get (C := RX10) (T := TX10) (N := 8) (ci := 10) (v := .int (g1 6 0)) X iw10 hP 5 rfl rfl 6 rfl mw_1_58 rfl dX5_partHere_15 ?_
    exact ret_i0 (Option.some.inj h) X hQ hP hS dX5_partHere_18

def f_X5_put (g0 : Pic) (g1 : Pic) (x1 : Int32) : Option (Int32 × Pic) := jn (fun (g0_J32 : Pic) => some (1, g0_J32)) (fun J32 => (if 400 ≤ (g0 6 0) then J32 g0 else gdi (g0 6 0) 400 (nm (pu g0 4 ((g0 6 0).toNatClampNeg) x1) (fun g0_2 => nm (pu g0_2 6 0 ((g0_2 6 0) + 1)) (fun g0_3 => J32 g0_3)))))
abbrev rm_X5_put : Room := { frames := 0, cells := 0, slots := 0, locals := 0 }
set_option maxHeartbeats 4000000 in
set_option maxRecDepth 100000 in
theorem c_X5_put (l : Launch) (dC : Nat → ClassId) (dI : Nat → Nat → Nat) (sk sv : Nat → Nat) (tc : Nat → ClassId) (a0 : Nat → Nat) (a1 : Nat → Nat) (g0 : Pic) (g1 : Pic) (x1 : Int32) {r0 : Int32} {G0 : Pic} (h : f_X5_put g0 g1 x1 = some (r0, G0)) : CT l (dC, dI) sk sv (TY tc) yX5_put cX5_put 2 (some .boolean) rm_X5_put [.ref (a0 0), .int x1] (wLR tc a0 g0 (a1 0) ++ (wTp tc a1 g1)) (some (.int r0)) (wLR tc a0 G0 (a1 0) ++ (wTp tc a1 g1)) := by
  refine ofCT (by decide) (Nat.le_of_ble_eq_true rfl) ?_
  intro pr e s m args below meth c A Q ls H locs X hQ hD0 hP hS hl
  have hD : ∀ z0 z1, va_D A (wLR tc a0 z0 (a1 0) ++ (wTp tc a1 z1)) := fun z0 z1 => D_fst (ws := (wLR tc a0 g0 (a1 0) ++ (wTp tc a1 g1))) rfl hD0
  have hl : lv_has ls 2 [(0, .ref (a0 0)), (1, .int x1)] := hl
  unfold f_X5_put at h
  refine lv_aload_n X.1 X.2.1 dX5_put_0 rfl (lv_at hl 0 rfl) ?_
  refine r_get (C := RX5) (T := TX5) (N := 7) (ci := 5) (v := .int (g0 6 0)) X iw5 hP 0 rfl rfl 6 rfl mw_2_20 rfl dX5_put_1 ?_
  refine lv_aload_n X.1 X.2.1 dX5_put_4 rfl (lv_at hl 0 rfl) ?_
  refine r_get (C := RX5) (T := TX5) (N := 7) (ci := 5) (v := .ref (a0 5)) X iw5 hP 0 rfl rfl 4 rfl mw_2_18 rfl dX5_put_5 ?_
  refine r_alen (v := 400) X hP 4 0 rfl rfl rfl dX5_put_8 ?_
  obtain ⟨J32, eJ32, h⟩ := jn_el h
  have HJ32 : ∀ (g0_J32 : Pic) (H : Heap) (locs : List Loc) (ls : Array Slot), J32 g0_J32 = some (r0, G0) → va_P (dC, dI) vwCl (wLR tc a0 g0_J32 (a1 0) ++ (wTp tc a1 g1)) H → va_S A s.heap H locs → lv_has ls 2 [] → W pr l e rm_X5_put s m args below meth c H locs 0 0 Q (F0 m 32 ls []) := by
    intro g0_J32 H locs ls h hP hS hl
    rw [eJ32] at h
    refine lv_iconst (v := 1) X.1 X.2.1 dX5_put_32 (by decide) ?_
    exact ret_z (fun u => (wLR tc a0 u (a1 0) ++ (wTp tc a1 g1))) (res := (r0, G0)) (by decide) (Option.some.inj h) X hQ hP hS dX5_put_33
  refine lv_icmp_ge (tgt := 32) X.1 X.2.1 dX5_put_9 (by decide) (fun hc => ?_) (fun hc => ?_)
  · have h := it_t hc h
    exact HJ32 g0 H locs ls h hP hS (lv_sub hl [] rfl)
  · have h := it_f hc h
    refine lv_aload_n X.1 X.2.1 dX5_put_12 rfl (lv_at hl 0 rfl) ?_
    refine r_get (C := RX5) (T := TX5) (N := 7) (ci := 5) (v := .ref (a0 5)) X iw5 hP 0 rfl rfl 4 rfl mw_2_18 rfl dX5_put_13 ?_
    refine lv_aload_n X.1 X.2.1 dX5_put_16 rfl (lv_at hl 0 rfl) ?_
    refine r_get (C := RX5) (T := TX5) (N := 7) (ci := 5) (v := .int (g0 6 0)) X iw5 hP 0 rfl rfl 6 rfl mw_2_20 rfl dX5_put_17 ?_
    refine lv_iload_n X.1 X.2.1 dX5_put_20 rfl (lv_at hl 1 rfl) ?_
    obtain ⟨hg_1, h⟩ := gdi_el h
    obtain ⟨g0_2, eg0_2, h⟩ := nm_el h
    refine r_iast X hP (hD _ _) hS 4 0 rfl rfl hg_1 rfl dX5_put_21 (wLR tc a0 g0_2 (a1 0) ++ (wTp tc a1 g1)) (by rw [eg0_2]; rfl) (fun H locs hP hS => ?_)
    refine lv_aload_n X.1 X.2.1 dX5_put_22 rfl (lv_at hl 0 rfl) ?_
    refine lv_dup X.1 X.2.1 dX5_put_23 rfl ?_
    refine r_get (C := RX5) (T := TX5) (N := 7) (ci := 5) (v := .int (g0_2 6 0)) X iw5 hP 0 rfl rfl 6 rfl mw_2_20 rfl dX5_put_24 ?_
    refine lv_iconst (v := 1) X.1 X.2.1 dX5_put_27 (by decide) ?_
    refine lv_iadd X.1 X.2.1 dX5_put_28 ?_
    obtain ⟨g0_3, eg0_3, h⟩ := nm_el h
    refine r_put (C := RX5) (T := TX5) (N := 7) (ci := 5) tyX5 tyX5_ok nmX5 X iw5 hP (hD _ _) hS 0 rfl rfl 6 rfl mw_2_20 rfl rfl rfl rfl dX5_put_29 (wLR tc a0 g0_3 (a1 0) ++ (wTp tc a1 g1)) (by rw [eg0_3]; rfl) (fun H locs hP hS => ?_)
    exact HJ32 g0_3 H locs ls h hP hS (lv_sub hl [] rfl)

def f_X5_readsSum_L2 (n : Nat) (a : Int32 × Pic × Pic) : Option ((Int32 × Pic × Pic) ⊕ (Pic × Pic)) := lp (fun (rec : Int32 × Pic × Pic → Option ((Int32 × Pic × Pic) ⊕ (Pic × Pic))) (a : Int32 × Pic × Pic) => match a with | (x1, g0, g1) => (if 400 ≤ x1 then some (.inr (g0, g1)) else bd (f_X5_partHere g0 g1) (fun r_1 => (if r_1 = (-1) then bd2 (f_X10_refuse g1) (fun r_7 g1_7 => gdb r_7 (some (.inl (r_7, g0, g1_7)))) else bd (f_X10_step g1) (fun g1_2 => bd2 (f_X5_put g0 g1_2 r_1) (fun r_3 g0_3 => jn (fun (g0_J52 : Pic) => bd2 (f_X10_takesSign g1_2 43) (fun r_4 g1_4 => (if r_4 = 0 then some (.inl (1, g0_J52, g1_4)) else nm (x1 + 1) (fun x1_5 => rec (x1_5, g0_J52, g1_4))))) (fun J52 => (if x1 ≤ 0 then J52 g0_3 else bd2 (f_X5_put g0_3 g1_2 2005) (fun r_6 g0_6 => J52 g0_6))))))))) n a
def f_X5_readsSum (g0 : Pic) (g1 : Pic) : Option (Int32 × Pic × Pic) := lr (f_X5_readsSum_L2  fu (0, g0, g1)) (fun a => a) (fun (g0_9, g1_9) => bd2 (f_X10_refuse g1_9) (fun r_10 g1_10 => gdb r_10 (some (r_10, g0_9, g1_10))))
abbrev rm_X5_readsSum : Room := { frames := 6, cells := 0, slots := 0, locals := 153 }
set_option maxHeartbeats 4000000 in
set_option maxRecDepth 100000 in
theorem c_X5_readsSum (l : Launch) (dC : Nat → ClassId) (dI : Nat → Nat → Nat) (sk sv : Nat → Nat) (tc : Nat → ClassId) (a0 : Nat → Nat) (a1 : Nat → Nat) (g0 : Pic) (g1 : Pic) {r0 : Int32} {G0 : Pic} {G1 : Pic} (h : f_X5_readsSum g0 g1 = some (r0, G0, G1)) : CT l (dC, dI) sk sv (TY tc) yX5_readsSum cX5_readsSum 3 (some .boolean) rm_X5_readsSum [.ref (a0 0)] (wLR tc a0 g0 (a1 0) ++ (wTp tc a1 g1)) (some (.int r0)) (wLR tc a0 G0 (a1 0) ++ (wTp tc a1 G1)) := by
  refine ofCT (by decide) (Nat.le_of_ble_eq_true rfl) ?_
  intro pr e s m args below meth c A Q ls H locs X hQ hD0 hP hS hl
  have hD : ∀ z0 z1, va_D A (wLR tc a0 z0 (a1 0) ++ (wTp tc a1 z1)) := fun z0 z1 => D_fst (ws := (wLR tc a0 g0 (a1 0) ++ (wTp tc a1 g1))) rfl hD0
  have hl : lv_has ls 3 [(0, .ref (a0 0))] := hl
  have HL2 : ∀ (n : Nat) (x1 : Int32) (g0 : Pic) (g1 : Pic) (ex : ((Int32 × Pic × Pic) ⊕ (Pic × Pic))), f_X5_readsSum_L2  n (x1, g0, g1) = some ex → (∀ rv, ex = .inl rv → rv = (r0, G0, G1)) → ∀ (H : Heap) (locs : List Loc) (ls : Array Slot), va_P (dC, dI) vwCl (wLR tc a0 g0 (a1 0) ++ (wTp tc a1 g1)) H → va_S A s.heap H locs → lv_has ls 3 [(0, .ref (a0 0)), (1, .int x1)] → (∀ (k0 : Pic) (k1 : Pic), .inr (k0, k1) = ex → ∀ (H : Heap) (locs : List Loc) (ls : Array Slot), va_P (dC, dI) vwCl (wLR tc a0 k0 (a1 0) ++ (wTp tc a1 k1)) H → va_S A s.heap H locs → lv_has ls 3 [(0, .ref (a0 0))] → W pr l e rm_X5_readsSum s m args below meth c H locs 0 0 Q (F0 m 72 ls [])) → W pr l e rm_X5_readsSum s m args below meth c H locs 0 0 Q (F0 m 2 ls []) := by
    intro n
    induction n with
    | zero => intro x1 g0 g1 ex h; exact lp_z h
    | succ n ih =>
      intro x1 g0 g1 ex h hR H locs ls hP hS hl K
      have h := lp_s h
      refine lv_iload_n X.1 X.2.1 dX5_readsSum_2 rfl (lv_at hl 1 rfl) ?_
      refine lv_sipush (v := 400) X.1 X.2.1 dX5_readsSum_3 (by decide) ?_
      refine lv_icmp_ge (tgt := 72) X.1 X.2.1 dX5_readsSum_6 (by decide) (fun hc => ?_) (fun hc => ?_)
      · have h := it_t hc h
        exact K g0 g1 (Option.some.inj h) H locs ls hP hS (lv_sub hl [0] rfl)
      · have h := it_f hc h
        refine lv_aload_n X.1 X.2.1 dX5_readsSum_9 rfl (lv_at hl 0 rfl) ?_
        obtain ⟨r_1, hc_1, h⟩ := bd_el h
        refine call_V1i (As := []) (rest := []) X (c_X5_partHere l dC dI sk sv tc a0 a1 g0 g1 hc_1) mw_4_142 mw_4_143 mw_4_144 mw_1_6 mw_4_145 dc_X5_partHere ⟨Nat.le_of_ble_eq_true rfl, Nat.le_of_ble_eq_true rfl⟩ rfl rfl ⟨Nat.zero_le _, Nat.zero_le _⟩ hP (hD _ _) hS 0 rfl rfl rfl hl.1 (Nat.le_of_ble_eq_true rfl) dX5_readsSum_10 (fun H locs hP hS => ?_)
        refine lv_istore_n (lv' := [(2, .int r_1), (0, .ref (a0 0)), (1, .int x1)]) X.1 X.2.1 dX5_readsSum_13 rfl hl (by decide) rfl (fun ls hl => ?_)
        refine lv_iload_n X.1 X.2.1 dX5_readsSum_14 rfl (lv_at hl 0 rfl) ?_
        refine lv_iconst (v := (-1)) X.1 X.2.1 dX5_readsSum_15 (by decide) ?_
        refine lv_icmp_ne (tgt := 27) X.1 X.2.1 dX5_readsSum_16 (by decide) (fun hc => ?_) (fun hc => ?_)
        · have h := it_f hc h
          refine lv_aload_n X.1 X.2.1 dX5_readsSum_27 rfl (lv_at hl 1 rfl) ?_
          refine r_get (C := RX5) (T := TX5) (N := 7) (ci := 5) (v := .ref (a1 0)) X iw5 hP 0 rfl rfl 0 rfl mw_2_14 rfl dX5_readsSum_28 ?_
          obtain ⟨g1_2, hc_2, h⟩ := bd_el h
          refine call_Vsv (ws := (wLR tc a0 g0 (a1 0) ++ (wTp tc a1 g1))) (ws' := (wLR tc a0 g0 (a1 0) ++ (wTp tc a1 g1_2))) (wLR tc a0 g0 (a1 0)) [] (As := []) (rest := []) X (c_X10_step l dC dI sk sv tc a1 g1 hc_2) mw_4_130 mw_3_129 mw_3_130 mw_1_2 mw_3_131 dc_X10_step ⟨Nat.le_of_ble_eq_true rfl, Nat.le_of_ble_eq_true rfl⟩ rfl rfl ⟨Nat.zero_le _, Nat.zero_le _⟩ (by simp only [List.append_assoc, List.nil_append, List.append_nil]) (by simp only [List.append_assoc, List.nil_append, List.append_nil]) hP (hD _ _) hS 0 rfl rfl rfl hl.1 (Nat.le_of_ble_eq_true rfl) dX5_readsSum_31 (fun H locs hP hS => ?_)
          refine lv_aload_n X.1 X.2.1 dX5_readsSum_34 rfl (lv_at hl 1 rfl) ?_
          refine lv_iload_n X.1 X.2.1 dX5_readsSum_35 rfl (lv_at hl 0 rfl) ?_
          obtain ⟨r_3, g0_3, hc_3, h⟩ := bd2_el h
          refine call_V1i (As := [.int r_1]) (rest := []) X (c_X5_put l dC dI sk sv tc a0 a1 g0 g1_2 r_1 hc_3) mw_4_132 mw_4_133 mw_4_134 mw_1_6 mw_4_135 dc_X5_put ⟨Nat.le_of_ble_eq_true rfl, Nat.le_of_ble_eq_true rfl⟩ rfl rfl ⟨Nat.zero_le _, Nat.zero_le _⟩ hP (hD _ _) hS 0 rfl rfl rfl hl.1 (Nat.le_of_ble_eq_true rfl) dX5_readsSum_36 (fun H locs hP hS => ?_)
          refine lv_pop X.1 X.2.1 dX5_readsSum_39 rfl ?_
          refine lv_iload_n X.1 X.2.1 dX5_readsSum_40 rfl (lv_at hl 2 rfl) ?_
          obtain ⟨J52, eJ52, h⟩ := jn_el h
          have HJ52 : ∀ (g0_J52 : Pic) (H : Heap) (locs : List Loc) (ls : Array Slot), J52 g0_J52 = some ex → va_P (dC, dI) vwCl (wLR tc a0 g0_J52 (a1 0) ++ (wTp tc a1 g1_2)) H → va_S A s.heap H locs → lv_has ls 3 [(0, .ref (a0 0)), (1, .int x1)] → W pr l e rm_X5_readsSum s m args below meth c H locs 0 0 Q (F0 m 52 ls []) := by
            intro g0_J52 H locs ls h hP hS hl
            rw [eJ52] at h
            refine lv_aload_n X.1 X.2.1 dX5_readsSum_52 rfl (lv_at hl 0 rfl) ?_
            refine r_get (C := RX5) (T := TX5) (N := 7) (ci := 5) (v := .ref (a1 0)) X iw5 hP 0 rfl rfl 0 rfl mw_2_14 rfl dX5_readsSum_53 ?_
            refine lv_bipush (v := 43) X.1 X.2.1 dX5_readsSum_56 (by decide) ?_
            obtain ⟨r_4, g1_4, hc_4, h⟩ := bd2_el h
            refine call_Vsi (ws := (wLR tc a0 g0_J52 (a1 0) ++ (wTp tc a1 g1_2))) (ws' := (wLR tc a0 g0_J52 (a1 0) ++ (wTp tc a1 g1_4))) (wLR tc a0 g0_J52 (a1 0)) [] (As := [.int 43]) (rest := []) X (c_X10_takesSign l dC dI sk sv tc a1 g1_2 43 hc_4) mw_4_131 mw_3_239 mw_4_0 mw_1_2 mw_4_1 dc_X10_takesSign ⟨Nat.le_of_ble_eq_true rfl, Nat.le_of_ble_eq_true rfl⟩ rfl rfl ⟨Nat.zero_le _, Nat.zero_le _⟩ (by simp only [List.append_assoc, List.nil_append, List.append_nil]) (by simp only [List.append_assoc, List.nil_append, List.append_nil]) hP (hD _ _) hS 0 rfl rfl rfl hl.1 (Nat.le_of_ble_eq_true rfl) dX5_readsSum_58 (fun H locs hP hS => ?_)
            refine lv_if_ne (tgt := 66) X.1 X.2.1 dX5_readsSum_61 (by decide) (fun hc => ?_) (fun hc => ?_)
            · have h := it_f hc h
              obtain ⟨x1_5, ex1_5, h⟩ := nm_el h
              refine lv_iinc (v := x1_5) (lv' := [(1, .int x1_5), (0, .ref (a0 0))]) X.1 X.2.1 dX5_readsSum_66 hl (k := 1) rfl (by rw [ex1_5]; rfl) (by decide) rfl (fun ls hl => ?_)
              refine lv_goto (tgt := 2) X.1 X.2.1 dX5_readsSum_69 (by decide) ?_
              exact ih x1_5 g0_J52 g1_4 ex h hR H locs ls hP hS (lv_sub hl [1, 0] rfl) K
            · have h := it_t hc h
              refine lv_iconst (v := 1) X.1 X.2.1 dX5_readsSum_64 (by decide) ?_
              exact ret_z (fun u => (wLR tc a0 u.1 (a1 0) ++ (wTp tc a1 u.2))) (res := (r0, G0, G1)) (by decide) (hR _ (Option.some.inj h).symm) X hQ hP hS dX5_readsSum_65
          refine lv_if_le (tgt := 52) X.1 X.2.1 dX5_readsSum_41 (by decide) (fun hc => ?_) (fun hc => ?_)
          · have h := it_t hc h
            exact HJ52 g0_3 H locs ls h hP hS (lv_sub hl [1, 2] rfl)
          · have h := it_f hc h
            refine lv_aload_n X.1 X.2.1 dX5_readsSum_44 rfl (lv_at hl 1 rfl) ?_
            refine lv_sipush (v := 2005) X.1 X.2.1 dX5_readsSum_45 (by decide) ?_
            obtain ⟨r_6, g0_6, hc_6, h⟩ := bd2_el h
            refine call_V1i (As := [.int 2005]) (rest := []) X (c_X5_put l dC dI sk sv tc a0 a1 g0_3 g1_2 2005 hc_6) mw_4_132 mw_4_133 mw_4_134 mw_1_6 mw_4_135 dc_X5_put ⟨Nat.le_of_ble_eq_true rfl, Nat.le_of_ble_eq_true rfl⟩ rfl rfl ⟨Nat.zero_le _, Nat.zero_le _⟩ hP (hD _ _) hS 0 rfl rfl rfl hl.1 (Nat.le_of_ble_eq_true rfl) dX5_readsSum_48 (fun H locs hP hS => ?_)
            refine lv_pop X.1 X.2.1 dX5_readsSum_51 rfl ?_
            exact HJ52 g0_6 H locs ls h hP hS (lv_sub hl [1, 2] rfl)
        · have h := it_t hc h
          refine lv_aload_n X.1 X.2.1 dX5_readsSum_19 rfl (lv_at hl 1 rfl) ?_
          refine r_get (C := RX5) (T := TX5) (N := 7) (ci := 5) (v := .ref (a1 0)) X iw5 hP 0 rfl rfl 0 rfl mw_2_14 rfl dX5_readsSum_20 ?_
          obtain ⟨r_7, g1_7, hc_7, h⟩ := bd2_el h
          refine call_Vsi (ws := (wLR tc a0 g0 (a1 0) ++ (wTp tc a1 g1))) (ws' := (wLR tc a0 g0 (a1 0) ++ (wTp tc a1 g1_7))) (wLR tc a0 g0 (a1 0)) [] (As := []) (rest := []) X (c_X10_refuse l dC dI sk sv tc a1 g1 hc_7) mw_4_116 mw_3_194 mw_3_195 mw_1_2 mw_3_196 dc_X10_refuse ⟨Nat.le_of_ble_eq_true rfl, Nat.le_of_ble_eq_true rfl⟩ rfl rfl ⟨Nat.zero_le _, Nat.zero_le _⟩ (by simp only [List.append_assoc, List.nil_append, List.append_nil]) (by simp only [List.append_assoc, List.nil_append, List.append_nil]) hP (hD _ _) hS 0 rfl rfl rfl hl.1 (Nat.le_of_ble_eq_true rfl) dX5_readsSum_23 (fun H locs hP hS => ?_)
          obtain ⟨hg_8, h⟩ := gdb_el h
          exact ret_z (fun u => (wLR tc a0 u.1 (a1 0) ++ (wTp tc a1 u.2))) (res := (r0, G0, G1)) hg_8 (hR _ (Option.some.inj h).symm) X hQ hP hS dX5_readsSum_26
  unfold f_X5_readsSum at h
  refine lv_iconst (v := 0) X.1 X.2.1 dX5_readsSum_0 (by decide) ?_
  refine lv_istore_n (lv' := [(1, .int 0), (0, .ref (a0 0))]) X.1 X.2.1 dX5_readsSum_1 rfl hl (by decide) rfl (fun ls hl => ?_)
  obtain ⟨ex_9, hL_9, h1_9, h2_9⟩ := lr_el h
  refine HL2  fu 0 g0 g1 ex_9 hL_9 (fun rv hq => h1_9 rv hq) H locs ls hP hS (lv_sub hl [1, 0] rfl) (fun g0_9 g1_9 he H locs ls hP hS hl => ?_)
  have h := h2_9 _ he.symm
  refine lv_aload_n X.1 X.2.1 dX5_readsSum_72 rfl (lv_at hl 0 rfl) ?_
  refine r_get (C := RX5) (T := TX5) (N := 7) (ci := 5) (v := .ref (a1 0)) X iw5 hP 0 rfl rfl 0 rfl mw_2_14 rfl dX5_readsSum_73 ?_
  obtain ⟨r_10, g1_10, hc_10, h⟩ := bd2_el h
  refine call_Vsi (ws := (wLR tc a0 g0_9 (a1 0) ++ (wTp tc a1 g1_9))) (ws' := (wLR tc a0 g0_9 (a1 0) ++ (wTp tc a1 g1_10))) (wLR tc a0 g0_9 (a1 0)) [] (As := []) (rest := []) X (c_X10_refuse l dC dI sk sv tc a1 g1_9 hc_10) mw_4_116 mw_3_194 mw_3_195 mw_1_2 mw_3_196 dc_X10_refuse ⟨Nat.le_of_ble_eq_true rfl, Nat.le_of_ble_eq_true rfl⟩ rfl rfl ⟨Nat.zero_le _, Nat.zero_le _⟩ (by simp only [List.append_assoc, List.nil_append, List.append_nil]) (by simp only [List.append_assoc, List.nil_append, List.append_nil]) hP (hD _ _) hS 0 rfl rfl rfl hl.1 (Nat.le_of_ble_eq_true rfl) dX5_readsSum_76 (fun H locs hP hS => ?_)
  obtain ⟨hg_11, h⟩ := gdb_el h
  exact ret_z (fun u => (wLR tc a0 u.1 (a1 0) ++ (wTp tc a1 u.2))) (res := (r0, G0, G1)) hg_11 (Option.some.inj h) X hQ hP hS dX5_readsSum_79

abbrev rmL (d : Nat) : Room := { frames := 10 + 4 * d, cells := 0, slots := 0, locals := 1000 + 200 * d }
abbrev rmC (d : Nat) : Room := { frames := 11 + 4 * d, cells := 0, slots := 0, locals := 1040 + 200 * d }
def f_X5_readsCondition_L21 (Af : Pic → Pic → Int32 → Option (Int32 × Pic × Pic)) (x1 : Int32) (x2 : Int32) (n : Nat) (a : Int32 × Pic × Pic) : Option ((Int32 × Pic × Pic) ⊕ (Pic × Pic)) := lp (fun (rec : Int32 × Pic × Pic → Option ((Int32 × Pic × Pic) ⊕ (Pic × Pic))) (a : Int32 × Pic × Pic) => match a with | (x3, g0, g1) => (if 400 ≤ x3 then some (.inr (g0, g1)) else bd2 (f_X10_takesName 21 g1) (fun r_2 g1_2 => (if r_2 = 0 then some (.inr (g0, g1_2)) else bd3 (Af g0 g1_2 x1) (fun r_3 g0_3 g1_3 => (if r_3 = 0 then some (.inl (0, g0_3, g1_3)) else bd2 (f_X5_put g0_3 g1_3 2001) (fun r_4 g0_4 => nm (x3 + 1) (fun x3_5 => rec (x3_5, g0_4, g1_3))))))))) n a
def f_X5_readsCondition_L2 (Af : Pic → Pic → Int32 → Option (Int32 × Pic × Pic)) (x1 : Int32) (n : Nat) (a : Int32 × Pic × Pic) : Option ((Int32 × Pic × Pic) ⊕ (Pic × Pic)) := lp (fun (rec : Int32 × Pic × Pic → Option ((Int32 × Pic × Pic) ⊕ (Pic × Pic))) (a : Int32 × Pic × Pic) => match a with | (x2, g0, g1) => (if 400 ≤ x2 then some (.inr (g0, g1)) else bd3 (Af g0 g1 x1) (fun r_1 g0_1 g1_1 => (if r_1 = 0 then some (.inl (0, g0_1, g1_1)) else lr (f_X5_readsCondition_L21 Af x1 x2 fu (0, g0_1, g1_1)) (fun a => .inl a) (fun (g0_6, g1_6) => jn (fun (g0_J76 : Pic) => bd2 (f_X10_takesName 22 g1_6) (fun r_7 g1_7 => (if r_7 = 0 then some (.inl (1, g0_J76, g1_7)) else nm (x2 + 1) (fun x2_8 => rec (x2_8, g0_J76, g1_7))))) (fun J76 => (if x2 ≤ 0 then J76 g0_6 else bd2 (f_X5_put g0_6 g1_6 2002) (fun r_9 g0_9 => J76 g0_9)))))))) n a
def f_X5_readsCondition (Af : Pic → Pic → Int32 → Option (Int32 × Pic × Pic)) (g0 : Pic) (g1 : Pic) (x1 : Int32) : Option (Int32 × Pic × Pic) := lr (f_X5_readsCondition_L2 Af x1 fu (0, g0, g1)) (fun a => a) (fun (g0_10, g1_10) => bd2 (f_X10_refuse g1_10) (fun r_11 g1_11 => gdb r_11 (some (r_11, g0_10, g1_11))))
set_option maxHeartbeats 4000000 in
set_option maxRecDepth 100000 in
theorem c_X5_readsCondition (l : Launch) (dC : Nat → ClassId) (dI : Nat → Nat → Nat) (sk sv : Nat → Nat) (tc : Nat → ClassId) (a0 : Nat → Nat) (a1 : Nat → Nat) (d : Nat) (Af : Pic → Pic → Int32 → Option (Int32 × Pic × Pic)) (hA : ∀ (g k : Pic) (x r : Int32) (G K : Pic), Af g k x = some (r, G, K) → CT l (dC, dI) sk sv (TY tc) yX5_readsAtom cX5_readsAtom 5 (some .boolean) (rmL d) [.ref (a0 0), .int x] (wLR tc a0 g (a1 0) ++ (wTp tc a1 k)) (some (.int r)) (wLR tc a0 G (a1 0) ++ (wTp tc a1 K))) (g0 : Pic) (g1 : Pic) (x1 : Int32) {r0 : Int32} {G0 : Pic} {G1 : Pic} (h : f_X5_readsCondition Af g0 g1 x1 = some (r0, G0, G1)) : CT l (dC, dI) sk sv (TY tc) yX5_readsCondition cX5_readsCondition 4 (some .boolean) (rmC d) [.ref (a0 0), .int x1] (wLR tc a0 g0 (a1 0) ++ (wTp tc a1 g1)) (some (.int r0)) (wLR tc a0 G0 (a1 0) ++ (wTp tc a1 G1)) := by
  refine ofCT (by decide) (Nat.le_of_ble_eq_true rfl) ?_
  intro pr e s m args below meth c A Q ls H locs X hQ hD0 hP hS hl
  have hD : ∀ z0 z1, va_D A (wLR tc a0 z0 (a1 0) ++ (wTp tc a1 z1)) := fun z0 z1 => D_fst (ws := (wLR tc a0 g0 (a1 0) ++ (wTp tc a1 g1))) rfl hD0
  have hl : lv_has ls 4 [(0, .ref (a0 0)), (1, .int x1)] := hl
  have HL21 : ∀ (x1 : Int32) (x2 : Int32) (n : Nat) (x3 : Int32) (g0 : Pic) (g1 : Pic) (ex : ((Int32 × Pic × Pic) ⊕ (Pic × Pic))), f_X5_readsCondition_L21 Af x1 x2 n (x3, g0, g1) = some ex → (∀ rv, ex = .inl rv → rv = (r0, G0, G1)) → ∀ (H : Heap) (locs : List Loc) (ls : Array Slot), va_P (dC, dI) vwCl (wLR tc a0 g0 (a1 0) ++ (wTp tc a1 g1)) H → va_S A s.heap H locs → lv_has ls 4 [(0, .ref (a0 0)), (1, .int x1), (2, .int x2), (3, .int x3)] → (∀ (k0 : Pic) (k1 : Pic), .inr (k0, k1) = ex → ∀ (H : Heap) (locs : List Loc) (ls : Array Slot), va_P (dC, dI) vwCl (wLR tc a0 k0 (a1 0) ++ (wTp tc a1 k1)) H → va_S A s.heap H locs → lv_has ls 4 [(0, .ref (a0 0)), (1, .int x1), (2, .int x2)] → W pr l e (rmC d) s m args below meth c H locs 0 0 Q (F0 m 64 ls [])) → W pr l e (rmC d) s m args below meth c H locs 0 0 Q (F0 m 21 ls []) := by
    intro x1 x2 n
    induction n with
    | zero => intro x3 g0 g1 ex h; exact lp_z h
    | succ n ih =>
      intro x3 g0 g1 ex h hR H locs ls hP hS hl K
      have h := lp_s h
      refine lv_iload_n X.1 X.2.1 dX5_readsCondition_21 rfl (lv_at hl 3 rfl) ?_
      refine lv_sipush (v := 400) X.1 X.2.1 dX5_readsCondition_22 (by decide) ?_
      refine lv_icmp_ge (tgt := 64) X.1 X.2.1 dX5_readsCondition_25 (by decide) (fun hc => ?_) (fun hc => ?_)
      · have h := it_t hc h
        exact K g0 g1 (Option.some.inj h) H locs ls hP hS (lv_sub hl [0, 1, 2] rfl)
      · have h := it_f hc h
        refine lv_aload_n X.1 X.2.1 dX5_readsCondition_28 rfl (lv_at hl 0 rfl) ?_
        refine r_get (C := RX5) (T := TX5) (N := 7) (ci := 5) (v := .ref (a1 0)) X iw5 hP 0 rfl rfl 0 rfl mw_2_14 rfl dX5_readsCondition_29 ?_
        refine va_ldcS X.1 X.2.1 X.2.2.2.2.1 (X.2.2.2.2.2.2.2.2.2.2.2.2.2.1 ("PencilUp$LawReader", 86, "and", 21) (List.mem_of_getElem? (i := 27) rfl)) dX5_readsCondition_32 ?_
        obtain ⟨r_2, g1_2, hc_2, h⟩ := bd2_el h
        refine call_Vsi (ws := (wLR tc a0 g0 (a1 0) ++ (wTp tc a1 g1))) (ws' := (wLR tc a0 g0 (a1 0) ++ (wTp tc a1 g1_2))) (wLR tc a0 g0 (a1 0)) [] (As := [.ref (sk 21)]) (rest := []) X (c_X10_takesName l dC dI sk sv tc 21 a1 g1 hc_2 (by decide)) mw_4_113 mw_3_204 mw_3_205 mw_1_2 mw_3_206 dc_X10_takesName ⟨by first | exact Nat.le_of_ble_eq_true rfl | (simp only []; omega), by first | exact Nat.le_of_ble_eq_true rfl | (simp only []; omega)⟩ rfl rfl ⟨Nat.zero_le _, Nat.zero_le _⟩ (by simp only [List.append_assoc, List.nil_append, List.append_nil]) (by simp only [List.append_assoc, List.nil_append, List.append_nil]) hP (hD _ _) hS 0 rfl rfl rfl hl.1 (Nat.le_of_ble_eq_true rfl) dX5_readsCondition_34 (fun H locs hP hS => ?_)
        refine lv_if_eq (tgt := 64) X.1 X.2.1 dX5_readsCondition_37 (by decide) (fun hc => ?_) (fun hc => ?_)
        · have h := it_t hc h
          exact K g0 g1_2 (Option.some.inj h) H locs ls hP hS (lv_sub hl [0, 1, 2] rfl)
        · have h := it_f hc h
          refine lv_aload_n X.1 X.2.1 dX5_readsCondition_40 rfl (lv_at hl 0 rfl) ?_
          refine lv_iload_n X.1 X.2.1 dX5_readsCondition_41 rfl (lv_at hl 1 rfl) ?_
          obtain ⟨r_3, g0_3, g1_3, hc_3, h⟩ := bd3_el h
          refine call_V1i (As := [.int x1]) (rest := []) X (hA _ _ _ _ _ _ hc_3) mw_4_123 mw_4_125 mp_1_4 mw_1_6 mw_4_126 dc_X5_readsAtom ⟨by first | exact Nat.le_of_ble_eq_true rfl | (simp only []; omega), by first | exact Nat.le_of_ble_eq_true rfl | (simp only []; omega)⟩ rfl rfl ⟨Nat.zero_le _, Nat.zero_le _⟩ hP (hD _ _) hS 0 rfl rfl rfl hl.1 (Nat.le_of_ble_eq_true rfl) dX5_readsCondition_42 (fun H locs hP hS => ?_)
          refine lv_if_ne (tgt := 50) X.1 X.2.1 dX5_readsCondition_45 (by decide) (fun hc => ?_) (fun hc => ?_)
          · have h := it_f hc h
            refine lv_aload_n X.1 X.2.1 dX5_readsCondition_50 rfl (lv_at hl 0 rfl) ?_
            refine lv_sipush (v := 2001) X.1 X.2.1 dX5_readsCondition_51 (by decide) ?_
            obtain ⟨r_4, g0_4, hc_4, h⟩ := bd2_el h
            refine call_V1i (As := [.int 2001]) (rest := []) X (c_X5_put l dC dI sk sv tc a0 a1 g0_3 g1_3 2001 hc_4) mw_4_132 mw_4_133 mw_4_134 mw_1_6 mw_4_135 dc_X5_put ⟨by first | exact Nat.le_of_ble_eq_true rfl | (simp only []; omega), by first | exact Nat.le_of_ble_eq_true rfl | (simp only []; omega)⟩ rfl rfl ⟨Nat.zero_le _, Nat.zero_le _⟩ hP (hD _ _) hS 0 rfl rfl rfl hl.1 (Nat.le_of_ble_eq_true rfl) dX5_readsCondition_54 (fun H locs hP hS => ?_)
            refine lv_pop X.1 X.2.1 dX5_readsCondition_57 rfl ?_
            obtain ⟨x3_5, ex3_5, h⟩ := nm_el h
            refine lv_iinc (v := x3_5) (lv' := [(3, .int x3_5), (0, .ref (a0 0)), (1, .int x1), (2, .int x2)]) X.1 X.2.1 dX5_readsCondition_58 hl (k := 3) rfl (by rw [ex3_5]; rfl) (by decide) rfl (fun ls hl => ?_)
            refine lv_goto (tgt := 21) X.1 X.2.1 dX5_readsCondition_61 (by decide) ?_
            exact ih x3_5 g0_4 g1_3 ex h hR H locs ls hP hS (lv_sub hl [1, 2, 3, 0] rfl) K
          · have h := it_t hc h
            refine lv_iconst (v := 0) X.1 X.2.1 dX5_readsCondition_48 (by decide) ?_
            exact ret_z (fun u => (wLR tc a0 u.1 (a1 0) ++ (wTp tc a1 u.2))) (res := (r0, G0, G1)) (by decide) (hR _ (Option.some.inj h).symm) X hQ hP hS dX5_readsCondition_49
  have HL2 : ∀ (x1 : Int32) (n : Nat) (x2 : Int32) (g0 : Pic) (g1 : Pic) (ex : ((Int32 × Pic × Pic) ⊕ (Pic × Pic))), f_X5_readsCondition_L2 Af x1 n (x2, g0, g1) = some ex → (∀ rv, ex = .inl rv → rv = (r0, G0, G1)) → ∀ (H : Heap) (locs : List Loc) (ls : Array Slot), va_P (dC, dI) vwCl (wLR tc a0 g0 (a1 0) ++ (wTp tc a1 g1)) H → va_S A s.heap H locs → lv_has ls 4 [(0, .ref (a0 0)), (1, .int x1), (2, .int x2)] → (∀ (k0 : Pic) (k1 : Pic), .inr (k0, k1) = ex → ∀ (H : Heap) (locs : List Loc) (ls : Array Slot), va_P (dC, dI) vwCl (wLR tc a0 k0 (a1 0) ++ (wTp tc a1 k1)) H → va_S A s.heap H locs → lv_has ls 4 [(0, .ref (a0 0))] → W pr l e (rmC d) s m args below meth c H locs 0 0 Q (F0 m 96 ls [])) → W pr l e (rmC d) s m args below meth c H locs 0 0 Q (F0 m 2 ls []) := by
    intro x1 n
    induction n with
    | zero => intro x2 g0 g1 ex h; exact lp_z h
    | succ n ih =>
      intro x2 g0 g1 ex h hR H locs ls hP hS hl K
      have h := lp_s h
      refine lv_iload_n X.1 X.2.1 dX5_readsCondition_2 rfl (lv_at hl 2 rfl) ?_
      refine lv_sipush (v := 400) X.1 X.2.1 dX5_readsCondition_3 (by decide) ?_
      refine lv_icmp_ge (tgt := 96) X.1 X.2.1 dX5_readsCondition_6 (by decide) (fun hc => ?_) (fun hc => ?_)
      · have h := it_t hc h
        exact K g0 g1 (Option.some.inj h) H locs ls hP hS (lv_sub hl [0] rfl)
      · have h := it_f hc h
        refine lv_aload_n X.1 X.2.1 dX5_readsCondition_9 rfl (lv_at hl 0 rfl) ?_
        refine lv_iload_n X.1 X.2.1 dX5_readsCondition_10 rfl (lv_at hl 1 rfl) ?_
        obtain ⟨r_1, g0_1, g1_1, hc_1, h⟩ := bd3_el h
        refine call_V1i (As := [.int x1]) (rest := []) X (hA _ _ _ _ _ _ hc_1) mw_4_123 mw_4_125 mp_1_4 mw_1_6 mw_4_126 dc_X5_readsAtom ⟨by first | exact Nat.le_of_ble_eq_true rfl | (simp only []; omega), by first | exact Nat.le_of_ble_eq_true rfl | (simp only []; omega)⟩ rfl rfl ⟨Nat.zero_le _, Nat.zero_le _⟩ hP (hD _ _) hS 0 rfl rfl rfl hl.1 (Nat.le_of_ble_eq_true rfl) dX5_readsCondition_11 (fun H locs hP hS => ?_)
        refine lv_if_ne (tgt := 19) X.1 X.2.1 dX5_readsCondition_14 (by decide) (fun hc => ?_) (fun hc => ?_)
        · have h := it_f hc h
          refine lv_iconst (v := 0) X.1 X.2.1 dX5_readsCondition_19 (by decide) ?_
          refine lv_istore_n (lv' := [(3, .int 0), (0, .ref (a0 0)), (1, .int x1), (2, .int x2)]) X.1 X.2.1 dX5_readsCondition_20 rfl hl (by decide) rfl (fun ls hl => ?_)
          obtain ⟨ex_6, hL_6, h1_6, h2_6⟩ := lr_el h
          refine HL21 x1 x2 fu 0 g0_1 g1_1 ex_6 hL_6 (fun rv hq => hR rv (h1_6 rv hq).symm) H locs ls hP hS (lv_sub hl [1, 2, 3, 0] rfl) (fun g0_6 g1_6 he H locs ls hP hS hl => ?_)
          have h := h2_6 _ he.symm
          refine lv_iload_n X.1 X.2.1 dX5_readsCondition_64 rfl (lv_at hl 2 rfl) ?_
          obtain ⟨J76, eJ76, h⟩ := jn_el h
          have HJ76 : ∀ (g0_J76 : Pic) (H : Heap) (locs : List Loc) (ls : Array Slot), J76 g0_J76 = some ex → va_P (dC, dI) vwCl (wLR tc a0 g0_J76 (a1 0) ++ (wTp tc a1 g1_6)) H → va_S A s.heap H locs → lv_has ls 4 [(0, .ref (a0 0)), (1, .int x1), (2, .int x2)] → W pr l e (rmC d) s m args below meth c H locs 0 0 Q (F0 m 76 ls []) := by
            intro g0_J76 H locs ls h hP hS hl
            rw [eJ76] at h
            refine lv_aload_n X.1 X.2.1 dX5_readsCondition_76 rfl (lv_at hl 0 rfl) ?_
            refine r_get (C := RX5) (T := TX5) (N := 7) (ci := 5) (v := .ref (a1 0)) X iw5 hP 0 rfl rfl 0 rfl mw_2_14 rfl dX5_readsCondition_77 ?_
            refine va_ldcS X.1 X.2.1 X.2.2.2.2.1 (X.2.2.2.2.2.2.2.2.2.2.2.2.2.1 ("PencilUp$LawReader", 91, "or", 22) (List.mem_of_getElem? (i := 28) rfl)) dX5_readsCondition_80 ?_
            obtain ⟨r_7, g1_7, hc_7, h⟩ := bd2_el h
            refine call_Vsi (ws := (wLR tc a0 g0_J76 (a1 0) ++ (wTp tc a1 g1_6))) (ws' := (wLR tc a0 g0_J76 (a1 0) ++ (wTp tc a1 g1_7))) (wLR tc a0 g0_J76 (a1 0)) [] (As := [.ref (sk 22)]) (rest := []) X (c_X10_takesName l dC dI sk sv tc 22 a1 g1_6 hc_7 (by decide)) mw_4_113 mw_3_204 mw_3_205 mw_1_2 mw_3_206 dc_X10_takesName ⟨by first | exact Nat.le_of_ble_eq_true rfl | (simp only []; omega), by first | exact Nat.le_of_ble_eq_true rfl | (simp only []; omega)⟩ rfl rfl ⟨Nat.zero_le _, Nat.zero_le _⟩ (by simp only [List.append_assoc, List.nil_append, List.append_nil]) (by simp only [List.append_assoc, List.nil_append, List.append_nil]) hP (hD _ _) hS 0 rfl rfl rfl hl.1 (Nat.le_of_ble_eq_true rfl) dX5_readsCondition_82 (fun H locs hP hS => ?_)
            refine lv_if_ne (tgt := 90) X.1 X.2.1 dX5_readsCondition_85 (by decide) (fun hc => ?_) (fun hc => ?_)
            · have h := it_f hc h
              obtain ⟨x2_8, ex2_8, h⟩ := nm_el h
              refine lv_iinc (v := x2_8) (lv' := [(2, .int x2_8), (0, .ref (a0 0)), (1, .int x1)]) X.1 X.2.1 dX5_readsCondition_90 hl (k := 2) rfl (by rw [ex2_8]; rfl) (by decide) rfl (fun ls hl => ?_)
              refine lv_goto (tgt := 2) X.1 X.2.1 dX5_readsCondition_93 (by decide) ?_
              exact ih x2_8 g0_J76 g1_7 ex h hR H locs ls hP hS (lv_sub hl [1, 2, 0] rfl) K
            · have h := it_t hc h
              refine lv_iconst (v := 1) X.1 X.2.1 dX5_readsCondition_88 (by decide) ?_
              exact ret_z (fun u => (wLR tc a0 u.1 (a1 0) ++ (wTp tc a1 u.2))) (res := (r0, G0, G1)) (by decide) (hR _ (Option.some.inj h).symm) X hQ hP hS dX5_readsCondition_89
          refine lv_if_le (tgt := 76) X.1 X.2.1 dX5_readsCondition_65 (by decide) (fun hc => ?_) (fun hc => ?_)
          · have h := it_t hc h
            exact HJ76 g0_6 H locs ls h hP hS (lv_sub hl [0, 1, 2] rfl)
          · have h := it_f hc h
            refine lv_aload_n X.1 X.2.1 dX5_readsCondition_68 rfl (lv_at hl 0 rfl) ?_
            refine lv_sipush (v := 2002) X.1 X.2.1 dX5_readsCondition_69 (by decide) ?_
            obtain ⟨r_9, g0_9, hc_9, h⟩ := bd2_el h
            refine call_V1i (As := [.int 2002]) (rest := []) X (c_X5_put l dC dI sk sv tc a0 a1 g0_6 g1_6 2002 hc_9) mw_4_132 mw_4_133 mw_4_134 mw_1_6 mw_4_135 dc_X5_put ⟨by first | exact Nat.le_of_ble_eq_true rfl | (simp only []; omega), by first | exact Nat.le_of_ble_eq_true rfl | (simp only []; omega)⟩ rfl rfl ⟨Nat.zero_le _, Nat.zero_le _⟩ hP (hD _ _) hS 0 rfl rfl rfl hl.1 (Nat.le_of_ble_eq_true rfl) dX5_readsCondition_72 (fun H locs hP hS => ?_)
            refine lv_pop X.1 X.2.1 dX5_readsCondition_75 rfl ?_
            exact HJ76 g0_9 H locs ls h hP hS (lv_sub hl [0, 1, 2] rfl)
        · have h := it_t hc h
          refine lv_iconst (v := 0) X.1 X.2.1 dX5_readsCondition_17 (by decide) ?_
          exact ret_z (fun u => (wLR tc a0 u.1 (a1 0) ++ (wTp tc a1 u.2))) (res := (r0, G0, G1)) (by decide) (hR _ (Option.some.inj h).symm) X hQ hP hS dX5_readsCondition_18
  unfold f_X5_readsCondition at h
  refine lv_iconst (v := 0) X.1 X.2.1 dX5_readsCondition_0 (by decide) ?_
  refine lv_istore_n (lv' := [(2, .int 0), (0, .ref (a0 0)), (1, .int x1)]) X.1 X.2.1 dX5_readsCondition_1 rfl hl (by decide) rfl (fun ls hl => ?_)
  obtain ⟨ex_10, hL_10, h1_10, h2_10⟩ := lr_el h
  refine HL2 x1 fu 0 g0 g1 ex_10 hL_10 (fun rv hq => h1_10 rv hq) H locs ls hP hS (lv_sub hl [1, 2, 0] rfl) (fun g0_10 g1_10 he H locs ls hP hS hl => ?_)
  have h := h2_10 _ he.symm
  refine lv_aload_n X.1 X.2.1 dX5_readsCondition_96 rfl (lv_at hl 0 rfl) ?_
  refine r_get (C := RX5) (T := TX5) (N := 7) (ci := 5) (v := .ref (a1 0)) X iw5 hP 0 rfl rfl 0 rfl mw_2_14 rfl dX5_readsCondition_97 ?_
  obtain ⟨r_11, g1_11, hc_11, h⟩ := bd2_el h
  refine call_Vsi (ws := (wLR tc a0 g0_10 (a1 0) ++ (wTp tc a1 g1_10))) (ws' := (wLR tc a0 g0_10 (a1 0) ++ (wTp tc a1 g1_11))) (wLR tc a0 g0_10 (a1 0)) [] (As := []) (rest := []) X (c_X10_refuse l dC dI sk sv tc a1 g1_10 hc_11) mw_4_116 mw_3_194 mw_3_195 mw_1_2 mw_3_196 dc_X10_refuse ⟨by first | exact Nat.le_of_ble_eq_true rfl | (simp only []; omega), by first | exact Nat.le_of_ble_eq_true rfl | (simp only []; omega)⟩ rfl rfl ⟨Nat.zero_le _, Nat.zero_le _⟩ (by simp only [List.append_assoc, List.nil_append, List.append_nil]) (by simp only [List.append_assoc, List.nil_append, List.append_nil]) hP (hD _ _) hS 0 rfl rfl rfl hl.1 (Nat.le_of_ble_eq_true rfl) dX5_readsCondition_100 (fun H locs hP hS => ?_)
  obtain ⟨hg_12, h⟩ := gdb_el h
  exact ret_z (fun u => (wLR tc a0 u.1 (a1 0) ++ (wTp tc a1 u.2))) (res := (r0, G0, G1)) hg_12 (Option.some.inj h) X hQ hP hS dX5_readsCondition_103
def F_X5_readsAtom (Af : Pic → Pic → Int32 → Option (Int32 × Pic × Pic)) (g0 : Pic) (g1 : Pic) (x1 : Int32) : Option (Int32 × Pic × Pic) := bd (f_X10_isName 16 g1) (fun r_1 => bd (f_X10_isSign g1 40) (fun r_2 => jn (fun (g1_J49 : Pic) => (if r_2 = 0 then (if r_1 = 0 then bd2 (f_X10_takesName 17 g1_J49) (fun r_3 g1_3 => (if r_3 = 0 then bd2 (f_X10_takesName 18 g1_3) (fun r_4 g1_4 => (if r_4 = 0 then bd3 (f_X5_readsSum g0 g1_4) (fun r_5 g0_5 g1_5 => (if r_5 = 0 then some (0, g0_5, g1_5) else bd2 (f_X5_takeOrder g0_5 g1_5) (fun r_6 g1_6 => jn (fun (s0_J213 : Int32) (g0_J213 : Pic) (g1_J213 : Pic) => gdb s0_J213 (some (s0_J213, g0_J213, g1_J213))) (fun J213 => (if r_6 = (-1) then bd2 (f_X10_refuse g1_6) (fun r_10 g1_10 => J213 r_10 g0_5 g1_10) else bd3 (f_X5_readsSum g0_5 g1_6) (fun r_8 g0_8 g1_8 => jn (fun (g0_J212 : Pic) => J213 0 g0_J212 g1_8) (fun J212 => (if r_8 = 0 then J212 g0_8 else bd2 (f_X5_put g0_8 g1_8 r_6) (fun r_9 g0_9 => (if r_9 = 0 then J212 g0_9 else J213 1 g0_9 g1_8)))))))))) else bd2 (f_X5_put g0 g1_4 1008) (fun r_11 g0_11 => gdb r_11 (some (r_11, g0_11, g1_4))))) else bd2 (f_X5_put g0 g1_3 1007) (fun r_13 g0_13 => gdb r_13 (some (r_13, g0_13, g1_3))))) else bd3 (Af g0 g1_J49 (x1 + 1)) (fun r_15 g0_15 g1_15 => jn (fun (s0_J120 : Int32) (g0_J120 : Pic) => gdb s0_J120 (some (s0_J120, g0_J120, g1_15))) (fun J120 => jn (fun (g0_J119 : Pic) => J120 0 g0_J119) (fun J119 => (if r_15 = 0 then J119 g0_15 else bd2 (f_X5_put g0_15 g1_15 2000) (fun r_17 g0_17 => (if r_17 = 0 then J119 g0_17 else J120 1 g0_17))))))) else bd3 (f_X5_readsCondition Af g0 g1_J49 (x1 + 1)) (fun r_18 g0_18 g1_18 => jn (fun (s0_J90 : Int32) (g1_J90 : Pic) => gdb s0_J90 (some (s0_J90, g0_18, g1_J90))) (fun J90 => jn (fun (g1_J89 : Pic) => J90 0 g1_J89) (fun J89 => (if r_18 = 0 then J89 g1_18 else bd2 (f_X10_takesSign g1_18 41) (fun r_20 g1_20 => jn (fun (g1_J85 : Pic) => J90 1 g1_J85) (fun J85 => (if r_20 = 0 then bd2 (f_X10_refuse g1_20) (fun r_21 g1_21 => (if r_21 = 0 then J89 g1_21 else J85 g1_21)) else J85 g1_20))))))))) (fun J49 => jn (fun (_ : Unit) => (if x1 < 6 then bd (f_X10_step g1) (fun g1_22 => J49 g1_22) else bd2 (f_X10_refuse g1) (fun r_23 g1_23 => gdb r_23 (some (r_23, g0, g1_23))))) (fun J28 => (if r_1 = 0 then (if r_2 = 0 then J49 g1 else J28 ()) else J28 ())))))
set_option maxHeartbeats 4000000 in
set_option maxRecDepth 100000 in
theorem c_X5_readsAtomS (l : Launch) (dC : Nat → ClassId) (dI : Nat → Nat → Nat) (sk sv : Nat → Nat) (tc : Nat → ClassId) (a0 : Nat → Nat) (a1 : Nat → Nat) (d : Nat) (Af : Pic → Pic → Int32 → Option (Int32 × Pic × Pic)) (hA : ∀ (g k : Pic) (x r : Int32) (G K : Pic), Af g k x = some (r, G, K) → CT l (dC, dI) sk sv (TY tc) yX5_readsAtom cX5_readsAtom 5 (some .boolean) (rmL d) [.ref (a0 0), .int x] (wLR tc a0 g (a1 0) ++ (wTp tc a1 k)) (some (.int r)) (wLR tc a0 G (a1 0) ++ (wTp tc a1 K))) (g0 : Pic) (g1 : Pic) (x1 : Int32) {r0 : Int32} {G0 : Pic} {G1 : Pic} (h : F_X5_readsAtom Af g0 g1 x1 = some (r0, G0, G1)) : CT l (dC, dI) sk sv (TY tc) yX5_readsAtom cX5_readsAtom 5 (some .boolean) (rmL (d + 1)) [.ref (a0 0), .int x1] (wLR tc a0 g0 (a1 0) ++ (wTp tc a1 g1)) (some (.int r0)) (wLR tc a0 G0 (a1 0) ++ (wTp tc a1 G1)) := by
  refine ofCT (by decide) (Nat.le_of_ble_eq_true rfl) ?_
  intro pr e s m args below meth c A Q ls H locs X hQ hD0 hP hS hl
  have hD : ∀ z0 z1, va_D A (wLR tc a0 z0 (a1 0) ++ (wTp tc a1 z1)) := fun z0 z1 => D_fst (ws := (wLR tc a0 g0 (a1 0) ++ (wTp tc a1 g1))) rfl hD0
  have hl : lv_has ls 5 [(0, .ref (a0 0)), (1, .int x1)] := hl
  unfold F_X5_readsAtom at h
  refine lv_aload_n X.1 X.2.1 dX5_readsAtom_0 rfl (lv_at hl 0 rfl) ?_
  refine r_get (C := RX5) (T := TX5) (N := 7) (ci := 5) (v := .ref (a1 0)) X iw5 hP 0 rfl rfl 0 rfl mw_2_14 rfl dX5_readsAtom_1 ?_
  refine va_ldcS X.1 X.2.1 X.2.2.2.2.1 (X.2.2.2.2.2.2.2.2.2.2.2.2.2.1 ("PencilUp$LawReader", 93, "not", 16) (List.mem_of_getElem? (i := 17) rfl)) dX5_readsAtom_4 ?_
  obtain ⟨r_1, hc_1, h⟩ := bd_el h
  refine call_Vsi (ws := (wLR tc a0 g0 (a1 0) ++ (wTp tc a1 g1))) (ws' := (wLR tc a0 g0 (a1 0) ++ (wTp tc a1 g1))) (wLR tc a0 g0 (a1 0)) [] (As := [.ref (sk 16)]) (rest := []) X (c_X10_isName l dC dI sk sv tc 16 a1 g1 hc_1 (by decide)) mw_4_128 mw_3_138 mw_3_139 mw_1_2 mw_3_140 dc_X10_isName ⟨by first | exact Nat.le_of_ble_eq_true rfl | (simp only []; omega), by first | exact Nat.le_of_ble_eq_true rfl | (simp only []; omega)⟩ rfl rfl ⟨Nat.zero_le _, Nat.zero_le _⟩ (by simp only [List.append_assoc, List.nil_append, List.append_nil]) (by simp only [List.append_assoc, List.nil_append, List.append_nil]) hP (hD _ _) hS 0 rfl rfl rfl hl.1 (Nat.le_of_ble_eq_true rfl) dX5_readsAtom_6 (fun H locs hP hS => ?_)
  refine lv_istore_n (lv' := [(2, .int r_1), (0, .ref (a0 0)), (1, .int x1)]) X.1 X.2.1 dX5_readsAtom_9 rfl hl (by decide) rfl (fun ls hl => ?_)
  refine lv_aload_n X.1 X.2.1 dX5_readsAtom_10 rfl (lv_at hl 1 rfl) ?_
  refine r_get (C := RX5) (T := TX5) (N := 7) (ci := 5) (v := .ref (a1 0)) X iw5 hP 0 rfl rfl 0 rfl mw_2_14 rfl dX5_readsAtom_11 ?_
  refine lv_bipush (v := 40) X.1 X.2.1 dX5_readsAtom_14 (by decide) ?_
  obtain ⟨r_2, hc_2, h⟩ := bd_el h
  refine call_Vsi (ws := (wLR tc a0 g0 (a1 0) ++ (wTp tc a1 g1))) (ws' := (wLR tc a0 g0 (a1 0) ++ (wTp tc a1 g1))) (wLR tc a0 g0 (a1 0)) [] (As := [.int 40]) (rest := []) X (c_X10_isSign l dC dI sk sv tc a1 g1 40 hc_2) mw_4_129 mw_4_3 mw_4_4 mw_1_2 mw_4_5 dc_X10_isSign ⟨by first | exact Nat.le_of_ble_eq_true rfl | (simp only []; omega), by first | exact Nat.le_of_ble_eq_true rfl | (simp only []; omega)⟩ rfl rfl ⟨Nat.zero_le _, Nat.zero_le _⟩ (by simp only [List.append_assoc, List.nil_append, List.append_nil]) (by simp only [List.append_assoc, List.nil_append, List.append_nil]) hP (hD _ _) hS 0 rfl rfl rfl hl.1 (Nat.le_of_ble_eq_true rfl) dX5_readsAtom_16 (fun H locs hP hS => ?_)
  refine lv_istore_n (lv' := [(3, .int r_2), (2, .int r_1), (0, .ref (a0 0)), (1, .int x1)]) X.1 X.2.1 dX5_readsAtom_19 rfl hl (by decide) rfl (fun ls hl => ?_)
  refine lv_iload_n X.1 X.2.1 dX5_readsAtom_20 rfl (lv_at hl 1 rfl) ?_
  obtain ⟨J49, eJ49, h⟩ := jn_el h
  have HJ49 : ∀ (g1_J49 : Pic) (H : Heap) (locs : List Loc) (ls : Array Slot), J49 g1_J49 = some (r0, G0, G1) → va_P (dC, dI) vwCl (wLR tc a0 g0 (a1 0) ++ (wTp tc a1 g1_J49)) H → va_S A s.heap H locs → lv_has ls 5 [(0, .ref (a0 0)), (1, .int x1), (2, .int r_1), (3, .int r_2)] → W pr l e (rmL (d + 1)) s m args below meth c H locs 0 0 Q (F0 m 49 ls []) := by
    intro g1_J49 H locs ls h hP hS hl
    rw [eJ49] at h
    refine lv_iload_n X.1 X.2.1 dX5_readsAtom_49 rfl (lv_at hl 3 rfl) ?_
    refine lv_if_eq (tgt := 91) X.1 X.2.1 dX5_readsAtom_50 (by decide) (fun hc => ?_) (fun hc => ?_)
    · have h := it_t hc h
      refine lv_iload_n X.1 X.2.1 dX5_readsAtom_91 rfl (lv_at hl 2 rfl) ?_
      refine lv_if_eq (tgt := 121) X.1 X.2.1 dX5_readsAtom_92 (by decide) (fun hc => ?_) (fun hc => ?_)
      · have h := it_t hc h
        refine lv_aload_n X.1 X.2.1 dX5_readsAtom_121 rfl (lv_at hl 0 rfl) ?_
        refine r_get (C := RX5) (T := TX5) (N := 7) (ci := 5) (v := .ref (a1 0)) X iw5 hP 0 rfl rfl 0 rfl mw_2_14 rfl dX5_readsAtom_122 ?_
        refine va_ldcS X.1 X.2.1 X.2.2.2.2.1 (X.2.2.2.2.2.2.2.2.2.2.2.2.2.1 ("PencilUp$LawReader", 104, "kept", 17) (List.mem_of_getElem? (i := 18) rfl)) dX5_readsAtom_125 ?_
        obtain ⟨r_3, g1_3, hc_3, h⟩ := bd2_el h
        refine call_Vsi (ws := (wLR tc a0 g0 (a1 0) ++ (wTp tc a1 g1_J49))) (ws' := (wLR tc a0 g0 (a1 0) ++ (wTp tc a1 g1_3))) (wLR tc a0 g0 (a1 0)) [] (As := [.ref (sk 17)]) (rest := []) X (c_X10_takesName l dC dI sk sv tc 17 a1 g1_J49 hc_3 (by decide)) mw_4_113 mw_3_204 mw_3_205 mw_1_2 mw_3_206 dc_X10_takesName ⟨by first | exact Nat.le_of_ble_eq_true rfl | (simp only []; omega), by first | exact Nat.le_of_ble_eq_true rfl | (simp only []; omega)⟩ rfl rfl ⟨Nat.zero_le _, Nat.zero_le _⟩ (by simp only [List.append_assoc, List.nil_append, List.append_nil]) (by simp only [List.append_assoc, List.nil_append, List.append_nil]) hP (hD _ _) hS 0 rfl rfl rfl hl.1 (Nat.le_of_ble_eq_true rfl) dX5_readsAtom_127 (fun H locs hP hS => ?_)
        refine lv_if_eq (tgt := 141) X.1 X.2.1 dX5_readsAtom_130 (by decide) (fun hc => ?_) (fun hc => ?_)
        · have h := it_t hc h
          refine lv_aload_n X.1 X.2.1 dX5_readsAtom_141 rfl (lv_at hl 0 rfl) ?_
          refine r_get (C := RX5) (T := TX5) (N := 7) (ci := 5) (v := .ref (a1 0)) X iw5 hP 0 rfl rfl 0 rfl mw_2_14 rfl dX5_readsAtom_142 ?_
          refine va_ldcS X.1 X.2.1 X.2.2.2.2.1 (X.2.2.2.2.2.2.2.2.2.2.2.2.2.1 ("PencilUp$LawReader", 106, "sure", 18) (List.mem_of_getElem? (i := 19) rfl)) dX5_readsAtom_145 ?_
          obtain ⟨r_4, g1_4, hc_4, h⟩ := bd2_el h
          refine call_Vsi (ws := (wLR tc a0 g0 (a1 0) ++ (wTp tc a1 g1_3))) (ws' := (wLR tc a0 g0 (a1 0) ++ (wTp tc a1 g1_4))) (wLR tc a0 g0 (a1 0)) [] (As := [.ref (sk 18)]) (rest := []) X (c_X10_takesName l dC dI sk sv tc 18 a1 g1_3 hc_4 (by decide)) mw_4_113 mw_3_204 mw_3_205 mw_1_2 mw_3_206 dc_X10_takesName ⟨by first | exact Nat.le_of_ble_eq_true rfl | (simp only []; omega), by first | exact Nat.le_of_ble_eq_true rfl | (simp only []; omega)⟩ rfl rfl ⟨Nat.zero_le _, Nat.zero_le _⟩ (by simp only [List.append_assoc, List.nil_append, List.append_nil]) (by simp only [List.append_assoc, List.nil_append, List.append_nil]) hP (hD _ _) hS 0 rfl rfl rfl hl.1 (Nat.le_of_ble_eq_true rfl) dX5_readsAtom_147 (fun H locs hP hS => ?_)
          refine lv_if_eq (tgt := 161) X.1 X.2.1 dX5_readsAtom_150 (by decide) (fun hc => ?_) (fun hc => ?_)
          · have h := it_t hc h
            refine lv_aload_n X.1 X.2.1 dX5_readsAtom_161 rfl (lv_at hl 0 rfl) ?_
            obtain ⟨r_5, g0_5, g1_5, hc_5, h⟩ := bd3_el h
            refine call_V1i (As := []) (rest := []) X (c_X5_readsSum l dC dI sk sv tc a0 a1 g0 g1_4 hc_5) mw_4_138 mw_4_139 mw_4_140 mw_1_6 mw_4_141 dc_X5_readsSum ⟨by first | exact Nat.le_of_ble_eq_true rfl | (simp only []; omega), by first | exact Nat.le_of_ble_eq_true rfl | (simp only []; omega)⟩ rfl rfl ⟨Nat.zero_le _, Nat.zero_le _⟩ hP (hD _ _) hS 0 rfl rfl rfl hl.1 (Nat.le_of_ble_eq_true rfl) dX5_readsAtom_162 (fun H locs hP hS => ?_)
            refine lv_if_ne (tgt := 170) X.1 X.2.1 dX5_readsAtom_165 (by decide) (fun hc => ?_) (fun hc => ?_)
            · have h := it_f hc h
              refine lv_aload_n X.1 X.2.1 dX5_readsAtom_170 rfl (lv_at hl 0 rfl) ?_
              obtain ⟨r_6, g1_6, hc_6, h⟩ := bd2_el h
              refine call_V1i (As := []) (rest := []) X (c_X5_takeOrder l dC dI sk sv tc a0 a1 g0_5 g1_5 hc_6) mw_4_153 mw_4_154 mw_4_155 mw_1_6 mw_4_156 dc_X5_takeOrder ⟨by first | exact Nat.le_of_ble_eq_true rfl | (simp only []; omega), by first | exact Nat.le_of_ble_eq_true rfl | (simp only []; omega)⟩ rfl rfl ⟨Nat.zero_le _, Nat.zero_le _⟩ hP (hD _ _) hS 0 rfl rfl rfl hl.1 (Nat.le_of_ble_eq_true rfl) dX5_readsAtom_171 (fun H locs hP hS => ?_)
              refine lv_istore (lv' := [(4, .int r_6), (0, .ref (a0 0)), (1, .int x1), (2, .int r_1), (3, .int r_2)]) X.1 X.2.1 dX5_readsAtom_174 hl (by decide) rfl (fun ls hl => ?_)
              refine lv_iload X.1 X.2.1 dX5_readsAtom_176 (lv_at hl 0 rfl) ?_
              refine lv_iconst (v := (-1)) X.1 X.2.1 dX5_readsAtom_178 (by decide) ?_
              obtain ⟨J213, eJ213, h⟩ := jn_el h
              have HJ213 : ∀ (s0_J213 : Int32) (g0_J213 : Pic) (g1_J213 : Pic) (H : Heap) (locs : List Loc) (ls : Array Slot), J213 s0_J213 g0_J213 g1_J213 = some (r0, G0, G1) → va_P (dC, dI) vwCl (wLR tc a0 g0_J213 (a1 0) ++ (wTp tc a1 g1_J213)) H → va_S A s.heap H locs → lv_has ls 5 [] → W pr l e (rmL (d + 1)) s m args below meth c H locs 0 0 Q (F0 m 213 ls [.int s0_J213]) := by
                intro s0_J213 g0_J213 g1_J213 H locs ls h hP hS hl
                rw [eJ213] at h
                obtain ⟨hg_7, h⟩ := gdb_el h
                exact ret_z (fun u => (wLR tc a0 u.1 (a1 0) ++ (wTp tc a1 u.2))) (res := (r0, G0, G1)) hg_7 (Option.some.inj h) X hQ hP hS dX5_readsAtom_213
              refine lv_icmp_ne (tgt := 192) X.1 X.2.1 dX5_readsAtom_179 (by decide) (fun hc => ?_) (fun hc => ?_)
              · have h := it_f hc h
                refine lv_aload_n X.1 X.2.1 dX5_readsAtom_192 rfl (lv_at hl 1 rfl) ?_
                obtain ⟨r_8, g0_8, g1_8, hc_8, h⟩ := bd3_el h
                refine call_V1i (As := []) (rest := []) X (c_X5_readsSum l dC dI sk sv tc a0 a1 g0_5 g1_6 hc_8) mw_4_138 mw_4_139 mw_4_140 mw_1_6 mw_4_141 dc_X5_readsSum ⟨by first | exact Nat.le_of_ble_eq_true rfl | (simp only []; omega), by first | exact Nat.le_of_ble_eq_true rfl | (simp only []; omega)⟩ rfl rfl ⟨Nat.zero_le _, Nat.zero_le _⟩ hP (hD _ _) hS 0 rfl rfl rfl hl.1 (Nat.le_of_ble_eq_true rfl) dX5_readsAtom_193 (fun H locs hP hS => ?_)
                obtain ⟨J212, eJ212, h⟩ := jn_el h
                have HJ212 : ∀ (g0_J212 : Pic) (H : Heap) (locs : List Loc) (ls : Array Slot), J212 g0_J212 = some (r0, G0, G1) → va_P (dC, dI) vwCl (wLR tc a0 g0_J212 (a1 0) ++ (wTp tc a1 g1_8)) H → va_S A s.heap H locs → lv_has ls 5 [] → W pr l e (rmL (d + 1)) s m args below meth c H locs 0 0 Q (F0 m 212 ls []) := by
                  intro g0_J212 H locs ls h hP hS hl
                  rw [eJ212] at h
                  refine lv_iconst (v := 0) X.1 X.2.1 dX5_readsAtom_212 (by decide) ?_
                  exact HJ213 0 g0_J212 g1_8 H locs ls h hP hS (lv_sub hl [] rfl)
                refine lv_if_eq (tgt := 212) X.1 X.2.1 dX5_readsAtom_196 (by decide) (fun hc => ?_) (fun hc => ?_)
                · have h := it_t hc h
                  exact HJ212 g0_8 H locs ls h hP hS (lv_sub hl [] rfl)
                · have h := it_f hc h
                  refine lv_aload_n X.1 X.2.1 dX5_readsAtom_199 rfl (lv_at hl 1 rfl) ?_
                  refine lv_iload X.1 X.2.1 dX5_readsAtom_200 (lv_at hl 0 rfl) ?_
                  obtain ⟨r_9, g0_9, hc_9, h⟩ := bd2_el h
                  refine call_V1i (As := [.int r_6]) (rest := []) X (c_X5_put l dC dI sk sv tc a0 a1 g0_8 g1_8 r_6 hc_9) mw_4_132 mw_4_133 mw_4_134 mw_1_6 mw_4_135 dc_X5_put ⟨by first | exact Nat.le_of_ble_eq_true rfl | (simp only []; omega), by first | exact Nat.le_of_ble_eq_true rfl | (simp only []; omega)⟩ rfl rfl ⟨Nat.zero_le _, Nat.zero_le _⟩ hP (hD _ _) hS 0 rfl rfl rfl hl.1 (Nat.le_of_ble_eq_true rfl) dX5_readsAtom_202 (fun H locs hP hS => ?_)
                  refine lv_if_eq (tgt := 212) X.1 X.2.1 dX5_readsAtom_205 (by decide) (fun hc => ?_) (fun hc => ?_)
                  · have h := it_t hc h
                    exact HJ212 g0_9 H locs ls h hP hS (lv_sub hl [] rfl)
                  · have h := it_f hc h
                    refine lv_iconst (v := 1) X.1 X.2.1 dX5_readsAtom_208 (by decide) ?_
                    refine lv_goto (tgt := 213) X.1 X.2.1 dX5_readsAtom_209 (by decide) ?_
                    exact HJ213 1 g0_9 g1_8 H locs ls h hP hS (lv_sub hl [] rfl)
              · have h := it_t hc h
                refine lv_aload_n X.1 X.2.1 dX5_readsAtom_182 rfl (lv_at hl 1 rfl) ?_
                refine r_get (C := RX5) (T := TX5) (N := 7) (ci := 5) (v := .ref (a1 0)) X iw5 hP 0 rfl rfl 0 rfl mw_2_14 rfl dX5_readsAtom_183 ?_
                obtain ⟨r_10, g1_10, hc_10, h⟩ := bd2_el h
                refine call_Vsi (ws := (wLR tc a0 g0_5 (a1 0) ++ (wTp tc a1 g1_6))) (ws' := (wLR tc a0 g0_5 (a1 0) ++ (wTp tc a1 g1_10))) (wLR tc a0 g0_5 (a1 0)) [] (As := []) (rest := []) X (c_X10_refuse l dC dI sk sv tc a1 g1_6 hc_10) mw_4_116 mw_3_194 mw_3_195 mw_1_2 mw_3_196 dc_X10_refuse ⟨by first | exact Nat.le_of_ble_eq_true rfl | (simp only []; omega), by first | exact Nat.le_of_ble_eq_true rfl | (simp only []; omega)⟩ rfl rfl ⟨Nat.zero_le _, Nat.zero_le _⟩ (by simp only [List.append_assoc, List.nil_append, List.append_nil]) (by simp only [List.append_assoc, List.nil_append, List.append_nil]) hP (hD _ _) hS 0 rfl rfl rfl hl.1 (Nat.le_of_ble_eq_true rfl) dX5_readsAtom_186 (fun H locs hP hS => ?_)
                refine lv_goto (tgt := 213) X.1 X.2.1 dX5_readsAtom_189 (by decide) ?_
                exact HJ213 r_10 g0_5 g1_10 H locs ls h hP hS (lv_sub hl [] rfl)
            · have h := it_t hc h
              refine lv_iconst (v := 0) X.1 X.2.1 dX5_readsAtom_168 (by decide) ?_
              exact ret_z (fun u => (wLR tc a0 u.1 (a1 0) ++ (wTp tc a1 u.2))) (res := (r0, G0, G1)) (by decide) (Option.some.inj h) X hQ hP hS dX5_readsAtom_169
          · have h := it_f hc h
            refine lv_aload_n X.1 X.2.1 dX5_readsAtom_153 rfl (lv_at hl 0 rfl) ?_
            refine lv_sipush (v := 1008) X.1 X.2.1 dX5_readsAtom_154 (by decide) ?_
            obtain ⟨r_11, g0_11, hc_11, h⟩ := bd2_el h
            refine call_V1i (As := [.int 1008]) (rest := []) X (c_X5_put l dC dI sk sv tc a0 a1 g0 g1_4 1008 hc_11) mw_4_132 mw_4_133 mw_4_134 mw_1_6 mw_4_135 dc_X5_put ⟨by first | exact Nat.le_of_ble_eq_true rfl | (simp only []; omega), by first | exact Nat.le_of_ble_eq_true rfl | (simp only []; omega)⟩ rfl rfl ⟨Nat.zero_le _, Nat.zero_le _⟩ hP (hD _ _) hS 0 rfl rfl rfl hl.1 (Nat.le_of_ble_eq_true rfl) dX5_readsAtom_157 (fun H locs hP hS => ?_)
            obtain ⟨hg_12, h⟩ := gdb_el h
            exact ret_z (fun u => (wLR tc a0 u.1 (a1 0) ++ (wTp tc a1 u.2))) (res := (r0, G0, G1)) hg_12 (Option.some.inj h) X hQ hP hS dX5_readsAtom_160
        · have h := it_f hc h
          refine lv_aload_n X.1 X.2.1 dX5_readsAtom_133 rfl (lv_at hl 0 rfl) ?_
          refine lv_sipush (v := 1007) X.1 X.2.1 dX5_readsAtom_134 (by decide) ?_
          obtain ⟨r_13, g0_13, hc_13, h⟩ := bd2_el h
          refine call_V1i (As := [.int 1007]) (rest := []) X (c_X5_put l dC dI sk sv tc a0 a1 g0 g1_3 1007 hc_13) mw_4_132 mw_4_133 mw_4_134 mw_1_6 mw_4_135 dc_X5_put ⟨by first | exact Nat.le_of_ble_eq_true rfl | (simp only []; omega), by first | exact Nat.le_of_ble_eq_true rfl | (simp only []; omega)⟩ rfl rfl ⟨Nat.zero_le _, Nat.zero_le _⟩ hP (hD _ _) hS 0 rfl rfl rfl hl.1 (Nat.le_of_ble_eq_true rfl) dX5_readsAtom_137 (fun H locs hP hS => ?_)
          obtain ⟨hg_14, h⟩ := gdb_el h
          exact ret_z (fun u => (wLR tc a0 u.1 (a1 0) ++ (wTp tc a1 u.2))) (res := (r0, G0, G1)) hg_14 (Option.some.inj h) X hQ hP hS dX5_readsAtom_140
      · have h := it_f hc h
        refine lv_aload_n X.1 X.2.1 dX5_readsAtom_95 rfl (lv_at hl 0 rfl) ?_
        refine lv_iload_n X.1 X.2.1 dX5_readsAtom_96 rfl (lv_at hl 1 rfl) ?_
        refine lv_iconst (v := 1) X.1 X.2.1 dX5_readsAtom_97 (by decide) ?_
        refine lv_iadd X.1 X.2.1 dX5_readsAtom_98 ?_
        obtain ⟨r_15, g0_15, g1_15, hc_15, h⟩ := bd3_el h
        refine call_V1i (As := [.int (x1 + 1)]) (rest := []) X (hA _ _ _ _ _ _ hc_15) mw_4_123 mw_4_125 mp_1_4 mw_1_6 mw_4_126 dc_X5_readsAtom ⟨by first | exact Nat.le_of_ble_eq_true rfl | (simp only []; omega), by first | exact Nat.le_of_ble_eq_true rfl | (simp only []; omega)⟩ rfl rfl ⟨Nat.zero_le _, Nat.zero_le _⟩ hP (hD _ _) hS 0 rfl rfl rfl hl.1 (Nat.le_of_ble_eq_true rfl) dX5_readsAtom_99 (fun H locs hP hS => ?_)
        obtain ⟨J120, eJ120, h⟩ := jn_el h
        have HJ120 : ∀ (s0_J120 : Int32) (g0_J120 : Pic) (H : Heap) (locs : List Loc) (ls : Array Slot), J120 s0_J120 g0_J120 = some (r0, G0, G1) → va_P (dC, dI) vwCl (wLR tc a0 g0_J120 (a1 0) ++ (wTp tc a1 g1_15)) H → va_S A s.heap H locs → lv_has ls 5 [] → W pr l e (rmL (d + 1)) s m args below meth c H locs 0 0 Q (F0 m 120 ls [.int s0_J120]) := by
          intro s0_J120 g0_J120 H locs ls h hP hS hl
          rw [eJ120] at h
          obtain ⟨hg_16, h⟩ := gdb_el h
          exact ret_z (fun u => (wLR tc a0 u.1 (a1 0) ++ (wTp tc a1 u.2))) (res := (r0, G0, G1)) hg_16 (Option.some.inj h) X hQ hP hS dX5_readsAtom_120
        obtain ⟨J119, eJ119, h⟩ := jn_el h
        have HJ119 : ∀ (g0_J119 : Pic) (H : Heap) (locs : List Loc) (ls : Array Slot), J119 g0_J119 = some (r0, G0, G1) → va_P (dC, dI) vwCl (wLR tc a0 g0_J119 (a1 0) ++ (wTp tc a1 g1_15)) H → va_S A s.heap H locs → lv_has ls 5 [] → W pr l e (rmL (d + 1)) s m args below meth c H locs 0 0 Q (F0 m 119 ls []) := by
          intro g0_J119 H locs ls h hP hS hl
          rw [eJ119] at h
          refine lv_iconst (v := 0) X.1 X.2.1 dX5_readsAtom_119 (by decide) ?_
          exact HJ120 0 g0_J119 H locs ls h hP hS (lv_sub hl [] rfl)
        refine lv_if_eq (tgt := 119) X.1 X.2.1 dX5_readsAtom_102 (by decide) (fun hc => ?_) (fun hc => ?_)
        · have h := it_t hc h
          exact HJ119 g0_15 H locs ls h hP hS (lv_sub hl [] rfl)
        · have h := it_f hc h
          refine lv_aload_n X.1 X.2.1 dX5_readsAtom_105 rfl (lv_at hl 0 rfl) ?_
          refine lv_sipush (v := 2000) X.1 X.2.1 dX5_readsAtom_106 (by decide) ?_
          obtain ⟨r_17, g0_17, hc_17, h⟩ := bd2_el h
          refine call_V1i (As := [.int 2000]) (rest := []) X (c_X5_put l dC dI sk sv tc a0 a1 g0_15 g1_15 2000 hc_17) mw_4_132 mw_4_133 mw_4_134 mw_1_6 mw_4_135 dc_X5_put ⟨by first | exact Nat.le_of_ble_eq_true rfl | (simp only []; omega), by first | exact Nat.le_of_ble_eq_true rfl | (simp only []; omega)⟩ rfl rfl ⟨Nat.zero_le _, Nat.zero_le _⟩ hP (hD _ _) hS 0 rfl rfl rfl hl.1 (Nat.le_of_ble_eq_true rfl) dX5_readsAtom_109 (fun H locs hP hS => ?_)
          refine lv_if_eq (tgt := 119) X.1 X.2.1 dX5_readsAtom_112 (by decide) (fun hc => ?_) (fun hc => ?_)
          · have h := it_t hc h
            exact HJ119 g0_17 H locs ls h hP hS (lv_sub hl [] rfl)
          · have h := it_f hc h
            refine lv_iconst (v := 1) X.1 X.2.1 dX5_readsAtom_115 (by decide) ?_
            refine lv_goto (tgt := 120) X.1 X.2.1 dX5_readsAtom_116 (by decide) ?_
            exact HJ120 1 g0_17 H locs ls h hP hS (lv_sub hl [] rfl)
    · have h := it_f hc h
      refine lv_aload_n X.1 X.2.1 dX5_readsAtom_53 rfl (lv_at hl 0 rfl) ?_
      refine lv_iload_n X.1 X.2.1 dX5_readsAtom_54 rfl (lv_at hl 1 rfl) ?_
      refine lv_iconst (v := 1) X.1 X.2.1 dX5_readsAtom_55 (by decide) ?_
      refine lv_iadd X.1 X.2.1 dX5_readsAtom_56 ?_
      obtain ⟨r_18, g0_18, g1_18, hc_18, h⟩ := bd3_el h
      refine call_V1i (As := [.int (x1 + 1)]) (rest := []) X (c_X5_readsCondition l dC dI sk sv tc a0 a1 d Af hA _ _ _ hc_18) mw_4_119 mw_4_121 mp_1_3 mw_1_6 mw_4_122 dc_X5_readsCondition ⟨by first | exact Nat.le_of_ble_eq_true rfl | (simp only []; omega), by first | exact Nat.le_of_ble_eq_true rfl | (simp only []; omega)⟩ rfl rfl ⟨Nat.zero_le _, Nat.zero_le _⟩ hP (hD _ _) hS 0 rfl rfl rfl hl.1 (Nat.le_of_ble_eq_true rfl) dX5_readsAtom_57 (fun H locs hP hS => ?_)
      obtain ⟨J90, eJ90, h⟩ := jn_el h
      have HJ90 : ∀ (s0_J90 : Int32) (g1_J90 : Pic) (H : Heap) (locs : List Loc) (ls : Array Slot), J90 s0_J90 g1_J90 = some (r0, G0, G1) → va_P (dC, dI) vwCl (wLR tc a0 g0_18 (a1 0) ++ (wTp tc a1 g1_J90)) H → va_S A s.heap H locs → lv_has ls 5 [] → W pr l e (rmL (d + 1)) s m args below meth c H locs 0 0 Q (F0 m 90 ls [.int s0_J90]) := by
        intro s0_J90 g1_J90 H locs ls h hP hS hl
        rw [eJ90] at h
        obtain ⟨hg_19, h⟩ := gdb_el h
        exact ret_z (fun u => (wLR tc a0 u.1 (a1 0) ++ (wTp tc a1 u.2))) (res := (r0, G0, G1)) hg_19 (Option.some.inj h) X hQ hP hS dX5_readsAtom_90
      obtain ⟨J89, eJ89, h⟩ := jn_el h
      have HJ89 : ∀ (g1_J89 : Pic) (H : Heap) (locs : List Loc) (ls : Array Slot), J89 g1_J89 = some (r0, G0, G1) → va_P (dC, dI) vwCl (wLR tc a0 g0_18 (a1 0) ++ (wTp tc a1 g1_J89)) H → va_S A s.heap H locs → lv_has ls 5 [] → W pr l e (rmL (d + 1)) s m args below meth c H locs 0 0 Q (F0 m 89 ls []) := by
        intro g1_J89 H locs ls h hP hS hl
        rw [eJ89] at h
        refine lv_iconst (v := 0) X.1 X.2.1 dX5_readsAtom_89 (by decide) ?_
        exact HJ90 0 g1_J89 H locs ls h hP hS (lv_sub hl [] rfl)
      refine lv_if_eq (tgt := 89) X.1 X.2.1 dX5_readsAtom_60 (by decide) (fun hc => ?_) (fun hc => ?_)
      · have h := it_t hc h
        exact HJ89 g1_18 H locs ls h hP hS (lv_sub hl [] rfl)
      · have h := it_f hc h
        refine lv_aload_n X.1 X.2.1 dX5_readsAtom_63 rfl (lv_at hl 0 rfl) ?_
        refine r_get (C := RX5) (T := TX5) (N := 7) (ci := 5) (v := .ref (a1 0)) X iw5 hP 0 rfl rfl 0 rfl mw_2_14 rfl dX5_readsAtom_64 ?_
        refine lv_bipush (v := 41) X.1 X.2.1 dX5_readsAtom_67 (by decide) ?_
        obtain ⟨r_20, g1_20, hc_20, h⟩ := bd2_el h
        refine call_Vsi (ws := (wLR tc a0 g0_18 (a1 0) ++ (wTp tc a1 g1_18))) (ws' := (wLR tc a0 g0_18 (a1 0) ++ (wTp tc a1 g1_20))) (wLR tc a0 g0_18 (a1 0)) [] (As := [.int 41]) (rest := []) X (c_X10_takesSign l dC dI sk sv tc a1 g1_18 41 hc_20) mw_4_131 mw_3_239 mw_4_0 mw_1_2 mw_4_1 dc_X10_takesSign ⟨by first | exact Nat.le_of_ble_eq_true rfl | (simp only []; omega), by first | exact Nat.le_of_ble_eq_true rfl | (simp only []; omega)⟩ rfl rfl ⟨Nat.zero_le _, Nat.zero_le _⟩ (by simp only [List.append_assoc, List.nil_append, List.append_nil]) (by simp only [List.append_assoc, List.nil_append, List.append_nil]) hP (hD _ _) hS 0 rfl rfl rfl hl.1 (Nat.le_of_ble_eq_true rfl) dX5_readsAtom_69 (fun H locs hP hS => ?_)
        obtain ⟨J85, eJ85, h⟩ := jn_el h
        have HJ85 : ∀ (g1_J85 : Pic) (H : Heap) (locs : List Loc) (ls : Array Slot), J85 g1_J85 = some (r0, G0, G1) → va_P (dC, dI) vwCl (wLR tc a0 g0_18 (a1 0) ++ (wTp tc a1 g1_J85)) H → va_S A s.heap H locs → lv_has ls 5 [] → W pr l e (rmL (d + 1)) s m args below meth c H locs 0 0 Q (F0 m 85 ls []) := by
          intro g1_J85 H locs ls h hP hS hl
          rw [eJ85] at h
          refine lv_iconst (v := 1) X.1 X.2.1 dX5_readsAtom_85 (by decide) ?_
          refine lv_goto (tgt := 90) X.1 X.2.1 dX5_readsAtom_86 (by decide) ?_
          exact HJ90 1 g1_J85 H locs ls h hP hS (lv_sub hl [] rfl)
        refine lv_if_ne (tgt := 85) X.1 X.2.1 dX5_readsAtom_72 (by decide) (fun hc => ?_) (fun hc => ?_)
        · have h := it_f hc h
          exact HJ85 g1_20 H locs ls h hP hS (lv_sub hl [] rfl)
        · have h := it_t hc h
          refine lv_aload_n X.1 X.2.1 dX5_readsAtom_75 rfl (lv_at hl 0 rfl) ?_
          refine r_get (C := RX5) (T := TX5) (N := 7) (ci := 5) (v := .ref (a1 0)) X iw5 hP 0 rfl rfl 0 rfl mw_2_14 rfl dX5_readsAtom_76 ?_
          obtain ⟨r_21, g1_21, hc_21, h⟩ := bd2_el h
          refine call_Vsi (ws := (wLR tc a0 g0_18 (a1 0) ++ (wTp tc a1 g1_20))) (ws' := (wLR tc a0 g0_18 (a1 0) ++ (wTp tc a1 g1_21))) (wLR tc a0 g0_18 (a1 0)) [] (As := []) (rest := []) X (c_X10_refuse l dC dI sk sv tc a1 g1_20 hc_21) mw_4_116 mw_3_194 mw_3_195 mw_1_2 mw_3_196 dc_X10_refuse ⟨by first | exact Nat.le_of_ble_eq_true rfl | (simp only []; omega), by first | exact Nat.le_of_ble_eq_true rfl | (simp only []; omega)⟩ rfl rfl ⟨Nat.zero_le _, Nat.zero_le _⟩ (by simp only [List.append_assoc, List.nil_append, List.append_nil]) (by simp only [List.append_assoc, List.nil_append, List.append_nil]) hP (hD _ _) hS 0 rfl rfl rfl hl.1 (Nat.le_of_ble_eq_true rfl) dX5_readsAtom_79 (fun H locs hP hS => ?_)
          refine lv_if_eq (tgt := 89) X.1 X.2.1 dX5_readsAtom_82 (by decide) (fun hc => ?_) (fun hc => ?_)
          · have h := it_t hc h
            exact HJ89 g1_21 H locs ls h hP hS (lv_sub hl [] rfl)
          · have h := it_f hc h
            exact HJ85 g1_21 H locs ls h hP hS (lv_sub hl [] rfl)
  obtain ⟨J28, eJ28, h⟩ := jn_el h
  have HJ28 : ∀ (_ : Unit) (H : Heap) (locs : List Loc) (ls : Array Slot), J28 () = some (r0, G0, G1) → va_P (dC, dI) vwCl (wLR tc a0 g0 (a1 0) ++ (wTp tc a1 g1)) H → va_S A s.heap H locs → lv_has ls 5 [(0, .ref (a0 0)), (1, .int x1), (2, .int r_1), (3, .int r_2)] → W pr l e (rmL (d + 1)) s m args below meth c H locs 0 0 Q (F0 m 28 ls []) := by
    intro _ H locs ls h hP hS hl
    rw [eJ28] at h
    refine lv_iload_n X.1 X.2.1 dX5_readsAtom_28 rfl (lv_at hl 1 rfl) ?_
    refine lv_bipush (v := 6) X.1 X.2.1 dX5_readsAtom_29 (by decide) ?_
    refine lv_icmp_lt (tgt := 42) X.1 X.2.1 dX5_readsAtom_31 (by decide) (fun hc => ?_) (fun hc => ?_)
    · have h := it_t hc h
      refine lv_aload_n X.1 X.2.1 dX5_readsAtom_42 rfl (lv_at hl 0 rfl) ?_
      refine r_get (C := RX5) (T := TX5) (N := 7) (ci := 5) (v := .ref (a1 0)) X iw5 hP 0 rfl rfl 0 rfl mw_2_14 rfl dX5_readsAtom_43 ?_
      obtain ⟨g1_22, hc_22, h⟩ := bd_el h
      refine call_Vsv (ws := (wLR tc a0 g0 (a1 0) ++ (wTp tc a1 g1))) (ws' := (wLR tc a0 g0 (a1 0) ++ (wTp tc a1 g1_22))) (wLR tc a0 g0 (a1 0)) [] (As := []) (rest := []) X (c_X10_step l dC dI sk sv tc a1 g1 hc_22) mw_4_130 mw_3_129 mw_3_130 mw_1_2 mw_3_131 dc_X10_step ⟨by first | exact Nat.le_of_ble_eq_true rfl | (simp only []; omega), by first | exact Nat.le_of_ble_eq_true rfl | (simp only []; omega)⟩ rfl rfl ⟨Nat.zero_le _, Nat.zero_le _⟩ (by simp only [List.append_assoc, List.nil_append, List.append_nil]) (by simp only [List.append_assoc, List.nil_append, List.append_nil]) hP (hD _ _) hS 0 rfl rfl rfl hl.1 (Nat.le_of_ble_eq_true rfl) dX5_readsAtom_46 (fun H locs hP hS => ?_)
      exact HJ49 g1_22 H locs ls h hP hS (lv_sub hl [0, 1, 2, 3] rfl)
    · have h := it_f hc h
      refine lv_aload_n X.1 X.2.1 dX5_readsAtom_34 rfl (lv_at hl 0 rfl) ?_
      refine r_get (C := RX5) (T := TX5) (N := 7) (ci := 5) (v := .ref (a1 0)) X iw5 hP 0 rfl rfl 0 rfl mw_2_14 rfl dX5_readsAtom_35 ?_
      obtain ⟨r_23, g1_23, hc_23, h⟩ := bd2_el h
      refine call_Vsi (ws := (wLR tc a0 g0 (a1 0) ++ (wTp tc a1 g1))) (ws' := (wLR tc a0 g0 (a1 0) ++ (wTp tc a1 g1_23))) (wLR tc a0 g0 (a1 0)) [] (As := []) (rest := []) X (c_X10_refuse l dC dI sk sv tc a1 g1 hc_23) mw_4_116 mw_3_194 mw_3_195 mw_1_2 mw_3_196 dc_X10_refuse ⟨by first | exact Nat.le_of_ble_eq_true rfl | (simp only []; omega), by first | exact Nat.le_of_ble_eq_true rfl | (simp only []; omega)⟩ rfl rfl ⟨Nat.zero_le _, Nat.zero_le _⟩ (by simp only [List.append_assoc, List.nil_append, List.append_nil]) (by simp only [List.append_assoc, List.nil_append, List.append_nil]) hP (hD _ _) hS 0 rfl rfl rfl hl.1 (Nat.le_of_ble_eq_true rfl) dX5_readsAtom_38 (fun H locs hP hS => ?_)
      obtain ⟨hg_24, h⟩ := gdb_el h
      exact ret_z (fun u => (wLR tc a0 u.1 (a1 0) ++ (wTp tc a1 u.2))) (res := (r0, G0, G1)) hg_24 (Option.some.inj h) X hQ hP hS dX5_readsAtom_41
  refine lv_if_ne (tgt := 28) X.1 X.2.1 dX5_readsAtom_21 (by decide) (fun hc => ?_) (fun hc => ?_)
  · have h := it_f hc h
    exact HJ28 () H locs ls h hP hS (lv_sub hl [2, 3, 1, 0] rfl)
  · have h := it_t hc h
    refine lv_iload_n X.1 X.2.1 dX5_readsAtom_24 rfl (lv_at hl 0 rfl) ?_
    refine lv_if_eq (tgt := 49) X.1 X.2.1 dX5_readsAtom_25 (by decide) (fun hc => ?_) (fun hc => ?_)
    · have h := it_t hc h
      exact HJ49 g1 H locs ls h hP hS (lv_sub hl [2, 3, 1, 0] rfl)
    · have h := it_f hc h
      exact HJ28 () H locs ls h hP hS (lv_sub hl [2, 3, 1, 0] rfl)
def f_X5_atom (n : Nat) (a : Pic × Pic × Int32) : Option (Int32 × Pic × Pic) := lp (fun rec a => F_X5_readsAtom (fun g k x => rec (g, k, x)) a.1 a.2.1 a.2.2) n a
theorem c_X5_atom (l : Launch) (dC : Nat → ClassId) (dI : Nat → Nat → Nat) (sk sv : Nat → Nat) (tc : Nat → ClassId) (a0 a1 : Nat → Nat) : ∀ (d : Nat) (g k : Pic) (x r : Int32) (G K : Pic), f_X5_atom d (g, k, x) = some (r, G, K) → CT l (dC, dI) sk sv (TY tc) yX5_readsAtom cX5_readsAtom 5 (some .boolean) (rmL d) [.ref (a0 0), .int x] (wLR tc a0 g (a1 0) ++ (wTp tc a1 k)) (some (.int r)) (wLR tc a0 G (a1 0) ++ (wTp tc a1 K)) := by
  intro d
  induction d with
  | zero => intro g k x r G K h; exact lp_z h
  | succ d ih => intro g k x r G K h; exact c_X5_readsAtomS l dC dI sk sv tc a0 a1 d (fun g k x => f_X5_atom d (g, k, x)) ih g k x (lp_s h)
def f_X5_cond (g0 g1 : Pic) (x1 : Int32) : Option (Int32 × Pic × Pic) := f_X5_readsCondition (fun g k x => f_X5_atom 8 (g, k, x)) g0 g1 x1
abbrev rm_X5_cond : Room := rmC 8
theorem c_X5_cond (l : Launch) (dC : Nat → ClassId) (dI : Nat → Nat → Nat) (sk sv : Nat → Nat) (tc : Nat → ClassId) (a0 a1 : Nat → Nat) (g0 g1 : Pic) (x1 : Int32) {r0 : Int32} {G0 G1 : Pic} (h : f_X5_cond g0 g1 x1 = some (r0, G0, G1)) : CT l (dC, dI) sk sv (TY tc) yX5_readsCondition cX5_readsCondition 4 (some .boolean) rm_X5_cond [.ref (a0 0), .int x1] (wLR tc a0 g0 (a1 0) ++ (wTp tc a1 g1)) (some (.int r0)) (wLR tc a0 G0 (a1 0) ++ (wTp tc a1 G1)) :=
  c_X5_readsCondition l dC dI sk sv tc a0 a1 8 (fun g k x => f_X5_atom 8 (g, k, x)) (c_X5_atom l dC dI sk sv tc a0 a1 8) g0 g1 x1 h

def f_X5_readsLine (g0 : Pic) (g1 : Pic) : Option (Int32 × Pic × Pic) := bd2 (f_X5_takeKind g0 g1) (fun r_1 g1_1 => jn (fun (_ : Unit) => bd2 (f_X10_refuse g1_1) (fun r_2 g1_2 => gdb r_2 (some (r_2, g0, g1_2)))) (fun J19 => (if r_1 = (-1) then J19 () else (if (g0 5 0) < 12 then bd2 (f_X10_takeNumber g1_1 0 99) (fun r_4 g1_4 => (if r_4 = (-1) then some (0, g0, g1_4) else bd2 (f_X10_takesName 15 g1_4) (fun r_5 g1_5 => jn (fun (g0_J67 : Pic) (g1_J67 : Pic) => gdi (g0_J67 5 0) 12 (nm (pu g0_J67 1 ((g0_J67 5 0).toNatClampNeg) r_1) (fun g0_7 => gdi (g0_7 5 0) 12 (nm (pu g0_7 2 ((g0_7 5 0).toNatClampNeg) r_4) (fun g0_9 => nm (pu g0_9 5 0 ((g0_9 5 0) + 1)) (fun g0_10 => gdi (g0_10 5 0) 13 (nm (pu g0_10 3 ((g0_10 5 0).toNatClampNeg) (g0_10 6 0)) (fun g0_12 => some (1, g0_12, g1_J67))))))))) (fun J67 => (if r_5 = 0 then J67 g0 g1_5 else bd3 (f_X5_cond g0 g1_5 0) (fun r_13 g0_13 g1_13 => (if r_13 = 0 then some (0, g0_13, g1_13) else J67 g0_13 g1_13))))))) else J19 ()))))
abbrev rm_X5_readsLine : Room := { frames := 44, cells := 0, slots := 0, locals := 2663 }
set_option maxHeartbeats 4000000 in
set_option maxRecDepth 100000 in
theorem c_X5_readsLine (l : Launch) (dC : Nat → ClassId) (dI : Nat → Nat → Nat) (sk sv : Nat → Nat) (tc : Nat → ClassId) (a0 : Nat → Nat) (a1 : Nat → Nat) (g0 : Pic) (g1 : Pic) {r0 : Int32} {G0 : Pic} {G1 : Pic} (h : f_X5_readsLine g0 g1 = some (r0, G0, G1)) : CT l (dC, dI) sk sv (TY tc) yX5_readsLine cX5_readsLine 3 (some .boolean) rm_X5_readsLine [.ref (a0 0)] (wLR tc a0 g0 (a1 0) ++ (wTp tc a1 g1)) (some (.int r0)) (wLR tc a0 G0 (a1 0) ++ (wTp tc a1 G1)) := by
  refine ofCT (by decide) (Nat.le_of_ble_eq_true rfl) ?_
  intro pr e s m args below meth c A Q ls H locs X hQ hD0 hP hS hl
  have hD : ∀ z0 z1, va_D A (wLR tc a0 z0 (a1 0) ++ (wTp tc a1 z1)) := fun z0 z1 => D_fst (ws := (wLR tc a0 g0 (a1 0) ++ (wTp tc a1 g1))) rfl hD0
  have hl : lv_has ls 3 [(0, .ref (a0 0))] := hl
  unfold f_X5_readsLine at h
  refine lv_aload_n X.1 X.2.1 dX5_readsLine_0 rfl (lv_at hl 0 rfl) ?_
  obtain ⟨r_1, g1_1, hc_1, h⟩ := bd2_el h
  refine call_V1i (As := []) (rest := []) X (c_X5_takeKind l dC dI sk sv tc a0 a1 g0 g1 hc_1) mw_4_108 mw_4_109 mw_4_110 mw_1_6 mw_4_111 dc_X5_takeKind ⟨Nat.le_of_ble_eq_true rfl, Nat.le_of_ble_eq_true rfl⟩ rfl rfl ⟨Nat.zero_le _, Nat.zero_le _⟩ hP (hD _ _) hS 0 rfl rfl rfl hl.1 (Nat.le_of_ble_eq_true rfl) dX5_readsLine_1 (fun H locs hP hS => ?_)
  refine lv_istore_n (lv' := [(1, .int r_1), (0, .ref (a0 0))]) X.1 X.2.1 dX5_readsLine_4 rfl hl (by decide) rfl (fun ls hl => ?_)
  refine lv_iload_n X.1 X.2.1 dX5_readsLine_5 rfl (lv_at hl 0 rfl) ?_
  refine lv_iconst (v := (-1)) X.1 X.2.1 dX5_readsLine_6 (by decide) ?_
  obtain ⟨J19, eJ19, h⟩ := jn_el h
  have HJ19 : ∀ (_ : Unit) (H : Heap) (locs : List Loc) (ls : Array Slot), J19 () = some (r0, G0, G1) → va_P (dC, dI) vwCl (wLR tc a0 g0 (a1 0) ++ (wTp tc a1 g1_1)) H → va_S A s.heap H locs → lv_has ls 3 [(0, .ref (a0 0))] → W pr l e rm_X5_readsLine s m args below meth c H locs 0 0 Q (F0 m 19 ls []) := by
    intro _ H locs ls h hP hS hl
    rw [eJ19] at h
    refine lv_aload_n X.1 X.2.1 dX5_readsLine_19 rfl (lv_at hl 0 rfl) ?_
    refine r_get (C := RX5) (T := TX5) (N := 7) (ci := 5) (v := .ref (a1 0)) X iw5 hP 0 rfl rfl 0 rfl mw_2_14 rfl dX5_readsLine_20 ?_
    obtain ⟨r_2, g1_2, hc_2, h⟩ := bd2_el h
    refine call_Vsi (ws := (wLR tc a0 g0 (a1 0) ++ (wTp tc a1 g1_1))) (ws' := (wLR tc a0 g0 (a1 0) ++ (wTp tc a1 g1_2))) (wLR tc a0 g0 (a1 0)) [] (As := []) (rest := []) X (c_X10_refuse l dC dI sk sv tc a1 g1_1 hc_2) mw_4_116 mw_3_194 mw_3_195 mw_1_2 mw_3_196 dc_X10_refuse ⟨Nat.le_of_ble_eq_true rfl, Nat.le_of_ble_eq_true rfl⟩ rfl rfl ⟨Nat.zero_le _, Nat.zero_le _⟩ (by simp only [List.append_assoc, List.nil_append, List.append_nil]) (by simp only [List.append_assoc, List.nil_append, List.append_nil]) hP (hD _ _) hS 0 rfl rfl rfl hl.1 (Nat.le_of_ble_eq_true rfl) dX5_readsLine_23 (fun H locs hP hS => ?_)
    obtain ⟨hg_3, h⟩ := gdb_el h
    exact ret_z (fun u => (wLR tc a0 u.1 (a1 0) ++ (wTp tc a1 u.2))) (res := (r0, G0, G1)) hg_3 (Option.some.inj h) X hQ hP hS dX5_readsLine_26
  refine lv_icmp_eq (tgt := 19) X.1 X.2.1 dX5_readsLine_7 (by decide) (fun hc => ?_) (fun hc => ?_)
  · have h := it_t hc h
    exact HJ19 () H locs ls h hP hS (lv_sub hl [1] rfl)
  · have h := it_f hc h
    refine lv_aload_n X.1 X.2.1 dX5_readsLine_10 rfl (lv_at hl 1 rfl) ?_
    refine r_get (C := RX5) (T := TX5) (N := 7) (ci := 5) (v := .int (g0 5 0)) X iw5 hP 0 rfl rfl 5 rfl mw_2_19 rfl dX5_readsLine_11 ?_
    refine lv_bipush (v := 12) X.1 X.2.1 dX5_readsLine_14 (by decide) ?_
    refine lv_icmp_lt (tgt := 27) X.1 X.2.1 dX5_readsLine_16 (by decide) (fun hc => ?_) (fun hc => ?_)
    · have h := it_t hc h
      refine lv_aload_n X.1 X.2.1 dX5_readsLine_27 rfl (lv_at hl 1 rfl) ?_
      refine r_get (C := RX5) (T := TX5) (N := 7) (ci := 5) (v := .ref (a1 0)) X iw5 hP 0 rfl rfl 0 rfl mw_2_14 rfl dX5_readsLine_28 ?_
      refine lv_iconst (v := 0) X.1 X.2.1 dX5_readsLine_31 (by decide) ?_
      refine lv_bipush (v := 99) X.1 X.2.1 dX5_readsLine_32 (by decide) ?_
      obtain ⟨r_4, g1_4, hc_4, h⟩ := bd2_el h
      refine call_Vsi (ws := (wLR tc a0 g0 (a1 0) ++ (wTp tc a1 g1_1))) (ws' := (wLR tc a0 g0 (a1 0) ++ (wTp tc a1 g1_4))) (wLR tc a0 g0 (a1 0)) [] (As := [.int 0, .int 99]) (rest := []) X (c_X10_takeNumber l dC dI sk sv tc a1 g1_1 0 99 hc_4) mw_4_117 mw_3_209 mw_3_210 mw_1_2 mw_3_211 dc_X10_takeNumber ⟨Nat.le_of_ble_eq_true rfl, Nat.le_of_ble_eq_true rfl⟩ rfl rfl ⟨Nat.zero_le _, Nat.zero_le _⟩ (by simp only [List.append_assoc, List.nil_append, List.append_nil]) (by simp only [List.append_assoc, List.nil_append, List.append_nil]) hP (hD _ _) hS 0 rfl rfl rfl hl.1 (Nat.le_of_ble_eq_true rfl) dX5_readsLine_34 (fun H locs hP hS => ?_)
      refine lv_istore_n (lv' := [(2, .int r_4), (1, .int r_1), (0, .ref (a0 0))]) X.1 X.2.1 dX5_readsLine_37 rfl hl (by decide) rfl (fun ls hl => ?_)
      refine lv_iload_n X.1 X.2.1 dX5_readsLine_38 rfl (lv_at hl 0 rfl) ?_
      refine lv_iconst (v := (-1)) X.1 X.2.1 dX5_readsLine_39 (by decide) ?_
      refine lv_icmp_ne (tgt := 45) X.1 X.2.1 dX5_readsLine_40 (by decide) (fun hc => ?_) (fun hc => ?_)
      · have h := it_f hc h
        refine lv_aload_n X.1 X.2.1 dX5_readsLine_45 rfl (lv_at hl 2 rfl) ?_
        refine r_get (C := RX5) (T := TX5) (N := 7) (ci := 5) (v := .ref (a1 0)) X iw5 hP 0 rfl rfl 0 rfl mw_2_14 rfl dX5_readsLine_46 ?_
        refine va_ldcS X.1 X.2.1 X.2.2.2.2.1 (X.2.2.2.2.2.2.2.2.2.2.2.2.2.1 ("PencilUp$LawReader", 67, "if", 15) (List.mem_of_getElem? (i := 16) rfl)) dX5_readsLine_49 ?_
        obtain ⟨r_5, g1_5, hc_5, h⟩ := bd2_el h
        refine call_Vsi (ws := (wLR tc a0 g0 (a1 0) ++ (wTp tc a1 g1_4))) (ws' := (wLR tc a0 g0 (a1 0) ++ (wTp tc a1 g1_5))) (wLR tc a0 g0 (a1 0)) [] (As := [.ref (sk 15)]) (rest := []) X (c_X10_takesName l dC dI sk sv tc 15 a1 g1_4 hc_5 (by decide)) mw_4_113 mw_3_204 mw_3_205 mw_1_2 mw_3_206 dc_X10_takesName ⟨Nat.le_of_ble_eq_true rfl, Nat.le_of_ble_eq_true rfl⟩ rfl rfl ⟨Nat.zero_le _, Nat.zero_le _⟩ (by simp only [List.append_assoc, List.nil_append, List.append_nil]) (by simp only [List.append_assoc, List.nil_append, List.append_nil]) hP (hD _ _) hS 0 rfl rfl rfl hl.1 (Nat.le_of_ble_eq_true rfl) dX5_readsLine_51 (fun H locs hP hS => ?_)
        obtain ⟨J67, eJ67, h⟩ := jn_el h
        have HJ67 : ∀ (g0_J67 : Pic) (g1_J67 : Pic) (H : Heap) (locs : List Loc) (ls : Array Slot), J67 g0_J67 g1_J67 = some (r0, G0, G1) → va_P (dC, dI) vwCl (wLR tc a0 g0_J67 (a1 0) ++ (wTp tc a1 g1_J67)) H → va_S A s.heap H locs → lv_has ls 3 [(0, .ref (a0 0)), (1, .int r_1), (2, .int r_4)] → W pr l e rm_X5_readsLine s m args below meth c H locs 0 0 Q (F0 m 67 ls []) := by
          intro g0_J67 g1_J67 H locs ls h hP hS hl
          rw [eJ67] at h
          refine lv_aload_n X.1 X.2.1 dX5_readsLine_67 rfl (lv_at hl 0 rfl) ?_
          refine r_get (C := RX5) (T := TX5) (N := 7) (ci := 5) (v := .ref (a0 2)) X iw5 hP 0 rfl rfl 1 rfl mw_2_15 rfl dX5_readsLine_68 ?_
          refine lv_aload_n X.1 X.2.1 dX5_readsLine_71 rfl (lv_at hl 0 rfl) ?_
          refine r_get (C := RX5) (T := TX5) (N := 7) (ci := 5) (v := .int (g0_J67 5 0)) X iw5 hP 0 rfl rfl 5 rfl mw_2_19 rfl dX5_readsLine_72 ?_
          refine lv_iload_n X.1 X.2.1 dX5_readsLine_75 rfl (lv_at hl 1 rfl) ?_
          obtain ⟨hg_6, h⟩ := gdi_el h
          obtain ⟨g0_7, eg0_7, h⟩ := nm_el h
          refine r_iast X hP (hD _ _) hS 1 0 rfl rfl hg_6 rfl dX5_readsLine_76 (wLR tc a0 g0_7 (a1 0) ++ (wTp tc a1 g1_J67)) (by rw [eg0_7]; rfl) (fun H locs hP hS => ?_)
          refine lv_aload_n X.1 X.2.1 dX5_readsLine_77 rfl (lv_at hl 0 rfl) ?_
          refine r_get (C := RX5) (T := TX5) (N := 7) (ci := 5) (v := .ref (a0 3)) X iw5 hP 0 rfl rfl 2 rfl mw_2_16 rfl dX5_readsLine_78 ?_
          refine lv_aload_n X.1 X.2.1 dX5_readsLine_81 rfl (lv_at hl 0 rfl) ?_
          refine r_get (C := RX5) (T := TX5) (N := 7) (ci := 5) (v := .int (g0_7 5 0)) X iw5 hP 0 rfl rfl 5 rfl mw_2_19 rfl dX5_readsLine_82 ?_
          refine lv_iload_n X.1 X.2.1 dX5_readsLine_85 rfl (lv_at hl 2 rfl) ?_
          obtain ⟨hg_8, h⟩ := gdi_el h
          obtain ⟨g0_9, eg0_9, h⟩ := nm_el h
          refine r_iast X hP (hD _ _) hS 2 0 rfl rfl hg_8 rfl dX5_readsLine_86 (wLR tc a0 g0_9 (a1 0) ++ (wTp tc a1 g1_J67)) (by rw [eg0_9]; rfl) (fun H locs hP hS => ?_)
          refine lv_aload_n X.1 X.2.1 dX5_readsLine_87 rfl (lv_at hl 0 rfl) ?_
          refine lv_dup X.1 X.2.1 dX5_readsLine_88 rfl ?_
          refine r_get (C := RX5) (T := TX5) (N := 7) (ci := 5) (v := .int (g0_9 5 0)) X iw5 hP 0 rfl rfl 5 rfl mw_2_19 rfl dX5_readsLine_89 ?_
          refine lv_iconst (v := 1) X.1 X.2.1 dX5_readsLine_92 (by decide) ?_
          refine lv_iadd X.1 X.2.1 dX5_readsLine_93 ?_
          obtain ⟨g0_10, eg0_10, h⟩ := nm_el h
          refine r_put (C := RX5) (T := TX5) (N := 7) (ci := 5) tyX5 tyX5_ok nmX5 X iw5 hP (hD _ _) hS 0 rfl rfl 5 rfl mw_2_19 rfl rfl rfl rfl dX5_readsLine_94 (wLR tc a0 g0_10 (a1 0) ++ (wTp tc a1 g1_J67)) (by rw [eg0_10]; rfl) (fun H locs hP hS => ?_)
          refine lv_aload_n X.1 X.2.1 dX5_readsLine_97 rfl (lv_at hl 0 rfl) ?_
          refine r_get (C := RX5) (T := TX5) (N := 7) (ci := 5) (v := .ref (a0 4)) X iw5 hP 0 rfl rfl 3 rfl mw_2_17 rfl dX5_readsLine_98 ?_
          refine lv_aload_n X.1 X.2.1 dX5_readsLine_101 rfl (lv_at hl 0 rfl) ?_
          refine r_get (C := RX5) (T := TX5) (N := 7) (ci := 5) (v := .int (g0_10 5 0)) X iw5 hP 0 rfl rfl 5 rfl mw_2_19 rfl dX5_readsLine_102 ?_
          refine lv_aload_n X.1 X.2.1 dX5_readsLine_105 rfl (lv_at hl 0 rfl) ?_
          refine r_get (C := RX5) (T := TX5) (N := 7) (ci := 5) (v := .int (g0_10 6 0)) X iw5 hP 0 rfl rfl 6 rfl mw_2_20 rfl dX5_readsLine_106 ?_
          obtain ⟨hg_11, h⟩ := gdi_el h
          obtain ⟨g0_12, eg0_12, h⟩ := nm_el h
          refine r_iast X hP (hD _ _) hS 3 0 rfl rfl hg_11 rfl dX5_readsLine_109 (wLR tc a0 g0_12 (a1 0) ++ (wTp tc a1 g1_J67)) (by rw [eg0_12]; rfl) (fun H locs hP hS => ?_)
          refine lv_iconst (v := 1) X.1 X.2.1 dX5_readsLine_110 (by decide) ?_
          exact ret_z (fun u => (wLR tc a0 u.1 (a1 0) ++ (wTp tc a1 u.2))) (res := (r0, G0, G1)) (by decide) (Option.some.inj h) X hQ hP hS dX5_readsLine_111
        refine lv_if_eq (tgt := 67) X.1 X.2.1 dX5_readsLine_54 (by decide) (fun hc => ?_) (fun hc => ?_)
        · have h := it_t hc h
          exact HJ67 g0 g1_5 H locs ls h hP hS (lv_sub hl [2, 1, 0] rfl)
        · have h := it_f hc h
          refine lv_aload_n X.1 X.2.1 dX5_readsLine_57 rfl (lv_at hl 2 rfl) ?_
          refine lv_iconst (v := 0) X.1 X.2.1 dX5_readsLine_58 (by decide) ?_
          obtain ⟨r_13, g0_13, g1_13, hc_13, h⟩ := bd3_el h
          refine call_V1i (As := [.int 0]) (rest := []) X (c_X5_cond l dC dI sk sv tc a0 a1 g0 g1_5 0 hc_13) mw_4_119 mw_4_121 mp_1_3 mw_1_6 mw_4_122 dc_X5_readsCondition ⟨Nat.le_of_ble_eq_true rfl, Nat.le_of_ble_eq_true rfl⟩ rfl rfl ⟨Nat.zero_le _, Nat.zero_le _⟩ hP (hD _ _) hS 0 rfl rfl rfl hl.1 (Nat.le_of_ble_eq_true rfl) dX5_readsLine_59 (fun H locs hP hS => ?_)
          refine lv_if_ne (tgt := 67) X.1 X.2.1 dX5_readsLine_62 (by decide) (fun hc => ?_) (fun hc => ?_)
          · have h := it_f hc h
            exact HJ67 g0_13 g1_13 H locs ls h hP hS (lv_sub hl [2, 1, 0] rfl)
          · have h := it_t hc h
            refine lv_iconst (v := 0) X.1 X.2.1 dX5_readsLine_65 (by decide) ?_
            exact ret_z (fun u => (wLR tc a0 u.1 (a1 0) ++ (wTp tc a1 u.2))) (res := (r0, G0, G1)) (by decide) (Option.some.inj h) X hQ hP hS dX5_readsLine_66
      · have h := it_t hc h
        refine lv_iconst (v := 0) X.1 X.2.1 dX5_readsLine_43 (by decide) ?_
        exact ret_z (fun u => (wLR tc a0 u.1 (a1 0) ++ (wTp tc a1 u.2))) (res := (r0, G0, G1)) (by decide) (Option.some.inj h) X hQ hP hS dX5_readsLine_44
    · have h := it_f hc h
      exact HJ19 () H locs ls h hP hS (lv_sub hl [1] rfl)

def f_X5_readsText_L31 (n : Nat) (a : Int32 × Pic × Pic) : Option ((Int32 × Pic × Pic) ⊕ (Pic × Pic)) := lp (fun (rec : Int32 × Pic × Pic → Option ((Int32 × Pic × Pic) ⊕ (Pic × Pic))) (a : Int32 × Pic × Pic) => match a with | (x1, g0, g1) => (if 12 ≤ x1 then some (.inr (g0, g1)) else bd3 (f_X5_readsLine g0 g1) (fun r_4 g0_4 g1_4 => (if r_4 = 0 then some (.inl (0, g0_4, g1_4)) else (if (g1_4 3 0) = 0 then some (.inl (1, g0_4, g1_4)) else bd2 (f_X10_takesSign g1_4 59) (fun r_5 g1_5 => (if r_5 = 0 then bd2 (f_X10_refuse g1_5) (fun r_7 g1_7 => gdb r_7 (some (.inl (r_7, g0_4, g1_7)))) else nm (x1 + 1) (fun x1_6 => rec (x1_6, g0_4, g1_5))))))))) n a
def f_X5_readsText (g0 : Pic) (g1 : Pic) : Option (Int32 × Pic × Pic) := bd (f_X10_open g1) (fun g1_1 => nm (pu g0 5 0 0) (fun g0_2 => nm (pu g0_2 6 0 0) (fun g0_3 => (if (g1_1 3 0) = 0 then some (1, g0_3, g1_1) else lr (f_X5_readsText_L31  fu (0, g0_3, g1_1)) (fun a => a) (fun (g0_9, g1_9) => bd2 (f_X10_refuse g1_9) (fun r_10 g1_10 => gdb r_10 (some (r_10, g0_9, g1_10))))))))
abbrev rm_X5_readsText : Room := { frames := 45, cells := 0, slots := 0, locals := 2685 }
set_option maxHeartbeats 4000000 in
set_option maxRecDepth 100000 in
theorem c_X5_readsText (l : Launch) (dC : Nat → ClassId) (dI : Nat → Nat → Nat) (sk sv : Nat → Nat) (tc : Nat → ClassId) (a0 : Nat → Nat) (a1 : Nat → Nat) (g0 : Pic) (g1 : Pic) {r0 : Int32} {G0 : Pic} {G1 : Pic} (h : f_X5_readsText g0 g1 = some (r0, G0, G1)) : CT l (dC, dI) sk sv (TY tc) yX5_readsText cX5_readsText 2 (some .boolean) rm_X5_readsText [.ref (a0 0)] (wLR tc a0 g0 (a1 0) ++ (wTp tc a1 g1)) (some (.int r0)) (wLR tc a0 G0 (a1 0) ++ (wTp tc a1 G1)) := by
  refine ofCT (by decide) (Nat.le_of_ble_eq_true rfl) ?_
  intro pr e s m args below meth c A Q ls H locs X hQ hD0 hP hS hl
  have hD : ∀ z0 z1, va_D A (wLR tc a0 z0 (a1 0) ++ (wTp tc a1 z1)) := fun z0 z1 => D_fst (ws := (wLR tc a0 g0 (a1 0) ++ (wTp tc a1 g1))) rfl hD0
  have hl : lv_has ls 2 [(0, .ref (a0 0))] := hl
  have HL31 : ∀ (n : Nat) (x1 : Int32) (g0 : Pic) (g1 : Pic) (ex : ((Int32 × Pic × Pic) ⊕ (Pic × Pic))), f_X5_readsText_L31  n (x1, g0, g1) = some ex → (∀ rv, ex = .inl rv → rv = (r0, G0, G1)) → ∀ (H : Heap) (locs : List Loc) (ls : Array Slot), va_P (dC, dI) vwCl (wLR tc a0 g0 (a1 0) ++ (wTp tc a1 g1)) H → va_S A s.heap H locs → lv_has ls 2 [(0, .ref (a0 0)), (1, .int x1)] → (∀ (k0 : Pic) (k1 : Pic), .inr (k0, k1) = ex → ∀ (H : Heap) (locs : List Loc) (ls : Array Slot), va_P (dC, dI) vwCl (wLR tc a0 k0 (a1 0) ++ (wTp tc a1 k1)) H → va_S A s.heap H locs → lv_has ls 2 [(0, .ref (a0 0))] → W pr l e rm_X5_readsText s m args below meth c H locs 0 0 Q (F0 m 84 ls [])) → W pr l e rm_X5_readsText s m args below meth c H locs 0 0 Q (F0 m 31 ls []) := by
    intro n
    induction n with
    | zero => intro x1 g0 g1 ex h; exact lp_z h
    | succ n ih =>
      intro x1 g0 g1 ex h hR H locs ls hP hS hl K
      have h := lp_s h
      refine lv_iload_n X.1 X.2.1 dX5_readsText_31 rfl (lv_at hl 1 rfl) ?_
      refine lv_bipush (v := 12) X.1 X.2.1 dX5_readsText_32 (by decide) ?_
      refine lv_icmp_ge (tgt := 84) X.1 X.2.1 dX5_readsText_34 (by decide) (fun hc => ?_) (fun hc => ?_)
      · have h := it_t hc h
        exact K g0 g1 (Option.some.inj h) H locs ls hP hS (lv_sub hl [0] rfl)
      · have h := it_f hc h
        refine lv_aload_n X.1 X.2.1 dX5_readsText_37 rfl (lv_at hl 0 rfl) ?_
        obtain ⟨r_4, g0_4, g1_4, hc_4, h⟩ := bd3_el h
        refine call_V1i (As := []) (rest := []) X (c_X5_readsLine l dC dI sk sv tc a0 a1 g0 g1 hc_4) mw_4_104 mw_4_105 mw_4_106 mw_1_6 mw_4_107 dc_X5_readsLine ⟨Nat.le_of_ble_eq_true rfl, Nat.le_of_ble_eq_true rfl⟩ rfl rfl ⟨Nat.zero_le _, Nat.zero_le _⟩ hP (hD _ _) hS 0 rfl rfl rfl hl.1 (Nat.le_of_ble_eq_true rfl) dX5_readsText_38 (fun H locs hP hS => ?_)
        refine lv_if_ne (tgt := 46) X.1 X.2.1 dX5_readsText_41 (by decide) (fun hc => ?_) (fun hc => ?_)
        · have h := it_f hc h
          refine lv_aload_n X.1 X.2.1 dX5_readsText_46 rfl (lv_at hl 0 rfl) ?_
          refine r_get (C := RX5) (T := TX5) (N := 7) (ci := 5) (v := .ref (a1 0)) X iw5 hP 0 rfl rfl 0 rfl mw_2_14 rfl dX5_readsText_47 ?_
          refine r_get (C := RX10) (T := TX10) (N := 8) (ci := 10) (v := .int (g1_4 3 0)) X iw10 hP 5 rfl rfl 3 rfl mw_1_51 rfl dX5_readsText_50 ?_
          refine lv_if_ne (tgt := 58) X.1 X.2.1 dX5_readsText_53 (by decide) (fun hc => ?_) (fun hc => ?_)
          · have h := it_f hc h
            refine lv_aload_n X.1 X.2.1 dX5_readsText_58 rfl (lv_at hl 0 rfl) ?_
            refine r_get (C := RX5) (T := TX5) (N := 7) (ci := 5) (v := .ref (a1 0)) X iw5 hP 0 rfl rfl 0 rfl mw_2_14 rfl dX5_readsText_59 ?_
            refine lv_bipush (v := 59) X.1 X.2.1 dX5_readsText_62 (by decide) ?_
            obtain ⟨r_5, g1_5, hc_5, h⟩ := bd2_el h
            refine call_Vsi (ws := (wLR tc a0 g0_4 (a1 0) ++ (wTp tc a1 g1_4))) (ws' := (wLR tc a0 g0_4 (a1 0) ++ (wTp tc a1 g1_5))) (wLR tc a0 g0_4 (a1 0)) [] (As := [.int 59]) (rest := []) X (c_X10_takesSign l dC dI sk sv tc a1 g1_4 59 hc_5) mw_4_131 mw_3_239 mw_4_0 mw_1_2 mw_4_1 dc_X10_takesSign ⟨Nat.le_of_ble_eq_true rfl, Nat.le_of_ble_eq_true rfl⟩ rfl rfl ⟨Nat.zero_le _, Nat.zero_le _⟩ (by simp only [List.append_assoc, List.nil_append, List.append_nil]) (by simp only [List.append_assoc, List.nil_append, List.append_nil]) hP (hD _ _) hS 0 rfl rfl rfl hl.1 (Nat.le_of_ble_eq_true rfl) dX5_readsText_64 (fun H locs hP hS => ?_)
            refine lv_if_ne (tgt := 78) X.1 X.2.1 dX5_readsText_67 (by decide) (fun hc => ?_) (fun hc => ?_)
            · have h := it_f hc h
              obtain ⟨x1_6, ex1_6, h⟩ := nm_el h
              refine lv_iinc (v := x1_6) (lv' := [(1, .int x1_6), (0, .ref (a0 0))]) X.1 X.2.1 dX5_readsText_78 hl (k := 1) rfl (by rw [ex1_6]; rfl) (by decide) rfl (fun ls hl => ?_)
              refine lv_goto (tgt := 31) X.1 X.2.1 dX5_readsText_81 (by decide) ?_
              exact ih x1_6 g0_4 g1_5 ex h hR H locs ls hP hS (lv_sub hl [1, 0] rfl) K
            · have h := it_t hc h
              refine lv_aload_n X.1 X.2.1 dX5_readsText_70 rfl (lv_at hl 0 rfl) ?_
              refine r_get (C := RX5) (T := TX5) (N := 7) (ci := 5) (v := .ref (a1 0)) X iw5 hP 0 rfl rfl 0 rfl mw_2_14 rfl dX5_readsText_71 ?_
              obtain ⟨r_7, g1_7, hc_7, h⟩ := bd2_el h
              refine call_Vsi (ws := (wLR tc a0 g0_4 (a1 0) ++ (wTp tc a1 g1_5))) (ws' := (wLR tc a0 g0_4 (a1 0) ++ (wTp tc a1 g1_7))) (wLR tc a0 g0_4 (a1 0)) [] (As := []) (rest := []) X (c_X10_refuse l dC dI sk sv tc a1 g1_5 hc_7) mw_4_116 mw_3_194 mw_3_195 mw_1_2 mw_3_196 dc_X10_refuse ⟨Nat.le_of_ble_eq_true rfl, Nat.le_of_ble_eq_true rfl⟩ rfl rfl ⟨Nat.zero_le _, Nat.zero_le _⟩ (by simp only [List.append_assoc, List.nil_append, List.append_nil]) (by simp only [List.append_assoc, List.nil_append, List.append_nil]) hP (hD _ _) hS 0 rfl rfl rfl hl.1 (Nat.le_of_ble_eq_true rfl) dX5_readsText_74 (fun H locs hP hS => ?_)
              obtain ⟨hg_8, h⟩ := gdb_el h
              exact ret_z (fun u => (wLR tc a0 u.1 (a1 0) ++ (wTp tc a1 u.2))) (res := (r0, G0, G1)) hg_8 (hR _ (Option.some.inj h).symm) X hQ hP hS dX5_readsText_77
          · have h := it_t hc h
            refine lv_iconst (v := 1) X.1 X.2.1 dX5_readsText_56 (by decide) ?_
            exact ret_z (fun u => (wLR tc a0 u.1 (a1 0) ++ (wTp tc a1 u.2))) (res := (r0, G0, G1)) (by decide) (hR _ (Option.some.inj h).symm) X hQ hP hS dX5_readsText_57
        · have h := it_t hc h
          refine lv_iconst (v := 0) X.1 X.2.1 dX5_readsText_44 (by decide) ?_
          exact ret_z (fun u => (wLR tc a0 u.1 (a1 0) ++ (wTp tc a1 u.2))) (res := (r0, G0, G1)) (by decide) (hR _ (Option.some.inj h).symm) X hQ hP hS dX5_readsText_45
  unfold f_X5_readsText at h
  refine lv_aload_n X.1 X.2.1 dX5_readsText_0 rfl (lv_at hl 0 rfl) ?_
  refine r_get (C := RX5) (T := TX5) (N := 7) (ci := 5) (v := .ref (a1 0)) X iw5 hP 0 rfl rfl 0 rfl mw_2_14 rfl dX5_readsText_1 ?_
  obtain ⟨g1_1, hc_1, h⟩ := bd_el h
  refine call_Vsv (ws := (wLR tc a0 g0 (a1 0) ++ (wTp tc a1 g1))) (ws' := (wLR tc a0 g0 (a1 0) ++ (wTp tc a1 g1_1))) (wLR tc a0 g0 (a1 0)) [] (As := []) (rest := []) X (c_X10_open l dC dI sk sv tc a1 g1 hc_1) mw_4_103 mw_3_125 mw_3_126 mw_1_2 mw_3_127 dc_X10_open ⟨Nat.le_of_ble_eq_true rfl, Nat.le_of_ble_eq_true rfl⟩ rfl rfl ⟨Nat.zero_le _, Nat.zero_le _⟩ (by simp only [List.append_assoc, List.nil_append, List.append_nil]) (by simp only [List.append_assoc, List.nil_append, List.append_nil]) hP (hD _ _) hS 0 rfl rfl rfl hl.1 (Nat.le_of_ble_eq_true rfl) dX5_readsText_4 (fun H locs hP hS => ?_)
  refine lv_aload_n X.1 X.2.1 dX5_readsText_7 rfl (lv_at hl 0 rfl) ?_
  refine lv_iconst (v := 0) X.1 X.2.1 dX5_readsText_8 (by decide) ?_
  obtain ⟨g0_2, eg0_2, h⟩ := nm_el h
  refine r_put (C := RX5) (T := TX5) (N := 7) (ci := 5) tyX5 tyX5_ok nmX5 X iw5 hP (hD _ _) hS 0 rfl rfl 5 rfl mw_2_19 rfl rfl rfl rfl dX5_readsText_9 (wLR tc a0 g0_2 (a1 0) ++ (wTp tc a1 g1_1)) (by rw [eg0_2]; rfl) (fun H locs hP hS => ?_)
  refine lv_aload_n X.1 X.2.1 dX5_readsText_12 rfl (lv_at hl 0 rfl) ?_
  refine lv_iconst (v := 0) X.1 X.2.1 dX5_readsText_13 (by decide) ?_
  obtain ⟨g0_3, eg0_3, h⟩ := nm_el h
  refine r_put (C := RX5) (T := TX5) (N := 7) (ci := 5) tyX5 tyX5_ok nmX5 X iw5 hP (hD _ _) hS 0 rfl rfl 6 rfl mw_2_20 rfl rfl rfl rfl dX5_readsText_14 (wLR tc a0 g0_3 (a1 0) ++ (wTp tc a1 g1_1)) (by rw [eg0_3]; rfl) (fun H locs hP hS => ?_)
  refine lv_aload_n X.1 X.2.1 dX5_readsText_17 rfl (lv_at hl 0 rfl) ?_
  refine r_get (C := RX5) (T := TX5) (N := 7) (ci := 5) (v := .ref (a1 0)) X iw5 hP 0 rfl rfl 0 rfl mw_2_14 rfl dX5_readsText_18 ?_
  refine r_get (C := RX10) (T := TX10) (N := 8) (ci := 10) (v := .int (g1_1 3 0)) X iw10 hP 5 rfl rfl 3 rfl mw_1_51 rfl dX5_readsText_21 ?_
  refine lv_if_ne (tgt := 29) X.1 X.2.1 dX5_readsText_24 (by decide) (fun hc => ?_) (fun hc => ?_)
  · have h := it_f hc h
    refine lv_iconst (v := 0) X.1 X.2.1 dX5_readsText_29 (by decide) ?_
    refine lv_istore_n (lv' := [(1, .int 0), (0, .ref (a0 0))]) X.1 X.2.1 dX5_readsText_30 rfl hl (by decide) rfl (fun ls hl => ?_)
    obtain ⟨ex_9, hL_9, h1_9, h2_9⟩ := lr_el h
    refine HL31  fu 0 g0_3 g1_1 ex_9 hL_9 (fun rv hq => h1_9 rv hq) H locs ls hP hS (lv_sub hl [1, 0] rfl) (fun g0_9 g1_9 he H locs ls hP hS hl => ?_)
    have h := h2_9 _ he.symm
    refine lv_aload_n X.1 X.2.1 dX5_readsText_84 rfl (lv_at hl 0 rfl) ?_
    refine r_get (C := RX5) (T := TX5) (N := 7) (ci := 5) (v := .ref (a1 0)) X iw5 hP 0 rfl rfl 0 rfl mw_2_14 rfl dX5_readsText_85 ?_
    obtain ⟨r_10, g1_10, hc_10, h⟩ := bd2_el h
    refine call_Vsi (ws := (wLR tc a0 g0_9 (a1 0) ++ (wTp tc a1 g1_9))) (ws' := (wLR tc a0 g0_9 (a1 0) ++ (wTp tc a1 g1_10))) (wLR tc a0 g0_9 (a1 0)) [] (As := []) (rest := []) X (c_X10_refuse l dC dI sk sv tc a1 g1_9 hc_10) mw_4_116 mw_3_194 mw_3_195 mw_1_2 mw_3_196 dc_X10_refuse ⟨Nat.le_of_ble_eq_true rfl, Nat.le_of_ble_eq_true rfl⟩ rfl rfl ⟨Nat.zero_le _, Nat.zero_le _⟩ (by simp only [List.append_assoc, List.nil_append, List.append_nil]) (by simp only [List.append_assoc, List.nil_append, List.append_nil]) hP (hD _ _) hS 0 rfl rfl rfl hl.1 (Nat.le_of_ble_eq_true rfl) dX5_readsText_88 (fun H locs hP hS => ?_)
    obtain ⟨hg_11, h⟩ := gdb_el h
    exact ret_z (fun u => (wLR tc a0 u.1 (a1 0) ++ (wTp tc a1 u.2))) (res := (r0, G0, G1)) hg_11 (Option.some.inj h) X hQ hP hS dX5_readsText_91
  · have h := it_t hc h
    refine lv_iconst (v := 1) X.1 X.2.1 dX5_readsText_27 (by decide) ?_
    exact ret_z (fun u => (wLR tc a0 u.1 (a1 0) ++ (wTp tc a1 u.2))) (res := (r0, G0, G1)) (by decide) (Option.some.inj h) X hQ hP hS dX5_readsText_28

def f_X0_observe_n (g0 : Pic) (g1 : Pic) (g2 : Pic) (g3 : Pic) (g4 : Pic) (x2 : Int32) (x3 : Int32) : Option (Pic × Pic) := nm (pu g1 0 0 x2) (fun g1_1 => nm (pu g1_1 0 1 x3) (fun g1_2 => nm (pu g1_2 0 2 0) (fun g1_3 => nm (pu g1_3 0 3 0) (fun g1_4 => gdi x2 5 (nm (pu g1_4 0 4 (g3 9 (x2.toNatClampNeg))) (fun g1_6 => gdi x2 5 (nm (pu g1_6 0 5 (g3 10 (x2.toNatClampNeg))) (fun g1_8 => gdi x2 5 (nm (pu g1_8 0 6 (g3 11 (x2.toNatClampNeg))) (fun g1_10 => nm (pu g1_10 0 7 0) (fun g1_11 => nm (pu g1_11 0 8 0) (fun g1_12 => jn (fun (g1_J186 : Pic) (g2_J186 : Pic) => some (g1_J186, g2_J186)) (fun J186 => (if (g3 0 0) ≤ x3 then J186 g1_12 g2 else gdi x2 5 (bd (f_X3_take g2 g3 (g3 8 (x2.toNatClampNeg))) (fun g2_14 => gdi x3 8 (nm (pu g1_12 0 2 (g2_14 1 (x3.toNatClampNeg))) (fun g1_16 => gdi x3 8 (nm (pu g1_16 0 3 (g3 2 (x3.toNatClampNeg))) (fun g1_18 => gdi x3 8 (gdi x3 8 (jn (fun (s1_J159 : Int32) (s2_J159 : Int32) => gdi s1_J159 9 (nm (pu g1_18 0 (s1_J159.toNatClampNeg) s2_J159) (fun g1_22 => bd (f_X3_alikeTo g2_14 x3) (fun r_23 => jn (fun (s1_J185 : Int32) (s2_J185 : Int32) => gdi s1_J185 9 (nm (pu g1_22 0 (s1_J185.toNatClampNeg) s2_J185) (fun g1_25 => J186 g1_25 g2_14))) (fun J185 => (if r_23 = ((1 : Int32) <<< (x3 &&& 31)) then J185 8 1 else J185 8 0)))))) (fun J159 => (if (g2_14 1 (x3.toNatClampNeg)) = (g3 2 (x3.toNatClampNeg)) then J159 7 1 else J159 7 0))))))))))))))))))))))))
abbrev rm_X0_observe_n : Room := { frames := 1, cells := 0, slots := 0, locals := 27 }
set_option maxHeartbeats 4000000 in
set_option maxRecDepth 100000 in
theorem c_X0_observe_n (l : Launch) (dC : Nat → ClassId) (dI : Nat → Nat → Nat) (sk sv : Nat → Nat) (tc : Nat → ClassId) (a0 : Nat → Nat) (a1 : Nat → Nat) (a2 : Nat → Nat) (a3 : Nat → Nat) (a4 : Nat → Nat) (g0 : Pic) (g1 : Pic) (g2 : Pic) (g3 : Pic) (g4 : Pic) (x2 : Int32) (x3 : Int32) {G1 : Pic} {G2 : Pic} (h : f_X0_observe_n g0 g1 g2 g3 g4 x2 x3 = some (G1, G2)) : CT l (dC, dI) sk sv (TY tc) yX0_observe cX0_observe 4 none rm_X0_observe_n [.ref (a0 0), .ref (a3 0), .int x2, .int x3] (wCk tc a0 g0 (a2 0) (a1 0) ++ (wFa tc a1 g1 ++ (wHd tc a2 g2 ++ (wSt tc a3 g3 none (a4 0) ++ (wLg tc a4 g4))))) none (wCk tc a0 g0 (a2 0) (a1 0) ++ (wFa tc a1 G1 ++ (wHd tc a2 G2 ++ (wSt tc a3 g3 none (a4 0) ++ (wLg tc a4 g4))))) := by
  refine ofCT (by decide) (Nat.le_of_ble_eq_true rfl) ?_
  intro pr e s m args below meth c A Q ls H locs X hQ hD0 hP hS hl
  have hD : ∀ z0 z1 z2 z3 z4, va_D A (wCk tc a0 z0 (a2 0) (a1 0) ++ (wFa tc a1 z1 ++ (wHd tc a2 z2 ++ (wSt tc a3 z3 none (a4 0) ++ (wLg tc a4 z4))))) := fun z0 z1 z2 z3 z4 => D_fst (ws := (wCk tc a0 g0 (a2 0) (a1 0) ++ (wFa tc a1 g1 ++ (wHd tc a2 g2 ++ (wSt tc a3 g3 none (a4 0) ++ (wLg tc a4 g4)))))) rfl hD0
  have hl : lv_has ls 4 [(0, .ref (a0 0)), (1, .ref (a3 0)), (2, .int x2), (3, .int x3)] := hl
  unfold f_X0_observe_n at h
  refine lv_aload_n X.1 X.2.1 dX0_observe_0 rfl (lv_at hl 0 rfl) ?_
  refine r_get (C := RX0) (T := TX0) (N := 2) (ci := 0) (v := .ref (a1 0)) X iw0 hP 0 rfl rfl 1 rfl mw_2_67 rfl dX0_observe_1 ?_
  refine lv_iconst (v := 0) X.1 X.2.1 dX0_observe_4 (by decide) ?_
  refine lv_iload_n X.1 X.2.1 dX0_observe_5 rfl (lv_at hl 2 rfl) ?_
  obtain ⟨g1_1, eg1_1, h⟩ := nm_el h
  refine r_iast X hP (hD _ _ _ _ _) hS 1 0 rfl rfl (j := 0) (by unfold vp_in; decide) (by decide) dX0_observe_6 (wCk tc a0 g0 (a2 0) (a1 0) ++ (wFa tc a1 g1_1 ++ (wHd tc a2 g2 ++ (wSt tc a3 g3 none (a4 0) ++ (wLg tc a4 g4))))) (by rw [eg1_1]; rfl) (fun H locs hP hS => ?_)
  refine lv_aload_n X.1 X.2.1 dX0_observe_7 rfl (lv_at hl 0 rfl) ?_
  refine r_get (C := RX0) (T := TX0) (N := 2) (ci := 0) (v := .ref (a1 0)) X iw0 hP 0 rfl rfl 1 rfl mw_2_67 rfl dX0_observe_8 ?_
  refine lv_iconst (v := 1) X.1 X.2.1 dX0_observe_11 (by decide) ?_
  refine lv_iload_n X.1 X.2.1 dX0_observe_12 rfl (lv_at hl 3 rfl) ?_
  obtain ⟨g1_2, eg1_2, h⟩ := nm_el h
  refine r_iast X hP (hD _ _ _ _ _) hS 1 0 rfl rfl (j := 1) (by unfold vp_in; decide) (by decide) dX0_observe_13 (wCk tc a0 g0 (a2 0) (a1 0) ++ (wFa tc a1 g1_2 ++ (wHd tc a2 g2 ++ (wSt tc a3 g3 none (a4 0) ++ (wLg tc a4 g4))))) (by rw [eg1_2]; rfl) (fun H locs hP hS => ?_)
  refine lv_aload_n X.1 X.2.1 dX0_observe_14 rfl (lv_at hl 0 rfl) ?_
  refine r_get (C := RX0) (T := TX0) (N := 2) (ci := 0) (v := .ref (a1 0)) X iw0 hP 0 rfl rfl 1 rfl mw_2_67 rfl dX0_observe_15 ?_
  refine lv_iconst (v := 2) X.1 X.2.1 dX0_observe_18 (by decide) ?_
  refine lv_iconst (v := 0) X.1 X.2.1 dX0_observe_19 (by decide) ?_
  obtain ⟨g1_3, eg1_3, h⟩ := nm_el h
  refine r_iast X hP (hD _ _ _ _ _) hS 1 0 rfl rfl (j := 2) (by unfold vp_in; decide) (by decide) dX0_observe_20 (wCk tc a0 g0 (a2 0) (a1 0) ++ (wFa tc a1 g1_3 ++ (wHd tc a2 g2 ++ (wSt tc a3 g3 none (a4 0) ++ (wLg tc a4 g4))))) (by rw [eg1_3]; rfl) (fun H locs hP hS => ?_)
  refine lv_aload_n X.1 X.2.1 dX0_observe_21 rfl (lv_at hl 0 rfl) ?_
  refine r_get (C := RX0) (T := TX0) (N := 2) (ci := 0) (v := .ref (a1 0)) X iw0 hP 0 rfl rfl 1 rfl mw_2_67 rfl dX0_observe_22 ?_
  refine lv_iconst (v := 3) X.1 X.2.1 dX0_observe_25 (by decide) ?_
  refine lv_iconst (v := 0) X.1 X.2.1 dX0_observe_26 (by decide) ?_
  obtain ⟨g1_4, eg1_4, h⟩ := nm_el h
  refine r_iast X hP (hD _ _ _ _ _) hS 1 0 rfl rfl (j := 3) (by unfold vp_in; decide) (by decide) dX0_observe_27 (wCk tc a0 g0 (a2 0) (a1 0) ++ (wFa tc a1 g1_4 ++ (wHd tc a2 g2 ++ (wSt tc a3 g3 none (a4 0) ++ (wLg tc a4 g4))))) (by rw [eg1_4]; rfl) (fun H locs hP hS => ?_)
  refine lv_aload_n X.1 X.2.1 dX0_observe_28 rfl (lv_at hl 0 rfl) ?_
  refine r_get (C := RX0) (T := TX0) (N := 2) (ci := 0) (v := .ref (a1 0)) X iw0 hP 0 rfl rfl 1 rfl mw_2_67 rfl dX0_observe_29 ?_
  refine lv_iconst (v := 4) X.1 X.2.1 dX0_observe_32 (by decide) ?_
  refine lv_aload_n X.1 X.2.1 dX0_observe_33 rfl (lv_at hl 1 rfl) ?_
  refine r_get (C := RX9) (T := TX9) (N := 20) (ci := 9) (v := .ref (a3 10)) X iw9 hP 7 rfl rfl 9 rfl mw_1_156 rfl dX0_observe_34 ?_
  refine lv_iload_n X.1 X.2.1 dX0_observe_37 rfl (lv_at hl 2 rfl) ?_
  obtain ⟨hg_5, h⟩ := gdi_el h
  refine r_iald X hP 13 0 rfl rfl hg_5 rfl dX0_observe_38 ?_
  obtain ⟨g1_6, eg1_6, h⟩ := nm_el h
  refine r_iast X hP (hD _ _ _ _ _) hS 1 0 rfl rfl (j := 4) (by unfold vp_in; decide) (by decide) dX0_observe_39 (wCk tc a0 g0 (a2 0) (a1 0) ++ (wFa tc a1 g1_6 ++ (wHd tc a2 g2 ++ (wSt tc a3 g3 none (a4 0) ++ (wLg tc a4 g4))))) (by rw [eg1_6]; rfl) (fun H locs hP hS => ?_)
  refine lv_aload_n X.1 X.2.1 dX0_observe_40 rfl (lv_at hl 0 rfl) ?_
  refine r_get (C := RX0) (T := TX0) (N := 2) (ci := 0) (v := .ref (a1 0)) X iw0 hP 0 rfl rfl 1 rfl mw_2_67 rfl dX0_observe_41 ?_
  refine lv_iconst (v := 5) X.1 X.2.1 dX0_observe_44 (by decide) ?_
  refine lv_aload_n X.1 X.2.1 dX0_observe_45 rfl (lv_at hl 1 rfl) ?_
  refine r_get (C := RX9) (T := TX9) (N := 20) (ci := 9) (v := .ref (a3 11)) X iw9 hP 7 rfl rfl 10 rfl mw_1_160 rfl dX0_observe_46 ?_
  refine lv_iload_n X.1 X.2.1 dX0_observe_49 rfl (lv_at hl 2 rfl) ?_
  obtain ⟨hg_7, h⟩ := gdi_el h
  refine r_iald X hP 14 0 rfl rfl hg_7 rfl dX0_observe_50 ?_
  obtain ⟨g1_8, eg1_8, h⟩ := nm_el h
  refine r_iast X hP (hD _ _ _ _ _) hS 1 0 rfl rfl (j := 5) (by unfold vp_in; decide) (by decide) dX0_observe_51 (wCk tc a0 g0 (a2 0) (a1 0) ++ (wFa tc a1 g1_8 ++ (wHd tc a2 g2 ++ (wSt tc a3 g3 none (a4 0) ++ (wLg tc a4 g4))))) (by rw [eg1_8]; rfl) (fun H locs hP hS => ?_)
  refine lv_aload_n X.1 X.2.1 dX0_observe_52 rfl (lv_at hl 0 rfl) ?_
  refine r_get (C := RX0) (T := TX0) (N := 2) (ci := 0) (v := .ref (a1 0)) X iw0 hP 0 rfl rfl 1 rfl mw_2_67 rfl dX0_observe_53 ?_
  refine lv_bipush (v := 6) X.1 X.2.1 dX0_observe_56 (by decide) ?_
  refine lv_aload_n X.1 X.2.1 dX0_observe_58 rfl (lv_at hl 1 rfl) ?_
  refine r_get (C := RX9) (T := TX9) (N := 20) (ci := 9) (v := .ref (a3 12)) X iw9 hP 7 rfl rfl 11 rfl mw_1_164 rfl dX0_observe_59 ?_
  refine lv_iload_n X.1 X.2.1 dX0_observe_62 rfl (lv_at hl 2 rfl) ?_
  obtain ⟨hg_9, h⟩ := gdi_el h
  refine r_iald X hP 15 0 rfl rfl hg_9 rfl dX0_observe_63 ?_
  obtain ⟨g1_10, eg1_10, h⟩ := nm_el h
  refine r_iast X hP (hD _ _ _ _ _) hS 1 0 rfl rfl (j := 6) (by unfold vp_in; decide) (by decide) dX0_observe_64 (wCk tc a0 g0 (a2 0) (a1 0) ++ (wFa tc a1 g1_10 ++ (wHd tc a2 g2 ++ (wSt tc a3 g3 none (a4 0) ++ (wLg tc a4 g4))))) (by rw [eg1_10]; rfl) (fun H locs hP hS => ?_)
  refine lv_aload_n X.1 X.2.1 dX0_observe_65 rfl (lv_at hl 0 rfl) ?_
  refine r_get (C := RX0) (T := TX0) (N := 2) (ci := 0) (v := .ref (a1 0)) X iw0 hP 0 rfl rfl 1 rfl mw_2_67 rfl dX0_observe_66 ?_
  refine lv_bipush (v := 7) X.1 X.2.1 dX0_observe_69 (by decide) ?_
  refine lv_iconst (v := 0) X.1 X.2.1 dX0_observe_71 (by decide) ?_
  obtain ⟨g1_11, eg1_11, h⟩ := nm_el h
  refine r_iast X hP (hD _ _ _ _ _) hS 1 0 rfl rfl (j := 7) (by unfold vp_in; decide) (by decide) dX0_observe_72 (wCk tc a0 g0 (a2 0) (a1 0) ++ (wFa tc a1 g1_11 ++ (wHd tc a2 g2 ++ (wSt tc a3 g3 none (a4 0) ++ (wLg tc a4 g4))))) (by rw [eg1_11]; rfl) (fun H locs hP hS => ?_)
  refine lv_aload_n X.1 X.2.1 dX0_observe_73 rfl (lv_at hl 0 rfl) ?_
  refine r_get (C := RX0) (T := TX0) (N := 2) (ci := 0) (v := .ref (a1 0)) X iw0 hP 0 rfl rfl 1 rfl mw_2_67 rfl dX0_observe_74 ?_
  refine lv_bipush (v := 8) X.1 X.2.1 dX0_observe_77 (by decide) ?_
  refine lv_iconst (v := 0) X.1 X.2.1 dX0_observe_79 (by decide) ?_
  obtain ⟨g1_12, eg1_12, h⟩ := nm_el h
  refine r_iast X hP (hD _ _ _ _ _) hS 1 0 rfl rfl (j := 8) (by unfold vp_in; decide) (by decide) dX0_observe_80 (wCk tc a0 g0 (a2 0) (a1 0) ++ (wFa tc a1 g1_12 ++ (wHd tc a2 g2 ++ (wSt tc a3 g3 none (a4 0) ++ (wLg tc a4 g4))))) (by rw [eg1_12]; rfl) (fun H locs hP hS => ?_)
  refine lv_iload_n X.1 X.2.1 dX0_observe_81 rfl (lv_at hl 3 rfl) ?_
  refine lv_aload_n X.1 X.2.1 dX0_observe_82 rfl (lv_at hl 1 rfl) ?_
  refine r_get (C := RX9) (T := TX9) (N := 20) (ci := 9) (v := .int (g3 0 0)) X iw9 hP 7 rfl rfl 0 rfl mw_1_107 rfl dX0_observe_83 ?_
  obtain ⟨J186, eJ186, h⟩ := jn_el h
  have HJ186 : ∀ (g1_J186 : Pic) (g2_J186 : Pic) (H : Heap) (locs : List Loc) (ls : Array Slot), J186 g1_J186 g2_J186 = some (G1, G2) → va_P (dC, dI) vwCl (wCk tc a0 g0 (a2 0) (a1 0) ++ (wFa tc a1 g1_J186 ++ (wHd tc a2 g2_J186 ++ (wSt tc a3 g3 none (a4 0) ++ (wLg tc a4 g4))))) H → va_S A s.heap H locs → lv_has ls 4 [] → W pr l e rm_X0_observe_n s m args below meth c H locs 0 0 Q (F0 m 186 ls []) := by
    intro g1_J186 g2_J186 H locs ls h hP hS hl
    rw [eJ186] at h
    exact ret_v (fun u => (wCk tc a0 g0 (a2 0) (a1 0) ++ (wFa tc a1 u.1 ++ (wHd tc a2 u.2 ++ (wSt tc a3 g3 none (a4 0) ++ (wLg tc a4 g4)))))) (res := (G1, G2)) (Option.some.inj h) X hQ hP hS dX0_observe_186
  refine lv_icmp_ge (tgt := 186) X.1 X.2.1 dX0_observe_86 (by decide) (fun hc => ?_) (fun hc => ?_)
  · have h := it_t hc h
    exact HJ186 g1_12 g2 H locs ls h hP hS (lv_sub hl [] rfl)
  · have h := it_f hc h
    refine lv_aload_n X.1 X.2.1 dX0_observe_89 rfl (lv_at hl 0 rfl) ?_
    refine r_get (C := RX0) (T := TX0) (N := 2) (ci := 0) (v := .ref (a2 0)) X iw0 hP 0 rfl rfl 0 rfl mw_2_66 rfl dX0_observe_90 ?_
    refine lv_aload_n X.1 X.2.1 dX0_observe_93 rfl (lv_at hl 1 rfl) ?_
    refine lv_aload_n X.1 X.2.1 dX0_observe_94 rfl (lv_at hl 1 rfl) ?_
    refine r_get (C := RX9) (T := TX9) (N := 20) (ci := 9) (v := .ref (a3 9)) X iw9 hP 7 rfl rfl 8 rfl mw_1_150 rfl dX0_observe_95 ?_
    refine lv_iload_n X.1 X.2.1 dX0_observe_98 rfl (lv_at hl 2 rfl) ?_
    obtain ⟨hg_13, h⟩ := gdi_el h
    refine r_iald X hP 12 0 rfl rfl hg_13 rfl dX0_observe_99 ?_
    obtain ⟨g2_14, hc_14, h⟩ := bd_el h
    refine call_Vsv (ws := (wCk tc a0 g0 (a2 0) (a1 0) ++ (wFa tc a1 g1_12 ++ (wHd tc a2 g2 ++ (wSt tc a3 g3 none (a4 0) ++ (wLg tc a4 g4)))))) (ws' := (wCk tc a0 g0 (a2 0) (a1 0) ++ (wFa tc a1 g1_12 ++ (wHd tc a2 g2_14 ++ (wSt tc a3 g3 none (a4 0) ++ (wLg tc a4 g4)))))) (wCk tc a0 g0 (a2 0) (a1 0) ++ (wFa tc a1 g1_12)) (wLg tc a4 g4) (As := [.ref (a3 0), .int (g3 8 (x2.toNatClampNeg))]) (rest := []) X (c_X3_take l dC dI sk sv tc a2 a3 none (a4 0) g2 g3 (g3 8 (x2.toNatClampNeg)) hc_14) mw_5_157 mw_2_220 mw_2_221 mw_1_7 mw_2_222 dc_X3_take ⟨Nat.le_of_ble_eq_true rfl, Nat.le_of_ble_eq_true rfl⟩ rfl rfl ⟨Nat.zero_le _, Nat.zero_le _⟩ (by simp only [List.append_assoc, List.nil_append, List.append_nil]) (by simp only [List.append_assoc, List.nil_append, List.append_nil]) hP (hD _ _ _ _ _) hS 0 rfl rfl rfl hl.1 (Nat.le_of_ble_eq_true rfl) dX0_observe_100 (fun H locs hP hS => ?_)
    refine lv_aload_n X.1 X.2.1 dX0_observe_103 rfl (lv_at hl 0 rfl) ?_
    refine r_get (C := RX0) (T := TX0) (N := 2) (ci := 0) (v := .ref (a1 0)) X iw0 hP 0 rfl rfl 1 rfl mw_2_67 rfl dX0_observe_104 ?_
    refine lv_iconst (v := 2) X.1 X.2.1 dX0_observe_107 (by decide) ?_
    refine lv_aload_n X.1 X.2.1 dX0_observe_108 rfl (lv_at hl 0 rfl) ?_
    refine r_get (C := RX0) (T := TX0) (N := 2) (ci := 0) (v := .ref (a2 0)) X iw0 hP 0 rfl rfl 0 rfl mw_2_66 rfl dX0_observe_109 ?_
    refine r_get (C := RX3) (T := TX3) (N := 5) (ci := 3) (v := .ref (a2 2)) X iw3 hP 2 rfl rfl 1 rfl mw_2_45 rfl dX0_observe_112 ?_
    refine lv_iload_n X.1 X.2.1 dX0_observe_115 rfl (lv_at hl 3 rfl) ?_
    obtain ⟨hg_15, h⟩ := gdi_el h
    refine r_iald X hP 4 0 rfl rfl hg_15 rfl dX0_observe_116 ?_
    obtain ⟨g1_16, eg1_16, h⟩ := nm_el h
    refine r_iast X hP (hD _ _ _ _ _) hS 1 0 rfl rfl (j := 2) (by unfold vp_in; decide) (by decide) dX0_observe_117 (wCk tc a0 g0 (a2 0) (a1 0) ++ (wFa tc a1 g1_16 ++ (wHd tc a2 g2_14 ++ (wSt tc a3 g3 none (a4 0) ++ (wLg tc a4 g4))))) (by rw [eg1_16]; rfl) (fun H locs hP hS => ?_)
    refine lv_aload_n X.1 X.2.1 dX0_observe_118 rfl (lv_at hl 0 rfl) ?_
    refine r_get (C := RX0) (T := TX0) (N := 2) (ci := 0) (v := .ref (a1 0)) X iw0 hP 0 rfl rfl 1 rfl mw_2_67 rfl dX0_observe_119 ?_
    refine lv_iconst (v := 3) X.1 X.2.1 dX0_observe_122 (by decide) ?_
    refine lv_aload_n X.1 X.2.1 dX0_observe_123 rfl (lv_at hl 1 rfl) ?_
    refine r_get (C := RX9) (T := TX9) (N := 20) (ci := 9) (v := .ref (a3 3)) X iw9 hP 7 rfl rfl 2 rfl mw_1_117 rfl dX0_observe_124 ?_
    refine lv_iload_n X.1 X.2.1 dX0_observe_127 rfl (lv_at hl 3 rfl) ?_
    obtain ⟨hg_17, h⟩ := gdi_el h
    refine r_iald X hP 9 0 rfl rfl hg_17 rfl dX0_observe_128 ?_
    obtain ⟨g1_18, eg1_18, h⟩ := nm_el h
    refine r_iast X hP (hD _ _ _ _ _) hS 1 0 rfl rfl (j := 3) (by unfold vp_in; decide) (by decide) dX0_observe_129 (wCk tc a0 g0 (a2 0) (a1 0) ++ (wFa tc a1 g1_18 ++ (wHd tc a2 g2_14 ++ (wSt tc a3 g3 none (a4 0) ++ (wLg tc a4 g4))))) (by rw [eg1_18]; rfl) (fun H locs hP hS => ?_)
    refine lv_aload_n X.1 X.2.1 dX0_observe_130 rfl (lv_at hl 0 rfl) ?_
    refine r_get (C := RX0) (T := TX0) (N := 2) (ci := 0) (v := .ref (a1 0)) X iw0 hP 0 rfl rfl 1 rfl mw_2_67 rfl dX0_observe_131 ?_
    refine lv_bipush (v := 7) X.1 X.2.1 dX0_observe_134 (by decide) ?_
    refine lv_aload_n X.1 X.2.1 dX0_observe_136 rfl (lv_at hl 0 rfl) ?_
    refine r_get (C := RX0) (T := TX0) (N := 2) (ci := 0) (v := .ref (a2 0)) X iw0 hP 0 rfl rfl 0 rfl mw_2_66 rfl dX0_observe_137 ?_
    refine r_get (C := RX3) (T := TX3) (N := 5) (ci := 3) (v := .ref (a2 2)) X iw3 hP 2 rfl rfl 1 rfl mw_2_45 rfl dX0_observe_140 ?_
    refine lv_iload_n X.1 X.2.1 dX0_observe_143 rfl (lv_at hl 3 rfl) ?_
    obtain ⟨hg_19, h⟩ := gdi_el h
    refine r_iald X hP 4 0 rfl rfl hg_19 rfl dX0_observe_144 ?_
    refine lv_aload_n X.1 X.2.1 dX0_observe_145 rfl (lv_at hl 1 rfl) ?_
    refine r_get (C := RX9) (T := TX9) (N := 20) (ci := 9) (v := .ref (a3 3)) X iw9 hP 7 rfl rfl 2 rfl mw_1_117 rfl dX0_observe_146 ?_
    refine lv_iload_n X.1 X.2.1 dX0_observe_149 rfl (lv_at hl 3 rfl) ?_
    obtain ⟨hg_20, h⟩ := gdi_el h
    refine r_iald X hP 9 0 rfl rfl hg_20 rfl dX0_observe_150 ?_
    obtain ⟨J159, eJ159, h⟩ := jn_el h
    have HJ159 : ∀ (s1_J159 : Int32) (s2_J159 : Int32) (H : Heap) (locs : List Loc) (ls : Array Slot), J159 s1_J159 s2_J159 = some (G1, G2) → va_P (dC, dI) vwCl (wCk tc a0 g0 (a2 0) (a1 0) ++ (wFa tc a1 g1_18 ++ (wHd tc a2 g2_14 ++ (wSt tc a3 g3 none (a4 0) ++ (wLg tc a4 g4))))) H → va_S A s.heap H locs → lv_has ls 4 [(0, .ref (a0 0)), (3, .int x3)] → W pr l e rm_X0_observe_n s m args below meth c H locs 0 0 Q (F0 m 159 ls [.int s2_J159, .int s1_J159, .ref (a1 0)]) := by
      intro s1_J159 s2_J159 H locs ls h hP hS hl
      rw [eJ159] at h
      obtain ⟨hg_21, h⟩ := gdi_el h
      obtain ⟨g1_22, eg1_22, h⟩ := nm_el h
      refine r_iast X hP (hD _ _ _ _ _) hS 1 0 rfl rfl hg_21 rfl dX0_observe_159 (wCk tc a0 g0 (a2 0) (a1 0) ++ (wFa tc a1 g1_22 ++ (wHd tc a2 g2_14 ++ (wSt tc a3 g3 none (a4 0) ++ (wLg tc a4 g4))))) (by rw [eg1_22]; rfl) (fun H locs hP hS => ?_)
      refine lv_aload_n X.1 X.2.1 dX0_observe_160 rfl (lv_at hl 0 rfl) ?_
      refine r_get (C := RX0) (T := TX0) (N := 2) (ci := 0) (v := .ref (a1 0)) X iw0 hP 0 rfl rfl 1 rfl mw_2_67 rfl dX0_observe_161 ?_
      refine lv_bipush (v := 8) X.1 X.2.1 dX0_observe_164 (by decide) ?_
      refine lv_aload_n X.1 X.2.1 dX0_observe_166 rfl (lv_at hl 0 rfl) ?_
      refine r_get (C := RX0) (T := TX0) (N := 2) (ci := 0) (v := .ref (a2 0)) X iw0 hP 0 rfl rfl 0 rfl mw_2_66 rfl dX0_observe_167 ?_
      refine lv_iload_n X.1 X.2.1 dX0_observe_170 rfl (lv_at hl 1 rfl) ?_
      obtain ⟨r_23, hc_23, h⟩ := bd_el h
      refine call_Vsi (ws := (wCk tc a0 g0 (a2 0) (a1 0) ++ (wFa tc a1 g1_22 ++ (wHd tc a2 g2_14 ++ (wSt tc a3 g3 none (a4 0) ++ (wLg tc a4 g4)))))) (ws' := (wCk tc a0 g0 (a2 0) (a1 0) ++ (wFa tc a1 g1_22 ++ (wHd tc a2 g2_14 ++ (wSt tc a3 g3 none (a4 0) ++ (wLg tc a4 g4)))))) (wCk tc a0 g0 (a2 0) (a1 0) ++ (wFa tc a1 g1_22)) (wSt tc a3 g3 none (a4 0) ++ (wLg tc a4 g4)) (As := [.int x3]) (rest := [.int 8, .ref (a1 0)]) X (c_X3_alikeTo l dC dI sk sv tc a2 g2_14 x3 hc_23) mw_5_158 mw_2_228 mw_2_229 mw_1_7 mw_2_230 dc_X3_alikeTo ⟨Nat.le_of_ble_eq_true rfl, Nat.le_of_ble_eq_true rfl⟩ rfl rfl ⟨Nat.zero_le _, Nat.zero_le _⟩ (by simp only [List.append_assoc, List.nil_append, List.append_nil]) (by simp only [List.append_assoc, List.nil_append, List.append_nil]) hP (hD _ _ _ _ _) hS 0 rfl rfl rfl hl.1 (Nat.le_of_ble_eq_true rfl) dX0_observe_171 (fun H locs hP hS => ?_)
      refine lv_iconst (v := 1) X.1 X.2.1 dX0_observe_174 (by decide) ?_
      refine lv_iload_n X.1 X.2.1 dX0_observe_175 rfl (lv_at hl 1 rfl) ?_
      refine lv_ishl X.1 X.2.1 dX0_observe_176 ?_
      obtain ⟨J185, eJ185, h⟩ := jn_el h
      have HJ185 : ∀ (s1_J185 : Int32) (s2_J185 : Int32) (H : Heap) (locs : List Loc) (ls : Array Slot), J185 s1_J185 s2_J185 = some (G1, G2) → va_P (dC, dI) vwCl (wCk tc a0 g0 (a2 0) (a1 0) ++ (wFa tc a1 g1_22 ++ (wHd tc a2 g2_14 ++ (wSt tc a3 g3 none (a4 0) ++ (wLg tc a4 g4))))) H → va_S A s.heap H locs → lv_has ls 4 [] → W pr l e rm_X0_observe_n s m args below meth c H locs 0 0 Q (F0 m 185 ls [.int s2_J185, .int s1_J185, .ref (a1 0)]) := by
        intro s1_J185 s2_J185 H locs ls h hP hS hl
        rw [eJ185] at h
        obtain ⟨hg_24, h⟩ := gdi_el h
        obtain ⟨g1_25, eg1_25, h⟩ := nm_el h
        refine r_iast X hP (hD _ _ _ _ _) hS 1 0 rfl rfl hg_24 rfl dX0_observe_185 (wCk tc a0 g0 (a2 0) (a1 0) ++ (wFa tc a1 g1_25 ++ (wHd tc a2 g2_14 ++ (wSt tc a3 g3 none (a4 0) ++ (wLg tc a4 g4))))) (by rw [eg1_25]; rfl) (fun H locs hP hS => ?_)
        exact HJ186 g1_25 g2_14 H locs ls h hP hS (lv_sub hl [] rfl)
      refine lv_icmp_ne (tgt := 184) X.1 X.2.1 dX0_observe_177 (by decide) (fun hc => ?_) (fun hc => ?_)
      · have h := it_f hc h
        refine lv_iconst (v := 0) X.1 X.2.1 dX0_observe_184 (by decide) ?_
        exact HJ185 8 0 H locs ls h hP hS (lv_sub hl [] rfl)
      · have h := it_t hc h
        refine lv_iconst (v := 1) X.1 X.2.1 dX0_observe_180 (by decide) ?_
        refine lv_goto (tgt := 185) X.1 X.2.1 dX0_observe_181 (by decide) ?_
        exact HJ185 8 1 H locs ls h hP hS (lv_sub hl [] rfl)
    refine lv_icmp_ne (tgt := 158) X.1 X.2.1 dX0_observe_151 (by decide) (fun hc => ?_) (fun hc => ?_)
    · have h := it_f hc h
      refine lv_iconst (v := 0) X.1 X.2.1 dX0_observe_158 (by decide) ?_
      exact HJ159 7 0 H locs ls h hP hS (lv_sub hl [0, 3] rfl)
    · have h := it_t hc h
      refine lv_iconst (v := 1) X.1 X.2.1 dX0_observe_154 (by decide) ?_
      refine lv_goto (tgt := 159) X.1 X.2.1 dX0_observe_155 (by decide) ?_
      exact HJ159 7 1 H locs ls h hP hS (lv_sub hl [0, 3] rfl)

def f_X0_observe_l (ln1 : Nat → Nat) (g0 : Pic) (g1 : Pic) (g2 : Pic) (g3 : Pic) (g4 : Pic) (g5 : Pic) (x2 : Int32) (x3 : Int32) : Option (Pic × Pic) := nm (pu g2 0 0 x2) (fun g2_1 => nm (pu g2_1 0 1 x3) (fun g2_2 => nm (pu g2_2 0 2 0) (fun g2_3 => nm (pu g2_3 0 3 0) (fun g2_4 => gdi x2 5 (nm (pu g2_4 0 4 (g4 9 (x2.toNatClampNeg))) (fun g2_6 => gdi x2 5 (nm (pu g2_6 0 5 (g4 10 (x2.toNatClampNeg))) (fun g2_8 => gdi x2 5 (nm (pu g2_8 0 6 (g4 11 (x2.toNatClampNeg))) (fun g2_10 => nm (pu g2_10 0 7 0) (fun g2_11 => nm (pu g2_11 0 8 0) (fun g2_12 => jn (fun (g2_J186 : Pic) (g3_J186 : Pic) => some (g2_J186, g3_J186)) (fun J186 => (if (g4 0 0) ≤ x3 then J186 g2_12 g3 else gdi x2 5 (bd (f_X3_take g3 g4 (g4 8 (x2.toNatClampNeg))) (fun g3_14 => gdi x3 8 (nm (pu g2_12 0 2 (g3_14 1 (x3.toNatClampNeg))) (fun g2_16 => gdi x3 8 (nm (pu g2_16 0 3 (g4 2 (x3.toNatClampNeg))) (fun g2_18 => gdi x3 8 (gdi x3 8 (jn (fun (s1_J159 : Int32) (s2_J159 : Int32) => gdi s1_J159 9 (nm (pu g2_18 0 (s1_J159.toNatClampNeg) s2_J159) (fun g2_22 => bd (f_X3_alikeTo g3_14 x3) (fun r_23 => jn (fun (s1_J185 : Int32) (s2_J185 : Int32) => gdi s1_J185 9 (nm (pu g2_22 0 (s1_J185.toNatClampNeg) s2_J185) (fun g2_25 => J186 g2_25 g3_14))) (fun J185 => (if r_23 = ((1 : Int32) <<< (x3 &&& 31)) then J185 8 1 else J185 8 0)))))) (fun J159 => (if (g3_14 1 (x3.toNatClampNeg)) = (g4 2 (x3.toNatClampNeg)) then J159 7 1 else J159 7 0))))))))))))))))))))))))
abbrev rm_X0_observe_l : Room := { frames := 1, cells := 0, slots := 0, locals := 27 }
set_option maxHeartbeats 4000000 in
set_option maxRecDepth 100000 in
theorem c_X0_observe_l (l : Launch) (dC : Nat → ClassId) (dI : Nat → Nat → Nat) (sk sv : Nat → Nat) (tc : Nat → ClassId) (ln1 : Nat → Nat) (a0 : Nat → Nat) (a1 : Nat → Nat) (a2 : Nat → Nat) (a3 : Nat → Nat) (a4 : Nat → Nat) (a5 : Nat → Nat) (g0 : Pic) (g1 : Pic) (g2 : Pic) (g3 : Pic) (g4 : Pic) (g5 : Pic) (x2 : Int32) (x3 : Int32) {G2 : Pic} {G3 : Pic} (h : f_X0_observe_l ln1 g0 g1 g2 g3 g4 g5 x2 x3 = some (G2, G3)) : CT l (dC, dI) sk sv (TY tc) yX0_observe cX0_observe 4 none rm_X0_observe_l [.ref (a0 0), .ref (a4 0), .int x2, .int x3] (wCk tc a0 g0 (a3 0) (a2 0) ++ (wLw tc a1 g1 ln1 ++ (wFa tc a2 g2 ++ (wHd tc a3 g3 ++ (wSt tc a4 g4 (some (a1 0)) (a5 0) ++ (wLg tc a5 g5)))))) none (wCk tc a0 g0 (a3 0) (a2 0) ++ (wLw tc a1 g1 ln1 ++ (wFa tc a2 G2 ++ (wHd tc a3 G3 ++ (wSt tc a4 g4 (some (a1 0)) (a5 0) ++ (wLg tc a5 g5)))))) := by
  refine ofCT (by decide) (Nat.le_of_ble_eq_true rfl) ?_
  intro pr e s m args below meth c A Q ls H locs X hQ hD0 hP hS hl
  have hD : ∀ z0 z1 z2 z3 z4 z5, va_D A (wCk tc a0 z0 (a3 0) (a2 0) ++ (wLw tc a1 z1 ln1 ++ (wFa tc a2 z2 ++ (wHd tc a3 z3 ++ (wSt tc a4 z4 (some (a1 0)) (a5 0) ++ (wLg tc a5 z5)))))) := fun z0 z1 z2 z3 z4 z5 => D_fst (ws := (wCk tc a0 g0 (a3 0) (a2 0) ++ (wLw tc a1 g1 ln1 ++ (wFa tc a2 g2 ++ (wHd tc a3 g3 ++ (wSt tc a4 g4 (some (a1 0)) (a5 0) ++ (wLg tc a5 g5))))))) rfl hD0
  have hl : lv_has ls 4 [(0, .ref (a0 0)), (1, .ref (a4 0)), (2, .int x2), (3, .int x3)] := hl
  unfold f_X0_observe_l at h
  refine lv_aload_n X.1 X.2.1 dX0_observe_0 rfl (lv_at hl 0 rfl) ?_
  refine r_get (C := RX0) (T := TX0) (N := 2) (ci := 0) (v := .ref (a2 0)) X iw0 hP 0 rfl rfl 1 rfl mw_2_67 rfl dX0_observe_1 ?_
  refine lv_iconst (v := 0) X.1 X.2.1 dX0_observe_4 (by decide) ?_
  refine lv_iload_n X.1 X.2.1 dX0_observe_5 rfl (lv_at hl 2 rfl) ?_
  obtain ⟨g2_1, eg2_1, h⟩ := nm_el h
  refine r_iast X hP (hD _ _ _ _ _ _) hS 7 0 rfl rfl (j := 0) (by unfold vp_in; decide) (by decide) dX0_observe_6 (wCk tc a0 g0 (a3 0) (a2 0) ++ (wLw tc a1 g1 ln1 ++ (wFa tc a2 g2_1 ++ (wHd tc a3 g3 ++ (wSt tc a4 g4 (some (a1 0)) (a5 0) ++ (wLg tc a5 g5)))))) (by rw [eg2_1]; rfl) (fun H locs hP hS => ?_)
  refine lv_aload_n X.1 X.2.1 dX0_observe_7 rfl (lv_at hl 0 rfl) ?_
  refine r_get (C := RX0) (T := TX0) (N := 2) (ci := 0) (v := .ref (a2 0)) X iw0 hP 0 rfl rfl 1 rfl mw_2_67 rfl dX0_observe_8 ?_
  refine lv_iconst (v := 1) X.1 X.2.1 dX0_observe_11 (by decide) ?_
  refine lv_iload_n X.1 X.2.1 dX0_observe_12 rfl (lv_at hl 3 rfl) ?_
  obtain ⟨g2_2, eg2_2, h⟩ := nm_el h
  refine r_iast X hP (hD _ _ _ _ _ _) hS 7 0 rfl rfl (j := 1) (by unfold vp_in; decide) (by decide) dX0_observe_13 (wCk tc a0 g0 (a3 0) (a2 0) ++ (wLw tc a1 g1 ln1 ++ (wFa tc a2 g2_2 ++ (wHd tc a3 g3 ++ (wSt tc a4 g4 (some (a1 0)) (a5 0) ++ (wLg tc a5 g5)))))) (by rw [eg2_2]; rfl) (fun H locs hP hS => ?_)
  refine lv_aload_n X.1 X.2.1 dX0_observe_14 rfl (lv_at hl 0 rfl) ?_
  refine r_get (C := RX0) (T := TX0) (N := 2) (ci := 0) (v := .ref (a2 0)) X iw0 hP 0 rfl rfl 1 rfl mw_2_67 rfl dX0_observe_15 ?_
  refine lv_iconst (v := 2) X.1 X.2.1 dX0_observe_18 (by decide) ?_
  refine lv_iconst (v := 0) X.1 X.2.1 dX0_observe_19 (by decide) ?_
  obtain ⟨g2_3, eg2_3, h⟩ := nm_el h
  refine r_iast X hP (hD _ _ _ _ _ _) hS 7 0 rfl rfl (j := 2) (by unfold vp_in; decide) (by decide) dX0_observe_20 (wCk tc a0 g0 (a3 0) (a2 0) ++ (wLw tc a1 g1 ln1 ++ (wFa tc a2 g2_3 ++ (wHd tc a3 g3 ++ (wSt tc a4 g4 (some (a1 0)) (a5 0) ++ (wLg tc a5 g5)))))) (by rw [eg2_3]; rfl) (fun H locs hP hS => ?_)
  refine lv_aload_n X.1 X.2.1 dX0_observe_21 rfl (lv_at hl 0 rfl) ?_
  refine r_get (C := RX0) (T := TX0) (N := 2) (ci := 0) (v := .ref (a2 0)) X iw0 hP 0 rfl rfl 1 rfl mw_2_67 rfl dX0_observe_22 ?_
  refine lv_iconst (v := 3) X.1 X.2.1 dX0_observe_25 (by decide) ?_
  refine lv_iconst (v := 0) X.1 X.2.1 dX0_observe_26 (by decide) ?_
  obtain ⟨g2_4, eg2_4, h⟩ := nm_el h
  refine r_iast X hP (hD _ _ _ _ _ _) hS 7 0 rfl rfl (j := 3) (by unfold vp_in; decide) (by decide) dX0_observe_27 (wCk tc a0 g0 (a3 0) (a2 0) ++ (wLw tc a1 g1 ln1 ++ (wFa tc a2 g2_4 ++ (wHd tc a3 g3 ++ (wSt tc a4 g4 (some (a1 0)) (a5 0) ++ (wLg tc a5 g5)))))) (by rw [eg2_4]; rfl) (fun H locs hP hS => ?_)
  refine lv_aload_n X.1 X.2.1 dX0_observe_28 rfl (lv_at hl 0 rfl) ?_
  refine r_get (C := RX0) (T := TX0) (N := 2) (ci := 0) (v := .ref (a2 0)) X iw0 hP 0 rfl rfl 1 rfl mw_2_67 rfl dX0_observe_29 ?_
  refine lv_iconst (v := 4) X.1 X.2.1 dX0_observe_32 (by decide) ?_
  refine lv_aload_n X.1 X.2.1 dX0_observe_33 rfl (lv_at hl 1 rfl) ?_
  refine r_get (C := RX9) (T := TX9) (N := 20) (ci := 9) (v := .ref (a4 10)) X iw9 hP 13 rfl rfl 9 rfl mw_1_156 rfl dX0_observe_34 ?_
  refine lv_iload_n X.1 X.2.1 dX0_observe_37 rfl (lv_at hl 2 rfl) ?_
  obtain ⟨hg_5, h⟩ := gdi_el h
  refine r_iald X hP 19 0 rfl rfl hg_5 rfl dX0_observe_38 ?_
  obtain ⟨g2_6, eg2_6, h⟩ := nm_el h
  refine r_iast X hP (hD _ _ _ _ _ _) hS 7 0 rfl rfl (j := 4) (by unfold vp_in; decide) (by decide) dX0_observe_39 (wCk tc a0 g0 (a3 0) (a2 0) ++ (wLw tc a1 g1 ln1 ++ (wFa tc a2 g2_6 ++ (wHd tc a3 g3 ++ (wSt tc a4 g4 (some (a1 0)) (a5 0) ++ (wLg tc a5 g5)))))) (by rw [eg2_6]; rfl) (fun H locs hP hS => ?_)
  refine lv_aload_n X.1 X.2.1 dX0_observe_40 rfl (lv_at hl 0 rfl) ?_
  refine r_get (C := RX0) (T := TX0) (N := 2) (ci := 0) (v := .ref (a2 0)) X iw0 hP 0 rfl rfl 1 rfl mw_2_67 rfl dX0_observe_41 ?_
  refine lv_iconst (v := 5) X.1 X.2.1 dX0_observe_44 (by decide) ?_
  refine lv_aload_n X.1 X.2.1 dX0_observe_45 rfl (lv_at hl 1 rfl) ?_
  refine r_get (C := RX9) (T := TX9) (N := 20) (ci := 9) (v := .ref (a4 11)) X iw9 hP 13 rfl rfl 10 rfl mw_1_160 rfl dX0_observe_46 ?_
  refine lv_iload_n X.1 X.2.1 dX0_observe_49 rfl (lv_at hl 2 rfl) ?_
  obtain ⟨hg_7, h⟩ := gdi_el h
  refine r_iald X hP 20 0 rfl rfl hg_7 rfl dX0_observe_50 ?_
  obtain ⟨g2_8, eg2_8, h⟩ := nm_el h
  refine r_iast X hP (hD _ _ _ _ _ _) hS 7 0 rfl rfl (j := 5) (by unfold vp_in; decide) (by decide) dX0_observe_51 (wCk tc a0 g0 (a3 0) (a2 0) ++ (wLw tc a1 g1 ln1 ++ (wFa tc a2 g2_8 ++ (wHd tc a3 g3 ++ (wSt tc a4 g4 (some (a1 0)) (a5 0) ++ (wLg tc a5 g5)))))) (by rw [eg2_8]; rfl) (fun H locs hP hS => ?_)
  refine lv_aload_n X.1 X.2.1 dX0_observe_52 rfl (lv_at hl 0 rfl) ?_
  refine r_get (C := RX0) (T := TX0) (N := 2) (ci := 0) (v := .ref (a2 0)) X iw0 hP 0 rfl rfl 1 rfl mw_2_67 rfl dX0_observe_53 ?_
  refine lv_bipush (v := 6) X.1 X.2.1 dX0_observe_56 (by decide) ?_
  refine lv_aload_n X.1 X.2.1 dX0_observe_58 rfl (lv_at hl 1 rfl) ?_
  refine r_get (C := RX9) (T := TX9) (N := 20) (ci := 9) (v := .ref (a4 12)) X iw9 hP 13 rfl rfl 11 rfl mw_1_164 rfl dX0_observe_59 ?_
  refine lv_iload_n X.1 X.2.1 dX0_observe_62 rfl (lv_at hl 2 rfl) ?_
  obtain ⟨hg_9, h⟩ := gdi_el h
  refine r_iald X hP 21 0 rfl rfl hg_9 rfl dX0_observe_63 ?_
  obtain ⟨g2_10, eg2_10, h⟩ := nm_el h
  refine r_iast X hP (hD _ _ _ _ _ _) hS 7 0 rfl rfl (j := 6) (by unfold vp_in; decide) (by decide) dX0_observe_64 (wCk tc a0 g0 (a3 0) (a2 0) ++ (wLw tc a1 g1 ln1 ++ (wFa tc a2 g2_10 ++ (wHd tc a3 g3 ++ (wSt tc a4 g4 (some (a1 0)) (a5 0) ++ (wLg tc a5 g5)))))) (by rw [eg2_10]; rfl) (fun H locs hP hS => ?_)
  refine lv_aload_n X.1 X.2.1 dX0_observe_65 rfl (lv_at hl 0 rfl) ?_
  refine r_get (C := RX0) (T := TX0) (N := 2) (ci := 0) (v := .ref (a2 0)) X iw0 hP 0 rfl rfl 1 rfl mw_2_67 rfl dX0_observe_66 ?_
  refine lv_bipush (v := 7) X.1 X.2.1 dX0_observe_69 (by decide) ?_
  refine lv_iconst (v := 0) X.1 X.2.1 dX0_observe_71 (by decide) ?_
  obtain ⟨g2_11, eg2_11, h⟩ := nm_el h
  refine r_iast X hP (hD _ _ _ _ _ _) hS 7 0 rfl rfl (j := 7) (by unfold vp_in; decide) (by decide) dX0_observe_72 (wCk tc a0 g0 (a3 0) (a2 0) ++ (wLw tc a1 g1 ln1 ++ (wFa tc a2 g2_11 ++ (wHd tc a3 g3 ++ (wSt tc a4 g4 (some (a1 0)) (a5 0) ++ (wLg tc a5 g5)))))) (by rw [eg2_11]; rfl) (fun H locs hP hS => ?_)
  refine lv_aload_n X.1 X.2.1 dX0_observe_73 rfl (lv_at hl 0 rfl) ?_
  refine r_get (C := RX0) (T := TX0) (N := 2) (ci := 0) (v := .ref (a2 0)) X iw0 hP 0 rfl rfl 1 rfl mw_2_67 rfl dX0_observe_74 ?_
  refine lv_bipush (v := 8) X.1 X.2.1 dX0_observe_77 (by decide) ?_
  refine lv_iconst (v := 0) X.1 X.2.1 dX0_observe_79 (by decide) ?_
  obtain ⟨g2_12, eg2_12, h⟩ := nm_el h
  refine r_iast X hP (hD _ _ _ _ _ _) hS 7 0 rfl rfl (j := 8) (by unfold vp_in; decide) (by decide) dX0_observe_80 (wCk tc a0 g0 (a3 0) (a2 0) ++ (wLw tc a1 g1 ln1 ++ (wFa tc a2 g2_12 ++ (wHd tc a3 g3 ++ (wSt tc a4 g4 (some (a1 0)) (a5 0) ++ (wLg tc a5 g5)))))) (by rw [eg2_12]; rfl) (fun H locs hP hS => ?_)
  refine lv_iload_n X.1 X.2.1 dX0_observe_81 rfl (lv_at hl 3 rfl) ?_
  refine lv_aload_n X.1 X.2.1 dX0_observe_82 rfl (lv_at hl 1 rfl) ?_
  refine r_get (C := RX9) (T := TX9) (N := 20) (ci := 9) (v := .int (g4 0 0)) X iw9 hP 13 rfl rfl 0 rfl mw_1_107 rfl dX0_observe_83 ?_
  obtain ⟨J186, eJ186, h⟩ := jn_el h
  have HJ186 : ∀ (g2_J186 : Pic) (g3_J186 : Pic) (H : Heap) (locs : List Loc) (ls : Array Slot), J186 g2_J186 g3_J186 = some (G2, G3) → va_P (dC, dI) vwCl (wCk tc a0 g0 (a3 0) (a2 0) ++ (wLw tc a1 g1 ln1 ++ (wFa tc a2 g2_J186 ++ (wHd tc a3 g3_J186 ++ (wSt tc a4 g4 (some (a1 0)) (a5 0) ++ (wLg tc a5 g5)))))) H → va_S A s.heap H locs → lv_has ls 4 [] → W pr l e rm_X0_observe_l s m args below meth c H locs 0 0 Q (F0 m 186 ls []) := by
    intro g2_J186 g3_J186 H locs ls h hP hS hl
    rw [eJ186] at h
    exact ret_v (fun u => (wCk tc a0 g0 (a3 0) (a2 0) ++ (wLw tc a1 g1 ln1 ++ (wFa tc a2 u.1 ++ (wHd tc a3 u.2 ++ (wSt tc a4 g4 (some (a1 0)) (a5 0) ++ (wLg tc a5 g5))))))) (res := (G2, G3)) (Option.some.inj h) X hQ hP hS dX0_observe_186
  refine lv_icmp_ge (tgt := 186) X.1 X.2.1 dX0_observe_86 (by decide) (fun hc => ?_) (fun hc => ?_)
  · have h := it_t hc h
    exact HJ186 g2_12 g3 H locs ls h hP hS (lv_sub hl [] rfl)
  · have h := it_f hc h
    refine lv_aload_n X.1 X.2.1 dX0_observe_89 rfl (lv_at hl 0 rfl) ?_
    refine r_get (C := RX0) (T := TX0) (N := 2) (ci := 0) (v := .ref (a3 0)) X iw0 hP 0 rfl rfl 0 rfl mw_2_66 rfl dX0_observe_90 ?_
    refine lv_aload_n X.1 X.2.1 dX0_observe_93 rfl (lv_at hl 1 rfl) ?_
    refine lv_aload_n X.1 X.2.1 dX0_observe_94 rfl (lv_at hl 1 rfl) ?_
    refine r_get (C := RX9) (T := TX9) (N := 20) (ci := 9) (v := .ref (a4 9)) X iw9 hP 13 rfl rfl 8 rfl mw_1_150 rfl dX0_observe_95 ?_
    refine lv_iload_n X.1 X.2.1 dX0_observe_98 rfl (lv_at hl 2 rfl) ?_
    obtain ⟨hg_13, h⟩ := gdi_el h
    refine r_iald X hP 18 0 rfl rfl hg_13 rfl dX0_observe_99 ?_
    obtain ⟨g3_14, hc_14, h⟩ := bd_el h
    refine call_Vsv (ws := (wCk tc a0 g0 (a3 0) (a2 0) ++ (wLw tc a1 g1 ln1 ++ (wFa tc a2 g2_12 ++ (wHd tc a3 g3 ++ (wSt tc a4 g4 (some (a1 0)) (a5 0) ++ (wLg tc a5 g5))))))) (ws' := (wCk tc a0 g0 (a3 0) (a2 0) ++ (wLw tc a1 g1 ln1 ++ (wFa tc a2 g2_12 ++ (wHd tc a3 g3_14 ++ (wSt tc a4 g4 (some (a1 0)) (a5 0) ++ (wLg tc a5 g5))))))) (wCk tc a0 g0 (a3 0) (a2 0) ++ (wLw tc a1 g1 ln1 ++ (wFa tc a2 g2_12))) (wLg tc a5 g5) (As := [.ref (a4 0), .int (g4 8 (x2.toNatClampNeg))]) (rest := []) X (c_X3_take l dC dI sk sv tc a3 a4 (some (a1 0)) (a5 0) g3 g4 (g4 8 (x2.toNatClampNeg)) hc_14) mw_5_157 mw_2_220 mw_2_221 mw_1_7 mw_2_222 dc_X3_take ⟨Nat.le_of_ble_eq_true rfl, Nat.le_of_ble_eq_true rfl⟩ rfl rfl ⟨Nat.zero_le _, Nat.zero_le _⟩ (by simp only [List.append_assoc, List.nil_append, List.append_nil]) (by simp only [List.append_assoc, List.nil_append, List.append_nil]) hP (hD _ _ _ _ _ _) hS 0 rfl rfl rfl hl.1 (Nat.le_of_ble_eq_true rfl) dX0_observe_100 (fun H locs hP hS => ?_)
    refine lv_aload_n X.1 X.2.1 dX0_observe_103 rfl (lv_at hl 0 rfl) ?_
    refine r_get (C := RX0) (T := TX0) (N := 2) (ci := 0) (v := .ref (a2 0)) X iw0 hP 0 rfl rfl 1 rfl mw_2_67 rfl dX0_observe_104 ?_
    refine lv_iconst (v := 2) X.1 X.2.1 dX0_observe_107 (by decide) ?_
    refine lv_aload_n X.1 X.2.1 dX0_observe_108 rfl (lv_at hl 0 rfl) ?_
    refine r_get (C := RX0) (T := TX0) (N := 2) (ci := 0) (v := .ref (a3 0)) X iw0 hP 0 rfl rfl 0 rfl mw_2_66 rfl dX0_observe_109 ?_
    refine r_get (C := RX3) (T := TX3) (N := 5) (ci := 3) (v := .ref (a3 2)) X iw3 hP 8 rfl rfl 1 rfl mw_2_45 rfl dX0_observe_112 ?_
    refine lv_iload_n X.1 X.2.1 dX0_observe_115 rfl (lv_at hl 3 rfl) ?_
    obtain ⟨hg_15, h⟩ := gdi_el h
    refine r_iald X hP 10 0 rfl rfl hg_15 rfl dX0_observe_116 ?_
    obtain ⟨g2_16, eg2_16, h⟩ := nm_el h
    refine r_iast X hP (hD _ _ _ _ _ _) hS 7 0 rfl rfl (j := 2) (by unfold vp_in; decide) (by decide) dX0_observe_117 (wCk tc a0 g0 (a3 0) (a2 0) ++ (wLw tc a1 g1 ln1 ++ (wFa tc a2 g2_16 ++ (wHd tc a3 g3_14 ++ (wSt tc a4 g4 (some (a1 0)) (a5 0) ++ (wLg tc a5 g5)))))) (by rw [eg2_16]; rfl) (fun H locs hP hS => ?_)
    refine lv_aload_n X.1 X.2.1 dX0_observe_118 rfl (lv_at hl 0 rfl) ?_
    refine r_get (C := RX0) (T := TX0) (N := 2) (ci := 0) (v := .ref (a2 0)) X iw0 hP 0 rfl rfl 1 rfl mw_2_67 rfl dX0_observe_119 ?_
    refine lv_iconst (v := 3) X.1 X.2.1 dX0_observe_122 (by decide) ?_
    refine lv_aload_n X.1 X.2.1 dX0_observe_123 rfl (lv_at hl 1 rfl) ?_
    refine r_get (C := RX9) (T := TX9) (N := 20) (ci := 9) (v := .ref (a4 3)) X iw9 hP 13 rfl rfl 2 rfl mw_1_117 rfl dX0_observe_124 ?_
    refine lv_iload_n X.1 X.2.1 dX0_observe_127 rfl (lv_at hl 3 rfl) ?_
    obtain ⟨hg_17, h⟩ := gdi_el h
    refine r_iald X hP 15 0 rfl rfl hg_17 rfl dX0_observe_128 ?_
    obtain ⟨g2_18, eg2_18, h⟩ := nm_el h
    refine r_iast X hP (hD _ _ _ _ _ _) hS 7 0 rfl rfl (j := 3) (by unfold vp_in; decide) (by decide) dX0_observe_129 (wCk tc a0 g0 (a3 0) (a2 0) ++ (wLw tc a1 g1 ln1 ++ (wFa tc a2 g2_18 ++ (wHd tc a3 g3_14 ++ (wSt tc a4 g4 (some (a1 0)) (a5 0) ++ (wLg tc a5 g5)))))) (by rw [eg2_18]; rfl) (fun H locs hP hS => ?_)
    refine lv_aload_n X.1 X.2.1 dX0_observe_130 rfl (lv_at hl 0 rfl) ?_
    refine r_get (C := RX0) (T := TX0) (N := 2) (ci := 0) (v := .ref (a2 0)) X iw0 hP 0 rfl rfl 1 rfl mw_2_67 rfl dX0_observe_131 ?_
    refine lv_bipush (v := 7) X.1 X.2.1 dX0_observe_134 (by decide) ?_
    refine lv_aload_n X.1 X.2.1 dX0_observe_136 rfl (lv_at hl 0 rfl) ?_
    refine r_get (C := RX0) (T := TX0) (N := 2) (ci := 0) (v := .ref (a3 0)) X iw0 hP 0 rfl rfl 0 rfl mw_2_66 rfl dX0_observe_137 ?_
    refine r_get (C := RX3) (T := TX3) (N := 5) (ci := 3) (v := .ref (a3 2)) X iw3 hP 8 rfl rfl 1 rfl mw_2_45 rfl dX0_observe_140 ?_
    refine lv_iload_n X.1 X.2.1 dX0_observe_143 rfl (lv_at hl 3 rfl) ?_
    obtain ⟨hg_19, h⟩ := gdi_el h
    refine r_iald X hP 10 0 rfl rfl hg_19 rfl dX0_observe_144 ?_
    refine lv_aload_n X.1 X.2.1 dX0_observe_145 rfl (lv_at hl 1 rfl) ?_
    refine r_get (C := RX9) (T := TX9) (N := 20) (ci := 9) (v := .ref (a4 3)) X iw9 hP 13 rfl rfl 2 rfl mw_1_117 rfl dX0_observe_146 ?_
    refine lv_iload_n X.1 X.2.1 dX0_observe_149 rfl (lv_at hl 3 rfl) ?_
    obtain ⟨hg_20, h⟩ := gdi_el h
    refine r_iald X hP 15 0 rfl rfl hg_20 rfl dX0_observe_150 ?_
    obtain ⟨J159, eJ159, h⟩ := jn_el h
    have HJ159 : ∀ (s1_J159 : Int32) (s2_J159 : Int32) (H : Heap) (locs : List Loc) (ls : Array Slot), J159 s1_J159 s2_J159 = some (G2, G3) → va_P (dC, dI) vwCl (wCk tc a0 g0 (a3 0) (a2 0) ++ (wLw tc a1 g1 ln1 ++ (wFa tc a2 g2_18 ++ (wHd tc a3 g3_14 ++ (wSt tc a4 g4 (some (a1 0)) (a5 0) ++ (wLg tc a5 g5)))))) H → va_S A s.heap H locs → lv_has ls 4 [(0, .ref (a0 0)), (3, .int x3)] → W pr l e rm_X0_observe_l s m args below meth c H locs 0 0 Q (F0 m 159 ls [.int s2_J159, .int s1_J159, .ref (a2 0)]) := by
      intro s1_J159 s2_J159 H locs ls h hP hS hl
      rw [eJ159] at h
      obtain ⟨hg_21, h⟩ := gdi_el h
      obtain ⟨g2_22, eg2_22, h⟩ := nm_el h
      refine r_iast X hP (hD _ _ _ _ _ _) hS 7 0 rfl rfl hg_21 rfl dX0_observe_159 (wCk tc a0 g0 (a3 0) (a2 0) ++ (wLw tc a1 g1 ln1 ++ (wFa tc a2 g2_22 ++ (wHd tc a3 g3_14 ++ (wSt tc a4 g4 (some (a1 0)) (a5 0) ++ (wLg tc a5 g5)))))) (by rw [eg2_22]; rfl) (fun H locs hP hS => ?_)
      refine lv_aload_n X.1 X.2.1 dX0_observe_160 rfl (lv_at hl 0 rfl) ?_
      refine r_get (C := RX0) (T := TX0) (N := 2) (ci := 0) (v := .ref (a2 0)) X iw0 hP 0 rfl rfl 1 rfl mw_2_67 rfl dX0_observe_161 ?_
      refine lv_bipush (v := 8) X.1 X.2.1 dX0_observe_164 (by decide) ?_
      refine lv_aload_n X.1 X.2.1 dX0_observe_166 rfl (lv_at hl 0 rfl) ?_
      refine r_get (C := RX0) (T := TX0) (N := 2) (ci := 0) (v := .ref (a3 0)) X iw0 hP 0 rfl rfl 0 rfl mw_2_66 rfl dX0_observe_167 ?_
      refine lv_iload_n X.1 X.2.1 dX0_observe_170 rfl (lv_at hl 1 rfl) ?_
      obtain ⟨r_23, hc_23, h⟩ := bd_el h
      refine call_Vsi (ws := (wCk tc a0 g0 (a3 0) (a2 0) ++ (wLw tc a1 g1 ln1 ++ (wFa tc a2 g2_22 ++ (wHd tc a3 g3_14 ++ (wSt tc a4 g4 (some (a1 0)) (a5 0) ++ (wLg tc a5 g5))))))) (ws' := (wCk tc a0 g0 (a3 0) (a2 0) ++ (wLw tc a1 g1 ln1 ++ (wFa tc a2 g2_22 ++ (wHd tc a3 g3_14 ++ (wSt tc a4 g4 (some (a1 0)) (a5 0) ++ (wLg tc a5 g5))))))) (wCk tc a0 g0 (a3 0) (a2 0) ++ (wLw tc a1 g1 ln1 ++ (wFa tc a2 g2_22))) (wSt tc a4 g4 (some (a1 0)) (a5 0) ++ (wLg tc a5 g5)) (As := [.int x3]) (rest := [.int 8, .ref (a2 0)]) X (c_X3_alikeTo l dC dI sk sv tc a3 g3_14 x3 hc_23) mw_5_158 mw_2_228 mw_2_229 mw_1_7 mw_2_230 dc_X3_alikeTo ⟨Nat.le_of_ble_eq_true rfl, Nat.le_of_ble_eq_true rfl⟩ rfl rfl ⟨Nat.zero_le _, Nat.zero_le _⟩ (by simp only [List.append_assoc, List.nil_append, List.append_nil]) (by simp only [List.append_assoc, List.nil_append, List.append_nil]) hP (hD _ _ _ _ _ _) hS 0 rfl rfl rfl hl.1 (Nat.le_of_ble_eq_true rfl) dX0_observe_171 (fun H locs hP hS => ?_)
      refine lv_iconst (v := 1) X.1 X.2.1 dX0_observe_174 (by decide) ?_
      refine lv_iload_n X.1 X.2.1 dX0_observe_175 rfl (lv_at hl 1 rfl) ?_
      refine lv_ishl X.1 X.2.1 dX0_observe_176 ?_
      obtain ⟨J185, eJ185, h⟩ := jn_el h
      have HJ185 : ∀ (s1_J185 : Int32) (s2_J185 : Int32) (H : Heap) (locs : List Loc) (ls : Array Slot), J185 s1_J185 s2_J185 = some (G2, G3) → va_P (dC, dI) vwCl (wCk tc a0 g0 (a3 0) (a2 0) ++ (wLw tc a1 g1 ln1 ++ (wFa tc a2 g2_22 ++ (wHd tc a3 g3_14 ++ (wSt tc a4 g4 (some (a1 0)) (a5 0) ++ (wLg tc a5 g5)))))) H → va_S A s.heap H locs → lv_has ls 4 [] → W pr l e rm_X0_observe_l s m args below meth c H locs 0 0 Q (F0 m 185 ls [.int s2_J185, .int s1_J185, .ref (a2 0)]) := by
        intro s1_J185 s2_J185 H locs ls h hP hS hl
        rw [eJ185] at h
        obtain ⟨hg_24, h⟩ := gdi_el h
        obtain ⟨g2_25, eg2_25, h⟩ := nm_el h
        refine r_iast X hP (hD _ _ _ _ _ _) hS 7 0 rfl rfl hg_24 rfl dX0_observe_185 (wCk tc a0 g0 (a3 0) (a2 0) ++ (wLw tc a1 g1 ln1 ++ (wFa tc a2 g2_25 ++ (wHd tc a3 g3_14 ++ (wSt tc a4 g4 (some (a1 0)) (a5 0) ++ (wLg tc a5 g5)))))) (by rw [eg2_25]; rfl) (fun H locs hP hS => ?_)
        exact HJ186 g2_25 g3_14 H locs ls h hP hS (lv_sub hl [] rfl)
      refine lv_icmp_ne (tgt := 184) X.1 X.2.1 dX0_observe_177 (by decide) (fun hc => ?_) (fun hc => ?_)
      · have h := it_f hc h
        refine lv_iconst (v := 0) X.1 X.2.1 dX0_observe_184 (by decide) ?_
        exact HJ185 8 0 H locs ls h hP hS (lv_sub hl [] rfl)
      · have h := it_t hc h
        refine lv_iconst (v := 1) X.1 X.2.1 dX0_observe_180 (by decide) ?_
        refine lv_goto (tgt := 185) X.1 X.2.1 dX0_observe_181 (by decide) ?_
        exact HJ185 8 1 H locs ls h hP hS (lv_sub hl [] rfl)
    refine lv_icmp_ne (tgt := 158) X.1 X.2.1 dX0_observe_151 (by decide) (fun hc => ?_) (fun hc => ?_)
    · have h := it_f hc h
      refine lv_iconst (v := 0) X.1 X.2.1 dX0_observe_158 (by decide) ?_
      exact HJ159 7 0 H locs ls h hP hS (lv_sub hl [0, 3] rfl)
    · have h := it_t hc h
      refine lv_iconst (v := 1) X.1 X.2.1 dX0_observe_154 (by decide) ?_
      refine lv_goto (tgt := 159) X.1 X.2.1 dX0_observe_155 (by decide) ?_
      exact HJ159 7 1 H locs ls h hP hS (lv_sub hl [0, 3] rfl)

def f_X0_isKeepingUp_n (g0 : Pic) (g1 : Pic) (g2 : Pic) (g3 : Pic) (g4 : Pic) : Option (Int32) := jn (fun (s0_J36 : Int32) => gdb s0_J36 (some s0_J36)) (fun J36 => (if (((g1 0 4) * (g3 13 0)) - ((g1 0 6) / 10)) < (g1 0 2) then J36 0 else J36 1))
abbrev rm_X0_isKeepingUp_n : Room := { frames := 0, cells := 0, slots := 0, locals := 0 }
set_option maxHeartbeats 4000000 in
set_option maxRecDepth 100000 in
theorem c_X0_isKeepingUp_n (l : Launch) (dC : Nat → ClassId) (dI : Nat → Nat → Nat) (sk sv : Nat → Nat) (tc : Nat → ClassId) (a0 : Nat → Nat) (a1 : Nat → Nat) (a2 : Nat → Nat) (a3 : Nat → Nat) (a4 : Nat → Nat) (g0 : Pic) (g1 : Pic) (g2 : Pic) (g3 : Pic) (g4 : Pic) {r0 : Int32} (h : f_X0_isKeepingUp_n g0 g1 g2 g3 g4 = some r0) : CT l (dC, dI) sk sv (TY tc) yX0_isKeepingUp cX0_isKeepingUp 2 (some .boolean) rm_X0_isKeepingUp_n [.ref (a0 0), .ref (a3 0)] (wCk tc a0 g0 (a2 0) (a1 0) ++ (wFa tc a1 g1 ++ (wHd tc a2 g2 ++ (wSt tc a3 g3 none (a4 0) ++ (wLg tc a4 g4))))) (some (.int r0)) (wCk tc a0 g0 (a2 0) (a1 0) ++ (wFa tc a1 g1 ++ (wHd tc a2 g2 ++ (wSt tc a3 g3 none (a4 0) ++ (wLg tc a4 g4))))) := by
  refine ofCT (by decide) (Nat.le_of_ble_eq_true rfl) ?_
  intro pr e s m args below meth c A Q ls H locs X hQ hD0 hP hS hl
  have hD : ∀ z0 z1 z2 z3 z4, va_D A (wCk tc a0 z0 (a2 0) (a1 0) ++ (wFa tc a1 z1 ++ (wHd tc a2 z2 ++ (wSt tc a3 z3 none (a4 0) ++ (wLg tc a4 z4))))) := fun z0 z1 z2 z3 z4 => D_fst (ws := (wCk tc a0 g0 (a2 0) (a1 0) ++ (wFa tc a1 g1 ++ (wHd tc a2 g2 ++ (wSt tc a3 g3 none (a4 0) ++ (wLg tc a4 g4)))))) rfl hD0
  have hl : lv_has ls 2 [(0, .ref (a0 0)), (1, .ref (a3 0))] := hl
  unfold f_X0_isKeepingUp_n at h
  refine lv_aload_n X.1 X.2.1 dX0_isKeepingUp_0 rfl (lv_at hl 0 rfl) ?_
  refine r_get (C := RX0) (T := TX0) (N := 2) (ci := 0) (v := .ref (a1 0)) X iw0 hP 0 rfl rfl 1 rfl mw_2_67 rfl dX0_isKeepingUp_1 ?_
  refine lv_iconst (v := 2) X.1 X.2.1 dX0_isKeepingUp_4 (by decide) ?_
  refine r_iald X hP 1 0 rfl rfl (j := 2) (by unfold vp_in; decide) (by decide) dX0_isKeepingUp_5 ?_
  refine lv_aload_n X.1 X.2.1 dX0_isKeepingUp_6 rfl (lv_at hl 0 rfl) ?_
  refine r_get (C := RX0) (T := TX0) (N := 2) (ci := 0) (v := .ref (a1 0)) X iw0 hP 0 rfl rfl 1 rfl mw_2_67 rfl dX0_isKeepingUp_7 ?_
  refine lv_iconst (v := 4) X.1 X.2.1 dX0_isKeepingUp_10 (by decide) ?_
  refine r_iald X hP 1 0 rfl rfl (j := 4) (by unfold vp_in; decide) (by decide) dX0_isKeepingUp_11 ?_
  refine lv_aload_n X.1 X.2.1 dX0_isKeepingUp_12 rfl (lv_at hl 1 rfl) ?_
  refine r_get (C := RX9) (T := TX9) (N := 20) (ci := 9) (v := .int (g3 13 0)) X iw9 hP 7 rfl rfl 13 rfl mw_1_174 rfl dX0_isKeepingUp_13 ?_
  refine lv_imul X.1 X.2.1 dX0_isKeepingUp_16 ?_
  refine lv_aload_n X.1 X.2.1 dX0_isKeepingUp_17 rfl (lv_at hl 0 rfl) ?_
  refine r_get (C := RX0) (T := TX0) (N := 2) (ci := 0) (v := .ref (a1 0)) X iw0 hP 0 rfl rfl 1 rfl mw_2_67 rfl dX0_isKeepingUp_18 ?_
  refine lv_bipush (v := 6) X.1 X.2.1 dX0_isKeepingUp_21 (by decide) ?_
  refine r_iald X hP 1 0 rfl rfl (j := 6) (by unfold vp_in; decide) (by decide) dX0_isKeepingUp_23 ?_
  refine lv_bipush (v := 10) X.1 X.2.1 dX0_isKeepingUp_24 (by decide) ?_
  refine lv_idiv X.1 X.2.1 dX0_isKeepingUp_26 (by decide) ?_
  refine lv_isub X.1 X.2.1 dX0_isKeepingUp_27 ?_
  obtain ⟨J36, eJ36, h⟩ := jn_el h
  have HJ36 : ∀ (s0_J36 : Int32) (H : Heap) (locs : List Loc) (ls : Array Slot), J36 s0_J36 = some r0 → va_P (dC, dI) vwCl (wCk tc a0 g0 (a2 0) (a1 0) ++ (wFa tc a1 g1 ++ (wHd tc a2 g2 ++ (wSt tc a3 g3 none (a4 0) ++ (wLg tc a4 g4))))) H → va_S A s.heap H locs → lv_has ls 2 [] → W pr l e rm_X0_isKeepingUp_n s m args below meth c H locs 0 0 Q (F0 m 36 ls [.int s0_J36]) := by
    intro s0_J36 H locs ls h hP hS hl
    rw [eJ36] at h
    obtain ⟨hg_1, h⟩ := gdb_el h
    exact ret_z0 hg_1 (Option.some.inj h) X hQ hP hS dX0_isKeepingUp_36
  refine lv_icmp_gt (tgt := 35) X.1 X.2.1 dX0_isKeepingUp_28 (by decide) (fun hc => ?_) (fun hc => ?_)
  · have h := it_t hc h
    refine lv_iconst (v := 0) X.1 X.2.1 dX0_isKeepingUp_35 (by decide) ?_
    exact HJ36 0 H locs ls h hP hS (lv_sub hl [] rfl)
  · have h := it_f hc h
    refine lv_iconst (v := 1) X.1 X.2.1 dX0_isKeepingUp_31 (by decide) ?_
    refine lv_goto (tgt := 36) X.1 X.2.1 dX0_isKeepingUp_32 (by decide) ?_
    exact HJ36 1 H locs ls h hP hS (lv_sub hl [] rfl)

def f_X0_isKeepingUp_l (ln1 : Nat → Nat) (g0 : Pic) (g1 : Pic) (g2 : Pic) (g3 : Pic) (g4 : Pic) (g5 : Pic) : Option (Int32) := jn (fun (s0_J36 : Int32) => gdb s0_J36 (some s0_J36)) (fun J36 => (if (((g2 0 4) * (g4 13 0)) - ((g2 0 6) / 10)) < (g2 0 2) then J36 0 else J36 1))
abbrev rm_X0_isKeepingUp_l : Room := { frames := 0, cells := 0, slots := 0, locals := 0 }
set_option maxHeartbeats 4000000 in
set_option maxRecDepth 100000 in
theorem c_X0_isKeepingUp_l (l : Launch) (dC : Nat → ClassId) (dI : Nat → Nat → Nat) (sk sv : Nat → Nat) (tc : Nat → ClassId) (ln1 : Nat → Nat) (a0 : Nat → Nat) (a1 : Nat → Nat) (a2 : Nat → Nat) (a3 : Nat → Nat) (a4 : Nat → Nat) (a5 : Nat → Nat) (g0 : Pic) (g1 : Pic) (g2 : Pic) (g3 : Pic) (g4 : Pic) (g5 : Pic) {r0 : Int32} (h : f_X0_isKeepingUp_l ln1 g0 g1 g2 g3 g4 g5 = some r0) : CT l (dC, dI) sk sv (TY tc) yX0_isKeepingUp cX0_isKeepingUp 2 (some .boolean) rm_X0_isKeepingUp_l [.ref (a0 0), .ref (a4 0)] (wCk tc a0 g0 (a3 0) (a2 0) ++ (wLw tc a1 g1 ln1 ++ (wFa tc a2 g2 ++ (wHd tc a3 g3 ++ (wSt tc a4 g4 (some (a1 0)) (a5 0) ++ (wLg tc a5 g5)))))) (some (.int r0)) (wCk tc a0 g0 (a3 0) (a2 0) ++ (wLw tc a1 g1 ln1 ++ (wFa tc a2 g2 ++ (wHd tc a3 g3 ++ (wSt tc a4 g4 (some (a1 0)) (a5 0) ++ (wLg tc a5 g5)))))) := by
  refine ofCT (by decide) (Nat.le_of_ble_eq_true rfl) ?_
  intro pr e s m args below meth c A Q ls H locs X hQ hD0 hP hS hl
  have hD : ∀ z0 z1 z2 z3 z4 z5, va_D A (wCk tc a0 z0 (a3 0) (a2 0) ++ (wLw tc a1 z1 ln1 ++ (wFa tc a2 z2 ++ (wHd tc a3 z3 ++ (wSt tc a4 z4 (some (a1 0)) (a5 0) ++ (wLg tc a5 z5)))))) := fun z0 z1 z2 z3 z4 z5 => D_fst (ws := (wCk tc a0 g0 (a3 0) (a2 0) ++ (wLw tc a1 g1 ln1 ++ (wFa tc a2 g2 ++ (wHd tc a3 g3 ++ (wSt tc a4 g4 (some (a1 0)) (a5 0) ++ (wLg tc a5 g5))))))) rfl hD0
  have hl : lv_has ls 2 [(0, .ref (a0 0)), (1, .ref (a4 0))] := hl
  unfold f_X0_isKeepingUp_l at h
  refine lv_aload_n X.1 X.2.1 dX0_isKeepingUp_0 rfl (lv_at hl 0 rfl) ?_
  refine r_get (C := RX0) (T := TX0) (N := 2) (ci := 0) (v := .ref (a2 0)) X iw0 hP 0 rfl rfl 1 rfl mw_2_67 rfl dX0_isKeepingUp_1 ?_
  refine lv_iconst (v := 2) X.1 X.2.1 dX0_isKeepingUp_4 (by decide) ?_
  refine r_iald X hP 7 0 rfl rfl (j := 2) (by unfold vp_in; decide) (by decide) dX0_isKeepingUp_5 ?_
  refine lv_aload_n X.1 X.2.1 dX0_isKeepingUp_6 rfl (lv_at hl 0 rfl) ?_
  refine r_get (C := RX0) (T := TX0) (N := 2) (ci := 0) (v := .ref (a2 0)) X iw0 hP 0 rfl rfl 1 rfl mw_2_67 rfl dX0_isKeepingUp_7 ?_
  refine lv_iconst (v := 4) X.1 X.2.1 dX0_isKeepingUp_10 (by decide) ?_
  refine r_iald X hP 7 0 rfl rfl (j := 4) (by unfold vp_in; decide) (by decide) dX0_isKeepingUp_11 ?_
  refine lv_aload_n X.1 X.2.1 dX0_isKeepingUp_12 rfl (lv_at hl 1 rfl) ?_
  refine r_get (C := RX9) (T := TX9) (N := 20) (ci := 9) (v := .int (g4 13 0)) X iw9 hP 13 rfl rfl 13 rfl mw_1_174 rfl dX0_isKeepingUp_13 ?_
  refine lv_imul X.1 X.2.1 dX0_isKeepingUp_16 ?_
  refine lv_aload_n X.1 X.2.1 dX0_isKeepingUp_17 rfl (lv_at hl 0 rfl) ?_
  refine r_get (C := RX0) (T := TX0) (N := 2) (ci := 0) (v := .ref (a2 0)) X iw0 hP 0 rfl rfl 1 rfl mw_2_67 rfl dX0_isKeepingUp_18 ?_
  refine lv_bipush (v := 6) X.1 X.2.1 dX0_isKeepingUp_21 (by decide) ?_
  refine r_iald X hP 7 0 rfl rfl (j := 6) (by unfold vp_in; decide) (by decide) dX0_isKeepingUp_23 ?_
  refine lv_bipush (v := 10) X.1 X.2.1 dX0_isKeepingUp_24 (by decide) ?_
  refine lv_idiv X.1 X.2.1 dX0_isKeepingUp_26 (by decide) ?_
  refine lv_isub X.1 X.2.1 dX0_isKeepingUp_27 ?_
  obtain ⟨J36, eJ36, h⟩ := jn_el h
  have HJ36 : ∀ (s0_J36 : Int32) (H : Heap) (locs : List Loc) (ls : Array Slot), J36 s0_J36 = some r0 → va_P (dC, dI) vwCl (wCk tc a0 g0 (a3 0) (a2 0) ++ (wLw tc a1 g1 ln1 ++ (wFa tc a2 g2 ++ (wHd tc a3 g3 ++ (wSt tc a4 g4 (some (a1 0)) (a5 0) ++ (wLg tc a5 g5)))))) H → va_S A s.heap H locs → lv_has ls 2 [] → W pr l e rm_X0_isKeepingUp_l s m args below meth c H locs 0 0 Q (F0 m 36 ls [.int s0_J36]) := by
    intro s0_J36 H locs ls h hP hS hl
    rw [eJ36] at h
    obtain ⟨hg_1, h⟩ := gdb_el h
    exact ret_z0 hg_1 (Option.some.inj h) X hQ hP hS dX0_isKeepingUp_36
  refine lv_icmp_gt (tgt := 35) X.1 X.2.1 dX0_isKeepingUp_28 (by decide) (fun hc => ?_) (fun hc => ?_)
  · have h := it_t hc h
    refine lv_iconst (v := 0) X.1 X.2.1 dX0_isKeepingUp_35 (by decide) ?_
    exact HJ36 0 H locs ls h hP hS (lv_sub hl [] rfl)
  · have h := it_f hc h
    refine lv_iconst (v := 1) X.1 X.2.1 dX0_isKeepingUp_31 (by decide) ?_
    refine lv_goto (tgt := 36) X.1 X.2.1 dX0_isKeepingUp_32 (by decide) ?_
    exact HJ36 1 H locs ls h hP hS (lv_sub hl [] rfl)

def f_X0_lawOf_n (g0 : Pic) (g1 : Pic) (g2 : Pic) (g3 : Pic) (g4 : Pic) (x2 : Int32) : Option (Int32) := some 0
abbrev rm_X0_lawOf_n : Room := { frames := 0, cells := 0, slots := 0, locals := 0 }
set_option maxHeartbeats 4000000 in
set_option maxRecDepth 100000 in
theorem c_X0_lawOf_n (l : Launch) (dC : Nat → ClassId) (dI : Nat → Nat → Nat) (sk sv : Nat → Nat) (tc : Nat → ClassId) (a0 : Nat → Nat) (a1 : Nat → Nat) (a2 : Nat → Nat) (a3 : Nat → Nat) (a4 : Nat → Nat) (g0 : Pic) (g1 : Pic) (g2 : Pic) (g3 : Pic) (g4 : Pic) (x2 : Int32) {r0 : Int32} (h : f_X0_lawOf_n g0 g1 g2 g3 g4 x2 = some r0) : CT l (dC, dI) sk sv (TY tc) yX0_lawOf cX0_lawOf 3 (some .int) rm_X0_lawOf_n [.ref (a0 0), .ref (a3 0), .int x2] (wCk tc a0 g0 (a2 0) (a1 0) ++ (wFa tc a1 g1 ++ (wHd tc a2 g2 ++ (wSt tc a3 g3 none (a4 0) ++ (wLg tc a4 g4))))) (some (.int r0)) (wCk tc a0 g0 (a2 0) (a1 0) ++ (wFa tc a1 g1 ++ (wHd tc a2 g2 ++ (wSt tc a3 g3 none (a4 0) ++ (wLg tc a4 g4))))) := by
  refine ofCT (by decide) (Nat.le_of_ble_eq_true rfl) ?_
  intro pr e s m args below meth c A Q ls H locs X hQ hD0 hP hS hl
  have hD : ∀ z0 z1 z2 z3 z4, va_D A (wCk tc a0 z0 (a2 0) (a1 0) ++ (wFa tc a1 z1 ++ (wHd tc a2 z2 ++ (wSt tc a3 z3 none (a4 0) ++ (wLg tc a4 z4))))) := fun z0 z1 z2 z3 z4 => D_fst (ws := (wCk tc a0 g0 (a2 0) (a1 0) ++ (wFa tc a1 g1 ++ (wHd tc a2 g2 ++ (wSt tc a3 g3 none (a4 0) ++ (wLg tc a4 g4)))))) rfl hD0
  have hl : lv_has ls 3 [(0, .ref (a0 0)), (1, .ref (a3 0)), (2, .int x2)] := hl
  unfold f_X0_lawOf_n at h
  refine lv_aload_n X.1 X.2.1 dX0_lawOf_0 rfl (lv_at hl 1 rfl) ?_
  refine r_get (C := RX9) (T := TX9) (N := 20) (ci := 9) (v := .null) X iw9 hP 7 rfl rfl 18 rfl mw_1_190 rfl dX0_lawOf_1 ?_
  refine lv_ifnonnullN X.1 X.2.1 dX0_lawOf_4 ?_
  refine lv_iconst (v := 0) X.1 X.2.1 dX0_lawOf_7 (by decide) ?_
  refine lv_goto (tgt := 23) X.1 X.2.1 dX0_lawOf_8 (by decide) ?_
  exact ret_i0 (Option.some.inj h) X hQ hP hS dX0_lawOf_23

def f_X0_lawOf_l (ln1 : Nat → Nat) (g0 : Pic) (g1 : Pic) (g2 : Pic) (g3 : Pic) (g4 : Pic) (g5 : Pic) (x2 : Int32) : Option (Int32 × Pic) := bd2 (f_X4_sumOf ln1 g1 g2 x2) (fun r_1 g1_1 => some (r_1, g1_1))
abbrev rm_X0_lawOf_l : Room := { frames := 3, cells := 0, slots := 0, locals := 72 }
set_option maxHeartbeats 4000000 in
set_option maxRecDepth 100000 in
theorem c_X0_lawOf_l (l : Launch) (dC : Nat → ClassId) (dI : Nat → Nat → Nat) (sk sv : Nat → Nat) (tc : Nat → ClassId) (ln1 : Nat → Nat) (a0 : Nat → Nat) (a1 : Nat → Nat) (a2 : Nat → Nat) (a3 : Nat → Nat) (a4 : Nat → Nat) (a5 : Nat → Nat) (g0 : Pic) (g1 : Pic) (g2 : Pic) (g3 : Pic) (g4 : Pic) (g5 : Pic) (x2 : Int32) {r0 : Int32} {G1 : Pic} (h : f_X0_lawOf_l ln1 g0 g1 g2 g3 g4 g5 x2 = some (r0, G1)) : CT l (dC, dI) sk sv (TY tc) yX0_lawOf cX0_lawOf 3 (some .int) rm_X0_lawOf_l [.ref (a0 0), .ref (a4 0), .int x2] (wCk tc a0 g0 (a3 0) (a2 0) ++ (wLw tc a1 g1 ln1 ++ (wFa tc a2 g2 ++ (wHd tc a3 g3 ++ (wSt tc a4 g4 (some (a1 0)) (a5 0) ++ (wLg tc a5 g5)))))) (some (.int r0)) (wCk tc a0 g0 (a3 0) (a2 0) ++ (wLw tc a1 G1 ln1 ++ (wFa tc a2 g2 ++ (wHd tc a3 g3 ++ (wSt tc a4 g4 (some (a1 0)) (a5 0) ++ (wLg tc a5 g5)))))) := by
  refine ofCT (by decide) (Nat.le_of_ble_eq_true rfl) ?_
  intro pr e s m args below meth c A Q ls H locs X hQ hD0 hP hS hl
  have hD : ∀ z0 z1 z2 z3 z4 z5, va_D A (wCk tc a0 z0 (a3 0) (a2 0) ++ (wLw tc a1 z1 ln1 ++ (wFa tc a2 z2 ++ (wHd tc a3 z3 ++ (wSt tc a4 z4 (some (a1 0)) (a5 0) ++ (wLg tc a5 z5)))))) := fun z0 z1 z2 z3 z4 z5 => D_fst (ws := (wCk tc a0 g0 (a3 0) (a2 0) ++ (wLw tc a1 g1 ln1 ++ (wFa tc a2 g2 ++ (wHd tc a3 g3 ++ (wSt tc a4 g4 (some (a1 0)) (a5 0) ++ (wLg tc a5 g5))))))) rfl hD0
  have hl : lv_has ls 3 [(0, .ref (a0 0)), (1, .ref (a4 0)), (2, .int x2)] := hl
  unfold f_X0_lawOf_l at h
  refine lv_aload_n X.1 X.2.1 dX0_lawOf_0 rfl (lv_at hl 1 rfl) ?_
  refine r_get (C := RX9) (T := TX9) (N := 20) (ci := 9) (v := .ref (a1 0)) X iw9 hP 13 rfl rfl 18 rfl mw_1_190 rfl dX0_lawOf_1 ?_
  refine lv_ifnonnull (tgt := 11) X.1 X.2.1 dX0_lawOf_4 (by decide) ?_
  refine lv_aload_n X.1 X.2.1 dX0_lawOf_11 rfl (lv_at hl 1 rfl) ?_
  refine r_get (C := RX9) (T := TX9) (N := 20) (ci := 9) (v := .ref (a1 0)) X iw9 hP 13 rfl rfl 18 rfl mw_1_190 rfl dX0_lawOf_12 ?_
  refine lv_iload_n X.1 X.2.1 dX0_lawOf_15 rfl (lv_at hl 2 rfl) ?_
  refine lv_aload_n X.1 X.2.1 dX0_lawOf_16 rfl (lv_at hl 0 rfl) ?_
  refine r_get (C := RX0) (T := TX0) (N := 2) (ci := 0) (v := .ref (a2 0)) X iw0 hP 0 rfl rfl 1 rfl mw_2_67 rfl dX0_lawOf_17 ?_
  obtain ⟨r_1, g1_1, hc_1, h⟩ := bd2_el h
  refine call_Vsi (ws := (wCk tc a0 g0 (a3 0) (a2 0) ++ (wLw tc a1 g1 ln1 ++ (wFa tc a2 g2 ++ (wHd tc a3 g3 ++ (wSt tc a4 g4 (some (a1 0)) (a5 0) ++ (wLg tc a5 g5))))))) (ws' := (wCk tc a0 g0 (a3 0) (a2 0) ++ (wLw tc a1 g1_1 ln1 ++ (wFa tc a2 g2 ++ (wHd tc a3 g3 ++ (wSt tc a4 g4 (some (a1 0)) (a5 0) ++ (wLg tc a5 g5))))))) (wCk tc a0 g0 (a3 0) (a2 0)) (wHd tc a3 g3 ++ (wSt tc a4 g4 (some (a1 0)) (a5 0) ++ (wLg tc a5 g5))) (As := [.int x2, .ref (a2 0)]) (rest := []) X (c_X4_sumOf l dC dI sk sv tc ln1 a1 a2 g1 g2 x2 hc_1) mw_5_178 mw_5_179 mw_5_180 mw_1_23 mw_5_181 dc_X4_sumOf ⟨Nat.le_of_ble_eq_true rfl, Nat.le_of_ble_eq_true rfl⟩ rfl rfl ⟨Nat.zero_le _, Nat.zero_le _⟩ (by simp only [List.append_assoc, List.nil_append, List.append_nil]) (by simp only [List.append_assoc, List.nil_append, List.append_nil]) hP (hD _ _ _ _ _ _) hS 0 rfl rfl rfl hl.1 (Nat.le_of_ble_eq_true rfl) dX0_lawOf_20 (fun H locs hP hS => ?_)
  exact ret_i (fun u => (wCk tc a0 g0 (a3 0) (a2 0) ++ (wLw tc a1 u ln1 ++ (wFa tc a2 g2 ++ (wHd tc a3 g3 ++ (wSt tc a4 g4 (some (a1 0)) (a5 0) ++ (wLg tc a5 g5))))))) (res := (r0, G1)) (Option.some.inj h) X hQ hP hS dX0_lawOf_23

def f_X0_restOne_n (g0 : Pic) (g1 : Pic) (g2 : Pic) (g3 : Pic) (g4 : Pic) (x2 : Int32) : Option (Pic) := gdi x2 5 (bd (f_X0_lawOf_n g0 g1 g2 g3 g4 1) (fun r_2 => gdi x2 5 (nm (pu g3 11 (x2.toNatClampNeg) (if (((g3 11 (x2.toNatClampNeg)) - 2) - r_2) < 0 then 0 else (((g3 11 (x2.toNatClampNeg)) - 2) - r_2))) (fun g3_4 => some g3_4))))
abbrev rm_X0_restOne_n : Room := { frames := 1, cells := 0, slots := 0, locals := 40 }
set_option maxHeartbeats 4000000 in
set_option maxRecDepth 100000 in
theorem c_X0_restOne_n (l : Launch) (dC : Nat → ClassId) (dI : Nat → Nat → Nat) (sk sv : Nat → Nat) (tc : Nat → ClassId) (a0 : Nat → Nat) (a1 : Nat → Nat) (a2 : Nat → Nat) (a3 : Nat → Nat) (a4 : Nat → Nat) (g0 : Pic) (g1 : Pic) (g2 : Pic) (g3 : Pic) (g4 : Pic) (x2 : Int32) {G3 : Pic} (h : f_X0_restOne_n g0 g1 g2 g3 g4 x2 = some G3) : CT l (dC, dI) sk sv (TY tc) yX0_restOne cX0_restOne 3 none rm_X0_restOne_n [.ref (a0 0), .ref (a3 0), .int x2] (wCk tc a0 g0 (a2 0) (a1 0) ++ (wFa tc a1 g1 ++ (wHd tc a2 g2 ++ (wSt tc a3 g3 none (a4 0) ++ (wLg tc a4 g4))))) none (wCk tc a0 g0 (a2 0) (a1 0) ++ (wFa tc a1 g1 ++ (wHd tc a2 g2 ++ (wSt tc a3 G3 none (a4 0) ++ (wLg tc a4 g4))))) := by
  refine ofCT (by decide) (Nat.le_of_ble_eq_true rfl) ?_
  intro pr e s m args below meth c A Q ls H locs X hQ hD0 hP hS hl
  have hD : ∀ z0 z1 z2 z3 z4, va_D A (wCk tc a0 z0 (a2 0) (a1 0) ++ (wFa tc a1 z1 ++ (wHd tc a2 z2 ++ (wSt tc a3 z3 none (a4 0) ++ (wLg tc a4 z4))))) := fun z0 z1 z2 z3 z4 => D_fst (ws := (wCk tc a0 g0 (a2 0) (a1 0) ++ (wFa tc a1 g1 ++ (wHd tc a2 g2 ++ (wSt tc a3 g3 none (a4 0) ++ (wLg tc a4 g4)))))) rfl hD0
  have hl : lv_has ls 3 [(0, .ref (a0 0)), (1, .ref (a3 0)), (2, .int x2)] := hl
  unfold f_X0_restOne_n at h
  refine lv_aload_n X.1 X.2.1 dX0_restOne_0 rfl (lv_at hl 1 rfl) ?_
  refine r_get (C := RX9) (T := TX9) (N := 20) (ci := 9) (v := .ref (a3 12)) X iw9 hP 7 rfl rfl 11 rfl mw_1_164 rfl dX0_restOne_1 ?_
  refine lv_iload_n X.1 X.2.1 dX0_restOne_4 rfl (lv_at hl 2 rfl) ?_
  refine lv_aload_n X.1 X.2.1 dX0_restOne_5 rfl (lv_at hl 1 rfl) ?_
  refine r_get (C := RX9) (T := TX9) (N := 20) (ci := 9) (v := .ref (a3 12)) X iw9 hP 7 rfl rfl 11 rfl mw_1_164 rfl dX0_restOne_6 ?_
  refine lv_iload_n X.1 X.2.1 dX0_restOne_9 rfl (lv_at hl 2 rfl) ?_
  obtain ⟨hg_1, h⟩ := gdi_el h
  refine r_iald X hP 15 0 rfl rfl hg_1 rfl dX0_restOne_10 ?_
  refine lv_iconst (v := 2) X.1 X.2.1 dX0_restOne_11 (by decide) ?_
  refine lv_isub X.1 X.2.1 dX0_restOne_12 ?_
  refine lv_aload_n X.1 X.2.1 dX0_restOne_13 rfl (lv_at hl 0 rfl) ?_
  refine lv_aload_n X.1 X.2.1 dX0_restOne_14 rfl (lv_at hl 1 rfl) ?_
  refine lv_iconst (v := 1) X.1 X.2.1 dX0_restOne_15 (by decide) ?_
  obtain ⟨r_2, hc_2, h⟩ := bd_el h
  refine call_V1i (As := [.ref (a3 0), .int 1]) (rest := [.int ((g3 11 (x2.toNatClampNeg)) - 2), .int x2, .ref (a3 12)]) X (c_X0_lawOf_n l dC dI sk sv tc a0 a1 a2 a3 a4 g0 g1 g2 g3 g4 1 hc_2) mw_5_174 mw_5_175 mw_5_176 mw_1_8 mw_5_177 dc_X0_lawOf ⟨Nat.le_of_ble_eq_true rfl, Nat.le_of_ble_eq_true rfl⟩ rfl rfl ⟨Nat.zero_le _, Nat.zero_le _⟩ hP (hD _ _ _ _ _) hS 0 rfl rfl rfl hl.1 (Nat.le_of_ble_eq_true rfl) dX0_restOne_16 (fun H locs hP hS => ?_)
  refine lv_isub X.1 X.2.1 dX0_restOne_19 ?_
  refine lv_iconst (v := 0) X.1 X.2.1 dX0_restOne_20 (by decide) ?_
  refine r_max X mw_5_191 mw_3_21 mw_1_25 mw_3_22 hl.1 (Nat.le_of_ble_eq_true rfl) (Nat.le_of_ble_eq_true rfl) ⟨Nat.zero_le _, Nat.zero_le _⟩ dX0_restOne_21 ?_
  obtain ⟨hg_3, h⟩ := gdi_el h
  obtain ⟨g3_4, eg3_4, h⟩ := nm_el h
  refine r_iast X hP (hD _ _ _ _ _) hS 15 0 rfl rfl hg_3 rfl dX0_restOne_24 (wCk tc a0 g0 (a2 0) (a1 0) ++ (wFa tc a1 g1 ++ (wHd tc a2 g2 ++ (wSt tc a3 g3_4 none (a4 0) ++ (wLg tc a4 g4))))) (by rw [eg3_4]; rfl) (fun H locs hP hS => ?_)
  exact ret_v (fun u => (wCk tc a0 g0 (a2 0) (a1 0) ++ (wFa tc a1 g1 ++ (wHd tc a2 g2 ++ (wSt tc a3 u none (a4 0) ++ (wLg tc a4 g4)))))) (res := G3) (Option.some.inj h) X hQ hP hS dX0_restOne_25

def f_X0_restOne_l (ln1 : Nat → Nat) (g0 : Pic) (g1 : Pic) (g2 : Pic) (g3 : Pic) (g4 : Pic) (g5 : Pic) (x2 : Int32) : Option (Pic × Pic) := gdi x2 5 (bd2 (f_X0_lawOf_l ln1 g0 g1 g2 g3 g4 g5 1) (fun r_2 g1_2 => gdi x2 5 (nm (pu g4 11 (x2.toNatClampNeg) (if (((g4 11 (x2.toNatClampNeg)) - 2) - r_2) < 0 then 0 else (((g4 11 (x2.toNatClampNeg)) - 2) - r_2))) (fun g4_4 => some (g1_2, g4_4)))))
abbrev rm_X0_restOne_l : Room := { frames := 4, cells := 0, slots := 0, locals := 94 }
set_option maxHeartbeats 4000000 in
set_option maxRecDepth 100000 in
theorem c_X0_restOne_l (l : Launch) (dC : Nat → ClassId) (dI : Nat → Nat → Nat) (sk sv : Nat → Nat) (tc : Nat → ClassId) (ln1 : Nat → Nat) (a0 : Nat → Nat) (a1 : Nat → Nat) (a2 : Nat → Nat) (a3 : Nat → Nat) (a4 : Nat → Nat) (a5 : Nat → Nat) (g0 : Pic) (g1 : Pic) (g2 : Pic) (g3 : Pic) (g4 : Pic) (g5 : Pic) (x2 : Int32) {G1 : Pic} {G4 : Pic} (h : f_X0_restOne_l ln1 g0 g1 g2 g3 g4 g5 x2 = some (G1, G4)) : CT l (dC, dI) sk sv (TY tc) yX0_restOne cX0_restOne 3 none rm_X0_restOne_l [.ref (a0 0), .ref (a4 0), .int x2] (wCk tc a0 g0 (a3 0) (a2 0) ++ (wLw tc a1 g1 ln1 ++ (wFa tc a2 g2 ++ (wHd tc a3 g3 ++ (wSt tc a4 g4 (some (a1 0)) (a5 0) ++ (wLg tc a5 g5)))))) none (wCk tc a0 g0 (a3 0) (a2 0) ++ (wLw tc a1 G1 ln1 ++ (wFa tc a2 g2 ++ (wHd tc a3 g3 ++ (wSt tc a4 G4 (some (a1 0)) (a5 0) ++ (wLg tc a5 g5)))))) := by
  refine ofCT (by decide) (Nat.le_of_ble_eq_true rfl) ?_
  intro pr e s m args below meth c A Q ls H locs X hQ hD0 hP hS hl
  have hD : ∀ z0 z1 z2 z3 z4 z5, va_D A (wCk tc a0 z0 (a3 0) (a2 0) ++ (wLw tc a1 z1 ln1 ++ (wFa tc a2 z2 ++ (wHd tc a3 z3 ++ (wSt tc a4 z4 (some (a1 0)) (a5 0) ++ (wLg tc a5 z5)))))) := fun z0 z1 z2 z3 z4 z5 => D_fst (ws := (wCk tc a0 g0 (a3 0) (a2 0) ++ (wLw tc a1 g1 ln1 ++ (wFa tc a2 g2 ++ (wHd tc a3 g3 ++ (wSt tc a4 g4 (some (a1 0)) (a5 0) ++ (wLg tc a5 g5))))))) rfl hD0
  have hl : lv_has ls 3 [(0, .ref (a0 0)), (1, .ref (a4 0)), (2, .int x2)] := hl
  unfold f_X0_restOne_l at h
  refine lv_aload_n X.1 X.2.1 dX0_restOne_0 rfl (lv_at hl 1 rfl) ?_
  refine r_get (C := RX9) (T := TX9) (N := 20) (ci := 9) (v := .ref (a4 12)) X iw9 hP 13 rfl rfl 11 rfl mw_1_164 rfl dX0_restOne_1 ?_
  refine lv_iload_n X.1 X.2.1 dX0_restOne_4 rfl (lv_at hl 2 rfl) ?_
  refine lv_aload_n X.1 X.2.1 dX0_restOne_5 rfl (lv_at hl 1 rfl) ?_
  refine r_get (C := RX9) (T := TX9) (N := 20) (ci := 9) (v := .ref (a4 12)) X iw9 hP 13 rfl rfl 11 rfl mw_1_164 rfl dX0_restOne_6 ?_
  refine lv_iload_n X.1 X.2.1 dX0_restOne_9 rfl (lv_at hl 2 rfl) ?_
  obtain ⟨hg_1, h⟩ := gdi_el h
  refine r_iald X hP 21 0 rfl rfl hg_1 rfl dX0_restOne_10 ?_
  refine lv_iconst (v := 2) X.1 X.2.1 dX0_restOne_11 (by decide) ?_
  refine lv_isub X.1 X.2.1 dX0_restOne_12 ?_
  refine lv_aload_n X.1 X.2.1 dX0_restOne_13 rfl (lv_at hl 0 rfl) ?_
  refine lv_aload_n X.1 X.2.1 dX0_restOne_14 rfl (lv_at hl 1 rfl) ?_
  refine lv_iconst (v := 1) X.1 X.2.1 dX0_restOne_15 (by decide) ?_
  obtain ⟨r_2, g1_2, hc_2, h⟩ := bd2_el h
  refine call_V1i (As := [.ref (a4 0), .int 1]) (rest := [.int ((g4 11 (x2.toNatClampNeg)) - 2), .int x2, .ref (a4 12)]) X (c_X0_lawOf_l l dC dI sk sv tc ln1 a0 a1 a2 a3 a4 a5 g0 g1 g2 g3 g4 g5 1 hc_2) mw_5_174 mw_5_175 mw_5_176 mw_1_8 mw_5_177 dc_X0_lawOf ⟨Nat.le_of_ble_eq_true rfl, Nat.le_of_ble_eq_true rfl⟩ rfl rfl ⟨Nat.zero_le _, Nat.zero_le _⟩ hP (hD _ _ _ _ _ _) hS 0 rfl rfl rfl hl.1 (Nat.le_of_ble_eq_true rfl) dX0_restOne_16 (fun H locs hP hS => ?_)
  refine lv_isub X.1 X.2.1 dX0_restOne_19 ?_
  refine lv_iconst (v := 0) X.1 X.2.1 dX0_restOne_20 (by decide) ?_
  refine r_max X mw_5_191 mw_3_21 mw_1_25 mw_3_22 hl.1 (Nat.le_of_ble_eq_true rfl) (Nat.le_of_ble_eq_true rfl) ⟨Nat.zero_le _, Nat.zero_le _⟩ dX0_restOne_21 ?_
  obtain ⟨hg_3, h⟩ := gdi_el h
  obtain ⟨g4_4, eg4_4, h⟩ := nm_el h
  refine r_iast X hP (hD _ _ _ _ _ _) hS 21 0 rfl rfl hg_3 rfl dX0_restOne_24 (wCk tc a0 g0 (a3 0) (a2 0) ++ (wLw tc a1 g1_2 ln1 ++ (wFa tc a2 g2 ++ (wHd tc a3 g3 ++ (wSt tc a4 g4_4 (some (a1 0)) (a5 0) ++ (wLg tc a5 g5)))))) (by rw [eg4_4]; rfl) (fun H locs hP hS => ?_)
  exact ret_v (fun u => (wCk tc a0 g0 (a3 0) (a2 0) ++ (wLw tc a1 u.1 ln1 ++ (wFa tc a2 g2 ++ (wHd tc a3 g3 ++ (wSt tc a4 u.2 (some (a1 0)) (a5 0) ++ (wLg tc a5 g5))))))) (res := (G1, G4)) (Option.some.inj h) X hQ hP hS dX0_restOne_25

def f_X0_slipsOf_n (g0 : Pic) (g1 : Pic) (g2 : Pic) (g3 : Pic) (g4 : Pic) : Option (Int32) := bd (f_X0_lawOf_n g0 g1 g2 g3 g4 2) (fun r_1 => nm ((((g3 14 0) + r_1) - (5 * (g1 0 5)))) (fun x2_2 => some (if 0 < (if 100 < x2_2 then 100 else x2_2) then (if 100 < x2_2 then 100 else x2_2) else 0)))
abbrev rm_X0_slipsOf_n : Room := { frames := 1, cells := 0, slots := 0, locals := 40 }
set_option maxHeartbeats 4000000 in
set_option maxRecDepth 100000 in
theorem c_X0_slipsOf_n (l : Launch) (dC : Nat → ClassId) (dI : Nat → Nat → Nat) (sk sv : Nat → Nat) (tc : Nat → ClassId) (a0 : Nat → Nat) (a1 : Nat → Nat) (a2 : Nat → Nat) (a3 : Nat → Nat) (a4 : Nat → Nat) (g0 : Pic) (g1 : Pic) (g2 : Pic) (g3 : Pic) (g4 : Pic) {r0 : Int32} (h : f_X0_slipsOf_n g0 g1 g2 g3 g4 = some r0) : CT l (dC, dI) sk sv (TY tc) yX0_slipsOf cX0_slipsOf 3 (some .int) rm_X0_slipsOf_n [.ref (a0 0), .ref (a3 0)] (wCk tc a0 g0 (a2 0) (a1 0) ++ (wFa tc a1 g1 ++ (wHd tc a2 g2 ++ (wSt tc a3 g3 none (a4 0) ++ (wLg tc a4 g4))))) (some (.int r0)) (wCk tc a0 g0 (a2 0) (a1 0) ++ (wFa tc a1 g1 ++ (wHd tc a2 g2 ++ (wSt tc a3 g3 none (a4 0) ++ (wLg tc a4 g4))))) := by
  refine ofCT (by decide) (Nat.le_of_ble_eq_true rfl) ?_
  intro pr e s m args below meth c A Q ls H locs X hQ hD0 hP hS hl
  have hD : ∀ z0 z1 z2 z3 z4, va_D A (wCk tc a0 z0 (a2 0) (a1 0) ++ (wFa tc a1 z1 ++ (wHd tc a2 z2 ++ (wSt tc a3 z3 none (a4 0) ++ (wLg tc a4 z4))))) := fun z0 z1 z2 z3 z4 => D_fst (ws := (wCk tc a0 g0 (a2 0) (a1 0) ++ (wFa tc a1 g1 ++ (wHd tc a2 g2 ++ (wSt tc a3 g3 none (a4 0) ++ (wLg tc a4 g4)))))) rfl hD0
  have hl : lv_has ls 3 [(0, .ref (a0 0)), (1, .ref (a3 0))] := hl
  unfold f_X0_slipsOf_n at h
  refine lv_aload_n X.1 X.2.1 dX0_slipsOf_0 rfl (lv_at hl 1 rfl) ?_
  refine r_get (C := RX9) (T := TX9) (N := 20) (ci := 9) (v := .int (g3 14 0)) X iw9 hP 7 rfl rfl 14 rfl mw_1_178 rfl dX0_slipsOf_1 ?_
  refine lv_aload_n X.1 X.2.1 dX0_slipsOf_4 rfl (lv_at hl 0 rfl) ?_
  refine lv_aload_n X.1 X.2.1 dX0_slipsOf_5 rfl (lv_at hl 1 rfl) ?_
  refine lv_iconst (v := 2) X.1 X.2.1 dX0_slipsOf_6 (by decide) ?_
  obtain ⟨r_1, hc_1, h⟩ := bd_el h
  refine call_V1i (As := [.ref (a3 0), .int 2]) (rest := [.int (g3 14 0)]) X (c_X0_lawOf_n l dC dI sk sv tc a0 a1 a2 a3 a4 g0 g1 g2 g3 g4 2 hc_1) mw_5_174 mw_5_175 mw_5_176 mw_1_8 mw_5_177 dc_X0_lawOf ⟨Nat.le_of_ble_eq_true rfl, Nat.le_of_ble_eq_true rfl⟩ rfl rfl ⟨Nat.zero_le _, Nat.zero_le _⟩ hP (hD _ _ _ _ _) hS 0 rfl rfl rfl hl.1 (Nat.le_of_ble_eq_true rfl) dX0_slipsOf_7 (fun H locs hP hS => ?_)
  refine lv_iadd X.1 X.2.1 dX0_slipsOf_10 ?_
  refine lv_iconst (v := 5) X.1 X.2.1 dX0_slipsOf_11 (by decide) ?_
  refine lv_aload_n X.1 X.2.1 dX0_slipsOf_12 rfl (lv_at hl 0 rfl) ?_
  refine r_get (C := RX0) (T := TX0) (N := 2) (ci := 0) (v := .ref (a1 0)) X iw0 hP 0 rfl rfl 1 rfl mw_2_67 rfl dX0_slipsOf_13 ?_
  refine lv_iconst (v := 5) X.1 X.2.1 dX0_slipsOf_16 (by decide) ?_
  refine r_iald X hP 1 0 rfl rfl (j := 5) (by unfold vp_in; decide) (by decide) dX0_slipsOf_17 ?_
  refine lv_imul X.1 X.2.1 dX0_slipsOf_18 ?_
  refine lv_isub X.1 X.2.1 dX0_slipsOf_19 ?_
  obtain ⟨x2_2, ex2_2, h⟩ := nm_el h
  refine tp_i ex2_2 ?_
  refine lv_istore_n (lv' := [(2, .int x2_2), (0, .ref (a0 0)), (1, .ref (a3 0))]) X.1 X.2.1 dX0_slipsOf_20 rfl hl (by decide) rfl (fun ls hl => ?_)
  refine lv_iconst (v := 0) X.1 X.2.1 dX0_slipsOf_21 (by decide) ?_
  refine lv_iload_n X.1 X.2.1 dX0_slipsOf_22 rfl (lv_at hl 0 rfl) ?_
  refine lv_bipush (v := 100) X.1 X.2.1 dX0_slipsOf_23 (by decide) ?_
  refine r_min X mw_5_190 mw_3_9 mw_1_25 mw_3_10 hl.1 (Nat.le_of_ble_eq_true rfl) (Nat.le_of_ble_eq_true rfl) ⟨Nat.zero_le _, Nat.zero_le _⟩ dX0_slipsOf_25 ?_
  refine r_max X mw_5_191 mw_3_21 mw_1_25 mw_3_22 hl.1 (Nat.le_of_ble_eq_true rfl) (Nat.le_of_ble_eq_true rfl) ⟨Nat.zero_le _, Nat.zero_le _⟩ dX0_slipsOf_28 ?_
  exact ret_i0 (Option.some.inj h) X hQ hP hS dX0_slipsOf_31

def f_X0_slipsOf_l (ln1 : Nat → Nat) (g0 : Pic) (g1 : Pic) (g2 : Pic) (g3 : Pic) (g4 : Pic) (g5 : Pic) : Option (Int32 × Pic) := bd2 (f_X0_lawOf_l ln1 g0 g1 g2 g3 g4 g5 2) (fun r_1 g1_1 => nm ((((g4 14 0) + r_1) - (5 * (g2 0 5)))) (fun x2_2 => some ((if 0 < (if 100 < x2_2 then 100 else x2_2) then (if 100 < x2_2 then 100 else x2_2) else 0), g1_1)))
abbrev rm_X0_slipsOf_l : Room := { frames := 4, cells := 0, slots := 0, locals := 94 }
set_option maxHeartbeats 4000000 in
set_option maxRecDepth 100000 in
theorem c_X0_slipsOf_l (l : Launch) (dC : Nat → ClassId) (dI : Nat → Nat → Nat) (sk sv : Nat → Nat) (tc : Nat → ClassId) (ln1 : Nat → Nat) (a0 : Nat → Nat) (a1 : Nat → Nat) (a2 : Nat → Nat) (a3 : Nat → Nat) (a4 : Nat → Nat) (a5 : Nat → Nat) (g0 : Pic) (g1 : Pic) (g2 : Pic) (g3 : Pic) (g4 : Pic) (g5 : Pic) {r0 : Int32} {G1 : Pic} (h : f_X0_slipsOf_l ln1 g0 g1 g2 g3 g4 g5 = some (r0, G1)) : CT l (dC, dI) sk sv (TY tc) yX0_slipsOf cX0_slipsOf 3 (some .int) rm_X0_slipsOf_l [.ref (a0 0), .ref (a4 0)] (wCk tc a0 g0 (a3 0) (a2 0) ++ (wLw tc a1 g1 ln1 ++ (wFa tc a2 g2 ++ (wHd tc a3 g3 ++ (wSt tc a4 g4 (some (a1 0)) (a5 0) ++ (wLg tc a5 g5)))))) (some (.int r0)) (wCk tc a0 g0 (a3 0) (a2 0) ++ (wLw tc a1 G1 ln1 ++ (wFa tc a2 g2 ++ (wHd tc a3 g3 ++ (wSt tc a4 g4 (some (a1 0)) (a5 0) ++ (wLg tc a5 g5)))))) := by
  refine ofCT (by decide) (Nat.le_of_ble_eq_true rfl) ?_
  intro pr e s m args below meth c A Q ls H locs X hQ hD0 hP hS hl
  have hD : ∀ z0 z1 z2 z3 z4 z5, va_D A (wCk tc a0 z0 (a3 0) (a2 0) ++ (wLw tc a1 z1 ln1 ++ (wFa tc a2 z2 ++ (wHd tc a3 z3 ++ (wSt tc a4 z4 (some (a1 0)) (a5 0) ++ (wLg tc a5 z5)))))) := fun z0 z1 z2 z3 z4 z5 => D_fst (ws := (wCk tc a0 g0 (a3 0) (a2 0) ++ (wLw tc a1 g1 ln1 ++ (wFa tc a2 g2 ++ (wHd tc a3 g3 ++ (wSt tc a4 g4 (some (a1 0)) (a5 0) ++ (wLg tc a5 g5))))))) rfl hD0
  have hl : lv_has ls 3 [(0, .ref (a0 0)), (1, .ref (a4 0))] := hl
  unfold f_X0_slipsOf_l at h
  refine lv_aload_n X.1 X.2.1 dX0_slipsOf_0 rfl (lv_at hl 1 rfl) ?_
  refine r_get (C := RX9) (T := TX9) (N := 20) (ci := 9) (v := .int (g4 14 0)) X iw9 hP 13 rfl rfl 14 rfl mw_1_178 rfl dX0_slipsOf_1 ?_
  refine lv_aload_n X.1 X.2.1 dX0_slipsOf_4 rfl (lv_at hl 0 rfl) ?_
  refine lv_aload_n X.1 X.2.1 dX0_slipsOf_5 rfl (lv_at hl 1 rfl) ?_
  refine lv_iconst (v := 2) X.1 X.2.1 dX0_slipsOf_6 (by decide) ?_
  obtain ⟨r_1, g1_1, hc_1, h⟩ := bd2_el h
  refine call_V1i (As := [.ref (a4 0), .int 2]) (rest := [.int (g4 14 0)]) X (c_X0_lawOf_l l dC dI sk sv tc ln1 a0 a1 a2 a3 a4 a5 g0 g1 g2 g3 g4 g5 2 hc_1) mw_5_174 mw_5_175 mw_5_176 mw_1_8 mw_5_177 dc_X0_lawOf ⟨Nat.le_of_ble_eq_true rfl, Nat.le_of_ble_eq_true rfl⟩ rfl rfl ⟨Nat.zero_le _, Nat.zero_le _⟩ hP (hD _ _ _ _ _ _) hS 0 rfl rfl rfl hl.1 (Nat.le_of_ble_eq_true rfl) dX0_slipsOf_7 (fun H locs hP hS => ?_)
  refine lv_iadd X.1 X.2.1 dX0_slipsOf_10 ?_
  refine lv_iconst (v := 5) X.1 X.2.1 dX0_slipsOf_11 (by decide) ?_
  refine lv_aload_n X.1 X.2.1 dX0_slipsOf_12 rfl (lv_at hl 0 rfl) ?_
  refine r_get (C := RX0) (T := TX0) (N := 2) (ci := 0) (v := .ref (a2 0)) X iw0 hP 0 rfl rfl 1 rfl mw_2_67 rfl dX0_slipsOf_13 ?_
  refine lv_iconst (v := 5) X.1 X.2.1 dX0_slipsOf_16 (by decide) ?_
  refine r_iald X hP 7 0 rfl rfl (j := 5) (by unfold vp_in; decide) (by decide) dX0_slipsOf_17 ?_
  refine lv_imul X.1 X.2.1 dX0_slipsOf_18 ?_
  refine lv_isub X.1 X.2.1 dX0_slipsOf_19 ?_
  obtain ⟨x2_2, ex2_2, h⟩ := nm_el h
  refine tp_i ex2_2 ?_
  refine lv_istore_n (lv' := [(2, .int x2_2), (0, .ref (a0 0)), (1, .ref (a4 0))]) X.1 X.2.1 dX0_slipsOf_20 rfl hl (by decide) rfl (fun ls hl => ?_)
  refine lv_iconst (v := 0) X.1 X.2.1 dX0_slipsOf_21 (by decide) ?_
  refine lv_iload_n X.1 X.2.1 dX0_slipsOf_22 rfl (lv_at hl 0 rfl) ?_
  refine lv_bipush (v := 100) X.1 X.2.1 dX0_slipsOf_23 (by decide) ?_
  refine r_min X mw_5_190 mw_3_9 mw_1_25 mw_3_10 hl.1 (Nat.le_of_ble_eq_true rfl) (Nat.le_of_ble_eq_true rfl) ⟨Nat.zero_le _, Nat.zero_le _⟩ dX0_slipsOf_25 ?_
  refine r_max X mw_5_191 mw_3_21 mw_1_25 mw_3_22 hl.1 (Nat.le_of_ble_eq_true rfl) (Nat.le_of_ble_eq_true rfl) ⟨Nat.zero_le _, Nat.zero_le _⟩ dX0_slipsOf_28 ?_
  exact ret_i (fun u => (wCk tc a0 g0 (a3 0) (a2 0) ++ (wLw tc a1 u ln1 ++ (wFa tc a2 g2 ++ (wHd tc a3 g3 ++ (wSt tc a4 g4 (some (a1 0)) (a5 0) ++ (wLg tc a5 g5))))))) (res := (r0, G1)) (Option.some.inj h) X hQ hP hS dX0_slipsOf_31

def f_X0_sayNext_n_L13 (x2 : Int32) (x3 : Int32) (g0 : Pic) (n : Nat) (a : Int32 × Pic × Pic × Pic × Pic) : Option (Pic × Pic × Pic × Pic) := lp (fun (rec : Int32 × Pic × Pic × Pic × Pic → Option (Pic × Pic × Pic × Pic)) (a : Int32 × Pic × Pic × Pic × Pic) => match a with | (x4, g1, g2, g3, g4) => (if (g3 7 0) ≤ x4 then some (g1, g2, g3, g4) else bd2 (f_X0_observe_n g0 g1 g2 g3 g4 x4 x3) (fun g1_3 g2_3 => bd (f_X0_isKeepingUp_n g0 g1_3 g2_3 g3 g4) (fun r_4 => jn (fun (x5_J126 : Int32) (g3_J126 : Pic) => gdi ((x4 * 20) + (g3_J126 6 0)) 100 (nm (pu g3_J126 12 (((x4 * 20) + (g3_J126 6 0)).toNatClampNeg) x5_J126) (fun g3_6 => bd (f_X7_add g4 (g3_6 15 0) x4 x3 x5_J126) (fun g4_7 => nm (x4 + 1) (fun x4_8 => rec (x4_8, g1_3, g2_3, g3_6, g4_7)))))) (fun J126 => (if r_4 = 0 then bd (f_X0_restOne_n g0 g1_3 g2_3 g3 g4 x4) (fun g3_9 => J126 0 g3_9) else jn (fun (s0_J65 : Int32) (g3_J65 : Pic) => jn (fun (s0_J77 : Int32) => gdi x4 5 (bd (f_X0_lawOf_n g0 g1_3 g2_3 g3_J65 g4 0) (fun r_11 => nm ((((g3_J65 11 (x4.toNatClampNeg)) + (g1_3 0 2)) + r_11)) (fun x7_12 => gdi x4 5 (nm (pu g3_J65 11 (x4.toNatClampNeg) (if 99 < x7_12 then 99 else x7_12)) (fun g3_14 => J126 s0_J77 g3_14)))))) (fun J77 => (if s0_J65 = 0 then J77 1 else J77 2))) (fun J65 => jn (fun (g3_J64 : Pic) => J65 0 g3_J64) (fun J64 => (if x2 = 0 then J64 g3 else bd2 (f_X9_draw g3) (fun r_15 g3_15 => bd (f_X0_slipsOf_n g0 g1_3 g2_3 g3_15 g4) (fun r_16 => (if r_16 ≤ (r_15 - r_15 / 100 * 100) then J64 g3_15 else J65 1 g3_15)))))))))))) n a
def f_X0_sayNext_n (g0 : Pic) (g1 : Pic) (g2 : Pic) (g3 : Pic) (g4 : Pic) (x2 : Int32) : Option (Pic × Pic × Pic × Pic) := gdi (g3 6 0) 20 (nm ((g3 5 ((g3 6 0).toNatClampNeg))) (fun x3_2 => bd (f_X0_sayNext_n_L13 x2 x3_2 g0 fu (0, g1, g2, g3, g4)) (fun (g1_17, g2_17, g3_17, g4_17) => nm (pu g3_17 6 0 ((g3_17 6 0) + 1)) (fun g3_18 => some (g1_17, g2_17, g3_18, g4_17)))))
abbrev rm_X0_sayNext_n : Room := { frames := 2, cells := 0, slots := 0, locals := 65 }
set_option maxHeartbeats 4000000 in
set_option maxRecDepth 100000 in
theorem c_X0_sayNext_n (l : Launch) (dC : Nat → ClassId) (dI : Nat → Nat → Nat) (sk sv : Nat → Nat) (tc : Nat → ClassId) (a0 : Nat → Nat) (a1 : Nat → Nat) (a2 : Nat → Nat) (a3 : Nat → Nat) (a4 : Nat → Nat) (g0 : Pic) (g1 : Pic) (g2 : Pic) (g3 : Pic) (g4 : Pic) (x2 : Int32) {G1 : Pic} {G2 : Pic} {G3 : Pic} {G4 : Pic} (h : f_X0_sayNext_n g0 g1 g2 g3 g4 x2 = some (G1, G2, G3, G4)) : CT l (dC, dI) sk sv (TY tc) yX0_sayNext cX0_sayNext 8 none rm_X0_sayNext_n [.ref (a0 0), .ref (a3 0), .int x2] (wCk tc a0 g0 (a2 0) (a1 0) ++ (wFa tc a1 g1 ++ (wHd tc a2 g2 ++ (wSt tc a3 g3 none (a4 0) ++ (wLg tc a4 g4))))) none (wCk tc a0 g0 (a2 0) (a1 0) ++ (wFa tc a1 G1 ++ (wHd tc a2 G2 ++ (wSt tc a3 G3 none (a4 0) ++ (wLg tc a4 G4))))) := by
  refine ofCT (by decide) (Nat.le_of_ble_eq_true rfl) ?_
  intro pr e s m args below meth c A Q ls H locs X hQ hD0 hP hS hl
  have hD : ∀ z0 z1 z2 z3 z4, va_D A (wCk tc a0 z0 (a2 0) (a1 0) ++ (wFa tc a1 z1 ++ (wHd tc a2 z2 ++ (wSt tc a3 z3 none (a4 0) ++ (wLg tc a4 z4))))) := fun z0 z1 z2 z3 z4 => D_fst (ws := (wCk tc a0 g0 (a2 0) (a1 0) ++ (wFa tc a1 g1 ++ (wHd tc a2 g2 ++ (wSt tc a3 g3 none (a4 0) ++ (wLg tc a4 g4)))))) rfl hD0
  have hl : lv_has ls 8 [(0, .ref (a0 0)), (1, .ref (a3 0)), (2, .int x2)] := hl
  have HL13 : ∀ (x2 : Int32) (x3 : Int32) (n : Nat) (x4 : Int32) (g1 : Pic) (g2 : Pic) (g3 : Pic) (g4 : Pic) (ex : (Pic × Pic × Pic × Pic)), f_X0_sayNext_n_L13 x2 x3 g0 n (x4, g1, g2, g3, g4) = some ex → ∀ (H : Heap) (locs : List Loc) (ls : Array Slot), va_P (dC, dI) vwCl (wCk tc a0 g0 (a2 0) (a1 0) ++ (wFa tc a1 g1 ++ (wHd tc a2 g2 ++ (wSt tc a3 g3 none (a4 0) ++ (wLg tc a4 g4))))) H → va_S A s.heap H locs → lv_has ls 8 [(0, .ref (a0 0)), (1, .ref (a3 0)), (2, .int x2), (3, .int x3), (4, .int x4)] → (∀ (k1 : Pic) (k2 : Pic) (k3 : Pic) (k4 : Pic), (k1, k2, k3, k4) = ex → ∀ (H : Heap) (locs : List Loc) (ls : Array Slot), va_P (dC, dI) vwCl (wCk tc a0 g0 (a2 0) (a1 0) ++ (wFa tc a1 k1 ++ (wHd tc a2 k2 ++ (wSt tc a3 k3 none (a4 0) ++ (wLg tc a4 k4))))) H → va_S A s.heap H locs → lv_has ls 8 [(1, .ref (a3 0))] → W pr l e rm_X0_sayNext_n s m args below meth c H locs 0 0 Q (F0 m 165 ls [])) → W pr l e rm_X0_sayNext_n s m args below meth c H locs 0 0 Q (F0 m 13 ls []) := by
    intro x2 x3 n
    induction n with
    | zero => intro x4 g1 g2 g3 g4 ex h; exact lp_z h
    | succ n ih =>
      intro x4 g1 g2 g3 g4 ex h H locs ls hP hS hl K
      have h := lp_s h
      refine lv_iload X.1 X.2.1 dX0_sayNext_13 (lv_at hl 4 rfl) ?_
      refine lv_aload_n X.1 X.2.1 dX0_sayNext_15 rfl (lv_at hl 1 rfl) ?_
      refine r_get (C := RX9) (T := TX9) (N := 20) (ci := 9) (v := .int (g3 7 0)) X iw9 hP 7 rfl rfl 7 rfl mw_1_142 rfl dX0_sayNext_16 ?_
      refine lv_icmp_ge (tgt := 165) X.1 X.2.1 dX0_sayNext_19 (by decide) (fun hc => ?_) (fun hc => ?_)
      · have h := it_t hc h
        exact K g1 g2 g3 g4 (Option.some.inj h) H locs ls hP hS (lv_sub hl [1] rfl)
      · have h := it_f hc h
        refine lv_aload_n X.1 X.2.1 dX0_sayNext_22 rfl (lv_at hl 0 rfl) ?_
        refine lv_aload_n X.1 X.2.1 dX0_sayNext_23 rfl (lv_at hl 1 rfl) ?_
        refine lv_iload X.1 X.2.1 dX0_sayNext_24 (lv_at hl 4 rfl) ?_
        refine lv_iload_n X.1 X.2.1 dX0_sayNext_26 rfl (lv_at hl 3 rfl) ?_
        obtain ⟨g1_3, g2_3, hc_3, h⟩ := bd2_el h
        refine call_V1v (As := [.ref (a3 0), .int x4, .int x3]) (rest := []) X (c_X0_observe_n l dC dI sk sv tc a0 a1 a2 a3 a4 g0 g1 g2 g3 g4 x4 x3 hc_3) mw_5_216 mw_5_154 mw_5_155 mw_1_8 mw_5_156 dc_X0_observe ⟨Nat.le_of_ble_eq_true rfl, Nat.le_of_ble_eq_true rfl⟩ rfl rfl ⟨Nat.zero_le _, Nat.zero_le _⟩ hP (hD _ _ _ _ _) hS 0 rfl rfl rfl hl.1 (Nat.le_of_ble_eq_true rfl) dX0_sayNext_27 (fun H locs hP hS => ?_)
        refine lv_iconst (v := 0) X.1 X.2.1 dX0_sayNext_30 (by decide) ?_
        refine lv_istore (lv' := [(5, .int 0), (0, .ref (a0 0)), (1, .ref (a3 0)), (2, .int x2), (3, .int x3), (4, .int x4)]) X.1 X.2.1 dX0_sayNext_31 hl (by decide) rfl (fun ls hl => ?_)
        refine lv_aload_n X.1 X.2.1 dX0_sayNext_33 rfl (lv_at hl 1 rfl) ?_
        refine lv_aload_n X.1 X.2.1 dX0_sayNext_34 rfl (lv_at hl 2 rfl) ?_
        obtain ⟨r_4, hc_4, h⟩ := bd_el h
        refine call_V1i (As := [.ref (a3 0)]) (rest := []) X (c_X0_isKeepingUp_n l dC dI sk sv tc a0 a1 a2 a3 a4 g0 g1_3 g2_3 g3 g4 hc_4) mw_5_217 mw_5_160 mw_5_161 mw_1_8 mw_5_162 dc_X0_isKeepingUp ⟨Nat.le_of_ble_eq_true rfl, Nat.le_of_ble_eq_true rfl⟩ rfl rfl ⟨Nat.zero_le _, Nat.zero_le _⟩ hP (hD _ _ _ _ _) hS 0 rfl rfl rfl hl.1 (Nat.le_of_ble_eq_true rfl) dX0_sayNext_35 (fun H locs hP hS => ?_)
        obtain ⟨J126, eJ126, h⟩ := jn_el h
        have HJ126 : ∀ (x5_J126 : Int32) (g3_J126 : Pic) (H : Heap) (locs : List Loc) (ls : Array Slot), J126 x5_J126 g3_J126 = some ex → va_P (dC, dI) vwCl (wCk tc a0 g0 (a2 0) (a1 0) ++ (wFa tc a1 g1_3 ++ (wHd tc a2 g2_3 ++ (wSt tc a3 g3_J126 none (a4 0) ++ (wLg tc a4 g4))))) H → va_S A s.heap H locs → lv_has ls 8 [(0, .ref (a0 0)), (1, .ref (a3 0)), (2, .int x2), (3, .int x3), (4, .int x4), (5, .int x5_J126)] → W pr l e rm_X0_sayNext_n s m args below meth c H locs 0 0 Q (F0 m 126 ls []) := by
          intro x5_J126 g3_J126 H locs ls h hP hS hl
          rw [eJ126] at h
          refine lv_aload_n X.1 X.2.1 dX0_sayNext_126 rfl (lv_at hl 1 rfl) ?_
          refine r_get (C := RX9) (T := TX9) (N := 20) (ci := 9) (v := .ref (a3 13)) X iw9 hP 7 rfl rfl 12 rfl mw_1_169 rfl dX0_sayNext_127 ?_
          refine lv_iload X.1 X.2.1 dX0_sayNext_130 (lv_at hl 4 rfl) ?_
          refine lv_bipush (v := 20) X.1 X.2.1 dX0_sayNext_132 (by decide) ?_
          refine lv_imul X.1 X.2.1 dX0_sayNext_134 ?_
          refine lv_aload_n X.1 X.2.1 dX0_sayNext_135 rfl (lv_at hl 1 rfl) ?_
          refine r_get (C := RX9) (T := TX9) (N := 20) (ci := 9) (v := .int (g3_J126 6 0)) X iw9 hP 7 rfl rfl 6 rfl mw_1_137 rfl dX0_sayNext_136 ?_
          refine lv_iadd X.1 X.2.1 dX0_sayNext_139 ?_
          refine lv_iload X.1 X.2.1 dX0_sayNext_140 (lv_at hl 5 rfl) ?_
          obtain ⟨hg_5, h⟩ := gdi_el h
          obtain ⟨g3_6, eg3_6, h⟩ := nm_el h
          refine r_iast X hP (hD _ _ _ _ _) hS 16 0 rfl rfl hg_5 rfl dX0_sayNext_142 (wCk tc a0 g0 (a2 0) (a1 0) ++ (wFa tc a1 g1_3 ++ (wHd tc a2 g2_3 ++ (wSt tc a3 g3_6 none (a4 0) ++ (wLg tc a4 g4))))) (by rw [eg3_6]; rfl) (fun H locs hP hS => ?_)
          refine lv_aload_n X.1 X.2.1 dX0_sayNext_143 rfl (lv_at hl 1 rfl) ?_
          refine r_get (C := RX9) (T := TX9) (N := 20) (ci := 9) (v := .ref (a4 0)) X iw9 hP 7 rfl rfl 19 rfl mw_1_192 rfl dX0_sayNext_144 ?_
          refine lv_aload_n X.1 X.2.1 dX0_sayNext_147 rfl (lv_at hl 1 rfl) ?_
          refine r_get (C := RX9) (T := TX9) (N := 20) (ci := 9) (v := .int (g3_6 15 0)) X iw9 hP 7 rfl rfl 15 rfl mw_1_180 rfl dX0_sayNext_148 ?_
          refine lv_iload X.1 X.2.1 dX0_sayNext_151 (lv_at hl 4 rfl) ?_
          refine lv_iload_n X.1 X.2.1 dX0_sayNext_153 rfl (lv_at hl 3 rfl) ?_
          refine lv_iload X.1 X.2.1 dX0_sayNext_154 (lv_at hl 5 rfl) ?_
          obtain ⟨g4_7, hc_7, h⟩ := bd_el h
          refine call_Vsv (ws := (wCk tc a0 g0 (a2 0) (a1 0) ++ (wFa tc a1 g1_3 ++ (wHd tc a2 g2_3 ++ (wSt tc a3 g3_6 none (a4 0) ++ (wLg tc a4 g4)))))) (ws' := (wCk tc a0 g0 (a2 0) (a1 0) ++ (wFa tc a1 g1_3 ++ (wHd tc a2 g2_3 ++ (wSt tc a3 g3_6 none (a4 0) ++ (wLg tc a4 g4_7)))))) (wCk tc a0 g0 (a2 0) (a1 0) ++ (wFa tc a1 g1_3 ++ (wHd tc a2 g2_3 ++ (wSt tc a3 g3_6 none (a4 0))))) [] (As := [.int (g3_6 15 0), .int x4, .int x3, .int x5_J126]) (rest := []) X (c_X7_add l dC dI sk sv tc a4 g4 (g3_6 15 0) x4 x3 x5_J126 hc_7) mw_5_228 mw_5_229 mw_5_230 mw_1_4 mw_5_231 dc_X7_add ⟨Nat.le_of_ble_eq_true rfl, Nat.le_of_ble_eq_true rfl⟩ rfl rfl ⟨Nat.zero_le _, Nat.zero_le _⟩ (by simp only [List.append_assoc, List.nil_append, List.append_nil]) (by simp only [List.append_assoc, List.nil_append, List.append_nil]) hP (hD _ _ _ _ _) hS 0 rfl rfl rfl hl.1 (Nat.le_of_ble_eq_true rfl) dX0_sayNext_156 (fun H locs hP hS => ?_)
          obtain ⟨x4_8, ex4_8, h⟩ := nm_el h
          refine lv_iinc (v := x4_8) (lv' := [(4, .int x4_8), (0, .ref (a0 0)), (1, .ref (a3 0)), (2, .int x2), (3, .int x3), (5, .int x5_J126)]) X.1 X.2.1 dX0_sayNext_159 hl (k := 4) rfl (by rw [ex4_8]; rfl) (by decide) rfl (fun ls hl => ?_)
          refine lv_goto (tgt := 13) X.1 X.2.1 dX0_sayNext_162 (by decide) ?_
          exact ih x4_8 g1_3 g2_3 g3_6 g4_7 ex h H locs ls hP hS (lv_sub hl [1, 2, 3, 4, 0] rfl) K
        refine lv_if_eq (tgt := 119) X.1 X.2.1 dX0_sayNext_38 (by decide) (fun hc => ?_) (fun hc => ?_)
        · have h := it_t hc h
          refine lv_aload_n X.1 X.2.1 dX0_sayNext_119 rfl (lv_at hl 1 rfl) ?_
          refine lv_aload_n X.1 X.2.1 dX0_sayNext_120 rfl (lv_at hl 2 rfl) ?_
          refine lv_iload X.1 X.2.1 dX0_sayNext_121 (lv_at hl 5 rfl) ?_
          obtain ⟨g3_9, hc_9, h⟩ := bd_el h
          refine call_V1v (As := [.ref (a3 0), .int x4]) (rest := []) X (c_X0_restOne_n l dC dI sk sv tc a0 a1 a2 a3 a4 g0 g1_3 g2_3 g3 g4 x4 hc_9) mw_5_224 mw_5_225 mw_5_226 mw_1_8 mw_5_227 dc_X0_restOne ⟨Nat.le_of_ble_eq_true rfl, Nat.le_of_ble_eq_true rfl⟩ rfl rfl ⟨Nat.zero_le _, Nat.zero_le _⟩ hP (hD _ _ _ _ _) hS 0 rfl rfl rfl hl.1 (Nat.le_of_ble_eq_true rfl) dX0_sayNext_123 (fun H locs hP hS => ?_)
          exact HJ126 0 g3_9 H locs ls h hP hS (lv_sub hl [1, 2, 3, 4, 5, 0] rfl)
        · have h := it_f hc h
          refine lv_iload_n X.1 X.2.1 dX0_sayNext_41 rfl (lv_at hl 3 rfl) ?_
          obtain ⟨J65, eJ65, h⟩ := jn_el h
          have HJ65 : ∀ (s0_J65 : Int32) (g3_J65 : Pic) (H : Heap) (locs : List Loc) (ls : Array Slot), J65 s0_J65 g3_J65 = some ex → va_P (dC, dI) vwCl (wCk tc a0 g0 (a2 0) (a1 0) ++ (wFa tc a1 g1_3 ++ (wHd tc a2 g2_3 ++ (wSt tc a3 g3_J65 none (a4 0) ++ (wLg tc a4 g4))))) H → va_S A s.heap H locs → lv_has ls 8 [(0, .ref (a0 0)), (1, .ref (a3 0)), (2, .int x2), (3, .int x3), (4, .int x4)] → W pr l e rm_X0_sayNext_n s m args below meth c H locs 0 0 Q (F0 m 65 ls [.int s0_J65]) := by
            intro s0_J65 g3_J65 H locs ls h hP hS hl
            rw [eJ65] at h
            refine lv_istore (lv' := [(6, .int s0_J65), (0, .ref (a0 0)), (1, .ref (a3 0)), (2, .int x2), (3, .int x3), (4, .int x4)]) X.1 X.2.1 dX0_sayNext_65 hl (by decide) rfl (fun ls hl => ?_)
            refine lv_iload X.1 X.2.1 dX0_sayNext_67 (lv_at hl 0 rfl) ?_
            obtain ⟨J77, eJ77, h⟩ := jn_el h
            have HJ77 : ∀ (s0_J77 : Int32) (H : Heap) (locs : List Loc) (ls : Array Slot), J77 s0_J77 = some ex → va_P (dC, dI) vwCl (wCk tc a0 g0 (a2 0) (a1 0) ++ (wFa tc a1 g1_3 ++ (wHd tc a2 g2_3 ++ (wSt tc a3 g3_J65 none (a4 0) ++ (wLg tc a4 g4))))) H → va_S A s.heap H locs → lv_has ls 8 [(0, .ref (a0 0)), (1, .ref (a3 0)), (2, .int x2), (3, .int x3), (4, .int x4)] → W pr l e rm_X0_sayNext_n s m args below meth c H locs 0 0 Q (F0 m 77 ls [.int s0_J77]) := by
              intro s0_J77 H locs ls h hP hS hl
              rw [eJ77] at h
              refine lv_istore (lv' := [(5, .int s0_J77), (0, .ref (a0 0)), (1, .ref (a3 0)), (2, .int x2), (3, .int x3), (4, .int x4)]) X.1 X.2.1 dX0_sayNext_77 hl (by decide) rfl (fun ls hl => ?_)
              refine lv_aload_n X.1 X.2.1 dX0_sayNext_79 rfl (lv_at hl 2 rfl) ?_
              refine r_get (C := RX9) (T := TX9) (N := 20) (ci := 9) (v := .ref (a3 12)) X iw9 hP 7 rfl rfl 11 rfl mw_1_164 rfl dX0_sayNext_80 ?_
              refine lv_iload X.1 X.2.1 dX0_sayNext_83 (lv_at hl 5 rfl) ?_
              obtain ⟨hg_10, h⟩ := gdi_el h
              refine r_iald X hP 15 0 rfl rfl hg_10 rfl dX0_sayNext_85 ?_
              refine lv_aload_n X.1 X.2.1 dX0_sayNext_86 rfl (lv_at hl 1 rfl) ?_
              refine r_get (C := RX0) (T := TX0) (N := 2) (ci := 0) (v := .ref (a1 0)) X iw0 hP 0 rfl rfl 1 rfl mw_2_67 rfl dX0_sayNext_87 ?_
              refine lv_iconst (v := 2) X.1 X.2.1 dX0_sayNext_90 (by decide) ?_
              refine r_iald X hP 1 0 rfl rfl (j := 2) (by unfold vp_in; decide) (by decide) dX0_sayNext_91 ?_
              refine lv_iadd X.1 X.2.1 dX0_sayNext_92 ?_
              refine lv_aload_n X.1 X.2.1 dX0_sayNext_93 rfl (lv_at hl 1 rfl) ?_
              refine lv_aload_n X.1 X.2.1 dX0_sayNext_94 rfl (lv_at hl 2 rfl) ?_
              refine lv_iconst (v := 0) X.1 X.2.1 dX0_sayNext_95 (by decide) ?_
              obtain ⟨r_11, hc_11, h⟩ := bd_el h
              refine call_V1i (As := [.ref (a3 0), .int 0]) (rest := [.int ((g3_J65 11 (x4.toNatClampNeg)) + (g1_3 0 2))]) X (c_X0_lawOf_n l dC dI sk sv tc a0 a1 a2 a3 a4 g0 g1_3 g2_3 g3_J65 g4 0 hc_11) mw_5_174 mw_5_175 mw_5_176 mw_1_8 mw_5_177 dc_X0_lawOf ⟨Nat.le_of_ble_eq_true rfl, Nat.le_of_ble_eq_true rfl⟩ rfl rfl ⟨Nat.zero_le _, Nat.zero_le _⟩ hP (hD _ _ _ _ _) hS 0 rfl rfl rfl hl.1 (Nat.le_of_ble_eq_true rfl) dX0_sayNext_96 (fun H locs hP hS => ?_)
              refine lv_iadd X.1 X.2.1 dX0_sayNext_99 ?_
              obtain ⟨x7_12, ex7_12, h⟩ := nm_el h
              refine tp_i ex7_12 ?_
              refine lv_istore (lv' := [(7, .int x7_12), (5, .int s0_J77), (0, .ref (a0 0)), (1, .ref (a3 0)), (2, .int x2), (3, .int x3), (4, .int x4)]) X.1 X.2.1 dX0_sayNext_100 hl (by decide) rfl (fun ls hl => ?_)
              refine lv_aload_n X.1 X.2.1 dX0_sayNext_102 rfl (lv_at hl 3 rfl) ?_
              refine r_get (C := RX9) (T := TX9) (N := 20) (ci := 9) (v := .ref (a3 12)) X iw9 hP 7 rfl rfl 11 rfl mw_1_164 rfl dX0_sayNext_103 ?_
              refine lv_iload X.1 X.2.1 dX0_sayNext_106 (lv_at hl 6 rfl) ?_
              refine lv_iload X.1 X.2.1 dX0_sayNext_108 (lv_at hl 0 rfl) ?_
              refine lv_bipush (v := 99) X.1 X.2.1 dX0_sayNext_110 (by decide) ?_
              refine r_min X mw_5_190 mw_3_9 mw_1_25 mw_3_10 hl.1 (Nat.le_of_ble_eq_true rfl) (Nat.le_of_ble_eq_true rfl) ⟨Nat.zero_le _, Nat.zero_le _⟩ dX0_sayNext_112 ?_
              obtain ⟨hg_13, h⟩ := gdi_el h
              obtain ⟨g3_14, eg3_14, h⟩ := nm_el h
              refine r_iast X hP (hD _ _ _ _ _) hS 15 0 rfl rfl hg_13 rfl dX0_sayNext_115 (wCk tc a0 g0 (a2 0) (a1 0) ++ (wFa tc a1 g1_3 ++ (wHd tc a2 g2_3 ++ (wSt tc a3 g3_14 none (a4 0) ++ (wLg tc a4 g4))))) (by rw [eg3_14]; rfl) (fun H locs hP hS => ?_)
              refine lv_goto (tgt := 126) X.1 X.2.1 dX0_sayNext_116 (by decide) ?_
              exact HJ126 s0_J77 g3_14 H locs ls h hP hS (lv_sub hl [2, 3, 4, 5, 6, 1] rfl)
            refine lv_if_eq (tgt := 76) X.1 X.2.1 dX0_sayNext_69 (by decide) (fun hc => ?_) (fun hc => ?_)
            · have h := it_t hc h
              refine lv_iconst (v := 1) X.1 X.2.1 dX0_sayNext_76 (by decide) ?_
              exact HJ77 1 H locs ls h hP hS (lv_sub hl [1, 2, 3, 4, 5] rfl)
            · have h := it_f hc h
              refine lv_iconst (v := 2) X.1 X.2.1 dX0_sayNext_72 (by decide) ?_
              refine lv_goto (tgt := 77) X.1 X.2.1 dX0_sayNext_73 (by decide) ?_
              exact HJ77 2 H locs ls h hP hS (lv_sub hl [1, 2, 3, 4, 5] rfl)
          obtain ⟨J64, eJ64, h⟩ := jn_el h
          have HJ64 : ∀ (g3_J64 : Pic) (H : Heap) (locs : List Loc) (ls : Array Slot), J64 g3_J64 = some ex → va_P (dC, dI) vwCl (wCk tc a0 g0 (a2 0) (a1 0) ++ (wFa tc a1 g1_3 ++ (wHd tc a2 g2_3 ++ (wSt tc a3 g3_J64 none (a4 0) ++ (wLg tc a4 g4))))) H → va_S A s.heap H locs → lv_has ls 8 [(0, .ref (a0 0)), (1, .ref (a3 0)), (2, .int x2), (3, .int x3), (4, .int x4)] → W pr l e rm_X0_sayNext_n s m args below meth c H locs 0 0 Q (F0 m 64 ls []) := by
            intro g3_J64 H locs ls h hP hS hl
            rw [eJ64] at h
            refine lv_iconst (v := 0) X.1 X.2.1 dX0_sayNext_64 (by decide) ?_
            exact HJ65 0 g3_J64 H locs ls h hP hS (lv_sub hl [0, 1, 2, 3, 4] rfl)
          refine lv_if_eq (tgt := 64) X.1 X.2.1 dX0_sayNext_42 (by decide) (fun hc => ?_) (fun hc => ?_)
          · have h := it_t hc h
            exact HJ64 g3 H locs ls h hP hS (lv_sub hl [1, 2, 3, 4, 5] rfl)
          · have h := it_f hc h
            refine lv_aload_n X.1 X.2.1 dX0_sayNext_45 rfl (lv_at hl 2 rfl) ?_
            obtain ⟨r_15, g3_15, hc_15, h⟩ := bd2_el h
            refine call_Vsi (ws := (wCk tc a0 g0 (a2 0) (a1 0) ++ (wFa tc a1 g1_3 ++ (wHd tc a2 g2_3 ++ (wSt tc a3 g3 none (a4 0) ++ (wLg tc a4 g4)))))) (ws' := (wCk tc a0 g0 (a2 0) (a1 0) ++ (wFa tc a1 g1_3 ++ (wHd tc a2 g2_3 ++ (wSt tc a3 g3_15 none (a4 0) ++ (wLg tc a4 g4)))))) (wCk tc a0 g0 (a2 0) (a1 0) ++ (wFa tc a1 g1_3 ++ (wHd tc a2 g2_3))) (wLg tc a4 g4) (As := []) (rest := []) X (c_X9_draw l dC dI sk sv tc a3 none (a4 0) g3 hc_15) mw_5_218 mw_5_219 mw_5_220 mw_1_3 mw_5_221 dc_X9_draw ⟨Nat.le_of_ble_eq_true rfl, Nat.le_of_ble_eq_true rfl⟩ rfl rfl ⟨Nat.zero_le _, Nat.zero_le _⟩ (by simp only [List.append_assoc, List.nil_append, List.append_nil]) (by simp only [List.append_assoc, List.nil_append, List.append_nil]) hP (hD _ _ _ _ _) hS 0 rfl rfl rfl hl.1 (Nat.le_of_ble_eq_true rfl) dX0_sayNext_46 (fun H locs hP hS => ?_)
            refine lv_bipush (v := 100) X.1 X.2.1 dX0_sayNext_49 (by decide) ?_
            refine lv_irem X.1 X.2.1 dX0_sayNext_51 (by decide) ?_
            refine lv_aload_n X.1 X.2.1 dX0_sayNext_52 rfl (lv_at hl 1 rfl) ?_
            refine lv_aload_n X.1 X.2.1 dX0_sayNext_53 rfl (lv_at hl 2 rfl) ?_
            obtain ⟨r_16, hc_16, h⟩ := bd_el h
            refine call_V1i (As := [.ref (a3 0)]) (rest := [.int (r_15 - r_15 / 100 * 100)]) X (c_X0_slipsOf_n l dC dI sk sv tc a0 a1 a2 a3 a4 g0 g1_3 g2_3 g3_15 g4 hc_16) mw_5_223 mw_5_171 mw_5_172 mw_1_8 mw_5_173 dc_X0_slipsOf ⟨Nat.le_of_ble_eq_true rfl, Nat.le_of_ble_eq_true rfl⟩ rfl rfl ⟨Nat.zero_le _, Nat.zero_le _⟩ hP (hD _ _ _ _ _) hS 0 rfl rfl rfl hl.1 (Nat.le_of_ble_eq_true rfl) dX0_sayNext_54 (fun H locs hP hS => ?_)
            refine lv_icmp_ge (tgt := 64) X.1 X.2.1 dX0_sayNext_57 (by decide) (fun hc => ?_) (fun hc => ?_)
            · have h := it_t hc h
              exact HJ64 g3_15 H locs ls h hP hS (lv_sub hl [1, 2, 3, 4, 5] rfl)
            · have h := it_f hc h
              refine lv_iconst (v := 1) X.1 X.2.1 dX0_sayNext_60 (by decide) ?_
              refine lv_goto (tgt := 65) X.1 X.2.1 dX0_sayNext_61 (by decide) ?_
              exact HJ65 1 g3_15 H locs ls h hP hS (lv_sub hl [1, 2, 3, 4, 5] rfl)
  unfold f_X0_sayNext_n at h
  refine lv_aload_n X.1 X.2.1 dX0_sayNext_0 rfl (lv_at hl 1 rfl) ?_
  refine r_get (C := RX9) (T := TX9) (N := 20) (ci := 9) (v := .ref (a3 6)) X iw9 hP 7 rfl rfl 5 rfl mw_1_132 rfl dX0_sayNext_1 ?_
  refine lv_aload_n X.1 X.2.1 dX0_sayNext_4 rfl (lv_at hl 1 rfl) ?_
  refine r_get (C := RX9) (T := TX9) (N := 20) (ci := 9) (v := .int (g3 6 0)) X iw9 hP 7 rfl rfl 6 rfl mw_1_137 rfl dX0_sayNext_5 ?_
  obtain ⟨hg_1, h⟩ := gdi_el h
  refine r_iald X hP 11 0 rfl rfl hg_1 rfl dX0_sayNext_8 ?_
  obtain ⟨x3_2, ex3_2, h⟩ := nm_el h
  refine tp_i ex3_2 ?_
  refine lv_istore_n (lv' := [(3, .int x3_2), (0, .ref (a0 0)), (1, .ref (a3 0)), (2, .int x2)]) X.1 X.2.1 dX0_sayNext_9 rfl hl (by decide) rfl (fun ls hl => ?_)
  refine lv_iconst (v := 0) X.1 X.2.1 dX0_sayNext_10 (by decide) ?_
  refine lv_istore (lv' := [(4, .int 0), (3, .int x3_2), (0, .ref (a0 0)), (1, .ref (a3 0)), (2, .int x2)]) X.1 X.2.1 dX0_sayNext_11 hl (by decide) rfl (fun ls hl => ?_)
  obtain ⟨ex_17, hL_17, h⟩ := bd_el h
  refine HL13 x2 x3_2 fu 0 g1 g2 g3 g4 ex_17 hL_17 H locs ls hP hS (lv_sub hl [2, 3, 4, 1, 0] rfl) (fun g1_17 g2_17 g3_17 g4_17 he H locs ls hP hS hl => ?_)
  subst he
  refine lv_aload_n X.1 X.2.1 dX0_sayNext_165 rfl (lv_at hl 0 rfl) ?_
  refine lv_dup X.1 X.2.1 dX0_sayNext_166 rfl ?_
  refine r_get (C := RX9) (T := TX9) (N := 20) (ci := 9) (v := .int (g3_17 6 0)) X iw9 hP 7 rfl rfl 6 rfl mw_1_137 rfl dX0_sayNext_167 ?_
  refine lv_iconst (v := 1) X.1 X.2.1 dX0_sayNext_170 (by decide) ?_
  refine lv_iadd X.1 X.2.1 dX0_sayNext_171 ?_
  obtain ⟨g3_18, eg3_18, h⟩ := nm_el h
  refine r_put (C := RX9) (T := TX9) (N := 20) (ci := 9) tyX9 tyX9_ok nmX9 X iw9 hP (hD _ _ _ _ _) hS 7 rfl rfl 6 rfl mw_1_137 rfl rfl rfl rfl dX0_sayNext_172 (wCk tc a0 g0 (a2 0) (a1 0) ++ (wFa tc a1 g1_17 ++ (wHd tc a2 g2_17 ++ (wSt tc a3 g3_18 none (a4 0) ++ (wLg tc a4 g4_17))))) (by rw [eg3_18]; rfl) (fun H locs hP hS => ?_)
  exact ret_v (fun u => (wCk tc a0 g0 (a2 0) (a1 0) ++ (wFa tc a1 u.1 ++ (wHd tc a2 u.2.1 ++ (wSt tc a3 u.2.2.1 none (a4 0) ++ (wLg tc a4 u.2.2.2)))))) (res := (G1, G2, G3, G4)) (Option.some.inj h) X hQ hP hS dX0_sayNext_175

def f_X0_sayNext_l_L13 (ln1 : Nat → Nat) (x2 : Int32) (x3 : Int32) (g0 : Pic) (n : Nat) (a : Int32 × Pic × Pic × Pic × Pic × Pic) : Option (Pic × Pic × Pic × Pic × Pic) := lp (fun (rec : Int32 × Pic × Pic × Pic × Pic × Pic → Option (Pic × Pic × Pic × Pic × Pic)) (a : Int32 × Pic × Pic × Pic × Pic × Pic) => match a with | (x4, g1, g2, g3, g4, g5) => (if (g4 7 0) ≤ x4 then some (g1, g2, g3, g4, g5) else bd2 (f_X0_observe_l ln1 g0 g1 g2 g3 g4 g5 x4 x3) (fun g2_3 g3_3 => bd (f_X0_isKeepingUp_l ln1 g0 g1 g2_3 g3_3 g4 g5) (fun r_4 => jn (fun (x5_J126 : Int32) (g1_J126 : Pic) (g4_J126 : Pic) => gdi ((x4 * 20) + (g4_J126 6 0)) 100 (nm (pu g4_J126 12 (((x4 * 20) + (g4_J126 6 0)).toNatClampNeg) x5_J126) (fun g4_6 => bd (f_X7_add g5 (g4_6 15 0) x4 x3 x5_J126) (fun g5_7 => nm (x4 + 1) (fun x4_8 => rec (x4_8, g1_J126, g2_3, g3_3, g4_6, g5_7)))))) (fun J126 => (if r_4 = 0 then bd2 (f_X0_restOne_l ln1 g0 g1 g2_3 g3_3 g4 g5 x4) (fun g1_9 g4_9 => J126 0 g1_9 g4_9) else jn (fun (s0_J65 : Int32) (g1_J65 : Pic) (g4_J65 : Pic) => jn (fun (s0_J77 : Int32) => gdi x4 5 (bd2 (f_X0_lawOf_l ln1 g0 g1_J65 g2_3 g3_3 g4_J65 g5 0) (fun r_11 g1_11 => nm ((((g4_J65 11 (x4.toNatClampNeg)) + (g2_3 0 2)) + r_11)) (fun x7_12 => gdi x4 5 (nm (pu g4_J65 11 (x4.toNatClampNeg) (if 99 < x7_12 then 99 else x7_12)) (fun g4_14 => J126 s0_J77 g1_11 g4_14)))))) (fun J77 => (if s0_J65 = 0 then J77 1 else J77 2))) (fun J65 => jn (fun (g1_J64 : Pic) (g4_J64 : Pic) => J65 0 g1_J64 g4_J64) (fun J64 => (if x2 = 0 then J64 g1 g4 else bd2 (f_X9_draw g4) (fun r_15 g4_15 => bd2 (f_X0_slipsOf_l ln1 g0 g1 g2_3 g3_3 g4_15 g5) (fun r_16 g1_16 => (if r_16 ≤ (r_15 - r_15 / 100 * 100) then J64 g1_16 g4_15 else J65 1 g1_16 g4_15)))))))))))) n a
def f_X0_sayNext_l (ln1 : Nat → Nat) (g0 : Pic) (g1 : Pic) (g2 : Pic) (g3 : Pic) (g4 : Pic) (g5 : Pic) (x2 : Int32) : Option (Pic × Pic × Pic × Pic × Pic) := gdi (g4 6 0) 20 (nm ((g4 5 ((g4 6 0).toNatClampNeg))) (fun x3_2 => bd (f_X0_sayNext_l_L13 ln1 x2 x3_2 g0 fu (0, g1, g2, g3, g4, g5)) (fun (g1_17, g2_17, g3_17, g4_17, g5_17) => nm (pu g4_17 6 0 ((g4_17 6 0) + 1)) (fun g4_18 => some (g1_17, g2_17, g3_17, g4_18, g5_17)))))
abbrev rm_X0_sayNext_l : Room := { frames := 5, cells := 0, slots := 0, locals := 116 }
set_option maxHeartbeats 4000000 in
set_option maxRecDepth 100000 in
theorem c_X0_sayNext_l (l : Launch) (dC : Nat → ClassId) (dI : Nat → Nat → Nat) (sk sv : Nat → Nat) (tc : Nat → ClassId) (ln1 : Nat → Nat) (a0 : Nat → Nat) (a1 : Nat → Nat) (a2 : Nat → Nat) (a3 : Nat → Nat) (a4 : Nat → Nat) (a5 : Nat → Nat) (g0 : Pic) (g1 : Pic) (g2 : Pic) (g3 : Pic) (g4 : Pic) (g5 : Pic) (x2 : Int32) {G1 : Pic} {G2 : Pic} {G3 : Pic} {G4 : Pic} {G5 : Pic} (h : f_X0_sayNext_l ln1 g0 g1 g2 g3 g4 g5 x2 = some (G1, G2, G3, G4, G5)) : CT l (dC, dI) sk sv (TY tc) yX0_sayNext cX0_sayNext 8 none rm_X0_sayNext_l [.ref (a0 0), .ref (a4 0), .int x2] (wCk tc a0 g0 (a3 0) (a2 0) ++ (wLw tc a1 g1 ln1 ++ (wFa tc a2 g2 ++ (wHd tc a3 g3 ++ (wSt tc a4 g4 (some (a1 0)) (a5 0) ++ (wLg tc a5 g5)))))) none (wCk tc a0 g0 (a3 0) (a2 0) ++ (wLw tc a1 G1 ln1 ++ (wFa tc a2 G2 ++ (wHd tc a3 G3 ++ (wSt tc a4 G4 (some (a1 0)) (a5 0) ++ (wLg tc a5 G5)))))) := by
  refine ofCT (by decide) (Nat.le_of_ble_eq_true rfl) ?_
  intro pr e s m args below meth c A Q ls H locs X hQ hD0 hP hS hl
  have hD : ∀ z0 z1 z2 z3 z4 z5, va_D A (wCk tc a0 z0 (a3 0) (a2 0) ++ (wLw tc a1 z1 ln1 ++ (wFa tc a2 z2 ++ (wHd tc a3 z3 ++ (wSt tc a4 z4 (some (a1 0)) (a5 0) ++ (wLg tc a5 z5)))))) := fun z0 z1 z2 z3 z4 z5 => D_fst (ws := (wCk tc a0 g0 (a3 0) (a2 0) ++ (wLw tc a1 g1 ln1 ++ (wFa tc a2 g2 ++ (wHd tc a3 g3 ++ (wSt tc a4 g4 (some (a1 0)) (a5 0) ++ (wLg tc a5 g5))))))) rfl hD0
  have hl : lv_has ls 8 [(0, .ref (a0 0)), (1, .ref (a4 0)), (2, .int x2)] := hl
  have HL13 : ∀ (x2 : Int32) (x3 : Int32) (n : Nat) (x4 : Int32) (g1 : Pic) (g2 : Pic) (g3 : Pic) (g4 : Pic) (g5 : Pic) (ex : (Pic × Pic × Pic × Pic × Pic)), f_X0_sayNext_l_L13 ln1 x2 x3 g0 n (x4, g1, g2, g3, g4, g5) = some ex → ∀ (H : Heap) (locs : List Loc) (ls : Array Slot), va_P (dC, dI) vwCl (wCk tc a0 g0 (a3 0) (a2 0) ++ (wLw tc a1 g1 ln1 ++ (wFa tc a2 g2 ++ (wHd tc a3 g3 ++ (wSt tc a4 g4 (some (a1 0)) (a5 0) ++ (wLg tc a5 g5)))))) H → va_S A s.heap H locs → lv_has ls 8 [(0, .ref (a0 0)), (1, .ref (a4 0)), (2, .int x2), (3, .int x3), (4, .int x4)] → (∀ (k1 : Pic) (k2 : Pic) (k3 : Pic) (k4 : Pic) (k5 : Pic), (k1, k2, k3, k4, k5) = ex → ∀ (H : Heap) (locs : List Loc) (ls : Array Slot), va_P (dC, dI) vwCl (wCk tc a0 g0 (a3 0) (a2 0) ++ (wLw tc a1 k1 ln1 ++ (wFa tc a2 k2 ++ (wHd tc a3 k3 ++ (wSt tc a4 k4 (some (a1 0)) (a5 0) ++ (wLg tc a5 k5)))))) H → va_S A s.heap H locs → lv_has ls 8 [(1, .ref (a4 0))] → W pr l e rm_X0_sayNext_l s m args below meth c H locs 0 0 Q (F0 m 165 ls [])) → W pr l e rm_X0_sayNext_l s m args below meth c H locs 0 0 Q (F0 m 13 ls []) := by
    intro x2 x3 n
    induction n with
    | zero => intro x4 g1 g2 g3 g4 g5 ex h; exact lp_z h
    | succ n ih =>
      intro x4 g1 g2 g3 g4 g5 ex h H locs ls hP hS hl K
      have h := lp_s h
      refine lv_iload X.1 X.2.1 dX0_sayNext_13 (lv_at hl 4 rfl) ?_
      refine lv_aload_n X.1 X.2.1 dX0_sayNext_15 rfl (lv_at hl 1 rfl) ?_
      refine r_get (C := RX9) (T := TX9) (N := 20) (ci := 9) (v := .int (g4 7 0)) X iw9 hP 13 rfl rfl 7 rfl mw_1_142 rfl dX0_sayNext_16 ?_
      refine lv_icmp_ge (tgt := 165) X.1 X.2.1 dX0_sayNext_19 (by decide) (fun hc => ?_) (fun hc => ?_)
      · have h := it_t hc h
        exact K g1 g2 g3 g4 g5 (Option.some.inj h) H locs ls hP hS (lv_sub hl [1] rfl)
      · have h := it_f hc h
        refine lv_aload_n X.1 X.2.1 dX0_sayNext_22 rfl (lv_at hl 0 rfl) ?_
        refine lv_aload_n X.1 X.2.1 dX0_sayNext_23 rfl (lv_at hl 1 rfl) ?_
        refine lv_iload X.1 X.2.1 dX0_sayNext_24 (lv_at hl 4 rfl) ?_
        refine lv_iload_n X.1 X.2.1 dX0_sayNext_26 rfl (lv_at hl 3 rfl) ?_
        obtain ⟨g2_3, g3_3, hc_3, h⟩ := bd2_el h
        refine call_V1v (As := [.ref (a4 0), .int x4, .int x3]) (rest := []) X (c_X0_observe_l l dC dI sk sv tc ln1 a0 a1 a2 a3 a4 a5 g0 g1 g2 g3 g4 g5 x4 x3 hc_3) mw_5_216 mw_5_154 mw_5_155 mw_1_8 mw_5_156 dc_X0_observe ⟨Nat.le_of_ble_eq_true rfl, Nat.le_of_ble_eq_true rfl⟩ rfl rfl ⟨Nat.zero_le _, Nat.zero_le _⟩ hP (hD _ _ _ _ _ _) hS 0 rfl rfl rfl hl.1 (Nat.le_of_ble_eq_true rfl) dX0_sayNext_27 (fun H locs hP hS => ?_)
        refine lv_iconst (v := 0) X.1 X.2.1 dX0_sayNext_30 (by decide) ?_
        refine lv_istore (lv' := [(5, .int 0), (0, .ref (a0 0)), (1, .ref (a4 0)), (2, .int x2), (3, .int x3), (4, .int x4)]) X.1 X.2.1 dX0_sayNext_31 hl (by decide) rfl (fun ls hl => ?_)
        refine lv_aload_n X.1 X.2.1 dX0_sayNext_33 rfl (lv_at hl 1 rfl) ?_
        refine lv_aload_n X.1 X.2.1 dX0_sayNext_34 rfl (lv_at hl 2 rfl) ?_
        obtain ⟨r_4, hc_4, h⟩ := bd_el h
        refine call_V1i (As := [.ref (a4 0)]) (rest := []) X (c_X0_isKeepingUp_l l dC dI sk sv tc ln1 a0 a1 a2 a3 a4 a5 g0 g1 g2_3 g3_3 g4 g5 hc_4) mw_5_217 mw_5_160 mw_5_161 mw_1_8 mw_5_162 dc_X0_isKeepingUp ⟨Nat.le_of_ble_eq_true rfl, Nat.le_of_ble_eq_true rfl⟩ rfl rfl ⟨Nat.zero_le _, Nat.zero_le _⟩ hP (hD _ _ _ _ _ _) hS 0 rfl rfl rfl hl.1 (Nat.le_of_ble_eq_true rfl) dX0_sayNext_35 (fun H locs hP hS => ?_)
        obtain ⟨J126, eJ126, h⟩ := jn_el h
        have HJ126 : ∀ (x5_J126 : Int32) (g1_J126 : Pic) (g4_J126 : Pic) (H : Heap) (locs : List Loc) (ls : Array Slot), J126 x5_J126 g1_J126 g4_J126 = some ex → va_P (dC, dI) vwCl (wCk tc a0 g0 (a3 0) (a2 0) ++ (wLw tc a1 g1_J126 ln1 ++ (wFa tc a2 g2_3 ++ (wHd tc a3 g3_3 ++ (wSt tc a4 g4_J126 (some (a1 0)) (a5 0) ++ (wLg tc a5 g5)))))) H → va_S A s.heap H locs → lv_has ls 8 [(0, .ref (a0 0)), (1, .ref (a4 0)), (2, .int x2), (3, .int x3), (4, .int x4), (5, .int x5_J126)] → W pr l e rm_X0_sayNext_l s m args below meth c H locs 0 0 Q (F0 m 126 ls []) := by
          intro x5_J126 g1_J126 g4_J126 H locs ls h hP hS hl
          rw [eJ126] at h
          refine lv_aload_n X.1 X.2.1 dX0_sayNext_126 rfl (lv_at hl 1 rfl) ?_
          refine r_get (C := RX9) (T := TX9) (N := 20) (ci := 9) (v := .ref (a4 13)) X iw9 hP 13 rfl rfl 12 rfl mw_1_169 rfl dX0_sayNext_127 ?_
          refine lv_iload X.1 X.2.1 dX0_sayNext_130 (lv_at hl 4 rfl) ?_
          refine lv_bipush (v := 20) X.1 X.2.1 dX0_sayNext_132 (by decide) ?_
          refine lv_imul X.1 X.2.1 dX0_sayNext_134 ?_
          refine lv_aload_n X.1 X.2.1 dX0_sayNext_135 rfl (lv_at hl 1 rfl) ?_
          refine r_get (C := RX9) (T := TX9) (N := 20) (ci := 9) (v := .int (g4_J126 6 0)) X iw9 hP 13 rfl rfl 6 rfl mw_1_137 rfl dX0_sayNext_136 ?_
          refine lv_iadd X.1 X.2.1 dX0_sayNext_139 ?_
          refine lv_iload X.1 X.2.1 dX0_sayNext_140 (lv_at hl 5 rfl) ?_
          obtain ⟨hg_5, h⟩ := gdi_el h
          obtain ⟨g4_6, eg4_6, h⟩ := nm_el h
          refine r_iast X hP (hD _ _ _ _ _ _) hS 22 0 rfl rfl hg_5 rfl dX0_sayNext_142 (wCk tc a0 g0 (a3 0) (a2 0) ++ (wLw tc a1 g1_J126 ln1 ++ (wFa tc a2 g2_3 ++ (wHd tc a3 g3_3 ++ (wSt tc a4 g4_6 (some (a1 0)) (a5 0) ++ (wLg tc a5 g5)))))) (by rw [eg4_6]; rfl) (fun H locs hP hS => ?_)
          refine lv_aload_n X.1 X.2.1 dX0_sayNext_143 rfl (lv_at hl 1 rfl) ?_
          refine r_get (C := RX9) (T := TX9) (N := 20) (ci := 9) (v := .ref (a5 0)) X iw9 hP 13 rfl rfl 19 rfl mw_1_192 rfl dX0_sayNext_144 ?_
          refine lv_aload_n X.1 X.2.1 dX0_sayNext_147 rfl (lv_at hl 1 rfl) ?_
          refine r_get (C := RX9) (T := TX9) (N := 20) (ci := 9) (v := .int (g4_6 15 0)) X iw9 hP 13 rfl rfl 15 rfl mw_1_180 rfl dX0_sayNext_148 ?_
          refine lv_iload X.1 X.2.1 dX0_sayNext_151 (lv_at hl 4 rfl) ?_
          refine lv_iload_n X.1 X.2.1 dX0_sayNext_153 rfl (lv_at hl 3 rfl) ?_
          refine lv_iload X.1 X.2.1 dX0_sayNext_154 (lv_at hl 5 rfl) ?_
          obtain ⟨g5_7, hc_7, h⟩ := bd_el h
          refine call_Vsv (ws := (wCk tc a0 g0 (a3 0) (a2 0) ++ (wLw tc a1 g1_J126 ln1 ++ (wFa tc a2 g2_3 ++ (wHd tc a3 g3_3 ++ (wSt tc a4 g4_6 (some (a1 0)) (a5 0) ++ (wLg tc a5 g5))))))) (ws' := (wCk tc a0 g0 (a3 0) (a2 0) ++ (wLw tc a1 g1_J126 ln1 ++ (wFa tc a2 g2_3 ++ (wHd tc a3 g3_3 ++ (wSt tc a4 g4_6 (some (a1 0)) (a5 0) ++ (wLg tc a5 g5_7))))))) (wCk tc a0 g0 (a3 0) (a2 0) ++ (wLw tc a1 g1_J126 ln1 ++ (wFa tc a2 g2_3 ++ (wHd tc a3 g3_3 ++ (wSt tc a4 g4_6 (some (a1 0)) (a5 0)))))) [] (As := [.int (g4_6 15 0), .int x4, .int x3, .int x5_J126]) (rest := []) X (c_X7_add l dC dI sk sv tc a5 g5 (g4_6 15 0) x4 x3 x5_J126 hc_7) mw_5_228 mw_5_229 mw_5_230 mw_1_4 mw_5_231 dc_X7_add ⟨Nat.le_of_ble_eq_true rfl, Nat.le_of_ble_eq_true rfl⟩ rfl rfl ⟨Nat.zero_le _, Nat.zero_le _⟩ (by simp only [List.append_assoc, List.nil_append, List.append_nil]) (by simp only [List.append_assoc, List.nil_append, List.append_nil]) hP (hD _ _ _ _ _ _) hS 0 rfl rfl rfl hl.1 (Nat.le_of_ble_eq_true rfl) dX0_sayNext_156 (fun H locs hP hS => ?_)
          obtain ⟨x4_8, ex4_8, h⟩ := nm_el h
          refine lv_iinc (v := x4_8) (lv' := [(4, .int x4_8), (0, .ref (a0 0)), (1, .ref (a4 0)), (2, .int x2), (3, .int x3), (5, .int x5_J126)]) X.1 X.2.1 dX0_sayNext_159 hl (k := 4) rfl (by rw [ex4_8]; rfl) (by decide) rfl (fun ls hl => ?_)
          refine lv_goto (tgt := 13) X.1 X.2.1 dX0_sayNext_162 (by decide) ?_
          exact ih x4_8 g1_J126 g2_3 g3_3 g4_6 g5_7 ex h H locs ls hP hS (lv_sub hl [1, 2, 3, 4, 0] rfl) K
        refine lv_if_eq (tgt := 119) X.1 X.2.1 dX0_sayNext_38 (by decide) (fun hc => ?_) (fun hc => ?_)
        · have h := it_t hc h
          refine lv_aload_n X.1 X.2.1 dX0_sayNext_119 rfl (lv_at hl 1 rfl) ?_
          refine lv_aload_n X.1 X.2.1 dX0_sayNext_120 rfl (lv_at hl 2 rfl) ?_
          refine lv_iload X.1 X.2.1 dX0_sayNext_121 (lv_at hl 5 rfl) ?_
          obtain ⟨g1_9, g4_9, hc_9, h⟩ := bd2_el h
          refine call_V1v (As := [.ref (a4 0), .int x4]) (rest := []) X (c_X0_restOne_l l dC dI sk sv tc ln1 a0 a1 a2 a3 a4 a5 g0 g1 g2_3 g3_3 g4 g5 x4 hc_9) mw_5_224 mw_5_225 mw_5_226 mw_1_8 mw_5_227 dc_X0_restOne ⟨Nat.le_of_ble_eq_true rfl, Nat.le_of_ble_eq_true rfl⟩ rfl rfl ⟨Nat.zero_le _, Nat.zero_le _⟩ hP (hD _ _ _ _ _ _) hS 0 rfl rfl rfl hl.1 (Nat.le_of_ble_eq_true rfl) dX0_sayNext_123 (fun H locs hP hS => ?_)
          exact HJ126 0 g1_9 g4_9 H locs ls h hP hS (lv_sub hl [1, 2, 3, 4, 5, 0] rfl)
        · have h := it_f hc h
          refine lv_iload_n X.1 X.2.1 dX0_sayNext_41 rfl (lv_at hl 3 rfl) ?_
          obtain ⟨J65, eJ65, h⟩ := jn_el h
          have HJ65 : ∀ (s0_J65 : Int32) (g1_J65 : Pic) (g4_J65 : Pic) (H : Heap) (locs : List Loc) (ls : Array Slot), J65 s0_J65 g1_J65 g4_J65 = some ex → va_P (dC, dI) vwCl (wCk tc a0 g0 (a3 0) (a2 0) ++ (wLw tc a1 g1_J65 ln1 ++ (wFa tc a2 g2_3 ++ (wHd tc a3 g3_3 ++ (wSt tc a4 g4_J65 (some (a1 0)) (a5 0) ++ (wLg tc a5 g5)))))) H → va_S A s.heap H locs → lv_has ls 8 [(0, .ref (a0 0)), (1, .ref (a4 0)), (2, .int x2), (3, .int x3), (4, .int x4)] → W pr l e rm_X0_sayNext_l s m args below meth c H locs 0 0 Q (F0 m 65 ls [.int s0_J65]) := by
            intro s0_J65 g1_J65 g4_J65 H locs ls h hP hS hl
            rw [eJ65] at h
            refine lv_istore (lv' := [(6, .int s0_J65), (0, .ref (a0 0)), (1, .ref (a4 0)), (2, .int x2), (3, .int x3), (4, .int x4)]) X.1 X.2.1 dX0_sayNext_65 hl (by decide) rfl (fun ls hl => ?_)
            refine lv_iload X.1 X.2.1 dX0_sayNext_67 (lv_at hl 0 rfl) ?_
            obtain ⟨J77, eJ77, h⟩ := jn_el h
            have HJ77 : ∀ (s0_J77 : Int32) (H : Heap) (locs : List Loc) (ls : Array Slot), J77 s0_J77 = some ex → va_P (dC, dI) vwCl (wCk tc a0 g0 (a3 0) (a2 0) ++ (wLw tc a1 g1_J65 ln1 ++ (wFa tc a2 g2_3 ++ (wHd tc a3 g3_3 ++ (wSt tc a4 g4_J65 (some (a1 0)) (a5 0) ++ (wLg tc a5 g5)))))) H → va_S A s.heap H locs → lv_has ls 8 [(0, .ref (a0 0)), (1, .ref (a4 0)), (2, .int x2), (3, .int x3), (4, .int x4)] → W pr l e rm_X0_sayNext_l s m args below meth c H locs 0 0 Q (F0 m 77 ls [.int s0_J77]) := by
              intro s0_J77 H locs ls h hP hS hl
              rw [eJ77] at h
              refine lv_istore (lv' := [(5, .int s0_J77), (0, .ref (a0 0)), (1, .ref (a4 0)), (2, .int x2), (3, .int x3), (4, .int x4)]) X.1 X.2.1 dX0_sayNext_77 hl (by decide) rfl (fun ls hl => ?_)
              refine lv_aload_n X.1 X.2.1 dX0_sayNext_79 rfl (lv_at hl 2 rfl) ?_
              refine r_get (C := RX9) (T := TX9) (N := 20) (ci := 9) (v := .ref (a4 12)) X iw9 hP 13 rfl rfl 11 rfl mw_1_164 rfl dX0_sayNext_80 ?_
              refine lv_iload X.1 X.2.1 dX0_sayNext_83 (lv_at hl 5 rfl) ?_
              obtain ⟨hg_10, h⟩ := gdi_el h
              refine r_iald X hP 21 0 rfl rfl hg_10 rfl dX0_sayNext_85 ?_
              refine lv_aload_n X.1 X.2.1 dX0_sayNext_86 rfl (lv_at hl 1 rfl) ?_
              refine r_get (C := RX0) (T := TX0) (N := 2) (ci := 0) (v := .ref (a2 0)) X iw0 hP 0 rfl rfl 1 rfl mw_2_67 rfl dX0_sayNext_87 ?_
              refine lv_iconst (v := 2) X.1 X.2.1 dX0_sayNext_90 (by decide) ?_
              refine r_iald X hP 7 0 rfl rfl (j := 2) (by unfold vp_in; decide) (by decide) dX0_sayNext_91 ?_
              refine lv_iadd X.1 X.2.1 dX0_sayNext_92 ?_
              refine lv_aload_n X.1 X.2.1 dX0_sayNext_93 rfl (lv_at hl 1 rfl) ?_
              refine lv_aload_n X.1 X.2.1 dX0_sayNext_94 rfl (lv_at hl 2 rfl) ?_
              refine lv_iconst (v := 0) X.1 X.2.1 dX0_sayNext_95 (by decide) ?_
              obtain ⟨r_11, g1_11, hc_11, h⟩ := bd2_el h
              refine call_V1i (As := [.ref (a4 0), .int 0]) (rest := [.int ((g4_J65 11 (x4.toNatClampNeg)) + (g2_3 0 2))]) X (c_X0_lawOf_l l dC dI sk sv tc ln1 a0 a1 a2 a3 a4 a5 g0 g1_J65 g2_3 g3_3 g4_J65 g5 0 hc_11) mw_5_174 mw_5_175 mw_5_176 mw_1_8 mw_5_177 dc_X0_lawOf ⟨Nat.le_of_ble_eq_true rfl, Nat.le_of_ble_eq_true rfl⟩ rfl rfl ⟨Nat.zero_le _, Nat.zero_le _⟩ hP (hD _ _ _ _ _ _) hS 0 rfl rfl rfl hl.1 (Nat.le_of_ble_eq_true rfl) dX0_sayNext_96 (fun H locs hP hS => ?_)
              refine lv_iadd X.1 X.2.1 dX0_sayNext_99 ?_
              obtain ⟨x7_12, ex7_12, h⟩ := nm_el h
              refine tp_i ex7_12 ?_
              refine lv_istore (lv' := [(7, .int x7_12), (5, .int s0_J77), (0, .ref (a0 0)), (1, .ref (a4 0)), (2, .int x2), (3, .int x3), (4, .int x4)]) X.1 X.2.1 dX0_sayNext_100 hl (by decide) rfl (fun ls hl => ?_)
              refine lv_aload_n X.1 X.2.1 dX0_sayNext_102 rfl (lv_at hl 3 rfl) ?_
              refine r_get (C := RX9) (T := TX9) (N := 20) (ci := 9) (v := .ref (a4 12)) X iw9 hP 13 rfl rfl 11 rfl mw_1_164 rfl dX0_sayNext_103 ?_
              refine lv_iload X.1 X.2.1 dX0_sayNext_106 (lv_at hl 6 rfl) ?_
              refine lv_iload X.1 X.2.1 dX0_sayNext_108 (lv_at hl 0 rfl) ?_
              refine lv_bipush (v := 99) X.1 X.2.1 dX0_sayNext_110 (by decide) ?_
              refine r_min X mw_5_190 mw_3_9 mw_1_25 mw_3_10 hl.1 (Nat.le_of_ble_eq_true rfl) (Nat.le_of_ble_eq_true rfl) ⟨Nat.zero_le _, Nat.zero_le _⟩ dX0_sayNext_112 ?_
              obtain ⟨hg_13, h⟩ := gdi_el h
              obtain ⟨g4_14, eg4_14, h⟩ := nm_el h
              refine r_iast X hP (hD _ _ _ _ _ _) hS 21 0 rfl rfl hg_13 rfl dX0_sayNext_115 (wCk tc a0 g0 (a3 0) (a2 0) ++ (wLw tc a1 g1_11 ln1 ++ (wFa tc a2 g2_3 ++ (wHd tc a3 g3_3 ++ (wSt tc a4 g4_14 (some (a1 0)) (a5 0) ++ (wLg tc a5 g5)))))) (by rw [eg4_14]; rfl) (fun H locs hP hS => ?_)
              refine lv_goto (tgt := 126) X.1 X.2.1 dX0_sayNext_116 (by decide) ?_
              exact HJ126 s0_J77 g1_11 g4_14 H locs ls h hP hS (lv_sub hl [2, 3, 4, 5, 6, 1] rfl)
            refine lv_if_eq (tgt := 76) X.1 X.2.1 dX0_sayNext_69 (by decide) (fun hc => ?_) (fun hc => ?_)
            · have h := it_t hc h
              refine lv_iconst (v := 1) X.1 X.2.1 dX0_sayNext_76 (by decide) ?_
              exact HJ77 1 H locs ls h hP hS (lv_sub hl [1, 2, 3, 4, 5] rfl)
            · have h := it_f hc h
              refine lv_iconst (v := 2) X.1 X.2.1 dX0_sayNext_72 (by decide) ?_
              refine lv_goto (tgt := 77) X.1 X.2.1 dX0_sayNext_73 (by decide) ?_
              exact HJ77 2 H locs ls h hP hS (lv_sub hl [1, 2, 3, 4, 5] rfl)
          obtain ⟨J64, eJ64, h⟩ := jn_el h
          have HJ64 : ∀ (g1_J64 : Pic) (g4_J64 : Pic) (H : Heap) (locs : List Loc) (ls : Array Slot), J64 g1_J64 g4_J64 = some ex → va_P (dC, dI) vwCl (wCk tc a0 g0 (a3 0) (a2 0) ++ (wLw tc a1 g1_J64 ln1 ++ (wFa tc a2 g2_3 ++ (wHd tc a3 g3_3 ++ (wSt tc a4 g4_J64 (some (a1 0)) (a5 0) ++ (wLg tc a5 g5)))))) H → va_S A s.heap H locs → lv_has ls 8 [(0, .ref (a0 0)), (1, .ref (a4 0)), (2, .int x2), (3, .int x3), (4, .int x4)] → W pr l e rm_X0_sayNext_l s m args below meth c H locs 0 0 Q (F0 m 64 ls []) := by
            intro g1_J64 g4_J64 H locs ls h hP hS hl
            rw [eJ64] at h
            refine lv_iconst (v := 0) X.1 X.2.1 dX0_sayNext_64 (by decide) ?_
            exact HJ65 0 g1_J64 g4_J64 H locs ls h hP hS (lv_sub hl [0, 1, 2, 3, 4] rfl)
          refine lv_if_eq (tgt := 64) X.1 X.2.1 dX0_sayNext_42 (by decide) (fun hc => ?_) (fun hc => ?_)
          · have h := it_t hc h
            exact HJ64 g1 g4 H locs ls h hP hS (lv_sub hl [1, 2, 3, 4, 5] rfl)
          · have h := it_f hc h
            refine lv_aload_n X.1 X.2.1 dX0_sayNext_45 rfl (lv_at hl 2 rfl) ?_
            obtain ⟨r_15, g4_15, hc_15, h⟩ := bd2_el h
            refine call_Vsi (ws := (wCk tc a0 g0 (a3 0) (a2 0) ++ (wLw tc a1 g1 ln1 ++ (wFa tc a2 g2_3 ++ (wHd tc a3 g3_3 ++ (wSt tc a4 g4 (some (a1 0)) (a5 0) ++ (wLg tc a5 g5))))))) (ws' := (wCk tc a0 g0 (a3 0) (a2 0) ++ (wLw tc a1 g1 ln1 ++ (wFa tc a2 g2_3 ++ (wHd tc a3 g3_3 ++ (wSt tc a4 g4_15 (some (a1 0)) (a5 0) ++ (wLg tc a5 g5))))))) (wCk tc a0 g0 (a3 0) (a2 0) ++ (wLw tc a1 g1 ln1 ++ (wFa tc a2 g2_3 ++ (wHd tc a3 g3_3)))) (wLg tc a5 g5) (As := []) (rest := []) X (c_X9_draw l dC dI sk sv tc a4 (some (a1 0)) (a5 0) g4 hc_15) mw_5_218 mw_5_219 mw_5_220 mw_1_3 mw_5_221 dc_X9_draw ⟨Nat.le_of_ble_eq_true rfl, Nat.le_of_ble_eq_true rfl⟩ rfl rfl ⟨Nat.zero_le _, Nat.zero_le _⟩ (by simp only [List.append_assoc, List.nil_append, List.append_nil]) (by simp only [List.append_assoc, List.nil_append, List.append_nil]) hP (hD _ _ _ _ _ _) hS 0 rfl rfl rfl hl.1 (Nat.le_of_ble_eq_true rfl) dX0_sayNext_46 (fun H locs hP hS => ?_)
            refine lv_bipush (v := 100) X.1 X.2.1 dX0_sayNext_49 (by decide) ?_
            refine lv_irem X.1 X.2.1 dX0_sayNext_51 (by decide) ?_
            refine lv_aload_n X.1 X.2.1 dX0_sayNext_52 rfl (lv_at hl 1 rfl) ?_
            refine lv_aload_n X.1 X.2.1 dX0_sayNext_53 rfl (lv_at hl 2 rfl) ?_
            obtain ⟨r_16, g1_16, hc_16, h⟩ := bd2_el h
            refine call_V1i (As := [.ref (a4 0)]) (rest := [.int (r_15 - r_15 / 100 * 100)]) X (c_X0_slipsOf_l l dC dI sk sv tc ln1 a0 a1 a2 a3 a4 a5 g0 g1 g2_3 g3_3 g4_15 g5 hc_16) mw_5_223 mw_5_171 mw_5_172 mw_1_8 mw_5_173 dc_X0_slipsOf ⟨Nat.le_of_ble_eq_true rfl, Nat.le_of_ble_eq_true rfl⟩ rfl rfl ⟨Nat.zero_le _, Nat.zero_le _⟩ hP (hD _ _ _ _ _ _) hS 0 rfl rfl rfl hl.1 (Nat.le_of_ble_eq_true rfl) dX0_sayNext_54 (fun H locs hP hS => ?_)
            refine lv_icmp_ge (tgt := 64) X.1 X.2.1 dX0_sayNext_57 (by decide) (fun hc => ?_) (fun hc => ?_)
            · have h := it_t hc h
              exact HJ64 g1_16 g4_15 H locs ls h hP hS (lv_sub hl [1, 2, 3, 4, 5] rfl)
            · have h := it_f hc h
              refine lv_iconst (v := 1) X.1 X.2.1 dX0_sayNext_60 (by decide) ?_
              refine lv_goto (tgt := 65) X.1 X.2.1 dX0_sayNext_61 (by decide) ?_
              exact HJ65 1 g1_16 g4_15 H locs ls h hP hS (lv_sub hl [1, 2, 3, 4, 5] rfl)
  unfold f_X0_sayNext_l at h
  refine lv_aload_n X.1 X.2.1 dX0_sayNext_0 rfl (lv_at hl 1 rfl) ?_
  refine r_get (C := RX9) (T := TX9) (N := 20) (ci := 9) (v := .ref (a4 6)) X iw9 hP 13 rfl rfl 5 rfl mw_1_132 rfl dX0_sayNext_1 ?_
  refine lv_aload_n X.1 X.2.1 dX0_sayNext_4 rfl (lv_at hl 1 rfl) ?_
  refine r_get (C := RX9) (T := TX9) (N := 20) (ci := 9) (v := .int (g4 6 0)) X iw9 hP 13 rfl rfl 6 rfl mw_1_137 rfl dX0_sayNext_5 ?_
  obtain ⟨hg_1, h⟩ := gdi_el h
  refine r_iald X hP 17 0 rfl rfl hg_1 rfl dX0_sayNext_8 ?_
  obtain ⟨x3_2, ex3_2, h⟩ := nm_el h
  refine tp_i ex3_2 ?_
  refine lv_istore_n (lv' := [(3, .int x3_2), (0, .ref (a0 0)), (1, .ref (a4 0)), (2, .int x2)]) X.1 X.2.1 dX0_sayNext_9 rfl hl (by decide) rfl (fun ls hl => ?_)
  refine lv_iconst (v := 0) X.1 X.2.1 dX0_sayNext_10 (by decide) ?_
  refine lv_istore (lv' := [(4, .int 0), (3, .int x3_2), (0, .ref (a0 0)), (1, .ref (a4 0)), (2, .int x2)]) X.1 X.2.1 dX0_sayNext_11 hl (by decide) rfl (fun ls hl => ?_)
  obtain ⟨ex_17, hL_17, h⟩ := bd_el h
  refine HL13 x2 x3_2 fu 0 g1 g2 g3 g4 g5 ex_17 hL_17 H locs ls hP hS (lv_sub hl [2, 3, 4, 1, 0] rfl) (fun g1_17 g2_17 g3_17 g4_17 g5_17 he H locs ls hP hS hl => ?_)
  subst he
  refine lv_aload_n X.1 X.2.1 dX0_sayNext_165 rfl (lv_at hl 0 rfl) ?_
  refine lv_dup X.1 X.2.1 dX0_sayNext_166 rfl ?_
  refine r_get (C := RX9) (T := TX9) (N := 20) (ci := 9) (v := .int (g4_17 6 0)) X iw9 hP 13 rfl rfl 6 rfl mw_1_137 rfl dX0_sayNext_167 ?_
  refine lv_iconst (v := 1) X.1 X.2.1 dX0_sayNext_170 (by decide) ?_
  refine lv_iadd X.1 X.2.1 dX0_sayNext_171 ?_
  obtain ⟨g4_18, eg4_18, h⟩ := nm_el h
  refine r_put (C := RX9) (T := TX9) (N := 20) (ci := 9) tyX9 tyX9_ok nmX9 X iw9 hP (hD _ _ _ _ _ _) hS 13 rfl rfl 6 rfl mw_1_137 rfl rfl rfl rfl dX0_sayNext_172 (wCk tc a0 g0 (a3 0) (a2 0) ++ (wLw tc a1 g1_17 ln1 ++ (wFa tc a2 g2_17 ++ (wHd tc a3 g3_17 ++ (wSt tc a4 g4_18 (some (a1 0)) (a5 0) ++ (wLg tc a5 g5_17)))))) (by rw [eg4_18]; rfl) (fun H locs hP hS => ?_)
  exact ret_v (fun u => (wCk tc a0 g0 (a3 0) (a2 0) ++ (wLw tc a1 u.1 ln1 ++ (wFa tc a2 u.2.1 ++ (wHd tc a3 u.2.2.1 ++ (wSt tc a4 u.2.2.2.1 (some (a1 0)) (a5 0) ++ (wLg tc a5 u.2.2.2.2))))))) (res := (G1, G2, G3, G4, G5)) (Option.some.inj h) X hQ hP hS dX0_sayNext_175

def f_X0_letRest_n_L2 (g0 : Pic) (g4 : Pic) (n : Nat) (a : Int32 × Pic × Pic × Pic) : Option (Pic × Pic × Pic) := lp (fun (rec : Int32 × Pic × Pic × Pic → Option (Pic × Pic × Pic)) (a : Int32 × Pic × Pic × Pic) => match a with | (x2, g1, g2, g3) => (if (g3 7 0) ≤ x2 then some (g1, g2, g3) else bd2 (f_X0_observe_n g0 g1 g2 g3 g4 x2 8) (fun g1_1 g2_1 => bd (f_X0_restOne_n g0 g1_1 g2_1 g3 g4 x2) (fun g3_2 => nm (x2 + 1) (fun x2_3 => rec (x2_3, g1_1, g2_1, g3_2)))))) n a
def f_X0_letRest_n (g0 : Pic) (g1 : Pic) (g2 : Pic) (g3 : Pic) (g4 : Pic) : Option (Pic × Pic × Pic) := bd (f_X0_letRest_n_L2 g0 g4 fu (0, g1, g2, g3)) (fun (g1_4, g2_4, g3_4) => some (g1_4, g2_4, g3_4))
abbrev rm_X0_letRest_n : Room := { frames := 2, cells := 0, slots := 0, locals := 62 }
set_option maxHeartbeats 4000000 in
set_option maxRecDepth 100000 in
theorem c_X0_letRest_n (l : Launch) (dC : Nat → ClassId) (dI : Nat → Nat → Nat) (sk sv : Nat → Nat) (tc : Nat → ClassId) (a0 : Nat → Nat) (a1 : Nat → Nat) (a2 : Nat → Nat) (a3 : Nat → Nat) (a4 : Nat → Nat) (g0 : Pic) (g1 : Pic) (g2 : Pic) (g3 : Pic) (g4 : Pic) {G1 : Pic} {G2 : Pic} {G3 : Pic} (h : f_X0_letRest_n g0 g1 g2 g3 g4 = some (G1, G2, G3)) : CT l (dC, dI) sk sv (TY tc) yX0_letRest cX0_letRest 3 none rm_X0_letRest_n [.ref (a0 0), .ref (a3 0)] (wCk tc a0 g0 (a2 0) (a1 0) ++ (wFa tc a1 g1 ++ (wHd tc a2 g2 ++ (wSt tc a3 g3 none (a4 0) ++ (wLg tc a4 g4))))) none (wCk tc a0 g0 (a2 0) (a1 0) ++ (wFa tc a1 G1 ++ (wHd tc a2 G2 ++ (wSt tc a3 G3 none (a4 0) ++ (wLg tc a4 g4))))) := by
  refine ofCT (by decide) (Nat.le_of_ble_eq_true rfl) ?_
  intro pr e s m args below meth c A Q ls H locs X hQ hD0 hP hS hl
  have hD : ∀ z0 z1 z2 z3 z4, va_D A (wCk tc a0 z0 (a2 0) (a1 0) ++ (wFa tc a1 z1 ++ (wHd tc a2 z2 ++ (wSt tc a3 z3 none (a4 0) ++ (wLg tc a4 z4))))) := fun z0 z1 z2 z3 z4 => D_fst (ws := (wCk tc a0 g0 (a2 0) (a1 0) ++ (wFa tc a1 g1 ++ (wHd tc a2 g2 ++ (wSt tc a3 g3 none (a4 0) ++ (wLg tc a4 g4)))))) rfl hD0
  have hl : lv_has ls 3 [(0, .ref (a0 0)), (1, .ref (a3 0))] := hl
  have HL2 : ∀ (n : Nat) (x2 : Int32) (g1 : Pic) (g2 : Pic) (g3 : Pic) (ex : (Pic × Pic × Pic)), f_X0_letRest_n_L2 g0 g4 n (x2, g1, g2, g3) = some ex → ∀ (H : Heap) (locs : List Loc) (ls : Array Slot), va_P (dC, dI) vwCl (wCk tc a0 g0 (a2 0) (a1 0) ++ (wFa tc a1 g1 ++ (wHd tc a2 g2 ++ (wSt tc a3 g3 none (a4 0) ++ (wLg tc a4 g4))))) H → va_S A s.heap H locs → lv_has ls 3 [(0, .ref (a0 0)), (1, .ref (a3 0)), (2, .int x2)] → (∀ (k1 : Pic) (k2 : Pic) (k3 : Pic), (k1, k2, k3) = ex → ∀ (H : Heap) (locs : List Loc) (ls : Array Slot), va_P (dC, dI) vwCl (wCk tc a0 g0 (a2 0) (a1 0) ++ (wFa tc a1 k1 ++ (wHd tc a2 k2 ++ (wSt tc a3 k3 none (a4 0) ++ (wLg tc a4 g4))))) H → va_S A s.heap H locs → lv_has ls 3 [] → W pr l e rm_X0_letRest_n s m args below meth c H locs 0 0 Q (F0 m 30 ls [])) → W pr l e rm_X0_letRest_n s m args below meth c H locs 0 0 Q (F0 m 2 ls []) := by
    intro n
    induction n with
    | zero => intro x2 g1 g2 g3 ex h; exact lp_z h
    | succ n ih =>
      intro x2 g1 g2 g3 ex h H locs ls hP hS hl K
      have h := lp_s h
      refine lv_iload_n X.1 X.2.1 dX0_letRest_2 rfl (lv_at hl 2 rfl) ?_
      refine lv_aload_n X.1 X.2.1 dX0_letRest_3 rfl (lv_at hl 1 rfl) ?_
      refine r_get (C := RX9) (T := TX9) (N := 20) (ci := 9) (v := .int (g3 7 0)) X iw9 hP 7 rfl rfl 7 rfl mw_1_142 rfl dX0_letRest_4 ?_
      refine lv_icmp_ge (tgt := 30) X.1 X.2.1 dX0_letRest_7 (by decide) (fun hc => ?_) (fun hc => ?_)
      · have h := it_t hc h
        exact K g1 g2 g3 (Option.some.inj h) H locs ls hP hS (lv_sub hl [] rfl)
      · have h := it_f hc h
        refine lv_aload_n X.1 X.2.1 dX0_letRest_10 rfl (lv_at hl 0 rfl) ?_
        refine lv_aload_n X.1 X.2.1 dX0_letRest_11 rfl (lv_at hl 1 rfl) ?_
        refine lv_iload_n X.1 X.2.1 dX0_letRest_12 rfl (lv_at hl 2 rfl) ?_
        refine lv_bipush (v := 8) X.1 X.2.1 dX0_letRest_13 (by decide) ?_
        obtain ⟨g1_1, g2_1, hc_1, h⟩ := bd2_el h
        refine call_V1v (As := [.ref (a3 0), .int x2, .int 8]) (rest := []) X (c_X0_observe_n l dC dI sk sv tc a0 a1 a2 a3 a4 g0 g1 g2 g3 g4 x2 8 hc_1) mw_5_216 mw_5_154 mw_5_155 mw_1_8 mw_5_156 dc_X0_observe ⟨Nat.le_of_ble_eq_true rfl, Nat.le_of_ble_eq_true rfl⟩ rfl rfl ⟨Nat.zero_le _, Nat.zero_le _⟩ hP (hD _ _ _ _ _) hS 0 rfl rfl rfl hl.1 (Nat.le_of_ble_eq_true rfl) dX0_letRest_15 (fun H locs hP hS => ?_)
        refine lv_aload_n X.1 X.2.1 dX0_letRest_18 rfl (lv_at hl 0 rfl) ?_
        refine lv_aload_n X.1 X.2.1 dX0_letRest_19 rfl (lv_at hl 1 rfl) ?_
        refine lv_iload_n X.1 X.2.1 dX0_letRest_20 rfl (lv_at hl 2 rfl) ?_
        obtain ⟨g3_2, hc_2, h⟩ := bd_el h
        refine call_V1v (As := [.ref (a3 0), .int x2]) (rest := []) X (c_X0_restOne_n l dC dI sk sv tc a0 a1 a2 a3 a4 g0 g1_1 g2_1 g3 g4 x2 hc_2) mw_5_224 mw_5_225 mw_5_226 mw_1_8 mw_5_227 dc_X0_restOne ⟨Nat.le_of_ble_eq_true rfl, Nat.le_of_ble_eq_true rfl⟩ rfl rfl ⟨Nat.zero_le _, Nat.zero_le _⟩ hP (hD _ _ _ _ _) hS 0 rfl rfl rfl hl.1 (Nat.le_of_ble_eq_true rfl) dX0_letRest_21 (fun H locs hP hS => ?_)
        obtain ⟨x2_3, ex2_3, h⟩ := nm_el h
        refine lv_iinc (v := x2_3) (lv' := [(2, .int x2_3), (0, .ref (a0 0)), (1, .ref (a3 0))]) X.1 X.2.1 dX0_letRest_24 hl (k := 2) rfl (by rw [ex2_3]; rfl) (by decide) rfl (fun ls hl => ?_)
        refine lv_goto (tgt := 2) X.1 X.2.1 dX0_letRest_27 (by decide) ?_
        exact ih x2_3 g1_1 g2_1 g3_2 ex h H locs ls hP hS (lv_sub hl [1, 2, 0] rfl) K
  unfold f_X0_letRest_n at h
  refine lv_iconst (v := 0) X.1 X.2.1 dX0_letRest_0 (by decide) ?_
  refine lv_istore_n (lv' := [(2, .int 0), (0, .ref (a0 0)), (1, .ref (a3 0))]) X.1 X.2.1 dX0_letRest_1 rfl hl (by decide) rfl (fun ls hl => ?_)
  obtain ⟨ex_4, hL_4, h⟩ := bd_el h
  refine HL2  fu 0 g1 g2 g3 ex_4 hL_4 H locs ls hP hS (lv_sub hl [1, 2, 0] rfl) (fun g1_4 g2_4 g3_4 he H locs ls hP hS hl => ?_)
  subst he
  exact ret_v (fun u => (wCk tc a0 g0 (a2 0) (a1 0) ++ (wFa tc a1 u.1 ++ (wHd tc a2 u.2.1 ++ (wSt tc a3 u.2.2 none (a4 0) ++ (wLg tc a4 g4)))))) (res := (G1, G2, G3)) (Option.some.inj h) X hQ hP hS dX0_letRest_30

def f_X0_letRest_l_L2 (ln1 : Nat → Nat) (g0 : Pic) (g5 : Pic) (n : Nat) (a : Int32 × Pic × Pic × Pic × Pic) : Option (Pic × Pic × Pic × Pic) := lp (fun (rec : Int32 × Pic × Pic × Pic × Pic → Option (Pic × Pic × Pic × Pic)) (a : Int32 × Pic × Pic × Pic × Pic) => match a with | (x2, g1, g2, g3, g4) => (if (g4 7 0) ≤ x2 then some (g1, g2, g3, g4) else bd2 (f_X0_observe_l ln1 g0 g1 g2 g3 g4 g5 x2 8) (fun g2_1 g3_1 => bd2 (f_X0_restOne_l ln1 g0 g1 g2_1 g3_1 g4 g5 x2) (fun g1_2 g4_2 => nm (x2 + 1) (fun x2_3 => rec (x2_3, g1_2, g2_1, g3_1, g4_2)))))) n a
def f_X0_letRest_l (ln1 : Nat → Nat) (g0 : Pic) (g1 : Pic) (g2 : Pic) (g3 : Pic) (g4 : Pic) (g5 : Pic) : Option (Pic × Pic × Pic × Pic) := bd (f_X0_letRest_l_L2 ln1 g0 g5 fu (0, g1, g2, g3, g4)) (fun (g1_4, g2_4, g3_4, g4_4) => some (g1_4, g2_4, g3_4, g4_4))
abbrev rm_X0_letRest_l : Room := { frames := 5, cells := 0, slots := 0, locals := 116 }
set_option maxHeartbeats 4000000 in
set_option maxRecDepth 100000 in
theorem c_X0_letRest_l (l : Launch) (dC : Nat → ClassId) (dI : Nat → Nat → Nat) (sk sv : Nat → Nat) (tc : Nat → ClassId) (ln1 : Nat → Nat) (a0 : Nat → Nat) (a1 : Nat → Nat) (a2 : Nat → Nat) (a3 : Nat → Nat) (a4 : Nat → Nat) (a5 : Nat → Nat) (g0 : Pic) (g1 : Pic) (g2 : Pic) (g3 : Pic) (g4 : Pic) (g5 : Pic) {G1 : Pic} {G2 : Pic} {G3 : Pic} {G4 : Pic} (h : f_X0_letRest_l ln1 g0 g1 g2 g3 g4 g5 = some (G1, G2, G3, G4)) : CT l (dC, dI) sk sv (TY tc) yX0_letRest cX0_letRest 3 none rm_X0_letRest_l [.ref (a0 0), .ref (a4 0)] (wCk tc a0 g0 (a3 0) (a2 0) ++ (wLw tc a1 g1 ln1 ++ (wFa tc a2 g2 ++ (wHd tc a3 g3 ++ (wSt tc a4 g4 (some (a1 0)) (a5 0) ++ (wLg tc a5 g5)))))) none (wCk tc a0 g0 (a3 0) (a2 0) ++ (wLw tc a1 G1 ln1 ++ (wFa tc a2 G2 ++ (wHd tc a3 G3 ++ (wSt tc a4 G4 (some (a1 0)) (a5 0) ++ (wLg tc a5 g5)))))) := by
  refine ofCT (by decide) (Nat.le_of_ble_eq_true rfl) ?_
  intro pr e s m args below meth c A Q ls H locs X hQ hD0 hP hS hl
  have hD : ∀ z0 z1 z2 z3 z4 z5, va_D A (wCk tc a0 z0 (a3 0) (a2 0) ++ (wLw tc a1 z1 ln1 ++ (wFa tc a2 z2 ++ (wHd tc a3 z3 ++ (wSt tc a4 z4 (some (a1 0)) (a5 0) ++ (wLg tc a5 z5)))))) := fun z0 z1 z2 z3 z4 z5 => D_fst (ws := (wCk tc a0 g0 (a3 0) (a2 0) ++ (wLw tc a1 g1 ln1 ++ (wFa tc a2 g2 ++ (wHd tc a3 g3 ++ (wSt tc a4 g4 (some (a1 0)) (a5 0) ++ (wLg tc a5 g5))))))) rfl hD0
  have hl : lv_has ls 3 [(0, .ref (a0 0)), (1, .ref (a4 0))] := hl
  have HL2 : ∀ (n : Nat) (x2 : Int32) (g1 : Pic) (g2 : Pic) (g3 : Pic) (g4 : Pic) (ex : (Pic × Pic × Pic × Pic)), f_X0_letRest_l_L2 ln1 g0 g5 n (x2, g1, g2, g3, g4) = some ex → ∀ (H : Heap) (locs : List Loc) (ls : Array Slot), va_P (dC, dI) vwCl (wCk tc a0 g0 (a3 0) (a2 0) ++ (wLw tc a1 g1 ln1 ++ (wFa tc a2 g2 ++ (wHd tc a3 g3 ++ (wSt tc a4 g4 (some (a1 0)) (a5 0) ++ (wLg tc a5 g5)))))) H → va_S A s.heap H locs → lv_has ls 3 [(0, .ref (a0 0)), (1, .ref (a4 0)), (2, .int x2)] → (∀ (k1 : Pic) (k2 : Pic) (k3 : Pic) (k4 : Pic), (k1, k2, k3, k4) = ex → ∀ (H : Heap) (locs : List Loc) (ls : Array Slot), va_P (dC, dI) vwCl (wCk tc a0 g0 (a3 0) (a2 0) ++ (wLw tc a1 k1 ln1 ++ (wFa tc a2 k2 ++ (wHd tc a3 k3 ++ (wSt tc a4 k4 (some (a1 0)) (a5 0) ++ (wLg tc a5 g5)))))) H → va_S A s.heap H locs → lv_has ls 3 [] → W pr l e rm_X0_letRest_l s m args below meth c H locs 0 0 Q (F0 m 30 ls [])) → W pr l e rm_X0_letRest_l s m args below meth c H locs 0 0 Q (F0 m 2 ls []) := by
    intro n
    induction n with
    | zero => intro x2 g1 g2 g3 g4 ex h; exact lp_z h
    | succ n ih =>
      intro x2 g1 g2 g3 g4 ex h H locs ls hP hS hl K
      have h := lp_s h
      refine lv_iload_n X.1 X.2.1 dX0_letRest_2 rfl (lv_at hl 2 rfl) ?_
      refine lv_aload_n X.1 X.2.1 dX0_letRest_3 rfl (lv_at hl 1 rfl) ?_
      refine r_get (C := RX9) (T := TX9) (N := 20) (ci := 9) (v := .int (g4 7 0)) X iw9 hP 13 rfl rfl 7 rfl mw_1_142 rfl dX0_letRest_4 ?_
      refine lv_icmp_ge (tgt := 30) X.1 X.2.1 dX0_letRest_7 (by decide) (fun hc => ?_) (fun hc => ?_)
      · have h := it_t hc h
        exact K g1 g2 g3 g4 (Option.some.inj h) H locs ls hP hS (lv_sub hl [] rfl)
      · have h := it_f hc h
        refine lv_aload_n X.1 X.2.1 dX0_letRest_10 rfl (lv_at hl 0 rfl) ?_
        refine lv_aload_n X.1 X.2.1 dX0_letRest_11 rfl (lv_at hl 1 rfl) ?_
        refine lv_iload_n X.1 X.2.1 dX0_letRest_12 rfl (lv_at hl 2 rfl) ?_
        refine lv_bipush (v := 8) X.1 X.2.1 dX0_letRest_13 (by decide) ?_
        obtain ⟨g2_1, g3_1, hc_1, h⟩ := bd2_el h
        refine call_V1v (As := [.ref (a4 0), .int x2, .int 8]) (rest := []) X (c_X0_observe_l l dC dI sk sv tc ln1 a0 a1 a2 a3 a4 a5 g0 g1 g2 g3 g4 g5 x2 8 hc_1) mw_5_216 mw_5_154 mw_5_155 mw_1_8 mw_5_156 dc_X0_observe ⟨Nat.le_of_ble_eq_true rfl, Nat.le_of_ble_eq_true rfl⟩ rfl rfl ⟨Nat.zero_le _, Nat.zero_le _⟩ hP (hD _ _ _ _ _ _) hS 0 rfl rfl rfl hl.1 (Nat.le_of_ble_eq_true rfl) dX0_letRest_15 (fun H locs hP hS => ?_)
        refine lv_aload_n X.1 X.2.1 dX0_letRest_18 rfl (lv_at hl 0 rfl) ?_
        refine lv_aload_n X.1 X.2.1 dX0_letRest_19 rfl (lv_at hl 1 rfl) ?_
        refine lv_iload_n X.1 X.2.1 dX0_letRest_20 rfl (lv_at hl 2 rfl) ?_
        obtain ⟨g1_2, g4_2, hc_2, h⟩ := bd2_el h
        refine call_V1v (As := [.ref (a4 0), .int x2]) (rest := []) X (c_X0_restOne_l l dC dI sk sv tc ln1 a0 a1 a2 a3 a4 a5 g0 g1 g2_1 g3_1 g4 g5 x2 hc_2) mw_5_224 mw_5_225 mw_5_226 mw_1_8 mw_5_227 dc_X0_restOne ⟨Nat.le_of_ble_eq_true rfl, Nat.le_of_ble_eq_true rfl⟩ rfl rfl ⟨Nat.zero_le _, Nat.zero_le _⟩ hP (hD _ _ _ _ _ _) hS 0 rfl rfl rfl hl.1 (Nat.le_of_ble_eq_true rfl) dX0_letRest_21 (fun H locs hP hS => ?_)
        obtain ⟨x2_3, ex2_3, h⟩ := nm_el h
        refine lv_iinc (v := x2_3) (lv' := [(2, .int x2_3), (0, .ref (a0 0)), (1, .ref (a4 0))]) X.1 X.2.1 dX0_letRest_24 hl (k := 2) rfl (by rw [ex2_3]; rfl) (by decide) rfl (fun ls hl => ?_)
        refine lv_goto (tgt := 2) X.1 X.2.1 dX0_letRest_27 (by decide) ?_
        exact ih x2_3 g1_2 g2_1 g3_1 g4_2 ex h H locs ls hP hS (lv_sub hl [1, 2, 0] rfl) K
  unfold f_X0_letRest_l at h
  refine lv_iconst (v := 0) X.1 X.2.1 dX0_letRest_0 (by decide) ?_
  refine lv_istore_n (lv' := [(2, .int 0), (0, .ref (a0 0)), (1, .ref (a4 0))]) X.1 X.2.1 dX0_letRest_1 rfl hl (by decide) rfl (fun ls hl => ?_)
  obtain ⟨ex_4, hL_4, h⟩ := bd_el h
  refine HL2  fu 0 g1 g2 g3 g4 ex_4 hL_4 H locs ls hP hS (lv_sub hl [1, 2, 0] rfl) (fun g1_4 g2_4 g3_4 g4_4 he H locs ls hP hS hl => ?_)
  subst he
  exact ret_v (fun u => (wCk tc a0 g0 (a3 0) (a2 0) ++ (wLw tc a1 u.1 ln1 ++ (wFa tc a2 u.2.1 ++ (wHd tc a3 u.2.2.1 ++ (wSt tc a4 u.2.2.2 (some (a1 0)) (a5 0) ++ (wLg tc a5 g5))))))) (res := (G1, G2, G3, G4)) (Option.some.inj h) X hQ hP hS dX0_letRest_30

def f_X0_pass_n_L6 (x2 : Int32) (x3 : Int32) (g0 : Pic) (n : Nat) (a : Int32 × Int32 × Pic × Pic × Pic × Pic) : Option (Int32 × Pic × Pic × Pic × Pic) := lp (fun (rec : Int32 × Int32 × Pic × Pic × Pic × Pic → Option (Int32 × Pic × Pic × Pic × Pic)) (a : Int32 × Int32 × Pic × Pic × Pic × Pic) => match a with | (x4, x5, g1, g2, g3, g4) => (if x2 ≤ x5 then some (x4, g1, g2, g3, g4) else jn (fun (x4_J40 : Int32) (g1_J40 : Pic) (g2_J40 : Pic) (g3_J40 : Pic) (g4_J40 : Pic) => nm (pu g3_J40 15 0 (if 9999 < ((g3_J40 15 0) + 1) then 9999 else ((g3_J40 15 0) + 1))) (fun g3_1 => nm (x5 + 1) (fun x5_2 => rec (x4_J40, x5_2, g1_J40, g2_J40, g3_1, g4_J40)))) (fun J40 => (if (g3 4 0) ≤ (g3 6 0) then bd3 (f_X0_letRest_n g0 g1 g2 g3 g4) (fun g1_3 g2_3 g3_3 => J40 x4 g1_3 g2_3 g3_3 g4) else bd4 (f_X0_sayNext_n g0 g1 g2 g3 g4 x3) (fun g1_4 g2_4 g3_4 g4_4 => nm (x4 + 1) (fun x4_5 => J40 x4_5 g1_4 g2_4 g3_4 g4_4)))))) n a
def f_X0_pass_n (g0 : Pic) (g1 : Pic) (g2 : Pic) (g3 : Pic) (g4 : Pic) (x2 : Int32) (x3 : Int32) : Option (Int32 × Pic × Pic × Pic × Pic) := bd (f_X0_pass_n_L6 x2 x3 g0 fu (0, 0, g1, g2, g3, g4)) (fun (x4_6, g1_6, g2_6, g3_6, g4_6) => some (x4_6, g1_6, g2_6, g3_6, g4_6))
abbrev rm_X0_pass_n : Room := { frames := 3, cells := 0, slots := 0, locals := 92 }
set_option maxHeartbeats 4000000 in
set_option maxRecDepth 100000 in
theorem c_X0_pass_n (l : Launch) (dC : Nat → ClassId) (dI : Nat → Nat → Nat) (sk sv : Nat → Nat) (tc : Nat → ClassId) (a0 : Nat → Nat) (a1 : Nat → Nat) (a2 : Nat → Nat) (a3 : Nat → Nat) (a4 : Nat → Nat) (g0 : Pic) (g1 : Pic) (g2 : Pic) (g3 : Pic) (g4 : Pic) (x2 : Int32) (x3 : Int32) {r0 : Int32} {G1 : Pic} {G2 : Pic} {G3 : Pic} {G4 : Pic} (h : f_X0_pass_n g0 g1 g2 g3 g4 x2 x3 = some (r0, G1, G2, G3, G4)) : CT l (dC, dI) sk sv (TY tc) yX0_pass cX0_pass 6 (some .int) rm_X0_pass_n [.ref (a0 0), .ref (a3 0), .int x2, .int x3] (wCk tc a0 g0 (a2 0) (a1 0) ++ (wFa tc a1 g1 ++ (wHd tc a2 g2 ++ (wSt tc a3 g3 none (a4 0) ++ (wLg tc a4 g4))))) (some (.int r0)) (wCk tc a0 g0 (a2 0) (a1 0) ++ (wFa tc a1 G1 ++ (wHd tc a2 G2 ++ (wSt tc a3 G3 none (a4 0) ++ (wLg tc a4 G4))))) := by
  refine ofCT (by decide) (Nat.le_of_ble_eq_true rfl) ?_
  intro pr e s m args below meth c A Q ls H locs X hQ hD0 hP hS hl
  have hD : ∀ z0 z1 z2 z3 z4, va_D A (wCk tc a0 z0 (a2 0) (a1 0) ++ (wFa tc a1 z1 ++ (wHd tc a2 z2 ++ (wSt tc a3 z3 none (a4 0) ++ (wLg tc a4 z4))))) := fun z0 z1 z2 z3 z4 => D_fst (ws := (wCk tc a0 g0 (a2 0) (a1 0) ++ (wFa tc a1 g1 ++ (wHd tc a2 g2 ++ (wSt tc a3 g3 none (a4 0) ++ (wLg tc a4 g4)))))) rfl hD0
  have hl : lv_has ls 6 [(0, .ref (a0 0)), (1, .ref (a3 0)), (2, .int x2), (3, .int x3)] := hl
  have HL6 : ∀ (x2 : Int32) (x3 : Int32) (n : Nat) (x4 : Int32) (x5 : Int32) (g1 : Pic) (g2 : Pic) (g3 : Pic) (g4 : Pic) (ex : (Int32 × Pic × Pic × Pic × Pic)), f_X0_pass_n_L6 x2 x3 g0 n (x4, x5, g1, g2, g3, g4) = some ex → ∀ (H : Heap) (locs : List Loc) (ls : Array Slot), va_P (dC, dI) vwCl (wCk tc a0 g0 (a2 0) (a1 0) ++ (wFa tc a1 g1 ++ (wHd tc a2 g2 ++ (wSt tc a3 g3 none (a4 0) ++ (wLg tc a4 g4))))) H → va_S A s.heap H locs → lv_has ls 6 [(0, .ref (a0 0)), (1, .ref (a3 0)), (2, .int x2), (3, .int x3), (4, .int x4), (5, .int x5)] → (∀ (y4 : Int32) (k1 : Pic) (k2 : Pic) (k3 : Pic) (k4 : Pic), (y4, k1, k2, k3, k4) = ex → ∀ (H : Heap) (locs : List Loc) (ls : Array Slot), va_P (dC, dI) vwCl (wCk tc a0 g0 (a2 0) (a1 0) ++ (wFa tc a1 k1 ++ (wHd tc a2 k2 ++ (wSt tc a3 k3 none (a4 0) ++ (wLg tc a4 k4))))) H → va_S A s.heap H locs → lv_has ls 6 [(4, .int y4)] → W pr l e rm_X0_pass_n s m args below meth c H locs 0 0 Q (F0 m 62 ls [])) → W pr l e rm_X0_pass_n s m args below meth c H locs 0 0 Q (F0 m 6 ls []) := by
    intro x2 x3 n
    induction n with
    | zero => intro x4 x5 g1 g2 g3 g4 ex h; exact lp_z h
    | succ n ih =>
      intro x4 x5 g1 g2 g3 g4 ex h H locs ls hP hS hl K
      have h := lp_s h
      refine lv_iload X.1 X.2.1 dX0_pass_6 (lv_at hl 5 rfl) ?_
      refine lv_iload_n X.1 X.2.1 dX0_pass_8 rfl (lv_at hl 2 rfl) ?_
      refine lv_icmp_ge (tgt := 62) X.1 X.2.1 dX0_pass_9 (by decide) (fun hc => ?_) (fun hc => ?_)
      · have h := it_t hc h
        exact K x4 g1 g2 g3 g4 (Option.some.inj h) H locs ls hP hS (lv_sub hl [4] rfl)
      · have h := it_f hc h
        refine lv_aload_n X.1 X.2.1 dX0_pass_12 rfl (lv_at hl 1 rfl) ?_
        refine r_get (C := RX9) (T := TX9) (N := 20) (ci := 9) (v := .int (g3 6 0)) X iw9 hP 7 rfl rfl 6 rfl mw_1_137 rfl dX0_pass_13 ?_
        refine lv_aload_n X.1 X.2.1 dX0_pass_16 rfl (lv_at hl 1 rfl) ?_
        refine r_get (C := RX9) (T := TX9) (N := 20) (ci := 9) (v := .int (g3 4 0)) X iw9 hP 7 rfl rfl 4 rfl mw_1_125 rfl dX0_pass_17 ?_
        obtain ⟨J40, eJ40, h⟩ := jn_el h
        have HJ40 : ∀ (x4_J40 : Int32) (g1_J40 : Pic) (g2_J40 : Pic) (g3_J40 : Pic) (g4_J40 : Pic) (H : Heap) (locs : List Loc) (ls : Array Slot), J40 x4_J40 g1_J40 g2_J40 g3_J40 g4_J40 = some ex → va_P (dC, dI) vwCl (wCk tc a0 g0 (a2 0) (a1 0) ++ (wFa tc a1 g1_J40 ++ (wHd tc a2 g2_J40 ++ (wSt tc a3 g3_J40 none (a4 0) ++ (wLg tc a4 g4_J40))))) H → va_S A s.heap H locs → lv_has ls 6 [(0, .ref (a0 0)), (1, .ref (a3 0)), (2, .int x2), (3, .int x3), (4, .int x4_J40), (5, .int x5)] → W pr l e rm_X0_pass_n s m args below meth c H locs 0 0 Q (F0 m 40 ls []) := by
          intro x4_J40 g1_J40 g2_J40 g3_J40 g4_J40 H locs ls h hP hS hl
          rw [eJ40] at h
          refine lv_aload_n X.1 X.2.1 dX0_pass_40 rfl (lv_at hl 1 rfl) ?_
          refine lv_aload_n X.1 X.2.1 dX0_pass_41 rfl (lv_at hl 1 rfl) ?_
          refine r_get (C := RX9) (T := TX9) (N := 20) (ci := 9) (v := .int (g3_J40 15 0)) X iw9 hP 7 rfl rfl 15 rfl mw_1_180 rfl dX0_pass_42 ?_
          refine lv_iconst (v := 1) X.1 X.2.1 dX0_pass_45 (by decide) ?_
          refine lv_iadd X.1 X.2.1 dX0_pass_46 ?_
          refine lv_sipush (v := 9999) X.1 X.2.1 dX0_pass_47 (by decide) ?_
          refine r_min X mw_5_190 mw_3_9 mw_1_25 mw_3_10 hl.1 (Nat.le_of_ble_eq_true rfl) (Nat.le_of_ble_eq_true rfl) ⟨Nat.zero_le _, Nat.zero_le _⟩ dX0_pass_50 ?_
          obtain ⟨g3_1, eg3_1, h⟩ := nm_el h
          refine r_put (C := RX9) (T := TX9) (N := 20) (ci := 9) tyX9 tyX9_ok nmX9 X iw9 hP (hD _ _ _ _ _) hS 7 rfl rfl 15 rfl mw_1_180 rfl rfl rfl rfl dX0_pass_53 (wCk tc a0 g0 (a2 0) (a1 0) ++ (wFa tc a1 g1_J40 ++ (wHd tc a2 g2_J40 ++ (wSt tc a3 g3_1 none (a4 0) ++ (wLg tc a4 g4_J40))))) (by rw [eg3_1]; rfl) (fun H locs hP hS => ?_)
          obtain ⟨x5_2, ex5_2, h⟩ := nm_el h
          refine lv_iinc (v := x5_2) (lv' := [(5, .int x5_2), (0, .ref (a0 0)), (1, .ref (a3 0)), (2, .int x2), (3, .int x3), (4, .int x4_J40)]) X.1 X.2.1 dX0_pass_56 hl (k := 5) rfl (by rw [ex5_2]; rfl) (by decide) rfl (fun ls hl => ?_)
          refine lv_goto (tgt := 6) X.1 X.2.1 dX0_pass_59 (by decide) ?_
          exact ih x4_J40 x5_2 g1_J40 g2_J40 g3_1 g4_J40 ex h H locs ls hP hS (lv_sub hl [1, 2, 3, 4, 5, 0] rfl) K
        refine lv_icmp_ge (tgt := 35) X.1 X.2.1 dX0_pass_20 (by decide) (fun hc => ?_) (fun hc => ?_)
        · have h := it_t hc h
          refine lv_aload_n X.1 X.2.1 dX0_pass_35 rfl (lv_at hl 0 rfl) ?_
          refine lv_aload_n X.1 X.2.1 dX0_pass_36 rfl (lv_at hl 1 rfl) ?_
          obtain ⟨g1_3, g2_3, g3_3, hc_3, h⟩ := bd3_el h
          refine call_V1v (As := [.ref (a3 0)]) (rest := []) X (c_X0_letRest_n l dC dI sk sv tc a0 a1 a2 a3 a4 g0 g1 g2 g3 g4 hc_3) mw_5_233 mw_5_234 mw_5_235 mw_1_8 mw_5_236 dc_X0_letRest ⟨Nat.le_of_ble_eq_true rfl, Nat.le_of_ble_eq_true rfl⟩ rfl rfl ⟨Nat.zero_le _, Nat.zero_le _⟩ hP (hD _ _ _ _ _) hS 0 rfl rfl rfl hl.1 (Nat.le_of_ble_eq_true rfl) dX0_pass_37 (fun H locs hP hS => ?_)
          exact HJ40 x4 g1_3 g2_3 g3_3 g4 H locs ls h hP hS (lv_sub hl [0, 1, 2, 3, 4, 5] rfl)
        · have h := it_f hc h
          refine lv_aload_n X.1 X.2.1 dX0_pass_23 rfl (lv_at hl 0 rfl) ?_
          refine lv_aload_n X.1 X.2.1 dX0_pass_24 rfl (lv_at hl 1 rfl) ?_
          refine lv_iload_n X.1 X.2.1 dX0_pass_25 rfl (lv_at hl 3 rfl) ?_
          obtain ⟨g1_4, g2_4, g3_4, g4_4, hc_4, h⟩ := bd4_el h
          refine call_V1v (As := [.ref (a3 0), .int x3]) (rest := []) X (c_X0_sayNext_n l dC dI sk sv tc a0 a1 a2 a3 a4 g0 g1 g2 g3 g4 x3 hc_4) mw_5_212 mw_5_213 mw_5_214 mw_1_8 mw_5_215 dc_X0_sayNext ⟨Nat.le_of_ble_eq_true rfl, Nat.le_of_ble_eq_true rfl⟩ rfl rfl ⟨Nat.zero_le _, Nat.zero_le _⟩ hP (hD _ _ _ _ _) hS 0 rfl rfl rfl hl.1 (Nat.le_of_ble_eq_true rfl) dX0_pass_26 (fun H locs hP hS => ?_)
          obtain ⟨x4_5, ex4_5, h⟩ := nm_el h
          refine lv_iinc (v := x4_5) (lv' := [(4, .int x4_5), (0, .ref (a0 0)), (1, .ref (a3 0)), (2, .int x2), (3, .int x3), (5, .int x5)]) X.1 X.2.1 dX0_pass_29 hl (k := 4) rfl (by rw [ex4_5]; rfl) (by decide) rfl (fun ls hl => ?_)
          refine lv_goto (tgt := 40) X.1 X.2.1 dX0_pass_32 (by decide) ?_
          exact HJ40 x4_5 g1_4 g2_4 g3_4 g4_4 H locs ls h hP hS (lv_sub hl [1, 2, 3, 4, 0, 5] rfl)
  unfold f_X0_pass_n at h
  refine lv_iconst (v := 0) X.1 X.2.1 dX0_pass_0 (by decide) ?_
  refine lv_istore (lv' := [(4, .int 0), (0, .ref (a0 0)), (1, .ref (a3 0)), (2, .int x2), (3, .int x3)]) X.1 X.2.1 dX0_pass_1 hl (by decide) rfl (fun ls hl => ?_)
  refine lv_iconst (v := 0) X.1 X.2.1 dX0_pass_3 (by decide) ?_
  refine lv_istore (lv' := [(5, .int 0), (4, .int 0), (0, .ref (a0 0)), (1, .ref (a3 0)), (2, .int x2), (3, .int x3)]) X.1 X.2.1 dX0_pass_4 hl (by decide) rfl (fun ls hl => ?_)
  obtain ⟨ex_6, hL_6, h⟩ := bd_el h
  refine HL6 x2 x3 fu 0 0 g1 g2 g3 g4 ex_6 hL_6 H locs ls hP hS (lv_sub hl [2, 3, 4, 5, 1, 0] rfl) (fun x4_6 g1_6 g2_6 g3_6 g4_6 he H locs ls hP hS hl => ?_)
  subst he
  refine lv_iload X.1 X.2.1 dX0_pass_62 (lv_at hl 0 rfl) ?_
  exact ret_i (fun u => (wCk tc a0 g0 (a2 0) (a1 0) ++ (wFa tc a1 u.1 ++ (wHd tc a2 u.2.1 ++ (wSt tc a3 u.2.2.1 none (a4 0) ++ (wLg tc a4 u.2.2.2)))))) (res := (r0, G1, G2, G3, G4)) (Option.some.inj h) X hQ hP hS dX0_pass_64

def f_X0_pass_l_L6 (ln1 : Nat → Nat) (x2 : Int32) (x3 : Int32) (g0 : Pic) (n : Nat) (a : Int32 × Int32 × Pic × Pic × Pic × Pic × Pic) : Option (Int32 × Pic × Pic × Pic × Pic × Pic) := lp (fun (rec : Int32 × Int32 × Pic × Pic × Pic × Pic × Pic → Option (Int32 × Pic × Pic × Pic × Pic × Pic)) (a : Int32 × Int32 × Pic × Pic × Pic × Pic × Pic) => match a with | (x4, x5, g1, g2, g3, g4, g5) => (if x2 ≤ x5 then some (x4, g1, g2, g3, g4, g5) else jn (fun (x4_J40 : Int32) (g1_J40 : Pic) (g2_J40 : Pic) (g3_J40 : Pic) (g4_J40 : Pic) (g5_J40 : Pic) => nm (pu g4_J40 15 0 (if 9999 < ((g4_J40 15 0) + 1) then 9999 else ((g4_J40 15 0) + 1))) (fun g4_1 => nm (x5 + 1) (fun x5_2 => rec (x4_J40, x5_2, g1_J40, g2_J40, g3_J40, g4_1, g5_J40)))) (fun J40 => (if (g4 4 0) ≤ (g4 6 0) then bd4 (f_X0_letRest_l ln1 g0 g1 g2 g3 g4 g5) (fun g1_3 g2_3 g3_3 g4_3 => J40 x4 g1_3 g2_3 g3_3 g4_3 g5) else bd5 (f_X0_sayNext_l ln1 g0 g1 g2 g3 g4 g5 x3) (fun g1_4 g2_4 g3_4 g4_4 g5_4 => nm (x4 + 1) (fun x4_5 => J40 x4_5 g1_4 g2_4 g3_4 g4_4 g5_4)))))) n a
def f_X0_pass_l (ln1 : Nat → Nat) (g0 : Pic) (g1 : Pic) (g2 : Pic) (g3 : Pic) (g4 : Pic) (g5 : Pic) (x2 : Int32) (x3 : Int32) : Option (Int32 × Pic × Pic × Pic × Pic × Pic) := bd (f_X0_pass_l_L6 ln1 x2 x3 g0 fu (0, 0, g1, g2, g3, g4, g5)) (fun (x4_6, g1_6, g2_6, g3_6, g4_6, g5_6) => some (x4_6, g1_6, g2_6, g3_6, g4_6, g5_6))
abbrev rm_X0_pass_l : Room := { frames := 6, cells := 0, slots := 0, locals := 143 }
set_option maxHeartbeats 4000000 in
set_option maxRecDepth 100000 in
theorem c_X0_pass_l (l : Launch) (dC : Nat → ClassId) (dI : Nat → Nat → Nat) (sk sv : Nat → Nat) (tc : Nat → ClassId) (ln1 : Nat → Nat) (a0 : Nat → Nat) (a1 : Nat → Nat) (a2 : Nat → Nat) (a3 : Nat → Nat) (a4 : Nat → Nat) (a5 : Nat → Nat) (g0 : Pic) (g1 : Pic) (g2 : Pic) (g3 : Pic) (g4 : Pic) (g5 : Pic) (x2 : Int32) (x3 : Int32) {r0 : Int32} {G1 : Pic} {G2 : Pic} {G3 : Pic} {G4 : Pic} {G5 : Pic} (h : f_X0_pass_l ln1 g0 g1 g2 g3 g4 g5 x2 x3 = some (r0, G1, G2, G3, G4, G5)) : CT l (dC, dI) sk sv (TY tc) yX0_pass cX0_pass 6 (some .int) rm_X0_pass_l [.ref (a0 0), .ref (a4 0), .int x2, .int x3] (wCk tc a0 g0 (a3 0) (a2 0) ++ (wLw tc a1 g1 ln1 ++ (wFa tc a2 g2 ++ (wHd tc a3 g3 ++ (wSt tc a4 g4 (some (a1 0)) (a5 0) ++ (wLg tc a5 g5)))))) (some (.int r0)) (wCk tc a0 g0 (a3 0) (a2 0) ++ (wLw tc a1 G1 ln1 ++ (wFa tc a2 G2 ++ (wHd tc a3 G3 ++ (wSt tc a4 G4 (some (a1 0)) (a5 0) ++ (wLg tc a5 G5)))))) := by
  refine ofCT (by decide) (Nat.le_of_ble_eq_true rfl) ?_
  intro pr e s m args below meth c A Q ls H locs X hQ hD0 hP hS hl
  have hD : ∀ z0 z1 z2 z3 z4 z5, va_D A (wCk tc a0 z0 (a3 0) (a2 0) ++ (wLw tc a1 z1 ln1 ++ (wFa tc a2 z2 ++ (wHd tc a3 z3 ++ (wSt tc a4 z4 (some (a1 0)) (a5 0) ++ (wLg tc a5 z5)))))) := fun z0 z1 z2 z3 z4 z5 => D_fst (ws := (wCk tc a0 g0 (a3 0) (a2 0) ++ (wLw tc a1 g1 ln1 ++ (wFa tc a2 g2 ++ (wHd tc a3 g3 ++ (wSt tc a4 g4 (some (a1 0)) (a5 0) ++ (wLg tc a5 g5))))))) rfl hD0
  have hl : lv_has ls 6 [(0, .ref (a0 0)), (1, .ref (a4 0)), (2, .int x2), (3, .int x3)] := hl
  have HL6 : ∀ (x2 : Int32) (x3 : Int32) (n : Nat) (x4 : Int32) (x5 : Int32) (g1 : Pic) (g2 : Pic) (g3 : Pic) (g4 : Pic) (g5 : Pic) (ex : (Int32 × Pic × Pic × Pic × Pic × Pic)), f_X0_pass_l_L6 ln1 x2 x3 g0 n (x4, x5, g1, g2, g3, g4, g5) = some ex → ∀ (H : Heap) (locs : List Loc) (ls : Array Slot), va_P (dC, dI) vwCl (wCk tc a0 g0 (a3 0) (a2 0) ++ (wLw tc a1 g1 ln1 ++ (wFa tc a2 g2 ++ (wHd tc a3 g3 ++ (wSt tc a4 g4 (some (a1 0)) (a5 0) ++ (wLg tc a5 g5)))))) H → va_S A s.heap H locs → lv_has ls 6 [(0, .ref (a0 0)), (1, .ref (a4 0)), (2, .int x2), (3, .int x3), (4, .int x4), (5, .int x5)] → (∀ (y4 : Int32) (k1 : Pic) (k2 : Pic) (k3 : Pic) (k4 : Pic) (k5 : Pic), (y4, k1, k2, k3, k4, k5) = ex → ∀ (H : Heap) (locs : List Loc) (ls : Array Slot), va_P (dC, dI) vwCl (wCk tc a0 g0 (a3 0) (a2 0) ++ (wLw tc a1 k1 ln1 ++ (wFa tc a2 k2 ++ (wHd tc a3 k3 ++ (wSt tc a4 k4 (some (a1 0)) (a5 0) ++ (wLg tc a5 k5)))))) H → va_S A s.heap H locs → lv_has ls 6 [(4, .int y4)] → W pr l e rm_X0_pass_l s m args below meth c H locs 0 0 Q (F0 m 62 ls [])) → W pr l e rm_X0_pass_l s m args below meth c H locs 0 0 Q (F0 m 6 ls []) := by
    intro x2 x3 n
    induction n with
    | zero => intro x4 x5 g1 g2 g3 g4 g5 ex h; exact lp_z h
    | succ n ih =>
      intro x4 x5 g1 g2 g3 g4 g5 ex h H locs ls hP hS hl K
      have h := lp_s h
      refine lv_iload X.1 X.2.1 dX0_pass_6 (lv_at hl 5 rfl) ?_
      refine lv_iload_n X.1 X.2.1 dX0_pass_8 rfl (lv_at hl 2 rfl) ?_
      refine lv_icmp_ge (tgt := 62) X.1 X.2.1 dX0_pass_9 (by decide) (fun hc => ?_) (fun hc => ?_)
      · have h := it_t hc h
        exact K x4 g1 g2 g3 g4 g5 (Option.some.inj h) H locs ls hP hS (lv_sub hl [4] rfl)
      · have h := it_f hc h
        refine lv_aload_n X.1 X.2.1 dX0_pass_12 rfl (lv_at hl 1 rfl) ?_
        refine r_get (C := RX9) (T := TX9) (N := 20) (ci := 9) (v := .int (g4 6 0)) X iw9 hP 13 rfl rfl 6 rfl mw_1_137 rfl dX0_pass_13 ?_
        refine lv_aload_n X.1 X.2.1 dX0_pass_16 rfl (lv_at hl 1 rfl) ?_
        refine r_get (C := RX9) (T := TX9) (N := 20) (ci := 9) (v := .int (g4 4 0)) X iw9 hP 13 rfl rfl 4 rfl mw_1_125 rfl dX0_pass_17 ?_
        obtain ⟨J40, eJ40, h⟩ := jn_el h
        have HJ40 : ∀ (x4_J40 : Int32) (g1_J40 : Pic) (g2_J40 : Pic) (g3_J40 : Pic) (g4_J40 : Pic) (g5_J40 : Pic) (H : Heap) (locs : List Loc) (ls : Array Slot), J40 x4_J40 g1_J40 g2_J40 g3_J40 g4_J40 g5_J40 = some ex → va_P (dC, dI) vwCl (wCk tc a0 g0 (a3 0) (a2 0) ++ (wLw tc a1 g1_J40 ln1 ++ (wFa tc a2 g2_J40 ++ (wHd tc a3 g3_J40 ++ (wSt tc a4 g4_J40 (some (a1 0)) (a5 0) ++ (wLg tc a5 g5_J40)))))) H → va_S A s.heap H locs → lv_has ls 6 [(0, .ref (a0 0)), (1, .ref (a4 0)), (2, .int x2), (3, .int x3), (4, .int x4_J40), (5, .int x5)] → W pr l e rm_X0_pass_l s m args below meth c H locs 0 0 Q (F0 m 40 ls []) := by
          intro x4_J40 g1_J40 g2_J40 g3_J40 g4_J40 g5_J40 H locs ls h hP hS hl
          rw [eJ40] at h
          refine lv_aload_n X.1 X.2.1 dX0_pass_40 rfl (lv_at hl 1 rfl) ?_
          refine lv_aload_n X.1 X.2.1 dX0_pass_41 rfl (lv_at hl 1 rfl) ?_
          refine r_get (C := RX9) (T := TX9) (N := 20) (ci := 9) (v := .int (g4_J40 15 0)) X iw9 hP 13 rfl rfl 15 rfl mw_1_180 rfl dX0_pass_42 ?_
          refine lv_iconst (v := 1) X.1 X.2.1 dX0_pass_45 (by decide) ?_
          refine lv_iadd X.1 X.2.1 dX0_pass_46 ?_
          refine lv_sipush (v := 9999) X.1 X.2.1 dX0_pass_47 (by decide) ?_
          refine r_min X mw_5_190 mw_3_9 mw_1_25 mw_3_10 hl.1 (Nat.le_of_ble_eq_true rfl) (Nat.le_of_ble_eq_true rfl) ⟨Nat.zero_le _, Nat.zero_le _⟩ dX0_pass_50 ?_
          obtain ⟨g4_1, eg4_1, h⟩ := nm_el h
          refine r_put (C := RX9) (T := TX9) (N := 20) (ci := 9) tyX9 tyX9_ok nmX9 X iw9 hP (hD _ _ _ _ _ _) hS 13 rfl rfl 15 rfl mw_1_180 rfl rfl rfl rfl dX0_pass_53 (wCk tc a0 g0 (a3 0) (a2 0) ++ (wLw tc a1 g1_J40 ln1 ++ (wFa tc a2 g2_J40 ++ (wHd tc a3 g3_J40 ++ (wSt tc a4 g4_1 (some (a1 0)) (a5 0) ++ (wLg tc a5 g5_J40)))))) (by rw [eg4_1]; rfl) (fun H locs hP hS => ?_)
          obtain ⟨x5_2, ex5_2, h⟩ := nm_el h
          refine lv_iinc (v := x5_2) (lv' := [(5, .int x5_2), (0, .ref (a0 0)), (1, .ref (a4 0)), (2, .int x2), (3, .int x3), (4, .int x4_J40)]) X.1 X.2.1 dX0_pass_56 hl (k := 5) rfl (by rw [ex5_2]; rfl) (by decide) rfl (fun ls hl => ?_)
          refine lv_goto (tgt := 6) X.1 X.2.1 dX0_pass_59 (by decide) ?_
          exact ih x4_J40 x5_2 g1_J40 g2_J40 g3_J40 g4_1 g5_J40 ex h H locs ls hP hS (lv_sub hl [1, 2, 3, 4, 5, 0] rfl) K
        refine lv_icmp_ge (tgt := 35) X.1 X.2.1 dX0_pass_20 (by decide) (fun hc => ?_) (fun hc => ?_)
        · have h := it_t hc h
          refine lv_aload_n X.1 X.2.1 dX0_pass_35 rfl (lv_at hl 0 rfl) ?_
          refine lv_aload_n X.1 X.2.1 dX0_pass_36 rfl (lv_at hl 1 rfl) ?_
          obtain ⟨g1_3, g2_3, g3_3, g4_3, hc_3, h⟩ := bd4_el h
          refine call_V1v (As := [.ref (a4 0)]) (rest := []) X (c_X0_letRest_l l dC dI sk sv tc ln1 a0 a1 a2 a3 a4 a5 g0 g1 g2 g3 g4 g5 hc_3) mw_5_233 mw_5_234 mw_5_235 mw_1_8 mw_5_236 dc_X0_letRest ⟨Nat.le_of_ble_eq_true rfl, Nat.le_of_ble_eq_true rfl⟩ rfl rfl ⟨Nat.zero_le _, Nat.zero_le _⟩ hP (hD _ _ _ _ _ _) hS 0 rfl rfl rfl hl.1 (Nat.le_of_ble_eq_true rfl) dX0_pass_37 (fun H locs hP hS => ?_)
          exact HJ40 x4 g1_3 g2_3 g3_3 g4_3 g5 H locs ls h hP hS (lv_sub hl [0, 1, 2, 3, 4, 5] rfl)
        · have h := it_f hc h
          refine lv_aload_n X.1 X.2.1 dX0_pass_23 rfl (lv_at hl 0 rfl) ?_
          refine lv_aload_n X.1 X.2.1 dX0_pass_24 rfl (lv_at hl 1 rfl) ?_
          refine lv_iload_n X.1 X.2.1 dX0_pass_25 rfl (lv_at hl 3 rfl) ?_
          obtain ⟨g1_4, g2_4, g3_4, g4_4, g5_4, hc_4, h⟩ := bd5_el h
          refine call_V1v (As := [.ref (a4 0), .int x3]) (rest := []) X (c_X0_sayNext_l l dC dI sk sv tc ln1 a0 a1 a2 a3 a4 a5 g0 g1 g2 g3 g4 g5 x3 hc_4) mw_5_212 mw_5_213 mw_5_214 mw_1_8 mw_5_215 dc_X0_sayNext ⟨Nat.le_of_ble_eq_true rfl, Nat.le_of_ble_eq_true rfl⟩ rfl rfl ⟨Nat.zero_le _, Nat.zero_le _⟩ hP (hD _ _ _ _ _ _) hS 0 rfl rfl rfl hl.1 (Nat.le_of_ble_eq_true rfl) dX0_pass_26 (fun H locs hP hS => ?_)
          obtain ⟨x4_5, ex4_5, h⟩ := nm_el h
          refine lv_iinc (v := x4_5) (lv' := [(4, .int x4_5), (0, .ref (a0 0)), (1, .ref (a4 0)), (2, .int x2), (3, .int x3), (5, .int x5)]) X.1 X.2.1 dX0_pass_29 hl (k := 4) rfl (by rw [ex4_5]; rfl) (by decide) rfl (fun ls hl => ?_)
          refine lv_goto (tgt := 40) X.1 X.2.1 dX0_pass_32 (by decide) ?_
          exact HJ40 x4_5 g1_4 g2_4 g3_4 g4_4 g5_4 H locs ls h hP hS (lv_sub hl [1, 2, 3, 4, 0, 5] rfl)
  unfold f_X0_pass_l at h
  refine lv_iconst (v := 0) X.1 X.2.1 dX0_pass_0 (by decide) ?_
  refine lv_istore (lv' := [(4, .int 0), (0, .ref (a0 0)), (1, .ref (a4 0)), (2, .int x2), (3, .int x3)]) X.1 X.2.1 dX0_pass_1 hl (by decide) rfl (fun ls hl => ?_)
  refine lv_iconst (v := 0) X.1 X.2.1 dX0_pass_3 (by decide) ?_
  refine lv_istore (lv' := [(5, .int 0), (4, .int 0), (0, .ref (a0 0)), (1, .ref (a4 0)), (2, .int x2), (3, .int x3)]) X.1 X.2.1 dX0_pass_4 hl (by decide) rfl (fun ls hl => ?_)
  obtain ⟨ex_6, hL_6, h⟩ := bd_el h
  refine HL6 x2 x3 fu 0 0 g1 g2 g3 g4 g5 ex_6 hL_6 H locs ls hP hS (lv_sub hl [2, 3, 4, 5, 1, 0] rfl) (fun x4_6 g1_6 g2_6 g3_6 g4_6 g5_6 he H locs ls hP hS hl => ?_)
  subst he
  refine lv_iload X.1 X.2.1 dX0_pass_62 (lv_at hl 0 rfl) ?_
  exact ret_i (fun u => (wCk tc a0 g0 (a3 0) (a2 0) ++ (wLw tc a1 u.1 ln1 ++ (wFa tc a2 u.2.1 ++ (wHd tc a3 u.2.2.1 ++ (wSt tc a4 u.2.2.2.1 (some (a1 0)) (a5 0) ++ (wLg tc a5 u.2.2.2.2))))))) (res := (r0, G1, G2, G3, G4, G5)) (Option.some.inj h) X hQ hP hS dX0_pass_64
