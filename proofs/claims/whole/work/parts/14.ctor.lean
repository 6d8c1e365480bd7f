def ax (L : List Nat) : Nat → Nat := fun i => L.getD i 0
def gz : Pic := fun _ _ => 0
def g0Tp : Pic := fun k _ => bif Nat.beq k 7 then -1 else 0
def g0St : Pic := fun k _ => bif Nat.beq k 13 then 3 else bif Nat.beq k 16 then 1 else 0
def g0M : Pic := fun k => bif Nat.beq k 1 then upd (upd (upd (fun _ => 0) 1 (-1)) 7 3) 11 1 else fun _ => bif Nat.beq k 12 then -1 else 0
abbrev rm_X7_init : Room := { frames := 1, cells := 1, slots := 240, locals := 40 }
set_option maxHeartbeats 4000000 in
set_option maxRecDepth 100000 in
theorem n_X7_init (l : Launch) (dC : Nat → ClassId) (dI : Nat → Nat → Nat) (sk sv : Nat → Nat) (tc : Nat → ClassId) (h : Nat) : CN l (dC, dI) sk sv (TY tc) yX7_init cX7_init 1 rm_X7_init 1 240 [.ref h] [(h, .inr (7, [.null, .int 0, .int 0]))] (fun u : Nat → Nat => wLg tc (ad h u) gz) := by
  refine ofCR (by decide) (Nat.le_of_ble_eq_true rfl) ?_
  intro pr e s m args below meth c A Q ls H locs X hin hQ hD hP hS hl
  have hl : lv_has ls 1 [(0, .ref h)] := hl
  refine lv_aload_n X.1 X.2.1 dX7_init_0 rfl (lv_at hl 0 rfl) ?_
  refine r_obj (idx := 3) X mw_1_90 mw_1_36 mw_1_37 hl.1 dX7_init_1 (Nat.le_of_ble_eq_true rfl) (Nat.le_of_ble_eq_true rfl) ?_
  refine lv_aload_n X.1 X.2.1 dX7_init_4 rfl (lv_at hl 0 rfl) ?_
  refine lv_sipush (v := 240) X.1 X.2.1 dX7_init_5 (by decide) ?_
  refine r_newi (c0 := tc 0) (N := 240) X mw_1_78 rfl ⟨by decide, by decide, by decide⟩ hP hD hS (Nat.le_of_ble_eq_true rfl) (Nat.le_of_ble_eq_true rfl) dX7_init_8 (fun q1 H hP hD hS => ?_)
  refine r_putF (C := RX7) (T := TX7) (N := 3) (ci := 7) tyX7 tyX7_ok nmX7 X hin iw7 hP hD hS 0 rfl rfl 0 rfl mw_1_91 rfl rfl rfl rfl rfl dX7_init_10 [(h, .inr (7, [.ref q1, .int 0, .int 0])), (q1, .inl (tc 0, 240, .inl (fun _ => 0)))] rfl (fun H locs hP hD hS => ?_)
  exact ret_N (wf := (fun u : Nat → Nat => wLg tc (ad h u) gz)) (ax [0, q1]) X hQ hP hD hS (Nat.le_of_ble_eq_true rfl) (Nat.le_of_ble_eq_true rfl) dX7_init_13

abbrev rm_X10_init : Room := { frames := 1, cells := 1, slots := 400, locals := 40 }
set_option maxHeartbeats 4000000 in
set_option maxRecDepth 100000 in
theorem n_X10_init (l : Launch) (dC : Nat → ClassId) (dI : Nat → Nat → Nat) (sk sv : Nat → Nat) (tc : Nat → ClassId) (h : Nat) : CN l (dC, dI) sk sv (TY tc) yX10_init cX10_init 1 rm_X10_init 1 400 [.ref h] [(h, .inr (10, [.null, .int 0, .int 0, .int 0, .int 0, .int 0, .int 0, .int 0]))] (fun u : Nat → Nat => wTp tc (ad h u) g0Tp) := by
  refine ofCR (by decide) (Nat.le_of_ble_eq_true rfl) ?_
  intro pr e s m args below meth c A Q ls H locs X hin hQ hD hP hS hl
  have hl : lv_has ls 1 [(0, .ref h)] := hl
  refine lv_aload_n X.1 X.2.1 dX10_init_0 rfl (lv_at hl 0 rfl) ?_
  refine r_obj (idx := 3) X mw_1_43 mw_1_36 mw_1_37 hl.1 dX10_init_1 (Nat.le_of_ble_eq_true rfl) (Nat.le_of_ble_eq_true rfl) ?_
  refine lv_aload_n X.1 X.2.1 dX10_init_4 rfl (lv_at hl 0 rfl) ?_
  refine lv_sipush (v := 400) X.1 X.2.1 dX10_init_5 (by decide) ?_
  refine r_newi (c0 := tc 0) (N := 400) X mw_1_78 rfl ⟨by decide, by decide, by decide⟩ hP hD hS (Nat.le_of_ble_eq_true rfl) (Nat.le_of_ble_eq_true rfl) dX10_init_8 (fun q1 H hP hD hS => ?_)
  refine r_putF (C := RX10) (T := TX10) (N := 8) (ci := 10) tyX10 tyX10_ok nmX10 X hin iw10 hP hD hS 0 rfl rfl 0 rfl mw_1_44 rfl rfl rfl rfl rfl dX10_init_10 [(h, .inr (10, [.ref q1, .int 0, .int 0, .int 0, .int 0, .int 0, .int 0, .int 0])), (q1, .inl (tc 0, 400, .inl (fun _ => 0)))] rfl (fun H locs hP hD hS => ?_)
  refine lv_aload_n X.1 X.2.1 dX10_init_13 rfl (lv_at hl 0 rfl) ?_
  refine lv_iconst (v := (-1)) X.1 X.2.1 dX10_init_14 (by decide) ?_
  refine r_putD (C := RX10) (T := TX10) (N := 8) (ci := 10) tyX10 tyX10_ok nmX10 X iw10 hP hD hS 0 rfl rfl 7 rfl mw_1_59 rfl rfl rfl rfl dX10_init_15 [(h, .inr (10, [.ref q1, .int 0, .int 0, .int 0, .int 0, .int 0, .int 0, .int (-1)])), (q1, .inl (tc 0, 400, .inl (fun _ => 0)))] rfl (fun H locs hP hD hS => ?_)
  exact ret_N (wf := (fun u : Nat → Nat => wTp tc (ad h u) g0Tp)) (ax [0, q1]) X hQ hP hD hS (Nat.le_of_ble_eq_true rfl) (Nat.le_of_ble_eq_true rfl) dX10_init_18

abbrev rm_X3_init : Room := { frames := 1, cells := 4, slots := 32, locals := 40 }
set_option maxHeartbeats 4000000 in
set_option maxRecDepth 100000 in
theorem n_X3_init (l : Launch) (dC : Nat → ClassId) (dI : Nat → Nat → Nat) (sk sv : Nat → Nat) (tc : Nat → ClassId) (h : Nat) : CN l (dC, dI) sk sv (TY tc) yX3_init cX3_init 1 rm_X3_init 4 32 [.ref h] [(h, .inr (3, [.null, .null, .null, .null, .int 0]))] (fun u : Nat → Nat => wHd tc (ad h u) gz) := by
  refine ofCR (by decide) (Nat.le_of_ble_eq_true rfl) ?_
  intro pr e s m args below meth c A Q ls H locs X hin hQ hD hP hS hl
  have hl : lv_has ls 1 [(0, .ref h)] := hl
  refine lv_aload_n X.1 X.2.1 dX3_init_0 rfl (lv_at hl 0 rfl) ?_
  refine r_obj (idx := 3) X mw_2_41 mw_1_36 mw_1_37 hl.1 dX3_init_1 (Nat.le_of_ble_eq_true rfl) (Nat.le_of_ble_eq_true rfl) ?_
  refine lv_aload_n X.1 X.2.1 dX3_init_4 rfl (lv_at hl 0 rfl) ?_
  refine lv_bipush (v := 8) X.1 X.2.1 dX3_init_5 (by decide) ?_
  refine r_newi (c0 := tc 0) (N := 8) X mw_1_78 rfl ⟨by decide, by decide, by decide⟩ hP hD hS (Nat.le_of_ble_eq_true rfl) (Nat.le_of_ble_eq_true rfl) dX3_init_7 (fun q1 H hP hD hS => ?_)
  refine r_putF (C := RX3) (T := TX3) (N := 5) (ci := 3) tyX3 tyX3_ok nmX3 X hin iw3 hP hD hS 0 rfl rfl 0 rfl mw_2_42 rfl rfl rfl rfl rfl dX3_init_9 [(h, .inr (3, [.ref q1, .null, .null, .null, .int 0])), (q1, .inl (tc 0, 8, .inl (fun _ => 0)))] rfl (fun H locs hP hD hS => ?_)
  refine lv_aload_n X.1 X.2.1 dX3_init_12 rfl (lv_at hl 0 rfl) ?_
  refine lv_bipush (v := 8) X.1 X.2.1 dX3_init_13 (by decide) ?_
  refine r_newi (c0 := tc 0) (N := 8) X mw_1_78 rfl ⟨by decide, by decide, by decide⟩ hP hD hS (Nat.le_of_ble_eq_true rfl) (Nat.le_of_ble_eq_true rfl) dX3_init_15 (fun q2 H hP hD hS => ?_)
  refine r_putF (C := RX3) (T := TX3) (N := 5) (ci := 3) tyX3 tyX3_ok nmX3 X hin iw3 hP hD hS 0 rfl rfl 1 rfl mw_2_43 rfl rfl rfl rfl rfl dX3_init_17 [(h, .inr (3, [.ref q1, .ref q2, .null, .null, .int 0])), (q1, .inl (tc 0, 8, .inl (fun _ => 0))), (q2, .inl (tc 0, 8, .inl (fun _ => 0)))] rfl (fun H locs hP hD hS => ?_)
  refine lv_aload_n X.1 X.2.1 dX3_init_20 rfl (lv_at hl 0 rfl) ?_
  refine lv_bipush (v := 8) X.1 X.2.1 dX3_init_21 (by decide) ?_
  refine r_newi (c0 := tc 0) (N := 8) X mw_1_78 rfl ⟨by decide, by decide, by decide⟩ hP hD hS (Nat.le_of_ble_eq_true rfl) (Nat.le_of_ble_eq_true rfl) dX3_init_23 (fun q3 H hP hD hS => ?_)
  refine r_putF (C := RX3) (T := TX3) (N := 5) (ci := 3) tyX3 tyX3_ok nmX3 X hin iw3 hP hD hS 0 rfl rfl 2 rfl mw_2_46 rfl rfl rfl rfl rfl dX3_init_25 [(h, .inr (3, [.ref q1, .ref q2, .ref q3, .null, .int 0])), (q1, .inl (tc 0, 8, .inl (fun _ => 0))), (q2, .inl (tc 0, 8, .inl (fun _ => 0))), (q3, .inl (tc 0, 8, .inl (fun _ => 0)))] rfl (fun H locs hP hD hS => ?_)
  refine lv_aload_n X.1 X.2.1 dX3_init_28 rfl (lv_at hl 0 rfl) ?_
  refine lv_bipush (v := 8) X.1 X.2.1 dX3_init_29 (by decide) ?_
  refine r_newi (c0 := tc 0) (N := 8) X mw_1_78 rfl ⟨by decide, by decide, by decide⟩ hP hD hS (Nat.le_of_ble_eq_true rfl) (Nat.le_of_ble_eq_true rfl) dX3_init_31 (fun q4 H hP hD hS => ?_)
  refine r_putF (C := RX3) (T := TX3) (N := 5) (ci := 3) tyX3 tyX3_ok nmX3 X hin iw3 hP hD hS 0 rfl rfl 3 rfl mw_2_47 rfl rfl rfl rfl rfl dX3_init_33 [(h, .inr (3, [.ref q1, .ref q2, .ref q3, .ref q4, .int 0])), (q1, .inl (tc 0, 8, .inl (fun _ => 0))), (q2, .inl (tc 0, 8, .inl (fun _ => 0))), (q3, .inl (tc 0, 8, .inl (fun _ => 0))), (q4, .inl (tc 0, 8, .inl (fun _ => 0)))] rfl (fun H locs hP hD hS => ?_)
  exact ret_N (wf := (fun u : Nat → Nat => wHd tc (ad h u) gz)) (ax [0, q1, q2, q3, q4]) X hQ hP hD hS (Nat.le_of_ble_eq_true rfl) (Nat.le_of_ble_eq_true rfl) dX3_init_36

abbrev rm_X9_init : Room := { frames := 2, cells := 11, slots := 447, locals := 60 }
set_option maxHeartbeats 4000000 in
set_option maxRecDepth 100000 in
theorem n_X9_init (l : Launch) (dC : Nat → ClassId) (dI : Nat → Nat → Nat) (sk sv : Nat → Nat) (tc : Nat → ClassId) (h : Nat) : CN l (dC, dI) sk sv (TY tc) yX9_init cX9_init 1 rm_X9_init 11 447 [.ref h] [(h, .inr (9, [.int 0, .null, .null, .null, .int 0, .null, .int 0, .int 0, .null, .null, .null, .null, .null, .int 0, .int 0, .int 0, .int 0, .int 0, .null, .null]))] (fun u : (Nat → Nat) × (Nat → Nat) => wSt tc (ad h u.1) g0St none (u.2 0) ++ wLg tc u.2 gz) := by
  refine ofCR (by decide) (Nat.le_of_ble_eq_true rfl) ?_
  intro pr e s m args below meth c A Q ls H locs X hin hQ hD hP hS hl
  have hl : lv_has ls 1 [(0, .ref h)] := hl
  refine lv_aload_n X.1 X.2.1 dX9_init_0 rfl (lv_at hl 0 rfl) ?_
  refine r_obj (idx := 3) X mw_1_84 mw_1_36 mw_1_37 hl.1 dX9_init_1 (Nat.le_of_ble_eq_true rfl) (Nat.le_of_ble_eq_true rfl) ?_
  refine lv_aload_n X.1 X.2.1 dX9_init_4 rfl (lv_at hl 0 rfl) ?_
  refine lv_bipush (v := 48) X.1 X.2.1 dX9_init_5 (by decide) ?_
  refine r_newi (c0 := tc 0) (N := 48) X mw_1_78 rfl ⟨by decide, by decide, by decide⟩ hP hD hS (Nat.le_of_ble_eq_true rfl) (Nat.le_of_ble_eq_true rfl) dX9_init_7 (fun q1 H hP hD hS => ?_)
  refine r_putF (C := RX9) (T := TX9) (N := 20) (ci := 9) tyX9 tyX9_ok nmX9 X hin iw9 hP hD hS 0 rfl rfl 1 rfl mw_1_109 rfl rfl rfl rfl rfl dX9_init_9 [(h, .inr (9, [.int 0, .ref q1, .null, .null, .int 0, .null, .int 0, .int 0, .null, .null, .null, .null, .null, .int 0, .int 0, .int 0, .int 0, .int 0, .null, .null])), (q1, .inl (tc 0, 48, .inl (fun _ => 0)))] rfl (fun H locs hP hD hS => ?_)
  refine lv_aload_n X.1 X.2.1 dX9_init_12 rfl (lv_at hl 0 rfl) ?_
  refine lv_bipush (v := 8) X.1 X.2.1 dX9_init_13 (by decide) ?_
  refine r_newi (c0 := tc 0) (N := 8) X mw_1_78 rfl ⟨by decide, by decide, by decide⟩ hP hD hS (Nat.le_of_ble_eq_true rfl) (Nat.le_of_ble_eq_true rfl) dX9_init_15 (fun q2 H hP hD hS => ?_)
  refine r_putF (C := RX9) (T := TX9) (N := 20) (ci := 9) tyX9 tyX9_ok nmX9 X hin iw9 hP hD hS 0 rfl rfl 2 rfl mw_1_113 rfl rfl rfl rfl rfl dX9_init_17 [(h, .inr (9, [.int 0, .ref q1, .ref q2, .null, .int 0, .null, .int 0, .int 0, .null, .null, .null, .null, .null, .int 0, .int 0, .int 0, .int 0, .int 0, .null, .null])), (q1, .inl (tc 0, 48, .inl (fun _ => 0))), (q2, .inl (tc 0, 8, .inl (fun _ => 0)))] rfl (fun H locs hP hD hS => ?_)
  refine lv_aload_n X.1 X.2.1 dX9_init_20 rfl (lv_at hl 0 rfl) ?_
  refine lv_bipush (v := 8) X.1 X.2.1 dX9_init_21 (by decide) ?_
  refine r_newi (c0 := tc 0) (N := 8) X mw_1_78 rfl ⟨by decide, by decide, by decide⟩ hP hD hS (Nat.le_of_ble_eq_true rfl) (Nat.le_of_ble_eq_true rfl) dX9_init_23 (fun q3 H hP hD hS => ?_)
  refine r_putF (C := RX9) (T := TX9) (N := 20) (ci := 9) tyX9 tyX9_ok nmX9 X hin iw9 hP hD hS 0 rfl rfl 3 rfl mw_1_119 rfl rfl rfl rfl rfl dX9_init_25 [(h, .inr (9, [.int 0, .ref q1, .ref q2, .ref q3, .int 0, .null, .int 0, .int 0, .null, .null, .null, .null, .null, .int 0, .int 0, .int 0, .int 0, .int 0, .null, .null])), (q1, .inl (tc 0, 48, .inl (fun _ => 0))), (q2, .inl (tc 0, 8, .inl (fun _ => 0))), (q3, .inl (tc 0, 8, .inl (fun _ => 0)))] rfl (fun H locs hP hD hS => ?_)
  refine lv_aload_n X.1 X.2.1 dX9_init_28 rfl (lv_at hl 0 rfl) ?_
  refine lv_bipush (v := 20) X.1 X.2.1 dX9_init_29 (by decide) ?_
  refine r_newi (c0 := tc 0) (N := 20) X mw_1_78 rfl ⟨by decide, by decide, by decide⟩ hP hD hS (Nat.le_of_ble_eq_true rfl) (Nat.le_of_ble_eq_true rfl) dX9_init_31 (fun q4 H hP hD hS => ?_)
  refine r_putF (C := RX9) (T := TX9) (N := 20) (ci := 9) tyX9 tyX9_ok nmX9 X hin iw9 hP hD hS 0 rfl rfl 5 rfl mw_1_131 rfl rfl rfl rfl rfl dX9_init_33 [(h, .inr (9, [.int 0, .ref q1, .ref q2, .ref q3, .int 0, .ref q4, .int 0, .int 0, .null, .null, .null, .null, .null, .int 0, .int 0, .int 0, .int 0, .int 0, .null, .null])), (q1, .inl (tc 0, 48, .inl (fun _ => 0))), (q2, .inl (tc 0, 8, .inl (fun _ => 0))), (q3, .inl (tc 0, 8, .inl (fun _ => 0))), (q4, .inl (tc 0, 20, .inl (fun _ => 0)))] rfl (fun H locs hP hD hS => ?_)
  refine lv_aload_n X.1 X.2.1 dX9_init_36 rfl (lv_at hl 0 rfl) ?_
  refine lv_iconst (v := 5) X.1 X.2.1 dX9_init_37 (by decide) ?_
  refine r_newi (c0 := tc 0) (N := 5) X mw_1_78 rfl ⟨by decide, by decide, by decide⟩ hP hD hS (Nat.le_of_ble_eq_true rfl) (Nat.le_of_ble_eq_true rfl) dX9_init_38 (fun q5 H hP hD hS => ?_)
  refine r_putF (C := RX9) (T := TX9) (N := 20) (ci := 9) tyX9 tyX9_ok nmX9 X hin iw9 hP hD hS 0 rfl rfl 8 rfl mw_1_147 rfl rfl rfl rfl rfl dX9_init_40 [(h, .inr (9, [.int 0, .ref q1, .ref q2, .ref q3, .int 0, .ref q4, .int 0, .int 0, .ref q5, .null, .null, .null, .null, .int 0, .int 0, .int 0, .int 0, .int 0, .null, .null])), (q1, .inl (tc 0, 48, .inl (fun _ => 0))), (q2, .inl (tc 0, 8, .inl (fun _ => 0))), (q3, .inl (tc 0, 8, .inl (fun _ => 0))), (q4, .inl (tc 0, 20, .inl (fun _ => 0))), (q5, .inl (tc 0, 5, .inl (fun _ => 0)))] rfl (fun H locs hP hD hS => ?_)
  refine lv_aload_n X.1 X.2.1 dX9_init_43 rfl (lv_at hl 0 rfl) ?_
  refine lv_iconst (v := 5) X.1 X.2.1 dX9_init_44 (by decide) ?_
  refine r_newi (c0 := tc 0) (N := 5) X mw_1_78 rfl ⟨by decide, by decide, by decide⟩ hP hD hS (Nat.le_of_ble_eq_true rfl) (Nat.le_of_ble_eq_true rfl) dX9_init_45 (fun q6 H hP hD hS => ?_)
  refine r_putF (C := RX9) (T := TX9) (N := 20) (ci := 9) tyX9 tyX9_ok nmX9 X hin iw9 hP hD hS 0 rfl rfl 9 rfl mw_1_153 rfl rfl rfl rfl rfl dX9_init_47 [(h, .inr (9, [.int 0, .ref q1, .ref q2, .ref q3, .int 0, .ref q4, .int 0, .int 0, .ref q5, .ref q6, .null, .null, .null, .int 0, .int 0, .int 0, .int 0, .int 0, .null, .null])), (q1, .inl (tc 0, 48, .inl (fun _ => 0))), (q2, .inl (tc 0, 8, .inl (fun _ => 0))), (q3, .inl (tc 0, 8, .inl (fun _ => 0))), (q4, .inl (tc 0, 20, .inl (fun _ => 0))), (q5, .inl (tc 0, 5, .inl (fun _ => 0))), (q6, .inl (tc 0, 5, .inl (fun _ => 0)))] rfl (fun H locs hP hD hS => ?_)
  refine lv_aload_n X.1 X.2.1 dX9_init_50 rfl (lv_at hl 0 rfl) ?_
  refine lv_iconst (v := 5) X.1 X.2.1 dX9_init_51 (by decide) ?_
  refine r_newi (c0 := tc 0) (N := 5) X mw_1_78 rfl ⟨by decide, by decide, by decide⟩ hP hD hS (Nat.le_of_ble_eq_true rfl) (Nat.le_of_ble_eq_true rfl) dX9_init_52 (fun q7 H hP hD hS => ?_)
  refine r_putF (C := RX9) (T := TX9) (N := 20) (ci := 9) tyX9 tyX9_ok nmX9 X hin iw9 hP hD hS 0 rfl rfl 10 rfl mw_1_158 rfl rfl rfl rfl rfl dX9_init_54 [(h, .inr (9, [.int 0, .ref q1, .ref q2, .ref q3, .int 0, .ref q4, .int 0, .int 0, .ref q5, .ref q6, .ref q7, .null, .null, .int 0, .int 0, .int 0, .int 0, .int 0, .null, .null])), (q1, .inl (tc 0, 48, .inl (fun _ => 0))), (q2, .inl (tc 0, 8, .inl (fun _ => 0))), (q3, .inl (tc 0, 8, .inl (fun _ => 0))), (q4, .inl (tc 0, 20, .inl (fun _ => 0))), (q5, .inl (tc 0, 5, .inl (fun _ => 0))), (q6, .inl (tc 0, 5, .inl (fun _ => 0))), (q7, .inl (tc 0, 5, .inl (fun _ => 0)))] rfl (fun H locs hP hD hS => ?_)
  refine lv_aload_n X.1 X.2.1 dX9_init_57 rfl (lv_at hl 0 rfl) ?_
  refine lv_iconst (v := 5) X.1 X.2.1 dX9_init_58 (by decide) ?_
  refine r_newi (c0 := tc 0) (N := 5) X mw_1_78 rfl ⟨by decide, by decide, by decide⟩ hP hD hS (Nat.le_of_ble_eq_true rfl) (Nat.le_of_ble_eq_true rfl) dX9_init_59 (fun q8 H hP hD hS => ?_)
  refine r_putF (C := RX9) (T := TX9) (N := 20) (ci := 9) tyX9 tyX9_ok nmX9 X hin iw9 hP hD hS 0 rfl rfl 11 rfl mw_1_163 rfl rfl rfl rfl rfl dX9_init_61 [(h, .inr (9, [.int 0, .ref q1, .ref q2, .ref q3, .int 0, .ref q4, .int 0, .int 0, .ref q5, .ref q6, .ref q7, .ref q8, .null, .int 0, .int 0, .int 0, .int 0, .int 0, .null, .null])), (q1, .inl (tc 0, 48, .inl (fun _ => 0))), (q2, .inl (tc 0, 8, .inl (fun _ => 0))), (q3, .inl (tc 0, 8, .inl (fun _ => 0))), (q4, .inl (tc 0, 20, .inl (fun _ => 0))), (q5, .inl (tc 0, 5, .inl (fun _ => 0))), (q6, .inl (tc 0, 5, .inl (fun _ => 0))), (q7, .inl (tc 0, 5, .inl (fun _ => 0))), (q8, .inl (tc 0, 5, .inl (fun _ => 0)))] rfl (fun H locs hP hD hS => ?_)
  refine lv_aload_n X.1 X.2.1 dX9_init_64 rfl (lv_at hl 0 rfl) ?_
  refine lv_bipush (v := 100) X.1 X.2.1 dX9_init_65 (by decide) ?_
  refine r_newi (c0 := tc 0) (N := 100) X mw_1_78 rfl ⟨by decide, by decide, by decide⟩ hP hD hS (Nat.le_of_ble_eq_true rfl) (Nat.le_of_ble_eq_true rfl) dX9_init_67 (fun q9 H hP hD hS => ?_)
  refine r_putF (C := RX9) (T := TX9) (N := 20) (ci := 9) tyX9 tyX9_ok nmX9 X hin iw9 hP hD hS 0 rfl rfl 12 rfl mw_1_168 rfl rfl rfl rfl rfl dX9_init_69 [(h, .inr (9, [.int 0, .ref q1, .ref q2, .ref q3, .int 0, .ref q4, .int 0, .int 0, .ref q5, .ref q6, .ref q7, .ref q8, .ref q9, .int 0, .int 0, .int 0, .int 0, .int 0, .null, .null])), (q1, .inl (tc 0, 48, .inl (fun _ => 0))), (q2, .inl (tc 0, 8, .inl (fun _ => 0))), (q3, .inl (tc 0, 8, .inl (fun _ => 0))), (q4, .inl (tc 0, 20, .inl (fun _ => 0))), (q5, .inl (tc 0, 5, .inl (fun _ => 0))), (q6, .inl (tc 0, 5, .inl (fun _ => 0))), (q7, .inl (tc 0, 5, .inl (fun _ => 0))), (q8, .inl (tc 0, 5, .inl (fun _ => 0))), (q9, .inl (tc 0, 100, .inl (fun _ => 0)))] rfl (fun H locs hP hD hS => ?_)
  refine lv_aload_n X.1 X.2.1 dX9_init_72 rfl (lv_at hl 0 rfl) ?_
  refine lv_iconst (v := 3) X.1 X.2.1 dX9_init_73 (by decide) ?_
  refine r_putD (C := RX9) (T := TX9) (N := 20) (ci := 9) tyX9 tyX9_ok nmX9 X iw9 hP hD hS 0 rfl rfl 13 rfl mw_1_171 rfl rfl rfl rfl dX9_init_74 [(h, .inr (9, [.int 0, .ref q1, .ref q2, .ref q3, .int 0, .ref q4, .int 0, .int 0, .ref q5, .ref q6, .ref q7, .ref q8, .ref q9, .int 3, .int 0, .int 0, .int 0, .int 0, .null, .null])), (q1, .inl (tc 0, 48, .inl (fun _ => 0))), (q2, .inl (tc 0, 8, .inl (fun _ => 0))), (q3, .inl (tc 0, 8, .inl (fun _ => 0))), (q4, .inl (tc 0, 20, .inl (fun _ => 0))), (q5, .inl (tc 0, 5, .inl (fun _ => 0))), (q6, .inl (tc 0, 5, .inl (fun _ => 0))), (q7, .inl (tc 0, 5, .inl (fun _ => 0))), (q8, .inl (tc 0, 5, .inl (fun _ => 0))), (q9, .inl (tc 0, 100, .inl (fun _ => 0)))] rfl (fun H locs hP hD hS => ?_)
  refine lv_aload_n X.1 X.2.1 dX9_init_77 rfl (lv_at hl 0 rfl) ?_
  refine lv_iconst (v := 1) X.1 X.2.1 dX9_init_78 (by decide) ?_
  refine r_putD (C := RX9) (T := TX9) (N := 20) (ci := 9) tyX9 tyX9_ok nmX9 X iw9 hP hD hS 0 rfl rfl 16 rfl mw_1_184 rfl rfl rfl rfl dX9_init_79 [(h, .inr (9, [.int 0, .ref q1, .ref q2, .ref q3, .int 0, .ref q4, .int 0, .int 0, .ref q5, .ref q6, .ref q7, .ref q8, .ref q9, .int 3, .int 0, .int 0, .int 1, .int 0, .null, .null])), (q1, .inl (tc 0, 48, .inl (fun _ => 0))), (q2, .inl (tc 0, 8, .inl (fun _ => 0))), (q3, .inl (tc 0, 8, .inl (fun _ => 0))), (q4, .inl (tc 0, 20, .inl (fun _ => 0))), (q5, .inl (tc 0, 5, .inl (fun _ => 0))), (q6, .inl (tc 0, 5, .inl (fun _ => 0))), (q7, .inl (tc 0, 5, .inl (fun _ => 0))), (q8, .inl (tc 0, 5, .inl (fun _ => 0))), (q9, .inl (tc 0, 100, .inl (fun _ => 0)))] rfl (fun H locs hP hD hS => ?_)
  refine lv_aload_n X.1 X.2.1 dX9_init_82 rfl (lv_at hl 0 rfl) ?_
  refine r_new (C := RX7) (T := TX7) (N := 3) (ci := 7) (fs := [.null, .int 0, .int 0]) tyX7 tyX7_ok X iw7 mw_1_85 mw_1_86 mw_1_4 rfl (by decide) hP hD hS (Nat.le_of_ble_eq_true rfl) (Nat.le_of_ble_eq_true rfl) dX9_init_83 (fun q10 H hP hD hS => ?_)
  refine lv_dup X.1 X.2.1 dX9_init_86 rfl ?_
  refine call_IN (As := []) (rest := [.ref q10, .ref h]) (wc := [(q10, .inr (7, [.null, .int 0, .int 0]))]) (wr := [(h, .inr (9, [.int 0, .ref q1, .ref q2, .ref q3, .int 0, .ref q4, .int 0, .int 0, .ref q5, .ref q6, .ref q7, .ref q8, .ref q9, .int 3, .int 0, .int 0, .int 1, .int 0, .null, .null])), (q1, .inl (tc 0, 48, .inl (fun _ => 0))), (q2, .inl (tc 0, 8, .inl (fun _ => 0))), (q3, .inl (tc 0, 8, .inl (fun _ => 0))), (q4, .inl (tc 0, 20, .inl (fun _ => 0))), (q5, .inl (tc 0, 5, .inl (fun _ => 0))), (q6, .inl (tc 0, 5, .inl (fun _ => 0))), (q7, .inl (tc 0, 5, .inl (fun _ => 0))), (q8, .inl (tc 0, 5, .inl (fun _ => 0))), (q9, .inl (tc 0, 100, .inl (fun _ => 0)))]) [10] [0, 1, 2, 3, 4, 5, 6, 7, 8, 9] X (n_X7_init l dC dI sk sv tc q10) (List.mem_of_getElem? (i := 2) rfl) mw_1_88 mw_1_4 mw_1_89 ⟨by decide +kernel, by decide +kernel, show (parseMethodDescriptor yX7_init.desc).map (fun d => d.parameters.length) = some 0 by decide +kernel⟩ rfl ⟨(Nat.le_of_ble_eq_true rfl), (Nat.le_of_ble_eq_true rfl)⟩ rfl rfl ⟨(Nat.le_of_ble_eq_true rfl), (Nat.le_of_ble_eq_true rfl)⟩ ⟨rfl, rfl, rfl, rfl, by decide⟩ hP hD hS hl.1 (Nat.le_of_ble_eq_true rfl) dX9_init_87 (fun u10 H locs hP hD hS => ?_)
  have hP : va_P (dC, dI) vwCl [(h, .inr (9, [.int 0, .ref q1, .ref q2, .ref q3, .int 0, .ref q4, .int 0, .int 0, .ref q5, .ref q6, .ref q7, .ref q8, .ref q9, .int 3, .int 0, .int 0, .int 1, .int 0, .null, .null])), (q1, .inl (tc 0, 48, .inl (fun _ => 0))), (q2, .inl (tc 0, 8, .inl (fun _ => 0))), (q3, .inl (tc 0, 8, .inl (fun _ => 0))), (q4, .inl (tc 0, 20, .inl (fun _ => 0))), (q5, .inl (tc 0, 5, .inl (fun _ => 0))), (q6, .inl (tc 0, 5, .inl (fun _ => 0))), (q7, .inl (tc 0, 5, .inl (fun _ => 0))), (q8, .inl (tc 0, 5, .inl (fun _ => 0))), (q9, .inl (tc 0, 100, .inl (fun _ => 0))), (q10, .inr (7, [.ref (u10 1), .int 0, .int 0])), ((u10 1), .inl (tc 0, 240, .inl (fun _ => 0)))] H := hP
  have hD : va_D A [(h, .inr (9, [.int 0, .ref q1, .ref q2, .ref q3, .int 0, .ref q4, .int 0, .int 0, .ref q5, .ref q6, .ref q7, .ref q8, .ref q9, .int 3, .int 0, .int 0, .int 1, .int 0, .null, .null])), (q1, .inl (tc 0, 48, .inl (fun _ => 0))), (q2, .inl (tc 0, 8, .inl (fun _ => 0))), (q3, .inl (tc 0, 8, .inl (fun _ => 0))), (q4, .inl (tc 0, 20, .inl (fun _ => 0))), (q5, .inl (tc 0, 5, .inl (fun _ => 0))), (q6, .inl (tc 0, 5, .inl (fun _ => 0))), (q7, .inl (tc 0, 5, .inl (fun _ => 0))), (q8, .inl (tc 0, 5, .inl (fun _ => 0))), (q9, .inl (tc 0, 100, .inl (fun _ => 0))), (q10, .inr (7, [.ref (u10 1), .int 0, .int 0])), ((u10 1), .inl (tc 0, 240, .inl (fun _ => 0)))] := hD
  refine r_putF (C := RX9) (T := TX9) (N := 20) (ci := 9) tyX9 tyX9_ok nmX9 X hin iw9 hP hD hS 0 rfl rfl 19 rfl mw_1_191 rfl rfl rfl rfl rfl dX9_init_90 [(h, .inr (9, [.int 0, .ref q1, .ref q2, .ref q3, .int 0, .ref q4, .int 0, .int 0, .ref q5, .ref q6, .ref q7, .ref q8, .ref q9, .int 3, .int 0, .int 0, .int 1, .int 0, .null, .ref q10])), (q1, .inl (tc 0, 48, .inl (fun _ => 0))), (q2, .inl (tc 0, 8, .inl (fun _ => 0))), (q3, .inl (tc 0, 8, .inl (fun _ => 0))), (q4, .inl (tc 0, 20, .inl (fun _ => 0))), (q5, .inl (tc 0, 5, .inl (fun _ => 0))), (q6, .inl (tc 0, 5, .inl (fun _ => 0))), (q7, .inl (tc 0, 5, .inl (fun _ => 0))), (q8, .inl (tc 0, 5, .inl (fun _ => 0))), (q9, .inl (tc 0, 100, .inl (fun _ => 0))), (q10, .inr (7, [.ref (u10 1), .int 0, .int 0])), ((u10 1), .inl (tc 0, 240, .inl (fun _ => 0)))] rfl (fun H locs hP hD hS => ?_)
  exact ret_N (wf := (fun u : (Nat → Nat) × (Nat → Nat) => wSt tc (ad h u.1) g0St none (u.2 0) ++ wLg tc u.2 gz)) ((ax [0, 0, q1, q2, q3, 0, q4, 0, 0, q5, q6, q7, q8, q9]), ad q10 u10) X hQ hP hD hS (Nat.le_of_ble_eq_true rfl) (Nat.le_of_ble_eq_true rfl) dX9_init_93

abbrev rm_X0_init : Room := { frames := 1, cells := 1, slots := 9, locals := 40 }
set_option maxHeartbeats 4000000 in
set_option maxRecDepth 100000 in
theorem n_X0_init (l : Launch) (dC : Nat → ClassId) (dI : Nat → Nat → Nat) (sk sv : Nat → Nat) (tc : Nat → ClassId) (h : Nat) (x1 : Nat) : CN l (dC, dI) sk sv (TY tc) yX0_init cX0_init 2 rm_X0_init 1 9 [.ref h, .ref x1] [(h, .inr (0, [.null, .null]))] (fun u : Nat → Nat => wCk tc (ad h u) gz x1 (u 0) ++ wFa tc u gz) := by
  refine ofCR (by decide) (Nat.le_of_ble_eq_true rfl) ?_
  intro pr e s m args below meth c A Q ls H locs X hin hQ hD hP hS hl
  have hl : lv_has ls 2 [(0, .ref h), (1, .ref x1)] := hl
  refine lv_aload_n X.1 X.2.1 dX0_init_0 rfl (lv_at hl 0 rfl) ?_
  refine r_obj (idx := 3) X mw_2_65 mw_1_36 mw_1_37 hl.1 dX0_init_1 (Nat.le_of_ble_eq_true rfl) (Nat.le_of_ble_eq_true rfl) ?_
  refine lv_aload_n X.1 X.2.1 dX0_init_4 rfl (lv_at hl 0 rfl) ?_
  refine lv_bipush (v := 9) X.1 X.2.1 dX0_init_5 (by decide) ?_
  refine r_newi (c0 := tc 0) (N := 9) X mw_1_78 rfl ⟨by decide, by decide, by decide⟩ hP hD hS (Nat.le_of_ble_eq_true rfl) (Nat.le_of_ble_eq_true rfl) dX0_init_7 (fun q1 H hP hD hS => ?_)
  refine r_putF (C := RX0) (T := TX0) (N := 2) (ci := 0) tyX0 tyX0_ok nmX0 X hin iw0 hP hD hS 0 rfl rfl 1 rfl mw_2_67 rfl rfl rfl rfl rfl dX0_init_9 [(h, .inr (0, [.null, .ref q1])), (q1, .inl (tc 0, 9, .inl (fun _ => 0)))] rfl (fun H locs hP hD hS => ?_)
  refine lv_aload_n X.1 X.2.1 dX0_init_12 rfl (lv_at hl 0 rfl) ?_
  refine lv_aload_n X.1 X.2.1 dX0_init_13 rfl (lv_at hl 1 rfl) ?_
  refine r_putF (C := RX0) (T := TX0) (N := 2) (ci := 0) tyX0 tyX0_ok nmX0 X hin iw0 hP hD hS 0 rfl rfl 0 rfl mw_2_66 rfl rfl rfl rfl rfl dX0_init_14 [(h, .inr (0, [.ref x1, .ref q1])), (q1, .inl (tc 0, 9, .inl (fun _ => 0)))] rfl (fun H locs hP hD hS => ?_)
  exact ret_N (wf := (fun u : Nat → Nat => wCk tc (ad h u) gz x1 (u 0) ++ wFa tc u gz)) (ax [q1]) X hQ hP hD hS (Nat.le_of_ble_eq_true rfl) (Nat.le_of_ble_eq_true rfl) dX0_init_17

abbrev rm_X6_init : Room := { frames := 1, cells := 3, slots := 1175, locals := 40 }
set_option maxHeartbeats 4000000 in
set_option maxRecDepth 100000 in
theorem n_X6_init (l : Launch) (dC : Nat → ClassId) (dI : Nat → Nat → Nat) (sk sv : Nat → Nat) (tc : Nat → ClassId) (h : Nat) (x1 : Nat) : CN l (dC, dI) sk sv (TY tc) yX6_init cX6_init 2 rm_X6_init 3 1175 [.ref h, .ref x1] [(h, .inr (6, [.null, .null, .null, .null]))] (fun u : Nat → Nat => wLx tc (ad h u) gz x1) := by
  refine ofCR (by decide) (Nat.le_of_ble_eq_true rfl) ?_
  intro pr e s m args below meth c A Q ls H locs X hin hQ hD hP hS hl
  have hl : lv_has ls 2 [(0, .ref h), (1, .ref x1)] := hl
  refine lv_aload_n X.1 X.2.1 dX6_init_0 rfl (lv_at hl 0 rfl) ?_
  refine r_obj (idx := 5) X mw_2_78 mw_1_36 mw_1_37 hl.1 dX6_init_1 (Nat.le_of_ble_eq_true rfl) (Nat.le_of_ble_eq_true rfl) ?_
  refine lv_aload_n X.1 X.2.1 dX6_init_4 rfl (lv_at hl 0 rfl) ?_
  refine lv_bipush (v := 7) X.1 X.2.1 dX6_init_5 (by decide) ?_
  refine r_newi (c0 := tc 0) (N := 7) X mw_1_78 rfl ⟨by decide, by decide, by decide⟩ hP hD hS (Nat.le_of_ble_eq_true rfl) (Nat.le_of_ble_eq_true rfl) dX6_init_7 (fun q1 H hP hD hS => ?_)
  refine r_putF (C := RX6) (T := TX6) (N := 4) (ci := 6) tyX6 tyX6_ok nmX6 X hin iw6 hP hD hS 0 rfl rfl 1 rfl mw_2_80 rfl rfl rfl rfl rfl dX6_init_9 [(h, .inr (6, [.null, .ref q1, .null, .null])), (q1, .inl (tc 0, 7, .inl (fun _ => 0)))] rfl (fun H locs hP hD hS => ?_)
  refine lv_aload_n X.1 X.2.1 dX6_init_12 rfl (lv_at hl 0 rfl) ?_
  refine lv_bipush (v := 7) X.1 X.2.1 dX6_init_13 (by decide) ?_
  refine r_newi (c0 := tc 0) (N := 7) X mw_1_78 rfl ⟨by decide, by decide, by decide⟩ hP hD hS (Nat.le_of_ble_eq_true rfl) (Nat.le_of_ble_eq_true rfl) dX6_init_15 (fun q2 H hP hD hS => ?_)
  refine r_putF (C := RX6) (T := TX6) (N := 4) (ci := 6) tyX6 tyX6_ok nmX6 X hin iw6 hP hD hS 0 rfl rfl 2 rfl mw_2_81 rfl rfl rfl rfl rfl dX6_init_17 [(h, .inr (6, [.null, .ref q1, .ref q2, .null])), (q1, .inl (tc 0, 7, .inl (fun _ => 0))), (q2, .inl (tc 0, 7, .inl (fun _ => 0)))] rfl (fun H locs hP hD hS => ?_)
  refine lv_aload_n X.1 X.2.1 dX6_init_20 rfl (lv_at hl 0 rfl) ?_
  refine lv_sipush (v := 1161) X.1 X.2.1 dX6_init_21 (by decide) ?_
  refine r_newi (c0 := tc 0) (N := 1161) X mw_1_78 rfl ⟨by decide, by decide, by decide⟩ hP hD hS (Nat.le_of_ble_eq_true rfl) (Nat.le_of_ble_eq_true rfl) dX6_init_24 (fun q3 H hP hD hS => ?_)
  refine r_putF (C := RX6) (T := TX6) (N := 4) (ci := 6) tyX6 tyX6_ok nmX6 X hin iw6 hP hD hS 0 rfl rfl 3 rfl mw_2_82 rfl rfl rfl rfl rfl dX6_init_26 [(h, .inr (6, [.null, .ref q1, .ref q2, .ref q3])), (q1, .inl (tc 0, 7, .inl (fun _ => 0))), (q2, .inl (tc 0, 7, .inl (fun _ => 0))), (q3, .inl (tc 0, 1161, .inl (fun _ => 0)))] rfl (fun H locs hP hD hS => ?_)
  refine lv_aload_n X.1 X.2.1 dX6_init_29 rfl (lv_at hl 0 rfl) ?_
  refine lv_aload_n X.1 X.2.1 dX6_init_30 rfl (lv_at hl 1 rfl) ?_
  refine r_putF (C := RX6) (T := TX6) (N := 4) (ci := 6) tyX6 tyX6_ok nmX6 X hin iw6 hP hD hS 0 rfl rfl 0 rfl mw_2_79 rfl rfl rfl rfl rfl dX6_init_31 [(h, .inr (6, [.ref x1, .ref q1, .ref q2, .ref q3])), (q1, .inl (tc 0, 7, .inl (fun _ => 0))), (q2, .inl (tc 0, 7, .inl (fun _ => 0))), (q3, .inl (tc 0, 1161, .inl (fun _ => 0)))] rfl (fun H locs hP hD hS => ?_)
  exact ret_N (wf := (fun u : Nat → Nat => wLx tc (ad h u) gz x1)) (ax [0, 0, q1, q2, q3]) X hQ hP hD hS (Nat.le_of_ble_eq_true rfl) (Nat.le_of_ble_eq_true rfl) dX6_init_34

abbrev rm_X1_init : Room := { frames := 1, cells := 2, slots := 265, locals := 40 }
set_option maxHeartbeats 4000000 in
set_option maxRecDepth 100000 in
theorem n_X1_init (l : Launch) (dC : Nat → ClassId) (dI : Nat → Nat → Nat) (sk sv : Nat → Nat) (tc : Nat → ClassId) (h : Nat) (x1 : Nat) (x2 : Nat) : CN l (dC, dI) sk sv (TY tc) yX1_init cX1_init 3 rm_X1_init 2 265 [.ref h, .ref x1, .ref x2] [(h, .inr (1, [.null, .null, .null, .null, .int 0, .int 0]))] (fun u : Nat → Nat => wCl tc (ad h u) gz x1 x2) := by
  refine ofCR (by decide) (Nat.le_of_ble_eq_true rfl) ?_
  intro pr e s m args below meth c A Q ls H locs X hin hQ hD hP hS hl
  have hl : lv_has ls 3 [(0, .ref h), (1, .ref x1), (2, .ref x2)] := hl
  refine lv_aload_n X.1 X.2.1 dX1_init_0 rfl (lv_at hl 0 rfl) ?_
  refine r_obj (idx := 3) X mw_2_97 mw_1_36 mw_1_37 hl.1 dX1_init_1 (Nat.le_of_ble_eq_true rfl) (Nat.le_of_ble_eq_true rfl) ?_
  refine lv_aload_n X.1 X.2.1 dX1_init_4 rfl (lv_at hl 0 rfl) ?_
  refine lv_sipush (v := 256) X.1 X.2.1 dX1_init_5 (by decide) ?_
  refine r_newi (c0 := tc 0) (N := 256) X mw_1_78 rfl ⟨by decide, by decide, by decide⟩ hP hD hS (Nat.le_of_ble_eq_true rfl) (Nat.le_of_ble_eq_true rfl) dX1_init_8 (fun q1 H hP hD hS => ?_)
  refine r_putF (C := RX1) (T := TX1) (N := 6) (ci := 1) tyX1 tyX1_ok nmX1 X hin iw1 hP hD hS 0 rfl rfl 2 rfl mw_2_100 rfl rfl rfl rfl rfl dX1_init_10 [(h, .inr (1, [.null, .null, .ref q1, .null, .int 0, .int 0])), (q1, .inl (tc 0, 256, .inl (fun _ => 0)))] rfl (fun H locs hP hD hS => ?_)
  refine lv_aload_n X.1 X.2.1 dX1_init_13 rfl (lv_at hl 0 rfl) ?_
  refine lv_bipush (v := 9) X.1 X.2.1 dX1_init_14 (by decide) ?_
  refine r_newi (c0 := tc 0) (N := 9) X mw_1_78 rfl ⟨by decide, by decide, by decide⟩ hP hD hS (Nat.le_of_ble_eq_true rfl) (Nat.le_of_ble_eq_true rfl) dX1_init_16 (fun q2 H hP hD hS => ?_)
  refine r_putF (C := RX1) (T := TX1) (N := 6) (ci := 1) tyX1 tyX1_ok nmX1 X hin iw1 hP hD hS 0 rfl rfl 3 rfl mw_2_101 rfl rfl rfl rfl rfl dX1_init_18 [(h, .inr (1, [.null, .null, .ref q1, .ref q2, .int 0, .int 0])), (q1, .inl (tc 0, 256, .inl (fun _ => 0))), (q2, .inl (tc 0, 9, .inl (fun _ => 0)))] rfl (fun H locs hP hD hS => ?_)
  refine lv_aload_n X.1 X.2.1 dX1_init_21 rfl (lv_at hl 0 rfl) ?_
  refine lv_aload_n X.1 X.2.1 dX1_init_22 rfl (lv_at hl 1 rfl) ?_
  refine r_putF (C := RX1) (T := TX1) (N := 6) (ci := 1) tyX1 tyX1_ok nmX1 X hin iw1 hP hD hS 0 rfl rfl 0 rfl mw_2_98 rfl rfl rfl rfl rfl dX1_init_23 [(h, .inr (1, [.ref x1, .null, .ref q1, .ref q2, .int 0, .int 0])), (q1, .inl (tc 0, 256, .inl (fun _ => 0))), (q2, .inl (tc 0, 9, .inl (fun _ => 0)))] rfl (fun H locs hP hD hS => ?_)
  refine lv_aload_n X.1 X.2.1 dX1_init_26 rfl (lv_at hl 0 rfl) ?_
  refine lv_aload_n X.1 X.2.1 dX1_init_27 rfl (lv_at hl 2 rfl) ?_
  refine r_putF (C := RX1) (T := TX1) (N := 6) (ci := 1) tyX1 tyX1_ok nmX1 X hin iw1 hP hD hS 0 rfl rfl 1 rfl mw_2_99 rfl rfl rfl rfl rfl dX1_init_28 [(h, .inr (1, [.ref x1, .ref x2, .ref q1, .ref q2, .int 0, .int 0])), (q1, .inl (tc 0, 256, .inl (fun _ => 0))), (q2, .inl (tc 0, 9, .inl (fun _ => 0)))] rfl (fun H locs hP hD hS => ?_)
  exact ret_N (wf := (fun u : Nat → Nat => wCl tc (ad h u) gz x1 x2)) (ax [0, 0, 0, q1, q2]) X hQ hP hD hS (Nat.le_of_ble_eq_true rfl) (Nat.le_of_ble_eq_true rfl) dX1_init_31

abbrev rm_X8_init : Room := { frames := 1, cells := 3, slots := 42, locals := 40 }
set_option maxHeartbeats 4000000 in
set_option maxRecDepth 100000 in
theorem n_X8_init (l : Launch) (dC : Nat → ClassId) (dI : Nat → Nat → Nat) (sk sv : Nat → Nat) (tc : Nat → ClassId) (h : Nat) (x1 : Nat) (x2 : Nat) : CN l (dC, dI) sk sv (TY tc) yX8_init cX8_init 3 rm_X8_init 3 42 [.ref h, .ref x1, .ref x2] [(h, .inr (8, [.null, .null, .null, .null, .null, .int 0]))] (fun u : Nat → Nat => wSc tc (ad h u) gz x1 x2) := by
  refine ofCR (by decide) (Nat.le_of_ble_eq_true rfl) ?_
  intro pr e s m args below meth c A Q ls H locs X hin hQ hD hP hS hl
  have hl : lv_has ls 3 [(0, .ref h), (1, .ref x1), (2, .ref x2)] := hl
  refine lv_aload_n X.1 X.2.1 dX8_init_0 rfl (lv_at hl 0 rfl) ?_
  refine r_obj (idx := 3) X mw_2_122 mw_1_36 mw_1_37 hl.1 dX8_init_1 (Nat.le_of_ble_eq_true rfl) (Nat.le_of_ble_eq_true rfl) ?_
  refine lv_aload_n X.1 X.2.1 dX8_init_4 rfl (lv_at hl 0 rfl) ?_
  refine lv_iconst (v := 5) X.1 X.2.1 dX8_init_5 (by decide) ?_
  refine r_newi (c0 := tc 0) (N := 5) X mw_1_78 rfl ⟨by decide, by decide, by decide⟩ hP hD hS (Nat.le_of_ble_eq_true rfl) (Nat.le_of_ble_eq_true rfl) dX8_init_6 (fun q1 H hP hD hS => ?_)
  refine r_putF (C := RX8) (T := TX8) (N := 6) (ci := 8) tyX8 tyX8_ok nmX8 X hin iw8 hP hD hS 0 rfl rfl 2 rfl mw_2_125 rfl rfl rfl rfl rfl dX8_init_8 [(h, .inr (8, [.null, .null, .ref q1, .null, .null, .int 0])), (q1, .inl (tc 0, 5, .inl (fun _ => 0)))] rfl (fun H locs hP hD hS => ?_)
  refine lv_aload_n X.1 X.2.1 dX8_init_11 rfl (lv_at hl 0 rfl) ?_
  refine lv_bipush (v := 32) X.1 X.2.1 dX8_init_12 (by decide) ?_
  refine r_newi (c0 := tc 0) (N := 32) X mw_1_78 rfl ⟨by decide, by decide, by decide⟩ hP hD hS (Nat.le_of_ble_eq_true rfl) (Nat.le_of_ble_eq_true rfl) dX8_init_14 (fun q2 H hP hD hS => ?_)
  refine r_putF (C := RX8) (T := TX8) (N := 6) (ci := 8) tyX8 tyX8_ok nmX8 X hin iw8 hP hD hS 0 rfl rfl 3 rfl mw_2_126 rfl rfl rfl rfl rfl dX8_init_16 [(h, .inr (8, [.null, .null, .ref q1, .ref q2, .null, .int 0])), (q1, .inl (tc 0, 5, .inl (fun _ => 0))), (q2, .inl (tc 0, 32, .inl (fun _ => 0)))] rfl (fun H locs hP hD hS => ?_)
  refine lv_aload_n X.1 X.2.1 dX8_init_19 rfl (lv_at hl 0 rfl) ?_
  refine lv_iconst (v := 5) X.1 X.2.1 dX8_init_20 (by decide) ?_
  refine r_newi (c0 := tc 0) (N := 5) X mw_1_78 rfl ⟨by decide, by decide, by decide⟩ hP hD hS (Nat.le_of_ble_eq_true rfl) (Nat.le_of_ble_eq_true rfl) dX8_init_21 (fun q3 H hP hD hS => ?_)
  refine r_putF (C := RX8) (T := TX8) (N := 6) (ci := 8) tyX8 tyX8_ok nmX8 X hin iw8 hP hD hS 0 rfl rfl 4 rfl mw_2_127 rfl rfl rfl rfl rfl dX8_init_23 [(h, .inr (8, [.null, .null, .ref q1, .ref q2, .ref q3, .int 0])), (q1, .inl (tc 0, 5, .inl (fun _ => 0))), (q2, .inl (tc 0, 32, .inl (fun _ => 0))), (q3, .inl (tc 0, 5, .inl (fun _ => 0)))] rfl (fun H locs hP hD hS => ?_)
  refine lv_aload_n X.1 X.2.1 dX8_init_26 rfl (lv_at hl 0 rfl) ?_
  refine lv_aload_n X.1 X.2.1 dX8_init_27 rfl (lv_at hl 1 rfl) ?_
  refine r_putF (C := RX8) (T := TX8) (N := 6) (ci := 8) tyX8 tyX8_ok nmX8 X hin iw8 hP hD hS 0 rfl rfl 0 rfl mw_2_123 rfl rfl rfl rfl rfl dX8_init_28 [(h, .inr (8, [.ref x1, .null, .ref q1, .ref q2, .ref q3, .int 0])), (q1, .inl (tc 0, 5, .inl (fun _ => 0))), (q2, .inl (tc 0, 32, .inl (fun _ => 0))), (q3, .inl (tc 0, 5, .inl (fun _ => 0)))] rfl (fun H locs hP hD hS => ?_)
  refine lv_aload_n X.1 X.2.1 dX8_init_31 rfl (lv_at hl 0 rfl) ?_
  refine lv_aload_n X.1 X.2.1 dX8_init_32 rfl (lv_at hl 2 rfl) ?_
  refine r_putF (C := RX8) (T := TX8) (N := 6) (ci := 8) tyX8 tyX8_ok nmX8 X hin iw8 hP hD hS 0 rfl rfl 1 rfl mw_2_124 rfl rfl rfl rfl rfl dX8_init_33 [(h, .inr (8, [.ref x1, .ref x2, .ref q1, .ref q2, .ref q3, .int 0])), (q1, .inl (tc 0, 5, .inl (fun _ => 0))), (q2, .inl (tc 0, 32, .inl (fun _ => 0))), (q3, .inl (tc 0, 5, .inl (fun _ => 0)))] rfl (fun H locs hP hD hS => ?_)
  exact ret_N (wf := (fun u : Nat → Nat => wSc tc (ad h u) gz x1 x2)) (ax [0, 0, 0, q1, q2, q3]) X hQ hP hD hS (Nat.le_of_ble_eq_true rfl) (Nat.le_of_ble_eq_true rfl) dX8_init_36

abbrev rm_X2_init : Room := { frames := 1, cells := 0, slots := 0, locals := 40 }
set_option maxHeartbeats 4000000 in
set_option maxRecDepth 100000 in
theorem n_X2_init (l : Launch) (dC : Nat → ClassId) (dI : Nat → Nat → Nat) (sk sv : Nat → Nat) (tc : Nat → ClassId) (h : Nat) (x1 : Nat) (x2 : Nat) : CN l (dC, dI) sk sv (TY tc) yX2_init cX2_init 3 rm_X2_init 0 0 [.ref h, .ref x1, .ref x2] [(h, .inr (2, [.null, .null]))] (fun u : Nat → Nat => wEv tc (ad h u) gz x1 x2) := by
  refine ofCR (by decide) (Nat.le_of_ble_eq_true rfl) ?_
  intro pr e s m args below meth c A Q ls H locs X hin hQ hD hP hS hl
  have hl : lv_has ls 3 [(0, .ref h), (1, .ref x1), (2, .ref x2)] := hl
  refine lv_aload_n X.1 X.2.1 dX2_init_0 rfl (lv_at hl 0 rfl) ?_
  refine r_obj (idx := 3) X mw_2_0 mw_1_36 mw_1_37 hl.1 dX2_init_1 (Nat.le_of_ble_eq_true rfl) (Nat.le_of_ble_eq_true rfl) ?_
  refine lv_aload_n X.1 X.2.1 dX2_init_4 rfl (lv_at hl 0 rfl) ?_
  refine lv_aload_n X.1 X.2.1 dX2_init_5 rfl (lv_at hl 1 rfl) ?_
  refine r_putF (C := RX2) (T := TX2) (N := 2) (ci := 2) tyX2 tyX2_ok nmX2 X hin iw2 hP hD hS 0 rfl rfl 0 rfl mw_2_1 rfl rfl rfl rfl rfl dX2_init_6 [(h, .inr (2, [.ref x1, .null]))] rfl (fun H locs hP hD hS => ?_)
  refine lv_aload_n X.1 X.2.1 dX2_init_9 rfl (lv_at hl 0 rfl) ?_
  refine lv_aload_n X.1 X.2.1 dX2_init_10 rfl (lv_at hl 2 rfl) ?_
  refine r_putF (C := RX2) (T := TX2) (N := 2) (ci := 2) tyX2 tyX2_ok nmX2 X hin iw2 hP hD hS 0 rfl rfl 1 rfl mw_2_2 rfl rfl rfl rfl rfl dX2_init_11 [(h, .inr (2, [.ref x1, .ref x2]))] rfl (fun H locs hP hD hS => ?_)
  exact ret_N (wf := (fun u : Nat → Nat => wEv tc (ad h u) gz x1 x2)) (ax []) X hQ hP hD hS (Nat.le_of_ble_eq_true rfl) (Nat.le_of_ble_eq_true rfl) dX2_init_14

abbrev rm_X5_init : Room := { frames := 1, cells := 4, slots := 437, locals := 40 }
set_option maxHeartbeats 4000000 in
set_option maxRecDepth 100000 in
theorem n_X5_init (l : Launch) (dC : Nat → ClassId) (dI : Nat → Nat → Nat) (sk sv : Nat → Nat) (tc : Nat → ClassId) (h : Nat) (x1 : Nat) : CN l (dC, dI) sk sv (TY tc) yX5_init cX5_init 2 rm_X5_init 4 437 [.ref h, .ref x1] [(h, .inr (5, [.null, .null, .null, .null, .null, .int 0, .int 0]))] (fun u : Nat → Nat => wLR tc (ad h u) gz x1) := by
  refine ofCR (by decide) (Nat.le_of_ble_eq_true rfl) ?_
  intro pr e s m args below meth c A Q ls H locs X hin hQ hD hP hS hl
  have hl : lv_has ls 2 [(0, .ref h), (1, .ref x1)] := hl
  refine lv_aload_n X.1 X.2.1 dX5_init_0 rfl (lv_at hl 0 rfl) ?_
  refine r_obj (idx := 3) X mw_2_13 mw_1_36 mw_1_37 hl.1 dX5_init_1 (Nat.le_of_ble_eq_true rfl) (Nat.le_of_ble_eq_true rfl) ?_
  refine lv_aload_n X.1 X.2.1 dX5_init_4 rfl (lv_at hl 0 rfl) ?_
  refine lv_bipush (v := 12) X.1 X.2.1 dX5_init_5 (by decide) ?_
  refine r_newi (c0 := tc 0) (N := 12) X mw_1_78 rfl ⟨by decide, by decide, by decide⟩ hP hD hS (Nat.le_of_ble_eq_true rfl) (Nat.le_of_ble_eq_true rfl) dX5_init_7 (fun q1 H hP hD hS => ?_)
  refine r_putF (C := RX5) (T := TX5) (N := 7) (ci := 5) tyX5 tyX5_ok nmX5 X hin iw5 hP hD hS 0 rfl rfl 1 rfl mw_2_15 rfl rfl rfl rfl rfl dX5_init_9 [(h, .inr (5, [.null, .ref q1, .null, .null, .null, .int 0, .int 0])), (q1, .inl (tc 0, 12, .inl (fun _ => 0)))] rfl (fun H locs hP hD hS => ?_)
  refine lv_aload_n X.1 X.2.1 dX5_init_12 rfl (lv_at hl 0 rfl) ?_
  refine lv_bipush (v := 12) X.1 X.2.1 dX5_init_13 (by decide) ?_
  refine r_newi (c0 := tc 0) (N := 12) X mw_1_78 rfl ⟨by decide, by decide, by decide⟩ hP hD hS (Nat.le_of_ble_eq_true rfl) (Nat.le_of_ble_eq_true rfl) dX5_init_15 (fun q2 H hP hD hS => ?_)
  refine r_putF (C := RX5) (T := TX5) (N := 7) (ci := 5) tyX5 tyX5_ok nmX5 X hin iw5 hP hD hS 0 rfl rfl 2 rfl mw_2_16 rfl rfl rfl rfl rfl dX5_init_17 [(h, .inr (5, [.null, .ref q1, .ref q2, .null, .null, .int 0, .int 0])), (q1, .inl (tc 0, 12, .inl (fun _ => 0))), (q2, .inl (tc 0, 12, .inl (fun _ => 0)))] rfl (fun H locs hP hD hS => ?_)
  refine lv_aload_n X.1 X.2.1 dX5_init_20 rfl (lv_at hl 0 rfl) ?_
  refine lv_bipush (v := 13) X.1 X.2.1 dX5_init_21 (by decide) ?_
  refine r_newi (c0 := tc 0) (N := 13) X mw_1_78 rfl ⟨by decide, by decide, by decide⟩ hP hD hS (Nat.le_of_ble_eq_true rfl) (Nat.le_of_ble_eq_true rfl) dX5_init_23 (fun q3 H hP hD hS => ?_)
  refine r_putF (C := RX5) (T := TX5) (N := 7) (ci := 5) tyX5 tyX5_ok nmX5 X hin iw5 hP hD hS 0 rfl rfl 3 rfl mw_2_17 rfl rfl rfl rfl rfl dX5_init_25 [(h, .inr (5, [.null, .ref q1, .ref q2, .ref q3, .null, .int 0, .int 0])), (q1, .inl (tc 0, 12, .inl (fun _ => 0))), (q2, .inl (tc 0, 12, .inl (fun _ => 0))), (q3, .inl (tc 0, 13, .inl (fun _ => 0)))] rfl (fun H locs hP hD hS => ?_)
  refine lv_aload_n X.1 X.2.1 dX5_init_28 rfl (lv_at hl 0 rfl) ?_
  refine lv_sipush (v := 400) X.1 X.2.1 dX5_init_29 (by decide) ?_
  refine r_newi (c0 := tc 0) (N := 400) X mw_1_78 rfl ⟨by decide, by decide, by decide⟩ hP hD hS (Nat.le_of_ble_eq_true rfl) (Nat.le_of_ble_eq_true rfl) dX5_init_32 (fun q4 H hP hD hS => ?_)
  refine r_putF (C := RX5) (T := TX5) (N := 7) (ci := 5) tyX5 tyX5_ok nmX5 X hin iw5 hP hD hS 0 rfl rfl 4 rfl mw_2_18 rfl rfl rfl rfl rfl dX5_init_34 [(h, .inr (5, [.null, .ref q1, .ref q2, .ref q3, .ref q4, .int 0, .int 0])), (q1, .inl (tc 0, 12, .inl (fun _ => 0))), (q2, .inl (tc 0, 12, .inl (fun _ => 0))), (q3, .inl (tc 0, 13, .inl (fun _ => 0))), (q4, .inl (tc 0, 400, .inl (fun _ => 0)))] rfl (fun H locs hP hD hS => ?_)
  refine lv_aload_n X.1 X.2.1 dX5_init_37 rfl (lv_at hl 0 rfl) ?_
  refine lv_aload_n X.1 X.2.1 dX5_init_38 rfl (lv_at hl 1 rfl) ?_
  refine r_putF (C := RX5) (T := TX5) (N := 7) (ci := 5) tyX5 tyX5_ok nmX5 X hin iw5 hP hD hS 0 rfl rfl 0 rfl mw_2_14 rfl rfl rfl rfl rfl dX5_init_39 [(h, .inr (5, [.ref x1, .ref q1, .ref q2, .ref q3, .ref q4, .int 0, .int 0])), (q1, .inl (tc 0, 12, .inl (fun _ => 0))), (q2, .inl (tc 0, 12, .inl (fun _ => 0))), (q3, .inl (tc 0, 13, .inl (fun _ => 0))), (q4, .inl (tc 0, 400, .inl (fun _ => 0)))] rfl (fun H locs hP hD hS => ?_)
  exact ret_N (wf := (fun u : Nat → Nat => wLR tc (ad h u) gz x1)) (ax [0, 0, q1, q2, q3, q4]) X hQ hP hD hS (Nat.le_of_ble_eq_true rfl) (Nat.le_of_ble_eq_true rfl) dX5_init_42

abbrev rm_X12_init : Room := { frames := 1, cells := 14, slots := 9575, locals := 40 }
set_option maxHeartbeats 4000000 in
set_option maxRecDepth 100000 in
theorem n_X12_init (l : Launch) (dC : Nat → ClassId) (dI : Nat → Nat → Nat) (sk sv : Nat → Nat) (tc : Nat → ClassId) (h : Nat) : CN l (dC, dI) sk sv (TY tc) yX12_init cX12_init 1 rm_X12_init 14 9575 [.ref h] [(h, .inr (12, [.int 0, .null, .null, .int 0, .null, .null, .int 0, .null, .int 0, .int 0, .int 0, .int 0, .int 0, .int 0, .null, .int 0, .int 0, .int 0, .int 0, .int 0, .null, .null, .null, .null, .null, .null, .null, .null]))] (fun u : Nat → Nat => wM tc (ad h u) g0M) := by
  refine ofCR (by decide) (Nat.le_of_ble_eq_true rfl) ?_
  intro pr e s m args below meth c A Q ls H locs X hin hQ hD hP hS hl
  have hl : lv_has ls 1 [(0, .ref h)] := hl
  refine lv_aload_n X.1 X.2.1 dX12_init_0 rfl (lv_at hl 0 rfl) ?_
  refine r_obj (idx := 1) X mw_7_119 mw_1_36 mw_1_37 hl.1 dX12_init_1 (Nat.le_of_ble_eq_true rfl) (Nat.le_of_ble_eq_true rfl) ?_
  refine lv_aload_n X.1 X.2.1 dX12_init_4 rfl (lv_at hl 0 rfl) ?_
  refine lv_sipush (v := 856) X.1 X.2.1 dX12_init_5 (by decide) ?_
  refine r_newi (c0 := tc 0) (N := 856) X mw_1_78 rfl ⟨by decide, by decide, by decide⟩ hP hD hS (Nat.le_of_ble_eq_true rfl) (Nat.le_of_ble_eq_true rfl) dX12_init_8 (fun q1 H hP hD hS => ?_)
  refine r_putF (C := RX12) (T := TX12) (N := 28) (ci := 12) tyX12 tyX12_ok nmX12 X hin iw12 hP hD hS 0 rfl rfl 1 rfl mw_7_121 rfl rfl rfl rfl rfl dX12_init_10 [(h, .inr (12, [.int 0, .ref q1, .null, .int 0, .null, .null, .int 0, .null, .int 0, .int 0, .int 0, .int 0, .int 0, .int 0, .null, .int 0, .int 0, .int 0, .int 0, .int 0, .null, .null, .null, .null, .null, .null, .null, .null])), (q1, .inl (tc 0, 856, .inl (fun _ => 0)))] rfl (fun H locs hP hD hS => ?_)
  refine lv_aload_n X.1 X.2.1 dX12_init_13 rfl (lv_at hl 0 rfl) ?_
  refine lv_sipush (v := 856) X.1 X.2.1 dX12_init_14 (by decide) ?_
  refine r_newi (c0 := tc 0) (N := 856) X mw_1_78 rfl ⟨by decide, by decide, by decide⟩ hP hD hS (Nat.le_of_ble_eq_true rfl) (Nat.le_of_ble_eq_true rfl) dX12_init_17 (fun q2 H hP hD hS => ?_)
  refine r_putF (C := RX12) (T := TX12) (N := 28) (ci := 12) tyX12 tyX12_ok nmX12 X hin iw12 hP hD hS 0 rfl rfl 2 rfl mw_7_122 rfl rfl rfl rfl rfl dX12_init_19 [(h, .inr (12, [.int 0, .ref q1, .ref q2, .int 0, .null, .null, .int 0, .null, .int 0, .int 0, .int 0, .int 0, .int 0, .int 0, .null, .int 0, .int 0, .int 0, .int 0, .int 0, .null, .null, .null, .null, .null, .null, .null, .null])), (q1, .inl (tc 0, 856, .inl (fun _ => 0))), (q2, .inl (tc 0, 856, .inl (fun _ => 0)))] rfl (fun H locs hP hD hS => ?_)
  refine lv_aload_n X.1 X.2.1 dX12_init_22 rfl (lv_at hl 0 rfl) ?_
  refine lv_sipush (v := 456) X.1 X.2.1 dX12_init_23 (by decide) ?_
  refine r_newi (c0 := tc 0) (N := 456) X mw_1_78 rfl ⟨by decide, by decide, by decide⟩ hP hD hS (Nat.le_of_ble_eq_true rfl) (Nat.le_of_ble_eq_true rfl) dX12_init_26 (fun q3 H hP hD hS => ?_)
  refine r_putF (C := RX12) (T := TX12) (N := 28) (ci := 12) tyX12 tyX12_ok nmX12 X hin iw12 hP hD hS 0 rfl rfl 4 rfl mw_7_124 rfl rfl rfl rfl rfl dX12_init_28 [(h, .inr (12, [.int 0, .ref q1, .ref q2, .int 0, .ref q3, .null, .int 0, .null, .int 0, .int 0, .int 0, .int 0, .int 0, .int 0, .null, .int 0, .int 0, .int 0, .int 0, .int 0, .null, .null, .null, .null, .null, .null, .null, .null])), (q1, .inl (tc 0, 856, .inl (fun _ => 0))), (q2, .inl (tc 0, 856, .inl (fun _ => 0))), (q3, .inl (tc 0, 456, .inl (fun _ => 0)))] rfl (fun H locs hP hD hS => ?_)
  refine lv_aload_n X.1 X.2.1 dX12_init_31 rfl (lv_at hl 0 rfl) ?_
  refine lv_sipush (v := 5472) X.1 X.2.1 dX12_init_32 (by decide) ?_
  refine r_newi (c0 := tc 0) (N := 5472) X mw_1_78 rfl ⟨by decide, by decide, by decide⟩ hP hD hS (Nat.le_of_ble_eq_true rfl) (Nat.le_of_ble_eq_true rfl) dX12_init_35 (fun q4 H hP hD hS => ?_)
  refine r_putF (C := RX12) (T := TX12) (N := 28) (ci := 12) tyX12 tyX12_ok nmX12 X hin iw12 hP hD hS 0 rfl rfl 5 rfl mw_7_125 rfl rfl rfl rfl rfl dX12_init_37 [(h, .inr (12, [.int 0, .ref q1, .ref q2, .int 0, .ref q3, .ref q4, .int 0, .null, .int 0, .int 0, .int 0, .int 0, .int 0, .int 0, .null, .int 0, .int 0, .int 0, .int 0, .int 0, .null, .null, .null, .null, .null, .null, .null, .null])), (q1, .inl (tc 0, 856, .inl (fun _ => 0))), (q2, .inl (tc 0, 856, .inl (fun _ => 0))), (q3, .inl (tc 0, 456, .inl (fun _ => 0))), (q4, .inl (tc 0, 5472, .inl (fun _ => 0)))] rfl (fun H locs hP hD hS => ?_)
  refine lv_aload_n X.1 X.2.1 dX12_init_40 rfl (lv_at hl 0 rfl) ?_
  refine lv_sipush (v := 400) X.1 X.2.1 dX12_init_41 (by decide) ?_
  refine r_newi (c0 := tc 0) (N := 400) X mw_1_78 rfl ⟨by decide, by decide, by decide⟩ hP hD hS (Nat.le_of_ble_eq_true rfl) (Nat.le_of_ble_eq_true rfl) dX12_init_44 (fun q5 H hP hD hS => ?_)
  refine r_putF (C := RX12) (T := TX12) (N := 28) (ci := 12) tyX12 tyX12_ok nmX12 X hin iw12 hP hD hS 0 rfl rfl 7 rfl mw_7_127 rfl rfl rfl rfl rfl dX12_init_46 [(h, .inr (12, [.int 0, .ref q1, .ref q2, .int 0, .ref q3, .ref q4, .int 0, .ref q5, .int 0, .int 0, .int 0, .int 0, .int 0, .int 0, .null, .int 0, .int 0, .int 0, .int 0, .int 0, .null, .null, .null, .null, .null, .null, .null, .null])), (q1, .inl (tc 0, 856, .inl (fun _ => 0))), (q2, .inl (tc 0, 856, .inl (fun _ => 0))), (q3, .inl (tc 0, 456, .inl (fun _ => 0))), (q4, .inl (tc 0, 5472, .inl (fun _ => 0))), (q5, .inl (tc 0, 400, .inl (fun _ => 0)))] rfl (fun H locs hP hD hS => ?_)
  refine lv_aload_n X.1 X.2.1 dX12_init_49 rfl (lv_at hl 0 rfl) ?_
  refine lv_iconst (v := (-1)) X.1 X.2.1 dX12_init_50 (by decide) ?_
  refine r_putD (C := RX12) (T := TX12) (N := 28) (ci := 12) tyX12 tyX12_ok nmX12 X iw12 hP hD hS 0 rfl rfl 12 rfl mw_7_132 rfl rfl rfl rfl dX12_init_51 [(h, .inr (12, [.int 0, .ref q1, .ref q2, .int 0, .ref q3, .ref q4, .int 0, .ref q5, .int 0, .int 0, .int 0, .int 0, .int (-1), .int 0, .null, .int 0, .int 0, .int 0, .int 0, .int 0, .null, .null, .null, .null, .null, .null, .null, .null])), (q1, .inl (tc 0, 856, .inl (fun _ => 0))), (q2, .inl (tc 0, 856, .inl (fun _ => 0))), (q3, .inl (tc 0, 456, .inl (fun _ => 0))), (q4, .inl (tc 0, 5472, .inl (fun _ => 0))), (q5, .inl (tc 0, 400, .inl (fun _ => 0)))] rfl (fun H locs hP hD hS => ?_)
  refine lv_aload_n X.1 X.2.1 dX12_init_54 rfl (lv_at hl 0 rfl) ?_
  refine lv_bipush (v := 7) X.1 X.2.1 dX12_init_55 (by decide) ?_
  refine r_newi (c0 := tc 0) (N := 7) X mw_1_78 rfl ⟨by decide, by decide, by decide⟩ hP hD hS (Nat.le_of_ble_eq_true rfl) (Nat.le_of_ble_eq_true rfl) dX12_init_57 (fun q6 H hP hD hS => ?_)
  refine r_putF (C := RX12) (T := TX12) (N := 28) (ci := 12) tyX12 tyX12_ok nmX12 X hin iw12 hP hD hS 0 rfl rfl 14 rfl mw_7_134 rfl rfl rfl rfl rfl dX12_init_59 [(h, .inr (12, [.int 0, .ref q1, .ref q2, .int 0, .ref q3, .ref q4, .int 0, .ref q5, .int 0, .int 0, .int 0, .int 0, .int (-1), .int 0, .ref q6, .int 0, .int 0, .int 0, .int 0, .int 0, .null, .null, .null, .null, .null, .null, .null, .null])), (q1, .inl (tc 0, 856, .inl (fun _ => 0))), (q2, .inl (tc 0, 856, .inl (fun _ => 0))), (q3, .inl (tc 0, 456, .inl (fun _ => 0))), (q4, .inl (tc 0, 5472, .inl (fun _ => 0))), (q5, .inl (tc 0, 400, .inl (fun _ => 0))), (q6, .inl (tc 0, 7, .inl (fun _ => 0)))] rfl (fun H locs hP hD hS => ?_)
  refine lv_aload_n X.1 X.2.1 dX12_init_62 rfl (lv_at hl 0 rfl) ?_
  refine lv_bipush (v := 8) X.1 X.2.1 dX12_init_63 (by decide) ?_
  refine r_newi (c0 := tc 0) (N := 8) X mw_1_78 rfl ⟨by decide, by decide, by decide⟩ hP hD hS (Nat.le_of_ble_eq_true rfl) (Nat.le_of_ble_eq_true rfl) dX12_init_65 (fun q7 H hP hD hS => ?_)
  refine r_putF (C := RX12) (T := TX12) (N := 28) (ci := 12) tyX12 tyX12_ok nmX12 X hin iw12 hP hD hS 0 rfl rfl 20 rfl mw_7_140 rfl rfl rfl rfl rfl dX12_init_67 [(h, .inr (12, [.int 0, .ref q1, .ref q2, .int 0, .ref q3, .ref q4, .int 0, .ref q5, .int 0, .int 0, .int 0, .int 0, .int (-1), .int 0, .ref q6, .int 0, .int 0, .int 0, .int 0, .int 0, .ref q7, .null, .null, .null, .null, .null, .null, .null])), (q1, .inl (tc 0, 856, .inl (fun _ => 0))), (q2, .inl (tc 0, 856, .inl (fun _ => 0))), (q3, .inl (tc 0, 456, .inl (fun _ => 0))), (q4, .inl (tc 0, 5472, .inl (fun _ => 0))), (q5, .inl (tc 0, 400, .inl (fun _ => 0))), (q6, .inl (tc 0, 7, .inl (fun _ => 0))), (q7, .inl (tc 0, 8, .inl (fun _ => 0)))] rfl (fun H locs hP hD hS => ?_)
  refine lv_aload_n X.1 X.2.1 dX12_init_70 rfl (lv_at hl 0 rfl) ?_
  refine lv_bipush (v := 49) X.1 X.2.1 dX12_init_71 (by decide) ?_
  refine r_newi (c0 := tc 0) (N := 49) X mw_1_78 rfl ⟨by decide, by decide, by decide⟩ hP hD hS (Nat.le_of_ble_eq_true rfl) (Nat.le_of_ble_eq_true rfl) dX12_init_73 (fun q8 H hP hD hS => ?_)
  refine r_putF (C := RX12) (T := TX12) (N := 28) (ci := 12) tyX12 tyX12_ok nmX12 X hin iw12 hP hD hS 0 rfl rfl 21 rfl mw_7_141 rfl rfl rfl rfl rfl dX12_init_75 [(h, .inr (12, [.int 0, .ref q1, .ref q2, .int 0, .ref q3, .ref q4, .int 0, .ref q5, .int 0, .int 0, .int 0, .int 0, .int (-1), .int 0, .ref q6, .int 0, .int 0, .int 0, .int 0, .int 0, .ref q7, .ref q8, .null, .null, .null, .null, .null, .null])), (q1, .inl (tc 0, 856, .inl (fun _ => 0))), (q2, .inl (tc 0, 856, .inl (fun _ => 0))), (q3, .inl (tc 0, 456, .inl (fun _ => 0))), (q4, .inl (tc 0, 5472, .inl (fun _ => 0))), (q5, .inl (tc 0, 400, .inl (fun _ => 0))), (q6, .inl (tc 0, 7, .inl (fun _ => 0))), (q7, .inl (tc 0, 8, .inl (fun _ => 0))), (q8, .inl (tc 0, 49, .inl (fun _ => 0)))] rfl (fun H locs hP hD hS => ?_)
  refine lv_aload_n X.1 X.2.1 dX12_init_78 rfl (lv_at hl 0 rfl) ?_
  refine lv_sipush (v := 1161) X.1 X.2.1 dX12_init_79 (by decide) ?_
  refine r_newi (c0 := tc 0) (N := 1161) X mw_1_78 rfl ⟨by decide, by decide, by decide⟩ hP hD hS (Nat.le_of_ble_eq_true rfl) (Nat.le_of_ble_eq_true rfl) dX12_init_82 (fun q9 H hP hD hS => ?_)
  refine r_putF (C := RX12) (T := TX12) (N := 28) (ci := 12) tyX12 tyX12_ok nmX12 X hin iw12 hP hD hS 0 rfl rfl 22 rfl mw_7_142 rfl rfl rfl rfl rfl dX12_init_84 [(h, .inr (12, [.int 0, .ref q1, .ref q2, .int 0, .ref q3, .ref q4, .int 0, .ref q5, .int 0, .int 0, .int 0, .int 0, .int (-1), .int 0, .ref q6, .int 0, .int 0, .int 0, .int 0, .int 0, .ref q7, .ref q8, .ref q9, .null, .null, .null, .null, .null])), (q1, .inl (tc 0, 856, .inl (fun _ => 0))), (q2, .inl (tc 0, 856, .inl (fun _ => 0))), (q3, .inl (tc 0, 456, .inl (fun _ => 0))), (q4, .inl (tc 0, 5472, .inl (fun _ => 0))), (q5, .inl (tc 0, 400, .inl (fun _ => 0))), (q6, .inl (tc 0, 7, .inl (fun _ => 0))), (q7, .inl (tc 0, 8, .inl (fun _ => 0))), (q8, .inl (tc 0, 49, .inl (fun _ => 0))), (q9, .inl (tc 0, 1161, .inl (fun _ => 0)))] rfl (fun H locs hP hD hS => ?_)
  refine lv_aload_n X.1 X.2.1 dX12_init_87 rfl (lv_at hl 0 rfl) ?_
  refine lv_bipush (v := 32) X.1 X.2.1 dX12_init_88 (by decide) ?_
  refine r_newi (c0 := tc 0) (N := 32) X mw_1_78 rfl ⟨by decide, by decide, by decide⟩ hP hD hS (Nat.le_of_ble_eq_true rfl) (Nat.le_of_ble_eq_true rfl) dX12_init_90 (fun q10 H hP hD hS => ?_)
  refine r_putF (C := RX12) (T := TX12) (N := 28) (ci := 12) tyX12 tyX12_ok nmX12 X hin iw12 hP hD hS 0 rfl rfl 23 rfl mw_7_143 rfl rfl rfl rfl rfl dX12_init_92 [(h, .inr (12, [.int 0, .ref q1, .ref q2, .int 0, .ref q3, .ref q4, .int 0, .ref q5, .int 0, .int 0, .int 0, .int 0, .int (-1), .int 0, .ref q6, .int 0, .int 0, .int 0, .int 0, .int 0, .ref q7, .ref q8, .ref q9, .ref q10, .null, .null, .null, .null])), (q1, .inl (tc 0, 856, .inl (fun _ => 0))), (q2, .inl (tc 0, 856, .inl (fun _ => 0))), (q3, .inl (tc 0, 456, .inl (fun _ => 0))), (q4, .inl (tc 0, 5472, .inl (fun _ => 0))), (q5, .inl (tc 0, 400, .inl (fun _ => 0))), (q6, .inl (tc 0, 7, .inl (fun _ => 0))), (q7, .inl (tc 0, 8, .inl (fun _ => 0))), (q8, .inl (tc 0, 49, .inl (fun _ => 0))), (q9, .inl (tc 0, 1161, .inl (fun _ => 0))), (q10, .inl (tc 0, 32, .inl (fun _ => 0)))] rfl (fun H locs hP hD hS => ?_)
  refine lv_aload_n X.1 X.2.1 dX12_init_95 rfl (lv_at hl 0 rfl) ?_
  refine lv_iconst (v := 5) X.1 X.2.1 dX12_init_96 (by decide) ?_
  refine r_newi (c0 := tc 0) (N := 5) X mw_1_78 rfl ⟨by decide, by decide, by decide⟩ hP hD hS (Nat.le_of_ble_eq_true rfl) (Nat.le_of_ble_eq_true rfl) dX12_init_97 (fun q11 H hP hD hS => ?_)
  refine r_putF (C := RX12) (T := TX12) (N := 28) (ci := 12) tyX12 tyX12_ok nmX12 X hin iw12 hP hD hS 0 rfl rfl 24 rfl mw_7_144 rfl rfl rfl rfl rfl dX12_init_99 [(h, .inr (12, [.int 0, .ref q1, .ref q2, .int 0, .ref q3, .ref q4, .int 0, .ref q5, .int 0, .int 0, .int 0, .int 0, .int (-1), .int 0, .ref q6, .int 0, .int 0, .int 0, .int 0, .int 0, .ref q7, .ref q8, .ref q9, .ref q10, .ref q11, .null, .null, .null])), (q1, .inl (tc 0, 856, .inl (fun _ => 0))), (q2, .inl (tc 0, 856, .inl (fun _ => 0))), (q3, .inl (tc 0, 456, .inl (fun _ => 0))), (q4, .inl (tc 0, 5472, .inl (fun _ => 0))), (q5, .inl (tc 0, 400, .inl (fun _ => 0))), (q6, .inl (tc 0, 7, .inl (fun _ => 0))), (q7, .inl (tc 0, 8, .inl (fun _ => 0))), (q8, .inl (tc 0, 49, .inl (fun _ => 0))), (q9, .inl (tc 0, 1161, .inl (fun _ => 0))), (q10, .inl (tc 0, 32, .inl (fun _ => 0))), (q11, .inl (tc 0, 5, .inl (fun _ => 0)))] rfl (fun H locs hP hD hS => ?_)
  refine lv_aload_n X.1 X.2.1 dX12_init_102 rfl (lv_at hl 0 rfl) ?_
  refine lv_bipush (v := 8) X.1 X.2.1 dX12_init_103 (by decide) ?_
  refine r_newi (c0 := tc 0) (N := 8) X mw_1_78 rfl ⟨by decide, by decide, by decide⟩ hP hD hS (Nat.le_of_ble_eq_true rfl) (Nat.le_of_ble_eq_true rfl) dX12_init_105 (fun q12 H hP hD hS => ?_)
  refine r_putF (C := RX12) (T := TX12) (N := 28) (ci := 12) tyX12 tyX12_ok nmX12 X hin iw12 hP hD hS 0 rfl rfl 25 rfl mw_7_145 rfl rfl rfl rfl rfl dX12_init_107 [(h, .inr (12, [.int 0, .ref q1, .ref q2, .int 0, .ref q3, .ref q4, .int 0, .ref q5, .int 0, .int 0, .int 0, .int 0, .int (-1), .int 0, .ref q6, .int 0, .int 0, .int 0, .int 0, .int 0, .ref q7, .ref q8, .ref q9, .ref q10, .ref q11, .ref q12, .null, .null])), (q1, .inl (tc 0, 856, .inl (fun _ => 0))), (q2, .inl (tc 0, 856, .inl (fun _ => 0))), (q3, .inl (tc 0, 456, .inl (fun _ => 0))), (q4, .inl (tc 0, 5472, .inl (fun _ => 0))), (q5, .inl (tc 0, 400, .inl (fun _ => 0))), (q6, .inl (tc 0, 7, .inl (fun _ => 0))), (q7, .inl (tc 0, 8, .inl (fun _ => 0))), (q8, .inl (tc 0, 49, .inl (fun _ => 0))), (q9, .inl (tc 0, 1161, .inl (fun _ => 0))), (q10, .inl (tc 0, 32, .inl (fun _ => 0))), (q11, .inl (tc 0, 5, .inl (fun _ => 0))), (q12, .inl (tc 0, 8, .inl (fun _ => 0)))] rfl (fun H locs hP hD hS => ?_)
  refine lv_aload_n X.1 X.2.1 dX12_init_110 rfl (lv_at hl 0 rfl) ?_
  refine lv_bipush (v := 9) X.1 X.2.1 dX12_init_111 (by decide) ?_
  refine r_newi (c0 := tc 0) (N := 9) X mw_1_78 rfl ⟨by decide, by decide, by decide⟩ hP hD hS (Nat.le_of_ble_eq_true rfl) (Nat.le_of_ble_eq_true rfl) dX12_init_113 (fun q13 H hP hD hS => ?_)
  refine r_putF (C := RX12) (T := TX12) (N := 28) (ci := 12) tyX12 tyX12_ok nmX12 X hin iw12 hP hD hS 0 rfl rfl 26 rfl mw_7_146 rfl rfl rfl rfl rfl dX12_init_115 [(h, .inr (12, [.int 0, .ref q1, .ref q2, .int 0, .ref q3, .ref q4, .int 0, .ref q5, .int 0, .int 0, .int 0, .int 0, .int (-1), .int 0, .ref q6, .int 0, .int 0, .int 0, .int 0, .int 0, .ref q7, .ref q8, .ref q9, .ref q10, .ref q11, .ref q12, .ref q13, .null])), (q1, .inl (tc 0, 856, .inl (fun _ => 0))), (q2, .inl (tc 0, 856, .inl (fun _ => 0))), (q3, .inl (tc 0, 456, .inl (fun _ => 0))), (q4, .inl (tc 0, 5472, .inl (fun _ => 0))), (q5, .inl (tc 0, 400, .inl (fun _ => 0))), (q6, .inl (tc 0, 7, .inl (fun _ => 0))), (q7, .inl (tc 0, 8, .inl (fun _ => 0))), (q8, .inl (tc 0, 49, .inl (fun _ => 0))), (q9, .inl (tc 0, 1161, .inl (fun _ => 0))), (q10, .inl (tc 0, 32, .inl (fun _ => 0))), (q11, .inl (tc 0, 5, .inl (fun _ => 0))), (q12, .inl (tc 0, 8, .inl (fun _ => 0))), (q13, .inl (tc 0, 9, .inl (fun _ => 0)))] rfl (fun H locs hP hD hS => ?_)
  refine lv_aload_n X.1 X.2.1 dX12_init_118 rfl (lv_at hl 0 rfl) ?_
  refine lv_sipush (v := 256) X.1 X.2.1 dX12_init_119 (by decide) ?_
  refine r_newz (c0 := tc 1) (N := 256) X mw_7_205 rfl ⟨by decide, by decide, by decide⟩ hP hD hS (Nat.le_of_ble_eq_true rfl) (Nat.le_of_ble_eq_true rfl) dX12_init_122 (fun q14 H hP hD hS => ?_)
  refine r_putF (C := RX12) (T := TX12) (N := 28) (ci := 12) tyX12 tyX12_ok nmX12 X hin iw12 hP hD hS 0 rfl rfl 27 rfl mw_7_147 rfl rfl rfl rfl rfl dX12_init_124 [(h, .inr (12, [.int 0, .ref q1, .ref q2, .int 0, .ref q3, .ref q4, .int 0, .ref q5, .int 0, .int 0, .int 0, .int 0, .int (-1), .int 0, .ref q6, .int 0, .int 0, .int 0, .int 0, .int 0, .ref q7, .ref q8, .ref q9, .ref q10, .ref q11, .ref q12, .ref q13, .ref q14])), (q1, .inl (tc 0, 856, .inl (fun _ => 0))), (q2, .inl (tc 0, 856, .inl (fun _ => 0))), (q3, .inl (tc 0, 456, .inl (fun _ => 0))), (q4, .inl (tc 0, 5472, .inl (fun _ => 0))), (q5, .inl (tc 0, 400, .inl (fun _ => 0))), (q6, .inl (tc 0, 7, .inl (fun _ => 0))), (q7, .inl (tc 0, 8, .inl (fun _ => 0))), (q8, .inl (tc 0, 49, .inl (fun _ => 0))), (q9, .inl (tc 0, 1161, .inl (fun _ => 0))), (q10, .inl (tc 0, 32, .inl (fun _ => 0))), (q11, .inl (tc 0, 5, .inl (fun _ => 0))), (q12, .inl (tc 0, 8, .inl (fun _ => 0))), (q13, .inl (tc 0, 9, .inl (fun _ => 0))), (q14, .inl (tc 1, 256, .inl (fun _ => 0)))] rfl (fun H locs hP hD hS => ?_)
  refine lv_aload_n X.1 X.2.1 dX12_init_127 rfl (lv_at hl 0 rfl) ?_
  refine r_get (C := RX12) (T := TX12) (N := 28) (ci := 12) (v := .ref q1) X iw12 hP 0 rfl rfl 1 rfl mw_7_121 rfl dX12_init_128 ?_
  refine lv_iconst (v := 1) X.1 X.2.1 dX12_init_131 (by decide) ?_
  refine lv_iconst (v := (-1)) X.1 X.2.1 dX12_init_132 (by decide) ?_
  refine r_iast (ws := [(h, .inr (12, [.int 0, .ref q1, .ref q2, .int 0, .ref q3, .ref q4, .int 0, .ref q5, .int 0, .int 0, .int 0, .int 0, .int (-1), .int 0, .ref q6, .int 0, .int 0, .int 0, .int 0, .int 0, .ref q7, .ref q8, .ref q9, .ref q10, .ref q11, .ref q12, .ref q13, .ref q14])), (q1, .inl (tc 0, 856, .inl (fun _ => 0))), (q2, .inl (tc 0, 856, .inl (fun _ => 0))), (q3, .inl (tc 0, 456, .inl (fun _ => 0))), (q4, .inl (tc 0, 5472, .inl (fun _ => 0))), (q5, .inl (tc 0, 400, .inl (fun _ => 0))), (q6, .inl (tc 0, 7, .inl (fun _ => 0))), (q7, .inl (tc 0, 8, .inl (fun _ => 0))), (q8, .inl (tc 0, 49, .inl (fun _ => 0))), (q9, .inl (tc 0, 1161, .inl (fun _ => 0))), (q10, .inl (tc 0, 32, .inl (fun _ => 0))), (q11, .inl (tc 0, 5, .inl (fun _ => 0))), (q12, .inl (tc 0, 8, .inl (fun _ => 0))), (q13, .inl (tc 0, 9, .inl (fun _ => 0))), (q14, .inl (tc 1, 256, .inl (fun _ => 0)))]) (j := 1) X hP hD hS 1 0 rfl rfl (by unfold vp_in; decide) (by decide) dX12_init_133 [(h, .inr (12, [.int 0, .ref q1, .ref q2, .int 0, .ref q3, .ref q4, .int 0, .ref q5, .int 0, .int 0, .int 0, .int 0, .int (-1), .int 0, .ref q6, .int 0, .int 0, .int 0, .int 0, .int 0, .ref q7, .ref q8, .ref q9, .ref q10, .ref q11, .ref q12, .ref q13, .ref q14])), (q1, .inl (tc 0, 856, .inl (upd (fun _ => 0) 1 ((-1))))), (q2, .inl (tc 0, 856, .inl (fun _ => 0))), (q3, .inl (tc 0, 456, .inl (fun _ => 0))), (q4, .inl (tc 0, 5472, .inl (fun _ => 0))), (q5, .inl (tc 0, 400, .inl (fun _ => 0))), (q6, .inl (tc 0, 7, .inl (fun _ => 0))), (q7, .inl (tc 0, 8, .inl (fun _ => 0))), (q8, .inl (tc 0, 49, .inl (fun _ => 0))), (q9, .inl (tc 0, 1161, .inl (fun _ => 0))), (q10, .inl (tc 0, 32, .inl (fun _ => 0))), (q11, .inl (tc 0, 5, .inl (fun _ => 0))), (q12, .inl (tc 0, 8, .inl (fun _ => 0))), (q13, .inl (tc 0, 9, .inl (fun _ => 0))), (q14, .inl (tc 1, 256, .inl (fun _ => 0)))] rfl (fun H locs hP hS => ?_)
  have hD : va_D A [(h, .inr (12, [.int 0, .ref q1, .ref q2, .int 0, .ref q3, .ref q4, .int 0, .ref q5, .int 0, .int 0, .int 0, .int 0, .int (-1), .int 0, .ref q6, .int 0, .int 0, .int 0, .int 0, .int 0, .ref q7, .ref q8, .ref q9, .ref q10, .ref q11, .ref q12, .ref q13, .ref q14])), (q1, .inl (tc 0, 856, .inl (upd (fun _ => 0) 1 ((-1))))), (q2, .inl (tc 0, 856, .inl (fun _ => 0))), (q3, .inl (tc 0, 456, .inl (fun _ => 0))), (q4, .inl (tc 0, 5472, .inl (fun _ => 0))), (q5, .inl (tc 0, 400, .inl (fun _ => 0))), (q6, .inl (tc 0, 7, .inl (fun _ => 0))), (q7, .inl (tc 0, 8, .inl (fun _ => 0))), (q8, .inl (tc 0, 49, .inl (fun _ => 0))), (q9, .inl (tc 0, 1161, .inl (fun _ => 0))), (q10, .inl (tc 0, 32, .inl (fun _ => 0))), (q11, .inl (tc 0, 5, .inl (fun _ => 0))), (q12, .inl (tc 0, 8, .inl (fun _ => 0))), (q13, .inl (tc 0, 9, .inl (fun _ => 0))), (q14, .inl (tc 1, 256, .inl (fun _ => 0)))] := D_fst (ws := [(h, .inr (12, [.int 0, .ref q1, .ref q2, .int 0, .ref q3, .ref q4, .int 0, .ref q5, .int 0, .int 0, .int 0, .int 0, .int (-1), .int 0, .ref q6, .int 0, .int 0, .int 0, .int 0, .int 0, .ref q7, .ref q8, .ref q9, .ref q10, .ref q11, .ref q12, .ref q13, .ref q14])), (q1, .inl (tc 0, 856, .inl (fun _ => 0))), (q2, .inl (tc 0, 856, .inl (fun _ => 0))), (q3, .inl (tc 0, 456, .inl (fun _ => 0))), (q4, .inl (tc 0, 5472, .inl (fun _ => 0))), (q5, .inl (tc 0, 400, .inl (fun _ => 0))), (q6, .inl (tc 0, 7, .inl (fun _ => 0))), (q7, .inl (tc 0, 8, .inl (fun _ => 0))), (q8, .inl (tc 0, 49, .inl (fun _ => 0))), (q9, .inl (tc 0, 1161, .inl (fun _ => 0))), (q10, .inl (tc 0, 32, .inl (fun _ => 0))), (q11, .inl (tc 0, 5, .inl (fun _ => 0))), (q12, .inl (tc 0, 8, .inl (fun _ => 0))), (q13, .inl (tc 0, 9, .inl (fun _ => 0))), (q14, .inl (tc 1, 256, .inl (fun _ => 0)))]) rfl hD
  refine lv_aload_n X.1 X.2.1 dX12_init_134 rfl (lv_at hl 0 rfl) ?_
  refine r_get (C := RX12) (T := TX12) (N := 28) (ci := 12) (v := .ref q1) X iw12 hP 0 rfl rfl 1 rfl mw_7_121 rfl dX12_init_135 ?_
  refine lv_bipush (v := 7) X.1 X.2.1 dX12_init_138 (by decide) ?_
  refine lv_iconst (v := 3) X.1 X.2.1 dX12_init_140 (by decide) ?_
  refine r_iast (ws := [(h, .inr (12, [.int 0, .ref q1, .ref q2, .int 0, .ref q3, .ref q4, .int 0, .ref q5, .int 0, .int 0, .int 0, .int 0, .int (-1), .int 0, .ref q6, .int 0, .int 0, .int 0, .int 0, .int 0, .ref q7, .ref q8, .ref q9, .ref q10, .ref q11, .ref q12, .ref q13, .ref q14])), (q1, .inl (tc 0, 856, .inl (upd (fun _ => 0) 1 ((-1))))), (q2, .inl (tc 0, 856, .inl (fun _ => 0))), (q3, .inl (tc 0, 456, .inl (fun _ => 0))), (q4, .inl (tc 0, 5472, .inl (fun _ => 0))), (q5, .inl (tc 0, 400, .inl (fun _ => 0))), (q6, .inl (tc 0, 7, .inl (fun _ => 0))), (q7, .inl (tc 0, 8, .inl (fun _ => 0))), (q8, .inl (tc 0, 49, .inl (fun _ => 0))), (q9, .inl (tc 0, 1161, .inl (fun _ => 0))), (q10, .inl (tc 0, 32, .inl (fun _ => 0))), (q11, .inl (tc 0, 5, .inl (fun _ => 0))), (q12, .inl (tc 0, 8, .inl (fun _ => 0))), (q13, .inl (tc 0, 9, .inl (fun _ => 0))), (q14, .inl (tc 1, 256, .inl (fun _ => 0)))]) (j := 7) X hP hD hS 1 0 rfl rfl (by unfold vp_in; decide) (by decide) dX12_init_141 [(h, .inr (12, [.int 0, .ref q1, .ref q2, .int 0, .ref q3, .ref q4, .int 0, .ref q5, .int 0, .int 0, .int 0, .int 0, .int (-1), .int 0, .ref q6, .int 0, .int 0, .int 0, .int 0, .int 0, .ref q7, .ref q8, .ref q9, .ref q10, .ref q11, .ref q12, .ref q13, .ref q14])), (q1, .inl (tc 0, 856, .inl (upd (upd (fun _ => 0) 1 ((-1))) 7 (3)))), (q2, .inl (tc 0, 856, .inl (fun _ => 0))), (q3, .inl (tc 0, 456, .inl (fun _ => 0))), (q4, .inl (tc 0, 5472, .inl (fun _ => 0))), (q5, .inl (tc 0, 400, .inl (fun _ => 0))), (q6, .inl (tc 0, 7, .inl (fun _ => 0))), (q7, .inl (tc 0, 8, .inl (fun _ => 0))), (q8, .inl (tc 0, 49, .inl (fun _ => 0))), (q9, .inl (tc 0, 1161, .inl (fun _ => 0))), (q10, .inl (tc 0, 32, .inl (fun _ => 0))), (q11, .inl (tc 0, 5, .inl (fun _ => 0))), (q12, .inl (tc 0, 8, .inl (fun _ => 0))), (q13, .inl (tc 0, 9, .inl (fun _ => 0))), (q14, .inl (tc 1, 256, .inl (fun _ => 0)))] rfl (fun H locs hP hS => ?_)
  have hD : va_D A [(h, .inr (12, [.int 0, .ref q1, .ref q2, .int 0, .ref q3, .ref q4, .int 0, .ref q5, .int 0, .int 0, .int 0, .int 0, .int (-1), .int 0, .ref q6, .int 0, .int 0, .int 0, .int 0, .int 0, .ref q7, .ref q8, .ref q9, .ref q10, .ref q11, .ref q12, .ref q13, .ref q14])), (q1, .inl (tc 0, 856, .inl (upd (upd (fun _ => 0) 1 ((-1))) 7 (3)))), (q2, .inl (tc 0, 856, .inl (fun _ => 0))), (q3, .inl (tc 0, 456, .inl (fun _ => 0))), (q4, .inl (tc 0, 5472, .inl (fun _ => 0))), (q5, .inl (tc 0, 400, .inl (fun _ => 0))), (q6, .inl (tc 0, 7, .inl (fun _ => 0))), (q7, .inl (tc 0, 8, .inl (fun _ => 0))), (q8, .inl (tc 0, 49, .inl (fun _ => 0))), (q9, .inl (tc 0, 1161, .inl (fun _ => 0))), (q10, .inl (tc 0, 32, .inl (fun _ => 0))), (q11, .inl (tc 0, 5, .inl (fun _ => 0))), (q12, .inl (tc 0, 8, .inl (fun _ => 0))), (q13, .inl (tc 0, 9, .inl (fun _ => 0))), (q14, .inl (tc 1, 256, .inl (fun _ => 0)))] := D_fst (ws := [(h, .inr (12, [.int 0, .ref q1, .ref q2, .int 0, .ref q3, .ref q4, .int 0, .ref q5, .int 0, .int 0, .int 0, .int 0, .int (-1), .int 0, .ref q6, .int 0, .int 0, .int 0, .int 0, .int 0, .ref q7, .ref q8, .ref q9, .ref q10, .ref q11, .ref q12, .ref q13, .ref q14])), (q1, .inl (tc 0, 856, .inl (upd (fun _ => 0) 1 ((-1))))), (q2, .inl (tc 0, 856, .inl (fun _ => 0))), (q3, .inl (tc 0, 456, .inl (fun _ => 0))), (q4, .inl (tc 0, 5472, .inl (fun _ => 0))), (q5, .inl (tc 0, 400, .inl (fun _ => 0))), (q6, .inl (tc 0, 7, .inl (fun _ => 0))), (q7, .inl (tc 0, 8, .inl (fun _ => 0))), (q8, .inl (tc 0, 49, .inl (fun _ => 0))), (q9, .inl (tc 0, 1161, .inl (fun _ => 0))), (q10, .inl (tc 0, 32, .inl (fun _ => 0))), (q11, .inl (tc 0, 5, .inl (fun _ => 0))), (q12, .inl (tc 0, 8, .inl (fun _ => 0))), (q13, .inl (tc 0, 9, .inl (fun _ => 0))), (q14, .inl (tc 1, 256, .inl (fun _ => 0)))]) rfl hD
  refine lv_aload_n X.1 X.2.1 dX12_init_142 rfl (lv_at hl 0 rfl) ?_
  refine r_get (C := RX12) (T := TX12) (N := 28) (ci := 12) (v := .ref q1) X iw12 hP 0 rfl rfl 1 rfl mw_7_121 rfl dX12_init_143 ?_
  refine lv_bipush (v := 11) X.1 X.2.1 dX12_init_146 (by decide) ?_
  refine lv_iconst (v := 1) X.1 X.2.1 dX12_init_148 (by decide) ?_
  refine r_iast (ws := [(h, .inr (12, [.int 0, .ref q1, .ref q2, .int 0, .ref q3, .ref q4, .int 0, .ref q5, .int 0, .int 0, .int 0, .int 0, .int (-1), .int 0, .ref q6, .int 0, .int 0, .int 0, .int 0, .int 0, .ref q7, .ref q8, .ref q9, .ref q10, .ref q11, .ref q12, .ref q13, .ref q14])), (q1, .inl (tc 0, 856, .inl (upd (upd (fun _ => 0) 1 ((-1))) 7 (3)))), (q2, .inl (tc 0, 856, .inl (fun _ => 0))), (q3, .inl (tc 0, 456, .inl (fun _ => 0))), (q4, .inl (tc 0, 5472, .inl (fun _ => 0))), (q5, .inl (tc 0, 400, .inl (fun _ => 0))), (q6, .inl (tc 0, 7, .inl (fun _ => 0))), (q7, .inl (tc 0, 8, .inl (fun _ => 0))), (q8, .inl (tc 0, 49, .inl (fun _ => 0))), (q9, .inl (tc 0, 1161, .inl (fun _ => 0))), (q10, .inl (tc 0, 32, .inl (fun _ => 0))), (q11, .inl (tc 0, 5, .inl (fun _ => 0))), (q12, .inl (tc 0, 8, .inl (fun _ => 0))), (q13, .inl (tc 0, 9, .inl (fun _ => 0))), (q14, .inl (tc 1, 256, .inl (fun _ => 0)))]) (j := 11) X hP hD hS 1 0 rfl rfl (by unfold vp_in; decide) (by decide) dX12_init_149 [(h, .inr (12, [.int 0, .ref q1, .ref q2, .int 0, .ref q3, .ref q4, .int 0, .ref q5, .int 0, .int 0, .int 0, .int 0, .int (-1), .int 0, .ref q6, .int 0, .int 0, .int 0, .int 0, .int 0, .ref q7, .ref q8, .ref q9, .ref q10, .ref q11, .ref q12, .ref q13, .ref q14])), (q1, .inl (tc 0, 856, .inl (upd (upd (upd (fun _ => 0) 1 ((-1))) 7 (3)) 11 (1)))), (q2, .inl (tc 0, 856, .inl (fun _ => 0))), (q3, .inl (tc 0, 456, .inl (fun _ => 0))), (q4, .inl (tc 0, 5472, .inl (fun _ => 0))), (q5, .inl (tc 0, 400, .inl (fun _ => 0))), (q6, .inl (tc 0, 7, .inl (fun _ => 0))), (q7, .inl (tc 0, 8, .inl (fun _ => 0))), (q8, .inl (tc 0, 49, .inl (fun _ => 0))), (q9, .inl (tc 0, 1161, .inl (fun _ => 0))), (q10, .inl (tc 0, 32, .inl (fun _ => 0))), (q11, .inl (tc 0, 5, .inl (fun _ => 0))), (q12, .inl (tc 0, 8, .inl (fun _ => 0))), (q13, .inl (tc 0, 9, .inl (fun _ => 0))), (q14, .inl (tc 1, 256, .inl (fun _ => 0)))] rfl (fun H locs hP hS => ?_)
  have hD : va_D A [(h, .inr (12, [.int 0, .ref q1, .ref q2, .int 0, .ref q3, .ref q4, .int 0, .ref q5, .int 0, .int 0, .int 0, .int 0, .int (-1), .int 0, .ref q6, .int 0, .int 0, .int 0, .int 0, .int 0, .ref q7, .ref q8, .ref q9, .ref q10, .ref q11, .ref q12, .ref q13, .ref q14])), (q1, .inl (tc 0, 856, .inl (upd (upd (upd (fun _ => 0) 1 ((-1))) 7 (3)) 11 (1)))), (q2, .inl (tc 0, 856, .inl (fun _ => 0))), (q3, .inl (tc 0, 456, .inl (fun _ => 0))), (q4, .inl (tc 0, 5472, .inl (fun _ => 0))), (q5, .inl (tc 0, 400, .inl (fun _ => 0))), (q6, .inl (tc 0, 7, .inl (fun _ => 0))), (q7, .inl (tc 0, 8, .inl (fun _ => 0))), (q8, .inl (tc 0, 49, .inl (fun _ => 0))), (q9, .inl (tc 0, 1161, .inl (fun _ => 0))), (q10, .inl (tc 0, 32, .inl (fun _ => 0))), (q11, .inl (tc 0, 5, .inl (fun _ => 0))), (q12, .inl (tc 0, 8, .inl (fun _ => 0))), (q13, .inl (tc 0, 9, .inl (fun _ => 0))), (q14, .inl (tc 1, 256, .inl (fun _ => 0)))] := D_fst (ws := [(h, .inr (12, [.int 0, .ref q1, .ref q2, .int 0, .ref q3, .ref q4, .int 0, .ref q5, .int 0, .int 0, .int 0, .int 0, .int (-1), .int 0, .ref q6, .int 0, .int 0, .int 0, .int 0, .int 0, .ref q7, .ref q8, .ref q9, .ref q10, .ref q11, .ref q12, .ref q13, .ref q14])), (q1, .inl (tc 0, 856, .inl (upd (upd (fun _ => 0) 1 ((-1))) 7 (3)))), (q2, .inl (tc 0, 856, .inl (fun _ => 0))), (q3, .inl (tc 0, 456, .inl (fun _ => 0))), (q4, .inl (tc 0, 5472, .inl (fun _ => 0))), (q5, .inl (tc 0, 400, .inl (fun _ => 0))), (q6, .inl (tc 0, 7, .inl (fun _ => 0))), (q7, .inl (tc 0, 8, .inl (fun _ => 0))), (q8, .inl (tc 0, 49, .inl (fun _ => 0))), (q9, .inl (tc 0, 1161, .inl (fun _ => 0))), (q10, .inl (tc 0, 32, .inl (fun _ => 0))), (q11, .inl (tc 0, 5, .inl (fun _ => 0))), (q12, .inl (tc 0, 8, .inl (fun _ => 0))), (q13, .inl (tc 0, 9, .inl (fun _ => 0))), (q14, .inl (tc 1, 256, .inl (fun _ => 0)))]) rfl hD
  exact ret_N (wf := (fun u : Nat → Nat => wM tc (ad h u) g0M)) (ax [0, 0, q1, q2, 0, q3, q4, 0, q5, 0, 0, 0, 0, 0, 0, q6, 0, 0, 0, 0, 0, q7, q8, q9, q10, q11, q12, q13, q14]) X hQ hP hD hS (Nat.le_of_ble_eq_true rfl) (Nat.le_of_ble_eq_true rfl) dX12_init_150

