def wM (tc : Nat → ClassId) (a : Nat → Nat) (g : Pic) : va_W := [(a 0, .inr (12, [.int (g 0 0), .ref (a 2), .ref (a 3), .int (g 3 0), .ref (a 5), .ref (a 6), .int (g 6 0), .ref (a 8), .int (g 8 0), .int (g 9 0), .int (g 10 0), .int (g 11 0), .int (g 12 0), .int (g 13 0), .ref (a 15), .int (g 15 0), .int (g 16 0), .int (g 17 0), .int (g 18 0), .int (g 19 0), .ref (a 21), .ref (a 22), .ref (a 23), .ref (a 24), .ref (a 25), .ref (a 26), .ref (a 27), .ref (a 28)])), (a 2, .inl (tc 0, 856, .inl (g 1))), (a 3, .inl (tc 0, 856, .inl (g 2))), (a 5, .inl (tc 0, 456, .inl (g 4))), (a 6, .inl (tc 0, 5472, .inl (g 5))), (a 8, .inl (tc 0, 400, .inl (g 7))), (a 15, .inl (tc 0, 7, .inl (g 14))), (a 21, .inl (tc 0, 8, .inl (g 20))), (a 22, .inl (tc 0, 49, .inl (g 21))), (a 23, .inl (tc 0, 1161, .inl (g 22))), (a 24, .inl (tc 0, 32, .inl (g 23))), (a 25, .inl (tc 0, 5, .inl (g 24))), (a 26, .inl (tc 0, 8, .inl (g 25))), (a 27, .inl (tc 0, 9, .inl (g 26))), (a 28, .inl (tc 1, 256, .inl (g 27)))]
def f_X12_thrown (g0 : Pic) : Option (Int32) := some (g0 0 0)
abbrev rm_X12_thrown : Room := { frames := 0, cells := 0, slots := 0, locals := 0 }
set_option maxHeartbeats 4000000 in
set_option maxRecDepth 100000 in
theorem c_X12_thrown (l : Launch) (dC : Nat → ClassId) (dI : Nat → Nat → Nat) (sk sv : Nat → Nat) (tc : Nat → ClassId) (a0 : Nat → Nat) (g0 : Pic) {r0 : Int32} (h : f_X12_thrown g0 = some r0) : CT l (dC, dI) sk sv (TY tc) yX12_thrown cX12_thrown 1 (some .int) rm_X12_thrown [.ref (a0 0)] (wM tc a0 g0) (some (.int r0)) (wM tc a0 g0) := by
  refine ofCT (by decide) (Nat.le_of_ble_eq_true rfl) ?_
  intro pr e s m args below meth c A Q ls H locs X hQ hD0 hP hS hl
  have hD : ∀ z0, va_D A (wM tc a0 z0) := fun z0 => D_fst (ws := (wM tc a0 g0)) rfl hD0
  have hl : lv_has ls 1 [(0, .ref (a0 0))] := hl
  unfold f_X12_thrown at h
  refine lv_aload_n X.1 X.2.1 dX12_thrown_0 rfl (lv_at hl 0 rfl) ?_
  refine r_get (C := RX12) (T := TX12) (N := 28) (ci := 12) (v := .int (g0 0 0)) X iw12 hP 0 rfl rfl 0 rfl mw_7_120 rfl dX12_thrown_1 ?_
  exact ret_i0 (Option.some.inj h) X hQ hP hS dX12_thrown_4

def f_X12_isIn (x0 : Int32) (x1 : Int32) (x2 : Int32) : Option (Int32) := jn (fun (s0_J15 : Int32) => gdb s0_J15 (some s0_J15)) (fun J15 => jn (fun (_ : Unit) => J15 0) (fun J14 => (if x0 < x1 then J14 () else (if x2 < x0 then J14 () else J15 1))))
abbrev rm_X12_isIn : Room := { frames := 0, cells := 0, slots := 0, locals := 0 }
set_option maxHeartbeats 4000000 in
set_option maxRecDepth 100000 in
theorem c_X12_isIn (l : Launch) (dC : Nat → ClassId) (dI : Nat → Nat → Nat) (sk sv : Nat → Nat) (tc : Nat → ClassId) (x0 : Int32) (x1 : Int32) (x2 : Int32) {r0 : Int32} (h : f_X12_isIn x0 x1 x2 = some r0) : CT l (dC, dI) sk sv (TY tc) yX12_isIn cX12_isIn 3 (some .boolean) rm_X12_isIn [.int x0, .int x1, .int x2] [] (some (.int r0)) [] := by
  refine ofCT (by decide) (Nat.le_of_ble_eq_true rfl) ?_
  intro pr e s m args below meth c A Q ls H locs X hQ hD0 hP hS hl
  have hD : va_D A [] := hD0
  have hl : lv_has ls 3 [(0, .int x0), (1, .int x1), (2, .int x2)] := hl
  unfold f_X12_isIn at h
  refine lv_iload_n X.1 X.2.1 dX12_isIn_0 rfl (lv_at hl 0 rfl) ?_
  refine lv_iload_n X.1 X.2.1 dX12_isIn_1 rfl (lv_at hl 1 rfl) ?_
  obtain ⟨J15, eJ15, h⟩ := jn_el h
  have HJ15 : ∀ (s0_J15 : Int32) (H : Heap) (locs : List Loc) (ls : Array Slot), J15 s0_J15 = some r0 → va_P (dC, dI) vwCl [] H → va_S A s.heap H locs → lv_has ls 3 [] → W pr l e rm_X12_isIn s m args below meth c H locs 0 0 Q (F0 m 15 ls [.int s0_J15]) := by
    intro s0_J15 H locs ls h hP hS hl
    rw [eJ15] at h
    obtain ⟨hg_1, h⟩ := gdb_el h
    exact ret_z0 hg_1 (Option.some.inj h) X hQ hP hS dX12_isIn_15
  obtain ⟨J14, eJ14, h⟩ := jn_el h
  have HJ14 : ∀ (_ : Unit) (H : Heap) (locs : List Loc) (ls : Array Slot), J14 () = some r0 → va_P (dC, dI) vwCl [] H → va_S A s.heap H locs → lv_has ls 3 [] → W pr l e rm_X12_isIn s m args below meth c H locs 0 0 Q (F0 m 14 ls []) := by
    intro _ H locs ls h hP hS hl
    rw [eJ14] at h
    refine lv_iconst (v := 0) X.1 X.2.1 dX12_isIn_14 (by decide) ?_
    exact HJ15 0 H locs ls h hP hS (lv_sub hl [] rfl)
  refine lv_icmp_lt (tgt := 14) X.1 X.2.1 dX12_isIn_2 (by decide) (fun hc => ?_) (fun hc => ?_)
  · have h := it_t hc h
    exact HJ14 () H locs ls h hP hS (lv_sub hl [] rfl)
  · have h := it_f hc h
    refine lv_iload_n X.1 X.2.1 dX12_isIn_5 rfl (lv_at hl 0 rfl) ?_
    refine lv_iload_n X.1 X.2.1 dX12_isIn_6 rfl (lv_at hl 2 rfl) ?_
    refine lv_icmp_gt (tgt := 14) X.1 X.2.1 dX12_isIn_7 (by decide) (fun hc => ?_) (fun hc => ?_)
    · have h := it_t hc h
      exact HJ14 () H locs ls h hP hS (lv_sub hl [] rfl)
    · have h := it_f hc h
      refine lv_iconst (v := 1) X.1 X.2.1 dX12_isIn_10 (by decide) ?_
      refine lv_goto (tgt := 15) X.1 X.2.1 dX12_isIn_11 (by decide) ?_
      exact HJ15 1 H locs ls h hP hS (lv_sub hl [] rfl)

def f_X12_lesser (x0 : Int32) (x1 : Int32) : Option (Int32) := jn (fun (s0_J10 : Int32) => some s0_J10) (fun J10 => (if x1 ≤ x0 then J10 x1 else J10 x0))
abbrev rm_X12_lesser : Room := { frames := 0, cells := 0, slots := 0, locals := 0 }
set_option maxHeartbeats 4000000 in
set_option maxRecDepth 100000 in
theorem c_X12_lesser (l : Launch) (dC : Nat → ClassId) (dI : Nat → Nat → Nat) (sk sv : Nat → Nat) (tc : Nat → ClassId) (x0 : Int32) (x1 : Int32) {r0 : Int32} (h : f_X12_lesser x0 x1 = some r0) : CT l (dC, dI) sk sv (TY tc) yX12_lesser cX12_lesser 2 (some .int) rm_X12_lesser [.int x0, .int x1] [] (some (.int r0)) [] := by
  refine ofCT (by decide) (Nat.le_of_ble_eq_true rfl) ?_
  intro pr e s m args below meth c A Q ls H locs X hQ hD0 hP hS hl
  have hD : va_D A [] := hD0
  have hl : lv_has ls 2 [(0, .int x0), (1, .int x1)] := hl
  unfold f_X12_lesser at h
  refine lv_iload_n X.1 X.2.1 dX12_lesser_0 rfl (lv_at hl 0 rfl) ?_
  refine lv_iload_n X.1 X.2.1 dX12_lesser_1 rfl (lv_at hl 1 rfl) ?_
  obtain ⟨J10, eJ10, h⟩ := jn_el h
  have HJ10 : ∀ (s0_J10 : Int32) (H : Heap) (locs : List Loc) (ls : Array Slot), J10 s0_J10 = some r0 → va_P (dC, dI) vwCl [] H → va_S A s.heap H locs → lv_has ls 2 [] → W pr l e rm_X12_lesser s m args below meth c H locs 0 0 Q (F0 m 10 ls [.int s0_J10]) := by
    intro s0_J10 H locs ls h hP hS hl
    rw [eJ10] at h
    exact ret_i0 (Option.some.inj h) X hQ hP hS dX12_lesser_10
  refine lv_icmp_ge (tgt := 9) X.1 X.2.1 dX12_lesser_2 (by decide) (fun hc => ?_) (fun hc => ?_)
  · have h := it_t hc h
    refine lv_iload_n X.1 X.2.1 dX12_lesser_9 rfl (lv_at hl 1 rfl) ?_
    exact HJ10 x1 H locs ls h hP hS (lv_sub hl [] rfl)
  · have h := it_f hc h
    refine lv_iload_n X.1 X.2.1 dX12_lesser_5 rfl (lv_at hl 0 rfl) ?_
    refine lv_goto (tgt := 10) X.1 X.2.1 dX12_lesser_6 (by decide) ?_
    exact HJ10 x0 H locs ls h hP hS (lv_sub hl [] rfl)

def f_X12_greater (x0 : Int32) (x1 : Int32) : Option (Int32) := jn (fun (s0_J10 : Int32) => some s0_J10) (fun J10 => (if x0 ≤ x1 then J10 x1 else J10 x0))
abbrev rm_X12_greater : Room := { frames := 0, cells := 0, slots := 0, locals := 0 }
set_option maxHeartbeats 4000000 in
set_option maxRecDepth 100000 in
theorem c_X12_greater (l : Launch) (dC : Nat → ClassId) (dI : Nat → Nat → Nat) (sk sv : Nat → Nat) (tc : Nat → ClassId) (x0 : Int32) (x1 : Int32) {r0 : Int32} (h : f_X12_greater x0 x1 = some r0) : CT l (dC, dI) sk sv (TY tc) yX12_greater cX12_greater 2 (some .int) rm_X12_greater [.int x0, .int x1] [] (some (.int r0)) [] := by
  refine ofCT (by decide) (Nat.le_of_ble_eq_true rfl) ?_
  intro pr e s m args below meth c A Q ls H locs X hQ hD0 hP hS hl
  have hD : va_D A [] := hD0
  have hl : lv_has ls 2 [(0, .int x0), (1, .int x1)] := hl
  unfold f_X12_greater at h
  refine lv_iload_n X.1 X.2.1 dX12_greater_0 rfl (lv_at hl 0 rfl) ?_
  refine lv_iload_n X.1 X.2.1 dX12_greater_1 rfl (lv_at hl 1 rfl) ?_
  obtain ⟨J10, eJ10, h⟩ := jn_el h
  have HJ10 : ∀ (s0_J10 : Int32) (H : Heap) (locs : List Loc) (ls : Array Slot), J10 s0_J10 = some r0 → va_P (dC, dI) vwCl [] H → va_S A s.heap H locs → lv_has ls 2 [] → W pr l e rm_X12_greater s m args below meth c H locs 0 0 Q (F0 m 10 ls [.int s0_J10]) := by
    intro s0_J10 H locs ls h hP hS hl
    rw [eJ10] at h
    exact ret_i0 (Option.some.inj h) X hQ hP hS dX12_greater_10
  refine lv_icmp_le (tgt := 9) X.1 X.2.1 dX12_greater_2 (by decide) (fun hc => ?_) (fun hc => ?_)
  · have h := it_t hc h
    refine lv_iload_n X.1 X.2.1 dX12_greater_9 rfl (lv_at hl 1 rfl) ?_
    exact HJ10 x1 H locs ls h hP hS (lv_sub hl [] rfl)
  · have h := it_f hc h
    refine lv_iload_n X.1 X.2.1 dX12_greater_5 rfl (lv_at hl 0 rfl) ?_
    refine lv_goto (tgt := 10) X.1 X.2.1 dX12_greater_6 (by decide) ?_
    exact HJ10 x0 H locs ls h hP hS (lv_sub hl [] rfl)

def f_X12_isOf (x0 : Int32) (x1 : Int32) : Option (Int32) := jn (fun (s0_J14 : Int32) => gdb s0_J14 (some s0_J14)) (fun J14 => (if ((x0 >>> (x1 &&& 31)) &&& 1) = 1 then J14 1 else J14 0))
abbrev rm_X12_isOf : Room := { frames := 0, cells := 0, slots := 0, locals := 0 }
set_option maxHeartbeats 4000000 in
set_option maxRecDepth 100000 in
theorem c_X12_isOf (l : Launch) (dC : Nat → ClassId) (dI : Nat → Nat → Nat) (sk sv : Nat → Nat) (tc : Nat → ClassId) (x0 : Int32) (x1 : Int32) {r0 : Int32} (h : f_X12_isOf x0 x1 = some r0) : CT l (dC, dI) sk sv (TY tc) yX12_isOf cX12_isOf 2 (some .boolean) rm_X12_isOf [.int x0, .int x1] [] (some (.int r0)) [] := by
  refine ofCT (by decide) (Nat.le_of_ble_eq_true rfl) ?_
  intro pr e s m args below meth c A Q ls H locs X hQ hD0 hP hS hl
  have hD : va_D A [] := hD0
  have hl : lv_has ls 2 [(0, .int x0), (1, .int x1)] := hl
  unfold f_X12_isOf at h
  refine lv_iload_n X.1 X.2.1 dX12_isOf_0 rfl (lv_at hl 0 rfl) ?_
  refine lv_iload_n X.1 X.2.1 dX12_isOf_1 rfl (lv_at hl 1 rfl) ?_
  refine lv_ishr X.1 X.2.1 dX12_isOf_2 ?_
  refine lv_iconst (v := 1) X.1 X.2.1 dX12_isOf_3 (by decide) ?_
  refine lv_iand X.1 X.2.1 dX12_isOf_4 ?_
  refine lv_iconst (v := 1) X.1 X.2.1 dX12_isOf_5 (by decide) ?_
  obtain ⟨J14, eJ14, h⟩ := jn_el h
  have HJ14 : ∀ (s0_J14 : Int32) (H : Heap) (locs : List Loc) (ls : Array Slot), J14 s0_J14 = some r0 → va_P (dC, dI) vwCl [] H → va_S A s.heap H locs → lv_has ls 2 [] → W pr l e rm_X12_isOf s m args below meth c H locs 0 0 Q (F0 m 14 ls [.int s0_J14]) := by
    intro s0_J14 H locs ls h hP hS hl
    rw [eJ14] at h
    obtain ⟨hg_1, h⟩ := gdb_el h
    exact ret_z0 hg_1 (Option.some.inj h) X hQ hP hS dX12_isOf_14
  refine lv_icmp_ne (tgt := 13) X.1 X.2.1 dX12_isOf_6 (by decide) (fun hc => ?_) (fun hc => ?_)
  · have h := it_f hc h
    refine lv_iconst (v := 0) X.1 X.2.1 dX12_isOf_13 (by decide) ?_
    exact HJ14 0 H locs ls h hP hS (lv_sub hl [] rfl)
  · have h := it_t hc h
    refine lv_iconst (v := 1) X.1 X.2.1 dX12_isOf_9 (by decide) ?_
    refine lv_goto (tgt := 14) X.1 X.2.1 dX12_isOf_10 (by decide) ?_
    exact HJ14 1 H locs ls h hP hS (lv_sub hl [] rfl)

def f_X12_bits_L4 (x0 : Int32) (n : Nat) (a : Int32 × Int32) : Option (Int32) := lp (fun (rec : Int32 × Int32 → Option (Int32)) (a : Int32 × Int32) => match a with | (x1, x2) => (if 31 ≤ x2 then some x1 else nm ((x1 + ((x0 >>> (x2 &&& 31)) &&& 1))) (fun x1_1 => nm (x2 + 1) (fun x2_2 => rec (x1_1, x2_2))))) n a
def f_X12_bits (x0 : Int32) : Option (Int32) := bd (f_X12_bits_L4 x0 fu (0, 0)) (fun x1_3 => some x1_3)
abbrev rm_X12_bits : Room := { frames := 0, cells := 0, slots := 0, locals := 0 }
set_option maxHeartbeats 4000000 in
set_option maxRecDepth 100000 in
theorem c_X12_bits (l : Launch) (dC : Nat → ClassId) (dI : Nat → Nat → Nat) (sk sv : Nat → Nat) (tc : Nat → ClassId) (x0 : Int32) {r0 : Int32} (h : f_X12_bits x0 = some r0) : CT l (dC, dI) sk sv (TY tc) yX12_bits cX12_bits 3 (some .int) rm_X12_bits [.int x0] [] (some (.int r0)) [] := by
  refine ofCT (by decide) (Nat.le_of_ble_eq_true rfl) ?_
  intro pr e s m args below meth c A Q ls H locs X hQ hD0 hP hS hl
  have hD : va_D A [] := hD0
  have hl : lv_has ls 3 [(0, .int x0)] := hl
  have HL4 : ∀ (x0 : Int32) (n : Nat) (x1 : Int32) (x2 : Int32) (ex : (Int32)), f_X12_bits_L4 x0 n (x1, x2) = some ex → ∀ (H : Heap) (locs : List Loc) (ls : Array Slot), va_P (dC, dI) vwCl [] H → va_S A s.heap H locs → lv_has ls 3 [(0, .int x0), (1, .int x1), (2, .int x2)] → (∀ (y1 : Int32), y1 = ex → ∀ (H : Heap) (locs : List Loc) (ls : Array Slot), va_P (dC, dI) vwCl [] H → va_S A s.heap H locs → lv_has ls 3 [(1, .int y1)] → W pr l e rm_X12_bits s m args below meth c H locs 0 0 Q (F0 m 24 ls [])) → W pr l e rm_X12_bits s m args below meth c H locs 0 0 Q (F0 m 4 ls []) := by
    intro x0 n
    induction n with
    | zero => intro x1 x2 ex h; exact lp_z h
    | succ n ih =>
      intro x1 x2 ex h H locs ls hP hS hl K
      have h := lp_s h
      refine lv_iload_n X.1 X.2.1 dX12_bits_4 rfl (lv_at hl 2 rfl) ?_
      refine lv_bipush (v := 31) X.1 X.2.1 dX12_bits_5 (by decide) ?_
      refine lv_icmp_ge (tgt := 24) X.1 X.2.1 dX12_bits_7 (by decide) (fun hc => ?_) (fun hc => ?_)
      · have h := it_t hc h
        exact K x1 (Option.some.inj h) H locs ls hP hS (lv_sub hl [1] rfl)
      · have h := it_f hc h
        refine lv_iload_n X.1 X.2.1 dX12_bits_10 rfl (lv_at hl 1 rfl) ?_
        refine lv_iload_n X.1 X.2.1 dX12_bits_11 rfl (lv_at hl 0 rfl) ?_
        refine lv_iload_n X.1 X.2.1 dX12_bits_12 rfl (lv_at hl 2 rfl) ?_
        refine lv_ishr X.1 X.2.1 dX12_bits_13 ?_
        refine lv_iconst (v := 1) X.1 X.2.1 dX12_bits_14 (by decide) ?_
        refine lv_iand X.1 X.2.1 dX12_bits_15 ?_
        refine lv_iadd X.1 X.2.1 dX12_bits_16 ?_
        obtain ⟨x1_1, ex1_1, h⟩ := nm_el h
        refine tp_i ex1_1 ?_
        refine lv_istore_n (lv' := [(1, .int x1_1), (0, .int x0), (2, .int x2)]) X.1 X.2.1 dX12_bits_17 rfl hl (by decide) rfl (fun ls hl => ?_)
        obtain ⟨x2_2, ex2_2, h⟩ := nm_el h
        refine lv_iinc (v := x2_2) (lv' := [(2, .int x2_2), (1, .int x1_1), (0, .int x0)]) X.1 X.2.1 dX12_bits_18 hl (k := 2) rfl (by rw [ex2_2]; rfl) (by decide) rfl (fun ls hl => ?_)
        refine lv_goto (tgt := 4) X.1 X.2.1 dX12_bits_21 (by decide) ?_
        exact ih x1_1 x2_2 ex h H locs ls hP hS (lv_sub hl [2, 1, 0] rfl) K
  unfold f_X12_bits at h
  refine lv_iconst (v := 0) X.1 X.2.1 dX12_bits_0 (by decide) ?_
  refine lv_istore_n (lv' := [(1, .int 0), (0, .int x0)]) X.1 X.2.1 dX12_bits_1 rfl hl (by decide) rfl (fun ls hl => ?_)
  refine lv_iconst (v := 0) X.1 X.2.1 dX12_bits_2 (by decide) ?_
  refine lv_istore_n (lv' := [(2, .int 0), (1, .int 0), (0, .int x0)]) X.1 X.2.1 dX12_bits_3 rfl hl (by decide) rfl (fun ls hl => ?_)
  obtain ⟨ex_3, hL_3, h⟩ := bd_el h
  refine HL4 x0 fu 0 0 ex_3 hL_3 H locs ls hP hS (lv_sub hl [2, 1, 0] rfl) (fun x1_3 he H locs ls hP hS hl => ?_)
  subst he
  refine lv_iload_n X.1 X.2.1 dX12_bits_24 rfl (lv_at hl 0 rfl) ?_
  exact ret_i0 (Option.some.inj h) X hQ hP hS dX12_bits_25

def f_X12_ofWord (g0 : Pic) (x1 : Int32) (x2 : Int32) : Option (Int32) := gdi ((12 + (8 * x1)) + x2) 856 (some (g0 1 (((12 + (8 * x1)) + x2).toNatClampNeg)))
abbrev rm_X12_ofWord : Room := { frames := 0, cells := 0, slots := 0, locals := 0 }
set_option maxHeartbeats 4000000 in
set_option maxRecDepth 100000 in
theorem c_X12_ofWord (l : Launch) (dC : Nat → ClassId) (dI : Nat → Nat → Nat) (sk sv : Nat → Nat) (tc : Nat → ClassId) (a0 : Nat → Nat) (g0 : Pic) (x1 : Int32) (x2 : Int32) {r0 : Int32} (h : f_X12_ofWord g0 x1 x2 = some r0) : CT l (dC, dI) sk sv (TY tc) yX12_ofWord cX12_ofWord 3 (some .int) rm_X12_ofWord [.ref (a0 0), .int x1, .int x2] (wM tc a0 g0) (some (.int r0)) (wM tc a0 g0) := by
  refine ofCT (by decide) (Nat.le_of_ble_eq_true rfl) ?_
  intro pr e s m args below meth c A Q ls H locs X hQ hD0 hP hS hl
  have hD : ∀ z0, va_D A (wM tc a0 z0) := fun z0 => D_fst (ws := (wM tc a0 g0)) rfl hD0
  have hl : lv_has ls 3 [(0, .ref (a0 0)), (1, .int x1), (2, .int x2)] := hl
  unfold f_X12_ofWord at h
  refine lv_aload_n X.1 X.2.1 dX12_ofWord_0 rfl (lv_at hl 0 rfl) ?_
  refine r_get (C := RX12) (T := TX12) (N := 28) (ci := 12) (v := .ref (a0 2)) X iw12 hP 0 rfl rfl 1 rfl mw_7_121 rfl dX12_ofWord_1 ?_
  refine lv_bipush (v := 12) X.1 X.2.1 dX12_ofWord_4 (by decide) ?_
  refine lv_bipush (v := 8) X.1 X.2.1 dX12_ofWord_6 (by decide) ?_
  refine lv_iload_n X.1 X.2.1 dX12_ofWord_8 rfl (lv_at hl 1 rfl) ?_
  refine lv_imul X.1 X.2.1 dX12_ofWord_9 ?_
  refine lv_iadd X.1 X.2.1 dX12_ofWord_10 ?_
  refine lv_iload_n X.1 X.2.1 dX12_ofWord_11 rfl (lv_at hl 2 rfl) ?_
  refine lv_iadd X.1 X.2.1 dX12_ofWord_12 ?_
  obtain ⟨hg_1, h⟩ := gdi_el h
  refine r_iald X hP 1 0 rfl rfl hg_1 rfl dX12_ofWord_13 ?_
  exact ret_i0 (Option.some.inj h) X hQ hP hS dX12_ofWord_14

def f_X12_of (g0 : Pic) (x1 : Int32) (x2 : Int32) : Option (Int32) := gdi ((96 + (4 * x1)) + x2) 856 (some (g0 1 (((96 + (4 * x1)) + x2).toNatClampNeg)))
abbrev rm_X12_of : Room := { frames := 0, cells := 0, slots := 0, locals := 0 }
set_option maxHeartbeats 4000000 in
set_option maxRecDepth 100000 in
theorem c_X12_of (l : Launch) (dC : Nat → ClassId) (dI : Nat → Nat → Nat) (sk sv : Nat → Nat) (tc : Nat → ClassId) (a0 : Nat → Nat) (g0 : Pic) (x1 : Int32) (x2 : Int32) {r0 : Int32} (h : f_X12_of g0 x1 x2 = some r0) : CT l (dC, dI) sk sv (TY tc) yX12_of cX12_of 3 (some .int) rm_X12_of [.ref (a0 0), .int x1, .int x2] (wM tc a0 g0) (some (.int r0)) (wM tc a0 g0) := by
  refine ofCT (by decide) (Nat.le_of_ble_eq_true rfl) ?_
  intro pr e s m args below meth c A Q ls H locs X hQ hD0 hP hS hl
  have hD : ∀ z0, va_D A (wM tc a0 z0) := fun z0 => D_fst (ws := (wM tc a0 g0)) rfl hD0
  have hl : lv_has ls 3 [(0, .ref (a0 0)), (1, .int x1), (2, .int x2)] := hl
  unfold f_X12_of at h
  refine lv_aload_n X.1 X.2.1 dX12_of_0 rfl (lv_at hl 0 rfl) ?_
  refine r_get (C := RX12) (T := TX12) (N := 28) (ci := 12) (v := .ref (a0 2)) X iw12 hP 0 rfl rfl 1 rfl mw_7_121 rfl dX12_of_1 ?_
  refine lv_bipush (v := 96) X.1 X.2.1 dX12_of_4 (by decide) ?_
  refine lv_iconst (v := 4) X.1 X.2.1 dX12_of_6 (by decide) ?_
  refine lv_iload_n X.1 X.2.1 dX12_of_7 rfl (lv_at hl 1 rfl) ?_
  refine lv_imul X.1 X.2.1 dX12_of_8 ?_
  refine lv_iadd X.1 X.2.1 dX12_of_9 ?_
  refine lv_iload_n X.1 X.2.1 dX12_of_10 rfl (lv_at hl 2 rfl) ?_
  refine lv_iadd X.1 X.2.1 dX12_of_11 ?_
  obtain ⟨hg_1, h⟩ := gdi_el h
  refine r_iald X hP 1 0 rfl rfl hg_1 rfl dX12_of_12 ?_
  exact ret_i0 (Option.some.inj h) X hQ hP hS dX12_of_13

def f_X12_lays (g0 : Pic) (x1 : Int32) (x2 : Int32) (x3 : Int32) : Option (Pic) := gdi ((96 + (4 * x1)) + x2) 856 (nm (pu g0 1 (((96 + (4 * x1)) + x2).toNatClampNeg) x3) (fun g0_2 => some g0_2))
abbrev rm_X12_lays : Room := { frames := 0, cells := 0, slots := 0, locals := 0 }
set_option maxHeartbeats 4000000 in
set_option maxRecDepth 100000 in
theorem c_X12_lays (l : Launch) (dC : Nat → ClassId) (dI : Nat → Nat → Nat) (sk sv : Nat → Nat) (tc : Nat → ClassId) (a0 : Nat → Nat) (g0 : Pic) (x1 : Int32) (x2 : Int32) (x3 : Int32) {G0 : Pic} (h : f_X12_lays g0 x1 x2 x3 = some G0) : CT l (dC, dI) sk sv (TY tc) yX12_lays cX12_lays 4 none rm_X12_lays [.ref (a0 0), .int x1, .int x2, .int x3] (wM tc a0 g0) none (wM tc a0 G0) := by
  refine ofCT (by decide) (Nat.le_of_ble_eq_true rfl) ?_
  intro pr e s m args below meth c A Q ls H locs X hQ hD0 hP hS hl
  have hD : ∀ z0, va_D A (wM tc a0 z0) := fun z0 => D_fst (ws := (wM tc a0 g0)) rfl hD0
  have hl : lv_has ls 4 [(0, .ref (a0 0)), (1, .int x1), (2, .int x2), (3, .int x3)] := hl
  unfold f_X12_lays at h
  refine lv_aload_n X.1 X.2.1 dX12_lays_0 rfl (lv_at hl 0 rfl) ?_
  refine r_get (C := RX12) (T := TX12) (N := 28) (ci := 12) (v := .ref (a0 2)) X iw12 hP 0 rfl rfl 1 rfl mw_7_121 rfl dX12_lays_1 ?_
  refine lv_bipush (v := 96) X.1 X.2.1 dX12_lays_4 (by decide) ?_
  refine lv_iconst (v := 4) X.1 X.2.1 dX12_lays_6 (by decide) ?_
  refine lv_iload_n X.1 X.2.1 dX12_lays_7 rfl (lv_at hl 1 rfl) ?_
  refine lv_imul X.1 X.2.1 dX12_lays_8 ?_
  refine lv_iadd X.1 X.2.1 dX12_lays_9 ?_
  refine lv_iload_n X.1 X.2.1 dX12_lays_10 rfl (lv_at hl 2 rfl) ?_
  refine lv_iadd X.1 X.2.1 dX12_lays_11 ?_
  refine lv_iload_n X.1 X.2.1 dX12_lays_12 rfl (lv_at hl 3 rfl) ?_
  obtain ⟨hg_1, h⟩ := gdi_el h
  obtain ⟨g0_2, eg0_2, h⟩ := nm_el h
  refine r_iast X hP (hD _) hS 1 0 rfl rfl hg_1 rfl dX12_lays_13 (wM tc a0 g0_2) (by rw [eg0_2]; rfl) (fun H locs hP hS => ?_)
  exact ret_v (fun u => (wM tc a0 u)) (res := G0) (Option.some.inj h) X hQ hP hS dX12_lays_14

def f_X12_onPage (g0 : Pic) (x1 : Int32) (x2 : Int32) : Option (Int32) := gdi ((116 + (20 * x1)) + x2) 856 (some (g0 1 (((116 + (20 * x1)) + x2).toNatClampNeg)))
abbrev rm_X12_onPage : Room := { frames := 0, cells := 0, slots := 0, locals := 0 }
set_option maxHeartbeats 4000000 in
set_option maxRecDepth 100000 in
theorem c_X12_onPage (l : Launch) (dC : Nat → ClassId) (dI : Nat → Nat → Nat) (sk sv : Nat → Nat) (tc : Nat → ClassId) (a0 : Nat → Nat) (g0 : Pic) (x1 : Int32) (x2 : Int32) {r0 : Int32} (h : f_X12_onPage g0 x1 x2 = some r0) : CT l (dC, dI) sk sv (TY tc) yX12_onPage cX12_onPage 3 (some .int) rm_X12_onPage [.ref (a0 0), .int x1, .int x2] (wM tc a0 g0) (some (.int r0)) (wM tc a0 g0) := by
  refine ofCT (by decide) (Nat.le_of_ble_eq_true rfl) ?_
  intro pr e s m args below meth c A Q ls H locs X hQ hD0 hP hS hl
  have hD : ∀ z0, va_D A (wM tc a0 z0) := fun z0 => D_fst (ws := (wM tc a0 g0)) rfl hD0
  have hl : lv_has ls 3 [(0, .ref (a0 0)), (1, .int x1), (2, .int x2)] := hl
  unfold f_X12_onPage at h
  refine lv_aload_n X.1 X.2.1 dX12_onPage_0 rfl (lv_at hl 0 rfl) ?_
  refine r_get (C := RX12) (T := TX12) (N := 28) (ci := 12) (v := .ref (a0 2)) X iw12 hP 0 rfl rfl 1 rfl mw_7_121 rfl dX12_onPage_1 ?_
  refine lv_bipush (v := 116) X.1 X.2.1 dX12_onPage_4 (by decide) ?_
  refine lv_bipush (v := 20) X.1 X.2.1 dX12_onPage_6 (by decide) ?_
  refine lv_iload_n X.1 X.2.1 dX12_onPage_8 rfl (lv_at hl 1 rfl) ?_
  refine lv_imul X.1 X.2.1 dX12_onPage_9 ?_
  refine lv_iadd X.1 X.2.1 dX12_onPage_10 ?_
  refine lv_iload_n X.1 X.2.1 dX12_onPage_11 rfl (lv_at hl 2 rfl) ?_
  refine lv_iadd X.1 X.2.1 dX12_onPage_12 ?_
  obtain ⟨hg_1, h⟩ := gdi_el h
  refine r_iald X hP 1 0 rfl rfl hg_1 rfl dX12_onPage_13 ?_
  exact ret_i0 (Option.some.inj h) X hQ hP hS dX12_onPage_14

def f_X12_isWord (g0 : Pic) (x1 : Int32) : Option (Int32) := bd (f_X12_isIn x1 0 ((g0 1 3) - 1)) (fun r_1 => gdb r_1 (some r_1))
abbrev rm_X12_isWord : Room := { frames := 1, cells := 0, slots := 0, locals := 22 }
set_option maxHeartbeats 4000000 in
set_option maxRecDepth 100000 in
theorem c_X12_isWord (l : Launch) (dC : Nat → ClassId) (dI : Nat → Nat → Nat) (sk sv : Nat → Nat) (tc : Nat → ClassId) (a0 : Nat → Nat) (g0 : Pic) (x1 : Int32) {r0 : Int32} (h : f_X12_isWord g0 x1 = some r0) : CT l (dC, dI) sk sv (TY tc) yX12_isWord cX12_isWord 2 (some .boolean) rm_X12_isWord [.ref (a0 0), .int x1] (wM tc a0 g0) (some (.int r0)) (wM tc a0 g0) := by
  refine ofCT (by decide) (Nat.le_of_ble_eq_true rfl) ?_
  intro pr e s m args below meth c A Q ls H locs X hQ hD0 hP hS hl
  have hD : ∀ z0, va_D A (wM tc a0 z0) := fun z0 => D_fst (ws := (wM tc a0 g0)) rfl hD0
  have hl : lv_has ls 2 [(0, .ref (a0 0)), (1, .int x1)] := hl
  unfold f_X12_isWord at h
  refine lv_iload_n X.1 X.2.1 dX12_isWord_0 rfl (lv_at hl 1 rfl) ?_
  refine lv_iconst (v := 0) X.1 X.2.1 dX12_isWord_1 (by decide) ?_
  refine lv_aload_n X.1 X.2.1 dX12_isWord_2 rfl (lv_at hl 0 rfl) ?_
  refine r_get (C := RX12) (T := TX12) (N := 28) (ci := 12) (v := .ref (a0 2)) X iw12 hP 0 rfl rfl 1 rfl mw_7_121 rfl dX12_isWord_3 ?_
  refine lv_iconst (v := 3) X.1 X.2.1 dX12_isWord_6 (by decide) ?_
  refine r_iald X hP 1 0 rfl rfl (j := 3) (by unfold vp_in; decide) (by decide) dX12_isWord_7 ?_
  refine lv_iconst (v := 1) X.1 X.2.1 dX12_isWord_8 (by decide) ?_
  refine lv_isub X.1 X.2.1 dX12_isWord_9 ?_
  obtain ⟨r_1, hc_1, h⟩ := bd_el h
  refine call_S0i (As := [.int x1, .int 0, .int ((g0 1 3) - 1)]) (rest := []) X (c_X12_isIn l dC dI sk sv tc x1 0 ((g0 1 3) - 1) hc_1) mw_7_218 mw_7_219 mw_1_12 mw_7_220 dc_X12_isIn ⟨Nat.le_of_ble_eq_true rfl, Nat.le_of_ble_eq_true rfl⟩ rfl rfl ⟨Nat.zero_le _, Nat.zero_le _⟩ hP (hD _) hS hl.1 (Nat.le_of_ble_eq_true rfl) dX12_isWord_10 (fun H locs hP hS => ?_)
  obtain ⟨hg_2, h⟩ := gdb_el h
  exact ret_z0 hg_2 (Option.some.inj h) X hQ hP hS dX12_isWord_13

def f_X12_isWriter (g0 : Pic) (x1 : Int32) : Option (Int32) := bd (f_X12_isIn x1 0 ((g0 1 4) - 1)) (fun r_1 => gdb r_1 (some r_1))
abbrev rm_X12_isWriter : Room := { frames := 1, cells := 0, slots := 0, locals := 22 }
set_option maxHeartbeats 4000000 in
set_option maxRecDepth 100000 in
theorem c_X12_isWriter (l : Launch) (dC : Nat → ClassId) (dI : Nat → Nat → Nat) (sk sv : Nat → Nat) (tc : Nat → ClassId) (a0 : Nat → Nat) (g0 : Pic) (x1 : Int32) {r0 : Int32} (h : f_X12_isWriter g0 x1 = some r0) : CT l (dC, dI) sk sv (TY tc) yX12_isWriter cX12_isWriter 2 (some .boolean) rm_X12_isWriter [.ref (a0 0), .int x1] (wM tc a0 g0) (some (.int r0)) (wM tc a0 g0) := by
  refine ofCT (by decide) (Nat.le_of_ble_eq_true rfl) ?_
  intro pr e s m args below meth c A Q ls H locs X hQ hD0 hP hS hl
  have hD : ∀ z0, va_D A (wM tc a0 z0) := fun z0 => D_fst (ws := (wM tc a0 g0)) rfl hD0
  have hl : lv_has ls 2 [(0, .ref (a0 0)), (1, .int x1)] := hl
  unfold f_X12_isWriter at h
  refine lv_iload_n X.1 X.2.1 dX12_isWriter_0 rfl (lv_at hl 1 rfl) ?_
  refine lv_iconst (v := 0) X.1 X.2.1 dX12_isWriter_1 (by decide) ?_
  refine lv_aload_n X.1 X.2.1 dX12_isWriter_2 rfl (lv_at hl 0 rfl) ?_
  refine r_get (C := RX12) (T := TX12) (N := 28) (ci := 12) (v := .ref (a0 2)) X iw12 hP 0 rfl rfl 1 rfl mw_7_121 rfl dX12_isWriter_3 ?_
  refine lv_iconst (v := 4) X.1 X.2.1 dX12_isWriter_6 (by decide) ?_
  refine r_iald X hP 1 0 rfl rfl (j := 4) (by unfold vp_in; decide) (by decide) dX12_isWriter_7 ?_
  refine lv_iconst (v := 1) X.1 X.2.1 dX12_isWriter_8 (by decide) ?_
  refine lv_isub X.1 X.2.1 dX12_isWriter_9 ?_
  obtain ⟨r_1, hc_1, h⟩ := bd_el h
  refine call_S0i (As := [.int x1, .int 0, .int ((g0 1 4) - 1)]) (rest := []) X (c_X12_isIn l dC dI sk sv tc x1 0 ((g0 1 4) - 1) hc_1) mw_7_218 mw_7_219 mw_1_12 mw_7_220 dc_X12_isIn ⟨Nat.le_of_ble_eq_true rfl, Nat.le_of_ble_eq_true rfl⟩ rfl rfl ⟨Nat.zero_le _, Nat.zero_le _⟩ hP (hD _) hS hl.1 (Nat.le_of_ble_eq_true rfl) dX12_isWriter_10 (fun H locs hP hS => ?_)
  obtain ⟨hg_2, h⟩ := gdb_el h
  exact ret_z0 hg_2 (Option.some.inj h) X hQ hP hS dX12_isWriter_13

def f_X12_feed_L23 (x1 : Int32) (x2 : Int32) (x3 : Int32) (x4 : Int32) (x5 : Int32) (n : Nat) (a : Int32 × Pic) : Option (Pic) := lp (fun (rec : Int32 × Pic → Option (Pic)) (a : Int32 × Pic) => match a with | (x6, g0) => (if 20 ≤ x6 then some g0 else jn (fun (s0_J76 : Int32) => gdi (g0 8 0) 400 (nm (pu g0 7 ((g0 8 0).toNatClampNeg) (((s0_J76.toUInt32 >>> ((24 - (8 * (x6 - x6 / 4 * 4))).toUInt32 &&& Int32.toUInt32 31)).toInt32) &&& 255)) (fun g0_3 => nm (pu g0_3 8 0 ((g0_3 8 0) + 1)) (fun g0_4 => nm (x6 + 1) (fun x6_5 => rec (x6_5, g0_4)))))) (fun J76 => (if 4 ≤ x6 then (if 8 ≤ x6 then (if 12 ≤ x6 then (if 16 ≤ x6 then J76 x5 else J76 x4) else J76 x3) else J76 x2) else J76 x1)))) n a
def f_X12_feed (g0 : Pic) (x1 : Int32) (x2 : Int32) (x3 : Int32) (x4 : Int32) (x5 : Int32) : Option (Int32 × Pic) := nm (pu g0 0 0 0) (fun g0_1 => (if ((g0_1 8 0) + 20) ≤ 400 then bd (f_X12_feed_L23 x1 x2 x3 x4 x5 fu (0, g0_1)) (fun g0_6 => some ((g0_6 8 0), g0_6)) else some ((-1), g0_1)))
abbrev rm_X12_feed : Room := { frames := 0, cells := 0, slots := 0, locals := 0 }
set_option maxHeartbeats 4000000 in
set_option maxRecDepth 100000 in
theorem c_X12_feed (l : Launch) (dC : Nat → ClassId) (dI : Nat → Nat → Nat) (sk sv : Nat → Nat) (tc : Nat → ClassId) (a0 : Nat → Nat) (g0 : Pic) (x1 : Int32) (x2 : Int32) (x3 : Int32) (x4 : Int32) (x5 : Int32) {r0 : Int32} {G0 : Pic} (h : f_X12_feed g0 x1 x2 x3 x4 x5 = some (r0, G0)) : CT l (dC, dI) sk sv (TY tc) yX12_feed cX12_feed 8 (some .int) rm_X12_feed [.ref (a0 0), .int x1, .int x2, .int x3, .int x4, .int x5] (wM tc a0 g0) (some (.int r0)) (wM tc a0 G0) := by
  refine ofCT (by decide) (Nat.le_of_ble_eq_true rfl) ?_
  intro pr e s m args below meth c A Q ls H locs X hQ hD0 hP hS hl
  have hD : ∀ z0, va_D A (wM tc a0 z0) := fun z0 => D_fst (ws := (wM tc a0 g0)) rfl hD0
  have hl : lv_has ls 8 [(0, .ref (a0 0)), (1, .int x1), (2, .int x2), (3, .int x3), (4, .int x4), (5, .int x5)] := hl
  have HL23 : ∀ (x1 : Int32) (x2 : Int32) (x3 : Int32) (x4 : Int32) (x5 : Int32) (n : Nat) (x6 : Int32) (g0 : Pic) (ex : (Pic)), f_X12_feed_L23 x1 x2 x3 x4 x5 n (x6, g0) = some ex → ∀ (H : Heap) (locs : List Loc) (ls : Array Slot), va_P (dC, dI) vwCl (wM tc a0 g0) H → va_S A s.heap H locs → lv_has ls 8 [(0, .ref (a0 0)), (1, .int x1), (2, .int x2), (3, .int x3), (4, .int x4), (5, .int x5), (6, .int x6)] → (∀ (k0 : Pic), k0 = ex → ∀ (H : Heap) (locs : List Loc) (ls : Array Slot), va_P (dC, dI) vwCl (wM tc a0 k0) H → va_S A s.heap H locs → lv_has ls 8 [(0, .ref (a0 0))] → W pr l e rm_X12_feed s m args below meth c H locs 0 0 Q (F0 m 120 ls [])) → W pr l e rm_X12_feed s m args below meth c H locs 0 0 Q (F0 m 23 ls []) := by
    intro x1 x2 x3 x4 x5 n
    induction n with
    | zero => intro x6 g0 ex h; exact lp_z h
    | succ n ih =>
      intro x6 g0 ex h H locs ls hP hS hl K
      have h := lp_s h
      refine lv_iload X.1 X.2.1 dX12_feed_23 (lv_at hl 6 rfl) ?_
      refine lv_bipush (v := 20) X.1 X.2.1 dX12_feed_25 (by decide) ?_
      refine lv_icmp_ge (tgt := 120) X.1 X.2.1 dX12_feed_27 (by decide) (fun hc => ?_) (fun hc => ?_)
      · have h := it_t hc h
        exact K g0 (Option.some.inj h) H locs ls hP hS (lv_sub hl [0] rfl)
      · have h := it_f hc h
        refine lv_iload X.1 X.2.1 dX12_feed_30 (lv_at hl 6 rfl) ?_
        refine lv_iconst (v := 4) X.1 X.2.1 dX12_feed_32 (by decide) ?_
        obtain ⟨J76, eJ76, h⟩ := jn_el h
        have HJ76 : ∀ (s0_J76 : Int32) (H : Heap) (locs : List Loc) (ls : Array Slot), J76 s0_J76 = some ex → va_P (dC, dI) vwCl (wM tc a0 g0) H → va_S A s.heap H locs → lv_has ls 8 [(0, .ref (a0 0)), (1, .int x1), (2, .int x2), (3, .int x3), (4, .int x4), (5, .int x5), (6, .int x6)] → W pr l e rm_X12_feed s m args below meth c H locs 0 0 Q (F0 m 76 ls [.int s0_J76]) := by
          intro s0_J76 H locs ls h hP hS hl
          rw [eJ76] at h
          refine lv_istore (lv' := [(7, .int s0_J76), (0, .ref (a0 0)), (1, .int x1), (2, .int x2), (3, .int x3), (4, .int x4), (5, .int x5), (6, .int x6)]) X.1 X.2.1 dX12_feed_76 hl (by decide) rfl (fun ls hl => ?_)
          refine lv_aload_n X.1 X.2.1 dX12_feed_78 rfl (lv_at hl 1 rfl) ?_
          refine r_get (C := RX12) (T := TX12) (N := 28) (ci := 12) (v := .ref (a0 8)) X iw12 hP 0 rfl rfl 7 rfl mw_7_127 rfl dX12_feed_79 ?_
          refine lv_aload_n X.1 X.2.1 dX12_feed_82 rfl (lv_at hl 1 rfl) ?_
          refine r_get (C := RX12) (T := TX12) (N := 28) (ci := 12) (v := .int (g0 8 0)) X iw12 hP 0 rfl rfl 8 rfl mw_7_128 rfl dX12_feed_83 ?_
          refine lv_iload X.1 X.2.1 dX12_feed_86 (lv_at hl 0 rfl) ?_
          refine lv_bipush (v := 24) X.1 X.2.1 dX12_feed_88 (by decide) ?_
          refine lv_bipush (v := 8) X.1 X.2.1 dX12_feed_90 (by decide) ?_
          refine lv_iload X.1 X.2.1 dX12_feed_92 (lv_at hl 7 rfl) ?_
          refine lv_iconst (v := 4) X.1 X.2.1 dX12_feed_94 (by decide) ?_
          refine lv_irem X.1 X.2.1 dX12_feed_95 (by decide) ?_
          refine lv_imul X.1 X.2.1 dX12_feed_96 ?_
          refine lv_isub X.1 X.2.1 dX12_feed_97 ?_
          refine lv_iushr X.1 X.2.1 dX12_feed_98 rfl ?_
          refine lv_sipush (v := 255) X.1 X.2.1 dX12_feed_99 (by decide) ?_
          refine lv_iand X.1 X.2.1 dX12_feed_102 ?_
          obtain ⟨hg_2, h⟩ := gdi_el h
          obtain ⟨g0_3, eg0_3, h⟩ := nm_el h
          refine r_iast X hP (hD _) hS 5 0 rfl rfl hg_2 rfl dX12_feed_103 (wM tc a0 g0_3) (by rw [eg0_3]; rfl) (fun H locs hP hS => ?_)
          refine lv_aload_n X.1 X.2.1 dX12_feed_104 rfl (lv_at hl 1 rfl) ?_
          refine lv_dup X.1 X.2.1 dX12_feed_105 rfl ?_
          refine r_get (C := RX12) (T := TX12) (N := 28) (ci := 12) (v := .int (g0_3 8 0)) X iw12 hP 0 rfl rfl 8 rfl mw_7_128 rfl dX12_feed_106 ?_
          refine lv_iconst (v := 1) X.1 X.2.1 dX12_feed_109 (by decide) ?_
          refine lv_iadd X.1 X.2.1 dX12_feed_110 ?_
          obtain ⟨g0_4, eg0_4, h⟩ := nm_el h
          refine r_put (C := RX12) (T := TX12) (N := 28) (ci := 12) tyX12 tyX12_ok nmX12 X iw12 hP (hD _) hS 0 rfl rfl 8 rfl mw_7_128 rfl rfl rfl rfl dX12_feed_111 (wM tc a0 g0_4) (by rw [eg0_4]; rfl) (fun H locs hP hS => ?_)
          obtain ⟨x6_5, ex6_5, h⟩ := nm_el h
          refine lv_iinc (v := x6_5) (lv' := [(6, .int x6_5), (7, .int s0_J76), (0, .ref (a0 0)), (1, .int x1), (2, .int x2), (3, .int x3), (4, .int x4), (5, .int x5)]) X.1 X.2.1 dX12_feed_114 hl (k := 7) rfl (by rw [ex6_5]; rfl) (by decide) rfl (fun ls hl => ?_)
          refine lv_goto (tgt := 23) X.1 X.2.1 dX12_feed_117 (by decide) ?_
          exact ih x6_5 g0_4 ex h H locs ls hP hS (lv_sub hl [2, 3, 4, 5, 6, 7, 0] rfl) K
        refine lv_icmp_ge (tgt := 40) X.1 X.2.1 dX12_feed_33 (by decide) (fun hc => ?_) (fun hc => ?_)
        · have h := it_t hc h
          refine lv_iload X.1 X.2.1 dX12_feed_40 (lv_at hl 6 rfl) ?_
          refine lv_bipush (v := 8) X.1 X.2.1 dX12_feed_42 (by decide) ?_
          refine lv_icmp_ge (tgt := 51) X.1 X.2.1 dX12_feed_44 (by decide) (fun hc => ?_) (fun hc => ?_)
          · have h := it_t hc h
            refine lv_iload X.1 X.2.1 dX12_feed_51 (lv_at hl 6 rfl) ?_
            refine lv_bipush (v := 12) X.1 X.2.1 dX12_feed_53 (by decide) ?_
            refine lv_icmp_ge (tgt := 62) X.1 X.2.1 dX12_feed_55 (by decide) (fun hc => ?_) (fun hc => ?_)
            · have h := it_t hc h
              refine lv_iload X.1 X.2.1 dX12_feed_62 (lv_at hl 6 rfl) ?_
              refine lv_bipush (v := 16) X.1 X.2.1 dX12_feed_64 (by decide) ?_
              refine lv_icmp_ge (tgt := 74) X.1 X.2.1 dX12_feed_66 (by decide) (fun hc => ?_) (fun hc => ?_)
              · have h := it_t hc h
                refine lv_iload X.1 X.2.1 dX12_feed_74 (lv_at hl 5 rfl) ?_
                exact HJ76 x5 H locs ls h hP hS (lv_sub hl [0, 1, 2, 3, 4, 5, 6] rfl)
              · have h := it_f hc h
                refine lv_iload X.1 X.2.1 dX12_feed_69 (lv_at hl 4 rfl) ?_
                refine lv_goto (tgt := 76) X.1 X.2.1 dX12_feed_71 (by decide) ?_
                exact HJ76 x4 H locs ls h hP hS (lv_sub hl [0, 1, 2, 3, 4, 5, 6] rfl)
            · have h := it_f hc h
              refine lv_iload_n X.1 X.2.1 dX12_feed_58 rfl (lv_at hl 3 rfl) ?_
              refine lv_goto (tgt := 76) X.1 X.2.1 dX12_feed_59 (by decide) ?_
              exact HJ76 x3 H locs ls h hP hS (lv_sub hl [0, 1, 2, 3, 4, 5, 6] rfl)
          · have h := it_f hc h
            refine lv_iload_n X.1 X.2.1 dX12_feed_47 rfl (lv_at hl 2 rfl) ?_
            refine lv_goto (tgt := 76) X.1 X.2.1 dX12_feed_48 (by decide) ?_
            exact HJ76 x2 H locs ls h hP hS (lv_sub hl [0, 1, 2, 3, 4, 5, 6] rfl)
        · have h := it_f hc h
          refine lv_iload_n X.1 X.2.1 dX12_feed_36 rfl (lv_at hl 1 rfl) ?_
          refine lv_goto (tgt := 76) X.1 X.2.1 dX12_feed_37 (by decide) ?_
          exact HJ76 x1 H locs ls h hP hS (lv_sub hl [0, 1, 2, 3, 4, 5, 6] rfl)
  unfold f_X12_feed at h
  refine lv_aload_n X.1 X.2.1 dX12_feed_0 rfl (lv_at hl 0 rfl) ?_
  refine lv_iconst (v := 0) X.1 X.2.1 dX12_feed_1 (by decide) ?_
  obtain ⟨g0_1, eg0_1, h⟩ := nm_el h
  refine r_put (C := RX12) (T := TX12) (N := 28) (ci := 12) tyX12 tyX12_ok nmX12 X iw12 hP (hD _) hS 0 rfl rfl 0 rfl mw_7_120 rfl rfl rfl rfl dX12_feed_2 (wM tc a0 g0_1) (by rw [eg0_1]; rfl) (fun H locs hP hS => ?_)
  refine lv_aload_n X.1 X.2.1 dX12_feed_5 rfl (lv_at hl 0 rfl) ?_
  refine r_get (C := RX12) (T := TX12) (N := 28) (ci := 12) (v := .int (g0_1 8 0)) X iw12 hP 0 rfl rfl 8 rfl mw_7_128 rfl dX12_feed_6 ?_
  refine lv_bipush (v := 20) X.1 X.2.1 dX12_feed_9 (by decide) ?_
  refine lv_iadd X.1 X.2.1 dX12_feed_11 ?_
  refine lv_sipush (v := 400) X.1 X.2.1 dX12_feed_12 (by decide) ?_
  refine lv_icmp_le (tgt := 20) X.1 X.2.1 dX12_feed_15 (by decide) (fun hc => ?_) (fun hc => ?_)
  · have h := it_t hc h
    refine lv_iconst (v := 0) X.1 X.2.1 dX12_feed_20 (by decide) ?_
    refine lv_istore (lv' := [(6, .int 0), (0, .ref (a0 0)), (1, .int x1), (2, .int x2), (3, .int x3), (4, .int x4), (5, .int x5)]) X.1 X.2.1 dX12_feed_21 hl (by decide) rfl (fun ls hl => ?_)
    obtain ⟨ex_6, hL_6, h⟩ := bd_el h
    refine HL23 x1 x2 x3 x4 x5 fu 0 g0_1 ex_6 hL_6 H locs ls hP hS (lv_sub hl [1, 2, 3, 4, 5, 6, 0] rfl) (fun g0_6 he H locs ls hP hS hl => ?_)
    subst he
    refine lv_aload_n X.1 X.2.1 dX12_feed_120 rfl (lv_at hl 0 rfl) ?_
    refine r_get (C := RX12) (T := TX12) (N := 28) (ci := 12) (v := .int (g0_6 8 0)) X iw12 hP 0 rfl rfl 8 rfl mw_7_128 rfl dX12_feed_121 ?_
    exact ret_i (fun u => (wM tc a0 u)) (res := (r0, G0)) (Option.some.inj h) X hQ hP hS dX12_feed_124
  · have h := it_f hc h
    refine lv_iconst (v := (-1)) X.1 X.2.1 dX12_feed_18 (by decide) ?_
    exact ret_i (fun u => (wM tc a0 u)) (res := (r0, G0)) (Option.some.inj h) X hQ hP hS dX12_feed_19

def f_X12_end (g0 : Pic) (x1 : Int32) : Option (Int32 × Pic) := nm (pu g0 0 0 0) (fun g0_1 => bd (f_X12_isIn x1 0 (g0_1 8 0)) (fun r_2 => (if r_2 = 0 then some (0, g0_1) else nm (pu g0_1 8 0 x1) (fun g0_3 => some (1, g0_3)))))
abbrev rm_X12_end : Room := { frames := 1, cells := 0, slots := 0, locals := 22 }
set_option maxHeartbeats 4000000 in
set_option maxRecDepth 100000 in
theorem c_X12_end (l : Launch) (dC : Nat → ClassId) (dI : Nat → Nat → Nat) (sk sv : Nat → Nat) (tc : Nat → ClassId) (a0 : Nat → Nat) (g0 : Pic) (x1 : Int32) {r0 : Int32} {G0 : Pic} (h : f_X12_end g0 x1 = some (r0, G0)) : CT l (dC, dI) sk sv (TY tc) yX12_end cX12_end 2 (some .boolean) rm_X12_end [.ref (a0 0), .int x1] (wM tc a0 g0) (some (.int r0)) (wM tc a0 G0) := by
  refine ofCT (by decide) (Nat.le_of_ble_eq_true rfl) ?_
  intro pr e s m args below meth c A Q ls H locs X hQ hD0 hP hS hl
  have hD : ∀ z0, va_D A (wM tc a0 z0) := fun z0 => D_fst (ws := (wM tc a0 g0)) rfl hD0
  have hl : lv_has ls 2 [(0, .ref (a0 0)), (1, .int x1)] := hl
  unfold f_X12_end at h
  refine lv_aload_n X.1 X.2.1 dX12_end_0 rfl (lv_at hl 0 rfl) ?_
  refine lv_iconst (v := 0) X.1 X.2.1 dX12_end_1 (by decide) ?_
  obtain ⟨g0_1, eg0_1, h⟩ := nm_el h
  refine r_put (C := RX12) (T := TX12) (N := 28) (ci := 12) tyX12 tyX12_ok nmX12 X iw12 hP (hD _) hS 0 rfl rfl 0 rfl mw_7_120 rfl rfl rfl rfl dX12_end_2 (wM tc a0 g0_1) (by rw [eg0_1]; rfl) (fun H locs hP hS => ?_)
  refine lv_iload_n X.1 X.2.1 dX12_end_5 rfl (lv_at hl 1 rfl) ?_
  refine lv_iconst (v := 0) X.1 X.2.1 dX12_end_6 (by decide) ?_
  refine lv_aload_n X.1 X.2.1 dX12_end_7 rfl (lv_at hl 0 rfl) ?_
  refine r_get (C := RX12) (T := TX12) (N := 28) (ci := 12) (v := .int (g0_1 8 0)) X iw12 hP 0 rfl rfl 8 rfl mw_7_128 rfl dX12_end_8 ?_
  obtain ⟨r_2, hc_2, h⟩ := bd_el h
  refine call_S0i (As := [.int x1, .int 0, .int (g0_1 8 0)]) (rest := []) X (c_X12_isIn l dC dI sk sv tc x1 0 (g0_1 8 0) hc_2) mw_7_218 mw_7_219 mw_1_12 mw_7_220 dc_X12_isIn ⟨Nat.le_of_ble_eq_true rfl, Nat.le_of_ble_eq_true rfl⟩ rfl rfl ⟨Nat.zero_le _, Nat.zero_le _⟩ hP (hD _) hS hl.1 (Nat.le_of_ble_eq_true rfl) dX12_end_11 (fun H locs hP hS => ?_)
  refine lv_if_ne (tgt := 19) X.1 X.2.1 dX12_end_14 (by decide) (fun hc => ?_) (fun hc => ?_)
  · have h := it_f hc h
    refine lv_aload_n X.1 X.2.1 dX12_end_19 rfl (lv_at hl 0 rfl) ?_
    refine lv_iload_n X.1 X.2.1 dX12_end_20 rfl (lv_at hl 1 rfl) ?_
    obtain ⟨g0_3, eg0_3, h⟩ := nm_el h
    refine r_put (C := RX12) (T := TX12) (N := 28) (ci := 12) tyX12 tyX12_ok nmX12 X iw12 hP (hD _) hS 0 rfl rfl 8 rfl mw_7_128 rfl rfl rfl rfl dX12_end_21 (wM tc a0 g0_3) (by rw [eg0_3]; rfl) (fun H locs hP hS => ?_)
    refine lv_iconst (v := 1) X.1 X.2.1 dX12_end_24 (by decide) ?_
    exact ret_z (fun u => (wM tc a0 u)) (res := (r0, G0)) (by decide) (Option.some.inj h) X hQ hP hS dX12_end_25
  · have h := it_t hc h
    refine lv_iconst (v := 0) X.1 X.2.1 dX12_end_17 (by decide) ?_
    exact ret_z (fun u => (wM tc a0 u)) (res := (r0, G0)) (by decide) (Option.some.inj h) X hQ hP hS dX12_end_18

def f_X12_byteAt (g0 : Pic) (x1 : Int32) : Option (Int32) := jn (fun (s0_J28 : Int32) => some s0_J28) (fun J28 => (if (g0 9 0) = (-1) then gdi x1 400 (J28 (g0 7 (x1.toNatClampNeg))) else gdi ((g0 9 0) + x1) 856 (J28 (g0 1 (((g0 9 0) + x1).toNatClampNeg)))))
abbrev rm_X12_byteAt : Room := { frames := 0, cells := 0, slots := 0, locals := 0 }
set_option maxHeartbeats 4000000 in
set_option maxRecDepth 100000 in
theorem c_X12_byteAt (l : Launch) (dC : Nat → ClassId) (dI : Nat → Nat → Nat) (sk sv : Nat → Nat) (tc : Nat → ClassId) (a0 : Nat → Nat) (g0 : Pic) (x1 : Int32) {r0 : Int32} (h : f_X12_byteAt g0 x1 = some r0) : CT l (dC, dI) sk sv (TY tc) yX12_byteAt cX12_byteAt 2 (some .int) rm_X12_byteAt [.ref (a0 0), .int x1] (wM tc a0 g0) (some (.int r0)) (wM tc a0 g0) := by
  refine ofCT (by decide) (Nat.le_of_ble_eq_true rfl) ?_
  intro pr e s m args below meth c A Q ls H locs X hQ hD0 hP hS hl
  have hD : ∀ z0, va_D A (wM tc a0 z0) := fun z0 => D_fst (ws := (wM tc a0 g0)) rfl hD0
  have hl : lv_has ls 2 [(0, .ref (a0 0)), (1, .int x1)] := hl
  unfold f_X12_byteAt at h
  refine lv_aload_n X.1 X.2.1 dX12_byteAt_0 rfl (lv_at hl 0 rfl) ?_
  refine r_get (C := RX12) (T := TX12) (N := 28) (ci := 12) (v := .int (g0 9 0)) X iw12 hP 0 rfl rfl 9 rfl mw_7_129 rfl dX12_byteAt_1 ?_
  refine lv_iconst (v := (-1)) X.1 X.2.1 dX12_byteAt_4 (by decide) ?_
  obtain ⟨J28, eJ28, h⟩ := jn_el h
  have HJ28 : ∀ (s0_J28 : Int32) (H : Heap) (locs : List Loc) (ls : Array Slot), J28 s0_J28 = some r0 → va_P (dC, dI) vwCl (wM tc a0 g0) H → va_S A s.heap H locs → lv_has ls 2 [] → W pr l e rm_X12_byteAt s m args below meth c H locs 0 0 Q (F0 m 28 ls [.int s0_J28]) := by
    intro s0_J28 H locs ls h hP hS hl
    rw [eJ28] at h
    exact ret_i0 (Option.some.inj h) X hQ hP hS dX12_byteAt_28
  refine lv_icmp_ne (tgt := 17) X.1 X.2.1 dX12_byteAt_5 (by decide) (fun hc => ?_) (fun hc => ?_)
  · have h := it_f hc h
    refine lv_aload_n X.1 X.2.1 dX12_byteAt_17 rfl (lv_at hl 0 rfl) ?_
    refine r_get (C := RX12) (T := TX12) (N := 28) (ci := 12) (v := .ref (a0 2)) X iw12 hP 0 rfl rfl 1 rfl mw_7_121 rfl dX12_byteAt_18 ?_
    refine lv_aload_n X.1 X.2.1 dX12_byteAt_21 rfl (lv_at hl 0 rfl) ?_
    refine r_get (C := RX12) (T := TX12) (N := 28) (ci := 12) (v := .int (g0 9 0)) X iw12 hP 0 rfl rfl 9 rfl mw_7_129 rfl dX12_byteAt_22 ?_
    refine lv_iload_n X.1 X.2.1 dX12_byteAt_25 rfl (lv_at hl 1 rfl) ?_
    refine lv_iadd X.1 X.2.1 dX12_byteAt_26 ?_
    obtain ⟨hg_1, h⟩ := gdi_el h
    refine r_iald X hP 1 0 rfl rfl hg_1 rfl dX12_byteAt_27 ?_
    exact HJ28 (g0 1 (((g0 9 0) + x1).toNatClampNeg)) H locs ls h hP hS (lv_sub hl [] rfl)
  · have h := it_t hc h
    refine lv_aload_n X.1 X.2.1 dX12_byteAt_8 rfl (lv_at hl 0 rfl) ?_
    refine r_get (C := RX12) (T := TX12) (N := 28) (ci := 12) (v := .ref (a0 8)) X iw12 hP 0 rfl rfl 7 rfl mw_7_127 rfl dX12_byteAt_9 ?_
    refine lv_iload_n X.1 X.2.1 dX12_byteAt_12 rfl (lv_at hl 1 rfl) ?_
    obtain ⟨hg_2, h⟩ := gdi_el h
    refine r_iald X hP 5 0 rfl rfl hg_2 rfl dX12_byteAt_13 ?_
    refine lv_goto (tgt := 28) X.1 X.2.1 dX12_byteAt_14 (by decide) ?_
    exact HJ28 (g0 7 (x1.toNatClampNeg)) H locs ls h hP hS (lv_sub hl [] rfl)

def f_X12_skip_L0 (n : Nat) (a : Pic) : Option (Pic) := lp (fun (rec : Pic → Option (Pic)) (a : Pic) => (fun (g0 : Pic) => (if (g0 10 0) ≤ (g0 11 0) then some g0 else bd (f_X12_byteAt g0 (g0 11 0)) (fun r_1 => (if r_1 = 32 then nm (pu g0 11 0 ((g0 11 0) + 1)) (fun g0_2 => rec g0_2) else some g0)))) a) n a
def f_X12_skip (g0 : Pic) : Option (Pic) := bd (f_X12_skip_L0  fu g0) (fun g0_3 => some g0_3)
abbrev rm_X12_skip : Room := { frames := 1, cells := 0, slots := 0, locals := 21 }
set_option maxHeartbeats 4000000 in
set_option maxRecDepth 100000 in
theorem c_X12_skip (l : Launch) (dC : Nat → ClassId) (dI : Nat → Nat → Nat) (sk sv : Nat → Nat) (tc : Nat → ClassId) (a0 : Nat → Nat) (g0 : Pic) {G0 : Pic} (h : f_X12_skip g0 = some G0) : CT l (dC, dI) sk sv (TY tc) yX12_skip cX12_skip 1 none rm_X12_skip [.ref (a0 0)] (wM tc a0 g0) none (wM tc a0 G0) := by
  refine ofCT (by decide) (Nat.le_of_ble_eq_true rfl) ?_
  intro pr e s m args below meth c A Q ls H locs X hQ hD0 hP hS hl
  have hD : ∀ z0, va_D A (wM tc a0 z0) := fun z0 => D_fst (ws := (wM tc a0 g0)) rfl hD0
  have hl : lv_has ls 1 [(0, .ref (a0 0))] := hl
  have HL0 : ∀ (n : Nat) (g0 : Pic) (ex : (Pic)), f_X12_skip_L0  n g0 = some ex → ∀ (H : Heap) (locs : List Loc) (ls : Array Slot), va_P (dC, dI) vwCl (wM tc a0 g0) H → va_S A s.heap H locs → lv_has ls 1 [(0, .ref (a0 0))] → (∀ (k0 : Pic), k0 = ex → ∀ (H : Heap) (locs : List Loc) (ls : Array Slot), va_P (dC, dI) vwCl (wM tc a0 k0) H → va_S A s.heap H locs → lv_has ls 1 [] → W pr l e rm_X12_skip s m args below meth c H locs 0 0 Q (F0 m 37 ls [])) → W pr l e rm_X12_skip s m args below meth c H locs 0 0 Q (F0 m 0 ls []) := by
    intro n
    induction n with
    | zero => intro g0 ex h; exact lp_z h
    | succ n ih =>
      intro g0 ex h H locs ls hP hS hl K
      have h := lp_s h
      refine lv_aload_n X.1 X.2.1 dX12_skip_0 rfl (lv_at hl 0 rfl) ?_
      refine r_get (C := RX12) (T := TX12) (N := 28) (ci := 12) (v := .int (g0 11 0)) X iw12 hP 0 rfl rfl 11 rfl mw_7_131 rfl dX12_skip_1 ?_
      refine lv_aload_n X.1 X.2.1 dX12_skip_4 rfl (lv_at hl 0 rfl) ?_
      refine r_get (C := RX12) (T := TX12) (N := 28) (ci := 12) (v := .int (g0 10 0)) X iw12 hP 0 rfl rfl 10 rfl mw_7_130 rfl dX12_skip_5 ?_
      refine lv_icmp_ge (tgt := 37) X.1 X.2.1 dX12_skip_8 (by decide) (fun hc => ?_) (fun hc => ?_)
      · have h := it_t hc h
        exact K g0 (Option.some.inj h) H locs ls hP hS (lv_sub hl [] rfl)
      · have h := it_f hc h
        refine lv_aload_n X.1 X.2.1 dX12_skip_11 rfl (lv_at hl 0 rfl) ?_
        refine lv_aload_n X.1 X.2.1 dX12_skip_12 rfl (lv_at hl 0 rfl) ?_
        refine r_get (C := RX12) (T := TX12) (N := 28) (ci := 12) (v := .int (g0 11 0)) X iw12 hP 0 rfl rfl 11 rfl mw_7_131 rfl dX12_skip_13 ?_
        obtain ⟨r_1, hc_1, h⟩ := bd_el h
        refine call_V1i (As := [.int (g0 11 0)]) (rest := []) X (c_X12_byteAt l dC dI sk sv tc a0 g0 (g0 11 0) hc_1) mw_8_1 mw_8_3 mp_2_0 mw_1_12 mw_8_4 dc_X12_byteAt ⟨Nat.le_of_ble_eq_true rfl, Nat.le_of_ble_eq_true rfl⟩ rfl rfl ⟨Nat.zero_le _, Nat.zero_le _⟩ hP (hD _) hS 0 rfl rfl rfl hl.1 (Nat.le_of_ble_eq_true rfl) dX12_skip_16 (fun H locs hP hS => ?_)
        refine lv_bipush (v := 32) X.1 X.2.1 dX12_skip_19 (by decide) ?_
        refine lv_icmp_ne (tgt := 37) X.1 X.2.1 dX12_skip_21 (by decide) (fun hc => ?_) (fun hc => ?_)
        · have h := it_f hc h
          exact K g0 (Option.some.inj h) H locs ls hP hS (lv_sub hl [] rfl)
        · have h := it_t hc h
          refine lv_aload_n X.1 X.2.1 dX12_skip_24 rfl (lv_at hl 0 rfl) ?_
          refine lv_dup X.1 X.2.1 dX12_skip_25 rfl ?_
          refine r_get (C := RX12) (T := TX12) (N := 28) (ci := 12) (v := .int (g0 11 0)) X iw12 hP 0 rfl rfl 11 rfl mw_7_131 rfl dX12_skip_26 ?_
          refine lv_iconst (v := 1) X.1 X.2.1 dX12_skip_29 (by decide) ?_
          refine lv_iadd X.1 X.2.1 dX12_skip_30 ?_
          obtain ⟨g0_2, eg0_2, h⟩ := nm_el h
          refine r_put (C := RX12) (T := TX12) (N := 28) (ci := 12) tyX12 tyX12_ok nmX12 X iw12 hP (hD _) hS 0 rfl rfl 11 rfl mw_7_131 rfl rfl rfl rfl dX12_skip_31 (wM tc a0 g0_2) (by rw [eg0_2]; rfl) (fun H locs hP hS => ?_)
          refine lv_goto (tgt := 0) X.1 X.2.1 dX12_skip_34 (by decide) ?_
          exact ih g0_2 ex h H locs ls hP hS (lv_sub hl [0] rfl) K
  unfold f_X12_skip at h
  obtain ⟨ex_3, hL_3, h⟩ := bd_el h
  refine HL0  fu g0 ex_3 hL_3 H locs ls hP hS (lv_sub hl [0] rfl) (fun g0_3 he H locs ls hP hS hl => ?_)
  subst he
  exact ret_v (fun u => (wM tc a0 u)) (res := G0) (Option.some.inj h) X hQ hP hS dX12_skip_37

def f_X12_isSign (g0 : Pic) (x1 : Int32) : Option (Int32 × Pic) := bd (f_X12_skip g0) (fun g0_1 => jn (fun (s0_J32 : Int32) => gdb s0_J32 (some (s0_J32, g0_1))) (fun J32 => jn (fun (_ : Unit) => J32 0) (fun J31 => (if (g0_1 10 0) ≤ (g0_1 11 0) then J31 () else bd (f_X12_byteAt g0_1 (g0_1 11 0)) (fun r_3 => (if r_3 = x1 then J32 1 else J31 ()))))))
abbrev rm_X12_isSign : Room := { frames := 2, cells := 0, slots := 0, locals := 41 }
set_option maxHeartbeats 4000000 in
set_option maxRecDepth 100000 in
theorem c_X12_isSign (l : Launch) (dC : Nat → ClassId) (dI : Nat → Nat → Nat) (sk sv : Nat → Nat) (tc : Nat → ClassId) (a0 : Nat → Nat) (g0 : Pic) (x1 : Int32) {r0 : Int32} {G0 : Pic} (h : f_X12_isSign g0 x1 = some (r0, G0)) : CT l (dC, dI) sk sv (TY tc) yX12_isSign cX12_isSign 2 (some .boolean) rm_X12_isSign [.ref (a0 0), .int x1] (wM tc a0 g0) (some (.int r0)) (wM tc a0 G0) := by
  refine ofCT (by decide) (Nat.le_of_ble_eq_true rfl) ?_
  intro pr e s m args below meth c A Q ls H locs X hQ hD0 hP hS hl
  have hD : ∀ z0, va_D A (wM tc a0 z0) := fun z0 => D_fst (ws := (wM tc a0 g0)) rfl hD0
  have hl : lv_has ls 2 [(0, .ref (a0 0)), (1, .int x1)] := hl
  unfold f_X12_isSign at h
  refine lv_aload_n X.1 X.2.1 dX12_isSign_0 rfl (lv_at hl 0 rfl) ?_
  obtain ⟨g0_1, hc_1, h⟩ := bd_el h
  refine call_V1v (As := []) (rest := []) X (c_X12_skip l dC dI sk sv tc a0 g0 hc_1) mw_7_237 mw_7_239 mp_1_15 mw_1_12 mw_8_0 dc_X12_skip ⟨Nat.le_of_ble_eq_true rfl, Nat.le_of_ble_eq_true rfl⟩ rfl rfl ⟨Nat.zero_le _, Nat.zero_le _⟩ hP (hD _) hS 0 rfl rfl rfl hl.1 (Nat.le_of_ble_eq_true rfl) dX12_isSign_1 (fun H locs hP hS => ?_)
  refine lv_aload_n X.1 X.2.1 dX12_isSign_4 rfl (lv_at hl 0 rfl) ?_
  refine r_get (C := RX12) (T := TX12) (N := 28) (ci := 12) (v := .int (g0_1 11 0)) X iw12 hP 0 rfl rfl 11 rfl mw_7_131 rfl dX12_isSign_5 ?_
  refine lv_aload_n X.1 X.2.1 dX12_isSign_8 rfl (lv_at hl 0 rfl) ?_
  refine r_get (C := RX12) (T := TX12) (N := 28) (ci := 12) (v := .int (g0_1 10 0)) X iw12 hP 0 rfl rfl 10 rfl mw_7_130 rfl dX12_isSign_9 ?_
  obtain ⟨J32, eJ32, h⟩ := jn_el h
  have HJ32 : ∀ (s0_J32 : Int32) (H : Heap) (locs : List Loc) (ls : Array Slot), J32 s0_J32 = some (r0, G0) → va_P (dC, dI) vwCl (wM tc a0 g0_1) H → va_S A s.heap H locs → lv_has ls 2 [] → W pr l e rm_X12_isSign s m args below meth c H locs 0 0 Q (F0 m 32 ls [.int s0_J32]) := by
    intro s0_J32 H locs ls h hP hS hl
    rw [eJ32] at h
    obtain ⟨hg_2, h⟩ := gdb_el h
    exact ret_z (fun u => (wM tc a0 u)) (res := (r0, G0)) hg_2 (Option.some.inj h) X hQ hP hS dX12_isSign_32
  obtain ⟨J31, eJ31, h⟩ := jn_el h
  have HJ31 : ∀ (_ : Unit) (H : Heap) (locs : List Loc) (ls : Array Slot), J31 () = some (r0, G0) → va_P (dC, dI) vwCl (wM tc a0 g0_1) H → va_S A s.heap H locs → lv_has ls 2 [] → W pr l e rm_X12_isSign s m args below meth c H locs 0 0 Q (F0 m 31 ls []) := by
    intro _ H locs ls h hP hS hl
    rw [eJ31] at h
    refine lv_iconst (v := 0) X.1 X.2.1 dX12_isSign_31 (by decide) ?_
    exact HJ32 0 H locs ls h hP hS (lv_sub hl [] rfl)
  refine lv_icmp_ge (tgt := 31) X.1 X.2.1 dX12_isSign_12 (by decide) (fun hc => ?_) (fun hc => ?_)
  · have h := it_t hc h
    exact HJ31 () H locs ls h hP hS (lv_sub hl [] rfl)
  · have h := it_f hc h
    refine lv_aload_n X.1 X.2.1 dX12_isSign_15 rfl (lv_at hl 0 rfl) ?_
    refine lv_aload_n X.1 X.2.1 dX12_isSign_16 rfl (lv_at hl 0 rfl) ?_
    refine r_get (C := RX12) (T := TX12) (N := 28) (ci := 12) (v := .int (g0_1 11 0)) X iw12 hP 0 rfl rfl 11 rfl mw_7_131 rfl dX12_isSign_17 ?_
    obtain ⟨r_3, hc_3, h⟩ := bd_el h
    refine call_V1i (As := [.int (g0_1 11 0)]) (rest := []) X (c_X12_byteAt l dC dI sk sv tc a0 g0_1 (g0_1 11 0) hc_3) mw_8_1 mw_8_3 mp_2_0 mw_1_12 mw_8_4 dc_X12_byteAt ⟨Nat.le_of_ble_eq_true rfl, Nat.le_of_ble_eq_true rfl⟩ rfl rfl ⟨Nat.zero_le _, Nat.zero_le _⟩ hP (hD _) hS 0 rfl rfl rfl hl.1 (Nat.le_of_ble_eq_true rfl) dX12_isSign_20 (fun H locs hP hS => ?_)
    refine lv_iload_n X.1 X.2.1 dX12_isSign_23 rfl (lv_at hl 1 rfl) ?_
    refine lv_icmp_ne (tgt := 31) X.1 X.2.1 dX12_isSign_24 (by decide) (fun hc => ?_) (fun hc => ?_)
    · have h := it_f hc h
      exact HJ31 () H locs ls h hP hS (lv_sub hl [] rfl)
    · have h := it_t hc h
      refine lv_iconst (v := 1) X.1 X.2.1 dX12_isSign_27 (by decide) ?_
      refine lv_goto (tgt := 32) X.1 X.2.1 dX12_isSign_28 (by decide) ?_
      exact HJ32 1 H locs ls h hP hS (lv_sub hl [] rfl)

def f_X12_wrong (g0 : Pic) (x1 : Int32) : Option (Pic) := jn (fun (g0_J13 : Pic) => some g0_J13) (fun J13 => (if (g0 12 0) = (-1) then nm (pu g0 12 0 x1) (fun g0_1 => J13 g0_1) else J13 g0))
abbrev rm_X12_wrong : Room := { frames := 0, cells := 0, slots := 0, locals := 0 }
set_option maxHeartbeats 4000000 in
set_option maxRecDepth 100000 in
theorem c_X12_wrong (l : Launch) (dC : Nat → ClassId) (dI : Nat → Nat → Nat) (sk sv : Nat → Nat) (tc : Nat → ClassId) (a0 : Nat → Nat) (g0 : Pic) (x1 : Int32) {G0 : Pic} (h : f_X12_wrong g0 x1 = some G0) : CT l (dC, dI) sk sv (TY tc) yX12_wrong cX12_wrong 2 none rm_X12_wrong [.ref (a0 0), .int x1] (wM tc a0 g0) none (wM tc a0 G0) := by
  refine ofCT (by decide) (Nat.le_of_ble_eq_true rfl) ?_
  intro pr e s m args below meth c A Q ls H locs X hQ hD0 hP hS hl
  have hD : ∀ z0, va_D A (wM tc a0 z0) := fun z0 => D_fst (ws := (wM tc a0 g0)) rfl hD0
  have hl : lv_has ls 2 [(0, .ref (a0 0)), (1, .int x1)] := hl
  unfold f_X12_wrong at h
  refine lv_aload_n X.1 X.2.1 dX12_wrong_0 rfl (lv_at hl 0 rfl) ?_
  refine r_get (C := RX12) (T := TX12) (N := 28) (ci := 12) (v := .int (g0 12 0)) X iw12 hP 0 rfl rfl 12 rfl mw_7_132 rfl dX12_wrong_1 ?_
  refine lv_iconst (v := (-1)) X.1 X.2.1 dX12_wrong_4 (by decide) ?_
  obtain ⟨J13, eJ13, h⟩ := jn_el h
  have HJ13 : ∀ (g0_J13 : Pic) (H : Heap) (locs : List Loc) (ls : Array Slot), J13 g0_J13 = some G0 → va_P (dC, dI) vwCl (wM tc a0 g0_J13) H → va_S A s.heap H locs → lv_has ls 2 [] → W pr l e rm_X12_wrong s m args below meth c H locs 0 0 Q (F0 m 13 ls []) := by
    intro g0_J13 H locs ls h hP hS hl
    rw [eJ13] at h
    exact ret_v (fun u => (wM tc a0 u)) (res := G0) (Option.some.inj h) X hQ hP hS dX12_wrong_13
  refine lv_icmp_ne (tgt := 13) X.1 X.2.1 dX12_wrong_5 (by decide) (fun hc => ?_) (fun hc => ?_)
  · have h := it_f hc h
    exact HJ13 g0 H locs ls h hP hS (lv_sub hl [] rfl)
  · have h := it_t hc h
    refine lv_aload_n X.1 X.2.1 dX12_wrong_8 rfl (lv_at hl 0 rfl) ?_
    refine lv_iload_n X.1 X.2.1 dX12_wrong_9 rfl (lv_at hl 1 rfl) ?_
    obtain ⟨g0_1, eg0_1, h⟩ := nm_el h
    refine r_put (C := RX12) (T := TX12) (N := 28) (ci := 12) tyX12 tyX12_ok nmX12 X iw12 hP (hD _) hS 0 rfl rfl 12 rfl mw_7_132 rfl rfl rfl rfl dX12_wrong_10 (wM tc a0 g0_1) (by rw [eg0_1]; rfl) (fun H locs hP hS => ?_)
    exact HJ13 g0_1 H locs ls h hP hS (lv_sub hl [] rfl)

def f_X12_here (g0 : Pic) : Option (Int32 × Pic) := bd (f_X12_skip g0) (fun g0_1 => some ((g0_1 11 0), g0_1))
abbrev rm_X12_here : Room := { frames := 2, cells := 0, slots := 0, locals := 41 }
set_option maxHeartbeats 4000000 in
set_option maxRecDepth 100000 in
theorem c_X12_here (l : Launch) (dC : Nat → ClassId) (dI : Nat → Nat → Nat) (sk sv : Nat → Nat) (tc : Nat → ClassId) (a0 : Nat → Nat) (g0 : Pic) {r0 : Int32} {G0 : Pic} (h : f_X12_here g0 = some (r0, G0)) : CT l (dC, dI) sk sv (TY tc) yX12_here cX12_here 1 (some .int) rm_X12_here [.ref (a0 0)] (wM tc a0 g0) (some (.int r0)) (wM tc a0 G0) := by
  refine ofCT (by decide) (Nat.le_of_ble_eq_true rfl) ?_
  intro pr e s m args below meth c A Q ls H locs X hQ hD0 hP hS hl
  have hD : ∀ z0, va_D A (wM tc a0 z0) := fun z0 => D_fst (ws := (wM tc a0 g0)) rfl hD0
  have hl : lv_has ls 1 [(0, .ref (a0 0))] := hl
  unfold f_X12_here at h
  refine lv_aload_n X.1 X.2.1 dX12_here_0 rfl (lv_at hl 0 rfl) ?_
  obtain ⟨g0_1, hc_1, h⟩ := bd_el h
  refine call_V1v (As := []) (rest := []) X (c_X12_skip l dC dI sk sv tc a0 g0 hc_1) mw_7_237 mw_7_239 mp_1_15 mw_1_12 mw_8_0 dc_X12_skip ⟨Nat.le_of_ble_eq_true rfl, Nat.le_of_ble_eq_true rfl⟩ rfl rfl ⟨Nat.zero_le _, Nat.zero_le _⟩ hP (hD _) hS 0 rfl rfl rfl hl.1 (Nat.le_of_ble_eq_true rfl) dX12_here_1 (fun H locs hP hS => ?_)
  refine lv_aload_n X.1 X.2.1 dX12_here_4 rfl (lv_at hl 0 rfl) ?_
  refine r_get (C := RX12) (T := TX12) (N := 28) (ci := 12) (v := .int (g0_1 11 0)) X iw12 hP 0 rfl rfl 11 rfl mw_7_131 rfl dX12_here_5 ?_
  exact ret_i (fun u => (wM tc a0 u)) (res := (r0, G0)) (Option.some.inj h) X hQ hP hS dX12_here_8

def f_X12_figures_L18 (x1 : Int32) (x2 : Int32) (x3 : Int32) (n : Nat) (a : Int32 × Pic) : Option (Int32 × Pic) := lp (fun (rec : Int32 × Pic → Option (Int32 × Pic)) (a : Int32 × Pic) => match a with | (x4, g0) => (if (g0 10 0) ≤ (g0 11 0) then some (x4, g0) else bd (f_X12_byteAt g0 (g0 11 0)) (fun r_2 => bd (f_X12_isIn r_2 48 57) (fun r_3 => (if r_3 = 0 then some (x4, g0) else (if 3 < ((g0 11 0) - x3) then some (x4, g0) else bd (f_X12_byteAt g0 (g0 11 0)) (fun r_4 => nm ((((10 * x4) + r_4) - 48)) (fun x4_5 => nm (pu g0 11 0 ((g0 11 0) + 1)) (fun g0_6 => rec (x4_5, g0_6)))))))))) n a
def f_X12_figures (g0 : Pic) (x1 : Int32) (x2 : Int32) : Option (Int32 × Pic) := (if (g0 12 0) = (-1) then bd2 (f_X12_here g0) (fun r_1 g0_1 => bd (f_X12_figures_L18 x1 x2 r_1 fu (0, g0_1)) (fun (x4_7, g0_7) => jn (fun (g0_J124 : Pic) => some (x4_7, g0_J124)) (fun J124 => jn (fun (_ : Unit) => bd (f_X12_wrong g0_7 r_1) (fun g0_8 => J124 g0_8)) (fun J119 => (if (g0_7 11 0) = r_1 then J119 () else (if 3 < ((g0_7 11 0) - r_1) then J119 () else (if x4_7 < x1 then J119 () else (if x4_7 ≤ x2 then J124 g0_7 else J119 ())))))))) else some (0, g0))
abbrev rm_X12_figures : Room := { frames := 3, cells := 0, slots := 0, locals := 61 }
set_option maxHeartbeats 4000000 in
set_option maxRecDepth 100000 in
theorem c_X12_figures (l : Launch) (dC : Nat → ClassId) (dI : Nat → Nat → Nat) (sk sv : Nat → Nat) (tc : Nat → ClassId) (a0 : Nat → Nat) (g0 : Pic) (x1 : Int32) (x2 : Int32) {r0 : Int32} {G0 : Pic} (h : f_X12_figures g0 x1 x2 = some (r0, G0)) : CT l (dC, dI) sk sv (TY tc) yX12_figures cX12_figures 5 (some .int) rm_X12_figures [.ref (a0 0), .int x1, .int x2] (wM tc a0 g0) (some (.int r0)) (wM tc a0 G0) := by
  refine ofCT (by decide) (Nat.le_of_ble_eq_true rfl) ?_
  intro pr e s m args below meth c A Q ls H locs X hQ hD0 hP hS hl
  have hD : ∀ z0, va_D A (wM tc a0 z0) := fun z0 => D_fst (ws := (wM tc a0 g0)) rfl hD0
  have hl : lv_has ls 5 [(0, .ref (a0 0)), (1, .int x1), (2, .int x2)] := hl
  have HL18 : ∀ (x1 : Int32) (x2 : Int32) (x3 : Int32) (n : Nat) (x4 : Int32) (g0 : Pic) (ex : (Int32 × Pic)), f_X12_figures_L18 x1 x2 x3 n (x4, g0) = some ex → ∀ (H : Heap) (locs : List Loc) (ls : Array Slot), va_P (dC, dI) vwCl (wM tc a0 g0) H → va_S A s.heap H locs → lv_has ls 5 [(0, .ref (a0 0)), (1, .int x1), (2, .int x2), (3, .int x3), (4, .int x4)] → (∀ (y4 : Int32) (k0 : Pic), (y4, k0) = ex → ∀ (H : Heap) (locs : List Loc) (ls : Array Slot), va_P (dC, dI) vwCl (wM tc a0 k0) H → va_S A s.heap H locs → lv_has ls 5 [(0, .ref (a0 0)), (1, .int x1), (2, .int x2), (3, .int x3), (4, .int y4)] → W pr l e rm_X12_figures s m args below meth c H locs 0 0 Q (F0 m 89 ls [])) → W pr l e rm_X12_figures s m args below meth c H locs 0 0 Q (F0 m 18 ls []) := by
    intro x1 x2 x3 n
    induction n with
    | zero => intro x4 g0 ex h; exact lp_z h
    | succ n ih =>
      intro x4 g0 ex h H locs ls hP hS hl K
      have h := lp_s h
      refine lv_aload_n X.1 X.2.1 dX12_figures_18 rfl (lv_at hl 0 rfl) ?_
      refine r_get (C := RX12) (T := TX12) (N := 28) (ci := 12) (v := .int (g0 11 0)) X iw12 hP 0 rfl rfl 11 rfl mw_7_131 rfl dX12_figures_19 ?_
      refine lv_aload_n X.1 X.2.1 dX12_figures_22 rfl (lv_at hl 0 rfl) ?_
      refine r_get (C := RX12) (T := TX12) (N := 28) (ci := 12) (v := .int (g0 10 0)) X iw12 hP 0 rfl rfl 10 rfl mw_7_130 rfl dX12_figures_23 ?_
      refine lv_icmp_ge (tgt := 89) X.1 X.2.1 dX12_figures_26 (by decide) (fun hc => ?_) (fun hc => ?_)
      · have h := it_t hc h
        exact K x4 g0 (Option.some.inj h) H locs ls hP hS (lv_sub hl [0, 1, 2, 3, 4] rfl)
      · have h := it_f hc h
        refine lv_aload_n X.1 X.2.1 dX12_figures_29 rfl (lv_at hl 0 rfl) ?_
        refine lv_aload_n X.1 X.2.1 dX12_figures_30 rfl (lv_at hl 0 rfl) ?_
        refine r_get (C := RX12) (T := TX12) (N := 28) (ci := 12) (v := .int (g0 11 0)) X iw12 hP 0 rfl rfl 11 rfl mw_7_131 rfl dX12_figures_31 ?_
        obtain ⟨r_2, hc_2, h⟩ := bd_el h
        refine call_V1i (As := [.int (g0 11 0)]) (rest := []) X (c_X12_byteAt l dC dI sk sv tc a0 g0 (g0 11 0) hc_2) mw_8_1 mw_8_3 mp_2_0 mw_1_12 mw_8_4 dc_X12_byteAt ⟨Nat.le_of_ble_eq_true rfl, Nat.le_of_ble_eq_true rfl⟩ rfl rfl ⟨Nat.zero_le _, Nat.zero_le _⟩ hP (hD _) hS 0 rfl rfl rfl hl.1 (Nat.le_of_ble_eq_true rfl) dX12_figures_34 (fun H locs hP hS => ?_)
        refine lv_bipush (v := 48) X.1 X.2.1 dX12_figures_37 (by decide) ?_
        refine lv_bipush (v := 57) X.1 X.2.1 dX12_figures_39 (by decide) ?_
        obtain ⟨r_3, hc_3, h⟩ := bd_el h
        refine call_S0i (As := [.int r_2, .int 48, .int 57]) (rest := []) X (c_X12_isIn l dC dI sk sv tc r_2 48 57 hc_3) mw_7_218 mw_7_219 mw_1_12 mw_7_220 dc_X12_isIn ⟨Nat.le_of_ble_eq_true rfl, Nat.le_of_ble_eq_true rfl⟩ rfl rfl ⟨Nat.zero_le _, Nat.zero_le _⟩ hP (hD _) hS hl.1 (Nat.le_of_ble_eq_true rfl) dX12_figures_41 (fun H locs hP hS => ?_)
        refine lv_if_eq (tgt := 89) X.1 X.2.1 dX12_figures_44 (by decide) (fun hc => ?_) (fun hc => ?_)
        · have h := it_t hc h
          exact K x4 g0 (Option.some.inj h) H locs ls hP hS (lv_sub hl [0, 1, 2, 3, 4] rfl)
        · have h := it_f hc h
          refine lv_aload_n X.1 X.2.1 dX12_figures_47 rfl (lv_at hl 0 rfl) ?_
          refine r_get (C := RX12) (T := TX12) (N := 28) (ci := 12) (v := .int (g0 11 0)) X iw12 hP 0 rfl rfl 11 rfl mw_7_131 rfl dX12_figures_48 ?_
          refine lv_iload_n X.1 X.2.1 dX12_figures_51 rfl (lv_at hl 3 rfl) ?_
          refine lv_isub X.1 X.2.1 dX12_figures_52 ?_
          refine lv_iconst (v := 3) X.1 X.2.1 dX12_figures_53 (by decide) ?_
          refine lv_icmp_gt (tgt := 89) X.1 X.2.1 dX12_figures_54 (by decide) (fun hc => ?_) (fun hc => ?_)
          · have h := it_t hc h
            exact K x4 g0 (Option.some.inj h) H locs ls hP hS (lv_sub hl [0, 1, 2, 3, 4] rfl)
          · have h := it_f hc h
            refine lv_bipush (v := 10) X.1 X.2.1 dX12_figures_57 (by decide) ?_
            refine lv_iload X.1 X.2.1 dX12_figures_59 (lv_at hl 4 rfl) ?_
            refine lv_imul X.1 X.2.1 dX12_figures_61 ?_
            refine lv_aload_n X.1 X.2.1 dX12_figures_62 rfl (lv_at hl 0 rfl) ?_
            refine lv_aload_n X.1 X.2.1 dX12_figures_63 rfl (lv_at hl 0 rfl) ?_
            refine r_get (C := RX12) (T := TX12) (N := 28) (ci := 12) (v := .int (g0 11 0)) X iw12 hP 0 rfl rfl 11 rfl mw_7_131 rfl dX12_figures_64 ?_
            obtain ⟨r_4, hc_4, h⟩ := bd_el h
            refine call_V1i (As := [.int (g0 11 0)]) (rest := [.int (10 * x4)]) X (c_X12_byteAt l dC dI sk sv tc a0 g0 (g0 11 0) hc_4) mw_8_1 mw_8_3 mp_2_0 mw_1_12 mw_8_4 dc_X12_byteAt ⟨Nat.le_of_ble_eq_true rfl, Nat.le_of_ble_eq_true rfl⟩ rfl rfl ⟨Nat.zero_le _, Nat.zero_le _⟩ hP (hD _) hS 0 rfl rfl rfl hl.1 (Nat.le_of_ble_eq_true rfl) dX12_figures_67 (fun H locs hP hS => ?_)
            refine lv_iadd X.1 X.2.1 dX12_figures_70 ?_
            refine lv_bipush (v := 48) X.1 X.2.1 dX12_figures_71 (by decide) ?_
            refine lv_isub X.1 X.2.1 dX12_figures_73 ?_
            obtain ⟨x4_5, ex4_5, h⟩ := nm_el h
            refine tp_i ex4_5 ?_
            refine lv_istore (lv' := [(4, .int x4_5), (0, .ref (a0 0)), (1, .int x1), (2, .int x2), (3, .int x3)]) X.1 X.2.1 dX12_figures_74 hl (by decide) rfl (fun ls hl => ?_)
            refine lv_aload_n X.1 X.2.1 dX12_figures_76 rfl (lv_at hl 1 rfl) ?_
            refine lv_dup X.1 X.2.1 dX12_figures_77 rfl ?_
            refine r_get (C := RX12) (T := TX12) (N := 28) (ci := 12) (v := .int (g0 11 0)) X iw12 hP 0 rfl rfl 11 rfl mw_7_131 rfl dX12_figures_78 ?_
            refine lv_iconst (v := 1) X.1 X.2.1 dX12_figures_81 (by decide) ?_
            refine lv_iadd X.1 X.2.1 dX12_figures_82 ?_
            obtain ⟨g0_6, eg0_6, h⟩ := nm_el h
            refine r_put (C := RX12) (T := TX12) (N := 28) (ci := 12) tyX12 tyX12_ok nmX12 X iw12 hP (hD _) hS 0 rfl rfl 11 rfl mw_7_131 rfl rfl rfl rfl dX12_figures_83 (wM tc a0 g0_6) (by rw [eg0_6]; rfl) (fun H locs hP hS => ?_)
            refine lv_goto (tgt := 18) X.1 X.2.1 dX12_figures_86 (by decide) ?_
            exact ih x4_5 g0_6 ex h H locs ls hP hS (lv_sub hl [1, 2, 3, 4, 0] rfl) K
  unfold f_X12_figures at h
  refine lv_aload_n X.1 X.2.1 dX12_figures_0 rfl (lv_at hl 0 rfl) ?_
  refine r_get (C := RX12) (T := TX12) (N := 28) (ci := 12) (v := .int (g0 12 0)) X iw12 hP 0 rfl rfl 12 rfl mw_7_132 rfl dX12_figures_1 ?_
  refine lv_iconst (v := (-1)) X.1 X.2.1 dX12_figures_4 (by decide) ?_
  refine lv_icmp_eq (tgt := 10) X.1 X.2.1 dX12_figures_5 (by decide) (fun hc => ?_) (fun hc => ?_)
  · have h := it_t hc h
    refine lv_aload_n X.1 X.2.1 dX12_figures_10 rfl (lv_at hl 0 rfl) ?_
    obtain ⟨r_1, g0_1, hc_1, h⟩ := bd2_el h
    refine call_V1i (As := []) (rest := []) X (c_X12_here l dC dI sk sv tc a0 g0 hc_1) mw_8_26 mw_8_28 mp_2_5 mw_1_12 mw_8_29 dc_X12_here ⟨Nat.le_of_ble_eq_true rfl, Nat.le_of_ble_eq_true rfl⟩ rfl rfl ⟨Nat.zero_le _, Nat.zero_le _⟩ hP (hD _) hS 0 rfl rfl rfl hl.1 (Nat.le_of_ble_eq_true rfl) dX12_figures_11 (fun H locs hP hS => ?_)
    refine lv_istore_n (lv' := [(3, .int r_1), (0, .ref (a0 0)), (1, .int x1), (2, .int x2)]) X.1 X.2.1 dX12_figures_14 rfl hl (by decide) rfl (fun ls hl => ?_)
    refine lv_iconst (v := 0) X.1 X.2.1 dX12_figures_15 (by decide) ?_
    refine lv_istore (lv' := [(4, .int 0), (3, .int r_1), (0, .ref (a0 0)), (1, .int x1), (2, .int x2)]) X.1 X.2.1 dX12_figures_16 hl (by decide) rfl (fun ls hl => ?_)
    obtain ⟨ex_7, hL_7, h⟩ := bd_el h
    refine HL18 x1 x2 r_1 fu 0 g0_1 ex_7 hL_7 H locs ls hP hS (lv_sub hl [2, 3, 4, 1, 0] rfl) (fun x4_7 g0_7 he H locs ls hP hS hl => ?_)
    subst he
    refine lv_aload_n X.1 X.2.1 dX12_figures_89 rfl (lv_at hl 0 rfl) ?_
    refine r_get (C := RX12) (T := TX12) (N := 28) (ci := 12) (v := .int (g0_7 11 0)) X iw12 hP 0 rfl rfl 11 rfl mw_7_131 rfl dX12_figures_90 ?_
    refine lv_iload_n X.1 X.2.1 dX12_figures_93 rfl (lv_at hl 3 rfl) ?_
    obtain ⟨J124, eJ124, h⟩ := jn_el h
    have HJ124 : ∀ (g0_J124 : Pic) (H : Heap) (locs : List Loc) (ls : Array Slot), J124 g0_J124 = some (r0, G0) → va_P (dC, dI) vwCl (wM tc a0 g0_J124) H → va_S A s.heap H locs → lv_has ls 5 [(4, .int x4_7)] → W pr l e rm_X12_figures s m args below meth c H locs 0 0 Q (F0 m 124 ls []) := by
      intro g0_J124 H locs ls h hP hS hl
      rw [eJ124] at h
      refine lv_iload X.1 X.2.1 dX12_figures_124 (lv_at hl 0 rfl) ?_
      exact ret_i (fun u => (wM tc a0 u)) (res := (r0, G0)) (Option.some.inj h) X hQ hP hS dX12_figures_126
    obtain ⟨J119, eJ119, h⟩ := jn_el h
    have HJ119 : ∀ (_ : Unit) (H : Heap) (locs : List Loc) (ls : Array Slot), J119 () = some (r0, G0) → va_P (dC, dI) vwCl (wM tc a0 g0_7) H → va_S A s.heap H locs → lv_has ls 5 [(0, .ref (a0 0)), (3, .int r_1), (4, .int x4_7)] → W pr l e rm_X12_figures s m args below meth c H locs 0 0 Q (F0 m 119 ls []) := by
      intro _ H locs ls h hP hS hl
      rw [eJ119] at h
      refine lv_aload_n X.1 X.2.1 dX12_figures_119 rfl (lv_at hl 0 rfl) ?_
      refine lv_iload_n X.1 X.2.1 dX12_figures_120 rfl (lv_at hl 1 rfl) ?_
      obtain ⟨g0_8, hc_8, h⟩ := bd_el h
      refine call_V1v (As := [.int r_1]) (rest := []) X (c_X12_wrong l dC dI sk sv tc a0 g0_7 r_1 hc_8) mw_8_5 mw_8_7 mp_2_1 mw_1_12 mw_8_8 dc_X12_wrong ⟨Nat.le_of_ble_eq_true rfl, Nat.le_of_ble_eq_true rfl⟩ rfl rfl ⟨Nat.zero_le _, Nat.zero_le _⟩ hP (hD _) hS 0 rfl rfl rfl hl.1 (Nat.le_of_ble_eq_true rfl) dX12_figures_121 (fun H locs hP hS => ?_)
      exact HJ124 g0_8 H locs ls h hP hS (lv_sub hl [2] rfl)
    refine lv_icmp_eq (tgt := 119) X.1 X.2.1 dX12_figures_94 (by decide) (fun hc => ?_) (fun hc => ?_)
    · have h := it_t hc h
      exact HJ119 () H locs ls h hP hS (lv_sub hl [0, 3, 4] rfl)
    · have h := it_f hc h
      refine lv_aload_n X.1 X.2.1 dX12_figures_97 rfl (lv_at hl 0 rfl) ?_
      refine r_get (C := RX12) (T := TX12) (N := 28) (ci := 12) (v := .int (g0_7 11 0)) X iw12 hP 0 rfl rfl 11 rfl mw_7_131 rfl dX12_figures_98 ?_
      refine lv_iload_n X.1 X.2.1 dX12_figures_101 rfl (lv_at hl 3 rfl) ?_
      refine lv_isub X.1 X.2.1 dX12_figures_102 ?_
      refine lv_iconst (v := 3) X.1 X.2.1 dX12_figures_103 (by decide) ?_
      refine lv_icmp_gt (tgt := 119) X.1 X.2.1 dX12_figures_104 (by decide) (fun hc => ?_) (fun hc => ?_)
      · have h := it_t hc h
        exact HJ119 () H locs ls h hP hS (lv_sub hl [0, 3, 4] rfl)
      · have h := it_f hc h
        refine lv_iload X.1 X.2.1 dX12_figures_107 (lv_at hl 4 rfl) ?_
        refine lv_iload_n X.1 X.2.1 dX12_figures_109 rfl (lv_at hl 1 rfl) ?_
        refine lv_icmp_lt (tgt := 119) X.1 X.2.1 dX12_figures_110 (by decide) (fun hc => ?_) (fun hc => ?_)
        · have h := it_t hc h
          exact HJ119 () H locs ls h hP hS (lv_sub hl [0, 3, 4] rfl)
        · have h := it_f hc h
          refine lv_iload X.1 X.2.1 dX12_figures_113 (lv_at hl 4 rfl) ?_
          refine lv_iload_n X.1 X.2.1 dX12_figures_115 rfl (lv_at hl 2 rfl) ?_
          refine lv_icmp_le (tgt := 124) X.1 X.2.1 dX12_figures_116 (by decide) (fun hc => ?_) (fun hc => ?_)
          · have h := it_t hc h
            exact HJ124 g0_7 H locs ls h hP hS (lv_sub hl [4] rfl)
          · have h := it_f hc h
            exact HJ119 () H locs ls h hP hS (lv_sub hl [0, 3, 4] rfl)
  · have h := it_f hc h
    refine lv_iconst (v := 0) X.1 X.2.1 dX12_figures_8 (by decide) ?_
    exact ret_i (fun u => (wM tc a0 u)) (res := (r0, G0)) (Option.some.inj h) X hQ hP hS dX12_figures_9

def f_X12_wordLong_L2 (x1 : Int32) (g0 : Pic) (n : Nat) (a : Int32) : Option (Int32) := lp (fun (rec : Int32 → Option (Int32)) (a : Int32) => (fun (x2 : Int32) => (if (g0 10 0) ≤ (x1 + x2) then some x2 else bd (f_X12_byteAt g0 (x1 + x2)) (fun r_1 => bd (f_X12_isIn r_1 97 122) (fun r_2 => (if r_2 = 0 then some x2 else nm (x2 + 1) (fun x2_3 => rec x2_3)))))) a) n a
def f_X12_wordLong (g0 : Pic) (x1 : Int32) : Option (Int32) := bd (f_X12_wordLong_L2 x1 g0 fu 0) (fun x2_4 => some x2_4)
abbrev rm_X12_wordLong : Room := { frames := 1, cells := 0, slots := 0, locals := 22 }
set_option maxHeartbeats 4000000 in
set_option maxRecDepth 100000 in
theorem c_X12_wordLong (l : Launch) (dC : Nat → ClassId) (dI : Nat → Nat → Nat) (sk sv : Nat → Nat) (tc : Nat → ClassId) (a0 : Nat → Nat) (g0 : Pic) (x1 : Int32) {r0 : Int32} (h : f_X12_wordLong g0 x1 = some r0) : CT l (dC, dI) sk sv (TY tc) yX12_wordLong cX12_wordLong 3 (some .int) rm_X12_wordLong [.ref (a0 0), .int x1] (wM tc a0 g0) (some (.int r0)) (wM tc a0 g0) := by
  refine ofCT (by decide) (Nat.le_of_ble_eq_true rfl) ?_
  intro pr e s m args below meth c A Q ls H locs X hQ hD0 hP hS hl
  have hD : ∀ z0, va_D A (wM tc a0 z0) := fun z0 => D_fst (ws := (wM tc a0 g0)) rfl hD0
  have hl : lv_has ls 3 [(0, .ref (a0 0)), (1, .int x1)] := hl
  have HL2 : ∀ (x1 : Int32) (n : Nat) (x2 : Int32) (ex : (Int32)), f_X12_wordLong_L2 x1 g0 n x2 = some ex → ∀ (H : Heap) (locs : List Loc) (ls : Array Slot), va_P (dC, dI) vwCl (wM tc a0 g0) H → va_S A s.heap H locs → lv_has ls 3 [(0, .ref (a0 0)), (1, .int x1), (2, .int x2)] → (∀ (y2 : Int32), y2 = ex → ∀ (H : Heap) (locs : List Loc) (ls : Array Slot), va_P (dC, dI) vwCl (wM tc a0 g0) H → va_S A s.heap H locs → lv_has ls 3 [(2, .int y2)] → W pr l e rm_X12_wordLong s m args below meth c H locs 0 0 Q (F0 m 35 ls [])) → W pr l e rm_X12_wordLong s m args below meth c H locs 0 0 Q (F0 m 2 ls []) := by
    intro x1 n
    induction n with
    | zero => intro x2 ex h; exact lp_z h
    | succ n ih =>
      intro x2 ex h H locs ls hP hS hl K
      have h := lp_s h
      refine lv_iload_n X.1 X.2.1 dX12_wordLong_2 rfl (lv_at hl 1 rfl) ?_
      refine lv_iload_n X.1 X.2.1 dX12_wordLong_3 rfl (lv_at hl 2 rfl) ?_
      refine lv_iadd X.1 X.2.1 dX12_wordLong_4 ?_
      refine lv_aload_n X.1 X.2.1 dX12_wordLong_5 rfl (lv_at hl 0 rfl) ?_
      refine r_get (C := RX12) (T := TX12) (N := 28) (ci := 12) (v := .int (g0 10 0)) X iw12 hP 0 rfl rfl 10 rfl mw_7_130 rfl dX12_wordLong_6 ?_
      refine lv_icmp_ge (tgt := 35) X.1 X.2.1 dX12_wordLong_9 (by decide) (fun hc => ?_) (fun hc => ?_)
      · have h := it_t hc h
        exact K x2 (Option.some.inj h) H locs ls hP hS (lv_sub hl [2] rfl)
      · have h := it_f hc h
        refine lv_aload_n X.1 X.2.1 dX12_wordLong_12 rfl (lv_at hl 0 rfl) ?_
        refine lv_iload_n X.1 X.2.1 dX12_wordLong_13 rfl (lv_at hl 1 rfl) ?_
        refine lv_iload_n X.1 X.2.1 dX12_wordLong_14 rfl (lv_at hl 2 rfl) ?_
        refine lv_iadd X.1 X.2.1 dX12_wordLong_15 ?_
        obtain ⟨r_1, hc_1, h⟩ := bd_el h
        refine call_V1i (As := [.int (x1 + x2)]) (rest := []) X (c_X12_byteAt l dC dI sk sv tc a0 g0 (x1 + x2) hc_1) mw_8_1 mw_8_3 mp_2_0 mw_1_12 mw_8_4 dc_X12_byteAt ⟨Nat.le_of_ble_eq_true rfl, Nat.le_of_ble_eq_true rfl⟩ rfl rfl ⟨Nat.zero_le _, Nat.zero_le _⟩ hP (hD _) hS 0 rfl rfl rfl hl.1 (Nat.le_of_ble_eq_true rfl) dX12_wordLong_16 (fun H locs hP hS => ?_)
        refine lv_bipush (v := 97) X.1 X.2.1 dX12_wordLong_19 (by decide) ?_
        refine lv_bipush (v := 122) X.1 X.2.1 dX12_wordLong_21 (by decide) ?_
        obtain ⟨r_2, hc_2, h⟩ := bd_el h
        refine call_S0i (As := [.int r_1, .int 97, .int 122]) (rest := []) X (c_X12_isIn l dC dI sk sv tc r_1 97 122 hc_2) mw_7_218 mw_7_219 mw_1_12 mw_7_220 dc_X12_isIn ⟨Nat.le_of_ble_eq_true rfl, Nat.le_of_ble_eq_true rfl⟩ rfl rfl ⟨Nat.zero_le _, Nat.zero_le _⟩ hP (hD _) hS hl.1 (Nat.le_of_ble_eq_true rfl) dX12_wordLong_23 (fun H locs hP hS => ?_)
        refine lv_if_eq (tgt := 35) X.1 X.2.1 dX12_wordLong_26 (by decide) (fun hc => ?_) (fun hc => ?_)
        · have h := it_t hc h
          exact K x2 (Option.some.inj h) H locs ls hP hS (lv_sub hl [2] rfl)
        · have h := it_f hc h
          obtain ⟨x2_3, ex2_3, h⟩ := nm_el h
          refine lv_iinc (v := x2_3) (lv' := [(2, .int x2_3), (0, .ref (a0 0)), (1, .int x1)]) X.1 X.2.1 dX12_wordLong_29 hl (k := 2) rfl (by rw [ex2_3]; rfl) (by decide) rfl (fun ls hl => ?_)
          refine lv_goto (tgt := 2) X.1 X.2.1 dX12_wordLong_32 (by decide) ?_
          exact ih x2_3 ex h H locs ls hP hS (lv_sub hl [1, 2, 0] rfl) K
  unfold f_X12_wordLong at h
  refine lv_iconst (v := 0) X.1 X.2.1 dX12_wordLong_0 (by decide) ?_
  refine lv_istore_n (lv' := [(2, .int 0), (0, .ref (a0 0)), (1, .int x1)]) X.1 X.2.1 dX12_wordLong_1 rfl hl (by decide) rfl (fun ls hl => ?_)
  obtain ⟨ex_4, hL_4, h⟩ := bd_el h
  refine HL2 x1 fu 0 ex_4 hL_4 H locs ls hP hS (lv_sub hl [1, 2, 0] rfl) (fun x2_4 he H locs ls hP hS hl => ?_)
  subst he
  refine lv_iload_n X.1 X.2.1 dX12_wordLong_35 rfl (lv_at hl 0 rfl) ?_
  exact ret_i0 (Option.some.inj h) X hQ hP hS dX12_wordLong_36

def f_X12_areLetters_L13 (x1 : Int32) (x2 : Int32) (g0 : Pic) (n : Nat) (a : Int32 × Int32) : Option (Int32) := lp (fun (rec : Int32 × Int32 → Option (Int32)) (a : Int32 × Int32) => match a with | (x3, x4) => (if x2 ≤ x4 then some x3 else jn (fun (s0_J41 : Int32) => nm (x4 + 1) (fun x4_1 => rec (s0_J41, x4_1))) (fun J41 => jn (fun (_ : Unit) => J41 0) (fun J40 => (if x3 = 0 then J40 () else bd (f_X12_byteAt g0 (x1 + x4)) (fun r_2 => (if 104 < r_2 then J40 () else J41 1))))))) n a
def f_X12_areLetters (g0 : Pic) (x1 : Int32) (x2 : Int32) : Option (Int32) := jn (fun (s0_J9 : Int32) => bd (f_X12_areLetters_L13 x1 x2 g0 fu (s0_J9, 0)) (fun x3_3 => gdb x3_3 (some x3_3))) (fun J9 => (if x2 ≤ 0 then J9 0 else J9 1))
abbrev rm_X12_areLetters : Room := { frames := 1, cells := 0, slots := 0, locals := 21 }
set_option maxHeartbeats 4000000 in
set_option maxRecDepth 100000 in
theorem c_X12_areLetters (l : Launch) (dC : Nat → ClassId) (dI : Nat → Nat → Nat) (sk sv : Nat → Nat) (tc : Nat → ClassId) (a0 : Nat → Nat) (g0 : Pic) (x1 : Int32) (x2 : Int32) {r0 : Int32} (h : f_X12_areLetters g0 x1 x2 = some r0) : CT l (dC, dI) sk sv (TY tc) yX12_areLetters cX12_areLetters 5 (some .boolean) rm_X12_areLetters [.ref (a0 0), .int x1, .int x2] (wM tc a0 g0) (some (.int r0)) (wM tc a0 g0) := by
  refine ofCT (by decide) (Nat.le_of_ble_eq_true rfl) ?_
  intro pr e s m args below meth c A Q ls H locs X hQ hD0 hP hS hl
  have hD : ∀ z0, va_D A (wM tc a0 z0) := fun z0 => D_fst (ws := (wM tc a0 g0)) rfl hD0
  have hl : lv_has ls 5 [(0, .ref (a0 0)), (1, .int x1), (2, .int x2)] := hl
  have HL13 : ∀ (x1 : Int32) (x2 : Int32) (n : Nat) (x3 : Int32) (x4 : Int32) (ex : (Int32)), f_X12_areLetters_L13 x1 x2 g0 n (x3, x4) = some ex → ∀ (H : Heap) (locs : List Loc) (ls : Array Slot), va_P (dC, dI) vwCl (wM tc a0 g0) H → va_S A s.heap H locs → lv_has ls 5 [(0, .ref (a0 0)), (1, .int x1), (2, .int x2), (3, .int x3), (4, .int x4)] → (∀ (y3 : Int32), y3 = ex → ∀ (H : Heap) (locs : List Loc) (ls : Array Slot), va_P (dC, dI) vwCl (wM tc a0 g0) H → va_S A s.heap H locs → lv_has ls 5 [(3, .int y3)] → W pr l e rm_X12_areLetters s m args below meth c H locs 0 0 Q (F0 m 48 ls [])) → W pr l e rm_X12_areLetters s m args below meth c H locs 0 0 Q (F0 m 13 ls []) := by
    intro x1 x2 n
    induction n with
    | zero => intro x3 x4 ex h; exact lp_z h
    | succ n ih =>
      intro x3 x4 ex h H locs ls hP hS hl K
      have h := lp_s h
      refine lv_iload X.1 X.2.1 dX12_areLetters_13 (lv_at hl 4 rfl) ?_
      refine lv_iload_n X.1 X.2.1 dX12_areLetters_15 rfl (lv_at hl 2 rfl) ?_
      refine lv_icmp_ge (tgt := 48) X.1 X.2.1 dX12_areLetters_16 (by decide) (fun hc => ?_) (fun hc => ?_)
      · have h := it_t hc h
        exact K x3 (Option.some.inj h) H locs ls hP hS (lv_sub hl [3] rfl)
      · have h := it_f hc h
        refine lv_iload_n X.1 X.2.1 dX12_areLetters_19 rfl (lv_at hl 3 rfl) ?_
        obtain ⟨J41, eJ41, h⟩ := jn_el h
        have HJ41 : ∀ (s0_J41 : Int32) (H : Heap) (locs : List Loc) (ls : Array Slot), J41 s0_J41 = some ex → va_P (dC, dI) vwCl (wM tc a0 g0) H → va_S A s.heap H locs → lv_has ls 5 [(0, .ref (a0 0)), (1, .int x1), (2, .int x2), (4, .int x4)] → W pr l e rm_X12_areLetters s m args below meth c H locs 0 0 Q (F0 m 41 ls [.int s0_J41]) := by
          intro s0_J41 H locs ls h hP hS hl
          rw [eJ41] at h
          refine lv_istore_n (lv' := [(3, .int s0_J41), (0, .ref (a0 0)), (1, .int x1), (2, .int x2), (4, .int x4)]) X.1 X.2.1 dX12_areLetters_41 rfl hl (by decide) rfl (fun ls hl => ?_)
          obtain ⟨x4_1, ex4_1, h⟩ := nm_el h
          refine lv_iinc (v := x4_1) (lv' := [(4, .int x4_1), (3, .int s0_J41), (0, .ref (a0 0)), (1, .int x1), (2, .int x2)]) X.1 X.2.1 dX12_areLetters_42 hl (k := 4) rfl (by rw [ex4_1]; rfl) (by decide) rfl (fun ls hl => ?_)
          refine lv_goto (tgt := 13) X.1 X.2.1 dX12_areLetters_45 (by decide) ?_
          exact ih s0_J41 x4_1 ex h H locs ls hP hS (lv_sub hl [2, 3, 4, 1, 0] rfl) K
        obtain ⟨J40, eJ40, h⟩ := jn_el h
        have HJ40 : ∀ (_ : Unit) (H : Heap) (locs : List Loc) (ls : Array Slot), J40 () = some ex → va_P (dC, dI) vwCl (wM tc a0 g0) H → va_S A s.heap H locs → lv_has ls 5 [(0, .ref (a0 0)), (1, .int x1), (2, .int x2), (4, .int x4)] → W pr l e rm_X12_areLetters s m args below meth c H locs 0 0 Q (F0 m 40 ls []) := by
          intro _ H locs ls h hP hS hl
          rw [eJ40] at h
          refine lv_iconst (v := 0) X.1 X.2.1 dX12_areLetters_40 (by decide) ?_
          exact HJ41 0 H locs ls h hP hS (lv_sub hl [0, 1, 2, 3] rfl)
        refine lv_if_eq (tgt := 40) X.1 X.2.1 dX12_areLetters_20 (by decide) (fun hc => ?_) (fun hc => ?_)
        · have h := it_t hc h
          exact HJ40 () H locs ls h hP hS (lv_sub hl [0, 1, 2, 4] rfl)
        · have h := it_f hc h
          refine lv_aload_n X.1 X.2.1 dX12_areLetters_23 rfl (lv_at hl 0 rfl) ?_
          refine lv_iload_n X.1 X.2.1 dX12_areLetters_24 rfl (lv_at hl 1 rfl) ?_
          refine lv_iload X.1 X.2.1 dX12_areLetters_25 (lv_at hl 4 rfl) ?_
          refine lv_iadd X.1 X.2.1 dX12_areLetters_27 ?_
          obtain ⟨r_2, hc_2, h⟩ := bd_el h
          refine call_V1i (As := [.int (x1 + x4)]) (rest := []) X (c_X12_byteAt l dC dI sk sv tc a0 g0 (x1 + x4) hc_2) mw_8_1 mw_8_3 mp_2_0 mw_1_12 mw_8_4 dc_X12_byteAt ⟨Nat.le_of_ble_eq_true rfl, Nat.le_of_ble_eq_true rfl⟩ rfl rfl ⟨Nat.zero_le _, Nat.zero_le _⟩ hP (hD _) hS 0 rfl rfl rfl hl.1 (Nat.le_of_ble_eq_true rfl) dX12_areLetters_28 (fun H locs hP hS => ?_)
          refine lv_bipush (v := 104) X.1 X.2.1 dX12_areLetters_31 (by decide) ?_
          refine lv_icmp_gt (tgt := 40) X.1 X.2.1 dX12_areLetters_33 (by decide) (fun hc => ?_) (fun hc => ?_)
          · have h := it_t hc h
            exact HJ40 () H locs ls h hP hS (lv_sub hl [0, 1, 2, 4] rfl)
          · have h := it_f hc h
            refine lv_iconst (v := 1) X.1 X.2.1 dX12_areLetters_36 (by decide) ?_
            refine lv_goto (tgt := 41) X.1 X.2.1 dX12_areLetters_37 (by decide) ?_
            exact HJ41 1 H locs ls h hP hS (lv_sub hl [0, 1, 2, 4] rfl)
  unfold f_X12_areLetters at h
  refine lv_iload_n X.1 X.2.1 dX12_areLetters_0 rfl (lv_at hl 2 rfl) ?_
  obtain ⟨J9, eJ9, h⟩ := jn_el h
  have HJ9 : ∀ (s0_J9 : Int32) (H : Heap) (locs : List Loc) (ls : Array Slot), J9 s0_J9 = some r0 → va_P (dC, dI) vwCl (wM tc a0 g0) H → va_S A s.heap H locs → lv_has ls 5 [(0, .ref (a0 0)), (1, .int x1), (2, .int x2)] → W pr l e rm_X12_areLetters s m args below meth c H locs 0 0 Q (F0 m 9 ls [.int s0_J9]) := by
    intro s0_J9 H locs ls h hP hS hl
    rw [eJ9] at h
    refine lv_istore_n (lv' := [(3, .int s0_J9), (0, .ref (a0 0)), (1, .int x1), (2, .int x2)]) X.1 X.2.1 dX12_areLetters_9 rfl hl (by decide) rfl (fun ls hl => ?_)
    refine lv_iconst (v := 0) X.1 X.2.1 dX12_areLetters_10 (by decide) ?_
    refine lv_istore (lv' := [(4, .int 0), (3, .int s0_J9), (0, .ref (a0 0)), (1, .int x1), (2, .int x2)]) X.1 X.2.1 dX12_areLetters_11 hl (by decide) rfl (fun ls hl => ?_)
    obtain ⟨ex_3, hL_3, h⟩ := bd_el h
    refine HL13 x1 x2 fu s0_J9 0 ex_3 hL_3 H locs ls hP hS (lv_sub hl [2, 3, 4, 1, 0] rfl) (fun x3_3 he H locs ls hP hS hl => ?_)
    subst he
    refine lv_iload_n X.1 X.2.1 dX12_areLetters_48 rfl (lv_at hl 0 rfl) ?_
    obtain ⟨hg_4, h⟩ := gdb_el h
    exact ret_z0 hg_4 (Option.some.inj h) X hQ hP hS dX12_areLetters_49
  refine lv_if_le (tgt := 8) X.1 X.2.1 dX12_areLetters_1 (by decide) (fun hc => ?_) (fun hc => ?_)
  · have h := it_t hc h
    refine lv_iconst (v := 0) X.1 X.2.1 dX12_areLetters_8 (by decide) ?_
    exact HJ9 0 H locs ls h hP hS (lv_sub hl [0, 1, 2] rfl)
  · have h := it_f hc h
    refine lv_iconst (v := 1) X.1 X.2.1 dX12_areLetters_4 (by decide) ?_
    refine lv_goto (tgt := 9) X.1 X.2.1 dX12_areLetters_5 (by decide) ?_
    exact HJ9 1 H locs ls h hP hS (lv_sub hl [0, 1, 2] rfl)

def f_X12_letterSet_L34 (x1 : Int32) (x2 : Int32) (g0 : Pic) (n : Nat) (a : Int32 × Int32 × Int32) : Option (Int32 × Int32) := lp (fun (rec : Int32 × Int32 × Int32 → Option (Int32 × Int32)) (a : Int32 × Int32 × Int32) => match a with | (x3, x4, x5) => (if x2 ≤ x5 then some (x3, x4) else (if x3 = 0 then some (x3, x4) else bd (f_X12_byteAt g0 (x1 + x5)) (fun r_4 => nm ((1 <<< ((r_4 - 97) &&& 31))) (fun x6_5 => jn (fun (s0_J72 : Int32) => nm ((x4 ||| x6_5)) (fun x4_6 => nm (x5 + 1) (fun x5_7 => rec (s0_J72, x4_6, x5_7)))) (fun J72 => (if (x4 &&& x6_5) = 0 then J72 1 else J72 0))))))) n a
def f_X12_letterSet (g0 : Pic) : Option (Int32 × Pic) := (if (g0 12 0) = (-1) then bd2 (f_X12_here g0) (fun r_1 g0_1 => bd (f_X12_wordLong g0_1 r_1) (fun r_2 => bd (f_X12_areLetters g0_1 r_1 r_2) (fun r_3 => bd (f_X12_letterSet_L34 r_1 r_2 g0_1 fu (r_3, 0, 0)) (fun (x3_8, x4_8) => (if x3_8 = 0 then bd (f_X12_wrong g0_1 r_1) (fun g0_10 => some (0, g0_10)) else nm (pu g0_1 11 0 (r_1 + r_2)) (fun g0_9 => some (x4_8, g0_9))))))) else some (0, g0))
abbrev rm_X12_letterSet : Room := { frames := 3, cells := 0, slots := 0, locals := 61 }
set_option maxHeartbeats 4000000 in
set_option maxRecDepth 100000 in
theorem c_X12_letterSet (l : Launch) (dC : Nat → ClassId) (dI : Nat → Nat → Nat) (sk sv : Nat → Nat) (tc : Nat → ClassId) (a0 : Nat → Nat) (g0 : Pic) {r0 : Int32} {G0 : Pic} (h : f_X12_letterSet g0 = some (r0, G0)) : CT l (dC, dI) sk sv (TY tc) yX12_letterSet cX12_letterSet 7 (some .int) rm_X12_letterSet [.ref (a0 0)] (wM tc a0 g0) (some (.int r0)) (wM tc a0 G0) := by
  refine ofCT (by decide) (Nat.le_of_ble_eq_true rfl) ?_
  intro pr e s m args below meth c A Q ls H locs X hQ hD0 hP hS hl
  have hD : ∀ z0, va_D A (wM tc a0 z0) := fun z0 => D_fst (ws := (wM tc a0 g0)) rfl hD0
  have hl : lv_has ls 7 [(0, .ref (a0 0))] := hl
  have HL34 : ∀ (x1 : Int32) (x2 : Int32) (g0 : Pic) (n : Nat) (x3 : Int32) (x4 : Int32) (x5 : Int32) (ex : (Int32 × Int32)), f_X12_letterSet_L34 x1 x2 g0 n (x3, x4, x5) = some ex → ∀ (H : Heap) (locs : List Loc) (ls : Array Slot), va_P (dC, dI) vwCl (wM tc a0 g0) H → va_S A s.heap H locs → lv_has ls 7 [(0, .ref (a0 0)), (1, .int x1), (2, .int x2), (3, .int x3), (4, .int x4), (5, .int x5)] → (∀ (y3 : Int32) (y4 : Int32), (y3, y4) = ex → ∀ (H : Heap) (locs : List Loc) (ls : Array Slot), va_P (dC, dI) vwCl (wM tc a0 g0) H → va_S A s.heap H locs → lv_has ls 7 [(0, .ref (a0 0)), (1, .int x1), (2, .int x2), (3, .int y3), (4, .int y4)] → W pr l e rm_X12_letterSet s m args below meth c H locs 0 0 Q (F0 m 86 ls [])) → W pr l e rm_X12_letterSet s m args below meth c H locs 0 0 Q (F0 m 34 ls []) := by
    intro x1 x2 g0 n
    induction n with
    | zero => intro x3 x4 x5 ex h; exact lp_z h
    | succ n ih =>
      intro x3 x4 x5 ex h H locs ls hP hS hl K
      have h := lp_s h
      refine lv_iload X.1 X.2.1 dX12_letterSet_34 (lv_at hl 5 rfl) ?_
      refine lv_iload_n X.1 X.2.1 dX12_letterSet_36 rfl (lv_at hl 2 rfl) ?_
      refine lv_icmp_ge (tgt := 86) X.1 X.2.1 dX12_letterSet_37 (by decide) (fun hc => ?_) (fun hc => ?_)
      · have h := it_t hc h
        exact K x3 x4 (Option.some.inj h) H locs ls hP hS (lv_sub hl [0, 1, 2, 3, 4] rfl)
      · have h := it_f hc h
        refine lv_iload_n X.1 X.2.1 dX12_letterSet_40 rfl (lv_at hl 3 rfl) ?_
        refine lv_if_eq (tgt := 86) X.1 X.2.1 dX12_letterSet_41 (by decide) (fun hc => ?_) (fun hc => ?_)
        · have h := it_t hc h
          exact K x3 x4 (Option.some.inj h) H locs ls hP hS (lv_sub hl [0, 1, 2, 3, 4] rfl)
        · have h := it_f hc h
          refine lv_iconst (v := 1) X.1 X.2.1 dX12_letterSet_44 (by decide) ?_
          refine lv_aload_n X.1 X.2.1 dX12_letterSet_45 rfl (lv_at hl 0 rfl) ?_
          refine lv_iload_n X.1 X.2.1 dX12_letterSet_46 rfl (lv_at hl 1 rfl) ?_
          refine lv_iload X.1 X.2.1 dX12_letterSet_47 (lv_at hl 5 rfl) ?_
          refine lv_iadd X.1 X.2.1 dX12_letterSet_49 ?_
          obtain ⟨r_4, hc_4, h⟩ := bd_el h
          refine call_V1i (As := [.int (x1 + x5)]) (rest := [.int 1]) X (c_X12_byteAt l dC dI sk sv tc a0 g0 (x1 + x5) hc_4) mw_8_1 mw_8_3 mp_2_0 mw_1_12 mw_8_4 dc_X12_byteAt ⟨Nat.le_of_ble_eq_true rfl, Nat.le_of_ble_eq_true rfl⟩ rfl rfl ⟨Nat.zero_le _, Nat.zero_le _⟩ hP (hD _) hS 0 rfl rfl rfl hl.1 (Nat.le_of_ble_eq_true rfl) dX12_letterSet_50 (fun H locs hP hS => ?_)
          refine lv_bipush (v := 97) X.1 X.2.1 dX12_letterSet_53 (by decide) ?_
          refine lv_isub X.1 X.2.1 dX12_letterSet_55 ?_
          refine lv_ishl X.1 X.2.1 dX12_letterSet_56 ?_
          obtain ⟨x6_5, ex6_5, h⟩ := nm_el h
          refine tp_i ex6_5 ?_
          refine lv_istore (lv' := [(6, .int x6_5), (0, .ref (a0 0)), (1, .int x1), (2, .int x2), (3, .int x3), (4, .int x4), (5, .int x5)]) X.1 X.2.1 dX12_letterSet_57 hl (by decide) rfl (fun ls hl => ?_)
          refine lv_iload X.1 X.2.1 dX12_letterSet_59 (lv_at hl 5 rfl) ?_
          refine lv_iload X.1 X.2.1 dX12_letterSet_61 (lv_at hl 0 rfl) ?_
          refine lv_iand X.1 X.2.1 dX12_letterSet_63 ?_
          obtain ⟨J72, eJ72, h⟩ := jn_el h
          have HJ72 : ∀ (s0_J72 : Int32) (H : Heap) (locs : List Loc) (ls : Array Slot), J72 s0_J72 = some ex → va_P (dC, dI) vwCl (wM tc a0 g0) H → va_S A s.heap H locs → lv_has ls 7 [(0, .ref (a0 0)), (1, .int x1), (2, .int x2), (4, .int x4), (5, .int x5), (6, .int x6_5)] → W pr l e rm_X12_letterSet s m args below meth c H locs 0 0 Q (F0 m 72 ls [.int s0_J72]) := by
            intro s0_J72 H locs ls h hP hS hl
            rw [eJ72] at h
            refine lv_istore_n (lv' := [(3, .int s0_J72), (0, .ref (a0 0)), (1, .int x1), (2, .int x2), (4, .int x4), (5, .int x5), (6, .int x6_5)]) X.1 X.2.1 dX12_letterSet_72 rfl hl (by decide) rfl (fun ls hl => ?_)
            refine lv_iload X.1 X.2.1 dX12_letterSet_73 (lv_at hl 4 rfl) ?_
            refine lv_iload X.1 X.2.1 dX12_letterSet_75 (lv_at hl 6 rfl) ?_
            refine lv_ior X.1 X.2.1 dX12_letterSet_77 ?_
            obtain ⟨x4_6, ex4_6, h⟩ := nm_el h
            refine tp_i ex4_6 ?_
            refine lv_istore (lv' := [(4, .int x4_6), (3, .int s0_J72), (0, .ref (a0 0)), (1, .int x1), (2, .int x2), (5, .int x5), (6, .int x6_5)]) X.1 X.2.1 dX12_letterSet_78 hl (by decide) rfl (fun ls hl => ?_)
            obtain ⟨x5_7, ex5_7, h⟩ := nm_el h
            refine lv_iinc (v := x5_7) (lv' := [(5, .int x5_7), (4, .int x4_6), (3, .int s0_J72), (0, .ref (a0 0)), (1, .int x1), (2, .int x2), (6, .int x6_5)]) X.1 X.2.1 dX12_letterSet_80 hl (k := 5) rfl (by rw [ex5_7]; rfl) (by decide) rfl (fun ls hl => ?_)
            refine lv_goto (tgt := 34) X.1 X.2.1 dX12_letterSet_83 (by decide) ?_
            exact ih s0_J72 x4_6 x5_7 ex h H locs ls hP hS (lv_sub hl [3, 4, 5, 2, 1, 0] rfl) K
          refine lv_if_ne (tgt := 71) X.1 X.2.1 dX12_letterSet_64 (by decide) (fun hc => ?_) (fun hc => ?_)
          · have h := it_f hc h
            refine lv_iconst (v := 0) X.1 X.2.1 dX12_letterSet_71 (by decide) ?_
            exact HJ72 0 H locs ls h hP hS (lv_sub hl [1, 2, 3, 5, 6, 0] rfl)
          · have h := it_t hc h
            refine lv_iconst (v := 1) X.1 X.2.1 dX12_letterSet_67 (by decide) ?_
            refine lv_goto (tgt := 72) X.1 X.2.1 dX12_letterSet_68 (by decide) ?_
            exact HJ72 1 H locs ls h hP hS (lv_sub hl [1, 2, 3, 5, 6, 0] rfl)
  unfold f_X12_letterSet at h
  refine lv_aload_n X.1 X.2.1 dX12_letterSet_0 rfl (lv_at hl 0 rfl) ?_
  refine r_get (C := RX12) (T := TX12) (N := 28) (ci := 12) (v := .int (g0 12 0)) X iw12 hP 0 rfl rfl 12 rfl mw_7_132 rfl dX12_letterSet_1 ?_
  refine lv_iconst (v := (-1)) X.1 X.2.1 dX12_letterSet_4 (by decide) ?_
  refine lv_icmp_eq (tgt := 10) X.1 X.2.1 dX12_letterSet_5 (by decide) (fun hc => ?_) (fun hc => ?_)
  · have h := it_t hc h
    refine lv_aload_n X.1 X.2.1 dX12_letterSet_10 rfl (lv_at hl 0 rfl) ?_
    obtain ⟨r_1, g0_1, hc_1, h⟩ := bd2_el h
    refine call_V1i (As := []) (rest := []) X (c_X12_here l dC dI sk sv tc a0 g0 hc_1) mw_8_26 mw_8_28 mp_2_5 mw_1_12 mw_8_29 dc_X12_here ⟨Nat.le_of_ble_eq_true rfl, Nat.le_of_ble_eq_true rfl⟩ rfl rfl ⟨Nat.zero_le _, Nat.zero_le _⟩ hP (hD _) hS 0 rfl rfl rfl hl.1 (Nat.le_of_ble_eq_true rfl) dX12_letterSet_11 (fun H locs hP hS => ?_)
    refine lv_istore_n (lv' := [(1, .int r_1), (0, .ref (a0 0))]) X.1 X.2.1 dX12_letterSet_14 rfl hl (by decide) rfl (fun ls hl => ?_)
    refine lv_aload_n X.1 X.2.1 dX12_letterSet_15 rfl (lv_at hl 1 rfl) ?_
    refine lv_iload_n X.1 X.2.1 dX12_letterSet_16 rfl (lv_at hl 0 rfl) ?_
    obtain ⟨r_2, hc_2, h⟩ := bd_el h
    refine call_V1i (As := [.int r_1]) (rest := []) X (c_X12_wordLong l dC dI sk sv tc a0 g0_1 r_1 hc_2) mw_8_79 mw_8_81 mp_2_15 mw_1_12 mw_8_82 dc_X12_wordLong ⟨Nat.le_of_ble_eq_true rfl, Nat.le_of_ble_eq_true rfl⟩ rfl rfl ⟨Nat.zero_le _, Nat.zero_le _⟩ hP (hD _) hS 0 rfl rfl rfl hl.1 (Nat.le_of_ble_eq_true rfl) dX12_letterSet_17 (fun H locs hP hS => ?_)
    refine lv_istore_n (lv' := [(2, .int r_2), (1, .int r_1), (0, .ref (a0 0))]) X.1 X.2.1 dX12_letterSet_20 rfl hl (by decide) rfl (fun ls hl => ?_)
    refine lv_aload_n X.1 X.2.1 dX12_letterSet_21 rfl (lv_at hl 2 rfl) ?_
    refine lv_iload_n X.1 X.2.1 dX12_letterSet_22 rfl (lv_at hl 1 rfl) ?_
    refine lv_iload_n X.1 X.2.1 dX12_letterSet_23 rfl (lv_at hl 0 rfl) ?_
    obtain ⟨r_3, hc_3, h⟩ := bd_el h
    refine call_V1i (As := [.int r_1, .int r_2]) (rest := []) X (c_X12_areLetters l dC dI sk sv tc a0 g0_1 r_1 r_2 hc_3) mw_8_83 mw_8_85 mp_3_0 mw_1_12 mw_8_86 dc_X12_areLetters ⟨Nat.le_of_ble_eq_true rfl, Nat.le_of_ble_eq_true rfl⟩ rfl rfl ⟨Nat.zero_le _, Nat.zero_le _⟩ hP (hD _) hS 0 rfl rfl rfl hl.1 (Nat.le_of_ble_eq_true rfl) dX12_letterSet_24 (fun H locs hP hS => ?_)
    refine lv_istore_n (lv' := [(3, .int r_3), (2, .int r_2), (1, .int r_1), (0, .ref (a0 0))]) X.1 X.2.1 dX12_letterSet_27 rfl hl (by decide) rfl (fun ls hl => ?_)
    refine lv_iconst (v := 0) X.1 X.2.1 dX12_letterSet_28 (by decide) ?_
    refine lv_istore (lv' := [(4, .int 0), (3, .int r_3), (2, .int r_2), (1, .int r_1), (0, .ref (a0 0))]) X.1 X.2.1 dX12_letterSet_29 hl (by decide) rfl (fun ls hl => ?_)
    refine lv_iconst (v := 0) X.1 X.2.1 dX12_letterSet_31 (by decide) ?_
    refine lv_istore (lv' := [(5, .int 0), (4, .int 0), (3, .int r_3), (2, .int r_2), (1, .int r_1), (0, .ref (a0 0))]) X.1 X.2.1 dX12_letterSet_32 hl (by decide) rfl (fun ls hl => ?_)
    obtain ⟨ex_8, hL_8, h⟩ := bd_el h
    refine HL34 r_1 r_2 g0_1 fu r_3 0 0 ex_8 hL_8 H locs ls hP hS (lv_sub hl [5, 4, 3, 2, 1, 0] rfl) (fun x3_8 x4_8 he H locs ls hP hS hl => ?_)
    subst he
    refine lv_iload_n X.1 X.2.1 dX12_letterSet_86 rfl (lv_at hl 3 rfl) ?_
    refine lv_if_ne (tgt := 97) X.1 X.2.1 dX12_letterSet_87 (by decide) (fun hc => ?_) (fun hc => ?_)
    · have h := it_f hc h
      refine lv_aload_n X.1 X.2.1 dX12_letterSet_97 rfl (lv_at hl 0 rfl) ?_
      refine lv_iload_n X.1 X.2.1 dX12_letterSet_98 rfl (lv_at hl 1 rfl) ?_
      refine lv_iload_n X.1 X.2.1 dX12_letterSet_99 rfl (lv_at hl 2 rfl) ?_
      refine lv_iadd X.1 X.2.1 dX12_letterSet_100 ?_
      obtain ⟨g0_9, eg0_9, h⟩ := nm_el h
      refine r_put (C := RX12) (T := TX12) (N := 28) (ci := 12) tyX12 tyX12_ok nmX12 X iw12 hP (hD _) hS 0 rfl rfl 11 rfl mw_7_131 rfl rfl rfl rfl dX12_letterSet_101 (wM tc a0 g0_9) (by rw [eg0_9]; rfl) (fun H locs hP hS => ?_)
      refine lv_iload X.1 X.2.1 dX12_letterSet_104 (lv_at hl 4 rfl) ?_
      exact ret_i (fun u => (wM tc a0 u)) (res := (r0, G0)) (Option.some.inj h) X hQ hP hS dX12_letterSet_106
    · have h := it_t hc h
      refine lv_aload_n X.1 X.2.1 dX12_letterSet_90 rfl (lv_at hl 0 rfl) ?_
      refine lv_iload_n X.1 X.2.1 dX12_letterSet_91 rfl (lv_at hl 1 rfl) ?_
      obtain ⟨g0_10, hc_10, h⟩ := bd_el h
      refine call_V1v (As := [.int r_1]) (rest := []) X (c_X12_wrong l dC dI sk sv tc a0 g0_1 r_1 hc_10) mw_8_5 mw_8_7 mp_2_1 mw_1_12 mw_8_8 dc_X12_wrong ⟨Nat.le_of_ble_eq_true rfl, Nat.le_of_ble_eq_true rfl⟩ rfl rfl ⟨Nat.zero_le _, Nat.zero_le _⟩ hP (hD _) hS 0 rfl rfl rfl hl.1 (Nat.le_of_ble_eq_true rfl) dX12_letterSet_92 (fun H locs hP hS => ?_)
      refine lv_iconst (v := 0) X.1 X.2.1 dX12_letterSet_95 (by decide) ?_
      exact ret_i (fun u => (wM tc a0 u)) (res := (r0, G0)) (Option.some.inj h) X hQ hP hS dX12_letterSet_96
  · have h := it_f hc h
    refine lv_iconst (v := 0) X.1 X.2.1 dX12_letterSet_8 (by decide) ?_
    exact ret_i (fun u => (wM tc a0 u)) (res := (r0, G0)) (Option.some.inj h) X hQ hP hS dX12_letterSet_9

def f_X12_isFigure (g0 : Pic) : Option (Int32 × Pic) := bd (f_X12_skip g0) (fun g0_1 => jn (fun (s0_J38 : Int32) => gdb s0_J38 (some (s0_J38, g0_1))) (fun J38 => jn (fun (_ : Unit) => J38 0) (fun J37 => (if (g0_1 10 0) ≤ (g0_1 11 0) then J37 () else bd (f_X12_byteAt g0_1 (g0_1 11 0)) (fun r_3 => bd (f_X12_isIn r_3 48 57) (fun r_4 => (if r_4 = 0 then J37 () else J38 1)))))))
abbrev rm_X12_isFigure : Room := { frames := 2, cells := 0, slots := 0, locals := 41 }
set_option maxHeartbeats 4000000 in
set_option maxRecDepth 100000 in
theorem c_X12_isFigure (l : Launch) (dC : Nat → ClassId) (dI : Nat → Nat → Nat) (sk sv : Nat → Nat) (tc : Nat → ClassId) (a0 : Nat → Nat) (g0 : Pic) {r0 : Int32} {G0 : Pic} (h : f_X12_isFigure g0 = some (r0, G0)) : CT l (dC, dI) sk sv (TY tc) yX12_isFigure cX12_isFigure 1 (some .boolean) rm_X12_isFigure [.ref (a0 0)] (wM tc a0 g0) (some (.int r0)) (wM tc a0 G0) := by
  refine ofCT (by decide) (Nat.le_of_ble_eq_true rfl) ?_
  intro pr e s m args below meth c A Q ls H locs X hQ hD0 hP hS hl
  have hD : ∀ z0, va_D A (wM tc a0 z0) := fun z0 => D_fst (ws := (wM tc a0 g0)) rfl hD0
  have hl : lv_has ls 1 [(0, .ref (a0 0))] := hl
  unfold f_X12_isFigure at h
  refine lv_aload_n X.1 X.2.1 dX12_isFigure_0 rfl (lv_at hl 0 rfl) ?_
  obtain ⟨g0_1, hc_1, h⟩ := bd_el h
  refine call_V1v (As := []) (rest := []) X (c_X12_skip l dC dI sk sv tc a0 g0 hc_1) mw_7_237 mw_7_239 mp_1_15 mw_1_12 mw_8_0 dc_X12_skip ⟨Nat.le_of_ble_eq_true rfl, Nat.le_of_ble_eq_true rfl⟩ rfl rfl ⟨Nat.zero_le _, Nat.zero_le _⟩ hP (hD _) hS 0 rfl rfl rfl hl.1 (Nat.le_of_ble_eq_true rfl) dX12_isFigure_1 (fun H locs hP hS => ?_)
  refine lv_aload_n X.1 X.2.1 dX12_isFigure_4 rfl (lv_at hl 0 rfl) ?_
  refine r_get (C := RX12) (T := TX12) (N := 28) (ci := 12) (v := .int (g0_1 11 0)) X iw12 hP 0 rfl rfl 11 rfl mw_7_131 rfl dX12_isFigure_5 ?_
  refine lv_aload_n X.1 X.2.1 dX12_isFigure_8 rfl (lv_at hl 0 rfl) ?_
  refine r_get (C := RX12) (T := TX12) (N := 28) (ci := 12) (v := .int (g0_1 10 0)) X iw12 hP 0 rfl rfl 10 rfl mw_7_130 rfl dX12_isFigure_9 ?_
  obtain ⟨J38, eJ38, h⟩ := jn_el h
  have HJ38 : ∀ (s0_J38 : Int32) (H : Heap) (locs : List Loc) (ls : Array Slot), J38 s0_J38 = some (r0, G0) → va_P (dC, dI) vwCl (wM tc a0 g0_1) H → va_S A s.heap H locs → lv_has ls 1 [] → W pr l e rm_X12_isFigure s m args below meth c H locs 0 0 Q (F0 m 38 ls [.int s0_J38]) := by
    intro s0_J38 H locs ls h hP hS hl
    rw [eJ38] at h
    obtain ⟨hg_2, h⟩ := gdb_el h
    exact ret_z (fun u => (wM tc a0 u)) (res := (r0, G0)) hg_2 (Option.some.inj h) X hQ hP hS dX12_isFigure_38
  obtain ⟨J37, eJ37, h⟩ := jn_el h
  have HJ37 : ∀ (_ : Unit) (H : Heap) (locs : List Loc) (ls : Array Slot), J37 () = some (r0, G0) → va_P (dC, dI) vwCl (wM tc a0 g0_1) H → va_S A s.heap H locs → lv_has ls 1 [] → W pr l e rm_X12_isFigure s m args below meth c H locs 0 0 Q (F0 m 37 ls []) := by
    intro _ H locs ls h hP hS hl
    rw [eJ37] at h
    refine lv_iconst (v := 0) X.1 X.2.1 dX12_isFigure_37 (by decide) ?_
    exact HJ38 0 H locs ls h hP hS (lv_sub hl [] rfl)
  refine lv_icmp_ge (tgt := 37) X.1 X.2.1 dX12_isFigure_12 (by decide) (fun hc => ?_) (fun hc => ?_)
  · have h := it_t hc h
    exact HJ37 () H locs ls h hP hS (lv_sub hl [] rfl)
  · have h := it_f hc h
    refine lv_aload_n X.1 X.2.1 dX12_isFigure_15 rfl (lv_at hl 0 rfl) ?_
    refine lv_aload_n X.1 X.2.1 dX12_isFigure_16 rfl (lv_at hl 0 rfl) ?_
    refine r_get (C := RX12) (T := TX12) (N := 28) (ci := 12) (v := .int (g0_1 11 0)) X iw12 hP 0 rfl rfl 11 rfl mw_7_131 rfl dX12_isFigure_17 ?_
    obtain ⟨r_3, hc_3, h⟩ := bd_el h
    refine call_V1i (As := [.int (g0_1 11 0)]) (rest := []) X (c_X12_byteAt l dC dI sk sv tc a0 g0_1 (g0_1 11 0) hc_3) mw_8_1 mw_8_3 mp_2_0 mw_1_12 mw_8_4 dc_X12_byteAt ⟨Nat.le_of_ble_eq_true rfl, Nat.le_of_ble_eq_true rfl⟩ rfl rfl ⟨Nat.zero_le _, Nat.zero_le _⟩ hP (hD _) hS 0 rfl rfl rfl hl.1 (Nat.le_of_ble_eq_true rfl) dX12_isFigure_20 (fun H locs hP hS => ?_)
    refine lv_bipush (v := 48) X.1 X.2.1 dX12_isFigure_23 (by decide) ?_
    refine lv_bipush (v := 57) X.1 X.2.1 dX12_isFigure_25 (by decide) ?_
    obtain ⟨r_4, hc_4, h⟩ := bd_el h
    refine call_S0i (As := [.int r_3, .int 48, .int 57]) (rest := []) X (c_X12_isIn l dC dI sk sv tc r_3 48 57 hc_4) mw_7_218 mw_7_219 mw_1_12 mw_7_220 dc_X12_isIn ⟨Nat.le_of_ble_eq_true rfl, Nat.le_of_ble_eq_true rfl⟩ rfl rfl ⟨Nat.zero_le _, Nat.zero_le _⟩ hP (hD _) hS hl.1 (Nat.le_of_ble_eq_true rfl) dX12_isFigure_27 (fun H locs hP hS => ?_)
    refine lv_if_eq (tgt := 37) X.1 X.2.1 dX12_isFigure_30 (by decide) (fun hc => ?_) (fun hc => ?_)
    · have h := it_t hc h
      exact HJ37 () H locs ls h hP hS (lv_sub hl [] rfl)
    · have h := it_f hc h
      refine lv_iconst (v := 1) X.1 X.2.1 dX12_isFigure_33 (by decide) ?_
      refine lv_goto (tgt := 38) X.1 X.2.1 dX12_isFigure_34 (by decide) ?_
      exact HJ38 1 H locs ls h hP hS (lv_sub hl [] rfl)

def f_X12_speechLine_L4 (n : Nat) (a : Int32 × Int32 × Pic) : Option ((Pic) ⊕ (Pic)) := lp (fun (rec : Int32 × Int32 × Pic → Option ((Pic) ⊕ (Pic))) (a : Int32 × Int32 × Pic) => match a with | (x1, x2, g0) => (if (g0 12 0) = (-1) then (if x2 = 0 then some (.inr g0) else bd2 (f_X12_here g0) (fun r_1 g0_1 => jn (fun (g0_J43 : Pic) => bd2 (f_X12_figures g0_J43 0 ((g0_J43 1 3) - 1)) (fun r_2 g0_2 => (if (g0_2 12 0) = (-1) then gdi (76 + (g0_2 1 5)) 856 (nm (pu g0_2 1 ((76 + (g0_2 1 5)).toNatClampNeg) r_2) (fun g0_4 => nm (pu g0_4 1 5 ((g0_4 1 5) + 1)) (fun g0_5 => nm (x1 + 1) (fun x1_6 => bd2 (f_X12_isFigure g0_5) (fun r_7 g0_7 => rec (x1_6, r_7, g0_7)))))) else some (.inl g0_2)))) (fun J43 => jn (fun (_ : Unit) => bd (f_X12_wrong g0_1 r_1) (fun g0_8 => J43 g0_8)) (fun J38 => (if x1 = 6 then J38 () else (if (g0_1 1 5) = 20 then J38 () else J43 g0_1)))))) else some (.inr g0))) n a
def f_X12_speechLine (g0 : Pic) : Option (Pic) := lr (f_X12_speechLine_L4  fu (0, 1, g0)) (fun a => a) (fun g0_9 => some g0_9)
abbrev rm_X12_speechLine : Room := { frames := 4, cells := 0, slots := 0, locals := 85 }
set_option maxHeartbeats 4000000 in
set_option maxRecDepth 100000 in
theorem c_X12_speechLine (l : Launch) (dC : Nat → ClassId) (dI : Nat → Nat → Nat) (sk sv : Nat → Nat) (tc : Nat → ClassId) (a0 : Nat → Nat) (g0 : Pic) {G0 : Pic} (h : f_X12_speechLine g0 = some G0) : CT l (dC, dI) sk sv (TY tc) yX12_speechLine cX12_speechLine 5 none rm_X12_speechLine [.ref (a0 0)] (wM tc a0 g0) none (wM tc a0 G0) := by
  refine ofCT (by decide) (Nat.le_of_ble_eq_true rfl) ?_
  intro pr e s m args below meth c A Q ls H locs X hQ hD0 hP hS hl
  have hD : ∀ z0, va_D A (wM tc a0 z0) := fun z0 => D_fst (ws := (wM tc a0 g0)) rfl hD0
  have hl : lv_has ls 5 [(0, .ref (a0 0))] := hl
  have HL4 : ∀ (n : Nat) (x1 : Int32) (x2 : Int32) (g0 : Pic) (ex : ((Pic) ⊕ (Pic))), f_X12_speechLine_L4  n (x1, x2, g0) = some ex → (∀ rv, ex = .inl rv → rv = G0) → ∀ (H : Heap) (locs : List Loc) (ls : Array Slot), va_P (dC, dI) vwCl (wM tc a0 g0) H → va_S A s.heap H locs → lv_has ls 5 [(0, .ref (a0 0)), (1, .int x1), (2, .int x2)] → (∀ (k0 : Pic), .inr k0 = ex → ∀ (H : Heap) (locs : List Loc) (ls : Array Slot), va_P (dC, dI) vwCl (wM tc a0 k0) H → va_S A s.heap H locs → lv_has ls 5 [] → W pr l e rm_X12_speechLine s m args below meth c H locs 0 0 Q (F0 m 104 ls [])) → W pr l e rm_X12_speechLine s m args below meth c H locs 0 0 Q (F0 m 4 ls []) := by
    intro n
    induction n with
    | zero => intro x1 x2 g0 ex h; exact lp_z h
    | succ n ih =>
      intro x1 x2 g0 ex h hR H locs ls hP hS hl K
      have h := lp_s h
      refine lv_aload_n X.1 X.2.1 dX12_speechLine_4 rfl (lv_at hl 0 rfl) ?_
      refine r_get (C := RX12) (T := TX12) (N := 28) (ci := 12) (v := .int (g0 12 0)) X iw12 hP 0 rfl rfl 12 rfl mw_7_132 rfl dX12_speechLine_5 ?_
      refine lv_iconst (v := (-1)) X.1 X.2.1 dX12_speechLine_8 (by decide) ?_
      refine lv_icmp_ne (tgt := 104) X.1 X.2.1 dX12_speechLine_9 (by decide) (fun hc => ?_) (fun hc => ?_)
      · have h := it_f hc h
        exact K g0 (Option.some.inj h) H locs ls hP hS (lv_sub hl [] rfl)
      · have h := it_t hc h
        refine lv_iload_n X.1 X.2.1 dX12_speechLine_12 rfl (lv_at hl 2 rfl) ?_
        refine lv_if_eq (tgt := 104) X.1 X.2.1 dX12_speechLine_13 (by decide) (fun hc => ?_) (fun hc => ?_)
        · have h := it_t hc h
          exact K g0 (Option.some.inj h) H locs ls hP hS (lv_sub hl [] rfl)
        · have h := it_f hc h
          refine lv_aload_n X.1 X.2.1 dX12_speechLine_16 rfl (lv_at hl 0 rfl) ?_
          obtain ⟨r_1, g0_1, hc_1, h⟩ := bd2_el h
          refine call_V1i (As := []) (rest := []) X (c_X12_here l dC dI sk sv tc a0 g0 hc_1) mw_8_26 mw_8_28 mp_2_5 mw_1_12 mw_8_29 dc_X12_here ⟨Nat.le_of_ble_eq_true rfl, Nat.le_of_ble_eq_true rfl⟩ rfl rfl ⟨Nat.zero_le _, Nat.zero_le _⟩ hP (hD _) hS 0 rfl rfl rfl hl.1 (Nat.le_of_ble_eq_true rfl) dX12_speechLine_17 (fun H locs hP hS => ?_)
          refine lv_istore_n (lv' := [(3, .int r_1), (0, .ref (a0 0)), (1, .int x1), (2, .int x2)]) X.1 X.2.1 dX12_speechLine_20 rfl hl (by decide) rfl (fun ls hl => ?_)
          refine lv_iload_n X.1 X.2.1 dX12_speechLine_21 rfl (lv_at hl 2 rfl) ?_
          refine lv_bipush (v := 6) X.1 X.2.1 dX12_speechLine_22 (by decide) ?_
          obtain ⟨J43, eJ43, h⟩ := jn_el h
          have HJ43 : ∀ (g0_J43 : Pic) (H : Heap) (locs : List Loc) (ls : Array Slot), J43 g0_J43 = some ex → va_P (dC, dI) vwCl (wM tc a0 g0_J43) H → va_S A s.heap H locs → lv_has ls 5 [(0, .ref (a0 0)), (1, .int x1)] → W pr l e rm_X12_speechLine s m args below meth c H locs 0 0 Q (F0 m 43 ls []) := by
            intro g0_J43 H locs ls h hP hS hl
            rw [eJ43] at h
            refine lv_aload_n X.1 X.2.1 dX12_speechLine_43 rfl (lv_at hl 0 rfl) ?_
            refine lv_iconst (v := 0) X.1 X.2.1 dX12_speechLine_44 (by decide) ?_
            refine lv_aload_n X.1 X.2.1 dX12_speechLine_45 rfl (lv_at hl 0 rfl) ?_
            refine r_get (C := RX12) (T := TX12) (N := 28) (ci := 12) (v := .ref (a0 2)) X iw12 hP 0 rfl rfl 1 rfl mw_7_121 rfl dX12_speechLine_46 ?_
            refine lv_iconst (v := 3) X.1 X.2.1 dX12_speechLine_49 (by decide) ?_
            refine r_iald X hP 1 0 rfl rfl (j := 3) (by unfold vp_in; decide) (by decide) dX12_speechLine_50 ?_
            refine lv_iconst (v := 1) X.1 X.2.1 dX12_speechLine_51 (by decide) ?_
            refine lv_isub X.1 X.2.1 dX12_speechLine_52 ?_
            obtain ⟨r_2, g0_2, hc_2, h⟩ := bd2_el h
            refine call_V1i (As := [.int 0, .int ((g0_J43 1 3) - 1)]) (rest := []) X (c_X12_figures l dC dI sk sv tc a0 g0_J43 0 ((g0_J43 1 3) - 1) hc_2) mw_8_22 mw_8_24 mp_2_4 mw_1_12 mw_8_25 dc_X12_figures ⟨Nat.le_of_ble_eq_true rfl, Nat.le_of_ble_eq_true rfl⟩ rfl rfl ⟨Nat.zero_le _, Nat.zero_le _⟩ hP (hD _) hS 0 rfl rfl rfl hl.1 (Nat.le_of_ble_eq_true rfl) dX12_speechLine_53 (fun H locs hP hS => ?_)
            refine lv_istore (lv' := [(4, .int r_2), (0, .ref (a0 0)), (1, .int x1)]) X.1 X.2.1 dX12_speechLine_56 hl (by decide) rfl (fun ls hl => ?_)
            refine lv_aload_n X.1 X.2.1 dX12_speechLine_58 rfl (lv_at hl 1 rfl) ?_
            refine r_get (C := RX12) (T := TX12) (N := 28) (ci := 12) (v := .int (g0_2 12 0)) X iw12 hP 0 rfl rfl 12 rfl mw_7_132 rfl dX12_speechLine_59 ?_
            refine lv_iconst (v := (-1)) X.1 X.2.1 dX12_speechLine_62 (by decide) ?_
            refine lv_icmp_eq (tgt := 67) X.1 X.2.1 dX12_speechLine_63 (by decide) (fun hc => ?_) (fun hc => ?_)
            · have h := it_t hc h
              refine lv_aload_n X.1 X.2.1 dX12_speechLine_67 rfl (lv_at hl 1 rfl) ?_
              refine r_get (C := RX12) (T := TX12) (N := 28) (ci := 12) (v := .ref (a0 2)) X iw12 hP 0 rfl rfl 1 rfl mw_7_121 rfl dX12_speechLine_68 ?_
              refine lv_bipush (v := 76) X.1 X.2.1 dX12_speechLine_71 (by decide) ?_
              refine lv_aload_n X.1 X.2.1 dX12_speechLine_73 rfl (lv_at hl 1 rfl) ?_
              refine r_get (C := RX12) (T := TX12) (N := 28) (ci := 12) (v := .ref (a0 2)) X iw12 hP 0 rfl rfl 1 rfl mw_7_121 rfl dX12_speechLine_74 ?_
              refine lv_iconst (v := 5) X.1 X.2.1 dX12_speechLine_77 (by decide) ?_
              refine r_iald X hP 1 0 rfl rfl (j := 5) (by unfold vp_in; decide) (by decide) dX12_speechLine_78 ?_
              refine lv_iadd X.1 X.2.1 dX12_speechLine_79 ?_
              refine lv_iload X.1 X.2.1 dX12_speechLine_80 (lv_at hl 0 rfl) ?_
              obtain ⟨hg_3, h⟩ := gdi_el h
              obtain ⟨g0_4, eg0_4, h⟩ := nm_el h
              refine r_iast X hP (hD _) hS 1 0 rfl rfl hg_3 rfl dX12_speechLine_82 (wM tc a0 g0_4) (by rw [eg0_4]; rfl) (fun H locs hP hS => ?_)
              refine lv_aload_n X.1 X.2.1 dX12_speechLine_83 rfl (lv_at hl 1 rfl) ?_
              refine r_get (C := RX12) (T := TX12) (N := 28) (ci := 12) (v := .ref (a0 2)) X iw12 hP 0 rfl rfl 1 rfl mw_7_121 rfl dX12_speechLine_84 ?_
              refine lv_iconst (v := 5) X.1 X.2.1 dX12_speechLine_87 (by decide) ?_
              refine lv_dup2_11 X.1 X.2.1 dX12_speechLine_88 rfl rfl ?_
              refine r_iald X hP 1 0 rfl rfl (j := 5) (by unfold vp_in; decide) (by decide) dX12_speechLine_89 ?_
              refine lv_iconst (v := 1) X.1 X.2.1 dX12_speechLine_90 (by decide) ?_
              refine lv_iadd X.1 X.2.1 dX12_speechLine_91 ?_
              obtain ⟨g0_5, eg0_5, h⟩ := nm_el h
              refine r_iast X hP (hD _) hS 1 0 rfl rfl (j := 5) (by unfold vp_in; decide) (by decide) dX12_speechLine_92 (wM tc a0 g0_5) (by rw [eg0_5]; rfl) (fun H locs hP hS => ?_)
              obtain ⟨x1_6, ex1_6, h⟩ := nm_el h
              refine lv_iinc (v := x1_6) (lv' := [(1, .int x1_6), (4, .int r_2), (0, .ref (a0 0))]) X.1 X.2.1 dX12_speechLine_93 hl (k := 2) rfl (by rw [ex1_6]; rfl) (by decide) rfl (fun ls hl => ?_)
              refine lv_aload_n X.1 X.2.1 dX12_speechLine_96 rfl (lv_at hl 2 rfl) ?_
              obtain ⟨r_7, g0_7, hc_7, h⟩ := bd2_el h
              refine call_V1i (As := []) (rest := []) X (c_X12_isFigure l dC dI sk sv tc a0 g0_5 hc_7) mw_8_110 mw_8_112 mp_3_6 mw_1_12 mw_8_113 dc_X12_isFigure ⟨Nat.le_of_ble_eq_true rfl, Nat.le_of_ble_eq_true rfl⟩ rfl rfl ⟨Nat.zero_le _, Nat.zero_le _⟩ hP (hD _) hS 0 rfl rfl rfl hl.1 (Nat.le_of_ble_eq_true rfl) dX12_speechLine_97 (fun H locs hP hS => ?_)
              refine lv_istore_n (lv' := [(2, .int r_7), (1, .int x1_6), (4, .int r_2), (0, .ref (a0 0))]) X.1 X.2.1 dX12_speechLine_100 rfl hl (by decide) rfl (fun ls hl => ?_)
              refine lv_goto (tgt := 4) X.1 X.2.1 dX12_speechLine_101 (by decide) ?_
              exact ih x1_6 r_7 g0_7 ex h hR H locs ls hP hS (lv_sub hl [3, 1, 0] rfl) K
            · have h := it_f hc h
              exact ret_v (fun u => (wM tc a0 u)) (res := G0) (hR _ (Option.some.inj h).symm) X hQ hP hS dX12_speechLine_66
          obtain ⟨J38, eJ38, h⟩ := jn_el h
          have HJ38 : ∀ (_ : Unit) (H : Heap) (locs : List Loc) (ls : Array Slot), J38 () = some ex → va_P (dC, dI) vwCl (wM tc a0 g0_1) H → va_S A s.heap H locs → lv_has ls 5 [(0, .ref (a0 0)), (1, .int x1), (3, .int r_1)] → W pr l e rm_X12_speechLine s m args below meth c H locs 0 0 Q (F0 m 38 ls []) := by
            intro _ H locs ls h hP hS hl
            rw [eJ38] at h
            refine lv_aload_n X.1 X.2.1 dX12_speechLine_38 rfl (lv_at hl 0 rfl) ?_
            refine lv_iload_n X.1 X.2.1 dX12_speechLine_39 rfl (lv_at hl 2 rfl) ?_
            obtain ⟨g0_8, hc_8, h⟩ := bd_el h
            refine call_V1v (As := [.int r_1]) (rest := []) X (c_X12_wrong l dC dI sk sv tc a0 g0_1 r_1 hc_8) mw_8_5 mw_8_7 mp_2_1 mw_1_12 mw_8_8 dc_X12_wrong ⟨Nat.le_of_ble_eq_true rfl, Nat.le_of_ble_eq_true rfl⟩ rfl rfl ⟨Nat.zero_le _, Nat.zero_le _⟩ hP (hD _) hS 0 rfl rfl rfl hl.1 (Nat.le_of_ble_eq_true rfl) dX12_speechLine_40 (fun H locs hP hS => ?_)
            exact HJ43 g0_8 H locs ls h hP hS (lv_sub hl [0, 1] rfl)
          refine lv_icmp_eq (tgt := 38) X.1 X.2.1 dX12_speechLine_24 (by decide) (fun hc => ?_) (fun hc => ?_)
          · have h := it_t hc h
            exact HJ38 () H locs ls h hP hS (lv_sub hl [1, 2, 0] rfl)
          · have h := it_f hc h
            refine lv_aload_n X.1 X.2.1 dX12_speechLine_27 rfl (lv_at hl 1 rfl) ?_
            refine r_get (C := RX12) (T := TX12) (N := 28) (ci := 12) (v := .ref (a0 2)) X iw12 hP 0 rfl rfl 1 rfl mw_7_121 rfl dX12_speechLine_28 ?_
            refine lv_iconst (v := 5) X.1 X.2.1 dX12_speechLine_31 (by decide) ?_
            refine r_iald X hP 1 0 rfl rfl (j := 5) (by unfold vp_in; decide) (by decide) dX12_speechLine_32 ?_
            refine lv_bipush (v := 20) X.1 X.2.1 dX12_speechLine_33 (by decide) ?_
            refine lv_icmp_ne (tgt := 43) X.1 X.2.1 dX12_speechLine_35 (by decide) (fun hc => ?_) (fun hc => ?_)
            · have h := it_f hc h
              exact HJ43 g0_1 H locs ls h hP hS (lv_sub hl [1, 2] rfl)
            · have h := it_t hc h
              exact HJ38 () H locs ls h hP hS (lv_sub hl [1, 2, 0] rfl)
  unfold f_X12_speechLine at h
  refine lv_iconst (v := 0) X.1 X.2.1 dX12_speechLine_0 (by decide) ?_
  refine lv_istore_n (lv' := [(1, .int 0), (0, .ref (a0 0))]) X.1 X.2.1 dX12_speechLine_1 rfl hl (by decide) rfl (fun ls hl => ?_)
  refine lv_iconst (v := 1) X.1 X.2.1 dX12_speechLine_2 (by decide) ?_
  refine lv_istore_n (lv' := [(2, .int 1), (1, .int 0), (0, .ref (a0 0))]) X.1 X.2.1 dX12_speechLine_3 rfl hl (by decide) rfl (fun ls hl => ?_)
  obtain ⟨ex_9, hL_9, h1_9, h2_9⟩ := lr_el h
  refine HL4  fu 0 1 g0 ex_9 hL_9 (fun rv hq => h1_9 rv hq) H locs ls hP hS (lv_sub hl [2, 1, 0] rfl) (fun g0_9 he H locs ls hP hS hl => ?_)
  have h := h2_9 _ he.symm
  exact ret_v (fun u => (wM tc a0 u)) (res := G0) (Option.some.inj h) X hQ hP hS dX12_speechLine_104

def f_X12_tells (g0 : Pic) (x1 : Int32) (x2 : Int32) (x3 : Int32) : Option (Pic) := bd2 (f_X12_figures g0 x2 x3) (fun r_1 g0_1 => jn (fun (g0_J24 : Pic) => some g0_J24) (fun J24 => (if (g0_1 12 0) = (-1) then gdi x1 856 (nm (pu g0_1 1 (x1.toNatClampNeg) r_1) (fun g0_3 => J24 g0_3)) else J24 g0_1)))
abbrev rm_X12_tells : Room := { frames := 4, cells := 0, slots := 0, locals := 85 }
set_option maxHeartbeats 4000000 in
set_option maxRecDepth 100000 in
theorem c_X12_tells (l : Launch) (dC : Nat → ClassId) (dI : Nat → Nat → Nat) (sk sv : Nat → Nat) (tc : Nat → ClassId) (a0 : Nat → Nat) (g0 : Pic) (x1 : Int32) (x2 : Int32) (x3 : Int32) {G0 : Pic} (h : f_X12_tells g0 x1 x2 x3 = some G0) : CT l (dC, dI) sk sv (TY tc) yX12_tells cX12_tells 5 none rm_X12_tells [.ref (a0 0), .int x1, .int x2, .int x3] (wM tc a0 g0) none (wM tc a0 G0) := by
  refine ofCT (by decide) (Nat.le_of_ble_eq_true rfl) ?_
  intro pr e s m args below meth c A Q ls H locs X hQ hD0 hP hS hl
  have hD : ∀ z0, va_D A (wM tc a0 z0) := fun z0 => D_fst (ws := (wM tc a0 g0)) rfl hD0
  have hl : lv_has ls 5 [(0, .ref (a0 0)), (1, .int x1), (2, .int x2), (3, .int x3)] := hl
  unfold f_X12_tells at h
  refine lv_aload_n X.1 X.2.1 dX12_tells_0 rfl (lv_at hl 0 rfl) ?_
  refine lv_iload_n X.1 X.2.1 dX12_tells_1 rfl (lv_at hl 2 rfl) ?_
  refine lv_iload_n X.1 X.2.1 dX12_tells_2 rfl (lv_at hl 3 rfl) ?_
  obtain ⟨r_1, g0_1, hc_1, h⟩ := bd2_el h
  refine call_V1i (As := [.int x2, .int x3]) (rest := []) X (c_X12_figures l dC dI sk sv tc a0 g0 x2 x3 hc_1) mw_8_22 mw_8_24 mp_2_4 mw_1_12 mw_8_25 dc_X12_figures ⟨Nat.le_of_ble_eq_true rfl, Nat.le_of_ble_eq_true rfl⟩ rfl rfl ⟨Nat.zero_le _, Nat.zero_le _⟩ hP (hD _) hS 0 rfl rfl rfl hl.1 (Nat.le_of_ble_eq_true rfl) dX12_tells_3 (fun H locs hP hS => ?_)
  refine lv_istore (lv' := [(4, .int r_1), (0, .ref (a0 0)), (1, .int x1), (2, .int x2), (3, .int x3)]) X.1 X.2.1 dX12_tells_6 hl (by decide) rfl (fun ls hl => ?_)
  refine lv_aload_n X.1 X.2.1 dX12_tells_8 rfl (lv_at hl 1 rfl) ?_
  refine r_get (C := RX12) (T := TX12) (N := 28) (ci := 12) (v := .int (g0_1 12 0)) X iw12 hP 0 rfl rfl 12 rfl mw_7_132 rfl dX12_tells_9 ?_
  refine lv_iconst (v := (-1)) X.1 X.2.1 dX12_tells_12 (by decide) ?_
  obtain ⟨J24, eJ24, h⟩ := jn_el h
  have HJ24 : ∀ (g0_J24 : Pic) (H : Heap) (locs : List Loc) (ls : Array Slot), J24 g0_J24 = some G0 → va_P (dC, dI) vwCl (wM tc a0 g0_J24) H → va_S A s.heap H locs → lv_has ls 5 [] → W pr l e rm_X12_tells s m args below meth c H locs 0 0 Q (F0 m 24 ls []) := by
    intro g0_J24 H locs ls h hP hS hl
    rw [eJ24] at h
    exact ret_v (fun u => (wM tc a0 u)) (res := G0) (Option.some.inj h) X hQ hP hS dX12_tells_24
  refine lv_icmp_ne (tgt := 24) X.1 X.2.1 dX12_tells_13 (by decide) (fun hc => ?_) (fun hc => ?_)
  · have h := it_f hc h
    exact HJ24 g0_1 H locs ls h hP hS (lv_sub hl [] rfl)
  · have h := it_t hc h
    refine lv_aload_n X.1 X.2.1 dX12_tells_16 rfl (lv_at hl 1 rfl) ?_
    refine r_get (C := RX12) (T := TX12) (N := 28) (ci := 12) (v := .ref (a0 2)) X iw12 hP 0 rfl rfl 1 rfl mw_7_121 rfl dX12_tells_17 ?_
    refine lv_iload_n X.1 X.2.1 dX12_tells_20 rfl (lv_at hl 2 rfl) ?_
    refine lv_iload X.1 X.2.1 dX12_tells_21 (lv_at hl 0 rfl) ?_
    obtain ⟨hg_2, h⟩ := gdi_el h
    obtain ⟨g0_3, eg0_3, h⟩ := nm_el h
    refine r_iast X hP (hD _) hS 1 0 rfl rfl hg_2 rfl dX12_tells_23 (wM tc a0 g0_3) (by rw [eg0_3]; rfl) (fun H locs hP hS => ?_)
    exact HJ24 g0_3 H locs ls h hP hS (lv_sub hl [] rfl)

def f_X12_begins (g0 : Pic) : Option (Pic) := nm (pu g0 12 0 (-1)) (fun g0_1 => nm (pu g0_1 9 0 (-1)) (fun g0_2 => nm (pu g0_2 10 0 (g0_2 8 0)) (fun g0_3 => nm (pu g0_3 8 0 0) (fun g0_4 => nm (pu g0_4 11 0 0) (fun g0_5 => nm (pu g0_5 13 0 0) (fun g0_6 => some g0_6))))))
abbrev rm_X12_begins : Room := { frames := 0, cells := 0, slots := 0, locals := 0 }
set_option maxHeartbeats 4000000 in
set_option maxRecDepth 100000 in
theorem c_X12_begins (l : Launch) (dC : Nat → ClassId) (dI : Nat → Nat → Nat) (sk sv : Nat → Nat) (tc : Nat → ClassId) (a0 : Nat → Nat) (g0 : Pic) {G0 : Pic} (h : f_X12_begins g0 = some G0) : CT l (dC, dI) sk sv (TY tc) yX12_begins cX12_begins 1 none rm_X12_begins [.ref (a0 0)] (wM tc a0 g0) none (wM tc a0 G0) := by
  refine ofCT (by decide) (Nat.le_of_ble_eq_true rfl) ?_
  intro pr e s m args below meth c A Q ls H locs X hQ hD0 hP hS hl
  have hD : ∀ z0, va_D A (wM tc a0 z0) := fun z0 => D_fst (ws := (wM tc a0 g0)) rfl hD0
  have hl : lv_has ls 1 [(0, .ref (a0 0))] := hl
  unfold f_X12_begins at h
  refine lv_aload_n X.1 X.2.1 dX12_begins_0 rfl (lv_at hl 0 rfl) ?_
  refine lv_iconst (v := (-1)) X.1 X.2.1 dX12_begins_1 (by decide) ?_
  obtain ⟨g0_1, eg0_1, h⟩ := nm_el h
  refine r_put (C := RX12) (T := TX12) (N := 28) (ci := 12) tyX12 tyX12_ok nmX12 X iw12 hP (hD _) hS 0 rfl rfl 12 rfl mw_7_132 rfl rfl rfl rfl dX12_begins_2 (wM tc a0 g0_1) (by rw [eg0_1]; rfl) (fun H locs hP hS => ?_)
  refine lv_aload_n X.1 X.2.1 dX12_begins_5 rfl (lv_at hl 0 rfl) ?_
  refine lv_iconst (v := (-1)) X.1 X.2.1 dX12_begins_6 (by decide) ?_
  obtain ⟨g0_2, eg0_2, h⟩ := nm_el h
  refine r_put (C := RX12) (T := TX12) (N := 28) (ci := 12) tyX12 tyX12_ok nmX12 X iw12 hP (hD _) hS 0 rfl rfl 9 rfl mw_7_129 rfl rfl rfl rfl dX12_begins_7 (wM tc a0 g0_2) (by rw [eg0_2]; rfl) (fun H locs hP hS => ?_)
  refine lv_aload_n X.1 X.2.1 dX12_begins_10 rfl (lv_at hl 0 rfl) ?_
  refine lv_aload_n X.1 X.2.1 dX12_begins_11 rfl (lv_at hl 0 rfl) ?_
  refine r_get (C := RX12) (T := TX12) (N := 28) (ci := 12) (v := .int (g0_2 8 0)) X iw12 hP 0 rfl rfl 8 rfl mw_7_128 rfl dX12_begins_12 ?_
  obtain ⟨g0_3, eg0_3, h⟩ := nm_el h
  refine r_put (C := RX12) (T := TX12) (N := 28) (ci := 12) tyX12 tyX12_ok nmX12 X iw12 hP (hD _) hS 0 rfl rfl 10 rfl mw_7_130 rfl rfl rfl rfl dX12_begins_15 (wM tc a0 g0_3) (by rw [eg0_3]; rfl) (fun H locs hP hS => ?_)
  refine lv_aload_n X.1 X.2.1 dX12_begins_18 rfl (lv_at hl 0 rfl) ?_
  refine lv_iconst (v := 0) X.1 X.2.1 dX12_begins_19 (by decide) ?_
  obtain ⟨g0_4, eg0_4, h⟩ := nm_el h
  refine r_put (C := RX12) (T := TX12) (N := 28) (ci := 12) tyX12 tyX12_ok nmX12 X iw12 hP (hD _) hS 0 rfl rfl 8 rfl mw_7_128 rfl rfl rfl rfl dX12_begins_20 (wM tc a0 g0_4) (by rw [eg0_4]; rfl) (fun H locs hP hS => ?_)
  refine lv_aload_n X.1 X.2.1 dX12_begins_23 rfl (lv_at hl 0 rfl) ?_
  refine lv_iconst (v := 0) X.1 X.2.1 dX12_begins_24 (by decide) ?_
  obtain ⟨g0_5, eg0_5, h⟩ := nm_el h
  refine r_put (C := RX12) (T := TX12) (N := 28) (ci := 12) tyX12 tyX12_ok nmX12 X iw12 hP (hD _) hS 0 rfl rfl 11 rfl mw_7_131 rfl rfl rfl rfl dX12_begins_25 (wM tc a0 g0_5) (by rw [eg0_5]; rfl) (fun H locs hP hS => ?_)
  refine lv_aload_n X.1 X.2.1 dX12_begins_28 rfl (lv_at hl 0 rfl) ?_
  refine lv_iconst (v := 0) X.1 X.2.1 dX12_begins_29 (by decide) ?_
  obtain ⟨g0_6, eg0_6, h⟩ := nm_el h
  refine r_put (C := RX12) (T := TX12) (N := 28) (ci := 12) tyX12 tyX12_ok nmX12 X iw12 hP (hD _) hS 0 rfl rfl 13 rfl mw_7_133 rfl rfl rfl rfl dX12_begins_30 (wM tc a0 g0_6) (by rw [eg0_6]; rfl) (fun H locs hP hS => ?_)
  exact ret_v (fun u => (wM tc a0 u)) (res := G0) (Option.some.inj h) X hQ hP hS dX12_begins_33

def f_X12_putsAside_L2 (n : Nat) (a : Int32 × Pic) : Option (Pic) := lp (fun (rec : Int32 × Pic → Option (Pic)) (a : Int32 × Pic) => match a with | (x1, g0) => (if 456 ≤ x1 then some g0 else gdi x1 856 (gdi x1 456 (nm (pu g0 4 (x1.toNatClampNeg) (g0 1 (x1.toNatClampNeg))) (fun g0_3 => nm (x1 + 1) (fun x1_4 => rec (x1_4, g0_3))))))) n a
def f_X12_putsAside (g0 : Pic) : Option (Pic) := bd (f_X12_putsAside_L2  fu (0, g0)) (fun g0_5 => some g0_5)
abbrev rm_X12_putsAside : Room := { frames := 0, cells := 0, slots := 0, locals := 0 }
set_option maxHeartbeats 4000000 in
set_option maxRecDepth 100000 in
theorem c_X12_putsAside (l : Launch) (dC : Nat → ClassId) (dI : Nat → Nat → Nat) (sk sv : Nat → Nat) (tc : Nat → ClassId) (a0 : Nat → Nat) (g0 : Pic) {G0 : Pic} (h : f_X12_putsAside g0 = some G0) : CT l (dC, dI) sk sv (TY tc) yX12_putsAside cX12_putsAside 2 none rm_X12_putsAside [.ref (a0 0)] (wM tc a0 g0) none (wM tc a0 G0) := by
  refine ofCT (by decide) (Nat.le_of_ble_eq_true rfl) ?_
  intro pr e s m args below meth c A Q ls H locs X hQ hD0 hP hS hl
  have hD : ∀ z0, va_D A (wM tc a0 z0) := fun z0 => D_fst (ws := (wM tc a0 g0)) rfl hD0
  have hl : lv_has ls 2 [(0, .ref (a0 0))] := hl
  have HL2 : ∀ (n : Nat) (x1 : Int32) (g0 : Pic) (ex : (Pic)), f_X12_putsAside_L2  n (x1, g0) = some ex → ∀ (H : Heap) (locs : List Loc) (ls : Array Slot), va_P (dC, dI) vwCl (wM tc a0 g0) H → va_S A s.heap H locs → lv_has ls 2 [(0, .ref (a0 0)), (1, .int x1)] → (∀ (k0 : Pic), k0 = ex → ∀ (H : Heap) (locs : List Loc) (ls : Array Slot), va_P (dC, dI) vwCl (wM tc a0 k0) H → va_S A s.heap H locs → lv_has ls 2 [] → W pr l e rm_X12_putsAside s m args below meth c H locs 0 0 Q (F0 m 27 ls [])) → W pr l e rm_X12_putsAside s m args below meth c H locs 0 0 Q (F0 m 2 ls []) := by
    intro n
    induction n with
    | zero => intro x1 g0 ex h; exact lp_z h
    | succ n ih =>
      intro x1 g0 ex h H locs ls hP hS hl K
      have h := lp_s h
      refine lv_iload_n X.1 X.2.1 dX12_putsAside_2 rfl (lv_at hl 1 rfl) ?_
      refine lv_sipush (v := 456) X.1 X.2.1 dX12_putsAside_3 (by decide) ?_
      refine lv_icmp_ge (tgt := 27) X.1 X.2.1 dX12_putsAside_6 (by decide) (fun hc => ?_) (fun hc => ?_)
      · have h := it_t hc h
        exact K g0 (Option.some.inj h) H locs ls hP hS (lv_sub hl [] rfl)
      · have h := it_f hc h
        refine lv_aload_n X.1 X.2.1 dX12_putsAside_9 rfl (lv_at hl 0 rfl) ?_
        refine r_get (C := RX12) (T := TX12) (N := 28) (ci := 12) (v := .ref (a0 5)) X iw12 hP 0 rfl rfl 4 rfl mw_7_124 rfl dX12_putsAside_10 ?_
        refine lv_iload_n X.1 X.2.1 dX12_putsAside_13 rfl (lv_at hl 1 rfl) ?_
        refine lv_aload_n X.1 X.2.1 dX12_putsAside_14 rfl (lv_at hl 0 rfl) ?_
        refine r_get (C := RX12) (T := TX12) (N := 28) (ci := 12) (v := .ref (a0 2)) X iw12 hP 0 rfl rfl 1 rfl mw_7_121 rfl dX12_putsAside_15 ?_
        refine lv_iload_n X.1 X.2.1 dX12_putsAside_18 rfl (lv_at hl 1 rfl) ?_
        obtain ⟨hg_1, h⟩ := gdi_el h
        refine r_iald X hP 1 0 rfl rfl hg_1 rfl dX12_putsAside_19 ?_
        obtain ⟨hg_2, h⟩ := gdi_el h
        obtain ⟨g0_3, eg0_3, h⟩ := nm_el h
        refine r_iast X hP (hD _) hS 3 0 rfl rfl hg_2 rfl dX12_putsAside_20 (wM tc a0 g0_3) (by rw [eg0_3]; rfl) (fun H locs hP hS => ?_)
        obtain ⟨x1_4, ex1_4, h⟩ := nm_el h
        refine lv_iinc (v := x1_4) (lv' := [(1, .int x1_4), (0, .ref (a0 0))]) X.1 X.2.1 dX12_putsAside_21 hl (k := 1) rfl (by rw [ex1_4]; rfl) (by decide) rfl (fun ls hl => ?_)
        refine lv_goto (tgt := 2) X.1 X.2.1 dX12_putsAside_24 (by decide) ?_
        exact ih x1_4 g0_3 ex h H locs ls hP hS (lv_sub hl [1, 0] rfl) K
  unfold f_X12_putsAside at h
  refine lv_iconst (v := 0) X.1 X.2.1 dX12_putsAside_0 (by decide) ?_
  refine lv_istore_n (lv' := [(1, .int 0), (0, .ref (a0 0))]) X.1 X.2.1 dX12_putsAside_1 rfl hl (by decide) rfl (fun ls hl => ?_)
  obtain ⟨ex_5, hL_5, h⟩ := bd_el h
  refine HL2  fu 0 g0 ex_5 hL_5 H locs ls hP hS (lv_sub hl [1, 0] rfl) (fun g0_5 he H locs ls hP hS hl => ?_)
  subst he
  exact ret_v (fun u => (wM tc a0 u)) (res := G0) (Option.some.inj h) X hQ hP hS dX12_putsAside_27

def f_X12_comesBack_L2 (n : Nat) (a : Int32 × Pic) : Option (Pic) := lp (fun (rec : Int32 × Pic → Option (Pic)) (a : Int32 × Pic) => match a with | (x1, g0) => (if 456 ≤ x1 then some g0 else gdi x1 456 (gdi x1 856 (nm (pu g0 1 (x1.toNatClampNeg) (g0 4 (x1.toNatClampNeg))) (fun g0_3 => nm (x1 + 1) (fun x1_4 => rec (x1_4, g0_3))))))) n a
def f_X12_comesBack (g0 : Pic) : Option (Pic) := bd (f_X12_comesBack_L2  fu (0, g0)) (fun g0_5 => some g0_5)
abbrev rm_X12_comesBack : Room := { frames := 0, cells := 0, slots := 0, locals := 0 }
set_option maxHeartbeats 4000000 in
set_option maxRecDepth 100000 in
theorem c_X12_comesBack (l : Launch) (dC : Nat → ClassId) (dI : Nat → Nat → Nat) (sk sv : Nat → Nat) (tc : Nat → ClassId) (a0 : Nat → Nat) (g0 : Pic) {G0 : Pic} (h : f_X12_comesBack g0 = some G0) : CT l (dC, dI) sk sv (TY tc) yX12_comesBack cX12_comesBack 2 none rm_X12_comesBack [.ref (a0 0)] (wM tc a0 g0) none (wM tc a0 G0) := by
  refine ofCT (by decide) (Nat.le_of_ble_eq_true rfl) ?_
  intro pr e s m args below meth c A Q ls H locs X hQ hD0 hP hS hl
  have hD : ∀ z0, va_D A (wM tc a0 z0) := fun z0 => D_fst (ws := (wM tc a0 g0)) rfl hD0
  have hl : lv_has ls 2 [(0, .ref (a0 0))] := hl
  have HL2 : ∀ (n : Nat) (x1 : Int32) (g0 : Pic) (ex : (Pic)), f_X12_comesBack_L2  n (x1, g0) = some ex → ∀ (H : Heap) (locs : List Loc) (ls : Array Slot), va_P (dC, dI) vwCl (wM tc a0 g0) H → va_S A s.heap H locs → lv_has ls 2 [(0, .ref (a0 0)), (1, .int x1)] → (∀ (k0 : Pic), k0 = ex → ∀ (H : Heap) (locs : List Loc) (ls : Array Slot), va_P (dC, dI) vwCl (wM tc a0 k0) H → va_S A s.heap H locs → lv_has ls 2 [] → W pr l e rm_X12_comesBack s m args below meth c H locs 0 0 Q (F0 m 27 ls [])) → W pr l e rm_X12_comesBack s m args below meth c H locs 0 0 Q (F0 m 2 ls []) := by
    intro n
    induction n with
    | zero => intro x1 g0 ex h; exact lp_z h
    | succ n ih =>
      intro x1 g0 ex h H locs ls hP hS hl K
      have h := lp_s h
      refine lv_iload_n X.1 X.2.1 dX12_comesBack_2 rfl (lv_at hl 1 rfl) ?_
      refine lv_sipush (v := 456) X.1 X.2.1 dX12_comesBack_3 (by decide) ?_
      refine lv_icmp_ge (tgt := 27) X.1 X.2.1 dX12_comesBack_6 (by decide) (fun hc => ?_) (fun hc => ?_)
      · have h := it_t hc h
        exact K g0 (Option.some.inj h) H locs ls hP hS (lv_sub hl [] rfl)
      · have h := it_f hc h
        refine lv_aload_n X.1 X.2.1 dX12_comesBack_9 rfl (lv_at hl 0 rfl) ?_
        refine r_get (C := RX12) (T := TX12) (N := 28) (ci := 12) (v := .ref (a0 2)) X iw12 hP 0 rfl rfl 1 rfl mw_7_121 rfl dX12_comesBack_10 ?_
        refine lv_iload_n X.1 X.2.1 dX12_comesBack_13 rfl (lv_at hl 1 rfl) ?_
        refine lv_aload_n X.1 X.2.1 dX12_comesBack_14 rfl (lv_at hl 0 rfl) ?_
        refine r_get (C := RX12) (T := TX12) (N := 28) (ci := 12) (v := .ref (a0 5)) X iw12 hP 0 rfl rfl 4 rfl mw_7_124 rfl dX12_comesBack_15 ?_
        refine lv_iload_n X.1 X.2.1 dX12_comesBack_18 rfl (lv_at hl 1 rfl) ?_
        obtain ⟨hg_1, h⟩ := gdi_el h
        refine r_iald X hP 3 0 rfl rfl hg_1 rfl dX12_comesBack_19 ?_
        obtain ⟨hg_2, h⟩ := gdi_el h
        obtain ⟨g0_3, eg0_3, h⟩ := nm_el h
        refine r_iast X hP (hD _) hS 1 0 rfl rfl hg_2 rfl dX12_comesBack_20 (wM tc a0 g0_3) (by rw [eg0_3]; rfl) (fun H locs hP hS => ?_)
        obtain ⟨x1_4, ex1_4, h⟩ := nm_el h
        refine lv_iinc (v := x1_4) (lv' := [(1, .int x1_4), (0, .ref (a0 0))]) X.1 X.2.1 dX12_comesBack_21 hl (k := 1) rfl (by rw [ex1_4]; rfl) (by decide) rfl (fun ls hl => ?_)
        refine lv_goto (tgt := 2) X.1 X.2.1 dX12_comesBack_24 (by decide) ?_
        exact ih x1_4 g0_3 ex h H locs ls hP hS (lv_sub hl [1, 0] rfl) K
  unfold f_X12_comesBack at h
  refine lv_iconst (v := 0) X.1 X.2.1 dX12_comesBack_0 (by decide) ?_
  refine lv_istore_n (lv' := [(1, .int 0), (0, .ref (a0 0))]) X.1 X.2.1 dX12_comesBack_1 rfl hl (by decide) rfl (fun ls hl => ?_)
  obtain ⟨ex_5, hL_5, h⟩ := bd_el h
  refine HL2  fu 0 g0 ex_5 hL_5 H locs ls hP hS (lv_sub hl [1, 0] rfl) (fun g0_5 he H locs ls hP hS hl => ?_)
  subst he
  exact ret_v (fun u => (wM tc a0 u)) (res := G0) (Option.some.inj h) X hQ hP hS dX12_comesBack_27

def f_X12_fault (g0 : Pic) : Option (Int32 × Pic) := nm (pu g0 0 0 0) (fun g0_1 => some ((g0_1 12 0), g0_1))
abbrev rm_X12_fault : Room := { frames := 0, cells := 0, slots := 0, locals := 0 }
set_option maxHeartbeats 4000000 in
set_option maxRecDepth 100000 in
theorem c_X12_fault (l : Launch) (dC : Nat → ClassId) (dI : Nat → Nat → Nat) (sk sv : Nat → Nat) (tc : Nat → ClassId) (a0 : Nat → Nat) (g0 : Pic) {r0 : Int32} {G0 : Pic} (h : f_X12_fault g0 = some (r0, G0)) : CT l (dC, dI) sk sv (TY tc) yX12_fault cX12_fault 1 (some .int) rm_X12_fault [.ref (a0 0)] (wM tc a0 g0) (some (.int r0)) (wM tc a0 G0) := by
  refine ofCT (by decide) (Nat.le_of_ble_eq_true rfl) ?_
  intro pr e s m args below meth c A Q ls H locs X hQ hD0 hP hS hl
  have hD : ∀ z0, va_D A (wM tc a0 z0) := fun z0 => D_fst (ws := (wM tc a0 g0)) rfl hD0
  have hl : lv_has ls 1 [(0, .ref (a0 0))] := hl
  unfold f_X12_fault at h
  refine lv_aload_n X.1 X.2.1 dX12_fault_0 rfl (lv_at hl 0 rfl) ?_
  refine lv_iconst (v := 0) X.1 X.2.1 dX12_fault_1 (by decide) ?_
  obtain ⟨g0_1, eg0_1, h⟩ := nm_el h
  refine r_put (C := RX12) (T := TX12) (N := 28) (ci := 12) tyX12 tyX12_ok nmX12 X iw12 hP (hD _) hS 0 rfl rfl 0 rfl mw_7_120 rfl rfl rfl rfl dX12_fault_2 (wM tc a0 g0_1) (by rw [eg0_1]; rfl) (fun H locs hP hS => ?_)
  refine lv_aload_n X.1 X.2.1 dX12_fault_5 rfl (lv_at hl 0 rfl) ?_
  refine r_get (C := RX12) (T := TX12) (N := 28) (ci := 12) (v := .int (g0_1 12 0)) X iw12 hP 0 rfl rfl 12 rfl mw_7_132 rfl dX12_fault_6 ?_
  exact ret_i (fun u => (wM tc a0 u)) (res := (r0, G0)) (Option.some.inj h) X hQ hP hS dX12_fault_9

def f_X12_markBy_L5 (x1 : Int32) (x2 : Int32) (g0 : Pic) (n : Nat) (a : Int32 × Int32) : Option (Int32) := lp (fun (rec : Int32 × Int32 → Option (Int32)) (a : Int32 × Int32) => match a with | (x3, x4) => bd (f_X12_ofWord g0 x1 6) (fun r_1 => (if r_1 ≤ x4 then some x3 else bd (f_X12_ofWord g0 x1 x4) (fun r_2 => bd (f_X12_isOf x2 r_2) (fun r_3 => jn (fun (s0_J49 : Int32) => nm (x4 + 1) (fun x4_4 => rec (s0_J49, x4_4))) (fun J49 => (if r_3 = 0 then bd (f_X12_ofWord g0 x1 x4) (fun r_5 => J49 (((9 * x3) + r_5) + 1)) else J49 x3))))))) n a
def f_X12_markBy (g0 : Pic) (x1 : Int32) (x2 : Int32) : Option (Int32) := bd (f_X12_markBy_L5 x1 x2 g0 fu (0, 0)) (fun x3_6 => some x3_6)
abbrev rm_X12_markBy : Room := { frames := 1, cells := 0, slots := 0, locals := 22 }
set_option maxHeartbeats 4000000 in
set_option maxRecDepth 100000 in
theorem c_X12_markBy (l : Launch) (dC : Nat → ClassId) (dI : Nat → Nat → Nat) (sk sv : Nat → Nat) (tc : Nat → ClassId) (a0 : Nat → Nat) (g0 : Pic) (x1 : Int32) (x2 : Int32) {r0 : Int32} (h : f_X12_markBy g0 x1 x2 = some r0) : CT l (dC, dI) sk sv (TY tc) yX12_markBy cX12_markBy 5 (some .int) rm_X12_markBy [.ref (a0 0), .int x1, .int x2] (wM tc a0 g0) (some (.int r0)) (wM tc a0 g0) := by
  refine ofCT (by decide) (Nat.le_of_ble_eq_true rfl) ?_
  intro pr e s m args below meth c A Q ls H locs X hQ hD0 hP hS hl
  have hD : ∀ z0, va_D A (wM tc a0 z0) := fun z0 => D_fst (ws := (wM tc a0 g0)) rfl hD0
  have hl : lv_has ls 5 [(0, .ref (a0 0)), (1, .int x1), (2, .int x2)] := hl
  have HL5 : ∀ (x1 : Int32) (x2 : Int32) (n : Nat) (x3 : Int32) (x4 : Int32) (ex : (Int32)), f_X12_markBy_L5 x1 x2 g0 n (x3, x4) = some ex → ∀ (H : Heap) (locs : List Loc) (ls : Array Slot), va_P (dC, dI) vwCl (wM tc a0 g0) H → va_S A s.heap H locs → lv_has ls 5 [(0, .ref (a0 0)), (1, .int x1), (2, .int x2), (3, .int x3), (4, .int x4)] → (∀ (y3 : Int32), y3 = ex → ∀ (H : Heap) (locs : List Loc) (ls : Array Slot), va_P (dC, dI) vwCl (wM tc a0 g0) H → va_S A s.heap H locs → lv_has ls 5 [(3, .int y3)] → W pr l e rm_X12_markBy s m args below meth c H locs 0 0 Q (F0 m 56 ls [])) → W pr l e rm_X12_markBy s m args below meth c H locs 0 0 Q (F0 m 5 ls []) := by
    intro x1 x2 n
    induction n with
    | zero => intro x3 x4 ex h; exact lp_z h
    | succ n ih =>
      intro x3 x4 ex h H locs ls hP hS hl K
      have h := lp_s h
      refine lv_iload X.1 X.2.1 dX12_markBy_5 (lv_at hl 4 rfl) ?_
      refine lv_aload_n X.1 X.2.1 dX12_markBy_7 rfl (lv_at hl 0 rfl) ?_
      refine lv_iload_n X.1 X.2.1 dX12_markBy_8 rfl (lv_at hl 1 rfl) ?_
      refine lv_bipush (v := 6) X.1 X.2.1 dX12_markBy_9 (by decide) ?_
      obtain ⟨r_1, hc_1, h⟩ := bd_el h
      refine call_V1i (As := [.int x1, .int 6]) (rest := [.int x4]) X (c_X12_ofWord l dC dI sk sv tc a0 g0 x1 6 hc_1) mw_8_140 mw_8_142 mp_3_10 mw_1_12 mw_8_143 dc_X12_ofWord ⟨Nat.le_of_ble_eq_true rfl, Nat.le_of_ble_eq_true rfl⟩ rfl rfl ⟨Nat.zero_le _, Nat.zero_le _⟩ hP (hD _) hS 0 rfl rfl rfl hl.1 (Nat.le_of_ble_eq_true rfl) dX12_markBy_11 (fun H locs hP hS => ?_)
      refine lv_icmp_ge (tgt := 56) X.1 X.2.1 dX12_markBy_14 (by decide) (fun hc => ?_) (fun hc => ?_)
      · have h := it_t hc h
        exact K x3 (Option.some.inj h) H locs ls hP hS (lv_sub hl [3] rfl)
      · have h := it_f hc h
        refine lv_iload_n X.1 X.2.1 dX12_markBy_17 rfl (lv_at hl 2 rfl) ?_
        refine lv_aload_n X.1 X.2.1 dX12_markBy_18 rfl (lv_at hl 0 rfl) ?_
        refine lv_iload_n X.1 X.2.1 dX12_markBy_19 rfl (lv_at hl 1 rfl) ?_
        refine lv_iload X.1 X.2.1 dX12_markBy_20 (lv_at hl 4 rfl) ?_
        obtain ⟨r_2, hc_2, h⟩ := bd_el h
        refine call_V1i (As := [.int x1, .int x4]) (rest := [.int x2]) X (c_X12_ofWord l dC dI sk sv tc a0 g0 x1 x4 hc_2) mw_8_140 mw_8_142 mp_3_10 mw_1_12 mw_8_143 dc_X12_ofWord ⟨Nat.le_of_ble_eq_true rfl, Nat.le_of_ble_eq_true rfl⟩ rfl rfl ⟨Nat.zero_le _, Nat.zero_le _⟩ hP (hD _) hS 0 rfl rfl rfl hl.1 (Nat.le_of_ble_eq_true rfl) dX12_markBy_22 (fun H locs hP hS => ?_)
        obtain ⟨r_3, hc_3, h⟩ := bd_el h
        refine call_S0i (As := [.int x2, .int r_2]) (rest := []) X (c_X12_isOf l dC dI sk sv tc x2 r_2 hc_3) mw_8_192 mw_8_193 mw_1_12 mw_8_194 dc_X12_isOf ⟨Nat.le_of_ble_eq_true rfl, Nat.le_of_ble_eq_true rfl⟩ rfl rfl ⟨Nat.zero_le _, Nat.zero_le _⟩ hP (hD _) hS hl.1 (Nat.le_of_ble_eq_true rfl) dX12_markBy_25 (fun H locs hP hS => ?_)
        obtain ⟨J49, eJ49, h⟩ := jn_el h
        have HJ49 : ∀ (s0_J49 : Int32) (H : Heap) (locs : List Loc) (ls : Array Slot), J49 s0_J49 = some ex → va_P (dC, dI) vwCl (wM tc a0 g0) H → va_S A s.heap H locs → lv_has ls 5 [(0, .ref (a0 0)), (1, .int x1), (2, .int x2), (4, .int x4)] → W pr l e rm_X12_markBy s m args below meth c H locs 0 0 Q (F0 m 49 ls [.int s0_J49]) := by
          intro s0_J49 H locs ls h hP hS hl
          rw [eJ49] at h
          refine lv_istore_n (lv' := [(3, .int s0_J49), (0, .ref (a0 0)), (1, .int x1), (2, .int x2), (4, .int x4)]) X.1 X.2.1 dX12_markBy_49 rfl hl (by decide) rfl (fun ls hl => ?_)
          obtain ⟨x4_4, ex4_4, h⟩ := nm_el h
          refine lv_iinc (v := x4_4) (lv' := [(4, .int x4_4), (3, .int s0_J49), (0, .ref (a0 0)), (1, .int x1), (2, .int x2)]) X.1 X.2.1 dX12_markBy_50 hl (k := 4) rfl (by rw [ex4_4]; rfl) (by decide) rfl (fun ls hl => ?_)
          refine lv_goto (tgt := 5) X.1 X.2.1 dX12_markBy_53 (by decide) ?_
          exact ih s0_J49 x4_4 ex h H locs ls hP hS (lv_sub hl [2, 3, 4, 1, 0] rfl) K
        refine lv_if_eq (tgt := 35) X.1 X.2.1 dX12_markBy_28 (by decide) (fun hc => ?_) (fun hc => ?_)
        · have h := it_t hc h
          refine lv_bipush (v := 9) X.1 X.2.1 dX12_markBy_35 (by decide) ?_
          refine lv_iload_n X.1 X.2.1 dX12_markBy_37 rfl (lv_at hl 3 rfl) ?_
          refine lv_imul X.1 X.2.1 dX12_markBy_38 ?_
          refine lv_aload_n X.1 X.2.1 dX12_markBy_39 rfl (lv_at hl 0 rfl) ?_
          refine lv_iload_n X.1 X.2.1 dX12_markBy_40 rfl (lv_at hl 1 rfl) ?_
          refine lv_iload X.1 X.2.1 dX12_markBy_41 (lv_at hl 4 rfl) ?_
          obtain ⟨r_5, hc_5, h⟩ := bd_el h
          refine call_V1i (As := [.int x1, .int x4]) (rest := [.int (9 * x3)]) X (c_X12_ofWord l dC dI sk sv tc a0 g0 x1 x4 hc_5) mw_8_140 mw_8_142 mp_3_10 mw_1_12 mw_8_143 dc_X12_ofWord ⟨Nat.le_of_ble_eq_true rfl, Nat.le_of_ble_eq_true rfl⟩ rfl rfl ⟨Nat.zero_le _, Nat.zero_le _⟩ hP (hD _) hS 0 rfl rfl rfl hl.1 (Nat.le_of_ble_eq_true rfl) dX12_markBy_43 (fun H locs hP hS => ?_)
          refine lv_iadd X.1 X.2.1 dX12_markBy_46 ?_
          refine lv_iconst (v := 1) X.1 X.2.1 dX12_markBy_47 (by decide) ?_
          refine lv_iadd X.1 X.2.1 dX12_markBy_48 ?_
          exact HJ49 (((9 * x3) + r_5) + 1) H locs ls h hP hS (lv_sub hl [0, 1, 2, 4] rfl)
        · have h := it_f hc h
          refine lv_iload_n X.1 X.2.1 dX12_markBy_31 rfl (lv_at hl 3 rfl) ?_
          refine lv_goto (tgt := 49) X.1 X.2.1 dX12_markBy_32 (by decide) ?_
          exact HJ49 x3 H locs ls h hP hS (lv_sub hl [0, 1, 2, 4] rfl)
  unfold f_X12_markBy at h
  refine lv_iconst (v := 0) X.1 X.2.1 dX12_markBy_0 (by decide) ?_
  refine lv_istore_n (lv' := [(3, .int 0), (0, .ref (a0 0)), (1, .int x1), (2, .int x2)]) X.1 X.2.1 dX12_markBy_1 rfl hl (by decide) rfl (fun ls hl => ?_)
  refine lv_iconst (v := 0) X.1 X.2.1 dX12_markBy_2 (by decide) ?_
  refine lv_istore (lv' := [(4, .int 0), (3, .int 0), (0, .ref (a0 0)), (1, .int x1), (2, .int x2)]) X.1 X.2.1 dX12_markBy_3 hl (by decide) rfl (fun ls hl => ?_)
  obtain ⟨ex_6, hL_6, h⟩ := bd_el h
  refine HL5 x1 x2 fu 0 0 ex_6 hL_6 H locs ls hP hS (lv_sub hl [2, 3, 4, 1, 0] rfl) (fun x3_6 he H locs ls hP hS hl => ?_)
  subst he
  refine lv_iload_n X.1 X.2.1 dX12_markBy_56 rfl (lv_at hl 0 rfl) ?_
  exact ret_i0 (Option.some.inj h) X hQ hP hS dX12_markBy_57

def f_X12_strokesBy_L5 (x1 : Int32) (x2 : Int32) (g0 : Pic) (n : Nat) (a : Int32 × Int32) : Option (Int32) := lp (fun (rec : Int32 × Int32 → Option (Int32)) (a : Int32 × Int32) => match a with | (x3, x4) => bd (f_X12_ofWord g0 x1 6) (fun r_1 => (if r_1 ≤ x4 then some x3 else bd (f_X12_ofWord g0 x1 x4) (fun r_2 => bd (f_X12_isOf x2 r_2) (fun r_3 => jn (fun (s0_J37 : Int32) (s1_J37 : Int32) => nm ((s0_J37 + s1_J37)) (fun x3_4 => nm (x4 + 1) (fun x4_5 => rec (x3_4, x4_5)))) (fun J37 => (if r_3 = 0 then J37 x3 1 else J37 x3 0))))))) n a
def f_X12_strokesBy (g0 : Pic) (x1 : Int32) (x2 : Int32) : Option (Int32) := bd (f_X12_strokesBy_L5 x1 x2 g0 fu (0, 0)) (fun x3_6 => some x3_6)
abbrev rm_X12_strokesBy : Room := { frames := 1, cells := 0, slots := 0, locals := 22 }
set_option maxHeartbeats 4000000 in
set_option maxRecDepth 100000 in
theorem c_X12_strokesBy (l : Launch) (dC : Nat → ClassId) (dI : Nat → Nat → Nat) (sk sv : Nat → Nat) (tc : Nat → ClassId) (a0 : Nat → Nat) (g0 : Pic) (x1 : Int32) (x2 : Int32) {r0 : Int32} (h : f_X12_strokesBy g0 x1 x2 = some r0) : CT l (dC, dI) sk sv (TY tc) yX12_strokesBy cX12_strokesBy 5 (some .int) rm_X12_strokesBy [.ref (a0 0), .int x1, .int x2] (wM tc a0 g0) (some (.int r0)) (wM tc a0 g0) := by
  refine ofCT (by decide) (Nat.le_of_ble_eq_true rfl) ?_
  intro pr e s m args below meth c A Q ls H locs X hQ hD0 hP hS hl
  have hD : ∀ z0, va_D A (wM tc a0 z0) := fun z0 => D_fst (ws := (wM tc a0 g0)) rfl hD0
  have hl : lv_has ls 5 [(0, .ref (a0 0)), (1, .int x1), (2, .int x2)] := hl
  have HL5 : ∀ (x1 : Int32) (x2 : Int32) (n : Nat) (x3 : Int32) (x4 : Int32) (ex : (Int32)), f_X12_strokesBy_L5 x1 x2 g0 n (x3, x4) = some ex → ∀ (H : Heap) (locs : List Loc) (ls : Array Slot), va_P (dC, dI) vwCl (wM tc a0 g0) H → va_S A s.heap H locs → lv_has ls 5 [(0, .ref (a0 0)), (1, .int x1), (2, .int x2), (3, .int x3), (4, .int x4)] → (∀ (y3 : Int32), y3 = ex → ∀ (H : Heap) (locs : List Loc) (ls : Array Slot), va_P (dC, dI) vwCl (wM tc a0 g0) H → va_S A s.heap H locs → lv_has ls 5 [(3, .int y3)] → W pr l e rm_X12_strokesBy s m args below meth c H locs 0 0 Q (F0 m 45 ls [])) → W pr l e rm_X12_strokesBy s m args below meth c H locs 0 0 Q (F0 m 5 ls []) := by
    intro x1 x2 n
    induction n with
    | zero => intro x3 x4 ex h; exact lp_z h
    | succ n ih =>
      intro x3 x4 ex h H locs ls hP hS hl K
      have h := lp_s h
      refine lv_iload X.1 X.2.1 dX12_strokesBy_5 (lv_at hl 4 rfl) ?_
      refine lv_aload_n X.1 X.2.1 dX12_strokesBy_7 rfl (lv_at hl 0 rfl) ?_
      refine lv_iload_n X.1 X.2.1 dX12_strokesBy_8 rfl (lv_at hl 1 rfl) ?_
      refine lv_bipush (v := 6) X.1 X.2.1 dX12_strokesBy_9 (by decide) ?_
      obtain ⟨r_1, hc_1, h⟩ := bd_el h
      refine call_V1i (As := [.int x1, .int 6]) (rest := [.int x4]) X (c_X12_ofWord l dC dI sk sv tc a0 g0 x1 6 hc_1) mw_8_140 mw_8_142 mp_3_10 mw_1_12 mw_8_143 dc_X12_ofWord ⟨Nat.le_of_ble_eq_true rfl, Nat.le_of_ble_eq_true rfl⟩ rfl rfl ⟨Nat.zero_le _, Nat.zero_le _⟩ hP (hD _) hS 0 rfl rfl rfl hl.1 (Nat.le_of_ble_eq_true rfl) dX12_strokesBy_11 (fun H locs hP hS => ?_)
      refine lv_icmp_ge (tgt := 45) X.1 X.2.1 dX12_strokesBy_14 (by decide) (fun hc => ?_) (fun hc => ?_)
      · have h := it_t hc h
        exact K x3 (Option.some.inj h) H locs ls hP hS (lv_sub hl [3] rfl)
      · have h := it_f hc h
        refine lv_iload_n X.1 X.2.1 dX12_strokesBy_17 rfl (lv_at hl 3 rfl) ?_
        refine lv_iload_n X.1 X.2.1 dX12_strokesBy_18 rfl (lv_at hl 2 rfl) ?_
        refine lv_aload_n X.1 X.2.1 dX12_strokesBy_19 rfl (lv_at hl 0 rfl) ?_
        refine lv_iload_n X.1 X.2.1 dX12_strokesBy_20 rfl (lv_at hl 1 rfl) ?_
        refine lv_iload X.1 X.2.1 dX12_strokesBy_21 (lv_at hl 4 rfl) ?_
        obtain ⟨r_2, hc_2, h⟩ := bd_el h
        refine call_V1i (As := [.int x1, .int x4]) (rest := [.int x2, .int x3]) X (c_X12_ofWord l dC dI sk sv tc a0 g0 x1 x4 hc_2) mw_8_140 mw_8_142 mp_3_10 mw_1_12 mw_8_143 dc_X12_ofWord ⟨Nat.le_of_ble_eq_true rfl, Nat.le_of_ble_eq_true rfl⟩ rfl rfl ⟨Nat.zero_le _, Nat.zero_le _⟩ hP (hD _) hS 0 rfl rfl rfl hl.1 (Nat.le_of_ble_eq_true rfl) dX12_strokesBy_23 (fun H locs hP hS => ?_)
        obtain ⟨r_3, hc_3, h⟩ := bd_el h
        refine call_S0i (As := [.int x2, .int r_2]) (rest := [.int x3]) X (c_X12_isOf l dC dI sk sv tc x2 r_2 hc_3) mw_8_192 mw_8_193 mw_1_12 mw_8_194 dc_X12_isOf ⟨Nat.le_of_ble_eq_true rfl, Nat.le_of_ble_eq_true rfl⟩ rfl rfl ⟨Nat.zero_le _, Nat.zero_le _⟩ hP (hD _) hS hl.1 (Nat.le_of_ble_eq_true rfl) dX12_strokesBy_26 (fun H locs hP hS => ?_)
        obtain ⟨J37, eJ37, h⟩ := jn_el h
        have HJ37 : ∀ (s0_J37 : Int32) (s1_J37 : Int32) (H : Heap) (locs : List Loc) (ls : Array Slot), J37 s0_J37 s1_J37 = some ex → va_P (dC, dI) vwCl (wM tc a0 g0) H → va_S A s.heap H locs → lv_has ls 5 [(0, .ref (a0 0)), (1, .int x1), (2, .int x2), (4, .int x4)] → W pr l e rm_X12_strokesBy s m args below meth c H locs 0 0 Q (F0 m 37 ls [.int s1_J37, .int s0_J37]) := by
          intro s0_J37 s1_J37 H locs ls h hP hS hl
          rw [eJ37] at h
          refine lv_iadd X.1 X.2.1 dX12_strokesBy_37 ?_
          obtain ⟨x3_4, ex3_4, h⟩ := nm_el h
          refine tp_i ex3_4 ?_
          refine lv_istore_n (lv' := [(3, .int x3_4), (0, .ref (a0 0)), (1, .int x1), (2, .int x2), (4, .int x4)]) X.1 X.2.1 dX12_strokesBy_38 rfl hl (by decide) rfl (fun ls hl => ?_)
          obtain ⟨x4_5, ex4_5, h⟩ := nm_el h
          refine lv_iinc (v := x4_5) (lv' := [(4, .int x4_5), (3, .int x3_4), (0, .ref (a0 0)), (1, .int x1), (2, .int x2)]) X.1 X.2.1 dX12_strokesBy_39 hl (k := 4) rfl (by rw [ex4_5]; rfl) (by decide) rfl (fun ls hl => ?_)
          refine lv_goto (tgt := 5) X.1 X.2.1 dX12_strokesBy_42 (by decide) ?_
          exact ih x3_4 x4_5 ex h H locs ls hP hS (lv_sub hl [2, 3, 4, 1, 0] rfl) K
        refine lv_if_eq (tgt := 36) X.1 X.2.1 dX12_strokesBy_29 (by decide) (fun hc => ?_) (fun hc => ?_)
        · have h := it_t hc h
          refine lv_iconst (v := 1) X.1 X.2.1 dX12_strokesBy_36 (by decide) ?_
          exact HJ37 x3 1 H locs ls h hP hS (lv_sub hl [0, 1, 2, 4] rfl)
        · have h := it_f hc h
          refine lv_iconst (v := 0) X.1 X.2.1 dX12_strokesBy_32 (by decide) ?_
          refine lv_goto (tgt := 37) X.1 X.2.1 dX12_strokesBy_33 (by decide) ?_
          exact HJ37 x3 0 H locs ls h hP hS (lv_sub hl [0, 1, 2, 4] rfl)
  unfold f_X12_strokesBy at h
  refine lv_iconst (v := 0) X.1 X.2.1 dX12_strokesBy_0 (by decide) ?_
  refine lv_istore_n (lv' := [(3, .int 0), (0, .ref (a0 0)), (1, .int x1), (2, .int x2)]) X.1 X.2.1 dX12_strokesBy_1 rfl hl (by decide) rfl (fun ls hl => ?_)
  refine lv_iconst (v := 0) X.1 X.2.1 dX12_strokesBy_2 (by decide) ?_
  refine lv_istore (lv' := [(4, .int 0), (3, .int 0), (0, .ref (a0 0)), (1, .int x1), (2, .int x2)]) X.1 X.2.1 dX12_strokesBy_3 hl (by decide) rfl (fun ls hl => ?_)
  obtain ⟨ex_6, hL_6, h⟩ := bd_el h
  refine HL5 x1 x2 fu 0 0 ex_6 hL_6 H locs ls hP hS (lv_sub hl [2, 3, 4, 1, 0] rfl) (fun x3_6 he H locs ls hP hS hl => ?_)
  subst he
  refine lv_iload_n X.1 X.2.1 dX12_strokesBy_45 rfl (lv_at hl 0 rfl) ?_
  exact ret_i0 (Option.some.inj h) X hQ hP hS dX12_strokesBy_46

def f_X12_likeBy_L5 (x1 : Int32) (x2 : Int32) (g0 : Pic) (n : Nat) (a : Int32 × Int32) : Option (Int32) := lp (fun (rec : Int32 × Int32 → Option (Int32)) (a : Int32 × Int32) => match a with | (x3, x4) => (if (g0 1 3) ≤ x4 then some x3 else bd (f_X12_markBy g0 x4 x2) (fun r_1 => bd (f_X12_markBy g0 x1 x2) (fun r_2 => jn (fun (s0_J41 : Int32) (s1_J41 : Int32) => nm ((s0_J41 ||| s1_J41)) (fun x3_3 => nm (x4 + 1) (fun x4_4 => rec (x3_3, x4_4)))) (fun J41 => (if r_1 = r_2 then J41 x3 (1 <<< (x4 &&& 31)) else J41 x3 0)))))) n a
def f_X12_likeBy (g0 : Pic) (x1 : Int32) (x2 : Int32) : Option (Int32) := bd (f_X12_likeBy_L5 x1 x2 g0 fu (0, 0)) (fun x3_5 => some x3_5)
abbrev rm_X12_likeBy : Room := { frames := 2, cells := 0, slots := 0, locals := 46 }
set_option maxHeartbeats 4000000 in
set_option maxRecDepth 100000 in
theorem c_X12_likeBy (l : Launch) (dC : Nat → ClassId) (dI : Nat → Nat → Nat) (sk sv : Nat → Nat) (tc : Nat → ClassId) (a0 : Nat → Nat) (g0 : Pic) (x1 : Int32) (x2 : Int32) {r0 : Int32} (h : f_X12_likeBy g0 x1 x2 = some r0) : CT l (dC, dI) sk sv (TY tc) yX12_likeBy cX12_likeBy 5 (some .int) rm_X12_likeBy [.ref (a0 0), .int x1, .int x2] (wM tc a0 g0) (some (.int r0)) (wM tc a0 g0) := by
  refine ofCT (by decide) (Nat.le_of_ble_eq_true rfl) ?_
  intro pr e s m args below meth c A Q ls H locs X hQ hD0 hP hS hl
  have hD : ∀ z0, va_D A (wM tc a0 z0) := fun z0 => D_fst (ws := (wM tc a0 g0)) rfl hD0
  have hl : lv_has ls 5 [(0, .ref (a0 0)), (1, .int x1), (2, .int x2)] := hl
  have HL5 : ∀ (x1 : Int32) (x2 : Int32) (n : Nat) (x3 : Int32) (x4 : Int32) (ex : (Int32)), f_X12_likeBy_L5 x1 x2 g0 n (x3, x4) = some ex → ∀ (H : Heap) (locs : List Loc) (ls : Array Slot), va_P (dC, dI) vwCl (wM tc a0 g0) H → va_S A s.heap H locs → lv_has ls 5 [(0, .ref (a0 0)), (1, .int x1), (2, .int x2), (3, .int x3), (4, .int x4)] → (∀ (y3 : Int32), y3 = ex → ∀ (H : Heap) (locs : List Loc) (ls : Array Slot), va_P (dC, dI) vwCl (wM tc a0 g0) H → va_S A s.heap H locs → lv_has ls 5 [(3, .int y3)] → W pr l e rm_X12_likeBy s m args below meth c H locs 0 0 Q (F0 m 49 ls [])) → W pr l e rm_X12_likeBy s m args below meth c H locs 0 0 Q (F0 m 5 ls []) := by
    intro x1 x2 n
    induction n with
    | zero => intro x3 x4 ex h; exact lp_z h
    | succ n ih =>
      intro x3 x4 ex h H locs ls hP hS hl K
      have h := lp_s h
      refine lv_iload X.1 X.2.1 dX12_likeBy_5 (lv_at hl 4 rfl) ?_
      refine lv_aload_n X.1 X.2.1 dX12_likeBy_7 rfl (lv_at hl 0 rfl) ?_
      refine r_get (C := RX12) (T := TX12) (N := 28) (ci := 12) (v := .ref (a0 2)) X iw12 hP 0 rfl rfl 1 rfl mw_7_121 rfl dX12_likeBy_8 ?_
      refine lv_iconst (v := 3) X.1 X.2.1 dX12_likeBy_11 (by decide) ?_
      refine r_iald X hP 1 0 rfl rfl (j := 3) (by unfold vp_in; decide) (by decide) dX12_likeBy_12 ?_
      refine lv_icmp_ge (tgt := 49) X.1 X.2.1 dX12_likeBy_13 (by decide) (fun hc => ?_) (fun hc => ?_)
      · have h := it_t hc h
        exact K x3 (Option.some.inj h) H locs ls hP hS (lv_sub hl [3] rfl)
      · have h := it_f hc h
        refine lv_iload_n X.1 X.2.1 dX12_likeBy_16 rfl (lv_at hl 3 rfl) ?_
        refine lv_aload_n X.1 X.2.1 dX12_likeBy_17 rfl (lv_at hl 0 rfl) ?_
        refine lv_iload X.1 X.2.1 dX12_likeBy_18 (lv_at hl 4 rfl) ?_
        refine lv_iload_n X.1 X.2.1 dX12_likeBy_20 rfl (lv_at hl 2 rfl) ?_
        obtain ⟨r_1, hc_1, h⟩ := bd_el h
        refine call_V1i (As := [.int x4, .int x2]) (rest := [.int x3]) X (c_X12_markBy l dC dI sk sv tc a0 g0 x4 x2 hc_1) mw_8_207 mw_8_209 mp_4_7 mw_1_12 mw_8_210 dc_X12_markBy ⟨Nat.le_of_ble_eq_true rfl, Nat.le_of_ble_eq_true rfl⟩ rfl rfl ⟨Nat.zero_le _, Nat.zero_le _⟩ hP (hD _) hS 0 rfl rfl rfl hl.1 (Nat.le_of_ble_eq_true rfl) dX12_likeBy_21 (fun H locs hP hS => ?_)
        refine lv_aload_n X.1 X.2.1 dX12_likeBy_24 rfl (lv_at hl 0 rfl) ?_
        refine lv_iload_n X.1 X.2.1 dX12_likeBy_25 rfl (lv_at hl 1 rfl) ?_
        refine lv_iload_n X.1 X.2.1 dX12_likeBy_26 rfl (lv_at hl 2 rfl) ?_
        obtain ⟨r_2, hc_2, h⟩ := bd_el h
        refine call_V1i (As := [.int x1, .int x2]) (rest := [.int r_1, .int x3]) X (c_X12_markBy l dC dI sk sv tc a0 g0 x1 x2 hc_2) mw_8_207 mw_8_209 mp_4_7 mw_1_12 mw_8_210 dc_X12_markBy ⟨Nat.le_of_ble_eq_true rfl, Nat.le_of_ble_eq_true rfl⟩ rfl rfl ⟨Nat.zero_le _, Nat.zero_le _⟩ hP (hD _) hS 0 rfl rfl rfl hl.1 (Nat.le_of_ble_eq_true rfl) dX12_likeBy_27 (fun H locs hP hS => ?_)
        obtain ⟨J41, eJ41, h⟩ := jn_el h
        have HJ41 : ∀ (s0_J41 : Int32) (s1_J41 : Int32) (H : Heap) (locs : List Loc) (ls : Array Slot), J41 s0_J41 s1_J41 = some ex → va_P (dC, dI) vwCl (wM tc a0 g0) H → va_S A s.heap H locs → lv_has ls 5 [(0, .ref (a0 0)), (1, .int x1), (2, .int x2), (4, .int x4)] → W pr l e rm_X12_likeBy s m args below meth c H locs 0 0 Q (F0 m 41 ls [.int s1_J41, .int s0_J41]) := by
          intro s0_J41 s1_J41 H locs ls h hP hS hl
          rw [eJ41] at h
          refine lv_ior X.1 X.2.1 dX12_likeBy_41 ?_
          obtain ⟨x3_3, ex3_3, h⟩ := nm_el h
          refine tp_i ex3_3 ?_
          refine lv_istore_n (lv' := [(3, .int x3_3), (0, .ref (a0 0)), (1, .int x1), (2, .int x2), (4, .int x4)]) X.1 X.2.1 dX12_likeBy_42 rfl hl (by decide) rfl (fun ls hl => ?_)
          obtain ⟨x4_4, ex4_4, h⟩ := nm_el h
          refine lv_iinc (v := x4_4) (lv' := [(4, .int x4_4), (3, .int x3_3), (0, .ref (a0 0)), (1, .int x1), (2, .int x2)]) X.1 X.2.1 dX12_likeBy_43 hl (k := 4) rfl (by rw [ex4_4]; rfl) (by decide) rfl (fun ls hl => ?_)
          refine lv_goto (tgt := 5) X.1 X.2.1 dX12_likeBy_46 (by decide) ?_
          exact ih x3_3 x4_4 ex h H locs ls hP hS (lv_sub hl [2, 3, 4, 1, 0] rfl) K
        refine lv_icmp_ne (tgt := 40) X.1 X.2.1 dX12_likeBy_30 (by decide) (fun hc => ?_) (fun hc => ?_)
        · have h := it_f hc h
          refine lv_iconst (v := 0) X.1 X.2.1 dX12_likeBy_40 (by decide) ?_
          exact HJ41 x3 0 H locs ls h hP hS (lv_sub hl [0, 1, 2, 4] rfl)
        · have h := it_t hc h
          refine lv_iconst (v := 1) X.1 X.2.1 dX12_likeBy_33 (by decide) ?_
          refine lv_iload X.1 X.2.1 dX12_likeBy_34 (lv_at hl 4 rfl) ?_
          refine lv_ishl X.1 X.2.1 dX12_likeBy_36 ?_
          refine lv_goto (tgt := 41) X.1 X.2.1 dX12_likeBy_37 (by decide) ?_
          exact HJ41 x3 (1 <<< (x4 &&& 31)) H locs ls h hP hS (lv_sub hl [0, 1, 2, 4] rfl)
  unfold f_X12_likeBy at h
  refine lv_iconst (v := 0) X.1 X.2.1 dX12_likeBy_0 (by decide) ?_
  refine lv_istore_n (lv' := [(3, .int 0), (0, .ref (a0 0)), (1, .int x1), (2, .int x2)]) X.1 X.2.1 dX12_likeBy_1 rfl hl (by decide) rfl (fun ls hl => ?_)
  refine lv_iconst (v := 0) X.1 X.2.1 dX12_likeBy_2 (by decide) ?_
  refine lv_istore (lv' := [(4, .int 0), (3, .int 0), (0, .ref (a0 0)), (1, .int x1), (2, .int x2)]) X.1 X.2.1 dX12_likeBy_3 hl (by decide) rfl (fun ls hl => ?_)
  obtain ⟨ex_5, hL_5, h⟩ := bd_el h
  refine HL5 x1 x2 fu 0 0 ex_5 hL_5 H locs ls hP hS (lv_sub hl [2, 3, 4, 1, 0] rfl) (fun x3_5 he H locs ls hP hS hl => ?_)
  subst he
  refine lv_iload_n X.1 X.2.1 dX12_likeBy_49 rfl (lv_at hl 0 rfl) ?_
  exact ret_i0 (Option.some.inj h) X hQ hP hS dX12_likeBy_50

def f_X12_readBy_L13 (x3 : Int32) (g0 : Pic) (n : Nat) (a : Int32 × Int32) : Option (Int32) := lp (fun (rec : Int32 × Int32 → Option (Int32)) (a : Int32 × Int32) => match a with | (x4, x5) => (if (g0 1 3) ≤ x5 then some x4 else bd (f_X12_isOf x3 x5) (fun r_2 => jn (fun (x4_J62 : Int32) => nm (x5 + 1) (fun x5_3 => rec (x4_J62, x5_3))) (fun J62 => (if r_2 = 0 then J62 x4 else jn (fun (_ : Unit) => J62 x5) (fun J58 => (if x4 = (-1) then J58 () else bd (f_X12_ofWord g0 x5 7) (fun r_4 => bd (f_X12_ofWord g0 x4 7) (fun r_5 => (if r_4 ≤ r_5 then J62 x4 else J58 ())))))))))) n a
def f_X12_readBy (g0 : Pic) (x1 : Int32) (x2 : Int32) : Option (Int32) := bd (f_X12_likeBy g0 x1 x2) (fun r_1 => bd (f_X12_readBy_L13 r_1 g0 fu ((-1), 0)) (fun x4_6 => some x4_6))
abbrev rm_X12_readBy : Room := { frames := 3, cells := 0, slots := 0, locals := 70 }
set_option maxHeartbeats 4000000 in
set_option maxRecDepth 100000 in
theorem c_X12_readBy (l : Launch) (dC : Nat → ClassId) (dI : Nat → Nat → Nat) (sk sv : Nat → Nat) (tc : Nat → ClassId) (a0 : Nat → Nat) (g0 : Pic) (x1 : Int32) (x2 : Int32) {r0 : Int32} (h : f_X12_readBy g0 x1 x2 = some r0) : CT l (dC, dI) sk sv (TY tc) yX12_readBy cX12_readBy 6 (some .int) rm_X12_readBy [.ref (a0 0), .int x1, .int x2] (wM tc a0 g0) (some (.int r0)) (wM tc a0 g0) := by
  refine ofCT (by decide) (Nat.le_of_ble_eq_true rfl) ?_
  intro pr e s m args below meth c A Q ls H locs X hQ hD0 hP hS hl
  have hD : ∀ z0, va_D A (wM tc a0 z0) := fun z0 => D_fst (ws := (wM tc a0 g0)) rfl hD0
  have hl : lv_has ls 6 [(0, .ref (a0 0)), (1, .int x1), (2, .int x2)] := hl
  have HL13 : ∀ (x3 : Int32) (n : Nat) (x4 : Int32) (x5 : Int32) (ex : (Int32)), f_X12_readBy_L13 x3 g0 n (x4, x5) = some ex → ∀ (H : Heap) (locs : List Loc) (ls : Array Slot), va_P (dC, dI) vwCl (wM tc a0 g0) H → va_S A s.heap H locs → lv_has ls 6 [(0, .ref (a0 0)), (3, .int x3), (4, .int x4), (5, .int x5)] → (∀ (y4 : Int32), y4 = ex → ∀ (H : Heap) (locs : List Loc) (ls : Array Slot), va_P (dC, dI) vwCl (wM tc a0 g0) H → va_S A s.heap H locs → lv_has ls 6 [(4, .int y4)] → W pr l e rm_X12_readBy s m args below meth c H locs 0 0 Q (F0 m 68 ls [])) → W pr l e rm_X12_readBy s m args below meth c H locs 0 0 Q (F0 m 13 ls []) := by
    intro x3 n
    induction n with
    | zero => intro x4 x5 ex h; exact lp_z h
    | succ n ih =>
      intro x4 x5 ex h H locs ls hP hS hl K
      have h := lp_s h
      refine lv_iload X.1 X.2.1 dX12_readBy_13 (lv_at hl 3 rfl) ?_
      refine lv_aload_n X.1 X.2.1 dX12_readBy_15 rfl (lv_at hl 0 rfl) ?_
      refine r_get (C := RX12) (T := TX12) (N := 28) (ci := 12) (v := .ref (a0 2)) X iw12 hP 0 rfl rfl 1 rfl mw_7_121 rfl dX12_readBy_16 ?_
      refine lv_iconst (v := 3) X.1 X.2.1 dX12_readBy_19 (by decide) ?_
      refine r_iald X hP 1 0 rfl rfl (j := 3) (by unfold vp_in; decide) (by decide) dX12_readBy_20 ?_
      refine lv_icmp_ge (tgt := 68) X.1 X.2.1 dX12_readBy_21 (by decide) (fun hc => ?_) (fun hc => ?_)
      · have h := it_t hc h
        exact K x4 (Option.some.inj h) H locs ls hP hS (lv_sub hl [2] rfl)
      · have h := it_f hc h
        refine lv_iload_n X.1 X.2.1 dX12_readBy_24 rfl (lv_at hl 1 rfl) ?_
        refine lv_iload X.1 X.2.1 dX12_readBy_25 (lv_at hl 3 rfl) ?_
        obtain ⟨r_2, hc_2, h⟩ := bd_el h
        refine call_S0i (As := [.int x3, .int x5]) (rest := []) X (c_X12_isOf l dC dI sk sv tc x3 x5 hc_2) mw_8_192 mw_8_193 mw_1_12 mw_8_194 dc_X12_isOf ⟨Nat.le_of_ble_eq_true rfl, Nat.le_of_ble_eq_true rfl⟩ rfl rfl ⟨Nat.zero_le _, Nat.zero_le _⟩ hP (hD _) hS hl.1 (Nat.le_of_ble_eq_true rfl) dX12_readBy_27 (fun H locs hP hS => ?_)
        obtain ⟨J62, eJ62, h⟩ := jn_el h
        have HJ62 : ∀ (x4_J62 : Int32) (H : Heap) (locs : List Loc) (ls : Array Slot), J62 x4_J62 = some ex → va_P (dC, dI) vwCl (wM tc a0 g0) H → va_S A s.heap H locs → lv_has ls 6 [(0, .ref (a0 0)), (3, .int x3), (4, .int x4_J62), (5, .int x5)] → W pr l e rm_X12_readBy s m args below meth c H locs 0 0 Q (F0 m 62 ls []) := by
          intro x4_J62 H locs ls h hP hS hl
          rw [eJ62] at h
          obtain ⟨x5_3, ex5_3, h⟩ := nm_el h
          refine lv_iinc (v := x5_3) (lv' := [(5, .int x5_3), (0, .ref (a0 0)), (3, .int x3), (4, .int x4_J62)]) X.1 X.2.1 dX12_readBy_62 hl (k := 3) rfl (by rw [ex5_3]; rfl) (by decide) rfl (fun ls hl => ?_)
          refine lv_goto (tgt := 13) X.1 X.2.1 dX12_readBy_65 (by decide) ?_
          exact ih x4_J62 x5_3 ex h H locs ls hP hS (lv_sub hl [1, 2, 3, 0] rfl) K
        refine lv_if_eq (tgt := 62) X.1 X.2.1 dX12_readBy_30 (by decide) (fun hc => ?_) (fun hc => ?_)
        · have h := it_t hc h
          exact HJ62 x4 H locs ls h hP hS (lv_sub hl [0, 1, 2, 3] rfl)
        · have h := it_f hc h
          refine lv_iload X.1 X.2.1 dX12_readBy_33 (lv_at hl 2 rfl) ?_
          refine lv_iconst (v := (-1)) X.1 X.2.1 dX12_readBy_35 (by decide) ?_
          obtain ⟨J58, eJ58, h⟩ := jn_el h
          have HJ58 : ∀ (_ : Unit) (H : Heap) (locs : List Loc) (ls : Array Slot), J58 () = some ex → va_P (dC, dI) vwCl (wM tc a0 g0) H → va_S A s.heap H locs → lv_has ls 6 [(0, .ref (a0 0)), (3, .int x3), (5, .int x5)] → W pr l e rm_X12_readBy s m args below meth c H locs 0 0 Q (F0 m 58 ls []) := by
            intro _ H locs ls h hP hS hl
            rw [eJ58] at h
            refine lv_iload X.1 X.2.1 dX12_readBy_58 (lv_at hl 2 rfl) ?_
            refine lv_istore (lv' := [(4, .int x5), (0, .ref (a0 0)), (3, .int x3), (5, .int x5)]) X.1 X.2.1 dX12_readBy_60 hl (by decide) rfl (fun ls hl => ?_)
            exact HJ62 x5 H locs ls h hP hS (lv_sub hl [1, 2, 0, 3] rfl)
          refine lv_icmp_eq (tgt := 58) X.1 X.2.1 dX12_readBy_36 (by decide) (fun hc => ?_) (fun hc => ?_)
          · have h := it_t hc h
            exact HJ58 () H locs ls h hP hS (lv_sub hl [0, 1, 3] rfl)
          · have h := it_f hc h
            refine lv_aload_n X.1 X.2.1 dX12_readBy_39 rfl (lv_at hl 0 rfl) ?_
            refine lv_iload X.1 X.2.1 dX12_readBy_40 (lv_at hl 3 rfl) ?_
            refine lv_bipush (v := 7) X.1 X.2.1 dX12_readBy_42 (by decide) ?_
            obtain ⟨r_4, hc_4, h⟩ := bd_el h
            refine call_V1i (As := [.int x5, .int 7]) (rest := []) X (c_X12_ofWord l dC dI sk sv tc a0 g0 x5 7 hc_4) mw_8_140 mw_8_142 mp_3_10 mw_1_12 mw_8_143 dc_X12_ofWord ⟨Nat.le_of_ble_eq_true rfl, Nat.le_of_ble_eq_true rfl⟩ rfl rfl ⟨Nat.zero_le _, Nat.zero_le _⟩ hP (hD _) hS 0 rfl rfl rfl hl.1 (Nat.le_of_ble_eq_true rfl) dX12_readBy_44 (fun H locs hP hS => ?_)
            refine lv_aload_n X.1 X.2.1 dX12_readBy_47 rfl (lv_at hl 0 rfl) ?_
            refine lv_iload X.1 X.2.1 dX12_readBy_48 (lv_at hl 2 rfl) ?_
            refine lv_bipush (v := 7) X.1 X.2.1 dX12_readBy_50 (by decide) ?_
            obtain ⟨r_5, hc_5, h⟩ := bd_el h
            refine call_V1i (As := [.int x4, .int 7]) (rest := [.int r_4]) X (c_X12_ofWord l dC dI sk sv tc a0 g0 x4 7 hc_5) mw_8_140 mw_8_142 mp_3_10 mw_1_12 mw_8_143 dc_X12_ofWord ⟨Nat.le_of_ble_eq_true rfl, Nat.le_of_ble_eq_true rfl⟩ rfl rfl ⟨Nat.zero_le _, Nat.zero_le _⟩ hP (hD _) hS 0 rfl rfl rfl hl.1 (Nat.le_of_ble_eq_true rfl) dX12_readBy_52 (fun H locs hP hS => ?_)
            refine lv_icmp_le (tgt := 62) X.1 X.2.1 dX12_readBy_55 (by decide) (fun hc => ?_) (fun hc => ?_)
            · have h := it_t hc h
              exact HJ62 x4 H locs ls h hP hS (lv_sub hl [0, 1, 2, 3] rfl)
            · have h := it_f hc h
              exact HJ58 () H locs ls h hP hS (lv_sub hl [0, 1, 3] rfl)
  unfold f_X12_readBy at h
  refine lv_aload_n X.1 X.2.1 dX12_readBy_0 rfl (lv_at hl 0 rfl) ?_
  refine lv_iload_n X.1 X.2.1 dX12_readBy_1 rfl (lv_at hl 1 rfl) ?_
  refine lv_iload_n X.1 X.2.1 dX12_readBy_2 rfl (lv_at hl 2 rfl) ?_
  obtain ⟨r_1, hc_1, h⟩ := bd_el h
  refine call_V1i (As := [.int x1, .int x2]) (rest := []) X (c_X12_likeBy l dC dI sk sv tc a0 g0 x1 x2 hc_1) mw_8_203 mw_8_205 mp_4_6 mw_1_12 mw_8_206 dc_X12_likeBy ⟨Nat.le_of_ble_eq_true rfl, Nat.le_of_ble_eq_true rfl⟩ rfl rfl ⟨Nat.zero_le _, Nat.zero_le _⟩ hP (hD _) hS 0 rfl rfl rfl hl.1 (Nat.le_of_ble_eq_true rfl) dX12_readBy_3 (fun H locs hP hS => ?_)
  refine lv_istore_n (lv' := [(3, .int r_1), (0, .ref (a0 0)), (1, .int x1), (2, .int x2)]) X.1 X.2.1 dX12_readBy_6 rfl hl (by decide) rfl (fun ls hl => ?_)
  refine lv_iconst (v := (-1)) X.1 X.2.1 dX12_readBy_7 (by decide) ?_
  refine lv_istore (lv' := [(4, .int (-1)), (3, .int r_1), (0, .ref (a0 0)), (1, .int x1), (2, .int x2)]) X.1 X.2.1 dX12_readBy_8 hl (by decide) rfl (fun ls hl => ?_)
  refine lv_iconst (v := 0) X.1 X.2.1 dX12_readBy_10 (by decide) ?_
  refine lv_istore (lv' := [(5, .int 0), (4, .int (-1)), (3, .int r_1), (0, .ref (a0 0)), (1, .int x1), (2, .int x2)]) X.1 X.2.1 dX12_readBy_11 hl (by decide) rfl (fun ls hl => ?_)
  obtain ⟨ex_6, hL_6, h⟩ := bd_el h
  refine HL13 r_1 fu (-1) 0 ex_6 hL_6 H locs ls hP hS (lv_sub hl [3, 2, 1, 0] rfl) (fun x4_6 he H locs ls hP hS hl => ?_)
  subst he
  refine lv_iload X.1 X.2.1 dX12_readBy_68 (lv_at hl 0 rfl) ?_
  exact ret_i0 (Option.some.inj h) X hQ hP hS dX12_readBy_70

def f_X12_lostBy_L4 (x1 : Int32) (g0 : Pic) (n : Nat) (a : Int32 × Int32) : Option (Int32) := lp (fun (rec : Int32 × Int32 → Option (Int32)) (a : Int32 × Int32) => match a with | (x2, x3) => (if (g0 1 3) ≤ x3 then some x2 else bd (f_X12_readBy g0 x3 x1) (fun r_1 => jn (fun (s0_J36 : Int32) (s1_J36 : Int32) => nm ((s0_J36 + s1_J36)) (fun x2_2 => nm (x3 + 1) (fun x3_3 => rec (x2_2, x3_3)))) (fun J36 => (if r_1 = x3 then J36 x2 0 else bd (f_X12_ofWord g0 x3 7) (fun r_4 => J36 x2 r_4)))))) n a
def f_X12_lostBy (g0 : Pic) (x1 : Int32) : Option (Int32) := bd (f_X12_lostBy_L4 x1 g0 fu (0, 0)) (fun x2_5 => some x2_5)
abbrev rm_X12_lostBy : Room := { frames := 4, cells := 0, slots := 0, locals := 95 }
set_option maxHeartbeats 4000000 in
set_option maxRecDepth 100000 in
theorem c_X12_lostBy (l : Launch) (dC : Nat → ClassId) (dI : Nat → Nat → Nat) (sk sv : Nat → Nat) (tc : Nat → ClassId) (a0 : Nat → Nat) (g0 : Pic) (x1 : Int32) {r0 : Int32} (h : f_X12_lostBy g0 x1 = some r0) : CT l (dC, dI) sk sv (TY tc) yX12_lostBy cX12_lostBy 4 (some .int) rm_X12_lostBy [.ref (a0 0), .int x1] (wM tc a0 g0) (some (.int r0)) (wM tc a0 g0) := by
  refine ofCT (by decide) (Nat.le_of_ble_eq_true rfl) ?_
  intro pr e s m args below meth c A Q ls H locs X hQ hD0 hP hS hl
  have hD : ∀ z0, va_D A (wM tc a0 z0) := fun z0 => D_fst (ws := (wM tc a0 g0)) rfl hD0
  have hl : lv_has ls 4 [(0, .ref (a0 0)), (1, .int x1)] := hl
  have HL4 : ∀ (x1 : Int32) (n : Nat) (x2 : Int32) (x3 : Int32) (ex : (Int32)), f_X12_lostBy_L4 x1 g0 n (x2, x3) = some ex → ∀ (H : Heap) (locs : List Loc) (ls : Array Slot), va_P (dC, dI) vwCl (wM tc a0 g0) H → va_S A s.heap H locs → lv_has ls 4 [(0, .ref (a0 0)), (1, .int x1), (2, .int x2), (3, .int x3)] → (∀ (y2 : Int32), y2 = ex → ∀ (H : Heap) (locs : List Loc) (ls : Array Slot), va_P (dC, dI) vwCl (wM tc a0 g0) H → va_S A s.heap H locs → lv_has ls 4 [(2, .int y2)] → W pr l e rm_X12_lostBy s m args below meth c H locs 0 0 Q (F0 m 44 ls [])) → W pr l e rm_X12_lostBy s m args below meth c H locs 0 0 Q (F0 m 4 ls []) := by
    intro x1 n
    induction n with
    | zero => intro x2 x3 ex h; exact lp_z h
    | succ n ih =>
      intro x2 x3 ex h H locs ls hP hS hl K
      have h := lp_s h
      refine lv_iload_n X.1 X.2.1 dX12_lostBy_4 rfl (lv_at hl 3 rfl) ?_
      refine lv_aload_n X.1 X.2.1 dX12_lostBy_5 rfl (lv_at hl 0 rfl) ?_
      refine r_get (C := RX12) (T := TX12) (N := 28) (ci := 12) (v := .ref (a0 2)) X iw12 hP 0 rfl rfl 1 rfl mw_7_121 rfl dX12_lostBy_6 ?_
      refine lv_iconst (v := 3) X.1 X.2.1 dX12_lostBy_9 (by decide) ?_
      refine r_iald X hP 1 0 rfl rfl (j := 3) (by unfold vp_in; decide) (by decide) dX12_lostBy_10 ?_
      refine lv_icmp_ge (tgt := 44) X.1 X.2.1 dX12_lostBy_11 (by decide) (fun hc => ?_) (fun hc => ?_)
      · have h := it_t hc h
        exact K x2 (Option.some.inj h) H locs ls hP hS (lv_sub hl [2] rfl)
      · have h := it_f hc h
        refine lv_iload_n X.1 X.2.1 dX12_lostBy_14 rfl (lv_at hl 2 rfl) ?_
        refine lv_aload_n X.1 X.2.1 dX12_lostBy_15 rfl (lv_at hl 0 rfl) ?_
        refine lv_iload_n X.1 X.2.1 dX12_lostBy_16 rfl (lv_at hl 3 rfl) ?_
        refine lv_iload_n X.1 X.2.1 dX12_lostBy_17 rfl (lv_at hl 1 rfl) ?_
        obtain ⟨r_1, hc_1, h⟩ := bd_el h
        refine call_V1i (As := [.int x3, .int x1]) (rest := [.int x2]) X (c_X12_readBy l dC dI sk sv tc a0 g0 x3 x1 hc_1) mw_8_199 mw_8_201 mp_4_5 mw_1_12 mw_8_202 dc_X12_readBy ⟨Nat.le_of_ble_eq_true rfl, Nat.le_of_ble_eq_true rfl⟩ rfl rfl ⟨Nat.zero_le _, Nat.zero_le _⟩ hP (hD _) hS 0 rfl rfl rfl hl.1 (Nat.le_of_ble_eq_true rfl) dX12_lostBy_18 (fun H locs hP hS => ?_)
        refine lv_iload_n X.1 X.2.1 dX12_lostBy_21 rfl (lv_at hl 3 rfl) ?_
        obtain ⟨J36, eJ36, h⟩ := jn_el h
        have HJ36 : ∀ (s0_J36 : Int32) (s1_J36 : Int32) (H : Heap) (locs : List Loc) (ls : Array Slot), J36 s0_J36 s1_J36 = some ex → va_P (dC, dI) vwCl (wM tc a0 g0) H → va_S A s.heap H locs → lv_has ls 4 [(0, .ref (a0 0)), (1, .int x1), (3, .int x3)] → W pr l e rm_X12_lostBy s m args below meth c H locs 0 0 Q (F0 m 36 ls [.int s1_J36, .int s0_J36]) := by
          intro s0_J36 s1_J36 H locs ls h hP hS hl
          rw [eJ36] at h
          refine lv_iadd X.1 X.2.1 dX12_lostBy_36 ?_
          obtain ⟨x2_2, ex2_2, h⟩ := nm_el h
          refine tp_i ex2_2 ?_
          refine lv_istore_n (lv' := [(2, .int x2_2), (0, .ref (a0 0)), (1, .int x1), (3, .int x3)]) X.1 X.2.1 dX12_lostBy_37 rfl hl (by decide) rfl (fun ls hl => ?_)
          obtain ⟨x3_3, ex3_3, h⟩ := nm_el h
          refine lv_iinc (v := x3_3) (lv' := [(3, .int x3_3), (2, .int x2_2), (0, .ref (a0 0)), (1, .int x1)]) X.1 X.2.1 dX12_lostBy_38 hl (k := 3) rfl (by rw [ex3_3]; rfl) (by decide) rfl (fun ls hl => ?_)
          refine lv_goto (tgt := 4) X.1 X.2.1 dX12_lostBy_41 (by decide) ?_
          exact ih x2_2 x3_3 ex h H locs ls hP hS (lv_sub hl [2, 3, 1, 0] rfl) K
        refine lv_icmp_ne (tgt := 29) X.1 X.2.1 dX12_lostBy_22 (by decide) (fun hc => ?_) (fun hc => ?_)
        · have h := it_f hc h
          refine lv_aload_n X.1 X.2.1 dX12_lostBy_29 rfl (lv_at hl 0 rfl) ?_
          refine lv_iload_n X.1 X.2.1 dX12_lostBy_30 rfl (lv_at hl 3 rfl) ?_
          refine lv_bipush (v := 7) X.1 X.2.1 dX12_lostBy_31 (by decide) ?_
          obtain ⟨r_4, hc_4, h⟩ := bd_el h
          refine call_V1i (As := [.int x3, .int 7]) (rest := [.int x2]) X (c_X12_ofWord l dC dI sk sv tc a0 g0 x3 7 hc_4) mw_8_140 mw_8_142 mp_3_10 mw_1_12 mw_8_143 dc_X12_ofWord ⟨Nat.le_of_ble_eq_true rfl, Nat.le_of_ble_eq_true rfl⟩ rfl rfl ⟨Nat.zero_le _, Nat.zero_le _⟩ hP (hD _) hS 0 rfl rfl rfl hl.1 (Nat.le_of_ble_eq_true rfl) dX12_lostBy_33 (fun H locs hP hS => ?_)
          exact HJ36 x2 r_4 H locs ls h hP hS (lv_sub hl [0, 1, 3] rfl)
        · have h := it_t hc h
          refine lv_iconst (v := 0) X.1 X.2.1 dX12_lostBy_25 (by decide) ?_
          refine lv_goto (tgt := 36) X.1 X.2.1 dX12_lostBy_26 (by decide) ?_
          exact HJ36 x2 0 H locs ls h hP hS (lv_sub hl [0, 1, 3] rfl)
  unfold f_X12_lostBy at h
  refine lv_iconst (v := 0) X.1 X.2.1 dX12_lostBy_0 (by decide) ?_
  refine lv_istore_n (lv' := [(2, .int 0), (0, .ref (a0 0)), (1, .int x1)]) X.1 X.2.1 dX12_lostBy_1 rfl hl (by decide) rfl (fun ls hl => ?_)
  refine lv_iconst (v := 0) X.1 X.2.1 dX12_lostBy_2 (by decide) ?_
  refine lv_istore_n (lv' := [(3, .int 0), (2, .int 0), (0, .ref (a0 0)), (1, .int x1)]) X.1 X.2.1 dX12_lostBy_3 rfl hl (by decide) rfl (fun ls hl => ?_)
  obtain ⟨ex_5, hL_5, h⟩ := bd_el h
  refine HL4 x1 fu 0 0 ex_5 hL_5 H locs ls hP hS (lv_sub hl [2, 3, 1, 0] rfl) (fun x2_5 he H locs ls hP hS hl => ?_)
  subst he
  refine lv_iload_n X.1 X.2.1 dX12_lostBy_44 rfl (lv_at hl 0 rfl) ?_
  exact ret_i0 (Option.some.inj h) X hQ hP hS dX12_lostBy_45

def f_X12_savesBy_L4 (x1 : Int32) (g0 : Pic) (n : Nat) (a : Int32 × Int32) : Option (Int32) := lp (fun (rec : Int32 × Int32 → Option (Int32)) (a : Int32 × Int32) => match a with | (x2, x3) => (if (g0 1 3) ≤ x3 then some x2 else bd (f_X12_ofWord g0 x3 6) (fun r_1 => bd (f_X12_strokesBy g0 x3 x1) (fun r_2 => bd (f_X12_ofWord g0 x3 7) (fun r_3 => nm ((x2 + ((r_1 - r_2) * r_3))) (fun x2_4 => nm (x3 + 1) (fun x3_5 => rec (x2_4, x3_5)))))))) n a
def f_X12_savesBy (g0 : Pic) (x1 : Int32) : Option (Int32) := bd (f_X12_savesBy_L4 x1 g0 fu (0, 0)) (fun x2_6 => some x2_6)
abbrev rm_X12_savesBy : Room := { frames := 2, cells := 0, slots := 0, locals := 46 }
set_option maxHeartbeats 4000000 in
set_option maxRecDepth 100000 in
theorem c_X12_savesBy (l : Launch) (dC : Nat → ClassId) (dI : Nat → Nat → Nat) (sk sv : Nat → Nat) (tc : Nat → ClassId) (a0 : Nat → Nat) (g0 : Pic) (x1 : Int32) {r0 : Int32} (h : f_X12_savesBy g0 x1 = some r0) : CT l (dC, dI) sk sv (TY tc) yX12_savesBy cX12_savesBy 4 (some .int) rm_X12_savesBy [.ref (a0 0), .int x1] (wM tc a0 g0) (some (.int r0)) (wM tc a0 g0) := by
  refine ofCT (by decide) (Nat.le_of_ble_eq_true rfl) ?_
  intro pr e s m args below meth c A Q ls H locs X hQ hD0 hP hS hl
  have hD : ∀ z0, va_D A (wM tc a0 z0) := fun z0 => D_fst (ws := (wM tc a0 g0)) rfl hD0
  have hl : lv_has ls 4 [(0, .ref (a0 0)), (1, .int x1)] := hl
  have HL4 : ∀ (x1 : Int32) (n : Nat) (x2 : Int32) (x3 : Int32) (ex : (Int32)), f_X12_savesBy_L4 x1 g0 n (x2, x3) = some ex → ∀ (H : Heap) (locs : List Loc) (ls : Array Slot), va_P (dC, dI) vwCl (wM tc a0 g0) H → va_S A s.heap H locs → lv_has ls 4 [(0, .ref (a0 0)), (1, .int x1), (2, .int x2), (3, .int x3)] → (∀ (y2 : Int32), y2 = ex → ∀ (H : Heap) (locs : List Loc) (ls : Array Slot), va_P (dC, dI) vwCl (wM tc a0 g0) H → va_S A s.heap H locs → lv_has ls 4 [(2, .int y2)] → W pr l e rm_X12_savesBy s m args below meth c H locs 0 0 Q (F0 m 45 ls [])) → W pr l e rm_X12_savesBy s m args below meth c H locs 0 0 Q (F0 m 4 ls []) := by
    intro x1 n
    induction n with
    | zero => intro x2 x3 ex h; exact lp_z h
    | succ n ih =>
      intro x2 x3 ex h H locs ls hP hS hl K
      have h := lp_s h
      refine lv_iload_n X.1 X.2.1 dX12_savesBy_4 rfl (lv_at hl 3 rfl) ?_
      refine lv_aload_n X.1 X.2.1 dX12_savesBy_5 rfl (lv_at hl 0 rfl) ?_
      refine r_get (C := RX12) (T := TX12) (N := 28) (ci := 12) (v := .ref (a0 2)) X iw12 hP 0 rfl rfl 1 rfl mw_7_121 rfl dX12_savesBy_6 ?_
      refine lv_iconst (v := 3) X.1 X.2.1 dX12_savesBy_9 (by decide) ?_
      refine r_iald X hP 1 0 rfl rfl (j := 3) (by unfold vp_in; decide) (by decide) dX12_savesBy_10 ?_
      refine lv_icmp_ge (tgt := 45) X.1 X.2.1 dX12_savesBy_11 (by decide) (fun hc => ?_) (fun hc => ?_)
      · have h := it_t hc h
        exact K x2 (Option.some.inj h) H locs ls hP hS (lv_sub hl [2] rfl)
      · have h := it_f hc h
        refine lv_iload_n X.1 X.2.1 dX12_savesBy_14 rfl (lv_at hl 2 rfl) ?_
        refine lv_aload_n X.1 X.2.1 dX12_savesBy_15 rfl (lv_at hl 0 rfl) ?_
        refine lv_iload_n X.1 X.2.1 dX12_savesBy_16 rfl (lv_at hl 3 rfl) ?_
        refine lv_bipush (v := 6) X.1 X.2.1 dX12_savesBy_17 (by decide) ?_
        obtain ⟨r_1, hc_1, h⟩ := bd_el h
        refine call_V1i (As := [.int x3, .int 6]) (rest := [.int x2]) X (c_X12_ofWord l dC dI sk sv tc a0 g0 x3 6 hc_1) mw_8_140 mw_8_142 mp_3_10 mw_1_12 mw_8_143 dc_X12_ofWord ⟨Nat.le_of_ble_eq_true rfl, Nat.le_of_ble_eq_true rfl⟩ rfl rfl ⟨Nat.zero_le _, Nat.zero_le _⟩ hP (hD _) hS 0 rfl rfl rfl hl.1 (Nat.le_of_ble_eq_true rfl) dX12_savesBy_19 (fun H locs hP hS => ?_)
        refine lv_aload_n X.1 X.2.1 dX12_savesBy_22 rfl (lv_at hl 0 rfl) ?_
        refine lv_iload_n X.1 X.2.1 dX12_savesBy_23 rfl (lv_at hl 3 rfl) ?_
        refine lv_iload_n X.1 X.2.1 dX12_savesBy_24 rfl (lv_at hl 1 rfl) ?_
        obtain ⟨r_2, hc_2, h⟩ := bd_el h
        refine call_V1i (As := [.int x3, .int x1]) (rest := [.int r_1, .int x2]) X (c_X12_strokesBy l dC dI sk sv tc a0 g0 x3 x1 hc_2) mw_8_188 mw_8_190 mp_4_3 mw_1_12 mw_8_191 dc_X12_strokesBy ⟨Nat.le_of_ble_eq_true rfl, Nat.le_of_ble_eq_true rfl⟩ rfl rfl ⟨Nat.zero_le _, Nat.zero_le _⟩ hP (hD _) hS 0 rfl rfl rfl hl.1 (Nat.le_of_ble_eq_true rfl) dX12_savesBy_25 (fun H locs hP hS => ?_)
        refine lv_isub X.1 X.2.1 dX12_savesBy_28 ?_
        refine lv_aload_n X.1 X.2.1 dX12_savesBy_29 rfl (lv_at hl 0 rfl) ?_
        refine lv_iload_n X.1 X.2.1 dX12_savesBy_30 rfl (lv_at hl 3 rfl) ?_
        refine lv_bipush (v := 7) X.1 X.2.1 dX12_savesBy_31 (by decide) ?_
        obtain ⟨r_3, hc_3, h⟩ := bd_el h
        refine call_V1i (As := [.int x3, .int 7]) (rest := [.int (r_1 - r_2), .int x2]) X (c_X12_ofWord l dC dI sk sv tc a0 g0 x3 7 hc_3) mw_8_140 mw_8_142 mp_3_10 mw_1_12 mw_8_143 dc_X12_ofWord ⟨Nat.le_of_ble_eq_true rfl, Nat.le_of_ble_eq_true rfl⟩ rfl rfl ⟨Nat.zero_le _, Nat.zero_le _⟩ hP (hD _) hS 0 rfl rfl rfl hl.1 (Nat.le_of_ble_eq_true rfl) dX12_savesBy_33 (fun H locs hP hS => ?_)
        refine lv_imul X.1 X.2.1 dX12_savesBy_36 ?_
        refine lv_iadd X.1 X.2.1 dX12_savesBy_37 ?_
        obtain ⟨x2_4, ex2_4, h⟩ := nm_el h
        refine tp_i ex2_4 ?_
        refine lv_istore_n (lv' := [(2, .int x2_4), (0, .ref (a0 0)), (1, .int x1), (3, .int x3)]) X.1 X.2.1 dX12_savesBy_38 rfl hl (by decide) rfl (fun ls hl => ?_)
        obtain ⟨x3_5, ex3_5, h⟩ := nm_el h
        refine lv_iinc (v := x3_5) (lv' := [(3, .int x3_5), (2, .int x2_4), (0, .ref (a0 0)), (1, .int x1)]) X.1 X.2.1 dX12_savesBy_39 hl (k := 3) rfl (by rw [ex3_5]; rfl) (by decide) rfl (fun ls hl => ?_)
        refine lv_goto (tgt := 4) X.1 X.2.1 dX12_savesBy_42 (by decide) ?_
        exact ih x2_4 x3_5 ex h H locs ls hP hS (lv_sub hl [2, 3, 1, 0] rfl) K
  unfold f_X12_savesBy at h
  refine lv_iconst (v := 0) X.1 X.2.1 dX12_savesBy_0 (by decide) ?_
  refine lv_istore_n (lv' := [(2, .int 0), (0, .ref (a0 0)), (1, .int x1)]) X.1 X.2.1 dX12_savesBy_1 rfl hl (by decide) rfl (fun ls hl => ?_)
  refine lv_iconst (v := 0) X.1 X.2.1 dX12_savesBy_2 (by decide) ?_
  refine lv_istore_n (lv' := [(3, .int 0), (2, .int 0), (0, .ref (a0 0)), (1, .int x1)]) X.1 X.2.1 dX12_savesBy_3 rfl hl (by decide) rfl (fun ls hl => ?_)
  obtain ⟨ex_6, hL_6, h⟩ := bd_el h
  refine HL4 x1 fu 0 0 ex_6 hL_6 H locs ls hP hS (lv_sub hl [2, 3, 1, 0] rfl) (fun x2_6 he H locs ls hP hS hl => ?_)
  subst he
  refine lv_iload_n X.1 X.2.1 dX12_savesBy_45 rfl (lv_at hl 0 rfl) ?_
  exact ret_i0 (Option.some.inj h) X hQ hP hS dX12_savesBy_46

def f_X12_doesKeep (g0 : Pic) (x1 : Int32) (x2 : Int32) : Option (Int32) := bd (f_X12_of g0 x1 0) (fun r_1 => bd (f_X12_strokesBy g0 x2 r_1) (fun r_2 => bd (f_X12_of g0 x1 1) (fun r_3 => bd (f_X12_of g0 x1 3) (fun r_4 => jn (fun (s0_J43 : Int32) => gdb s0_J43 (some s0_J43)) (fun J43 => (if ((r_3 * (g0 1 7)) - (r_4 / 10)) < r_2 then J43 0 else J43 1))))))
abbrev rm_X12_doesKeep : Room := { frames := 2, cells := 0, slots := 0, locals := 46 }
set_option maxHeartbeats 4000000 in
set_option maxRecDepth 100000 in
theorem c_X12_doesKeep (l : Launch) (dC : Nat → ClassId) (dI : Nat → Nat → Nat) (sk sv : Nat → Nat) (tc : Nat → ClassId) (a0 : Nat → Nat) (g0 : Pic) (x1 : Int32) (x2 : Int32) {r0 : Int32} (h : f_X12_doesKeep g0 x1 x2 = some r0) : CT l (dC, dI) sk sv (TY tc) yX12_doesKeep cX12_doesKeep 3 (some .boolean) rm_X12_doesKeep [.ref (a0 0), .int x1, .int x2] (wM tc a0 g0) (some (.int r0)) (wM tc a0 g0) := by
  refine ofCT (by decide) (Nat.le_of_ble_eq_true rfl) ?_
  intro pr e s m args below meth c A Q ls H locs X hQ hD0 hP hS hl
  have hD : ∀ z0, va_D A (wM tc a0 z0) := fun z0 => D_fst (ws := (wM tc a0 g0)) rfl hD0
  have hl : lv_has ls 3 [(0, .ref (a0 0)), (1, .int x1), (2, .int x2)] := hl
  unfold f_X12_doesKeep at h
  refine lv_aload_n X.1 X.2.1 dX12_doesKeep_0 rfl (lv_at hl 0 rfl) ?_
  refine lv_iload_n X.1 X.2.1 dX12_doesKeep_1 rfl (lv_at hl 2 rfl) ?_
  refine lv_aload_n X.1 X.2.1 dX12_doesKeep_2 rfl (lv_at hl 0 rfl) ?_
  refine lv_iload_n X.1 X.2.1 dX12_doesKeep_3 rfl (lv_at hl 1 rfl) ?_
  refine lv_iconst (v := 0) X.1 X.2.1 dX12_doesKeep_4 (by decide) ?_
  obtain ⟨r_1, hc_1, h⟩ := bd_el h
  refine call_V1i (As := [.int x1, .int 0]) (rest := [.int x2, .ref (a0 0)]) X (c_X12_of l dC dI sk sv tc a0 g0 x1 0 hc_1) mw_8_180 mw_8_182 mp_4_1 mw_1_12 mw_8_183 dc_X12_of ⟨Nat.le_of_ble_eq_true rfl, Nat.le_of_ble_eq_true rfl⟩ rfl rfl ⟨Nat.zero_le _, Nat.zero_le _⟩ hP (hD _) hS 0 rfl rfl rfl hl.1 (Nat.le_of_ble_eq_true rfl) dX12_doesKeep_5 (fun H locs hP hS => ?_)
  obtain ⟨r_2, hc_2, h⟩ := bd_el h
  refine call_V1i (As := [.int x2, .int r_1]) (rest := []) X (c_X12_strokesBy l dC dI sk sv tc a0 g0 x2 r_1 hc_2) mw_8_188 mw_8_190 mp_4_3 mw_1_12 mw_8_191 dc_X12_strokesBy ⟨Nat.le_of_ble_eq_true rfl, Nat.le_of_ble_eq_true rfl⟩ rfl rfl ⟨Nat.zero_le _, Nat.zero_le _⟩ hP (hD _) hS 0 rfl rfl rfl hl.1 (Nat.le_of_ble_eq_true rfl) dX12_doesKeep_8 (fun H locs hP hS => ?_)
  refine lv_aload_n X.1 X.2.1 dX12_doesKeep_11 rfl (lv_at hl 0 rfl) ?_
  refine lv_iload_n X.1 X.2.1 dX12_doesKeep_12 rfl (lv_at hl 1 rfl) ?_
  refine lv_iconst (v := 1) X.1 X.2.1 dX12_doesKeep_13 (by decide) ?_
  obtain ⟨r_3, hc_3, h⟩ := bd_el h
  refine call_V1i (As := [.int x1, .int 1]) (rest := [.int r_2]) X (c_X12_of l dC dI sk sv tc a0 g0 x1 1 hc_3) mw_8_180 mw_8_182 mp_4_1 mw_1_12 mw_8_183 dc_X12_of ⟨Nat.le_of_ble_eq_true rfl, Nat.le_of_ble_eq_true rfl⟩ rfl rfl ⟨Nat.zero_le _, Nat.zero_le _⟩ hP (hD _) hS 0 rfl rfl rfl hl.1 (Nat.le_of_ble_eq_true rfl) dX12_doesKeep_14 (fun H locs hP hS => ?_)
  refine lv_aload_n X.1 X.2.1 dX12_doesKeep_17 rfl (lv_at hl 0 rfl) ?_
  refine r_get (C := RX12) (T := TX12) (N := 28) (ci := 12) (v := .ref (a0 2)) X iw12 hP 0 rfl rfl 1 rfl mw_7_121 rfl dX12_doesKeep_18 ?_
  refine lv_bipush (v := 7) X.1 X.2.1 dX12_doesKeep_21 (by decide) ?_
  refine r_iald X hP 1 0 rfl rfl (j := 7) (by unfold vp_in; decide) (by decide) dX12_doesKeep_23 ?_
  refine lv_imul X.1 X.2.1 dX12_doesKeep_24 ?_
  refine lv_aload_n X.1 X.2.1 dX12_doesKeep_25 rfl (lv_at hl 0 rfl) ?_
  refine lv_iload_n X.1 X.2.1 dX12_doesKeep_26 rfl (lv_at hl 1 rfl) ?_
  refine lv_iconst (v := 3) X.1 X.2.1 dX12_doesKeep_27 (by decide) ?_
  obtain ⟨r_4, hc_4, h⟩ := bd_el h
  refine call_V1i (As := [.int x1, .int 3]) (rest := [.int (r_3 * (g0 1 7)), .int r_2]) X (c_X12_of l dC dI sk sv tc a0 g0 x1 3 hc_4) mw_8_180 mw_8_182 mp_4_1 mw_1_12 mw_8_183 dc_X12_of ⟨Nat.le_of_ble_eq_true rfl, Nat.le_of_ble_eq_true rfl⟩ rfl rfl ⟨Nat.zero_le _, Nat.zero_le _⟩ hP (hD _) hS 0 rfl rfl rfl hl.1 (Nat.le_of_ble_eq_true rfl) dX12_doesKeep_28 (fun H locs hP hS => ?_)
  refine lv_bipush (v := 10) X.1 X.2.1 dX12_doesKeep_31 (by decide) ?_
  refine lv_idiv X.1 X.2.1 dX12_doesKeep_33 (by decide) ?_
  refine lv_isub X.1 X.2.1 dX12_doesKeep_34 ?_
  obtain ⟨J43, eJ43, h⟩ := jn_el h
  have HJ43 : ∀ (s0_J43 : Int32) (H : Heap) (locs : List Loc) (ls : Array Slot), J43 s0_J43 = some r0 → va_P (dC, dI) vwCl (wM tc a0 g0) H → va_S A s.heap H locs → lv_has ls 3 [] → W pr l e rm_X12_doesKeep s m args below meth c H locs 0 0 Q (F0 m 43 ls [.int s0_J43]) := by
    intro s0_J43 H locs ls h hP hS hl
    rw [eJ43] at h
    obtain ⟨hg_5, h⟩ := gdb_el h
    exact ret_z0 hg_5 (Option.some.inj h) X hQ hP hS dX12_doesKeep_43
  refine lv_icmp_gt (tgt := 42) X.1 X.2.1 dX12_doesKeep_35 (by decide) (fun hc => ?_) (fun hc => ?_)
  · have h := it_t hc h
    refine lv_iconst (v := 0) X.1 X.2.1 dX12_doesKeep_42 (by decide) ?_
    exact HJ43 0 H locs ls h hP hS (lv_sub hl [] rfl)
  · have h := it_f hc h
    refine lv_iconst (v := 1) X.1 X.2.1 dX12_doesKeep_38 (by decide) ?_
    refine lv_goto (tgt := 43) X.1 X.2.1 dX12_doesKeep_39 (by decide) ?_
    exact HJ43 1 H locs ls h hP hS (lv_sub hl [] rfl)

def f_X12_draw (g0 : Pic) (x1 : Int32) : Option (Int32 × Pic) := nm (pu g0 1 11 ((1103515245 * (g0 1 11)) + 12345)) (fun g0_1 => gdz x1 (some ((((((g0_1 1 11).toUInt32 >>> ((16 : Int32).toUInt32 &&& Int32.toUInt32 31)).toInt32) &&& 32767) - ((((g0_1 1 11).toUInt32 >>> ((16 : Int32).toUInt32 &&& Int32.toUInt32 31)).toInt32) &&& 32767) / x1 * x1), g0_1)))
abbrev rm_X12_draw : Room := { frames := 0, cells := 0, slots := 0, locals := 0 }
set_option maxHeartbeats 4000000 in
set_option maxRecDepth 100000 in
theorem c_X12_draw (l : Launch) (dC : Nat → ClassId) (dI : Nat → Nat → Nat) (sk sv : Nat → Nat) (tc : Nat → ClassId) (a0 : Nat → Nat) (g0 : Pic) (x1 : Int32) {r0 : Int32} {G0 : Pic} (h : f_X12_draw g0 x1 = some (r0, G0)) : CT l (dC, dI) sk sv (TY tc) yX12_draw cX12_draw 2 (some .int) rm_X12_draw [.ref (a0 0), .int x1] (wM tc a0 g0) (some (.int r0)) (wM tc a0 G0) := by
  refine ofCT (by decide) (Nat.le_of_ble_eq_true rfl) ?_
  intro pr e s m args below meth c A Q ls H locs X hQ hD0 hP hS hl
  have hD : ∀ z0, va_D A (wM tc a0 z0) := fun z0 => D_fst (ws := (wM tc a0 g0)) rfl hD0
  have hl : lv_has ls 2 [(0, .ref (a0 0)), (1, .int x1)] := hl
  unfold f_X12_draw at h
  refine lv_aload_n X.1 X.2.1 dX12_draw_0 rfl (lv_at hl 0 rfl) ?_
  refine r_get (C := RX12) (T := TX12) (N := 28) (ci := 12) (v := .ref (a0 2)) X iw12 hP 0 rfl rfl 1 rfl mw_7_121 rfl dX12_draw_1 ?_
  refine lv_bipush (v := 11) X.1 X.2.1 dX12_draw_4 (by decide) ?_
  refine lv_ldcw (v := 1103515245) X.1 X.2.1 X.2.2.2.2.1 (X.2.2.2.2.2.1 _ (List.mem_cons_of_mem _ mw_9_78)) dX12_draw_6 ?_
  refine lv_aload_n X.1 X.2.1 dX12_draw_9 rfl (lv_at hl 0 rfl) ?_
  refine r_get (C := RX12) (T := TX12) (N := 28) (ci := 12) (v := .ref (a0 2)) X iw12 hP 0 rfl rfl 1 rfl mw_7_121 rfl dX12_draw_10 ?_
  refine lv_bipush (v := 11) X.1 X.2.1 dX12_draw_13 (by decide) ?_
  refine r_iald X hP 1 0 rfl rfl (j := 11) (by unfold vp_in; decide) (by decide) dX12_draw_15 ?_
  refine lv_imul X.1 X.2.1 dX12_draw_16 ?_
  refine lv_sipush (v := 12345) X.1 X.2.1 dX12_draw_17 (by decide) ?_
  refine lv_iadd X.1 X.2.1 dX12_draw_20 ?_
  obtain ⟨g0_1, eg0_1, h⟩ := nm_el h
  refine r_iast X hP (hD _) hS 1 0 rfl rfl (j := 11) (by unfold vp_in; decide) (by decide) dX12_draw_21 (wM tc a0 g0_1) (by rw [eg0_1]; rfl) (fun H locs hP hS => ?_)
  refine lv_aload_n X.1 X.2.1 dX12_draw_22 rfl (lv_at hl 0 rfl) ?_
  refine r_get (C := RX12) (T := TX12) (N := 28) (ci := 12) (v := .ref (a0 2)) X iw12 hP 0 rfl rfl 1 rfl mw_7_121 rfl dX12_draw_23 ?_
  refine lv_bipush (v := 11) X.1 X.2.1 dX12_draw_26 (by decide) ?_
  refine r_iald X hP 1 0 rfl rfl (j := 11) (by unfold vp_in; decide) (by decide) dX12_draw_28 ?_
  refine lv_bipush (v := 16) X.1 X.2.1 dX12_draw_29 (by decide) ?_
  refine lv_iushr X.1 X.2.1 dX12_draw_31 rfl ?_
  refine lv_sipush (v := 32767) X.1 X.2.1 dX12_draw_32 (by decide) ?_
  refine lv_iand X.1 X.2.1 dX12_draw_35 ?_
  refine lv_iload_n X.1 X.2.1 dX12_draw_36 rfl (lv_at hl 1 rfl) ?_
  obtain ⟨hg_2, h⟩ := gdz_el h
  refine lv_irem X.1 X.2.1 dX12_draw_37 hg_2 ?_
  exact ret_i (fun u => (wM tc a0 u)) (res := (r0, G0)) (Option.some.inj h) X hQ hP hS dX12_draw_38

def f_X12_logs_L5 (x1 : Int32) (x2 : Int32) (x3 : Int32) (n : Nat) (a : Int32 × Pic) : Option (Pic) := lp (fun (rec : Int32 × Pic → Option (Pic)) (a : Int32 × Pic) => match a with | (x4, g0) => (if x4 < 4 then some g0 else gdi ((216 + x4) - 4) 856 (gdi (216 + x4) 856 (nm (pu g0 1 ((216 + x4).toNatClampNeg) (g0 1 (((216 + x4) - 4).toNatClampNeg))) (fun g0_3 => nm (x4 + (-1)) (fun x4_4 => rec (x4_4, g0_3))))))) n a
def f_X12_logs (g0 : Pic) (x1 : Int32) (x2 : Int32) (x3 : Int32) : Option (Pic) := bd (f_X12_logs_L5 x1 x2 x3 fu (239, g0)) (fun g0_5 => nm (pu g0_5 1 216 (g0_5 1 9)) (fun g0_6 => nm (pu g0_6 1 217 x1) (fun g0_7 => nm (pu g0_7 1 218 x2) (fun g0_8 => nm (pu g0_8 1 219 x3) (fun g0_9 => bd (f_X12_lesser 60 ((g0_9 1 10) + 1)) (fun r_10 => nm (pu g0_9 1 10 r_10) (fun g0_11 => some g0_11)))))))
abbrev rm_X12_logs : Room := { frames := 1, cells := 0, slots := 0, locals := 21 }
set_option maxHeartbeats 4000000 in
set_option maxRecDepth 100000 in
theorem c_X12_logs (l : Launch) (dC : Nat → ClassId) (dI : Nat → Nat → Nat) (sk sv : Nat → Nat) (tc : Nat → ClassId) (a0 : Nat → Nat) (g0 : Pic) (x1 : Int32) (x2 : Int32) (x3 : Int32) {G0 : Pic} (h : f_X12_logs g0 x1 x2 x3 = some G0) : CT l (dC, dI) sk sv (TY tc) yX12_logs cX12_logs 5 none rm_X12_logs [.ref (a0 0), .int x1, .int x2, .int x3] (wM tc a0 g0) none (wM tc a0 G0) := by
  refine ofCT (by decide) (Nat.le_of_ble_eq_true rfl) ?_
  intro pr e s m args below meth c A Q ls H locs X hQ hD0 hP hS hl
  have hD : ∀ z0, va_D A (wM tc a0 z0) := fun z0 => D_fst (ws := (wM tc a0 g0)) rfl hD0
  have hl : lv_has ls 5 [(0, .ref (a0 0)), (1, .int x1), (2, .int x2), (3, .int x3)] := hl
  have HL5 : ∀ (x1 : Int32) (x2 : Int32) (x3 : Int32) (n : Nat) (x4 : Int32) (g0 : Pic) (ex : (Pic)), f_X12_logs_L5 x1 x2 x3 n (x4, g0) = some ex → ∀ (H : Heap) (locs : List Loc) (ls : Array Slot), va_P (dC, dI) vwCl (wM tc a0 g0) H → va_S A s.heap H locs → lv_has ls 5 [(0, .ref (a0 0)), (1, .int x1), (2, .int x2), (3, .int x3), (4, .int x4)] → (∀ (k0 : Pic), k0 = ex → ∀ (H : Heap) (locs : List Loc) (ls : Array Slot), va_P (dC, dI) vwCl (wM tc a0 k0) H → va_S A s.heap H locs → lv_has ls 5 [(0, .ref (a0 0)), (1, .int x1), (2, .int x2), (3, .int x3)] → W pr l e rm_X12_logs s m args below meth c H locs 0 0 Q (F0 m 41 ls [])) → W pr l e rm_X12_logs s m args below meth c H locs 0 0 Q (F0 m 5 ls []) := by
    intro x1 x2 x3 n
    induction n with
    | zero => intro x4 g0 ex h; exact lp_z h
    | succ n ih =>
      intro x4 g0 ex h H locs ls hP hS hl K
      have h := lp_s h
      refine lv_iload X.1 X.2.1 dX12_logs_5 (lv_at hl 4 rfl) ?_
      refine lv_iconst (v := 4) X.1 X.2.1 dX12_logs_7 (by decide) ?_
      refine lv_icmp_lt (tgt := 41) X.1 X.2.1 dX12_logs_8 (by decide) (fun hc => ?_) (fun hc => ?_)
      · have h := it_t hc h
        exact K g0 (Option.some.inj h) H locs ls hP hS (lv_sub hl [0, 1, 2, 3] rfl)
      · have h := it_f hc h
        refine lv_aload_n X.1 X.2.1 dX12_logs_11 rfl (lv_at hl 0 rfl) ?_
        refine r_get (C := RX12) (T := TX12) (N := 28) (ci := 12) (v := .ref (a0 2)) X iw12 hP 0 rfl rfl 1 rfl mw_7_121 rfl dX12_logs_12 ?_
        refine lv_sipush (v := 216) X.1 X.2.1 dX12_logs_15 (by decide) ?_
        refine lv_iload X.1 X.2.1 dX12_logs_18 (lv_at hl 4 rfl) ?_
        refine lv_iadd X.1 X.2.1 dX12_logs_20 ?_
        refine lv_aload_n X.1 X.2.1 dX12_logs_21 rfl (lv_at hl 0 rfl) ?_
        refine r_get (C := RX12) (T := TX12) (N := 28) (ci := 12) (v := .ref (a0 2)) X iw12 hP 0 rfl rfl 1 rfl mw_7_121 rfl dX12_logs_22 ?_
        refine lv_sipush (v := 216) X.1 X.2.1 dX12_logs_25 (by decide) ?_
        refine lv_iload X.1 X.2.1 dX12_logs_28 (lv_at hl 4 rfl) ?_
        refine lv_iadd X.1 X.2.1 dX12_logs_30 ?_
        refine lv_iconst (v := 4) X.1 X.2.1 dX12_logs_31 (by decide) ?_
        refine lv_isub X.1 X.2.1 dX12_logs_32 ?_
        obtain ⟨hg_1, h⟩ := gdi_el h
        refine r_iald X hP 1 0 rfl rfl hg_1 rfl dX12_logs_33 ?_
        obtain ⟨hg_2, h⟩ := gdi_el h
        obtain ⟨g0_3, eg0_3, h⟩ := nm_el h
        refine r_iast X hP (hD _) hS 1 0 rfl rfl hg_2 rfl dX12_logs_34 (wM tc a0 g0_3) (by rw [eg0_3]; rfl) (fun H locs hP hS => ?_)
        obtain ⟨x4_4, ex4_4, h⟩ := nm_el h
        refine lv_iinc (v := x4_4) (lv' := [(4, .int x4_4), (0, .ref (a0 0)), (1, .int x1), (2, .int x2), (3, .int x3)]) X.1 X.2.1 dX12_logs_35 hl (k := 4) rfl (by rw [ex4_4]; rfl) (by decide) rfl (fun ls hl => ?_)
        refine lv_goto (tgt := 5) X.1 X.2.1 dX12_logs_38 (by decide) ?_
        exact ih x4_4 g0_3 ex h H locs ls hP hS (lv_sub hl [1, 2, 3, 4, 0] rfl) K
  unfold f_X12_logs at h
  refine lv_sipush (v := 239) X.1 X.2.1 dX12_logs_0 (by decide) ?_
  refine lv_istore (lv' := [(4, .int 239), (0, .ref (a0 0)), (1, .int x1), (2, .int x2), (3, .int x3)]) X.1 X.2.1 dX12_logs_3 hl (by decide) rfl (fun ls hl => ?_)
  obtain ⟨ex_5, hL_5, h⟩ := bd_el h
  refine HL5 x1 x2 x3 fu 239 g0 ex_5 hL_5 H locs ls hP hS (lv_sub hl [1, 2, 3, 4, 0] rfl) (fun g0_5 he H locs ls hP hS hl => ?_)
  subst he
  refine lv_aload_n X.1 X.2.1 dX12_logs_41 rfl (lv_at hl 0 rfl) ?_
  refine r_get (C := RX12) (T := TX12) (N := 28) (ci := 12) (v := .ref (a0 2)) X iw12 hP 0 rfl rfl 1 rfl mw_7_121 rfl dX12_logs_42 ?_
  refine lv_sipush (v := 216) X.1 X.2.1 dX12_logs_45 (by decide) ?_
  refine lv_aload_n X.1 X.2.1 dX12_logs_48 rfl (lv_at hl 0 rfl) ?_
  refine r_get (C := RX12) (T := TX12) (N := 28) (ci := 12) (v := .ref (a0 2)) X iw12 hP 0 rfl rfl 1 rfl mw_7_121 rfl dX12_logs_49 ?_
  refine lv_bipush (v := 9) X.1 X.2.1 dX12_logs_52 (by decide) ?_
  refine r_iald X hP 1 0 rfl rfl (j := 9) (by unfold vp_in; decide) (by decide) dX12_logs_54 ?_
  obtain ⟨g0_6, eg0_6, h⟩ := nm_el h
  refine r_iast X hP (hD _) hS 1 0 rfl rfl (j := 216) (by unfold vp_in; decide) (by decide) dX12_logs_55 (wM tc a0 g0_6) (by rw [eg0_6]; rfl) (fun H locs hP hS => ?_)
  refine lv_aload_n X.1 X.2.1 dX12_logs_56 rfl (lv_at hl 0 rfl) ?_
  refine r_get (C := RX12) (T := TX12) (N := 28) (ci := 12) (v := .ref (a0 2)) X iw12 hP 0 rfl rfl 1 rfl mw_7_121 rfl dX12_logs_57 ?_
  refine lv_sipush (v := 217) X.1 X.2.1 dX12_logs_60 (by decide) ?_
  refine lv_iload_n X.1 X.2.1 dX12_logs_63 rfl (lv_at hl 1 rfl) ?_
  obtain ⟨g0_7, eg0_7, h⟩ := nm_el h
  refine r_iast X hP (hD _) hS 1 0 rfl rfl (j := 217) (by unfold vp_in; decide) (by decide) dX12_logs_64 (wM tc a0 g0_7) (by rw [eg0_7]; rfl) (fun H locs hP hS => ?_)
  refine lv_aload_n X.1 X.2.1 dX12_logs_65 rfl (lv_at hl 0 rfl) ?_
  refine r_get (C := RX12) (T := TX12) (N := 28) (ci := 12) (v := .ref (a0 2)) X iw12 hP 0 rfl rfl 1 rfl mw_7_121 rfl dX12_logs_66 ?_
  refine lv_sipush (v := 218) X.1 X.2.1 dX12_logs_69 (by decide) ?_
  refine lv_iload_n X.1 X.2.1 dX12_logs_72 rfl (lv_at hl 2 rfl) ?_
  obtain ⟨g0_8, eg0_8, h⟩ := nm_el h
  refine r_iast X hP (hD _) hS 1 0 rfl rfl (j := 218) (by unfold vp_in; decide) (by decide) dX12_logs_73 (wM tc a0 g0_8) (by rw [eg0_8]; rfl) (fun H locs hP hS => ?_)
  refine lv_aload_n X.1 X.2.1 dX12_logs_74 rfl (lv_at hl 0 rfl) ?_
  refine r_get (C := RX12) (T := TX12) (N := 28) (ci := 12) (v := .ref (a0 2)) X iw12 hP 0 rfl rfl 1 rfl mw_7_121 rfl dX12_logs_75 ?_
  refine lv_sipush (v := 219) X.1 X.2.1 dX12_logs_78 (by decide) ?_
  refine lv_iload_n X.1 X.2.1 dX12_logs_81 rfl (lv_at hl 3 rfl) ?_
  obtain ⟨g0_9, eg0_9, h⟩ := nm_el h
  refine r_iast X hP (hD _) hS 1 0 rfl rfl (j := 219) (by unfold vp_in; decide) (by decide) dX12_logs_82 (wM tc a0 g0_9) (by rw [eg0_9]; rfl) (fun H locs hP hS => ?_)
  refine lv_aload_n X.1 X.2.1 dX12_logs_83 rfl (lv_at hl 0 rfl) ?_
  refine r_get (C := RX12) (T := TX12) (N := 28) (ci := 12) (v := .ref (a0 2)) X iw12 hP 0 rfl rfl 1 rfl mw_7_121 rfl dX12_logs_84 ?_
  refine lv_bipush (v := 10) X.1 X.2.1 dX12_logs_87 (by decide) ?_
  refine lv_bipush (v := 60) X.1 X.2.1 dX12_logs_89 (by decide) ?_
  refine lv_aload_n X.1 X.2.1 dX12_logs_91 rfl (lv_at hl 0 rfl) ?_
  refine r_get (C := RX12) (T := TX12) (N := 28) (ci := 12) (v := .ref (a0 2)) X iw12 hP 0 rfl rfl 1 rfl mw_7_121 rfl dX12_logs_92 ?_
  refine lv_bipush (v := 10) X.1 X.2.1 dX12_logs_95 (by decide) ?_
  refine r_iald X hP 1 0 rfl rfl (j := 10) (by unfold vp_in; decide) (by decide) dX12_logs_97 ?_
  refine lv_iconst (v := 1) X.1 X.2.1 dX12_logs_98 (by decide) ?_
  refine lv_iadd X.1 X.2.1 dX12_logs_99 ?_
  obtain ⟨r_10, hc_10, h⟩ := bd_el h
  refine call_S0i (As := [.int 60, .int ((g0_9 1 10) + 1)]) (rest := [.int 10, .ref (a0 2)]) X (c_X12_lesser l dC dI sk sv tc 60 ((g0_9 1 10) + 1) hc_10) mw_8_157 mw_8_158 mw_1_12 mw_8_159 dc_X12_lesser ⟨Nat.le_of_ble_eq_true rfl, Nat.le_of_ble_eq_true rfl⟩ rfl rfl ⟨Nat.zero_le _, Nat.zero_le _⟩ hP (hD _) hS hl.1 (Nat.le_of_ble_eq_true rfl) dX12_logs_100 (fun H locs hP hS => ?_)
  obtain ⟨g0_11, eg0_11, h⟩ := nm_el h
  refine r_iast X hP (hD _) hS 1 0 rfl rfl (j := 10) (by unfold vp_in; decide) (by decide) dX12_logs_103 (wM tc a0 g0_11) (by rw [eg0_11]; rfl) (fun H locs hP hS => ?_)
  exact ret_v (fun u => (wM tc a0 u)) (res := G0) (Option.some.inj h) X hQ hP hS dX12_logs_104

def f_X12_tiredOfAll_L4 (g0 : Pic) (n : Nat) (a : Int32 × Int32) : Option (Int32) := lp (fun (rec : Int32 × Int32 → Option (Int32)) (a : Int32 × Int32) => match a with | (x1, x2) => (if (g0 1 4) ≤ x2 then some x1 else bd (f_X12_of g0 x2 3) (fun r_1 => nm ((x1 + r_1)) (fun x1_2 => nm (x2 + 1) (fun x2_3 => rec (x1_2, x2_3)))))) n a
def f_X12_tiredOfAll (g0 : Pic) : Option (Int32) := bd (f_X12_tiredOfAll_L4 g0 fu (0, 0)) (fun x1_4 => some x1_4)
abbrev rm_X12_tiredOfAll : Room := { frames := 1, cells := 0, slots := 0, locals := 22 }
set_option maxHeartbeats 4000000 in
set_option maxRecDepth 100000 in
theorem c_X12_tiredOfAll (l : Launch) (dC : Nat → ClassId) (dI : Nat → Nat → Nat) (sk sv : Nat → Nat) (tc : Nat → ClassId) (a0 : Nat → Nat) (g0 : Pic) {r0 : Int32} (h : f_X12_tiredOfAll g0 = some r0) : CT l (dC, dI) sk sv (TY tc) yX12_tiredOfAll cX12_tiredOfAll 3 (some .int) rm_X12_tiredOfAll [.ref (a0 0)] (wM tc a0 g0) (some (.int r0)) (wM tc a0 g0) := by
  refine ofCT (by decide) (Nat.le_of_ble_eq_true rfl) ?_
  intro pr e s m args below meth c A Q ls H locs X hQ hD0 hP hS hl
  have hD : ∀ z0, va_D A (wM tc a0 z0) := fun z0 => D_fst (ws := (wM tc a0 g0)) rfl hD0
  have hl : lv_has ls 3 [(0, .ref (a0 0))] := hl
  have HL4 : ∀ (n : Nat) (x1 : Int32) (x2 : Int32) (ex : (Int32)), f_X12_tiredOfAll_L4 g0 n (x1, x2) = some ex → ∀ (H : Heap) (locs : List Loc) (ls : Array Slot), va_P (dC, dI) vwCl (wM tc a0 g0) H → va_S A s.heap H locs → lv_has ls 3 [(0, .ref (a0 0)), (1, .int x1), (2, .int x2)] → (∀ (y1 : Int32), y1 = ex → ∀ (H : Heap) (locs : List Loc) (ls : Array Slot), va_P (dC, dI) vwCl (wM tc a0 g0) H → va_S A s.heap H locs → lv_has ls 3 [(1, .int y1)] → W pr l e rm_X12_tiredOfAll s m args below meth c H locs 0 0 Q (F0 m 29 ls [])) → W pr l e rm_X12_tiredOfAll s m args below meth c H locs 0 0 Q (F0 m 4 ls []) := by
    intro n
    induction n with
    | zero => intro x1 x2 ex h; exact lp_z h
    | succ n ih =>
      intro x1 x2 ex h H locs ls hP hS hl K
      have h := lp_s h
      refine lv_iload_n X.1 X.2.1 dX12_tiredOfAll_4 rfl (lv_at hl 2 rfl) ?_
      refine lv_aload_n X.1 X.2.1 dX12_tiredOfAll_5 rfl (lv_at hl 0 rfl) ?_
      refine r_get (C := RX12) (T := TX12) (N := 28) (ci := 12) (v := .ref (a0 2)) X iw12 hP 0 rfl rfl 1 rfl mw_7_121 rfl dX12_tiredOfAll_6 ?_
      refine lv_iconst (v := 4) X.1 X.2.1 dX12_tiredOfAll_9 (by decide) ?_
      refine r_iald X hP 1 0 rfl rfl (j := 4) (by unfold vp_in; decide) (by decide) dX12_tiredOfAll_10 ?_
      refine lv_icmp_ge (tgt := 29) X.1 X.2.1 dX12_tiredOfAll_11 (by decide) (fun hc => ?_) (fun hc => ?_)
      · have h := it_t hc h
        exact K x1 (Option.some.inj h) H locs ls hP hS (lv_sub hl [1] rfl)
      · have h := it_f hc h
        refine lv_iload_n X.1 X.2.1 dX12_tiredOfAll_14 rfl (lv_at hl 1 rfl) ?_
        refine lv_aload_n X.1 X.2.1 dX12_tiredOfAll_15 rfl (lv_at hl 0 rfl) ?_
        refine lv_iload_n X.1 X.2.1 dX12_tiredOfAll_16 rfl (lv_at hl 2 rfl) ?_
        refine lv_iconst (v := 3) X.1 X.2.1 dX12_tiredOfAll_17 (by decide) ?_
        obtain ⟨r_1, hc_1, h⟩ := bd_el h
        refine call_V1i (As := [.int x2, .int 3]) (rest := [.int x1]) X (c_X12_of l dC dI sk sv tc a0 g0 x2 3 hc_1) mw_8_180 mw_8_182 mp_4_1 mw_1_12 mw_8_183 dc_X12_of ⟨Nat.le_of_ble_eq_true rfl, Nat.le_of_ble_eq_true rfl⟩ rfl rfl ⟨Nat.zero_le _, Nat.zero_le _⟩ hP (hD _) hS 0 rfl rfl rfl hl.1 (Nat.le_of_ble_eq_true rfl) dX12_tiredOfAll_18 (fun H locs hP hS => ?_)
        refine lv_iadd X.1 X.2.1 dX12_tiredOfAll_21 ?_
        obtain ⟨x1_2, ex1_2, h⟩ := nm_el h
        refine tp_i ex1_2 ?_
        refine lv_istore_n (lv' := [(1, .int x1_2), (0, .ref (a0 0)), (2, .int x2)]) X.1 X.2.1 dX12_tiredOfAll_22 rfl hl (by decide) rfl (fun ls hl => ?_)
        obtain ⟨x2_3, ex2_3, h⟩ := nm_el h
        refine lv_iinc (v := x2_3) (lv' := [(2, .int x2_3), (1, .int x1_2), (0, .ref (a0 0))]) X.1 X.2.1 dX12_tiredOfAll_23 hl (k := 2) rfl (by rw [ex2_3]; rfl) (by decide) rfl (fun ls hl => ?_)
        refine lv_goto (tgt := 4) X.1 X.2.1 dX12_tiredOfAll_26 (by decide) ?_
        exact ih x1_2 x2_3 ex h H locs ls hP hS (lv_sub hl [2, 1, 0] rfl) K
  unfold f_X12_tiredOfAll at h
  refine lv_iconst (v := 0) X.1 X.2.1 dX12_tiredOfAll_0 (by decide) ?_
  refine lv_istore_n (lv' := [(1, .int 0), (0, .ref (a0 0))]) X.1 X.2.1 dX12_tiredOfAll_1 rfl hl (by decide) rfl (fun ls hl => ?_)
  refine lv_iconst (v := 0) X.1 X.2.1 dX12_tiredOfAll_2 (by decide) ?_
  refine lv_istore_n (lv' := [(2, .int 0), (1, .int 0), (0, .ref (a0 0))]) X.1 X.2.1 dX12_tiredOfAll_3 rfl hl (by decide) rfl (fun ls hl => ?_)
  obtain ⟨ex_4, hL_4, h⟩ := bd_el h
  refine HL4  fu 0 0 ex_4 hL_4 H locs ls hP hS (lv_sub hl [2, 1, 0] rfl) (fun x1_4 he H locs ls hP hS hl => ?_)
  subst he
  refine lv_iload_n X.1 X.2.1 dX12_tiredOfAll_29 rfl (lv_at hl 0 rfl) ?_
  exact ret_i0 (Option.some.inj h) X hQ hP hS dX12_tiredOfAll_30

def f_X12_paged_L5 (x1 : Int32) (x2 : Int32) (g0 : Pic) (n : Nat) (a : Int32 × Int32) : Option (Int32) := lp (fun (rec : Int32 × Int32 → Option (Int32)) (a : Int32 × Int32) => match a with | (x3, x4) => (if (g0 1 6) ≤ x4 then some x3 else bd (f_X12_onPage g0 x1 x4) (fun r_1 => jn (fun (s0_J34 : Int32) (s1_J34 : Int32) => nm ((s0_J34 + s1_J34)) (fun x3_2 => nm (x4 + 1) (fun x4_3 => rec (x3_2, x4_3)))) (fun J34 => (if r_1 = x2 then J34 x3 1 else J34 x3 0))))) n a
def f_X12_paged (g0 : Pic) (x1 : Int32) (x2 : Int32) : Option (Int32) := bd (f_X12_paged_L5 x1 x2 g0 fu (0, 0)) (fun x3_4 => some x3_4)
abbrev rm_X12_paged : Room := { frames := 1, cells := 0, slots := 0, locals := 22 }
set_option maxHeartbeats 4000000 in
set_option maxRecDepth 100000 in
theorem c_X12_paged (l : Launch) (dC : Nat → ClassId) (dI : Nat → Nat → Nat) (sk sv : Nat → Nat) (tc : Nat → ClassId) (a0 : Nat → Nat) (g0 : Pic) (x1 : Int32) (x2 : Int32) {r0 : Int32} (h : f_X12_paged g0 x1 x2 = some r0) : CT l (dC, dI) sk sv (TY tc) yX12_paged cX12_paged 5 (some .int) rm_X12_paged [.ref (a0 0), .int x1, .int x2] (wM tc a0 g0) (some (.int r0)) (wM tc a0 g0) := by
  refine ofCT (by decide) (Nat.le_of_ble_eq_true rfl) ?_
  intro pr e s m args below meth c A Q ls H locs X hQ hD0 hP hS hl
  have hD : ∀ z0, va_D A (wM tc a0 z0) := fun z0 => D_fst (ws := (wM tc a0 g0)) rfl hD0
  have hl : lv_has ls 5 [(0, .ref (a0 0)), (1, .int x1), (2, .int x2)] := hl
  have HL5 : ∀ (x1 : Int32) (x2 : Int32) (n : Nat) (x3 : Int32) (x4 : Int32) (ex : (Int32)), f_X12_paged_L5 x1 x2 g0 n (x3, x4) = some ex → ∀ (H : Heap) (locs : List Loc) (ls : Array Slot), va_P (dC, dI) vwCl (wM tc a0 g0) H → va_S A s.heap H locs → lv_has ls 5 [(0, .ref (a0 0)), (1, .int x1), (2, .int x2), (3, .int x3), (4, .int x4)] → (∀ (y3 : Int32), y3 = ex → ∀ (H : Heap) (locs : List Loc) (ls : Array Slot), va_P (dC, dI) vwCl (wM tc a0 g0) H → va_S A s.heap H locs → lv_has ls 5 [(3, .int y3)] → W pr l e rm_X12_paged s m args below meth c H locs 0 0 Q (F0 m 42 ls [])) → W pr l e rm_X12_paged s m args below meth c H locs 0 0 Q (F0 m 5 ls []) := by
    intro x1 x2 n
    induction n with
    | zero => intro x3 x4 ex h; exact lp_z h
    | succ n ih =>
      intro x3 x4 ex h H locs ls hP hS hl K
      have h := lp_s h
      refine lv_iload X.1 X.2.1 dX12_paged_5 (lv_at hl 4 rfl) ?_
      refine lv_aload_n X.1 X.2.1 dX12_paged_7 rfl (lv_at hl 0 rfl) ?_
      refine r_get (C := RX12) (T := TX12) (N := 28) (ci := 12) (v := .ref (a0 2)) X iw12 hP 0 rfl rfl 1 rfl mw_7_121 rfl dX12_paged_8 ?_
      refine lv_bipush (v := 6) X.1 X.2.1 dX12_paged_11 (by decide) ?_
      refine r_iald X hP 1 0 rfl rfl (j := 6) (by unfold vp_in; decide) (by decide) dX12_paged_13 ?_
      refine lv_icmp_ge (tgt := 42) X.1 X.2.1 dX12_paged_14 (by decide) (fun hc => ?_) (fun hc => ?_)
      · have h := it_t hc h
        exact K x3 (Option.some.inj h) H locs ls hP hS (lv_sub hl [3] rfl)
      · have h := it_f hc h
        refine lv_iload_n X.1 X.2.1 dX12_paged_17 rfl (lv_at hl 3 rfl) ?_
        refine lv_aload_n X.1 X.2.1 dX12_paged_18 rfl (lv_at hl 0 rfl) ?_
        refine lv_iload_n X.1 X.2.1 dX12_paged_19 rfl (lv_at hl 1 rfl) ?_
        refine lv_iload X.1 X.2.1 dX12_paged_20 (lv_at hl 4 rfl) ?_
        obtain ⟨r_1, hc_1, h⟩ := bd_el h
        refine call_V1i (As := [.int x1, .int x4]) (rest := [.int x3]) X (c_X12_onPage l dC dI sk sv tc a0 g0 x1 x4 hc_1) mw_8_230 mw_8_232 mp_4_12 mw_1_12 mw_8_233 dc_X12_onPage ⟨Nat.le_of_ble_eq_true rfl, Nat.le_of_ble_eq_true rfl⟩ rfl rfl ⟨Nat.zero_le _, Nat.zero_le _⟩ hP (hD _) hS 0 rfl rfl rfl hl.1 (Nat.le_of_ble_eq_true rfl) dX12_paged_22 (fun H locs hP hS => ?_)
        refine lv_iload_n X.1 X.2.1 dX12_paged_25 rfl (lv_at hl 2 rfl) ?_
        obtain ⟨J34, eJ34, h⟩ := jn_el h
        have HJ34 : ∀ (s0_J34 : Int32) (s1_J34 : Int32) (H : Heap) (locs : List Loc) (ls : Array Slot), J34 s0_J34 s1_J34 = some ex → va_P (dC, dI) vwCl (wM tc a0 g0) H → va_S A s.heap H locs → lv_has ls 5 [(0, .ref (a0 0)), (1, .int x1), (2, .int x2), (4, .int x4)] → W pr l e rm_X12_paged s m args below meth c H locs 0 0 Q (F0 m 34 ls [.int s1_J34, .int s0_J34]) := by
          intro s0_J34 s1_J34 H locs ls h hP hS hl
          rw [eJ34] at h
          refine lv_iadd X.1 X.2.1 dX12_paged_34 ?_
          obtain ⟨x3_2, ex3_2, h⟩ := nm_el h
          refine tp_i ex3_2 ?_
          refine lv_istore_n (lv' := [(3, .int x3_2), (0, .ref (a0 0)), (1, .int x1), (2, .int x2), (4, .int x4)]) X.1 X.2.1 dX12_paged_35 rfl hl (by decide) rfl (fun ls hl => ?_)
          obtain ⟨x4_3, ex4_3, h⟩ := nm_el h
          refine lv_iinc (v := x4_3) (lv' := [(4, .int x4_3), (3, .int x3_2), (0, .ref (a0 0)), (1, .int x1), (2, .int x2)]) X.1 X.2.1 dX12_paged_36 hl (k := 4) rfl (by rw [ex4_3]; rfl) (by decide) rfl (fun ls hl => ?_)
          refine lv_goto (tgt := 5) X.1 X.2.1 dX12_paged_39 (by decide) ?_
          exact ih x3_2 x4_3 ex h H locs ls hP hS (lv_sub hl [2, 3, 4, 1, 0] rfl) K
        refine lv_icmp_ne (tgt := 33) X.1 X.2.1 dX12_paged_26 (by decide) (fun hc => ?_) (fun hc => ?_)
        · have h := it_f hc h
          refine lv_iconst (v := 0) X.1 X.2.1 dX12_paged_33 (by decide) ?_
          exact HJ34 x3 0 H locs ls h hP hS (lv_sub hl [0, 1, 2, 4] rfl)
        · have h := it_t hc h
          refine lv_iconst (v := 1) X.1 X.2.1 dX12_paged_29 (by decide) ?_
          refine lv_goto (tgt := 34) X.1 X.2.1 dX12_paged_30 (by decide) ?_
          exact HJ34 x3 1 H locs ls h hP hS (lv_sub hl [0, 1, 2, 4] rfl)
  unfold f_X12_paged at h
  refine lv_iconst (v := 0) X.1 X.2.1 dX12_paged_0 (by decide) ?_
  refine lv_istore_n (lv' := [(3, .int 0), (0, .ref (a0 0)), (1, .int x1), (2, .int x2)]) X.1 X.2.1 dX12_paged_1 rfl hl (by decide) rfl (fun ls hl => ?_)
  refine lv_iconst (v := 0) X.1 X.2.1 dX12_paged_2 (by decide) ?_
  refine lv_istore (lv' := [(4, .int 0), (3, .int 0), (0, .ref (a0 0)), (1, .int x1), (2, .int x2)]) X.1 X.2.1 dX12_paged_3 hl (by decide) rfl (fun ls hl => ?_)
  obtain ⟨ex_4, hL_4, h⟩ := bd_el h
  refine HL5 x1 x2 fu 0 0 ex_4 hL_4 H locs ls hP hS (lv_sub hl [2, 3, 4, 1, 0] rfl) (fun x3_4 he H locs ls hP hS hl => ?_)
  subst he
  refine lv_iload_n X.1 X.2.1 dX12_paged_42 rfl (lv_at hl 0 rfl) ?_
  exact ret_i0 (Option.some.inj h) X hQ hP hS dX12_paged_43

def f_X12_pagedOfAll_L4 (x1 : Int32) (g0 : Pic) (n : Nat) (a : Int32 × Int32) : Option (Int32) := lp (fun (rec : Int32 × Int32 → Option (Int32)) (a : Int32 × Int32) => match a with | (x2, x3) => (if (g0 1 4) ≤ x3 then some x2 else bd (f_X12_paged g0 x3 x1) (fun r_1 => nm ((x2 + r_1)) (fun x2_2 => nm (x3 + 1) (fun x3_3 => rec (x2_2, x3_3)))))) n a
def f_X12_pagedOfAll (g0 : Pic) (x1 : Int32) : Option (Int32) := bd (f_X12_pagedOfAll_L4 x1 g0 fu (0, 0)) (fun x2_4 => some x2_4)
abbrev rm_X12_pagedOfAll : Room := { frames := 2, cells := 0, slots := 0, locals := 46 }
set_option maxHeartbeats 4000000 in
set_option maxRecDepth 100000 in
theorem c_X12_pagedOfAll (l : Launch) (dC : Nat → ClassId) (dI : Nat → Nat → Nat) (sk sv : Nat → Nat) (tc : Nat → ClassId) (a0 : Nat → Nat) (g0 : Pic) (x1 : Int32) {r0 : Int32} (h : f_X12_pagedOfAll g0 x1 = some r0) : CT l (dC, dI) sk sv (TY tc) yX12_pagedOfAll cX12_pagedOfAll 4 (some .int) rm_X12_pagedOfAll [.ref (a0 0), .int x1] (wM tc a0 g0) (some (.int r0)) (wM tc a0 g0) := by
  refine ofCT (by decide) (Nat.le_of_ble_eq_true rfl) ?_
  intro pr e s m args below meth c A Q ls H locs X hQ hD0 hP hS hl
  have hD : ∀ z0, va_D A (wM tc a0 z0) := fun z0 => D_fst (ws := (wM tc a0 g0)) rfl hD0
  have hl : lv_has ls 4 [(0, .ref (a0 0)), (1, .int x1)] := hl
  have HL4 : ∀ (x1 : Int32) (n : Nat) (x2 : Int32) (x3 : Int32) (ex : (Int32)), f_X12_pagedOfAll_L4 x1 g0 n (x2, x3) = some ex → ∀ (H : Heap) (locs : List Loc) (ls : Array Slot), va_P (dC, dI) vwCl (wM tc a0 g0) H → va_S A s.heap H locs → lv_has ls 4 [(0, .ref (a0 0)), (1, .int x1), (2, .int x2), (3, .int x3)] → (∀ (y2 : Int32), y2 = ex → ∀ (H : Heap) (locs : List Loc) (ls : Array Slot), va_P (dC, dI) vwCl (wM tc a0 g0) H → va_S A s.heap H locs → lv_has ls 4 [(2, .int y2)] → W pr l e rm_X12_pagedOfAll s m args below meth c H locs 0 0 Q (F0 m 29 ls [])) → W pr l e rm_X12_pagedOfAll s m args below meth c H locs 0 0 Q (F0 m 4 ls []) := by
    intro x1 n
    induction n with
    | zero => intro x2 x3 ex h; exact lp_z h
    | succ n ih =>
      intro x2 x3 ex h H locs ls hP hS hl K
      have h := lp_s h
      refine lv_iload_n X.1 X.2.1 dX12_pagedOfAll_4 rfl (lv_at hl 3 rfl) ?_
      refine lv_aload_n X.1 X.2.1 dX12_pagedOfAll_5 rfl (lv_at hl 0 rfl) ?_
      refine r_get (C := RX12) (T := TX12) (N := 28) (ci := 12) (v := .ref (a0 2)) X iw12 hP 0 rfl rfl 1 rfl mw_7_121 rfl dX12_pagedOfAll_6 ?_
      refine lv_iconst (v := 4) X.1 X.2.1 dX12_pagedOfAll_9 (by decide) ?_
      refine r_iald X hP 1 0 rfl rfl (j := 4) (by unfold vp_in; decide) (by decide) dX12_pagedOfAll_10 ?_
      refine lv_icmp_ge (tgt := 29) X.1 X.2.1 dX12_pagedOfAll_11 (by decide) (fun hc => ?_) (fun hc => ?_)
      · have h := it_t hc h
        exact K x2 (Option.some.inj h) H locs ls hP hS (lv_sub hl [2] rfl)
      · have h := it_f hc h
        refine lv_iload_n X.1 X.2.1 dX12_pagedOfAll_14 rfl (lv_at hl 2 rfl) ?_
        refine lv_aload_n X.1 X.2.1 dX12_pagedOfAll_15 rfl (lv_at hl 0 rfl) ?_
        refine lv_iload_n X.1 X.2.1 dX12_pagedOfAll_16 rfl (lv_at hl 3 rfl) ?_
        refine lv_iload_n X.1 X.2.1 dX12_pagedOfAll_17 rfl (lv_at hl 1 rfl) ?_
        obtain ⟨r_1, hc_1, h⟩ := bd_el h
        refine call_V1i (As := [.int x3, .int x1]) (rest := [.int x2]) X (c_X12_paged l dC dI sk sv tc a0 g0 x3 x1 hc_1) mw_8_234 mw_8_236 mp_4_13 mw_1_12 mw_8_237 dc_X12_paged ⟨Nat.le_of_ble_eq_true rfl, Nat.le_of_ble_eq_true rfl⟩ rfl rfl ⟨Nat.zero_le _, Nat.zero_le _⟩ hP (hD _) hS 0 rfl rfl rfl hl.1 (Nat.le_of_ble_eq_true rfl) dX12_pagedOfAll_18 (fun H locs hP hS => ?_)
        refine lv_iadd X.1 X.2.1 dX12_pagedOfAll_21 ?_
        obtain ⟨x2_2, ex2_2, h⟩ := nm_el h
        refine tp_i ex2_2 ?_
        refine lv_istore_n (lv' := [(2, .int x2_2), (0, .ref (a0 0)), (1, .int x1), (3, .int x3)]) X.1 X.2.1 dX12_pagedOfAll_22 rfl hl (by decide) rfl (fun ls hl => ?_)
        obtain ⟨x3_3, ex3_3, h⟩ := nm_el h
        refine lv_iinc (v := x3_3) (lv' := [(3, .int x3_3), (2, .int x2_2), (0, .ref (a0 0)), (1, .int x1)]) X.1 X.2.1 dX12_pagedOfAll_23 hl (k := 3) rfl (by rw [ex3_3]; rfl) (by decide) rfl (fun ls hl => ?_)
        refine lv_goto (tgt := 4) X.1 X.2.1 dX12_pagedOfAll_26 (by decide) ?_
        exact ih x2_2 x3_3 ex h H locs ls hP hS (lv_sub hl [2, 3, 1, 0] rfl) K
  unfold f_X12_pagedOfAll at h
  refine lv_iconst (v := 0) X.1 X.2.1 dX12_pagedOfAll_0 (by decide) ?_
  refine lv_istore_n (lv' := [(2, .int 0), (0, .ref (a0 0)), (1, .int x1)]) X.1 X.2.1 dX12_pagedOfAll_1 rfl hl (by decide) rfl (fun ls hl => ?_)
  refine lv_iconst (v := 0) X.1 X.2.1 dX12_pagedOfAll_2 (by decide) ?_
  refine lv_istore_n (lv' := [(3, .int 0), (2, .int 0), (0, .ref (a0 0)), (1, .int x1)]) X.1 X.2.1 dX12_pagedOfAll_3 rfl hl (by decide) rfl (fun ls hl => ?_)
  obtain ⟨ex_4, hL_4, h⟩ := bd_el h
  refine HL4 x1 fu 0 0 ex_4 hL_4 H locs ls hP hS (lv_sub hl [2, 3, 1, 0] rfl) (fun x2_4 he H locs ls hP hS hl => ?_)
  subst he
  refine lv_iload_n X.1 X.2.1 dX12_pagedOfAll_29 rfl (lv_at hl 0 rfl) ?_
  exact ret_i0 (Option.some.inj h) X hQ hP hS dX12_pagedOfAll_30

def f_X12_changeOf_L29 (x1 : Int32) (x2 : Int32) (x3 : Int32) (x4 : Int32) (x5 : Int32) (n : Nat) (a : Int32 × Pic) : Option (Pic) := lp (fun (rec : Int32 × Pic → Option (Pic)) (a : Int32 × Pic) => match a with | (x6, g0) => (if x4 < x6 then some g0 else jn (fun (s0_J48 : Int32) => jn (fun (x7_J146 : Int32) => gdi ((7 * x5) + x6) 49 (nm (pu g0 21 (((7 * x5) + x6).toNatClampNeg) x7_J146) (fun g0_4 => nm (x6 + 1) (fun x6_5 => rec (x6_5, g0_4))))) (fun J146 => (if x5 ≤ 0 then J146 s0_J48 else (if x6 ≤ 0 then J146 s0_J48 else gdi (((7 * x5) - 7) + x6) 49 (gdi (((7 * x5) + x6) - 1) 49 (bd (f_X12_lesser (g0 21 ((((7 * x5) - 7) + x6).toNatClampNeg)) (g0 21 ((((7 * x5) + x6) - 1).toNatClampNeg))) (fun r_8 => gdi ((((7 * x5) - 7) + x6) - 1) 49 (bd (f_X12_ofWord g0 x1 (x5 - 1)) (fun r_10 => bd (f_X12_ofWord g0 x2 (x6 - 1)) (fun r_11 => jn (fun (s0_J140 : Int32) (s1_J140 : Int32) (s2_J140 : Int32) => bd (f_X12_lesser s0_J140 (s1_J140 + s2_J140)) (fun r_12 => J146 r_12)) (fun J140 => (if r_10 = r_11 then J140 (r_8 + 1) (g0 21 (((((7 * x5) - 7) + x6) - 1).toNatClampNeg)) 0 else J140 (r_8 + 1) (g0 21 (((((7 * x5) - 7) + x6) - 1).toNatClampNeg)) 1)))))))))))) (fun J48 => (if x5 = 0 then J48 x6 else J48 x5)))) n a
def f_X12_changeOf_L20 (x1 : Int32) (x2 : Int32) (x3 : Int32) (x4 : Int32) (n : Nat) (a : Int32 × Pic) : Option (Pic) := lp (fun (rec : Int32 × Pic → Option (Pic)) (a : Int32 × Pic) => match a with | (x5, g0) => (if x3 < x5 then some g0 else bd (f_X12_changeOf_L29 x1 x2 x3 x4 x5 fu (0, g0)) (fun g0_13 => nm (x5 + 1) (fun x5_14 => rec (x5_14, g0_13))))) n a
def f_X12_changeOf (g0 : Pic) (x1 : Int32) (x2 : Int32) : Option (Int32 × Pic) := bd (f_X12_ofWord g0 x1 6) (fun r_1 => bd (f_X12_ofWord g0 x2 6) (fun r_2 => bd (f_X12_changeOf_L20 x1 x2 r_1 r_2 fu (0, g0)) (fun g0_15 => gdi ((7 * r_1) + r_2) 49 (some ((g0_15 21 (((7 * r_1) + r_2).toNatClampNeg)), g0_15)))))
abbrev rm_X12_changeOf : Room := { frames := 1, cells := 0, slots := 0, locals := 22 }
set_option maxHeartbeats 4000000 in
set_option maxRecDepth 100000 in
theorem c_X12_changeOf (l : Launch) (dC : Nat → ClassId) (dI : Nat → Nat → Nat) (sk sv : Nat → Nat) (tc : Nat → ClassId) (a0 : Nat → Nat) (g0 : Pic) (x1 : Int32) (x2 : Int32) {r0 : Int32} {G0 : Pic} (h : f_X12_changeOf g0 x1 x2 = some (r0, G0)) : CT l (dC, dI) sk sv (TY tc) yX12_changeOf cX12_changeOf 8 (some .int) rm_X12_changeOf [.ref (a0 0), .int x1, .int x2] (wM tc a0 g0) (some (.int r0)) (wM tc a0 G0) := by
  refine ofCT (by decide) (Nat.le_of_ble_eq_true rfl) ?_
  intro pr e s m args below meth c A Q ls H locs X hQ hD0 hP hS hl
  have hD : ∀ z0, va_D A (wM tc a0 z0) := fun z0 => D_fst (ws := (wM tc a0 g0)) rfl hD0
  have hl : lv_has ls 8 [(0, .ref (a0 0)), (1, .int x1), (2, .int x2)] := hl
  have HL29 : ∀ (x1 : Int32) (x2 : Int32) (x3 : Int32) (x4 : Int32) (x5 : Int32) (n : Nat) (x6 : Int32) (g0 : Pic) (ex : (Pic)), f_X12_changeOf_L29 x1 x2 x3 x4 x5 n (x6, g0) = some ex → ∀ (H : Heap) (locs : List Loc) (ls : Array Slot), va_P (dC, dI) vwCl (wM tc a0 g0) H → va_S A s.heap H locs → lv_has ls 8 [(0, .ref (a0 0)), (1, .int x1), (2, .int x2), (3, .int x3), (4, .int x4), (5, .int x5), (6, .int x6)] → (∀ (k0 : Pic), k0 = ex → ∀ (H : Heap) (locs : List Loc) (ls : Array Slot), va_P (dC, dI) vwCl (wM tc a0 k0) H → va_S A s.heap H locs → lv_has ls 8 [(0, .ref (a0 0)), (1, .int x1), (2, .int x2), (3, .int x3), (4, .int x4), (5, .int x5)] → W pr l e rm_X12_changeOf s m args below meth c H locs 0 0 Q (F0 m 167 ls [])) → W pr l e rm_X12_changeOf s m args below meth c H locs 0 0 Q (F0 m 29 ls []) := by
    intro x1 x2 x3 x4 x5 n
    induction n with
    | zero => intro x6 g0 ex h; exact lp_z h
    | succ n ih =>
      intro x6 g0 ex h H locs ls hP hS hl K
      have h := lp_s h
      refine lv_iload X.1 X.2.1 dX12_changeOf_29 (lv_at hl 6 rfl) ?_
      refine lv_iload X.1 X.2.1 dX12_changeOf_31 (lv_at hl 4 rfl) ?_
      refine lv_icmp_gt (tgt := 167) X.1 X.2.1 dX12_changeOf_33 (by decide) (fun hc => ?_) (fun hc => ?_)
      · have h := it_t hc h
        exact K g0 (Option.some.inj h) H locs ls hP hS (lv_sub hl [0, 1, 2, 3, 4, 5] rfl)
      · have h := it_f hc h
        refine lv_iload X.1 X.2.1 dX12_changeOf_36 (lv_at hl 5 rfl) ?_
        obtain ⟨J48, eJ48, h⟩ := jn_el h
        have HJ48 : ∀ (s0_J48 : Int32) (H : Heap) (locs : List Loc) (ls : Array Slot), J48 s0_J48 = some ex → va_P (dC, dI) vwCl (wM tc a0 g0) H → va_S A s.heap H locs → lv_has ls 8 [(0, .ref (a0 0)), (1, .int x1), (2, .int x2), (3, .int x3), (4, .int x4), (5, .int x5), (6, .int x6)] → W pr l e rm_X12_changeOf s m args below meth c H locs 0 0 Q (F0 m 48 ls [.int s0_J48]) := by
          intro s0_J48 H locs ls h hP hS hl
          rw [eJ48] at h
          refine lv_istore (lv' := [(7, .int s0_J48), (0, .ref (a0 0)), (1, .int x1), (2, .int x2), (3, .int x3), (4, .int x4), (5, .int x5), (6, .int x6)]) X.1 X.2.1 dX12_changeOf_48 hl (by decide) rfl (fun ls hl => ?_)
          refine lv_iload X.1 X.2.1 dX12_changeOf_50 (lv_at hl 6 rfl) ?_
          obtain ⟨J146, eJ146, h⟩ := jn_el h
          have HJ146 : ∀ (x7_J146 : Int32) (H : Heap) (locs : List Loc) (ls : Array Slot), J146 x7_J146 = some ex → va_P (dC, dI) vwCl (wM tc a0 g0) H → va_S A s.heap H locs → lv_has ls 8 [(0, .ref (a0 0)), (1, .int x1), (2, .int x2), (3, .int x3), (4, .int x4), (5, .int x5), (6, .int x6), (7, .int x7_J146)] → W pr l e rm_X12_changeOf s m args below meth c H locs 0 0 Q (F0 m 146 ls []) := by
            intro x7_J146 H locs ls h hP hS hl
            rw [eJ146] at h
            refine lv_aload_n X.1 X.2.1 dX12_changeOf_146 rfl (lv_at hl 0 rfl) ?_
            refine r_get (C := RX12) (T := TX12) (N := 28) (ci := 12) (v := .ref (a0 22)) X iw12 hP 0 rfl rfl 21 rfl mw_7_141 rfl dX12_changeOf_147 ?_
            refine lv_bipush (v := 7) X.1 X.2.1 dX12_changeOf_150 (by decide) ?_
            refine lv_iload X.1 X.2.1 dX12_changeOf_152 (lv_at hl 5 rfl) ?_
            refine lv_imul X.1 X.2.1 dX12_changeOf_154 ?_
            refine lv_iload X.1 X.2.1 dX12_changeOf_155 (lv_at hl 6 rfl) ?_
            refine lv_iadd X.1 X.2.1 dX12_changeOf_157 ?_
            refine lv_iload X.1 X.2.1 dX12_changeOf_158 (lv_at hl 7 rfl) ?_
            obtain ⟨hg_3, h⟩ := gdi_el h
            obtain ⟨g0_4, eg0_4, h⟩ := nm_el h
            refine r_iast X hP (hD _) hS 8 0 rfl rfl hg_3 rfl dX12_changeOf_160 (wM tc a0 g0_4) (by rw [eg0_4]; rfl) (fun H locs hP hS => ?_)
            obtain ⟨x6_5, ex6_5, h⟩ := nm_el h
            refine lv_iinc (v := x6_5) (lv' := [(6, .int x6_5), (0, .ref (a0 0)), (1, .int x1), (2, .int x2), (3, .int x3), (4, .int x4), (5, .int x5), (7, .int x7_J146)]) X.1 X.2.1 dX12_changeOf_161 hl (k := 6) rfl (by rw [ex6_5]; rfl) (by decide) rfl (fun ls hl => ?_)
            refine lv_goto (tgt := 29) X.1 X.2.1 dX12_changeOf_164 (by decide) ?_
            exact ih x6_5 g0_4 ex h H locs ls hP hS (lv_sub hl [1, 2, 3, 4, 5, 6, 0] rfl) K
          refine lv_if_le (tgt := 146) X.1 X.2.1 dX12_changeOf_52 (by decide) (fun hc => ?_) (fun hc => ?_)
          · have h := it_t hc h
            exact HJ146 s0_J48 H locs ls h hP hS (lv_sub hl [1, 2, 3, 4, 5, 6, 7, 0] rfl)
          · have h := it_f hc h
            refine lv_iload X.1 X.2.1 dX12_changeOf_55 (lv_at hl 7 rfl) ?_
            refine lv_if_le (tgt := 146) X.1 X.2.1 dX12_changeOf_57 (by decide) (fun hc => ?_) (fun hc => ?_)
            · have h := it_t hc h
              exact HJ146 s0_J48 H locs ls h hP hS (lv_sub hl [1, 2, 3, 4, 5, 6, 7, 0] rfl)
            · have h := it_f hc h
              refine lv_aload_n X.1 X.2.1 dX12_changeOf_60 rfl (lv_at hl 1 rfl) ?_
              refine r_get (C := RX12) (T := TX12) (N := 28) (ci := 12) (v := .ref (a0 22)) X iw12 hP 0 rfl rfl 21 rfl mw_7_141 rfl dX12_changeOf_61 ?_
              refine lv_bipush (v := 7) X.1 X.2.1 dX12_changeOf_64 (by decide) ?_
              refine lv_iload X.1 X.2.1 dX12_changeOf_66 (lv_at hl 6 rfl) ?_
              refine lv_imul X.1 X.2.1 dX12_changeOf_68 ?_
              refine lv_bipush (v := 7) X.1 X.2.1 dX12_changeOf_69 (by decide) ?_
              refine lv_isub X.1 X.2.1 dX12_changeOf_71 ?_
              refine lv_iload X.1 X.2.1 dX12_changeOf_72 (lv_at hl 7 rfl) ?_
              refine lv_iadd X.1 X.2.1 dX12_changeOf_74 ?_
              obtain ⟨hg_6, h⟩ := gdi_el h
              refine r_iald X hP 8 0 rfl rfl hg_6 rfl dX12_changeOf_75 ?_
              refine lv_aload_n X.1 X.2.1 dX12_changeOf_76 rfl (lv_at hl 1 rfl) ?_
              refine r_get (C := RX12) (T := TX12) (N := 28) (ci := 12) (v := .ref (a0 22)) X iw12 hP 0 rfl rfl 21 rfl mw_7_141 rfl dX12_changeOf_77 ?_
              refine lv_bipush (v := 7) X.1 X.2.1 dX12_changeOf_80 (by decide) ?_
              refine lv_iload X.1 X.2.1 dX12_changeOf_82 (lv_at hl 6 rfl) ?_
              refine lv_imul X.1 X.2.1 dX12_changeOf_84 ?_
              refine lv_iload X.1 X.2.1 dX12_changeOf_85 (lv_at hl 7 rfl) ?_
              refine lv_iadd X.1 X.2.1 dX12_changeOf_87 ?_
              refine lv_iconst (v := 1) X.1 X.2.1 dX12_changeOf_88 (by decide) ?_
              refine lv_isub X.1 X.2.1 dX12_changeOf_89 ?_
              obtain ⟨hg_7, h⟩ := gdi_el h
              refine r_iald X hP 8 0 rfl rfl hg_7 rfl dX12_changeOf_90 ?_
              obtain ⟨r_8, hc_8, h⟩ := bd_el h
              refine call_S0i (As := [.int (g0 21 ((((7 * x5) - 7) + x6).toNatClampNeg)), .int (g0 21 ((((7 * x5) + x6) - 1).toNatClampNeg))]) (rest := []) X (c_X12_lesser l dC dI sk sv tc (g0 21 ((((7 * x5) - 7) + x6).toNatClampNeg)) (g0 21 ((((7 * x5) + x6) - 1).toNatClampNeg)) hc_8) mw_8_157 mw_8_158 mw_1_12 mw_8_159 dc_X12_lesser ⟨Nat.le_of_ble_eq_true rfl, Nat.le_of_ble_eq_true rfl⟩ rfl rfl ⟨Nat.zero_le _, Nat.zero_le _⟩ hP (hD _) hS hl.1 (Nat.le_of_ble_eq_true rfl) dX12_changeOf_91 (fun H locs hP hS => ?_)
              refine lv_iconst (v := 1) X.1 X.2.1 dX12_changeOf_94 (by decide) ?_
              refine lv_iadd X.1 X.2.1 dX12_changeOf_95 ?_
              refine lv_aload_n X.1 X.2.1 dX12_changeOf_96 rfl (lv_at hl 1 rfl) ?_
              refine r_get (C := RX12) (T := TX12) (N := 28) (ci := 12) (v := .ref (a0 22)) X iw12 hP 0 rfl rfl 21 rfl mw_7_141 rfl dX12_changeOf_97 ?_
              refine lv_bipush (v := 7) X.1 X.2.1 dX12_changeOf_100 (by decide) ?_
              refine lv_iload X.1 X.2.1 dX12_changeOf_102 (lv_at hl 6 rfl) ?_
              refine lv_imul X.1 X.2.1 dX12_changeOf_104 ?_
              refine lv_bipush (v := 7) X.1 X.2.1 dX12_changeOf_105 (by decide) ?_
              refine lv_isub X.1 X.2.1 dX12_changeOf_107 ?_
              refine lv_iload X.1 X.2.1 dX12_changeOf_108 (lv_at hl 7 rfl) ?_
              refine lv_iadd X.1 X.2.1 dX12_changeOf_110 ?_
              refine lv_iconst (v := 1) X.1 X.2.1 dX12_changeOf_111 (by decide) ?_
              refine lv_isub X.1 X.2.1 dX12_changeOf_112 ?_
              obtain ⟨hg_9, h⟩ := gdi_el h
              refine r_iald X hP 8 0 rfl rfl hg_9 rfl dX12_changeOf_113 ?_
              refine lv_aload_n X.1 X.2.1 dX12_changeOf_114 rfl (lv_at hl 1 rfl) ?_
              refine lv_iload_n X.1 X.2.1 dX12_changeOf_115 rfl (lv_at hl 2 rfl) ?_
              refine lv_iload X.1 X.2.1 dX12_changeOf_116 (lv_at hl 6 rfl) ?_
              refine lv_iconst (v := 1) X.1 X.2.1 dX12_changeOf_118 (by decide) ?_
              refine lv_isub X.1 X.2.1 dX12_changeOf_119 ?_
              obtain ⟨r_10, hc_10, h⟩ := bd_el h
              refine call_V1i (As := [.int x1, .int (x5 - 1)]) (rest := [.int (g0 21 (((((7 * x5) - 7) + x6) - 1).toNatClampNeg)), .int (r_8 + 1)]) X (c_X12_ofWord l dC dI sk sv tc a0 g0 x1 (x5 - 1) hc_10) mw_8_140 mw_8_142 mp_3_10 mw_1_12 mw_8_143 dc_X12_ofWord ⟨Nat.le_of_ble_eq_true rfl, Nat.le_of_ble_eq_true rfl⟩ rfl rfl ⟨Nat.zero_le _, Nat.zero_le _⟩ hP (hD _) hS 0 rfl rfl rfl hl.1 (Nat.le_of_ble_eq_true rfl) dX12_changeOf_120 (fun H locs hP hS => ?_)
              refine lv_aload_n X.1 X.2.1 dX12_changeOf_123 rfl (lv_at hl 1 rfl) ?_
              refine lv_iload_n X.1 X.2.1 dX12_changeOf_124 rfl (lv_at hl 3 rfl) ?_
              refine lv_iload X.1 X.2.1 dX12_changeOf_125 (lv_at hl 7 rfl) ?_
              refine lv_iconst (v := 1) X.1 X.2.1 dX12_changeOf_127 (by decide) ?_
              refine lv_isub X.1 X.2.1 dX12_changeOf_128 ?_
              obtain ⟨r_11, hc_11, h⟩ := bd_el h
              refine call_V1i (As := [.int x2, .int (x6 - 1)]) (rest := [.int r_10, .int (g0 21 (((((7 * x5) - 7) + x6) - 1).toNatClampNeg)), .int (r_8 + 1)]) X (c_X12_ofWord l dC dI sk sv tc a0 g0 x2 (x6 - 1) hc_11) mw_8_140 mw_8_142 mp_3_10 mw_1_12 mw_8_143 dc_X12_ofWord ⟨Nat.le_of_ble_eq_true rfl, Nat.le_of_ble_eq_true rfl⟩ rfl rfl ⟨Nat.zero_le _, Nat.zero_le _⟩ hP (hD _) hS 0 rfl rfl rfl hl.1 (Nat.le_of_ble_eq_true rfl) dX12_changeOf_129 (fun H locs hP hS => ?_)
              obtain ⟨J140, eJ140, h⟩ := jn_el h
              have HJ140 : ∀ (s0_J140 : Int32) (s1_J140 : Int32) (s2_J140 : Int32) (H : Heap) (locs : List Loc) (ls : Array Slot), J140 s0_J140 s1_J140 s2_J140 = some ex → va_P (dC, dI) vwCl (wM tc a0 g0) H → va_S A s.heap H locs → lv_has ls 8 [(0, .ref (a0 0)), (1, .int x1), (2, .int x2), (3, .int x3), (4, .int x4), (5, .int x5), (6, .int x6)] → W pr l e rm_X12_changeOf s m args below meth c H locs 0 0 Q (F0 m 140 ls [.int s2_J140, .int s1_J140, .int s0_J140]) := by
                intro s0_J140 s1_J140 s2_J140 H locs ls h hP hS hl
                rw [eJ140] at h
                refine lv_iadd X.1 X.2.1 dX12_changeOf_140 ?_
                obtain ⟨r_12, hc_12, h⟩ := bd_el h
                refine call_S0i (As := [.int s0_J140, .int (s1_J140 + s2_J140)]) (rest := []) X (c_X12_lesser l dC dI sk sv tc s0_J140 (s1_J140 + s2_J140) hc_12) mw_8_157 mw_8_158 mw_1_12 mw_8_159 dc_X12_lesser ⟨Nat.le_of_ble_eq_true rfl, Nat.le_of_ble_eq_true rfl⟩ rfl rfl ⟨Nat.zero_le _, Nat.zero_le _⟩ hP (hD _) hS hl.1 (Nat.le_of_ble_eq_true rfl) dX12_changeOf_141 (fun H locs hP hS => ?_)
                refine lv_istore (lv' := [(7, .int r_12), (0, .ref (a0 0)), (1, .int x1), (2, .int x2), (3, .int x3), (4, .int x4), (5, .int x5), (6, .int x6)]) X.1 X.2.1 dX12_changeOf_144 hl (by decide) rfl (fun ls hl => ?_)
                exact HJ146 r_12 H locs ls h hP hS (lv_sub hl [1, 2, 3, 4, 5, 6, 7, 0] rfl)
              refine lv_icmp_ne (tgt := 139) X.1 X.2.1 dX12_changeOf_132 (by decide) (fun hc => ?_) (fun hc => ?_)
              · have h := it_f hc h
                refine lv_iconst (v := 1) X.1 X.2.1 dX12_changeOf_139 (by decide) ?_
                exact HJ140 (r_8 + 1) (g0 21 (((((7 * x5) - 7) + x6) - 1).toNatClampNeg)) 1 H locs ls h hP hS (lv_sub hl [1, 2, 3, 4, 5, 6, 7] rfl)
              · have h := it_t hc h
                refine lv_iconst (v := 0) X.1 X.2.1 dX12_changeOf_135 (by decide) ?_
                refine lv_goto (tgt := 140) X.1 X.2.1 dX12_changeOf_136 (by decide) ?_
                exact HJ140 (r_8 + 1) (g0 21 (((((7 * x5) - 7) + x6) - 1).toNatClampNeg)) 0 H locs ls h hP hS (lv_sub hl [1, 2, 3, 4, 5, 6, 7] rfl)
        refine lv_if_ne (tgt := 46) X.1 X.2.1 dX12_changeOf_38 (by decide) (fun hc => ?_) (fun hc => ?_)
        · have h := it_f hc h
          refine lv_iload X.1 X.2.1 dX12_changeOf_46 (lv_at hl 5 rfl) ?_
          exact HJ48 x5 H locs ls h hP hS (lv_sub hl [0, 1, 2, 3, 4, 5, 6] rfl)
        · have h := it_t hc h
          refine lv_iload X.1 X.2.1 dX12_changeOf_41 (lv_at hl 6 rfl) ?_
          refine lv_goto (tgt := 48) X.1 X.2.1 dX12_changeOf_43 (by decide) ?_
          exact HJ48 x6 H locs ls h hP hS (lv_sub hl [0, 1, 2, 3, 4, 5, 6] rfl)
  have HL20 : ∀ (x1 : Int32) (x2 : Int32) (x3 : Int32) (x4 : Int32) (n : Nat) (x5 : Int32) (g0 : Pic) (ex : (Pic)), f_X12_changeOf_L20 x1 x2 x3 x4 n (x5, g0) = some ex → ∀ (H : Heap) (locs : List Loc) (ls : Array Slot), va_P (dC, dI) vwCl (wM tc a0 g0) H → va_S A s.heap H locs → lv_has ls 8 [(0, .ref (a0 0)), (1, .int x1), (2, .int x2), (3, .int x3), (4, .int x4), (5, .int x5)] → (∀ (k0 : Pic), k0 = ex → ∀ (H : Heap) (locs : List Loc) (ls : Array Slot), va_P (dC, dI) vwCl (wM tc a0 k0) H → va_S A s.heap H locs → lv_has ls 8 [(0, .ref (a0 0)), (3, .int x3), (4, .int x4)] → W pr l e rm_X12_changeOf s m args below meth c H locs 0 0 Q (F0 m 173 ls [])) → W pr l e rm_X12_changeOf s m args below meth c H locs 0 0 Q (F0 m 20 ls []) := by
    intro x1 x2 x3 x4 n
    induction n with
    | zero => intro x5 g0 ex h; exact lp_z h
    | succ n ih =>
      intro x5 g0 ex h H locs ls hP hS hl K
      have h := lp_s h
      refine lv_iload X.1 X.2.1 dX12_changeOf_20 (lv_at hl 5 rfl) ?_
      refine lv_iload_n X.1 X.2.1 dX12_changeOf_22 rfl (lv_at hl 3 rfl) ?_
      refine lv_icmp_gt (tgt := 173) X.1 X.2.1 dX12_changeOf_23 (by decide) (fun hc => ?_) (fun hc => ?_)
      · have h := it_t hc h
        exact K g0 (Option.some.inj h) H locs ls hP hS (lv_sub hl [0, 3, 4] rfl)
      · have h := it_f hc h
        refine lv_iconst (v := 0) X.1 X.2.1 dX12_changeOf_26 (by decide) ?_
        refine lv_istore (lv' := [(6, .int 0), (0, .ref (a0 0)), (1, .int x1), (2, .int x2), (3, .int x3), (4, .int x4), (5, .int x5)]) X.1 X.2.1 dX12_changeOf_27 hl (by decide) rfl (fun ls hl => ?_)
        obtain ⟨ex_13, hL_13, h⟩ := bd_el h
        refine HL29 x1 x2 x3 x4 x5 fu 0 g0 ex_13 hL_13 H locs ls hP hS (lv_sub hl [1, 2, 3, 4, 5, 6, 0] rfl) (fun g0_13 he H locs ls hP hS hl => ?_)
        subst he
        obtain ⟨x5_14, ex5_14, h⟩ := nm_el h
        refine lv_iinc (v := x5_14) (lv' := [(5, .int x5_14), (0, .ref (a0 0)), (1, .int x1), (2, .int x2), (3, .int x3), (4, .int x4)]) X.1 X.2.1 dX12_changeOf_167 hl (k := 5) rfl (by rw [ex5_14]; rfl) (by decide) rfl (fun ls hl => ?_)
        refine lv_goto (tgt := 20) X.1 X.2.1 dX12_changeOf_170 (by decide) ?_
        exact ih x5_14 g0_13 ex h H locs ls hP hS (lv_sub hl [1, 2, 3, 4, 5, 0] rfl) K
  unfold f_X12_changeOf at h
  refine lv_aload_n X.1 X.2.1 dX12_changeOf_0 rfl (lv_at hl 0 rfl) ?_
  refine lv_iload_n X.1 X.2.1 dX12_changeOf_1 rfl (lv_at hl 1 rfl) ?_
  refine lv_bipush (v := 6) X.1 X.2.1 dX12_changeOf_2 (by decide) ?_
  obtain ⟨r_1, hc_1, h⟩ := bd_el h
  refine call_V1i (As := [.int x1, .int 6]) (rest := []) X (c_X12_ofWord l dC dI sk sv tc a0 g0 x1 6 hc_1) mw_8_140 mw_8_142 mp_3_10 mw_1_12 mw_8_143 dc_X12_ofWord ⟨Nat.le_of_ble_eq_true rfl, Nat.le_of_ble_eq_true rfl⟩ rfl rfl ⟨Nat.zero_le _, Nat.zero_le _⟩ hP (hD _) hS 0 rfl rfl rfl hl.1 (Nat.le_of_ble_eq_true rfl) dX12_changeOf_4 (fun H locs hP hS => ?_)
  refine lv_istore_n (lv' := [(3, .int r_1), (0, .ref (a0 0)), (1, .int x1), (2, .int x2)]) X.1 X.2.1 dX12_changeOf_7 rfl hl (by decide) rfl (fun ls hl => ?_)
  refine lv_aload_n X.1 X.2.1 dX12_changeOf_8 rfl (lv_at hl 1 rfl) ?_
  refine lv_iload_n X.1 X.2.1 dX12_changeOf_9 rfl (lv_at hl 3 rfl) ?_
  refine lv_bipush (v := 6) X.1 X.2.1 dX12_changeOf_10 (by decide) ?_
  obtain ⟨r_2, hc_2, h⟩ := bd_el h
  refine call_V1i (As := [.int x2, .int 6]) (rest := []) X (c_X12_ofWord l dC dI sk sv tc a0 g0 x2 6 hc_2) mw_8_140 mw_8_142 mp_3_10 mw_1_12 mw_8_143 dc_X12_ofWord ⟨Nat.le_of_ble_eq_true rfl, Nat.le_of_ble_eq_true rfl⟩ rfl rfl ⟨Nat.zero_le _, Nat.zero_le _⟩ hP (hD _) hS 0 rfl rfl rfl hl.1 (Nat.le_of_ble_eq_true rfl) dX12_changeOf_12 (fun H locs hP hS => ?_)
  refine lv_istore (lv' := [(4, .int r_2), (3, .int r_1), (0, .ref (a0 0)), (1, .int x1), (2, .int x2)]) X.1 X.2.1 dX12_changeOf_15 hl (by decide) rfl (fun ls hl => ?_)
  refine lv_iconst (v := 0) X.1 X.2.1 dX12_changeOf_17 (by decide) ?_
  refine lv_istore (lv' := [(5, .int 0), (4, .int r_2), (3, .int r_1), (0, .ref (a0 0)), (1, .int x1), (2, .int x2)]) X.1 X.2.1 dX12_changeOf_18 hl (by decide) rfl (fun ls hl => ?_)
  obtain ⟨ex_15, hL_15, h⟩ := bd_el h
  refine HL20 x1 x2 r_1 r_2 fu 0 g0 ex_15 hL_15 H locs ls hP hS (lv_sub hl [3, 4, 5, 2, 1, 0] rfl) (fun g0_15 he H locs ls hP hS hl => ?_)
  subst he
  refine lv_aload_n X.1 X.2.1 dX12_changeOf_173 rfl (lv_at hl 0 rfl) ?_
  refine r_get (C := RX12) (T := TX12) (N := 28) (ci := 12) (v := .ref (a0 22)) X iw12 hP 0 rfl rfl 21 rfl mw_7_141 rfl dX12_changeOf_174 ?_
  refine lv_bipush (v := 7) X.1 X.2.1 dX12_changeOf_177 (by decide) ?_
  refine lv_iload_n X.1 X.2.1 dX12_changeOf_179 rfl (lv_at hl 1 rfl) ?_
  refine lv_imul X.1 X.2.1 dX12_changeOf_180 ?_
  refine lv_iload X.1 X.2.1 dX12_changeOf_181 (lv_at hl 2 rfl) ?_
  refine lv_iadd X.1 X.2.1 dX12_changeOf_183 ?_
  obtain ⟨hg_16, h⟩ := gdi_el h
  refine r_iald X hP 8 0 rfl rfl hg_16 rfl dX12_changeOf_184 ?_
  exact ret_i (fun u => (wM tc a0 u)) (res := (r0, G0)) (Option.some.inj h) X hQ hP hS dX12_changeOf_185

def f_X12_closest_L9 (x1 : Int32) (n : Nat) (a : Int32 × Int32 × Int32 × Pic) : Option (Int32 × Pic) := lp (fun (rec : Int32 × Int32 × Int32 × Pic → Option (Int32 × Pic)) (a : Int32 × Int32 × Int32 × Pic) => match a with | (x2, x3, x4, g0) => (if (g0 1 3) ≤ x4 then some (x2, g0) else jn (fun (s0_J39 : Int32) (g0_J39 : Pic) => jn (fun (x2_J56 : Int32) (x3_J56 : Int32) => nm (x4 + 1) (fun x4_1 => rec (x2_J56, x3_J56, x4_1, g0_J39))) (fun J56 => (if s0_J39 < x3 then J56 x4 s0_J39 else J56 x2 x3))) (fun J39 => (if x4 = x1 then J39 2000000000 g0 else bd2 (f_X12_changeOf g0 x1 x4) (fun r_2 g0_2 => J39 r_2 g0_2))))) n a
def f_X12_closest (g0 : Pic) (x1 : Int32) : Option (Int32 × Pic) := bd (f_X12_closest_L9 x1 fu ((-1), 2000000000, 0, g0)) (fun (x2_3, g0_3) => some (x2_3, g0_3))
abbrev rm_X12_closest : Room := { frames := 2, cells := 0, slots := 0, locals := 49 }
set_option maxHeartbeats 4000000 in
set_option maxRecDepth 100000 in
theorem c_X12_closest (l : Launch) (dC : Nat → ClassId) (dI : Nat → Nat → Nat) (sk sv : Nat → Nat) (tc : Nat → ClassId) (a0 : Nat → Nat) (g0 : Pic) (x1 : Int32) {r0 : Int32} {G0 : Pic} (h : f_X12_closest g0 x1 = some (r0, G0)) : CT l (dC, dI) sk sv (TY tc) yX12_closest cX12_closest 6 (some .int) rm_X12_closest [.ref (a0 0), .int x1] (wM tc a0 g0) (some (.int r0)) (wM tc a0 G0) := by
  refine ofCT (by decide) (Nat.le_of_ble_eq_true rfl) ?_
  intro pr e s m args below meth c A Q ls H locs X hQ hD0 hP hS hl
  have hD : ∀ z0, va_D A (wM tc a0 z0) := fun z0 => D_fst (ws := (wM tc a0 g0)) rfl hD0
  have hl : lv_has ls 6 [(0, .ref (a0 0)), (1, .int x1)] := hl
  have HL9 : ∀ (x1 : Int32) (n : Nat) (x2 : Int32) (x3 : Int32) (x4 : Int32) (g0 : Pic) (ex : (Int32 × Pic)), f_X12_closest_L9 x1 n (x2, x3, x4, g0) = some ex → ∀ (H : Heap) (locs : List Loc) (ls : Array Slot), va_P (dC, dI) vwCl (wM tc a0 g0) H → va_S A s.heap H locs → lv_has ls 6 [(0, .ref (a0 0)), (1, .int x1), (2, .int x2), (3, .int x3), (4, .int x4)] → (∀ (y2 : Int32) (k0 : Pic), (y2, k0) = ex → ∀ (H : Heap) (locs : List Loc) (ls : Array Slot), va_P (dC, dI) vwCl (wM tc a0 k0) H → va_S A s.heap H locs → lv_has ls 6 [(2, .int y2)] → W pr l e rm_X12_closest s m args below meth c H locs 0 0 Q (F0 m 62 ls [])) → W pr l e rm_X12_closest s m args below meth c H locs 0 0 Q (F0 m 9 ls []) := by
    intro x1 n
    induction n with
    | zero => intro x2 x3 x4 g0 ex h; exact lp_z h
    | succ n ih =>
      intro x2 x3 x4 g0 ex h H locs ls hP hS hl K
      have h := lp_s h
      refine lv_iload X.1 X.2.1 dX12_closest_9 (lv_at hl 4 rfl) ?_
      refine lv_aload_n X.1 X.2.1 dX12_closest_11 rfl (lv_at hl 0 rfl) ?_
      refine r_get (C := RX12) (T := TX12) (N := 28) (ci := 12) (v := .ref (a0 2)) X iw12 hP 0 rfl rfl 1 rfl mw_7_121 rfl dX12_closest_12 ?_
      refine lv_iconst (v := 3) X.1 X.2.1 dX12_closest_15 (by decide) ?_
      refine r_iald X hP 1 0 rfl rfl (j := 3) (by unfold vp_in; decide) (by decide) dX12_closest_16 ?_
      refine lv_icmp_ge (tgt := 62) X.1 X.2.1 dX12_closest_17 (by decide) (fun hc => ?_) (fun hc => ?_)
      · have h := it_t hc h
        exact K x2 g0 (Option.some.inj h) H locs ls hP hS (lv_sub hl [2] rfl)
      · have h := it_f hc h
        refine lv_iload X.1 X.2.1 dX12_closest_20 (lv_at hl 4 rfl) ?_
        refine lv_iload_n X.1 X.2.1 dX12_closest_22 rfl (lv_at hl 1 rfl) ?_
        obtain ⟨J39, eJ39, h⟩ := jn_el h
        have HJ39 : ∀ (s0_J39 : Int32) (g0_J39 : Pic) (H : Heap) (locs : List Loc) (ls : Array Slot), J39 s0_J39 g0_J39 = some ex → va_P (dC, dI) vwCl (wM tc a0 g0_J39) H → va_S A s.heap H locs → lv_has ls 6 [(0, .ref (a0 0)), (1, .int x1), (2, .int x2), (3, .int x3), (4, .int x4)] → W pr l e rm_X12_closest s m args below meth c H locs 0 0 Q (F0 m 39 ls [.int s0_J39]) := by
          intro s0_J39 g0_J39 H locs ls h hP hS hl
          rw [eJ39] at h
          refine lv_istore (lv' := [(5, .int s0_J39), (0, .ref (a0 0)), (1, .int x1), (2, .int x2), (3, .int x3), (4, .int x4)]) X.1 X.2.1 dX12_closest_39 hl (by decide) rfl (fun ls hl => ?_)
          refine lv_iload X.1 X.2.1 dX12_closest_41 (lv_at hl 0 rfl) ?_
          refine lv_iload_n X.1 X.2.1 dX12_closest_43 rfl (lv_at hl 4 rfl) ?_
          obtain ⟨J56, eJ56, h⟩ := jn_el h
          have HJ56 : ∀ (x2_J56 : Int32) (x3_J56 : Int32) (H : Heap) (locs : List Loc) (ls : Array Slot), J56 x2_J56 x3_J56 = some ex → va_P (dC, dI) vwCl (wM tc a0 g0_J39) H → va_S A s.heap H locs → lv_has ls 6 [(0, .ref (a0 0)), (1, .int x1), (2, .int x2_J56), (3, .int x3_J56), (4, .int x4)] → W pr l e rm_X12_closest s m args below meth c H locs 0 0 Q (F0 m 56 ls []) := by
            intro x2_J56 x3_J56 H locs ls h hP hS hl
            rw [eJ56] at h
            obtain ⟨x4_1, ex4_1, h⟩ := nm_el h
            refine lv_iinc (v := x4_1) (lv' := [(4, .int x4_1), (0, .ref (a0 0)), (1, .int x1), (2, .int x2_J56), (3, .int x3_J56)]) X.1 X.2.1 dX12_closest_56 hl (k := 4) rfl (by rw [ex4_1]; rfl) (by decide) rfl (fun ls hl => ?_)
            refine lv_goto (tgt := 9) X.1 X.2.1 dX12_closest_59 (by decide) ?_
            exact ih x2_J56 x3_J56 x4_1 g0_J39 ex h H locs ls hP hS (lv_sub hl [1, 2, 3, 4, 0] rfl) K
          refine lv_icmp_lt (tgt := 50) X.1 X.2.1 dX12_closest_44 (by decide) (fun hc => ?_) (fun hc => ?_)
          · have h := it_t hc h
            refine lv_iload X.1 X.2.1 dX12_closest_50 (lv_at hl 0 rfl) ?_
            refine lv_istore_n (lv' := [(3, .int s0_J39), (5, .int s0_J39), (0, .ref (a0 0)), (1, .int x1), (2, .int x2), (4, .int x4)]) X.1 X.2.1 dX12_closest_52 rfl hl (by decide) rfl (fun ls hl => ?_)
            refine lv_iload X.1 X.2.1 dX12_closest_53 (lv_at hl 5 rfl) ?_
            refine lv_istore_n (lv' := [(2, .int x4), (3, .int s0_J39), (5, .int s0_J39), (0, .ref (a0 0)), (1, .int x1), (4, .int x4)]) X.1 X.2.1 dX12_closest_55 rfl hl (by decide) rfl (fun ls hl => ?_)
            exact HJ56 x4 s0_J39 H locs ls h hP hS (lv_sub hl [3, 4, 0, 1, 5] rfl)
          · have h := it_f hc h
            refine lv_goto (tgt := 56) X.1 X.2.1 dX12_closest_47 (by decide) ?_
            exact HJ56 x2 x3 H locs ls h hP hS (lv_sub hl [1, 2, 3, 4, 5] rfl)
        refine lv_icmp_ne (tgt := 32) X.1 X.2.1 dX12_closest_23 (by decide) (fun hc => ?_) (fun hc => ?_)
        · have h := it_f hc h
          refine lv_aload_n X.1 X.2.1 dX12_closest_32 rfl (lv_at hl 0 rfl) ?_
          refine lv_iload_n X.1 X.2.1 dX12_closest_33 rfl (lv_at hl 1 rfl) ?_
          refine lv_iload X.1 X.2.1 dX12_closest_34 (lv_at hl 4 rfl) ?_
          obtain ⟨r_2, g0_2, hc_2, h⟩ := bd2_el h
          refine call_V1i (As := [.int x1, .int x4]) (rest := []) X (c_X12_changeOf l dC dI sk sv tc a0 g0 x1 x4 hc_2) mw_8_164 mw_8_166 mp_3_15 mw_1_12 mw_8_167 dc_X12_changeOf ⟨Nat.le_of_ble_eq_true rfl, Nat.le_of_ble_eq_true rfl⟩ rfl rfl ⟨Nat.zero_le _, Nat.zero_le _⟩ hP (hD _) hS 0 rfl rfl rfl hl.1 (Nat.le_of_ble_eq_true rfl) dX12_closest_36 (fun H locs hP hS => ?_)
          exact HJ39 r_2 g0_2 H locs ls h hP hS (lv_sub hl [0, 1, 2, 3, 4] rfl)
        · have h := it_t hc h
          refine lv_ldcw (v := 2000000000) X.1 X.2.1 X.2.2.2.2.1 (X.2.2.2.2.2.1 _ (List.mem_cons_of_mem _ mw_8_152)) dX12_closest_26 ?_
          refine lv_goto (tgt := 39) X.1 X.2.1 dX12_closest_29 (by decide) ?_
          exact HJ39 2000000000 g0 H locs ls h hP hS (lv_sub hl [0, 1, 2, 3, 4] rfl)
  unfold f_X12_closest at h
  refine lv_iconst (v := (-1)) X.1 X.2.1 dX12_closest_0 (by decide) ?_
  refine lv_istore_n (lv' := [(2, .int (-1)), (0, .ref (a0 0)), (1, .int x1)]) X.1 X.2.1 dX12_closest_1 rfl hl (by decide) rfl (fun ls hl => ?_)
  refine lv_ldcw (v := 2000000000) X.1 X.2.1 X.2.2.2.2.1 (X.2.2.2.2.2.1 _ (List.mem_cons_of_mem _ mw_8_152)) dX12_closest_2 ?_
  refine lv_istore_n (lv' := [(3, .int 2000000000), (2, .int (-1)), (0, .ref (a0 0)), (1, .int x1)]) X.1 X.2.1 dX12_closest_5 rfl hl (by decide) rfl (fun ls hl => ?_)
  refine lv_iconst (v := 0) X.1 X.2.1 dX12_closest_6 (by decide) ?_
  refine lv_istore (lv' := [(4, .int 0), (3, .int 2000000000), (2, .int (-1)), (0, .ref (a0 0)), (1, .int x1)]) X.1 X.2.1 dX12_closest_7 hl (by decide) rfl (fun ls hl => ?_)
  obtain ⟨ex_3, hL_3, h⟩ := bd_el h
  refine HL9 x1 fu (-1) 2000000000 0 g0 ex_3 hL_3 H locs ls hP hS (lv_sub hl [3, 4, 2, 1, 0] rfl) (fun x2_3 g0_3 he H locs ls hP hS hl => ?_)
  subst he
  refine lv_iload_n X.1 X.2.1 dX12_closest_62 rfl (lv_at hl 0 rfl) ?_
  exact ret_i (fun u => (wM tc a0 u)) (res := (r0, G0)) (Option.some.inj h) X hQ hP hS dX12_closest_63

def f_X12_codedBy (g0 : Pic) (x1 : Int32) (x2 : Int32) (x3 : Int32) : Option (Int32) := nm ((1 <<< ((7 - x2) &&& 31))) (fun x4_1 => jn (fun (_ : Unit) => some 2000000000) (fun J39 => (if x3 < x4_1 then J39 () else gdi ((((129 * x1) + 129) + x3) - x4_1) 1161 ((if (g0 22 (((((129 * x1) + 129) + x3) - x4_1).toNatClampNeg)) = 2000000000 then J39 () else bd (f_X12_ofWord g0 x1 7) (fun r_3 => gdi ((((129 * x1) + 129) + x3) - x4_1) 1161 (some ((x2 * r_3) + (g0 22 (((((129 * x1) + 129) + x3) - x4_1).toNatClampNeg))))))))))
abbrev rm_X12_codedBy : Room := { frames := 1, cells := 0, slots := 0, locals := 22 }
set_option maxHeartbeats 4000000 in
set_option maxRecDepth 100000 in
theorem c_X12_codedBy (l : Launch) (dC : Nat → ClassId) (dI : Nat → Nat → Nat) (sk sv : Nat → Nat) (tc : Nat → ClassId) (a0 : Nat → Nat) (g0 : Pic) (x1 : Int32) (x2 : Int32) (x3 : Int32) {r0 : Int32} (h : f_X12_codedBy g0 x1 x2 x3 = some r0) : CT l (dC, dI) sk sv (TY tc) yX12_codedBy cX12_codedBy 5 (some .int) rm_X12_codedBy [.ref (a0 0), .int x1, .int x2, .int x3] (wM tc a0 g0) (some (.int r0)) (wM tc a0 g0) := by
  refine ofCT (by decide) (Nat.le_of_ble_eq_true rfl) ?_
  intro pr e s m args below meth c A Q ls H locs X hQ hD0 hP hS hl
  have hD : ∀ z0, va_D A (wM tc a0 z0) := fun z0 => D_fst (ws := (wM tc a0 g0)) rfl hD0
  have hl : lv_has ls 5 [(0, .ref (a0 0)), (1, .int x1), (2, .int x2), (3, .int x3)] := hl
  unfold f_X12_codedBy at h
  refine lv_iconst (v := 1) X.1 X.2.1 dX12_codedBy_0 (by decide) ?_
  refine lv_bipush (v := 7) X.1 X.2.1 dX12_codedBy_1 (by decide) ?_
  refine lv_iload_n X.1 X.2.1 dX12_codedBy_3 rfl (lv_at hl 2 rfl) ?_
  refine lv_isub X.1 X.2.1 dX12_codedBy_4 ?_
  refine lv_ishl X.1 X.2.1 dX12_codedBy_5 ?_
  obtain ⟨x4_1, ex4_1, h⟩ := nm_el h
  refine tp_i ex4_1 ?_
  refine lv_istore (lv' := [(4, .int x4_1), (0, .ref (a0 0)), (1, .int x1), (2, .int x2), (3, .int x3)]) X.1 X.2.1 dX12_codedBy_6 hl (by decide) rfl (fun ls hl => ?_)
  refine lv_iload X.1 X.2.1 dX12_codedBy_8 (lv_at hl 0 rfl) ?_
  refine lv_iload_n X.1 X.2.1 dX12_codedBy_10 rfl (lv_at hl 4 rfl) ?_
  obtain ⟨J39, eJ39, h⟩ := jn_el h
  have HJ39 : ∀ (_ : Unit) (H : Heap) (locs : List Loc) (ls : Array Slot), J39 () = some r0 → va_P (dC, dI) vwCl (wM tc a0 g0) H → va_S A s.heap H locs → lv_has ls 5 [] → W pr l e rm_X12_codedBy s m args below meth c H locs 0 0 Q (F0 m 39 ls []) := by
    intro _ H locs ls h hP hS hl
    rw [eJ39] at h
    refine lv_ldcw (v := 2000000000) X.1 X.2.1 X.2.2.2.2.1 (X.2.2.2.2.2.1 _ (List.mem_cons_of_mem _ mw_8_152)) dX12_codedBy_39 ?_
    exact ret_i0 (Option.some.inj h) X hQ hP hS dX12_codedBy_42
  refine lv_icmp_gt (tgt := 39) X.1 X.2.1 dX12_codedBy_11 (by decide) (fun hc => ?_) (fun hc => ?_)
  · have h := it_t hc h
    exact HJ39 () H locs ls h hP hS (lv_sub hl [] rfl)
  · have h := it_f hc h
    refine lv_aload_n X.1 X.2.1 dX12_codedBy_14 rfl (lv_at hl 1 rfl) ?_
    refine r_get (C := RX12) (T := TX12) (N := 28) (ci := 12) (v := .ref (a0 23)) X iw12 hP 0 rfl rfl 22 rfl mw_7_142 rfl dX12_codedBy_15 ?_
    refine lv_sipush (v := 129) X.1 X.2.1 dX12_codedBy_18 (by decide) ?_
    refine lv_iload_n X.1 X.2.1 dX12_codedBy_21 rfl (lv_at hl 2 rfl) ?_
    refine lv_imul X.1 X.2.1 dX12_codedBy_22 ?_
    refine lv_sipush (v := 129) X.1 X.2.1 dX12_codedBy_23 (by decide) ?_
    refine lv_iadd X.1 X.2.1 dX12_codedBy_26 ?_
    refine lv_iload_n X.1 X.2.1 dX12_codedBy_27 rfl (lv_at hl 4 rfl) ?_
    refine lv_iadd X.1 X.2.1 dX12_codedBy_28 ?_
    refine lv_iload X.1 X.2.1 dX12_codedBy_29 (lv_at hl 0 rfl) ?_
    refine lv_isub X.1 X.2.1 dX12_codedBy_31 ?_
    obtain ⟨hg_2, h⟩ := gdi_el h
    refine r_iald X hP 9 0 rfl rfl hg_2 rfl dX12_codedBy_32 ?_
    refine lv_ldcw (v := 2000000000) X.1 X.2.1 X.2.2.2.2.1 (X.2.2.2.2.2.1 _ (List.mem_cons_of_mem _ mw_8_152)) dX12_codedBy_33 ?_
    refine lv_icmp_ne (tgt := 43) X.1 X.2.1 dX12_codedBy_36 (by decide) (fun hc => ?_) (fun hc => ?_)
    · have h := it_f hc h
      refine lv_iload_n X.1 X.2.1 dX12_codedBy_43 rfl (lv_at hl 3 rfl) ?_
      refine lv_aload_n X.1 X.2.1 dX12_codedBy_44 rfl (lv_at hl 1 rfl) ?_
      refine lv_iload_n X.1 X.2.1 dX12_codedBy_45 rfl (lv_at hl 2 rfl) ?_
      refine lv_bipush (v := 7) X.1 X.2.1 dX12_codedBy_46 (by decide) ?_
      obtain ⟨r_3, hc_3, h⟩ := bd_el h
      refine call_V1i (As := [.int x1, .int 7]) (rest := [.int x2]) X (c_X12_ofWord l dC dI sk sv tc a0 g0 x1 7 hc_3) mw_8_140 mw_8_142 mp_3_10 mw_1_12 mw_8_143 dc_X12_ofWord ⟨Nat.le_of_ble_eq_true rfl, Nat.le_of_ble_eq_true rfl⟩ rfl rfl ⟨Nat.zero_le _, Nat.zero_le _⟩ hP (hD _) hS 0 rfl rfl rfl hl.1 (Nat.le_of_ble_eq_true rfl) dX12_codedBy_48 (fun H locs hP hS => ?_)
      refine lv_imul X.1 X.2.1 dX12_codedBy_51 ?_
      refine lv_aload_n X.1 X.2.1 dX12_codedBy_52 rfl (lv_at hl 1 rfl) ?_
      refine r_get (C := RX12) (T := TX12) (N := 28) (ci := 12) (v := .ref (a0 23)) X iw12 hP 0 rfl rfl 22 rfl mw_7_142 rfl dX12_codedBy_53 ?_
      refine lv_sipush (v := 129) X.1 X.2.1 dX12_codedBy_56 (by decide) ?_
      refine lv_iload_n X.1 X.2.1 dX12_codedBy_59 rfl (lv_at hl 2 rfl) ?_
      refine lv_imul X.1 X.2.1 dX12_codedBy_60 ?_
      refine lv_sipush (v := 129) X.1 X.2.1 dX12_codedBy_61 (by decide) ?_
      refine lv_iadd X.1 X.2.1 dX12_codedBy_64 ?_
      refine lv_iload_n X.1 X.2.1 dX12_codedBy_65 rfl (lv_at hl 4 rfl) ?_
      refine lv_iadd X.1 X.2.1 dX12_codedBy_66 ?_
      refine lv_iload X.1 X.2.1 dX12_codedBy_67 (lv_at hl 0 rfl) ?_
      refine lv_isub X.1 X.2.1 dX12_codedBy_69 ?_
      obtain ⟨hg_4, h⟩ := gdi_el h
      refine r_iald X hP 9 0 rfl rfl hg_4 rfl dX12_codedBy_70 ?_
      refine lv_iadd X.1 X.2.1 dX12_codedBy_71 ?_
      exact ret_i0 (Option.some.inj h) X hQ hP hS dX12_codedBy_72
    · have h := it_t hc h
      exact HJ39 () H locs ls h hP hS (lv_sub hl [] rfl)

def f_X12_letter (g0 : Pic) (x1 : Int32) (x2 : Int32) : Option (Int32 × Pic) := bd (f_X12_isWord g0 x1) (fun r_1 => jn (fun (s1_J14 : Int32) => nm (pu g0 0 0 s1_J14) (fun g0_2 => (if (g0_2 0 0) ≤ 0 then bd (f_X12_ofWord g0_2 x1 6) (fun r_3 => bd (f_X12_isIn x2 0 (r_3 - 1)) (fun r_4 => jn (fun (s0_J53 : Int32) => some (s0_J53, g0_2)) (fun J53 => (if r_4 = 0 then J53 (-1) else bd (f_X12_ofWord g0_2 x1 x2) (fun r_5 => J53 r_5))))) else some (0, g0_2)))) (fun J14 => (if r_1 = 0 then J14 1 else J14 0)))
abbrev rm_X12_letter : Room := { frames := 2, cells := 0, slots := 0, locals := 43 }
set_option maxHeartbeats 4000000 in
set_option maxRecDepth 100000 in
theorem c_X12_letter (l : Launch) (dC : Nat → ClassId) (dI : Nat → Nat → Nat) (sk sv : Nat → Nat) (tc : Nat → ClassId) (a0 : Nat → Nat) (g0 : Pic) (x1 : Int32) (x2 : Int32) {r0 : Int32} {G0 : Pic} (h : f_X12_letter g0 x1 x2 = some (r0, G0)) : CT l (dC, dI) sk sv (TY tc) yX12_letter cX12_letter 3 (some .int) rm_X12_letter [.ref (a0 0), .int x1, .int x2] (wM tc a0 g0) (some (.int r0)) (wM tc a0 G0) := by
  refine ofCT (by decide) (Nat.le_of_ble_eq_true rfl) ?_
  intro pr e s m args below meth c A Q ls H locs X hQ hD0 hP hS hl
  have hD : ∀ z0, va_D A (wM tc a0 z0) := fun z0 => D_fst (ws := (wM tc a0 g0)) rfl hD0
  have hl : lv_has ls 3 [(0, .ref (a0 0)), (1, .int x1), (2, .int x2)] := hl
  unfold f_X12_letter at h
  refine lv_aload_n X.1 X.2.1 dX12_letter_0 rfl (lv_at hl 0 rfl) ?_
  refine lv_aload_n X.1 X.2.1 dX12_letter_1 rfl (lv_at hl 0 rfl) ?_
  refine lv_iload_n X.1 X.2.1 dX12_letter_2 rfl (lv_at hl 1 rfl) ?_
  obtain ⟨r_1, hc_1, h⟩ := bd_el h
  refine call_V1i (As := [.int x1]) (rest := [.ref (a0 0)]) X (c_X12_isWord l dC dI sk sv tc a0 g0 x1 hc_1) mw_8_136 mw_8_138 mp_3_9 mw_1_12 mw_8_139 dc_X12_isWord ⟨Nat.le_of_ble_eq_true rfl, Nat.le_of_ble_eq_true rfl⟩ rfl rfl ⟨Nat.zero_le _, Nat.zero_le _⟩ hP (hD _) hS 0 rfl rfl rfl hl.1 (Nat.le_of_ble_eq_true rfl) dX12_letter_3 (fun H locs hP hS => ?_)
  obtain ⟨J14, eJ14, h⟩ := jn_el h
  have HJ14 : ∀ (s1_J14 : Int32) (H : Heap) (locs : List Loc) (ls : Array Slot), J14 s1_J14 = some (r0, G0) → va_P (dC, dI) vwCl (wM tc a0 g0) H → va_S A s.heap H locs → lv_has ls 3 [(0, .ref (a0 0)), (1, .int x1), (2, .int x2)] → W pr l e rm_X12_letter s m args below meth c H locs 0 0 Q (F0 m 14 ls [.int s1_J14, .ref (a0 0)]) := by
    intro s1_J14 H locs ls h hP hS hl
    rw [eJ14] at h
    obtain ⟨g0_2, eg0_2, h⟩ := nm_el h
    refine r_put (C := RX12) (T := TX12) (N := 28) (ci := 12) tyX12 tyX12_ok nmX12 X iw12 hP (hD _) hS 0 rfl rfl 0 rfl mw_7_120 rfl rfl rfl rfl dX12_letter_14 (wM tc a0 g0_2) (by rw [eg0_2]; rfl) (fun H locs hP hS => ?_)
    refine lv_aload_n X.1 X.2.1 dX12_letter_17 rfl (lv_at hl 0 rfl) ?_
    refine r_get (C := RX12) (T := TX12) (N := 28) (ci := 12) (v := .int (g0_2 0 0)) X iw12 hP 0 rfl rfl 0 rfl mw_7_120 rfl dX12_letter_18 ?_
    refine lv_if_le (tgt := 26) X.1 X.2.1 dX12_letter_21 (by decide) (fun hc => ?_) (fun hc => ?_)
    · have h := it_t hc h
      refine lv_iload_n X.1 X.2.1 dX12_letter_26 rfl (lv_at hl 2 rfl) ?_
      refine lv_iconst (v := 0) X.1 X.2.1 dX12_letter_27 (by decide) ?_
      refine lv_aload_n X.1 X.2.1 dX12_letter_28 rfl (lv_at hl 0 rfl) ?_
      refine lv_iload_n X.1 X.2.1 dX12_letter_29 rfl (lv_at hl 1 rfl) ?_
      refine lv_bipush (v := 6) X.1 X.2.1 dX12_letter_30 (by decide) ?_
      obtain ⟨r_3, hc_3, h⟩ := bd_el h
      refine call_V1i (As := [.int x1, .int 6]) (rest := [.int 0, .int x2]) X (c_X12_ofWord l dC dI sk sv tc a0 g0_2 x1 6 hc_3) mw_8_140 mw_8_142 mp_3_10 mw_1_12 mw_8_143 dc_X12_ofWord ⟨Nat.le_of_ble_eq_true rfl, Nat.le_of_ble_eq_true rfl⟩ rfl rfl ⟨Nat.zero_le _, Nat.zero_le _⟩ hP (hD _) hS 0 rfl rfl rfl hl.1 (Nat.le_of_ble_eq_true rfl) dX12_letter_32 (fun H locs hP hS => ?_)
      refine lv_iconst (v := 1) X.1 X.2.1 dX12_letter_35 (by decide) ?_
      refine lv_isub X.1 X.2.1 dX12_letter_36 ?_
      obtain ⟨r_4, hc_4, h⟩ := bd_el h
      refine call_S0i (As := [.int x2, .int 0, .int (r_3 - 1)]) (rest := []) X (c_X12_isIn l dC dI sk sv tc x2 0 (r_3 - 1) hc_4) mw_7_218 mw_7_219 mw_1_12 mw_7_220 dc_X12_isIn ⟨Nat.le_of_ble_eq_true rfl, Nat.le_of_ble_eq_true rfl⟩ rfl rfl ⟨Nat.zero_le _, Nat.zero_le _⟩ hP (hD _) hS hl.1 (Nat.le_of_ble_eq_true rfl) dX12_letter_37 (fun H locs hP hS => ?_)
      obtain ⟨J53, eJ53, h⟩ := jn_el h
      have HJ53 : ∀ (s0_J53 : Int32) (H : Heap) (locs : List Loc) (ls : Array Slot), J53 s0_J53 = some (r0, G0) → va_P (dC, dI) vwCl (wM tc a0 g0_2) H → va_S A s.heap H locs → lv_has ls 3 [] → W pr l e rm_X12_letter s m args below meth c H locs 0 0 Q (F0 m 53 ls [.int s0_J53]) := by
        intro s0_J53 H locs ls h hP hS hl
        rw [eJ53] at h
        exact ret_i (fun u => (wM tc a0 u)) (res := (r0, G0)) (Option.some.inj h) X hQ hP hS dX12_letter_53
      refine lv_if_eq (tgt := 52) X.1 X.2.1 dX12_letter_40 (by decide) (fun hc => ?_) (fun hc => ?_)
      · have h := it_t hc h
        refine lv_iconst (v := (-1)) X.1 X.2.1 dX12_letter_52 (by decide) ?_
        exact HJ53 (-1) H locs ls h hP hS (lv_sub hl [] rfl)
      · have h := it_f hc h
        refine lv_aload_n X.1 X.2.1 dX12_letter_43 rfl (lv_at hl 0 rfl) ?_
        refine lv_iload_n X.1 X.2.1 dX12_letter_44 rfl (lv_at hl 1 rfl) ?_
        refine lv_iload_n X.1 X.2.1 dX12_letter_45 rfl (lv_at hl 2 rfl) ?_
        obtain ⟨r_5, hc_5, h⟩ := bd_el h
        refine call_V1i (As := [.int x1, .int x2]) (rest := []) X (c_X12_ofWord l dC dI sk sv tc a0 g0_2 x1 x2 hc_5) mw_8_140 mw_8_142 mp_3_10 mw_1_12 mw_8_143 dc_X12_ofWord ⟨Nat.le_of_ble_eq_true rfl, Nat.le_of_ble_eq_true rfl⟩ rfl rfl ⟨Nat.zero_le _, Nat.zero_le _⟩ hP (hD _) hS 0 rfl rfl rfl hl.1 (Nat.le_of_ble_eq_true rfl) dX12_letter_46 (fun H locs hP hS => ?_)
        refine lv_goto (tgt := 53) X.1 X.2.1 dX12_letter_49 (by decide) ?_
        exact HJ53 r_5 H locs ls h hP hS (lv_sub hl [] rfl)
    · have h := it_f hc h
      refine lv_iconst (v := 0) X.1 X.2.1 dX12_letter_24 (by decide) ?_
      exact ret_i (fun u => (wM tc a0 u)) (res := (r0, G0)) (Option.some.inj h) X hQ hP hS dX12_letter_25
  refine lv_if_ne (tgt := 13) X.1 X.2.1 dX12_letter_6 (by decide) (fun hc => ?_) (fun hc => ?_)
  · have h := it_f hc h
    refine lv_iconst (v := 0) X.1 X.2.1 dX12_letter_13 (by decide) ?_
    exact HJ14 0 H locs ls h hP hS (lv_sub hl [0, 1, 2] rfl)
  · have h := it_t hc h
    refine lv_iconst (v := 1) X.1 X.2.1 dX12_letter_9 (by decide) ?_
    refine lv_goto (tgt := 14) X.1 X.2.1 dX12_letter_10 (by decide) ?_
    exact HJ14 1 H locs ls h hP hS (lv_sub hl [0, 1, 2] rfl)

def f_X12_cleanOf_L4 (x1 : Int32) (g0 : Pic) (n : Nat) (a : Int32 × Int32) : Option (Int32) := lp (fun (rec : Int32 × Int32 → Option (Int32)) (a : Int32 × Int32) => match a with | (x2, x3) => (if (g0 1 3) ≤ x3 then some x2 else bd (f_X12_of g0 x1 0) (fun r_1 => bd (f_X12_strokesBy g0 x3 r_1) (fun r_2 => jn (fun (s0_J36 : Int32) (s1_J36 : Int32) => nm ((s0_J36 ||| s1_J36)) (fun x2_3 => nm (x3 + 1) (fun x3_4 => rec (x2_3, x3_4)))) (fun J36 => (if r_2 = 0 then J36 x2 (1 <<< (x3 &&& 31)) else J36 x2 0)))))) n a
def f_X12_cleanOf (g0 : Pic) (x1 : Int32) : Option (Int32) := bd (f_X12_cleanOf_L4 x1 g0 fu (0, 0)) (fun x2_5 => some x2_5)
abbrev rm_X12_cleanOf : Room := { frames := 2, cells := 0, slots := 0, locals := 46 }
set_option maxHeartbeats 4000000 in
set_option maxRecDepth 100000 in
theorem c_X12_cleanOf (l : Launch) (dC : Nat → ClassId) (dI : Nat → Nat → Nat) (sk sv : Nat → Nat) (tc : Nat → ClassId) (a0 : Nat → Nat) (g0 : Pic) (x1 : Int32) {r0 : Int32} (h : f_X12_cleanOf g0 x1 = some r0) : CT l (dC, dI) sk sv (TY tc) yX12_cleanOf cX12_cleanOf 4 (some .int) rm_X12_cleanOf [.ref (a0 0), .int x1] (wM tc a0 g0) (some (.int r0)) (wM tc a0 g0) := by
  refine ofCT (by decide) (Nat.le_of_ble_eq_true rfl) ?_
  intro pr e s m args below meth c A Q ls H locs X hQ hD0 hP hS hl
  have hD : ∀ z0, va_D A (wM tc a0 z0) := fun z0 => D_fst (ws := (wM tc a0 g0)) rfl hD0
  have hl : lv_has ls 4 [(0, .ref (a0 0)), (1, .int x1)] := hl
  have HL4 : ∀ (x1 : Int32) (n : Nat) (x2 : Int32) (x3 : Int32) (ex : (Int32)), f_X12_cleanOf_L4 x1 g0 n (x2, x3) = some ex → ∀ (H : Heap) (locs : List Loc) (ls : Array Slot), va_P (dC, dI) vwCl (wM tc a0 g0) H → va_S A s.heap H locs → lv_has ls 4 [(0, .ref (a0 0)), (1, .int x1), (2, .int x2), (3, .int x3)] → (∀ (y2 : Int32), y2 = ex → ∀ (H : Heap) (locs : List Loc) (ls : Array Slot), va_P (dC, dI) vwCl (wM tc a0 g0) H → va_S A s.heap H locs → lv_has ls 4 [(2, .int y2)] → W pr l e rm_X12_cleanOf s m args below meth c H locs 0 0 Q (F0 m 44 ls [])) → W pr l e rm_X12_cleanOf s m args below meth c H locs 0 0 Q (F0 m 4 ls []) := by
    intro x1 n
    induction n with
    | zero => intro x2 x3 ex h; exact lp_z h
    | succ n ih =>
      intro x2 x3 ex h H locs ls hP hS hl K
      have h := lp_s h
      refine lv_iload_n X.1 X.2.1 dX12_cleanOf_4 rfl (lv_at hl 3 rfl) ?_
      refine lv_aload_n X.1 X.2.1 dX12_cleanOf_5 rfl (lv_at hl 0 rfl) ?_
      refine r_get (C := RX12) (T := TX12) (N := 28) (ci := 12) (v := .ref (a0 2)) X iw12 hP 0 rfl rfl 1 rfl mw_7_121 rfl dX12_cleanOf_6 ?_
      refine lv_iconst (v := 3) X.1 X.2.1 dX12_cleanOf_9 (by decide) ?_
      refine r_iald X hP 1 0 rfl rfl (j := 3) (by unfold vp_in; decide) (by decide) dX12_cleanOf_10 ?_
      refine lv_icmp_ge (tgt := 44) X.1 X.2.1 dX12_cleanOf_11 (by decide) (fun hc => ?_) (fun hc => ?_)
      · have h := it_t hc h
        exact K x2 (Option.some.inj h) H locs ls hP hS (lv_sub hl [2] rfl)
      · have h := it_f hc h
        refine lv_iload_n X.1 X.2.1 dX12_cleanOf_14 rfl (lv_at hl 2 rfl) ?_
        refine lv_aload_n X.1 X.2.1 dX12_cleanOf_15 rfl (lv_at hl 0 rfl) ?_
        refine lv_iload_n X.1 X.2.1 dX12_cleanOf_16 rfl (lv_at hl 3 rfl) ?_
        refine lv_aload_n X.1 X.2.1 dX12_cleanOf_17 rfl (lv_at hl 0 rfl) ?_
        refine lv_iload_n X.1 X.2.1 dX12_cleanOf_18 rfl (lv_at hl 1 rfl) ?_
        refine lv_iconst (v := 0) X.1 X.2.1 dX12_cleanOf_19 (by decide) ?_
        obtain ⟨r_1, hc_1, h⟩ := bd_el h
        refine call_V1i (As := [.int x1, .int 0]) (rest := [.int x3, .ref (a0 0), .int x2]) X (c_X12_of l dC dI sk sv tc a0 g0 x1 0 hc_1) mw_8_180 mw_8_182 mp_4_1 mw_1_12 mw_8_183 dc_X12_of ⟨Nat.le_of_ble_eq_true rfl, Nat.le_of_ble_eq_true rfl⟩ rfl rfl ⟨Nat.zero_le _, Nat.zero_le _⟩ hP (hD _) hS 0 rfl rfl rfl hl.1 (Nat.le_of_ble_eq_true rfl) dX12_cleanOf_20 (fun H locs hP hS => ?_)
        obtain ⟨r_2, hc_2, h⟩ := bd_el h
        refine call_V1i (As := [.int x3, .int r_1]) (rest := [.int x2]) X (c_X12_strokesBy l dC dI sk sv tc a0 g0 x3 r_1 hc_2) mw_8_188 mw_8_190 mp_4_3 mw_1_12 mw_8_191 dc_X12_strokesBy ⟨Nat.le_of_ble_eq_true rfl, Nat.le_of_ble_eq_true rfl⟩ rfl rfl ⟨Nat.zero_le _, Nat.zero_le _⟩ hP (hD _) hS 0 rfl rfl rfl hl.1 (Nat.le_of_ble_eq_true rfl) dX12_cleanOf_23 (fun H locs hP hS => ?_)
        obtain ⟨J36, eJ36, h⟩ := jn_el h
        have HJ36 : ∀ (s0_J36 : Int32) (s1_J36 : Int32) (H : Heap) (locs : List Loc) (ls : Array Slot), J36 s0_J36 s1_J36 = some ex → va_P (dC, dI) vwCl (wM tc a0 g0) H → va_S A s.heap H locs → lv_has ls 4 [(0, .ref (a0 0)), (1, .int x1), (3, .int x3)] → W pr l e rm_X12_cleanOf s m args below meth c H locs 0 0 Q (F0 m 36 ls [.int s1_J36, .int s0_J36]) := by
          intro s0_J36 s1_J36 H locs ls h hP hS hl
          rw [eJ36] at h
          refine lv_ior X.1 X.2.1 dX12_cleanOf_36 ?_
          obtain ⟨x2_3, ex2_3, h⟩ := nm_el h
          refine tp_i ex2_3 ?_
          refine lv_istore_n (lv' := [(2, .int x2_3), (0, .ref (a0 0)), (1, .int x1), (3, .int x3)]) X.1 X.2.1 dX12_cleanOf_37 rfl hl (by decide) rfl (fun ls hl => ?_)
          obtain ⟨x3_4, ex3_4, h⟩ := nm_el h
          refine lv_iinc (v := x3_4) (lv' := [(3, .int x3_4), (2, .int x2_3), (0, .ref (a0 0)), (1, .int x1)]) X.1 X.2.1 dX12_cleanOf_38 hl (k := 3) rfl (by rw [ex3_4]; rfl) (by decide) rfl (fun ls hl => ?_)
          refine lv_goto (tgt := 4) X.1 X.2.1 dX12_cleanOf_41 (by decide) ?_
          exact ih x2_3 x3_4 ex h H locs ls hP hS (lv_sub hl [2, 3, 1, 0] rfl) K
        refine lv_if_ne (tgt := 35) X.1 X.2.1 dX12_cleanOf_26 (by decide) (fun hc => ?_) (fun hc => ?_)
        · have h := it_f hc h
          refine lv_iconst (v := 0) X.1 X.2.1 dX12_cleanOf_35 (by decide) ?_
          exact HJ36 x2 0 H locs ls h hP hS (lv_sub hl [0, 1, 3] rfl)
        · have h := it_t hc h
          refine lv_iconst (v := 1) X.1 X.2.1 dX12_cleanOf_29 (by decide) ?_
          refine lv_iload_n X.1 X.2.1 dX12_cleanOf_30 rfl (lv_at hl 3 rfl) ?_
          refine lv_ishl X.1 X.2.1 dX12_cleanOf_31 ?_
          refine lv_goto (tgt := 36) X.1 X.2.1 dX12_cleanOf_32 (by decide) ?_
          exact HJ36 x2 (1 <<< (x3 &&& 31)) H locs ls h hP hS (lv_sub hl [0, 1, 3] rfl)
  unfold f_X12_cleanOf at h
  refine lv_iconst (v := 0) X.1 X.2.1 dX12_cleanOf_0 (by decide) ?_
  refine lv_istore_n (lv' := [(2, .int 0), (0, .ref (a0 0)), (1, .int x1)]) X.1 X.2.1 dX12_cleanOf_1 rfl hl (by decide) rfl (fun ls hl => ?_)
  refine lv_iconst (v := 0) X.1 X.2.1 dX12_cleanOf_2 (by decide) ?_
  refine lv_istore_n (lv' := [(3, .int 0), (2, .int 0), (0, .ref (a0 0)), (1, .int x1)]) X.1 X.2.1 dX12_cleanOf_3 rfl hl (by decide) rfl (fun ls hl => ?_)
  obtain ⟨ex_5, hL_5, h⟩ := bd_el h
  refine HL4 x1 fu 0 0 ex_5 hL_5 H locs ls hP hS (lv_sub hl [2, 3, 1, 0] rfl) (fun x2_5 he H locs ls hP hS hl => ?_)
  subst he
  refine lv_iload_n X.1 X.2.1 dX12_cleanOf_44 rfl (lv_at hl 0 rfl) ?_
  exact ret_i0 (Option.some.inj h) X hQ hP hS dX12_cleanOf_45

def f_X12_times_L9 (x1 : Int32) (x2 : Int32) (x3 : Int32) (g0 : Pic) (n : Nat) (a : Int32 × Int32 × Int32) : Option (Int32 × Int32) := lp (fun (rec : Int32 × Int32 × Int32 → Option (Int32 × Int32)) (a : Int32 × Int32 × Int32) => match a with | (x4, x5, x6) => (if (g0 1 5) ≤ x6 then some (x4, x5) else bd (f_X12_greater x4 (x6 * x2)) (fun r_1 => bd (f_X12_greater x5 (r_1 - (x6 * x2))) (fun r_2 => gdi (76 + x6) 856 (bd (f_X12_of g0 x1 0) (fun r_4 => bd (f_X12_strokesBy g0 (g0 1 ((76 + x6).toNatClampNeg)) r_4) (fun r_5 => bd (f_X12_of g0 x1 1) (fun r_6 => bd (f_X12_of g0 x1 1) (fun r_7 => gdz r_7 (nm ((r_1 + (((r_5 + r_6) - 1) / r_7))) (fun x4_9 => nm (x6 + 1) (fun x6_10 => rec (x4_9, r_2, x6_10))))))))))))) n a
def f_X12_times (g0 : Pic) (x1 : Int32) (x2 : Int32) (x3 : Int32) : Option (Int32) := bd (f_X12_times_L9 x1 x2 x3 g0 fu (0, 0, 0)) (fun (x4_11, x5_11) => jn (fun (s0_J103 : Int32) => some s0_J103) (fun J103 => (if x3 = 0 then J103 x5_11 else J103 x4_11)))
abbrev rm_X12_times : Room := { frames := 2, cells := 0, slots := 0, locals := 46 }
set_option maxHeartbeats 4000000 in
set_option maxRecDepth 100000 in
theorem c_X12_times (l : Launch) (dC : Nat → ClassId) (dI : Nat → Nat → Nat) (sk sv : Nat → Nat) (tc : Nat → ClassId) (a0 : Nat → Nat) (g0 : Pic) (x1 : Int32) (x2 : Int32) (x3 : Int32) {r0 : Int32} (h : f_X12_times g0 x1 x2 x3 = some r0) : CT l (dC, dI) sk sv (TY tc) yX12_times cX12_times 8 (some .int) rm_X12_times [.ref (a0 0), .int x1, .int x2, .int x3] (wM tc a0 g0) (some (.int r0)) (wM tc a0 g0) := by
  refine ofCT (by decide) (Nat.le_of_ble_eq_true rfl) ?_
  intro pr e s m args below meth c A Q ls H locs X hQ hD0 hP hS hl
  have hD : ∀ z0, va_D A (wM tc a0 z0) := fun z0 => D_fst (ws := (wM tc a0 g0)) rfl hD0
  have hl : lv_has ls 8 [(0, .ref (a0 0)), (1, .int x1), (2, .int x2), (3, .int x3)] := hl
  have HL9 : ∀ (x1 : Int32) (x2 : Int32) (x3 : Int32) (n : Nat) (x4 : Int32) (x5 : Int32) (x6 : Int32) (ex : (Int32 × Int32)), f_X12_times_L9 x1 x2 x3 g0 n (x4, x5, x6) = some ex → ∀ (H : Heap) (locs : List Loc) (ls : Array Slot), va_P (dC, dI) vwCl (wM tc a0 g0) H → va_S A s.heap H locs → lv_has ls 8 [(0, .ref (a0 0)), (1, .int x1), (2, .int x2), (3, .int x3), (4, .int x4), (5, .int x5), (6, .int x6)] → (∀ (y4 : Int32) (y5 : Int32), (y4, y5) = ex → ∀ (H : Heap) (locs : List Loc) (ls : Array Slot), va_P (dC, dI) vwCl (wM tc a0 g0) H → va_S A s.heap H locs → lv_has ls 8 [(3, .int x3), (4, .int y4), (5, .int y5)] → W pr l e rm_X12_times s m args below meth c H locs 0 0 Q (F0 m 92 ls [])) → W pr l e rm_X12_times s m args below meth c H locs 0 0 Q (F0 m 9 ls []) := by
    intro x1 x2 x3 n
    induction n with
    | zero => intro x4 x5 x6 ex h; exact lp_z h
    | succ n ih =>
      intro x4 x5 x6 ex h H locs ls hP hS hl K
      have h := lp_s h
      refine lv_iload X.1 X.2.1 dX12_times_9 (lv_at hl 6 rfl) ?_
      refine lv_aload_n X.1 X.2.1 dX12_times_11 rfl (lv_at hl 0 rfl) ?_
      refine r_get (C := RX12) (T := TX12) (N := 28) (ci := 12) (v := .ref (a0 2)) X iw12 hP 0 rfl rfl 1 rfl mw_7_121 rfl dX12_times_12 ?_
      refine lv_iconst (v := 5) X.1 X.2.1 dX12_times_15 (by decide) ?_
      refine r_iald X hP 1 0 rfl rfl (j := 5) (by unfold vp_in; decide) (by decide) dX12_times_16 ?_
      refine lv_icmp_ge (tgt := 92) X.1 X.2.1 dX12_times_17 (by decide) (fun hc => ?_) (fun hc => ?_)
      · have h := it_t hc h
        exact K x4 x5 (Option.some.inj h) H locs ls hP hS (lv_sub hl [3, 4, 5] rfl)
      · have h := it_f hc h
        refine lv_iload X.1 X.2.1 dX12_times_20 (lv_at hl 4 rfl) ?_
        refine lv_iload X.1 X.2.1 dX12_times_22 (lv_at hl 6 rfl) ?_
        refine lv_iload_n X.1 X.2.1 dX12_times_24 rfl (lv_at hl 2 rfl) ?_
        refine lv_imul X.1 X.2.1 dX12_times_25 ?_
        obtain ⟨r_1, hc_1, h⟩ := bd_el h
        refine call_S0i (As := [.int x4, .int (x6 * x2)]) (rest := []) X (c_X12_greater l dC dI sk sv tc x4 (x6 * x2) hc_1) mw_8_219 mw_8_220 mw_1_12 mw_8_221 dc_X12_greater ⟨Nat.le_of_ble_eq_true rfl, Nat.le_of_ble_eq_true rfl⟩ rfl rfl ⟨Nat.zero_le _, Nat.zero_le _⟩ hP (hD _) hS hl.1 (Nat.le_of_ble_eq_true rfl) dX12_times_26 (fun H locs hP hS => ?_)
        refine lv_istore (lv' := [(7, .int r_1), (0, .ref (a0 0)), (1, .int x1), (2, .int x2), (3, .int x3), (4, .int x4), (5, .int x5), (6, .int x6)]) X.1 X.2.1 dX12_times_29 hl (by decide) rfl (fun ls hl => ?_)
        refine lv_iload X.1 X.2.1 dX12_times_31 (lv_at hl 6 rfl) ?_
        refine lv_iload X.1 X.2.1 dX12_times_33 (lv_at hl 0 rfl) ?_
        refine lv_iload X.1 X.2.1 dX12_times_35 (lv_at hl 7 rfl) ?_
        refine lv_iload_n X.1 X.2.1 dX12_times_37 rfl (lv_at hl 3 rfl) ?_
        refine lv_imul X.1 X.2.1 dX12_times_38 ?_
        refine lv_isub X.1 X.2.1 dX12_times_39 ?_
        obtain ⟨r_2, hc_2, h⟩ := bd_el h
        refine call_S0i (As := [.int x5, .int (r_1 - (x6 * x2))]) (rest := []) X (c_X12_greater l dC dI sk sv tc x5 (r_1 - (x6 * x2)) hc_2) mw_8_219 mw_8_220 mw_1_12 mw_8_221 dc_X12_greater ⟨Nat.le_of_ble_eq_true rfl, Nat.le_of_ble_eq_true rfl⟩ rfl rfl ⟨Nat.zero_le _, Nat.zero_le _⟩ hP (hD _) hS hl.1 (Nat.le_of_ble_eq_true rfl) dX12_times_40 (fun H locs hP hS => ?_)
        refine lv_istore (lv' := [(5, .int r_2), (7, .int r_1), (0, .ref (a0 0)), (1, .int x1), (2, .int x2), (3, .int x3), (4, .int x4), (6, .int x6)]) X.1 X.2.1 dX12_times_43 hl (by decide) rfl (fun ls hl => ?_)
        refine lv_iload X.1 X.2.1 dX12_times_45 (lv_at hl 1 rfl) ?_
        refine lv_aload_n X.1 X.2.1 dX12_times_47 rfl (lv_at hl 2 rfl) ?_
        refine lv_aload_n X.1 X.2.1 dX12_times_48 rfl (lv_at hl 2 rfl) ?_
        refine r_get (C := RX12) (T := TX12) (N := 28) (ci := 12) (v := .ref (a0 2)) X iw12 hP 0 rfl rfl 1 rfl mw_7_121 rfl dX12_times_49 ?_
        refine lv_bipush (v := 76) X.1 X.2.1 dX12_times_52 (by decide) ?_
        refine lv_iload X.1 X.2.1 dX12_times_54 (lv_at hl 7 rfl) ?_
        refine lv_iadd X.1 X.2.1 dX12_times_56 ?_
        obtain ⟨hg_3, h⟩ := gdi_el h
        refine r_iald X hP 1 0 rfl rfl hg_3 rfl dX12_times_57 ?_
        refine lv_aload_n X.1 X.2.1 dX12_times_58 rfl (lv_at hl 2 rfl) ?_
        refine lv_iload_n X.1 X.2.1 dX12_times_59 rfl (lv_at hl 3 rfl) ?_
        refine lv_iconst (v := 0) X.1 X.2.1 dX12_times_60 (by decide) ?_
        obtain ⟨r_4, hc_4, h⟩ := bd_el h
        refine call_V1i (As := [.int x1, .int 0]) (rest := [.int (g0 1 ((76 + x6).toNatClampNeg)), .ref (a0 0), .int r_1]) X (c_X12_of l dC dI sk sv tc a0 g0 x1 0 hc_4) mw_8_180 mw_8_182 mp_4_1 mw_1_12 mw_8_183 dc_X12_of ⟨Nat.le_of_ble_eq_true rfl, Nat.le_of_ble_eq_true rfl⟩ rfl rfl ⟨Nat.zero_le _, Nat.zero_le _⟩ hP (hD _) hS 0 rfl rfl rfl hl.1 (Nat.le_of_ble_eq_true rfl) dX12_times_61 (fun H locs hP hS => ?_)
        obtain ⟨r_5, hc_5, h⟩ := bd_el h
        refine call_V1i (As := [.int (g0 1 ((76 + x6).toNatClampNeg)), .int r_4]) (rest := [.int r_1]) X (c_X12_strokesBy l dC dI sk sv tc a0 g0 (g0 1 ((76 + x6).toNatClampNeg)) r_4 hc_5) mw_8_188 mw_8_190 mp_4_3 mw_1_12 mw_8_191 dc_X12_strokesBy ⟨Nat.le_of_ble_eq_true rfl, Nat.le_of_ble_eq_true rfl⟩ rfl rfl ⟨Nat.zero_le _, Nat.zero_le _⟩ hP (hD _) hS 0 rfl rfl rfl hl.1 (Nat.le_of_ble_eq_true rfl) dX12_times_64 (fun H locs hP hS => ?_)
        refine lv_aload_n X.1 X.2.1 dX12_times_67 rfl (lv_at hl 2 rfl) ?_
        refine lv_iload_n X.1 X.2.1 dX12_times_68 rfl (lv_at hl 3 rfl) ?_
        refine lv_iconst (v := 1) X.1 X.2.1 dX12_times_69 (by decide) ?_
        obtain ⟨r_6, hc_6, h⟩ := bd_el h
        refine call_V1i (As := [.int x1, .int 1]) (rest := [.int r_5, .int r_1]) X (c_X12_of l dC dI sk sv tc a0 g0 x1 1 hc_6) mw_8_180 mw_8_182 mp_4_1 mw_1_12 mw_8_183 dc_X12_of ⟨Nat.le_of_ble_eq_true rfl, Nat.le_of_ble_eq_true rfl⟩ rfl rfl ⟨Nat.zero_le _, Nat.zero_le _⟩ hP (hD _) hS 0 rfl rfl rfl hl.1 (Nat.le_of_ble_eq_true rfl) dX12_times_70 (fun H locs hP hS => ?_)
        refine lv_iadd X.1 X.2.1 dX12_times_73 ?_
        refine lv_iconst (v := 1) X.1 X.2.1 dX12_times_74 (by decide) ?_
        refine lv_isub X.1 X.2.1 dX12_times_75 ?_
        refine lv_aload_n X.1 X.2.1 dX12_times_76 rfl (lv_at hl 2 rfl) ?_
        refine lv_iload_n X.1 X.2.1 dX12_times_77 rfl (lv_at hl 3 rfl) ?_
        refine lv_iconst (v := 1) X.1 X.2.1 dX12_times_78 (by decide) ?_
        obtain ⟨r_7, hc_7, h⟩ := bd_el h
        refine call_V1i (As := [.int x1, .int 1]) (rest := [.int ((r_5 + r_6) - 1), .int r_1]) X (c_X12_of l dC dI sk sv tc a0 g0 x1 1 hc_7) mw_8_180 mw_8_182 mp_4_1 mw_1_12 mw_8_183 dc_X12_of ⟨Nat.le_of_ble_eq_true rfl, Nat.le_of_ble_eq_true rfl⟩ rfl rfl ⟨Nat.zero_le _, Nat.zero_le _⟩ hP (hD _) hS 0 rfl rfl rfl hl.1 (Nat.le_of_ble_eq_true rfl) dX12_times_79 (fun H locs hP hS => ?_)
        obtain ⟨hg_8, h⟩ := gdz_el h
        refine lv_idiv X.1 X.2.1 dX12_times_82 hg_8 ?_
        refine lv_iadd X.1 X.2.1 dX12_times_83 ?_
        obtain ⟨x4_9, ex4_9, h⟩ := nm_el h
        refine tp_i ex4_9 ?_
        refine lv_istore (lv' := [(4, .int x4_9), (5, .int r_2), (7, .int r_1), (0, .ref (a0 0)), (1, .int x1), (2, .int x2), (3, .int x3), (6, .int x6)]) X.1 X.2.1 dX12_times_84 hl (by decide) rfl (fun ls hl => ?_)
        obtain ⟨x6_10, ex6_10, h⟩ := nm_el h
        refine lv_iinc (v := x6_10) (lv' := [(6, .int x6_10), (4, .int x4_9), (5, .int r_2), (7, .int r_1), (0, .ref (a0 0)), (1, .int x1), (2, .int x2), (3, .int x3)]) X.1 X.2.1 dX12_times_86 hl (k := 7) rfl (by rw [ex6_10]; rfl) (by decide) rfl (fun ls hl => ?_)
        refine lv_goto (tgt := 9) X.1 X.2.1 dX12_times_89 (by decide) ?_
        exact ih x4_9 r_2 x6_10 ex h H locs ls hP hS (lv_sub hl [4, 5, 6, 7, 1, 2, 0] rfl) K
  unfold f_X12_times at h
  refine lv_iconst (v := 0) X.1 X.2.1 dX12_times_0 (by decide) ?_
  refine lv_istore (lv' := [(4, .int 0), (0, .ref (a0 0)), (1, .int x1), (2, .int x2), (3, .int x3)]) X.1 X.2.1 dX12_times_1 hl (by decide) rfl (fun ls hl => ?_)
  refine lv_iconst (v := 0) X.1 X.2.1 dX12_times_3 (by decide) ?_
  refine lv_istore (lv' := [(5, .int 0), (4, .int 0), (0, .ref (a0 0)), (1, .int x1), (2, .int x2), (3, .int x3)]) X.1 X.2.1 dX12_times_4 hl (by decide) rfl (fun ls hl => ?_)
  refine lv_iconst (v := 0) X.1 X.2.1 dX12_times_6 (by decide) ?_
  refine lv_istore (lv' := [(6, .int 0), (5, .int 0), (4, .int 0), (0, .ref (a0 0)), (1, .int x1), (2, .int x2), (3, .int x3)]) X.1 X.2.1 dX12_times_7 hl (by decide) rfl (fun ls hl => ?_)
  obtain ⟨ex_11, hL_11, h⟩ := bd_el h
  refine HL9 x1 x2 x3 fu 0 0 0 ex_11 hL_11 H locs ls hP hS (lv_sub hl [3, 4, 5, 6, 2, 1, 0] rfl) (fun x4_11 x5_11 he H locs ls hP hS hl => ?_)
  subst he
  refine lv_iload_n X.1 X.2.1 dX12_times_92 rfl (lv_at hl 0 rfl) ?_
  obtain ⟨J103, eJ103, h⟩ := jn_el h
  have HJ103 : ∀ (s0_J103 : Int32) (H : Heap) (locs : List Loc) (ls : Array Slot), J103 s0_J103 = some r0 → va_P (dC, dI) vwCl (wM tc a0 g0) H → va_S A s.heap H locs → lv_has ls 8 [] → W pr l e rm_X12_times s m args below meth c H locs 0 0 Q (F0 m 103 ls [.int s0_J103]) := by
    intro s0_J103 H locs ls h hP hS hl
    rw [eJ103] at h
    exact ret_i0 (Option.some.inj h) X hQ hP hS dX12_times_103
  refine lv_if_eq (tgt := 101) X.1 X.2.1 dX12_times_93 (by decide) (fun hc => ?_) (fun hc => ?_)
  · have h := it_t hc h
    refine lv_iload X.1 X.2.1 dX12_times_101 (lv_at hl 2 rfl) ?_
    exact HJ103 x5_11 H locs ls h hP hS (lv_sub hl [] rfl)
  · have h := it_f hc h
    refine lv_iload X.1 X.2.1 dX12_times_96 (lv_at hl 1 rfl) ?_
    refine lv_goto (tgt := 103) X.1 X.2.1 dX12_times_98 (by decide) ?_
    exact HJ103 x4_11 H locs ls h hP hS (lv_sub hl [] rfl)

def f_X12_edgeOf_L2 (x1 : Int32) (g0 : Pic) (n : Nat) (a : Int32) : Option ((Int32) ⊕ (Unit)) := lp (fun (rec : Int32 → Option ((Int32) ⊕ (Unit))) (a : Int32) => (fun (x2 : Int32) => (if 10 ≤ x2 then some (.inr ()) else bd (f_X12_times g0 x1 x2 0) (fun r_1 => (if r_1 = 0 then some (.inl x2) else nm (x2 + 1) (fun x2_2 => rec x2_2))))) a) n a
def f_X12_edgeOf (g0 : Pic) (x1 : Int32) : Option (Int32) := lr (f_X12_edgeOf_L2 x1 g0 fu 1) (fun a => a) (fun _ => some (-1))
abbrev rm_X12_edgeOf : Room := { frames := 3, cells := 0, slots := 0, locals := 73 }
set_option maxHeartbeats 4000000 in
set_option maxRecDepth 100000 in
theorem c_X12_edgeOf (l : Launch) (dC : Nat → ClassId) (dI : Nat → Nat → Nat) (sk sv : Nat → Nat) (tc : Nat → ClassId) (a0 : Nat → Nat) (g0 : Pic) (x1 : Int32) {r0 : Int32} (h : f_X12_edgeOf g0 x1 = some r0) : CT l (dC, dI) sk sv (TY tc) yX12_edgeOf cX12_edgeOf 3 (some .int) rm_X12_edgeOf [.ref (a0 0), .int x1] (wM tc a0 g0) (some (.int r0)) (wM tc a0 g0) := by
  refine ofCT (by decide) (Nat.le_of_ble_eq_true rfl) ?_
  intro pr e s m args below meth c A Q ls H locs X hQ hD0 hP hS hl
  have hD : ∀ z0, va_D A (wM tc a0 z0) := fun z0 => D_fst (ws := (wM tc a0 g0)) rfl hD0
  have hl : lv_has ls 3 [(0, .ref (a0 0)), (1, .int x1)] := hl
  have HL2 : ∀ (x1 : Int32) (n : Nat) (x2 : Int32) (ex : ((Int32) ⊕ (Unit))), f_X12_edgeOf_L2 x1 g0 n x2 = some ex → (∀ rv, ex = .inl rv → rv = r0) → ∀ (H : Heap) (locs : List Loc) (ls : Array Slot), va_P (dC, dI) vwCl (wM tc a0 g0) H → va_S A s.heap H locs → lv_has ls 3 [(0, .ref (a0 0)), (1, .int x1), (2, .int x2)] → (.inr () = ex → ∀ (H : Heap) (locs : List Loc) (ls : Array Slot), va_P (dC, dI) vwCl (wM tc a0 g0) H → va_S A s.heap H locs → lv_has ls 3 [] → W pr l e rm_X12_edgeOf s m args below meth c H locs 0 0 Q (F0 m 26 ls [])) → W pr l e rm_X12_edgeOf s m args below meth c H locs 0 0 Q (F0 m 2 ls []) := by
    intro x1 n
    induction n with
    | zero => intro x2 ex h; exact lp_z h
    | succ n ih =>
      intro x2 ex h hR H locs ls hP hS hl K
      have h := lp_s h
      refine lv_iload_n X.1 X.2.1 dX12_edgeOf_2 rfl (lv_at hl 2 rfl) ?_
      refine lv_bipush (v := 10) X.1 X.2.1 dX12_edgeOf_3 (by decide) ?_
      refine lv_icmp_ge (tgt := 26) X.1 X.2.1 dX12_edgeOf_5 (by decide) (fun hc => ?_) (fun hc => ?_)
      · have h := it_t hc h
        exact K  (Option.some.inj h) H locs ls hP hS (lv_sub hl [] rfl)
      · have h := it_f hc h
        refine lv_aload_n X.1 X.2.1 dX12_edgeOf_8 rfl (lv_at hl 0 rfl) ?_
        refine lv_iload_n X.1 X.2.1 dX12_edgeOf_9 rfl (lv_at hl 1 rfl) ?_
        refine lv_iload_n X.1 X.2.1 dX12_edgeOf_10 rfl (lv_at hl 2 rfl) ?_
        refine lv_iconst (v := 0) X.1 X.2.1 dX12_edgeOf_11 (by decide) ?_
        obtain ⟨r_1, hc_1, h⟩ := bd_el h
        refine call_V1i (As := [.int x1, .int x2, .int 0]) (rest := []) X (c_X12_times l dC dI sk sv tc a0 g0 x1 x2 0 hc_1) mw_8_215 mw_8_217 mp_4_9 mw_1_12 mw_8_218 dc_X12_times ⟨Nat.le_of_ble_eq_true rfl, Nat.le_of_ble_eq_true rfl⟩ rfl rfl ⟨Nat.zero_le _, Nat.zero_le _⟩ hP (hD _) hS 0 rfl rfl rfl hl.1 (Nat.le_of_ble_eq_true rfl) dX12_edgeOf_12 (fun H locs hP hS => ?_)
        refine lv_if_ne (tgt := 20) X.1 X.2.1 dX12_edgeOf_15 (by decide) (fun hc => ?_) (fun hc => ?_)
        · have h := it_f hc h
          obtain ⟨x2_2, ex2_2, h⟩ := nm_el h
          refine lv_iinc (v := x2_2) (lv' := [(2, .int x2_2), (0, .ref (a0 0)), (1, .int x1)]) X.1 X.2.1 dX12_edgeOf_20 hl (k := 2) rfl (by rw [ex2_2]; rfl) (by decide) rfl (fun ls hl => ?_)
          refine lv_goto (tgt := 2) X.1 X.2.1 dX12_edgeOf_23 (by decide) ?_
          exact ih x2_2 ex h hR H locs ls hP hS (lv_sub hl [1, 2, 0] rfl) K
        · have h := it_t hc h
          refine lv_iload_n X.1 X.2.1 dX12_edgeOf_18 rfl (lv_at hl 2 rfl) ?_
          exact ret_i0 (hR _ (Option.some.inj h).symm) X hQ hP hS dX12_edgeOf_19
  unfold f_X12_edgeOf at h
  refine lv_iconst (v := 1) X.1 X.2.1 dX12_edgeOf_0 (by decide) ?_
  refine lv_istore_n (lv' := [(2, .int 1), (0, .ref (a0 0)), (1, .int x1)]) X.1 X.2.1 dX12_edgeOf_1 rfl hl (by decide) rfl (fun ls hl => ?_)
  obtain ⟨ex_3, hL_3, h1_3, h2_3⟩ := lr_el h
  refine HL2 x1 fu 1 ex_3 hL_3 (fun rv hq => h1_3 rv hq) H locs ls hP hS (lv_sub hl [1, 2, 0] rfl) (fun  he H locs ls hP hS hl => ?_)
  have h := h2_3 _ he.symm
  refine lv_iconst (v := (-1)) X.1 X.2.1 dX12_edgeOf_26 (by decide) ?_
  exact ret_i0 (Option.some.inj h) X hQ hP hS dX12_edgeOf_27

def f_X12_runOf_L7 (x1 : Int32) (g0 : Pic) (n : Nat) (a : Int32 × Int32 × Int32) : Option (Int32) := lp (fun (rec : Int32 × Int32 × Int32 → Option (Int32)) (a : Int32 × Int32 × Int32) => match a with | (x2, x3, x4) => (if (g0 1 6) ≤ x4 then some x2 else bd (f_X12_onPage g0 x1 x4) (fun r_1 => jn (fun (s0_J37 : Int32) => bd (f_X12_greater x2 s0_J37) (fun r_2 => nm (x4 + 1) (fun x4_3 => rec (r_2, s0_J37, x4_3)))) (fun J37 => (if r_1 = 1 then J37 (x3 + 1) else J37 0))))) n a
def f_X12_runOf (g0 : Pic) (x1 : Int32) : Option (Int32) := bd (f_X12_runOf_L7 x1 g0 fu (0, 0, 0)) (fun x2_4 => some x2_4)
abbrev rm_X12_runOf : Room := { frames := 1, cells := 0, slots := 0, locals := 22 }
set_option maxHeartbeats 4000000 in
set_option maxRecDepth 100000 in
theorem c_X12_runOf (l : Launch) (dC : Nat → ClassId) (dI : Nat → Nat → Nat) (sk sv : Nat → Nat) (tc : Nat → ClassId) (a0 : Nat → Nat) (g0 : Pic) (x1 : Int32) {r0 : Int32} (h : f_X12_runOf g0 x1 = some r0) : CT l (dC, dI) sk sv (TY tc) yX12_runOf cX12_runOf 5 (some .int) rm_X12_runOf [.ref (a0 0), .int x1] (wM tc a0 g0) (some (.int r0)) (wM tc a0 g0) := by
  refine ofCT (by decide) (Nat.le_of_ble_eq_true rfl) ?_
  intro pr e s m args below meth c A Q ls H locs X hQ hD0 hP hS hl
  have hD : ∀ z0, va_D A (wM tc a0 z0) := fun z0 => D_fst (ws := (wM tc a0 g0)) rfl hD0
  have hl : lv_has ls 5 [(0, .ref (a0 0)), (1, .int x1)] := hl
  have HL7 : ∀ (x1 : Int32) (n : Nat) (x2 : Int32) (x3 : Int32) (x4 : Int32) (ex : (Int32)), f_X12_runOf_L7 x1 g0 n (x2, x3, x4) = some ex → ∀ (H : Heap) (locs : List Loc) (ls : Array Slot), va_P (dC, dI) vwCl (wM tc a0 g0) H → va_S A s.heap H locs → lv_has ls 5 [(0, .ref (a0 0)), (1, .int x1), (2, .int x2), (3, .int x3), (4, .int x4)] → (∀ (y2 : Int32), y2 = ex → ∀ (H : Heap) (locs : List Loc) (ls : Array Slot), va_P (dC, dI) vwCl (wM tc a0 g0) H → va_S A s.heap H locs → lv_has ls 5 [(2, .int y2)] → W pr l e rm_X12_runOf s m args below meth c H locs 0 0 Q (F0 m 50 ls [])) → W pr l e rm_X12_runOf s m args below meth c H locs 0 0 Q (F0 m 7 ls []) := by
    intro x1 n
    induction n with
    | zero => intro x2 x3 x4 ex h; exact lp_z h
    | succ n ih =>
      intro x2 x3 x4 ex h H locs ls hP hS hl K
      have h := lp_s h
      refine lv_iload X.1 X.2.1 dX12_runOf_7 (lv_at hl 4 rfl) ?_
      refine lv_aload_n X.1 X.2.1 dX12_runOf_9 rfl (lv_at hl 0 rfl) ?_
      refine r_get (C := RX12) (T := TX12) (N := 28) (ci := 12) (v := .ref (a0 2)) X iw12 hP 0 rfl rfl 1 rfl mw_7_121 rfl dX12_runOf_10 ?_
      refine lv_bipush (v := 6) X.1 X.2.1 dX12_runOf_13 (by decide) ?_
      refine r_iald X hP 1 0 rfl rfl (j := 6) (by unfold vp_in; decide) (by decide) dX12_runOf_15 ?_
      refine lv_icmp_ge (tgt := 50) X.1 X.2.1 dX12_runOf_16 (by decide) (fun hc => ?_) (fun hc => ?_)
      · have h := it_t hc h
        exact K x2 (Option.some.inj h) H locs ls hP hS (lv_sub hl [2] rfl)
      · have h := it_f hc h
        refine lv_aload_n X.1 X.2.1 dX12_runOf_19 rfl (lv_at hl 0 rfl) ?_
        refine lv_iload_n X.1 X.2.1 dX12_runOf_20 rfl (lv_at hl 1 rfl) ?_
        refine lv_iload X.1 X.2.1 dX12_runOf_21 (lv_at hl 4 rfl) ?_
        obtain ⟨r_1, hc_1, h⟩ := bd_el h
        refine call_V1i (As := [.int x1, .int x4]) (rest := []) X (c_X12_onPage l dC dI sk sv tc a0 g0 x1 x4 hc_1) mw_8_230 mw_8_232 mp_4_12 mw_1_12 mw_8_233 dc_X12_onPage ⟨Nat.le_of_ble_eq_true rfl, Nat.le_of_ble_eq_true rfl⟩ rfl rfl ⟨Nat.zero_le _, Nat.zero_le _⟩ hP (hD _) hS 0 rfl rfl rfl hl.1 (Nat.le_of_ble_eq_true rfl) dX12_runOf_23 (fun H locs hP hS => ?_)
        refine lv_iconst (v := 1) X.1 X.2.1 dX12_runOf_26 (by decide) ?_
        obtain ⟨J37, eJ37, h⟩ := jn_el h
        have HJ37 : ∀ (s0_J37 : Int32) (H : Heap) (locs : List Loc) (ls : Array Slot), J37 s0_J37 = some ex → va_P (dC, dI) vwCl (wM tc a0 g0) H → va_S A s.heap H locs → lv_has ls 5 [(0, .ref (a0 0)), (1, .int x1), (2, .int x2), (4, .int x4)] → W pr l e rm_X12_runOf s m args below meth c H locs 0 0 Q (F0 m 37 ls [.int s0_J37]) := by
          intro s0_J37 H locs ls h hP hS hl
          rw [eJ37] at h
          refine lv_istore_n (lv' := [(3, .int s0_J37), (0, .ref (a0 0)), (1, .int x1), (2, .int x2), (4, .int x4)]) X.1 X.2.1 dX12_runOf_37 rfl hl (by decide) rfl (fun ls hl => ?_)
          refine lv_iload_n X.1 X.2.1 dX12_runOf_38 rfl (lv_at hl 3 rfl) ?_
          refine lv_iload_n X.1 X.2.1 dX12_runOf_39 rfl (lv_at hl 0 rfl) ?_
          obtain ⟨r_2, hc_2, h⟩ := bd_el h
          refine call_S0i (As := [.int x2, .int s0_J37]) (rest := []) X (c_X12_greater l dC dI sk sv tc x2 s0_J37 hc_2) mw_8_219 mw_8_220 mw_1_12 mw_8_221 dc_X12_greater ⟨Nat.le_of_ble_eq_true rfl, Nat.le_of_ble_eq_true rfl⟩ rfl rfl ⟨Nat.zero_le _, Nat.zero_le _⟩ hP (hD _) hS hl.1 (Nat.le_of_ble_eq_true rfl) dX12_runOf_40 (fun H locs hP hS => ?_)
          refine lv_istore_n (lv' := [(2, .int r_2), (3, .int s0_J37), (0, .ref (a0 0)), (1, .int x1), (4, .int x4)]) X.1 X.2.1 dX12_runOf_43 rfl hl (by decide) rfl (fun ls hl => ?_)
          obtain ⟨x4_3, ex4_3, h⟩ := nm_el h
          refine lv_iinc (v := x4_3) (lv' := [(4, .int x4_3), (2, .int r_2), (3, .int s0_J37), (0, .ref (a0 0)), (1, .int x1)]) X.1 X.2.1 dX12_runOf_44 hl (k := 4) rfl (by rw [ex4_3]; rfl) (by decide) rfl (fun ls hl => ?_)
          refine lv_goto (tgt := 7) X.1 X.2.1 dX12_runOf_47 (by decide) ?_
          exact ih r_2 s0_J37 x4_3 ex h H locs ls hP hS (lv_sub hl [3, 4, 1, 2, 0] rfl) K
        refine lv_icmp_ne (tgt := 36) X.1 X.2.1 dX12_runOf_27 (by decide) (fun hc => ?_) (fun hc => ?_)
        · have h := it_f hc h
          refine lv_iconst (v := 0) X.1 X.2.1 dX12_runOf_36 (by decide) ?_
          exact HJ37 0 H locs ls h hP hS (lv_sub hl [0, 1, 2, 4] rfl)
        · have h := it_t hc h
          refine lv_iload_n X.1 X.2.1 dX12_runOf_30 rfl (lv_at hl 3 rfl) ?_
          refine lv_iconst (v := 1) X.1 X.2.1 dX12_runOf_31 (by decide) ?_
          refine lv_iadd X.1 X.2.1 dX12_runOf_32 ?_
          refine lv_goto (tgt := 37) X.1 X.2.1 dX12_runOf_33 (by decide) ?_
          exact HJ37 (x3 + 1) H locs ls h hP hS (lv_sub hl [0, 1, 2, 4] rfl)
  unfold f_X12_runOf at h
  refine lv_iconst (v := 0) X.1 X.2.1 dX12_runOf_0 (by decide) ?_
  refine lv_istore_n (lv' := [(2, .int 0), (0, .ref (a0 0)), (1, .int x1)]) X.1 X.2.1 dX12_runOf_1 rfl hl (by decide) rfl (fun ls hl => ?_)
  refine lv_iconst (v := 0) X.1 X.2.1 dX12_runOf_2 (by decide) ?_
  refine lv_istore_n (lv' := [(3, .int 0), (2, .int 0), (0, .ref (a0 0)), (1, .int x1)]) X.1 X.2.1 dX12_runOf_3 rfl hl (by decide) rfl (fun ls hl => ?_)
  refine lv_iconst (v := 0) X.1 X.2.1 dX12_runOf_4 (by decide) ?_
  refine lv_istore (lv' := [(4, .int 0), (3, .int 0), (2, .int 0), (0, .ref (a0 0)), (1, .int x1)]) X.1 X.2.1 dX12_runOf_5 hl (by decide) rfl (fun ls hl => ?_)
  obtain ⟨ex_4, hL_4, h⟩ := bd_el h
  refine HL7 x1 fu 0 0 0 ex_4 hL_4 H locs ls hP hS (lv_sub hl [3, 4, 2, 1, 0] rfl) (fun x2_4 he H locs ls hP hS hl => ?_)
  subst he
  refine lv_iload_n X.1 X.2.1 dX12_runOf_50 rfl (lv_at hl 0 rfl) ?_
  exact ret_i0 (Option.some.inj h) X hQ hP hS dX12_runOf_51

def f_X12_trueOf_L4 (x1 : Int32) (g0 : Pic) (n : Nat) (a : Int32 × Int32) : Option (Int32) := lp (fun (rec : Int32 × Int32 → Option (Int32)) (a : Int32 × Int32) => match a with | (x2, x3) => (if (g0 1 6) ≤ x3 then some x2 else bd (f_X12_onPage g0 x1 x3) (fun r_1 => jn (fun (s0_J62 : Int32) (s1_J62 : Int32) => nm ((s0_J62 + s1_J62)) (fun x2_2 => nm (x3 + 1) (fun x3_3 => rec (x2_2, x3_3)))) (fun J62 => jn (fun (s0_J61 : Int32) => J62 s0_J61 0) (fun J61 => (if r_1 = 1 then gdi (76 + x3) 856 (bd (f_X12_of g0 x1 0) (fun r_5 => bd (f_X12_readBy g0 (g0 1 ((76 + x3).toNatClampNeg)) r_5) (fun r_6 => gdi (76 + x3) 856 ((if r_6 = (g0 1 ((76 + x3).toNatClampNeg)) then J62 x2 1 else J61 x2))))) else J61 x2)))))) n a
def f_X12_trueOf (g0 : Pic) (x1 : Int32) : Option (Int32) := bd (f_X12_trueOf_L4 x1 g0 fu (0, 0)) (fun x2_8 => some x2_8)
abbrev rm_X12_trueOf : Room := { frames := 4, cells := 0, slots := 0, locals := 95 }
set_option maxHeartbeats 4000000 in
set_option maxRecDepth 100000 in
theorem c_X12_trueOf (l : Launch) (dC : Nat → ClassId) (dI : Nat → Nat → Nat) (sk sv : Nat → Nat) (tc : Nat → ClassId) (a0 : Nat → Nat) (g0 : Pic) (x1 : Int32) {r0 : Int32} (h : f_X12_trueOf g0 x1 = some r0) : CT l (dC, dI) sk sv (TY tc) yX12_trueOf cX12_trueOf 4 (some .int) rm_X12_trueOf [.ref (a0 0), .int x1] (wM tc a0 g0) (some (.int r0)) (wM tc a0 g0) := by
  refine ofCT (by decide) (Nat.le_of_ble_eq_true rfl) ?_
  intro pr e s m args below meth c A Q ls H locs X hQ hD0 hP hS hl
  have hD : ∀ z0, va_D A (wM tc a0 z0) := fun z0 => D_fst (ws := (wM tc a0 g0)) rfl hD0
  have hl : lv_has ls 4 [(0, .ref (a0 0)), (1, .int x1)] := hl
  have HL4 : ∀ (x1 : Int32) (n : Nat) (x2 : Int32) (x3 : Int32) (ex : (Int32)), f_X12_trueOf_L4 x1 g0 n (x2, x3) = some ex → ∀ (H : Heap) (locs : List Loc) (ls : Array Slot), va_P (dC, dI) vwCl (wM tc a0 g0) H → va_S A s.heap H locs → lv_has ls 4 [(0, .ref (a0 0)), (1, .int x1), (2, .int x2), (3, .int x3)] → (∀ (y2 : Int32), y2 = ex → ∀ (H : Heap) (locs : List Loc) (ls : Array Slot), va_P (dC, dI) vwCl (wM tc a0 g0) H → va_S A s.heap H locs → lv_has ls 4 [(2, .int y2)] → W pr l e rm_X12_trueOf s m args below meth c H locs 0 0 Q (F0 m 70 ls [])) → W pr l e rm_X12_trueOf s m args below meth c H locs 0 0 Q (F0 m 4 ls []) := by
    intro x1 n
    induction n with
    | zero => intro x2 x3 ex h; exact lp_z h
    | succ n ih =>
      intro x2 x3 ex h H locs ls hP hS hl K
      have h := lp_s h
      refine lv_iload_n X.1 X.2.1 dX12_trueOf_4 rfl (lv_at hl 3 rfl) ?_
      refine lv_aload_n X.1 X.2.1 dX12_trueOf_5 rfl (lv_at hl 0 rfl) ?_
      refine r_get (C := RX12) (T := TX12) (N := 28) (ci := 12) (v := .ref (a0 2)) X iw12 hP 0 rfl rfl 1 rfl mw_7_121 rfl dX12_trueOf_6 ?_
      refine lv_bipush (v := 6) X.1 X.2.1 dX12_trueOf_9 (by decide) ?_
      refine r_iald X hP 1 0 rfl rfl (j := 6) (by unfold vp_in; decide) (by decide) dX12_trueOf_11 ?_
      refine lv_icmp_ge (tgt := 70) X.1 X.2.1 dX12_trueOf_12 (by decide) (fun hc => ?_) (fun hc => ?_)
      · have h := it_t hc h
        exact K x2 (Option.some.inj h) H locs ls hP hS (lv_sub hl [2] rfl)
      · have h := it_f hc h
        refine lv_iload_n X.1 X.2.1 dX12_trueOf_15 rfl (lv_at hl 2 rfl) ?_
        refine lv_aload_n X.1 X.2.1 dX12_trueOf_16 rfl (lv_at hl 0 rfl) ?_
        refine lv_iload_n X.1 X.2.1 dX12_trueOf_17 rfl (lv_at hl 1 rfl) ?_
        refine lv_iload_n X.1 X.2.1 dX12_trueOf_18 rfl (lv_at hl 3 rfl) ?_
        obtain ⟨r_1, hc_1, h⟩ := bd_el h
        refine call_V1i (As := [.int x1, .int x3]) (rest := [.int x2]) X (c_X12_onPage l dC dI sk sv tc a0 g0 x1 x3 hc_1) mw_8_230 mw_8_232 mp_4_12 mw_1_12 mw_8_233 dc_X12_onPage ⟨Nat.le_of_ble_eq_true rfl, Nat.le_of_ble_eq_true rfl⟩ rfl rfl ⟨Nat.zero_le _, Nat.zero_le _⟩ hP (hD _) hS 0 rfl rfl rfl hl.1 (Nat.le_of_ble_eq_true rfl) dX12_trueOf_19 (fun H locs hP hS => ?_)
        refine lv_iconst (v := 1) X.1 X.2.1 dX12_trueOf_22 (by decide) ?_
        obtain ⟨J62, eJ62, h⟩ := jn_el h
        have HJ62 : ∀ (s0_J62 : Int32) (s1_J62 : Int32) (H : Heap) (locs : List Loc) (ls : Array Slot), J62 s0_J62 s1_J62 = some ex → va_P (dC, dI) vwCl (wM tc a0 g0) H → va_S A s.heap H locs → lv_has ls 4 [(0, .ref (a0 0)), (1, .int x1), (3, .int x3)] → W pr l e rm_X12_trueOf s m args below meth c H locs 0 0 Q (F0 m 62 ls [.int s1_J62, .int s0_J62]) := by
          intro s0_J62 s1_J62 H locs ls h hP hS hl
          rw [eJ62] at h
          refine lv_iadd X.1 X.2.1 dX12_trueOf_62 ?_
          obtain ⟨x2_2, ex2_2, h⟩ := nm_el h
          refine tp_i ex2_2 ?_
          refine lv_istore_n (lv' := [(2, .int x2_2), (0, .ref (a0 0)), (1, .int x1), (3, .int x3)]) X.1 X.2.1 dX12_trueOf_63 rfl hl (by decide) rfl (fun ls hl => ?_)
          obtain ⟨x3_3, ex3_3, h⟩ := nm_el h
          refine lv_iinc (v := x3_3) (lv' := [(3, .int x3_3), (2, .int x2_2), (0, .ref (a0 0)), (1, .int x1)]) X.1 X.2.1 dX12_trueOf_64 hl (k := 3) rfl (by rw [ex3_3]; rfl) (by decide) rfl (fun ls hl => ?_)
          refine lv_goto (tgt := 4) X.1 X.2.1 dX12_trueOf_67 (by decide) ?_
          exact ih x2_2 x3_3 ex h H locs ls hP hS (lv_sub hl [2, 3, 1, 0] rfl) K
        obtain ⟨J61, eJ61, h⟩ := jn_el h
        have HJ61 : ∀ (s0_J61 : Int32) (H : Heap) (locs : List Loc) (ls : Array Slot), J61 s0_J61 = some ex → va_P (dC, dI) vwCl (wM tc a0 g0) H → va_S A s.heap H locs → lv_has ls 4 [(0, .ref (a0 0)), (1, .int x1), (3, .int x3)] → W pr l e rm_X12_trueOf s m args below meth c H locs 0 0 Q (F0 m 61 ls [.int s0_J61]) := by
          intro s0_J61 H locs ls h hP hS hl
          rw [eJ61] at h
          refine lv_iconst (v := 0) X.1 X.2.1 dX12_trueOf_61 (by decide) ?_
          exact HJ62 s0_J61 0 H locs ls h hP hS (lv_sub hl [0, 1, 2] rfl)
        refine lv_icmp_ne (tgt := 61) X.1 X.2.1 dX12_trueOf_23 (by decide) (fun hc => ?_) (fun hc => ?_)
        · have h := it_f hc h
          exact HJ61 x2 H locs ls h hP hS (lv_sub hl [0, 1, 3] rfl)
        · have h := it_t hc h
          refine lv_aload_n X.1 X.2.1 dX12_trueOf_26 rfl (lv_at hl 0 rfl) ?_
          refine lv_aload_n X.1 X.2.1 dX12_trueOf_27 rfl (lv_at hl 0 rfl) ?_
          refine r_get (C := RX12) (T := TX12) (N := 28) (ci := 12) (v := .ref (a0 2)) X iw12 hP 0 rfl rfl 1 rfl mw_7_121 rfl dX12_trueOf_28 ?_
          refine lv_bipush (v := 76) X.1 X.2.1 dX12_trueOf_31 (by decide) ?_
          refine lv_iload_n X.1 X.2.1 dX12_trueOf_33 rfl (lv_at hl 3 rfl) ?_
          refine lv_iadd X.1 X.2.1 dX12_trueOf_34 ?_
          obtain ⟨hg_4, h⟩ := gdi_el h
          refine r_iald X hP 1 0 rfl rfl hg_4 rfl dX12_trueOf_35 ?_
          refine lv_aload_n X.1 X.2.1 dX12_trueOf_36 rfl (lv_at hl 0 rfl) ?_
          refine lv_iload_n X.1 X.2.1 dX12_trueOf_37 rfl (lv_at hl 1 rfl) ?_
          refine lv_iconst (v := 0) X.1 X.2.1 dX12_trueOf_38 (by decide) ?_
          obtain ⟨r_5, hc_5, h⟩ := bd_el h
          refine call_V1i (As := [.int x1, .int 0]) (rest := [.int (g0 1 ((76 + x3).toNatClampNeg)), .ref (a0 0), .int x2]) X (c_X12_of l dC dI sk sv tc a0 g0 x1 0 hc_5) mw_8_180 mw_8_182 mp_4_1 mw_1_12 mw_8_183 dc_X12_of ⟨Nat.le_of_ble_eq_true rfl, Nat.le_of_ble_eq_true rfl⟩ rfl rfl ⟨Nat.zero_le _, Nat.zero_le _⟩ hP (hD _) hS 0 rfl rfl rfl hl.1 (Nat.le_of_ble_eq_true rfl) dX12_trueOf_39 (fun H locs hP hS => ?_)
          obtain ⟨r_6, hc_6, h⟩ := bd_el h
          refine call_V1i (As := [.int (g0 1 ((76 + x3).toNatClampNeg)), .int r_5]) (rest := [.int x2]) X (c_X12_readBy l dC dI sk sv tc a0 g0 (g0 1 ((76 + x3).toNatClampNeg)) r_5 hc_6) mw_8_199 mw_8_201 mp_4_5 mw_1_12 mw_8_202 dc_X12_readBy ⟨Nat.le_of_ble_eq_true rfl, Nat.le_of_ble_eq_true rfl⟩ rfl rfl ⟨Nat.zero_le _, Nat.zero_le _⟩ hP (hD _) hS 0 rfl rfl rfl hl.1 (Nat.le_of_ble_eq_true rfl) dX12_trueOf_42 (fun H locs hP hS => ?_)
          refine lv_aload_n X.1 X.2.1 dX12_trueOf_45 rfl (lv_at hl 0 rfl) ?_
          refine r_get (C := RX12) (T := TX12) (N := 28) (ci := 12) (v := .ref (a0 2)) X iw12 hP 0 rfl rfl 1 rfl mw_7_121 rfl dX12_trueOf_46 ?_
          refine lv_bipush (v := 76) X.1 X.2.1 dX12_trueOf_49 (by decide) ?_
          refine lv_iload_n X.1 X.2.1 dX12_trueOf_51 rfl (lv_at hl 3 rfl) ?_
          refine lv_iadd X.1 X.2.1 dX12_trueOf_52 ?_
          obtain ⟨hg_7, h⟩ := gdi_el h
          refine r_iald X hP 1 0 rfl rfl hg_7 rfl dX12_trueOf_53 ?_
          refine lv_icmp_ne (tgt := 61) X.1 X.2.1 dX12_trueOf_54 (by decide) (fun hc => ?_) (fun hc => ?_)
          · have h := it_f hc h
            exact HJ61 x2 H locs ls h hP hS (lv_sub hl [0, 1, 3] rfl)
          · have h := it_t hc h
            refine lv_iconst (v := 1) X.1 X.2.1 dX12_trueOf_57 (by decide) ?_
            refine lv_goto (tgt := 62) X.1 X.2.1 dX12_trueOf_58 (by decide) ?_
            exact HJ62 x2 1 H locs ls h hP hS (lv_sub hl [0, 1, 3] rfl)
  unfold f_X12_trueOf at h
  refine lv_iconst (v := 0) X.1 X.2.1 dX12_trueOf_0 (by decide) ?_
  refine lv_istore_n (lv' := [(2, .int 0), (0, .ref (a0 0)), (1, .int x1)]) X.1 X.2.1 dX12_trueOf_1 rfl hl (by decide) rfl (fun ls hl => ?_)
  refine lv_iconst (v := 0) X.1 X.2.1 dX12_trueOf_2 (by decide) ?_
  refine lv_istore_n (lv' := [(3, .int 0), (2, .int 0), (0, .ref (a0 0)), (1, .int x1)]) X.1 X.2.1 dX12_trueOf_3 rfl hl (by decide) rfl (fun ls hl => ?_)
  obtain ⟨ex_8, hL_8, h⟩ := bd_el h
  refine HL4 x1 fu 0 0 ex_8 hL_8 H locs ls hP hS (lv_sub hl [2, 3, 1, 0] rfl) (fun x2_8 he H locs ls hP hS hl => ?_)
  subst he
  refine lv_iload_n X.1 X.2.1 dX12_trueOf_70 rfl (lv_at hl 0 rfl) ?_
  exact ret_i0 (Option.some.inj h) X hQ hP hS dX12_trueOf_71

def f_X12_writer (g0 : Pic) (x1 : Int32) (x2 : Int32) : Option (Int32 × Pic) := bd (f_X12_isWriter g0 x1) (fun r_1 => jn (fun (s1_J28 : Int32) => nm (pu g0 0 0 s1_J28) (fun g0_2 => (if (g0_2 0 0) ≤ 0 then (if 4 ≤ x2 then (if x2 = 4 then bd (f_X12_cleanOf g0_2 x1) (fun r_16 => some (r_16, g0_2)) else (if x2 = 5 then bd (f_X12_of g0_2 x1 0) (fun r_14 => bd (f_X12_lostBy g0_2 r_14) (fun r_15 => some (r_15, g0_2))) else (if x2 = 6 then bd (f_X12_of g0_2 x1 0) (fun r_12 => bd (f_X12_savesBy g0_2 r_12) (fun r_13 => some (r_13, g0_2))) else (if 9 ≤ x2 then (if x2 = 9 then bd (f_X12_edgeOf g0_2 x1) (fun r_10 => some (r_10, g0_2)) else (if x2 = 10 then bd (f_X12_runOf g0_2 x1) (fun r_9 => some (r_9, g0_2)) else (if x2 = 11 then bd (f_X12_paged g0_2 x1 1) (fun r_8 => some (((g0_2 1 6) - r_8), g0_2)) else (if x2 = 12 then bd (f_X12_trueOf g0_2 x1) (fun r_7 => some (r_7, g0_2)) else bd (f_X12_pagedOfAll g0_2 1) (fun r_3 => jn (fun (s0_J210 : Int32) => some (s0_J210, g0_2)) (fun J210 => (if r_3 = 0 then J210 0 else bd (f_X12_paged g0_2 x1 1) (fun r_4 => bd (f_X12_pagedOfAll g0_2 1) (fun r_5 => gdz r_5 (J210 ((100 * r_4) / r_5))))))))))) else jn (fun (s1_J122 : Int32) (s2_J122 : Int32) (s3_J122 : Int32) => bd (f_X12_times g0_2 s1_J122 s2_J122 s3_J122) (fun r_11 => some (r_11, g0_2))) (fun J122 => (if x2 = 7 then J122 x1 (g0_2 1 7) 1 else J122 x1 (g0_2 1 7) 0)))))) else bd (f_X12_of g0_2 x1 x2) (fun r_17 => some (r_17, g0_2))) else some (0, g0_2)))) (fun J28 => (if r_1 = 0 then J28 1 else bd (f_X12_isIn x2 0 13) (fun r_18 => (if r_18 = 0 then J28 2 else J28 0)))))
abbrev rm_X12_writer : Room := { frames := 5, cells := 0, slots := 0, locals := 118 }
set_option maxHeartbeats 4000000 in
set_option maxRecDepth 100000 in
theorem c_X12_writer (l : Launch) (dC : Nat → ClassId) (dI : Nat → Nat → Nat) (sk sv : Nat → Nat) (tc : Nat → ClassId) (a0 : Nat → Nat) (g0 : Pic) (x1 : Int32) (x2 : Int32) {r0 : Int32} {G0 : Pic} (h : f_X12_writer g0 x1 x2 = some (r0, G0)) : CT l (dC, dI) sk sv (TY tc) yX12_writer cX12_writer 3 (some .int) rm_X12_writer [.ref (a0 0), .int x1, .int x2] (wM tc a0 g0) (some (.int r0)) (wM tc a0 G0) := by
  refine ofCT (by decide) (Nat.le_of_ble_eq_true rfl) ?_
  intro pr e s m args below meth c A Q ls H locs X hQ hD0 hP hS hl
  have hD : ∀ z0, va_D A (wM tc a0 z0) := fun z0 => D_fst (ws := (wM tc a0 g0)) rfl hD0
  have hl : lv_has ls 3 [(0, .ref (a0 0)), (1, .int x1), (2, .int x2)] := hl
  unfold f_X12_writer at h
  refine lv_aload_n X.1 X.2.1 dX12_writer_0 rfl (lv_at hl 0 rfl) ?_
  refine lv_aload_n X.1 X.2.1 dX12_writer_1 rfl (lv_at hl 0 rfl) ?_
  refine lv_iload_n X.1 X.2.1 dX12_writer_2 rfl (lv_at hl 1 rfl) ?_
  obtain ⟨r_1, hc_1, h⟩ := bd_el h
  refine call_V1i (As := [.int x1]) (rest := [.ref (a0 0)]) X (c_X12_isWriter l dC dI sk sv tc a0 g0 x1 hc_1) mw_8_176 mw_8_178 mp_4_0 mw_1_12 mw_8_179 dc_X12_isWriter ⟨Nat.le_of_ble_eq_true rfl, Nat.le_of_ble_eq_true rfl⟩ rfl rfl ⟨Nat.zero_le _, Nat.zero_le _⟩ hP (hD _) hS 0 rfl rfl rfl hl.1 (Nat.le_of_ble_eq_true rfl) dX12_writer_3 (fun H locs hP hS => ?_)
  obtain ⟨J28, eJ28, h⟩ := jn_el h
  have HJ28 : ∀ (s1_J28 : Int32) (H : Heap) (locs : List Loc) (ls : Array Slot), J28 s1_J28 = some (r0, G0) → va_P (dC, dI) vwCl (wM tc a0 g0) H → va_S A s.heap H locs → lv_has ls 3 [(0, .ref (a0 0)), (1, .int x1), (2, .int x2)] → W pr l e rm_X12_writer s m args below meth c H locs 0 0 Q (F0 m 28 ls [.int s1_J28, .ref (a0 0)]) := by
    intro s1_J28 H locs ls h hP hS hl
    rw [eJ28] at h
    obtain ⟨g0_2, eg0_2, h⟩ := nm_el h
    refine r_put (C := RX12) (T := TX12) (N := 28) (ci := 12) tyX12 tyX12_ok nmX12 X iw12 hP (hD _) hS 0 rfl rfl 0 rfl mw_7_120 rfl rfl rfl rfl dX12_writer_28 (wM tc a0 g0_2) (by rw [eg0_2]; rfl) (fun H locs hP hS => ?_)
    refine lv_aload_n X.1 X.2.1 dX12_writer_31 rfl (lv_at hl 0 rfl) ?_
    refine r_get (C := RX12) (T := TX12) (N := 28) (ci := 12) (v := .int (g0_2 0 0)) X iw12 hP 0 rfl rfl 0 rfl mw_7_120 rfl dX12_writer_32 ?_
    refine lv_if_le (tgt := 40) X.1 X.2.1 dX12_writer_35 (by decide) (fun hc => ?_) (fun hc => ?_)
    · have h := it_t hc h
      refine lv_iload_n X.1 X.2.1 dX12_writer_40 rfl (lv_at hl 2 rfl) ?_
      refine lv_iconst (v := 4) X.1 X.2.1 dX12_writer_41 (by decide) ?_
      refine lv_icmp_ge (tgt := 52) X.1 X.2.1 dX12_writer_42 (by decide) (fun hc => ?_) (fun hc => ?_)
      · have h := it_t hc h
        refine lv_iload_n X.1 X.2.1 dX12_writer_52 rfl (lv_at hl 2 rfl) ?_
        refine lv_iconst (v := 4) X.1 X.2.1 dX12_writer_53 (by decide) ?_
        refine lv_icmp_ne (tgt := 63) X.1 X.2.1 dX12_writer_54 (by decide) (fun hc => ?_) (fun hc => ?_)
        · have h := it_f hc h
          refine lv_iload_n X.1 X.2.1 dX12_writer_63 rfl (lv_at hl 2 rfl) ?_
          refine lv_iconst (v := 5) X.1 X.2.1 dX12_writer_64 (by decide) ?_
          refine lv_icmp_ne (tgt := 79) X.1 X.2.1 dX12_writer_65 (by decide) (fun hc => ?_) (fun hc => ?_)
          · have h := it_f hc h
            refine lv_iload_n X.1 X.2.1 dX12_writer_79 rfl (lv_at hl 2 rfl) ?_
            refine lv_bipush (v := 6) X.1 X.2.1 dX12_writer_80 (by decide) ?_
            refine lv_icmp_ne (tgt := 96) X.1 X.2.1 dX12_writer_82 (by decide) (fun hc => ?_) (fun hc => ?_)
            · have h := it_f hc h
              refine lv_iload_n X.1 X.2.1 dX12_writer_96 rfl (lv_at hl 2 rfl) ?_
              refine lv_bipush (v := 9) X.1 X.2.1 dX12_writer_97 (by decide) ?_
              refine lv_icmp_ge (tgt := 126) X.1 X.2.1 dX12_writer_99 (by decide) (fun hc => ?_) (fun hc => ?_)
              · have h := it_t hc h
                refine lv_iload_n X.1 X.2.1 dX12_writer_126 rfl (lv_at hl 2 rfl) ?_
                refine lv_bipush (v := 9) X.1 X.2.1 dX12_writer_127 (by decide) ?_
                refine lv_icmp_ne (tgt := 138) X.1 X.2.1 dX12_writer_129 (by decide) (fun hc => ?_) (fun hc => ?_)
                · have h := it_f hc h
                  refine lv_iload_n X.1 X.2.1 dX12_writer_138 rfl (lv_at hl 2 rfl) ?_
                  refine lv_bipush (v := 10) X.1 X.2.1 dX12_writer_139 (by decide) ?_
                  refine lv_icmp_ne (tgt := 150) X.1 X.2.1 dX12_writer_141 (by decide) (fun hc => ?_) (fun hc => ?_)
                  · have h := it_f hc h
                    refine lv_iload_n X.1 X.2.1 dX12_writer_150 rfl (lv_at hl 2 rfl) ?_
                    refine lv_bipush (v := 11) X.1 X.2.1 dX12_writer_151 (by decide) ?_
                    refine lv_icmp_ne (tgt := 171) X.1 X.2.1 dX12_writer_153 (by decide) (fun hc => ?_) (fun hc => ?_)
                    · have h := it_f hc h
                      refine lv_iload_n X.1 X.2.1 dX12_writer_171 rfl (lv_at hl 2 rfl) ?_
                      refine lv_bipush (v := 12) X.1 X.2.1 dX12_writer_172 (by decide) ?_
                      refine lv_icmp_ne (tgt := 183) X.1 X.2.1 dX12_writer_174 (by decide) (fun hc => ?_) (fun hc => ?_)
                      · have h := it_f hc h
                        refine lv_aload_n X.1 X.2.1 dX12_writer_183 rfl (lv_at hl 0 rfl) ?_
                        refine lv_iconst (v := 1) X.1 X.2.1 dX12_writer_184 (by decide) ?_
                        obtain ⟨r_3, hc_3, h⟩ := bd_el h
                        refine call_V1i (As := [.int 1]) (rest := []) X (c_X12_pagedOfAll l dC dI sk sv tc a0 g0_2 1 hc_3) mw_9_2 mw_9_4 mp_4_15 mw_1_12 mw_9_5 dc_X12_pagedOfAll ⟨Nat.le_of_ble_eq_true rfl, Nat.le_of_ble_eq_true rfl⟩ rfl rfl ⟨Nat.zero_le _, Nat.zero_le _⟩ hP (hD _) hS 0 rfl rfl rfl hl.1 (Nat.le_of_ble_eq_true rfl) dX12_writer_185 (fun H locs hP hS => ?_)
                        obtain ⟨J210, eJ210, h⟩ := jn_el h
                        have HJ210 : ∀ (s0_J210 : Int32) (H : Heap) (locs : List Loc) (ls : Array Slot), J210 s0_J210 = some (r0, G0) → va_P (dC, dI) vwCl (wM tc a0 g0_2) H → va_S A s.heap H locs → lv_has ls 3 [] → W pr l e rm_X12_writer s m args below meth c H locs 0 0 Q (F0 m 210 ls [.int s0_J210]) := by
                          intro s0_J210 H locs ls h hP hS hl
                          rw [eJ210] at h
                          exact ret_i (fun u => (wM tc a0 u)) (res := (r0, G0)) (Option.some.inj h) X hQ hP hS dX12_writer_210
                        refine lv_if_ne (tgt := 195) X.1 X.2.1 dX12_writer_188 (by decide) (fun hc => ?_) (fun hc => ?_)
                        · have h := it_f hc h
                          refine lv_bipush (v := 100) X.1 X.2.1 dX12_writer_195 (by decide) ?_
                          refine lv_aload_n X.1 X.2.1 dX12_writer_197 rfl (lv_at hl 0 rfl) ?_
                          refine lv_iload_n X.1 X.2.1 dX12_writer_198 rfl (lv_at hl 1 rfl) ?_
                          refine lv_iconst (v := 1) X.1 X.2.1 dX12_writer_199 (by decide) ?_
                          obtain ⟨r_4, hc_4, h⟩ := bd_el h
                          refine call_V1i (As := [.int x1, .int 1]) (rest := [.int 100]) X (c_X12_paged l dC dI sk sv tc a0 g0_2 x1 1 hc_4) mw_8_234 mw_8_236 mp_4_13 mw_1_12 mw_8_237 dc_X12_paged ⟨Nat.le_of_ble_eq_true rfl, Nat.le_of_ble_eq_true rfl⟩ rfl rfl ⟨Nat.zero_le _, Nat.zero_le _⟩ hP (hD _) hS 0 rfl rfl rfl hl.1 (Nat.le_of_ble_eq_true rfl) dX12_writer_200 (fun H locs hP hS => ?_)
                          refine lv_imul X.1 X.2.1 dX12_writer_203 ?_
                          refine lv_aload_n X.1 X.2.1 dX12_writer_204 rfl (lv_at hl 0 rfl) ?_
                          refine lv_iconst (v := 1) X.1 X.2.1 dX12_writer_205 (by decide) ?_
                          obtain ⟨r_5, hc_5, h⟩ := bd_el h
                          refine call_V1i (As := [.int 1]) (rest := [.int (100 * r_4)]) X (c_X12_pagedOfAll l dC dI sk sv tc a0 g0_2 1 hc_5) mw_9_2 mw_9_4 mp_4_15 mw_1_12 mw_9_5 dc_X12_pagedOfAll ⟨Nat.le_of_ble_eq_true rfl, Nat.le_of_ble_eq_true rfl⟩ rfl rfl ⟨Nat.zero_le _, Nat.zero_le _⟩ hP (hD _) hS 0 rfl rfl rfl hl.1 (Nat.le_of_ble_eq_true rfl) dX12_writer_206 (fun H locs hP hS => ?_)
                          obtain ⟨hg_6, h⟩ := gdz_el h
                          refine lv_idiv X.1 X.2.1 dX12_writer_209 hg_6 ?_
                          exact HJ210 ((100 * r_4) / r_5) H locs ls h hP hS (lv_sub hl [] rfl)
                        · have h := it_t hc h
                          refine lv_iconst (v := 0) X.1 X.2.1 dX12_writer_191 (by decide) ?_
                          refine lv_goto (tgt := 210) X.1 X.2.1 dX12_writer_192 (by decide) ?_
                          exact HJ210 0 H locs ls h hP hS (lv_sub hl [] rfl)
                      · have h := it_t hc h
                        refine lv_aload_n X.1 X.2.1 dX12_writer_177 rfl (lv_at hl 0 rfl) ?_
                        refine lv_iload_n X.1 X.2.1 dX12_writer_178 rfl (lv_at hl 1 rfl) ?_
                        obtain ⟨r_7, hc_7, h⟩ := bd_el h
                        refine call_V1i (As := [.int x1]) (rest := []) X (c_X12_trueOf l dC dI sk sv tc a0 g0_2 x1 hc_7) mw_8_238 mw_9_0 mp_4_14 mw_1_12 mw_9_1 dc_X12_trueOf ⟨Nat.le_of_ble_eq_true rfl, Nat.le_of_ble_eq_true rfl⟩ rfl rfl ⟨Nat.zero_le _, Nat.zero_le _⟩ hP (hD _) hS 0 rfl rfl rfl hl.1 (Nat.le_of_ble_eq_true rfl) dX12_writer_179 (fun H locs hP hS => ?_)
                        exact ret_i (fun u => (wM tc a0 u)) (res := (r0, G0)) (Option.some.inj h) X hQ hP hS dX12_writer_182
                    · have h := it_t hc h
                      refine lv_aload_n X.1 X.2.1 dX12_writer_156 rfl (lv_at hl 0 rfl) ?_
                      refine r_get (C := RX12) (T := TX12) (N := 28) (ci := 12) (v := .ref (a0 2)) X iw12 hP 0 rfl rfl 1 rfl mw_7_121 rfl dX12_writer_157 ?_
                      refine lv_bipush (v := 6) X.1 X.2.1 dX12_writer_160 (by decide) ?_
                      refine r_iald X hP 1 0 rfl rfl (j := 6) (by unfold vp_in; decide) (by decide) dX12_writer_162 ?_
                      refine lv_aload_n X.1 X.2.1 dX12_writer_163 rfl (lv_at hl 0 rfl) ?_
                      refine lv_iload_n X.1 X.2.1 dX12_writer_164 rfl (lv_at hl 1 rfl) ?_
                      refine lv_iconst (v := 1) X.1 X.2.1 dX12_writer_165 (by decide) ?_
                      obtain ⟨r_8, hc_8, h⟩ := bd_el h
                      refine call_V1i (As := [.int x1, .int 1]) (rest := [.int (g0_2 1 6)]) X (c_X12_paged l dC dI sk sv tc a0 g0_2 x1 1 hc_8) mw_8_234 mw_8_236 mp_4_13 mw_1_12 mw_8_237 dc_X12_paged ⟨Nat.le_of_ble_eq_true rfl, Nat.le_of_ble_eq_true rfl⟩ rfl rfl ⟨Nat.zero_le _, Nat.zero_le _⟩ hP (hD _) hS 0 rfl rfl rfl hl.1 (Nat.le_of_ble_eq_true rfl) dX12_writer_166 (fun H locs hP hS => ?_)
                      refine lv_isub X.1 X.2.1 dX12_writer_169 ?_
                      exact ret_i (fun u => (wM tc a0 u)) (res := (r0, G0)) (Option.some.inj h) X hQ hP hS dX12_writer_170
                  · have h := it_t hc h
                    refine lv_aload_n X.1 X.2.1 dX12_writer_144 rfl (lv_at hl 0 rfl) ?_
                    refine lv_iload_n X.1 X.2.1 dX12_writer_145 rfl (lv_at hl 1 rfl) ?_
                    obtain ⟨r_9, hc_9, h⟩ := bd_el h
                    refine call_V1i (As := [.int x1]) (rest := []) X (c_X12_runOf l dC dI sk sv tc a0 g0_2 x1 hc_9) mw_8_226 mw_8_228 mp_4_11 mw_1_12 mw_8_229 dc_X12_runOf ⟨Nat.le_of_ble_eq_true rfl, Nat.le_of_ble_eq_true rfl⟩ rfl rfl ⟨Nat.zero_le _, Nat.zero_le _⟩ hP (hD _) hS 0 rfl rfl rfl hl.1 (Nat.le_of_ble_eq_true rfl) dX12_writer_146 (fun H locs hP hS => ?_)
                    exact ret_i (fun u => (wM tc a0 u)) (res := (r0, G0)) (Option.some.inj h) X hQ hP hS dX12_writer_149
                · have h := it_t hc h
                  refine lv_aload_n X.1 X.2.1 dX12_writer_132 rfl (lv_at hl 0 rfl) ?_
                  refine lv_iload_n X.1 X.2.1 dX12_writer_133 rfl (lv_at hl 1 rfl) ?_
                  obtain ⟨r_10, hc_10, h⟩ := bd_el h
                  refine call_V1i (As := [.int x1]) (rest := []) X (c_X12_edgeOf l dC dI sk sv tc a0 g0_2 x1 hc_10) mw_8_222 mw_8_224 mp_4_10 mw_1_12 mw_8_225 dc_X12_edgeOf ⟨Nat.le_of_ble_eq_true rfl, Nat.le_of_ble_eq_true rfl⟩ rfl rfl ⟨Nat.zero_le _, Nat.zero_le _⟩ hP (hD _) hS 0 rfl rfl rfl hl.1 (Nat.le_of_ble_eq_true rfl) dX12_writer_134 (fun H locs hP hS => ?_)
                  exact ret_i (fun u => (wM tc a0 u)) (res := (r0, G0)) (Option.some.inj h) X hQ hP hS dX12_writer_137
              · have h := it_f hc h
                refine lv_aload_n X.1 X.2.1 dX12_writer_102 rfl (lv_at hl 0 rfl) ?_
                refine lv_iload_n X.1 X.2.1 dX12_writer_103 rfl (lv_at hl 1 rfl) ?_
                refine lv_aload_n X.1 X.2.1 dX12_writer_104 rfl (lv_at hl 0 rfl) ?_
                refine r_get (C := RX12) (T := TX12) (N := 28) (ci := 12) (v := .ref (a0 2)) X iw12 hP 0 rfl rfl 1 rfl mw_7_121 rfl dX12_writer_105 ?_
                refine lv_bipush (v := 7) X.1 X.2.1 dX12_writer_108 (by decide) ?_
                refine r_iald X hP 1 0 rfl rfl (j := 7) (by unfold vp_in; decide) (by decide) dX12_writer_110 ?_
                refine lv_iload_n X.1 X.2.1 dX12_writer_111 rfl (lv_at hl 2 rfl) ?_
                refine lv_bipush (v := 7) X.1 X.2.1 dX12_writer_112 (by decide) ?_
                obtain ⟨J122, eJ122, h⟩ := jn_el h
                have HJ122 : ∀ (s1_J122 : Int32) (s2_J122 : Int32) (s3_J122 : Int32) (H : Heap) (locs : List Loc) (ls : Array Slot), J122 s1_J122 s2_J122 s3_J122 = some (r0, G0) → va_P (dC, dI) vwCl (wM tc a0 g0_2) H → va_S A s.heap H locs → lv_has ls 3 [] → W pr l e rm_X12_writer s m args below meth c H locs 0 0 Q (F0 m 122 ls [.int s3_J122, .int s2_J122, .int s1_J122, .ref (a0 0)]) := by
                  intro s1_J122 s2_J122 s3_J122 H locs ls h hP hS hl
                  rw [eJ122] at h
                  obtain ⟨r_11, hc_11, h⟩ := bd_el h
                  refine call_V1i (As := [.int s1_J122, .int s2_J122, .int s3_J122]) (rest := []) X (c_X12_times l dC dI sk sv tc a0 g0_2 s1_J122 s2_J122 s3_J122 hc_11) mw_8_215 mw_8_217 mp_4_9 mw_1_12 mw_8_218 dc_X12_times ⟨Nat.le_of_ble_eq_true rfl, Nat.le_of_ble_eq_true rfl⟩ rfl rfl ⟨Nat.zero_le _, Nat.zero_le _⟩ hP (hD _) hS 0 rfl rfl rfl hl.1 (Nat.le_of_ble_eq_true rfl) dX12_writer_122 (fun H locs hP hS => ?_)
                  exact ret_i (fun u => (wM tc a0 u)) (res := (r0, G0)) (Option.some.inj h) X hQ hP hS dX12_writer_125
                refine lv_icmp_ne (tgt := 121) X.1 X.2.1 dX12_writer_114 (by decide) (fun hc => ?_) (fun hc => ?_)
                · have h := it_f hc h
                  refine lv_iconst (v := 0) X.1 X.2.1 dX12_writer_121 (by decide) ?_
                  exact HJ122 x1 (g0_2 1 7) 0 H locs ls h hP hS (lv_sub hl [] rfl)
                · have h := it_t hc h
                  refine lv_iconst (v := 1) X.1 X.2.1 dX12_writer_117 (by decide) ?_
                  refine lv_goto (tgt := 122) X.1 X.2.1 dX12_writer_118 (by decide) ?_
                  exact HJ122 x1 (g0_2 1 7) 1 H locs ls h hP hS (lv_sub hl [] rfl)
            · have h := it_t hc h
              refine lv_aload_n X.1 X.2.1 dX12_writer_85 rfl (lv_at hl 0 rfl) ?_
              refine lv_aload_n X.1 X.2.1 dX12_writer_86 rfl (lv_at hl 0 rfl) ?_
              refine lv_iload_n X.1 X.2.1 dX12_writer_87 rfl (lv_at hl 1 rfl) ?_
              refine lv_iconst (v := 0) X.1 X.2.1 dX12_writer_88 (by decide) ?_
              obtain ⟨r_12, hc_12, h⟩ := bd_el h
              refine call_V1i (As := [.int x1, .int 0]) (rest := [.ref (a0 0)]) X (c_X12_of l dC dI sk sv tc a0 g0_2 x1 0 hc_12) mw_8_180 mw_8_182 mp_4_1 mw_1_12 mw_8_183 dc_X12_of ⟨Nat.le_of_ble_eq_true rfl, Nat.le_of_ble_eq_true rfl⟩ rfl rfl ⟨Nat.zero_le _, Nat.zero_le _⟩ hP (hD _) hS 0 rfl rfl rfl hl.1 (Nat.le_of_ble_eq_true rfl) dX12_writer_89 (fun H locs hP hS => ?_)
              obtain ⟨r_13, hc_13, h⟩ := bd_el h
              refine call_V1i (As := [.int r_12]) (rest := []) X (c_X12_savesBy l dC dI sk sv tc a0 g0_2 r_12 hc_13) mw_8_211 mw_8_213 mp_4_8 mw_1_12 mw_8_214 dc_X12_savesBy ⟨Nat.le_of_ble_eq_true rfl, Nat.le_of_ble_eq_true rfl⟩ rfl rfl ⟨Nat.zero_le _, Nat.zero_le _⟩ hP (hD _) hS 0 rfl rfl rfl hl.1 (Nat.le_of_ble_eq_true rfl) dX12_writer_92 (fun H locs hP hS => ?_)
              exact ret_i (fun u => (wM tc a0 u)) (res := (r0, G0)) (Option.some.inj h) X hQ hP hS dX12_writer_95
          · have h := it_t hc h
            refine lv_aload_n X.1 X.2.1 dX12_writer_68 rfl (lv_at hl 0 rfl) ?_
            refine lv_aload_n X.1 X.2.1 dX12_writer_69 rfl (lv_at hl 0 rfl) ?_
            refine lv_iload_n X.1 X.2.1 dX12_writer_70 rfl (lv_at hl 1 rfl) ?_
            refine lv_iconst (v := 0) X.1 X.2.1 dX12_writer_71 (by decide) ?_
            obtain ⟨r_14, hc_14, h⟩ := bd_el h
            refine call_V1i (As := [.int x1, .int 0]) (rest := [.ref (a0 0)]) X (c_X12_of l dC dI sk sv tc a0 g0_2 x1 0 hc_14) mw_8_180 mw_8_182 mp_4_1 mw_1_12 mw_8_183 dc_X12_of ⟨Nat.le_of_ble_eq_true rfl, Nat.le_of_ble_eq_true rfl⟩ rfl rfl ⟨Nat.zero_le _, Nat.zero_le _⟩ hP (hD _) hS 0 rfl rfl rfl hl.1 (Nat.le_of_ble_eq_true rfl) dX12_writer_72 (fun H locs hP hS => ?_)
            obtain ⟨r_15, hc_15, h⟩ := bd_el h
            refine call_V1i (As := [.int r_14]) (rest := []) X (c_X12_lostBy l dC dI sk sv tc a0 g0_2 r_14 hc_15) mw_8_195 mw_8_197 mp_4_4 mw_1_12 mw_8_198 dc_X12_lostBy ⟨Nat.le_of_ble_eq_true rfl, Nat.le_of_ble_eq_true rfl⟩ rfl rfl ⟨Nat.zero_le _, Nat.zero_le _⟩ hP (hD _) hS 0 rfl rfl rfl hl.1 (Nat.le_of_ble_eq_true rfl) dX12_writer_75 (fun H locs hP hS => ?_)
            exact ret_i (fun u => (wM tc a0 u)) (res := (r0, G0)) (Option.some.inj h) X hQ hP hS dX12_writer_78
        · have h := it_t hc h
          refine lv_aload_n X.1 X.2.1 dX12_writer_57 rfl (lv_at hl 0 rfl) ?_
          refine lv_iload_n X.1 X.2.1 dX12_writer_58 rfl (lv_at hl 1 rfl) ?_
          obtain ⟨r_16, hc_16, h⟩ := bd_el h
          refine call_V1i (As := [.int x1]) (rest := []) X (c_X12_cleanOf l dC dI sk sv tc a0 g0_2 x1 hc_16) mw_8_184 mw_8_186 mp_4_2 mw_1_12 mw_8_187 dc_X12_cleanOf ⟨Nat.le_of_ble_eq_true rfl, Nat.le_of_ble_eq_true rfl⟩ rfl rfl ⟨Nat.zero_le _, Nat.zero_le _⟩ hP (hD _) hS 0 rfl rfl rfl hl.1 (Nat.le_of_ble_eq_true rfl) dX12_writer_59 (fun H locs hP hS => ?_)
          exact ret_i (fun u => (wM tc a0 u)) (res := (r0, G0)) (Option.some.inj h) X hQ hP hS dX12_writer_62
      · have h := it_f hc h
        refine lv_aload_n X.1 X.2.1 dX12_writer_45 rfl (lv_at hl 0 rfl) ?_
        refine lv_iload_n X.1 X.2.1 dX12_writer_46 rfl (lv_at hl 1 rfl) ?_
        refine lv_iload_n X.1 X.2.1 dX12_writer_47 rfl (lv_at hl 2 rfl) ?_
        obtain ⟨r_17, hc_17, h⟩ := bd_el h
        refine call_V1i (As := [.int x1, .int x2]) (rest := []) X (c_X12_of l dC dI sk sv tc a0 g0_2 x1 x2 hc_17) mw_8_180 mw_8_182 mp_4_1 mw_1_12 mw_8_183 dc_X12_of ⟨Nat.le_of_ble_eq_true rfl, Nat.le_of_ble_eq_true rfl⟩ rfl rfl ⟨Nat.zero_le _, Nat.zero_le _⟩ hP (hD _) hS 0 rfl rfl rfl hl.1 (Nat.le_of_ble_eq_true rfl) dX12_writer_48 (fun H locs hP hS => ?_)
        exact ret_i (fun u => (wM tc a0 u)) (res := (r0, G0)) (Option.some.inj h) X hQ hP hS dX12_writer_51
    · have h := it_f hc h
      refine lv_iconst (v := 0) X.1 X.2.1 dX12_writer_38 (by decide) ?_
      exact ret_i (fun u => (wM tc a0 u)) (res := (r0, G0)) (Option.some.inj h) X hQ hP hS dX12_writer_39
  refine lv_if_ne (tgt := 13) X.1 X.2.1 dX12_writer_6 (by decide) (fun hc => ?_) (fun hc => ?_)
  · have h := it_f hc h
    refine lv_iload_n X.1 X.2.1 dX12_writer_13 rfl (lv_at hl 2 rfl) ?_
    refine lv_iconst (v := 0) X.1 X.2.1 dX12_writer_14 (by decide) ?_
    refine lv_bipush (v := 13) X.1 X.2.1 dX12_writer_15 (by decide) ?_
    obtain ⟨r_18, hc_18, h⟩ := bd_el h
    refine call_S0i (As := [.int x2, .int 0, .int 13]) (rest := [.ref (a0 0)]) X (c_X12_isIn l dC dI sk sv tc x2 0 13 hc_18) mw_7_218 mw_7_219 mw_1_12 mw_7_220 dc_X12_isIn ⟨Nat.le_of_ble_eq_true rfl, Nat.le_of_ble_eq_true rfl⟩ rfl rfl ⟨Nat.zero_le _, Nat.zero_le _⟩ hP (hD _) hS hl.1 (Nat.le_of_ble_eq_true rfl) dX12_writer_17 (fun H locs hP hS => ?_)
    refine lv_if_ne (tgt := 27) X.1 X.2.1 dX12_writer_20 (by decide) (fun hc => ?_) (fun hc => ?_)
    · have h := it_f hc h
      refine lv_iconst (v := 0) X.1 X.2.1 dX12_writer_27 (by decide) ?_
      exact HJ28 0 H locs ls h hP hS (lv_sub hl [0, 1, 2] rfl)
    · have h := it_t hc h
      refine lv_iconst (v := 2) X.1 X.2.1 dX12_writer_23 (by decide) ?_
      refine lv_goto (tgt := 28) X.1 X.2.1 dX12_writer_24 (by decide) ?_
      exact HJ28 2 H locs ls h hP hS (lv_sub hl [0, 1, 2] rfl)
  · have h := it_t hc h
    refine lv_iconst (v := 1) X.1 X.2.1 dX12_writer_9 (by decide) ?_
    refine lv_goto (tgt := 28) X.1 X.2.1 dX12_writer_10 (by decide) ?_
    exact HJ28 1 H locs ls h hP hS (lv_sub hl [0, 1, 2] rfl)

def f_X12_speech (g0 : Pic) (x1 : Int32) : Option (Int32 × Pic) := nm (pu g0 0 0 0) (fun g0_1 => bd (f_X12_isIn x1 0 ((g0_1 1 5) - 1)) (fun r_2 => jn (fun (s0_J34 : Int32) => some (s0_J34, g0_1)) (fun J34 => (if r_2 = 0 then J34 (-1) else gdi (76 + x1) 856 (J34 (g0_1 1 ((76 + x1).toNatClampNeg)))))))
abbrev rm_X12_speech : Room := { frames := 1, cells := 0, slots := 0, locals := 22 }
set_option maxHeartbeats 4000000 in
set_option maxRecDepth 100000 in
theorem c_X12_speech (l : Launch) (dC : Nat → ClassId) (dI : Nat → Nat → Nat) (sk sv : Nat → Nat) (tc : Nat → ClassId) (a0 : Nat → Nat) (g0 : Pic) (x1 : Int32) {r0 : Int32} {G0 : Pic} (h : f_X12_speech g0 x1 = some (r0, G0)) : CT l (dC, dI) sk sv (TY tc) yX12_speech cX12_speech 2 (some .int) rm_X12_speech [.ref (a0 0), .int x1] (wM tc a0 g0) (some (.int r0)) (wM tc a0 G0) := by
  refine ofCT (by decide) (Nat.le_of_ble_eq_true rfl) ?_
  intro pr e s m args below meth c A Q ls H locs X hQ hD0 hP hS hl
  have hD : ∀ z0, va_D A (wM tc a0 z0) := fun z0 => D_fst (ws := (wM tc a0 g0)) rfl hD0
  have hl : lv_has ls 2 [(0, .ref (a0 0)), (1, .int x1)] := hl
  unfold f_X12_speech at h
  refine lv_aload_n X.1 X.2.1 dX12_speech_0 rfl (lv_at hl 0 rfl) ?_
  refine lv_iconst (v := 0) X.1 X.2.1 dX12_speech_1 (by decide) ?_
  obtain ⟨g0_1, eg0_1, h⟩ := nm_el h
  refine r_put (C := RX12) (T := TX12) (N := 28) (ci := 12) tyX12 tyX12_ok nmX12 X iw12 hP (hD _) hS 0 rfl rfl 0 rfl mw_7_120 rfl rfl rfl rfl dX12_speech_2 (wM tc a0 g0_1) (by rw [eg0_1]; rfl) (fun H locs hP hS => ?_)
  refine lv_iload_n X.1 X.2.1 dX12_speech_5 rfl (lv_at hl 1 rfl) ?_
  refine lv_iconst (v := 0) X.1 X.2.1 dX12_speech_6 (by decide) ?_
  refine lv_aload_n X.1 X.2.1 dX12_speech_7 rfl (lv_at hl 0 rfl) ?_
  refine r_get (C := RX12) (T := TX12) (N := 28) (ci := 12) (v := .ref (a0 2)) X iw12 hP 0 rfl rfl 1 rfl mw_7_121 rfl dX12_speech_8 ?_
  refine lv_iconst (v := 5) X.1 X.2.1 dX12_speech_11 (by decide) ?_
  refine r_iald X hP 1 0 rfl rfl (j := 5) (by unfold vp_in; decide) (by decide) dX12_speech_12 ?_
  refine lv_iconst (v := 1) X.1 X.2.1 dX12_speech_13 (by decide) ?_
  refine lv_isub X.1 X.2.1 dX12_speech_14 ?_
  obtain ⟨r_2, hc_2, h⟩ := bd_el h
  refine call_S0i (As := [.int x1, .int 0, .int ((g0_1 1 5) - 1)]) (rest := []) X (c_X12_isIn l dC dI sk sv tc x1 0 ((g0_1 1 5) - 1) hc_2) mw_7_218 mw_7_219 mw_1_12 mw_7_220 dc_X12_isIn ⟨Nat.le_of_ble_eq_true rfl, Nat.le_of_ble_eq_true rfl⟩ rfl rfl ⟨Nat.zero_le _, Nat.zero_le _⟩ hP (hD _) hS hl.1 (Nat.le_of_ble_eq_true rfl) dX12_speech_15 (fun H locs hP hS => ?_)
  obtain ⟨J34, eJ34, h⟩ := jn_el h
  have HJ34 : ∀ (s0_J34 : Int32) (H : Heap) (locs : List Loc) (ls : Array Slot), J34 s0_J34 = some (r0, G0) → va_P (dC, dI) vwCl (wM tc a0 g0_1) H → va_S A s.heap H locs → lv_has ls 2 [] → W pr l e rm_X12_speech s m args below meth c H locs 0 0 Q (F0 m 34 ls [.int s0_J34]) := by
    intro s0_J34 H locs ls h hP hS hl
    rw [eJ34] at h
    exact ret_i (fun u => (wM tc a0 u)) (res := (r0, G0)) (Option.some.inj h) X hQ hP hS dX12_speech_34
  refine lv_if_eq (tgt := 33) X.1 X.2.1 dX12_speech_18 (by decide) (fun hc => ?_) (fun hc => ?_)
  · have h := it_t hc h
    refine lv_iconst (v := (-1)) X.1 X.2.1 dX12_speech_33 (by decide) ?_
    exact HJ34 (-1) H locs ls h hP hS (lv_sub hl [] rfl)
  · have h := it_f hc h
    refine lv_aload_n X.1 X.2.1 dX12_speech_21 rfl (lv_at hl 0 rfl) ?_
    refine r_get (C := RX12) (T := TX12) (N := 28) (ci := 12) (v := .ref (a0 2)) X iw12 hP 0 rfl rfl 1 rfl mw_7_121 rfl dX12_speech_22 ?_
    refine lv_bipush (v := 76) X.1 X.2.1 dX12_speech_25 (by decide) ?_
    refine lv_iload_n X.1 X.2.1 dX12_speech_27 rfl (lv_at hl 1 rfl) ?_
    refine lv_iadd X.1 X.2.1 dX12_speech_28 ?_
    obtain ⟨hg_3, h⟩ := gdi_el h
    refine r_iald X hP 1 0 rfl rfl hg_3 rfl dX12_speech_29 ?_
    refine lv_goto (tgt := 34) X.1 X.2.1 dX12_speech_30 (by decide) ?_
    exact HJ34 (g0_1 1 ((76 + x1).toNatClampNeg)) H locs ls h hP hS (lv_sub hl [] rfl)

def f_X12_page (g0 : Pic) (x1 : Int32) (x2 : Int32) : Option (Int32 × Pic) := bd (f_X12_isWriter g0 x1) (fun r_1 => jn (fun (s1_J14 : Int32) => nm (pu g0 0 0 s1_J14) (fun g0_2 => (if (g0_2 0 0) ≤ 0 then bd (f_X12_isIn x2 0 ((g0_2 1 6) - 1)) (fun r_3 => jn (fun (s0_J53 : Int32) => some (s0_J53, g0_2)) (fun J53 => (if r_3 = 0 then J53 (-1) else bd (f_X12_onPage g0_2 x1 x2) (fun r_4 => J53 r_4)))) else some (0, g0_2)))) (fun J14 => (if r_1 = 0 then J14 1 else J14 0)))
abbrev rm_X12_page : Room := { frames := 2, cells := 0, slots := 0, locals := 43 }
set_option maxHeartbeats 4000000 in
set_option maxRecDepth 100000 in
theorem c_X12_page (l : Launch) (dC : Nat → ClassId) (dI : Nat → Nat → Nat) (sk sv : Nat → Nat) (tc : Nat → ClassId) (a0 : Nat → Nat) (g0 : Pic) (x1 : Int32) (x2 : Int32) {r0 : Int32} {G0 : Pic} (h : f_X12_page g0 x1 x2 = some (r0, G0)) : CT l (dC, dI) sk sv (TY tc) yX12_page cX12_page 3 (some .int) rm_X12_page [.ref (a0 0), .int x1, .int x2] (wM tc a0 g0) (some (.int r0)) (wM tc a0 G0) := by
  refine ofCT (by decide) (Nat.le_of_ble_eq_true rfl) ?_
  intro pr e s m args below meth c A Q ls H locs X hQ hD0 hP hS hl
  have hD : ∀ z0, va_D A (wM tc a0 z0) := fun z0 => D_fst (ws := (wM tc a0 g0)) rfl hD0
  have hl : lv_has ls 3 [(0, .ref (a0 0)), (1, .int x1), (2, .int x2)] := hl
  unfold f_X12_page at h
  refine lv_aload_n X.1 X.2.1 dX12_page_0 rfl (lv_at hl 0 rfl) ?_
  refine lv_aload_n X.1 X.2.1 dX12_page_1 rfl (lv_at hl 0 rfl) ?_
  refine lv_iload_n X.1 X.2.1 dX12_page_2 rfl (lv_at hl 1 rfl) ?_
  obtain ⟨r_1, hc_1, h⟩ := bd_el h
  refine call_V1i (As := [.int x1]) (rest := [.ref (a0 0)]) X (c_X12_isWriter l dC dI sk sv tc a0 g0 x1 hc_1) mw_8_176 mw_8_178 mp_4_0 mw_1_12 mw_8_179 dc_X12_isWriter ⟨Nat.le_of_ble_eq_true rfl, Nat.le_of_ble_eq_true rfl⟩ rfl rfl ⟨Nat.zero_le _, Nat.zero_le _⟩ hP (hD _) hS 0 rfl rfl rfl hl.1 (Nat.le_of_ble_eq_true rfl) dX12_page_3 (fun H locs hP hS => ?_)
  obtain ⟨J14, eJ14, h⟩ := jn_el h
  have HJ14 : ∀ (s1_J14 : Int32) (H : Heap) (locs : List Loc) (ls : Array Slot), J14 s1_J14 = some (r0, G0) → va_P (dC, dI) vwCl (wM tc a0 g0) H → va_S A s.heap H locs → lv_has ls 3 [(0, .ref (a0 0)), (1, .int x1), (2, .int x2)] → W pr l e rm_X12_page s m args below meth c H locs 0 0 Q (F0 m 14 ls [.int s1_J14, .ref (a0 0)]) := by
    intro s1_J14 H locs ls h hP hS hl
    rw [eJ14] at h
    obtain ⟨g0_2, eg0_2, h⟩ := nm_el h
    refine r_put (C := RX12) (T := TX12) (N := 28) (ci := 12) tyX12 tyX12_ok nmX12 X iw12 hP (hD _) hS 0 rfl rfl 0 rfl mw_7_120 rfl rfl rfl rfl dX12_page_14 (wM tc a0 g0_2) (by rw [eg0_2]; rfl) (fun H locs hP hS => ?_)
    refine lv_aload_n X.1 X.2.1 dX12_page_17 rfl (lv_at hl 0 rfl) ?_
    refine r_get (C := RX12) (T := TX12) (N := 28) (ci := 12) (v := .int (g0_2 0 0)) X iw12 hP 0 rfl rfl 0 rfl mw_7_120 rfl dX12_page_18 ?_
    refine lv_if_le (tgt := 26) X.1 X.2.1 dX12_page_21 (by decide) (fun hc => ?_) (fun hc => ?_)
    · have h := it_t hc h
      refine lv_iload_n X.1 X.2.1 dX12_page_26 rfl (lv_at hl 2 rfl) ?_
      refine lv_iconst (v := 0) X.1 X.2.1 dX12_page_27 (by decide) ?_
      refine lv_aload_n X.1 X.2.1 dX12_page_28 rfl (lv_at hl 0 rfl) ?_
      refine r_get (C := RX12) (T := TX12) (N := 28) (ci := 12) (v := .ref (a0 2)) X iw12 hP 0 rfl rfl 1 rfl mw_7_121 rfl dX12_page_29 ?_
      refine lv_bipush (v := 6) X.1 X.2.1 dX12_page_32 (by decide) ?_
      refine r_iald X hP 1 0 rfl rfl (j := 6) (by unfold vp_in; decide) (by decide) dX12_page_34 ?_
      refine lv_iconst (v := 1) X.1 X.2.1 dX12_page_35 (by decide) ?_
      refine lv_isub X.1 X.2.1 dX12_page_36 ?_
      obtain ⟨r_3, hc_3, h⟩ := bd_el h
      refine call_S0i (As := [.int x2, .int 0, .int ((g0_2 1 6) - 1)]) (rest := []) X (c_X12_isIn l dC dI sk sv tc x2 0 ((g0_2 1 6) - 1) hc_3) mw_7_218 mw_7_219 mw_1_12 mw_7_220 dc_X12_isIn ⟨Nat.le_of_ble_eq_true rfl, Nat.le_of_ble_eq_true rfl⟩ rfl rfl ⟨Nat.zero_le _, Nat.zero_le _⟩ hP (hD _) hS hl.1 (Nat.le_of_ble_eq_true rfl) dX12_page_37 (fun H locs hP hS => ?_)
      obtain ⟨J53, eJ53, h⟩ := jn_el h
      have HJ53 : ∀ (s0_J53 : Int32) (H : Heap) (locs : List Loc) (ls : Array Slot), J53 s0_J53 = some (r0, G0) → va_P (dC, dI) vwCl (wM tc a0 g0_2) H → va_S A s.heap H locs → lv_has ls 3 [] → W pr l e rm_X12_page s m args below meth c H locs 0 0 Q (F0 m 53 ls [.int s0_J53]) := by
        intro s0_J53 H locs ls h hP hS hl
        rw [eJ53] at h
        exact ret_i (fun u => (wM tc a0 u)) (res := (r0, G0)) (Option.some.inj h) X hQ hP hS dX12_page_53
      refine lv_if_eq (tgt := 52) X.1 X.2.1 dX12_page_40 (by decide) (fun hc => ?_) (fun hc => ?_)
      · have h := it_t hc h
        refine lv_iconst (v := (-1)) X.1 X.2.1 dX12_page_52 (by decide) ?_
        exact HJ53 (-1) H locs ls h hP hS (lv_sub hl [] rfl)
      · have h := it_f hc h
        refine lv_aload_n X.1 X.2.1 dX12_page_43 rfl (lv_at hl 0 rfl) ?_
        refine lv_iload_n X.1 X.2.1 dX12_page_44 rfl (lv_at hl 1 rfl) ?_
        refine lv_iload_n X.1 X.2.1 dX12_page_45 rfl (lv_at hl 2 rfl) ?_
        obtain ⟨r_4, hc_4, h⟩ := bd_el h
        refine call_V1i (As := [.int x1, .int x2]) (rest := []) X (c_X12_onPage l dC dI sk sv tc a0 g0_2 x1 x2 hc_4) mw_8_230 mw_8_232 mp_4_12 mw_1_12 mw_8_233 dc_X12_onPage ⟨Nat.le_of_ble_eq_true rfl, Nat.le_of_ble_eq_true rfl⟩ rfl rfl ⟨Nat.zero_le _, Nat.zero_le _⟩ hP (hD _) hS 0 rfl rfl rfl hl.1 (Nat.le_of_ble_eq_true rfl) dX12_page_46 (fun H locs hP hS => ?_)
        refine lv_goto (tgt := 53) X.1 X.2.1 dX12_page_49 (by decide) ?_
        exact HJ53 r_4 H locs ls h hP hS (lv_sub hl [] rfl)
    · have h := it_f hc h
      refine lv_iconst (v := 0) X.1 X.2.1 dX12_page_24 (by decide) ?_
      exact ret_i (fun u => (wM tc a0 u)) (res := (r0, G0)) (Option.some.inj h) X hQ hP hS dX12_page_25
  refine lv_if_ne (tgt := 13) X.1 X.2.1 dX12_page_6 (by decide) (fun hc => ?_) (fun hc => ?_)
  · have h := it_f hc h
    refine lv_iconst (v := 0) X.1 X.2.1 dX12_page_13 (by decide) ?_
    exact HJ14 0 H locs ls h hP hS (lv_sub hl [0, 1, 2] rfl)
  · have h := it_t hc h
    refine lv_iconst (v := 1) X.1 X.2.1 dX12_page_9 (by decide) ?_
    refine lv_goto (tgt := 14) X.1 X.2.1 dX12_page_10 (by decide) ?_
    exact HJ14 1 H locs ls h hP hS (lv_sub hl [0, 1, 2] rfl)

def f_X12_areBoth (g0 : Pic) (x1 : Int32) (x2 : Int32) : Option (Pic) := bd (f_X12_isWriter g0 x1) (fun r_1 => jn (fun (s1_J22 : Int32) => nm (pu g0 0 0 s1_J22) (fun g0_2 => some g0_2)) (fun J22 => jn (fun (_ : Unit) => J22 1) (fun J17 => (if r_1 = 0 then J17 () else bd (f_X12_isWord g0 x2) (fun r_3 => (if r_3 = 0 then J17 () else J22 0))))))
abbrev rm_X12_areBoth : Room := { frames := 2, cells := 0, slots := 0, locals := 43 }
set_option maxHeartbeats 4000000 in
set_option maxRecDepth 100000 in
theorem c_X12_areBoth (l : Launch) (dC : Nat → ClassId) (dI : Nat → Nat → Nat) (sk sv : Nat → Nat) (tc : Nat → ClassId) (a0 : Nat → Nat) (g0 : Pic) (x1 : Int32) (x2 : Int32) {G0 : Pic} (h : f_X12_areBoth g0 x1 x2 = some G0) : CT l (dC, dI) sk sv (TY tc) yX12_areBoth cX12_areBoth 3 none rm_X12_areBoth [.ref (a0 0), .int x1, .int x2] (wM tc a0 g0) none (wM tc a0 G0) := by
  refine ofCT (by decide) (Nat.le_of_ble_eq_true rfl) ?_
  intro pr e s m args below meth c A Q ls H locs X hQ hD0 hP hS hl
  have hD : ∀ z0, va_D A (wM tc a0 z0) := fun z0 => D_fst (ws := (wM tc a0 g0)) rfl hD0
  have hl : lv_has ls 3 [(0, .ref (a0 0)), (1, .int x1), (2, .int x2)] := hl
  unfold f_X12_areBoth at h
  refine lv_aload_n X.1 X.2.1 dX12_areBoth_0 rfl (lv_at hl 0 rfl) ?_
  refine lv_aload_n X.1 X.2.1 dX12_areBoth_1 rfl (lv_at hl 0 rfl) ?_
  refine lv_iload_n X.1 X.2.1 dX12_areBoth_2 rfl (lv_at hl 1 rfl) ?_
  obtain ⟨r_1, hc_1, h⟩ := bd_el h
  refine call_V1i (As := [.int x1]) (rest := [.ref (a0 0)]) X (c_X12_isWriter l dC dI sk sv tc a0 g0 x1 hc_1) mw_8_176 mw_8_178 mp_4_0 mw_1_12 mw_8_179 dc_X12_isWriter ⟨Nat.le_of_ble_eq_true rfl, Nat.le_of_ble_eq_true rfl⟩ rfl rfl ⟨Nat.zero_le _, Nat.zero_le _⟩ hP (hD _) hS 0 rfl rfl rfl hl.1 (Nat.le_of_ble_eq_true rfl) dX12_areBoth_3 (fun H locs hP hS => ?_)
  obtain ⟨J22, eJ22, h⟩ := jn_el h
  have HJ22 : ∀ (s1_J22 : Int32) (H : Heap) (locs : List Loc) (ls : Array Slot), J22 s1_J22 = some G0 → va_P (dC, dI) vwCl (wM tc a0 g0) H → va_S A s.heap H locs → lv_has ls 3 [] → W pr l e rm_X12_areBoth s m args below meth c H locs 0 0 Q (F0 m 22 ls [.int s1_J22, .ref (a0 0)]) := by
    intro s1_J22 H locs ls h hP hS hl
    rw [eJ22] at h
    obtain ⟨g0_2, eg0_2, h⟩ := nm_el h
    refine r_put (C := RX12) (T := TX12) (N := 28) (ci := 12) tyX12 tyX12_ok nmX12 X iw12 hP (hD _) hS 0 rfl rfl 0 rfl mw_7_120 rfl rfl rfl rfl dX12_areBoth_22 (wM tc a0 g0_2) (by rw [eg0_2]; rfl) (fun H locs hP hS => ?_)
    exact ret_v (fun u => (wM tc a0 u)) (res := G0) (Option.some.inj h) X hQ hP hS dX12_areBoth_25
  obtain ⟨J17, eJ17, h⟩ := jn_el h
  have HJ17 : ∀ (_ : Unit) (H : Heap) (locs : List Loc) (ls : Array Slot), J17 () = some G0 → va_P (dC, dI) vwCl (wM tc a0 g0) H → va_S A s.heap H locs → lv_has ls 3 [] → W pr l e rm_X12_areBoth s m args below meth c H locs 0 0 Q (F0 m 17 ls [.ref (a0 0)]) := by
    intro _ H locs ls h hP hS hl
    rw [eJ17] at h
    refine lv_iconst (v := 1) X.1 X.2.1 dX12_areBoth_17 (by decide) ?_
    refine lv_goto (tgt := 22) X.1 X.2.1 dX12_areBoth_18 (by decide) ?_
    exact HJ22 1 H locs ls h hP hS (lv_sub hl [] rfl)
  refine lv_if_eq (tgt := 17) X.1 X.2.1 dX12_areBoth_6 (by decide) (fun hc => ?_) (fun hc => ?_)
  · have h := it_t hc h
    exact HJ17 () H locs ls h hP hS (lv_sub hl [] rfl)
  · have h := it_f hc h
    refine lv_aload_n X.1 X.2.1 dX12_areBoth_9 rfl (lv_at hl 0 rfl) ?_
    refine lv_iload_n X.1 X.2.1 dX12_areBoth_10 rfl (lv_at hl 2 rfl) ?_
    obtain ⟨r_3, hc_3, h⟩ := bd_el h
    refine call_V1i (As := [.int x2]) (rest := [.ref (a0 0)]) X (c_X12_isWord l dC dI sk sv tc a0 g0 x2 hc_3) mw_8_136 mw_8_138 mp_3_9 mw_1_12 mw_8_139 dc_X12_isWord ⟨Nat.le_of_ble_eq_true rfl, Nat.le_of_ble_eq_true rfl⟩ rfl rfl ⟨Nat.zero_le _, Nat.zero_le _⟩ hP (hD _) hS 0 rfl rfl rfl hl.1 (Nat.le_of_ble_eq_true rfl) dX12_areBoth_11 (fun H locs hP hS => ?_)
    refine lv_if_ne (tgt := 21) X.1 X.2.1 dX12_areBoth_14 (by decide) (fun hc => ?_) (fun hc => ?_)
    · have h := it_f hc h
      refine lv_iconst (v := 0) X.1 X.2.1 dX12_areBoth_21 (by decide) ?_
      exact HJ22 0 H locs ls h hP hS (lv_sub hl [] rfl)
    · have h := it_t hc h
      exact HJ17 () H locs ls h hP hS (lv_sub hl [] rfl)

def f_X12_strokes (g0 : Pic) (x1 : Int32) (x2 : Int32) : Option (Int32 × Pic) := bd (f_X12_areBoth g0 x1 x2) (fun g0_1 => jn (fun (s0_J28 : Int32) => some (s0_J28, g0_1)) (fun J28 => (if (g0_1 0 0) ≤ 0 then bd (f_X12_of g0_1 x1 0) (fun r_2 => bd (f_X12_strokesBy g0_1 x2 r_2) (fun r_3 => J28 r_3)) else J28 0)))
abbrev rm_X12_strokes : Room := { frames := 3, cells := 0, slots := 0, locals := 65 }
set_option maxHeartbeats 4000000 in
set_option maxRecDepth 100000 in
theorem c_X12_strokes (l : Launch) (dC : Nat → ClassId) (dI : Nat → Nat → Nat) (sk sv : Nat → Nat) (tc : Nat → ClassId) (a0 : Nat → Nat) (g0 : Pic) (x1 : Int32) (x2 : Int32) {r0 : Int32} {G0 : Pic} (h : f_X12_strokes g0 x1 x2 = some (r0, G0)) : CT l (dC, dI) sk sv (TY tc) yX12_strokes cX12_strokes 3 (some .int) rm_X12_strokes [.ref (a0 0), .int x1, .int x2] (wM tc a0 g0) (some (.int r0)) (wM tc a0 G0) := by
  refine ofCT (by decide) (Nat.le_of_ble_eq_true rfl) ?_
  intro pr e s m args below meth c A Q ls H locs X hQ hD0 hP hS hl
  have hD : ∀ z0, va_D A (wM tc a0 z0) := fun z0 => D_fst (ws := (wM tc a0 g0)) rfl hD0
  have hl : lv_has ls 3 [(0, .ref (a0 0)), (1, .int x1), (2, .int x2)] := hl
  unfold f_X12_strokes at h
  refine lv_aload_n X.1 X.2.1 dX12_strokes_0 rfl (lv_at hl 0 rfl) ?_
  refine lv_iload_n X.1 X.2.1 dX12_strokes_1 rfl (lv_at hl 1 rfl) ?_
  refine lv_iload_n X.1 X.2.1 dX12_strokes_2 rfl (lv_at hl 2 rfl) ?_
  obtain ⟨g0_1, hc_1, h⟩ := bd_el h
  refine call_V1v (As := [.int x1, .int x2]) (rest := []) X (c_X12_areBoth l dC dI sk sv tc a0 g0 x1 x2 hc_1) mw_9_18 mw_9_20 mp_5_0 mw_1_12 mw_9_21 dc_X12_areBoth ⟨Nat.le_of_ble_eq_true rfl, Nat.le_of_ble_eq_true rfl⟩ rfl rfl ⟨Nat.zero_le _, Nat.zero_le _⟩ hP (hD _) hS 0 rfl rfl rfl hl.1 (Nat.le_of_ble_eq_true rfl) dX12_strokes_3 (fun H locs hP hS => ?_)
  refine lv_aload_n X.1 X.2.1 dX12_strokes_6 rfl (lv_at hl 0 rfl) ?_
  refine r_get (C := RX12) (T := TX12) (N := 28) (ci := 12) (v := .int (g0_1 0 0)) X iw12 hP 0 rfl rfl 0 rfl mw_7_120 rfl dX12_strokes_7 ?_
  obtain ⟨J28, eJ28, h⟩ := jn_el h
  have HJ28 : ∀ (s0_J28 : Int32) (H : Heap) (locs : List Loc) (ls : Array Slot), J28 s0_J28 = some (r0, G0) → va_P (dC, dI) vwCl (wM tc a0 g0_1) H → va_S A s.heap H locs → lv_has ls 3 [] → W pr l e rm_X12_strokes s m args below meth c H locs 0 0 Q (F0 m 28 ls [.int s0_J28]) := by
    intro s0_J28 H locs ls h hP hS hl
    rw [eJ28] at h
    exact ret_i (fun u => (wM tc a0 u)) (res := (r0, G0)) (Option.some.inj h) X hQ hP hS dX12_strokes_28
  refine lv_if_le (tgt := 17) X.1 X.2.1 dX12_strokes_10 (by decide) (fun hc => ?_) (fun hc => ?_)
  · have h := it_t hc h
    refine lv_aload_n X.1 X.2.1 dX12_strokes_17 rfl (lv_at hl 0 rfl) ?_
    refine lv_iload_n X.1 X.2.1 dX12_strokes_18 rfl (lv_at hl 2 rfl) ?_
    refine lv_aload_n X.1 X.2.1 dX12_strokes_19 rfl (lv_at hl 0 rfl) ?_
    refine lv_iload_n X.1 X.2.1 dX12_strokes_20 rfl (lv_at hl 1 rfl) ?_
    refine lv_iconst (v := 0) X.1 X.2.1 dX12_strokes_21 (by decide) ?_
    obtain ⟨r_2, hc_2, h⟩ := bd_el h
    refine call_V1i (As := [.int x1, .int 0]) (rest := [.int x2, .ref (a0 0)]) X (c_X12_of l dC dI sk sv tc a0 g0_1 x1 0 hc_2) mw_8_180 mw_8_182 mp_4_1 mw_1_12 mw_8_183 dc_X12_of ⟨Nat.le_of_ble_eq_true rfl, Nat.le_of_ble_eq_true rfl⟩ rfl rfl ⟨Nat.zero_le _, Nat.zero_le _⟩ hP (hD _) hS 0 rfl rfl rfl hl.1 (Nat.le_of_ble_eq_true rfl) dX12_strokes_22 (fun H locs hP hS => ?_)
    obtain ⟨r_3, hc_3, h⟩ := bd_el h
    refine call_V1i (As := [.int x2, .int r_2]) (rest := []) X (c_X12_strokesBy l dC dI sk sv tc a0 g0_1 x2 r_2 hc_3) mw_8_188 mw_8_190 mp_4_3 mw_1_12 mw_8_191 dc_X12_strokesBy ⟨Nat.le_of_ble_eq_true rfl, Nat.le_of_ble_eq_true rfl⟩ rfl rfl ⟨Nat.zero_le _, Nat.zero_le _⟩ hP (hD _) hS 0 rfl rfl rfl hl.1 (Nat.le_of_ble_eq_true rfl) dX12_strokes_25 (fun H locs hP hS => ?_)
    exact HJ28 r_3 H locs ls h hP hS (lv_sub hl [] rfl)
  · have h := it_f hc h
    refine lv_iconst (v := 0) X.1 X.2.1 dX12_strokes_13 (by decide) ?_
    refine lv_goto (tgt := 28) X.1 X.2.1 dX12_strokes_14 (by decide) ?_
    exact HJ28 0 H locs ls h hP hS (lv_sub hl [] rfl)

def f_X12_mark_L21 (x1 : Int32) (x2 : Int32) (x3 : Int32) (g0 : Pic) (n : Nat) (a : Int32 × Int32) : Option ((Int32 × Pic) ⊕ (Unit)) := lp (fun (rec : Int32 × Int32 → Option ((Int32 × Pic) ⊕ (Unit))) (a : Int32 × Int32) => match a with | (x4, x5) => bd (f_X12_ofWord g0 x2 6) (fun r_2 => (if r_2 ≤ x5 then some (.inr ()) else bd (f_X12_of g0 x1 0) (fun r_3 => bd (f_X12_ofWord g0 x2 x5) (fun r_4 => bd (f_X12_isOf r_3 r_4) (fun r_5 => jn (fun (x4_J72 : Int32) => nm (x5 + 1) (fun x5_6 => rec (x4_J72, x5_6))) (fun J72 => (if r_5 = 0 then (if x4 = x3 then bd (f_X12_ofWord g0 x2 x5) (fun r_8 => some (.inl (r_8, g0))) else nm (x4 + 1) (fun x4_7 => J72 x4_7)) else J72 x4)))))))) n a
def f_X12_mark (g0 : Pic) (x1 : Int32) (x2 : Int32) (x3 : Int32) : Option (Int32 × Pic) := bd (f_X12_areBoth g0 x1 x2) (fun g0_1 => (if (g0_1 0 0) ≤ 0 then lr (f_X12_mark_L21 x1 x2 x3 g0_1 fu (0, 0)) (fun a => a) (fun _ => some ((-1), g0_1)) else some (0, g0_1)))
abbrev rm_X12_mark : Room := { frames := 3, cells := 0, slots := 0, locals := 65 }
set_option maxHeartbeats 4000000 in
set_option maxRecDepth 100000 in
theorem c_X12_mark (l : Launch) (dC : Nat → ClassId) (dI : Nat → Nat → Nat) (sk sv : Nat → Nat) (tc : Nat → ClassId) (a0 : Nat → Nat) (g0 : Pic) (x1 : Int32) (x2 : Int32) (x3 : Int32) {r0 : Int32} {G0 : Pic} (h : f_X12_mark g0 x1 x2 x3 = some (r0, G0)) : CT l (dC, dI) sk sv (TY tc) yX12_mark cX12_mark 6 (some .int) rm_X12_mark [.ref (a0 0), .int x1, .int x2, .int x3] (wM tc a0 g0) (some (.int r0)) (wM tc a0 G0) := by
  refine ofCT (by decide) (Nat.le_of_ble_eq_true rfl) ?_
  intro pr e s m args below meth c A Q ls H locs X hQ hD0 hP hS hl
  have hD : ∀ z0, va_D A (wM tc a0 z0) := fun z0 => D_fst (ws := (wM tc a0 g0)) rfl hD0
  have hl : lv_has ls 6 [(0, .ref (a0 0)), (1, .int x1), (2, .int x2), (3, .int x3)] := hl
  have HL21 : ∀ (x1 : Int32) (x2 : Int32) (x3 : Int32) (g0 : Pic) (n : Nat) (x4 : Int32) (x5 : Int32) (ex : ((Int32 × Pic) ⊕ (Unit))), f_X12_mark_L21 x1 x2 x3 g0 n (x4, x5) = some ex → (∀ rv, ex = .inl rv → rv = (r0, G0)) → ∀ (H : Heap) (locs : List Loc) (ls : Array Slot), va_P (dC, dI) vwCl (wM tc a0 g0) H → va_S A s.heap H locs → lv_has ls 6 [(0, .ref (a0 0)), (1, .int x1), (2, .int x2), (3, .int x3), (4, .int x4), (5, .int x5)] → (.inr () = ex → ∀ (H : Heap) (locs : List Loc) (ls : Array Slot), va_P (dC, dI) vwCl (wM tc a0 g0) H → va_S A s.heap H locs → lv_has ls 6 [] → W pr l e rm_X12_mark s m args below meth c H locs 0 0 Q (F0 m 78 ls [])) → W pr l e rm_X12_mark s m args below meth c H locs 0 0 Q (F0 m 21 ls []) := by
    intro x1 x2 x3 g0 n
    induction n with
    | zero => intro x4 x5 ex h; exact lp_z h
    | succ n ih =>
      intro x4 x5 ex h hR H locs ls hP hS hl K
      have h := lp_s h
      refine lv_iload X.1 X.2.1 dX12_mark_21 (lv_at hl 5 rfl) ?_
      refine lv_aload_n X.1 X.2.1 dX12_mark_23 rfl (lv_at hl 0 rfl) ?_
      refine lv_iload_n X.1 X.2.1 dX12_mark_24 rfl (lv_at hl 2 rfl) ?_
      refine lv_bipush (v := 6) X.1 X.2.1 dX12_mark_25 (by decide) ?_
      obtain ⟨r_2, hc_2, h⟩ := bd_el h
      refine call_V1i (As := [.int x2, .int 6]) (rest := [.int x5]) X (c_X12_ofWord l dC dI sk sv tc a0 g0 x2 6 hc_2) mw_8_140 mw_8_142 mp_3_10 mw_1_12 mw_8_143 dc_X12_ofWord ⟨Nat.le_of_ble_eq_true rfl, Nat.le_of_ble_eq_true rfl⟩ rfl rfl ⟨Nat.zero_le _, Nat.zero_le _⟩ hP (hD _) hS 0 rfl rfl rfl hl.1 (Nat.le_of_ble_eq_true rfl) dX12_mark_27 (fun H locs hP hS => ?_)
      refine lv_icmp_ge (tgt := 78) X.1 X.2.1 dX12_mark_30 (by decide) (fun hc => ?_) (fun hc => ?_)
      · have h := it_t hc h
        exact K  (Option.some.inj h) H locs ls hP hS (lv_sub hl [] rfl)
      · have h := it_f hc h
        refine lv_aload_n X.1 X.2.1 dX12_mark_33 rfl (lv_at hl 0 rfl) ?_
        refine lv_iload_n X.1 X.2.1 dX12_mark_34 rfl (lv_at hl 1 rfl) ?_
        refine lv_iconst (v := 0) X.1 X.2.1 dX12_mark_35 (by decide) ?_
        obtain ⟨r_3, hc_3, h⟩ := bd_el h
        refine call_V1i (As := [.int x1, .int 0]) (rest := []) X (c_X12_of l dC dI sk sv tc a0 g0 x1 0 hc_3) mw_8_180 mw_8_182 mp_4_1 mw_1_12 mw_8_183 dc_X12_of ⟨Nat.le_of_ble_eq_true rfl, Nat.le_of_ble_eq_true rfl⟩ rfl rfl ⟨Nat.zero_le _, Nat.zero_le _⟩ hP (hD _) hS 0 rfl rfl rfl hl.1 (Nat.le_of_ble_eq_true rfl) dX12_mark_36 (fun H locs hP hS => ?_)
        refine lv_aload_n X.1 X.2.1 dX12_mark_39 rfl (lv_at hl 0 rfl) ?_
        refine lv_iload_n X.1 X.2.1 dX12_mark_40 rfl (lv_at hl 2 rfl) ?_
        refine lv_iload X.1 X.2.1 dX12_mark_41 (lv_at hl 5 rfl) ?_
        obtain ⟨r_4, hc_4, h⟩ := bd_el h
        refine call_V1i (As := [.int x2, .int x5]) (rest := [.int r_3]) X (c_X12_ofWord l dC dI sk sv tc a0 g0 x2 x5 hc_4) mw_8_140 mw_8_142 mp_3_10 mw_1_12 mw_8_143 dc_X12_ofWord ⟨Nat.le_of_ble_eq_true rfl, Nat.le_of_ble_eq_true rfl⟩ rfl rfl ⟨Nat.zero_le _, Nat.zero_le _⟩ hP (hD _) hS 0 rfl rfl rfl hl.1 (Nat.le_of_ble_eq_true rfl) dX12_mark_43 (fun H locs hP hS => ?_)
        obtain ⟨r_5, hc_5, h⟩ := bd_el h
        refine call_S0i (As := [.int r_3, .int r_4]) (rest := []) X (c_X12_isOf l dC dI sk sv tc r_3 r_4 hc_5) mw_8_192 mw_8_193 mw_1_12 mw_8_194 dc_X12_isOf ⟨Nat.le_of_ble_eq_true rfl, Nat.le_of_ble_eq_true rfl⟩ rfl rfl ⟨Nat.zero_le _, Nat.zero_le _⟩ hP (hD _) hS hl.1 (Nat.le_of_ble_eq_true rfl) dX12_mark_46 (fun H locs hP hS => ?_)
        obtain ⟨J72, eJ72, h⟩ := jn_el h
        have HJ72 : ∀ (x4_J72 : Int32) (H : Heap) (locs : List Loc) (ls : Array Slot), J72 x4_J72 = some ex → va_P (dC, dI) vwCl (wM tc a0 g0) H → va_S A s.heap H locs → lv_has ls 6 [(0, .ref (a0 0)), (1, .int x1), (2, .int x2), (3, .int x3), (4, .int x4_J72), (5, .int x5)] → W pr l e rm_X12_mark s m args below meth c H locs 0 0 Q (F0 m 72 ls []) := by
          intro x4_J72 H locs ls h hP hS hl
          rw [eJ72] at h
          obtain ⟨x5_6, ex5_6, h⟩ := nm_el h
          refine lv_iinc (v := x5_6) (lv' := [(5, .int x5_6), (0, .ref (a0 0)), (1, .int x1), (2, .int x2), (3, .int x3), (4, .int x4_J72)]) X.1 X.2.1 dX12_mark_72 hl (k := 5) rfl (by rw [ex5_6]; rfl) (by decide) rfl (fun ls hl => ?_)
          refine lv_goto (tgt := 21) X.1 X.2.1 dX12_mark_75 (by decide) ?_
          exact ih x4_J72 x5_6 ex h hR H locs ls hP hS (lv_sub hl [1, 2, 3, 4, 5, 0] rfl) K
        refine lv_if_eq (tgt := 55) X.1 X.2.1 dX12_mark_49 (by decide) (fun hc => ?_) (fun hc => ?_)
        · have h := it_t hc h
          refine lv_iload X.1 X.2.1 dX12_mark_55 (lv_at hl 4 rfl) ?_
          refine lv_iload_n X.1 X.2.1 dX12_mark_57 rfl (lv_at hl 3 rfl) ?_
          refine lv_icmp_ne (tgt := 69) X.1 X.2.1 dX12_mark_58 (by decide) (fun hc => ?_) (fun hc => ?_)
          · have h := it_f hc h
            obtain ⟨x4_7, ex4_7, h⟩ := nm_el h
            refine lv_iinc (v := x4_7) (lv' := [(4, .int x4_7), (0, .ref (a0 0)), (1, .int x1), (2, .int x2), (3, .int x3), (5, .int x5)]) X.1 X.2.1 dX12_mark_69 hl (k := 4) rfl (by rw [ex4_7]; rfl) (by decide) rfl (fun ls hl => ?_)
            exact HJ72 x4_7 H locs ls h hP hS (lv_sub hl [1, 2, 3, 4, 0, 5] rfl)
          · have h := it_t hc h
            refine lv_aload_n X.1 X.2.1 dX12_mark_61 rfl (lv_at hl 0 rfl) ?_
            refine lv_iload_n X.1 X.2.1 dX12_mark_62 rfl (lv_at hl 2 rfl) ?_
            refine lv_iload X.1 X.2.1 dX12_mark_63 (lv_at hl 5 rfl) ?_
            obtain ⟨r_8, hc_8, h⟩ := bd_el h
            refine call_V1i (As := [.int x2, .int x5]) (rest := []) X (c_X12_ofWord l dC dI sk sv tc a0 g0 x2 x5 hc_8) mw_8_140 mw_8_142 mp_3_10 mw_1_12 mw_8_143 dc_X12_ofWord ⟨Nat.le_of_ble_eq_true rfl, Nat.le_of_ble_eq_true rfl⟩ rfl rfl ⟨Nat.zero_le _, Nat.zero_le _⟩ hP (hD _) hS 0 rfl rfl rfl hl.1 (Nat.le_of_ble_eq_true rfl) dX12_mark_65 (fun H locs hP hS => ?_)
            exact ret_i (fun u => (wM tc a0 u)) (res := (r0, G0)) (hR _ (Option.some.inj h).symm) X hQ hP hS dX12_mark_68
        · have h := it_f hc h
          refine lv_goto (tgt := 72) X.1 X.2.1 dX12_mark_52 (by decide) ?_
          exact HJ72 x4 H locs ls h hP hS (lv_sub hl [0, 1, 2, 3, 4, 5] rfl)
  unfold f_X12_mark at h
  refine lv_aload_n X.1 X.2.1 dX12_mark_0 rfl (lv_at hl 0 rfl) ?_
  refine lv_iload_n X.1 X.2.1 dX12_mark_1 rfl (lv_at hl 1 rfl) ?_
  refine lv_iload_n X.1 X.2.1 dX12_mark_2 rfl (lv_at hl 2 rfl) ?_
  obtain ⟨g0_1, hc_1, h⟩ := bd_el h
  refine call_V1v (As := [.int x1, .int x2]) (rest := []) X (c_X12_areBoth l dC dI sk sv tc a0 g0 x1 x2 hc_1) mw_9_18 mw_9_20 mp_5_0 mw_1_12 mw_9_21 dc_X12_areBoth ⟨Nat.le_of_ble_eq_true rfl, Nat.le_of_ble_eq_true rfl⟩ rfl rfl ⟨Nat.zero_le _, Nat.zero_le _⟩ hP (hD _) hS 0 rfl rfl rfl hl.1 (Nat.le_of_ble_eq_true rfl) dX12_mark_3 (fun H locs hP hS => ?_)
  refine lv_aload_n X.1 X.2.1 dX12_mark_6 rfl (lv_at hl 0 rfl) ?_
  refine r_get (C := RX12) (T := TX12) (N := 28) (ci := 12) (v := .int (g0_1 0 0)) X iw12 hP 0 rfl rfl 0 rfl mw_7_120 rfl dX12_mark_7 ?_
  refine lv_if_le (tgt := 15) X.1 X.2.1 dX12_mark_10 (by decide) (fun hc => ?_) (fun hc => ?_)
  · have h := it_t hc h
    refine lv_iconst (v := 0) X.1 X.2.1 dX12_mark_15 (by decide) ?_
    refine lv_istore (lv' := [(4, .int 0), (0, .ref (a0 0)), (1, .int x1), (2, .int x2), (3, .int x3)]) X.1 X.2.1 dX12_mark_16 hl (by decide) rfl (fun ls hl => ?_)
    refine lv_iconst (v := 0) X.1 X.2.1 dX12_mark_18 (by decide) ?_
    refine lv_istore (lv' := [(5, .int 0), (4, .int 0), (0, .ref (a0 0)), (1, .int x1), (2, .int x2), (3, .int x3)]) X.1 X.2.1 dX12_mark_19 hl (by decide) rfl (fun ls hl => ?_)
    obtain ⟨ex_9, hL_9, h1_9, h2_9⟩ := lr_el h
    refine HL21 x1 x2 x3 g0_1 fu 0 0 ex_9 hL_9 (fun rv hq => h1_9 rv hq) H locs ls hP hS (lv_sub hl [2, 3, 4, 5, 1, 0] rfl) (fun  he H locs ls hP hS hl => ?_)
    have h := h2_9 _ he.symm
    refine lv_iconst (v := (-1)) X.1 X.2.1 dX12_mark_78 (by decide) ?_
    exact ret_i (fun u => (wM tc a0 u)) (res := (r0, G0)) (Option.some.inj h) X hQ hP hS dX12_mark_79
  · have h := it_f hc h
    refine lv_iconst (v := 0) X.1 X.2.1 dX12_mark_13 (by decide) ?_
    exact ret_i (fun u => (wM tc a0 u)) (res := (r0, G0)) (Option.some.inj h) X hQ hP hS dX12_mark_14

def f_X12_alike (g0 : Pic) (x1 : Int32) (x2 : Int32) : Option (Int32 × Pic) := bd (f_X12_areBoth g0 x1 x2) (fun g0_1 => jn (fun (s0_J28 : Int32) => some (s0_J28, g0_1)) (fun J28 => (if (g0_1 0 0) ≤ 0 then bd (f_X12_of g0_1 x1 0) (fun r_2 => bd (f_X12_likeBy g0_1 x2 r_2) (fun r_3 => J28 r_3)) else J28 0)))
abbrev rm_X12_alike : Room := { frames := 3, cells := 0, slots := 0, locals := 70 }
set_option maxHeartbeats 4000000 in
set_option maxRecDepth 100000 in
theorem c_X12_alike (l : Launch) (dC : Nat → ClassId) (dI : Nat → Nat → Nat) (sk sv : Nat → Nat) (tc : Nat → ClassId) (a0 : Nat → Nat) (g0 : Pic) (x1 : Int32) (x2 : Int32) {r0 : Int32} {G0 : Pic} (h : f_X12_alike g0 x1 x2 = some (r0, G0)) : CT l (dC, dI) sk sv (TY tc) yX12_alike cX12_alike 3 (some .int) rm_X12_alike [.ref (a0 0), .int x1, .int x2] (wM tc a0 g0) (some (.int r0)) (wM tc a0 G0) := by
  refine ofCT (by decide) (Nat.le_of_ble_eq_true rfl) ?_
  intro pr e s m args below meth c A Q ls H locs X hQ hD0 hP hS hl
  have hD : ∀ z0, va_D A (wM tc a0 z0) := fun z0 => D_fst (ws := (wM tc a0 g0)) rfl hD0
  have hl : lv_has ls 3 [(0, .ref (a0 0)), (1, .int x1), (2, .int x2)] := hl
  unfold f_X12_alike at h
  refine lv_aload_n X.1 X.2.1 dX12_alike_0 rfl (lv_at hl 0 rfl) ?_
  refine lv_iload_n X.1 X.2.1 dX12_alike_1 rfl (lv_at hl 1 rfl) ?_
  refine lv_iload_n X.1 X.2.1 dX12_alike_2 rfl (lv_at hl 2 rfl) ?_
  obtain ⟨g0_1, hc_1, h⟩ := bd_el h
  refine call_V1v (As := [.int x1, .int x2]) (rest := []) X (c_X12_areBoth l dC dI sk sv tc a0 g0 x1 x2 hc_1) mw_9_18 mw_9_20 mp_5_0 mw_1_12 mw_9_21 dc_X12_areBoth ⟨Nat.le_of_ble_eq_true rfl, Nat.le_of_ble_eq_true rfl⟩ rfl rfl ⟨Nat.zero_le _, Nat.zero_le _⟩ hP (hD _) hS 0 rfl rfl rfl hl.1 (Nat.le_of_ble_eq_true rfl) dX12_alike_3 (fun H locs hP hS => ?_)
  refine lv_aload_n X.1 X.2.1 dX12_alike_6 rfl (lv_at hl 0 rfl) ?_
  refine r_get (C := RX12) (T := TX12) (N := 28) (ci := 12) (v := .int (g0_1 0 0)) X iw12 hP 0 rfl rfl 0 rfl mw_7_120 rfl dX12_alike_7 ?_
  obtain ⟨J28, eJ28, h⟩ := jn_el h
  have HJ28 : ∀ (s0_J28 : Int32) (H : Heap) (locs : List Loc) (ls : Array Slot), J28 s0_J28 = some (r0, G0) → va_P (dC, dI) vwCl (wM tc a0 g0_1) H → va_S A s.heap H locs → lv_has ls 3 [] → W pr l e rm_X12_alike s m args below meth c H locs 0 0 Q (F0 m 28 ls [.int s0_J28]) := by
    intro s0_J28 H locs ls h hP hS hl
    rw [eJ28] at h
    exact ret_i (fun u => (wM tc a0 u)) (res := (r0, G0)) (Option.some.inj h) X hQ hP hS dX12_alike_28
  refine lv_if_le (tgt := 17) X.1 X.2.1 dX12_alike_10 (by decide) (fun hc => ?_) (fun hc => ?_)
  · have h := it_t hc h
    refine lv_aload_n X.1 X.2.1 dX12_alike_17 rfl (lv_at hl 0 rfl) ?_
    refine lv_iload_n X.1 X.2.1 dX12_alike_18 rfl (lv_at hl 2 rfl) ?_
    refine lv_aload_n X.1 X.2.1 dX12_alike_19 rfl (lv_at hl 0 rfl) ?_
    refine lv_iload_n X.1 X.2.1 dX12_alike_20 rfl (lv_at hl 1 rfl) ?_
    refine lv_iconst (v := 0) X.1 X.2.1 dX12_alike_21 (by decide) ?_
    obtain ⟨r_2, hc_2, h⟩ := bd_el h
    refine call_V1i (As := [.int x1, .int 0]) (rest := [.int x2, .ref (a0 0)]) X (c_X12_of l dC dI sk sv tc a0 g0_1 x1 0 hc_2) mw_8_180 mw_8_182 mp_4_1 mw_1_12 mw_8_183 dc_X12_of ⟨Nat.le_of_ble_eq_true rfl, Nat.le_of_ble_eq_true rfl⟩ rfl rfl ⟨Nat.zero_le _, Nat.zero_le _⟩ hP (hD _) hS 0 rfl rfl rfl hl.1 (Nat.le_of_ble_eq_true rfl) dX12_alike_22 (fun H locs hP hS => ?_)
    obtain ⟨r_3, hc_3, h⟩ := bd_el h
    refine call_V1i (As := [.int x2, .int r_2]) (rest := []) X (c_X12_likeBy l dC dI sk sv tc a0 g0_1 x2 r_2 hc_3) mw_8_203 mw_8_205 mp_4_6 mw_1_12 mw_8_206 dc_X12_likeBy ⟨Nat.le_of_ble_eq_true rfl, Nat.le_of_ble_eq_true rfl⟩ rfl rfl ⟨Nat.zero_le _, Nat.zero_le _⟩ hP (hD _) hS 0 rfl rfl rfl hl.1 (Nat.le_of_ble_eq_true rfl) dX12_alike_25 (fun H locs hP hS => ?_)
    exact HJ28 r_3 H locs ls h hP hS (lv_sub hl [] rfl)
  · have h := it_f hc h
    refine lv_iconst (v := 0) X.1 X.2.1 dX12_alike_13 (by decide) ?_
    refine lv_goto (tgt := 28) X.1 X.2.1 dX12_alike_14 (by decide) ?_
    exact HJ28 0 H locs ls h hP hS (lv_sub hl [] rfl)

def f_X12_reads (g0 : Pic) (x1 : Int32) (x2 : Int32) : Option (Int32 × Pic) := bd (f_X12_areBoth g0 x1 x2) (fun g0_1 => jn (fun (s0_J28 : Int32) => some (s0_J28, g0_1)) (fun J28 => (if (g0_1 0 0) ≤ 0 then bd (f_X12_of g0_1 x1 0) (fun r_2 => bd (f_X12_readBy g0_1 x2 r_2) (fun r_3 => J28 r_3)) else J28 0)))
abbrev rm_X12_reads : Room := { frames := 4, cells := 0, slots := 0, locals := 95 }
set_option maxHeartbeats 4000000 in
set_option maxRecDepth 100000 in
theorem c_X12_reads (l : Launch) (dC : Nat → ClassId) (dI : Nat → Nat → Nat) (sk sv : Nat → Nat) (tc : Nat → ClassId) (a0 : Nat → Nat) (g0 : Pic) (x1 : Int32) (x2 : Int32) {r0 : Int32} {G0 : Pic} (h : f_X12_reads g0 x1 x2 = some (r0, G0)) : CT l (dC, dI) sk sv (TY tc) yX12_reads cX12_reads 3 (some .int) rm_X12_reads [.ref (a0 0), .int x1, .int x2] (wM tc a0 g0) (some (.int r0)) (wM tc a0 G0) := by
  refine ofCT (by decide) (Nat.le_of_ble_eq_true rfl) ?_
  intro pr e s m args below meth c A Q ls H locs X hQ hD0 hP hS hl
  have hD : ∀ z0, va_D A (wM tc a0 z0) := fun z0 => D_fst (ws := (wM tc a0 g0)) rfl hD0
  have hl : lv_has ls 3 [(0, .ref (a0 0)), (1, .int x1), (2, .int x2)] := hl
  unfold f_X12_reads at h
  refine lv_aload_n X.1 X.2.1 dX12_reads_0 rfl (lv_at hl 0 rfl) ?_
  refine lv_iload_n X.1 X.2.1 dX12_reads_1 rfl (lv_at hl 1 rfl) ?_
  refine lv_iload_n X.1 X.2.1 dX12_reads_2 rfl (lv_at hl 2 rfl) ?_
  obtain ⟨g0_1, hc_1, h⟩ := bd_el h
  refine call_V1v (As := [.int x1, .int x2]) (rest := []) X (c_X12_areBoth l dC dI sk sv tc a0 g0 x1 x2 hc_1) mw_9_18 mw_9_20 mp_5_0 mw_1_12 mw_9_21 dc_X12_areBoth ⟨Nat.le_of_ble_eq_true rfl, Nat.le_of_ble_eq_true rfl⟩ rfl rfl ⟨Nat.zero_le _, Nat.zero_le _⟩ hP (hD _) hS 0 rfl rfl rfl hl.1 (Nat.le_of_ble_eq_true rfl) dX12_reads_3 (fun H locs hP hS => ?_)
  refine lv_aload_n X.1 X.2.1 dX12_reads_6 rfl (lv_at hl 0 rfl) ?_
  refine r_get (C := RX12) (T := TX12) (N := 28) (ci := 12) (v := .int (g0_1 0 0)) X iw12 hP 0 rfl rfl 0 rfl mw_7_120 rfl dX12_reads_7 ?_
  obtain ⟨J28, eJ28, h⟩ := jn_el h
  have HJ28 : ∀ (s0_J28 : Int32) (H : Heap) (locs : List Loc) (ls : Array Slot), J28 s0_J28 = some (r0, G0) → va_P (dC, dI) vwCl (wM tc a0 g0_1) H → va_S A s.heap H locs → lv_has ls 3 [] → W pr l e rm_X12_reads s m args below meth c H locs 0 0 Q (F0 m 28 ls [.int s0_J28]) := by
    intro s0_J28 H locs ls h hP hS hl
    rw [eJ28] at h
    exact ret_i (fun u => (wM tc a0 u)) (res := (r0, G0)) (Option.some.inj h) X hQ hP hS dX12_reads_28
  refine lv_if_le (tgt := 17) X.1 X.2.1 dX12_reads_10 (by decide) (fun hc => ?_) (fun hc => ?_)
  · have h := it_t hc h
    refine lv_aload_n X.1 X.2.1 dX12_reads_17 rfl (lv_at hl 0 rfl) ?_
    refine lv_iload_n X.1 X.2.1 dX12_reads_18 rfl (lv_at hl 2 rfl) ?_
    refine lv_aload_n X.1 X.2.1 dX12_reads_19 rfl (lv_at hl 0 rfl) ?_
    refine lv_iload_n X.1 X.2.1 dX12_reads_20 rfl (lv_at hl 1 rfl) ?_
    refine lv_iconst (v := 0) X.1 X.2.1 dX12_reads_21 (by decide) ?_
    obtain ⟨r_2, hc_2, h⟩ := bd_el h
    refine call_V1i (As := [.int x1, .int 0]) (rest := [.int x2, .ref (a0 0)]) X (c_X12_of l dC dI sk sv tc a0 g0_1 x1 0 hc_2) mw_8_180 mw_8_182 mp_4_1 mw_1_12 mw_8_183 dc_X12_of ⟨Nat.le_of_ble_eq_true rfl, Nat.le_of_ble_eq_true rfl⟩ rfl rfl ⟨Nat.zero_le _, Nat.zero_le _⟩ hP (hD _) hS 0 rfl rfl rfl hl.1 (Nat.le_of_ble_eq_true rfl) dX12_reads_22 (fun H locs hP hS => ?_)
    obtain ⟨r_3, hc_3, h⟩ := bd_el h
    refine call_V1i (As := [.int x2, .int r_2]) (rest := []) X (c_X12_readBy l dC dI sk sv tc a0 g0_1 x2 r_2 hc_3) mw_8_199 mw_8_201 mp_4_5 mw_1_12 mw_8_202 dc_X12_readBy ⟨Nat.le_of_ble_eq_true rfl, Nat.le_of_ble_eq_true rfl⟩ rfl rfl ⟨Nat.zero_le _, Nat.zero_le _⟩ hP (hD _) hS 0 rfl rfl rfl hl.1 (Nat.le_of_ble_eq_true rfl) dX12_reads_25 (fun H locs hP hS => ?_)
    exact HJ28 r_3 H locs ls h hP hS (lv_sub hl [] rfl)
  · have h := it_f hc h
    refine lv_iconst (v := 0) X.1 X.2.1 dX12_reads_13 (by decide) ?_
    refine lv_goto (tgt := 28) X.1 X.2.1 dX12_reads_14 (by decide) ?_
    exact HJ28 0 H locs ls h hP hS (lv_sub hl [] rfl)

def f_X12_keepsUp (g0 : Pic) (x1 : Int32) (x2 : Int32) : Option (Int32 × Pic) := bd (f_X12_areBoth g0 x1 x2) (fun g0_1 => jn (fun (s0_J27 : Int32) => gdb s0_J27 (some (s0_J27, g0_1))) (fun J27 => jn (fun (_ : Unit) => J27 0) (fun J26 => (if (g0_1 0 0) = 0 then bd (f_X12_doesKeep g0_1 x1 x2) (fun r_3 => (if r_3 = 0 then J26 () else J27 1)) else J26 ()))))
abbrev rm_X12_keepsUp : Room := { frames := 3, cells := 0, slots := 0, locals := 68 }
set_option maxHeartbeats 4000000 in
set_option maxRecDepth 100000 in
theorem c_X12_keepsUp (l : Launch) (dC : Nat → ClassId) (dI : Nat → Nat → Nat) (sk sv : Nat → Nat) (tc : Nat → ClassId) (a0 : Nat → Nat) (g0 : Pic) (x1 : Int32) (x2 : Int32) {r0 : Int32} {G0 : Pic} (h : f_X12_keepsUp g0 x1 x2 = some (r0, G0)) : CT l (dC, dI) sk sv (TY tc) yX12_keepsUp cX12_keepsUp 3 (some .boolean) rm_X12_keepsUp [.ref (a0 0), .int x1, .int x2] (wM tc a0 g0) (some (.int r0)) (wM tc a0 G0) := by
  refine ofCT (by decide) (Nat.le_of_ble_eq_true rfl) ?_
  intro pr e s m args below meth c A Q ls H locs X hQ hD0 hP hS hl
  have hD : ∀ z0, va_D A (wM tc a0 z0) := fun z0 => D_fst (ws := (wM tc a0 g0)) rfl hD0
  have hl : lv_has ls 3 [(0, .ref (a0 0)), (1, .int x1), (2, .int x2)] := hl
  unfold f_X12_keepsUp at h
  refine lv_aload_n X.1 X.2.1 dX12_keepsUp_0 rfl (lv_at hl 0 rfl) ?_
  refine lv_iload_n X.1 X.2.1 dX12_keepsUp_1 rfl (lv_at hl 1 rfl) ?_
  refine lv_iload_n X.1 X.2.1 dX12_keepsUp_2 rfl (lv_at hl 2 rfl) ?_
  obtain ⟨g0_1, hc_1, h⟩ := bd_el h
  refine call_V1v (As := [.int x1, .int x2]) (rest := []) X (c_X12_areBoth l dC dI sk sv tc a0 g0 x1 x2 hc_1) mw_9_18 mw_9_20 mp_5_0 mw_1_12 mw_9_21 dc_X12_areBoth ⟨Nat.le_of_ble_eq_true rfl, Nat.le_of_ble_eq_true rfl⟩ rfl rfl ⟨Nat.zero_le _, Nat.zero_le _⟩ hP (hD _) hS 0 rfl rfl rfl hl.1 (Nat.le_of_ble_eq_true rfl) dX12_keepsUp_3 (fun H locs hP hS => ?_)
  refine lv_aload_n X.1 X.2.1 dX12_keepsUp_6 rfl (lv_at hl 0 rfl) ?_
  refine r_get (C := RX12) (T := TX12) (N := 28) (ci := 12) (v := .int (g0_1 0 0)) X iw12 hP 0 rfl rfl 0 rfl mw_7_120 rfl dX12_keepsUp_7 ?_
  obtain ⟨J27, eJ27, h⟩ := jn_el h
  have HJ27 : ∀ (s0_J27 : Int32) (H : Heap) (locs : List Loc) (ls : Array Slot), J27 s0_J27 = some (r0, G0) → va_P (dC, dI) vwCl (wM tc a0 g0_1) H → va_S A s.heap H locs → lv_has ls 3 [] → W pr l e rm_X12_keepsUp s m args below meth c H locs 0 0 Q (F0 m 27 ls [.int s0_J27]) := by
    intro s0_J27 H locs ls h hP hS hl
    rw [eJ27] at h
    obtain ⟨hg_2, h⟩ := gdb_el h
    exact ret_z (fun u => (wM tc a0 u)) (res := (r0, G0)) hg_2 (Option.some.inj h) X hQ hP hS dX12_keepsUp_27
  obtain ⟨J26, eJ26, h⟩ := jn_el h
  have HJ26 : ∀ (_ : Unit) (H : Heap) (locs : List Loc) (ls : Array Slot), J26 () = some (r0, G0) → va_P (dC, dI) vwCl (wM tc a0 g0_1) H → va_S A s.heap H locs → lv_has ls 3 [] → W pr l e rm_X12_keepsUp s m args below meth c H locs 0 0 Q (F0 m 26 ls []) := by
    intro _ H locs ls h hP hS hl
    rw [eJ26] at h
    refine lv_iconst (v := 0) X.1 X.2.1 dX12_keepsUp_26 (by decide) ?_
    exact HJ27 0 H locs ls h hP hS (lv_sub hl [] rfl)
  refine lv_if_ne (tgt := 26) X.1 X.2.1 dX12_keepsUp_10 (by decide) (fun hc => ?_) (fun hc => ?_)
  · have h := it_f hc h
    exact HJ26 () H locs ls h hP hS (lv_sub hl [] rfl)
  · have h := it_t hc h
    refine lv_aload_n X.1 X.2.1 dX12_keepsUp_13 rfl (lv_at hl 0 rfl) ?_
    refine lv_iload_n X.1 X.2.1 dX12_keepsUp_14 rfl (lv_at hl 1 rfl) ?_
    refine lv_iload_n X.1 X.2.1 dX12_keepsUp_15 rfl (lv_at hl 2 rfl) ?_
    obtain ⟨r_3, hc_3, h⟩ := bd_el h
    refine call_V1i (As := [.int x1, .int x2]) (rest := []) X (c_X12_doesKeep l dC dI sk sv tc a0 g0_1 x1 x2 hc_3) mw_9_38 mw_9_40 mp_5_1 mw_1_12 mw_9_41 dc_X12_doesKeep ⟨Nat.le_of_ble_eq_true rfl, Nat.le_of_ble_eq_true rfl⟩ rfl rfl ⟨Nat.zero_le _, Nat.zero_le _⟩ hP (hD _) hS 0 rfl rfl rfl hl.1 (Nat.le_of_ble_eq_true rfl) dX12_keepsUp_16 (fun H locs hP hS => ?_)
    refine lv_if_eq (tgt := 26) X.1 X.2.1 dX12_keepsUp_19 (by decide) (fun hc => ?_) (fun hc => ?_)
    · have h := it_t hc h
      exact HJ26 () H locs ls h hP hS (lv_sub hl [] rfl)
    · have h := it_f hc h
      refine lv_iconst (v := 1) X.1 X.2.1 dX12_keepsUp_22 (by decide) ?_
      refine lv_goto (tgt := 27) X.1 X.2.1 dX12_keepsUp_23 (by decide) ?_
      exact HJ27 1 H locs ls h hP hS (lv_sub hl [] rfl)

def f_X12_remembers_L52 (n : Nat) (a : Int32 × Pic) : Option (Pic) := lp (fun (rec : Int32 × Pic → Option (Pic)) (a : Int32 × Pic) => match a with | (x1, g0) => (if 456 ≤ x1 then some g0 else gdi x1 856 (gdi ((456 * (g0 6 0)) + x1) 5472 (nm (pu g0 5 (((456 * (g0 6 0)) + x1).toNatClampNeg) (g0 1 (x1.toNatClampNeg))) (fun g0_3 => nm (x1 + 1) (fun x1_4 => rec (x1_4, g0_3))))))) n a
def f_X12_remembers_L11 (n : Nat) (a : Int32 × Pic) : Option (Pic) := lp (fun (rec : Int32 × Pic → Option (Pic)) (a : Int32 × Pic) => match a with | (x1, g0) => (if 5016 ≤ x1 then some g0 else gdi (x1 + 456) 5472 (gdi x1 5472 (nm (pu g0 5 (x1.toNatClampNeg) (g0 5 ((x1 + 456).toNatClampNeg))) (fun g0_9 => nm (x1 + 1) (fun x1_10 => rec (x1_10, g0_9))))))) n a
def f_X12_remembers (g0 : Pic) : Option (Pic) := jn (fun (g0_J50 : Pic) => bd (f_X12_remembers_L52  fu (0, g0_J50)) (fun g0_5 => nm (pu g0_5 6 0 ((g0_5 6 0) + 1)) (fun g0_6 => some g0_6))) (fun J50 => (if (g0 6 0) = 12 then bd (f_X12_remembers_L11  fu (0, g0)) (fun g0_11 => nm (pu g0_11 6 0 ((g0_11 6 0) - 1)) (fun g0_12 => J50 g0_12)) else J50 g0))
abbrev rm_X12_remembers : Room := { frames := 0, cells := 0, slots := 0, locals := 0 }
set_option maxHeartbeats 4000000 in
set_option maxRecDepth 100000 in
theorem c_X12_remembers (l : Launch) (dC : Nat → ClassId) (dI : Nat → Nat → Nat) (sk sv : Nat → Nat) (tc : Nat → ClassId) (a0 : Nat → Nat) (g0 : Pic) {G0 : Pic} (h : f_X12_remembers g0 = some G0) : CT l (dC, dI) sk sv (TY tc) yX12_remembers cX12_remembers 2 none rm_X12_remembers [.ref (a0 0)] (wM tc a0 g0) none (wM tc a0 G0) := by
  refine ofCT (by decide) (Nat.le_of_ble_eq_true rfl) ?_
  intro pr e s m args below meth c A Q ls H locs X hQ hD0 hP hS hl
  have hD : ∀ z0, va_D A (wM tc a0 z0) := fun z0 => D_fst (ws := (wM tc a0 g0)) rfl hD0
  have hl : lv_has ls 2 [(0, .ref (a0 0))] := hl
  have HL52 : ∀ (n : Nat) (x1 : Int32) (g0 : Pic) (ex : (Pic)), f_X12_remembers_L52  n (x1, g0) = some ex → ∀ (H : Heap) (locs : List Loc) (ls : Array Slot), va_P (dC, dI) vwCl (wM tc a0 g0) H → va_S A s.heap H locs → lv_has ls 2 [(0, .ref (a0 0)), (1, .int x1)] → (∀ (k0 : Pic), k0 = ex → ∀ (H : Heap) (locs : List Loc) (ls : Array Slot), va_P (dC, dI) vwCl (wM tc a0 k0) H → va_S A s.heap H locs → lv_has ls 2 [(0, .ref (a0 0))] → W pr l e rm_X12_remembers s m args below meth c H locs 0 0 Q (F0 m 86 ls [])) → W pr l e rm_X12_remembers s m args below meth c H locs 0 0 Q (F0 m 52 ls []) := by
    intro n
    induction n with
    | zero => intro x1 g0 ex h; exact lp_z h
    | succ n ih =>
      intro x1 g0 ex h H locs ls hP hS hl K
      have h := lp_s h
      refine lv_iload_n X.1 X.2.1 dX12_remembers_52 rfl (lv_at hl 1 rfl) ?_
      refine lv_sipush (v := 456) X.1 X.2.1 dX12_remembers_53 (by decide) ?_
      refine lv_icmp_ge (tgt := 86) X.1 X.2.1 dX12_remembers_56 (by decide) (fun hc => ?_) (fun hc => ?_)
      · have h := it_t hc h
        exact K g0 (Option.some.inj h) H locs ls hP hS (lv_sub hl [0] rfl)
      · have h := it_f hc h
        refine lv_aload_n X.1 X.2.1 dX12_remembers_59 rfl (lv_at hl 0 rfl) ?_
        refine r_get (C := RX12) (T := TX12) (N := 28) (ci := 12) (v := .ref (a0 6)) X iw12 hP 0 rfl rfl 5 rfl mw_7_125 rfl dX12_remembers_60 ?_
        refine lv_sipush (v := 456) X.1 X.2.1 dX12_remembers_63 (by decide) ?_
        refine lv_aload_n X.1 X.2.1 dX12_remembers_66 rfl (lv_at hl 0 rfl) ?_
        refine r_get (C := RX12) (T := TX12) (N := 28) (ci := 12) (v := .int (g0 6 0)) X iw12 hP 0 rfl rfl 6 rfl mw_7_126 rfl dX12_remembers_67 ?_
        refine lv_imul X.1 X.2.1 dX12_remembers_70 ?_
        refine lv_iload_n X.1 X.2.1 dX12_remembers_71 rfl (lv_at hl 1 rfl) ?_
        refine lv_iadd X.1 X.2.1 dX12_remembers_72 ?_
        refine lv_aload_n X.1 X.2.1 dX12_remembers_73 rfl (lv_at hl 0 rfl) ?_
        refine r_get (C := RX12) (T := TX12) (N := 28) (ci := 12) (v := .ref (a0 2)) X iw12 hP 0 rfl rfl 1 rfl mw_7_121 rfl dX12_remembers_74 ?_
        refine lv_iload_n X.1 X.2.1 dX12_remembers_77 rfl (lv_at hl 1 rfl) ?_
        obtain ⟨hg_1, h⟩ := gdi_el h
        refine r_iald X hP 1 0 rfl rfl hg_1 rfl dX12_remembers_78 ?_
        obtain ⟨hg_2, h⟩ := gdi_el h
        obtain ⟨g0_3, eg0_3, h⟩ := nm_el h
        refine r_iast X hP (hD _) hS 4 0 rfl rfl hg_2 rfl dX12_remembers_79 (wM tc a0 g0_3) (by rw [eg0_3]; rfl) (fun H locs hP hS => ?_)
        obtain ⟨x1_4, ex1_4, h⟩ := nm_el h
        refine lv_iinc (v := x1_4) (lv' := [(1, .int x1_4), (0, .ref (a0 0))]) X.1 X.2.1 dX12_remembers_80 hl (k := 1) rfl (by rw [ex1_4]; rfl) (by decide) rfl (fun ls hl => ?_)
        refine lv_goto (tgt := 52) X.1 X.2.1 dX12_remembers_83 (by decide) ?_
        exact ih x1_4 g0_3 ex h H locs ls hP hS (lv_sub hl [1, 0] rfl) K
  have HL11 : ∀ (n : Nat) (x1 : Int32) (g0 : Pic) (ex : (Pic)), f_X12_remembers_L11  n (x1, g0) = some ex → ∀ (H : Heap) (locs : List Loc) (ls : Array Slot), va_P (dC, dI) vwCl (wM tc a0 g0) H → va_S A s.heap H locs → lv_has ls 2 [(0, .ref (a0 0)), (1, .int x1)] → (∀ (k0 : Pic), k0 = ex → ∀ (H : Heap) (locs : List Loc) (ls : Array Slot), va_P (dC, dI) vwCl (wM tc a0 k0) H → va_S A s.heap H locs → lv_has ls 2 [(0, .ref (a0 0))] → W pr l e rm_X12_remembers s m args below meth c H locs 0 0 Q (F0 m 40 ls [])) → W pr l e rm_X12_remembers s m args below meth c H locs 0 0 Q (F0 m 11 ls []) := by
    intro n
    induction n with
    | zero => intro x1 g0 ex h; exact lp_z h
    | succ n ih =>
      intro x1 g0 ex h H locs ls hP hS hl K
      have h := lp_s h
      refine lv_iload_n X.1 X.2.1 dX12_remembers_11 rfl (lv_at hl 1 rfl) ?_
      refine lv_sipush (v := 5016) X.1 X.2.1 dX12_remembers_12 (by decide) ?_
      refine lv_icmp_ge (tgt := 40) X.1 X.2.1 dX12_remembers_15 (by decide) (fun hc => ?_) (fun hc => ?_)
      · have h := it_t hc h
        exact K g0 (Option.some.inj h) H locs ls hP hS (lv_sub hl [0] rfl)
      · have h := it_f hc h
        refine lv_aload_n X.1 X.2.1 dX12_remembers_18 rfl (lv_at hl 0 rfl) ?_
        refine r_get (C := RX12) (T := TX12) (N := 28) (ci := 12) (v := .ref (a0 6)) X iw12 hP 0 rfl rfl 5 rfl mw_7_125 rfl dX12_remembers_19 ?_
        refine lv_iload_n X.1 X.2.1 dX12_remembers_22 rfl (lv_at hl 1 rfl) ?_
        refine lv_aload_n X.1 X.2.1 dX12_remembers_23 rfl (lv_at hl 0 rfl) ?_
        refine r_get (C := RX12) (T := TX12) (N := 28) (ci := 12) (v := .ref (a0 6)) X iw12 hP 0 rfl rfl 5 rfl mw_7_125 rfl dX12_remembers_24 ?_
        refine lv_iload_n X.1 X.2.1 dX12_remembers_27 rfl (lv_at hl 1 rfl) ?_
        refine lv_sipush (v := 456) X.1 X.2.1 dX12_remembers_28 (by decide) ?_
        refine lv_iadd X.1 X.2.1 dX12_remembers_31 ?_
        obtain ⟨hg_7, h⟩ := gdi_el h
        refine r_iald X hP 4 0 rfl rfl hg_7 rfl dX12_remembers_32 ?_
        obtain ⟨hg_8, h⟩ := gdi_el h
        obtain ⟨g0_9, eg0_9, h⟩ := nm_el h
        refine r_iast X hP (hD _) hS 4 0 rfl rfl hg_8 rfl dX12_remembers_33 (wM tc a0 g0_9) (by rw [eg0_9]; rfl) (fun H locs hP hS => ?_)
        obtain ⟨x1_10, ex1_10, h⟩ := nm_el h
        refine lv_iinc (v := x1_10) (lv' := [(1, .int x1_10), (0, .ref (a0 0))]) X.1 X.2.1 dX12_remembers_34 hl (k := 1) rfl (by rw [ex1_10]; rfl) (by decide) rfl (fun ls hl => ?_)
        refine lv_goto (tgt := 11) X.1 X.2.1 dX12_remembers_37 (by decide) ?_
        exact ih x1_10 g0_9 ex h H locs ls hP hS (lv_sub hl [1, 0] rfl) K
  unfold f_X12_remembers at h
  refine lv_aload_n X.1 X.2.1 dX12_remembers_0 rfl (lv_at hl 0 rfl) ?_
  refine r_get (C := RX12) (T := TX12) (N := 28) (ci := 12) (v := .int (g0 6 0)) X iw12 hP 0 rfl rfl 6 rfl mw_7_126 rfl dX12_remembers_1 ?_
  refine lv_bipush (v := 12) X.1 X.2.1 dX12_remembers_4 (by decide) ?_
  obtain ⟨J50, eJ50, h⟩ := jn_el h
  have HJ50 : ∀ (g0_J50 : Pic) (H : Heap) (locs : List Loc) (ls : Array Slot), J50 g0_J50 = some G0 → va_P (dC, dI) vwCl (wM tc a0 g0_J50) H → va_S A s.heap H locs → lv_has ls 2 [(0, .ref (a0 0))] → W pr l e rm_X12_remembers s m args below meth c H locs 0 0 Q (F0 m 50 ls []) := by
    intro g0_J50 H locs ls h hP hS hl
    rw [eJ50] at h
    refine lv_iconst (v := 0) X.1 X.2.1 dX12_remembers_50 (by decide) ?_
    refine lv_istore_n (lv' := [(1, .int 0), (0, .ref (a0 0))]) X.1 X.2.1 dX12_remembers_51 rfl hl (by decide) rfl (fun ls hl => ?_)
    obtain ⟨ex_5, hL_5, h⟩ := bd_el h
    refine HL52  fu 0 g0_J50 ex_5 hL_5 H locs ls hP hS (lv_sub hl [1, 0] rfl) (fun g0_5 he H locs ls hP hS hl => ?_)
    subst he
    refine lv_aload_n X.1 X.2.1 dX12_remembers_86 rfl (lv_at hl 0 rfl) ?_
    refine lv_dup X.1 X.2.1 dX12_remembers_87 rfl ?_
    refine r_get (C := RX12) (T := TX12) (N := 28) (ci := 12) (v := .int (g0_5 6 0)) X iw12 hP 0 rfl rfl 6 rfl mw_7_126 rfl dX12_remembers_88 ?_
    refine lv_iconst (v := 1) X.1 X.2.1 dX12_remembers_91 (by decide) ?_
    refine lv_iadd X.1 X.2.1 dX12_remembers_92 ?_
    obtain ⟨g0_6, eg0_6, h⟩ := nm_el h
    refine r_put (C := RX12) (T := TX12) (N := 28) (ci := 12) tyX12 tyX12_ok nmX12 X iw12 hP (hD _) hS 0 rfl rfl 6 rfl mw_7_126 rfl rfl rfl rfl dX12_remembers_93 (wM tc a0 g0_6) (by rw [eg0_6]; rfl) (fun H locs hP hS => ?_)
    exact ret_v (fun u => (wM tc a0 u)) (res := G0) (Option.some.inj h) X hQ hP hS dX12_remembers_96
  refine lv_icmp_ne (tgt := 50) X.1 X.2.1 dX12_remembers_6 (by decide) (fun hc => ?_) (fun hc => ?_)
  · have h := it_f hc h
    exact HJ50 g0 H locs ls h hP hS (lv_sub hl [0] rfl)
  · have h := it_t hc h
    refine lv_iconst (v := 0) X.1 X.2.1 dX12_remembers_9 (by decide) ?_
    refine lv_istore_n (lv' := [(1, .int 0), (0, .ref (a0 0))]) X.1 X.2.1 dX12_remembers_10 rfl hl (by decide) rfl (fun ls hl => ?_)
    obtain ⟨ex_11, hL_11, h⟩ := bd_el h
    refine HL11  fu 0 g0 ex_11 hL_11 H locs ls hP hS (lv_sub hl [1, 0] rfl) (fun g0_11 he H locs ls hP hS hl => ?_)
    subst he
    refine lv_aload_n X.1 X.2.1 dX12_remembers_40 rfl (lv_at hl 0 rfl) ?_
    refine lv_dup X.1 X.2.1 dX12_remembers_41 rfl ?_
    refine r_get (C := RX12) (T := TX12) (N := 28) (ci := 12) (v := .int (g0_11 6 0)) X iw12 hP 0 rfl rfl 6 rfl mw_7_126 rfl dX12_remembers_42 ?_
    refine lv_iconst (v := 1) X.1 X.2.1 dX12_remembers_45 (by decide) ?_
    refine lv_isub X.1 X.2.1 dX12_remembers_46 ?_
    obtain ⟨g0_12, eg0_12, h⟩ := nm_el h
    refine r_put (C := RX12) (T := TX12) (N := 28) (ci := 12) tyX12 tyX12_ok nmX12 X iw12 hP (hD _) hS 0 rfl rfl 6 rfl mw_7_126 rfl rfl rfl rfl dX12_remembers_47 (wM tc a0 g0_12) (by rw [eg0_12]; rfl) (fun H locs hP hS => ?_)
    exact HJ50 g0_12 H locs ls h hP hS (lv_sub hl [0] rfl)

def f_X12_sets (g0 : Pic) (x1 : Int32) (x2 : Int32) : Option (Int32 × Pic) := bd (f_X12_remembers g0) (fun g0_1 => gdi x1 856 (nm ((g0_1 1 (x1.toNatClampNeg))) (fun x3_3 => gdi x1 856 (nm (pu g0_1 1 (x1.toNatClampNeg) x2) (fun g0_5 => some (x3_3, g0_5))))))
abbrev rm_X12_sets : Room := { frames := 1, cells := 0, slots := 0, locals := 21 }
set_option maxHeartbeats 4000000 in
set_option maxRecDepth 100000 in
theorem c_X12_sets (l : Launch) (dC : Nat → ClassId) (dI : Nat → Nat → Nat) (sk sv : Nat → Nat) (tc : Nat → ClassId) (a0 : Nat → Nat) (g0 : Pic) (x1 : Int32) (x2 : Int32) {r0 : Int32} {G0 : Pic} (h : f_X12_sets g0 x1 x2 = some (r0, G0)) : CT l (dC, dI) sk sv (TY tc) yX12_sets cX12_sets 4 (some .int) rm_X12_sets [.ref (a0 0), .int x1, .int x2] (wM tc a0 g0) (some (.int r0)) (wM tc a0 G0) := by
  refine ofCT (by decide) (Nat.le_of_ble_eq_true rfl) ?_
  intro pr e s m args below meth c A Q ls H locs X hQ hD0 hP hS hl
  have hD : ∀ z0, va_D A (wM tc a0 z0) := fun z0 => D_fst (ws := (wM tc a0 g0)) rfl hD0
  have hl : lv_has ls 4 [(0, .ref (a0 0)), (1, .int x1), (2, .int x2)] := hl
  unfold f_X12_sets at h
  refine lv_aload_n X.1 X.2.1 dX12_sets_0 rfl (lv_at hl 0 rfl) ?_
  obtain ⟨g0_1, hc_1, h⟩ := bd_el h
  refine call_V1v (As := []) (rest := []) X (c_X12_remembers l dC dI sk sv tc a0 g0 hc_1) mw_9_58 mw_9_60 mp_5_4 mw_1_12 mw_9_61 dc_X12_remembers ⟨Nat.le_of_ble_eq_true rfl, Nat.le_of_ble_eq_true rfl⟩ rfl rfl ⟨Nat.zero_le _, Nat.zero_le _⟩ hP (hD _) hS 0 rfl rfl rfl hl.1 (Nat.le_of_ble_eq_true rfl) dX12_sets_1 (fun H locs hP hS => ?_)
  refine lv_aload_n X.1 X.2.1 dX12_sets_4 rfl (lv_at hl 0 rfl) ?_
  refine r_get (C := RX12) (T := TX12) (N := 28) (ci := 12) (v := .ref (a0 2)) X iw12 hP 0 rfl rfl 1 rfl mw_7_121 rfl dX12_sets_5 ?_
  refine lv_iload_n X.1 X.2.1 dX12_sets_8 rfl (lv_at hl 1 rfl) ?_
  obtain ⟨hg_2, h⟩ := gdi_el h
  refine r_iald X hP 1 0 rfl rfl hg_2 rfl dX12_sets_9 ?_
  obtain ⟨x3_3, ex3_3, h⟩ := nm_el h
  refine tp_i ex3_3 ?_
  refine lv_istore_n (lv' := [(3, .int x3_3), (0, .ref (a0 0)), (1, .int x1), (2, .int x2)]) X.1 X.2.1 dX12_sets_10 rfl hl (by decide) rfl (fun ls hl => ?_)
  refine lv_aload_n X.1 X.2.1 dX12_sets_11 rfl (lv_at hl 1 rfl) ?_
  refine r_get (C := RX12) (T := TX12) (N := 28) (ci := 12) (v := .ref (a0 2)) X iw12 hP 0 rfl rfl 1 rfl mw_7_121 rfl dX12_sets_12 ?_
  refine lv_iload_n X.1 X.2.1 dX12_sets_15 rfl (lv_at hl 2 rfl) ?_
  refine lv_iload_n X.1 X.2.1 dX12_sets_16 rfl (lv_at hl 3 rfl) ?_
  obtain ⟨hg_4, h⟩ := gdi_el h
  obtain ⟨g0_5, eg0_5, h⟩ := nm_el h
  refine r_iast X hP (hD _) hS 1 0 rfl rfl hg_4 rfl dX12_sets_17 (wM tc a0 g0_5) (by rw [eg0_5]; rfl) (fun H locs hP hS => ?_)
  refine lv_iload_n X.1 X.2.1 dX12_sets_18 rfl (lv_at hl 0 rfl) ?_
  exact ret_i (fun u => (wM tc a0 u)) (res := (r0, G0)) (Option.some.inj h) X hQ hP hS dX12_sets_19

def f_X12_speak (g0 : Pic) (x1 : Int32) : Option (Int32 × Pic) := bd (f_X12_isWord g0 x1) (fun r_1 => jn (fun (s1_J29 : Int32) => nm (pu g0 0 0 s1_J29) (fun g0_2 => (if (g0_2 0 0) ≤ 0 then bd2 (f_X12_sets g0_2 (76 + (g0_2 1 5)) x1) (fun r_3 g0_3 => nm (pu g0_3 1 5 ((g0_3 1 5) + 1)) (fun g0_4 => some ((g0_4 1 5), g0_4))) else some (0, g0_2)))) (fun J29 => (if r_1 = 0 then J29 1 else (if (g0 1 5) = 20 then J29 2 else J29 0))))
abbrev rm_X12_speak : Room := { frames := 2, cells := 0, slots := 0, locals := 44 }
set_option maxHeartbeats 4000000 in
set_option maxRecDepth 100000 in
theorem c_X12_speak (l : Launch) (dC : Nat → ClassId) (dI : Nat → Nat → Nat) (sk sv : Nat → Nat) (tc : Nat → ClassId) (a0 : Nat → Nat) (g0 : Pic) (x1 : Int32) {r0 : Int32} {G0 : Pic} (h : f_X12_speak g0 x1 = some (r0, G0)) : CT l (dC, dI) sk sv (TY tc) yX12_speak cX12_speak 3 (some .int) rm_X12_speak [.ref (a0 0), .int x1] (wM tc a0 g0) (some (.int r0)) (wM tc a0 G0) := by
  refine ofCT (by decide) (Nat.le_of_ble_eq_true rfl) ?_
  intro pr e s m args below meth c A Q ls H locs X hQ hD0 hP hS hl
  have hD : ∀ z0, va_D A (wM tc a0 z0) := fun z0 => D_fst (ws := (wM tc a0 g0)) rfl hD0
  have hl : lv_has ls 3 [(0, .ref (a0 0)), (1, .int x1)] := hl
  unfold f_X12_speak at h
  refine lv_aload_n X.1 X.2.1 dX12_speak_0 rfl (lv_at hl 0 rfl) ?_
  refine lv_aload_n X.1 X.2.1 dX12_speak_1 rfl (lv_at hl 0 rfl) ?_
  refine lv_iload_n X.1 X.2.1 dX12_speak_2 rfl (lv_at hl 1 rfl) ?_
  obtain ⟨r_1, hc_1, h⟩ := bd_el h
  refine call_V1i (As := [.int x1]) (rest := [.ref (a0 0)]) X (c_X12_isWord l dC dI sk sv tc a0 g0 x1 hc_1) mw_8_136 mw_8_138 mp_3_9 mw_1_12 mw_8_139 dc_X12_isWord ⟨Nat.le_of_ble_eq_true rfl, Nat.le_of_ble_eq_true rfl⟩ rfl rfl ⟨Nat.zero_le _, Nat.zero_le _⟩ hP (hD _) hS 0 rfl rfl rfl hl.1 (Nat.le_of_ble_eq_true rfl) dX12_speak_3 (fun H locs hP hS => ?_)
  obtain ⟨J29, eJ29, h⟩ := jn_el h
  have HJ29 : ∀ (s1_J29 : Int32) (H : Heap) (locs : List Loc) (ls : Array Slot), J29 s1_J29 = some (r0, G0) → va_P (dC, dI) vwCl (wM tc a0 g0) H → va_S A s.heap H locs → lv_has ls 3 [(0, .ref (a0 0)), (1, .int x1)] → W pr l e rm_X12_speak s m args below meth c H locs 0 0 Q (F0 m 29 ls [.int s1_J29, .ref (a0 0)]) := by
    intro s1_J29 H locs ls h hP hS hl
    rw [eJ29] at h
    obtain ⟨g0_2, eg0_2, h⟩ := nm_el h
    refine r_put (C := RX12) (T := TX12) (N := 28) (ci := 12) tyX12 tyX12_ok nmX12 X iw12 hP (hD _) hS 0 rfl rfl 0 rfl mw_7_120 rfl rfl rfl rfl dX12_speak_29 (wM tc a0 g0_2) (by rw [eg0_2]; rfl) (fun H locs hP hS => ?_)
    refine lv_aload_n X.1 X.2.1 dX12_speak_32 rfl (lv_at hl 0 rfl) ?_
    refine r_get (C := RX12) (T := TX12) (N := 28) (ci := 12) (v := .int (g0_2 0 0)) X iw12 hP 0 rfl rfl 0 rfl mw_7_120 rfl dX12_speak_33 ?_
    refine lv_if_le (tgt := 41) X.1 X.2.1 dX12_speak_36 (by decide) (fun hc => ?_) (fun hc => ?_)
    · have h := it_t hc h
      refine lv_aload_n X.1 X.2.1 dX12_speak_41 rfl (lv_at hl 0 rfl) ?_
      refine lv_bipush (v := 76) X.1 X.2.1 dX12_speak_42 (by decide) ?_
      refine lv_aload_n X.1 X.2.1 dX12_speak_44 rfl (lv_at hl 0 rfl) ?_
      refine r_get (C := RX12) (T := TX12) (N := 28) (ci := 12) (v := .ref (a0 2)) X iw12 hP 0 rfl rfl 1 rfl mw_7_121 rfl dX12_speak_45 ?_
      refine lv_iconst (v := 5) X.1 X.2.1 dX12_speak_48 (by decide) ?_
      refine r_iald X hP 1 0 rfl rfl (j := 5) (by unfold vp_in; decide) (by decide) dX12_speak_49 ?_
      refine lv_iadd X.1 X.2.1 dX12_speak_50 ?_
      refine lv_iload_n X.1 X.2.1 dX12_speak_51 rfl (lv_at hl 1 rfl) ?_
      obtain ⟨r_3, g0_3, hc_3, h⟩ := bd2_el h
      refine call_V1i (As := [.int (76 + (g0_2 1 5)), .int x1]) (rest := []) X (c_X12_sets l dC dI sk sv tc a0 g0_2 (76 + (g0_2 1 5)) x1 hc_3) mw_9_91 mw_9_93 mp_5_11 mw_1_12 mw_9_94 dc_X12_sets ⟨Nat.le_of_ble_eq_true rfl, Nat.le_of_ble_eq_true rfl⟩ rfl rfl ⟨Nat.zero_le _, Nat.zero_le _⟩ hP (hD _) hS 0 rfl rfl rfl hl.1 (Nat.le_of_ble_eq_true rfl) dX12_speak_52 (fun H locs hP hS => ?_)
      refine lv_istore_n (lv' := [(2, .int r_3), (0, .ref (a0 0)), (1, .int x1)]) X.1 X.2.1 dX12_speak_55 rfl hl (by decide) rfl (fun ls hl => ?_)
      refine lv_aload_n X.1 X.2.1 dX12_speak_56 rfl (lv_at hl 1 rfl) ?_
      refine r_get (C := RX12) (T := TX12) (N := 28) (ci := 12) (v := .ref (a0 2)) X iw12 hP 0 rfl rfl 1 rfl mw_7_121 rfl dX12_speak_57 ?_
      refine lv_iconst (v := 5) X.1 X.2.1 dX12_speak_60 (by decide) ?_
      refine lv_dup2_11 X.1 X.2.1 dX12_speak_61 rfl rfl ?_
      refine r_iald X hP 1 0 rfl rfl (j := 5) (by unfold vp_in; decide) (by decide) dX12_speak_62 ?_
      refine lv_iconst (v := 1) X.1 X.2.1 dX12_speak_63 (by decide) ?_
      refine lv_iadd X.1 X.2.1 dX12_speak_64 ?_
      obtain ⟨g0_4, eg0_4, h⟩ := nm_el h
      refine r_iast X hP (hD _) hS 1 0 rfl rfl (j := 5) (by unfold vp_in; decide) (by decide) dX12_speak_65 (wM tc a0 g0_4) (by rw [eg0_4]; rfl) (fun H locs hP hS => ?_)
      refine lv_aload_n X.1 X.2.1 dX12_speak_66 rfl (lv_at hl 1 rfl) ?_
      refine r_get (C := RX12) (T := TX12) (N := 28) (ci := 12) (v := .ref (a0 2)) X iw12 hP 0 rfl rfl 1 rfl mw_7_121 rfl dX12_speak_67 ?_
      refine lv_iconst (v := 5) X.1 X.2.1 dX12_speak_70 (by decide) ?_
      refine r_iald X hP 1 0 rfl rfl (j := 5) (by unfold vp_in; decide) (by decide) dX12_speak_71 ?_
      exact ret_i (fun u => (wM tc a0 u)) (res := (r0, G0)) (Option.some.inj h) X hQ hP hS dX12_speak_72
    · have h := it_f hc h
      refine lv_iconst (v := 0) X.1 X.2.1 dX12_speak_39 (by decide) ?_
      exact ret_i (fun u => (wM tc a0 u)) (res := (r0, G0)) (Option.some.inj h) X hQ hP hS dX12_speak_40
  refine lv_if_ne (tgt := 13) X.1 X.2.1 dX12_speak_6 (by decide) (fun hc => ?_) (fun hc => ?_)
  · have h := it_f hc h
    refine lv_aload_n X.1 X.2.1 dX12_speak_13 rfl (lv_at hl 0 rfl) ?_
    refine r_get (C := RX12) (T := TX12) (N := 28) (ci := 12) (v := .ref (a0 2)) X iw12 hP 0 rfl rfl 1 rfl mw_7_121 rfl dX12_speak_14 ?_
    refine lv_iconst (v := 5) X.1 X.2.1 dX12_speak_17 (by decide) ?_
    refine r_iald X hP 1 0 rfl rfl (j := 5) (by unfold vp_in; decide) (by decide) dX12_speak_18 ?_
    refine lv_bipush (v := 20) X.1 X.2.1 dX12_speak_19 (by decide) ?_
    refine lv_icmp_ne (tgt := 28) X.1 X.2.1 dX12_speak_21 (by decide) (fun hc => ?_) (fun hc => ?_)
    · have h := it_f hc h
      refine lv_iconst (v := 0) X.1 X.2.1 dX12_speak_28 (by decide) ?_
      exact HJ29 0 H locs ls h hP hS (lv_sub hl [0, 1] rfl)
    · have h := it_t hc h
      refine lv_iconst (v := 2) X.1 X.2.1 dX12_speak_24 (by decide) ?_
      refine lv_goto (tgt := 29) X.1 X.2.1 dX12_speak_25 (by decide) ?_
      exact HJ29 2 H locs ls h hP hS (lv_sub hl [0, 1] rfl)
  · have h := it_t hc h
    refine lv_iconst (v := 1) X.1 X.2.1 dX12_speak_9 (by decide) ?_
    refine lv_goto (tgt := 29) X.1 X.2.1 dX12_speak_10 (by decide) ?_
    exact HJ29 1 H locs ls h hP hS (lv_sub hl [0, 1] rfl)

def f_X12_leave (g0 : Pic) (x1 : Int32) (x2 : Int32) (x3 : Int32) : Option (Int32 × Pic) := bd (f_X12_isWriter g0 x1) (fun r_1 => jn (fun (s1_J24 : Int32) => nm (pu g0 0 0 s1_J24) (fun g0_2 => (if (g0_2 0 0) ≤ 0 then bd (f_X12_of g0_2 x1 0) (fun r_3 => jn (fun (s1_J74 : Int32) (s2_J74 : Int32) => bd2 (f_X12_sets g0_2 s1_J74 s2_J74) (fun r_4 g0_4 => bd (f_X12_of g0_4 x1 0) (fun r_5 => jn (fun (s0_J91 : Int32) => gdb s0_J91 (some (s0_J91, g0_4))) (fun J91 => (if r_4 = r_5 then J91 0 else J91 1))))) (fun J74 => (if x3 = 0 then J74 ((96 + (4 * x1)) + 0) (r_3 &&& ((1 <<< (x2 &&& 31)) ^^^ (-1))) else J74 ((96 + (4 * x1)) + 0) (r_3 ||| (1 <<< (x2 &&& 31)))))) else some (0, g0_2)))) (fun J24 => jn (fun (_ : Unit) => J24 1) (fun J19 => (if r_1 = 0 then J19 () else bd (f_X12_isIn x2 0 7) (fun r_7 => (if r_7 = 0 then J19 () else J24 0))))))
abbrev rm_X12_leave : Room := { frames := 2, cells := 0, slots := 0, locals := 44 }
set_option maxHeartbeats 4000000 in
set_option maxRecDepth 100000 in
theorem c_X12_leave (l : Launch) (dC : Nat → ClassId) (dI : Nat → Nat → Nat) (sk sv : Nat → Nat) (tc : Nat → ClassId) (a0 : Nat → Nat) (g0 : Pic) (x1 : Int32) (x2 : Int32) (x3 : Int32) {r0 : Int32} {G0 : Pic} (h : f_X12_leave g0 x1 x2 x3 = some (r0, G0)) : CT l (dC, dI) sk sv (TY tc) yX12_leave cX12_leave 5 (some .boolean) rm_X12_leave [.ref (a0 0), .int x1, .int x2, .int x3] (wM tc a0 g0) (some (.int r0)) (wM tc a0 G0) := by
  refine ofCT (by decide) (Nat.le_of_ble_eq_true rfl) ?_
  intro pr e s m args below meth c A Q ls H locs X hQ hD0 hP hS hl
  have hD : ∀ z0, va_D A (wM tc a0 z0) := fun z0 => D_fst (ws := (wM tc a0 g0)) rfl hD0
  have hl : lv_has ls 5 [(0, .ref (a0 0)), (1, .int x1), (2, .int x2), (3, .int x3)] := hl
  unfold f_X12_leave at h
  refine lv_aload_n X.1 X.2.1 dX12_leave_0 rfl (lv_at hl 0 rfl) ?_
  refine lv_aload_n X.1 X.2.1 dX12_leave_1 rfl (lv_at hl 0 rfl) ?_
  refine lv_iload_n X.1 X.2.1 dX12_leave_2 rfl (lv_at hl 1 rfl) ?_
  obtain ⟨r_1, hc_1, h⟩ := bd_el h
  refine call_V1i (As := [.int x1]) (rest := [.ref (a0 0)]) X (c_X12_isWriter l dC dI sk sv tc a0 g0 x1 hc_1) mw_8_176 mw_8_178 mp_4_0 mw_1_12 mw_8_179 dc_X12_isWriter ⟨Nat.le_of_ble_eq_true rfl, Nat.le_of_ble_eq_true rfl⟩ rfl rfl ⟨Nat.zero_le _, Nat.zero_le _⟩ hP (hD _) hS 0 rfl rfl rfl hl.1 (Nat.le_of_ble_eq_true rfl) dX12_leave_3 (fun H locs hP hS => ?_)
  obtain ⟨J24, eJ24, h⟩ := jn_el h
  have HJ24 : ∀ (s1_J24 : Int32) (H : Heap) (locs : List Loc) (ls : Array Slot), J24 s1_J24 = some (r0, G0) → va_P (dC, dI) vwCl (wM tc a0 g0) H → va_S A s.heap H locs → lv_has ls 5 [(0, .ref (a0 0)), (1, .int x1), (2, .int x2), (3, .int x3)] → W pr l e rm_X12_leave s m args below meth c H locs 0 0 Q (F0 m 24 ls [.int s1_J24, .ref (a0 0)]) := by
    intro s1_J24 H locs ls h hP hS hl
    rw [eJ24] at h
    obtain ⟨g0_2, eg0_2, h⟩ := nm_el h
    refine r_put (C := RX12) (T := TX12) (N := 28) (ci := 12) tyX12 tyX12_ok nmX12 X iw12 hP (hD _) hS 0 rfl rfl 0 rfl mw_7_120 rfl rfl rfl rfl dX12_leave_24 (wM tc a0 g0_2) (by rw [eg0_2]; rfl) (fun H locs hP hS => ?_)
    refine lv_aload_n X.1 X.2.1 dX12_leave_27 rfl (lv_at hl 0 rfl) ?_
    refine r_get (C := RX12) (T := TX12) (N := 28) (ci := 12) (v := .int (g0_2 0 0)) X iw12 hP 0 rfl rfl 0 rfl mw_7_120 rfl dX12_leave_28 ?_
    refine lv_if_le (tgt := 36) X.1 X.2.1 dX12_leave_31 (by decide) (fun hc => ?_) (fun hc => ?_)
    · have h := it_t hc h
      refine lv_aload_n X.1 X.2.1 dX12_leave_36 rfl (lv_at hl 0 rfl) ?_
      refine lv_iload_n X.1 X.2.1 dX12_leave_37 rfl (lv_at hl 1 rfl) ?_
      refine lv_iconst (v := 0) X.1 X.2.1 dX12_leave_38 (by decide) ?_
      obtain ⟨r_3, hc_3, h⟩ := bd_el h
      refine call_V1i (As := [.int x1, .int 0]) (rest := []) X (c_X12_of l dC dI sk sv tc a0 g0_2 x1 0 hc_3) mw_8_180 mw_8_182 mp_4_1 mw_1_12 mw_8_183 dc_X12_of ⟨Nat.le_of_ble_eq_true rfl, Nat.le_of_ble_eq_true rfl⟩ rfl rfl ⟨Nat.zero_le _, Nat.zero_le _⟩ hP (hD _) hS 0 rfl rfl rfl hl.1 (Nat.le_of_ble_eq_true rfl) dX12_leave_39 (fun H locs hP hS => ?_)
      refine lv_istore (lv' := [(4, .int r_3), (0, .ref (a0 0)), (1, .int x1), (2, .int x2), (3, .int x3)]) X.1 X.2.1 dX12_leave_42 hl (by decide) rfl (fun ls hl => ?_)
      refine lv_aload_n X.1 X.2.1 dX12_leave_44 rfl (lv_at hl 1 rfl) ?_
      refine lv_bipush (v := 96) X.1 X.2.1 dX12_leave_45 (by decide) ?_
      refine lv_iconst (v := 4) X.1 X.2.1 dX12_leave_47 (by decide) ?_
      refine lv_iload_n X.1 X.2.1 dX12_leave_48 rfl (lv_at hl 2 rfl) ?_
      refine lv_imul X.1 X.2.1 dX12_leave_49 ?_
      refine lv_iadd X.1 X.2.1 dX12_leave_50 ?_
      refine lv_iconst (v := 0) X.1 X.2.1 dX12_leave_51 (by decide) ?_
      refine lv_iadd X.1 X.2.1 dX12_leave_52 ?_
      refine lv_iload_n X.1 X.2.1 dX12_leave_53 rfl (lv_at hl 4 rfl) ?_
      obtain ⟨J74, eJ74, h⟩ := jn_el h
      have HJ74 : ∀ (s1_J74 : Int32) (s2_J74 : Int32) (H : Heap) (locs : List Loc) (ls : Array Slot), J74 s1_J74 s2_J74 = some (r0, G0) → va_P (dC, dI) vwCl (wM tc a0 g0_2) H → va_S A s.heap H locs → lv_has ls 5 [(0, .ref (a0 0)), (1, .int x1)] → W pr l e rm_X12_leave s m args below meth c H locs 0 0 Q (F0 m 74 ls [.int s2_J74, .int s1_J74, .ref (a0 0)]) := by
        intro s1_J74 s2_J74 H locs ls h hP hS hl
        rw [eJ74] at h
        obtain ⟨r_4, g0_4, hc_4, h⟩ := bd2_el h
        refine call_V1i (As := [.int s1_J74, .int s2_J74]) (rest := []) X (c_X12_sets l dC dI sk sv tc a0 g0_2 s1_J74 s2_J74 hc_4) mw_9_91 mw_9_93 mp_5_11 mw_1_12 mw_9_94 dc_X12_sets ⟨Nat.le_of_ble_eq_true rfl, Nat.le_of_ble_eq_true rfl⟩ rfl rfl ⟨Nat.zero_le _, Nat.zero_le _⟩ hP (hD _) hS 0 rfl rfl rfl hl.1 (Nat.le_of_ble_eq_true rfl) dX12_leave_74 (fun H locs hP hS => ?_)
        refine lv_aload_n X.1 X.2.1 dX12_leave_77 rfl (lv_at hl 0 rfl) ?_
        refine lv_iload_n X.1 X.2.1 dX12_leave_78 rfl (lv_at hl 1 rfl) ?_
        refine lv_iconst (v := 0) X.1 X.2.1 dX12_leave_79 (by decide) ?_
        obtain ⟨r_5, hc_5, h⟩ := bd_el h
        refine call_V1i (As := [.int x1, .int 0]) (rest := [.int r_4]) X (c_X12_of l dC dI sk sv tc a0 g0_4 x1 0 hc_5) mw_8_180 mw_8_182 mp_4_1 mw_1_12 mw_8_183 dc_X12_of ⟨Nat.le_of_ble_eq_true rfl, Nat.le_of_ble_eq_true rfl⟩ rfl rfl ⟨Nat.zero_le _, Nat.zero_le _⟩ hP (hD _) hS 0 rfl rfl rfl hl.1 (Nat.le_of_ble_eq_true rfl) dX12_leave_80 (fun H locs hP hS => ?_)
        obtain ⟨J91, eJ91, h⟩ := jn_el h
        have HJ91 : ∀ (s0_J91 : Int32) (H : Heap) (locs : List Loc) (ls : Array Slot), J91 s0_J91 = some (r0, G0) → va_P (dC, dI) vwCl (wM tc a0 g0_4) H → va_S A s.heap H locs → lv_has ls 5 [] → W pr l e rm_X12_leave s m args below meth c H locs 0 0 Q (F0 m 91 ls [.int s0_J91]) := by
          intro s0_J91 H locs ls h hP hS hl
          rw [eJ91] at h
          obtain ⟨hg_6, h⟩ := gdb_el h
          exact ret_z (fun u => (wM tc a0 u)) (res := (r0, G0)) hg_6 (Option.some.inj h) X hQ hP hS dX12_leave_91
        refine lv_icmp_eq (tgt := 90) X.1 X.2.1 dX12_leave_83 (by decide) (fun hc => ?_) (fun hc => ?_)
        · have h := it_t hc h
          refine lv_iconst (v := 0) X.1 X.2.1 dX12_leave_90 (by decide) ?_
          exact HJ91 0 H locs ls h hP hS (lv_sub hl [] rfl)
        · have h := it_f hc h
          refine lv_iconst (v := 1) X.1 X.2.1 dX12_leave_86 (by decide) ?_
          refine lv_goto (tgt := 91) X.1 X.2.1 dX12_leave_87 (by decide) ?_
          exact HJ91 1 H locs ls h hP hS (lv_sub hl [] rfl)
      refine lv_if_eq (tgt := 66) X.1 X.2.1 dX12_leave_54 (by decide) (fun hc => ?_) (fun hc => ?_)
      · have h := it_t hc h
        refine lv_iload X.1 X.2.1 dX12_leave_66 (lv_at hl 0 rfl) ?_
        refine lv_iconst (v := 1) X.1 X.2.1 dX12_leave_68 (by decide) ?_
        refine lv_iload_n X.1 X.2.1 dX12_leave_69 rfl (lv_at hl 3 rfl) ?_
        refine lv_ishl X.1 X.2.1 dX12_leave_70 ?_
        refine lv_iconst (v := (-1)) X.1 X.2.1 dX12_leave_71 (by decide) ?_
        refine lv_ixor X.1 X.2.1 dX12_leave_72 ?_
        refine lv_iand X.1 X.2.1 dX12_leave_73 ?_
        exact HJ74 ((96 + (4 * x1)) + 0) (r_3 &&& ((1 <<< (x2 &&& 31)) ^^^ (-1))) H locs ls h hP hS (lv_sub hl [1, 2] rfl)
      · have h := it_f hc h
        refine lv_iload X.1 X.2.1 dX12_leave_57 (lv_at hl 0 rfl) ?_
        refine lv_iconst (v := 1) X.1 X.2.1 dX12_leave_59 (by decide) ?_
        refine lv_iload_n X.1 X.2.1 dX12_leave_60 rfl (lv_at hl 3 rfl) ?_
        refine lv_ishl X.1 X.2.1 dX12_leave_61 ?_
        refine lv_ior X.1 X.2.1 dX12_leave_62 ?_
        refine lv_goto (tgt := 74) X.1 X.2.1 dX12_leave_63 (by decide) ?_
        exact HJ74 ((96 + (4 * x1)) + 0) (r_3 ||| (1 <<< (x2 &&& 31))) H locs ls h hP hS (lv_sub hl [1, 2] rfl)
    · have h := it_f hc h
      refine lv_iconst (v := 0) X.1 X.2.1 dX12_leave_34 (by decide) ?_
      exact ret_z (fun u => (wM tc a0 u)) (res := (r0, G0)) (by decide) (Option.some.inj h) X hQ hP hS dX12_leave_35
  obtain ⟨J19, eJ19, h⟩ := jn_el h
  have HJ19 : ∀ (_ : Unit) (H : Heap) (locs : List Loc) (ls : Array Slot), J19 () = some (r0, G0) → va_P (dC, dI) vwCl (wM tc a0 g0) H → va_S A s.heap H locs → lv_has ls 5 [(0, .ref (a0 0)), (1, .int x1), (2, .int x2), (3, .int x3)] → W pr l e rm_X12_leave s m args below meth c H locs 0 0 Q (F0 m 19 ls [.ref (a0 0)]) := by
    intro _ H locs ls h hP hS hl
    rw [eJ19] at h
    refine lv_iconst (v := 1) X.1 X.2.1 dX12_leave_19 (by decide) ?_
    refine lv_goto (tgt := 24) X.1 X.2.1 dX12_leave_20 (by decide) ?_
    exact HJ24 1 H locs ls h hP hS (lv_sub hl [0, 1, 2, 3] rfl)
  refine lv_if_eq (tgt := 19) X.1 X.2.1 dX12_leave_6 (by decide) (fun hc => ?_) (fun hc => ?_)
  · have h := it_t hc h
    exact HJ19 () H locs ls h hP hS (lv_sub hl [0, 1, 2, 3] rfl)
  · have h := it_f hc h
    refine lv_iload_n X.1 X.2.1 dX12_leave_9 rfl (lv_at hl 2 rfl) ?_
    refine lv_iconst (v := 0) X.1 X.2.1 dX12_leave_10 (by decide) ?_
    refine lv_bipush (v := 7) X.1 X.2.1 dX12_leave_11 (by decide) ?_
    obtain ⟨r_7, hc_7, h⟩ := bd_el h
    refine call_S0i (As := [.int x2, .int 0, .int 7]) (rest := [.ref (a0 0)]) X (c_X12_isIn l dC dI sk sv tc x2 0 7 hc_7) mw_7_218 mw_7_219 mw_1_12 mw_7_220 dc_X12_isIn ⟨Nat.le_of_ble_eq_true rfl, Nat.le_of_ble_eq_true rfl⟩ rfl rfl ⟨Nat.zero_le _, Nat.zero_le _⟩ hP (hD _) hS hl.1 (Nat.le_of_ble_eq_true rfl) dX12_leave_13 (fun H locs hP hS => ?_)
    refine lv_if_ne (tgt := 23) X.1 X.2.1 dX12_leave_16 (by decide) (fun hc => ?_) (fun hc => ?_)
    · have h := it_f hc h
      refine lv_iconst (v := 0) X.1 X.2.1 dX12_leave_23 (by decide) ?_
      exact HJ24 0 H locs ls h hP hS (lv_sub hl [0, 1, 2, 3] rfl)
    · have h := it_t hc h
      exact HJ19 () H locs ls h hP hS (lv_sub hl [0, 1, 2, 3] rfl)

def f_X12_learn (g0 : Pic) (x1 : Int32) : Option (Int32 × Pic) := bd (f_X12_isWriter g0 x1) (fun r_1 => jn (fun (s1_J14 : Int32) => nm (pu g0 0 0 s1_J14) (fun g0_2 => (if (g0_2 0 0) ≤ 0 then bd (f_X12_of g0_2 x1 2) (fun r_3 => bd (f_X12_lesser 9 (r_3 + 1)) (fun r_4 => bd2 (f_X12_sets g0_2 ((96 + (4 * x1)) + 2) r_4) (fun r_5 g0_5 => bd (f_X12_of g0_5 x1 2) (fun r_6 => some (r_6, g0_5))))) else some (0, g0_2)))) (fun J14 => (if r_1 = 0 then J14 1 else J14 0)))
abbrev rm_X12_learn : Room := { frames := 2, cells := 0, slots := 0, locals := 44 }
set_option maxHeartbeats 4000000 in
set_option maxRecDepth 100000 in
theorem c_X12_learn (l : Launch) (dC : Nat → ClassId) (dI : Nat → Nat → Nat) (sk sv : Nat → Nat) (tc : Nat → ClassId) (a0 : Nat → Nat) (g0 : Pic) (x1 : Int32) {r0 : Int32} {G0 : Pic} (h : f_X12_learn g0 x1 = some (r0, G0)) : CT l (dC, dI) sk sv (TY tc) yX12_learn cX12_learn 3 (some .int) rm_X12_learn [.ref (a0 0), .int x1] (wM tc a0 g0) (some (.int r0)) (wM tc a0 G0) := by
  refine ofCT (by decide) (Nat.le_of_ble_eq_true rfl) ?_
  intro pr e s m args below meth c A Q ls H locs X hQ hD0 hP hS hl
  have hD : ∀ z0, va_D A (wM tc a0 z0) := fun z0 => D_fst (ws := (wM tc a0 g0)) rfl hD0
  have hl : lv_has ls 3 [(0, .ref (a0 0)), (1, .int x1)] := hl
  unfold f_X12_learn at h
  refine lv_aload_n X.1 X.2.1 dX12_learn_0 rfl (lv_at hl 0 rfl) ?_
  refine lv_aload_n X.1 X.2.1 dX12_learn_1 rfl (lv_at hl 0 rfl) ?_
  refine lv_iload_n X.1 X.2.1 dX12_learn_2 rfl (lv_at hl 1 rfl) ?_
  obtain ⟨r_1, hc_1, h⟩ := bd_el h
  refine call_V1i (As := [.int x1]) (rest := [.ref (a0 0)]) X (c_X12_isWriter l dC dI sk sv tc a0 g0 x1 hc_1) mw_8_176 mw_8_178 mp_4_0 mw_1_12 mw_8_179 dc_X12_isWriter ⟨Nat.le_of_ble_eq_true rfl, Nat.le_of_ble_eq_true rfl⟩ rfl rfl ⟨Nat.zero_le _, Nat.zero_le _⟩ hP (hD _) hS 0 rfl rfl rfl hl.1 (Nat.le_of_ble_eq_true rfl) dX12_learn_3 (fun H locs hP hS => ?_)
  obtain ⟨J14, eJ14, h⟩ := jn_el h
  have HJ14 : ∀ (s1_J14 : Int32) (H : Heap) (locs : List Loc) (ls : Array Slot), J14 s1_J14 = some (r0, G0) → va_P (dC, dI) vwCl (wM tc a0 g0) H → va_S A s.heap H locs → lv_has ls 3 [(0, .ref (a0 0)), (1, .int x1)] → W pr l e rm_X12_learn s m args below meth c H locs 0 0 Q (F0 m 14 ls [.int s1_J14, .ref (a0 0)]) := by
    intro s1_J14 H locs ls h hP hS hl
    rw [eJ14] at h
    obtain ⟨g0_2, eg0_2, h⟩ := nm_el h
    refine r_put (C := RX12) (T := TX12) (N := 28) (ci := 12) tyX12 tyX12_ok nmX12 X iw12 hP (hD _) hS 0 rfl rfl 0 rfl mw_7_120 rfl rfl rfl rfl dX12_learn_14 (wM tc a0 g0_2) (by rw [eg0_2]; rfl) (fun H locs hP hS => ?_)
    refine lv_aload_n X.1 X.2.1 dX12_learn_17 rfl (lv_at hl 0 rfl) ?_
    refine r_get (C := RX12) (T := TX12) (N := 28) (ci := 12) (v := .int (g0_2 0 0)) X iw12 hP 0 rfl rfl 0 rfl mw_7_120 rfl dX12_learn_18 ?_
    refine lv_if_le (tgt := 26) X.1 X.2.1 dX12_learn_21 (by decide) (fun hc => ?_) (fun hc => ?_)
    · have h := it_t hc h
      refine lv_aload_n X.1 X.2.1 dX12_learn_26 rfl (lv_at hl 0 rfl) ?_
      refine lv_bipush (v := 96) X.1 X.2.1 dX12_learn_27 (by decide) ?_
      refine lv_iconst (v := 4) X.1 X.2.1 dX12_learn_29 (by decide) ?_
      refine lv_iload_n X.1 X.2.1 dX12_learn_30 rfl (lv_at hl 1 rfl) ?_
      refine lv_imul X.1 X.2.1 dX12_learn_31 ?_
      refine lv_iadd X.1 X.2.1 dX12_learn_32 ?_
      refine lv_iconst (v := 2) X.1 X.2.1 dX12_learn_33 (by decide) ?_
      refine lv_iadd X.1 X.2.1 dX12_learn_34 ?_
      refine lv_bipush (v := 9) X.1 X.2.1 dX12_learn_35 (by decide) ?_
      refine lv_aload_n X.1 X.2.1 dX12_learn_37 rfl (lv_at hl 0 rfl) ?_
      refine lv_iload_n X.1 X.2.1 dX12_learn_38 rfl (lv_at hl 1 rfl) ?_
      refine lv_iconst (v := 2) X.1 X.2.1 dX12_learn_39 (by decide) ?_
      obtain ⟨r_3, hc_3, h⟩ := bd_el h
      refine call_V1i (As := [.int x1, .int 2]) (rest := [.int 9, .int ((96 + (4 * x1)) + 2), .ref (a0 0)]) X (c_X12_of l dC dI sk sv tc a0 g0_2 x1 2 hc_3) mw_8_180 mw_8_182 mp_4_1 mw_1_12 mw_8_183 dc_X12_of ⟨Nat.le_of_ble_eq_true rfl, Nat.le_of_ble_eq_true rfl⟩ rfl rfl ⟨Nat.zero_le _, Nat.zero_le _⟩ hP (hD _) hS 0 rfl rfl rfl hl.1 (Nat.le_of_ble_eq_true rfl) dX12_learn_40 (fun H locs hP hS => ?_)
      refine lv_iconst (v := 1) X.1 X.2.1 dX12_learn_43 (by decide) ?_
      refine lv_iadd X.1 X.2.1 dX12_learn_44 ?_
      obtain ⟨r_4, hc_4, h⟩ := bd_el h
      refine call_S0i (As := [.int 9, .int (r_3 + 1)]) (rest := [.int ((96 + (4 * x1)) + 2), .ref (a0 0)]) X (c_X12_lesser l dC dI sk sv tc 9 (r_3 + 1) hc_4) mw_8_157 mw_8_158 mw_1_12 mw_8_159 dc_X12_lesser ⟨Nat.le_of_ble_eq_true rfl, Nat.le_of_ble_eq_true rfl⟩ rfl rfl ⟨Nat.zero_le _, Nat.zero_le _⟩ hP (hD _) hS hl.1 (Nat.le_of_ble_eq_true rfl) dX12_learn_45 (fun H locs hP hS => ?_)
      obtain ⟨r_5, g0_5, hc_5, h⟩ := bd2_el h
      refine call_V1i (As := [.int ((96 + (4 * x1)) + 2), .int r_4]) (rest := []) X (c_X12_sets l dC dI sk sv tc a0 g0_2 ((96 + (4 * x1)) + 2) r_4 hc_5) mw_9_91 mw_9_93 mp_5_11 mw_1_12 mw_9_94 dc_X12_sets ⟨Nat.le_of_ble_eq_true rfl, Nat.le_of_ble_eq_true rfl⟩ rfl rfl ⟨Nat.zero_le _, Nat.zero_le _⟩ hP (hD _) hS 0 rfl rfl rfl hl.1 (Nat.le_of_ble_eq_true rfl) dX12_learn_48 (fun H locs hP hS => ?_)
      refine lv_istore_n (lv' := [(2, .int r_5), (0, .ref (a0 0)), (1, .int x1)]) X.1 X.2.1 dX12_learn_51 rfl hl (by decide) rfl (fun ls hl => ?_)
      refine lv_aload_n X.1 X.2.1 dX12_learn_52 rfl (lv_at hl 1 rfl) ?_
      refine lv_iload_n X.1 X.2.1 dX12_learn_53 rfl (lv_at hl 2 rfl) ?_
      refine lv_iconst (v := 2) X.1 X.2.1 dX12_learn_54 (by decide) ?_
      obtain ⟨r_6, hc_6, h⟩ := bd_el h
      refine call_V1i (As := [.int x1, .int 2]) (rest := []) X (c_X12_of l dC dI sk sv tc a0 g0_5 x1 2 hc_6) mw_8_180 mw_8_182 mp_4_1 mw_1_12 mw_8_183 dc_X12_of ⟨Nat.le_of_ble_eq_true rfl, Nat.le_of_ble_eq_true rfl⟩ rfl rfl ⟨Nat.zero_le _, Nat.zero_le _⟩ hP (hD _) hS 0 rfl rfl rfl hl.1 (Nat.le_of_ble_eq_true rfl) dX12_learn_55 (fun H locs hP hS => ?_)
      exact ret_i (fun u => (wM tc a0 u)) (res := (r0, G0)) (Option.some.inj h) X hQ hP hS dX12_learn_58
    · have h := it_f hc h
      refine lv_iconst (v := 0) X.1 X.2.1 dX12_learn_24 (by decide) ?_
      exact ret_i (fun u => (wM tc a0 u)) (res := (r0, G0)) (Option.some.inj h) X hQ hP hS dX12_learn_25
  refine lv_if_ne (tgt := 13) X.1 X.2.1 dX12_learn_6 (by decide) (fun hc => ?_) (fun hc => ?_)
  · have h := it_f hc h
    refine lv_iconst (v := 0) X.1 X.2.1 dX12_learn_13 (by decide) ?_
    exact HJ14 0 H locs ls h hP hS (lv_sub hl [0, 1] rfl)
  · have h := it_t hc h
    refine lv_iconst (v := 1) X.1 X.2.1 dX12_learn_9 (by decide) ?_
    refine lv_goto (tgt := 14) X.1 X.2.1 dX12_learn_10 (by decide) ?_
    exact HJ14 1 H locs ls h hP hS (lv_sub hl [0, 1] rfl)

def f_X12_rest (g0 : Pic) (x1 : Int32) : Option (Int32 × Pic) := bd (f_X12_isWriter g0 x1) (fun r_1 => jn (fun (s1_J14 : Int32) => nm (pu g0 0 0 s1_J14) (fun g0_2 => jn (fun (s0_J41 : Int32) (g0_J41 : Pic) => some (s0_J41, g0_J41)) (fun J41 => (if (g0_2 0 0) ≤ 0 then bd2 (f_X12_sets g0_2 ((96 + (4 * x1)) + 3) 0) (fun r_3 g0_3 => J41 r_3 g0_3) else J41 0 g0_2)))) (fun J14 => (if r_1 = 0 then J14 1 else J14 0)))
abbrev rm_X12_rest : Room := { frames := 2, cells := 0, slots := 0, locals := 44 }
set_option maxHeartbeats 4000000 in
set_option maxRecDepth 100000 in
theorem c_X12_rest (l : Launch) (dC : Nat → ClassId) (dI : Nat → Nat → Nat) (sk sv : Nat → Nat) (tc : Nat → ClassId) (a0 : Nat → Nat) (g0 : Pic) (x1 : Int32) {r0 : Int32} {G0 : Pic} (h : f_X12_rest g0 x1 = some (r0, G0)) : CT l (dC, dI) sk sv (TY tc) yX12_rest cX12_rest 2 (some .int) rm_X12_rest [.ref (a0 0), .int x1] (wM tc a0 g0) (some (.int r0)) (wM tc a0 G0) := by
  refine ofCT (by decide) (Nat.le_of_ble_eq_true rfl) ?_
  intro pr e s m args below meth c A Q ls H locs X hQ hD0 hP hS hl
  have hD : ∀ z0, va_D A (wM tc a0 z0) := fun z0 => D_fst (ws := (wM tc a0 g0)) rfl hD0
  have hl : lv_has ls 2 [(0, .ref (a0 0)), (1, .int x1)] := hl
  unfold f_X12_rest at h
  refine lv_aload_n X.1 X.2.1 dX12_rest_0 rfl (lv_at hl 0 rfl) ?_
  refine lv_aload_n X.1 X.2.1 dX12_rest_1 rfl (lv_at hl 0 rfl) ?_
  refine lv_iload_n X.1 X.2.1 dX12_rest_2 rfl (lv_at hl 1 rfl) ?_
  obtain ⟨r_1, hc_1, h⟩ := bd_el h
  refine call_V1i (As := [.int x1]) (rest := [.ref (a0 0)]) X (c_X12_isWriter l dC dI sk sv tc a0 g0 x1 hc_1) mw_8_176 mw_8_178 mp_4_0 mw_1_12 mw_8_179 dc_X12_isWriter ⟨Nat.le_of_ble_eq_true rfl, Nat.le_of_ble_eq_true rfl⟩ rfl rfl ⟨Nat.zero_le _, Nat.zero_le _⟩ hP (hD _) hS 0 rfl rfl rfl hl.1 (Nat.le_of_ble_eq_true rfl) dX12_rest_3 (fun H locs hP hS => ?_)
  obtain ⟨J14, eJ14, h⟩ := jn_el h
  have HJ14 : ∀ (s1_J14 : Int32) (H : Heap) (locs : List Loc) (ls : Array Slot), J14 s1_J14 = some (r0, G0) → va_P (dC, dI) vwCl (wM tc a0 g0) H → va_S A s.heap H locs → lv_has ls 2 [(0, .ref (a0 0)), (1, .int x1)] → W pr l e rm_X12_rest s m args below meth c H locs 0 0 Q (F0 m 14 ls [.int s1_J14, .ref (a0 0)]) := by
    intro s1_J14 H locs ls h hP hS hl
    rw [eJ14] at h
    obtain ⟨g0_2, eg0_2, h⟩ := nm_el h
    refine r_put (C := RX12) (T := TX12) (N := 28) (ci := 12) tyX12 tyX12_ok nmX12 X iw12 hP (hD _) hS 0 rfl rfl 0 rfl mw_7_120 rfl rfl rfl rfl dX12_rest_14 (wM tc a0 g0_2) (by rw [eg0_2]; rfl) (fun H locs hP hS => ?_)
    refine lv_aload_n X.1 X.2.1 dX12_rest_17 rfl (lv_at hl 0 rfl) ?_
    refine r_get (C := RX12) (T := TX12) (N := 28) (ci := 12) (v := .int (g0_2 0 0)) X iw12 hP 0 rfl rfl 0 rfl mw_7_120 rfl dX12_rest_18 ?_
    obtain ⟨J41, eJ41, h⟩ := jn_el h
    have HJ41 : ∀ (s0_J41 : Int32) (g0_J41 : Pic) (H : Heap) (locs : List Loc) (ls : Array Slot), J41 s0_J41 g0_J41 = some (r0, G0) → va_P (dC, dI) vwCl (wM tc a0 g0_J41) H → va_S A s.heap H locs → lv_has ls 2 [] → W pr l e rm_X12_rest s m args below meth c H locs 0 0 Q (F0 m 41 ls [.int s0_J41]) := by
      intro s0_J41 g0_J41 H locs ls h hP hS hl
      rw [eJ41] at h
      exact ret_i (fun u => (wM tc a0 u)) (res := (r0, G0)) (Option.some.inj h) X hQ hP hS dX12_rest_41
    refine lv_if_le (tgt := 28) X.1 X.2.1 dX12_rest_21 (by decide) (fun hc => ?_) (fun hc => ?_)
    · have h := it_t hc h
      refine lv_aload_n X.1 X.2.1 dX12_rest_28 rfl (lv_at hl 0 rfl) ?_
      refine lv_bipush (v := 96) X.1 X.2.1 dX12_rest_29 (by decide) ?_
      refine lv_iconst (v := 4) X.1 X.2.1 dX12_rest_31 (by decide) ?_
      refine lv_iload_n X.1 X.2.1 dX12_rest_32 rfl (lv_at hl 1 rfl) ?_
      refine lv_imul X.1 X.2.1 dX12_rest_33 ?_
      refine lv_iadd X.1 X.2.1 dX12_rest_34 ?_
      refine lv_iconst (v := 3) X.1 X.2.1 dX12_rest_35 (by decide) ?_
      refine lv_iadd X.1 X.2.1 dX12_rest_36 ?_
      refine lv_iconst (v := 0) X.1 X.2.1 dX12_rest_37 (by decide) ?_
      obtain ⟨r_3, g0_3, hc_3, h⟩ := bd2_el h
      refine call_V1i (As := [.int ((96 + (4 * x1)) + 3), .int 0]) (rest := []) X (c_X12_sets l dC dI sk sv tc a0 g0_2 ((96 + (4 * x1)) + 3) 0 hc_3) mw_9_91 mw_9_93 mp_5_11 mw_1_12 mw_9_94 dc_X12_sets ⟨Nat.le_of_ble_eq_true rfl, Nat.le_of_ble_eq_true rfl⟩ rfl rfl ⟨Nat.zero_le _, Nat.zero_le _⟩ hP (hD _) hS 0 rfl rfl rfl hl.1 (Nat.le_of_ble_eq_true rfl) dX12_rest_38 (fun H locs hP hS => ?_)
      exact HJ41 r_3 g0_3 H locs ls h hP hS (lv_sub hl [] rfl)
    · have h := it_f hc h
      refine lv_iconst (v := 0) X.1 X.2.1 dX12_rest_24 (by decide) ?_
      refine lv_goto (tgt := 41) X.1 X.2.1 dX12_rest_25 (by decide) ?_
      exact HJ41 0 g0_2 H locs ls h hP hS (lv_sub hl [] rfl)
  refine lv_if_ne (tgt := 13) X.1 X.2.1 dX12_rest_6 (by decide) (fun hc => ?_) (fun hc => ?_)
  · have h := it_f hc h
    refine lv_iconst (v := 0) X.1 X.2.1 dX12_rest_13 (by decide) ?_
    exact HJ14 0 H locs ls h hP hS (lv_sub hl [0, 1] rfl)
  · have h := it_t hc h
    refine lv_iconst (v := 1) X.1 X.2.1 dX12_rest_9 (by decide) ?_
    refine lv_goto (tgt := 14) X.1 X.2.1 dX12_rest_10 (by decide) ?_
    exact HJ14 1 H locs ls h hP hS (lv_sub hl [0, 1] rfl)

def f_X12_often (g0 : Pic) (x1 : Int32) (x2 : Int32) : Option (Int32 × Pic) := bd (f_X12_isWord g0 x1) (fun r_1 => jn (fun (s1_J28 : Int32) => nm (pu g0 0 0 s1_J28) (fun g0_2 => jn (fun (s0_J57 : Int32) (g0_J57 : Pic) => some (s0_J57, g0_J57)) (fun J57 => (if (g0_2 0 0) ≤ 0 then bd2 (f_X12_sets g0_2 ((12 + (8 * x1)) + 7) x2) (fun r_3 g0_3 => J57 r_3 g0_3) else J57 0 g0_2)))) (fun J28 => (if r_1 = 0 then J28 1 else bd (f_X12_isIn x2 1 99) (fun r_4 => (if r_4 = 0 then J28 2 else J28 0)))))
abbrev rm_X12_often : Room := { frames := 2, cells := 0, slots := 0, locals := 44 }
set_option maxHeartbeats 4000000 in
set_option maxRecDepth 100000 in
theorem c_X12_often (l : Launch) (dC : Nat → ClassId) (dI : Nat → Nat → Nat) (sk sv : Nat → Nat) (tc : Nat → ClassId) (a0 : Nat → Nat) (g0 : Pic) (x1 : Int32) (x2 : Int32) {r0 : Int32} {G0 : Pic} (h : f_X12_often g0 x1 x2 = some (r0, G0)) : CT l (dC, dI) sk sv (TY tc) yX12_often cX12_often 3 (some .int) rm_X12_often [.ref (a0 0), .int x1, .int x2] (wM tc a0 g0) (some (.int r0)) (wM tc a0 G0) := by
  refine ofCT (by decide) (Nat.le_of_ble_eq_true rfl) ?_
  intro pr e s m args below meth c A Q ls H locs X hQ hD0 hP hS hl
  have hD : ∀ z0, va_D A (wM tc a0 z0) := fun z0 => D_fst (ws := (wM tc a0 g0)) rfl hD0
  have hl : lv_has ls 3 [(0, .ref (a0 0)), (1, .int x1), (2, .int x2)] := hl
  unfold f_X12_often at h
  refine lv_aload_n X.1 X.2.1 dX12_often_0 rfl (lv_at hl 0 rfl) ?_
  refine lv_aload_n X.1 X.2.1 dX12_often_1 rfl (lv_at hl 0 rfl) ?_
  refine lv_iload_n X.1 X.2.1 dX12_often_2 rfl (lv_at hl 1 rfl) ?_
  obtain ⟨r_1, hc_1, h⟩ := bd_el h
  refine call_V1i (As := [.int x1]) (rest := [.ref (a0 0)]) X (c_X12_isWord l dC dI sk sv tc a0 g0 x1 hc_1) mw_8_136 mw_8_138 mp_3_9 mw_1_12 mw_8_139 dc_X12_isWord ⟨Nat.le_of_ble_eq_true rfl, Nat.le_of_ble_eq_true rfl⟩ rfl rfl ⟨Nat.zero_le _, Nat.zero_le _⟩ hP (hD _) hS 0 rfl rfl rfl hl.1 (Nat.le_of_ble_eq_true rfl) dX12_often_3 (fun H locs hP hS => ?_)
  obtain ⟨J28, eJ28, h⟩ := jn_el h
  have HJ28 : ∀ (s1_J28 : Int32) (H : Heap) (locs : List Loc) (ls : Array Slot), J28 s1_J28 = some (r0, G0) → va_P (dC, dI) vwCl (wM tc a0 g0) H → va_S A s.heap H locs → lv_has ls 3 [(0, .ref (a0 0)), (1, .int x1), (2, .int x2)] → W pr l e rm_X12_often s m args below meth c H locs 0 0 Q (F0 m 28 ls [.int s1_J28, .ref (a0 0)]) := by
    intro s1_J28 H locs ls h hP hS hl
    rw [eJ28] at h
    obtain ⟨g0_2, eg0_2, h⟩ := nm_el h
    refine r_put (C := RX12) (T := TX12) (N := 28) (ci := 12) tyX12 tyX12_ok nmX12 X iw12 hP (hD _) hS 0 rfl rfl 0 rfl mw_7_120 rfl rfl rfl rfl dX12_often_28 (wM tc a0 g0_2) (by rw [eg0_2]; rfl) (fun H locs hP hS => ?_)
    refine lv_aload_n X.1 X.2.1 dX12_often_31 rfl (lv_at hl 0 rfl) ?_
    refine r_get (C := RX12) (T := TX12) (N := 28) (ci := 12) (v := .int (g0_2 0 0)) X iw12 hP 0 rfl rfl 0 rfl mw_7_120 rfl dX12_often_32 ?_
    obtain ⟨J57, eJ57, h⟩ := jn_el h
    have HJ57 : ∀ (s0_J57 : Int32) (g0_J57 : Pic) (H : Heap) (locs : List Loc) (ls : Array Slot), J57 s0_J57 g0_J57 = some (r0, G0) → va_P (dC, dI) vwCl (wM tc a0 g0_J57) H → va_S A s.heap H locs → lv_has ls 3 [] → W pr l e rm_X12_often s m args below meth c H locs 0 0 Q (F0 m 57 ls [.int s0_J57]) := by
      intro s0_J57 g0_J57 H locs ls h hP hS hl
      rw [eJ57] at h
      exact ret_i (fun u => (wM tc a0 u)) (res := (r0, G0)) (Option.some.inj h) X hQ hP hS dX12_often_57
    refine lv_if_le (tgt := 42) X.1 X.2.1 dX12_often_35 (by decide) (fun hc => ?_) (fun hc => ?_)
    · have h := it_t hc h
      refine lv_aload_n X.1 X.2.1 dX12_often_42 rfl (lv_at hl 0 rfl) ?_
      refine lv_bipush (v := 12) X.1 X.2.1 dX12_often_43 (by decide) ?_
      refine lv_bipush (v := 8) X.1 X.2.1 dX12_often_45 (by decide) ?_
      refine lv_iload_n X.1 X.2.1 dX12_often_47 rfl (lv_at hl 1 rfl) ?_
      refine lv_imul X.1 X.2.1 dX12_often_48 ?_
      refine lv_iadd X.1 X.2.1 dX12_often_49 ?_
      refine lv_bipush (v := 7) X.1 X.2.1 dX12_often_50 (by decide) ?_
      refine lv_iadd X.1 X.2.1 dX12_often_52 ?_
      refine lv_iload_n X.1 X.2.1 dX12_often_53 rfl (lv_at hl 2 rfl) ?_
      obtain ⟨r_3, g0_3, hc_3, h⟩ := bd2_el h
      refine call_V1i (As := [.int ((12 + (8 * x1)) + 7), .int x2]) (rest := []) X (c_X12_sets l dC dI sk sv tc a0 g0_2 ((12 + (8 * x1)) + 7) x2 hc_3) mw_9_91 mw_9_93 mp_5_11 mw_1_12 mw_9_94 dc_X12_sets ⟨Nat.le_of_ble_eq_true rfl, Nat.le_of_ble_eq_true rfl⟩ rfl rfl ⟨Nat.zero_le _, Nat.zero_le _⟩ hP (hD _) hS 0 rfl rfl rfl hl.1 (Nat.le_of_ble_eq_true rfl) dX12_often_54 (fun H locs hP hS => ?_)
      exact HJ57 r_3 g0_3 H locs ls h hP hS (lv_sub hl [] rfl)
    · have h := it_f hc h
      refine lv_iconst (v := 0) X.1 X.2.1 dX12_often_38 (by decide) ?_
      refine lv_goto (tgt := 57) X.1 X.2.1 dX12_often_39 (by decide) ?_
      exact HJ57 0 g0_2 H locs ls h hP hS (lv_sub hl [] rfl)
  refine lv_if_ne (tgt := 13) X.1 X.2.1 dX12_often_6 (by decide) (fun hc => ?_) (fun hc => ?_)
  · have h := it_f hc h
    refine lv_iload_n X.1 X.2.1 dX12_often_13 rfl (lv_at hl 2 rfl) ?_
    refine lv_iconst (v := 1) X.1 X.2.1 dX12_often_14 (by decide) ?_
    refine lv_bipush (v := 99) X.1 X.2.1 dX12_often_15 (by decide) ?_
    obtain ⟨r_4, hc_4, h⟩ := bd_el h
    refine call_S0i (As := [.int x2, .int 1, .int 99]) (rest := [.ref (a0 0)]) X (c_X12_isIn l dC dI sk sv tc x2 1 99 hc_4) mw_7_218 mw_7_219 mw_1_12 mw_7_220 dc_X12_isIn ⟨Nat.le_of_ble_eq_true rfl, Nat.le_of_ble_eq_true rfl⟩ rfl rfl ⟨Nat.zero_le _, Nat.zero_le _⟩ hP (hD _) hS hl.1 (Nat.le_of_ble_eq_true rfl) dX12_often_17 (fun H locs hP hS => ?_)
    refine lv_if_ne (tgt := 27) X.1 X.2.1 dX12_often_20 (by decide) (fun hc => ?_) (fun hc => ?_)
    · have h := it_f hc h
      refine lv_iconst (v := 0) X.1 X.2.1 dX12_often_27 (by decide) ?_
      exact HJ28 0 H locs ls h hP hS (lv_sub hl [0, 1, 2] rfl)
    · have h := it_t hc h
      refine lv_iconst (v := 2) X.1 X.2.1 dX12_often_23 (by decide) ?_
      refine lv_goto (tgt := 28) X.1 X.2.1 dX12_often_24 (by decide) ?_
      exact HJ28 2 H locs ls h hP hS (lv_sub hl [0, 1, 2] rfl)
  · have h := it_t hc h
    refine lv_iconst (v := 1) X.1 X.2.1 dX12_often_9 (by decide) ?_
    refine lv_goto (tgt := 28) X.1 X.2.1 dX12_often_10 (by decide) ?_
    exact HJ28 1 H locs ls h hP hS (lv_sub hl [0, 1, 2] rfl)

def f_X12_tempo (g0 : Pic) (x1 : Int32) : Option (Int32 × Pic) := bd (f_X12_isIn x1 1 9) (fun r_1 => jn (fun (s1_J16 : Int32) => nm (pu g0 0 0 s1_J16) (fun g0_2 => jn (fun (s0_J37 : Int32) (g0_J37 : Pic) => some (s0_J37, g0_J37)) (fun J37 => (if (g0_2 0 0) ≤ 0 then bd2 (f_X12_sets g0_2 7 x1) (fun r_3 g0_3 => J37 r_3 g0_3) else J37 0 g0_2)))) (fun J16 => (if r_1 = 0 then J16 1 else J16 0)))
abbrev rm_X12_tempo : Room := { frames := 2, cells := 0, slots := 0, locals := 44 }
set_option maxHeartbeats 4000000 in
set_option maxRecDepth 100000 in
theorem c_X12_tempo (l : Launch) (dC : Nat → ClassId) (dI : Nat → Nat → Nat) (sk sv : Nat → Nat) (tc : Nat → ClassId) (a0 : Nat → Nat) (g0 : Pic) (x1 : Int32) {r0 : Int32} {G0 : Pic} (h : f_X12_tempo g0 x1 = some (r0, G0)) : CT l (dC, dI) sk sv (TY tc) yX12_tempo cX12_tempo 2 (some .int) rm_X12_tempo [.ref (a0 0), .int x1] (wM tc a0 g0) (some (.int r0)) (wM tc a0 G0) := by
  refine ofCT (by decide) (Nat.le_of_ble_eq_true rfl) ?_
  intro pr e s m args below meth c A Q ls H locs X hQ hD0 hP hS hl
  have hD : ∀ z0, va_D A (wM tc a0 z0) := fun z0 => D_fst (ws := (wM tc a0 g0)) rfl hD0
  have hl : lv_has ls 2 [(0, .ref (a0 0)), (1, .int x1)] := hl
  unfold f_X12_tempo at h
  refine lv_aload_n X.1 X.2.1 dX12_tempo_0 rfl (lv_at hl 0 rfl) ?_
  refine lv_iload_n X.1 X.2.1 dX12_tempo_1 rfl (lv_at hl 1 rfl) ?_
  refine lv_iconst (v := 1) X.1 X.2.1 dX12_tempo_2 (by decide) ?_
  refine lv_bipush (v := 9) X.1 X.2.1 dX12_tempo_3 (by decide) ?_
  obtain ⟨r_1, hc_1, h⟩ := bd_el h
  refine call_S0i (As := [.int x1, .int 1, .int 9]) (rest := [.ref (a0 0)]) X (c_X12_isIn l dC dI sk sv tc x1 1 9 hc_1) mw_7_218 mw_7_219 mw_1_12 mw_7_220 dc_X12_isIn ⟨Nat.le_of_ble_eq_true rfl, Nat.le_of_ble_eq_true rfl⟩ rfl rfl ⟨Nat.zero_le _, Nat.zero_le _⟩ hP (hD _) hS hl.1 (Nat.le_of_ble_eq_true rfl) dX12_tempo_5 (fun H locs hP hS => ?_)
  obtain ⟨J16, eJ16, h⟩ := jn_el h
  have HJ16 : ∀ (s1_J16 : Int32) (H : Heap) (locs : List Loc) (ls : Array Slot), J16 s1_J16 = some (r0, G0) → va_P (dC, dI) vwCl (wM tc a0 g0) H → va_S A s.heap H locs → lv_has ls 2 [(0, .ref (a0 0)), (1, .int x1)] → W pr l e rm_X12_tempo s m args below meth c H locs 0 0 Q (F0 m 16 ls [.int s1_J16, .ref (a0 0)]) := by
    intro s1_J16 H locs ls h hP hS hl
    rw [eJ16] at h
    obtain ⟨g0_2, eg0_2, h⟩ := nm_el h
    refine r_put (C := RX12) (T := TX12) (N := 28) (ci := 12) tyX12 tyX12_ok nmX12 X iw12 hP (hD _) hS 0 rfl rfl 0 rfl mw_7_120 rfl rfl rfl rfl dX12_tempo_16 (wM tc a0 g0_2) (by rw [eg0_2]; rfl) (fun H locs hP hS => ?_)
    refine lv_aload_n X.1 X.2.1 dX12_tempo_19 rfl (lv_at hl 0 rfl) ?_
    refine r_get (C := RX12) (T := TX12) (N := 28) (ci := 12) (v := .int (g0_2 0 0)) X iw12 hP 0 rfl rfl 0 rfl mw_7_120 rfl dX12_tempo_20 ?_
    obtain ⟨J37, eJ37, h⟩ := jn_el h
    have HJ37 : ∀ (s0_J37 : Int32) (g0_J37 : Pic) (H : Heap) (locs : List Loc) (ls : Array Slot), J37 s0_J37 g0_J37 = some (r0, G0) → va_P (dC, dI) vwCl (wM tc a0 g0_J37) H → va_S A s.heap H locs → lv_has ls 2 [] → W pr l e rm_X12_tempo s m args below meth c H locs 0 0 Q (F0 m 37 ls [.int s0_J37]) := by
      intro s0_J37 g0_J37 H locs ls h hP hS hl
      rw [eJ37] at h
      exact ret_i (fun u => (wM tc a0 u)) (res := (r0, G0)) (Option.some.inj h) X hQ hP hS dX12_tempo_37
    refine lv_if_le (tgt := 30) X.1 X.2.1 dX12_tempo_23 (by decide) (fun hc => ?_) (fun hc => ?_)
    · have h := it_t hc h
      refine lv_aload_n X.1 X.2.1 dX12_tempo_30 rfl (lv_at hl 0 rfl) ?_
      refine lv_bipush (v := 7) X.1 X.2.1 dX12_tempo_31 (by decide) ?_
      refine lv_iload_n X.1 X.2.1 dX12_tempo_33 rfl (lv_at hl 1 rfl) ?_
      obtain ⟨r_3, g0_3, hc_3, h⟩ := bd2_el h
      refine call_V1i (As := [.int 7, .int x1]) (rest := []) X (c_X12_sets l dC dI sk sv tc a0 g0_2 7 x1 hc_3) mw_9_91 mw_9_93 mp_5_11 mw_1_12 mw_9_94 dc_X12_sets ⟨Nat.le_of_ble_eq_true rfl, Nat.le_of_ble_eq_true rfl⟩ rfl rfl ⟨Nat.zero_le _, Nat.zero_le _⟩ hP (hD _) hS 0 rfl rfl rfl hl.1 (Nat.le_of_ble_eq_true rfl) dX12_tempo_34 (fun H locs hP hS => ?_)
      exact HJ37 r_3 g0_3 H locs ls h hP hS (lv_sub hl [] rfl)
    · have h := it_f hc h
      refine lv_iconst (v := 0) X.1 X.2.1 dX12_tempo_26 (by decide) ?_
      refine lv_goto (tgt := 37) X.1 X.2.1 dX12_tempo_27 (by decide) ?_
      exact HJ37 0 g0_2 H locs ls h hP hS (lv_sub hl [] rfl)
  refine lv_if_ne (tgt := 15) X.1 X.2.1 dX12_tempo_8 (by decide) (fun hc => ?_) (fun hc => ?_)
  · have h := it_f hc h
    refine lv_iconst (v := 0) X.1 X.2.1 dX12_tempo_15 (by decide) ?_
    exact HJ16 0 H locs ls h hP hS (lv_sub hl [0, 1] rfl)
  · have h := it_t hc h
    refine lv_iconst (v := 1) X.1 X.2.1 dX12_tempo_11 (by decide) ?_
    refine lv_goto (tgt := 16) X.1 X.2.1 dX12_tempo_12 (by decide) ?_
    exact HJ16 1 H locs ls h hP hS (lv_sub hl [0, 1] rfl)

def f_X12_speed (g0 : Pic) (x1 : Int32) (x2 : Int32) : Option (Int32 × Pic) := bd (f_X12_isWriter g0 x1) (fun r_1 => jn (fun (s1_J28 : Int32) => nm (pu g0 0 0 s1_J28) (fun g0_2 => jn (fun (s0_J55 : Int32) (g0_J55 : Pic) => some (s0_J55, g0_J55)) (fun J55 => (if (g0_2 0 0) ≤ 0 then bd2 (f_X12_sets g0_2 ((96 + (4 * x1)) + 1) x2) (fun r_3 g0_3 => J55 r_3 g0_3) else J55 0 g0_2)))) (fun J28 => (if r_1 = 0 then J28 1 else bd (f_X12_isIn x2 1 9) (fun r_4 => (if r_4 = 0 then J28 2 else J28 0)))))
abbrev rm_X12_speed : Room := { frames := 2, cells := 0, slots := 0, locals := 44 }
set_option maxHeartbeats 4000000 in
set_option maxRecDepth 100000 in
theorem c_X12_speed (l : Launch) (dC : Nat → ClassId) (dI : Nat → Nat → Nat) (sk sv : Nat → Nat) (tc : Nat → ClassId) (a0 : Nat → Nat) (g0 : Pic) (x1 : Int32) (x2 : Int32) {r0 : Int32} {G0 : Pic} (h : f_X12_speed g0 x1 x2 = some (r0, G0)) : CT l (dC, dI) sk sv (TY tc) yX12_speed cX12_speed 3 (some .int) rm_X12_speed [.ref (a0 0), .int x1, .int x2] (wM tc a0 g0) (some (.int r0)) (wM tc a0 G0) := by
  refine ofCT (by decide) (Nat.le_of_ble_eq_true rfl) ?_
  intro pr e s m args below meth c A Q ls H locs X hQ hD0 hP hS hl
  have hD : ∀ z0, va_D A (wM tc a0 z0) := fun z0 => D_fst (ws := (wM tc a0 g0)) rfl hD0
  have hl : lv_has ls 3 [(0, .ref (a0 0)), (1, .int x1), (2, .int x2)] := hl
  unfold f_X12_speed at h
  refine lv_aload_n X.1 X.2.1 dX12_speed_0 rfl (lv_at hl 0 rfl) ?_
  refine lv_aload_n X.1 X.2.1 dX12_speed_1 rfl (lv_at hl 0 rfl) ?_
  refine lv_iload_n X.1 X.2.1 dX12_speed_2 rfl (lv_at hl 1 rfl) ?_
  obtain ⟨r_1, hc_1, h⟩ := bd_el h
  refine call_V1i (As := [.int x1]) (rest := [.ref (a0 0)]) X (c_X12_isWriter l dC dI sk sv tc a0 g0 x1 hc_1) mw_8_176 mw_8_178 mp_4_0 mw_1_12 mw_8_179 dc_X12_isWriter ⟨Nat.le_of_ble_eq_true rfl, Nat.le_of_ble_eq_true rfl⟩ rfl rfl ⟨Nat.zero_le _, Nat.zero_le _⟩ hP (hD _) hS 0 rfl rfl rfl hl.1 (Nat.le_of_ble_eq_true rfl) dX12_speed_3 (fun H locs hP hS => ?_)
  obtain ⟨J28, eJ28, h⟩ := jn_el h
  have HJ28 : ∀ (s1_J28 : Int32) (H : Heap) (locs : List Loc) (ls : Array Slot), J28 s1_J28 = some (r0, G0) → va_P (dC, dI) vwCl (wM tc a0 g0) H → va_S A s.heap H locs → lv_has ls 3 [(0, .ref (a0 0)), (1, .int x1), (2, .int x2)] → W pr l e rm_X12_speed s m args below meth c H locs 0 0 Q (F0 m 28 ls [.int s1_J28, .ref (a0 0)]) := by
    intro s1_J28 H locs ls h hP hS hl
    rw [eJ28] at h
    obtain ⟨g0_2, eg0_2, h⟩ := nm_el h
    refine r_put (C := RX12) (T := TX12) (N := 28) (ci := 12) tyX12 tyX12_ok nmX12 X iw12 hP (hD _) hS 0 rfl rfl 0 rfl mw_7_120 rfl rfl rfl rfl dX12_speed_28 (wM tc a0 g0_2) (by rw [eg0_2]; rfl) (fun H locs hP hS => ?_)
    refine lv_aload_n X.1 X.2.1 dX12_speed_31 rfl (lv_at hl 0 rfl) ?_
    refine r_get (C := RX12) (T := TX12) (N := 28) (ci := 12) (v := .int (g0_2 0 0)) X iw12 hP 0 rfl rfl 0 rfl mw_7_120 rfl dX12_speed_32 ?_
    obtain ⟨J55, eJ55, h⟩ := jn_el h
    have HJ55 : ∀ (s0_J55 : Int32) (g0_J55 : Pic) (H : Heap) (locs : List Loc) (ls : Array Slot), J55 s0_J55 g0_J55 = some (r0, G0) → va_P (dC, dI) vwCl (wM tc a0 g0_J55) H → va_S A s.heap H locs → lv_has ls 3 [] → W pr l e rm_X12_speed s m args below meth c H locs 0 0 Q (F0 m 55 ls [.int s0_J55]) := by
      intro s0_J55 g0_J55 H locs ls h hP hS hl
      rw [eJ55] at h
      exact ret_i (fun u => (wM tc a0 u)) (res := (r0, G0)) (Option.some.inj h) X hQ hP hS dX12_speed_55
    refine lv_if_le (tgt := 42) X.1 X.2.1 dX12_speed_35 (by decide) (fun hc => ?_) (fun hc => ?_)
    · have h := it_t hc h
      refine lv_aload_n X.1 X.2.1 dX12_speed_42 rfl (lv_at hl 0 rfl) ?_
      refine lv_bipush (v := 96) X.1 X.2.1 dX12_speed_43 (by decide) ?_
      refine lv_iconst (v := 4) X.1 X.2.1 dX12_speed_45 (by decide) ?_
      refine lv_iload_n X.1 X.2.1 dX12_speed_46 rfl (lv_at hl 1 rfl) ?_
      refine lv_imul X.1 X.2.1 dX12_speed_47 ?_
      refine lv_iadd X.1 X.2.1 dX12_speed_48 ?_
      refine lv_iconst (v := 1) X.1 X.2.1 dX12_speed_49 (by decide) ?_
      refine lv_iadd X.1 X.2.1 dX12_speed_50 ?_
      refine lv_iload_n X.1 X.2.1 dX12_speed_51 rfl (lv_at hl 2 rfl) ?_
      obtain ⟨r_3, g0_3, hc_3, h⟩ := bd2_el h
      refine call_V1i (As := [.int ((96 + (4 * x1)) + 1), .int x2]) (rest := []) X (c_X12_sets l dC dI sk sv tc a0 g0_2 ((96 + (4 * x1)) + 1) x2 hc_3) mw_9_91 mw_9_93 mp_5_11 mw_1_12 mw_9_94 dc_X12_sets ⟨Nat.le_of_ble_eq_true rfl, Nat.le_of_ble_eq_true rfl⟩ rfl rfl ⟨Nat.zero_le _, Nat.zero_le _⟩ hP (hD _) hS 0 rfl rfl rfl hl.1 (Nat.le_of_ble_eq_true rfl) dX12_speed_52 (fun H locs hP hS => ?_)
      exact HJ55 r_3 g0_3 H locs ls h hP hS (lv_sub hl [] rfl)
    · have h := it_f hc h
      refine lv_iconst (v := 0) X.1 X.2.1 dX12_speed_38 (by decide) ?_
      refine lv_goto (tgt := 55) X.1 X.2.1 dX12_speed_39 (by decide) ?_
      exact HJ55 0 g0_2 H locs ls h hP hS (lv_sub hl [] rfl)
  refine lv_if_ne (tgt := 13) X.1 X.2.1 dX12_speed_6 (by decide) (fun hc => ?_) (fun hc => ?_)
  · have h := it_f hc h
    refine lv_iload_n X.1 X.2.1 dX12_speed_13 rfl (lv_at hl 2 rfl) ?_
    refine lv_iconst (v := 1) X.1 X.2.1 dX12_speed_14 (by decide) ?_
    refine lv_bipush (v := 9) X.1 X.2.1 dX12_speed_15 (by decide) ?_
    obtain ⟨r_4, hc_4, h⟩ := bd_el h
    refine call_S0i (As := [.int x2, .int 1, .int 9]) (rest := [.ref (a0 0)]) X (c_X12_isIn l dC dI sk sv tc x2 1 9 hc_4) mw_7_218 mw_7_219 mw_1_12 mw_7_220 dc_X12_isIn ⟨Nat.le_of_ble_eq_true rfl, Nat.le_of_ble_eq_true rfl⟩ rfl rfl ⟨Nat.zero_le _, Nat.zero_le _⟩ hP (hD _) hS hl.1 (Nat.le_of_ble_eq_true rfl) dX12_speed_17 (fun H locs hP hS => ?_)
    refine lv_if_ne (tgt := 27) X.1 X.2.1 dX12_speed_20 (by decide) (fun hc => ?_) (fun hc => ?_)
    · have h := it_f hc h
      refine lv_iconst (v := 0) X.1 X.2.1 dX12_speed_27 (by decide) ?_
      exact HJ28 0 H locs ls h hP hS (lv_sub hl [0, 1, 2] rfl)
    · have h := it_t hc h
      refine lv_iconst (v := 2) X.1 X.2.1 dX12_speed_23 (by decide) ?_
      refine lv_goto (tgt := 28) X.1 X.2.1 dX12_speed_24 (by decide) ?_
      exact HJ28 2 H locs ls h hP hS (lv_sub hl [0, 1, 2] rfl)
  · have h := it_t hc h
    refine lv_iconst (v := 1) X.1 X.2.1 dX12_speed_9 (by decide) ?_
    refine lv_goto (tgt := 28) X.1 X.2.1 dX12_speed_10 (by decide) ?_
    exact HJ28 1 H locs ls h hP hS (lv_sub hl [0, 1, 2] rfl)

def f_X12_tellsApart_L4 (x1 : Int32) (g0 : Pic) (n : Nat) (a : Int32 × Int32) : Option (Int32) := lp (fun (rec : Int32 × Int32 → Option (Int32)) (a : Int32 × Int32) => match a with | (x2, x3) => (if (g0 1 3) ≤ x3 then some x2 else (if x2 = 0 then some x2 else bd (f_X12_likeBy g0 x3 x1) (fun r_1 => jn (fun (s0_J35 : Int32) => nm (x3 + 1) (fun x3_2 => rec (s0_J35, x3_2))) (fun J35 => (if r_1 = (1 <<< (x3 &&& 31)) then J35 1 else J35 0)))))) n a
def f_X12_tellsApart (g0 : Pic) (x1 : Int32) : Option (Int32) := bd (f_X12_tellsApart_L4 x1 g0 fu (1, 0)) (fun x2_3 => gdb x2_3 (some x2_3))
abbrev rm_X12_tellsApart : Room := { frames := 3, cells := 0, slots := 0, locals := 70 }
set_option maxHeartbeats 4000000 in
set_option maxRecDepth 100000 in
theorem c_X12_tellsApart (l : Launch) (dC : Nat → ClassId) (dI : Nat → Nat → Nat) (sk sv : Nat → Nat) (tc : Nat → ClassId) (a0 : Nat → Nat) (g0 : Pic) (x1 : Int32) {r0 : Int32} (h : f_X12_tellsApart g0 x1 = some r0) : CT l (dC, dI) sk sv (TY tc) yX12_tellsApart cX12_tellsApart 4 (some .boolean) rm_X12_tellsApart [.ref (a0 0), .int x1] (wM tc a0 g0) (some (.int r0)) (wM tc a0 g0) := by
  refine ofCT (by decide) (Nat.le_of_ble_eq_true rfl) ?_
  intro pr e s m args below meth c A Q ls H locs X hQ hD0 hP hS hl
  have hD : ∀ z0, va_D A (wM tc a0 z0) := fun z0 => D_fst (ws := (wM tc a0 g0)) rfl hD0
  have hl : lv_has ls 4 [(0, .ref (a0 0)), (1, .int x1)] := hl
  have HL4 : ∀ (x1 : Int32) (n : Nat) (x2 : Int32) (x3 : Int32) (ex : (Int32)), f_X12_tellsApart_L4 x1 g0 n (x2, x3) = some ex → ∀ (H : Heap) (locs : List Loc) (ls : Array Slot), va_P (dC, dI) vwCl (wM tc a0 g0) H → va_S A s.heap H locs → lv_has ls 4 [(0, .ref (a0 0)), (1, .int x1), (2, .int x2), (3, .int x3)] → (∀ (y2 : Int32), y2 = ex → ∀ (H : Heap) (locs : List Loc) (ls : Array Slot), va_P (dC, dI) vwCl (wM tc a0 g0) H → va_S A s.heap H locs → lv_has ls 4 [(2, .int y2)] → W pr l e rm_X12_tellsApart s m args below meth c H locs 0 0 Q (F0 m 42 ls [])) → W pr l e rm_X12_tellsApart s m args below meth c H locs 0 0 Q (F0 m 4 ls []) := by
    intro x1 n
    induction n with
    | zero => intro x2 x3 ex h; exact lp_z h
    | succ n ih =>
      intro x2 x3 ex h H locs ls hP hS hl K
      have h := lp_s h
      refine lv_iload_n X.1 X.2.1 dX12_tellsApart_4 rfl (lv_at hl 3 rfl) ?_
      refine lv_aload_n X.1 X.2.1 dX12_tellsApart_5 rfl (lv_at hl 0 rfl) ?_
      refine r_get (C := RX12) (T := TX12) (N := 28) (ci := 12) (v := .ref (a0 2)) X iw12 hP 0 rfl rfl 1 rfl mw_7_121 rfl dX12_tellsApart_6 ?_
      refine lv_iconst (v := 3) X.1 X.2.1 dX12_tellsApart_9 (by decide) ?_
      refine r_iald X hP 1 0 rfl rfl (j := 3) (by unfold vp_in; decide) (by decide) dX12_tellsApart_10 ?_
      refine lv_icmp_ge (tgt := 42) X.1 X.2.1 dX12_tellsApart_11 (by decide) (fun hc => ?_) (fun hc => ?_)
      · have h := it_t hc h
        exact K x2 (Option.some.inj h) H locs ls hP hS (lv_sub hl [2] rfl)
      · have h := it_f hc h
        refine lv_iload_n X.1 X.2.1 dX12_tellsApart_14 rfl (lv_at hl 2 rfl) ?_
        refine lv_if_eq (tgt := 42) X.1 X.2.1 dX12_tellsApart_15 (by decide) (fun hc => ?_) (fun hc => ?_)
        · have h := it_t hc h
          exact K x2 (Option.some.inj h) H locs ls hP hS (lv_sub hl [2] rfl)
        · have h := it_f hc h
          refine lv_aload_n X.1 X.2.1 dX12_tellsApart_18 rfl (lv_at hl 0 rfl) ?_
          refine lv_iload_n X.1 X.2.1 dX12_tellsApart_19 rfl (lv_at hl 3 rfl) ?_
          refine lv_iload_n X.1 X.2.1 dX12_tellsApart_20 rfl (lv_at hl 1 rfl) ?_
          obtain ⟨r_1, hc_1, h⟩ := bd_el h
          refine call_V1i (As := [.int x3, .int x1]) (rest := []) X (c_X12_likeBy l dC dI sk sv tc a0 g0 x3 x1 hc_1) mw_8_203 mw_8_205 mp_4_6 mw_1_12 mw_8_206 dc_X12_likeBy ⟨Nat.le_of_ble_eq_true rfl, Nat.le_of_ble_eq_true rfl⟩ rfl rfl ⟨Nat.zero_le _, Nat.zero_le _⟩ hP (hD _) hS 0 rfl rfl rfl hl.1 (Nat.le_of_ble_eq_true rfl) dX12_tellsApart_21 (fun H locs hP hS => ?_)
          refine lv_iconst (v := 1) X.1 X.2.1 dX12_tellsApart_24 (by decide) ?_
          refine lv_iload_n X.1 X.2.1 dX12_tellsApart_25 rfl (lv_at hl 3 rfl) ?_
          refine lv_ishl X.1 X.2.1 dX12_tellsApart_26 ?_
          obtain ⟨J35, eJ35, h⟩ := jn_el h
          have HJ35 : ∀ (s0_J35 : Int32) (H : Heap) (locs : List Loc) (ls : Array Slot), J35 s0_J35 = some ex → va_P (dC, dI) vwCl (wM tc a0 g0) H → va_S A s.heap H locs → lv_has ls 4 [(0, .ref (a0 0)), (1, .int x1), (3, .int x3)] → W pr l e rm_X12_tellsApart s m args below meth c H locs 0 0 Q (F0 m 35 ls [.int s0_J35]) := by
            intro s0_J35 H locs ls h hP hS hl
            rw [eJ35] at h
            refine lv_istore_n (lv' := [(2, .int s0_J35), (0, .ref (a0 0)), (1, .int x1), (3, .int x3)]) X.1 X.2.1 dX12_tellsApart_35 rfl hl (by decide) rfl (fun ls hl => ?_)
            obtain ⟨x3_2, ex3_2, h⟩ := nm_el h
            refine lv_iinc (v := x3_2) (lv' := [(3, .int x3_2), (2, .int s0_J35), (0, .ref (a0 0)), (1, .int x1)]) X.1 X.2.1 dX12_tellsApart_36 hl (k := 3) rfl (by rw [ex3_2]; rfl) (by decide) rfl (fun ls hl => ?_)
            refine lv_goto (tgt := 4) X.1 X.2.1 dX12_tellsApart_39 (by decide) ?_
            exact ih s0_J35 x3_2 ex h H locs ls hP hS (lv_sub hl [2, 3, 1, 0] rfl) K
          refine lv_icmp_ne (tgt := 34) X.1 X.2.1 dX12_tellsApart_27 (by decide) (fun hc => ?_) (fun hc => ?_)
          · have h := it_f hc h
            refine lv_iconst (v := 0) X.1 X.2.1 dX12_tellsApart_34 (by decide) ?_
            exact HJ35 0 H locs ls h hP hS (lv_sub hl [0, 1, 3] rfl)
          · have h := it_t hc h
            refine lv_iconst (v := 1) X.1 X.2.1 dX12_tellsApart_30 (by decide) ?_
            refine lv_goto (tgt := 35) X.1 X.2.1 dX12_tellsApart_31 (by decide) ?_
            exact HJ35 1 H locs ls h hP hS (lv_sub hl [0, 1, 3] rfl)
  unfold f_X12_tellsApart at h
  refine lv_iconst (v := 1) X.1 X.2.1 dX12_tellsApart_0 (by decide) ?_
  refine lv_istore_n (lv' := [(2, .int 1), (0, .ref (a0 0)), (1, .int x1)]) X.1 X.2.1 dX12_tellsApart_1 rfl hl (by decide) rfl (fun ls hl => ?_)
  refine lv_iconst (v := 0) X.1 X.2.1 dX12_tellsApart_2 (by decide) ?_
  refine lv_istore_n (lv' := [(3, .int 0), (2, .int 1), (0, .ref (a0 0)), (1, .int x1)]) X.1 X.2.1 dX12_tellsApart_3 rfl hl (by decide) rfl (fun ls hl => ?_)
  obtain ⟨ex_3, hL_3, h⟩ := bd_el h
  refine HL4 x1 fu 1 0 ex_3 hL_3 H locs ls hP hS (lv_sub hl [2, 3, 1, 0] rfl) (fun x2_3 he H locs ls hP hS hl => ?_)
  subst he
  refine lv_iload_n X.1 X.2.1 dX12_tellsApart_42 rfl (lv_at hl 0 rfl) ?_
  obtain ⟨hg_4, h⟩ := gdb_el h
  exact ret_z0 hg_4 (Option.some.inj h) X hQ hP hS dX12_tellsApart_43

def f_X12_keep_L9 (g0 : Pic) (n : Nat) (a : Int32 × Int32) : Option (Int32) := lp (fun (rec : Int32 × Int32 → Option (Int32)) (a : Int32 × Int32) => match a with | (x1, x2) => (if 256 ≤ x2 then some x1 else jn (fun (x1_J48 : Int32) => nm (x2 + 1) (fun x2_2 => rec (x1_J48, x2_2))) (fun J48 => jn (fun (_ : Unit) => bd (f_X12_tellsApart g0 (255 &&& (x2 ^^^ (-1)))) (fun r_3 => (if r_3 = 0 then J48 x1 else J48 x2))) (fun J32 => (if x1 = (-1) then J32 () else bd (f_X12_bits x2) (fun r_4 => bd (f_X12_bits x1) (fun r_5 => (if r_5 ≤ r_4 then J48 x1 else J32 ())))))))) n a
def f_X12_keep (g0 : Pic) : Option (Int32 × Pic) := nm (pu g0 0 0 0) (fun g0_1 => bd (f_X12_keep_L9 g0_1 fu ((-1), 0)) (fun x1_6 => some (x1_6, g0_1)))
abbrev rm_X12_keep : Room := { frames := 4, cells := 0, slots := 0, locals := 93 }
set_option maxHeartbeats 4000000 in
set_option maxRecDepth 100000 in
theorem c_X12_keep (l : Launch) (dC : Nat → ClassId) (dI : Nat → Nat → Nat) (sk sv : Nat → Nat) (tc : Nat → ClassId) (a0 : Nat → Nat) (g0 : Pic) {r0 : Int32} {G0 : Pic} (h : f_X12_keep g0 = some (r0, G0)) : CT l (dC, dI) sk sv (TY tc) yX12_keep cX12_keep 3 (some .int) rm_X12_keep [.ref (a0 0)] (wM tc a0 g0) (some (.int r0)) (wM tc a0 G0) := by
  refine ofCT (by decide) (Nat.le_of_ble_eq_true rfl) ?_
  intro pr e s m args below meth c A Q ls H locs X hQ hD0 hP hS hl
  have hD : ∀ z0, va_D A (wM tc a0 z0) := fun z0 => D_fst (ws := (wM tc a0 g0)) rfl hD0
  have hl : lv_has ls 3 [(0, .ref (a0 0))] := hl
  have HL9 : ∀ (g0 : Pic) (n : Nat) (x1 : Int32) (x2 : Int32) (ex : (Int32)), f_X12_keep_L9 g0 n (x1, x2) = some ex → ∀ (H : Heap) (locs : List Loc) (ls : Array Slot), va_P (dC, dI) vwCl (wM tc a0 g0) H → va_S A s.heap H locs → lv_has ls 3 [(0, .ref (a0 0)), (1, .int x1), (2, .int x2)] → (∀ (y1 : Int32), y1 = ex → ∀ (H : Heap) (locs : List Loc) (ls : Array Slot), va_P (dC, dI) vwCl (wM tc a0 g0) H → va_S A s.heap H locs → lv_has ls 3 [(1, .int y1)] → W pr l e rm_X12_keep s m args below meth c H locs 0 0 Q (F0 m 54 ls [])) → W pr l e rm_X12_keep s m args below meth c H locs 0 0 Q (F0 m 9 ls []) := by
    intro g0 n
    induction n with
    | zero => intro x1 x2 ex h; exact lp_z h
    | succ n ih =>
      intro x1 x2 ex h H locs ls hP hS hl K
      have h := lp_s h
      refine lv_iload_n X.1 X.2.1 dX12_keep_9 rfl (lv_at hl 2 rfl) ?_
      refine lv_sipush (v := 256) X.1 X.2.1 dX12_keep_10 (by decide) ?_
      refine lv_icmp_ge (tgt := 54) X.1 X.2.1 dX12_keep_13 (by decide) (fun hc => ?_) (fun hc => ?_)
      · have h := it_t hc h
        exact K x1 (Option.some.inj h) H locs ls hP hS (lv_sub hl [1] rfl)
      · have h := it_f hc h
        refine lv_iload_n X.1 X.2.1 dX12_keep_16 rfl (lv_at hl 1 rfl) ?_
        refine lv_iconst (v := (-1)) X.1 X.2.1 dX12_keep_17 (by decide) ?_
        obtain ⟨J48, eJ48, h⟩ := jn_el h
        have HJ48 : ∀ (x1_J48 : Int32) (H : Heap) (locs : List Loc) (ls : Array Slot), J48 x1_J48 = some ex → va_P (dC, dI) vwCl (wM tc a0 g0) H → va_S A s.heap H locs → lv_has ls 3 [(0, .ref (a0 0)), (1, .int x1_J48), (2, .int x2)] → W pr l e rm_X12_keep s m args below meth c H locs 0 0 Q (F0 m 48 ls []) := by
          intro x1_J48 H locs ls h hP hS hl
          rw [eJ48] at h
          obtain ⟨x2_2, ex2_2, h⟩ := nm_el h
          refine lv_iinc (v := x2_2) (lv' := [(2, .int x2_2), (0, .ref (a0 0)), (1, .int x1_J48)]) X.1 X.2.1 dX12_keep_48 hl (k := 2) rfl (by rw [ex2_2]; rfl) (by decide) rfl (fun ls hl => ?_)
          refine lv_goto (tgt := 9) X.1 X.2.1 dX12_keep_51 (by decide) ?_
          exact ih x1_J48 x2_2 ex h H locs ls hP hS (lv_sub hl [1, 2, 0] rfl) K
        obtain ⟨J32, eJ32, h⟩ := jn_el h
        have HJ32 : ∀ (_ : Unit) (H : Heap) (locs : List Loc) (ls : Array Slot), J32 () = some ex → va_P (dC, dI) vwCl (wM tc a0 g0) H → va_S A s.heap H locs → lv_has ls 3 [(0, .ref (a0 0)), (1, .int x1), (2, .int x2)] → W pr l e rm_X12_keep s m args below meth c H locs 0 0 Q (F0 m 32 ls []) := by
          intro _ H locs ls h hP hS hl
          rw [eJ32] at h
          refine lv_aload_n X.1 X.2.1 dX12_keep_32 rfl (lv_at hl 0 rfl) ?_
          refine lv_sipush (v := 255) X.1 X.2.1 dX12_keep_33 (by decide) ?_
          refine lv_iload_n X.1 X.2.1 dX12_keep_36 rfl (lv_at hl 2 rfl) ?_
          refine lv_iconst (v := (-1)) X.1 X.2.1 dX12_keep_37 (by decide) ?_
          refine lv_ixor X.1 X.2.1 dX12_keep_38 ?_
          refine lv_iand X.1 X.2.1 dX12_keep_39 ?_
          obtain ⟨r_3, hc_3, h⟩ := bd_el h
          refine call_V1i (As := [.int (255 &&& (x2 ^^^ (-1)))]) (rest := []) X (c_X12_tellsApart l dC dI sk sv tc a0 g0 (255 &&& (x2 ^^^ (-1))) hc_3) mw_9_126 mw_9_128 mp_5_12 mw_1_12 mw_9_129 dc_X12_tellsApart ⟨Nat.le_of_ble_eq_true rfl, Nat.le_of_ble_eq_true rfl⟩ rfl rfl ⟨Nat.zero_le _, Nat.zero_le _⟩ hP (hD _) hS 0 rfl rfl rfl hl.1 (Nat.le_of_ble_eq_true rfl) dX12_keep_40 (fun H locs hP hS => ?_)
          refine lv_if_eq (tgt := 48) X.1 X.2.1 dX12_keep_43 (by decide) (fun hc => ?_) (fun hc => ?_)
          · have h := it_t hc h
            exact HJ48 x1 H locs ls h hP hS (lv_sub hl [0, 1, 2] rfl)
          · have h := it_f hc h
            refine lv_iload_n X.1 X.2.1 dX12_keep_46 rfl (lv_at hl 2 rfl) ?_
            refine lv_istore_n (lv' := [(1, .int x2), (0, .ref (a0 0)), (2, .int x2)]) X.1 X.2.1 dX12_keep_47 rfl hl (by decide) rfl (fun ls hl => ?_)
            exact HJ48 x2 H locs ls h hP hS (lv_sub hl [1, 0, 2] rfl)
        refine lv_icmp_eq (tgt := 32) X.1 X.2.1 dX12_keep_18 (by decide) (fun hc => ?_) (fun hc => ?_)
        · have h := it_t hc h
          exact HJ32 () H locs ls h hP hS (lv_sub hl [0, 1, 2] rfl)
        · have h := it_f hc h
          refine lv_iload_n X.1 X.2.1 dX12_keep_21 rfl (lv_at hl 2 rfl) ?_
          obtain ⟨r_4, hc_4, h⟩ := bd_el h
          refine call_S0i (As := [.int x2]) (rest := []) X (c_X12_bits l dC dI sk sv tc x2 hc_4) mw_9_123 mw_9_124 mw_1_12 mw_9_125 dc_X12_bits ⟨Nat.le_of_ble_eq_true rfl, Nat.le_of_ble_eq_true rfl⟩ rfl rfl ⟨Nat.zero_le _, Nat.zero_le _⟩ hP (hD _) hS hl.1 (Nat.le_of_ble_eq_true rfl) dX12_keep_22 (fun H locs hP hS => ?_)
          refine lv_iload_n X.1 X.2.1 dX12_keep_25 rfl (lv_at hl 1 rfl) ?_
          obtain ⟨r_5, hc_5, h⟩ := bd_el h
          refine call_S0i (As := [.int x1]) (rest := [.int r_4]) X (c_X12_bits l dC dI sk sv tc x1 hc_5) mw_9_123 mw_9_124 mw_1_12 mw_9_125 dc_X12_bits ⟨Nat.le_of_ble_eq_true rfl, Nat.le_of_ble_eq_true rfl⟩ rfl rfl ⟨Nat.zero_le _, Nat.zero_le _⟩ hP (hD _) hS hl.1 (Nat.le_of_ble_eq_true rfl) dX12_keep_26 (fun H locs hP hS => ?_)
          refine lv_icmp_ge (tgt := 48) X.1 X.2.1 dX12_keep_29 (by decide) (fun hc => ?_) (fun hc => ?_)
          · have h := it_t hc h
            exact HJ48 x1 H locs ls h hP hS (lv_sub hl [0, 1, 2] rfl)
          · have h := it_f hc h
            exact HJ32 () H locs ls h hP hS (lv_sub hl [0, 1, 2] rfl)
  unfold f_X12_keep at h
  refine lv_aload_n X.1 X.2.1 dX12_keep_0 rfl (lv_at hl 0 rfl) ?_
  refine lv_iconst (v := 0) X.1 X.2.1 dX12_keep_1 (by decide) ?_
  obtain ⟨g0_1, eg0_1, h⟩ := nm_el h
  refine r_put (C := RX12) (T := TX12) (N := 28) (ci := 12) tyX12 tyX12_ok nmX12 X iw12 hP (hD _) hS 0 rfl rfl 0 rfl mw_7_120 rfl rfl rfl rfl dX12_keep_2 (wM tc a0 g0_1) (by rw [eg0_1]; rfl) (fun H locs hP hS => ?_)
  refine lv_iconst (v := (-1)) X.1 X.2.1 dX12_keep_5 (by decide) ?_
  refine lv_istore_n (lv' := [(1, .int (-1)), (0, .ref (a0 0))]) X.1 X.2.1 dX12_keep_6 rfl hl (by decide) rfl (fun ls hl => ?_)
  refine lv_iconst (v := 0) X.1 X.2.1 dX12_keep_7 (by decide) ?_
  refine lv_istore_n (lv' := [(2, .int 0), (1, .int (-1)), (0, .ref (a0 0))]) X.1 X.2.1 dX12_keep_8 rfl hl (by decide) rfl (fun ls hl => ?_)
  obtain ⟨ex_6, hL_6, h⟩ := bd_el h
  refine HL9 g0_1 fu (-1) 0 ex_6 hL_6 H locs ls hP hS (lv_sub hl [2, 1, 0] rfl) (fun x1_6 he H locs ls hP hS hl => ?_)
  subst he
  refine lv_iload_n X.1 X.2.1 dX12_keep_54 rfl (lv_at hl 0 rfl) ?_
  exact ret_i (fun u => (wM tc a0 u)) (res := (r0, G0)) (Option.some.inj h) X hQ hP hS dX12_keep_55

def f_X12_leaves_L37 (x1 : Int32) (x2 : Int32) (g0 : Pic) (n : Nat) (a : Int32 × Int32 × Int32) : Option (Int32 × Int32) := lp (fun (rec : Int32 × Int32 × Int32 → Option (Int32 × Int32)) (a : Int32 × Int32 × Int32) => match a with | (x3, x4, x5) => (if 256 ≤ x5 then some (x3, x4) else bd (f_X12_savesBy g0 x5) (fun r_3 => jn (fun (x3_J80 : Int32) (x4_J80 : Int32) => nm (x5 + 1) (fun x5_4 => rec (x3_J80, x4_J80, x5_4))) (fun J80 => (if r_3 ≤ x4 then J80 x3 x4 else bd (f_X12_lostBy g0 x5) (fun r_5 => (if r_5 ≤ x1 then J80 x5 r_3 else J80 x3 x4))))))) n a
def f_X12_leaves (g0 : Pic) (x1 : Int32) (x2 : Int32) : Option (Int32 × Pic) := bd (f_X12_isIn x1 0 999) (fun r_1 => jn (fun (s1_J17 : Int32) => nm (pu g0 0 0 s1_J17) (fun g0_2 => (if (g0_2 0 0) ≤ 0 then bd (f_X12_leaves_L37 x1 x2 g0_2 fu ((-1), (-1), 0)) (fun (x3_6, x4_6) => jn (fun (s0_J96 : Int32) => some (s0_J96, g0_2)) (fun J96 => (if x2 = 0 then J96 x3_6 else J96 x4_6))) else some (0, g0_2)))) (fun J17 => (if r_1 = 0 then J17 1 else J17 0)))
abbrev rm_X12_leaves : Room := { frames := 5, cells := 0, slots := 0, locals := 118 }
set_option maxHeartbeats 4000000 in
set_option maxRecDepth 100000 in
theorem c_X12_leaves (l : Launch) (dC : Nat → ClassId) (dI : Nat → Nat → Nat) (sk sv : Nat → Nat) (tc : Nat → ClassId) (a0 : Nat → Nat) (g0 : Pic) (x1 : Int32) (x2 : Int32) {r0 : Int32} {G0 : Pic} (h : f_X12_leaves g0 x1 x2 = some (r0, G0)) : CT l (dC, dI) sk sv (TY tc) yX12_leaves cX12_leaves 7 (some .int) rm_X12_leaves [.ref (a0 0), .int x1, .int x2] (wM tc a0 g0) (some (.int r0)) (wM tc a0 G0) := by
  refine ofCT (by decide) (Nat.le_of_ble_eq_true rfl) ?_
  intro pr e s m args below meth c A Q ls H locs X hQ hD0 hP hS hl
  have hD : ∀ z0, va_D A (wM tc a0 z0) := fun z0 => D_fst (ws := (wM tc a0 g0)) rfl hD0
  have hl : lv_has ls 7 [(0, .ref (a0 0)), (1, .int x1), (2, .int x2)] := hl
  have HL37 : ∀ (x1 : Int32) (x2 : Int32) (g0 : Pic) (n : Nat) (x3 : Int32) (x4 : Int32) (x5 : Int32) (ex : (Int32 × Int32)), f_X12_leaves_L37 x1 x2 g0 n (x3, x4, x5) = some ex → ∀ (H : Heap) (locs : List Loc) (ls : Array Slot), va_P (dC, dI) vwCl (wM tc a0 g0) H → va_S A s.heap H locs → lv_has ls 7 [(0, .ref (a0 0)), (1, .int x1), (2, .int x2), (3, .int x3), (4, .int x4), (5, .int x5)] → (∀ (y3 : Int32) (y4 : Int32), (y3, y4) = ex → ∀ (H : Heap) (locs : List Loc) (ls : Array Slot), va_P (dC, dI) vwCl (wM tc a0 g0) H → va_S A s.heap H locs → lv_has ls 7 [(2, .int x2), (3, .int y3), (4, .int y4)] → W pr l e rm_X12_leaves s m args below meth c H locs 0 0 Q (F0 m 86 ls [])) → W pr l e rm_X12_leaves s m args below meth c H locs 0 0 Q (F0 m 37 ls []) := by
    intro x1 x2 g0 n
    induction n with
    | zero => intro x3 x4 x5 ex h; exact lp_z h
    | succ n ih =>
      intro x3 x4 x5 ex h H locs ls hP hS hl K
      have h := lp_s h
      refine lv_iload X.1 X.2.1 dX12_leaves_37 (lv_at hl 5 rfl) ?_
      refine lv_sipush (v := 256) X.1 X.2.1 dX12_leaves_39 (by decide) ?_
      refine lv_icmp_ge (tgt := 86) X.1 X.2.1 dX12_leaves_42 (by decide) (fun hc => ?_) (fun hc => ?_)
      · have h := it_t hc h
        exact K x3 x4 (Option.some.inj h) H locs ls hP hS (lv_sub hl [2, 3, 4] rfl)
      · have h := it_f hc h
        refine lv_aload_n X.1 X.2.1 dX12_leaves_45 rfl (lv_at hl 0 rfl) ?_
        refine lv_iload X.1 X.2.1 dX12_leaves_46 (lv_at hl 5 rfl) ?_
        obtain ⟨r_3, hc_3, h⟩ := bd_el h
        refine call_V1i (As := [.int x5]) (rest := []) X (c_X12_savesBy l dC dI sk sv tc a0 g0 x5 hc_3) mw_8_211 mw_8_213 mp_4_8 mw_1_12 mw_8_214 dc_X12_savesBy ⟨Nat.le_of_ble_eq_true rfl, Nat.le_of_ble_eq_true rfl⟩ rfl rfl ⟨Nat.zero_le _, Nat.zero_le _⟩ hP (hD _) hS 0 rfl rfl rfl hl.1 (Nat.le_of_ble_eq_true rfl) dX12_leaves_48 (fun H locs hP hS => ?_)
        refine lv_istore (lv' := [(6, .int r_3), (0, .ref (a0 0)), (1, .int x1), (2, .int x2), (3, .int x3), (4, .int x4), (5, .int x5)]) X.1 X.2.1 dX12_leaves_51 hl (by decide) rfl (fun ls hl => ?_)
        refine lv_iload X.1 X.2.1 dX12_leaves_53 (lv_at hl 0 rfl) ?_
        refine lv_iload X.1 X.2.1 dX12_leaves_55 (lv_at hl 5 rfl) ?_
        obtain ⟨J80, eJ80, h⟩ := jn_el h
        have HJ80 : ∀ (x3_J80 : Int32) (x4_J80 : Int32) (H : Heap) (locs : List Loc) (ls : Array Slot), J80 x3_J80 x4_J80 = some ex → va_P (dC, dI) vwCl (wM tc a0 g0) H → va_S A s.heap H locs → lv_has ls 7 [(0, .ref (a0 0)), (1, .int x1), (2, .int x2), (3, .int x3_J80), (4, .int x4_J80), (5, .int x5)] → W pr l e rm_X12_leaves s m args below meth c H locs 0 0 Q (F0 m 80 ls []) := by
          intro x3_J80 x4_J80 H locs ls h hP hS hl
          rw [eJ80] at h
          obtain ⟨x5_4, ex5_4, h⟩ := nm_el h
          refine lv_iinc (v := x5_4) (lv' := [(5, .int x5_4), (0, .ref (a0 0)), (1, .int x1), (2, .int x2), (3, .int x3_J80), (4, .int x4_J80)]) X.1 X.2.1 dX12_leaves_80 hl (k := 5) rfl (by rw [ex5_4]; rfl) (by decide) rfl (fun ls hl => ?_)
          refine lv_goto (tgt := 37) X.1 X.2.1 dX12_leaves_83 (by decide) ?_
          exact ih x3_J80 x4_J80 x5_4 ex h H locs ls hP hS (lv_sub hl [1, 2, 3, 4, 5, 0] rfl) K
        refine lv_icmp_le (tgt := 80) X.1 X.2.1 dX12_leaves_57 (by decide) (fun hc => ?_) (fun hc => ?_)
        · have h := it_t hc h
          exact HJ80 x3 x4 H locs ls h hP hS (lv_sub hl [1, 2, 3, 4, 5, 6] rfl)
        · have h := it_f hc h
          refine lv_aload_n X.1 X.2.1 dX12_leaves_60 rfl (lv_at hl 1 rfl) ?_
          refine lv_iload X.1 X.2.1 dX12_leaves_61 (lv_at hl 6 rfl) ?_
          obtain ⟨r_5, hc_5, h⟩ := bd_el h
          refine call_V1i (As := [.int x5]) (rest := []) X (c_X12_lostBy l dC dI sk sv tc a0 g0 x5 hc_5) mw_8_195 mw_8_197 mp_4_4 mw_1_12 mw_8_198 dc_X12_lostBy ⟨Nat.le_of_ble_eq_true rfl, Nat.le_of_ble_eq_true rfl⟩ rfl rfl ⟨Nat.zero_le _, Nat.zero_le _⟩ hP (hD _) hS 0 rfl rfl rfl hl.1 (Nat.le_of_ble_eq_true rfl) dX12_leaves_63 (fun H locs hP hS => ?_)
          refine lv_iload_n X.1 X.2.1 dX12_leaves_66 rfl (lv_at hl 2 rfl) ?_
          refine lv_icmp_le (tgt := 73) X.1 X.2.1 dX12_leaves_67 (by decide) (fun hc => ?_) (fun hc => ?_)
          · have h := it_t hc h
            refine lv_iload X.1 X.2.1 dX12_leaves_73 (lv_at hl 0 rfl) ?_
            refine lv_istore (lv' := [(4, .int r_3), (6, .int r_3), (0, .ref (a0 0)), (1, .int x1), (2, .int x2), (3, .int x3), (5, .int x5)]) X.1 X.2.1 dX12_leaves_75 hl (by decide) rfl (fun ls hl => ?_)
            refine lv_iload X.1 X.2.1 dX12_leaves_77 (lv_at hl 6 rfl) ?_
            refine lv_istore_n (lv' := [(3, .int x5), (4, .int r_3), (6, .int r_3), (0, .ref (a0 0)), (1, .int x1), (2, .int x2), (5, .int x5)]) X.1 X.2.1 dX12_leaves_79 rfl hl (by decide) rfl (fun ls hl => ?_)
            exact HJ80 x5 r_3 H locs ls h hP hS (lv_sub hl [3, 4, 5, 0, 1, 6] rfl)
          · have h := it_f hc h
            refine lv_goto (tgt := 80) X.1 X.2.1 dX12_leaves_70 (by decide) ?_
            exact HJ80 x3 x4 H locs ls h hP hS (lv_sub hl [1, 2, 3, 4, 5, 6] rfl)
  unfold f_X12_leaves at h
  refine lv_aload_n X.1 X.2.1 dX12_leaves_0 rfl (lv_at hl 0 rfl) ?_
  refine lv_iload_n X.1 X.2.1 dX12_leaves_1 rfl (lv_at hl 1 rfl) ?_
  refine lv_iconst (v := 0) X.1 X.2.1 dX12_leaves_2 (by decide) ?_
  refine lv_sipush (v := 999) X.1 X.2.1 dX12_leaves_3 (by decide) ?_
  obtain ⟨r_1, hc_1, h⟩ := bd_el h
  refine call_S0i (As := [.int x1, .int 0, .int 999]) (rest := [.ref (a0 0)]) X (c_X12_isIn l dC dI sk sv tc x1 0 999 hc_1) mw_7_218 mw_7_219 mw_1_12 mw_7_220 dc_X12_isIn ⟨Nat.le_of_ble_eq_true rfl, Nat.le_of_ble_eq_true rfl⟩ rfl rfl ⟨Nat.zero_le _, Nat.zero_le _⟩ hP (hD _) hS hl.1 (Nat.le_of_ble_eq_true rfl) dX12_leaves_6 (fun H locs hP hS => ?_)
  obtain ⟨J17, eJ17, h⟩ := jn_el h
  have HJ17 : ∀ (s1_J17 : Int32) (H : Heap) (locs : List Loc) (ls : Array Slot), J17 s1_J17 = some (r0, G0) → va_P (dC, dI) vwCl (wM tc a0 g0) H → va_S A s.heap H locs → lv_has ls 7 [(0, .ref (a0 0)), (1, .int x1), (2, .int x2)] → W pr l e rm_X12_leaves s m args below meth c H locs 0 0 Q (F0 m 17 ls [.int s1_J17, .ref (a0 0)]) := by
    intro s1_J17 H locs ls h hP hS hl
    rw [eJ17] at h
    obtain ⟨g0_2, eg0_2, h⟩ := nm_el h
    refine r_put (C := RX12) (T := TX12) (N := 28) (ci := 12) tyX12 tyX12_ok nmX12 X iw12 hP (hD _) hS 0 rfl rfl 0 rfl mw_7_120 rfl rfl rfl rfl dX12_leaves_17 (wM tc a0 g0_2) (by rw [eg0_2]; rfl) (fun H locs hP hS => ?_)
    refine lv_aload_n X.1 X.2.1 dX12_leaves_20 rfl (lv_at hl 0 rfl) ?_
    refine r_get (C := RX12) (T := TX12) (N := 28) (ci := 12) (v := .int (g0_2 0 0)) X iw12 hP 0 rfl rfl 0 rfl mw_7_120 rfl dX12_leaves_21 ?_
    refine lv_if_le (tgt := 29) X.1 X.2.1 dX12_leaves_24 (by decide) (fun hc => ?_) (fun hc => ?_)
    · have h := it_t hc h
      refine lv_iconst (v := (-1)) X.1 X.2.1 dX12_leaves_29 (by decide) ?_
      refine lv_istore_n (lv' := [(3, .int (-1)), (0, .ref (a0 0)), (1, .int x1), (2, .int x2)]) X.1 X.2.1 dX12_leaves_30 rfl hl (by decide) rfl (fun ls hl => ?_)
      refine lv_iconst (v := (-1)) X.1 X.2.1 dX12_leaves_31 (by decide) ?_
      refine lv_istore (lv' := [(4, .int (-1)), (3, .int (-1)), (0, .ref (a0 0)), (1, .int x1), (2, .int x2)]) X.1 X.2.1 dX12_leaves_32 hl (by decide) rfl (fun ls hl => ?_)
      refine lv_iconst (v := 0) X.1 X.2.1 dX12_leaves_34 (by decide) ?_
      refine lv_istore (lv' := [(5, .int 0), (4, .int (-1)), (3, .int (-1)), (0, .ref (a0 0)), (1, .int x1), (2, .int x2)]) X.1 X.2.1 dX12_leaves_35 hl (by decide) rfl (fun ls hl => ?_)
      obtain ⟨ex_6, hL_6, h⟩ := bd_el h
      refine HL37 x1 x2 g0_2 fu (-1) (-1) 0 ex_6 hL_6 H locs ls hP hS (lv_sub hl [3, 4, 5, 2, 1, 0] rfl) (fun x3_6 x4_6 he H locs ls hP hS hl => ?_)
      subst he
      refine lv_iload_n X.1 X.2.1 dX12_leaves_86 rfl (lv_at hl 0 rfl) ?_
      obtain ⟨J96, eJ96, h⟩ := jn_el h
      have HJ96 : ∀ (s0_J96 : Int32) (H : Heap) (locs : List Loc) (ls : Array Slot), J96 s0_J96 = some (r0, G0) → va_P (dC, dI) vwCl (wM tc a0 g0_2) H → va_S A s.heap H locs → lv_has ls 7 [] → W pr l e rm_X12_leaves s m args below meth c H locs 0 0 Q (F0 m 96 ls [.int s0_J96]) := by
        intro s0_J96 H locs ls h hP hS hl
        rw [eJ96] at h
        exact ret_i (fun u => (wM tc a0 u)) (res := (r0, G0)) (Option.some.inj h) X hQ hP hS dX12_leaves_96
      refine lv_if_eq (tgt := 95) X.1 X.2.1 dX12_leaves_87 (by decide) (fun hc => ?_) (fun hc => ?_)
      · have h := it_t hc h
        refine lv_iload_n X.1 X.2.1 dX12_leaves_95 rfl (lv_at hl 1 rfl) ?_
        exact HJ96 x3_6 H locs ls h hP hS (lv_sub hl [] rfl)
      · have h := it_f hc h
        refine lv_iload X.1 X.2.1 dX12_leaves_90 (lv_at hl 2 rfl) ?_
        refine lv_goto (tgt := 96) X.1 X.2.1 dX12_leaves_92 (by decide) ?_
        exact HJ96 x4_6 H locs ls h hP hS (lv_sub hl [] rfl)
    · have h := it_f hc h
      refine lv_iconst (v := 0) X.1 X.2.1 dX12_leaves_27 (by decide) ?_
      exact ret_i (fun u => (wM tc a0 u)) (res := (r0, G0)) (Option.some.inj h) X hQ hP hS dX12_leaves_28
  refine lv_if_ne (tgt := 16) X.1 X.2.1 dX12_leaves_9 (by decide) (fun hc => ?_) (fun hc => ?_)
  · have h := it_f hc h
    refine lv_iconst (v := 0) X.1 X.2.1 dX12_leaves_16 (by decide) ?_
    exact HJ17 0 H locs ls h hP hS (lv_sub hl [0, 1, 2] rfl)
  · have h := it_t hc h
    refine lv_iconst (v := 1) X.1 X.2.1 dX12_leaves_12 (by decide) ?_
    refine lv_goto (tgt := 17) X.1 X.2.1 dX12_leaves_13 (by decide) ?_
    exact HJ17 1 H locs ls h hP hS (lv_sub hl [0, 1, 2] rfl)

def f_X12_hears_L30 (x1 : Int32) (g0 : Pic) (n : Nat) (a : Int32 × Int32) : Option (Int32) := lp (fun (rec : Int32 × Int32 → Option (Int32)) (a : Int32 × Int32) => match a with | (x2, x3) => (if x1 ≤ x3 then some x2 else (if x2 = 0 then some x2 else gdi x3 400 (jn (fun (s0_J68 : Int32) => nm (x3 + 2) (fun x3_4 => rec (s0_J68, x3_4))) (fun J68 => jn (fun (_ : Unit) => J68 0) (fun J67 => (if 6 ≤ (g0 7 (x3.toNatClampNeg)) then J67 () else gdi (x3 + 1) 400 ((if 8 ≤ (g0 7 ((x3 + 1).toNatClampNeg)) then J67 () else J68 1))))))))) n a
def f_X12_hears_L119 (x1 : Int32) (x2 : Int32) (x3 : Int32) (x4 : Int32) (n : Nat) (a : Int32 × Pic) : Option (Pic) := lp (fun (rec : Int32 × Pic → Option (Pic)) (a : Int32 × Pic) => match a with | (x5, g0) => (if x1 ≤ x5 then some g0 else gdi x4 8 (gdi x5 400 (bd (f_X12_ofWord g0 x4 (g0 7 (x5.toNatClampNeg))) (fun r_12 => gdi (x5 + 1) 400 (jn (fun (s1_J163 : Int32) (s2_J163 : Int32) (s3_J163 : Int32) => gdi s1_J163 8 (nm (pu g0 25 (s1_J163.toNatClampNeg) (s2_J163 + s3_J163)) (fun g0_15 => nm (x5 + 2) (fun x5_16 => rec (x5_16, g0_15))))) (fun J163 => (if r_12 = (g0 7 ((x5 + 1).toNatClampNeg)) then J163 x4 (g0 25 (x4.toNatClampNeg)) 0 else J163 x4 (g0 25 (x4.toNatClampNeg)) 1)))))))) n a
def f_X12_hears_L93 (x1 : Int32) (x2 : Int32) (n : Nat) (a : Int32 × Int32 × Pic) : Option (Int32 × Pic) := lp (fun (rec : Int32 × Int32 × Pic → Option (Int32 × Pic)) (a : Int32 × Int32 × Pic) => match a with | (x3, x4, g0) => (if (g0 1 3) ≤ x4 then some (x3, g0) else (if x2 = 0 then some (x3, g0) else gdi x4 8 (nm (pu g0 25 (x4.toNatClampNeg) 0) (fun g0_9 => bd (f_X12_hears_L119 x1 x2 x3 x4 fu (0, g0_9)) (fun g0_17 => gdi x4 8 (jn (fun (s0_J191 : Int32) (s1_J191 : Int32) => nm ((s0_J191 ||| s1_J191)) (fun x3_19 => nm (x4 + 1) (fun x4_20 => rec (x3_19, x4_20, g0_17)))) (fun J191 => (if 1 < (g0_17 25 (x4.toNatClampNeg)) then J191 x3 0 else J191 x3 (1 <<< (x4 &&& 31))))))))))) n a
def f_X12_hears (g0 : Pic) : Option (Int32 × Pic) := nm ((g0 8 0)) (fun x1_1 => nm (pu g0 8 0 0) (fun g0_2 => jn (fun (s0_J27 : Int32) => bd (f_X12_hears_L30 x1_1 g0_2 fu (s0_J27, 0)) (fun x2_6 => jn (fun (s1_J85 : Int32) => nm (pu g0_2 0 0 s1_J85) (fun g0_7 => bd (f_X12_hears_L93 x1_1 x2_6 fu (0, 0, g0_7)) (fun (x3_21, g0_21) => some (x3_21, g0_21)))) (fun J85 => (if x2_6 = 0 then J85 1 else J85 0)))) (fun J27 => jn (fun (_ : Unit) => J27 0) (fun J26 => (if (x1_1 - x1_1 / 2 * 2) = 0 then (if 40 < x1_1 then J26 () else J27 1) else J26 ())))))
abbrev rm_X12_hears : Room := { frames := 1, cells := 0, slots := 0, locals := 22 }
set_option maxHeartbeats 4000000 in
set_option maxRecDepth 100000 in
theorem c_X12_hears (l : Launch) (dC : Nat → ClassId) (dI : Nat → Nat → Nat) (sk sv : Nat → Nat) (tc : Nat → ClassId) (a0 : Nat → Nat) (g0 : Pic) {r0 : Int32} {G0 : Pic} (h : f_X12_hears g0 = some (r0, G0)) : CT l (dC, dI) sk sv (TY tc) yX12_hears cX12_hears 6 (some .int) rm_X12_hears [.ref (a0 0)] (wM tc a0 g0) (some (.int r0)) (wM tc a0 G0) := by
  refine ofCT (by decide) (Nat.le_of_ble_eq_true rfl) ?_
  intro pr e s m args below meth c A Q ls H locs X hQ hD0 hP hS hl
  have hD : ∀ z0, va_D A (wM tc a0 z0) := fun z0 => D_fst (ws := (wM tc a0 g0)) rfl hD0
  have hl : lv_has ls 6 [(0, .ref (a0 0))] := hl
  have HL30 : ∀ (x1 : Int32) (g0 : Pic) (n : Nat) (x2 : Int32) (x3 : Int32) (ex : (Int32)), f_X12_hears_L30 x1 g0 n (x2, x3) = some ex → ∀ (H : Heap) (locs : List Loc) (ls : Array Slot), va_P (dC, dI) vwCl (wM tc a0 g0) H → va_S A s.heap H locs → lv_has ls 6 [(0, .ref (a0 0)), (1, .int x1), (2, .int x2), (3, .int x3)] → (∀ (y2 : Int32), y2 = ex → ∀ (H : Heap) (locs : List Loc) (ls : Array Slot), va_P (dC, dI) vwCl (wM tc a0 g0) H → va_S A s.heap H locs → lv_has ls 6 [(0, .ref (a0 0)), (1, .int x1), (2, .int y2)] → W pr l e rm_X12_hears s m args below meth c H locs 0 0 Q (F0 m 75 ls [])) → W pr l e rm_X12_hears s m args below meth c H locs 0 0 Q (F0 m 30 ls []) := by
    intro x1 g0 n
    induction n with
    | zero => intro x2 x3 ex h; exact lp_z h
    | succ n ih =>
      intro x2 x3 ex h H locs ls hP hS hl K
      have h := lp_s h
      refine lv_iload_n X.1 X.2.1 dX12_hears_30 rfl (lv_at hl 3 rfl) ?_
      refine lv_iload_n X.1 X.2.1 dX12_hears_31 rfl (lv_at hl 1 rfl) ?_
      refine lv_icmp_ge (tgt := 75) X.1 X.2.1 dX12_hears_32 (by decide) (fun hc => ?_) (fun hc => ?_)
      · have h := it_t hc h
        exact K x2 (Option.some.inj h) H locs ls hP hS (lv_sub hl [0, 1, 2] rfl)
      · have h := it_f hc h
        refine lv_iload_n X.1 X.2.1 dX12_hears_35 rfl (lv_at hl 2 rfl) ?_
        refine lv_if_eq (tgt := 75) X.1 X.2.1 dX12_hears_36 (by decide) (fun hc => ?_) (fun hc => ?_)
        · have h := it_t hc h
          exact K x2 (Option.some.inj h) H locs ls hP hS (lv_sub hl [0, 1, 2] rfl)
        · have h := it_f hc h
          refine lv_aload_n X.1 X.2.1 dX12_hears_39 rfl (lv_at hl 0 rfl) ?_
          refine r_get (C := RX12) (T := TX12) (N := 28) (ci := 12) (v := .ref (a0 8)) X iw12 hP 0 rfl rfl 7 rfl mw_7_127 rfl dX12_hears_40 ?_
          refine lv_iload_n X.1 X.2.1 dX12_hears_43 rfl (lv_at hl 3 rfl) ?_
          obtain ⟨hg_3, h⟩ := gdi_el h
          refine r_iald X hP 5 0 rfl rfl hg_3 rfl dX12_hears_44 ?_
          refine lv_bipush (v := 6) X.1 X.2.1 dX12_hears_45 (by decide) ?_
          obtain ⟨J68, eJ68, h⟩ := jn_el h
          have HJ68 : ∀ (s0_J68 : Int32) (H : Heap) (locs : List Loc) (ls : Array Slot), J68 s0_J68 = some ex → va_P (dC, dI) vwCl (wM tc a0 g0) H → va_S A s.heap H locs → lv_has ls 6 [(0, .ref (a0 0)), (1, .int x1), (3, .int x3)] → W pr l e rm_X12_hears s m args below meth c H locs 0 0 Q (F0 m 68 ls [.int s0_J68]) := by
            intro s0_J68 H locs ls h hP hS hl
            rw [eJ68] at h
            refine lv_istore_n (lv' := [(2, .int s0_J68), (0, .ref (a0 0)), (1, .int x1), (3, .int x3)]) X.1 X.2.1 dX12_hears_68 rfl hl (by decide) rfl (fun ls hl => ?_)
            obtain ⟨x3_4, ex3_4, h⟩ := nm_el h
            refine lv_iinc (v := x3_4) (lv' := [(3, .int x3_4), (2, .int s0_J68), (0, .ref (a0 0)), (1, .int x1)]) X.1 X.2.1 dX12_hears_69 hl (k := 3) rfl (by rw [ex3_4]; rfl) (by decide) rfl (fun ls hl => ?_)
            refine lv_goto (tgt := 30) X.1 X.2.1 dX12_hears_72 (by decide) ?_
            exact ih s0_J68 x3_4 ex h H locs ls hP hS (lv_sub hl [2, 3, 1, 0] rfl) K
          obtain ⟨J67, eJ67, h⟩ := jn_el h
          have HJ67 : ∀ (_ : Unit) (H : Heap) (locs : List Loc) (ls : Array Slot), J67 () = some ex → va_P (dC, dI) vwCl (wM tc a0 g0) H → va_S A s.heap H locs → lv_has ls 6 [(0, .ref (a0 0)), (1, .int x1), (3, .int x3)] → W pr l e rm_X12_hears s m args below meth c H locs 0 0 Q (F0 m 67 ls []) := by
            intro _ H locs ls h hP hS hl
            rw [eJ67] at h
            refine lv_iconst (v := 0) X.1 X.2.1 dX12_hears_67 (by decide) ?_
            exact HJ68 0 H locs ls h hP hS (lv_sub hl [0, 1, 2] rfl)
          refine lv_icmp_ge (tgt := 67) X.1 X.2.1 dX12_hears_47 (by decide) (fun hc => ?_) (fun hc => ?_)
          · have h := it_t hc h
            exact HJ67 () H locs ls h hP hS (lv_sub hl [0, 1, 3] rfl)
          · have h := it_f hc h
            refine lv_aload_n X.1 X.2.1 dX12_hears_50 rfl (lv_at hl 0 rfl) ?_
            refine r_get (C := RX12) (T := TX12) (N := 28) (ci := 12) (v := .ref (a0 8)) X iw12 hP 0 rfl rfl 7 rfl mw_7_127 rfl dX12_hears_51 ?_
            refine lv_iload_n X.1 X.2.1 dX12_hears_54 rfl (lv_at hl 3 rfl) ?_
            refine lv_iconst (v := 1) X.1 X.2.1 dX12_hears_55 (by decide) ?_
            refine lv_iadd X.1 X.2.1 dX12_hears_56 ?_
            obtain ⟨hg_5, h⟩ := gdi_el h
            refine r_iald X hP 5 0 rfl rfl hg_5 rfl dX12_hears_57 ?_
            refine lv_bipush (v := 8) X.1 X.2.1 dX12_hears_58 (by decide) ?_
            refine lv_icmp_ge (tgt := 67) X.1 X.2.1 dX12_hears_60 (by decide) (fun hc => ?_) (fun hc => ?_)
            · have h := it_t hc h
              exact HJ67 () H locs ls h hP hS (lv_sub hl [0, 1, 3] rfl)
            · have h := it_f hc h
              refine lv_iconst (v := 1) X.1 X.2.1 dX12_hears_63 (by decide) ?_
              refine lv_goto (tgt := 68) X.1 X.2.1 dX12_hears_64 (by decide) ?_
              exact HJ68 1 H locs ls h hP hS (lv_sub hl [0, 1, 3] rfl)
  have HL119 : ∀ (x1 : Int32) (x2 : Int32) (x3 : Int32) (x4 : Int32) (n : Nat) (x5 : Int32) (g0 : Pic) (ex : (Pic)), f_X12_hears_L119 x1 x2 x3 x4 n (x5, g0) = some ex → ∀ (H : Heap) (locs : List Loc) (ls : Array Slot), va_P (dC, dI) vwCl (wM tc a0 g0) H → va_S A s.heap H locs → lv_has ls 6 [(0, .ref (a0 0)), (1, .int x1), (2, .int x2), (3, .int x3), (4, .int x4), (5, .int x5)] → (∀ (k0 : Pic), k0 = ex → ∀ (H : Heap) (locs : List Loc) (ls : Array Slot), va_P (dC, dI) vwCl (wM tc a0 k0) H → va_S A s.heap H locs → lv_has ls 6 [(0, .ref (a0 0)), (1, .int x1), (2, .int x2), (3, .int x3), (4, .int x4)] → W pr l e rm_X12_hears s m args below meth c H locs 0 0 Q (F0 m 171 ls [])) → W pr l e rm_X12_hears s m args below meth c H locs 0 0 Q (F0 m 119 ls []) := by
    intro x1 x2 x3 x4 n
    induction n with
    | zero => intro x5 g0 ex h; exact lp_z h
    | succ n ih =>
      intro x5 g0 ex h H locs ls hP hS hl K
      have h := lp_s h
      refine lv_iload X.1 X.2.1 dX12_hears_119 (lv_at hl 5 rfl) ?_
      refine lv_iload_n X.1 X.2.1 dX12_hears_121 rfl (lv_at hl 1 rfl) ?_
      refine lv_icmp_ge (tgt := 171) X.1 X.2.1 dX12_hears_122 (by decide) (fun hc => ?_) (fun hc => ?_)
      · have h := it_t hc h
        exact K g0 (Option.some.inj h) H locs ls hP hS (lv_sub hl [0, 1, 2, 3, 4] rfl)
      · have h := it_f hc h
        refine lv_aload_n X.1 X.2.1 dX12_hears_125 rfl (lv_at hl 0 rfl) ?_
        refine r_get (C := RX12) (T := TX12) (N := 28) (ci := 12) (v := .ref (a0 26)) X iw12 hP 0 rfl rfl 25 rfl mw_7_145 rfl dX12_hears_126 ?_
        refine lv_iload X.1 X.2.1 dX12_hears_129 (lv_at hl 4 rfl) ?_
        refine lv_dup2_11 X.1 X.2.1 dX12_hears_131 rfl rfl ?_
        obtain ⟨hg_10, h⟩ := gdi_el h
        refine r_iald X hP 12 0 rfl rfl hg_10 rfl dX12_hears_132 ?_
        refine lv_aload_n X.1 X.2.1 dX12_hears_133 rfl (lv_at hl 0 rfl) ?_
        refine lv_iload X.1 X.2.1 dX12_hears_134 (lv_at hl 4 rfl) ?_
        refine lv_aload_n X.1 X.2.1 dX12_hears_136 rfl (lv_at hl 0 rfl) ?_
        refine r_get (C := RX12) (T := TX12) (N := 28) (ci := 12) (v := .ref (a0 8)) X iw12 hP 0 rfl rfl 7 rfl mw_7_127 rfl dX12_hears_137 ?_
        refine lv_iload X.1 X.2.1 dX12_hears_140 (lv_at hl 5 rfl) ?_
        obtain ⟨hg_11, h⟩ := gdi_el h
        refine r_iald X hP 5 0 rfl rfl hg_11 rfl dX12_hears_142 ?_
        obtain ⟨r_12, hc_12, h⟩ := bd_el h
        refine call_V1i (As := [.int x4, .int (g0 7 (x5.toNatClampNeg))]) (rest := [.int (g0 25 (x4.toNatClampNeg)), .int x4, .ref (a0 26)]) X (c_X12_ofWord l dC dI sk sv tc a0 g0 x4 (g0 7 (x5.toNatClampNeg)) hc_12) mw_8_140 mw_8_142 mp_3_10 mw_1_12 mw_8_143 dc_X12_ofWord ⟨Nat.le_of_ble_eq_true rfl, Nat.le_of_ble_eq_true rfl⟩ rfl rfl ⟨Nat.zero_le _, Nat.zero_le _⟩ hP (hD _) hS 0 rfl rfl rfl hl.1 (Nat.le_of_ble_eq_true rfl) dX12_hears_143 (fun H locs hP hS => ?_)
        refine lv_aload_n X.1 X.2.1 dX12_hears_146 rfl (lv_at hl 0 rfl) ?_
        refine r_get (C := RX12) (T := TX12) (N := 28) (ci := 12) (v := .ref (a0 8)) X iw12 hP 0 rfl rfl 7 rfl mw_7_127 rfl dX12_hears_147 ?_
        refine lv_iload X.1 X.2.1 dX12_hears_150 (lv_at hl 5 rfl) ?_
        refine lv_iconst (v := 1) X.1 X.2.1 dX12_hears_152 (by decide) ?_
        refine lv_iadd X.1 X.2.1 dX12_hears_153 ?_
        obtain ⟨hg_13, h⟩ := gdi_el h
        refine r_iald X hP 5 0 rfl rfl hg_13 rfl dX12_hears_154 ?_
        obtain ⟨J163, eJ163, h⟩ := jn_el h
        have HJ163 : ∀ (s1_J163 : Int32) (s2_J163 : Int32) (s3_J163 : Int32) (H : Heap) (locs : List Loc) (ls : Array Slot), J163 s1_J163 s2_J163 s3_J163 = some ex → va_P (dC, dI) vwCl (wM tc a0 g0) H → va_S A s.heap H locs → lv_has ls 6 [(0, .ref (a0 0)), (1, .int x1), (2, .int x2), (3, .int x3), (4, .int x4), (5, .int x5)] → W pr l e rm_X12_hears s m args below meth c H locs 0 0 Q (F0 m 163 ls [.int s3_J163, .int s2_J163, .int s1_J163, .ref (a0 26)]) := by
          intro s1_J163 s2_J163 s3_J163 H locs ls h hP hS hl
          rw [eJ163] at h
          refine lv_iadd X.1 X.2.1 dX12_hears_163 ?_
          obtain ⟨hg_14, h⟩ := gdi_el h
          obtain ⟨g0_15, eg0_15, h⟩ := nm_el h
          refine r_iast X hP (hD _) hS 12 0 rfl rfl hg_14 rfl dX12_hears_164 (wM tc a0 g0_15) (by rw [eg0_15]; rfl) (fun H locs hP hS => ?_)
          obtain ⟨x5_16, ex5_16, h⟩ := nm_el h
          refine lv_iinc (v := x5_16) (lv' := [(5, .int x5_16), (0, .ref (a0 0)), (1, .int x1), (2, .int x2), (3, .int x3), (4, .int x4)]) X.1 X.2.1 dX12_hears_165 hl (k := 5) rfl (by rw [ex5_16]; rfl) (by decide) rfl (fun ls hl => ?_)
          refine lv_goto (tgt := 119) X.1 X.2.1 dX12_hears_168 (by decide) ?_
          exact ih x5_16 g0_15 ex h H locs ls hP hS (lv_sub hl [1, 2, 3, 4, 5, 0] rfl) K
        refine lv_icmp_ne (tgt := 162) X.1 X.2.1 dX12_hears_155 (by decide) (fun hc => ?_) (fun hc => ?_)
        · have h := it_f hc h
          refine lv_iconst (v := 1) X.1 X.2.1 dX12_hears_162 (by decide) ?_
          exact HJ163 x4 (g0 25 (x4.toNatClampNeg)) 1 H locs ls h hP hS (lv_sub hl [0, 1, 2, 3, 4, 5] rfl)
        · have h := it_t hc h
          refine lv_iconst (v := 0) X.1 X.2.1 dX12_hears_158 (by decide) ?_
          refine lv_goto (tgt := 163) X.1 X.2.1 dX12_hears_159 (by decide) ?_
          exact HJ163 x4 (g0 25 (x4.toNatClampNeg)) 0 H locs ls h hP hS (lv_sub hl [0, 1, 2, 3, 4, 5] rfl)
  have HL93 : ∀ (x1 : Int32) (x2 : Int32) (n : Nat) (x3 : Int32) (x4 : Int32) (g0 : Pic) (ex : (Int32 × Pic)), f_X12_hears_L93 x1 x2 n (x3, x4, g0) = some ex → ∀ (H : Heap) (locs : List Loc) (ls : Array Slot), va_P (dC, dI) vwCl (wM tc a0 g0) H → va_S A s.heap H locs → lv_has ls 6 [(0, .ref (a0 0)), (1, .int x1), (2, .int x2), (3, .int x3), (4, .int x4)] → (∀ (y3 : Int32) (k0 : Pic), (y3, k0) = ex → ∀ (H : Heap) (locs : List Loc) (ls : Array Slot), va_P (dC, dI) vwCl (wM tc a0 k0) H → va_S A s.heap H locs → lv_has ls 6 [(3, .int y3)] → W pr l e rm_X12_hears s m args below meth c H locs 0 0 Q (F0 m 199 ls [])) → W pr l e rm_X12_hears s m args below meth c H locs 0 0 Q (F0 m 93 ls []) := by
    intro x1 x2 n
    induction n with
    | zero => intro x3 x4 g0 ex h; exact lp_z h
    | succ n ih =>
      intro x3 x4 g0 ex h H locs ls hP hS hl K
      have h := lp_s h
      refine lv_iload X.1 X.2.1 dX12_hears_93 (lv_at hl 4 rfl) ?_
      refine lv_aload_n X.1 X.2.1 dX12_hears_95 rfl (lv_at hl 0 rfl) ?_
      refine r_get (C := RX12) (T := TX12) (N := 28) (ci := 12) (v := .ref (a0 2)) X iw12 hP 0 rfl rfl 1 rfl mw_7_121 rfl dX12_hears_96 ?_
      refine lv_iconst (v := 3) X.1 X.2.1 dX12_hears_99 (by decide) ?_
      refine r_iald X hP 1 0 rfl rfl (j := 3) (by unfold vp_in; decide) (by decide) dX12_hears_100 ?_
      refine lv_icmp_ge (tgt := 199) X.1 X.2.1 dX12_hears_101 (by decide) (fun hc => ?_) (fun hc => ?_)
      · have h := it_t hc h
        exact K x3 g0 (Option.some.inj h) H locs ls hP hS (lv_sub hl [3] rfl)
      · have h := it_f hc h
        refine lv_iload_n X.1 X.2.1 dX12_hears_104 rfl (lv_at hl 2 rfl) ?_
        refine lv_if_eq (tgt := 199) X.1 X.2.1 dX12_hears_105 (by decide) (fun hc => ?_) (fun hc => ?_)
        · have h := it_t hc h
          exact K x3 g0 (Option.some.inj h) H locs ls hP hS (lv_sub hl [3] rfl)
        · have h := it_f hc h
          refine lv_aload_n X.1 X.2.1 dX12_hears_108 rfl (lv_at hl 0 rfl) ?_
          refine r_get (C := RX12) (T := TX12) (N := 28) (ci := 12) (v := .ref (a0 26)) X iw12 hP 0 rfl rfl 25 rfl mw_7_145 rfl dX12_hears_109 ?_
          refine lv_iload X.1 X.2.1 dX12_hears_112 (lv_at hl 4 rfl) ?_
          refine lv_iconst (v := 0) X.1 X.2.1 dX12_hears_114 (by decide) ?_
          obtain ⟨hg_8, h⟩ := gdi_el h
          obtain ⟨g0_9, eg0_9, h⟩ := nm_el h
          refine r_iast X hP (hD _) hS 12 0 rfl rfl hg_8 rfl dX12_hears_115 (wM tc a0 g0_9) (by rw [eg0_9]; rfl) (fun H locs hP hS => ?_)
          refine lv_iconst (v := 0) X.1 X.2.1 dX12_hears_116 (by decide) ?_
          refine lv_istore (lv' := [(5, .int 0), (0, .ref (a0 0)), (1, .int x1), (2, .int x2), (3, .int x3), (4, .int x4)]) X.1 X.2.1 dX12_hears_117 hl (by decide) rfl (fun ls hl => ?_)
          obtain ⟨ex_17, hL_17, h⟩ := bd_el h
          refine HL119 x1 x2 x3 x4 fu 0 g0_9 ex_17 hL_17 H locs ls hP hS (lv_sub hl [1, 2, 3, 4, 5, 0] rfl) (fun g0_17 he H locs ls hP hS hl => ?_)
          subst he
          refine lv_iload_n X.1 X.2.1 dX12_hears_171 rfl (lv_at hl 3 rfl) ?_
          refine lv_aload_n X.1 X.2.1 dX12_hears_172 rfl (lv_at hl 0 rfl) ?_
          refine r_get (C := RX12) (T := TX12) (N := 28) (ci := 12) (v := .ref (a0 26)) X iw12 hP 0 rfl rfl 25 rfl mw_7_145 rfl dX12_hears_173 ?_
          refine lv_iload X.1 X.2.1 dX12_hears_176 (lv_at hl 4 rfl) ?_
          obtain ⟨hg_18, h⟩ := gdi_el h
          refine r_iald X hP 12 0 rfl rfl hg_18 rfl dX12_hears_178 ?_
          refine lv_iconst (v := 1) X.1 X.2.1 dX12_hears_179 (by decide) ?_
          obtain ⟨J191, eJ191, h⟩ := jn_el h
          have HJ191 : ∀ (s0_J191 : Int32) (s1_J191 : Int32) (H : Heap) (locs : List Loc) (ls : Array Slot), J191 s0_J191 s1_J191 = some ex → va_P (dC, dI) vwCl (wM tc a0 g0_17) H → va_S A s.heap H locs → lv_has ls 6 [(0, .ref (a0 0)), (1, .int x1), (2, .int x2), (4, .int x4)] → W pr l e rm_X12_hears s m args below meth c H locs 0 0 Q (F0 m 191 ls [.int s1_J191, .int s0_J191]) := by
            intro s0_J191 s1_J191 H locs ls h hP hS hl
            rw [eJ191] at h
            refine lv_ior X.1 X.2.1 dX12_hears_191 ?_
            obtain ⟨x3_19, ex3_19, h⟩ := nm_el h
            refine tp_i ex3_19 ?_
            refine lv_istore_n (lv' := [(3, .int x3_19), (0, .ref (a0 0)), (1, .int x1), (2, .int x2), (4, .int x4)]) X.1 X.2.1 dX12_hears_192 rfl hl (by decide) rfl (fun ls hl => ?_)
            obtain ⟨x4_20, ex4_20, h⟩ := nm_el h
            refine lv_iinc (v := x4_20) (lv' := [(4, .int x4_20), (3, .int x3_19), (0, .ref (a0 0)), (1, .int x1), (2, .int x2)]) X.1 X.2.1 dX12_hears_193 hl (k := 4) rfl (by rw [ex4_20]; rfl) (by decide) rfl (fun ls hl => ?_)
            refine lv_goto (tgt := 93) X.1 X.2.1 dX12_hears_196 (by decide) ?_
            exact ih x3_19 x4_20 g0_17 ex h H locs ls hP hS (lv_sub hl [2, 3, 4, 1, 0] rfl) K
          refine lv_icmp_gt (tgt := 190) X.1 X.2.1 dX12_hears_180 (by decide) (fun hc => ?_) (fun hc => ?_)
          · have h := it_t hc h
            refine lv_iconst (v := 0) X.1 X.2.1 dX12_hears_190 (by decide) ?_
            exact HJ191 x3 0 H locs ls h hP hS (lv_sub hl [0, 1, 2, 4] rfl)
          · have h := it_f hc h
            refine lv_iconst (v := 1) X.1 X.2.1 dX12_hears_183 (by decide) ?_
            refine lv_iload X.1 X.2.1 dX12_hears_184 (lv_at hl 4 rfl) ?_
            refine lv_ishl X.1 X.2.1 dX12_hears_186 ?_
            refine lv_goto (tgt := 191) X.1 X.2.1 dX12_hears_187 (by decide) ?_
            exact HJ191 x3 (1 <<< (x4 &&& 31)) H locs ls h hP hS (lv_sub hl [0, 1, 2, 4] rfl)
  unfold f_X12_hears at h
  refine lv_aload_n X.1 X.2.1 dX12_hears_0 rfl (lv_at hl 0 rfl) ?_
  refine r_get (C := RX12) (T := TX12) (N := 28) (ci := 12) (v := .int (g0 8 0)) X iw12 hP 0 rfl rfl 8 rfl mw_7_128 rfl dX12_hears_1 ?_
  obtain ⟨x1_1, ex1_1, h⟩ := nm_el h
  refine tp_i ex1_1 ?_
  refine lv_istore_n (lv' := [(1, .int x1_1), (0, .ref (a0 0))]) X.1 X.2.1 dX12_hears_4 rfl hl (by decide) rfl (fun ls hl => ?_)
  refine lv_aload_n X.1 X.2.1 dX12_hears_5 rfl (lv_at hl 1 rfl) ?_
  refine lv_iconst (v := 0) X.1 X.2.1 dX12_hears_6 (by decide) ?_
  obtain ⟨g0_2, eg0_2, h⟩ := nm_el h
  refine r_put (C := RX12) (T := TX12) (N := 28) (ci := 12) tyX12 tyX12_ok nmX12 X iw12 hP (hD _) hS 0 rfl rfl 8 rfl mw_7_128 rfl rfl rfl rfl dX12_hears_7 (wM tc a0 g0_2) (by rw [eg0_2]; rfl) (fun H locs hP hS => ?_)
  refine lv_iload_n X.1 X.2.1 dX12_hears_10 rfl (lv_at hl 0 rfl) ?_
  refine lv_iconst (v := 2) X.1 X.2.1 dX12_hears_11 (by decide) ?_
  refine lv_irem X.1 X.2.1 dX12_hears_12 (by decide) ?_
  obtain ⟨J27, eJ27, h⟩ := jn_el h
  have HJ27 : ∀ (s0_J27 : Int32) (H : Heap) (locs : List Loc) (ls : Array Slot), J27 s0_J27 = some (r0, G0) → va_P (dC, dI) vwCl (wM tc a0 g0_2) H → va_S A s.heap H locs → lv_has ls 6 [(0, .ref (a0 0)), (1, .int x1_1)] → W pr l e rm_X12_hears s m args below meth c H locs 0 0 Q (F0 m 27 ls [.int s0_J27]) := by
    intro s0_J27 H locs ls h hP hS hl
    rw [eJ27] at h
    refine lv_istore_n (lv' := [(2, .int s0_J27), (0, .ref (a0 0)), (1, .int x1_1)]) X.1 X.2.1 dX12_hears_27 rfl hl (by decide) rfl (fun ls hl => ?_)
    refine lv_iconst (v := 0) X.1 X.2.1 dX12_hears_28 (by decide) ?_
    refine lv_istore_n (lv' := [(3, .int 0), (2, .int s0_J27), (0, .ref (a0 0)), (1, .int x1_1)]) X.1 X.2.1 dX12_hears_29 rfl hl (by decide) rfl (fun ls hl => ?_)
    obtain ⟨ex_6, hL_6, h⟩ := bd_el h
    refine HL30 x1_1 g0_2 fu s0_J27 0 ex_6 hL_6 H locs ls hP hS (lv_sub hl [2, 3, 1, 0] rfl) (fun x2_6 he H locs ls hP hS hl => ?_)
    subst he
    refine lv_aload_n X.1 X.2.1 dX12_hears_75 rfl (lv_at hl 0 rfl) ?_
    refine lv_iload_n X.1 X.2.1 dX12_hears_76 rfl (lv_at hl 2 rfl) ?_
    obtain ⟨J85, eJ85, h⟩ := jn_el h
    have HJ85 : ∀ (s1_J85 : Int32) (H : Heap) (locs : List Loc) (ls : Array Slot), J85 s1_J85 = some (r0, G0) → va_P (dC, dI) vwCl (wM tc a0 g0_2) H → va_S A s.heap H locs → lv_has ls 6 [(0, .ref (a0 0)), (1, .int x1_1), (2, .int x2_6)] → W pr l e rm_X12_hears s m args below meth c H locs 0 0 Q (F0 m 85 ls [.int s1_J85, .ref (a0 0)]) := by
      intro s1_J85 H locs ls h hP hS hl
      rw [eJ85] at h
      obtain ⟨g0_7, eg0_7, h⟩ := nm_el h
      refine r_put (C := RX12) (T := TX12) (N := 28) (ci := 12) tyX12 tyX12_ok nmX12 X iw12 hP (hD _) hS 0 rfl rfl 0 rfl mw_7_120 rfl rfl rfl rfl dX12_hears_85 (wM tc a0 g0_7) (by rw [eg0_7]; rfl) (fun H locs hP hS => ?_)
      refine lv_iconst (v := 0) X.1 X.2.1 dX12_hears_88 (by decide) ?_
      refine lv_istore_n (lv' := [(3, .int 0), (0, .ref (a0 0)), (1, .int x1_1), (2, .int x2_6)]) X.1 X.2.1 dX12_hears_89 rfl hl (by decide) rfl (fun ls hl => ?_)
      refine lv_iconst (v := 0) X.1 X.2.1 dX12_hears_90 (by decide) ?_
      refine lv_istore (lv' := [(4, .int 0), (3, .int 0), (0, .ref (a0 0)), (1, .int x1_1), (2, .int x2_6)]) X.1 X.2.1 dX12_hears_91 hl (by decide) rfl (fun ls hl => ?_)
      obtain ⟨ex_21, hL_21, h⟩ := bd_el h
      refine HL93 x1_1 x2_6 fu 0 0 g0_7 ex_21 hL_21 H locs ls hP hS (lv_sub hl [2, 3, 4, 1, 0] rfl) (fun x3_21 g0_21 he H locs ls hP hS hl => ?_)
      subst he
      refine lv_iload_n X.1 X.2.1 dX12_hears_199 rfl (lv_at hl 0 rfl) ?_
      exact ret_i (fun u => (wM tc a0 u)) (res := (r0, G0)) (Option.some.inj h) X hQ hP hS dX12_hears_200
    refine lv_if_eq (tgt := 84) X.1 X.2.1 dX12_hears_77 (by decide) (fun hc => ?_) (fun hc => ?_)
    · have h := it_t hc h
      refine lv_iconst (v := 1) X.1 X.2.1 dX12_hears_84 (by decide) ?_
      exact HJ85 1 H locs ls h hP hS (lv_sub hl [0, 1, 2] rfl)
    · have h := it_f hc h
      refine lv_iconst (v := 0) X.1 X.2.1 dX12_hears_80 (by decide) ?_
      refine lv_goto (tgt := 85) X.1 X.2.1 dX12_hears_81 (by decide) ?_
      exact HJ85 0 H locs ls h hP hS (lv_sub hl [0, 1, 2] rfl)
  obtain ⟨J26, eJ26, h⟩ := jn_el h
  have HJ26 : ∀ (_ : Unit) (H : Heap) (locs : List Loc) (ls : Array Slot), J26 () = some (r0, G0) → va_P (dC, dI) vwCl (wM tc a0 g0_2) H → va_S A s.heap H locs → lv_has ls 6 [(0, .ref (a0 0)), (1, .int x1_1)] → W pr l e rm_X12_hears s m args below meth c H locs 0 0 Q (F0 m 26 ls []) := by
    intro _ H locs ls h hP hS hl
    rw [eJ26] at h
    refine lv_iconst (v := 0) X.1 X.2.1 dX12_hears_26 (by decide) ?_
    exact HJ27 0 H locs ls h hP hS (lv_sub hl [0, 1] rfl)
  refine lv_if_ne (tgt := 26) X.1 X.2.1 dX12_hears_13 (by decide) (fun hc => ?_) (fun hc => ?_)
  · have h := it_f hc h
    exact HJ26 () H locs ls h hP hS (lv_sub hl [1, 0] rfl)
  · have h := it_t hc h
    refine lv_iload_n X.1 X.2.1 dX12_hears_16 rfl (lv_at hl 0 rfl) ?_
    refine lv_bipush (v := 40) X.1 X.2.1 dX12_hears_17 (by decide) ?_
    refine lv_icmp_gt (tgt := 26) X.1 X.2.1 dX12_hears_19 (by decide) (fun hc => ?_) (fun hc => ?_)
    · have h := it_t hc h
      exact HJ26 () H locs ls h hP hS (lv_sub hl [1, 0] rfl)
    · have h := it_f hc h
      refine lv_iconst (v := 1) X.1 X.2.1 dX12_hears_22 (by decide) ?_
      refine lv_goto (tgt := 27) X.1 X.2.1 dX12_hears_23 (by decide) ?_
      exact HJ27 1 H locs ls h hP hS (lv_sub hl [1, 0] rfl)

def f_X12_heard (g0 : Pic) : Option (Int32 × Pic) := bd2 (f_X12_hears g0) (fun r_1 g0_1 => jn (fun (s0_J17 : Int32) => some (s0_J17, g0_1)) (fun J17 => (if (g0_1 0 0) ≤ 0 then J17 r_1 else J17 0)))
abbrev rm_X12_heard : Room := { frames := 2, cells := 0, slots := 0, locals := 47 }
set_option maxHeartbeats 4000000 in
set_option maxRecDepth 100000 in
theorem c_X12_heard (l : Launch) (dC : Nat → ClassId) (dI : Nat → Nat → Nat) (sk sv : Nat → Nat) (tc : Nat → ClassId) (a0 : Nat → Nat) (g0 : Pic) {r0 : Int32} {G0 : Pic} (h : f_X12_heard g0 = some (r0, G0)) : CT l (dC, dI) sk sv (TY tc) yX12_heard cX12_heard 2 (some .int) rm_X12_heard [.ref (a0 0)] (wM tc a0 g0) (some (.int r0)) (wM tc a0 G0) := by
  refine ofCT (by decide) (Nat.le_of_ble_eq_true rfl) ?_
  intro pr e s m args below meth c A Q ls H locs X hQ hD0 hP hS hl
  have hD : ∀ z0, va_D A (wM tc a0 z0) := fun z0 => D_fst (ws := (wM tc a0 g0)) rfl hD0
  have hl : lv_has ls 2 [(0, .ref (a0 0))] := hl
  unfold f_X12_heard at h
  refine lv_aload_n X.1 X.2.1 dX12_heard_0 rfl (lv_at hl 0 rfl) ?_
  obtain ⟨r_1, g0_1, hc_1, h⟩ := bd2_el h
  refine call_V1i (As := []) (rest := []) X (c_X12_hears l dC dI sk sv tc a0 g0 hc_1) mw_9_142 mw_9_144 mp_5_13 mw_1_12 mw_9_145 dc_X12_hears ⟨Nat.le_of_ble_eq_true rfl, Nat.le_of_ble_eq_true rfl⟩ rfl rfl ⟨Nat.zero_le _, Nat.zero_le _⟩ hP (hD _) hS 0 rfl rfl rfl hl.1 (Nat.le_of_ble_eq_true rfl) dX12_heard_1 (fun H locs hP hS => ?_)
  refine lv_istore_n (lv' := [(1, .int r_1), (0, .ref (a0 0))]) X.1 X.2.1 dX12_heard_4 rfl hl (by decide) rfl (fun ls hl => ?_)
  refine lv_aload_n X.1 X.2.1 dX12_heard_5 rfl (lv_at hl 1 rfl) ?_
  refine r_get (C := RX12) (T := TX12) (N := 28) (ci := 12) (v := .int (g0_1 0 0)) X iw12 hP 0 rfl rfl 0 rfl mw_7_120 rfl dX12_heard_6 ?_
  obtain ⟨J17, eJ17, h⟩ := jn_el h
  have HJ17 : ∀ (s0_J17 : Int32) (H : Heap) (locs : List Loc) (ls : Array Slot), J17 s0_J17 = some (r0, G0) → va_P (dC, dI) vwCl (wM tc a0 g0_1) H → va_S A s.heap H locs → lv_has ls 2 [] → W pr l e rm_X12_heard s m args below meth c H locs 0 0 Q (F0 m 17 ls [.int s0_J17]) := by
    intro s0_J17 H locs ls h hP hS hl
    rw [eJ17] at h
    exact ret_i (fun u => (wM tc a0 u)) (res := (r0, G0)) (Option.some.inj h) X hQ hP hS dX12_heard_17
  refine lv_if_le (tgt := 16) X.1 X.2.1 dX12_heard_9 (by decide) (fun hc => ?_) (fun hc => ?_)
  · have h := it_t hc h
    refine lv_iload_n X.1 X.2.1 dX12_heard_16 rfl (lv_at hl 0 rfl) ?_
    exact HJ17 r_1 H locs ls h hP hS (lv_sub hl [] rfl)
  · have h := it_f hc h
    refine lv_iconst (v := 0) X.1 X.2.1 dX12_heard_12 (by decide) ?_
    refine lv_goto (tgt := 17) X.1 X.2.1 dX12_heard_13 (by decide) ?_
    exact HJ17 0 H locs ls h hP hS (lv_sub hl [] rfl)

def f_X12_likely_L18 (x1 : Int32) (g0 : Pic) (n : Nat) (a : Int32 × Int32) : Option (Int32) := lp (fun (rec : Int32 × Int32 → Option (Int32)) (a : Int32 × Int32) => match a with | (x2, x3) => (if (g0 1 3) ≤ x3 then some x2 else bd (f_X12_isOf x1 x3) (fun r_2 => jn (fun (x2_J109 : Int32) => nm (x3 + 1) (fun x3_3 => rec (x2_J109, x3_3))) (fun J109 => (if r_2 = 0 then J109 x2 else jn (fun (s0_J96 : Int32) => jn (fun (s0_J108 : Int32) => J109 s0_J108) (fun J108 => (if s0_J96 = 0 then J108 x2 else J108 x3))) (fun J96 => jn (fun (_ : Unit) => J96 1) (fun J91 => (if x2 = (-1) then J91 () else gdi x3 8 (gdi x2 8 ((if (g0 25 (x3.toNatClampNeg)) < (g0 25 (x2.toNatClampNeg)) then J91 () else gdi x3 8 (gdi x2 8 (jn (fun (_ : Unit) => J96 0) (fun J95 => (if (g0 25 (x3.toNatClampNeg)) = (g0 25 (x2.toNatClampNeg)) then bd (f_X12_ofWord g0 x3 7) (fun r_8 => bd (f_X12_ofWord g0 x2 7) (fun r_9 => (if r_8 ≤ r_9 then J95 () else J91 ()))) else J95 ()))))))))))))))) n a
def f_X12_likely (g0 : Pic) : Option (Int32 × Pic) := bd2 (f_X12_hears g0) (fun r_1 g0_1 => (if (g0_1 0 0) ≤ 0 then bd (f_X12_likely_L18 r_1 g0_1 fu ((-1), 0)) (fun x2_10 => some (x2_10, g0_1)) else some (0, g0_1)))
abbrev rm_X12_likely : Room := { frames := 2, cells := 0, slots := 0, locals := 47 }
set_option maxHeartbeats 4000000 in
set_option maxRecDepth 100000 in
theorem c_X12_likely (l : Launch) (dC : Nat → ClassId) (dI : Nat → Nat → Nat) (sk sv : Nat → Nat) (tc : Nat → ClassId) (a0 : Nat → Nat) (g0 : Pic) {r0 : Int32} {G0 : Pic} (h : f_X12_likely g0 = some (r0, G0)) : CT l (dC, dI) sk sv (TY tc) yX12_likely cX12_likely 5 (some .int) rm_X12_likely [.ref (a0 0)] (wM tc a0 g0) (some (.int r0)) (wM tc a0 G0) := by
  refine ofCT (by decide) (Nat.le_of_ble_eq_true rfl) ?_
  intro pr e s m args below meth c A Q ls H locs X hQ hD0 hP hS hl
  have hD : ∀ z0, va_D A (wM tc a0 z0) := fun z0 => D_fst (ws := (wM tc a0 g0)) rfl hD0
  have hl : lv_has ls 5 [(0, .ref (a0 0))] := hl
  have HL18 : ∀ (x1 : Int32) (g0 : Pic) (n : Nat) (x2 : Int32) (x3 : Int32) (ex : (Int32)), f_X12_likely_L18 x1 g0 n (x2, x3) = some ex → ∀ (H : Heap) (locs : List Loc) (ls : Array Slot), va_P (dC, dI) vwCl (wM tc a0 g0) H → va_S A s.heap H locs → lv_has ls 5 [(0, .ref (a0 0)), (1, .int x1), (2, .int x2), (3, .int x3)] → (∀ (y2 : Int32), y2 = ex → ∀ (H : Heap) (locs : List Loc) (ls : Array Slot), va_P (dC, dI) vwCl (wM tc a0 g0) H → va_S A s.heap H locs → lv_has ls 5 [(2, .int y2)] → W pr l e rm_X12_likely s m args below meth c H locs 0 0 Q (F0 m 115 ls [])) → W pr l e rm_X12_likely s m args below meth c H locs 0 0 Q (F0 m 18 ls []) := by
    intro x1 g0 n
    induction n with
    | zero => intro x2 x3 ex h; exact lp_z h
    | succ n ih =>
      intro x2 x3 ex h H locs ls hP hS hl K
      have h := lp_s h
      refine lv_iload_n X.1 X.2.1 dX12_likely_18 rfl (lv_at hl 3 rfl) ?_
      refine lv_aload_n X.1 X.2.1 dX12_likely_19 rfl (lv_at hl 0 rfl) ?_
      refine r_get (C := RX12) (T := TX12) (N := 28) (ci := 12) (v := .ref (a0 2)) X iw12 hP 0 rfl rfl 1 rfl mw_7_121 rfl dX12_likely_20 ?_
      refine lv_iconst (v := 3) X.1 X.2.1 dX12_likely_23 (by decide) ?_
      refine r_iald X hP 1 0 rfl rfl (j := 3) (by unfold vp_in; decide) (by decide) dX12_likely_24 ?_
      refine lv_icmp_ge (tgt := 115) X.1 X.2.1 dX12_likely_25 (by decide) (fun hc => ?_) (fun hc => ?_)
      · have h := it_t hc h
        exact K x2 (Option.some.inj h) H locs ls hP hS (lv_sub hl [2] rfl)
      · have h := it_f hc h
        refine lv_iload_n X.1 X.2.1 dX12_likely_28 rfl (lv_at hl 1 rfl) ?_
        refine lv_iload_n X.1 X.2.1 dX12_likely_29 rfl (lv_at hl 3 rfl) ?_
        obtain ⟨r_2, hc_2, h⟩ := bd_el h
        refine call_S0i (As := [.int x1, .int x3]) (rest := []) X (c_X12_isOf l dC dI sk sv tc x1 x3 hc_2) mw_8_192 mw_8_193 mw_1_12 mw_8_194 dc_X12_isOf ⟨Nat.le_of_ble_eq_true rfl, Nat.le_of_ble_eq_true rfl⟩ rfl rfl ⟨Nat.zero_le _, Nat.zero_le _⟩ hP (hD _) hS hl.1 (Nat.le_of_ble_eq_true rfl) dX12_likely_30 (fun H locs hP hS => ?_)
        obtain ⟨J109, eJ109, h⟩ := jn_el h
        have HJ109 : ∀ (x2_J109 : Int32) (H : Heap) (locs : List Loc) (ls : Array Slot), J109 x2_J109 = some ex → va_P (dC, dI) vwCl (wM tc a0 g0) H → va_S A s.heap H locs → lv_has ls 5 [(0, .ref (a0 0)), (1, .int x1), (2, .int x2_J109), (3, .int x3)] → W pr l e rm_X12_likely s m args below meth c H locs 0 0 Q (F0 m 109 ls []) := by
          intro x2_J109 H locs ls h hP hS hl
          rw [eJ109] at h
          obtain ⟨x3_3, ex3_3, h⟩ := nm_el h
          refine lv_iinc (v := x3_3) (lv' := [(3, .int x3_3), (0, .ref (a0 0)), (1, .int x1), (2, .int x2_J109)]) X.1 X.2.1 dX12_likely_109 hl (k := 3) rfl (by rw [ex3_3]; rfl) (by decide) rfl (fun ls hl => ?_)
          refine lv_goto (tgt := 18) X.1 X.2.1 dX12_likely_112 (by decide) ?_
          exact ih x2_J109 x3_3 ex h H locs ls hP hS (lv_sub hl [1, 2, 3, 0] rfl) K
        refine lv_if_ne (tgt := 39) X.1 X.2.1 dX12_likely_33 (by decide) (fun hc => ?_) (fun hc => ?_)
        · have h := it_f hc h
          refine lv_iload_n X.1 X.2.1 dX12_likely_39 rfl (lv_at hl 2 rfl) ?_
          refine lv_iconst (v := (-1)) X.1 X.2.1 dX12_likely_40 (by decide) ?_
          obtain ⟨J96, eJ96, h⟩ := jn_el h
          have HJ96 : ∀ (s0_J96 : Int32) (H : Heap) (locs : List Loc) (ls : Array Slot), J96 s0_J96 = some ex → va_P (dC, dI) vwCl (wM tc a0 g0) H → va_S A s.heap H locs → lv_has ls 5 [(0, .ref (a0 0)), (1, .int x1), (2, .int x2), (3, .int x3)] → W pr l e rm_X12_likely s m args below meth c H locs 0 0 Q (F0 m 96 ls [.int s0_J96]) := by
            intro s0_J96 H locs ls h hP hS hl
            rw [eJ96] at h
            refine lv_istore (lv' := [(4, .int s0_J96), (0, .ref (a0 0)), (1, .int x1), (2, .int x2), (3, .int x3)]) X.1 X.2.1 dX12_likely_96 hl (by decide) rfl (fun ls hl => ?_)
            refine lv_iload X.1 X.2.1 dX12_likely_98 (lv_at hl 0 rfl) ?_
            obtain ⟨J108, eJ108, h⟩ := jn_el h
            have HJ108 : ∀ (s0_J108 : Int32) (H : Heap) (locs : List Loc) (ls : Array Slot), J108 s0_J108 = some ex → va_P (dC, dI) vwCl (wM tc a0 g0) H → va_S A s.heap H locs → lv_has ls 5 [(0, .ref (a0 0)), (1, .int x1), (3, .int x3)] → W pr l e rm_X12_likely s m args below meth c H locs 0 0 Q (F0 m 108 ls [.int s0_J108]) := by
              intro s0_J108 H locs ls h hP hS hl
              rw [eJ108] at h
              refine lv_istore_n (lv' := [(2, .int s0_J108), (0, .ref (a0 0)), (1, .int x1), (3, .int x3)]) X.1 X.2.1 dX12_likely_108 rfl hl (by decide) rfl (fun ls hl => ?_)
              exact HJ109 s0_J108 H locs ls h hP hS (lv_sub hl [1, 2, 0, 3] rfl)
            refine lv_if_eq (tgt := 107) X.1 X.2.1 dX12_likely_100 (by decide) (fun hc => ?_) (fun hc => ?_)
            · have h := it_t hc h
              refine lv_iload_n X.1 X.2.1 dX12_likely_107 rfl (lv_at hl 3 rfl) ?_
              exact HJ108 x2 H locs ls h hP hS (lv_sub hl [1, 2, 4] rfl)
            · have h := it_f hc h
              refine lv_iload_n X.1 X.2.1 dX12_likely_103 rfl (lv_at hl 4 rfl) ?_
              refine lv_goto (tgt := 108) X.1 X.2.1 dX12_likely_104 (by decide) ?_
              exact HJ108 x3 H locs ls h hP hS (lv_sub hl [1, 2, 4] rfl)
          obtain ⟨J91, eJ91, h⟩ := jn_el h
          have HJ91 : ∀ (_ : Unit) (H : Heap) (locs : List Loc) (ls : Array Slot), J91 () = some ex → va_P (dC, dI) vwCl (wM tc a0 g0) H → va_S A s.heap H locs → lv_has ls 5 [(0, .ref (a0 0)), (1, .int x1), (2, .int x2), (3, .int x3)] → W pr l e rm_X12_likely s m args below meth c H locs 0 0 Q (F0 m 91 ls []) := by
            intro _ H locs ls h hP hS hl
            rw [eJ91] at h
            refine lv_iconst (v := 1) X.1 X.2.1 dX12_likely_91 (by decide) ?_
            refine lv_goto (tgt := 96) X.1 X.2.1 dX12_likely_92 (by decide) ?_
            exact HJ96 1 H locs ls h hP hS (lv_sub hl [0, 1, 2, 3] rfl)
          refine lv_icmp_eq (tgt := 91) X.1 X.2.1 dX12_likely_41 (by decide) (fun hc => ?_) (fun hc => ?_)
          · have h := it_t hc h
            exact HJ91 () H locs ls h hP hS (lv_sub hl [0, 1, 2, 3] rfl)
          · have h := it_f hc h
            refine lv_aload_n X.1 X.2.1 dX12_likely_44 rfl (lv_at hl 0 rfl) ?_
            refine r_get (C := RX12) (T := TX12) (N := 28) (ci := 12) (v := .ref (a0 26)) X iw12 hP 0 rfl rfl 25 rfl mw_7_145 rfl dX12_likely_45 ?_
            refine lv_iload_n X.1 X.2.1 dX12_likely_48 rfl (lv_at hl 3 rfl) ?_
            obtain ⟨hg_4, h⟩ := gdi_el h
            refine r_iald X hP 12 0 rfl rfl hg_4 rfl dX12_likely_49 ?_
            refine lv_aload_n X.1 X.2.1 dX12_likely_50 rfl (lv_at hl 0 rfl) ?_
            refine r_get (C := RX12) (T := TX12) (N := 28) (ci := 12) (v := .ref (a0 26)) X iw12 hP 0 rfl rfl 25 rfl mw_7_145 rfl dX12_likely_51 ?_
            refine lv_iload_n X.1 X.2.1 dX12_likely_54 rfl (lv_at hl 2 rfl) ?_
            obtain ⟨hg_5, h⟩ := gdi_el h
            refine r_iald X hP 12 0 rfl rfl hg_5 rfl dX12_likely_55 ?_
            refine lv_icmp_lt (tgt := 91) X.1 X.2.1 dX12_likely_56 (by decide) (fun hc => ?_) (fun hc => ?_)
            · have h := it_t hc h
              exact HJ91 () H locs ls h hP hS (lv_sub hl [0, 1, 2, 3] rfl)
            · have h := it_f hc h
              refine lv_aload_n X.1 X.2.1 dX12_likely_59 rfl (lv_at hl 0 rfl) ?_
              refine r_get (C := RX12) (T := TX12) (N := 28) (ci := 12) (v := .ref (a0 26)) X iw12 hP 0 rfl rfl 25 rfl mw_7_145 rfl dX12_likely_60 ?_
              refine lv_iload_n X.1 X.2.1 dX12_likely_63 rfl (lv_at hl 3 rfl) ?_
              obtain ⟨hg_6, h⟩ := gdi_el h
              refine r_iald X hP 12 0 rfl rfl hg_6 rfl dX12_likely_64 ?_
              refine lv_aload_n X.1 X.2.1 dX12_likely_65 rfl (lv_at hl 0 rfl) ?_
              refine r_get (C := RX12) (T := TX12) (N := 28) (ci := 12) (v := .ref (a0 26)) X iw12 hP 0 rfl rfl 25 rfl mw_7_145 rfl dX12_likely_66 ?_
              refine lv_iload_n X.1 X.2.1 dX12_likely_69 rfl (lv_at hl 2 rfl) ?_
              obtain ⟨hg_7, h⟩ := gdi_el h
              refine r_iald X hP 12 0 rfl rfl hg_7 rfl dX12_likely_70 ?_
              obtain ⟨J95, eJ95, h⟩ := jn_el h
              have HJ95 : ∀ (_ : Unit) (H : Heap) (locs : List Loc) (ls : Array Slot), J95 () = some ex → va_P (dC, dI) vwCl (wM tc a0 g0) H → va_S A s.heap H locs → lv_has ls 5 [(0, .ref (a0 0)), (1, .int x1), (2, .int x2), (3, .int x3)] → W pr l e rm_X12_likely s m args below meth c H locs 0 0 Q (F0 m 95 ls []) := by
                intro _ H locs ls h hP hS hl
                rw [eJ95] at h
                refine lv_iconst (v := 0) X.1 X.2.1 dX12_likely_95 (by decide) ?_
                exact HJ96 0 H locs ls h hP hS (lv_sub hl [0, 1, 2, 3] rfl)
              refine lv_icmp_ne (tgt := 95) X.1 X.2.1 dX12_likely_71 (by decide) (fun hc => ?_) (fun hc => ?_)
              · have h := it_f hc h
                exact HJ95 () H locs ls h hP hS (lv_sub hl [0, 1, 2, 3] rfl)
              · have h := it_t hc h
                refine lv_aload_n X.1 X.2.1 dX12_likely_74 rfl (lv_at hl 0 rfl) ?_
                refine lv_iload_n X.1 X.2.1 dX12_likely_75 rfl (lv_at hl 3 rfl) ?_
                refine lv_bipush (v := 7) X.1 X.2.1 dX12_likely_76 (by decide) ?_
                obtain ⟨r_8, hc_8, h⟩ := bd_el h
                refine call_V1i (As := [.int x3, .int 7]) (rest := []) X (c_X12_ofWord l dC dI sk sv tc a0 g0 x3 7 hc_8) mw_8_140 mw_8_142 mp_3_10 mw_1_12 mw_8_143 dc_X12_ofWord ⟨Nat.le_of_ble_eq_true rfl, Nat.le_of_ble_eq_true rfl⟩ rfl rfl ⟨Nat.zero_le _, Nat.zero_le _⟩ hP (hD _) hS 0 rfl rfl rfl hl.1 (Nat.le_of_ble_eq_true rfl) dX12_likely_78 (fun H locs hP hS => ?_)
                refine lv_aload_n X.1 X.2.1 dX12_likely_81 rfl (lv_at hl 0 rfl) ?_
                refine lv_iload_n X.1 X.2.1 dX12_likely_82 rfl (lv_at hl 2 rfl) ?_
                refine lv_bipush (v := 7) X.1 X.2.1 dX12_likely_83 (by decide) ?_
                obtain ⟨r_9, hc_9, h⟩ := bd_el h
                refine call_V1i (As := [.int x2, .int 7]) (rest := [.int r_8]) X (c_X12_ofWord l dC dI sk sv tc a0 g0 x2 7 hc_9) mw_8_140 mw_8_142 mp_3_10 mw_1_12 mw_8_143 dc_X12_ofWord ⟨Nat.le_of_ble_eq_true rfl, Nat.le_of_ble_eq_true rfl⟩ rfl rfl ⟨Nat.zero_le _, Nat.zero_le _⟩ hP (hD _) hS 0 rfl rfl rfl hl.1 (Nat.le_of_ble_eq_true rfl) dX12_likely_85 (fun H locs hP hS => ?_)
                refine lv_icmp_le (tgt := 95) X.1 X.2.1 dX12_likely_88 (by decide) (fun hc => ?_) (fun hc => ?_)
                · have h := it_t hc h
                  exact HJ95 () H locs ls h hP hS (lv_sub hl [0, 1, 2, 3] rfl)
                · have h := it_f hc h
                  exact HJ91 () H locs ls h hP hS (lv_sub hl [0, 1, 2, 3] rfl)
        · have h := it_t hc h
          refine lv_goto (tgt := 109) X.1 X.2.1 dX12_likely_36 (by decide) ?_
          exact HJ109 x2 H locs ls h hP hS (lv_sub hl [0, 1, 2, 3] rfl)
  unfold f_X12_likely at h
  refine lv_aload_n X.1 X.2.1 dX12_likely_0 rfl (lv_at hl 0 rfl) ?_
  obtain ⟨r_1, g0_1, hc_1, h⟩ := bd2_el h
  refine call_V1i (As := []) (rest := []) X (c_X12_hears l dC dI sk sv tc a0 g0 hc_1) mw_9_142 mw_9_144 mp_5_13 mw_1_12 mw_9_145 dc_X12_hears ⟨Nat.le_of_ble_eq_true rfl, Nat.le_of_ble_eq_true rfl⟩ rfl rfl ⟨Nat.zero_le _, Nat.zero_le _⟩ hP (hD _) hS 0 rfl rfl rfl hl.1 (Nat.le_of_ble_eq_true rfl) dX12_likely_1 (fun H locs hP hS => ?_)
  refine lv_istore_n (lv' := [(1, .int r_1), (0, .ref (a0 0))]) X.1 X.2.1 dX12_likely_4 rfl hl (by decide) rfl (fun ls hl => ?_)
  refine lv_aload_n X.1 X.2.1 dX12_likely_5 rfl (lv_at hl 1 rfl) ?_
  refine r_get (C := RX12) (T := TX12) (N := 28) (ci := 12) (v := .int (g0_1 0 0)) X iw12 hP 0 rfl rfl 0 rfl mw_7_120 rfl dX12_likely_6 ?_
  refine lv_if_le (tgt := 14) X.1 X.2.1 dX12_likely_9 (by decide) (fun hc => ?_) (fun hc => ?_)
  · have h := it_t hc h
    refine lv_iconst (v := (-1)) X.1 X.2.1 dX12_likely_14 (by decide) ?_
    refine lv_istore_n (lv' := [(2, .int (-1)), (1, .int r_1), (0, .ref (a0 0))]) X.1 X.2.1 dX12_likely_15 rfl hl (by decide) rfl (fun ls hl => ?_)
    refine lv_iconst (v := 0) X.1 X.2.1 dX12_likely_16 (by decide) ?_
    refine lv_istore_n (lv' := [(3, .int 0), (2, .int (-1)), (1, .int r_1), (0, .ref (a0 0))]) X.1 X.2.1 dX12_likely_17 rfl hl (by decide) rfl (fun ls hl => ?_)
    obtain ⟨ex_10, hL_10, h⟩ := bd_el h
    refine HL18 r_1 g0_1 fu (-1) 0 ex_10 hL_10 H locs ls hP hS (lv_sub hl [3, 2, 1, 0] rfl) (fun x2_10 he H locs ls hP hS hl => ?_)
    subst he
    refine lv_iload_n X.1 X.2.1 dX12_likely_115 rfl (lv_at hl 0 rfl) ?_
    exact ret_i (fun u => (wM tc a0 u)) (res := (r0, G0)) (Option.some.inj h) X hQ hP hS dX12_likely_116
  · have h := it_f hc h
    refine lv_iconst (v := 0) X.1 X.2.1 dX12_likely_12 (by decide) ?_
    exact ret_i (fun u => (wM tc a0 u)) (res := (r0, G0)) (Option.some.inj h) X hQ hP hS dX12_likely_13

def f_X12_look_L41 (x1 : Int32) (x2 : Int32) (x3 : Int32) (x4 : Int32) (n : Nat) (a : Int32 × Pic) : Option (Pic) := lp (fun (rec : Int32 × Pic → Option (Pic)) (a : Int32 × Pic) => match a with | (x5, g0) => (if 9 ≤ x5 then some g0 else gdi x5 9 (nm (pu g0 26 (x5.toNatClampNeg) 0) (fun g0_4 => nm (x5 + 1) (fun x5_5 => rec (x5_5, g0_4)))))) n a
def f_X12_look_L68 (x1 : Int32) (x2 : Int32) (x3 : Int32) (x4 : Int32) (n : Nat) (a : Int32 × Int32 × Pic) : Option (Int32 × Pic) := lp (fun (rec : Int32 × Int32 × Pic → Option (Int32 × Pic)) (a : Int32 × Int32 × Pic) => match a with | (x5, x6, g0) => (if (g0 1 3) ≤ x6 then some (x5, g0) else bd (f_X12_isOf x1 x6) (fun r_7 => jn (fun (x5_J128 : Int32) (g0_J128 : Pic) => nm (x6 + 1) (fun x6_8 => rec (x5_J128, x6_8, g0_J128))) (fun J128 => (if r_7 = 0 then J128 x5 g0 else bd (f_X12_ofWord g0 x6 x4) (fun r_9 => nm ((r_9 + 1)) (fun x7_10 => gdi x7_10 9 (gdi x7_10 9 (nm (pu g0 26 (x7_10.toNatClampNeg) ((g0 26 (x7_10.toNatClampNeg)) + 1)) (fun g0_13 => gdi x7_10 9 (bd (f_X12_greater x5 (g0_13 26 (x7_10.toNatClampNeg))) (fun r_15 => J128 r_15 g0_13)))))))))))) n a
def f_X12_look_L23 (x1 : Int32) (n : Nat) (a : Int32 × Int32 × Int32 × Pic) : Option (Int32 × Pic) := lp (fun (rec : Int32 × Int32 × Int32 × Pic → Option (Int32 × Pic)) (a : Int32 × Int32 × Int32 × Pic) => match a with | (x2, x3, x4, g0) => (if 6 ≤ x4 then some (x2, g0) else bd (f_X12_bits x1) (fun r_2 => (if r_2 ≤ 1 then some (x2, g0) else bd (f_X12_look_L41 x1 x2 x3 x4 fu (0, g0)) (fun g0_6 => bd (f_X12_look_L68 x1 x2 x3 x4 fu (0, 0, g0_6)) (fun (x5_16, g0_16) => jn (fun (x2_J149 : Int32) (x3_J149 : Int32) => nm (x4 + 1) (fun x4_17 => rec (x2_J149, x3_J149, x4_17, g0_16))) (fun J149 => (if x5_16 < x3 then J149 x4 x5_16 else J149 x2 x3)))))))) n a
def f_X12_look (g0 : Pic) : Option (Int32 × Pic) := bd2 (f_X12_hears g0) (fun r_1 g0_1 => (if (g0_1 0 0) ≤ 0 then bd (f_X12_look_L23 r_1 fu ((-1), 2000000000, 0, g0_1)) (fun (x2_18, g0_18) => some (x2_18, g0_18)) else some (0, g0_1)))
abbrev rm_X12_look : Room := { frames := 2, cells := 0, slots := 0, locals := 47 }
set_option maxHeartbeats 4000000 in
set_option maxRecDepth 100000 in
theorem c_X12_look (l : Launch) (dC : Nat → ClassId) (dI : Nat → Nat → Nat) (sk sv : Nat → Nat) (tc : Nat → ClassId) (a0 : Nat → Nat) (g0 : Pic) {r0 : Int32} {G0 : Pic} (h : f_X12_look g0 = some (r0, G0)) : CT l (dC, dI) sk sv (TY tc) yX12_look cX12_look 8 (some .int) rm_X12_look [.ref (a0 0)] (wM tc a0 g0) (some (.int r0)) (wM tc a0 G0) := by
  refine ofCT (by decide) (Nat.le_of_ble_eq_true rfl) ?_
  intro pr e s m args below meth c A Q ls H locs X hQ hD0 hP hS hl
  have hD : ∀ z0, va_D A (wM tc a0 z0) := fun z0 => D_fst (ws := (wM tc a0 g0)) rfl hD0
  have hl : lv_has ls 8 [(0, .ref (a0 0))] := hl
  have HL41 : ∀ (x1 : Int32) (x2 : Int32) (x3 : Int32) (x4 : Int32) (n : Nat) (x5 : Int32) (g0 : Pic) (ex : (Pic)), f_X12_look_L41 x1 x2 x3 x4 n (x5, g0) = some ex → ∀ (H : Heap) (locs : List Loc) (ls : Array Slot), va_P (dC, dI) vwCl (wM tc a0 g0) H → va_S A s.heap H locs → lv_has ls 8 [(0, .ref (a0 0)), (1, .int x1), (2, .int x2), (3, .int x3), (4, .int x4), (5, .int x5)] → (∀ (k0 : Pic), k0 = ex → ∀ (H : Heap) (locs : List Loc) (ls : Array Slot), va_P (dC, dI) vwCl (wM tc a0 k0) H → va_S A s.heap H locs → lv_has ls 8 [(0, .ref (a0 0)), (1, .int x1), (2, .int x2), (3, .int x3), (4, .int x4)] → W pr l e rm_X12_look s m args below meth c H locs 0 0 Q (F0 m 62 ls [])) → W pr l e rm_X12_look s m args below meth c H locs 0 0 Q (F0 m 41 ls []) := by
    intro x1 x2 x3 x4 n
    induction n with
    | zero => intro x5 g0 ex h; exact lp_z h
    | succ n ih =>
      intro x5 g0 ex h H locs ls hP hS hl K
      have h := lp_s h
      refine lv_iload X.1 X.2.1 dX12_look_41 (lv_at hl 5 rfl) ?_
      refine lv_bipush (v := 9) X.1 X.2.1 dX12_look_43 (by decide) ?_
      refine lv_icmp_ge (tgt := 62) X.1 X.2.1 dX12_look_45 (by decide) (fun hc => ?_) (fun hc => ?_)
      · have h := it_t hc h
        exact K g0 (Option.some.inj h) H locs ls hP hS (lv_sub hl [0, 1, 2, 3, 4] rfl)
      · have h := it_f hc h
        refine lv_aload_n X.1 X.2.1 dX12_look_48 rfl (lv_at hl 0 rfl) ?_
        refine r_get (C := RX12) (T := TX12) (N := 28) (ci := 12) (v := .ref (a0 27)) X iw12 hP 0 rfl rfl 26 rfl mw_7_146 rfl dX12_look_49 ?_
        refine lv_iload X.1 X.2.1 dX12_look_52 (lv_at hl 5 rfl) ?_
        refine lv_iconst (v := 0) X.1 X.2.1 dX12_look_54 (by decide) ?_
        obtain ⟨hg_3, h⟩ := gdi_el h
        obtain ⟨g0_4, eg0_4, h⟩ := nm_el h
        refine r_iast X hP (hD _) hS 13 0 rfl rfl hg_3 rfl dX12_look_55 (wM tc a0 g0_4) (by rw [eg0_4]; rfl) (fun H locs hP hS => ?_)
        obtain ⟨x5_5, ex5_5, h⟩ := nm_el h
        refine lv_iinc (v := x5_5) (lv' := [(5, .int x5_5), (0, .ref (a0 0)), (1, .int x1), (2, .int x2), (3, .int x3), (4, .int x4)]) X.1 X.2.1 dX12_look_56 hl (k := 5) rfl (by rw [ex5_5]; rfl) (by decide) rfl (fun ls hl => ?_)
        refine lv_goto (tgt := 41) X.1 X.2.1 dX12_look_59 (by decide) ?_
        exact ih x5_5 g0_4 ex h H locs ls hP hS (lv_sub hl [1, 2, 3, 4, 5, 0] rfl) K
  have HL68 : ∀ (x1 : Int32) (x2 : Int32) (x3 : Int32) (x4 : Int32) (n : Nat) (x5 : Int32) (x6 : Int32) (g0 : Pic) (ex : (Int32 × Pic)), f_X12_look_L68 x1 x2 x3 x4 n (x5, x6, g0) = some ex → ∀ (H : Heap) (locs : List Loc) (ls : Array Slot), va_P (dC, dI) vwCl (wM tc a0 g0) H → va_S A s.heap H locs → lv_has ls 8 [(0, .ref (a0 0)), (1, .int x1), (2, .int x2), (3, .int x3), (4, .int x4), (5, .int x5), (6, .int x6)] → (∀ (y5 : Int32) (k0 : Pic), (y5, k0) = ex → ∀ (H : Heap) (locs : List Loc) (ls : Array Slot), va_P (dC, dI) vwCl (wM tc a0 k0) H → va_S A s.heap H locs → lv_has ls 8 [(0, .ref (a0 0)), (1, .int x1), (2, .int x2), (3, .int x3), (4, .int x4), (5, .int y5)] → W pr l e rm_X12_look s m args below meth c H locs 0 0 Q (F0 m 134 ls [])) → W pr l e rm_X12_look s m args below meth c H locs 0 0 Q (F0 m 68 ls []) := by
    intro x1 x2 x3 x4 n
    induction n with
    | zero => intro x5 x6 g0 ex h; exact lp_z h
    | succ n ih =>
      intro x5 x6 g0 ex h H locs ls hP hS hl K
      have h := lp_s h
      refine lv_iload X.1 X.2.1 dX12_look_68 (lv_at hl 6 rfl) ?_
      refine lv_aload_n X.1 X.2.1 dX12_look_70 rfl (lv_at hl 0 rfl) ?_
      refine r_get (C := RX12) (T := TX12) (N := 28) (ci := 12) (v := .ref (a0 2)) X iw12 hP 0 rfl rfl 1 rfl mw_7_121 rfl dX12_look_71 ?_
      refine lv_iconst (v := 3) X.1 X.2.1 dX12_look_74 (by decide) ?_
      refine r_iald X hP 1 0 rfl rfl (j := 3) (by unfold vp_in; decide) (by decide) dX12_look_75 ?_
      refine lv_icmp_ge (tgt := 134) X.1 X.2.1 dX12_look_76 (by decide) (fun hc => ?_) (fun hc => ?_)
      · have h := it_t hc h
        exact K x5 g0 (Option.some.inj h) H locs ls hP hS (lv_sub hl [0, 1, 2, 3, 4, 5] rfl)
      · have h := it_f hc h
        refine lv_iload_n X.1 X.2.1 dX12_look_79 rfl (lv_at hl 1 rfl) ?_
        refine lv_iload X.1 X.2.1 dX12_look_80 (lv_at hl 6 rfl) ?_
        obtain ⟨r_7, hc_7, h⟩ := bd_el h
        refine call_S0i (As := [.int x1, .int x6]) (rest := []) X (c_X12_isOf l dC dI sk sv tc x1 x6 hc_7) mw_8_192 mw_8_193 mw_1_12 mw_8_194 dc_X12_isOf ⟨Nat.le_of_ble_eq_true rfl, Nat.le_of_ble_eq_true rfl⟩ rfl rfl ⟨Nat.zero_le _, Nat.zero_le _⟩ hP (hD _) hS hl.1 (Nat.le_of_ble_eq_true rfl) dX12_look_82 (fun H locs hP hS => ?_)
        obtain ⟨J128, eJ128, h⟩ := jn_el h
        have HJ128 : ∀ (x5_J128 : Int32) (g0_J128 : Pic) (H : Heap) (locs : List Loc) (ls : Array Slot), J128 x5_J128 g0_J128 = some ex → va_P (dC, dI) vwCl (wM tc a0 g0_J128) H → va_S A s.heap H locs → lv_has ls 8 [(0, .ref (a0 0)), (1, .int x1), (2, .int x2), (3, .int x3), (4, .int x4), (5, .int x5_J128), (6, .int x6)] → W pr l e rm_X12_look s m args below meth c H locs 0 0 Q (F0 m 128 ls []) := by
          intro x5_J128 g0_J128 H locs ls h hP hS hl
          rw [eJ128] at h
          obtain ⟨x6_8, ex6_8, h⟩ := nm_el h
          refine lv_iinc (v := x6_8) (lv' := [(6, .int x6_8), (0, .ref (a0 0)), (1, .int x1), (2, .int x2), (3, .int x3), (4, .int x4), (5, .int x5_J128)]) X.1 X.2.1 dX12_look_128 hl (k := 6) rfl (by rw [ex6_8]; rfl) (by decide) rfl (fun ls hl => ?_)
          refine lv_goto (tgt := 68) X.1 X.2.1 dX12_look_131 (by decide) ?_
          exact ih x5_J128 x6_8 g0_J128 ex h H locs ls hP hS (lv_sub hl [1, 2, 3, 4, 5, 6, 0] rfl) K
        refine lv_if_ne (tgt := 91) X.1 X.2.1 dX12_look_85 (by decide) (fun hc => ?_) (fun hc => ?_)
        · have h := it_f hc h
          refine lv_aload_n X.1 X.2.1 dX12_look_91 rfl (lv_at hl 0 rfl) ?_
          refine lv_iload X.1 X.2.1 dX12_look_92 (lv_at hl 6 rfl) ?_
          refine lv_iload X.1 X.2.1 dX12_look_94 (lv_at hl 4 rfl) ?_
          obtain ⟨r_9, hc_9, h⟩ := bd_el h
          refine call_V1i (As := [.int x6, .int x4]) (rest := []) X (c_X12_ofWord l dC dI sk sv tc a0 g0 x6 x4 hc_9) mw_8_140 mw_8_142 mp_3_10 mw_1_12 mw_8_143 dc_X12_ofWord ⟨Nat.le_of_ble_eq_true rfl, Nat.le_of_ble_eq_true rfl⟩ rfl rfl ⟨Nat.zero_le _, Nat.zero_le _⟩ hP (hD _) hS 0 rfl rfl rfl hl.1 (Nat.le_of_ble_eq_true rfl) dX12_look_96 (fun H locs hP hS => ?_)
          refine lv_iconst (v := 1) X.1 X.2.1 dX12_look_99 (by decide) ?_
          refine lv_iadd X.1 X.2.1 dX12_look_100 ?_
          obtain ⟨x7_10, ex7_10, h⟩ := nm_el h
          refine tp_i ex7_10 ?_
          refine lv_istore (lv' := [(7, .int x7_10), (0, .ref (a0 0)), (1, .int x1), (2, .int x2), (3, .int x3), (4, .int x4), (5, .int x5), (6, .int x6)]) X.1 X.2.1 dX12_look_101 hl (by decide) rfl (fun ls hl => ?_)
          refine lv_aload_n X.1 X.2.1 dX12_look_103 rfl (lv_at hl 1 rfl) ?_
          refine r_get (C := RX12) (T := TX12) (N := 28) (ci := 12) (v := .ref (a0 27)) X iw12 hP 0 rfl rfl 26 rfl mw_7_146 rfl dX12_look_104 ?_
          refine lv_iload X.1 X.2.1 dX12_look_107 (lv_at hl 0 rfl) ?_
          refine lv_dup2_11 X.1 X.2.1 dX12_look_109 rfl rfl ?_
          obtain ⟨hg_11, h⟩ := gdi_el h
          refine r_iald X hP 13 0 rfl rfl hg_11 rfl dX12_look_110 ?_
          refine lv_iconst (v := 1) X.1 X.2.1 dX12_look_111 (by decide) ?_
          refine lv_iadd X.1 X.2.1 dX12_look_112 ?_
          obtain ⟨hg_12, h⟩ := gdi_el h
          obtain ⟨g0_13, eg0_13, h⟩ := nm_el h
          refine r_iast X hP (hD _) hS 13 0 rfl rfl hg_12 rfl dX12_look_113 (wM tc a0 g0_13) (by rw [eg0_13]; rfl) (fun H locs hP hS => ?_)
          refine lv_iload X.1 X.2.1 dX12_look_114 (lv_at hl 6 rfl) ?_
          refine lv_aload_n X.1 X.2.1 dX12_look_116 rfl (lv_at hl 1 rfl) ?_
          refine r_get (C := RX12) (T := TX12) (N := 28) (ci := 12) (v := .ref (a0 27)) X iw12 hP 0 rfl rfl 26 rfl mw_7_146 rfl dX12_look_117 ?_
          refine lv_iload X.1 X.2.1 dX12_look_120 (lv_at hl 0 rfl) ?_
          obtain ⟨hg_14, h⟩ := gdi_el h
          refine r_iald X hP 13 0 rfl rfl hg_14 rfl dX12_look_122 ?_
          obtain ⟨r_15, hc_15, h⟩ := bd_el h
          refine call_S0i (As := [.int x5, .int (g0_13 26 (x7_10.toNatClampNeg))]) (rest := []) X (c_X12_greater l dC dI sk sv tc x5 (g0_13 26 (x7_10.toNatClampNeg)) hc_15) mw_8_219 mw_8_220 mw_1_12 mw_8_221 dc_X12_greater ⟨Nat.le_of_ble_eq_true rfl, Nat.le_of_ble_eq_true rfl⟩ rfl rfl ⟨Nat.zero_le _, Nat.zero_le _⟩ hP (hD _) hS hl.1 (Nat.le_of_ble_eq_true rfl) dX12_look_123 (fun H locs hP hS => ?_)
          refine lv_istore (lv' := [(5, .int r_15), (7, .int x7_10), (0, .ref (a0 0)), (1, .int x1), (2, .int x2), (3, .int x3), (4, .int x4), (6, .int x6)]) X.1 X.2.1 dX12_look_126 hl (by decide) rfl (fun ls hl => ?_)
          exact HJ128 r_15 g0_13 H locs ls h hP hS (lv_sub hl [2, 3, 4, 5, 6, 0, 7] rfl)
        · have h := it_t hc h
          refine lv_goto (tgt := 128) X.1 X.2.1 dX12_look_88 (by decide) ?_
          exact HJ128 x5 g0 H locs ls h hP hS (lv_sub hl [0, 1, 2, 3, 4, 5, 6] rfl)
  have HL23 : ∀ (x1 : Int32) (n : Nat) (x2 : Int32) (x3 : Int32) (x4 : Int32) (g0 : Pic) (ex : (Int32 × Pic)), f_X12_look_L23 x1 n (x2, x3, x4, g0) = some ex → ∀ (H : Heap) (locs : List Loc) (ls : Array Slot), va_P (dC, dI) vwCl (wM tc a0 g0) H → va_S A s.heap H locs → lv_has ls 8 [(0, .ref (a0 0)), (1, .int x1), (2, .int x2), (3, .int x3), (4, .int x4)] → (∀ (y2 : Int32) (k0 : Pic), (y2, k0) = ex → ∀ (H : Heap) (locs : List Loc) (ls : Array Slot), va_P (dC, dI) vwCl (wM tc a0 k0) H → va_S A s.heap H locs → lv_has ls 8 [(2, .int y2)] → W pr l e rm_X12_look s m args below meth c H locs 0 0 Q (F0 m 155 ls [])) → W pr l e rm_X12_look s m args below meth c H locs 0 0 Q (F0 m 23 ls []) := by
    intro x1 n
    induction n with
    | zero => intro x2 x3 x4 g0 ex h; exact lp_z h
    | succ n ih =>
      intro x2 x3 x4 g0 ex h H locs ls hP hS hl K
      have h := lp_s h
      refine lv_iload X.1 X.2.1 dX12_look_23 (lv_at hl 4 rfl) ?_
      refine lv_bipush (v := 6) X.1 X.2.1 dX12_look_25 (by decide) ?_
      refine lv_icmp_ge (tgt := 155) X.1 X.2.1 dX12_look_27 (by decide) (fun hc => ?_) (fun hc => ?_)
      · have h := it_t hc h
        exact K x2 g0 (Option.some.inj h) H locs ls hP hS (lv_sub hl [2] rfl)
      · have h := it_f hc h
        refine lv_iload_n X.1 X.2.1 dX12_look_30 rfl (lv_at hl 1 rfl) ?_
        obtain ⟨r_2, hc_2, h⟩ := bd_el h
        refine call_S0i (As := [.int x1]) (rest := []) X (c_X12_bits l dC dI sk sv tc x1 hc_2) mw_9_123 mw_9_124 mw_1_12 mw_9_125 dc_X12_bits ⟨Nat.le_of_ble_eq_true rfl, Nat.le_of_ble_eq_true rfl⟩ rfl rfl ⟨Nat.zero_le _, Nat.zero_le _⟩ hP (hD _) hS hl.1 (Nat.le_of_ble_eq_true rfl) dX12_look_31 (fun H locs hP hS => ?_)
        refine lv_iconst (v := 1) X.1 X.2.1 dX12_look_34 (by decide) ?_
        refine lv_icmp_le (tgt := 155) X.1 X.2.1 dX12_look_35 (by decide) (fun hc => ?_) (fun hc => ?_)
        · have h := it_t hc h
          exact K x2 g0 (Option.some.inj h) H locs ls hP hS (lv_sub hl [2] rfl)
        · have h := it_f hc h
          refine lv_iconst (v := 0) X.1 X.2.1 dX12_look_38 (by decide) ?_
          refine lv_istore (lv' := [(5, .int 0), (0, .ref (a0 0)), (1, .int x1), (2, .int x2), (3, .int x3), (4, .int x4)]) X.1 X.2.1 dX12_look_39 hl (by decide) rfl (fun ls hl => ?_)
          obtain ⟨ex_6, hL_6, h⟩ := bd_el h
          refine HL41 x1 x2 x3 x4 fu 0 g0 ex_6 hL_6 H locs ls hP hS (lv_sub hl [1, 2, 3, 4, 5, 0] rfl) (fun g0_6 he H locs ls hP hS hl => ?_)
          subst he
          refine lv_iconst (v := 0) X.1 X.2.1 dX12_look_62 (by decide) ?_
          refine lv_istore (lv' := [(5, .int 0), (0, .ref (a0 0)), (1, .int x1), (2, .int x2), (3, .int x3), (4, .int x4)]) X.1 X.2.1 dX12_look_63 hl (by decide) rfl (fun ls hl => ?_)
          refine lv_iconst (v := 0) X.1 X.2.1 dX12_look_65 (by decide) ?_
          refine lv_istore (lv' := [(6, .int 0), (5, .int 0), (0, .ref (a0 0)), (1, .int x1), (2, .int x2), (3, .int x3), (4, .int x4)]) X.1 X.2.1 dX12_look_66 hl (by decide) rfl (fun ls hl => ?_)
          obtain ⟨ex_16, hL_16, h⟩ := bd_el h
          refine HL68 x1 x2 x3 x4 fu 0 0 g0_6 ex_16 hL_16 H locs ls hP hS (lv_sub hl [2, 3, 4, 5, 6, 1, 0] rfl) (fun x5_16 g0_16 he H locs ls hP hS hl => ?_)
          subst he
          refine lv_iload X.1 X.2.1 dX12_look_134 (lv_at hl 5 rfl) ?_
          refine lv_iload_n X.1 X.2.1 dX12_look_136 rfl (lv_at hl 3 rfl) ?_
          obtain ⟨J149, eJ149, h⟩ := jn_el h
          have HJ149 : ∀ (x2_J149 : Int32) (x3_J149 : Int32) (H : Heap) (locs : List Loc) (ls : Array Slot), J149 x2_J149 x3_J149 = some ex → va_P (dC, dI) vwCl (wM tc a0 g0_16) H → va_S A s.heap H locs → lv_has ls 8 [(0, .ref (a0 0)), (1, .int x1), (2, .int x2_J149), (3, .int x3_J149), (4, .int x4)] → W pr l e rm_X12_look s m args below meth c H locs 0 0 Q (F0 m 149 ls []) := by
            intro x2_J149 x3_J149 H locs ls h hP hS hl
            rw [eJ149] at h
            obtain ⟨x4_17, ex4_17, h⟩ := nm_el h
            refine lv_iinc (v := x4_17) (lv' := [(4, .int x4_17), (0, .ref (a0 0)), (1, .int x1), (2, .int x2_J149), (3, .int x3_J149)]) X.1 X.2.1 dX12_look_149 hl (k := 4) rfl (by rw [ex4_17]; rfl) (by decide) rfl (fun ls hl => ?_)
            refine lv_goto (tgt := 23) X.1 X.2.1 dX12_look_152 (by decide) ?_
            exact ih x2_J149 x3_J149 x4_17 g0_16 ex h H locs ls hP hS (lv_sub hl [1, 2, 3, 4, 0] rfl) K
          refine lv_icmp_lt (tgt := 143) X.1 X.2.1 dX12_look_137 (by decide) (fun hc => ?_) (fun hc => ?_)
          · have h := it_t hc h
            refine lv_iload X.1 X.2.1 dX12_look_143 (lv_at hl 5 rfl) ?_
            refine lv_istore_n (lv' := [(3, .int x5_16), (0, .ref (a0 0)), (1, .int x1), (2, .int x2), (4, .int x4), (5, .int x5_16)]) X.1 X.2.1 dX12_look_145 rfl hl (by decide) rfl (fun ls hl => ?_)
            refine lv_iload X.1 X.2.1 dX12_look_146 (lv_at hl 4 rfl) ?_
            refine lv_istore_n (lv' := [(2, .int x4), (3, .int x5_16), (0, .ref (a0 0)), (1, .int x1), (4, .int x4), (5, .int x5_16)]) X.1 X.2.1 dX12_look_148 rfl hl (by decide) rfl (fun ls hl => ?_)
            exact HJ149 x4 x5_16 H locs ls h hP hS (lv_sub hl [2, 3, 0, 1, 4] rfl)
          · have h := it_f hc h
            refine lv_goto (tgt := 149) X.1 X.2.1 dX12_look_140 (by decide) ?_
            exact HJ149 x2 x3 H locs ls h hP hS (lv_sub hl [0, 1, 2, 3, 4] rfl)
  unfold f_X12_look at h
  refine lv_aload_n X.1 X.2.1 dX12_look_0 rfl (lv_at hl 0 rfl) ?_
  obtain ⟨r_1, g0_1, hc_1, h⟩ := bd2_el h
  refine call_V1i (As := []) (rest := []) X (c_X12_hears l dC dI sk sv tc a0 g0 hc_1) mw_9_142 mw_9_144 mp_5_13 mw_1_12 mw_9_145 dc_X12_hears ⟨Nat.le_of_ble_eq_true rfl, Nat.le_of_ble_eq_true rfl⟩ rfl rfl ⟨Nat.zero_le _, Nat.zero_le _⟩ hP (hD _) hS 0 rfl rfl rfl hl.1 (Nat.le_of_ble_eq_true rfl) dX12_look_1 (fun H locs hP hS => ?_)
  refine lv_istore_n (lv' := [(1, .int r_1), (0, .ref (a0 0))]) X.1 X.2.1 dX12_look_4 rfl hl (by decide) rfl (fun ls hl => ?_)
  refine lv_aload_n X.1 X.2.1 dX12_look_5 rfl (lv_at hl 1 rfl) ?_
  refine r_get (C := RX12) (T := TX12) (N := 28) (ci := 12) (v := .int (g0_1 0 0)) X iw12 hP 0 rfl rfl 0 rfl mw_7_120 rfl dX12_look_6 ?_
  refine lv_if_le (tgt := 14) X.1 X.2.1 dX12_look_9 (by decide) (fun hc => ?_) (fun hc => ?_)
  · have h := it_t hc h
    refine lv_iconst (v := (-1)) X.1 X.2.1 dX12_look_14 (by decide) ?_
    refine lv_istore_n (lv' := [(2, .int (-1)), (1, .int r_1), (0, .ref (a0 0))]) X.1 X.2.1 dX12_look_15 rfl hl (by decide) rfl (fun ls hl => ?_)
    refine lv_ldcw (v := 2000000000) X.1 X.2.1 X.2.2.2.2.1 (X.2.2.2.2.2.1 _ (List.mem_cons_of_mem _ mw_8_152)) dX12_look_16 ?_
    refine lv_istore_n (lv' := [(3, .int 2000000000), (2, .int (-1)), (1, .int r_1), (0, .ref (a0 0))]) X.1 X.2.1 dX12_look_19 rfl hl (by decide) rfl (fun ls hl => ?_)
    refine lv_iconst (v := 0) X.1 X.2.1 dX12_look_20 (by decide) ?_
    refine lv_istore (lv' := [(4, .int 0), (3, .int 2000000000), (2, .int (-1)), (1, .int r_1), (0, .ref (a0 0))]) X.1 X.2.1 dX12_look_21 hl (by decide) rfl (fun ls hl => ?_)
    obtain ⟨ex_18, hL_18, h⟩ := bd_el h
    refine HL23 r_1 fu (-1) 2000000000 0 g0_1 ex_18 hL_18 H locs ls hP hS (lv_sub hl [4, 3, 2, 1, 0] rfl) (fun x2_18 g0_18 he H locs ls hP hS hl => ?_)
    subst he
    refine lv_iload_n X.1 X.2.1 dX12_look_155 rfl (lv_at hl 0 rfl) ?_
    exact ret_i (fun u => (wM tc a0 u)) (res := (r0, G0)) (Option.some.inj h) X hQ hP hS dX12_look_156
  · have h := it_f hc h
    refine lv_iconst (v := 0) X.1 X.2.1 dX12_look_12 (by decide) ?_
    exact ret_i (fun u => (wM tc a0 u)) (res := (r0, G0)) (Option.some.inj h) X hQ hP hS dX12_look_13

def f_X12_strokeRows_L30 (x1 : Int32) (g0 : Pic) (n : Nat) (a : Int32 × Int32) : Option (Int32) := lp (fun (rec : Int32 × Int32 → Option (Int32)) (a : Int32 × Int32) => match a with | (x2, x3) => (if x1 ≤ x3 then some x2 else (if x2 = 0 then some x2 else gdi x3 400 (jn (fun (s0_J72 : Int32) => nm (x3 + 2) (fun x3_4 => rec (s0_J72, x3_4))) (fun J72 => jn (fun (_ : Unit) => J72 0) (fun J71 => (if (g0 1 3) ≤ (g0 7 (x3.toNatClampNeg)) then J71 () else gdi (x3 + 1) 400 ((if 6 < (g0 7 ((x3 + 1).toNatClampNeg)) then J71 () else J72 1))))))))) n a
def f_X12_strokeRows (g0 : Pic) : Option (Int32 × Pic) := nm ((g0 8 0)) (fun x1_1 => nm (pu g0 8 0 0) (fun g0_2 => jn (fun (s0_J27 : Int32) => bd (f_X12_strokeRows_L30 x1_1 g0_2 fu (s0_J27, 0)) (fun x2_6 => jn (fun (s1_J89 : Int32) => nm (pu g0_2 0 0 s1_J89) (fun g0_7 => some (x1_1, g0_7))) (fun J89 => (if x2_6 = 0 then J89 1 else J89 0)))) (fun J27 => jn (fun (_ : Unit) => J27 0) (fun J26 => (if (x1_1 - x1_1 / 2 * 2) = 0 then (if 40 < x1_1 then J26 () else J27 1) else J26 ())))))
abbrev rm_X12_strokeRows : Room := { frames := 0, cells := 0, slots := 0, locals := 0 }
set_option maxHeartbeats 4000000 in
set_option maxRecDepth 100000 in
theorem c_X12_strokeRows (l : Launch) (dC : Nat → ClassId) (dI : Nat → Nat → Nat) (sk sv : Nat → Nat) (tc : Nat → ClassId) (a0 : Nat → Nat) (g0 : Pic) {r0 : Int32} {G0 : Pic} (h : f_X12_strokeRows g0 = some (r0, G0)) : CT l (dC, dI) sk sv (TY tc) yX12_strokeRows cX12_strokeRows 4 (some .int) rm_X12_strokeRows [.ref (a0 0)] (wM tc a0 g0) (some (.int r0)) (wM tc a0 G0) := by
  refine ofCT (by decide) (Nat.le_of_ble_eq_true rfl) ?_
  intro pr e s m args below meth c A Q ls H locs X hQ hD0 hP hS hl
  have hD : ∀ z0, va_D A (wM tc a0 z0) := fun z0 => D_fst (ws := (wM tc a0 g0)) rfl hD0
  have hl : lv_has ls 4 [(0, .ref (a0 0))] := hl
  have HL30 : ∀ (x1 : Int32) (g0 : Pic) (n : Nat) (x2 : Int32) (x3 : Int32) (ex : (Int32)), f_X12_strokeRows_L30 x1 g0 n (x2, x3) = some ex → ∀ (H : Heap) (locs : List Loc) (ls : Array Slot), va_P (dC, dI) vwCl (wM tc a0 g0) H → va_S A s.heap H locs → lv_has ls 4 [(0, .ref (a0 0)), (1, .int x1), (2, .int x2), (3, .int x3)] → (∀ (y2 : Int32), y2 = ex → ∀ (H : Heap) (locs : List Loc) (ls : Array Slot), va_P (dC, dI) vwCl (wM tc a0 g0) H → va_S A s.heap H locs → lv_has ls 4 [(0, .ref (a0 0)), (1, .int x1), (2, .int y2)] → W pr l e rm_X12_strokeRows s m args below meth c H locs 0 0 Q (F0 m 79 ls [])) → W pr l e rm_X12_strokeRows s m args below meth c H locs 0 0 Q (F0 m 30 ls []) := by
    intro x1 g0 n
    induction n with
    | zero => intro x2 x3 ex h; exact lp_z h
    | succ n ih =>
      intro x2 x3 ex h H locs ls hP hS hl K
      have h := lp_s h
      refine lv_iload_n X.1 X.2.1 dX12_strokeRows_30 rfl (lv_at hl 3 rfl) ?_
      refine lv_iload_n X.1 X.2.1 dX12_strokeRows_31 rfl (lv_at hl 1 rfl) ?_
      refine lv_icmp_ge (tgt := 79) X.1 X.2.1 dX12_strokeRows_32 (by decide) (fun hc => ?_) (fun hc => ?_)
      · have h := it_t hc h
        exact K x2 (Option.some.inj h) H locs ls hP hS (lv_sub hl [0, 1, 2] rfl)
      · have h := it_f hc h
        refine lv_iload_n X.1 X.2.1 dX12_strokeRows_35 rfl (lv_at hl 2 rfl) ?_
        refine lv_if_eq (tgt := 79) X.1 X.2.1 dX12_strokeRows_36 (by decide) (fun hc => ?_) (fun hc => ?_)
        · have h := it_t hc h
          exact K x2 (Option.some.inj h) H locs ls hP hS (lv_sub hl [0, 1, 2] rfl)
        · have h := it_f hc h
          refine lv_aload_n X.1 X.2.1 dX12_strokeRows_39 rfl (lv_at hl 0 rfl) ?_
          refine r_get (C := RX12) (T := TX12) (N := 28) (ci := 12) (v := .ref (a0 8)) X iw12 hP 0 rfl rfl 7 rfl mw_7_127 rfl dX12_strokeRows_40 ?_
          refine lv_iload_n X.1 X.2.1 dX12_strokeRows_43 rfl (lv_at hl 3 rfl) ?_
          obtain ⟨hg_3, h⟩ := gdi_el h
          refine r_iald X hP 5 0 rfl rfl hg_3 rfl dX12_strokeRows_44 ?_
          refine lv_aload_n X.1 X.2.1 dX12_strokeRows_45 rfl (lv_at hl 0 rfl) ?_
          refine r_get (C := RX12) (T := TX12) (N := 28) (ci := 12) (v := .ref (a0 2)) X iw12 hP 0 rfl rfl 1 rfl mw_7_121 rfl dX12_strokeRows_46 ?_
          refine lv_iconst (v := 3) X.1 X.2.1 dX12_strokeRows_49 (by decide) ?_
          refine r_iald X hP 1 0 rfl rfl (j := 3) (by unfold vp_in; decide) (by decide) dX12_strokeRows_50 ?_
          obtain ⟨J72, eJ72, h⟩ := jn_el h
          have HJ72 : ∀ (s0_J72 : Int32) (H : Heap) (locs : List Loc) (ls : Array Slot), J72 s0_J72 = some ex → va_P (dC, dI) vwCl (wM tc a0 g0) H → va_S A s.heap H locs → lv_has ls 4 [(0, .ref (a0 0)), (1, .int x1), (3, .int x3)] → W pr l e rm_X12_strokeRows s m args below meth c H locs 0 0 Q (F0 m 72 ls [.int s0_J72]) := by
            intro s0_J72 H locs ls h hP hS hl
            rw [eJ72] at h
            refine lv_istore_n (lv' := [(2, .int s0_J72), (0, .ref (a0 0)), (1, .int x1), (3, .int x3)]) X.1 X.2.1 dX12_strokeRows_72 rfl hl (by decide) rfl (fun ls hl => ?_)
            obtain ⟨x3_4, ex3_4, h⟩ := nm_el h
            refine lv_iinc (v := x3_4) (lv' := [(3, .int x3_4), (2, .int s0_J72), (0, .ref (a0 0)), (1, .int x1)]) X.1 X.2.1 dX12_strokeRows_73 hl (k := 3) rfl (by rw [ex3_4]; rfl) (by decide) rfl (fun ls hl => ?_)
            refine lv_goto (tgt := 30) X.1 X.2.1 dX12_strokeRows_76 (by decide) ?_
            exact ih s0_J72 x3_4 ex h H locs ls hP hS (lv_sub hl [2, 3, 1, 0] rfl) K
          obtain ⟨J71, eJ71, h⟩ := jn_el h
          have HJ71 : ∀ (_ : Unit) (H : Heap) (locs : List Loc) (ls : Array Slot), J71 () = some ex → va_P (dC, dI) vwCl (wM tc a0 g0) H → va_S A s.heap H locs → lv_has ls 4 [(0, .ref (a0 0)), (1, .int x1), (3, .int x3)] → W pr l e rm_X12_strokeRows s m args below meth c H locs 0 0 Q (F0 m 71 ls []) := by
            intro _ H locs ls h hP hS hl
            rw [eJ71] at h
            refine lv_iconst (v := 0) X.1 X.2.1 dX12_strokeRows_71 (by decide) ?_
            exact HJ72 0 H locs ls h hP hS (lv_sub hl [0, 1, 2] rfl)
          refine lv_icmp_ge (tgt := 71) X.1 X.2.1 dX12_strokeRows_51 (by decide) (fun hc => ?_) (fun hc => ?_)
          · have h := it_t hc h
            exact HJ71 () H locs ls h hP hS (lv_sub hl [0, 1, 3] rfl)
          · have h := it_f hc h
            refine lv_aload_n X.1 X.2.1 dX12_strokeRows_54 rfl (lv_at hl 0 rfl) ?_
            refine r_get (C := RX12) (T := TX12) (N := 28) (ci := 12) (v := .ref (a0 8)) X iw12 hP 0 rfl rfl 7 rfl mw_7_127 rfl dX12_strokeRows_55 ?_
            refine lv_iload_n X.1 X.2.1 dX12_strokeRows_58 rfl (lv_at hl 3 rfl) ?_
            refine lv_iconst (v := 1) X.1 X.2.1 dX12_strokeRows_59 (by decide) ?_
            refine lv_iadd X.1 X.2.1 dX12_strokeRows_60 ?_
            obtain ⟨hg_5, h⟩ := gdi_el h
            refine r_iald X hP 5 0 rfl rfl hg_5 rfl dX12_strokeRows_61 ?_
            refine lv_bipush (v := 6) X.1 X.2.1 dX12_strokeRows_62 (by decide) ?_
            refine lv_icmp_gt (tgt := 71) X.1 X.2.1 dX12_strokeRows_64 (by decide) (fun hc => ?_) (fun hc => ?_)
            · have h := it_t hc h
              exact HJ71 () H locs ls h hP hS (lv_sub hl [0, 1, 3] rfl)
            · have h := it_f hc h
              refine lv_iconst (v := 1) X.1 X.2.1 dX12_strokeRows_67 (by decide) ?_
              refine lv_goto (tgt := 72) X.1 X.2.1 dX12_strokeRows_68 (by decide) ?_
              exact HJ72 1 H locs ls h hP hS (lv_sub hl [0, 1, 3] rfl)
  unfold f_X12_strokeRows at h
  refine lv_aload_n X.1 X.2.1 dX12_strokeRows_0 rfl (lv_at hl 0 rfl) ?_
  refine r_get (C := RX12) (T := TX12) (N := 28) (ci := 12) (v := .int (g0 8 0)) X iw12 hP 0 rfl rfl 8 rfl mw_7_128 rfl dX12_strokeRows_1 ?_
  obtain ⟨x1_1, ex1_1, h⟩ := nm_el h
  refine tp_i ex1_1 ?_
  refine lv_istore_n (lv' := [(1, .int x1_1), (0, .ref (a0 0))]) X.1 X.2.1 dX12_strokeRows_4 rfl hl (by decide) rfl (fun ls hl => ?_)
  refine lv_aload_n X.1 X.2.1 dX12_strokeRows_5 rfl (lv_at hl 1 rfl) ?_
  refine lv_iconst (v := 0) X.1 X.2.1 dX12_strokeRows_6 (by decide) ?_
  obtain ⟨g0_2, eg0_2, h⟩ := nm_el h
  refine r_put (C := RX12) (T := TX12) (N := 28) (ci := 12) tyX12 tyX12_ok nmX12 X iw12 hP (hD _) hS 0 rfl rfl 8 rfl mw_7_128 rfl rfl rfl rfl dX12_strokeRows_7 (wM tc a0 g0_2) (by rw [eg0_2]; rfl) (fun H locs hP hS => ?_)
  refine lv_iload_n X.1 X.2.1 dX12_strokeRows_10 rfl (lv_at hl 0 rfl) ?_
  refine lv_iconst (v := 2) X.1 X.2.1 dX12_strokeRows_11 (by decide) ?_
  refine lv_irem X.1 X.2.1 dX12_strokeRows_12 (by decide) ?_
  obtain ⟨J27, eJ27, h⟩ := jn_el h
  have HJ27 : ∀ (s0_J27 : Int32) (H : Heap) (locs : List Loc) (ls : Array Slot), J27 s0_J27 = some (r0, G0) → va_P (dC, dI) vwCl (wM tc a0 g0_2) H → va_S A s.heap H locs → lv_has ls 4 [(0, .ref (a0 0)), (1, .int x1_1)] → W pr l e rm_X12_strokeRows s m args below meth c H locs 0 0 Q (F0 m 27 ls [.int s0_J27]) := by
    intro s0_J27 H locs ls h hP hS hl
    rw [eJ27] at h
    refine lv_istore_n (lv' := [(2, .int s0_J27), (0, .ref (a0 0)), (1, .int x1_1)]) X.1 X.2.1 dX12_strokeRows_27 rfl hl (by decide) rfl (fun ls hl => ?_)
    refine lv_iconst (v := 0) X.1 X.2.1 dX12_strokeRows_28 (by decide) ?_
    refine lv_istore_n (lv' := [(3, .int 0), (2, .int s0_J27), (0, .ref (a0 0)), (1, .int x1_1)]) X.1 X.2.1 dX12_strokeRows_29 rfl hl (by decide) rfl (fun ls hl => ?_)
    obtain ⟨ex_6, hL_6, h⟩ := bd_el h
    refine HL30 x1_1 g0_2 fu s0_J27 0 ex_6 hL_6 H locs ls hP hS (lv_sub hl [2, 3, 1, 0] rfl) (fun x2_6 he H locs ls hP hS hl => ?_)
    subst he
    refine lv_aload_n X.1 X.2.1 dX12_strokeRows_79 rfl (lv_at hl 0 rfl) ?_
    refine lv_iload_n X.1 X.2.1 dX12_strokeRows_80 rfl (lv_at hl 2 rfl) ?_
    obtain ⟨J89, eJ89, h⟩ := jn_el h
    have HJ89 : ∀ (s1_J89 : Int32) (H : Heap) (locs : List Loc) (ls : Array Slot), J89 s1_J89 = some (r0, G0) → va_P (dC, dI) vwCl (wM tc a0 g0_2) H → va_S A s.heap H locs → lv_has ls 4 [(1, .int x1_1)] → W pr l e rm_X12_strokeRows s m args below meth c H locs 0 0 Q (F0 m 89 ls [.int s1_J89, .ref (a0 0)]) := by
      intro s1_J89 H locs ls h hP hS hl
      rw [eJ89] at h
      obtain ⟨g0_7, eg0_7, h⟩ := nm_el h
      refine r_put (C := RX12) (T := TX12) (N := 28) (ci := 12) tyX12 tyX12_ok nmX12 X iw12 hP (hD _) hS 0 rfl rfl 0 rfl mw_7_120 rfl rfl rfl rfl dX12_strokeRows_89 (wM tc a0 g0_7) (by rw [eg0_7]; rfl) (fun H locs hP hS => ?_)
      refine lv_iload_n X.1 X.2.1 dX12_strokeRows_92 rfl (lv_at hl 0 rfl) ?_
      exact ret_i (fun u => (wM tc a0 u)) (res := (r0, G0)) (Option.some.inj h) X hQ hP hS dX12_strokeRows_93
    refine lv_if_eq (tgt := 88) X.1 X.2.1 dX12_strokeRows_81 (by decide) (fun hc => ?_) (fun hc => ?_)
    · have h := it_t hc h
      refine lv_iconst (v := 1) X.1 X.2.1 dX12_strokeRows_88 (by decide) ?_
      exact HJ89 1 H locs ls h hP hS (lv_sub hl [1] rfl)
    · have h := it_f hc h
      refine lv_iconst (v := 0) X.1 X.2.1 dX12_strokeRows_84 (by decide) ?_
      refine lv_goto (tgt := 89) X.1 X.2.1 dX12_strokeRows_85 (by decide) ?_
      exact HJ89 0 H locs ls h hP hS (lv_sub hl [1] rfl)
  obtain ⟨J26, eJ26, h⟩ := jn_el h
  have HJ26 : ∀ (_ : Unit) (H : Heap) (locs : List Loc) (ls : Array Slot), J26 () = some (r0, G0) → va_P (dC, dI) vwCl (wM tc a0 g0_2) H → va_S A s.heap H locs → lv_has ls 4 [(0, .ref (a0 0)), (1, .int x1_1)] → W pr l e rm_X12_strokeRows s m args below meth c H locs 0 0 Q (F0 m 26 ls []) := by
    intro _ H locs ls h hP hS hl
    rw [eJ26] at h
    refine lv_iconst (v := 0) X.1 X.2.1 dX12_strokeRows_26 (by decide) ?_
    exact HJ27 0 H locs ls h hP hS (lv_sub hl [0, 1] rfl)
  refine lv_if_ne (tgt := 26) X.1 X.2.1 dX12_strokeRows_13 (by decide) (fun hc => ?_) (fun hc => ?_)
  · have h := it_f hc h
    exact HJ26 () H locs ls h hP hS (lv_sub hl [1, 0] rfl)
  · have h := it_t hc h
    refine lv_iload_n X.1 X.2.1 dX12_strokeRows_16 rfl (lv_at hl 0 rfl) ?_
    refine lv_bipush (v := 40) X.1 X.2.1 dX12_strokeRows_17 (by decide) ?_
    refine lv_icmp_gt (tgt := 26) X.1 X.2.1 dX12_strokeRows_19 (by decide) (fun hc => ?_) (fun hc => ?_)
    · have h := it_t hc h
      exact HJ26 () H locs ls h hP hS (lv_sub hl [1, 0] rfl)
    · have h := it_f hc h
      refine lv_iconst (v := 1) X.1 X.2.1 dX12_strokeRows_22 (by decide) ?_
      refine lv_goto (tgt := 27) X.1 X.2.1 dX12_strokeRows_23 (by decide) ?_
      exact HJ27 1 H locs ls h hP hS (lv_sub hl [1, 0] rfl)

def f_X12_isByHand_L5 (x1 : Int32) (x2 : Int32) (g0 : Pic) (n : Nat) (a : Int32 × Int32) : Option (Int32) := lp (fun (rec : Int32 × Int32 → Option (Int32)) (a : Int32 × Int32) => match a with | (x3, x4) => (if x2 ≤ x4 then some x3 else (if x3 = 0 then some x3 else gdi x4 400 (bd (f_X12_strokesBy g0 (g0 7 (x4.toNatClampNeg)) x1) (fun r_2 => gdi (x4 + 1) 400 (jn (fun (s0_J44 : Int32) => nm (x4 + 2) (fun x4_4 => rec (s0_J44, x4_4))) (fun J44 => (if r_2 = (g0 7 ((x4 + 1).toNatClampNeg)) then J44 1 else J44 0)))))))) n a
def f_X12_isByHand (g0 : Pic) (x1 : Int32) (x2 : Int32) : Option (Int32) := bd (f_X12_isByHand_L5 x1 x2 g0 fu (1, 0)) (fun x3_5 => gdb x3_5 (some x3_5))
abbrev rm_X12_isByHand : Room := { frames := 2, cells := 0, slots := 0, locals := 46 }
set_option maxHeartbeats 4000000 in
set_option maxRecDepth 100000 in
theorem c_X12_isByHand (l : Launch) (dC : Nat → ClassId) (dI : Nat → Nat → Nat) (sk sv : Nat → Nat) (tc : Nat → ClassId) (a0 : Nat → Nat) (g0 : Pic) (x1 : Int32) (x2 : Int32) {r0 : Int32} (h : f_X12_isByHand g0 x1 x2 = some r0) : CT l (dC, dI) sk sv (TY tc) yX12_isByHand cX12_isByHand 5 (some .boolean) rm_X12_isByHand [.ref (a0 0), .int x1, .int x2] (wM tc a0 g0) (some (.int r0)) (wM tc a0 g0) := by
  refine ofCT (by decide) (Nat.le_of_ble_eq_true rfl) ?_
  intro pr e s m args below meth c A Q ls H locs X hQ hD0 hP hS hl
  have hD : ∀ z0, va_D A (wM tc a0 z0) := fun z0 => D_fst (ws := (wM tc a0 g0)) rfl hD0
  have hl : lv_has ls 5 [(0, .ref (a0 0)), (1, .int x1), (2, .int x2)] := hl
  have HL5 : ∀ (x1 : Int32) (x2 : Int32) (n : Nat) (x3 : Int32) (x4 : Int32) (ex : (Int32)), f_X12_isByHand_L5 x1 x2 g0 n (x3, x4) = some ex → ∀ (H : Heap) (locs : List Loc) (ls : Array Slot), va_P (dC, dI) vwCl (wM tc a0 g0) H → va_S A s.heap H locs → lv_has ls 5 [(0, .ref (a0 0)), (1, .int x1), (2, .int x2), (3, .int x3), (4, .int x4)] → (∀ (y3 : Int32), y3 = ex → ∀ (H : Heap) (locs : List Loc) (ls : Array Slot), va_P (dC, dI) vwCl (wM tc a0 g0) H → va_S A s.heap H locs → lv_has ls 5 [(3, .int y3)] → W pr l e rm_X12_isByHand s m args below meth c H locs 0 0 Q (F0 m 51 ls [])) → W pr l e rm_X12_isByHand s m args below meth c H locs 0 0 Q (F0 m 5 ls []) := by
    intro x1 x2 n
    induction n with
    | zero => intro x3 x4 ex h; exact lp_z h
    | succ n ih =>
      intro x3 x4 ex h H locs ls hP hS hl K
      have h := lp_s h
      refine lv_iload X.1 X.2.1 dX12_isByHand_5 (lv_at hl 4 rfl) ?_
      refine lv_iload_n X.1 X.2.1 dX12_isByHand_7 rfl (lv_at hl 2 rfl) ?_
      refine lv_icmp_ge (tgt := 51) X.1 X.2.1 dX12_isByHand_8 (by decide) (fun hc => ?_) (fun hc => ?_)
      · have h := it_t hc h
        exact K x3 (Option.some.inj h) H locs ls hP hS (lv_sub hl [3] rfl)
      · have h := it_f hc h
        refine lv_iload_n X.1 X.2.1 dX12_isByHand_11 rfl (lv_at hl 3 rfl) ?_
        refine lv_if_eq (tgt := 51) X.1 X.2.1 dX12_isByHand_12 (by decide) (fun hc => ?_) (fun hc => ?_)
        · have h := it_t hc h
          exact K x3 (Option.some.inj h) H locs ls hP hS (lv_sub hl [3] rfl)
        · have h := it_f hc h
          refine lv_aload_n X.1 X.2.1 dX12_isByHand_15 rfl (lv_at hl 0 rfl) ?_
          refine lv_aload_n X.1 X.2.1 dX12_isByHand_16 rfl (lv_at hl 0 rfl) ?_
          refine r_get (C := RX12) (T := TX12) (N := 28) (ci := 12) (v := .ref (a0 8)) X iw12 hP 0 rfl rfl 7 rfl mw_7_127 rfl dX12_isByHand_17 ?_
          refine lv_iload X.1 X.2.1 dX12_isByHand_20 (lv_at hl 4 rfl) ?_
          obtain ⟨hg_1, h⟩ := gdi_el h
          refine r_iald X hP 5 0 rfl rfl hg_1 rfl dX12_isByHand_22 ?_
          refine lv_iload_n X.1 X.2.1 dX12_isByHand_23 rfl (lv_at hl 1 rfl) ?_
          obtain ⟨r_2, hc_2, h⟩ := bd_el h
          refine call_V1i (As := [.int (g0 7 (x4.toNatClampNeg)), .int x1]) (rest := []) X (c_X12_strokesBy l dC dI sk sv tc a0 g0 (g0 7 (x4.toNatClampNeg)) x1 hc_2) mw_8_188 mw_8_190 mp_4_3 mw_1_12 mw_8_191 dc_X12_strokesBy ⟨Nat.le_of_ble_eq_true rfl, Nat.le_of_ble_eq_true rfl⟩ rfl rfl ⟨Nat.zero_le _, Nat.zero_le _⟩ hP (hD _) hS 0 rfl rfl rfl hl.1 (Nat.le_of_ble_eq_true rfl) dX12_isByHand_24 (fun H locs hP hS => ?_)
          refine lv_aload_n X.1 X.2.1 dX12_isByHand_27 rfl (lv_at hl 0 rfl) ?_
          refine r_get (C := RX12) (T := TX12) (N := 28) (ci := 12) (v := .ref (a0 8)) X iw12 hP 0 rfl rfl 7 rfl mw_7_127 rfl dX12_isByHand_28 ?_
          refine lv_iload X.1 X.2.1 dX12_isByHand_31 (lv_at hl 4 rfl) ?_
          refine lv_iconst (v := 1) X.1 X.2.1 dX12_isByHand_33 (by decide) ?_
          refine lv_iadd X.1 X.2.1 dX12_isByHand_34 ?_
          obtain ⟨hg_3, h⟩ := gdi_el h
          refine r_iald X hP 5 0 rfl rfl hg_3 rfl dX12_isByHand_35 ?_
          obtain ⟨J44, eJ44, h⟩ := jn_el h
          have HJ44 : ∀ (s0_J44 : Int32) (H : Heap) (locs : List Loc) (ls : Array Slot), J44 s0_J44 = some ex → va_P (dC, dI) vwCl (wM tc a0 g0) H → va_S A s.heap H locs → lv_has ls 5 [(0, .ref (a0 0)), (1, .int x1), (2, .int x2), (4, .int x4)] → W pr l e rm_X12_isByHand s m args below meth c H locs 0 0 Q (F0 m 44 ls [.int s0_J44]) := by
            intro s0_J44 H locs ls h hP hS hl
            rw [eJ44] at h
            refine lv_istore_n (lv' := [(3, .int s0_J44), (0, .ref (a0 0)), (1, .int x1), (2, .int x2), (4, .int x4)]) X.1 X.2.1 dX12_isByHand_44 rfl hl (by decide) rfl (fun ls hl => ?_)
            obtain ⟨x4_4, ex4_4, h⟩ := nm_el h
            refine lv_iinc (v := x4_4) (lv' := [(4, .int x4_4), (3, .int s0_J44), (0, .ref (a0 0)), (1, .int x1), (2, .int x2)]) X.1 X.2.1 dX12_isByHand_45 hl (k := 4) rfl (by rw [ex4_4]; rfl) (by decide) rfl (fun ls hl => ?_)
            refine lv_goto (tgt := 5) X.1 X.2.1 dX12_isByHand_48 (by decide) ?_
            exact ih s0_J44 x4_4 ex h H locs ls hP hS (lv_sub hl [2, 3, 4, 1, 0] rfl) K
          refine lv_icmp_ne (tgt := 43) X.1 X.2.1 dX12_isByHand_36 (by decide) (fun hc => ?_) (fun hc => ?_)
          · have h := it_f hc h
            refine lv_iconst (v := 0) X.1 X.2.1 dX12_isByHand_43 (by decide) ?_
            exact HJ44 0 H locs ls h hP hS (lv_sub hl [0, 1, 2, 4] rfl)
          · have h := it_t hc h
            refine lv_iconst (v := 1) X.1 X.2.1 dX12_isByHand_39 (by decide) ?_
            refine lv_goto (tgt := 44) X.1 X.2.1 dX12_isByHand_40 (by decide) ?_
            exact HJ44 1 H locs ls h hP hS (lv_sub hl [0, 1, 2, 4] rfl)
  unfold f_X12_isByHand at h
  refine lv_iconst (v := 1) X.1 X.2.1 dX12_isByHand_0 (by decide) ?_
  refine lv_istore_n (lv' := [(3, .int 1), (0, .ref (a0 0)), (1, .int x1), (2, .int x2)]) X.1 X.2.1 dX12_isByHand_1 rfl hl (by decide) rfl (fun ls hl => ?_)
  refine lv_iconst (v := 0) X.1 X.2.1 dX12_isByHand_2 (by decide) ?_
  refine lv_istore (lv' := [(4, .int 0), (3, .int 1), (0, .ref (a0 0)), (1, .int x1), (2, .int x2)]) X.1 X.2.1 dX12_isByHand_3 hl (by decide) rfl (fun ls hl => ?_)
  obtain ⟨ex_5, hL_5, h⟩ := bd_el h
  refine HL5 x1 x2 fu 1 0 ex_5 hL_5 H locs ls hP hS (lv_sub hl [2, 3, 4, 1, 0] rfl) (fun x3_5 he H locs ls hP hS hl => ?_)
  subst he
  refine lv_iload_n X.1 X.2.1 dX12_isByHand_51 rfl (lv_at hl 0 rfl) ?_
  obtain ⟨hg_6, h⟩ := gdb_el h
  exact ret_z0 hg_6 (Option.some.inj h) X hQ hP hS dX12_isByHand_52

def f_X12_hands_L4 (x1 : Int32) (n : Nat) (a : Int32 × Int32 × Pic) : Option (Int32 × Pic) := lp (fun (rec : Int32 × Int32 × Pic → Option (Int32 × Pic)) (a : Int32 × Int32 × Pic) => match a with | (x2, x3, g0) => (if 256 ≤ x3 then some (x2, g0) else bd (f_X12_isByHand g0 x3 x1) (fun r_1 => gdb r_1 (gdi x3 256 (nm (pu g0 27 (x3.toNatClampNeg) r_1) (fun g0_4 => gdi x3 256 (jn (fun (s0_J38 : Int32) (s1_J38 : Int32) => nm ((s0_J38 + s1_J38)) (fun x2_6 => nm (x3 + 1) (fun x3_7 => rec (x2_6, x3_7, g0_4)))) (fun J38 => (if (g0_4 27 (x3.toNatClampNeg)) = 0 then J38 x2 0 else J38 x2 1))))))))) n a
def f_X12_hands (g0 : Pic) (x1 : Int32) : Option (Int32 × Pic) := bd (f_X12_hands_L4 x1 fu (0, 0, g0)) (fun (x2_8, g0_8) => some (x2_8, g0_8))
abbrev rm_X12_hands : Room := { frames := 3, cells := 0, slots := 0, locals := 70 }
set_option maxHeartbeats 4000000 in
set_option maxRecDepth 100000 in
theorem c_X12_hands (l : Launch) (dC : Nat → ClassId) (dI : Nat → Nat → Nat) (sk sv : Nat → Nat) (tc : Nat → ClassId) (a0 : Nat → Nat) (g0 : Pic) (x1 : Int32) {r0 : Int32} {G0 : Pic} (h : f_X12_hands g0 x1 = some (r0, G0)) : CT l (dC, dI) sk sv (TY tc) yX12_hands cX12_hands 4 (some .int) rm_X12_hands [.ref (a0 0), .int x1] (wM tc a0 g0) (some (.int r0)) (wM tc a0 G0) := by
  refine ofCT (by decide) (Nat.le_of_ble_eq_true rfl) ?_
  intro pr e s m args below meth c A Q ls H locs X hQ hD0 hP hS hl
  have hD : ∀ z0, va_D A (wM tc a0 z0) := fun z0 => D_fst (ws := (wM tc a0 g0)) rfl hD0
  have hl : lv_has ls 4 [(0, .ref (a0 0)), (1, .int x1)] := hl
  have HL4 : ∀ (x1 : Int32) (n : Nat) (x2 : Int32) (x3 : Int32) (g0 : Pic) (ex : (Int32 × Pic)), f_X12_hands_L4 x1 n (x2, x3, g0) = some ex → ∀ (H : Heap) (locs : List Loc) (ls : Array Slot), va_P (dC, dI) vwCl (wM tc a0 g0) H → va_S A s.heap H locs → lv_has ls 4 [(0, .ref (a0 0)), (1, .int x1), (2, .int x2), (3, .int x3)] → (∀ (y2 : Int32) (k0 : Pic), (y2, k0) = ex → ∀ (H : Heap) (locs : List Loc) (ls : Array Slot), va_P (dC, dI) vwCl (wM tc a0 k0) H → va_S A s.heap H locs → lv_has ls 4 [(2, .int y2)] → W pr l e rm_X12_hands s m args below meth c H locs 0 0 Q (F0 m 46 ls [])) → W pr l e rm_X12_hands s m args below meth c H locs 0 0 Q (F0 m 4 ls []) := by
    intro x1 n
    induction n with
    | zero => intro x2 x3 g0 ex h; exact lp_z h
    | succ n ih =>
      intro x2 x3 g0 ex h H locs ls hP hS hl K
      have h := lp_s h
      refine lv_iload_n X.1 X.2.1 dX12_hands_4 rfl (lv_at hl 3 rfl) ?_
      refine lv_sipush (v := 256) X.1 X.2.1 dX12_hands_5 (by decide) ?_
      refine lv_icmp_ge (tgt := 46) X.1 X.2.1 dX12_hands_8 (by decide) (fun hc => ?_) (fun hc => ?_)
      · have h := it_t hc h
        exact K x2 g0 (Option.some.inj h) H locs ls hP hS (lv_sub hl [2] rfl)
      · have h := it_f hc h
        refine lv_aload_n X.1 X.2.1 dX12_hands_11 rfl (lv_at hl 0 rfl) ?_
        refine r_get (C := RX12) (T := TX12) (N := 28) (ci := 12) (v := .ref (a0 28)) X iw12 hP 0 rfl rfl 27 rfl mw_7_147 rfl dX12_hands_12 ?_
        refine lv_iload_n X.1 X.2.1 dX12_hands_15 rfl (lv_at hl 3 rfl) ?_
        refine lv_aload_n X.1 X.2.1 dX12_hands_16 rfl (lv_at hl 0 rfl) ?_
        refine lv_iload_n X.1 X.2.1 dX12_hands_17 rfl (lv_at hl 3 rfl) ?_
        refine lv_iload_n X.1 X.2.1 dX12_hands_18 rfl (lv_at hl 1 rfl) ?_
        obtain ⟨r_1, hc_1, h⟩ := bd_el h
        refine call_V1i (As := [.int x3, .int x1]) (rest := [.int x3, .ref (a0 28)]) X (c_X12_isByHand l dC dI sk sv tc a0 g0 x3 x1 hc_1) mw_9_166 mw_9_168 mp_6_0 mw_1_12 mw_9_169 dc_X12_isByHand ⟨Nat.le_of_ble_eq_true rfl, Nat.le_of_ble_eq_true rfl⟩ rfl rfl ⟨Nat.zero_le _, Nat.zero_le _⟩ hP (hD _) hS 0 rfl rfl rfl hl.1 (Nat.le_of_ble_eq_true rfl) dX12_hands_19 (fun H locs hP hS => ?_)
        obtain ⟨hg_2, h⟩ := gdb_el h
        obtain ⟨hg_3, h⟩ := gdi_el h
        obtain ⟨g0_4, eg0_4, h⟩ := nm_el h
        refine r_zast X hP (hD _) hS 14 1 rfl rfl hg_2 hg_3 rfl dX12_hands_22 (wM tc a0 g0_4) (by rw [eg0_4]; rfl) (fun H locs hP hS => ?_)
        refine lv_iload_n X.1 X.2.1 dX12_hands_23 rfl (lv_at hl 2 rfl) ?_
        refine lv_aload_n X.1 X.2.1 dX12_hands_24 rfl (lv_at hl 0 rfl) ?_
        refine r_get (C := RX12) (T := TX12) (N := 28) (ci := 12) (v := .ref (a0 28)) X iw12 hP 0 rfl rfl 27 rfl mw_7_147 rfl dX12_hands_25 ?_
        refine lv_iload_n X.1 X.2.1 dX12_hands_28 rfl (lv_at hl 3 rfl) ?_
        obtain ⟨hg_5, h⟩ := gdi_el h
        refine r_zald X hP 14 1 rfl rfl hg_5 rfl dX12_hands_29 ?_
        obtain ⟨J38, eJ38, h⟩ := jn_el h
        have HJ38 : ∀ (s0_J38 : Int32) (s1_J38 : Int32) (H : Heap) (locs : List Loc) (ls : Array Slot), J38 s0_J38 s1_J38 = some ex → va_P (dC, dI) vwCl (wM tc a0 g0_4) H → va_S A s.heap H locs → lv_has ls 4 [(0, .ref (a0 0)), (1, .int x1), (3, .int x3)] → W pr l e rm_X12_hands s m args below meth c H locs 0 0 Q (F0 m 38 ls [.int s1_J38, .int s0_J38]) := by
          intro s0_J38 s1_J38 H locs ls h hP hS hl
          rw [eJ38] at h
          refine lv_iadd X.1 X.2.1 dX12_hands_38 ?_
          obtain ⟨x2_6, ex2_6, h⟩ := nm_el h
          refine tp_i ex2_6 ?_
          refine lv_istore_n (lv' := [(2, .int x2_6), (0, .ref (a0 0)), (1, .int x1), (3, .int x3)]) X.1 X.2.1 dX12_hands_39 rfl hl (by decide) rfl (fun ls hl => ?_)
          obtain ⟨x3_7, ex3_7, h⟩ := nm_el h
          refine lv_iinc (v := x3_7) (lv' := [(3, .int x3_7), (2, .int x2_6), (0, .ref (a0 0)), (1, .int x1)]) X.1 X.2.1 dX12_hands_40 hl (k := 3) rfl (by rw [ex3_7]; rfl) (by decide) rfl (fun ls hl => ?_)
          refine lv_goto (tgt := 4) X.1 X.2.1 dX12_hands_43 (by decide) ?_
          exact ih x2_6 x3_7 g0_4 ex h H locs ls hP hS (lv_sub hl [2, 3, 1, 0] rfl) K
        refine lv_if_eq (tgt := 37) X.1 X.2.1 dX12_hands_30 (by decide) (fun hc => ?_) (fun hc => ?_)
        · have h := it_t hc h
          refine lv_iconst (v := 0) X.1 X.2.1 dX12_hands_37 (by decide) ?_
          exact HJ38 x2 0 H locs ls h hP hS (lv_sub hl [0, 1, 3] rfl)
        · have h := it_f hc h
          refine lv_iconst (v := 1) X.1 X.2.1 dX12_hands_33 (by decide) ?_
          refine lv_goto (tgt := 38) X.1 X.2.1 dX12_hands_34 (by decide) ?_
          exact HJ38 x2 1 H locs ls h hP hS (lv_sub hl [0, 1, 3] rfl)
  unfold f_X12_hands at h
  refine lv_iconst (v := 0) X.1 X.2.1 dX12_hands_0 (by decide) ?_
  refine lv_istore_n (lv' := [(2, .int 0), (0, .ref (a0 0)), (1, .int x1)]) X.1 X.2.1 dX12_hands_1 rfl hl (by decide) rfl (fun ls hl => ?_)
  refine lv_iconst (v := 0) X.1 X.2.1 dX12_hands_2 (by decide) ?_
  refine lv_istore_n (lv' := [(3, .int 0), (2, .int 0), (0, .ref (a0 0)), (1, .int x1)]) X.1 X.2.1 dX12_hands_3 rfl hl (by decide) rfl (fun ls hl => ?_)
  obtain ⟨ex_8, hL_8, h⟩ := bd_el h
  refine HL4 x1 fu 0 0 g0 ex_8 hL_8 H locs ls hP hS (lv_sub hl [2, 3, 1, 0] rfl) (fun x2_8 g0_8 he H locs ls hP hS hl => ?_)
  subst he
  refine lv_iload_n X.1 X.2.1 dX12_hands_46 rfl (lv_at hl 0 rfl) ?_
  exact ret_i (fun u => (wM tc a0 u)) (res := (r0, G0)) (Option.some.inj h) X hQ hP hS dX12_hands_47

def f_X12_hand_L29 (g0 : Pic) (n : Nat) (a : Int32) : Option ((Int32 × Pic) ⊕ (Unit)) := lp (fun (rec : Int32 → Option ((Int32 × Pic) ⊕ (Unit))) (a : Int32) => (fun (x4 : Int32) => (if 256 ≤ x4 then some (.inr ()) else gdi x4 256 ((if (g0 27 (x4.toNatClampNeg)) = 0 then nm (x4 + 1) (fun x4_4 => rec x4_4) else some (.inl (x4, g0)))))) a) n a
def f_X12_hand (g0 : Pic) (x1 : Int32) : Option (Int32 × Pic) := bd2 (f_X12_strokeRows g0) (fun r_1 g0_1 => (if (g0_1 0 0) ≤ 0 then bd2 (f_X12_hands g0_1 r_1) (fun r_2 g0_2 => (if x1 = 0 then some (r_2, g0_2) else lr (f_X12_hand_L29 g0_2 fu 0) (fun a => a) (fun _ => some ((-1), g0_2)))) else some (0, g0_1)))
abbrev rm_X12_hand : Room := { frames := 4, cells := 0, slots := 0, locals := 93 }
set_option maxHeartbeats 4000000 in
set_option maxRecDepth 100000 in
theorem c_X12_hand (l : Launch) (dC : Nat → ClassId) (dI : Nat → Nat → Nat) (sk sv : Nat → Nat) (tc : Nat → ClassId) (a0 : Nat → Nat) (g0 : Pic) (x1 : Int32) {r0 : Int32} {G0 : Pic} (h : f_X12_hand g0 x1 = some (r0, G0)) : CT l (dC, dI) sk sv (TY tc) yX12_hand cX12_hand 5 (some .int) rm_X12_hand [.ref (a0 0), .int x1] (wM tc a0 g0) (some (.int r0)) (wM tc a0 G0) := by
  refine ofCT (by decide) (Nat.le_of_ble_eq_true rfl) ?_
  intro pr e s m args below meth c A Q ls H locs X hQ hD0 hP hS hl
  have hD : ∀ z0, va_D A (wM tc a0 z0) := fun z0 => D_fst (ws := (wM tc a0 g0)) rfl hD0
  have hl : lv_has ls 5 [(0, .ref (a0 0)), (1, .int x1)] := hl
  have HL29 : ∀ (g0 : Pic) (n : Nat) (x4 : Int32) (ex : ((Int32 × Pic) ⊕ (Unit))), f_X12_hand_L29 g0 n x4 = some ex → (∀ rv, ex = .inl rv → rv = (r0, G0)) → ∀ (H : Heap) (locs : List Loc) (ls : Array Slot), va_P (dC, dI) vwCl (wM tc a0 g0) H → va_S A s.heap H locs → lv_has ls 5 [(0, .ref (a0 0)), (4, .int x4)] → (.inr () = ex → ∀ (H : Heap) (locs : List Loc) (ls : Array Slot), va_P (dC, dI) vwCl (wM tc a0 g0) H → va_S A s.heap H locs → lv_has ls 5 [] → W pr l e rm_X12_hand s m args below meth c H locs 0 0 Q (F0 m 56 ls [])) → W pr l e rm_X12_hand s m args below meth c H locs 0 0 Q (F0 m 29 ls []) := by
    intro g0 n
    induction n with
    | zero => intro x4 ex h; exact lp_z h
    | succ n ih =>
      intro x4 ex h hR H locs ls hP hS hl K
      have h := lp_s h
      refine lv_iload X.1 X.2.1 dX12_hand_29 (lv_at hl 1 rfl) ?_
      refine lv_sipush (v := 256) X.1 X.2.1 dX12_hand_31 (by decide) ?_
      refine lv_icmp_ge (tgt := 56) X.1 X.2.1 dX12_hand_34 (by decide) (fun hc => ?_) (fun hc => ?_)
      · have h := it_t hc h
        exact K  (Option.some.inj h) H locs ls hP hS (lv_sub hl [] rfl)
      · have h := it_f hc h
        refine lv_aload_n X.1 X.2.1 dX12_hand_37 rfl (lv_at hl 0 rfl) ?_
        refine r_get (C := RX12) (T := TX12) (N := 28) (ci := 12) (v := .ref (a0 28)) X iw12 hP 0 rfl rfl 27 rfl mw_7_147 rfl dX12_hand_38 ?_
        refine lv_iload X.1 X.2.1 dX12_hand_41 (lv_at hl 1 rfl) ?_
        obtain ⟨hg_3, h⟩ := gdi_el h
        refine r_zald X hP 14 1 rfl rfl hg_3 rfl dX12_hand_43 ?_
        refine lv_if_eq (tgt := 50) X.1 X.2.1 dX12_hand_44 (by decide) (fun hc => ?_) (fun hc => ?_)
        · have h := it_t hc h
          obtain ⟨x4_4, ex4_4, h⟩ := nm_el h
          refine lv_iinc (v := x4_4) (lv' := [(4, .int x4_4), (0, .ref (a0 0))]) X.1 X.2.1 dX12_hand_50 hl (k := 1) rfl (by rw [ex4_4]; rfl) (by decide) rfl (fun ls hl => ?_)
          refine lv_goto (tgt := 29) X.1 X.2.1 dX12_hand_53 (by decide) ?_
          exact ih x4_4 ex h hR H locs ls hP hS (lv_sub hl [1, 0] rfl) K
        · have h := it_f hc h
          refine lv_iload X.1 X.2.1 dX12_hand_47 (lv_at hl 1 rfl) ?_
          exact ret_i (fun u => (wM tc a0 u)) (res := (r0, G0)) (hR _ (Option.some.inj h).symm) X hQ hP hS dX12_hand_49
  unfold f_X12_hand at h
  refine lv_aload_n X.1 X.2.1 dX12_hand_0 rfl (lv_at hl 0 rfl) ?_
  obtain ⟨r_1, g0_1, hc_1, h⟩ := bd2_el h
  refine call_V1i (As := []) (rest := []) X (c_X12_strokeRows l dC dI sk sv tc a0 g0 hc_1) mw_9_158 mw_9_160 mp_5_14 mw_1_12 mw_9_161 dc_X12_strokeRows ⟨Nat.le_of_ble_eq_true rfl, Nat.le_of_ble_eq_true rfl⟩ rfl rfl ⟨Nat.zero_le _, Nat.zero_le _⟩ hP (hD _) hS 0 rfl rfl rfl hl.1 (Nat.le_of_ble_eq_true rfl) dX12_hand_1 (fun H locs hP hS => ?_)
  refine lv_istore_n (lv' := [(2, .int r_1), (0, .ref (a0 0)), (1, .int x1)]) X.1 X.2.1 dX12_hand_4 rfl hl (by decide) rfl (fun ls hl => ?_)
  refine lv_aload_n X.1 X.2.1 dX12_hand_5 rfl (lv_at hl 1 rfl) ?_
  refine r_get (C := RX12) (T := TX12) (N := 28) (ci := 12) (v := .int (g0_1 0 0)) X iw12 hP 0 rfl rfl 0 rfl mw_7_120 rfl dX12_hand_6 ?_
  refine lv_if_le (tgt := 14) X.1 X.2.1 dX12_hand_9 (by decide) (fun hc => ?_) (fun hc => ?_)
  · have h := it_t hc h
    refine lv_aload_n X.1 X.2.1 dX12_hand_14 rfl (lv_at hl 1 rfl) ?_
    refine lv_iload_n X.1 X.2.1 dX12_hand_15 rfl (lv_at hl 0 rfl) ?_
    obtain ⟨r_2, g0_2, hc_2, h⟩ := bd2_el h
    refine call_V1i (As := [.int r_1]) (rest := []) X (c_X12_hands l dC dI sk sv tc a0 g0_1 r_1 hc_2) mw_9_162 mw_9_164 mp_5_15 mw_1_12 mw_9_165 dc_X12_hands ⟨Nat.le_of_ble_eq_true rfl, Nat.le_of_ble_eq_true rfl⟩ rfl rfl ⟨Nat.zero_le _, Nat.zero_le _⟩ hP (hD _) hS 0 rfl rfl rfl hl.1 (Nat.le_of_ble_eq_true rfl) dX12_hand_16 (fun H locs hP hS => ?_)
    refine lv_istore_n (lv' := [(3, .int r_2), (2, .int r_1), (0, .ref (a0 0)), (1, .int x1)]) X.1 X.2.1 dX12_hand_19 rfl hl (by decide) rfl (fun ls hl => ?_)
    refine lv_iload_n X.1 X.2.1 dX12_hand_20 rfl (lv_at hl 3 rfl) ?_
    refine lv_if_ne (tgt := 26) X.1 X.2.1 dX12_hand_21 (by decide) (fun hc => ?_) (fun hc => ?_)
    · have h := it_f hc h
      refine lv_iconst (v := 0) X.1 X.2.1 dX12_hand_26 (by decide) ?_
      refine lv_istore (lv' := [(4, .int 0), (3, .int r_2), (2, .int r_1), (0, .ref (a0 0)), (1, .int x1)]) X.1 X.2.1 dX12_hand_27 hl (by decide) rfl (fun ls hl => ?_)
      obtain ⟨ex_5, hL_5, h1_5, h2_5⟩ := lr_el h
      refine HL29 g0_2 fu 0 ex_5 hL_5 (fun rv hq => h1_5 rv hq) H locs ls hP hS (lv_sub hl [3, 0] rfl) (fun  he H locs ls hP hS hl => ?_)
      have h := h2_5 _ he.symm
      refine lv_iconst (v := (-1)) X.1 X.2.1 dX12_hand_56 (by decide) ?_
      exact ret_i (fun u => (wM tc a0 u)) (res := (r0, G0)) (Option.some.inj h) X hQ hP hS dX12_hand_57
    · have h := it_t hc h
      refine lv_iload_n X.1 X.2.1 dX12_hand_24 rfl (lv_at hl 0 rfl) ?_
      exact ret_i (fun u => (wM tc a0 u)) (res := (r0, G0)) (Option.some.inj h) X hQ hP hS dX12_hand_25
  · have h := it_f hc h
    refine lv_iconst (v := 0) X.1 X.2.1 dX12_hand_12 (by decide) ?_
    exact ret_i (fun u => (wM tc a0 u)) (res := (r0, G0)) (Option.some.inj h) X hQ hP hS dX12_hand_13

def f_X12_ask_L49 (x2 : Int32) (x3 : Int32) (x4 : Int32) (x5 : Int32) (n : Nat) (a : Int32 × Pic) : Option (Pic) := lp (fun (rec : Int32 × Pic → Option (Pic)) (a : Int32 × Pic) => match a with | (x6, g0) => (if 9 ≤ x6 then some g0 else gdi x6 9 (nm (pu g0 26 (x6.toNatClampNeg) 0) (fun g0_4 => nm (x6 + 1) (fun x6_5 => rec (x6_5, g0_4)))))) n a
def f_X12_ask_L76 (x2 : Int32) (x3 : Int32) (x4 : Int32) (x5 : Int32) (n : Nat) (a : Int32 × Int32 × Pic) : Option (Int32 × Pic) := lp (fun (rec : Int32 × Int32 × Pic → Option (Int32 × Pic)) (a : Int32 × Int32 × Pic) => match a with | (x6, x7, g0) => (if 256 ≤ x7 then some (x6, g0) else gdi x7 256 (jn (fun (x6_J132 : Int32) (g0_J132 : Pic) => nm (x7 + 1) (fun x7_8 => rec (x6_J132, x7_8, g0_J132))) (fun J132 => (if (g0 27 (x7.toNatClampNeg)) = 0 then J132 x6 g0 else bd (f_X12_strokesBy g0 x5 x7) (fun r_9 => gdi r_9 9 (gdi r_9 9 (nm (pu g0 26 (r_9.toNatClampNeg) ((g0 26 (r_9.toNatClampNeg)) + 1)) (fun g0_12 => gdi r_9 9 (bd (f_X12_greater x6 (g0_12 26 (r_9.toNatClampNeg))) (fun r_14 => J132 r_14 g0_12))))))))))) n a
def f_X12_ask_L30 (x2 : Int32) (n : Nat) (a : Int32 × Int32 × Int32 × Pic) : Option (Int32 × Pic) := lp (fun (rec : Int32 × Int32 × Int32 × Pic → Option (Int32 × Pic)) (a : Int32 × Int32 × Int32 × Pic) => match a with | (x3, x4, x5, g0) => (if (g0 1 3) ≤ x5 then some (x3, g0) else (if x2 ≤ 1 then some (x3, g0) else bd (f_X12_ask_L49 x2 x3 x4 x5 fu (0, g0)) (fun g0_6 => bd (f_X12_ask_L76 x2 x3 x4 x5 fu (0, 0, g0_6)) (fun (x6_15, g0_15) => jn (fun (x3_J155 : Int32) (x4_J155 : Int32) => nm (x5 + 1) (fun x5_16 => rec (x3_J155, x4_J155, x5_16, g0_15))) (fun J155 => (if x6_15 < x4 then J155 x5 x6_15 else J155 x3 x4))))))) n a
def f_X12_ask (g0 : Pic) : Option (Int32 × Pic) := bd2 (f_X12_strokeRows g0) (fun r_1 g0_1 => (if (g0_1 0 0) ≤ 0 then bd2 (f_X12_hands g0_1 r_1) (fun r_2 g0_2 => bd (f_X12_ask_L30 r_2 fu ((-1), 2000000000, 0, g0_2)) (fun (x3_17, g0_17) => some (x3_17, g0_17))) else some (0, g0_1)))
abbrev rm_X12_ask : Room := { frames := 4, cells := 0, slots := 0, locals := 93 }
set_option maxHeartbeats 4000000 in
set_option maxRecDepth 100000 in
theorem c_X12_ask (l : Launch) (dC : Nat → ClassId) (dI : Nat → Nat → Nat) (sk sv : Nat → Nat) (tc : Nat → ClassId) (a0 : Nat → Nat) (g0 : Pic) {r0 : Int32} {G0 : Pic} (h : f_X12_ask g0 = some (r0, G0)) : CT l (dC, dI) sk sv (TY tc) yX12_ask cX12_ask 9 (some .int) rm_X12_ask [.ref (a0 0)] (wM tc a0 g0) (some (.int r0)) (wM tc a0 G0) := by
  refine ofCT (by decide) (Nat.le_of_ble_eq_true rfl) ?_
  intro pr e s m args below meth c A Q ls H locs X hQ hD0 hP hS hl
  have hD : ∀ z0, va_D A (wM tc a0 z0) := fun z0 => D_fst (ws := (wM tc a0 g0)) rfl hD0
  have hl : lv_has ls 9 [(0, .ref (a0 0))] := hl
  have HL49 : ∀ (x2 : Int32) (x3 : Int32) (x4 : Int32) (x5 : Int32) (n : Nat) (x6 : Int32) (g0 : Pic) (ex : (Pic)), f_X12_ask_L49 x2 x3 x4 x5 n (x6, g0) = some ex → ∀ (H : Heap) (locs : List Loc) (ls : Array Slot), va_P (dC, dI) vwCl (wM tc a0 g0) H → va_S A s.heap H locs → lv_has ls 9 [(0, .ref (a0 0)), (2, .int x2), (3, .int x3), (4, .int x4), (5, .int x5), (6, .int x6)] → (∀ (k0 : Pic), k0 = ex → ∀ (H : Heap) (locs : List Loc) (ls : Array Slot), va_P (dC, dI) vwCl (wM tc a0 k0) H → va_S A s.heap H locs → lv_has ls 9 [(0, .ref (a0 0)), (2, .int x2), (3, .int x3), (4, .int x4), (5, .int x5)] → W pr l e rm_X12_ask s m args below meth c H locs 0 0 Q (F0 m 70 ls [])) → W pr l e rm_X12_ask s m args below meth c H locs 0 0 Q (F0 m 49 ls []) := by
    intro x2 x3 x4 x5 n
    induction n with
    | zero => intro x6 g0 ex h; exact lp_z h
    | succ n ih =>
      intro x6 g0 ex h H locs ls hP hS hl K
      have h := lp_s h
      refine lv_iload X.1 X.2.1 dX12_ask_49 (lv_at hl 5 rfl) ?_
      refine lv_bipush (v := 9) X.1 X.2.1 dX12_ask_51 (by decide) ?_
      refine lv_icmp_ge (tgt := 70) X.1 X.2.1 dX12_ask_53 (by decide) (fun hc => ?_) (fun hc => ?_)
      · have h := it_t hc h
        exact K g0 (Option.some.inj h) H locs ls hP hS (lv_sub hl [0, 1, 2, 3, 4] rfl)
      · have h := it_f hc h
        refine lv_aload_n X.1 X.2.1 dX12_ask_56 rfl (lv_at hl 0 rfl) ?_
        refine r_get (C := RX12) (T := TX12) (N := 28) (ci := 12) (v := .ref (a0 27)) X iw12 hP 0 rfl rfl 26 rfl mw_7_146 rfl dX12_ask_57 ?_
        refine lv_iload X.1 X.2.1 dX12_ask_60 (lv_at hl 5 rfl) ?_
        refine lv_iconst (v := 0) X.1 X.2.1 dX12_ask_62 (by decide) ?_
        obtain ⟨hg_3, h⟩ := gdi_el h
        obtain ⟨g0_4, eg0_4, h⟩ := nm_el h
        refine r_iast X hP (hD _) hS 13 0 rfl rfl hg_3 rfl dX12_ask_63 (wM tc a0 g0_4) (by rw [eg0_4]; rfl) (fun H locs hP hS => ?_)
        obtain ⟨x6_5, ex6_5, h⟩ := nm_el h
        refine lv_iinc (v := x6_5) (lv' := [(6, .int x6_5), (0, .ref (a0 0)), (2, .int x2), (3, .int x3), (4, .int x4), (5, .int x5)]) X.1 X.2.1 dX12_ask_64 hl (k := 5) rfl (by rw [ex6_5]; rfl) (by decide) rfl (fun ls hl => ?_)
        refine lv_goto (tgt := 49) X.1 X.2.1 dX12_ask_67 (by decide) ?_
        exact ih x6_5 g0_4 ex h H locs ls hP hS (lv_sub hl [1, 2, 3, 4, 5, 0] rfl) K
  have HL76 : ∀ (x2 : Int32) (x3 : Int32) (x4 : Int32) (x5 : Int32) (n : Nat) (x6 : Int32) (x7 : Int32) (g0 : Pic) (ex : (Int32 × Pic)), f_X12_ask_L76 x2 x3 x4 x5 n (x6, x7, g0) = some ex → ∀ (H : Heap) (locs : List Loc) (ls : Array Slot), va_P (dC, dI) vwCl (wM tc a0 g0) H → va_S A s.heap H locs → lv_has ls 9 [(0, .ref (a0 0)), (2, .int x2), (3, .int x3), (4, .int x4), (5, .int x5), (6, .int x6), (7, .int x7)] → (∀ (y6 : Int32) (k0 : Pic), (y6, k0) = ex → ∀ (H : Heap) (locs : List Loc) (ls : Array Slot), va_P (dC, dI) vwCl (wM tc a0 k0) H → va_S A s.heap H locs → lv_has ls 9 [(0, .ref (a0 0)), (2, .int x2), (3, .int x3), (4, .int x4), (5, .int x5), (6, .int y6)] → W pr l e rm_X12_ask s m args below meth c H locs 0 0 Q (F0 m 138 ls [])) → W pr l e rm_X12_ask s m args below meth c H locs 0 0 Q (F0 m 76 ls []) := by
    intro x2 x3 x4 x5 n
    induction n with
    | zero => intro x6 x7 g0 ex h; exact lp_z h
    | succ n ih =>
      intro x6 x7 g0 ex h H locs ls hP hS hl K
      have h := lp_s h
      refine lv_iload X.1 X.2.1 dX12_ask_76 (lv_at hl 6 rfl) ?_
      refine lv_sipush (v := 256) X.1 X.2.1 dX12_ask_78 (by decide) ?_
      refine lv_icmp_ge (tgt := 138) X.1 X.2.1 dX12_ask_81 (by decide) (fun hc => ?_) (fun hc => ?_)
      · have h := it_t hc h
        exact K x6 g0 (Option.some.inj h) H locs ls hP hS (lv_sub hl [0, 1, 2, 3, 4, 5] rfl)
      · have h := it_f hc h
        refine lv_aload_n X.1 X.2.1 dX12_ask_84 rfl (lv_at hl 0 rfl) ?_
        refine r_get (C := RX12) (T := TX12) (N := 28) (ci := 12) (v := .ref (a0 28)) X iw12 hP 0 rfl rfl 27 rfl mw_7_147 rfl dX12_ask_85 ?_
        refine lv_iload X.1 X.2.1 dX12_ask_88 (lv_at hl 6 rfl) ?_
        obtain ⟨hg_7, h⟩ := gdi_el h
        refine r_zald X hP 14 1 rfl rfl hg_7 rfl dX12_ask_90 ?_
        obtain ⟨J132, eJ132, h⟩ := jn_el h
        have HJ132 : ∀ (x6_J132 : Int32) (g0_J132 : Pic) (H : Heap) (locs : List Loc) (ls : Array Slot), J132 x6_J132 g0_J132 = some ex → va_P (dC, dI) vwCl (wM tc a0 g0_J132) H → va_S A s.heap H locs → lv_has ls 9 [(0, .ref (a0 0)), (2, .int x2), (3, .int x3), (4, .int x4), (5, .int x5), (6, .int x6_J132), (7, .int x7)] → W pr l e rm_X12_ask s m args below meth c H locs 0 0 Q (F0 m 132 ls []) := by
          intro x6_J132 g0_J132 H locs ls h hP hS hl
          rw [eJ132] at h
          obtain ⟨x7_8, ex7_8, h⟩ := nm_el h
          refine lv_iinc (v := x7_8) (lv' := [(7, .int x7_8), (0, .ref (a0 0)), (2, .int x2), (3, .int x3), (4, .int x4), (5, .int x5), (6, .int x6_J132)]) X.1 X.2.1 dX12_ask_132 hl (k := 6) rfl (by rw [ex7_8]; rfl) (by decide) rfl (fun ls hl => ?_)
          refine lv_goto (tgt := 76) X.1 X.2.1 dX12_ask_135 (by decide) ?_
          exact ih x6_J132 x7_8 g0_J132 ex h H locs ls hP hS (lv_sub hl [1, 2, 3, 4, 5, 6, 0] rfl) K
        refine lv_if_ne (tgt := 97) X.1 X.2.1 dX12_ask_91 (by decide) (fun hc => ?_) (fun hc => ?_)
        · have h := it_f hc h
          refine lv_aload_n X.1 X.2.1 dX12_ask_97 rfl (lv_at hl 0 rfl) ?_
          refine lv_iload X.1 X.2.1 dX12_ask_98 (lv_at hl 4 rfl) ?_
          refine lv_iload X.1 X.2.1 dX12_ask_100 (lv_at hl 6 rfl) ?_
          obtain ⟨r_9, hc_9, h⟩ := bd_el h
          refine call_V1i (As := [.int x5, .int x7]) (rest := []) X (c_X12_strokesBy l dC dI sk sv tc a0 g0 x5 x7 hc_9) mw_8_188 mw_8_190 mp_4_3 mw_1_12 mw_8_191 dc_X12_strokesBy ⟨Nat.le_of_ble_eq_true rfl, Nat.le_of_ble_eq_true rfl⟩ rfl rfl ⟨Nat.zero_le _, Nat.zero_le _⟩ hP (hD _) hS 0 rfl rfl rfl hl.1 (Nat.le_of_ble_eq_true rfl) dX12_ask_102 (fun H locs hP hS => ?_)
          refine lv_istore (lv' := [(8, .int r_9), (0, .ref (a0 0)), (2, .int x2), (3, .int x3), (4, .int x4), (5, .int x5), (6, .int x6), (7, .int x7)]) X.1 X.2.1 dX12_ask_105 hl (by decide) rfl (fun ls hl => ?_)
          refine lv_aload_n X.1 X.2.1 dX12_ask_107 rfl (lv_at hl 1 rfl) ?_
          refine r_get (C := RX12) (T := TX12) (N := 28) (ci := 12) (v := .ref (a0 27)) X iw12 hP 0 rfl rfl 26 rfl mw_7_146 rfl dX12_ask_108 ?_
          refine lv_iload X.1 X.2.1 dX12_ask_111 (lv_at hl 0 rfl) ?_
          refine lv_dup2_11 X.1 X.2.1 dX12_ask_113 rfl rfl ?_
          obtain ⟨hg_10, h⟩ := gdi_el h
          refine r_iald X hP 13 0 rfl rfl hg_10 rfl dX12_ask_114 ?_
          refine lv_iconst (v := 1) X.1 X.2.1 dX12_ask_115 (by decide) ?_
          refine lv_iadd X.1 X.2.1 dX12_ask_116 ?_
          obtain ⟨hg_11, h⟩ := gdi_el h
          obtain ⟨g0_12, eg0_12, h⟩ := nm_el h
          refine r_iast X hP (hD _) hS 13 0 rfl rfl hg_11 rfl dX12_ask_117 (wM tc a0 g0_12) (by rw [eg0_12]; rfl) (fun H locs hP hS => ?_)
          refine lv_iload X.1 X.2.1 dX12_ask_118 (lv_at hl 6 rfl) ?_
          refine lv_aload_n X.1 X.2.1 dX12_ask_120 rfl (lv_at hl 1 rfl) ?_
          refine r_get (C := RX12) (T := TX12) (N := 28) (ci := 12) (v := .ref (a0 27)) X iw12 hP 0 rfl rfl 26 rfl mw_7_146 rfl dX12_ask_121 ?_
          refine lv_iload X.1 X.2.1 dX12_ask_124 (lv_at hl 0 rfl) ?_
          obtain ⟨hg_13, h⟩ := gdi_el h
          refine r_iald X hP 13 0 rfl rfl hg_13 rfl dX12_ask_126 ?_
          obtain ⟨r_14, hc_14, h⟩ := bd_el h
          refine call_S0i (As := [.int x6, .int (g0_12 26 (r_9.toNatClampNeg))]) (rest := []) X (c_X12_greater l dC dI sk sv tc x6 (g0_12 26 (r_9.toNatClampNeg)) hc_14) mw_8_219 mw_8_220 mw_1_12 mw_8_221 dc_X12_greater ⟨Nat.le_of_ble_eq_true rfl, Nat.le_of_ble_eq_true rfl⟩ rfl rfl ⟨Nat.zero_le _, Nat.zero_le _⟩ hP (hD _) hS hl.1 (Nat.le_of_ble_eq_true rfl) dX12_ask_127 (fun H locs hP hS => ?_)
          refine lv_istore (lv' := [(6, .int r_14), (8, .int r_9), (0, .ref (a0 0)), (2, .int x2), (3, .int x3), (4, .int x4), (5, .int x5), (7, .int x7)]) X.1 X.2.1 dX12_ask_130 hl (by decide) rfl (fun ls hl => ?_)
          exact HJ132 r_14 g0_12 H locs ls h hP hS (lv_sub hl [2, 3, 4, 5, 6, 0, 7] rfl)
        · have h := it_t hc h
          refine lv_goto (tgt := 132) X.1 X.2.1 dX12_ask_94 (by decide) ?_
          exact HJ132 x6 g0 H locs ls h hP hS (lv_sub hl [0, 1, 2, 3, 4, 5, 6] rfl)
  have HL30 : ∀ (x2 : Int32) (n : Nat) (x3 : Int32) (x4 : Int32) (x5 : Int32) (g0 : Pic) (ex : (Int32 × Pic)), f_X12_ask_L30 x2 n (x3, x4, x5, g0) = some ex → ∀ (H : Heap) (locs : List Loc) (ls : Array Slot), va_P (dC, dI) vwCl (wM tc a0 g0) H → va_S A s.heap H locs → lv_has ls 9 [(0, .ref (a0 0)), (2, .int x2), (3, .int x3), (4, .int x4), (5, .int x5)] → (∀ (y3 : Int32) (k0 : Pic), (y3, k0) = ex → ∀ (H : Heap) (locs : List Loc) (ls : Array Slot), va_P (dC, dI) vwCl (wM tc a0 k0) H → va_S A s.heap H locs → lv_has ls 9 [(3, .int y3)] → W pr l e rm_X12_ask s m args below meth c H locs 0 0 Q (F0 m 161 ls [])) → W pr l e rm_X12_ask s m args below meth c H locs 0 0 Q (F0 m 30 ls []) := by
    intro x2 n
    induction n with
    | zero => intro x3 x4 x5 g0 ex h; exact lp_z h
    | succ n ih =>
      intro x3 x4 x5 g0 ex h H locs ls hP hS hl K
      have h := lp_s h
      refine lv_iload X.1 X.2.1 dX12_ask_30 (lv_at hl 4 rfl) ?_
      refine lv_aload_n X.1 X.2.1 dX12_ask_32 rfl (lv_at hl 0 rfl) ?_
      refine r_get (C := RX12) (T := TX12) (N := 28) (ci := 12) (v := .ref (a0 2)) X iw12 hP 0 rfl rfl 1 rfl mw_7_121 rfl dX12_ask_33 ?_
      refine lv_iconst (v := 3) X.1 X.2.1 dX12_ask_36 (by decide) ?_
      refine r_iald X hP 1 0 rfl rfl (j := 3) (by unfold vp_in; decide) (by decide) dX12_ask_37 ?_
      refine lv_icmp_ge (tgt := 161) X.1 X.2.1 dX12_ask_38 (by decide) (fun hc => ?_) (fun hc => ?_)
      · have h := it_t hc h
        exact K x3 g0 (Option.some.inj h) H locs ls hP hS (lv_sub hl [2] rfl)
      · have h := it_f hc h
        refine lv_iload_n X.1 X.2.1 dX12_ask_41 rfl (lv_at hl 1 rfl) ?_
        refine lv_iconst (v := 1) X.1 X.2.1 dX12_ask_42 (by decide) ?_
        refine lv_icmp_le (tgt := 161) X.1 X.2.1 dX12_ask_43 (by decide) (fun hc => ?_) (fun hc => ?_)
        · have h := it_t hc h
          exact K x3 g0 (Option.some.inj h) H locs ls hP hS (lv_sub hl [2] rfl)
        · have h := it_f hc h
          refine lv_iconst (v := 0) X.1 X.2.1 dX12_ask_46 (by decide) ?_
          refine lv_istore (lv' := [(6, .int 0), (0, .ref (a0 0)), (2, .int x2), (3, .int x3), (4, .int x4), (5, .int x5)]) X.1 X.2.1 dX12_ask_47 hl (by decide) rfl (fun ls hl => ?_)
          obtain ⟨ex_6, hL_6, h⟩ := bd_el h
          refine HL49 x2 x3 x4 x5 fu 0 g0 ex_6 hL_6 H locs ls hP hS (lv_sub hl [1, 2, 3, 4, 5, 0] rfl) (fun g0_6 he H locs ls hP hS hl => ?_)
          subst he
          refine lv_iconst (v := 0) X.1 X.2.1 dX12_ask_70 (by decide) ?_
          refine lv_istore (lv' := [(6, .int 0), (0, .ref (a0 0)), (2, .int x2), (3, .int x3), (4, .int x4), (5, .int x5)]) X.1 X.2.1 dX12_ask_71 hl (by decide) rfl (fun ls hl => ?_)
          refine lv_iconst (v := 0) X.1 X.2.1 dX12_ask_73 (by decide) ?_
          refine lv_istore (lv' := [(7, .int 0), (6, .int 0), (0, .ref (a0 0)), (2, .int x2), (3, .int x3), (4, .int x4), (5, .int x5)]) X.1 X.2.1 dX12_ask_74 hl (by decide) rfl (fun ls hl => ?_)
          obtain ⟨ex_15, hL_15, h⟩ := bd_el h
          refine HL76 x2 x3 x4 x5 fu 0 0 g0_6 ex_15 hL_15 H locs ls hP hS (lv_sub hl [2, 3, 4, 5, 6, 1, 0] rfl) (fun x6_15 g0_15 he H locs ls hP hS hl => ?_)
          subst he
          refine lv_iload X.1 X.2.1 dX12_ask_138 (lv_at hl 5 rfl) ?_
          refine lv_iload X.1 X.2.1 dX12_ask_140 (lv_at hl 3 rfl) ?_
          obtain ⟨J155, eJ155, h⟩ := jn_el h
          have HJ155 : ∀ (x3_J155 : Int32) (x4_J155 : Int32) (H : Heap) (locs : List Loc) (ls : Array Slot), J155 x3_J155 x4_J155 = some ex → va_P (dC, dI) vwCl (wM tc a0 g0_15) H → va_S A s.heap H locs → lv_has ls 9 [(0, .ref (a0 0)), (2, .int x2), (3, .int x3_J155), (4, .int x4_J155), (5, .int x5)] → W pr l e rm_X12_ask s m args below meth c H locs 0 0 Q (F0 m 155 ls []) := by
            intro x3_J155 x4_J155 H locs ls h hP hS hl
            rw [eJ155] at h
            obtain ⟨x5_16, ex5_16, h⟩ := nm_el h
            refine lv_iinc (v := x5_16) (lv' := [(5, .int x5_16), (0, .ref (a0 0)), (2, .int x2), (3, .int x3_J155), (4, .int x4_J155)]) X.1 X.2.1 dX12_ask_155 hl (k := 4) rfl (by rw [ex5_16]; rfl) (by decide) rfl (fun ls hl => ?_)
            refine lv_goto (tgt := 30) X.1 X.2.1 dX12_ask_158 (by decide) ?_
            exact ih x3_J155 x4_J155 x5_16 g0_15 ex h H locs ls hP hS (lv_sub hl [1, 2, 3, 4, 0] rfl) K
          refine lv_icmp_lt (tgt := 148) X.1 X.2.1 dX12_ask_142 (by decide) (fun hc => ?_) (fun hc => ?_)
          · have h := it_t hc h
            refine lv_iload X.1 X.2.1 dX12_ask_148 (lv_at hl 5 rfl) ?_
            refine lv_istore (lv' := [(4, .int x6_15), (0, .ref (a0 0)), (2, .int x2), (3, .int x3), (5, .int x5), (6, .int x6_15)]) X.1 X.2.1 dX12_ask_150 hl (by decide) rfl (fun ls hl => ?_)
            refine lv_iload X.1 X.2.1 dX12_ask_152 (lv_at hl 4 rfl) ?_
            refine lv_istore_n (lv' := [(3, .int x5), (4, .int x6_15), (0, .ref (a0 0)), (2, .int x2), (5, .int x5), (6, .int x6_15)]) X.1 X.2.1 dX12_ask_154 rfl hl (by decide) rfl (fun ls hl => ?_)
            exact HJ155 x5 x6_15 H locs ls h hP hS (lv_sub hl [2, 3, 0, 1, 4] rfl)
          · have h := it_f hc h
            refine lv_goto (tgt := 155) X.1 X.2.1 dX12_ask_145 (by decide) ?_
            exact HJ155 x3 x4 H locs ls h hP hS (lv_sub hl [0, 1, 2, 3, 4] rfl)
  unfold f_X12_ask at h
  refine lv_aload_n X.1 X.2.1 dX12_ask_0 rfl (lv_at hl 0 rfl) ?_
  obtain ⟨r_1, g0_1, hc_1, h⟩ := bd2_el h
  refine call_V1i (As := []) (rest := []) X (c_X12_strokeRows l dC dI sk sv tc a0 g0 hc_1) mw_9_158 mw_9_160 mp_5_14 mw_1_12 mw_9_161 dc_X12_strokeRows ⟨Nat.le_of_ble_eq_true rfl, Nat.le_of_ble_eq_true rfl⟩ rfl rfl ⟨Nat.zero_le _, Nat.zero_le _⟩ hP (hD _) hS 0 rfl rfl rfl hl.1 (Nat.le_of_ble_eq_true rfl) dX12_ask_1 (fun H locs hP hS => ?_)
  refine lv_istore_n (lv' := [(1, .int r_1), (0, .ref (a0 0))]) X.1 X.2.1 dX12_ask_4 rfl hl (by decide) rfl (fun ls hl => ?_)
  refine lv_aload_n X.1 X.2.1 dX12_ask_5 rfl (lv_at hl 1 rfl) ?_
  refine r_get (C := RX12) (T := TX12) (N := 28) (ci := 12) (v := .int (g0_1 0 0)) X iw12 hP 0 rfl rfl 0 rfl mw_7_120 rfl dX12_ask_6 ?_
  refine lv_if_le (tgt := 14) X.1 X.2.1 dX12_ask_9 (by decide) (fun hc => ?_) (fun hc => ?_)
  · have h := it_t hc h
    refine lv_aload_n X.1 X.2.1 dX12_ask_14 rfl (lv_at hl 1 rfl) ?_
    refine lv_iload_n X.1 X.2.1 dX12_ask_15 rfl (lv_at hl 0 rfl) ?_
    obtain ⟨r_2, g0_2, hc_2, h⟩ := bd2_el h
    refine call_V1i (As := [.int r_1]) (rest := []) X (c_X12_hands l dC dI sk sv tc a0 g0_1 r_1 hc_2) mw_9_162 mw_9_164 mp_5_15 mw_1_12 mw_9_165 dc_X12_hands ⟨Nat.le_of_ble_eq_true rfl, Nat.le_of_ble_eq_true rfl⟩ rfl rfl ⟨Nat.zero_le _, Nat.zero_le _⟩ hP (hD _) hS 0 rfl rfl rfl hl.1 (Nat.le_of_ble_eq_true rfl) dX12_ask_16 (fun H locs hP hS => ?_)
    refine lv_istore_n (lv' := [(2, .int r_2), (1, .int r_1), (0, .ref (a0 0))]) X.1 X.2.1 dX12_ask_19 rfl hl (by decide) rfl (fun ls hl => ?_)
    refine lv_iconst (v := (-1)) X.1 X.2.1 dX12_ask_20 (by decide) ?_
    refine lv_istore_n (lv' := [(3, .int (-1)), (2, .int r_2), (1, .int r_1), (0, .ref (a0 0))]) X.1 X.2.1 dX12_ask_21 rfl hl (by decide) rfl (fun ls hl => ?_)
    refine lv_ldcw (v := 2000000000) X.1 X.2.1 X.2.2.2.2.1 (X.2.2.2.2.2.1 _ (List.mem_cons_of_mem _ mw_8_152)) dX12_ask_22 ?_
    refine lv_istore (lv' := [(4, .int 2000000000), (3, .int (-1)), (2, .int r_2), (1, .int r_1), (0, .ref (a0 0))]) X.1 X.2.1 dX12_ask_25 hl (by decide) rfl (fun ls hl => ?_)
    refine lv_iconst (v := 0) X.1 X.2.1 dX12_ask_27 (by decide) ?_
    refine lv_istore (lv' := [(5, .int 0), (4, .int 2000000000), (3, .int (-1)), (2, .int r_2), (1, .int r_1), (0, .ref (a0 0))]) X.1 X.2.1 dX12_ask_28 hl (by decide) rfl (fun ls hl => ?_)
    obtain ⟨ex_17, hL_17, h⟩ := bd_el h
    refine HL30 r_2 fu (-1) 2000000000 0 g0_2 ex_17 hL_17 H locs ls hP hS (lv_sub hl [5, 3, 2, 1, 0] rfl) (fun x3_17 g0_17 he H locs ls hP hS hl => ?_)
    subst he
    refine lv_iload_n X.1 X.2.1 dX12_ask_161 rfl (lv_at hl 0 rfl) ?_
    exact ret_i (fun u => (wM tc a0 u)) (res := (r0, G0)) (Option.some.inj h) X hQ hP hS dX12_ask_162
  · have h := it_f hc h
    refine lv_iconst (v := 0) X.1 X.2.1 dX12_ask_12 (by decide) ?_
    exact ret_i (fun u => (wM tc a0 u)) (res := (r0, G0)) (Option.some.inj h) X hQ hP hS dX12_ask_13

def f_X12_whose_L18 (x1 : Int32) (g0 : Pic) (n : Nat) (a : Int32 × Int32) : Option (Int32) := lp (fun (rec : Int32 × Int32 → Option (Int32)) (a : Int32 × Int32) => match a with | (x2, x3) => (if (g0 1 4) ≤ x3 then some x2 else bd (f_X12_of g0 x3 0) (fun r_2 => bd (f_X12_isByHand g0 r_2 x1) (fun r_3 => jn (fun (s0_J50 : Int32) (s1_J50 : Int32) => nm ((s0_J50 ||| s1_J50)) (fun x2_4 => nm (x3 + 1) (fun x3_5 => rec (x2_4, x3_5)))) (fun J50 => (if r_3 = 0 then J50 x2 0 else J50 x2 (1 <<< (x3 &&& 31)))))))) n a
def f_X12_whose (g0 : Pic) : Option (Int32 × Pic) := bd2 (f_X12_strokeRows g0) (fun r_1 g0_1 => (if (g0_1 0 0) ≤ 0 then bd (f_X12_whose_L18 r_1 g0_1 fu (0, 0)) (fun x2_6 => some (x2_6, g0_1)) else some (0, g0_1)))
abbrev rm_X12_whose : Room := { frames := 3, cells := 0, slots := 0, locals := 70 }
set_option maxHeartbeats 4000000 in
set_option maxRecDepth 100000 in
theorem c_X12_whose (l : Launch) (dC : Nat → ClassId) (dI : Nat → Nat → Nat) (sk sv : Nat → Nat) (tc : Nat → ClassId) (a0 : Nat → Nat) (g0 : Pic) {r0 : Int32} {G0 : Pic} (h : f_X12_whose g0 = some (r0, G0)) : CT l (dC, dI) sk sv (TY tc) yX12_whose cX12_whose 4 (some .int) rm_X12_whose [.ref (a0 0)] (wM tc a0 g0) (some (.int r0)) (wM tc a0 G0) := by
  refine ofCT (by decide) (Nat.le_of_ble_eq_true rfl) ?_
  intro pr e s m args below meth c A Q ls H locs X hQ hD0 hP hS hl
  have hD : ∀ z0, va_D A (wM tc a0 z0) := fun z0 => D_fst (ws := (wM tc a0 g0)) rfl hD0
  have hl : lv_has ls 4 [(0, .ref (a0 0))] := hl
  have HL18 : ∀ (x1 : Int32) (g0 : Pic) (n : Nat) (x2 : Int32) (x3 : Int32) (ex : (Int32)), f_X12_whose_L18 x1 g0 n (x2, x3) = some ex → ∀ (H : Heap) (locs : List Loc) (ls : Array Slot), va_P (dC, dI) vwCl (wM tc a0 g0) H → va_S A s.heap H locs → lv_has ls 4 [(0, .ref (a0 0)), (1, .int x1), (2, .int x2), (3, .int x3)] → (∀ (y2 : Int32), y2 = ex → ∀ (H : Heap) (locs : List Loc) (ls : Array Slot), va_P (dC, dI) vwCl (wM tc a0 g0) H → va_S A s.heap H locs → lv_has ls 4 [(2, .int y2)] → W pr l e rm_X12_whose s m args below meth c H locs 0 0 Q (F0 m 58 ls [])) → W pr l e rm_X12_whose s m args below meth c H locs 0 0 Q (F0 m 18 ls []) := by
    intro x1 g0 n
    induction n with
    | zero => intro x2 x3 ex h; exact lp_z h
    | succ n ih =>
      intro x2 x3 ex h H locs ls hP hS hl K
      have h := lp_s h
      refine lv_iload_n X.1 X.2.1 dX12_whose_18 rfl (lv_at hl 3 rfl) ?_
      refine lv_aload_n X.1 X.2.1 dX12_whose_19 rfl (lv_at hl 0 rfl) ?_
      refine r_get (C := RX12) (T := TX12) (N := 28) (ci := 12) (v := .ref (a0 2)) X iw12 hP 0 rfl rfl 1 rfl mw_7_121 rfl dX12_whose_20 ?_
      refine lv_iconst (v := 4) X.1 X.2.1 dX12_whose_23 (by decide) ?_
      refine r_iald X hP 1 0 rfl rfl (j := 4) (by unfold vp_in; decide) (by decide) dX12_whose_24 ?_
      refine lv_icmp_ge (tgt := 58) X.1 X.2.1 dX12_whose_25 (by decide) (fun hc => ?_) (fun hc => ?_)
      · have h := it_t hc h
        exact K x2 (Option.some.inj h) H locs ls hP hS (lv_sub hl [2] rfl)
      · have h := it_f hc h
        refine lv_iload_n X.1 X.2.1 dX12_whose_28 rfl (lv_at hl 2 rfl) ?_
        refine lv_aload_n X.1 X.2.1 dX12_whose_29 rfl (lv_at hl 0 rfl) ?_
        refine lv_aload_n X.1 X.2.1 dX12_whose_30 rfl (lv_at hl 0 rfl) ?_
        refine lv_iload_n X.1 X.2.1 dX12_whose_31 rfl (lv_at hl 3 rfl) ?_
        refine lv_iconst (v := 0) X.1 X.2.1 dX12_whose_32 (by decide) ?_
        obtain ⟨r_2, hc_2, h⟩ := bd_el h
        refine call_V1i (As := [.int x3, .int 0]) (rest := [.ref (a0 0), .int x2]) X (c_X12_of l dC dI sk sv tc a0 g0 x3 0 hc_2) mw_8_180 mw_8_182 mp_4_1 mw_1_12 mw_8_183 dc_X12_of ⟨Nat.le_of_ble_eq_true rfl, Nat.le_of_ble_eq_true rfl⟩ rfl rfl ⟨Nat.zero_le _, Nat.zero_le _⟩ hP (hD _) hS 0 rfl rfl rfl hl.1 (Nat.le_of_ble_eq_true rfl) dX12_whose_33 (fun H locs hP hS => ?_)
        refine lv_iload_n X.1 X.2.1 dX12_whose_36 rfl (lv_at hl 1 rfl) ?_
        obtain ⟨r_3, hc_3, h⟩ := bd_el h
        refine call_V1i (As := [.int r_2, .int x1]) (rest := [.int x2]) X (c_X12_isByHand l dC dI sk sv tc a0 g0 r_2 x1 hc_3) mw_9_166 mw_9_168 mp_6_0 mw_1_12 mw_9_169 dc_X12_isByHand ⟨Nat.le_of_ble_eq_true rfl, Nat.le_of_ble_eq_true rfl⟩ rfl rfl ⟨Nat.zero_le _, Nat.zero_le _⟩ hP (hD _) hS 0 rfl rfl rfl hl.1 (Nat.le_of_ble_eq_true rfl) dX12_whose_37 (fun H locs hP hS => ?_)
        obtain ⟨J50, eJ50, h⟩ := jn_el h
        have HJ50 : ∀ (s0_J50 : Int32) (s1_J50 : Int32) (H : Heap) (locs : List Loc) (ls : Array Slot), J50 s0_J50 s1_J50 = some ex → va_P (dC, dI) vwCl (wM tc a0 g0) H → va_S A s.heap H locs → lv_has ls 4 [(0, .ref (a0 0)), (1, .int x1), (3, .int x3)] → W pr l e rm_X12_whose s m args below meth c H locs 0 0 Q (F0 m 50 ls [.int s1_J50, .int s0_J50]) := by
          intro s0_J50 s1_J50 H locs ls h hP hS hl
          rw [eJ50] at h
          refine lv_ior X.1 X.2.1 dX12_whose_50 ?_
          obtain ⟨x2_4, ex2_4, h⟩ := nm_el h
          refine tp_i ex2_4 ?_
          refine lv_istore_n (lv' := [(2, .int x2_4), (0, .ref (a0 0)), (1, .int x1), (3, .int x3)]) X.1 X.2.1 dX12_whose_51 rfl hl (by decide) rfl (fun ls hl => ?_)
          obtain ⟨x3_5, ex3_5, h⟩ := nm_el h
          refine lv_iinc (v := x3_5) (lv' := [(3, .int x3_5), (2, .int x2_4), (0, .ref (a0 0)), (1, .int x1)]) X.1 X.2.1 dX12_whose_52 hl (k := 3) rfl (by rw [ex3_5]; rfl) (by decide) rfl (fun ls hl => ?_)
          refine lv_goto (tgt := 18) X.1 X.2.1 dX12_whose_55 (by decide) ?_
          exact ih x2_4 x3_5 ex h H locs ls hP hS (lv_sub hl [2, 3, 1, 0] rfl) K
        refine lv_if_eq (tgt := 49) X.1 X.2.1 dX12_whose_40 (by decide) (fun hc => ?_) (fun hc => ?_)
        · have h := it_t hc h
          refine lv_iconst (v := 0) X.1 X.2.1 dX12_whose_49 (by decide) ?_
          exact HJ50 x2 0 H locs ls h hP hS (lv_sub hl [0, 1, 3] rfl)
        · have h := it_f hc h
          refine lv_iconst (v := 1) X.1 X.2.1 dX12_whose_43 (by decide) ?_
          refine lv_iload_n X.1 X.2.1 dX12_whose_44 rfl (lv_at hl 3 rfl) ?_
          refine lv_ishl X.1 X.2.1 dX12_whose_45 ?_
          refine lv_goto (tgt := 50) X.1 X.2.1 dX12_whose_46 (by decide) ?_
          exact HJ50 x2 (1 <<< (x3 &&& 31)) H locs ls h hP hS (lv_sub hl [0, 1, 3] rfl)
  unfold f_X12_whose at h
  refine lv_aload_n X.1 X.2.1 dX12_whose_0 rfl (lv_at hl 0 rfl) ?_
  obtain ⟨r_1, g0_1, hc_1, h⟩ := bd2_el h
  refine call_V1i (As := []) (rest := []) X (c_X12_strokeRows l dC dI sk sv tc a0 g0 hc_1) mw_9_158 mw_9_160 mp_5_14 mw_1_12 mw_9_161 dc_X12_strokeRows ⟨Nat.le_of_ble_eq_true rfl, Nat.le_of_ble_eq_true rfl⟩ rfl rfl ⟨Nat.zero_le _, Nat.zero_le _⟩ hP (hD _) hS 0 rfl rfl rfl hl.1 (Nat.le_of_ble_eq_true rfl) dX12_whose_1 (fun H locs hP hS => ?_)
  refine lv_istore_n (lv' := [(1, .int r_1), (0, .ref (a0 0))]) X.1 X.2.1 dX12_whose_4 rfl hl (by decide) rfl (fun ls hl => ?_)
  refine lv_aload_n X.1 X.2.1 dX12_whose_5 rfl (lv_at hl 1 rfl) ?_
  refine r_get (C := RX12) (T := TX12) (N := 28) (ci := 12) (v := .int (g0_1 0 0)) X iw12 hP 0 rfl rfl 0 rfl mw_7_120 rfl dX12_whose_6 ?_
  refine lv_if_le (tgt := 14) X.1 X.2.1 dX12_whose_9 (by decide) (fun hc => ?_) (fun hc => ?_)
  · have h := it_t hc h
    refine lv_iconst (v := 0) X.1 X.2.1 dX12_whose_14 (by decide) ?_
    refine lv_istore_n (lv' := [(2, .int 0), (1, .int r_1), (0, .ref (a0 0))]) X.1 X.2.1 dX12_whose_15 rfl hl (by decide) rfl (fun ls hl => ?_)
    refine lv_iconst (v := 0) X.1 X.2.1 dX12_whose_16 (by decide) ?_
    refine lv_istore_n (lv' := [(3, .int 0), (2, .int 0), (1, .int r_1), (0, .ref (a0 0))]) X.1 X.2.1 dX12_whose_17 rfl hl (by decide) rfl (fun ls hl => ?_)
    obtain ⟨ex_6, hL_6, h⟩ := bd_el h
    refine HL18 r_1 g0_1 fu 0 0 ex_6 hL_6 H locs ls hP hS (lv_sub hl [3, 2, 1, 0] rfl) (fun x2_6 he H locs ls hP hS hl => ?_)
    subst he
    refine lv_iload_n X.1 X.2.1 dX12_whose_58 rfl (lv_at hl 0 rfl) ?_
    exact ret_i (fun u => (wM tc a0 u)) (res := (r0, G0)) (Option.some.inj h) X hQ hP hS dX12_whose_59
  · have h := it_f hc h
    refine lv_iconst (v := 0) X.1 X.2.1 dX12_whose_12 (by decide) ?_
    exact ret_i (fun u => (wM tc a0 u)) (res := (r0, G0)) (Option.some.inj h) X hQ hP hS dX12_whose_13

def f_X12_fluent_L9 (g0 : Pic) (n : Nat) (a : Int32 × Int32) : Option (Int32) := lp (fun (rec : Int32 × Int32 → Option (Int32)) (a : Int32 × Int32) => match a with | (x1, x2) => (if (g0 1 4) ≤ x2 then some x1 else bd (f_X12_times g0 x2 (g0 1 7) 0) (fun r_2 => jn (fun (s0_J43 : Int32) (s1_J43 : Int32) => nm ((s0_J43 ||| s1_J43)) (fun x1_3 => nm (x2 + 1) (fun x2_4 => rec (x1_3, x2_4)))) (fun J43 => (if r_2 = 0 then J43 x1 (1 <<< (x2 &&& 31)) else J43 x1 0))))) n a
def f_X12_fluent (g0 : Pic) : Option (Int32 × Pic) := nm (pu g0 0 0 0) (fun g0_1 => bd (f_X12_fluent_L9 g0_1 fu (0, 0)) (fun x1_5 => some (x1_5, g0_1)))
abbrev rm_X12_fluent : Room := { frames := 3, cells := 0, slots := 0, locals := 73 }
set_option maxHeartbeats 4000000 in
set_option maxRecDepth 100000 in
theorem c_X12_fluent (l : Launch) (dC : Nat → ClassId) (dI : Nat → Nat → Nat) (sk sv : Nat → Nat) (tc : Nat → ClassId) (a0 : Nat → Nat) (g0 : Pic) {r0 : Int32} {G0 : Pic} (h : f_X12_fluent g0 = some (r0, G0)) : CT l (dC, dI) sk sv (TY tc) yX12_fluent cX12_fluent 3 (some .int) rm_X12_fluent [.ref (a0 0)] (wM tc a0 g0) (some (.int r0)) (wM tc a0 G0) := by
  refine ofCT (by decide) (Nat.le_of_ble_eq_true rfl) ?_
  intro pr e s m args below meth c A Q ls H locs X hQ hD0 hP hS hl
  have hD : ∀ z0, va_D A (wM tc a0 z0) := fun z0 => D_fst (ws := (wM tc a0 g0)) rfl hD0
  have hl : lv_has ls 3 [(0, .ref (a0 0))] := hl
  have HL9 : ∀ (g0 : Pic) (n : Nat) (x1 : Int32) (x2 : Int32) (ex : (Int32)), f_X12_fluent_L9 g0 n (x1, x2) = some ex → ∀ (H : Heap) (locs : List Loc) (ls : Array Slot), va_P (dC, dI) vwCl (wM tc a0 g0) H → va_S A s.heap H locs → lv_has ls 3 [(0, .ref (a0 0)), (1, .int x1), (2, .int x2)] → (∀ (y1 : Int32), y1 = ex → ∀ (H : Heap) (locs : List Loc) (ls : Array Slot), va_P (dC, dI) vwCl (wM tc a0 g0) H → va_S A s.heap H locs → lv_has ls 3 [(1, .int y1)] → W pr l e rm_X12_fluent s m args below meth c H locs 0 0 Q (F0 m 51 ls [])) → W pr l e rm_X12_fluent s m args below meth c H locs 0 0 Q (F0 m 9 ls []) := by
    intro g0 n
    induction n with
    | zero => intro x1 x2 ex h; exact lp_z h
    | succ n ih =>
      intro x1 x2 ex h H locs ls hP hS hl K
      have h := lp_s h
      refine lv_iload_n X.1 X.2.1 dX12_fluent_9 rfl (lv_at hl 2 rfl) ?_
      refine lv_aload_n X.1 X.2.1 dX12_fluent_10 rfl (lv_at hl 0 rfl) ?_
      refine r_get (C := RX12) (T := TX12) (N := 28) (ci := 12) (v := .ref (a0 2)) X iw12 hP 0 rfl rfl 1 rfl mw_7_121 rfl dX12_fluent_11 ?_
      refine lv_iconst (v := 4) X.1 X.2.1 dX12_fluent_14 (by decide) ?_
      refine r_iald X hP 1 0 rfl rfl (j := 4) (by unfold vp_in; decide) (by decide) dX12_fluent_15 ?_
      refine lv_icmp_ge (tgt := 51) X.1 X.2.1 dX12_fluent_16 (by decide) (fun hc => ?_) (fun hc => ?_)
      · have h := it_t hc h
        exact K x1 (Option.some.inj h) H locs ls hP hS (lv_sub hl [1] rfl)
      · have h := it_f hc h
        refine lv_iload_n X.1 X.2.1 dX12_fluent_19 rfl (lv_at hl 1 rfl) ?_
        refine lv_aload_n X.1 X.2.1 dX12_fluent_20 rfl (lv_at hl 0 rfl) ?_
        refine lv_iload_n X.1 X.2.1 dX12_fluent_21 rfl (lv_at hl 2 rfl) ?_
        refine lv_aload_n X.1 X.2.1 dX12_fluent_22 rfl (lv_at hl 0 rfl) ?_
        refine r_get (C := RX12) (T := TX12) (N := 28) (ci := 12) (v := .ref (a0 2)) X iw12 hP 0 rfl rfl 1 rfl mw_7_121 rfl dX12_fluent_23 ?_
        refine lv_bipush (v := 7) X.1 X.2.1 dX12_fluent_26 (by decide) ?_
        refine r_iald X hP 1 0 rfl rfl (j := 7) (by unfold vp_in; decide) (by decide) dX12_fluent_28 ?_
        refine lv_iconst (v := 0) X.1 X.2.1 dX12_fluent_29 (by decide) ?_
        obtain ⟨r_2, hc_2, h⟩ := bd_el h
        refine call_V1i (As := [.int x2, .int (g0 1 7), .int 0]) (rest := [.int x1]) X (c_X12_times l dC dI sk sv tc a0 g0 x2 (g0 1 7) 0 hc_2) mw_8_215 mw_8_217 mp_4_9 mw_1_12 mw_8_218 dc_X12_times ⟨Nat.le_of_ble_eq_true rfl, Nat.le_of_ble_eq_true rfl⟩ rfl rfl ⟨Nat.zero_le _, Nat.zero_le _⟩ hP (hD _) hS 0 rfl rfl rfl hl.1 (Nat.le_of_ble_eq_true rfl) dX12_fluent_30 (fun H locs hP hS => ?_)
        obtain ⟨J43, eJ43, h⟩ := jn_el h
        have HJ43 : ∀ (s0_J43 : Int32) (s1_J43 : Int32) (H : Heap) (locs : List Loc) (ls : Array Slot), J43 s0_J43 s1_J43 = some ex → va_P (dC, dI) vwCl (wM tc a0 g0) H → va_S A s.heap H locs → lv_has ls 3 [(0, .ref (a0 0)), (2, .int x2)] → W pr l e rm_X12_fluent s m args below meth c H locs 0 0 Q (F0 m 43 ls [.int s1_J43, .int s0_J43]) := by
          intro s0_J43 s1_J43 H locs ls h hP hS hl
          rw [eJ43] at h
          refine lv_ior X.1 X.2.1 dX12_fluent_43 ?_
          obtain ⟨x1_3, ex1_3, h⟩ := nm_el h
          refine tp_i ex1_3 ?_
          refine lv_istore_n (lv' := [(1, .int x1_3), (0, .ref (a0 0)), (2, .int x2)]) X.1 X.2.1 dX12_fluent_44 rfl hl (by decide) rfl (fun ls hl => ?_)
          obtain ⟨x2_4, ex2_4, h⟩ := nm_el h
          refine lv_iinc (v := x2_4) (lv' := [(2, .int x2_4), (1, .int x1_3), (0, .ref (a0 0))]) X.1 X.2.1 dX12_fluent_45 hl (k := 2) rfl (by rw [ex2_4]; rfl) (by decide) rfl (fun ls hl => ?_)
          refine lv_goto (tgt := 9) X.1 X.2.1 dX12_fluent_48 (by decide) ?_
          exact ih x1_3 x2_4 ex h H locs ls hP hS (lv_sub hl [2, 1, 0] rfl) K
        refine lv_if_ne (tgt := 42) X.1 X.2.1 dX12_fluent_33 (by decide) (fun hc => ?_) (fun hc => ?_)
        · have h := it_f hc h
          refine lv_iconst (v := 0) X.1 X.2.1 dX12_fluent_42 (by decide) ?_
          exact HJ43 x1 0 H locs ls h hP hS (lv_sub hl [0, 2] rfl)
        · have h := it_t hc h
          refine lv_iconst (v := 1) X.1 X.2.1 dX12_fluent_36 (by decide) ?_
          refine lv_iload_n X.1 X.2.1 dX12_fluent_37 rfl (lv_at hl 2 rfl) ?_
          refine lv_ishl X.1 X.2.1 dX12_fluent_38 ?_
          refine lv_goto (tgt := 43) X.1 X.2.1 dX12_fluent_39 (by decide) ?_
          exact HJ43 x1 (1 <<< (x2 &&& 31)) H locs ls h hP hS (lv_sub hl [0, 2] rfl)
  unfold f_X12_fluent at h
  refine lv_aload_n X.1 X.2.1 dX12_fluent_0 rfl (lv_at hl 0 rfl) ?_
  refine lv_iconst (v := 0) X.1 X.2.1 dX12_fluent_1 (by decide) ?_
  obtain ⟨g0_1, eg0_1, h⟩ := nm_el h
  refine r_put (C := RX12) (T := TX12) (N := 28) (ci := 12) tyX12 tyX12_ok nmX12 X iw12 hP (hD _) hS 0 rfl rfl 0 rfl mw_7_120 rfl rfl rfl rfl dX12_fluent_2 (wM tc a0 g0_1) (by rw [eg0_1]; rfl) (fun H locs hP hS => ?_)
  refine lv_iconst (v := 0) X.1 X.2.1 dX12_fluent_5 (by decide) ?_
  refine lv_istore_n (lv' := [(1, .int 0), (0, .ref (a0 0))]) X.1 X.2.1 dX12_fluent_6 rfl hl (by decide) rfl (fun ls hl => ?_)
  refine lv_iconst (v := 0) X.1 X.2.1 dX12_fluent_7 (by decide) ?_
  refine lv_istore_n (lv' := [(2, .int 0), (1, .int 0), (0, .ref (a0 0))]) X.1 X.2.1 dX12_fluent_8 rfl hl (by decide) rfl (fun ls hl => ?_)
  obtain ⟨ex_5, hL_5, h⟩ := bd_el h
  refine HL9 g0_1 fu 0 0 ex_5 hL_5 H locs ls hP hS (lv_sub hl [2, 1, 0] rfl) (fun x1_5 he H locs ls hP hS hl => ?_)
  subst he
  refine lv_iload_n X.1 X.2.1 dX12_fluent_51 rfl (lv_at hl 0 rfl) ?_
  exact ret_i (fun u => (wM tc a0 u)) (res := (r0, G0)) (Option.some.inj h) X hQ hP hS dX12_fluent_52

def f_X12_better (g0 : Pic) (x1 : Int32) (x2 : Int32) : Option (Int32 × Pic) := bd (f_X12_isWriter g0 x1) (fun r_1 => jn (fun (s1_J31 : Int32) => nm (pu g0 0 0 s1_J31) (fun g0_2 => jn (fun (s0_J59 : Int32) => gdb s0_J59 (some (s0_J59, g0_2))) (fun J59 => jn (fun (_ : Unit) => J59 0) (fun J58 => (if (g0_2 0 0) = 0 then bd (f_X12_trueOf g0_2 x1) (fun r_4 => bd (f_X12_trueOf g0_2 x2) (fun r_5 => (if r_4 ≤ r_5 then J58 () else J59 1))) else J58 ()))))) (fun J31 => jn (fun (_ : Unit) => J31 1) (fun J17 => (if r_1 = 0 then J17 () else bd (f_X12_isWriter g0 x2) (fun r_6 => (if r_6 = 0 then J17 () else (if x1 = x2 then J31 2 else J31 0)))))))
abbrev rm_X12_better : Room := { frames := 5, cells := 0, slots := 0, locals := 118 }
set_option maxHeartbeats 4000000 in
set_option maxRecDepth 100000 in
theorem c_X12_better (l : Launch) (dC : Nat → ClassId) (dI : Nat → Nat → Nat) (sk sv : Nat → Nat) (tc : Nat → ClassId) (a0 : Nat → Nat) (g0 : Pic) (x1 : Int32) (x2 : Int32) {r0 : Int32} {G0 : Pic} (h : f_X12_better g0 x1 x2 = some (r0, G0)) : CT l (dC, dI) sk sv (TY tc) yX12_better cX12_better 3 (some .boolean) rm_X12_better [.ref (a0 0), .int x1, .int x2] (wM tc a0 g0) (some (.int r0)) (wM tc a0 G0) := by
  refine ofCT (by decide) (Nat.le_of_ble_eq_true rfl) ?_
  intro pr e s m args below meth c A Q ls H locs X hQ hD0 hP hS hl
  have hD : ∀ z0, va_D A (wM tc a0 z0) := fun z0 => D_fst (ws := (wM tc a0 g0)) rfl hD0
  have hl : lv_has ls 3 [(0, .ref (a0 0)), (1, .int x1), (2, .int x2)] := hl
  unfold f_X12_better at h
  refine lv_aload_n X.1 X.2.1 dX12_better_0 rfl (lv_at hl 0 rfl) ?_
  refine lv_aload_n X.1 X.2.1 dX12_better_1 rfl (lv_at hl 0 rfl) ?_
  refine lv_iload_n X.1 X.2.1 dX12_better_2 rfl (lv_at hl 1 rfl) ?_
  obtain ⟨r_1, hc_1, h⟩ := bd_el h
  refine call_V1i (As := [.int x1]) (rest := [.ref (a0 0)]) X (c_X12_isWriter l dC dI sk sv tc a0 g0 x1 hc_1) mw_8_176 mw_8_178 mp_4_0 mw_1_12 mw_8_179 dc_X12_isWriter ⟨Nat.le_of_ble_eq_true rfl, Nat.le_of_ble_eq_true rfl⟩ rfl rfl ⟨Nat.zero_le _, Nat.zero_le _⟩ hP (hD _) hS 0 rfl rfl rfl hl.1 (Nat.le_of_ble_eq_true rfl) dX12_better_3 (fun H locs hP hS => ?_)
  obtain ⟨J31, eJ31, h⟩ := jn_el h
  have HJ31 : ∀ (s1_J31 : Int32) (H : Heap) (locs : List Loc) (ls : Array Slot), J31 s1_J31 = some (r0, G0) → va_P (dC, dI) vwCl (wM tc a0 g0) H → va_S A s.heap H locs → lv_has ls 3 [(0, .ref (a0 0)), (1, .int x1), (2, .int x2)] → W pr l e rm_X12_better s m args below meth c H locs 0 0 Q (F0 m 31 ls [.int s1_J31, .ref (a0 0)]) := by
    intro s1_J31 H locs ls h hP hS hl
    rw [eJ31] at h
    obtain ⟨g0_2, eg0_2, h⟩ := nm_el h
    refine r_put (C := RX12) (T := TX12) (N := 28) (ci := 12) tyX12 tyX12_ok nmX12 X iw12 hP (hD _) hS 0 rfl rfl 0 rfl mw_7_120 rfl rfl rfl rfl dX12_better_31 (wM tc a0 g0_2) (by rw [eg0_2]; rfl) (fun H locs hP hS => ?_)
    refine lv_aload_n X.1 X.2.1 dX12_better_34 rfl (lv_at hl 0 rfl) ?_
    refine r_get (C := RX12) (T := TX12) (N := 28) (ci := 12) (v := .int (g0_2 0 0)) X iw12 hP 0 rfl rfl 0 rfl mw_7_120 rfl dX12_better_35 ?_
    obtain ⟨J59, eJ59, h⟩ := jn_el h
    have HJ59 : ∀ (s0_J59 : Int32) (H : Heap) (locs : List Loc) (ls : Array Slot), J59 s0_J59 = some (r0, G0) → va_P (dC, dI) vwCl (wM tc a0 g0_2) H → va_S A s.heap H locs → lv_has ls 3 [] → W pr l e rm_X12_better s m args below meth c H locs 0 0 Q (F0 m 59 ls [.int s0_J59]) := by
      intro s0_J59 H locs ls h hP hS hl
      rw [eJ59] at h
      obtain ⟨hg_3, h⟩ := gdb_el h
      exact ret_z (fun u => (wM tc a0 u)) (res := (r0, G0)) hg_3 (Option.some.inj h) X hQ hP hS dX12_better_59
    obtain ⟨J58, eJ58, h⟩ := jn_el h
    have HJ58 : ∀ (_ : Unit) (H : Heap) (locs : List Loc) (ls : Array Slot), J58 () = some (r0, G0) → va_P (dC, dI) vwCl (wM tc a0 g0_2) H → va_S A s.heap H locs → lv_has ls 3 [] → W pr l e rm_X12_better s m args below meth c H locs 0 0 Q (F0 m 58 ls []) := by
      intro _ H locs ls h hP hS hl
      rw [eJ58] at h
      refine lv_iconst (v := 0) X.1 X.2.1 dX12_better_58 (by decide) ?_
      exact HJ59 0 H locs ls h hP hS (lv_sub hl [] rfl)
    refine lv_if_ne (tgt := 58) X.1 X.2.1 dX12_better_38 (by decide) (fun hc => ?_) (fun hc => ?_)
    · have h := it_f hc h
      exact HJ58 () H locs ls h hP hS (lv_sub hl [] rfl)
    · have h := it_t hc h
      refine lv_aload_n X.1 X.2.1 dX12_better_41 rfl (lv_at hl 0 rfl) ?_
      refine lv_iload_n X.1 X.2.1 dX12_better_42 rfl (lv_at hl 1 rfl) ?_
      obtain ⟨r_4, hc_4, h⟩ := bd_el h
      refine call_V1i (As := [.int x1]) (rest := []) X (c_X12_trueOf l dC dI sk sv tc a0 g0_2 x1 hc_4) mw_8_238 mw_9_0 mp_4_14 mw_1_12 mw_9_1 dc_X12_trueOf ⟨Nat.le_of_ble_eq_true rfl, Nat.le_of_ble_eq_true rfl⟩ rfl rfl ⟨Nat.zero_le _, Nat.zero_le _⟩ hP (hD _) hS 0 rfl rfl rfl hl.1 (Nat.le_of_ble_eq_true rfl) dX12_better_43 (fun H locs hP hS => ?_)
      refine lv_aload_n X.1 X.2.1 dX12_better_46 rfl (lv_at hl 0 rfl) ?_
      refine lv_iload_n X.1 X.2.1 dX12_better_47 rfl (lv_at hl 2 rfl) ?_
      obtain ⟨r_5, hc_5, h⟩ := bd_el h
      refine call_V1i (As := [.int x2]) (rest := [.int r_4]) X (c_X12_trueOf l dC dI sk sv tc a0 g0_2 x2 hc_5) mw_8_238 mw_9_0 mp_4_14 mw_1_12 mw_9_1 dc_X12_trueOf ⟨Nat.le_of_ble_eq_true rfl, Nat.le_of_ble_eq_true rfl⟩ rfl rfl ⟨Nat.zero_le _, Nat.zero_le _⟩ hP (hD _) hS 0 rfl rfl rfl hl.1 (Nat.le_of_ble_eq_true rfl) dX12_better_48 (fun H locs hP hS => ?_)
      refine lv_icmp_le (tgt := 58) X.1 X.2.1 dX12_better_51 (by decide) (fun hc => ?_) (fun hc => ?_)
      · have h := it_t hc h
        exact HJ58 () H locs ls h hP hS (lv_sub hl [] rfl)
      · have h := it_f hc h
        refine lv_iconst (v := 1) X.1 X.2.1 dX12_better_54 (by decide) ?_
        refine lv_goto (tgt := 59) X.1 X.2.1 dX12_better_55 (by decide) ?_
        exact HJ59 1 H locs ls h hP hS (lv_sub hl [] rfl)
  obtain ⟨J17, eJ17, h⟩ := jn_el h
  have HJ17 : ∀ (_ : Unit) (H : Heap) (locs : List Loc) (ls : Array Slot), J17 () = some (r0, G0) → va_P (dC, dI) vwCl (wM tc a0 g0) H → va_S A s.heap H locs → lv_has ls 3 [(0, .ref (a0 0)), (1, .int x1), (2, .int x2)] → W pr l e rm_X12_better s m args below meth c H locs 0 0 Q (F0 m 17 ls [.ref (a0 0)]) := by
    intro _ H locs ls h hP hS hl
    rw [eJ17] at h
    refine lv_iconst (v := 1) X.1 X.2.1 dX12_better_17 (by decide) ?_
    refine lv_goto (tgt := 31) X.1 X.2.1 dX12_better_18 (by decide) ?_
    exact HJ31 1 H locs ls h hP hS (lv_sub hl [0, 1, 2] rfl)
  refine lv_if_eq (tgt := 17) X.1 X.2.1 dX12_better_6 (by decide) (fun hc => ?_) (fun hc => ?_)
  · have h := it_t hc h
    exact HJ17 () H locs ls h hP hS (lv_sub hl [0, 1, 2] rfl)
  · have h := it_f hc h
    refine lv_aload_n X.1 X.2.1 dX12_better_9 rfl (lv_at hl 0 rfl) ?_
    refine lv_iload_n X.1 X.2.1 dX12_better_10 rfl (lv_at hl 2 rfl) ?_
    obtain ⟨r_6, hc_6, h⟩ := bd_el h
    refine call_V1i (As := [.int x2]) (rest := [.ref (a0 0)]) X (c_X12_isWriter l dC dI sk sv tc a0 g0 x2 hc_6) mw_8_176 mw_8_178 mp_4_0 mw_1_12 mw_8_179 dc_X12_isWriter ⟨Nat.le_of_ble_eq_true rfl, Nat.le_of_ble_eq_true rfl⟩ rfl rfl ⟨Nat.zero_le _, Nat.zero_le _⟩ hP (hD _) hS 0 rfl rfl rfl hl.1 (Nat.le_of_ble_eq_true rfl) dX12_better_11 (fun H locs hP hS => ?_)
    refine lv_if_ne (tgt := 21) X.1 X.2.1 dX12_better_14 (by decide) (fun hc => ?_) (fun hc => ?_)
    · have h := it_f hc h
      refine lv_iload_n X.1 X.2.1 dX12_better_21 rfl (lv_at hl 1 rfl) ?_
      refine lv_iload_n X.1 X.2.1 dX12_better_22 rfl (lv_at hl 2 rfl) ?_
      refine lv_icmp_ne (tgt := 30) X.1 X.2.1 dX12_better_23 (by decide) (fun hc => ?_) (fun hc => ?_)
      · have h := it_f hc h
        refine lv_iconst (v := 0) X.1 X.2.1 dX12_better_30 (by decide) ?_
        exact HJ31 0 H locs ls h hP hS (lv_sub hl [0, 1, 2] rfl)
      · have h := it_t hc h
        refine lv_iconst (v := 2) X.1 X.2.1 dX12_better_26 (by decide) ?_
        refine lv_goto (tgt := 31) X.1 X.2.1 dX12_better_27 (by decide) ?_
        exact HJ31 2 H locs ls h hP hS (lv_sub hl [0, 1, 2] rfl)
    · have h := it_t hc h
      exact HJ17 () H locs ls h hP hS (lv_sub hl [0, 1, 2] rfl)

def f_X12_areWords (g0 : Pic) (x1 : Int32) (x2 : Int32) : Option (Pic) := bd (f_X12_isWord g0 x1) (fun r_1 => jn (fun (s1_J22 : Int32) => nm (pu g0 0 0 s1_J22) (fun g0_2 => some g0_2)) (fun J22 => jn (fun (_ : Unit) => J22 1) (fun J17 => (if r_1 = 0 then J17 () else bd (f_X12_isWord g0 x2) (fun r_3 => (if r_3 = 0 then J17 () else J22 0))))))
abbrev rm_X12_areWords : Room := { frames := 2, cells := 0, slots := 0, locals := 43 }
set_option maxHeartbeats 4000000 in
set_option maxRecDepth 100000 in
theorem c_X12_areWords (l : Launch) (dC : Nat → ClassId) (dI : Nat → Nat → Nat) (sk sv : Nat → Nat) (tc : Nat → ClassId) (a0 : Nat → Nat) (g0 : Pic) (x1 : Int32) (x2 : Int32) {G0 : Pic} (h : f_X12_areWords g0 x1 x2 = some G0) : CT l (dC, dI) sk sv (TY tc) yX12_areWords cX12_areWords 3 none rm_X12_areWords [.ref (a0 0), .int x1, .int x2] (wM tc a0 g0) none (wM tc a0 G0) := by
  refine ofCT (by decide) (Nat.le_of_ble_eq_true rfl) ?_
  intro pr e s m args below meth c A Q ls H locs X hQ hD0 hP hS hl
  have hD : ∀ z0, va_D A (wM tc a0 z0) := fun z0 => D_fst (ws := (wM tc a0 g0)) rfl hD0
  have hl : lv_has ls 3 [(0, .ref (a0 0)), (1, .int x1), (2, .int x2)] := hl
  unfold f_X12_areWords at h
  refine lv_aload_n X.1 X.2.1 dX12_areWords_0 rfl (lv_at hl 0 rfl) ?_
  refine lv_aload_n X.1 X.2.1 dX12_areWords_1 rfl (lv_at hl 0 rfl) ?_
  refine lv_iload_n X.1 X.2.1 dX12_areWords_2 rfl (lv_at hl 1 rfl) ?_
  obtain ⟨r_1, hc_1, h⟩ := bd_el h
  refine call_V1i (As := [.int x1]) (rest := [.ref (a0 0)]) X (c_X12_isWord l dC dI sk sv tc a0 g0 x1 hc_1) mw_8_136 mw_8_138 mp_3_9 mw_1_12 mw_8_139 dc_X12_isWord ⟨Nat.le_of_ble_eq_true rfl, Nat.le_of_ble_eq_true rfl⟩ rfl rfl ⟨Nat.zero_le _, Nat.zero_le _⟩ hP (hD _) hS 0 rfl rfl rfl hl.1 (Nat.le_of_ble_eq_true rfl) dX12_areWords_3 (fun H locs hP hS => ?_)
  obtain ⟨J22, eJ22, h⟩ := jn_el h
  have HJ22 : ∀ (s1_J22 : Int32) (H : Heap) (locs : List Loc) (ls : Array Slot), J22 s1_J22 = some G0 → va_P (dC, dI) vwCl (wM tc a0 g0) H → va_S A s.heap H locs → lv_has ls 3 [] → W pr l e rm_X12_areWords s m args below meth c H locs 0 0 Q (F0 m 22 ls [.int s1_J22, .ref (a0 0)]) := by
    intro s1_J22 H locs ls h hP hS hl
    rw [eJ22] at h
    obtain ⟨g0_2, eg0_2, h⟩ := nm_el h
    refine r_put (C := RX12) (T := TX12) (N := 28) (ci := 12) tyX12 tyX12_ok nmX12 X iw12 hP (hD _) hS 0 rfl rfl 0 rfl mw_7_120 rfl rfl rfl rfl dX12_areWords_22 (wM tc a0 g0_2) (by rw [eg0_2]; rfl) (fun H locs hP hS => ?_)
    exact ret_v (fun u => (wM tc a0 u)) (res := G0) (Option.some.inj h) X hQ hP hS dX12_areWords_25
  obtain ⟨J17, eJ17, h⟩ := jn_el h
  have HJ17 : ∀ (_ : Unit) (H : Heap) (locs : List Loc) (ls : Array Slot), J17 () = some G0 → va_P (dC, dI) vwCl (wM tc a0 g0) H → va_S A s.heap H locs → lv_has ls 3 [] → W pr l e rm_X12_areWords s m args below meth c H locs 0 0 Q (F0 m 17 ls [.ref (a0 0)]) := by
    intro _ H locs ls h hP hS hl
    rw [eJ17] at h
    refine lv_iconst (v := 1) X.1 X.2.1 dX12_areWords_17 (by decide) ?_
    refine lv_goto (tgt := 22) X.1 X.2.1 dX12_areWords_18 (by decide) ?_
    exact HJ22 1 H locs ls h hP hS (lv_sub hl [] rfl)
  refine lv_if_eq (tgt := 17) X.1 X.2.1 dX12_areWords_6 (by decide) (fun hc => ?_) (fun hc => ?_)
  · have h := it_t hc h
    exact HJ17 () H locs ls h hP hS (lv_sub hl [] rfl)
  · have h := it_f hc h
    refine lv_aload_n X.1 X.2.1 dX12_areWords_9 rfl (lv_at hl 0 rfl) ?_
    refine lv_iload_n X.1 X.2.1 dX12_areWords_10 rfl (lv_at hl 2 rfl) ?_
    obtain ⟨r_3, hc_3, h⟩ := bd_el h
    refine call_V1i (As := [.int x2]) (rest := [.ref (a0 0)]) X (c_X12_isWord l dC dI sk sv tc a0 g0 x2 hc_3) mw_8_136 mw_8_138 mp_3_9 mw_1_12 mw_8_139 dc_X12_isWord ⟨Nat.le_of_ble_eq_true rfl, Nat.le_of_ble_eq_true rfl⟩ rfl rfl ⟨Nat.zero_le _, Nat.zero_le _⟩ hP (hD _) hS 0 rfl rfl rfl hl.1 (Nat.le_of_ble_eq_true rfl) dX12_areWords_11 (fun H locs hP hS => ?_)
    refine lv_if_ne (tgt := 21) X.1 X.2.1 dX12_areWords_14 (by decide) (fun hc => ?_) (fun hc => ?_)
    · have h := it_f hc h
      refine lv_iconst (v := 0) X.1 X.2.1 dX12_areWords_21 (by decide) ?_
      exact HJ22 0 H locs ls h hP hS (lv_sub hl [] rfl)
    · have h := it_t hc h
      exact HJ17 () H locs ls h hP hS (lv_sub hl [] rfl)

def f_X12_change (g0 : Pic) (x1 : Int32) (x2 : Int32) : Option (Int32 × Pic) := bd (f_X12_areWords g0 x1 x2) (fun g0_1 => jn (fun (s0_J23 : Int32) (g0_J23 : Pic) => some (s0_J23, g0_J23)) (fun J23 => (if (g0_1 0 0) ≤ 0 then bd2 (f_X12_changeOf g0_1 x1 x2) (fun r_2 g0_2 => J23 r_2 g0_2) else J23 0 g0_1)))
abbrev rm_X12_change : Room := { frames := 3, cells := 0, slots := 0, locals := 65 }
set_option maxHeartbeats 4000000 in
set_option maxRecDepth 100000 in
theorem c_X12_change (l : Launch) (dC : Nat → ClassId) (dI : Nat → Nat → Nat) (sk sv : Nat → Nat) (tc : Nat → ClassId) (a0 : Nat → Nat) (g0 : Pic) (x1 : Int32) (x2 : Int32) {r0 : Int32} {G0 : Pic} (h : f_X12_change g0 x1 x2 = some (r0, G0)) : CT l (dC, dI) sk sv (TY tc) yX12_change cX12_change 3 (some .int) rm_X12_change [.ref (a0 0), .int x1, .int x2] (wM tc a0 g0) (some (.int r0)) (wM tc a0 G0) := by
  refine ofCT (by decide) (Nat.le_of_ble_eq_true rfl) ?_
  intro pr e s m args below meth c A Q ls H locs X hQ hD0 hP hS hl
  have hD : ∀ z0, va_D A (wM tc a0 z0) := fun z0 => D_fst (ws := (wM tc a0 g0)) rfl hD0
  have hl : lv_has ls 3 [(0, .ref (a0 0)), (1, .int x1), (2, .int x2)] := hl
  unfold f_X12_change at h
  refine lv_aload_n X.1 X.2.1 dX12_change_0 rfl (lv_at hl 0 rfl) ?_
  refine lv_iload_n X.1 X.2.1 dX12_change_1 rfl (lv_at hl 1 rfl) ?_
  refine lv_iload_n X.1 X.2.1 dX12_change_2 rfl (lv_at hl 2 rfl) ?_
  obtain ⟨g0_1, hc_1, h⟩ := bd_el h
  refine call_V1v (As := [.int x1, .int x2]) (rest := []) X (c_X12_areWords l dC dI sk sv tc a0 g0 x1 x2 hc_1) mw_9_190 mw_9_192 mp_6_1 mw_1_12 mw_9_193 dc_X12_areWords ⟨Nat.le_of_ble_eq_true rfl, Nat.le_of_ble_eq_true rfl⟩ rfl rfl ⟨Nat.zero_le _, Nat.zero_le _⟩ hP (hD _) hS 0 rfl rfl rfl hl.1 (Nat.le_of_ble_eq_true rfl) dX12_change_3 (fun H locs hP hS => ?_)
  refine lv_aload_n X.1 X.2.1 dX12_change_6 rfl (lv_at hl 0 rfl) ?_
  refine r_get (C := RX12) (T := TX12) (N := 28) (ci := 12) (v := .int (g0_1 0 0)) X iw12 hP 0 rfl rfl 0 rfl mw_7_120 rfl dX12_change_7 ?_
  obtain ⟨J23, eJ23, h⟩ := jn_el h
  have HJ23 : ∀ (s0_J23 : Int32) (g0_J23 : Pic) (H : Heap) (locs : List Loc) (ls : Array Slot), J23 s0_J23 g0_J23 = some (r0, G0) → va_P (dC, dI) vwCl (wM tc a0 g0_J23) H → va_S A s.heap H locs → lv_has ls 3 [] → W pr l e rm_X12_change s m args below meth c H locs 0 0 Q (F0 m 23 ls [.int s0_J23]) := by
    intro s0_J23 g0_J23 H locs ls h hP hS hl
    rw [eJ23] at h
    exact ret_i (fun u => (wM tc a0 u)) (res := (r0, G0)) (Option.some.inj h) X hQ hP hS dX12_change_23
  refine lv_if_le (tgt := 17) X.1 X.2.1 dX12_change_10 (by decide) (fun hc => ?_) (fun hc => ?_)
  · have h := it_t hc h
    refine lv_aload_n X.1 X.2.1 dX12_change_17 rfl (lv_at hl 0 rfl) ?_
    refine lv_iload_n X.1 X.2.1 dX12_change_18 rfl (lv_at hl 1 rfl) ?_
    refine lv_iload_n X.1 X.2.1 dX12_change_19 rfl (lv_at hl 2 rfl) ?_
    obtain ⟨r_2, g0_2, hc_2, h⟩ := bd2_el h
    refine call_V1i (As := [.int x1, .int x2]) (rest := []) X (c_X12_changeOf l dC dI sk sv tc a0 g0_1 x1 x2 hc_2) mw_8_164 mw_8_166 mp_3_15 mw_1_12 mw_8_167 dc_X12_changeOf ⟨Nat.le_of_ble_eq_true rfl, Nat.le_of_ble_eq_true rfl⟩ rfl rfl ⟨Nat.zero_le _, Nat.zero_le _⟩ hP (hD _) hS 0 rfl rfl rfl hl.1 (Nat.le_of_ble_eq_true rfl) dX12_change_20 (fun H locs hP hS => ?_)
    exact HJ23 r_2 g0_2 H locs ls h hP hS (lv_sub hl [] rfl)
  · have h := it_f hc h
    refine lv_iconst (v := 0) X.1 X.2.1 dX12_change_13 (by decide) ?_
    refine lv_goto (tgt := 23) X.1 X.2.1 dX12_change_14 (by decide) ?_
    exact HJ23 0 g0_1 H locs ls h hP hS (lv_sub hl [] rfl)

def f_X12_chain_L60 (x2 : Int32) (x3 : Int32) (x4 : Int32) (x6 : Int32) (n : Nat) (a : Int32 × Int32 × Pic) : Option (Int32 × Pic) := lp (fun (rec : Int32 × Int32 × Pic → Option (Int32 × Pic)) (a : Int32 × Int32 × Pic) => match a with | (x5, x7, g0) => (if (g0 1 3) ≤ x7 then some (x5, g0) else bd (f_X12_isOf x3 x6) (fun r_4 => jn (fun (x5_J101 : Int32) (g0_J101 : Pic) => nm (x7 + 1) (fun x7_5 => rec (x5_J101, x7_5, g0_J101))) (fun J101 => (if r_4 = 0 then J101 x5 g0 else bd2 (f_X12_changeOf g0 x6 x7) (fun r_6 g0_6 => (if 1 < r_6 then J101 x5 g0_6 else nm ((x5 ||| (1 <<< (x7 &&& 31)))) (fun x5_7 => J101 x5_7 g0_6)))))))) n a
def f_X12_chain_L46 (x2 : Int32) (x3 : Int32) (x4 : Int32) (n : Nat) (a : Int32 × Int32 × Pic) : Option (Int32 × Pic) := lp (fun (rec : Int32 × Int32 × Pic → Option (Int32 × Pic)) (a : Int32 × Int32 × Pic) => match a with | (x5, x6, g0) => (if (g0 1 3) ≤ x6 then some (x5, g0) else bd (f_X12_chain_L60 x2 x3 x4 x6 fu (x5, 0, g0)) (fun (x5_8, g0_8) => nm (x6 + 1) (fun x6_9 => rec (x5_8, x6_9, g0_8))))) n a
def f_X12_chain_L22 (x2 : Int32) (n : Nat) (a : Int32 × Int32 × Pic) : Option ((Int32 × Pic) ⊕ (Pic)) := lp (fun (rec : Int32 × Int32 × Pic → Option ((Int32 × Pic) ⊕ (Pic))) (a : Int32 × Int32 × Pic) => match a with | (x3, x4, g0) => (if 8 ≤ x4 then some (.inr g0) else bd (f_X12_isOf x3 x2) (fun r_3 => (if r_3 = 0 then bd (f_X12_chain_L46 x2 x3 x4 fu (x3, 0, g0)) (fun (x5_10, g0_10) => nm (x4 + 1) (fun x4_11 => rec (x5_10, x4_11, g0_10))) else some (.inl (x4, g0)))))) n a
def f_X12_chain (g0 : Pic) (x1 : Int32) (x2 : Int32) : Option (Int32 × Pic) := bd (f_X12_areWords g0 x1 x2) (fun g0_1 => (if (g0_1 0 0) ≤ 0 then nm ((1 <<< (x1 &&& 31))) (fun x3_2 => lr (f_X12_chain_L22 x2 fu (x3_2, 0, g0_1)) (fun a => a) (fun g0_12 => some ((-1), g0_12))) else some (0, g0_1)))
abbrev rm_X12_chain : Room := { frames := 3, cells := 0, slots := 0, locals := 65 }
set_option maxHeartbeats 4000000 in
set_option maxRecDepth 100000 in
theorem c_X12_chain (l : Launch) (dC : Nat → ClassId) (dI : Nat → Nat → Nat) (sk sv : Nat → Nat) (tc : Nat → ClassId) (a0 : Nat → Nat) (g0 : Pic) (x1 : Int32) (x2 : Int32) {r0 : Int32} {G0 : Pic} (h : f_X12_chain g0 x1 x2 = some (r0, G0)) : CT l (dC, dI) sk sv (TY tc) yX12_chain cX12_chain 8 (some .int) rm_X12_chain [.ref (a0 0), .int x1, .int x2] (wM tc a0 g0) (some (.int r0)) (wM tc a0 G0) := by
  refine ofCT (by decide) (Nat.le_of_ble_eq_true rfl) ?_
  intro pr e s m args below meth c A Q ls H locs X hQ hD0 hP hS hl
  have hD : ∀ z0, va_D A (wM tc a0 z0) := fun z0 => D_fst (ws := (wM tc a0 g0)) rfl hD0
  have hl : lv_has ls 8 [(0, .ref (a0 0)), (1, .int x1), (2, .int x2)] := hl
  have HL60 : ∀ (x2 : Int32) (x3 : Int32) (x4 : Int32) (x6 : Int32) (n : Nat) (x5 : Int32) (x7 : Int32) (g0 : Pic) (ex : (Int32 × Pic)), f_X12_chain_L60 x2 x3 x4 x6 n (x5, x7, g0) = some ex → ∀ (H : Heap) (locs : List Loc) (ls : Array Slot), va_P (dC, dI) vwCl (wM tc a0 g0) H → va_S A s.heap H locs → lv_has ls 8 [(0, .ref (a0 0)), (2, .int x2), (3, .int x3), (4, .int x4), (5, .int x5), (6, .int x6), (7, .int x7)] → (∀ (y5 : Int32) (k0 : Pic), (y5, k0) = ex → ∀ (H : Heap) (locs : List Loc) (ls : Array Slot), va_P (dC, dI) vwCl (wM tc a0 k0) H → va_S A s.heap H locs → lv_has ls 8 [(0, .ref (a0 0)), (2, .int x2), (3, .int x3), (4, .int x4), (5, .int y5), (6, .int x6)] → W pr l e rm_X12_chain s m args below meth c H locs 0 0 Q (F0 m 107 ls [])) → W pr l e rm_X12_chain s m args below meth c H locs 0 0 Q (F0 m 60 ls []) := by
    intro x2 x3 x4 x6 n
    induction n with
    | zero => intro x5 x7 g0 ex h; exact lp_z h
    | succ n ih =>
      intro x5 x7 g0 ex h H locs ls hP hS hl K
      have h := lp_s h
      refine lv_iload X.1 X.2.1 dX12_chain_60 (lv_at hl 6 rfl) ?_
      refine lv_aload_n X.1 X.2.1 dX12_chain_62 rfl (lv_at hl 0 rfl) ?_
      refine r_get (C := RX12) (T := TX12) (N := 28) (ci := 12) (v := .ref (a0 2)) X iw12 hP 0 rfl rfl 1 rfl mw_7_121 rfl dX12_chain_63 ?_
      refine lv_iconst (v := 3) X.1 X.2.1 dX12_chain_66 (by decide) ?_
      refine r_iald X hP 1 0 rfl rfl (j := 3) (by unfold vp_in; decide) (by decide) dX12_chain_67 ?_
      refine lv_icmp_ge (tgt := 107) X.1 X.2.1 dX12_chain_68 (by decide) (fun hc => ?_) (fun hc => ?_)
      · have h := it_t hc h
        exact K x5 g0 (Option.some.inj h) H locs ls hP hS (lv_sub hl [0, 1, 2, 3, 4, 5] rfl)
      · have h := it_f hc h
        refine lv_iload_n X.1 X.2.1 dX12_chain_71 rfl (lv_at hl 2 rfl) ?_
        refine lv_iload X.1 X.2.1 dX12_chain_72 (lv_at hl 5 rfl) ?_
        obtain ⟨r_4, hc_4, h⟩ := bd_el h
        refine call_S0i (As := [.int x3, .int x6]) (rest := []) X (c_X12_isOf l dC dI sk sv tc x3 x6 hc_4) mw_8_192 mw_8_193 mw_1_12 mw_8_194 dc_X12_isOf ⟨Nat.le_of_ble_eq_true rfl, Nat.le_of_ble_eq_true rfl⟩ rfl rfl ⟨Nat.zero_le _, Nat.zero_le _⟩ hP (hD _) hS hl.1 (Nat.le_of_ble_eq_true rfl) dX12_chain_74 (fun H locs hP hS => ?_)
        obtain ⟨J101, eJ101, h⟩ := jn_el h
        have HJ101 : ∀ (x5_J101 : Int32) (g0_J101 : Pic) (H : Heap) (locs : List Loc) (ls : Array Slot), J101 x5_J101 g0_J101 = some ex → va_P (dC, dI) vwCl (wM tc a0 g0_J101) H → va_S A s.heap H locs → lv_has ls 8 [(0, .ref (a0 0)), (2, .int x2), (3, .int x3), (4, .int x4), (5, .int x5_J101), (6, .int x6), (7, .int x7)] → W pr l e rm_X12_chain s m args below meth c H locs 0 0 Q (F0 m 101 ls []) := by
          intro x5_J101 g0_J101 H locs ls h hP hS hl
          rw [eJ101] at h
          obtain ⟨x7_5, ex7_5, h⟩ := nm_el h
          refine lv_iinc (v := x7_5) (lv' := [(7, .int x7_5), (0, .ref (a0 0)), (2, .int x2), (3, .int x3), (4, .int x4), (5, .int x5_J101), (6, .int x6)]) X.1 X.2.1 dX12_chain_101 hl (k := 6) rfl (by rw [ex7_5]; rfl) (by decide) rfl (fun ls hl => ?_)
          refine lv_goto (tgt := 60) X.1 X.2.1 dX12_chain_104 (by decide) ?_
          exact ih x5_J101 x7_5 g0_J101 ex h H locs ls hP hS (lv_sub hl [1, 2, 3, 4, 5, 6, 0] rfl) K
        refine lv_if_eq (tgt := 101) X.1 X.2.1 dX12_chain_77 (by decide) (fun hc => ?_) (fun hc => ?_)
        · have h := it_t hc h
          exact HJ101 x5 g0 H locs ls h hP hS (lv_sub hl [0, 1, 2, 3, 4, 5, 6] rfl)
        · have h := it_f hc h
          refine lv_aload_n X.1 X.2.1 dX12_chain_80 rfl (lv_at hl 0 rfl) ?_
          refine lv_iload X.1 X.2.1 dX12_chain_81 (lv_at hl 5 rfl) ?_
          refine lv_iload X.1 X.2.1 dX12_chain_83 (lv_at hl 6 rfl) ?_
          obtain ⟨r_6, g0_6, hc_6, h⟩ := bd2_el h
          refine call_V1i (As := [.int x6, .int x7]) (rest := []) X (c_X12_changeOf l dC dI sk sv tc a0 g0 x6 x7 hc_6) mw_8_164 mw_8_166 mp_3_15 mw_1_12 mw_8_167 dc_X12_changeOf ⟨Nat.le_of_ble_eq_true rfl, Nat.le_of_ble_eq_true rfl⟩ rfl rfl ⟨Nat.zero_le _, Nat.zero_le _⟩ hP (hD _) hS 0 rfl rfl rfl hl.1 (Nat.le_of_ble_eq_true rfl) dX12_chain_85 (fun H locs hP hS => ?_)
          refine lv_iconst (v := 1) X.1 X.2.1 dX12_chain_88 (by decide) ?_
          refine lv_icmp_gt (tgt := 101) X.1 X.2.1 dX12_chain_89 (by decide) (fun hc => ?_) (fun hc => ?_)
          · have h := it_t hc h
            exact HJ101 x5 g0_6 H locs ls h hP hS (lv_sub hl [0, 1, 2, 3, 4, 5, 6] rfl)
          · have h := it_f hc h
            refine lv_iload X.1 X.2.1 dX12_chain_92 (lv_at hl 4 rfl) ?_
            refine lv_iconst (v := 1) X.1 X.2.1 dX12_chain_94 (by decide) ?_
            refine lv_iload X.1 X.2.1 dX12_chain_95 (lv_at hl 6 rfl) ?_
            refine lv_ishl X.1 X.2.1 dX12_chain_97 ?_
            refine lv_ior X.1 X.2.1 dX12_chain_98 ?_
            obtain ⟨x5_7, ex5_7, h⟩ := nm_el h
            refine tp_i ex5_7 ?_
            refine lv_istore (lv' := [(5, .int x5_7), (0, .ref (a0 0)), (2, .int x2), (3, .int x3), (4, .int x4), (6, .int x6), (7, .int x7)]) X.1 X.2.1 dX12_chain_99 hl (by decide) rfl (fun ls hl => ?_)
            exact HJ101 x5_7 g0_6 H locs ls h hP hS (lv_sub hl [1, 2, 3, 4, 0, 5, 6] rfl)
  have HL46 : ∀ (x2 : Int32) (x3 : Int32) (x4 : Int32) (n : Nat) (x5 : Int32) (x6 : Int32) (g0 : Pic) (ex : (Int32 × Pic)), f_X12_chain_L46 x2 x3 x4 n (x5, x6, g0) = some ex → ∀ (H : Heap) (locs : List Loc) (ls : Array Slot), va_P (dC, dI) vwCl (wM tc a0 g0) H → va_S A s.heap H locs → lv_has ls 8 [(0, .ref (a0 0)), (2, .int x2), (3, .int x3), (4, .int x4), (5, .int x5), (6, .int x6)] → (∀ (y5 : Int32) (k0 : Pic), (y5, k0) = ex → ∀ (H : Heap) (locs : List Loc) (ls : Array Slot), va_P (dC, dI) vwCl (wM tc a0 k0) H → va_S A s.heap H locs → lv_has ls 8 [(0, .ref (a0 0)), (2, .int x2), (4, .int x4), (5, .int y5)] → W pr l e rm_X12_chain s m args below meth c H locs 0 0 Q (F0 m 113 ls [])) → W pr l e rm_X12_chain s m args below meth c H locs 0 0 Q (F0 m 46 ls []) := by
    intro x2 x3 x4 n
    induction n with
    | zero => intro x5 x6 g0 ex h; exact lp_z h
    | succ n ih =>
      intro x5 x6 g0 ex h H locs ls hP hS hl K
      have h := lp_s h
      refine lv_iload X.1 X.2.1 dX12_chain_46 (lv_at hl 5 rfl) ?_
      refine lv_aload_n X.1 X.2.1 dX12_chain_48 rfl (lv_at hl 0 rfl) ?_
      refine r_get (C := RX12) (T := TX12) (N := 28) (ci := 12) (v := .ref (a0 2)) X iw12 hP 0 rfl rfl 1 rfl mw_7_121 rfl dX12_chain_49 ?_
      refine lv_iconst (v := 3) X.1 X.2.1 dX12_chain_52 (by decide) ?_
      refine r_iald X hP 1 0 rfl rfl (j := 3) (by unfold vp_in; decide) (by decide) dX12_chain_53 ?_
      refine lv_icmp_ge (tgt := 113) X.1 X.2.1 dX12_chain_54 (by decide) (fun hc => ?_) (fun hc => ?_)
      · have h := it_t hc h
        exact K x5 g0 (Option.some.inj h) H locs ls hP hS (lv_sub hl [0, 1, 3, 4] rfl)
      · have h := it_f hc h
        refine lv_iconst (v := 0) X.1 X.2.1 dX12_chain_57 (by decide) ?_
        refine lv_istore (lv' := [(7, .int 0), (0, .ref (a0 0)), (2, .int x2), (3, .int x3), (4, .int x4), (5, .int x5), (6, .int x6)]) X.1 X.2.1 dX12_chain_58 hl (by decide) rfl (fun ls hl => ?_)
        obtain ⟨ex_8, hL_8, h⟩ := bd_el h
        refine HL60 x2 x3 x4 x6 fu x5 0 g0 ex_8 hL_8 H locs ls hP hS (lv_sub hl [1, 2, 3, 4, 5, 6, 0] rfl) (fun x5_8 g0_8 he H locs ls hP hS hl => ?_)
        subst he
        obtain ⟨x6_9, ex6_9, h⟩ := nm_el h
        refine lv_iinc (v := x6_9) (lv' := [(6, .int x6_9), (0, .ref (a0 0)), (2, .int x2), (3, .int x3), (4, .int x4), (5, .int x5_8)]) X.1 X.2.1 dX12_chain_107 hl (k := 5) rfl (by rw [ex6_9]; rfl) (by decide) rfl (fun ls hl => ?_)
        refine lv_goto (tgt := 46) X.1 X.2.1 dX12_chain_110 (by decide) ?_
        exact ih x5_8 x6_9 g0_8 ex h H locs ls hP hS (lv_sub hl [1, 2, 3, 4, 5, 0] rfl) K
  have HL22 : ∀ (x2 : Int32) (n : Nat) (x3 : Int32) (x4 : Int32) (g0 : Pic) (ex : ((Int32 × Pic) ⊕ (Pic))), f_X12_chain_L22 x2 n (x3, x4, g0) = some ex → (∀ rv, ex = .inl rv → rv = (r0, G0)) → ∀ (H : Heap) (locs : List Loc) (ls : Array Slot), va_P (dC, dI) vwCl (wM tc a0 g0) H → va_S A s.heap H locs → lv_has ls 8 [(0, .ref (a0 0)), (2, .int x2), (3, .int x3), (4, .int x4)] → (∀ (k0 : Pic), .inr k0 = ex → ∀ (H : Heap) (locs : List Loc) (ls : Array Slot), va_P (dC, dI) vwCl (wM tc a0 k0) H → va_S A s.heap H locs → lv_has ls 8 [] → W pr l e rm_X12_chain s m args below meth c H locs 0 0 Q (F0 m 122 ls [])) → W pr l e rm_X12_chain s m args below meth c H locs 0 0 Q (F0 m 22 ls []) := by
    intro x2 n
    induction n with
    | zero => intro x3 x4 g0 ex h; exact lp_z h
    | succ n ih =>
      intro x3 x4 g0 ex h hR H locs ls hP hS hl K
      have h := lp_s h
      refine lv_iload X.1 X.2.1 dX12_chain_22 (lv_at hl 3 rfl) ?_
      refine lv_bipush (v := 8) X.1 X.2.1 dX12_chain_24 (by decide) ?_
      refine lv_icmp_ge (tgt := 122) X.1 X.2.1 dX12_chain_26 (by decide) (fun hc => ?_) (fun hc => ?_)
      · have h := it_t hc h
        exact K g0 (Option.some.inj h) H locs ls hP hS (lv_sub hl [] rfl)
      · have h := it_f hc h
        refine lv_iload_n X.1 X.2.1 dX12_chain_29 rfl (lv_at hl 2 rfl) ?_
        refine lv_iload_n X.1 X.2.1 dX12_chain_30 rfl (lv_at hl 1 rfl) ?_
        obtain ⟨r_3, hc_3, h⟩ := bd_el h
        refine call_S0i (As := [.int x3, .int x2]) (rest := []) X (c_X12_isOf l dC dI sk sv tc x3 x2 hc_3) mw_8_192 mw_8_193 mw_1_12 mw_8_194 dc_X12_isOf ⟨Nat.le_of_ble_eq_true rfl, Nat.le_of_ble_eq_true rfl⟩ rfl rfl ⟨Nat.zero_le _, Nat.zero_le _⟩ hP (hD _) hS hl.1 (Nat.le_of_ble_eq_true rfl) dX12_chain_31 (fun H locs hP hS => ?_)
        refine lv_if_eq (tgt := 40) X.1 X.2.1 dX12_chain_34 (by decide) (fun hc => ?_) (fun hc => ?_)
        · have h := it_t hc h
          refine lv_iload_n X.1 X.2.1 dX12_chain_40 rfl (lv_at hl 2 rfl) ?_
          refine lv_istore (lv' := [(5, .int x3), (0, .ref (a0 0)), (2, .int x2), (3, .int x3), (4, .int x4)]) X.1 X.2.1 dX12_chain_41 hl (by decide) rfl (fun ls hl => ?_)
          refine lv_iconst (v := 0) X.1 X.2.1 dX12_chain_43 (by decide) ?_
          refine lv_istore (lv' := [(6, .int 0), (5, .int x3), (0, .ref (a0 0)), (2, .int x2), (3, .int x3), (4, .int x4)]) X.1 X.2.1 dX12_chain_44 hl (by decide) rfl (fun ls hl => ?_)
          obtain ⟨ex_10, hL_10, h⟩ := bd_el h
          refine HL46 x2 x3 x4 fu x3 0 g0 ex_10 hL_10 H locs ls hP hS (lv_sub hl [2, 3, 4, 5, 1, 0] rfl) (fun x5_10 g0_10 he H locs ls hP hS hl => ?_)
          subst he
          refine lv_iload X.1 X.2.1 dX12_chain_113 (lv_at hl 3 rfl) ?_
          refine lv_istore_n (lv' := [(3, .int x5_10), (0, .ref (a0 0)), (2, .int x2), (4, .int x4), (5, .int x5_10)]) X.1 X.2.1 dX12_chain_115 rfl hl (by decide) rfl (fun ls hl => ?_)
          obtain ⟨x4_11, ex4_11, h⟩ := nm_el h
          refine lv_iinc (v := x4_11) (lv' := [(4, .int x4_11), (3, .int x5_10), (0, .ref (a0 0)), (2, .int x2), (5, .int x5_10)]) X.1 X.2.1 dX12_chain_116 hl (k := 3) rfl (by rw [ex4_11]; rfl) (by decide) rfl (fun ls hl => ?_)
          refine lv_goto (tgt := 22) X.1 X.2.1 dX12_chain_119 (by decide) ?_
          exact ih x5_10 x4_11 g0_10 ex h hR H locs ls hP hS (lv_sub hl [2, 3, 1, 0] rfl) K
        · have h := it_f hc h
          refine lv_iload X.1 X.2.1 dX12_chain_37 (lv_at hl 3 rfl) ?_
          exact ret_i (fun u => (wM tc a0 u)) (res := (r0, G0)) (hR _ (Option.some.inj h).symm) X hQ hP hS dX12_chain_39
  unfold f_X12_chain at h
  refine lv_aload_n X.1 X.2.1 dX12_chain_0 rfl (lv_at hl 0 rfl) ?_
  refine lv_iload_n X.1 X.2.1 dX12_chain_1 rfl (lv_at hl 1 rfl) ?_
  refine lv_iload_n X.1 X.2.1 dX12_chain_2 rfl (lv_at hl 2 rfl) ?_
  obtain ⟨g0_1, hc_1, h⟩ := bd_el h
  refine call_V1v (As := [.int x1, .int x2]) (rest := []) X (c_X12_areWords l dC dI sk sv tc a0 g0 x1 x2 hc_1) mw_9_190 mw_9_192 mp_6_1 mw_1_12 mw_9_193 dc_X12_areWords ⟨Nat.le_of_ble_eq_true rfl, Nat.le_of_ble_eq_true rfl⟩ rfl rfl ⟨Nat.zero_le _, Nat.zero_le _⟩ hP (hD _) hS 0 rfl rfl rfl hl.1 (Nat.le_of_ble_eq_true rfl) dX12_chain_3 (fun H locs hP hS => ?_)
  refine lv_aload_n X.1 X.2.1 dX12_chain_6 rfl (lv_at hl 0 rfl) ?_
  refine r_get (C := RX12) (T := TX12) (N := 28) (ci := 12) (v := .int (g0_1 0 0)) X iw12 hP 0 rfl rfl 0 rfl mw_7_120 rfl dX12_chain_7 ?_
  refine lv_if_le (tgt := 15) X.1 X.2.1 dX12_chain_10 (by decide) (fun hc => ?_) (fun hc => ?_)
  · have h := it_t hc h
    refine lv_iconst (v := 1) X.1 X.2.1 dX12_chain_15 (by decide) ?_
    refine lv_iload_n X.1 X.2.1 dX12_chain_16 rfl (lv_at hl 1 rfl) ?_
    refine lv_ishl X.1 X.2.1 dX12_chain_17 ?_
    obtain ⟨x3_2, ex3_2, h⟩ := nm_el h
    refine tp_i ex3_2 ?_
    refine lv_istore_n (lv' := [(3, .int x3_2), (0, .ref (a0 0)), (1, .int x1), (2, .int x2)]) X.1 X.2.1 dX12_chain_18 rfl hl (by decide) rfl (fun ls hl => ?_)
    refine lv_iconst (v := 0) X.1 X.2.1 dX12_chain_19 (by decide) ?_
    refine lv_istore (lv' := [(4, .int 0), (3, .int x3_2), (0, .ref (a0 0)), (1, .int x1), (2, .int x2)]) X.1 X.2.1 dX12_chain_20 hl (by decide) rfl (fun ls hl => ?_)
    obtain ⟨ex_12, hL_12, h1_12, h2_12⟩ := lr_el h
    refine HL22 x2 fu x3_2 0 g0_1 ex_12 hL_12 (fun rv hq => h1_12 rv hq) H locs ls hP hS (lv_sub hl [2, 4, 1, 0] rfl) (fun g0_12 he H locs ls hP hS hl => ?_)
    have h := h2_12 _ he.symm
    refine lv_iconst (v := (-1)) X.1 X.2.1 dX12_chain_122 (by decide) ?_
    exact ret_i (fun u => (wM tc a0 u)) (res := (r0, G0)) (Option.some.inj h) X hQ hP hS dX12_chain_123
  · have h := it_f hc h
    refine lv_iconst (v := 0) X.1 X.2.1 dX12_chain_13 (by decide) ?_
    exact ret_i (fun u => (wM tc a0 u)) (res := (r0, G0)) (Option.some.inj h) X hQ hP hS dX12_chain_14

def f_X12_isEcho_L6 (x1 : Int32) (x2 : Int32) (x3 : Int32) (g0 : Pic) (n : Nat) (a : Int32 × Int32) : Option (Int32) := lp (fun (rec : Int32 × Int32 → Option (Int32)) (a : Int32 × Int32) => match a with | (x4, x5) => (if x3 ≤ x5 then some x4 else (if x4 = 0 then some x4 else gdi ((76 + x1) + x5) 856 (gdi ((76 + x2) + x5) 856 (jn (fun (s0_J49 : Int32) => nm (x5 + 1) (fun x5_3 => rec (s0_J49, x5_3))) (fun J49 => (if (g0 1 (((76 + x1) + x5).toNatClampNeg)) = (g0 1 (((76 + x2) + x5).toNatClampNeg)) then J49 1 else J49 0))))))) n a
def f_X12_isEcho (g0 : Pic) (x1 : Int32) (x2 : Int32) (x3 : Int32) : Option (Int32) := bd (f_X12_isEcho_L6 x1 x2 x3 g0 fu (1, 0)) (fun x4_4 => gdb x4_4 (some x4_4))
abbrev rm_X12_isEcho : Room := { frames := 0, cells := 0, slots := 0, locals := 0 }
set_option maxHeartbeats 4000000 in
set_option maxRecDepth 100000 in
theorem c_X12_isEcho (l : Launch) (dC : Nat → ClassId) (dI : Nat → Nat → Nat) (sk sv : Nat → Nat) (tc : Nat → ClassId) (a0 : Nat → Nat) (g0 : Pic) (x1 : Int32) (x2 : Int32) (x3 : Int32) {r0 : Int32} (h : f_X12_isEcho g0 x1 x2 x3 = some r0) : CT l (dC, dI) sk sv (TY tc) yX12_isEcho cX12_isEcho 6 (some .boolean) rm_X12_isEcho [.ref (a0 0), .int x1, .int x2, .int x3] (wM tc a0 g0) (some (.int r0)) (wM tc a0 g0) := by
  refine ofCT (by decide) (Nat.le_of_ble_eq_true rfl) ?_
  intro pr e s m args below meth c A Q ls H locs X hQ hD0 hP hS hl
  have hD : ∀ z0, va_D A (wM tc a0 z0) := fun z0 => D_fst (ws := (wM tc a0 g0)) rfl hD0
  have hl : lv_has ls 6 [(0, .ref (a0 0)), (1, .int x1), (2, .int x2), (3, .int x3)] := hl
  have HL6 : ∀ (x1 : Int32) (x2 : Int32) (x3 : Int32) (n : Nat) (x4 : Int32) (x5 : Int32) (ex : (Int32)), f_X12_isEcho_L6 x1 x2 x3 g0 n (x4, x5) = some ex → ∀ (H : Heap) (locs : List Loc) (ls : Array Slot), va_P (dC, dI) vwCl (wM tc a0 g0) H → va_S A s.heap H locs → lv_has ls 6 [(0, .ref (a0 0)), (1, .int x1), (2, .int x2), (3, .int x3), (4, .int x4), (5, .int x5)] → (∀ (y4 : Int32), y4 = ex → ∀ (H : Heap) (locs : List Loc) (ls : Array Slot), va_P (dC, dI) vwCl (wM tc a0 g0) H → va_S A s.heap H locs → lv_has ls 6 [(4, .int y4)] → W pr l e rm_X12_isEcho s m args below meth c H locs 0 0 Q (F0 m 57 ls [])) → W pr l e rm_X12_isEcho s m args below meth c H locs 0 0 Q (F0 m 6 ls []) := by
    intro x1 x2 x3 n
    induction n with
    | zero => intro x4 x5 ex h; exact lp_z h
    | succ n ih =>
      intro x4 x5 ex h H locs ls hP hS hl K
      have h := lp_s h
      refine lv_iload X.1 X.2.1 dX12_isEcho_6 (lv_at hl 5 rfl) ?_
      refine lv_iload_n X.1 X.2.1 dX12_isEcho_8 rfl (lv_at hl 3 rfl) ?_
      refine lv_icmp_ge (tgt := 57) X.1 X.2.1 dX12_isEcho_9 (by decide) (fun hc => ?_) (fun hc => ?_)
      · have h := it_t hc h
        exact K x4 (Option.some.inj h) H locs ls hP hS (lv_sub hl [4] rfl)
      · have h := it_f hc h
        refine lv_iload X.1 X.2.1 dX12_isEcho_12 (lv_at hl 4 rfl) ?_
        refine lv_if_eq (tgt := 57) X.1 X.2.1 dX12_isEcho_14 (by decide) (fun hc => ?_) (fun hc => ?_)
        · have h := it_t hc h
          exact K x4 (Option.some.inj h) H locs ls hP hS (lv_sub hl [4] rfl)
        · have h := it_f hc h
          refine lv_aload_n X.1 X.2.1 dX12_isEcho_17 rfl (lv_at hl 0 rfl) ?_
          refine r_get (C := RX12) (T := TX12) (N := 28) (ci := 12) (v := .ref (a0 2)) X iw12 hP 0 rfl rfl 1 rfl mw_7_121 rfl dX12_isEcho_18 ?_
          refine lv_bipush (v := 76) X.1 X.2.1 dX12_isEcho_21 (by decide) ?_
          refine lv_iload_n X.1 X.2.1 dX12_isEcho_23 rfl (lv_at hl 1 rfl) ?_
          refine lv_iadd X.1 X.2.1 dX12_isEcho_24 ?_
          refine lv_iload X.1 X.2.1 dX12_isEcho_25 (lv_at hl 5 rfl) ?_
          refine lv_iadd X.1 X.2.1 dX12_isEcho_27 ?_
          obtain ⟨hg_1, h⟩ := gdi_el h
          refine r_iald X hP 1 0 rfl rfl hg_1 rfl dX12_isEcho_28 ?_
          refine lv_aload_n X.1 X.2.1 dX12_isEcho_29 rfl (lv_at hl 0 rfl) ?_
          refine r_get (C := RX12) (T := TX12) (N := 28) (ci := 12) (v := .ref (a0 2)) X iw12 hP 0 rfl rfl 1 rfl mw_7_121 rfl dX12_isEcho_30 ?_
          refine lv_bipush (v := 76) X.1 X.2.1 dX12_isEcho_33 (by decide) ?_
          refine lv_iload_n X.1 X.2.1 dX12_isEcho_35 rfl (lv_at hl 2 rfl) ?_
          refine lv_iadd X.1 X.2.1 dX12_isEcho_36 ?_
          refine lv_iload X.1 X.2.1 dX12_isEcho_37 (lv_at hl 5 rfl) ?_
          refine lv_iadd X.1 X.2.1 dX12_isEcho_39 ?_
          obtain ⟨hg_2, h⟩ := gdi_el h
          refine r_iald X hP 1 0 rfl rfl hg_2 rfl dX12_isEcho_40 ?_
          obtain ⟨J49, eJ49, h⟩ := jn_el h
          have HJ49 : ∀ (s0_J49 : Int32) (H : Heap) (locs : List Loc) (ls : Array Slot), J49 s0_J49 = some ex → va_P (dC, dI) vwCl (wM tc a0 g0) H → va_S A s.heap H locs → lv_has ls 6 [(0, .ref (a0 0)), (1, .int x1), (2, .int x2), (3, .int x3), (5, .int x5)] → W pr l e rm_X12_isEcho s m args below meth c H locs 0 0 Q (F0 m 49 ls [.int s0_J49]) := by
            intro s0_J49 H locs ls h hP hS hl
            rw [eJ49] at h
            refine lv_istore (lv' := [(4, .int s0_J49), (0, .ref (a0 0)), (1, .int x1), (2, .int x2), (3, .int x3), (5, .int x5)]) X.1 X.2.1 dX12_isEcho_49 hl (by decide) rfl (fun ls hl => ?_)
            obtain ⟨x5_3, ex5_3, h⟩ := nm_el h
            refine lv_iinc (v := x5_3) (lv' := [(5, .int x5_3), (4, .int s0_J49), (0, .ref (a0 0)), (1, .int x1), (2, .int x2), (3, .int x3)]) X.1 X.2.1 dX12_isEcho_51 hl (k := 5) rfl (by rw [ex5_3]; rfl) (by decide) rfl (fun ls hl => ?_)
            refine lv_goto (tgt := 6) X.1 X.2.1 dX12_isEcho_54 (by decide) ?_
            exact ih s0_J49 x5_3 ex h H locs ls hP hS (lv_sub hl [2, 3, 4, 5, 1, 0] rfl) K
          refine lv_icmp_ne (tgt := 48) X.1 X.2.1 dX12_isEcho_41 (by decide) (fun hc => ?_) (fun hc => ?_)
          · have h := it_f hc h
            refine lv_iconst (v := 0) X.1 X.2.1 dX12_isEcho_48 (by decide) ?_
            exact HJ49 0 H locs ls h hP hS (lv_sub hl [0, 1, 2, 3, 5] rfl)
          · have h := it_t hc h
            refine lv_iconst (v := 1) X.1 X.2.1 dX12_isEcho_44 (by decide) ?_
            refine lv_goto (tgt := 49) X.1 X.2.1 dX12_isEcho_45 (by decide) ?_
            exact HJ49 1 H locs ls h hP hS (lv_sub hl [0, 1, 2, 3, 5] rfl)
  unfold f_X12_isEcho at h
  refine lv_iconst (v := 1) X.1 X.2.1 dX12_isEcho_0 (by decide) ?_
  refine lv_istore (lv' := [(4, .int 1), (0, .ref (a0 0)), (1, .int x1), (2, .int x2), (3, .int x3)]) X.1 X.2.1 dX12_isEcho_1 hl (by decide) rfl (fun ls hl => ?_)
  refine lv_iconst (v := 0) X.1 X.2.1 dX12_isEcho_3 (by decide) ?_
  refine lv_istore (lv' := [(5, .int 0), (4, .int 1), (0, .ref (a0 0)), (1, .int x1), (2, .int x2), (3, .int x3)]) X.1 X.2.1 dX12_isEcho_4 hl (by decide) rfl (fun ls hl => ?_)
  obtain ⟨ex_4, hL_4, h⟩ := bd_el h
  refine HL6 x1 x2 x3 fu 1 0 ex_4 hL_4 H locs ls hP hS (lv_sub hl [2, 3, 4, 5, 1, 0] rfl) (fun x4_4 he H locs ls hP hS hl => ?_)
  subst he
  refine lv_iload X.1 X.2.1 dX12_isEcho_57 (lv_at hl 0 rfl) ?_
  obtain ⟨hg_5, h⟩ := gdb_el h
  exact ret_z0 hg_5 (Option.some.inj h) X hQ hP hS dX12_isEcho_59

def f_X12_echo_L36 (x2 : Int32) (x3 : Int32) (g0 : Pic) (n : Nat) (a : Int32 × Int32) : Option (Int32) := lp (fun (rec : Int32 × Int32 → Option (Int32)) (a : Int32 × Int32) => match a with | (x1, x4) => (if (x3 - x2) < x4 then some x1 else (if (g0 1 5) < (x3 + x4) then some x1 else jn (fun (x1_J77 : Int32) => nm (x4 + 1) (fun x4_3 => rec (x1_J77, x4_3))) (fun J77 => (if x4 ≤ x1 then J77 x1 else bd (f_X12_isEcho g0 x2 x3 x4) (fun r_4 => (if r_4 = 0 then J77 x1 else J77 x4))))))) n a
def f_X12_echo_L23 (x2 : Int32) (g0 : Pic) (n : Nat) (a : Int32 × Int32) : Option (Int32) := lp (fun (rec : Int32 × Int32 → Option (Int32)) (a : Int32 × Int32) => match a with | (x1, x3) => (if (g0 1 5) ≤ x3 then some x1 else bd (f_X12_echo_L36 x2 x3 g0 fu (x1, 1)) (fun x1_5 => nm (x3 + 1) (fun x3_6 => rec (x1_5, x3_6))))) n a
def f_X12_echo_L9 (g0 : Pic) (n : Nat) (a : Int32 × Int32) : Option (Int32) := lp (fun (rec : Int32 × Int32 → Option (Int32)) (a : Int32 × Int32) => match a with | (x1, x2) => (if (g0 1 5) ≤ x2 then some x1 else nm ((x2 + 1)) (fun x3_2 => bd (f_X12_echo_L23 x2 g0 fu (x1, x3_2)) (fun x1_7 => nm (x2 + 1) (fun x2_8 => rec (x1_7, x2_8)))))) n a
def f_X12_echo (g0 : Pic) : Option (Int32 × Pic) := nm (pu g0 0 0 0) (fun g0_1 => bd (f_X12_echo_L9 g0_1 fu (0, 0)) (fun x1_9 => some (x1_9, g0_1)))
abbrev rm_X12_echo : Room := { frames := 1, cells := 0, slots := 0, locals := 25 }
set_option maxHeartbeats 4000000 in
set_option maxRecDepth 100000 in
theorem c_X12_echo (l : Launch) (dC : Nat → ClassId) (dI : Nat → Nat → Nat) (sk sv : Nat → Nat) (tc : Nat → ClassId) (a0 : Nat → Nat) (g0 : Pic) {r0 : Int32} {G0 : Pic} (h : f_X12_echo g0 = some (r0, G0)) : CT l (dC, dI) sk sv (TY tc) yX12_echo cX12_echo 5 (some .int) rm_X12_echo [.ref (a0 0)] (wM tc a0 g0) (some (.int r0)) (wM tc a0 G0) := by
  refine ofCT (by decide) (Nat.le_of_ble_eq_true rfl) ?_
  intro pr e s m args below meth c A Q ls H locs X hQ hD0 hP hS hl
  have hD : ∀ z0, va_D A (wM tc a0 z0) := fun z0 => D_fst (ws := (wM tc a0 g0)) rfl hD0
  have hl : lv_has ls 5 [(0, .ref (a0 0))] := hl
  have HL36 : ∀ (x2 : Int32) (x3 : Int32) (g0 : Pic) (n : Nat) (x1 : Int32) (x4 : Int32) (ex : (Int32)), f_X12_echo_L36 x2 x3 g0 n (x1, x4) = some ex → ∀ (H : Heap) (locs : List Loc) (ls : Array Slot), va_P (dC, dI) vwCl (wM tc a0 g0) H → va_S A s.heap H locs → lv_has ls 5 [(0, .ref (a0 0)), (1, .int x1), (2, .int x2), (3, .int x3), (4, .int x4)] → (∀ (y1 : Int32), y1 = ex → ∀ (H : Heap) (locs : List Loc) (ls : Array Slot), va_P (dC, dI) vwCl (wM tc a0 g0) H → va_S A s.heap H locs → lv_has ls 5 [(0, .ref (a0 0)), (1, .int y1), (2, .int x2), (3, .int x3)] → W pr l e rm_X12_echo s m args below meth c H locs 0 0 Q (F0 m 83 ls [])) → W pr l e rm_X12_echo s m args below meth c H locs 0 0 Q (F0 m 36 ls []) := by
    intro x2 x3 g0 n
    induction n with
    | zero => intro x1 x4 ex h; exact lp_z h
    | succ n ih =>
      intro x1 x4 ex h H locs ls hP hS hl K
      have h := lp_s h
      refine lv_iload X.1 X.2.1 dX12_echo_36 (lv_at hl 4 rfl) ?_
      refine lv_iload_n X.1 X.2.1 dX12_echo_38 rfl (lv_at hl 3 rfl) ?_
      refine lv_iload_n X.1 X.2.1 dX12_echo_39 rfl (lv_at hl 2 rfl) ?_
      refine lv_isub X.1 X.2.1 dX12_echo_40 ?_
      refine lv_icmp_gt (tgt := 83) X.1 X.2.1 dX12_echo_41 (by decide) (fun hc => ?_) (fun hc => ?_)
      · have h := it_t hc h
        exact K x1 (Option.some.inj h) H locs ls hP hS (lv_sub hl [0, 1, 2, 3] rfl)
      · have h := it_f hc h
        refine lv_iload_n X.1 X.2.1 dX12_echo_44 rfl (lv_at hl 3 rfl) ?_
        refine lv_iload X.1 X.2.1 dX12_echo_45 (lv_at hl 4 rfl) ?_
        refine lv_iadd X.1 X.2.1 dX12_echo_47 ?_
        refine lv_aload_n X.1 X.2.1 dX12_echo_48 rfl (lv_at hl 0 rfl) ?_
        refine r_get (C := RX12) (T := TX12) (N := 28) (ci := 12) (v := .ref (a0 2)) X iw12 hP 0 rfl rfl 1 rfl mw_7_121 rfl dX12_echo_49 ?_
        refine lv_iconst (v := 5) X.1 X.2.1 dX12_echo_52 (by decide) ?_
        refine r_iald X hP 1 0 rfl rfl (j := 5) (by unfold vp_in; decide) (by decide) dX12_echo_53 ?_
        refine lv_icmp_gt (tgt := 83) X.1 X.2.1 dX12_echo_54 (by decide) (fun hc => ?_) (fun hc => ?_)
        · have h := it_t hc h
          exact K x1 (Option.some.inj h) H locs ls hP hS (lv_sub hl [0, 1, 2, 3] rfl)
        · have h := it_f hc h
          refine lv_iload X.1 X.2.1 dX12_echo_57 (lv_at hl 4 rfl) ?_
          refine lv_iload_n X.1 X.2.1 dX12_echo_59 rfl (lv_at hl 1 rfl) ?_
          obtain ⟨J77, eJ77, h⟩ := jn_el h
          have HJ77 : ∀ (x1_J77 : Int32) (H : Heap) (locs : List Loc) (ls : Array Slot), J77 x1_J77 = some ex → va_P (dC, dI) vwCl (wM tc a0 g0) H → va_S A s.heap H locs → lv_has ls 5 [(0, .ref (a0 0)), (1, .int x1_J77), (2, .int x2), (3, .int x3), (4, .int x4)] → W pr l e rm_X12_echo s m args below meth c H locs 0 0 Q (F0 m 77 ls []) := by
            intro x1_J77 H locs ls h hP hS hl
            rw [eJ77] at h
            obtain ⟨x4_3, ex4_3, h⟩ := nm_el h
            refine lv_iinc (v := x4_3) (lv' := [(4, .int x4_3), (0, .ref (a0 0)), (1, .int x1_J77), (2, .int x2), (3, .int x3)]) X.1 X.2.1 dX12_echo_77 hl (k := 4) rfl (by rw [ex4_3]; rfl) (by decide) rfl (fun ls hl => ?_)
            refine lv_goto (tgt := 36) X.1 X.2.1 dX12_echo_80 (by decide) ?_
            exact ih x1_J77 x4_3 ex h H locs ls hP hS (lv_sub hl [1, 2, 3, 4, 0] rfl) K
          refine lv_icmp_le (tgt := 77) X.1 X.2.1 dX12_echo_60 (by decide) (fun hc => ?_) (fun hc => ?_)
          · have h := it_t hc h
            exact HJ77 x1 H locs ls h hP hS (lv_sub hl [0, 1, 2, 3, 4] rfl)
          · have h := it_f hc h
            refine lv_aload_n X.1 X.2.1 dX12_echo_63 rfl (lv_at hl 0 rfl) ?_
            refine lv_iload_n X.1 X.2.1 dX12_echo_64 rfl (lv_at hl 2 rfl) ?_
            refine lv_iload_n X.1 X.2.1 dX12_echo_65 rfl (lv_at hl 3 rfl) ?_
            refine lv_iload X.1 X.2.1 dX12_echo_66 (lv_at hl 4 rfl) ?_
            obtain ⟨r_4, hc_4, h⟩ := bd_el h
            refine call_V1i (As := [.int x2, .int x3, .int x4]) (rest := []) X (c_X12_isEcho l dC dI sk sv tc a0 g0 x2 x3 x4 hc_4) mw_9_202 mw_9_204 mp_6_2 mw_1_12 mw_9_205 dc_X12_isEcho ⟨Nat.le_of_ble_eq_true rfl, Nat.le_of_ble_eq_true rfl⟩ rfl rfl ⟨Nat.zero_le _, Nat.zero_le _⟩ hP (hD _) hS 0 rfl rfl rfl hl.1 (Nat.le_of_ble_eq_true rfl) dX12_echo_68 (fun H locs hP hS => ?_)
            refine lv_if_eq (tgt := 77) X.1 X.2.1 dX12_echo_71 (by decide) (fun hc => ?_) (fun hc => ?_)
            · have h := it_t hc h
              exact HJ77 x1 H locs ls h hP hS (lv_sub hl [0, 1, 2, 3, 4] rfl)
            · have h := it_f hc h
              refine lv_iload X.1 X.2.1 dX12_echo_74 (lv_at hl 4 rfl) ?_
              refine lv_istore_n (lv' := [(1, .int x4), (0, .ref (a0 0)), (2, .int x2), (3, .int x3), (4, .int x4)]) X.1 X.2.1 dX12_echo_76 rfl hl (by decide) rfl (fun ls hl => ?_)
              exact HJ77 x4 H locs ls h hP hS (lv_sub hl [1, 0, 2, 3, 4] rfl)
  have HL23 : ∀ (x2 : Int32) (g0 : Pic) (n : Nat) (x1 : Int32) (x3 : Int32) (ex : (Int32)), f_X12_echo_L23 x2 g0 n (x1, x3) = some ex → ∀ (H : Heap) (locs : List Loc) (ls : Array Slot), va_P (dC, dI) vwCl (wM tc a0 g0) H → va_S A s.heap H locs → lv_has ls 5 [(0, .ref (a0 0)), (1, .int x1), (2, .int x2), (3, .int x3)] → (∀ (y1 : Int32), y1 = ex → ∀ (H : Heap) (locs : List Loc) (ls : Array Slot), va_P (dC, dI) vwCl (wM tc a0 g0) H → va_S A s.heap H locs → lv_has ls 5 [(0, .ref (a0 0)), (1, .int y1), (2, .int x2)] → W pr l e rm_X12_echo s m args below meth c H locs 0 0 Q (F0 m 89 ls [])) → W pr l e rm_X12_echo s m args below meth c H locs 0 0 Q (F0 m 23 ls []) := by
    intro x2 g0 n
    induction n with
    | zero => intro x1 x3 ex h; exact lp_z h
    | succ n ih =>
      intro x1 x3 ex h H locs ls hP hS hl K
      have h := lp_s h
      refine lv_iload_n X.1 X.2.1 dX12_echo_23 rfl (lv_at hl 3 rfl) ?_
      refine lv_aload_n X.1 X.2.1 dX12_echo_24 rfl (lv_at hl 0 rfl) ?_
      refine r_get (C := RX12) (T := TX12) (N := 28) (ci := 12) (v := .ref (a0 2)) X iw12 hP 0 rfl rfl 1 rfl mw_7_121 rfl dX12_echo_25 ?_
      refine lv_iconst (v := 5) X.1 X.2.1 dX12_echo_28 (by decide) ?_
      refine r_iald X hP 1 0 rfl rfl (j := 5) (by unfold vp_in; decide) (by decide) dX12_echo_29 ?_
      refine lv_icmp_ge (tgt := 89) X.1 X.2.1 dX12_echo_30 (by decide) (fun hc => ?_) (fun hc => ?_)
      · have h := it_t hc h
        exact K x1 (Option.some.inj h) H locs ls hP hS (lv_sub hl [0, 1, 2] rfl)
      · have h := it_f hc h
        refine lv_iconst (v := 1) X.1 X.2.1 dX12_echo_33 (by decide) ?_
        refine lv_istore (lv' := [(4, .int 1), (0, .ref (a0 0)), (1, .int x1), (2, .int x2), (3, .int x3)]) X.1 X.2.1 dX12_echo_34 hl (by decide) rfl (fun ls hl => ?_)
        obtain ⟨ex_5, hL_5, h⟩ := bd_el h
        refine HL36 x2 x3 g0 fu x1 1 ex_5 hL_5 H locs ls hP hS (lv_sub hl [1, 2, 3, 4, 0] rfl) (fun x1_5 he H locs ls hP hS hl => ?_)
        subst he
        obtain ⟨x3_6, ex3_6, h⟩ := nm_el h
        refine lv_iinc (v := x3_6) (lv' := [(3, .int x3_6), (0, .ref (a0 0)), (1, .int x1_5), (2, .int x2)]) X.1 X.2.1 dX12_echo_83 hl (k := 3) rfl (by rw [ex3_6]; rfl) (by decide) rfl (fun ls hl => ?_)
        refine lv_goto (tgt := 23) X.1 X.2.1 dX12_echo_86 (by decide) ?_
        exact ih x1_5 x3_6 ex h H locs ls hP hS (lv_sub hl [1, 2, 3, 0] rfl) K
  have HL9 : ∀ (g0 : Pic) (n : Nat) (x1 : Int32) (x2 : Int32) (ex : (Int32)), f_X12_echo_L9 g0 n (x1, x2) = some ex → ∀ (H : Heap) (locs : List Loc) (ls : Array Slot), va_P (dC, dI) vwCl (wM tc a0 g0) H → va_S A s.heap H locs → lv_has ls 5 [(0, .ref (a0 0)), (1, .int x1), (2, .int x2)] → (∀ (y1 : Int32), y1 = ex → ∀ (H : Heap) (locs : List Loc) (ls : Array Slot), va_P (dC, dI) vwCl (wM tc a0 g0) H → va_S A s.heap H locs → lv_has ls 5 [(1, .int y1)] → W pr l e rm_X12_echo s m args below meth c H locs 0 0 Q (F0 m 95 ls [])) → W pr l e rm_X12_echo s m args below meth c H locs 0 0 Q (F0 m 9 ls []) := by
    intro g0 n
    induction n with
    | zero => intro x1 x2 ex h; exact lp_z h
    | succ n ih =>
      intro x1 x2 ex h H locs ls hP hS hl K
      have h := lp_s h
      refine lv_iload_n X.1 X.2.1 dX12_echo_9 rfl (lv_at hl 2 rfl) ?_
      refine lv_aload_n X.1 X.2.1 dX12_echo_10 rfl (lv_at hl 0 rfl) ?_
      refine r_get (C := RX12) (T := TX12) (N := 28) (ci := 12) (v := .ref (a0 2)) X iw12 hP 0 rfl rfl 1 rfl mw_7_121 rfl dX12_echo_11 ?_
      refine lv_iconst (v := 5) X.1 X.2.1 dX12_echo_14 (by decide) ?_
      refine r_iald X hP 1 0 rfl rfl (j := 5) (by unfold vp_in; decide) (by decide) dX12_echo_15 ?_
      refine lv_icmp_ge (tgt := 95) X.1 X.2.1 dX12_echo_16 (by decide) (fun hc => ?_) (fun hc => ?_)
      · have h := it_t hc h
        exact K x1 (Option.some.inj h) H locs ls hP hS (lv_sub hl [1] rfl)
      · have h := it_f hc h
        refine lv_iload_n X.1 X.2.1 dX12_echo_19 rfl (lv_at hl 2 rfl) ?_
        refine lv_iconst (v := 1) X.1 X.2.1 dX12_echo_20 (by decide) ?_
        refine lv_iadd X.1 X.2.1 dX12_echo_21 ?_
        obtain ⟨x3_2, ex3_2, h⟩ := nm_el h
        refine tp_i ex3_2 ?_
        refine lv_istore_n (lv' := [(3, .int x3_2), (0, .ref (a0 0)), (1, .int x1), (2, .int x2)]) X.1 X.2.1 dX12_echo_22 rfl hl (by decide) rfl (fun ls hl => ?_)
        obtain ⟨ex_7, hL_7, h⟩ := bd_el h
        refine HL23 x2 g0 fu x1 x3_2 ex_7 hL_7 H locs ls hP hS (lv_sub hl [1, 2, 3, 0] rfl) (fun x1_7 he H locs ls hP hS hl => ?_)
        subst he
        obtain ⟨x2_8, ex2_8, h⟩ := nm_el h
        refine lv_iinc (v := x2_8) (lv' := [(2, .int x2_8), (0, .ref (a0 0)), (1, .int x1_7)]) X.1 X.2.1 dX12_echo_89 hl (k := 2) rfl (by rw [ex2_8]; rfl) (by decide) rfl (fun ls hl => ?_)
        refine lv_goto (tgt := 9) X.1 X.2.1 dX12_echo_92 (by decide) ?_
        exact ih x1_7 x2_8 ex h H locs ls hP hS (lv_sub hl [1, 2, 0] rfl) K
  unfold f_X12_echo at h
  refine lv_aload_n X.1 X.2.1 dX12_echo_0 rfl (lv_at hl 0 rfl) ?_
  refine lv_iconst (v := 0) X.1 X.2.1 dX12_echo_1 (by decide) ?_
  obtain ⟨g0_1, eg0_1, h⟩ := nm_el h
  refine r_put (C := RX12) (T := TX12) (N := 28) (ci := 12) tyX12 tyX12_ok nmX12 X iw12 hP (hD _) hS 0 rfl rfl 0 rfl mw_7_120 rfl rfl rfl rfl dX12_echo_2 (wM tc a0 g0_1) (by rw [eg0_1]; rfl) (fun H locs hP hS => ?_)
  refine lv_iconst (v := 0) X.1 X.2.1 dX12_echo_5 (by decide) ?_
  refine lv_istore_n (lv' := [(1, .int 0), (0, .ref (a0 0))]) X.1 X.2.1 dX12_echo_6 rfl hl (by decide) rfl (fun ls hl => ?_)
  refine lv_iconst (v := 0) X.1 X.2.1 dX12_echo_7 (by decide) ?_
  refine lv_istore_n (lv' := [(2, .int 0), (1, .int 0), (0, .ref (a0 0))]) X.1 X.2.1 dX12_echo_8 rfl hl (by decide) rfl (fun ls hl => ?_)
  obtain ⟨ex_9, hL_9, h⟩ := bd_el h
  refine HL9 g0_1 fu 0 0 ex_9 hL_9 H locs ls hP hS (lv_sub hl [2, 1, 0] rfl) (fun x1_9 he H locs ls hP hS hl => ?_)
  subst he
  refine lv_iload_n X.1 X.2.1 dX12_echo_95 rfl (lv_at hl 0 rfl) ?_
  exact ret_i (fun u => (wM tc a0 u)) (res := (r0, G0)) (Option.some.inj h) X hQ hP hS dX12_echo_96

def f_X12_pages_L42 (x1 : Int32) (x2 : Int32) (n : Nat) (a : Int32 × Pic) : Option (Pic) := lp (fun (rec : Int32 × Pic → Option (Pic)) (a : Int32 × Pic) => match a with | (x3, g0) => (if 5 ≤ x3 then some g0 else gdi x3 5 (nm (pu g0 24 (x3.toNatClampNeg) 0) (fun g0_4 => nm (x3 + 1) (fun x3_5 => rec (x3_5, g0_4)))))) n a
def f_X12_pages_L73 (x1 : Int32) (x2 : Int32) (x3 : Int32) (g0 : Pic) (n : Nat) (a : Int32 × Int32) : Option (Int32) := lp (fun (rec : Int32 × Int32 → Option (Int32)) (a : Int32 × Int32) => match a with | (x4, x5) => (if (g0 1 4) ≤ x5 then some x4 else bd (f_X12_of g0 x5 1) (fun r_7 => gdi x5 5 (gdz ((g0 24 (x5.toNatClampNeg)) + 1) (bd (f_X12_of g0 x4 1) (fun r_10 => gdi x4 5 (gdz ((g0 24 (x4.toNatClampNeg)) + 1) (jn (fun (x4_J125 : Int32) => nm (x5 + 1) (fun x5_13 => rec (x4_J125, x5_13))) (fun J125 => (if (r_7 / ((g0 24 (x5.toNatClampNeg)) + 1)) ≤ (r_10 / ((g0 24 (x4.toNatClampNeg)) + 1)) then J125 x4 else J125 x5)))))))))) n a
def f_X12_pages_L62 (x1 : Int32) (x2 : Int32) (n : Nat) (a : Int32 × Pic) : Option (Pic) := lp (fun (rec : Int32 × Pic → Option (Pic)) (a : Int32 × Pic) => match a with | (x3, g0) => (if x2 ≤ x3 then some g0 else bd (f_X12_pages_L73 x1 x2 x3 g0 fu (0, 1)) (fun x4_14 => gdi x4_14 5 (gdi x4_14 5 (nm (pu g0 24 (x4_14.toNatClampNeg) ((g0 24 (x4_14.toNatClampNeg)) + 1)) (fun g0_17 => nm (x3 + 1) (fun x3_18 => rec (x3_18, g0_17)))))))) n a
def f_X12_pages (g0 : Pic) (x1 : Int32) (x2 : Int32) : Option (Int32 × Pic) := bd (f_X12_isWriter g0 x1) (fun r_1 => jn (fun (s1_J28 : Int32) => nm (pu g0 0 0 s1_J28) (fun g0_2 => (if (g0_2 0 0) ≤ 0 then bd (f_X12_pages_L42 x1 x2 fu (0, g0_2)) (fun g0_6 => bd (f_X12_pages_L62 x1 x2 fu (0, g0_6)) (fun g0_19 => gdi x1 5 (some ((g0_19 24 (x1.toNatClampNeg)), g0_19)))) else some (0, g0_2)))) (fun J28 => (if r_1 = 0 then J28 1 else bd (f_X12_isIn x2 0 99) (fun r_21 => (if r_21 = 0 then J28 2 else J28 0)))))
abbrev rm_X12_pages : Room := { frames := 2, cells := 0, slots := 0, locals := 43 }
set_option maxHeartbeats 4000000 in
set_option maxRecDepth 100000 in
theorem c_X12_pages (l : Launch) (dC : Nat → ClassId) (dI : Nat → Nat → Nat) (sk sv : Nat → Nat) (tc : Nat → ClassId) (a0 : Nat → Nat) (g0 : Pic) (x1 : Int32) (x2 : Int32) {r0 : Int32} {G0 : Pic} (h : f_X12_pages g0 x1 x2 = some (r0, G0)) : CT l (dC, dI) sk sv (TY tc) yX12_pages cX12_pages 6 (some .int) rm_X12_pages [.ref (a0 0), .int x1, .int x2] (wM tc a0 g0) (some (.int r0)) (wM tc a0 G0) := by
  refine ofCT (by decide) (Nat.le_of_ble_eq_true rfl) ?_
  intro pr e s m args below meth c A Q ls H locs X hQ hD0 hP hS hl
  have hD : ∀ z0, va_D A (wM tc a0 z0) := fun z0 => D_fst (ws := (wM tc a0 g0)) rfl hD0
  have hl : lv_has ls 6 [(0, .ref (a0 0)), (1, .int x1), (2, .int x2)] := hl
  have HL42 : ∀ (x1 : Int32) (x2 : Int32) (n : Nat) (x3 : Int32) (g0 : Pic) (ex : (Pic)), f_X12_pages_L42 x1 x2 n (x3, g0) = some ex → ∀ (H : Heap) (locs : List Loc) (ls : Array Slot), va_P (dC, dI) vwCl (wM tc a0 g0) H → va_S A s.heap H locs → lv_has ls 6 [(0, .ref (a0 0)), (1, .int x1), (2, .int x2), (3, .int x3)] → (∀ (k0 : Pic), k0 = ex → ∀ (H : Heap) (locs : List Loc) (ls : Array Slot), va_P (dC, dI) vwCl (wM tc a0 k0) H → va_S A s.heap H locs → lv_has ls 6 [(0, .ref (a0 0)), (1, .int x1), (2, .int x2)] → W pr l e rm_X12_pages s m args below meth c H locs 0 0 Q (F0 m 60 ls [])) → W pr l e rm_X12_pages s m args below meth c H locs 0 0 Q (F0 m 42 ls []) := by
    intro x1 x2 n
    induction n with
    | zero => intro x3 g0 ex h; exact lp_z h
    | succ n ih =>
      intro x3 g0 ex h H locs ls hP hS hl K
      have h := lp_s h
      refine lv_iload_n X.1 X.2.1 dX12_pages_42 rfl (lv_at hl 3 rfl) ?_
      refine lv_iconst (v := 5) X.1 X.2.1 dX12_pages_43 (by decide) ?_
      refine lv_icmp_ge (tgt := 60) X.1 X.2.1 dX12_pages_44 (by decide) (fun hc => ?_) (fun hc => ?_)
      · have h := it_t hc h
        exact K g0 (Option.some.inj h) H locs ls hP hS (lv_sub hl [0, 1, 2] rfl)
      · have h := it_f hc h
        refine lv_aload_n X.1 X.2.1 dX12_pages_47 rfl (lv_at hl 0 rfl) ?_
        refine r_get (C := RX12) (T := TX12) (N := 28) (ci := 12) (v := .ref (a0 25)) X iw12 hP 0 rfl rfl 24 rfl mw_7_144 rfl dX12_pages_48 ?_
        refine lv_iload_n X.1 X.2.1 dX12_pages_51 rfl (lv_at hl 3 rfl) ?_
        refine lv_iconst (v := 0) X.1 X.2.1 dX12_pages_52 (by decide) ?_
        obtain ⟨hg_3, h⟩ := gdi_el h
        obtain ⟨g0_4, eg0_4, h⟩ := nm_el h
        refine r_iast X hP (hD _) hS 11 0 rfl rfl hg_3 rfl dX12_pages_53 (wM tc a0 g0_4) (by rw [eg0_4]; rfl) (fun H locs hP hS => ?_)
        obtain ⟨x3_5, ex3_5, h⟩ := nm_el h
        refine lv_iinc (v := x3_5) (lv' := [(3, .int x3_5), (0, .ref (a0 0)), (1, .int x1), (2, .int x2)]) X.1 X.2.1 dX12_pages_54 hl (k := 3) rfl (by rw [ex3_5]; rfl) (by decide) rfl (fun ls hl => ?_)
        refine lv_goto (tgt := 42) X.1 X.2.1 dX12_pages_57 (by decide) ?_
        exact ih x3_5 g0_4 ex h H locs ls hP hS (lv_sub hl [1, 2, 3, 0] rfl) K
  have HL73 : ∀ (x1 : Int32) (x2 : Int32) (x3 : Int32) (g0 : Pic) (n : Nat) (x4 : Int32) (x5 : Int32) (ex : (Int32)), f_X12_pages_L73 x1 x2 x3 g0 n (x4, x5) = some ex → ∀ (H : Heap) (locs : List Loc) (ls : Array Slot), va_P (dC, dI) vwCl (wM tc a0 g0) H → va_S A s.heap H locs → lv_has ls 6 [(0, .ref (a0 0)), (1, .int x1), (2, .int x2), (3, .int x3), (4, .int x4), (5, .int x5)] → (∀ (y4 : Int32), y4 = ex → ∀ (H : Heap) (locs : List Loc) (ls : Array Slot), va_P (dC, dI) vwCl (wM tc a0 g0) H → va_S A s.heap H locs → lv_has ls 6 [(0, .ref (a0 0)), (1, .int x1), (2, .int x2), (3, .int x3), (4, .int y4)] → W pr l e rm_X12_pages s m args below meth c H locs 0 0 Q (F0 m 131 ls [])) → W pr l e rm_X12_pages s m args below meth c H locs 0 0 Q (F0 m 73 ls []) := by
    intro x1 x2 x3 g0 n
    induction n with
    | zero => intro x4 x5 ex h; exact lp_z h
    | succ n ih =>
      intro x4 x5 ex h H locs ls hP hS hl K
      have h := lp_s h
      refine lv_iload X.1 X.2.1 dX12_pages_73 (lv_at hl 5 rfl) ?_
      refine lv_aload_n X.1 X.2.1 dX12_pages_75 rfl (lv_at hl 0 rfl) ?_
      refine r_get (C := RX12) (T := TX12) (N := 28) (ci := 12) (v := .ref (a0 2)) X iw12 hP 0 rfl rfl 1 rfl mw_7_121 rfl dX12_pages_76 ?_
      refine lv_iconst (v := 4) X.1 X.2.1 dX12_pages_79 (by decide) ?_
      refine r_iald X hP 1 0 rfl rfl (j := 4) (by unfold vp_in; decide) (by decide) dX12_pages_80 ?_
      refine lv_icmp_ge (tgt := 131) X.1 X.2.1 dX12_pages_81 (by decide) (fun hc => ?_) (fun hc => ?_)
      · have h := it_t hc h
        exact K x4 (Option.some.inj h) H locs ls hP hS (lv_sub hl [0, 1, 2, 3, 4] rfl)
      · have h := it_f hc h
        refine lv_aload_n X.1 X.2.1 dX12_pages_84 rfl (lv_at hl 0 rfl) ?_
        refine lv_iload X.1 X.2.1 dX12_pages_85 (lv_at hl 5 rfl) ?_
        refine lv_iconst (v := 1) X.1 X.2.1 dX12_pages_87 (by decide) ?_
        obtain ⟨r_7, hc_7, h⟩ := bd_el h
        refine call_V1i (As := [.int x5, .int 1]) (rest := []) X (c_X12_of l dC dI sk sv tc a0 g0 x5 1 hc_7) mw_8_180 mw_8_182 mp_4_1 mw_1_12 mw_8_183 dc_X12_of ⟨Nat.le_of_ble_eq_true rfl, Nat.le_of_ble_eq_true rfl⟩ rfl rfl ⟨Nat.zero_le _, Nat.zero_le _⟩ hP (hD _) hS 0 rfl rfl rfl hl.1 (Nat.le_of_ble_eq_true rfl) dX12_pages_88 (fun H locs hP hS => ?_)
        refine lv_aload_n X.1 X.2.1 dX12_pages_91 rfl (lv_at hl 0 rfl) ?_
        refine r_get (C := RX12) (T := TX12) (N := 28) (ci := 12) (v := .ref (a0 25)) X iw12 hP 0 rfl rfl 24 rfl mw_7_144 rfl dX12_pages_92 ?_
        refine lv_iload X.1 X.2.1 dX12_pages_95 (lv_at hl 5 rfl) ?_
        obtain ⟨hg_8, h⟩ := gdi_el h
        refine r_iald X hP 11 0 rfl rfl hg_8 rfl dX12_pages_97 ?_
        refine lv_iconst (v := 1) X.1 X.2.1 dX12_pages_98 (by decide) ?_
        refine lv_iadd X.1 X.2.1 dX12_pages_99 ?_
        obtain ⟨hg_9, h⟩ := gdz_el h
        refine lv_idiv X.1 X.2.1 dX12_pages_100 hg_9 ?_
        refine lv_aload_n X.1 X.2.1 dX12_pages_101 rfl (lv_at hl 0 rfl) ?_
        refine lv_iload X.1 X.2.1 dX12_pages_102 (lv_at hl 4 rfl) ?_
        refine lv_iconst (v := 1) X.1 X.2.1 dX12_pages_104 (by decide) ?_
        obtain ⟨r_10, hc_10, h⟩ := bd_el h
        refine call_V1i (As := [.int x4, .int 1]) (rest := [.int (r_7 / ((g0 24 (x5.toNatClampNeg)) + 1))]) X (c_X12_of l dC dI sk sv tc a0 g0 x4 1 hc_10) mw_8_180 mw_8_182 mp_4_1 mw_1_12 mw_8_183 dc_X12_of ⟨Nat.le_of_ble_eq_true rfl, Nat.le_of_ble_eq_true rfl⟩ rfl rfl ⟨Nat.zero_le _, Nat.zero_le _⟩ hP (hD _) hS 0 rfl rfl rfl hl.1 (Nat.le_of_ble_eq_true rfl) dX12_pages_105 (fun H locs hP hS => ?_)
        refine lv_aload_n X.1 X.2.1 dX12_pages_108 rfl (lv_at hl 0 rfl) ?_
        refine r_get (C := RX12) (T := TX12) (N := 28) (ci := 12) (v := .ref (a0 25)) X iw12 hP 0 rfl rfl 24 rfl mw_7_144 rfl dX12_pages_109 ?_
        refine lv_iload X.1 X.2.1 dX12_pages_112 (lv_at hl 4 rfl) ?_
        obtain ⟨hg_11, h⟩ := gdi_el h
        refine r_iald X hP 11 0 rfl rfl hg_11 rfl dX12_pages_114 ?_
        refine lv_iconst (v := 1) X.1 X.2.1 dX12_pages_115 (by decide) ?_
        refine lv_iadd X.1 X.2.1 dX12_pages_116 ?_
        obtain ⟨hg_12, h⟩ := gdz_el h
        refine lv_idiv X.1 X.2.1 dX12_pages_117 hg_12 ?_
        obtain ⟨J125, eJ125, h⟩ := jn_el h
        have HJ125 : ∀ (x4_J125 : Int32) (H : Heap) (locs : List Loc) (ls : Array Slot), J125 x4_J125 = some ex → va_P (dC, dI) vwCl (wM tc a0 g0) H → va_S A s.heap H locs → lv_has ls 6 [(0, .ref (a0 0)), (1, .int x1), (2, .int x2), (3, .int x3), (4, .int x4_J125), (5, .int x5)] → W pr l e rm_X12_pages s m args below meth c H locs 0 0 Q (F0 m 125 ls []) := by
          intro x4_J125 H locs ls h hP hS hl
          rw [eJ125] at h
          obtain ⟨x5_13, ex5_13, h⟩ := nm_el h
          refine lv_iinc (v := x5_13) (lv' := [(5, .int x5_13), (0, .ref (a0 0)), (1, .int x1), (2, .int x2), (3, .int x3), (4, .int x4_J125)]) X.1 X.2.1 dX12_pages_125 hl (k := 5) rfl (by rw [ex5_13]; rfl) (by decide) rfl (fun ls hl => ?_)
          refine lv_goto (tgt := 73) X.1 X.2.1 dX12_pages_128 (by decide) ?_
          exact ih x4_J125 x5_13 ex h H locs ls hP hS (lv_sub hl [1, 2, 3, 4, 5, 0] rfl) K
        refine lv_icmp_le (tgt := 125) X.1 X.2.1 dX12_pages_118 (by decide) (fun hc => ?_) (fun hc => ?_)
        · have h := it_t hc h
          exact HJ125 x4 H locs ls h hP hS (lv_sub hl [0, 1, 2, 3, 4, 5] rfl)
        · have h := it_f hc h
          refine lv_iload X.1 X.2.1 dX12_pages_121 (lv_at hl 5 rfl) ?_
          refine lv_istore (lv' := [(4, .int x5), (0, .ref (a0 0)), (1, .int x1), (2, .int x2), (3, .int x3), (5, .int x5)]) X.1 X.2.1 dX12_pages_123 hl (by decide) rfl (fun ls hl => ?_)
          exact HJ125 x5 H locs ls h hP hS (lv_sub hl [1, 2, 3, 4, 0, 5] rfl)
  have HL62 : ∀ (x1 : Int32) (x2 : Int32) (n : Nat) (x3 : Int32) (g0 : Pic) (ex : (Pic)), f_X12_pages_L62 x1 x2 n (x3, g0) = some ex → ∀ (H : Heap) (locs : List Loc) (ls : Array Slot), va_P (dC, dI) vwCl (wM tc a0 g0) H → va_S A s.heap H locs → lv_has ls 6 [(0, .ref (a0 0)), (1, .int x1), (2, .int x2), (3, .int x3)] → (∀ (k0 : Pic), k0 = ex → ∀ (H : Heap) (locs : List Loc) (ls : Array Slot), va_P (dC, dI) vwCl (wM tc a0 k0) H → va_S A s.heap H locs → lv_has ls 6 [(0, .ref (a0 0)), (1, .int x1)] → W pr l e rm_X12_pages s m args below meth c H locs 0 0 Q (F0 m 148 ls [])) → W pr l e rm_X12_pages s m args below meth c H locs 0 0 Q (F0 m 62 ls []) := by
    intro x1 x2 n
    induction n with
    | zero => intro x3 g0 ex h; exact lp_z h
    | succ n ih =>
      intro x3 g0 ex h H locs ls hP hS hl K
      have h := lp_s h
      refine lv_iload_n X.1 X.2.1 dX12_pages_62 rfl (lv_at hl 3 rfl) ?_
      refine lv_iload_n X.1 X.2.1 dX12_pages_63 rfl (lv_at hl 2 rfl) ?_
      refine lv_icmp_ge (tgt := 148) X.1 X.2.1 dX12_pages_64 (by decide) (fun hc => ?_) (fun hc => ?_)
      · have h := it_t hc h
        exact K g0 (Option.some.inj h) H locs ls hP hS (lv_sub hl [0, 1] rfl)
      · have h := it_f hc h
        refine lv_iconst (v := 0) X.1 X.2.1 dX12_pages_67 (by decide) ?_
        refine lv_istore (lv' := [(4, .int 0), (0, .ref (a0 0)), (1, .int x1), (2, .int x2), (3, .int x3)]) X.1 X.2.1 dX12_pages_68 hl (by decide) rfl (fun ls hl => ?_)
        refine lv_iconst (v := 1) X.1 X.2.1 dX12_pages_70 (by decide) ?_
        refine lv_istore (lv' := [(5, .int 1), (4, .int 0), (0, .ref (a0 0)), (1, .int x1), (2, .int x2), (3, .int x3)]) X.1 X.2.1 dX12_pages_71 hl (by decide) rfl (fun ls hl => ?_)
        obtain ⟨ex_14, hL_14, h⟩ := bd_el h
        refine HL73 x1 x2 x3 g0 fu 0 1 ex_14 hL_14 H locs ls hP hS (lv_sub hl [2, 3, 4, 5, 1, 0] rfl) (fun x4_14 he H locs ls hP hS hl => ?_)
        subst he
        refine lv_aload_n X.1 X.2.1 dX12_pages_131 rfl (lv_at hl 0 rfl) ?_
        refine r_get (C := RX12) (T := TX12) (N := 28) (ci := 12) (v := .ref (a0 25)) X iw12 hP 0 rfl rfl 24 rfl mw_7_144 rfl dX12_pages_132 ?_
        refine lv_iload X.1 X.2.1 dX12_pages_135 (lv_at hl 4 rfl) ?_
        refine lv_dup2_11 X.1 X.2.1 dX12_pages_137 rfl rfl ?_
        obtain ⟨hg_15, h⟩ := gdi_el h
        refine r_iald X hP 11 0 rfl rfl hg_15 rfl dX12_pages_138 ?_
        refine lv_iconst (v := 1) X.1 X.2.1 dX12_pages_139 (by decide) ?_
        refine lv_iadd X.1 X.2.1 dX12_pages_140 ?_
        obtain ⟨hg_16, h⟩ := gdi_el h
        obtain ⟨g0_17, eg0_17, h⟩ := nm_el h
        refine r_iast X hP (hD _) hS 11 0 rfl rfl hg_16 rfl dX12_pages_141 (wM tc a0 g0_17) (by rw [eg0_17]; rfl) (fun H locs hP hS => ?_)
        obtain ⟨x3_18, ex3_18, h⟩ := nm_el h
        refine lv_iinc (v := x3_18) (lv' := [(3, .int x3_18), (0, .ref (a0 0)), (1, .int x1), (2, .int x2), (4, .int x4_14)]) X.1 X.2.1 dX12_pages_142 hl (k := 3) rfl (by rw [ex3_18]; rfl) (by decide) rfl (fun ls hl => ?_)
        refine lv_goto (tgt := 62) X.1 X.2.1 dX12_pages_145 (by decide) ?_
        exact ih x3_18 g0_17 ex h H locs ls hP hS (lv_sub hl [1, 2, 3, 0] rfl) K
  unfold f_X12_pages at h
  refine lv_aload_n X.1 X.2.1 dX12_pages_0 rfl (lv_at hl 0 rfl) ?_
  refine lv_aload_n X.1 X.2.1 dX12_pages_1 rfl (lv_at hl 0 rfl) ?_
  refine lv_iload_n X.1 X.2.1 dX12_pages_2 rfl (lv_at hl 1 rfl) ?_
  obtain ⟨r_1, hc_1, h⟩ := bd_el h
  refine call_V1i (As := [.int x1]) (rest := [.ref (a0 0)]) X (c_X12_isWriter l dC dI sk sv tc a0 g0 x1 hc_1) mw_8_176 mw_8_178 mp_4_0 mw_1_12 mw_8_179 dc_X12_isWriter ⟨Nat.le_of_ble_eq_true rfl, Nat.le_of_ble_eq_true rfl⟩ rfl rfl ⟨Nat.zero_le _, Nat.zero_le _⟩ hP (hD _) hS 0 rfl rfl rfl hl.1 (Nat.le_of_ble_eq_true rfl) dX12_pages_3 (fun H locs hP hS => ?_)
  obtain ⟨J28, eJ28, h⟩ := jn_el h
  have HJ28 : ∀ (s1_J28 : Int32) (H : Heap) (locs : List Loc) (ls : Array Slot), J28 s1_J28 = some (r0, G0) → va_P (dC, dI) vwCl (wM tc a0 g0) H → va_S A s.heap H locs → lv_has ls 6 [(0, .ref (a0 0)), (1, .int x1), (2, .int x2)] → W pr l e rm_X12_pages s m args below meth c H locs 0 0 Q (F0 m 28 ls [.int s1_J28, .ref (a0 0)]) := by
    intro s1_J28 H locs ls h hP hS hl
    rw [eJ28] at h
    obtain ⟨g0_2, eg0_2, h⟩ := nm_el h
    refine r_put (C := RX12) (T := TX12) (N := 28) (ci := 12) tyX12 tyX12_ok nmX12 X iw12 hP (hD _) hS 0 rfl rfl 0 rfl mw_7_120 rfl rfl rfl rfl dX12_pages_28 (wM tc a0 g0_2) (by rw [eg0_2]; rfl) (fun H locs hP hS => ?_)
    refine lv_aload_n X.1 X.2.1 dX12_pages_31 rfl (lv_at hl 0 rfl) ?_
    refine r_get (C := RX12) (T := TX12) (N := 28) (ci := 12) (v := .int (g0_2 0 0)) X iw12 hP 0 rfl rfl 0 rfl mw_7_120 rfl dX12_pages_32 ?_
    refine lv_if_le (tgt := 40) X.1 X.2.1 dX12_pages_35 (by decide) (fun hc => ?_) (fun hc => ?_)
    · have h := it_t hc h
      refine lv_iconst (v := 0) X.1 X.2.1 dX12_pages_40 (by decide) ?_
      refine lv_istore_n (lv' := [(3, .int 0), (0, .ref (a0 0)), (1, .int x1), (2, .int x2)]) X.1 X.2.1 dX12_pages_41 rfl hl (by decide) rfl (fun ls hl => ?_)
      obtain ⟨ex_6, hL_6, h⟩ := bd_el h
      refine HL42 x1 x2 fu 0 g0_2 ex_6 hL_6 H locs ls hP hS (lv_sub hl [1, 2, 3, 0] rfl) (fun g0_6 he H locs ls hP hS hl => ?_)
      subst he
      refine lv_iconst (v := 0) X.1 X.2.1 dX12_pages_60 (by decide) ?_
      refine lv_istore_n (lv' := [(3, .int 0), (0, .ref (a0 0)), (1, .int x1), (2, .int x2)]) X.1 X.2.1 dX12_pages_61 rfl hl (by decide) rfl (fun ls hl => ?_)
      obtain ⟨ex_19, hL_19, h⟩ := bd_el h
      refine HL62 x1 x2 fu 0 g0_6 ex_19 hL_19 H locs ls hP hS (lv_sub hl [1, 2, 3, 0] rfl) (fun g0_19 he H locs ls hP hS hl => ?_)
      subst he
      refine lv_aload_n X.1 X.2.1 dX12_pages_148 rfl (lv_at hl 0 rfl) ?_
      refine r_get (C := RX12) (T := TX12) (N := 28) (ci := 12) (v := .ref (a0 25)) X iw12 hP 0 rfl rfl 24 rfl mw_7_144 rfl dX12_pages_149 ?_
      refine lv_iload_n X.1 X.2.1 dX12_pages_152 rfl (lv_at hl 1 rfl) ?_
      obtain ⟨hg_20, h⟩ := gdi_el h
      refine r_iald X hP 11 0 rfl rfl hg_20 rfl dX12_pages_153 ?_
      exact ret_i (fun u => (wM tc a0 u)) (res := (r0, G0)) (Option.some.inj h) X hQ hP hS dX12_pages_154
    · have h := it_f hc h
      refine lv_iconst (v := 0) X.1 X.2.1 dX12_pages_38 (by decide) ?_
      exact ret_i (fun u => (wM tc a0 u)) (res := (r0, G0)) (Option.some.inj h) X hQ hP hS dX12_pages_39
  refine lv_if_ne (tgt := 13) X.1 X.2.1 dX12_pages_6 (by decide) (fun hc => ?_) (fun hc => ?_)
  · have h := it_f hc h
    refine lv_iload_n X.1 X.2.1 dX12_pages_13 rfl (lv_at hl 2 rfl) ?_
    refine lv_iconst (v := 0) X.1 X.2.1 dX12_pages_14 (by decide) ?_
    refine lv_bipush (v := 99) X.1 X.2.1 dX12_pages_15 (by decide) ?_
    obtain ⟨r_21, hc_21, h⟩ := bd_el h
    refine call_S0i (As := [.int x2, .int 0, .int 99]) (rest := [.ref (a0 0)]) X (c_X12_isIn l dC dI sk sv tc x2 0 99 hc_21) mw_7_218 mw_7_219 mw_1_12 mw_7_220 dc_X12_isIn ⟨Nat.le_of_ble_eq_true rfl, Nat.le_of_ble_eq_true rfl⟩ rfl rfl ⟨Nat.zero_le _, Nat.zero_le _⟩ hP (hD _) hS hl.1 (Nat.le_of_ble_eq_true rfl) dX12_pages_17 (fun H locs hP hS => ?_)
    refine lv_if_ne (tgt := 27) X.1 X.2.1 dX12_pages_20 (by decide) (fun hc => ?_) (fun hc => ?_)
    · have h := it_f hc h
      refine lv_iconst (v := 0) X.1 X.2.1 dX12_pages_27 (by decide) ?_
      exact HJ28 0 H locs ls h hP hS (lv_sub hl [0, 1, 2] rfl)
    · have h := it_t hc h
      refine lv_iconst (v := 2) X.1 X.2.1 dX12_pages_23 (by decide) ?_
      refine lv_goto (tgt := 28) X.1 X.2.1 dX12_pages_24 (by decide) ?_
      exact HJ28 2 H locs ls h hP hS (lv_sub hl [0, 1, 2] rfl)
  · have h := it_t hc h
    refine lv_iconst (v := 1) X.1 X.2.1 dX12_pages_9 (by decide) ?_
    refine lv_goto (tgt := 28) X.1 X.2.1 dX12_pages_10 (by decide) ?_
    exact HJ28 1 H locs ls h hP hS (lv_sub hl [0, 1, 2] rfl)

def f_X12_lowest_L2 (x0 : Int32) (n : Nat) (a : Int32) : Option (Int32) := lp (fun (rec : Int32 → Option (Int32)) (a : Int32) => (fun (x1 : Int32) => bd (f_X12_isOf x0 x1) (fun r_1 => (if r_1 = 0 then nm (x1 + 1) (fun x1_2 => rec x1_2) else some x1))) a) n a
def f_X12_lowest (x0 : Int32) : Option (Int32) := bd (f_X12_lowest_L2 x0 fu 0) (fun x1_3 => some x1_3)
abbrev rm_X12_lowest : Room := { frames := 1, cells := 0, slots := 0, locals := 21 }
set_option maxHeartbeats 4000000 in
set_option maxRecDepth 100000 in
theorem c_X12_lowest (l : Launch) (dC : Nat → ClassId) (dI : Nat → Nat → Nat) (sk sv : Nat → Nat) (tc : Nat → ClassId) (x0 : Int32) {r0 : Int32} (h : f_X12_lowest x0 = some r0) : CT l (dC, dI) sk sv (TY tc) yX12_lowest cX12_lowest 2 (some .int) rm_X12_lowest [.int x0] [] (some (.int r0)) [] := by
  refine ofCT (by decide) (Nat.le_of_ble_eq_true rfl) ?_
  intro pr e s m args below meth c A Q ls H locs X hQ hD0 hP hS hl
  have hD : va_D A [] := hD0
  have hl : lv_has ls 2 [(0, .int x0)] := hl
  have HL2 : ∀ (x0 : Int32) (n : Nat) (x1 : Int32) (ex : (Int32)), f_X12_lowest_L2 x0 n x1 = some ex → ∀ (H : Heap) (locs : List Loc) (ls : Array Slot), va_P (dC, dI) vwCl [] H → va_S A s.heap H locs → lv_has ls 2 [(0, .int x0), (1, .int x1)] → (∀ (y1 : Int32), y1 = ex → ∀ (H : Heap) (locs : List Loc) (ls : Array Slot), va_P (dC, dI) vwCl [] H → va_S A s.heap H locs → lv_has ls 2 [(1, .int y1)] → W pr l e rm_X12_lowest s m args below meth c H locs 0 0 Q (F0 m 16 ls [])) → W pr l e rm_X12_lowest s m args below meth c H locs 0 0 Q (F0 m 2 ls []) := by
    intro x0 n
    induction n with
    | zero => intro x1 ex h; exact lp_z h
    | succ n ih =>
      intro x1 ex h H locs ls hP hS hl K
      have h := lp_s h
      refine lv_iload_n X.1 X.2.1 dX12_lowest_2 rfl (lv_at hl 0 rfl) ?_
      refine lv_iload_n X.1 X.2.1 dX12_lowest_3 rfl (lv_at hl 1 rfl) ?_
      obtain ⟨r_1, hc_1, h⟩ := bd_el h
      refine call_S0i (As := [.int x0, .int x1]) (rest := []) X (c_X12_isOf l dC dI sk sv tc x0 x1 hc_1) mw_8_192 mw_8_193 mw_1_12 mw_8_194 dc_X12_isOf ⟨Nat.le_of_ble_eq_true rfl, Nat.le_of_ble_eq_true rfl⟩ rfl rfl ⟨Nat.zero_le _, Nat.zero_le _⟩ hP (hD) hS hl.1 (Nat.le_of_ble_eq_true rfl) dX12_lowest_4 (fun H locs hP hS => ?_)
      refine lv_if_ne (tgt := 16) X.1 X.2.1 dX12_lowest_7 (by decide) (fun hc => ?_) (fun hc => ?_)
      · have h := it_f hc h
        exact K x1 (Option.some.inj h) H locs ls hP hS (lv_sub hl [1] rfl)
      · have h := it_t hc h
        obtain ⟨x1_2, ex1_2, h⟩ := nm_el h
        refine lv_iinc (v := x1_2) (lv' := [(1, .int x1_2), (0, .int x0)]) X.1 X.2.1 dX12_lowest_10 hl (k := 1) rfl (by rw [ex1_2]; rfl) (by decide) rfl (fun ls hl => ?_)
        refine lv_goto (tgt := 2) X.1 X.2.1 dX12_lowest_13 (by decide) ?_
        exact ih x1_2 ex h H locs ls hP hS (lv_sub hl [1, 0] rfl) K
  unfold f_X12_lowest at h
  refine lv_iconst (v := 0) X.1 X.2.1 dX12_lowest_0 (by decide) ?_
  refine lv_istore_n (lv' := [(1, .int 0), (0, .int x0)]) X.1 X.2.1 dX12_lowest_1 rfl hl (by decide) rfl (fun ls hl => ?_)
  obtain ⟨ex_3, hL_3, h⟩ := bd_el h
  refine HL2 x0 fu 0 ex_3 hL_3 H locs ls hP hS (lv_sub hl [1, 0] rfl) (fun x1_3 he H locs ls hP hS hl => ?_)
  subst he
  refine lv_iload_n X.1 X.2.1 dX12_lowest_16 rfl (lv_at hl 0 rfl) ?_
  exact ret_i0 (Option.some.inj h) X hQ hP hS dX12_lowest_17

def f_X12_apart (g0 : Pic) (x1 : Int32) (x2 : Int32) : Option (Int32) := bd (f_X12_of g0 x1 0) (fun r_1 => bd (f_X12_of g0 x2 0) (fun r_2 => bd (f_X12_bits (r_1 ^^^ r_2)) (fun r_3 => some r_3)))
abbrev rm_X12_apart : Room := { frames := 1, cells := 0, slots := 0, locals := 22 }
set_option maxHeartbeats 4000000 in
set_option maxRecDepth 100000 in
theorem c_X12_apart (l : Launch) (dC : Nat → ClassId) (dI : Nat → Nat → Nat) (sk sv : Nat → Nat) (tc : Nat → ClassId) (a0 : Nat → Nat) (g0 : Pic) (x1 : Int32) (x2 : Int32) {r0 : Int32} (h : f_X12_apart g0 x1 x2 = some r0) : CT l (dC, dI) sk sv (TY tc) yX12_apart cX12_apart 3 (some .int) rm_X12_apart [.ref (a0 0), .int x1, .int x2] (wM tc a0 g0) (some (.int r0)) (wM tc a0 g0) := by
  refine ofCT (by decide) (Nat.le_of_ble_eq_true rfl) ?_
  intro pr e s m args below meth c A Q ls H locs X hQ hD0 hP hS hl
  have hD : ∀ z0, va_D A (wM tc a0 z0) := fun z0 => D_fst (ws := (wM tc a0 g0)) rfl hD0
  have hl : lv_has ls 3 [(0, .ref (a0 0)), (1, .int x1), (2, .int x2)] := hl
  unfold f_X12_apart at h
  refine lv_aload_n X.1 X.2.1 dX12_apart_0 rfl (lv_at hl 0 rfl) ?_
  refine lv_iload_n X.1 X.2.1 dX12_apart_1 rfl (lv_at hl 1 rfl) ?_
  refine lv_iconst (v := 0) X.1 X.2.1 dX12_apart_2 (by decide) ?_
  obtain ⟨r_1, hc_1, h⟩ := bd_el h
  refine call_V1i (As := [.int x1, .int 0]) (rest := []) X (c_X12_of l dC dI sk sv tc a0 g0 x1 0 hc_1) mw_8_180 mw_8_182 mp_4_1 mw_1_12 mw_8_183 dc_X12_of ⟨Nat.le_of_ble_eq_true rfl, Nat.le_of_ble_eq_true rfl⟩ rfl rfl ⟨Nat.zero_le _, Nat.zero_le _⟩ hP (hD _) hS 0 rfl rfl rfl hl.1 (Nat.le_of_ble_eq_true rfl) dX12_apart_3 (fun H locs hP hS => ?_)
  refine lv_aload_n X.1 X.2.1 dX12_apart_6 rfl (lv_at hl 0 rfl) ?_
  refine lv_iload_n X.1 X.2.1 dX12_apart_7 rfl (lv_at hl 2 rfl) ?_
  refine lv_iconst (v := 0) X.1 X.2.1 dX12_apart_8 (by decide) ?_
  obtain ⟨r_2, hc_2, h⟩ := bd_el h
  refine call_V1i (As := [.int x2, .int 0]) (rest := [.int r_1]) X (c_X12_of l dC dI sk sv tc a0 g0 x2 0 hc_2) mw_8_180 mw_8_182 mp_4_1 mw_1_12 mw_8_183 dc_X12_of ⟨Nat.le_of_ble_eq_true rfl, Nat.le_of_ble_eq_true rfl⟩ rfl rfl ⟨Nat.zero_le _, Nat.zero_le _⟩ hP (hD _) hS 0 rfl rfl rfl hl.1 (Nat.le_of_ble_eq_true rfl) dX12_apart_9 (fun H locs hP hS => ?_)
  refine lv_ixor X.1 X.2.1 dX12_apart_12 ?_
  obtain ⟨r_3, hc_3, h⟩ := bd_el h
  refine call_S0i (As := [.int (r_1 ^^^ r_2)]) (rest := []) X (c_X12_bits l dC dI sk sv tc (r_1 ^^^ r_2) hc_3) mw_9_123 mw_9_124 mw_1_12 mw_9_125 dc_X12_bits ⟨Nat.le_of_ble_eq_true rfl, Nat.le_of_ble_eq_true rfl⟩ rfl rfl ⟨Nat.zero_le _, Nat.zero_le _⟩ hP (hD _) hS hl.1 (Nat.le_of_ble_eq_true rfl) dX12_apart_13 (fun H locs hP hS => ?_)
  exact ret_i0 (Option.some.inj h) X hQ hP hS dX12_apart_16

def f_X12_allBest_L51 (x1 : Int32) (x2 : Int32) (x3 : Int32) (n : Nat) (a : Int32 × Pic) : Option (Pic) := lp (fun (rec : Int32 × Pic → Option (Pic)) (a : Int32 × Pic) => match a with | (x4, g0) => (if (g0 1 4) ≤ x4 then some g0 else bd (f_X12_isOf x3 x4) (fun r_8 => jn (fun (g0_J107 : Pic) => nm (x4 + 1) (fun x4_9 => rec (x4_9, g0_J107))) (fun J107 => (if r_8 = 0 then J107 g0 else gdi x1 32 (bd (f_X12_apart g0 x2 x4) (fun r_11 => gdi (x3 &&& ((1 <<< (x4 &&& 31)) ^^^ (-1))) 32 (bd (f_X12_greater (g0 23 (x1.toNatClampNeg)) (r_11 + (g0 23 ((x3 &&& ((1 <<< (x4 &&& 31)) ^^^ (-1))).toNatClampNeg)))) (fun r_13 => gdi x1 32 (nm (pu g0 23 (x1.toNatClampNeg) r_13) (fun g0_15 => J107 g0_15))))))))))) n a
def f_X12_allBest_L9 (n : Nat) (a : Int32 × Pic) : Option (Pic) := lp (fun (rec : Int32 × Pic → Option (Pic)) (a : Int32 × Pic) => match a with | (x1, g0) => (if (1 <<< ((g0 1 4) &&& 31)) ≤ x1 then some g0 else bd (f_X12_lowest x1) (fun r_2 => nm ((x1 &&& ((1 <<< (r_2 &&& 31)) ^^^ (-1)))) (fun x3_3 => gdi x3_3 32 (gdi x1 32 (nm (pu g0 23 (x1.toNatClampNeg) (g0 23 (x3_3.toNatClampNeg))) (fun g0_6 => nm ((r_2 + 1)) (fun x4_7 => bd (f_X12_allBest_L51 x1 r_2 x3_3 fu (x4_7, g0_6)) (fun g0_16 => nm (x1 + 1) (fun x1_17 => rec (x1_17, g0_16))))))))))) n a
def f_X12_allBest (g0 : Pic) : Option (Pic) := nm (pu g0 23 0 0) (fun g0_1 => bd (f_X12_allBest_L9  fu (1, g0_1)) (fun g0_18 => some g0_18))
abbrev rm_X12_allBest : Room := { frames := 2, cells := 0, slots := 0, locals := 44 }
set_option maxHeartbeats 4000000 in
set_option maxRecDepth 100000 in
theorem c_X12_allBest (l : Launch) (dC : Nat → ClassId) (dI : Nat → Nat → Nat) (sk sv : Nat → Nat) (tc : Nat → ClassId) (a0 : Nat → Nat) (g0 : Pic) {G0 : Pic} (h : f_X12_allBest g0 = some G0) : CT l (dC, dI) sk sv (TY tc) yX12_allBest cX12_allBest 5 none rm_X12_allBest [.ref (a0 0)] (wM tc a0 g0) none (wM tc a0 G0) := by
  refine ofCT (by decide) (Nat.le_of_ble_eq_true rfl) ?_
  intro pr e s m args below meth c A Q ls H locs X hQ hD0 hP hS hl
  have hD : ∀ z0, va_D A (wM tc a0 z0) := fun z0 => D_fst (ws := (wM tc a0 g0)) rfl hD0
  have hl : lv_has ls 5 [(0, .ref (a0 0))] := hl
  have HL51 : ∀ (x1 : Int32) (x2 : Int32) (x3 : Int32) (n : Nat) (x4 : Int32) (g0 : Pic) (ex : (Pic)), f_X12_allBest_L51 x1 x2 x3 n (x4, g0) = some ex → ∀ (H : Heap) (locs : List Loc) (ls : Array Slot), va_P (dC, dI) vwCl (wM tc a0 g0) H → va_S A s.heap H locs → lv_has ls 5 [(0, .ref (a0 0)), (1, .int x1), (2, .int x2), (3, .int x3), (4, .int x4)] → (∀ (k0 : Pic), k0 = ex → ∀ (H : Heap) (locs : List Loc) (ls : Array Slot), va_P (dC, dI) vwCl (wM tc a0 k0) H → va_S A s.heap H locs → lv_has ls 5 [(0, .ref (a0 0)), (1, .int x1)] → W pr l e rm_X12_allBest s m args below meth c H locs 0 0 Q (F0 m 113 ls [])) → W pr l e rm_X12_allBest s m args below meth c H locs 0 0 Q (F0 m 51 ls []) := by
    intro x1 x2 x3 n
    induction n with
    | zero => intro x4 g0 ex h; exact lp_z h
    | succ n ih =>
      intro x4 g0 ex h H locs ls hP hS hl K
      have h := lp_s h
      refine lv_iload X.1 X.2.1 dX12_allBest_51 (lv_at hl 4 rfl) ?_
      refine lv_aload_n X.1 X.2.1 dX12_allBest_53 rfl (lv_at hl 0 rfl) ?_
      refine r_get (C := RX12) (T := TX12) (N := 28) (ci := 12) (v := .ref (a0 2)) X iw12 hP 0 rfl rfl 1 rfl mw_7_121 rfl dX12_allBest_54 ?_
      refine lv_iconst (v := 4) X.1 X.2.1 dX12_allBest_57 (by decide) ?_
      refine r_iald X hP 1 0 rfl rfl (j := 4) (by unfold vp_in; decide) (by decide) dX12_allBest_58 ?_
      refine lv_icmp_ge (tgt := 113) X.1 X.2.1 dX12_allBest_59 (by decide) (fun hc => ?_) (fun hc => ?_)
      · have h := it_t hc h
        exact K g0 (Option.some.inj h) H locs ls hP hS (lv_sub hl [0, 1] rfl)
      · have h := it_f hc h
        refine lv_iload_n X.1 X.2.1 dX12_allBest_62 rfl (lv_at hl 3 rfl) ?_
        refine lv_iload X.1 X.2.1 dX12_allBest_63 (lv_at hl 4 rfl) ?_
        obtain ⟨r_8, hc_8, h⟩ := bd_el h
        refine call_S0i (As := [.int x3, .int x4]) (rest := []) X (c_X12_isOf l dC dI sk sv tc x3 x4 hc_8) mw_8_192 mw_8_193 mw_1_12 mw_8_194 dc_X12_isOf ⟨Nat.le_of_ble_eq_true rfl, Nat.le_of_ble_eq_true rfl⟩ rfl rfl ⟨Nat.zero_le _, Nat.zero_le _⟩ hP (hD _) hS hl.1 (Nat.le_of_ble_eq_true rfl) dX12_allBest_65 (fun H locs hP hS => ?_)
        obtain ⟨J107, eJ107, h⟩ := jn_el h
        have HJ107 : ∀ (g0_J107 : Pic) (H : Heap) (locs : List Loc) (ls : Array Slot), J107 g0_J107 = some ex → va_P (dC, dI) vwCl (wM tc a0 g0_J107) H → va_S A s.heap H locs → lv_has ls 5 [(0, .ref (a0 0)), (1, .int x1), (2, .int x2), (3, .int x3), (4, .int x4)] → W pr l e rm_X12_allBest s m args below meth c H locs 0 0 Q (F0 m 107 ls []) := by
          intro g0_J107 H locs ls h hP hS hl
          rw [eJ107] at h
          obtain ⟨x4_9, ex4_9, h⟩ := nm_el h
          refine lv_iinc (v := x4_9) (lv' := [(4, .int x4_9), (0, .ref (a0 0)), (1, .int x1), (2, .int x2), (3, .int x3)]) X.1 X.2.1 dX12_allBest_107 hl (k := 4) rfl (by rw [ex4_9]; rfl) (by decide) rfl (fun ls hl => ?_)
          refine lv_goto (tgt := 51) X.1 X.2.1 dX12_allBest_110 (by decide) ?_
          exact ih x4_9 g0_J107 ex h H locs ls hP hS (lv_sub hl [1, 2, 3, 4, 0] rfl) K
        refine lv_if_eq (tgt := 107) X.1 X.2.1 dX12_allBest_68 (by decide) (fun hc => ?_) (fun hc => ?_)
        · have h := it_t hc h
          exact HJ107 g0 H locs ls h hP hS (lv_sub hl [0, 1, 2, 3, 4] rfl)
        · have h := it_f hc h
          refine lv_aload_n X.1 X.2.1 dX12_allBest_71 rfl (lv_at hl 0 rfl) ?_
          refine r_get (C := RX12) (T := TX12) (N := 28) (ci := 12) (v := .ref (a0 24)) X iw12 hP 0 rfl rfl 23 rfl mw_7_143 rfl dX12_allBest_72 ?_
          refine lv_iload_n X.1 X.2.1 dX12_allBest_75 rfl (lv_at hl 1 rfl) ?_
          refine lv_aload_n X.1 X.2.1 dX12_allBest_76 rfl (lv_at hl 0 rfl) ?_
          refine r_get (C := RX12) (T := TX12) (N := 28) (ci := 12) (v := .ref (a0 24)) X iw12 hP 0 rfl rfl 23 rfl mw_7_143 rfl dX12_allBest_77 ?_
          refine lv_iload_n X.1 X.2.1 dX12_allBest_80 rfl (lv_at hl 1 rfl) ?_
          obtain ⟨hg_10, h⟩ := gdi_el h
          refine r_iald X hP 10 0 rfl rfl hg_10 rfl dX12_allBest_81 ?_
          refine lv_aload_n X.1 X.2.1 dX12_allBest_82 rfl (lv_at hl 0 rfl) ?_
          refine lv_iload_n X.1 X.2.1 dX12_allBest_83 rfl (lv_at hl 2 rfl) ?_
          refine lv_iload X.1 X.2.1 dX12_allBest_84 (lv_at hl 4 rfl) ?_
          obtain ⟨r_11, hc_11, h⟩ := bd_el h
          refine call_V1i (As := [.int x2, .int x4]) (rest := [.int (g0 23 (x1.toNatClampNeg)), .int x1, .ref (a0 24)]) X (c_X12_apart l dC dI sk sv tc a0 g0 x2 x4 hc_11) mw_9_221 mw_9_223 mp_6_4 mw_1_12 mw_9_224 dc_X12_apart ⟨Nat.le_of_ble_eq_true rfl, Nat.le_of_ble_eq_true rfl⟩ rfl rfl ⟨Nat.zero_le _, Nat.zero_le _⟩ hP (hD _) hS 0 rfl rfl rfl hl.1 (Nat.le_of_ble_eq_true rfl) dX12_allBest_86 (fun H locs hP hS => ?_)
          refine lv_aload_n X.1 X.2.1 dX12_allBest_89 rfl (lv_at hl 0 rfl) ?_
          refine r_get (C := RX12) (T := TX12) (N := 28) (ci := 12) (v := .ref (a0 24)) X iw12 hP 0 rfl rfl 23 rfl mw_7_143 rfl dX12_allBest_90 ?_
          refine lv_iload_n X.1 X.2.1 dX12_allBest_93 rfl (lv_at hl 3 rfl) ?_
          refine lv_iconst (v := 1) X.1 X.2.1 dX12_allBest_94 (by decide) ?_
          refine lv_iload X.1 X.2.1 dX12_allBest_95 (lv_at hl 4 rfl) ?_
          refine lv_ishl X.1 X.2.1 dX12_allBest_97 ?_
          refine lv_iconst (v := (-1)) X.1 X.2.1 dX12_allBest_98 (by decide) ?_
          refine lv_ixor X.1 X.2.1 dX12_allBest_99 ?_
          refine lv_iand X.1 X.2.1 dX12_allBest_100 ?_
          obtain ⟨hg_12, h⟩ := gdi_el h
          refine r_iald X hP 10 0 rfl rfl hg_12 rfl dX12_allBest_101 ?_
          refine lv_iadd X.1 X.2.1 dX12_allBest_102 ?_
          obtain ⟨r_13, hc_13, h⟩ := bd_el h
          refine call_S0i (As := [.int (g0 23 (x1.toNatClampNeg)), .int (r_11 + (g0 23 ((x3 &&& ((1 <<< (x4 &&& 31)) ^^^ (-1))).toNatClampNeg)))]) (rest := [.int x1, .ref (a0 24)]) X (c_X12_greater l dC dI sk sv tc (g0 23 (x1.toNatClampNeg)) (r_11 + (g0 23 ((x3 &&& ((1 <<< (x4 &&& 31)) ^^^ (-1))).toNatClampNeg))) hc_13) mw_8_219 mw_8_220 mw_1_12 mw_8_221 dc_X12_greater ⟨Nat.le_of_ble_eq_true rfl, Nat.le_of_ble_eq_true rfl⟩ rfl rfl ⟨Nat.zero_le _, Nat.zero_le _⟩ hP (hD _) hS hl.1 (Nat.le_of_ble_eq_true rfl) dX12_allBest_103 (fun H locs hP hS => ?_)
          obtain ⟨hg_14, h⟩ := gdi_el h
          obtain ⟨g0_15, eg0_15, h⟩ := nm_el h
          refine r_iast X hP (hD _) hS 10 0 rfl rfl hg_14 rfl dX12_allBest_106 (wM tc a0 g0_15) (by rw [eg0_15]; rfl) (fun H locs hP hS => ?_)
          exact HJ107 g0_15 H locs ls h hP hS (lv_sub hl [0, 1, 2, 3, 4] rfl)
  have HL9 : ∀ (n : Nat) (x1 : Int32) (g0 : Pic) (ex : (Pic)), f_X12_allBest_L9  n (x1, g0) = some ex → ∀ (H : Heap) (locs : List Loc) (ls : Array Slot), va_P (dC, dI) vwCl (wM tc a0 g0) H → va_S A s.heap H locs → lv_has ls 5 [(0, .ref (a0 0)), (1, .int x1)] → (∀ (k0 : Pic), k0 = ex → ∀ (H : Heap) (locs : List Loc) (ls : Array Slot), va_P (dC, dI) vwCl (wM tc a0 k0) H → va_S A s.heap H locs → lv_has ls 5 [] → W pr l e rm_X12_allBest s m args below meth c H locs 0 0 Q (F0 m 119 ls [])) → W pr l e rm_X12_allBest s m args below meth c H locs 0 0 Q (F0 m 9 ls []) := by
    intro n
    induction n with
    | zero => intro x1 g0 ex h; exact lp_z h
    | succ n ih =>
      intro x1 g0 ex h H locs ls hP hS hl K
      have h := lp_s h
      refine lv_iload_n X.1 X.2.1 dX12_allBest_9 rfl (lv_at hl 1 rfl) ?_
      refine lv_iconst (v := 1) X.1 X.2.1 dX12_allBest_10 (by decide) ?_
      refine lv_aload_n X.1 X.2.1 dX12_allBest_11 rfl (lv_at hl 0 rfl) ?_
      refine r_get (C := RX12) (T := TX12) (N := 28) (ci := 12) (v := .ref (a0 2)) X iw12 hP 0 rfl rfl 1 rfl mw_7_121 rfl dX12_allBest_12 ?_
      refine lv_iconst (v := 4) X.1 X.2.1 dX12_allBest_15 (by decide) ?_
      refine r_iald X hP 1 0 rfl rfl (j := 4) (by unfold vp_in; decide) (by decide) dX12_allBest_16 ?_
      refine lv_ishl X.1 X.2.1 dX12_allBest_17 ?_
      refine lv_icmp_ge (tgt := 119) X.1 X.2.1 dX12_allBest_18 (by decide) (fun hc => ?_) (fun hc => ?_)
      · have h := it_t hc h
        exact K g0 (Option.some.inj h) H locs ls hP hS (lv_sub hl [] rfl)
      · have h := it_f hc h
        refine lv_iload_n X.1 X.2.1 dX12_allBest_21 rfl (lv_at hl 1 rfl) ?_
        obtain ⟨r_2, hc_2, h⟩ := bd_el h
        refine call_S0i (As := [.int x1]) (rest := []) X (c_X12_lowest l dC dI sk sv tc x1 hc_2) mw_9_218 mw_9_219 mw_1_12 mw_9_220 dc_X12_lowest ⟨Nat.le_of_ble_eq_true rfl, Nat.le_of_ble_eq_true rfl⟩ rfl rfl ⟨Nat.zero_le _, Nat.zero_le _⟩ hP (hD _) hS hl.1 (Nat.le_of_ble_eq_true rfl) dX12_allBest_22 (fun H locs hP hS => ?_)
        refine lv_istore_n (lv' := [(2, .int r_2), (0, .ref (a0 0)), (1, .int x1)]) X.1 X.2.1 dX12_allBest_25 rfl hl (by decide) rfl (fun ls hl => ?_)
        refine lv_iload_n X.1 X.2.1 dX12_allBest_26 rfl (lv_at hl 2 rfl) ?_
        refine lv_iconst (v := 1) X.1 X.2.1 dX12_allBest_27 (by decide) ?_
        refine lv_iload_n X.1 X.2.1 dX12_allBest_28 rfl (lv_at hl 0 rfl) ?_
        refine lv_ishl X.1 X.2.1 dX12_allBest_29 ?_
        refine lv_iconst (v := (-1)) X.1 X.2.1 dX12_allBest_30 (by decide) ?_
        refine lv_ixor X.1 X.2.1 dX12_allBest_31 ?_
        refine lv_iand X.1 X.2.1 dX12_allBest_32 ?_
        obtain ⟨x3_3, ex3_3, h⟩ := nm_el h
        refine tp_i ex3_3 ?_
        refine lv_istore_n (lv' := [(3, .int x3_3), (2, .int r_2), (0, .ref (a0 0)), (1, .int x1)]) X.1 X.2.1 dX12_allBest_33 rfl hl (by decide) rfl (fun ls hl => ?_)
        refine lv_aload_n X.1 X.2.1 dX12_allBest_34 rfl (lv_at hl 2 rfl) ?_
        refine r_get (C := RX12) (T := TX12) (N := 28) (ci := 12) (v := .ref (a0 24)) X iw12 hP 0 rfl rfl 23 rfl mw_7_143 rfl dX12_allBest_35 ?_
        refine lv_iload_n X.1 X.2.1 dX12_allBest_38 rfl (lv_at hl 3 rfl) ?_
        refine lv_aload_n X.1 X.2.1 dX12_allBest_39 rfl (lv_at hl 2 rfl) ?_
        refine r_get (C := RX12) (T := TX12) (N := 28) (ci := 12) (v := .ref (a0 24)) X iw12 hP 0 rfl rfl 23 rfl mw_7_143 rfl dX12_allBest_40 ?_
        refine lv_iload_n X.1 X.2.1 dX12_allBest_43 rfl (lv_at hl 0 rfl) ?_
        obtain ⟨hg_4, h⟩ := gdi_el h
        refine r_iald X hP 10 0 rfl rfl hg_4 rfl dX12_allBest_44 ?_
        obtain ⟨hg_5, h⟩ := gdi_el h
        obtain ⟨g0_6, eg0_6, h⟩ := nm_el h
        refine r_iast X hP (hD _) hS 10 0 rfl rfl hg_5 rfl dX12_allBest_45 (wM tc a0 g0_6) (by rw [eg0_6]; rfl) (fun H locs hP hS => ?_)
        refine lv_iload_n X.1 X.2.1 dX12_allBest_46 rfl (lv_at hl 1 rfl) ?_
        refine lv_iconst (v := 1) X.1 X.2.1 dX12_allBest_47 (by decide) ?_
        refine lv_iadd X.1 X.2.1 dX12_allBest_48 ?_
        obtain ⟨x4_7, ex4_7, h⟩ := nm_el h
        refine tp_i ex4_7 ?_
        refine lv_istore (lv' := [(4, .int x4_7), (3, .int x3_3), (2, .int r_2), (0, .ref (a0 0)), (1, .int x1)]) X.1 X.2.1 dX12_allBest_49 hl (by decide) rfl (fun ls hl => ?_)
        obtain ⟨ex_16, hL_16, h⟩ := bd_el h
        refine HL51 x1 r_2 x3_3 fu x4_7 g0_6 ex_16 hL_16 H locs ls hP hS (lv_sub hl [3, 4, 2, 1, 0] rfl) (fun g0_16 he H locs ls hP hS hl => ?_)
        subst he
        obtain ⟨x1_17, ex1_17, h⟩ := nm_el h
        refine lv_iinc (v := x1_17) (lv' := [(1, .int x1_17), (0, .ref (a0 0))]) X.1 X.2.1 dX12_allBest_113 hl (k := 1) rfl (by rw [ex1_17]; rfl) (by decide) rfl (fun ls hl => ?_)
        refine lv_goto (tgt := 9) X.1 X.2.1 dX12_allBest_116 (by decide) ?_
        exact ih x1_17 g0_16 ex h H locs ls hP hS (lv_sub hl [1, 0] rfl) K
  unfold f_X12_allBest at h
  refine lv_aload_n X.1 X.2.1 dX12_allBest_0 rfl (lv_at hl 0 rfl) ?_
  refine r_get (C := RX12) (T := TX12) (N := 28) (ci := 12) (v := .ref (a0 24)) X iw12 hP 0 rfl rfl 23 rfl mw_7_143 rfl dX12_allBest_1 ?_
  refine lv_iconst (v := 0) X.1 X.2.1 dX12_allBest_4 (by decide) ?_
  refine lv_iconst (v := 0) X.1 X.2.1 dX12_allBest_5 (by decide) ?_
  obtain ⟨g0_1, eg0_1, h⟩ := nm_el h
  refine r_iast X hP (hD _) hS 10 0 rfl rfl (j := 0) (by unfold vp_in; decide) (by decide) dX12_allBest_6 (wM tc a0 g0_1) (by rw [eg0_1]; rfl) (fun H locs hP hS => ?_)
  refine lv_iconst (v := 1) X.1 X.2.1 dX12_allBest_7 (by decide) ?_
  refine lv_istore_n (lv' := [(1, .int 1), (0, .ref (a0 0))]) X.1 X.2.1 dX12_allBest_8 rfl hl (by decide) rfl (fun ls hl => ?_)
  obtain ⟨ex_18, hL_18, h⟩ := bd_el h
  refine HL9  fu 1 g0_1 ex_18 hL_18 H locs ls hP hS (lv_sub hl [1, 0] rfl) (fun g0_18 he H locs ls hP hS hl => ?_)
  subst he
  exact ret_v (fun u => (wM tc a0 u)) (res := G0) (Option.some.inj h) X hQ hP hS dX12_allBest_119

def f_X12_pairs_L89 (x1 : Int32) (x2 : Int32) (x3 : Int32) (x4 : Int32) (g0 : Pic) (n : Nat) (a : Int32 × Int32) : Option (Int32) := lp (fun (rec : Int32 × Int32 → Option (Int32)) (a : Int32 × Int32) => match a with | (x5, x6) => (if x6 ≤ x3 then some x5 else gdi x4 32 (gdi x2 32 ((if (g0 23 (x4.toNatClampNeg)) = (g0 23 (x2.toNatClampNeg)) then some x5 else bd (f_X12_isOf x4 x6) (fun r_9 => jn (fun (x5_J156 : Int32) => nm (x6 + (-1)) (fun x6_10 => rec (x5_J156, x6_10))) (fun J156 => (if r_9 = 0 then J156 x5 else bd (f_X12_apart g0 x3 x6) (fun r_11 => gdi (x4 &&& ((1 <<< (x6 &&& 31)) ^^^ (-1))) 32 (gdi x2 32 ((if (r_11 + (g0 23 ((x4 &&& ((1 <<< (x6 &&& 31)) ^^^ (-1))).toNatClampNeg))) = (g0 23 (x2.toNatClampNeg)) then J156 x6 else J156 x5)))))))))))) n a
def f_X12_pairs_L58 (x1 : Int32) (g0 : Pic) (n : Nat) (a : Int32) : Option ((Int32 × Pic) ⊕ (Unit)) := lp (fun (rec : Int32 → Option ((Int32 × Pic) ⊕ (Unit))) (a : Int32) => (fun (x2 : Int32) => (if x2 = 0 then some (.inr ()) else bd (f_X12_lowest x2) (fun r_4 => nm ((x2 &&& ((1 <<< (r_4 &&& 31)) ^^^ (-1)))) (fun x4_5 => nm (((g0 1 4) - 1)) (fun x6_6 => bd (f_X12_pairs_L89 x1 x2 r_4 x4_5 g0 fu ((-1), x6_6)) (fun x5_14 => (if r_4 = x1 then some (.inl (x5_14, g0)) else (if x5_14 = x1 then some (.inl (r_4, g0)) else jn (fun (s0_J198 : Int32) => rec s0_J198) (fun J198 => (if x5_14 = (-1) then J198 x4_5 else J198 (x4_5 &&& ((1 <<< (x5_14 &&& 31)) ^^^ (-1))))))))))))) a) n a
def f_X12_pairs (g0 : Pic) (x1 : Int32) : Option (Int32 × Pic) := jn (fun (s1_J19 : Int32) => nm (pu g0 0 0 s1_J19) (fun g0_1 => (if (g0_1 0 0) ≤ 0 then bd (f_X12_allBest g0_1) (fun g0_2 => nm (((1 <<< ((g0_2 1 4) &&& 31)) - 1)) (fun x2_3 => (if x1 = (-1) then gdi x2_3 32 (some ((g0_2 23 (x2_3.toNatClampNeg)), g0_2)) else lr (f_X12_pairs_L58 x1 g0_2 fu x2_3) (fun a => a) (fun _ => some ((-1), g0_2))))) else some (0, g0_1)))) (fun J19 => jn (fun (_ : Unit) => J19 0) (fun J18 => (if x1 = (-1) then J18 () else bd (f_X12_isWriter g0 x1) (fun r_17 => (if r_17 = 0 then J19 1 else J18 ())))))
abbrev rm_X12_pairs : Room := { frames := 3, cells := 0, slots := 0, locals := 68 }
set_option maxHeartbeats 4000000 in
set_option maxRecDepth 100000 in
theorem c_X12_pairs (l : Launch) (dC : Nat → ClassId) (dI : Nat → Nat → Nat) (sk sv : Nat → Nat) (tc : Nat → ClassId) (a0 : Nat → Nat) (g0 : Pic) (x1 : Int32) {r0 : Int32} {G0 : Pic} (h : f_X12_pairs g0 x1 = some (r0, G0)) : CT l (dC, dI) sk sv (TY tc) yX12_pairs cX12_pairs 7 (some .int) rm_X12_pairs [.ref (a0 0), .int x1] (wM tc a0 g0) (some (.int r0)) (wM tc a0 G0) := by
  refine ofCT (by decide) (Nat.le_of_ble_eq_true rfl) ?_
  intro pr e s m args below meth c A Q ls H locs X hQ hD0 hP hS hl
  have hD : ∀ z0, va_D A (wM tc a0 z0) := fun z0 => D_fst (ws := (wM tc a0 g0)) rfl hD0
  have hl : lv_has ls 7 [(0, .ref (a0 0)), (1, .int x1)] := hl
  have HL89 : ∀ (x1 : Int32) (x2 : Int32) (x3 : Int32) (x4 : Int32) (g0 : Pic) (n : Nat) (x5 : Int32) (x6 : Int32) (ex : (Int32)), f_X12_pairs_L89 x1 x2 x3 x4 g0 n (x5, x6) = some ex → ∀ (H : Heap) (locs : List Loc) (ls : Array Slot), va_P (dC, dI) vwCl (wM tc a0 g0) H → va_S A s.heap H locs → lv_has ls 7 [(0, .ref (a0 0)), (1, .int x1), (2, .int x2), (3, .int x3), (4, .int x4), (5, .int x5), (6, .int x6)] → (∀ (y5 : Int32), y5 = ex → ∀ (H : Heap) (locs : List Loc) (ls : Array Slot), va_P (dC, dI) vwCl (wM tc a0 g0) H → va_S A s.heap H locs → lv_has ls 7 [(0, .ref (a0 0)), (1, .int x1), (3, .int x3), (4, .int x4), (5, .int y5)] → W pr l e rm_X12_pairs s m args below meth c H locs 0 0 Q (F0 m 162 ls [])) → W pr l e rm_X12_pairs s m args below meth c H locs 0 0 Q (F0 m 89 ls []) := by
    intro x1 x2 x3 x4 g0 n
    induction n with
    | zero => intro x5 x6 ex h; exact lp_z h
    | succ n ih =>
      intro x5 x6 ex h H locs ls hP hS hl K
      have h := lp_s h
      refine lv_iload X.1 X.2.1 dX12_pairs_89 (lv_at hl 6 rfl) ?_
      refine lv_iload_n X.1 X.2.1 dX12_pairs_91 rfl (lv_at hl 3 rfl) ?_
      refine lv_icmp_le (tgt := 162) X.1 X.2.1 dX12_pairs_92 (by decide) (fun hc => ?_) (fun hc => ?_)
      · have h := it_t hc h
        exact K x5 (Option.some.inj h) H locs ls hP hS (lv_sub hl [0, 1, 3, 4, 5] rfl)
      · have h := it_f hc h
        refine lv_aload_n X.1 X.2.1 dX12_pairs_95 rfl (lv_at hl 0 rfl) ?_
        refine r_get (C := RX12) (T := TX12) (N := 28) (ci := 12) (v := .ref (a0 24)) X iw12 hP 0 rfl rfl 23 rfl mw_7_143 rfl dX12_pairs_96 ?_
        refine lv_iload X.1 X.2.1 dX12_pairs_99 (lv_at hl 4 rfl) ?_
        obtain ⟨hg_7, h⟩ := gdi_el h
        refine r_iald X hP 10 0 rfl rfl hg_7 rfl dX12_pairs_101 ?_
        refine lv_aload_n X.1 X.2.1 dX12_pairs_102 rfl (lv_at hl 0 rfl) ?_
        refine r_get (C := RX12) (T := TX12) (N := 28) (ci := 12) (v := .ref (a0 24)) X iw12 hP 0 rfl rfl 23 rfl mw_7_143 rfl dX12_pairs_103 ?_
        refine lv_iload_n X.1 X.2.1 dX12_pairs_106 rfl (lv_at hl 2 rfl) ?_
        obtain ⟨hg_8, h⟩ := gdi_el h
        refine r_iald X hP 10 0 rfl rfl hg_8 rfl dX12_pairs_107 ?_
        refine lv_icmp_eq (tgt := 162) X.1 X.2.1 dX12_pairs_108 (by decide) (fun hc => ?_) (fun hc => ?_)
        · have h := it_t hc h
          exact K x5 (Option.some.inj h) H locs ls hP hS (lv_sub hl [0, 1, 3, 4, 5] rfl)
        · have h := it_f hc h
          refine lv_iload X.1 X.2.1 dX12_pairs_111 (lv_at hl 4 rfl) ?_
          refine lv_iload X.1 X.2.1 dX12_pairs_113 (lv_at hl 6 rfl) ?_
          obtain ⟨r_9, hc_9, h⟩ := bd_el h
          refine call_S0i (As := [.int x4, .int x6]) (rest := []) X (c_X12_isOf l dC dI sk sv tc x4 x6 hc_9) mw_8_192 mw_8_193 mw_1_12 mw_8_194 dc_X12_isOf ⟨Nat.le_of_ble_eq_true rfl, Nat.le_of_ble_eq_true rfl⟩ rfl rfl ⟨Nat.zero_le _, Nat.zero_le _⟩ hP (hD _) hS hl.1 (Nat.le_of_ble_eq_true rfl) dX12_pairs_115 (fun H locs hP hS => ?_)
          obtain ⟨J156, eJ156, h⟩ := jn_el h
          have HJ156 : ∀ (x5_J156 : Int32) (H : Heap) (locs : List Loc) (ls : Array Slot), J156 x5_J156 = some ex → va_P (dC, dI) vwCl (wM tc a0 g0) H → va_S A s.heap H locs → lv_has ls 7 [(0, .ref (a0 0)), (1, .int x1), (2, .int x2), (3, .int x3), (4, .int x4), (5, .int x5_J156), (6, .int x6)] → W pr l e rm_X12_pairs s m args below meth c H locs 0 0 Q (F0 m 156 ls []) := by
            intro x5_J156 H locs ls h hP hS hl
            rw [eJ156] at h
            obtain ⟨x6_10, ex6_10, h⟩ := nm_el h
            refine lv_iinc (v := x6_10) (lv' := [(6, .int x6_10), (0, .ref (a0 0)), (1, .int x1), (2, .int x2), (3, .int x3), (4, .int x4), (5, .int x5_J156)]) X.1 X.2.1 dX12_pairs_156 hl (k := 6) rfl (by rw [ex6_10]; rfl) (by decide) rfl (fun ls hl => ?_)
            refine lv_goto (tgt := 89) X.1 X.2.1 dX12_pairs_159 (by decide) ?_
            exact ih x5_J156 x6_10 ex h H locs ls hP hS (lv_sub hl [1, 2, 3, 4, 5, 6, 0] rfl) K
          refine lv_if_eq (tgt := 156) X.1 X.2.1 dX12_pairs_118 (by decide) (fun hc => ?_) (fun hc => ?_)
          · have h := it_t hc h
            exact HJ156 x5 H locs ls h hP hS (lv_sub hl [0, 1, 2, 3, 4, 5, 6] rfl)
          · have h := it_f hc h
            refine lv_aload_n X.1 X.2.1 dX12_pairs_121 rfl (lv_at hl 0 rfl) ?_
            refine lv_iload_n X.1 X.2.1 dX12_pairs_122 rfl (lv_at hl 3 rfl) ?_
            refine lv_iload X.1 X.2.1 dX12_pairs_123 (lv_at hl 6 rfl) ?_
            obtain ⟨r_11, hc_11, h⟩ := bd_el h
            refine call_V1i (As := [.int x3, .int x6]) (rest := []) X (c_X12_apart l dC dI sk sv tc a0 g0 x3 x6 hc_11) mw_9_221 mw_9_223 mp_6_4 mw_1_12 mw_9_224 dc_X12_apart ⟨Nat.le_of_ble_eq_true rfl, Nat.le_of_ble_eq_true rfl⟩ rfl rfl ⟨Nat.zero_le _, Nat.zero_le _⟩ hP (hD _) hS 0 rfl rfl rfl hl.1 (Nat.le_of_ble_eq_true rfl) dX12_pairs_125 (fun H locs hP hS => ?_)
            refine lv_aload_n X.1 X.2.1 dX12_pairs_128 rfl (lv_at hl 0 rfl) ?_
            refine r_get (C := RX12) (T := TX12) (N := 28) (ci := 12) (v := .ref (a0 24)) X iw12 hP 0 rfl rfl 23 rfl mw_7_143 rfl dX12_pairs_129 ?_
            refine lv_iload X.1 X.2.1 dX12_pairs_132 (lv_at hl 4 rfl) ?_
            refine lv_iconst (v := 1) X.1 X.2.1 dX12_pairs_134 (by decide) ?_
            refine lv_iload X.1 X.2.1 dX12_pairs_135 (lv_at hl 6 rfl) ?_
            refine lv_ishl X.1 X.2.1 dX12_pairs_137 ?_
            refine lv_iconst (v := (-1)) X.1 X.2.1 dX12_pairs_138 (by decide) ?_
            refine lv_ixor X.1 X.2.1 dX12_pairs_139 ?_
            refine lv_iand X.1 X.2.1 dX12_pairs_140 ?_
            obtain ⟨hg_12, h⟩ := gdi_el h
            refine r_iald X hP 10 0 rfl rfl hg_12 rfl dX12_pairs_141 ?_
            refine lv_iadd X.1 X.2.1 dX12_pairs_142 ?_
            refine lv_aload_n X.1 X.2.1 dX12_pairs_143 rfl (lv_at hl 0 rfl) ?_
            refine r_get (C := RX12) (T := TX12) (N := 28) (ci := 12) (v := .ref (a0 24)) X iw12 hP 0 rfl rfl 23 rfl mw_7_143 rfl dX12_pairs_144 ?_
            refine lv_iload_n X.1 X.2.1 dX12_pairs_147 rfl (lv_at hl 2 rfl) ?_
            obtain ⟨hg_13, h⟩ := gdi_el h
            refine r_iald X hP 10 0 rfl rfl hg_13 rfl dX12_pairs_148 ?_
            refine lv_icmp_ne (tgt := 156) X.1 X.2.1 dX12_pairs_149 (by decide) (fun hc => ?_) (fun hc => ?_)
            · have h := it_f hc h
              exact HJ156 x5 H locs ls h hP hS (lv_sub hl [0, 1, 2, 3, 4, 5, 6] rfl)
            · have h := it_t hc h
              refine lv_iload X.1 X.2.1 dX12_pairs_152 (lv_at hl 6 rfl) ?_
              refine lv_istore (lv' := [(5, .int x6), (0, .ref (a0 0)), (1, .int x1), (2, .int x2), (3, .int x3), (4, .int x4), (6, .int x6)]) X.1 X.2.1 dX12_pairs_154 hl (by decide) rfl (fun ls hl => ?_)
              exact HJ156 x6 H locs ls h hP hS (lv_sub hl [1, 2, 3, 4, 5, 0, 6] rfl)
  have HL58 : ∀ (x1 : Int32) (g0 : Pic) (n : Nat) (x2 : Int32) (ex : ((Int32 × Pic) ⊕ (Unit))), f_X12_pairs_L58 x1 g0 n x2 = some ex → (∀ rv, ex = .inl rv → rv = (r0, G0)) → ∀ (H : Heap) (locs : List Loc) (ls : Array Slot), va_P (dC, dI) vwCl (wM tc a0 g0) H → va_S A s.heap H locs → lv_has ls 7 [(0, .ref (a0 0)), (1, .int x1), (2, .int x2)] → (.inr () = ex → ∀ (H : Heap) (locs : List Loc) (ls : Array Slot), va_P (dC, dI) vwCl (wM tc a0 g0) H → va_S A s.heap H locs → lv_has ls 7 [] → W pr l e rm_X12_pairs s m args below meth c H locs 0 0 Q (F0 m 202 ls [])) → W pr l e rm_X12_pairs s m args below meth c H locs 0 0 Q (F0 m 58 ls []) := by
    intro x1 g0 n
    induction n with
    | zero => intro x2 ex h; exact lp_z h
    | succ n ih =>
      intro x2 ex h hR H locs ls hP hS hl K
      have h := lp_s h
      refine lv_iload_n X.1 X.2.1 dX12_pairs_58 rfl (lv_at hl 2 rfl) ?_
      refine lv_if_eq (tgt := 202) X.1 X.2.1 dX12_pairs_59 (by decide) (fun hc => ?_) (fun hc => ?_)
      · have h := it_t hc h
        exact K  (Option.some.inj h) H locs ls hP hS (lv_sub hl [] rfl)
      · have h := it_f hc h
        refine lv_iload_n X.1 X.2.1 dX12_pairs_62 rfl (lv_at hl 2 rfl) ?_
        obtain ⟨r_4, hc_4, h⟩ := bd_el h
        refine call_S0i (As := [.int x2]) (rest := []) X (c_X12_lowest l dC dI sk sv tc x2 hc_4) mw_9_218 mw_9_219 mw_1_12 mw_9_220 dc_X12_lowest ⟨Nat.le_of_ble_eq_true rfl, Nat.le_of_ble_eq_true rfl⟩ rfl rfl ⟨Nat.zero_le _, Nat.zero_le _⟩ hP (hD _) hS hl.1 (Nat.le_of_ble_eq_true rfl) dX12_pairs_63 (fun H locs hP hS => ?_)
        refine lv_istore_n (lv' := [(3, .int r_4), (0, .ref (a0 0)), (1, .int x1), (2, .int x2)]) X.1 X.2.1 dX12_pairs_66 rfl hl (by decide) rfl (fun ls hl => ?_)
        refine lv_iload_n X.1 X.2.1 dX12_pairs_67 rfl (lv_at hl 3 rfl) ?_
        refine lv_iconst (v := 1) X.1 X.2.1 dX12_pairs_68 (by decide) ?_
        refine lv_iload_n X.1 X.2.1 dX12_pairs_69 rfl (lv_at hl 0 rfl) ?_
        refine lv_ishl X.1 X.2.1 dX12_pairs_70 ?_
        refine lv_iconst (v := (-1)) X.1 X.2.1 dX12_pairs_71 (by decide) ?_
        refine lv_ixor X.1 X.2.1 dX12_pairs_72 ?_
        refine lv_iand X.1 X.2.1 dX12_pairs_73 ?_
        obtain ⟨x4_5, ex4_5, h⟩ := nm_el h
        refine tp_i ex4_5 ?_
        refine lv_istore (lv' := [(4, .int x4_5), (3, .int r_4), (0, .ref (a0 0)), (1, .int x1), (2, .int x2)]) X.1 X.2.1 dX12_pairs_74 hl (by decide) rfl (fun ls hl => ?_)
        refine lv_iconst (v := (-1)) X.1 X.2.1 dX12_pairs_76 (by decide) ?_
        refine lv_istore (lv' := [(5, .int (-1)), (4, .int x4_5), (3, .int r_4), (0, .ref (a0 0)), (1, .int x1), (2, .int x2)]) X.1 X.2.1 dX12_pairs_77 hl (by decide) rfl (fun ls hl => ?_)
        refine lv_aload_n X.1 X.2.1 dX12_pairs_79 rfl (lv_at hl 3 rfl) ?_
        refine r_get (C := RX12) (T := TX12) (N := 28) (ci := 12) (v := .ref (a0 2)) X iw12 hP 0 rfl rfl 1 rfl mw_7_121 rfl dX12_pairs_80 ?_
        refine lv_iconst (v := 4) X.1 X.2.1 dX12_pairs_83 (by decide) ?_
        refine r_iald X hP 1 0 rfl rfl (j := 4) (by unfold vp_in; decide) (by decide) dX12_pairs_84 ?_
        refine lv_iconst (v := 1) X.1 X.2.1 dX12_pairs_85 (by decide) ?_
        refine lv_isub X.1 X.2.1 dX12_pairs_86 ?_
        obtain ⟨x6_6, ex6_6, h⟩ := nm_el h
        refine tp_i ex6_6 ?_
        refine lv_istore (lv' := [(6, .int x6_6), (5, .int (-1)), (4, .int x4_5), (3, .int r_4), (0, .ref (a0 0)), (1, .int x1), (2, .int x2)]) X.1 X.2.1 dX12_pairs_87 hl (by decide) rfl (fun ls hl => ?_)
        obtain ⟨ex_14, hL_14, h⟩ := bd_el h
        refine HL89 x1 x2 r_4 x4_5 g0 fu (-1) x6_6 ex_14 hL_14 H locs ls hP hS (lv_sub hl [4, 5, 6, 3, 2, 1, 0] rfl) (fun x5_14 he H locs ls hP hS hl => ?_)
        subst he
        refine lv_iload_n X.1 X.2.1 dX12_pairs_162 rfl (lv_at hl 2 rfl) ?_
        refine lv_iload_n X.1 X.2.1 dX12_pairs_163 rfl (lv_at hl 1 rfl) ?_
        refine lv_icmp_ne (tgt := 170) X.1 X.2.1 dX12_pairs_164 (by decide) (fun hc => ?_) (fun hc => ?_)
        · have h := it_f hc h
          refine lv_iload X.1 X.2.1 dX12_pairs_170 (lv_at hl 4 rfl) ?_
          refine lv_iload_n X.1 X.2.1 dX12_pairs_172 rfl (lv_at hl 1 rfl) ?_
          refine lv_icmp_ne (tgt := 178) X.1 X.2.1 dX12_pairs_173 (by decide) (fun hc => ?_) (fun hc => ?_)
          · have h := it_f hc h
            refine lv_iload X.1 X.2.1 dX12_pairs_178 (lv_at hl 4 rfl) ?_
            refine lv_iconst (v := (-1)) X.1 X.2.1 dX12_pairs_180 (by decide) ?_
            obtain ⟨J198, eJ198, h⟩ := jn_el h
            have HJ198 : ∀ (s0_J198 : Int32) (H : Heap) (locs : List Loc) (ls : Array Slot), J198 s0_J198 = some ex → va_P (dC, dI) vwCl (wM tc a0 g0) H → va_S A s.heap H locs → lv_has ls 7 [(0, .ref (a0 0)), (1, .int x1)] → W pr l e rm_X12_pairs s m args below meth c H locs 0 0 Q (F0 m 198 ls [.int s0_J198]) := by
              intro s0_J198 H locs ls h hP hS hl
              rw [eJ198] at h
              refine lv_istore_n (lv' := [(2, .int s0_J198), (0, .ref (a0 0)), (1, .int x1)]) X.1 X.2.1 dX12_pairs_198 rfl hl (by decide) rfl (fun ls hl => ?_)
              refine lv_goto (tgt := 58) X.1 X.2.1 dX12_pairs_199 (by decide) ?_
              exact ih s0_J198 ex h hR H locs ls hP hS (lv_sub hl [1, 2, 0] rfl) K
            refine lv_icmp_ne (tgt := 189) X.1 X.2.1 dX12_pairs_181 (by decide) (fun hc => ?_) (fun hc => ?_)
            · have h := it_f hc h
              refine lv_iload X.1 X.2.1 dX12_pairs_189 (lv_at hl 3 rfl) ?_
              refine lv_iconst (v := 1) X.1 X.2.1 dX12_pairs_191 (by decide) ?_
              refine lv_iload X.1 X.2.1 dX12_pairs_192 (lv_at hl 4 rfl) ?_
              refine lv_ishl X.1 X.2.1 dX12_pairs_194 ?_
              refine lv_iconst (v := (-1)) X.1 X.2.1 dX12_pairs_195 (by decide) ?_
              refine lv_ixor X.1 X.2.1 dX12_pairs_196 ?_
              refine lv_iand X.1 X.2.1 dX12_pairs_197 ?_
              exact HJ198 (x4_5 &&& ((1 <<< (x5_14 &&& 31)) ^^^ (-1))) H locs ls h hP hS (lv_sub hl [0, 1] rfl)
            · have h := it_t hc h
              refine lv_iload X.1 X.2.1 dX12_pairs_184 (lv_at hl 3 rfl) ?_
              refine lv_goto (tgt := 198) X.1 X.2.1 dX12_pairs_186 (by decide) ?_
              exact HJ198 x4_5 H locs ls h hP hS (lv_sub hl [0, 1] rfl)
          · have h := it_t hc h
            refine lv_iload_n X.1 X.2.1 dX12_pairs_176 rfl (lv_at hl 2 rfl) ?_
            exact ret_i (fun u => (wM tc a0 u)) (res := (r0, G0)) (hR _ (Option.some.inj h).symm) X hQ hP hS dX12_pairs_177
        · have h := it_t hc h
          refine lv_iload X.1 X.2.1 dX12_pairs_167 (lv_at hl 4 rfl) ?_
          exact ret_i (fun u => (wM tc a0 u)) (res := (r0, G0)) (hR _ (Option.some.inj h).symm) X hQ hP hS dX12_pairs_169
  unfold f_X12_pairs at h
  refine lv_aload_n X.1 X.2.1 dX12_pairs_0 rfl (lv_at hl 0 rfl) ?_
  refine lv_iload_n X.1 X.2.1 dX12_pairs_1 rfl (lv_at hl 1 rfl) ?_
  refine lv_iconst (v := (-1)) X.1 X.2.1 dX12_pairs_2 (by decide) ?_
  obtain ⟨J19, eJ19, h⟩ := jn_el h
  have HJ19 : ∀ (s1_J19 : Int32) (H : Heap) (locs : List Loc) (ls : Array Slot), J19 s1_J19 = some (r0, G0) → va_P (dC, dI) vwCl (wM tc a0 g0) H → va_S A s.heap H locs → lv_has ls 7 [(0, .ref (a0 0)), (1, .int x1)] → W pr l e rm_X12_pairs s m args below meth c H locs 0 0 Q (F0 m 19 ls [.int s1_J19, .ref (a0 0)]) := by
    intro s1_J19 H locs ls h hP hS hl
    rw [eJ19] at h
    obtain ⟨g0_1, eg0_1, h⟩ := nm_el h
    refine r_put (C := RX12) (T := TX12) (N := 28) (ci := 12) tyX12 tyX12_ok nmX12 X iw12 hP (hD _) hS 0 rfl rfl 0 rfl mw_7_120 rfl rfl rfl rfl dX12_pairs_19 (wM tc a0 g0_1) (by rw [eg0_1]; rfl) (fun H locs hP hS => ?_)
    refine lv_aload_n X.1 X.2.1 dX12_pairs_22 rfl (lv_at hl 0 rfl) ?_
    refine r_get (C := RX12) (T := TX12) (N := 28) (ci := 12) (v := .int (g0_1 0 0)) X iw12 hP 0 rfl rfl 0 rfl mw_7_120 rfl dX12_pairs_23 ?_
    refine lv_if_le (tgt := 31) X.1 X.2.1 dX12_pairs_26 (by decide) (fun hc => ?_) (fun hc => ?_)
    · have h := it_t hc h
      refine lv_aload_n X.1 X.2.1 dX12_pairs_31 rfl (lv_at hl 0 rfl) ?_
      obtain ⟨g0_2, hc_2, h⟩ := bd_el h
      refine call_V1v (As := []) (rest := []) X (c_X12_allBest l dC dI sk sv tc a0 g0_1 hc_2) mw_9_214 mw_9_216 mp_6_3 mw_1_12 mw_9_217 dc_X12_allBest ⟨Nat.le_of_ble_eq_true rfl, Nat.le_of_ble_eq_true rfl⟩ rfl rfl ⟨Nat.zero_le _, Nat.zero_le _⟩ hP (hD _) hS 0 rfl rfl rfl hl.1 (Nat.le_of_ble_eq_true rfl) dX12_pairs_32 (fun H locs hP hS => ?_)
      refine lv_iconst (v := 1) X.1 X.2.1 dX12_pairs_35 (by decide) ?_
      refine lv_aload_n X.1 X.2.1 dX12_pairs_36 rfl (lv_at hl 0 rfl) ?_
      refine r_get (C := RX12) (T := TX12) (N := 28) (ci := 12) (v := .ref (a0 2)) X iw12 hP 0 rfl rfl 1 rfl mw_7_121 rfl dX12_pairs_37 ?_
      refine lv_iconst (v := 4) X.1 X.2.1 dX12_pairs_40 (by decide) ?_
      refine r_iald X hP 1 0 rfl rfl (j := 4) (by unfold vp_in; decide) (by decide) dX12_pairs_41 ?_
      refine lv_ishl X.1 X.2.1 dX12_pairs_42 ?_
      refine lv_iconst (v := 1) X.1 X.2.1 dX12_pairs_43 (by decide) ?_
      refine lv_isub X.1 X.2.1 dX12_pairs_44 ?_
      obtain ⟨x2_3, ex2_3, h⟩ := nm_el h
      refine tp_i ex2_3 ?_
      refine lv_istore_n (lv' := [(2, .int x2_3), (0, .ref (a0 0)), (1, .int x1)]) X.1 X.2.1 dX12_pairs_45 rfl hl (by decide) rfl (fun ls hl => ?_)
      refine lv_iload_n X.1 X.2.1 dX12_pairs_46 rfl (lv_at hl 2 rfl) ?_
      refine lv_iconst (v := (-1)) X.1 X.2.1 dX12_pairs_47 (by decide) ?_
      refine lv_icmp_ne (tgt := 58) X.1 X.2.1 dX12_pairs_48 (by decide) (fun hc => ?_) (fun hc => ?_)
      · have h := it_f hc h
        obtain ⟨ex_15, hL_15, h1_15, h2_15⟩ := lr_el h
        refine HL58 x1 g0_2 fu x2_3 ex_15 hL_15 (fun rv hq => h1_15 rv hq) H locs ls hP hS (lv_sub hl [1, 2, 0] rfl) (fun  he H locs ls hP hS hl => ?_)
        have h := h2_15 _ he.symm
        refine lv_iconst (v := (-1)) X.1 X.2.1 dX12_pairs_202 (by decide) ?_
        exact ret_i (fun u => (wM tc a0 u)) (res := (r0, G0)) (Option.some.inj h) X hQ hP hS dX12_pairs_203
      · have h := it_t hc h
        refine lv_aload_n X.1 X.2.1 dX12_pairs_51 rfl (lv_at hl 1 rfl) ?_
        refine r_get (C := RX12) (T := TX12) (N := 28) (ci := 12) (v := .ref (a0 24)) X iw12 hP 0 rfl rfl 23 rfl mw_7_143 rfl dX12_pairs_52 ?_
        refine lv_iload_n X.1 X.2.1 dX12_pairs_55 rfl (lv_at hl 0 rfl) ?_
        obtain ⟨hg_16, h⟩ := gdi_el h
        refine r_iald X hP 10 0 rfl rfl hg_16 rfl dX12_pairs_56 ?_
        exact ret_i (fun u => (wM tc a0 u)) (res := (r0, G0)) (Option.some.inj h) X hQ hP hS dX12_pairs_57
    · have h := it_f hc h
      refine lv_iconst (v := 0) X.1 X.2.1 dX12_pairs_29 (by decide) ?_
      exact ret_i (fun u => (wM tc a0 u)) (res := (r0, G0)) (Option.some.inj h) X hQ hP hS dX12_pairs_30
  obtain ⟨J18, eJ18, h⟩ := jn_el h
  have HJ18 : ∀ (_ : Unit) (H : Heap) (locs : List Loc) (ls : Array Slot), J18 () = some (r0, G0) → va_P (dC, dI) vwCl (wM tc a0 g0) H → va_S A s.heap H locs → lv_has ls 7 [(0, .ref (a0 0)), (1, .int x1)] → W pr l e rm_X12_pairs s m args below meth c H locs 0 0 Q (F0 m 18 ls [.ref (a0 0)]) := by
    intro _ H locs ls h hP hS hl
    rw [eJ18] at h
    refine lv_iconst (v := 0) X.1 X.2.1 dX12_pairs_18 (by decide) ?_
    exact HJ19 0 H locs ls h hP hS (lv_sub hl [0, 1] rfl)
  refine lv_icmp_eq (tgt := 18) X.1 X.2.1 dX12_pairs_3 (by decide) (fun hc => ?_) (fun hc => ?_)
  · have h := it_t hc h
    exact HJ18 () H locs ls h hP hS (lv_sub hl [0, 1] rfl)
  · have h := it_f hc h
    refine lv_aload_n X.1 X.2.1 dX12_pairs_6 rfl (lv_at hl 0 rfl) ?_
    refine lv_iload_n X.1 X.2.1 dX12_pairs_7 rfl (lv_at hl 1 rfl) ?_
    obtain ⟨r_17, hc_17, h⟩ := bd_el h
    refine call_V1i (As := [.int x1]) (rest := [.ref (a0 0)]) X (c_X12_isWriter l dC dI sk sv tc a0 g0 x1 hc_17) mw_8_176 mw_8_178 mp_4_0 mw_1_12 mw_8_179 dc_X12_isWriter ⟨Nat.le_of_ble_eq_true rfl, Nat.le_of_ble_eq_true rfl⟩ rfl rfl ⟨Nat.zero_le _, Nat.zero_le _⟩ hP (hD _) hS 0 rfl rfl rfl hl.1 (Nat.le_of_ble_eq_true rfl) dX12_pairs_8 (fun H locs hP hS => ?_)
    refine lv_if_ne (tgt := 18) X.1 X.2.1 dX12_pairs_11 (by decide) (fun hc => ?_) (fun hc => ?_)
    · have h := it_f hc h
      exact HJ18 () H locs ls h hP hS (lv_sub hl [0, 1] rfl)
    · have h := it_t hc h
      refine lv_iconst (v := 1) X.1 X.2.1 dX12_pairs_14 (by decide) ?_
      refine lv_goto (tgt := 19) X.1 X.2.1 dX12_pairs_15 (by decide) ?_
      exact HJ19 1 H locs ls h hP hS (lv_sub hl [0, 1] rfl)

def f_X12_itHas (g0 : Pic) (x1 : Int32) (x2 : Int32) (x3 : Int32) : Option (Int32) := (if x2 = 0 then jn (fun (s0_J27 : Int32) => some s0_J27) (fun J27 => (if x3 = 0 then bd (f_X12_of g0 x1 2) (fun r_2 => J27 r_2) else bd (f_X12_of g0 x1 3) (fun r_1 => J27 (-(r_1 / 10))))) else jn (fun (s0_J37 : Int32) => some s0_J37) (fun J37 => (if x3 = 0 then J37 1 else J37 4)))
abbrev rm_X12_itHas : Room := { frames := 1, cells := 0, slots := 0, locals := 22 }
set_option maxHeartbeats 4000000 in
set_option maxRecDepth 100000 in
theorem c_X12_itHas (l : Launch) (dC : Nat → ClassId) (dI : Nat → Nat → Nat) (sk sv : Nat → Nat) (tc : Nat → ClassId) (a0 : Nat → Nat) (g0 : Pic) (x1 : Int32) (x2 : Int32) (x3 : Int32) {r0 : Int32} (h : f_X12_itHas g0 x1 x2 x3 = some r0) : CT l (dC, dI) sk sv (TY tc) yX12_itHas cX12_itHas 4 (some .int) rm_X12_itHas [.ref (a0 0), .int x1, .int x2, .int x3] (wM tc a0 g0) (some (.int r0)) (wM tc a0 g0) := by
  refine ofCT (by decide) (Nat.le_of_ble_eq_true rfl) ?_
  intro pr e s m args below meth c A Q ls H locs X hQ hD0 hP hS hl
  have hD : ∀ z0, va_D A (wM tc a0 z0) := fun z0 => D_fst (ws := (wM tc a0 g0)) rfl hD0
  have hl : lv_has ls 4 [(0, .ref (a0 0)), (1, .int x1), (2, .int x2), (3, .int x3)] := hl
  unfold f_X12_itHas at h
  refine lv_iload_n X.1 X.2.1 dX12_itHas_0 rfl (lv_at hl 2 rfl) ?_
  refine lv_if_ne (tgt := 28) X.1 X.2.1 dX12_itHas_1 (by decide) (fun hc => ?_) (fun hc => ?_)
  · have h := it_f hc h
    refine lv_iload_n X.1 X.2.1 dX12_itHas_28 rfl (lv_at hl 3 rfl) ?_
    obtain ⟨J37, eJ37, h⟩ := jn_el h
    have HJ37 : ∀ (s0_J37 : Int32) (H : Heap) (locs : List Loc) (ls : Array Slot), J37 s0_J37 = some r0 → va_P (dC, dI) vwCl (wM tc a0 g0) H → va_S A s.heap H locs → lv_has ls 4 [] → W pr l e rm_X12_itHas s m args below meth c H locs 0 0 Q (F0 m 37 ls [.int s0_J37]) := by
      intro s0_J37 H locs ls h hP hS hl
      rw [eJ37] at h
      exact ret_i0 (Option.some.inj h) X hQ hP hS dX12_itHas_37
    refine lv_if_ne (tgt := 36) X.1 X.2.1 dX12_itHas_29 (by decide) (fun hc => ?_) (fun hc => ?_)
    · have h := it_f hc h
      refine lv_iconst (v := 4) X.1 X.2.1 dX12_itHas_36 (by decide) ?_
      exact HJ37 4 H locs ls h hP hS (lv_sub hl [] rfl)
    · have h := it_t hc h
      refine lv_iconst (v := 1) X.1 X.2.1 dX12_itHas_32 (by decide) ?_
      refine lv_goto (tgt := 37) X.1 X.2.1 dX12_itHas_33 (by decide) ?_
      exact HJ37 1 H locs ls h hP hS (lv_sub hl [] rfl)
  · have h := it_t hc h
    refine lv_iload_n X.1 X.2.1 dX12_itHas_4 rfl (lv_at hl 3 rfl) ?_
    obtain ⟨J27, eJ27, h⟩ := jn_el h
    have HJ27 : ∀ (s0_J27 : Int32) (H : Heap) (locs : List Loc) (ls : Array Slot), J27 s0_J27 = some r0 → va_P (dC, dI) vwCl (wM tc a0 g0) H → va_S A s.heap H locs → lv_has ls 4 [] → W pr l e rm_X12_itHas s m args below meth c H locs 0 0 Q (F0 m 27 ls [.int s0_J27]) := by
      intro s0_J27 H locs ls h hP hS hl
      rw [eJ27] at h
      exact ret_i0 (Option.some.inj h) X hQ hP hS dX12_itHas_27
    refine lv_if_ne (tgt := 17) X.1 X.2.1 dX12_itHas_5 (by decide) (fun hc => ?_) (fun hc => ?_)
    · have h := it_f hc h
      refine lv_aload_n X.1 X.2.1 dX12_itHas_17 rfl (lv_at hl 0 rfl) ?_
      refine lv_iload_n X.1 X.2.1 dX12_itHas_18 rfl (lv_at hl 1 rfl) ?_
      refine lv_iconst (v := 3) X.1 X.2.1 dX12_itHas_19 (by decide) ?_
      obtain ⟨r_1, hc_1, h⟩ := bd_el h
      refine call_V1i (As := [.int x1, .int 3]) (rest := []) X (c_X12_of l dC dI sk sv tc a0 g0 x1 3 hc_1) mw_8_180 mw_8_182 mp_4_1 mw_1_12 mw_8_183 dc_X12_of ⟨Nat.le_of_ble_eq_true rfl, Nat.le_of_ble_eq_true rfl⟩ rfl rfl ⟨Nat.zero_le _, Nat.zero_le _⟩ hP (hD _) hS 0 rfl rfl rfl hl.1 (Nat.le_of_ble_eq_true rfl) dX12_itHas_20 (fun H locs hP hS => ?_)
      refine lv_bipush (v := 10) X.1 X.2.1 dX12_itHas_23 (by decide) ?_
      refine lv_idiv X.1 X.2.1 dX12_itHas_25 (by decide) ?_
      refine lv_ineg X.1 X.2.1 dX12_itHas_26 ?_
      exact HJ27 (-(r_1 / 10)) H locs ls h hP hS (lv_sub hl [] rfl)
    · have h := it_t hc h
      refine lv_aload_n X.1 X.2.1 dX12_itHas_8 rfl (lv_at hl 0 rfl) ?_
      refine lv_iload_n X.1 X.2.1 dX12_itHas_9 rfl (lv_at hl 1 rfl) ?_
      refine lv_iconst (v := 2) X.1 X.2.1 dX12_itHas_10 (by decide) ?_
      obtain ⟨r_2, hc_2, h⟩ := bd_el h
      refine call_V1i (As := [.int x1, .int 2]) (rest := []) X (c_X12_of l dC dI sk sv tc a0 g0 x1 2 hc_2) mw_8_180 mw_8_182 mp_4_1 mw_1_12 mw_8_183 dc_X12_of ⟨Nat.le_of_ble_eq_true rfl, Nat.le_of_ble_eq_true rfl⟩ rfl rfl ⟨Nat.zero_le _, Nat.zero_le _⟩ hP (hD _) hS 0 rfl rfl rfl hl.1 (Nat.le_of_ble_eq_true rfl) dX12_itHas_11 (fun H locs hP hS => ?_)
      refine lv_goto (tgt := 27) X.1 X.2.1 dX12_itHas_14 (by decide) ?_
      exact HJ27 r_2 H locs ls h hP hS (lv_sub hl [] rfl)

def f_X12_speakerHas (g0 : Pic) (x1 : Int32) (x2 : Int32) (x3 : Int32) : Option (Int32) := (if x2 = 0 then jn (fun (s0_J13 : Int32) => some s0_J13) (fun J13 => (if x3 = 0 then J13 2 else J13 1)) else jn (fun (s0_J29 : Int32) => some s0_J29) (fun J29 => (if x3 = 0 then bd (f_X12_of g0 x1 1) (fun r_1 => J29 (-r_1)) else J29 3)))
abbrev rm_X12_speakerHas : Room := { frames := 1, cells := 0, slots := 0, locals := 22 }
set_option maxHeartbeats 4000000 in
set_option maxRecDepth 100000 in
theorem c_X12_speakerHas (l : Launch) (dC : Nat → ClassId) (dI : Nat → Nat → Nat) (sk sv : Nat → Nat) (tc : Nat → ClassId) (a0 : Nat → Nat) (g0 : Pic) (x1 : Int32) (x2 : Int32) (x3 : Int32) {r0 : Int32} (h : f_X12_speakerHas g0 x1 x2 x3 = some r0) : CT l (dC, dI) sk sv (TY tc) yX12_speakerHas cX12_speakerHas 4 (some .int) rm_X12_speakerHas [.ref (a0 0), .int x1, .int x2, .int x3] (wM tc a0 g0) (some (.int r0)) (wM tc a0 g0) := by
  refine ofCT (by decide) (Nat.le_of_ble_eq_true rfl) ?_
  intro pr e s m args below meth c A Q ls H locs X hQ hD0 hP hS hl
  have hD : ∀ z0, va_D A (wM tc a0 z0) := fun z0 => D_fst (ws := (wM tc a0 g0)) rfl hD0
  have hl : lv_has ls 4 [(0, .ref (a0 0)), (1, .int x1), (2, .int x2), (3, .int x3)] := hl
  unfold f_X12_speakerHas at h
  refine lv_iload_n X.1 X.2.1 dX12_speakerHas_0 rfl (lv_at hl 2 rfl) ?_
  refine lv_if_ne (tgt := 14) X.1 X.2.1 dX12_speakerHas_1 (by decide) (fun hc => ?_) (fun hc => ?_)
  · have h := it_f hc h
    refine lv_iload_n X.1 X.2.1 dX12_speakerHas_14 rfl (lv_at hl 3 rfl) ?_
    obtain ⟨J29, eJ29, h⟩ := jn_el h
    have HJ29 : ∀ (s0_J29 : Int32) (H : Heap) (locs : List Loc) (ls : Array Slot), J29 s0_J29 = some r0 → va_P (dC, dI) vwCl (wM tc a0 g0) H → va_S A s.heap H locs → lv_has ls 4 [] → W pr l e rm_X12_speakerHas s m args below meth c H locs 0 0 Q (F0 m 29 ls [.int s0_J29]) := by
      intro s0_J29 H locs ls h hP hS hl
      rw [eJ29] at h
      exact ret_i0 (Option.some.inj h) X hQ hP hS dX12_speakerHas_29
    refine lv_if_ne (tgt := 28) X.1 X.2.1 dX12_speakerHas_15 (by decide) (fun hc => ?_) (fun hc => ?_)
    · have h := it_f hc h
      refine lv_iconst (v := 3) X.1 X.2.1 dX12_speakerHas_28 (by decide) ?_
      exact HJ29 3 H locs ls h hP hS (lv_sub hl [] rfl)
    · have h := it_t hc h
      refine lv_aload_n X.1 X.2.1 dX12_speakerHas_18 rfl (lv_at hl 0 rfl) ?_
      refine lv_iload_n X.1 X.2.1 dX12_speakerHas_19 rfl (lv_at hl 1 rfl) ?_
      refine lv_iconst (v := 1) X.1 X.2.1 dX12_speakerHas_20 (by decide) ?_
      obtain ⟨r_1, hc_1, h⟩ := bd_el h
      refine call_V1i (As := [.int x1, .int 1]) (rest := []) X (c_X12_of l dC dI sk sv tc a0 g0 x1 1 hc_1) mw_8_180 mw_8_182 mp_4_1 mw_1_12 mw_8_183 dc_X12_of ⟨Nat.le_of_ble_eq_true rfl, Nat.le_of_ble_eq_true rfl⟩ rfl rfl ⟨Nat.zero_le _, Nat.zero_le _⟩ hP (hD _) hS 0 rfl rfl rfl hl.1 (Nat.le_of_ble_eq_true rfl) dX12_speakerHas_21 (fun H locs hP hS => ?_)
      refine lv_ineg X.1 X.2.1 dX12_speakerHas_24 ?_
      refine lv_goto (tgt := 29) X.1 X.2.1 dX12_speakerHas_25 (by decide) ?_
      exact HJ29 (-r_1) H locs ls h hP hS (lv_sub hl [] rfl)
  · have h := it_t hc h
    refine lv_iload_n X.1 X.2.1 dX12_speakerHas_4 rfl (lv_at hl 3 rfl) ?_
    obtain ⟨J13, eJ13, h⟩ := jn_el h
    have HJ13 : ∀ (s0_J13 : Int32) (H : Heap) (locs : List Loc) (ls : Array Slot), J13 s0_J13 = some r0 → va_P (dC, dI) vwCl (wM tc a0 g0) H → va_S A s.heap H locs → lv_has ls 4 [] → W pr l e rm_X12_speakerHas s m args below meth c H locs 0 0 Q (F0 m 13 ls [.int s0_J13]) := by
      intro s0_J13 H locs ls h hP hS hl
      rw [eJ13] at h
      exact ret_i0 (Option.some.inj h) X hQ hP hS dX12_speakerHas_13
    refine lv_if_ne (tgt := 12) X.1 X.2.1 dX12_speakerHas_5 (by decide) (fun hc => ?_) (fun hc => ?_)
    · have h := it_f hc h
      refine lv_iconst (v := 1) X.1 X.2.1 dX12_speakerHas_12 (by decide) ?_
      exact HJ13 1 H locs ls h hP hS (lv_sub hl [] rfl)
    · have h := it_t hc h
      refine lv_iconst (v := 2) X.1 X.2.1 dX12_speakerHas_8 (by decide) ?_
      refine lv_goto (tgt := 13) X.1 X.2.1 dX12_speakerHas_9 (by decide) ?_
      exact HJ13 2 H locs ls h hP hS (lv_sub hl [] rfl)

def f_X12_rests_L30 (x1 : Int32) (g0 : Pic) (n : Nat) (a : Int32 × Int32) : Option (Int32) := lp (fun (rec : Int32 × Int32 → Option (Int32)) (a : Int32 × Int32) => match a with | (x2, x3) => (if 4 ≤ x3 then some x2 else nm ((x3 / 2)) (fun x4_3 => nm ((x3 - x3 / 2 * 2)) (fun x5_4 => bd (f_X12_itHas g0 x1 (1 - x4_3) x5_4) (fun r_5 => bd (f_X12_itHas g0 x1 x4_3 x5_4) (fun r_6 => jn (fun (x2_J97 : Int32) => nm (x3 + 1) (fun x3_7 => rec (x2_J97, x3_7))) (fun J97 => (if r_6 < r_5 then J97 x2 else bd (f_X12_speakerHas g0 x1 x4_3 (1 - x5_4)) (fun r_8 => bd (f_X12_speakerHas g0 x1 x4_3 x5_4) (fun r_9 => (if r_9 < r_8 then J97 x2 else nm ((x2 ||| (1 <<< (x3 &&& 31)))) (fun x2_10 => J97 x2_10)))))))))))) n a
def f_X12_rests (g0 : Pic) (x1 : Int32) : Option (Int32 × Pic) := bd (f_X12_isWriter g0 x1) (fun r_1 => jn (fun (s1_J14 : Int32) => nm (pu g0 0 0 s1_J14) (fun g0_2 => (if (g0_2 0 0) ≤ 0 then bd (f_X12_rests_L30 x1 g0_2 fu (0, 0)) (fun x2_11 => some (x2_11, g0_2)) else some (0, g0_2)))) (fun J14 => (if r_1 = 0 then J14 1 else J14 0)))
abbrev rm_X12_rests : Room := { frames := 2, cells := 0, slots := 0, locals := 45 }
set_option maxHeartbeats 4000000 in
set_option maxRecDepth 100000 in
theorem c_X12_rests (l : Launch) (dC : Nat → ClassId) (dI : Nat → Nat → Nat) (sk sv : Nat → Nat) (tc : Nat → ClassId) (a0 : Nat → Nat) (g0 : Pic) (x1 : Int32) {r0 : Int32} {G0 : Pic} (h : f_X12_rests g0 x1 = some (r0, G0)) : CT l (dC, dI) sk sv (TY tc) yX12_rests cX12_rests 6 (some .int) rm_X12_rests [.ref (a0 0), .int x1] (wM tc a0 g0) (some (.int r0)) (wM tc a0 G0) := by
  refine ofCT (by decide) (Nat.le_of_ble_eq_true rfl) ?_
  intro pr e s m args below meth c A Q ls H locs X hQ hD0 hP hS hl
  have hD : ∀ z0, va_D A (wM tc a0 z0) := fun z0 => D_fst (ws := (wM tc a0 g0)) rfl hD0
  have hl : lv_has ls 6 [(0, .ref (a0 0)), (1, .int x1)] := hl
  have HL30 : ∀ (x1 : Int32) (g0 : Pic) (n : Nat) (x2 : Int32) (x3 : Int32) (ex : (Int32)), f_X12_rests_L30 x1 g0 n (x2, x3) = some ex → ∀ (H : Heap) (locs : List Loc) (ls : Array Slot), va_P (dC, dI) vwCl (wM tc a0 g0) H → va_S A s.heap H locs → lv_has ls 6 [(0, .ref (a0 0)), (1, .int x1), (2, .int x2), (3, .int x3)] → (∀ (y2 : Int32), y2 = ex → ∀ (H : Heap) (locs : List Loc) (ls : Array Slot), va_P (dC, dI) vwCl (wM tc a0 g0) H → va_S A s.heap H locs → lv_has ls 6 [(2, .int y2)] → W pr l e rm_X12_rests s m args below meth c H locs 0 0 Q (F0 m 103 ls [])) → W pr l e rm_X12_rests s m args below meth c H locs 0 0 Q (F0 m 30 ls []) := by
    intro x1 g0 n
    induction n with
    | zero => intro x2 x3 ex h; exact lp_z h
    | succ n ih =>
      intro x2 x3 ex h H locs ls hP hS hl K
      have h := lp_s h
      refine lv_iload_n X.1 X.2.1 dX12_rests_30 rfl (lv_at hl 3 rfl) ?_
      refine lv_iconst (v := 4) X.1 X.2.1 dX12_rests_31 (by decide) ?_
      refine lv_icmp_ge (tgt := 103) X.1 X.2.1 dX12_rests_32 (by decide) (fun hc => ?_) (fun hc => ?_)
      · have h := it_t hc h
        exact K x2 (Option.some.inj h) H locs ls hP hS (lv_sub hl [2] rfl)
      · have h := it_f hc h
        refine lv_iload_n X.1 X.2.1 dX12_rests_35 rfl (lv_at hl 3 rfl) ?_
        refine lv_iconst (v := 2) X.1 X.2.1 dX12_rests_36 (by decide) ?_
        refine lv_idiv X.1 X.2.1 dX12_rests_37 (by decide) ?_
        obtain ⟨x4_3, ex4_3, h⟩ := nm_el h
        refine tp_i ex4_3 ?_
        refine lv_istore (lv' := [(4, .int x4_3), (0, .ref (a0 0)), (1, .int x1), (2, .int x2), (3, .int x3)]) X.1 X.2.1 dX12_rests_38 hl (by decide) rfl (fun ls hl => ?_)
        refine lv_iload_n X.1 X.2.1 dX12_rests_40 rfl (lv_at hl 4 rfl) ?_
        refine lv_iconst (v := 2) X.1 X.2.1 dX12_rests_41 (by decide) ?_
        refine lv_irem X.1 X.2.1 dX12_rests_42 (by decide) ?_
        obtain ⟨x5_4, ex5_4, h⟩ := nm_el h
        refine tp_i ex5_4 ?_
        refine lv_istore (lv' := [(5, .int x5_4), (4, .int x4_3), (0, .ref (a0 0)), (1, .int x1), (2, .int x2), (3, .int x3)]) X.1 X.2.1 dX12_rests_43 hl (by decide) rfl (fun ls hl => ?_)
        refine lv_aload_n X.1 X.2.1 dX12_rests_45 rfl (lv_at hl 2 rfl) ?_
        refine lv_iload_n X.1 X.2.1 dX12_rests_46 rfl (lv_at hl 3 rfl) ?_
        refine lv_iconst (v := 1) X.1 X.2.1 dX12_rests_47 (by decide) ?_
        refine lv_iload X.1 X.2.1 dX12_rests_48 (lv_at hl 1 rfl) ?_
        refine lv_isub X.1 X.2.1 dX12_rests_50 ?_
        refine lv_iload X.1 X.2.1 dX12_rests_51 (lv_at hl 0 rfl) ?_
        obtain ⟨r_5, hc_5, h⟩ := bd_el h
        refine call_V1i (As := [.int x1, .int (1 - x4_3), .int x5_4]) (rest := []) X (c_X12_itHas l dC dI sk sv tc a0 g0 x1 (1 - x4_3) x5_4 hc_5) mw_9_229 mw_9_231 mp_6_5 mw_1_12 mw_9_232 dc_X12_itHas ⟨Nat.le_of_ble_eq_true rfl, Nat.le_of_ble_eq_true rfl⟩ rfl rfl ⟨Nat.zero_le _, Nat.zero_le _⟩ hP (hD _) hS 0 rfl rfl rfl hl.1 (Nat.le_of_ble_eq_true rfl) dX12_rests_53 (fun H locs hP hS => ?_)
        refine lv_aload_n X.1 X.2.1 dX12_rests_56 rfl (lv_at hl 2 rfl) ?_
        refine lv_iload_n X.1 X.2.1 dX12_rests_57 rfl (lv_at hl 3 rfl) ?_
        refine lv_iload X.1 X.2.1 dX12_rests_58 (lv_at hl 1 rfl) ?_
        refine lv_iload X.1 X.2.1 dX12_rests_60 (lv_at hl 0 rfl) ?_
        obtain ⟨r_6, hc_6, h⟩ := bd_el h
        refine call_V1i (As := [.int x1, .int x4_3, .int x5_4]) (rest := [.int r_5]) X (c_X12_itHas l dC dI sk sv tc a0 g0 x1 x4_3 x5_4 hc_6) mw_9_229 mw_9_231 mp_6_5 mw_1_12 mw_9_232 dc_X12_itHas ⟨Nat.le_of_ble_eq_true rfl, Nat.le_of_ble_eq_true rfl⟩ rfl rfl ⟨Nat.zero_le _, Nat.zero_le _⟩ hP (hD _) hS 0 rfl rfl rfl hl.1 (Nat.le_of_ble_eq_true rfl) dX12_rests_62 (fun H locs hP hS => ?_)
        obtain ⟨J97, eJ97, h⟩ := jn_el h
        have HJ97 : ∀ (x2_J97 : Int32) (H : Heap) (locs : List Loc) (ls : Array Slot), J97 x2_J97 = some ex → va_P (dC, dI) vwCl (wM tc a0 g0) H → va_S A s.heap H locs → lv_has ls 6 [(0, .ref (a0 0)), (1, .int x1), (2, .int x2_J97), (3, .int x3)] → W pr l e rm_X12_rests s m args below meth c H locs 0 0 Q (F0 m 97 ls []) := by
          intro x2_J97 H locs ls h hP hS hl
          rw [eJ97] at h
          obtain ⟨x3_7, ex3_7, h⟩ := nm_el h
          refine lv_iinc (v := x3_7) (lv' := [(3, .int x3_7), (0, .ref (a0 0)), (1, .int x1), (2, .int x2_J97)]) X.1 X.2.1 dX12_rests_97 hl (k := 3) rfl (by rw [ex3_7]; rfl) (by decide) rfl (fun ls hl => ?_)
          refine lv_goto (tgt := 30) X.1 X.2.1 dX12_rests_100 (by decide) ?_
          exact ih x2_J97 x3_7 ex h H locs ls hP hS (lv_sub hl [1, 2, 3, 0] rfl) K
        refine lv_icmp_gt (tgt := 97) X.1 X.2.1 dX12_rests_65 (by decide) (fun hc => ?_) (fun hc => ?_)
        · have h := it_t hc h
          exact HJ97 x2 H locs ls h hP hS (lv_sub hl [2, 3, 4, 5] rfl)
        · have h := it_f hc h
          refine lv_aload_n X.1 X.2.1 dX12_rests_68 rfl (lv_at hl 2 rfl) ?_
          refine lv_iload_n X.1 X.2.1 dX12_rests_69 rfl (lv_at hl 3 rfl) ?_
          refine lv_iload X.1 X.2.1 dX12_rests_70 (lv_at hl 1 rfl) ?_
          refine lv_iconst (v := 1) X.1 X.2.1 dX12_rests_72 (by decide) ?_
          refine lv_iload X.1 X.2.1 dX12_rests_73 (lv_at hl 0 rfl) ?_
          refine lv_isub X.1 X.2.1 dX12_rests_75 ?_
          obtain ⟨r_8, hc_8, h⟩ := bd_el h
          refine call_V1i (As := [.int x1, .int x4_3, .int (1 - x5_4)]) (rest := []) X (c_X12_speakerHas l dC dI sk sv tc a0 g0 x1 x4_3 (1 - x5_4) hc_8) mw_9_233 mw_9_235 mp_6_6 mw_1_12 mw_9_236 dc_X12_speakerHas ⟨Nat.le_of_ble_eq_true rfl, Nat.le_of_ble_eq_true rfl⟩ rfl rfl ⟨Nat.zero_le _, Nat.zero_le _⟩ hP (hD _) hS 0 rfl rfl rfl hl.1 (Nat.le_of_ble_eq_true rfl) dX12_rests_76 (fun H locs hP hS => ?_)
          refine lv_aload_n X.1 X.2.1 dX12_rests_79 rfl (lv_at hl 2 rfl) ?_
          refine lv_iload_n X.1 X.2.1 dX12_rests_80 rfl (lv_at hl 3 rfl) ?_
          refine lv_iload X.1 X.2.1 dX12_rests_81 (lv_at hl 1 rfl) ?_
          refine lv_iload X.1 X.2.1 dX12_rests_83 (lv_at hl 0 rfl) ?_
          obtain ⟨r_9, hc_9, h⟩ := bd_el h
          refine call_V1i (As := [.int x1, .int x4_3, .int x5_4]) (rest := [.int r_8]) X (c_X12_speakerHas l dC dI sk sv tc a0 g0 x1 x4_3 x5_4 hc_9) mw_9_233 mw_9_235 mp_6_6 mw_1_12 mw_9_236 dc_X12_speakerHas ⟨Nat.le_of_ble_eq_true rfl, Nat.le_of_ble_eq_true rfl⟩ rfl rfl ⟨Nat.zero_le _, Nat.zero_le _⟩ hP (hD _) hS 0 rfl rfl rfl hl.1 (Nat.le_of_ble_eq_true rfl) dX12_rests_85 (fun H locs hP hS => ?_)
          refine lv_icmp_gt (tgt := 97) X.1 X.2.1 dX12_rests_88 (by decide) (fun hc => ?_) (fun hc => ?_)
          · have h := it_t hc h
            exact HJ97 x2 H locs ls h hP hS (lv_sub hl [2, 3, 4, 5] rfl)
          · have h := it_f hc h
            refine lv_iload_n X.1 X.2.1 dX12_rests_91 rfl (lv_at hl 4 rfl) ?_
            refine lv_iconst (v := 1) X.1 X.2.1 dX12_rests_92 (by decide) ?_
            refine lv_iload_n X.1 X.2.1 dX12_rests_93 rfl (lv_at hl 5 rfl) ?_
            refine lv_ishl X.1 X.2.1 dX12_rests_94 ?_
            refine lv_ior X.1 X.2.1 dX12_rests_95 ?_
            obtain ⟨x2_10, ex2_10, h⟩ := nm_el h
            refine tp_i ex2_10 ?_
            refine lv_istore_n (lv' := [(2, .int x2_10), (5, .int x5_4), (4, .int x4_3), (0, .ref (a0 0)), (1, .int x1), (3, .int x3)]) X.1 X.2.1 dX12_rests_96 rfl hl (by decide) rfl (fun ls hl => ?_)
            exact HJ97 x2_10 H locs ls h hP hS (lv_sub hl [3, 4, 0, 5] rfl)
  unfold f_X12_rests at h
  refine lv_aload_n X.1 X.2.1 dX12_rests_0 rfl (lv_at hl 0 rfl) ?_
  refine lv_aload_n X.1 X.2.1 dX12_rests_1 rfl (lv_at hl 0 rfl) ?_
  refine lv_iload_n X.1 X.2.1 dX12_rests_2 rfl (lv_at hl 1 rfl) ?_
  obtain ⟨r_1, hc_1, h⟩ := bd_el h
  refine call_V1i (As := [.int x1]) (rest := [.ref (a0 0)]) X (c_X12_isWriter l dC dI sk sv tc a0 g0 x1 hc_1) mw_8_176 mw_8_178 mp_4_0 mw_1_12 mw_8_179 dc_X12_isWriter ⟨Nat.le_of_ble_eq_true rfl, Nat.le_of_ble_eq_true rfl⟩ rfl rfl ⟨Nat.zero_le _, Nat.zero_le _⟩ hP (hD _) hS 0 rfl rfl rfl hl.1 (Nat.le_of_ble_eq_true rfl) dX12_rests_3 (fun H locs hP hS => ?_)
  obtain ⟨J14, eJ14, h⟩ := jn_el h
  have HJ14 : ∀ (s1_J14 : Int32) (H : Heap) (locs : List Loc) (ls : Array Slot), J14 s1_J14 = some (r0, G0) → va_P (dC, dI) vwCl (wM tc a0 g0) H → va_S A s.heap H locs → lv_has ls 6 [(0, .ref (a0 0)), (1, .int x1)] → W pr l e rm_X12_rests s m args below meth c H locs 0 0 Q (F0 m 14 ls [.int s1_J14, .ref (a0 0)]) := by
    intro s1_J14 H locs ls h hP hS hl
    rw [eJ14] at h
    obtain ⟨g0_2, eg0_2, h⟩ := nm_el h
    refine r_put (C := RX12) (T := TX12) (N := 28) (ci := 12) tyX12 tyX12_ok nmX12 X iw12 hP (hD _) hS 0 rfl rfl 0 rfl mw_7_120 rfl rfl rfl rfl dX12_rests_14 (wM tc a0 g0_2) (by rw [eg0_2]; rfl) (fun H locs hP hS => ?_)
    refine lv_aload_n X.1 X.2.1 dX12_rests_17 rfl (lv_at hl 0 rfl) ?_
    refine r_get (C := RX12) (T := TX12) (N := 28) (ci := 12) (v := .int (g0_2 0 0)) X iw12 hP 0 rfl rfl 0 rfl mw_7_120 rfl dX12_rests_18 ?_
    refine lv_if_le (tgt := 26) X.1 X.2.1 dX12_rests_21 (by decide) (fun hc => ?_) (fun hc => ?_)
    · have h := it_t hc h
      refine lv_iconst (v := 0) X.1 X.2.1 dX12_rests_26 (by decide) ?_
      refine lv_istore_n (lv' := [(2, .int 0), (0, .ref (a0 0)), (1, .int x1)]) X.1 X.2.1 dX12_rests_27 rfl hl (by decide) rfl (fun ls hl => ?_)
      refine lv_iconst (v := 0) X.1 X.2.1 dX12_rests_28 (by decide) ?_
      refine lv_istore_n (lv' := [(3, .int 0), (2, .int 0), (0, .ref (a0 0)), (1, .int x1)]) X.1 X.2.1 dX12_rests_29 rfl hl (by decide) rfl (fun ls hl => ?_)
      obtain ⟨ex_11, hL_11, h⟩ := bd_el h
      refine HL30 x1 g0_2 fu 0 0 ex_11 hL_11 H locs ls hP hS (lv_sub hl [2, 3, 1, 0] rfl) (fun x2_11 he H locs ls hP hS hl => ?_)
      subst he
      refine lv_iload_n X.1 X.2.1 dX12_rests_103 rfl (lv_at hl 0 rfl) ?_
      exact ret_i (fun u => (wM tc a0 u)) (res := (r0, G0)) (Option.some.inj h) X hQ hP hS dX12_rests_104
    · have h := it_f hc h
      refine lv_iconst (v := 0) X.1 X.2.1 dX12_rests_24 (by decide) ?_
      exact ret_i (fun u => (wM tc a0 u)) (res := (r0, G0)) (Option.some.inj h) X hQ hP hS dX12_rests_25
  refine lv_if_ne (tgt := 13) X.1 X.2.1 dX12_rests_6 (by decide) (fun hc => ?_) (fun hc => ?_)
  · have h := it_f hc h
    refine lv_iconst (v := 0) X.1 X.2.1 dX12_rests_13 (by decide) ?_
    exact HJ14 0 H locs ls h hP hS (lv_sub hl [0, 1] rfl)
  · have h := it_t hc h
    refine lv_iconst (v := 1) X.1 X.2.1 dX12_rests_9 (by decide) ?_
    refine lv_goto (tgt := 14) X.1 X.2.1 dX12_rests_10 (by decide) ?_
    exact HJ14 1 H locs ls h hP hS (lv_sub hl [0, 1] rfl)

def f_X12_oftenest_L22 (x2 : Int32) (g0 : Pic) (n : Nat) (a : Int32 × Int32) : Option (Int32) := lp (fun (rec : Int32 × Int32 → Option (Int32)) (a : Int32 × Int32) => match a with | (x3, x4) => (if (g0 1 3) ≤ x4 then some x3 else jn (fun (x3_J57 : Int32) => nm (x4 + 1) (fun x4_2 => rec (x3_J57, x4_2))) (fun J57 => jn (fun (_ : Unit) => J57 x4) (fun J54 => (if x3 = (-1) then J54 () else bd (f_X12_ofWord g0 x4 x2) (fun r_3 => bd (f_X12_ofWord g0 x3 x2) (fun r_4 => (if r_3 ≤ r_4 then J57 x3 else J54 ())))))))) n a
def f_X12_oftenest (g0 : Pic) (x1 : Int32) : Option (Int32 × Pic) := nm (pu g0 0 0 0) (fun g0_1 => jn (fun (s0_J16 : Int32) => bd (f_X12_oftenest_L22 s0_J16 g0_1 fu ((-1), 0)) (fun x3_5 => some (x3_5, g0_1))) (fun J16 => (if x1 = 0 then J16 6 else J16 7)))
abbrev rm_X12_oftenest : Room := { frames := 1, cells := 0, slots := 0, locals := 22 }
set_option maxHeartbeats 4000000 in
set_option maxRecDepth 100000 in
theorem c_X12_oftenest (l : Launch) (dC : Nat → ClassId) (dI : Nat → Nat → Nat) (sk sv : Nat → Nat) (tc : Nat → ClassId) (a0 : Nat → Nat) (g0 : Pic) (x1 : Int32) {r0 : Int32} {G0 : Pic} (h : f_X12_oftenest g0 x1 = some (r0, G0)) : CT l (dC, dI) sk sv (TY tc) yX12_oftenest cX12_oftenest 5 (some .int) rm_X12_oftenest [.ref (a0 0), .int x1] (wM tc a0 g0) (some (.int r0)) (wM tc a0 G0) := by
  refine ofCT (by decide) (Nat.le_of_ble_eq_true rfl) ?_
  intro pr e s m args below meth c A Q ls H locs X hQ hD0 hP hS hl
  have hD : ∀ z0, va_D A (wM tc a0 z0) := fun z0 => D_fst (ws := (wM tc a0 g0)) rfl hD0
  have hl : lv_has ls 5 [(0, .ref (a0 0)), (1, .int x1)] := hl
  have HL22 : ∀ (x2 : Int32) (g0 : Pic) (n : Nat) (x3 : Int32) (x4 : Int32) (ex : (Int32)), f_X12_oftenest_L22 x2 g0 n (x3, x4) = some ex → ∀ (H : Heap) (locs : List Loc) (ls : Array Slot), va_P (dC, dI) vwCl (wM tc a0 g0) H → va_S A s.heap H locs → lv_has ls 5 [(0, .ref (a0 0)), (2, .int x2), (3, .int x3), (4, .int x4)] → (∀ (y3 : Int32), y3 = ex → ∀ (H : Heap) (locs : List Loc) (ls : Array Slot), va_P (dC, dI) vwCl (wM tc a0 g0) H → va_S A s.heap H locs → lv_has ls 5 [(3, .int y3)] → W pr l e rm_X12_oftenest s m args below meth c H locs 0 0 Q (F0 m 63 ls [])) → W pr l e rm_X12_oftenest s m args below meth c H locs 0 0 Q (F0 m 22 ls []) := by
    intro x2 g0 n
    induction n with
    | zero => intro x3 x4 ex h; exact lp_z h
    | succ n ih =>
      intro x3 x4 ex h H locs ls hP hS hl K
      have h := lp_s h
      refine lv_iload X.1 X.2.1 dX12_oftenest_22 (lv_at hl 3 rfl) ?_
      refine lv_aload_n X.1 X.2.1 dX12_oftenest_24 rfl (lv_at hl 0 rfl) ?_
      refine r_get (C := RX12) (T := TX12) (N := 28) (ci := 12) (v := .ref (a0 2)) X iw12 hP 0 rfl rfl 1 rfl mw_7_121 rfl dX12_oftenest_25 ?_
      refine lv_iconst (v := 3) X.1 X.2.1 dX12_oftenest_28 (by decide) ?_
      refine r_iald X hP 1 0 rfl rfl (j := 3) (by unfold vp_in; decide) (by decide) dX12_oftenest_29 ?_
      refine lv_icmp_ge (tgt := 63) X.1 X.2.1 dX12_oftenest_30 (by decide) (fun hc => ?_) (fun hc => ?_)
      · have h := it_t hc h
        exact K x3 (Option.some.inj h) H locs ls hP hS (lv_sub hl [2] rfl)
      · have h := it_f hc h
        refine lv_iload_n X.1 X.2.1 dX12_oftenest_33 rfl (lv_at hl 2 rfl) ?_
        refine lv_iconst (v := (-1)) X.1 X.2.1 dX12_oftenest_34 (by decide) ?_
        obtain ⟨J57, eJ57, h⟩ := jn_el h
        have HJ57 : ∀ (x3_J57 : Int32) (H : Heap) (locs : List Loc) (ls : Array Slot), J57 x3_J57 = some ex → va_P (dC, dI) vwCl (wM tc a0 g0) H → va_S A s.heap H locs → lv_has ls 5 [(0, .ref (a0 0)), (2, .int x2), (3, .int x3_J57), (4, .int x4)] → W pr l e rm_X12_oftenest s m args below meth c H locs 0 0 Q (F0 m 57 ls []) := by
          intro x3_J57 H locs ls h hP hS hl
          rw [eJ57] at h
          obtain ⟨x4_2, ex4_2, h⟩ := nm_el h
          refine lv_iinc (v := x4_2) (lv' := [(4, .int x4_2), (0, .ref (a0 0)), (2, .int x2), (3, .int x3_J57)]) X.1 X.2.1 dX12_oftenest_57 hl (k := 3) rfl (by rw [ex4_2]; rfl) (by decide) rfl (fun ls hl => ?_)
          refine lv_goto (tgt := 22) X.1 X.2.1 dX12_oftenest_60 (by decide) ?_
          exact ih x3_J57 x4_2 ex h H locs ls hP hS (lv_sub hl [1, 2, 3, 0] rfl) K
        obtain ⟨J54, eJ54, h⟩ := jn_el h
        have HJ54 : ∀ (_ : Unit) (H : Heap) (locs : List Loc) (ls : Array Slot), J54 () = some ex → va_P (dC, dI) vwCl (wM tc a0 g0) H → va_S A s.heap H locs → lv_has ls 5 [(0, .ref (a0 0)), (2, .int x2), (4, .int x4)] → W pr l e rm_X12_oftenest s m args below meth c H locs 0 0 Q (F0 m 54 ls []) := by
          intro _ H locs ls h hP hS hl
          rw [eJ54] at h
          refine lv_iload X.1 X.2.1 dX12_oftenest_54 (lv_at hl 2 rfl) ?_
          refine lv_istore_n (lv' := [(3, .int x4), (0, .ref (a0 0)), (2, .int x2), (4, .int x4)]) X.1 X.2.1 dX12_oftenest_56 rfl hl (by decide) rfl (fun ls hl => ?_)
          exact HJ57 x4 H locs ls h hP hS (lv_sub hl [1, 2, 0, 3] rfl)
        refine lv_icmp_eq (tgt := 54) X.1 X.2.1 dX12_oftenest_35 (by decide) (fun hc => ?_) (fun hc => ?_)
        · have h := it_t hc h
          exact HJ54 () H locs ls h hP hS (lv_sub hl [0, 1, 3] rfl)
        · have h := it_f hc h
          refine lv_aload_n X.1 X.2.1 dX12_oftenest_38 rfl (lv_at hl 0 rfl) ?_
          refine lv_iload X.1 X.2.1 dX12_oftenest_39 (lv_at hl 3 rfl) ?_
          refine lv_iload_n X.1 X.2.1 dX12_oftenest_41 rfl (lv_at hl 1 rfl) ?_
          obtain ⟨r_3, hc_3, h⟩ := bd_el h
          refine call_V1i (As := [.int x4, .int x2]) (rest := []) X (c_X12_ofWord l dC dI sk sv tc a0 g0 x4 x2 hc_3) mw_8_140 mw_8_142 mp_3_10 mw_1_12 mw_8_143 dc_X12_ofWord ⟨Nat.le_of_ble_eq_true rfl, Nat.le_of_ble_eq_true rfl⟩ rfl rfl ⟨Nat.zero_le _, Nat.zero_le _⟩ hP (hD _) hS 0 rfl rfl rfl hl.1 (Nat.le_of_ble_eq_true rfl) dX12_oftenest_42 (fun H locs hP hS => ?_)
          refine lv_aload_n X.1 X.2.1 dX12_oftenest_45 rfl (lv_at hl 0 rfl) ?_
          refine lv_iload_n X.1 X.2.1 dX12_oftenest_46 rfl (lv_at hl 2 rfl) ?_
          refine lv_iload_n X.1 X.2.1 dX12_oftenest_47 rfl (lv_at hl 1 rfl) ?_
          obtain ⟨r_4, hc_4, h⟩ := bd_el h
          refine call_V1i (As := [.int x3, .int x2]) (rest := [.int r_3]) X (c_X12_ofWord l dC dI sk sv tc a0 g0 x3 x2 hc_4) mw_8_140 mw_8_142 mp_3_10 mw_1_12 mw_8_143 dc_X12_ofWord ⟨Nat.le_of_ble_eq_true rfl, Nat.le_of_ble_eq_true rfl⟩ rfl rfl ⟨Nat.zero_le _, Nat.zero_le _⟩ hP (hD _) hS 0 rfl rfl rfl hl.1 (Nat.le_of_ble_eq_true rfl) dX12_oftenest_48 (fun H locs hP hS => ?_)
          refine lv_icmp_le (tgt := 57) X.1 X.2.1 dX12_oftenest_51 (by decide) (fun hc => ?_) (fun hc => ?_)
          · have h := it_t hc h
            exact HJ57 x3 H locs ls h hP hS (lv_sub hl [0, 1, 2, 3] rfl)
          · have h := it_f hc h
            exact HJ54 () H locs ls h hP hS (lv_sub hl [0, 1, 3] rfl)
  unfold f_X12_oftenest at h
  refine lv_aload_n X.1 X.2.1 dX12_oftenest_0 rfl (lv_at hl 0 rfl) ?_
  refine lv_iconst (v := 0) X.1 X.2.1 dX12_oftenest_1 (by decide) ?_
  obtain ⟨g0_1, eg0_1, h⟩ := nm_el h
  refine r_put (C := RX12) (T := TX12) (N := 28) (ci := 12) tyX12 tyX12_ok nmX12 X iw12 hP (hD _) hS 0 rfl rfl 0 rfl mw_7_120 rfl rfl rfl rfl dX12_oftenest_2 (wM tc a0 g0_1) (by rw [eg0_1]; rfl) (fun H locs hP hS => ?_)
  refine lv_iload_n X.1 X.2.1 dX12_oftenest_5 rfl (lv_at hl 1 rfl) ?_
  obtain ⟨J16, eJ16, h⟩ := jn_el h
  have HJ16 : ∀ (s0_J16 : Int32) (H : Heap) (locs : List Loc) (ls : Array Slot), J16 s0_J16 = some (r0, G0) → va_P (dC, dI) vwCl (wM tc a0 g0_1) H → va_S A s.heap H locs → lv_has ls 5 [(0, .ref (a0 0))] → W pr l e rm_X12_oftenest s m args below meth c H locs 0 0 Q (F0 m 16 ls [.int s0_J16]) := by
    intro s0_J16 H locs ls h hP hS hl
    rw [eJ16] at h
    refine lv_istore_n (lv' := [(2, .int s0_J16), (0, .ref (a0 0))]) X.1 X.2.1 dX12_oftenest_16 rfl hl (by decide) rfl (fun ls hl => ?_)
    refine lv_iconst (v := (-1)) X.1 X.2.1 dX12_oftenest_17 (by decide) ?_
    refine lv_istore_n (lv' := [(3, .int (-1)), (2, .int s0_J16), (0, .ref (a0 0))]) X.1 X.2.1 dX12_oftenest_18 rfl hl (by decide) rfl (fun ls hl => ?_)
    refine lv_iconst (v := 0) X.1 X.2.1 dX12_oftenest_19 (by decide) ?_
    refine lv_istore (lv' := [(4, .int 0), (3, .int (-1)), (2, .int s0_J16), (0, .ref (a0 0))]) X.1 X.2.1 dX12_oftenest_20 hl (by decide) rfl (fun ls hl => ?_)
    obtain ⟨ex_5, hL_5, h⟩ := bd_el h
    refine HL22 s0_J16 g0_1 fu (-1) 0 ex_5 hL_5 H locs ls hP hS (lv_sub hl [3, 2, 1, 0] rfl) (fun x3_5 he H locs ls hP hS hl => ?_)
    subst he
    refine lv_iload_n X.1 X.2.1 dX12_oftenest_63 rfl (lv_at hl 0 rfl) ?_
    exact ret_i (fun u => (wM tc a0 u)) (res := (r0, G0)) (Option.some.inj h) X hQ hP hS dX12_oftenest_64
  refine lv_if_eq (tgt := 14) X.1 X.2.1 dX12_oftenest_6 (by decide) (fun hc => ?_) (fun hc => ?_)
  · have h := it_t hc h
    refine lv_bipush (v := 6) X.1 X.2.1 dX12_oftenest_14 (by decide) ?_
    exact HJ16 6 H locs ls h hP hS (lv_sub hl [0] rfl)
  · have h := it_f hc h
    refine lv_bipush (v := 7) X.1 X.2.1 dX12_oftenest_9 (by decide) ?_
    refine lv_goto (tgt := 16) X.1 X.2.1 dX12_oftenest_11 (by decide) ?_
    exact HJ16 7 H locs ls h hP hS (lv_sub hl [0] rfl)

def f_X12_quickest_L20 (x2 : Int32) (g0 : Pic) (n : Nat) (a : Int32 × Int32) : Option (Int32) := lp (fun (rec : Int32 × Int32 → Option (Int32)) (a : Int32 × Int32) => match a with | (x3, x4) => (if (g0 1 4) ≤ x4 then some x3 else jn (fun (x3_J55 : Int32) => nm (x4 + 1) (fun x4_2 => rec (x3_J55, x4_2))) (fun J55 => jn (fun (_ : Unit) => J55 x4) (fun J52 => (if x3 = (-1) then J52 () else bd (f_X12_of g0 x4 x2) (fun r_3 => bd (f_X12_of g0 x3 x2) (fun r_4 => (if r_3 ≤ r_4 then J55 x3 else J52 ())))))))) n a
def f_X12_quickest (g0 : Pic) (x1 : Int32) : Option (Int32 × Pic) := nm (pu g0 0 0 0) (fun g0_1 => jn (fun (s0_J14 : Int32) => bd (f_X12_quickest_L20 s0_J14 g0_1 fu ((-1), 0)) (fun x3_5 => some (x3_5, g0_1))) (fun J14 => (if x1 = 0 then J14 3 else J14 1)))
abbrev rm_X12_quickest : Room := { frames := 1, cells := 0, slots := 0, locals := 22 }
set_option maxHeartbeats 4000000 in
set_option maxRecDepth 100000 in
theorem c_X12_quickest (l : Launch) (dC : Nat → ClassId) (dI : Nat → Nat → Nat) (sk sv : Nat → Nat) (tc : Nat → ClassId) (a0 : Nat → Nat) (g0 : Pic) (x1 : Int32) {r0 : Int32} {G0 : Pic} (h : f_X12_quickest g0 x1 = some (r0, G0)) : CT l (dC, dI) sk sv (TY tc) yX12_quickest cX12_quickest 5 (some .int) rm_X12_quickest [.ref (a0 0), .int x1] (wM tc a0 g0) (some (.int r0)) (wM tc a0 G0) := by
  refine ofCT (by decide) (Nat.le_of_ble_eq_true rfl) ?_
  intro pr e s m args below meth c A Q ls H locs X hQ hD0 hP hS hl
  have hD : ∀ z0, va_D A (wM tc a0 z0) := fun z0 => D_fst (ws := (wM tc a0 g0)) rfl hD0
  have hl : lv_has ls 5 [(0, .ref (a0 0)), (1, .int x1)] := hl
  have HL20 : ∀ (x2 : Int32) (g0 : Pic) (n : Nat) (x3 : Int32) (x4 : Int32) (ex : (Int32)), f_X12_quickest_L20 x2 g0 n (x3, x4) = some ex → ∀ (H : Heap) (locs : List Loc) (ls : Array Slot), va_P (dC, dI) vwCl (wM tc a0 g0) H → va_S A s.heap H locs → lv_has ls 5 [(0, .ref (a0 0)), (2, .int x2), (3, .int x3), (4, .int x4)] → (∀ (y3 : Int32), y3 = ex → ∀ (H : Heap) (locs : List Loc) (ls : Array Slot), va_P (dC, dI) vwCl (wM tc a0 g0) H → va_S A s.heap H locs → lv_has ls 5 [(3, .int y3)] → W pr l e rm_X12_quickest s m args below meth c H locs 0 0 Q (F0 m 61 ls [])) → W pr l e rm_X12_quickest s m args below meth c H locs 0 0 Q (F0 m 20 ls []) := by
    intro x2 g0 n
    induction n with
    | zero => intro x3 x4 ex h; exact lp_z h
    | succ n ih =>
      intro x3 x4 ex h H locs ls hP hS hl K
      have h := lp_s h
      refine lv_iload X.1 X.2.1 dX12_quickest_20 (lv_at hl 3 rfl) ?_
      refine lv_aload_n X.1 X.2.1 dX12_quickest_22 rfl (lv_at hl 0 rfl) ?_
      refine r_get (C := RX12) (T := TX12) (N := 28) (ci := 12) (v := .ref (a0 2)) X iw12 hP 0 rfl rfl 1 rfl mw_7_121 rfl dX12_quickest_23 ?_
      refine lv_iconst (v := 4) X.1 X.2.1 dX12_quickest_26 (by decide) ?_
      refine r_iald X hP 1 0 rfl rfl (j := 4) (by unfold vp_in; decide) (by decide) dX12_quickest_27 ?_
      refine lv_icmp_ge (tgt := 61) X.1 X.2.1 dX12_quickest_28 (by decide) (fun hc => ?_) (fun hc => ?_)
      · have h := it_t hc h
        exact K x3 (Option.some.inj h) H locs ls hP hS (lv_sub hl [2] rfl)
      · have h := it_f hc h
        refine lv_iload_n X.1 X.2.1 dX12_quickest_31 rfl (lv_at hl 2 rfl) ?_
        refine lv_iconst (v := (-1)) X.1 X.2.1 dX12_quickest_32 (by decide) ?_
        obtain ⟨J55, eJ55, h⟩ := jn_el h
        have HJ55 : ∀ (x3_J55 : Int32) (H : Heap) (locs : List Loc) (ls : Array Slot), J55 x3_J55 = some ex → va_P (dC, dI) vwCl (wM tc a0 g0) H → va_S A s.heap H locs → lv_has ls 5 [(0, .ref (a0 0)), (2, .int x2), (3, .int x3_J55), (4, .int x4)] → W pr l e rm_X12_quickest s m args below meth c H locs 0 0 Q (F0 m 55 ls []) := by
          intro x3_J55 H locs ls h hP hS hl
          rw [eJ55] at h
          obtain ⟨x4_2, ex4_2, h⟩ := nm_el h
          refine lv_iinc (v := x4_2) (lv' := [(4, .int x4_2), (0, .ref (a0 0)), (2, .int x2), (3, .int x3_J55)]) X.1 X.2.1 dX12_quickest_55 hl (k := 3) rfl (by rw [ex4_2]; rfl) (by decide) rfl (fun ls hl => ?_)
          refine lv_goto (tgt := 20) X.1 X.2.1 dX12_quickest_58 (by decide) ?_
          exact ih x3_J55 x4_2 ex h H locs ls hP hS (lv_sub hl [1, 2, 3, 0] rfl) K
        obtain ⟨J52, eJ52, h⟩ := jn_el h
        have HJ52 : ∀ (_ : Unit) (H : Heap) (locs : List Loc) (ls : Array Slot), J52 () = some ex → va_P (dC, dI) vwCl (wM tc a0 g0) H → va_S A s.heap H locs → lv_has ls 5 [(0, .ref (a0 0)), (2, .int x2), (4, .int x4)] → W pr l e rm_X12_quickest s m args below meth c H locs 0 0 Q (F0 m 52 ls []) := by
          intro _ H locs ls h hP hS hl
          rw [eJ52] at h
          refine lv_iload X.1 X.2.1 dX12_quickest_52 (lv_at hl 2 rfl) ?_
          refine lv_istore_n (lv' := [(3, .int x4), (0, .ref (a0 0)), (2, .int x2), (4, .int x4)]) X.1 X.2.1 dX12_quickest_54 rfl hl (by decide) rfl (fun ls hl => ?_)
          exact HJ55 x4 H locs ls h hP hS (lv_sub hl [1, 2, 0, 3] rfl)
        refine lv_icmp_eq (tgt := 52) X.1 X.2.1 dX12_quickest_33 (by decide) (fun hc => ?_) (fun hc => ?_)
        · have h := it_t hc h
          exact HJ52 () H locs ls h hP hS (lv_sub hl [0, 1, 3] rfl)
        · have h := it_f hc h
          refine lv_aload_n X.1 X.2.1 dX12_quickest_36 rfl (lv_at hl 0 rfl) ?_
          refine lv_iload X.1 X.2.1 dX12_quickest_37 (lv_at hl 3 rfl) ?_
          refine lv_iload_n X.1 X.2.1 dX12_quickest_39 rfl (lv_at hl 1 rfl) ?_
          obtain ⟨r_3, hc_3, h⟩ := bd_el h
          refine call_V1i (As := [.int x4, .int x2]) (rest := []) X (c_X12_of l dC dI sk sv tc a0 g0 x4 x2 hc_3) mw_8_180 mw_8_182 mp_4_1 mw_1_12 mw_8_183 dc_X12_of ⟨Nat.le_of_ble_eq_true rfl, Nat.le_of_ble_eq_true rfl⟩ rfl rfl ⟨Nat.zero_le _, Nat.zero_le _⟩ hP (hD _) hS 0 rfl rfl rfl hl.1 (Nat.le_of_ble_eq_true rfl) dX12_quickest_40 (fun H locs hP hS => ?_)
          refine lv_aload_n X.1 X.2.1 dX12_quickest_43 rfl (lv_at hl 0 rfl) ?_
          refine lv_iload_n X.1 X.2.1 dX12_quickest_44 rfl (lv_at hl 2 rfl) ?_
          refine lv_iload_n X.1 X.2.1 dX12_quickest_45 rfl (lv_at hl 1 rfl) ?_
          obtain ⟨r_4, hc_4, h⟩ := bd_el h
          refine call_V1i (As := [.int x3, .int x2]) (rest := [.int r_3]) X (c_X12_of l dC dI sk sv tc a0 g0 x3 x2 hc_4) mw_8_180 mw_8_182 mp_4_1 mw_1_12 mw_8_183 dc_X12_of ⟨Nat.le_of_ble_eq_true rfl, Nat.le_of_ble_eq_true rfl⟩ rfl rfl ⟨Nat.zero_le _, Nat.zero_le _⟩ hP (hD _) hS 0 rfl rfl rfl hl.1 (Nat.le_of_ble_eq_true rfl) dX12_quickest_46 (fun H locs hP hS => ?_)
          refine lv_icmp_le (tgt := 55) X.1 X.2.1 dX12_quickest_49 (by decide) (fun hc => ?_) (fun hc => ?_)
          · have h := it_t hc h
            exact HJ55 x3 H locs ls h hP hS (lv_sub hl [0, 1, 2, 3] rfl)
          · have h := it_f hc h
            exact HJ52 () H locs ls h hP hS (lv_sub hl [0, 1, 3] rfl)
  unfold f_X12_quickest at h
  refine lv_aload_n X.1 X.2.1 dX12_quickest_0 rfl (lv_at hl 0 rfl) ?_
  refine lv_iconst (v := 0) X.1 X.2.1 dX12_quickest_1 (by decide) ?_
  obtain ⟨g0_1, eg0_1, h⟩ := nm_el h
  refine r_put (C := RX12) (T := TX12) (N := 28) (ci := 12) tyX12 tyX12_ok nmX12 X iw12 hP (hD _) hS 0 rfl rfl 0 rfl mw_7_120 rfl rfl rfl rfl dX12_quickest_2 (wM tc a0 g0_1) (by rw [eg0_1]; rfl) (fun H locs hP hS => ?_)
  refine lv_iload_n X.1 X.2.1 dX12_quickest_5 rfl (lv_at hl 1 rfl) ?_
  obtain ⟨J14, eJ14, h⟩ := jn_el h
  have HJ14 : ∀ (s0_J14 : Int32) (H : Heap) (locs : List Loc) (ls : Array Slot), J14 s0_J14 = some (r0, G0) → va_P (dC, dI) vwCl (wM tc a0 g0_1) H → va_S A s.heap H locs → lv_has ls 5 [(0, .ref (a0 0))] → W pr l e rm_X12_quickest s m args below meth c H locs 0 0 Q (F0 m 14 ls [.int s0_J14]) := by
    intro s0_J14 H locs ls h hP hS hl
    rw [eJ14] at h
    refine lv_istore_n (lv' := [(2, .int s0_J14), (0, .ref (a0 0))]) X.1 X.2.1 dX12_quickest_14 rfl hl (by decide) rfl (fun ls hl => ?_)
    refine lv_iconst (v := (-1)) X.1 X.2.1 dX12_quickest_15 (by decide) ?_
    refine lv_istore_n (lv' := [(3, .int (-1)), (2, .int s0_J14), (0, .ref (a0 0))]) X.1 X.2.1 dX12_quickest_16 rfl hl (by decide) rfl (fun ls hl => ?_)
    refine lv_iconst (v := 0) X.1 X.2.1 dX12_quickest_17 (by decide) ?_
    refine lv_istore (lv' := [(4, .int 0), (3, .int (-1)), (2, .int s0_J14), (0, .ref (a0 0))]) X.1 X.2.1 dX12_quickest_18 hl (by decide) rfl (fun ls hl => ?_)
    obtain ⟨ex_5, hL_5, h⟩ := bd_el h
    refine HL20 s0_J14 g0_1 fu (-1) 0 ex_5 hL_5 H locs ls hP hS (lv_sub hl [3, 2, 1, 0] rfl) (fun x3_5 he H locs ls hP hS hl => ?_)
    subst he
    refine lv_iload_n X.1 X.2.1 dX12_quickest_61 rfl (lv_at hl 0 rfl) ?_
    exact ret_i (fun u => (wM tc a0 u)) (res := (r0, G0)) (Option.some.inj h) X hQ hP hS dX12_quickest_62
  refine lv_if_eq (tgt := 13) X.1 X.2.1 dX12_quickest_6 (by decide) (fun hc => ?_) (fun hc => ?_)
  · have h := it_t hc h
    refine lv_iconst (v := 3) X.1 X.2.1 dX12_quickest_13 (by decide) ?_
    exact HJ14 3 H locs ls h hP hS (lv_sub hl [0] rfl)
  · have h := it_f hc h
    refine lv_iconst (v := 1) X.1 X.2.1 dX12_quickest_9 (by decide) ?_
    refine lv_goto (tgt := 14) X.1 X.2.1 dX12_quickest_10 (by decide) ?_
    exact HJ14 1 H locs ls h hP hS (lv_sub hl [0] rfl)

def f_X12_countOf_L5 (x1 : Int32) (x2 : Int32) (g0 : Pic) (n : Nat) (a : Int32 × Int32) : Option (Int32) := lp (fun (rec : Int32 × Int32 → Option (Int32)) (a : Int32 × Int32) => match a with | (x3, x4) => bd (f_X12_ofWord g0 x1 6) (fun r_1 => (if r_1 ≤ x4 then some x3 else bd (f_X12_ofWord g0 x1 x4) (fun r_2 => jn (fun (s0_J34 : Int32) (s1_J34 : Int32) => nm ((s0_J34 + s1_J34)) (fun x3_3 => nm (x4 + 1) (fun x4_4 => rec (x3_3, x4_4)))) (fun J34 => (if r_2 = x2 then J34 x3 1 else J34 x3 0)))))) n a
def f_X12_countOf (g0 : Pic) (x1 : Int32) (x2 : Int32) : Option (Int32) := bd (f_X12_countOf_L5 x1 x2 g0 fu (0, 0)) (fun x3_5 => some x3_5)
abbrev rm_X12_countOf : Room := { frames := 1, cells := 0, slots := 0, locals := 22 }
set_option maxHeartbeats 4000000 in
set_option maxRecDepth 100000 in
theorem c_X12_countOf (l : Launch) (dC : Nat → ClassId) (dI : Nat → Nat → Nat) (sk sv : Nat → Nat) (tc : Nat → ClassId) (a0 : Nat → Nat) (g0 : Pic) (x1 : Int32) (x2 : Int32) {r0 : Int32} (h : f_X12_countOf g0 x1 x2 = some r0) : CT l (dC, dI) sk sv (TY tc) yX12_countOf cX12_countOf 5 (some .int) rm_X12_countOf [.ref (a0 0), .int x1, .int x2] (wM tc a0 g0) (some (.int r0)) (wM tc a0 g0) := by
  refine ofCT (by decide) (Nat.le_of_ble_eq_true rfl) ?_
  intro pr e s m args below meth c A Q ls H locs X hQ hD0 hP hS hl
  have hD : ∀ z0, va_D A (wM tc a0 z0) := fun z0 => D_fst (ws := (wM tc a0 g0)) rfl hD0
  have hl : lv_has ls 5 [(0, .ref (a0 0)), (1, .int x1), (2, .int x2)] := hl
  have HL5 : ∀ (x1 : Int32) (x2 : Int32) (n : Nat) (x3 : Int32) (x4 : Int32) (ex : (Int32)), f_X12_countOf_L5 x1 x2 g0 n (x3, x4) = some ex → ∀ (H : Heap) (locs : List Loc) (ls : Array Slot), va_P (dC, dI) vwCl (wM tc a0 g0) H → va_S A s.heap H locs → lv_has ls 5 [(0, .ref (a0 0)), (1, .int x1), (2, .int x2), (3, .int x3), (4, .int x4)] → (∀ (y3 : Int32), y3 = ex → ∀ (H : Heap) (locs : List Loc) (ls : Array Slot), va_P (dC, dI) vwCl (wM tc a0 g0) H → va_S A s.heap H locs → lv_has ls 5 [(3, .int y3)] → W pr l e rm_X12_countOf s m args below meth c H locs 0 0 Q (F0 m 42 ls [])) → W pr l e rm_X12_countOf s m args below meth c H locs 0 0 Q (F0 m 5 ls []) := by
    intro x1 x2 n
    induction n with
    | zero => intro x3 x4 ex h; exact lp_z h
    | succ n ih =>
      intro x3 x4 ex h H locs ls hP hS hl K
      have h := lp_s h
      refine lv_iload X.1 X.2.1 dX12_countOf_5 (lv_at hl 4 rfl) ?_
      refine lv_aload_n X.1 X.2.1 dX12_countOf_7 rfl (lv_at hl 0 rfl) ?_
      refine lv_iload_n X.1 X.2.1 dX12_countOf_8 rfl (lv_at hl 1 rfl) ?_
      refine lv_bipush (v := 6) X.1 X.2.1 dX12_countOf_9 (by decide) ?_
      obtain ⟨r_1, hc_1, h⟩ := bd_el h
      refine call_V1i (As := [.int x1, .int 6]) (rest := [.int x4]) X (c_X12_ofWord l dC dI sk sv tc a0 g0 x1 6 hc_1) mw_8_140 mw_8_142 mp_3_10 mw_1_12 mw_8_143 dc_X12_ofWord ⟨Nat.le_of_ble_eq_true rfl, Nat.le_of_ble_eq_true rfl⟩ rfl rfl ⟨Nat.zero_le _, Nat.zero_le _⟩ hP (hD _) hS 0 rfl rfl rfl hl.1 (Nat.le_of_ble_eq_true rfl) dX12_countOf_11 (fun H locs hP hS => ?_)
      refine lv_icmp_ge (tgt := 42) X.1 X.2.1 dX12_countOf_14 (by decide) (fun hc => ?_) (fun hc => ?_)
      · have h := it_t hc h
        exact K x3 (Option.some.inj h) H locs ls hP hS (lv_sub hl [3] rfl)
      · have h := it_f hc h
        refine lv_iload_n X.1 X.2.1 dX12_countOf_17 rfl (lv_at hl 3 rfl) ?_
        refine lv_aload_n X.1 X.2.1 dX12_countOf_18 rfl (lv_at hl 0 rfl) ?_
        refine lv_iload_n X.1 X.2.1 dX12_countOf_19 rfl (lv_at hl 1 rfl) ?_
        refine lv_iload X.1 X.2.1 dX12_countOf_20 (lv_at hl 4 rfl) ?_
        obtain ⟨r_2, hc_2, h⟩ := bd_el h
        refine call_V1i (As := [.int x1, .int x4]) (rest := [.int x3]) X (c_X12_ofWord l dC dI sk sv tc a0 g0 x1 x4 hc_2) mw_8_140 mw_8_142 mp_3_10 mw_1_12 mw_8_143 dc_X12_ofWord ⟨Nat.le_of_ble_eq_true rfl, Nat.le_of_ble_eq_true rfl⟩ rfl rfl ⟨Nat.zero_le _, Nat.zero_le _⟩ hP (hD _) hS 0 rfl rfl rfl hl.1 (Nat.le_of_ble_eq_true rfl) dX12_countOf_22 (fun H locs hP hS => ?_)
        refine lv_iload_n X.1 X.2.1 dX12_countOf_25 rfl (lv_at hl 2 rfl) ?_
        obtain ⟨J34, eJ34, h⟩ := jn_el h
        have HJ34 : ∀ (s0_J34 : Int32) (s1_J34 : Int32) (H : Heap) (locs : List Loc) (ls : Array Slot), J34 s0_J34 s1_J34 = some ex → va_P (dC, dI) vwCl (wM tc a0 g0) H → va_S A s.heap H locs → lv_has ls 5 [(0, .ref (a0 0)), (1, .int x1), (2, .int x2), (4, .int x4)] → W pr l e rm_X12_countOf s m args below meth c H locs 0 0 Q (F0 m 34 ls [.int s1_J34, .int s0_J34]) := by
          intro s0_J34 s1_J34 H locs ls h hP hS hl
          rw [eJ34] at h
          refine lv_iadd X.1 X.2.1 dX12_countOf_34 ?_
          obtain ⟨x3_3, ex3_3, h⟩ := nm_el h
          refine tp_i ex3_3 ?_
          refine lv_istore_n (lv' := [(3, .int x3_3), (0, .ref (a0 0)), (1, .int x1), (2, .int x2), (4, .int x4)]) X.1 X.2.1 dX12_countOf_35 rfl hl (by decide) rfl (fun ls hl => ?_)
          obtain ⟨x4_4, ex4_4, h⟩ := nm_el h
          refine lv_iinc (v := x4_4) (lv' := [(4, .int x4_4), (3, .int x3_3), (0, .ref (a0 0)), (1, .int x1), (2, .int x2)]) X.1 X.2.1 dX12_countOf_36 hl (k := 4) rfl (by rw [ex4_4]; rfl) (by decide) rfl (fun ls hl => ?_)
          refine lv_goto (tgt := 5) X.1 X.2.1 dX12_countOf_39 (by decide) ?_
          exact ih x3_3 x4_4 ex h H locs ls hP hS (lv_sub hl [2, 3, 4, 1, 0] rfl) K
        refine lv_icmp_ne (tgt := 33) X.1 X.2.1 dX12_countOf_26 (by decide) (fun hc => ?_) (fun hc => ?_)
        · have h := it_f hc h
          refine lv_iconst (v := 0) X.1 X.2.1 dX12_countOf_33 (by decide) ?_
          exact HJ34 x3 0 H locs ls h hP hS (lv_sub hl [0, 1, 2, 4] rfl)
        · have h := it_t hc h
          refine lv_iconst (v := 1) X.1 X.2.1 dX12_countOf_29 (by decide) ?_
          refine lv_goto (tgt := 34) X.1 X.2.1 dX12_countOf_30 (by decide) ?_
          exact HJ34 x3 1 H locs ls h hP hS (lv_sub hl [0, 1, 2, 4] rfl)
  unfold f_X12_countOf at h
  refine lv_iconst (v := 0) X.1 X.2.1 dX12_countOf_0 (by decide) ?_
  refine lv_istore_n (lv' := [(3, .int 0), (0, .ref (a0 0)), (1, .int x1), (2, .int x2)]) X.1 X.2.1 dX12_countOf_1 rfl hl (by decide) rfl (fun ls hl => ?_)
  refine lv_iconst (v := 0) X.1 X.2.1 dX12_countOf_2 (by decide) ?_
  refine lv_istore (lv' := [(4, .int 0), (3, .int 0), (0, .ref (a0 0)), (1, .int x1), (2, .int x2)]) X.1 X.2.1 dX12_countOf_3 hl (by decide) rfl (fun ls hl => ?_)
  obtain ⟨ex_5, hL_5, h⟩ := bd_el h
  refine HL5 x1 x2 fu 0 0 ex_5 hL_5 H locs ls hP hS (lv_sub hl [2, 3, 4, 1, 0] rfl) (fun x3_5 he H locs ls hP hS hl => ?_)
  subst he
  refine lv_iload_n X.1 X.2.1 dX12_countOf_42 rfl (lv_at hl 0 rfl) ?_
  exact ret_i0 (Option.some.inj h) X hQ hP hS dX12_countOf_43

def f_X12_twins_L39 (x1 : Int32) (x2 : Int32) (x3 : Int32) (g0 : Pic) (n : Nat) (a : Int32 × Int32) : Option (Int32) := lp (fun (rec : Int32 × Int32 → Option (Int32)) (a : Int32 × Int32) => match a with | (x4, x5) => (if 8 ≤ x5 then some x4 else jn (fun (s0_J73 : Int32) => nm (x5 + 1) (fun x5_3 => rec (s0_J73, x5_3))) (fun J73 => jn (fun (_ : Unit) => J73 0) (fun J72 => (if x4 = 0 then J72 () else bd (f_X12_countOf g0 x2 x5) (fun r_4 => bd (f_X12_countOf g0 x3 x5) (fun r_5 => (if r_4 = r_5 then J73 1 else J72 ())))))))) n a
def f_X12_twins_L23 (x2 : Int32) (g0 : Pic) (n : Nat) (a : Int32 × Int32) : Option (Int32) := lp (fun (rec : Int32 × Int32 → Option (Int32)) (a : Int32 × Int32) => match a with | (x1, x3) => (if (g0 1 3) ≤ x3 then some x1 else bd (f_X12_twins_L39 x1 x2 x3 g0 fu (1, 0)) (fun x4_6 => jn (fun (s0_J92 : Int32) (s1_J92 : Int32) => nm ((s0_J92 + s1_J92)) (fun x1_7 => nm (x3 + 1) (fun x3_8 => rec (x1_7, x3_8)))) (fun J92 => (if x4_6 = 0 then J92 x1 0 else J92 x1 1))))) n a
def f_X12_twins_L9 (g0 : Pic) (n : Nat) (a : Int32 × Int32) : Option (Int32) := lp (fun (rec : Int32 × Int32 → Option (Int32)) (a : Int32 × Int32) => match a with | (x1, x2) => (if (g0 1 3) ≤ x2 then some x1 else nm ((x2 + 1)) (fun x3_2 => bd (f_X12_twins_L23 x2 g0 fu (x1, x3_2)) (fun x1_9 => nm (x2 + 1) (fun x2_10 => rec (x1_9, x2_10)))))) n a
def f_X12_twins (g0 : Pic) : Option (Int32 × Pic) := nm (pu g0 0 0 0) (fun g0_1 => bd (f_X12_twins_L9 g0_1 fu (0, 0)) (fun x1_11 => some (x1_11, g0_1)))
abbrev rm_X12_twins : Room := { frames := 2, cells := 0, slots := 0, locals := 46 }
set_option maxHeartbeats 4000000 in
set_option maxRecDepth 100000 in
theorem c_X12_twins (l : Launch) (dC : Nat → ClassId) (dI : Nat → Nat → Nat) (sk sv : Nat → Nat) (tc : Nat → ClassId) (a0 : Nat → Nat) (g0 : Pic) {r0 : Int32} {G0 : Pic} (h : f_X12_twins g0 = some (r0, G0)) : CT l (dC, dI) sk sv (TY tc) yX12_twins cX12_twins 6 (some .int) rm_X12_twins [.ref (a0 0)] (wM tc a0 g0) (some (.int r0)) (wM tc a0 G0) := by
  refine ofCT (by decide) (Nat.le_of_ble_eq_true rfl) ?_
  intro pr e s m args below meth c A Q ls H locs X hQ hD0 hP hS hl
  have hD : ∀ z0, va_D A (wM tc a0 z0) := fun z0 => D_fst (ws := (wM tc a0 g0)) rfl hD0
  have hl : lv_has ls 6 [(0, .ref (a0 0))] := hl
  have HL39 : ∀ (x1 : Int32) (x2 : Int32) (x3 : Int32) (g0 : Pic) (n : Nat) (x4 : Int32) (x5 : Int32) (ex : (Int32)), f_X12_twins_L39 x1 x2 x3 g0 n (x4, x5) = some ex → ∀ (H : Heap) (locs : List Loc) (ls : Array Slot), va_P (dC, dI) vwCl (wM tc a0 g0) H → va_S A s.heap H locs → lv_has ls 6 [(0, .ref (a0 0)), (1, .int x1), (2, .int x2), (3, .int x3), (4, .int x4), (5, .int x5)] → (∀ (y4 : Int32), y4 = ex → ∀ (H : Heap) (locs : List Loc) (ls : Array Slot), va_P (dC, dI) vwCl (wM tc a0 g0) H → va_S A s.heap H locs → lv_has ls 6 [(0, .ref (a0 0)), (1, .int x1), (2, .int x2), (3, .int x3), (4, .int y4)] → W pr l e rm_X12_twins s m args below meth c H locs 0 0 Q (F0 m 81 ls [])) → W pr l e rm_X12_twins s m args below meth c H locs 0 0 Q (F0 m 39 ls []) := by
    intro x1 x2 x3 g0 n
    induction n with
    | zero => intro x4 x5 ex h; exact lp_z h
    | succ n ih =>
      intro x4 x5 ex h H locs ls hP hS hl K
      have h := lp_s h
      refine lv_iload X.1 X.2.1 dX12_twins_39 (lv_at hl 5 rfl) ?_
      refine lv_bipush (v := 8) X.1 X.2.1 dX12_twins_41 (by decide) ?_
      refine lv_icmp_ge (tgt := 81) X.1 X.2.1 dX12_twins_43 (by decide) (fun hc => ?_) (fun hc => ?_)
      · have h := it_t hc h
        exact K x4 (Option.some.inj h) H locs ls hP hS (lv_sub hl [0, 1, 2, 3, 4] rfl)
      · have h := it_f hc h
        refine lv_iload X.1 X.2.1 dX12_twins_46 (lv_at hl 4 rfl) ?_
        obtain ⟨J73, eJ73, h⟩ := jn_el h
        have HJ73 : ∀ (s0_J73 : Int32) (H : Heap) (locs : List Loc) (ls : Array Slot), J73 s0_J73 = some ex → va_P (dC, dI) vwCl (wM tc a0 g0) H → va_S A s.heap H locs → lv_has ls 6 [(0, .ref (a0 0)), (1, .int x1), (2, .int x2), (3, .int x3), (5, .int x5)] → W pr l e rm_X12_twins s m args below meth c H locs 0 0 Q (F0 m 73 ls [.int s0_J73]) := by
          intro s0_J73 H locs ls h hP hS hl
          rw [eJ73] at h
          refine lv_istore (lv' := [(4, .int s0_J73), (0, .ref (a0 0)), (1, .int x1), (2, .int x2), (3, .int x3), (5, .int x5)]) X.1 X.2.1 dX12_twins_73 hl (by decide) rfl (fun ls hl => ?_)
          obtain ⟨x5_3, ex5_3, h⟩ := nm_el h
          refine lv_iinc (v := x5_3) (lv' := [(5, .int x5_3), (4, .int s0_J73), (0, .ref (a0 0)), (1, .int x1), (2, .int x2), (3, .int x3)]) X.1 X.2.1 dX12_twins_75 hl (k := 5) rfl (by rw [ex5_3]; rfl) (by decide) rfl (fun ls hl => ?_)
          refine lv_goto (tgt := 39) X.1 X.2.1 dX12_twins_78 (by decide) ?_
          exact ih s0_J73 x5_3 ex h H locs ls hP hS (lv_sub hl [2, 3, 4, 5, 1, 0] rfl) K
        obtain ⟨J72, eJ72, h⟩ := jn_el h
        have HJ72 : ∀ (_ : Unit) (H : Heap) (locs : List Loc) (ls : Array Slot), J72 () = some ex → va_P (dC, dI) vwCl (wM tc a0 g0) H → va_S A s.heap H locs → lv_has ls 6 [(0, .ref (a0 0)), (1, .int x1), (2, .int x2), (3, .int x3), (5, .int x5)] → W pr l e rm_X12_twins s m args below meth c H locs 0 0 Q (F0 m 72 ls []) := by
          intro _ H locs ls h hP hS hl
          rw [eJ72] at h
          refine lv_iconst (v := 0) X.1 X.2.1 dX12_twins_72 (by decide) ?_
          exact HJ73 0 H locs ls h hP hS (lv_sub hl [0, 1, 2, 3, 4] rfl)
        refine lv_if_eq (tgt := 72) X.1 X.2.1 dX12_twins_48 (by decide) (fun hc => ?_) (fun hc => ?_)
        · have h := it_t hc h
          exact HJ72 () H locs ls h hP hS (lv_sub hl [0, 1, 2, 3, 5] rfl)
        · have h := it_f hc h
          refine lv_aload_n X.1 X.2.1 dX12_twins_51 rfl (lv_at hl 0 rfl) ?_
          refine lv_iload_n X.1 X.2.1 dX12_twins_52 rfl (lv_at hl 2 rfl) ?_
          refine lv_iload X.1 X.2.1 dX12_twins_53 (lv_at hl 5 rfl) ?_
          obtain ⟨r_4, hc_4, h⟩ := bd_el h
          refine call_V1i (As := [.int x2, .int x5]) (rest := []) X (c_X12_countOf l dC dI sk sv tc a0 g0 x2 x5 hc_4) mw_10_13 mw_10_15 mp_6_7 mw_1_12 mw_10_16 dc_X12_countOf ⟨Nat.le_of_ble_eq_true rfl, Nat.le_of_ble_eq_true rfl⟩ rfl rfl ⟨Nat.zero_le _, Nat.zero_le _⟩ hP (hD _) hS 0 rfl rfl rfl hl.1 (Nat.le_of_ble_eq_true rfl) dX12_twins_55 (fun H locs hP hS => ?_)
          refine lv_aload_n X.1 X.2.1 dX12_twins_58 rfl (lv_at hl 0 rfl) ?_
          refine lv_iload_n X.1 X.2.1 dX12_twins_59 rfl (lv_at hl 3 rfl) ?_
          refine lv_iload X.1 X.2.1 dX12_twins_60 (lv_at hl 5 rfl) ?_
          obtain ⟨r_5, hc_5, h⟩ := bd_el h
          refine call_V1i (As := [.int x3, .int x5]) (rest := [.int r_4]) X (c_X12_countOf l dC dI sk sv tc a0 g0 x3 x5 hc_5) mw_10_13 mw_10_15 mp_6_7 mw_1_12 mw_10_16 dc_X12_countOf ⟨Nat.le_of_ble_eq_true rfl, Nat.le_of_ble_eq_true rfl⟩ rfl rfl ⟨Nat.zero_le _, Nat.zero_le _⟩ hP (hD _) hS 0 rfl rfl rfl hl.1 (Nat.le_of_ble_eq_true rfl) dX12_twins_62 (fun H locs hP hS => ?_)
          refine lv_icmp_ne (tgt := 72) X.1 X.2.1 dX12_twins_65 (by decide) (fun hc => ?_) (fun hc => ?_)
          · have h := it_f hc h
            exact HJ72 () H locs ls h hP hS (lv_sub hl [0, 1, 2, 3, 5] rfl)
          · have h := it_t hc h
            refine lv_iconst (v := 1) X.1 X.2.1 dX12_twins_68 (by decide) ?_
            refine lv_goto (tgt := 73) X.1 X.2.1 dX12_twins_69 (by decide) ?_
            exact HJ73 1 H locs ls h hP hS (lv_sub hl [0, 1, 2, 3, 5] rfl)
  have HL23 : ∀ (x2 : Int32) (g0 : Pic) (n : Nat) (x1 : Int32) (x3 : Int32) (ex : (Int32)), f_X12_twins_L23 x2 g0 n (x1, x3) = some ex → ∀ (H : Heap) (locs : List Loc) (ls : Array Slot), va_P (dC, dI) vwCl (wM tc a0 g0) H → va_S A s.heap H locs → lv_has ls 6 [(0, .ref (a0 0)), (1, .int x1), (2, .int x2), (3, .int x3)] → (∀ (y1 : Int32), y1 = ex → ∀ (H : Heap) (locs : List Loc) (ls : Array Slot), va_P (dC, dI) vwCl (wM tc a0 g0) H → va_S A s.heap H locs → lv_has ls 6 [(0, .ref (a0 0)), (1, .int y1), (2, .int x2)] → W pr l e rm_X12_twins s m args below meth c H locs 0 0 Q (F0 m 100 ls [])) → W pr l e rm_X12_twins s m args below meth c H locs 0 0 Q (F0 m 23 ls []) := by
    intro x2 g0 n
    induction n with
    | zero => intro x1 x3 ex h; exact lp_z h
    | succ n ih =>
      intro x1 x3 ex h H locs ls hP hS hl K
      have h := lp_s h
      refine lv_iload_n X.1 X.2.1 dX12_twins_23 rfl (lv_at hl 3 rfl) ?_
      refine lv_aload_n X.1 X.2.1 dX12_twins_24 rfl (lv_at hl 0 rfl) ?_
      refine r_get (C := RX12) (T := TX12) (N := 28) (ci := 12) (v := .ref (a0 2)) X iw12 hP 0 rfl rfl 1 rfl mw_7_121 rfl dX12_twins_25 ?_
      refine lv_iconst (v := 3) X.1 X.2.1 dX12_twins_28 (by decide) ?_
      refine r_iald X hP 1 0 rfl rfl (j := 3) (by unfold vp_in; decide) (by decide) dX12_twins_29 ?_
      refine lv_icmp_ge (tgt := 100) X.1 X.2.1 dX12_twins_30 (by decide) (fun hc => ?_) (fun hc => ?_)
      · have h := it_t hc h
        exact K x1 (Option.some.inj h) H locs ls hP hS (lv_sub hl [0, 1, 2] rfl)
      · have h := it_f hc h
        refine lv_iconst (v := 1) X.1 X.2.1 dX12_twins_33 (by decide) ?_
        refine lv_istore (lv' := [(4, .int 1), (0, .ref (a0 0)), (1, .int x1), (2, .int x2), (3, .int x3)]) X.1 X.2.1 dX12_twins_34 hl (by decide) rfl (fun ls hl => ?_)
        refine lv_iconst (v := 0) X.1 X.2.1 dX12_twins_36 (by decide) ?_
        refine lv_istore (lv' := [(5, .int 0), (4, .int 1), (0, .ref (a0 0)), (1, .int x1), (2, .int x2), (3, .int x3)]) X.1 X.2.1 dX12_twins_37 hl (by decide) rfl (fun ls hl => ?_)
        obtain ⟨ex_6, hL_6, h⟩ := bd_el h
        refine HL39 x1 x2 x3 g0 fu 1 0 ex_6 hL_6 H locs ls hP hS (lv_sub hl [2, 3, 4, 5, 1, 0] rfl) (fun x4_6 he H locs ls hP hS hl => ?_)
        subst he
        refine lv_iload_n X.1 X.2.1 dX12_twins_81 rfl (lv_at hl 1 rfl) ?_
        refine lv_iload X.1 X.2.1 dX12_twins_82 (lv_at hl 4 rfl) ?_
        obtain ⟨J92, eJ92, h⟩ := jn_el h
        have HJ92 : ∀ (s0_J92 : Int32) (s1_J92 : Int32) (H : Heap) (locs : List Loc) (ls : Array Slot), J92 s0_J92 s1_J92 = some ex → va_P (dC, dI) vwCl (wM tc a0 g0) H → va_S A s.heap H locs → lv_has ls 6 [(0, .ref (a0 0)), (2, .int x2), (3, .int x3)] → W pr l e rm_X12_twins s m args below meth c H locs 0 0 Q (F0 m 92 ls [.int s1_J92, .int s0_J92]) := by
          intro s0_J92 s1_J92 H locs ls h hP hS hl
          rw [eJ92] at h
          refine lv_iadd X.1 X.2.1 dX12_twins_92 ?_
          obtain ⟨x1_7, ex1_7, h⟩ := nm_el h
          refine tp_i ex1_7 ?_
          refine lv_istore_n (lv' := [(1, .int x1_7), (0, .ref (a0 0)), (2, .int x2), (3, .int x3)]) X.1 X.2.1 dX12_twins_93 rfl hl (by decide) rfl (fun ls hl => ?_)
          obtain ⟨x3_8, ex3_8, h⟩ := nm_el h
          refine lv_iinc (v := x3_8) (lv' := [(3, .int x3_8), (1, .int x1_7), (0, .ref (a0 0)), (2, .int x2)]) X.1 X.2.1 dX12_twins_94 hl (k := 3) rfl (by rw [ex3_8]; rfl) (by decide) rfl (fun ls hl => ?_)
          refine lv_goto (tgt := 23) X.1 X.2.1 dX12_twins_97 (by decide) ?_
          exact ih x1_7 x3_8 ex h H locs ls hP hS (lv_sub hl [2, 1, 3, 0] rfl) K
        refine lv_if_eq (tgt := 91) X.1 X.2.1 dX12_twins_84 (by decide) (fun hc => ?_) (fun hc => ?_)
        · have h := it_t hc h
          refine lv_iconst (v := 0) X.1 X.2.1 dX12_twins_91 (by decide) ?_
          exact HJ92 x1 0 H locs ls h hP hS (lv_sub hl [0, 2, 3] rfl)
        · have h := it_f hc h
          refine lv_iconst (v := 1) X.1 X.2.1 dX12_twins_87 (by decide) ?_
          refine lv_goto (tgt := 92) X.1 X.2.1 dX12_twins_88 (by decide) ?_
          exact HJ92 x1 1 H locs ls h hP hS (lv_sub hl [0, 2, 3] rfl)
  have HL9 : ∀ (g0 : Pic) (n : Nat) (x1 : Int32) (x2 : Int32) (ex : (Int32)), f_X12_twins_L9 g0 n (x1, x2) = some ex → ∀ (H : Heap) (locs : List Loc) (ls : Array Slot), va_P (dC, dI) vwCl (wM tc a0 g0) H → va_S A s.heap H locs → lv_has ls 6 [(0, .ref (a0 0)), (1, .int x1), (2, .int x2)] → (∀ (y1 : Int32), y1 = ex → ∀ (H : Heap) (locs : List Loc) (ls : Array Slot), va_P (dC, dI) vwCl (wM tc a0 g0) H → va_S A s.heap H locs → lv_has ls 6 [(1, .int y1)] → W pr l e rm_X12_twins s m args below meth c H locs 0 0 Q (F0 m 106 ls [])) → W pr l e rm_X12_twins s m args below meth c H locs 0 0 Q (F0 m 9 ls []) := by
    intro g0 n
    induction n with
    | zero => intro x1 x2 ex h; exact lp_z h
    | succ n ih =>
      intro x1 x2 ex h H locs ls hP hS hl K
      have h := lp_s h
      refine lv_iload_n X.1 X.2.1 dX12_twins_9 rfl (lv_at hl 2 rfl) ?_
      refine lv_aload_n X.1 X.2.1 dX12_twins_10 rfl (lv_at hl 0 rfl) ?_
      refine r_get (C := RX12) (T := TX12) (N := 28) (ci := 12) (v := .ref (a0 2)) X iw12 hP 0 rfl rfl 1 rfl mw_7_121 rfl dX12_twins_11 ?_
      refine lv_iconst (v := 3) X.1 X.2.1 dX12_twins_14 (by decide) ?_
      refine r_iald X hP 1 0 rfl rfl (j := 3) (by unfold vp_in; decide) (by decide) dX12_twins_15 ?_
      refine lv_icmp_ge (tgt := 106) X.1 X.2.1 dX12_twins_16 (by decide) (fun hc => ?_) (fun hc => ?_)
      · have h := it_t hc h
        exact K x1 (Option.some.inj h) H locs ls hP hS (lv_sub hl [1] rfl)
      · have h := it_f hc h
        refine lv_iload_n X.1 X.2.1 dX12_twins_19 rfl (lv_at hl 2 rfl) ?_
        refine lv_iconst (v := 1) X.1 X.2.1 dX12_twins_20 (by decide) ?_
        refine lv_iadd X.1 X.2.1 dX12_twins_21 ?_
        obtain ⟨x3_2, ex3_2, h⟩ := nm_el h
        refine tp_i ex3_2 ?_
        refine lv_istore_n (lv' := [(3, .int x3_2), (0, .ref (a0 0)), (1, .int x1), (2, .int x2)]) X.1 X.2.1 dX12_twins_22 rfl hl (by decide) rfl (fun ls hl => ?_)
        obtain ⟨ex_9, hL_9, h⟩ := bd_el h
        refine HL23 x2 g0 fu x1 x3_2 ex_9 hL_9 H locs ls hP hS (lv_sub hl [1, 2, 3, 0] rfl) (fun x1_9 he H locs ls hP hS hl => ?_)
        subst he
        obtain ⟨x2_10, ex2_10, h⟩ := nm_el h
        refine lv_iinc (v := x2_10) (lv' := [(2, .int x2_10), (0, .ref (a0 0)), (1, .int x1_9)]) X.1 X.2.1 dX12_twins_100 hl (k := 2) rfl (by rw [ex2_10]; rfl) (by decide) rfl (fun ls hl => ?_)
        refine lv_goto (tgt := 9) X.1 X.2.1 dX12_twins_103 (by decide) ?_
        exact ih x1_9 x2_10 ex h H locs ls hP hS (lv_sub hl [1, 2, 0] rfl) K
  unfold f_X12_twins at h
  refine lv_aload_n X.1 X.2.1 dX12_twins_0 rfl (lv_at hl 0 rfl) ?_
  refine lv_iconst (v := 0) X.1 X.2.1 dX12_twins_1 (by decide) ?_
  obtain ⟨g0_1, eg0_1, h⟩ := nm_el h
  refine r_put (C := RX12) (T := TX12) (N := 28) (ci := 12) tyX12 tyX12_ok nmX12 X iw12 hP (hD _) hS 0 rfl rfl 0 rfl mw_7_120 rfl rfl rfl rfl dX12_twins_2 (wM tc a0 g0_1) (by rw [eg0_1]; rfl) (fun H locs hP hS => ?_)
  refine lv_iconst (v := 0) X.1 X.2.1 dX12_twins_5 (by decide) ?_
  refine lv_istore_n (lv' := [(1, .int 0), (0, .ref (a0 0))]) X.1 X.2.1 dX12_twins_6 rfl hl (by decide) rfl (fun ls hl => ?_)
  refine lv_iconst (v := 0) X.1 X.2.1 dX12_twins_7 (by decide) ?_
  refine lv_istore_n (lv' := [(2, .int 0), (1, .int 0), (0, .ref (a0 0))]) X.1 X.2.1 dX12_twins_8 rfl hl (by decide) rfl (fun ls hl => ?_)
  obtain ⟨ex_11, hL_11, h⟩ := bd_el h
  refine HL9 g0_1 fu 0 0 ex_11 hL_11 H locs ls hP hS (lv_sub hl [2, 1, 0] rfl) (fun x1_11 he H locs ls hP hS hl => ?_)
  subst he
  refine lv_iload_n X.1 X.2.1 dX12_twins_106 rfl (lv_at hl 0 rfl) ?_
  exact ret_i (fun u => (wM tc a0 u)) (res := (r0, G0)) (Option.some.inj h) X hQ hP hS dX12_twins_107

def f_X12_usesOf_L4 (x1 : Int32) (g0 : Pic) (n : Nat) (a : Int32 × Int32) : Option (Int32) := lp (fun (rec : Int32 × Int32 → Option (Int32)) (a : Int32 × Int32) => match a with | (x2, x3) => (if (g0 1 3) ≤ x3 then some x2 else bd (f_X12_countOf g0 x3 x1) (fun r_1 => jn (fun (s0_J31 : Int32) (s1_J31 : Int32) => nm ((s0_J31 ||| s1_J31)) (fun x2_2 => nm (x3 + 1) (fun x3_3 => rec (x2_2, x3_3)))) (fun J31 => (if r_1 ≤ 0 then J31 x2 0 else J31 x2 (1 <<< (x3 &&& 31))))))) n a
def f_X12_usesOf (g0 : Pic) (x1 : Int32) : Option (Int32) := bd (f_X12_usesOf_L4 x1 g0 fu (0, 0)) (fun x2_4 => some x2_4)
abbrev rm_X12_usesOf : Room := { frames := 2, cells := 0, slots := 0, locals := 46 }
set_option maxHeartbeats 4000000 in
set_option maxRecDepth 100000 in
theorem c_X12_usesOf (l : Launch) (dC : Nat → ClassId) (dI : Nat → Nat → Nat) (sk sv : Nat → Nat) (tc : Nat → ClassId) (a0 : Nat → Nat) (g0 : Pic) (x1 : Int32) {r0 : Int32} (h : f_X12_usesOf g0 x1 = some r0) : CT l (dC, dI) sk sv (TY tc) yX12_usesOf cX12_usesOf 4 (some .int) rm_X12_usesOf [.ref (a0 0), .int x1] (wM tc a0 g0) (some (.int r0)) (wM tc a0 g0) := by
  refine ofCT (by decide) (Nat.le_of_ble_eq_true rfl) ?_
  intro pr e s m args below meth c A Q ls H locs X hQ hD0 hP hS hl
  have hD : ∀ z0, va_D A (wM tc a0 z0) := fun z0 => D_fst (ws := (wM tc a0 g0)) rfl hD0
  have hl : lv_has ls 4 [(0, .ref (a0 0)), (1, .int x1)] := hl
  have HL4 : ∀ (x1 : Int32) (n : Nat) (x2 : Int32) (x3 : Int32) (ex : (Int32)), f_X12_usesOf_L4 x1 g0 n (x2, x3) = some ex → ∀ (H : Heap) (locs : List Loc) (ls : Array Slot), va_P (dC, dI) vwCl (wM tc a0 g0) H → va_S A s.heap H locs → lv_has ls 4 [(0, .ref (a0 0)), (1, .int x1), (2, .int x2), (3, .int x3)] → (∀ (y2 : Int32), y2 = ex → ∀ (H : Heap) (locs : List Loc) (ls : Array Slot), va_P (dC, dI) vwCl (wM tc a0 g0) H → va_S A s.heap H locs → lv_has ls 4 [(2, .int y2)] → W pr l e rm_X12_usesOf s m args below meth c H locs 0 0 Q (F0 m 39 ls [])) → W pr l e rm_X12_usesOf s m args below meth c H locs 0 0 Q (F0 m 4 ls []) := by
    intro x1 n
    induction n with
    | zero => intro x2 x3 ex h; exact lp_z h
    | succ n ih =>
      intro x2 x3 ex h H locs ls hP hS hl K
      have h := lp_s h
      refine lv_iload_n X.1 X.2.1 dX12_usesOf_4 rfl (lv_at hl 3 rfl) ?_
      refine lv_aload_n X.1 X.2.1 dX12_usesOf_5 rfl (lv_at hl 0 rfl) ?_
      refine r_get (C := RX12) (T := TX12) (N := 28) (ci := 12) (v := .ref (a0 2)) X iw12 hP 0 rfl rfl 1 rfl mw_7_121 rfl dX12_usesOf_6 ?_
      refine lv_iconst (v := 3) X.1 X.2.1 dX12_usesOf_9 (by decide) ?_
      refine r_iald X hP 1 0 rfl rfl (j := 3) (by unfold vp_in; decide) (by decide) dX12_usesOf_10 ?_
      refine lv_icmp_ge (tgt := 39) X.1 X.2.1 dX12_usesOf_11 (by decide) (fun hc => ?_) (fun hc => ?_)
      · have h := it_t hc h
        exact K x2 (Option.some.inj h) H locs ls hP hS (lv_sub hl [2] rfl)
      · have h := it_f hc h
        refine lv_iload_n X.1 X.2.1 dX12_usesOf_14 rfl (lv_at hl 2 rfl) ?_
        refine lv_aload_n X.1 X.2.1 dX12_usesOf_15 rfl (lv_at hl 0 rfl) ?_
        refine lv_iload_n X.1 X.2.1 dX12_usesOf_16 rfl (lv_at hl 3 rfl) ?_
        refine lv_iload_n X.1 X.2.1 dX12_usesOf_17 rfl (lv_at hl 1 rfl) ?_
        obtain ⟨r_1, hc_1, h⟩ := bd_el h
        refine call_V1i (As := [.int x3, .int x1]) (rest := [.int x2]) X (c_X12_countOf l dC dI sk sv tc a0 g0 x3 x1 hc_1) mw_10_13 mw_10_15 mp_6_7 mw_1_12 mw_10_16 dc_X12_countOf ⟨Nat.le_of_ble_eq_true rfl, Nat.le_of_ble_eq_true rfl⟩ rfl rfl ⟨Nat.zero_le _, Nat.zero_le _⟩ hP (hD _) hS 0 rfl rfl rfl hl.1 (Nat.le_of_ble_eq_true rfl) dX12_usesOf_18 (fun H locs hP hS => ?_)
        obtain ⟨J31, eJ31, h⟩ := jn_el h
        have HJ31 : ∀ (s0_J31 : Int32) (s1_J31 : Int32) (H : Heap) (locs : List Loc) (ls : Array Slot), J31 s0_J31 s1_J31 = some ex → va_P (dC, dI) vwCl (wM tc a0 g0) H → va_S A s.heap H locs → lv_has ls 4 [(0, .ref (a0 0)), (1, .int x1), (3, .int x3)] → W pr l e rm_X12_usesOf s m args below meth c H locs 0 0 Q (F0 m 31 ls [.int s1_J31, .int s0_J31]) := by
          intro s0_J31 s1_J31 H locs ls h hP hS hl
          rw [eJ31] at h
          refine lv_ior X.1 X.2.1 dX12_usesOf_31 ?_
          obtain ⟨x2_2, ex2_2, h⟩ := nm_el h
          refine tp_i ex2_2 ?_
          refine lv_istore_n (lv' := [(2, .int x2_2), (0, .ref (a0 0)), (1, .int x1), (3, .int x3)]) X.1 X.2.1 dX12_usesOf_32 rfl hl (by decide) rfl (fun ls hl => ?_)
          obtain ⟨x3_3, ex3_3, h⟩ := nm_el h
          refine lv_iinc (v := x3_3) (lv' := [(3, .int x3_3), (2, .int x2_2), (0, .ref (a0 0)), (1, .int x1)]) X.1 X.2.1 dX12_usesOf_33 hl (k := 3) rfl (by rw [ex3_3]; rfl) (by decide) rfl (fun ls hl => ?_)
          refine lv_goto (tgt := 4) X.1 X.2.1 dX12_usesOf_36 (by decide) ?_
          exact ih x2_2 x3_3 ex h H locs ls hP hS (lv_sub hl [2, 3, 1, 0] rfl) K
        refine lv_if_le (tgt := 30) X.1 X.2.1 dX12_usesOf_21 (by decide) (fun hc => ?_) (fun hc => ?_)
        · have h := it_t hc h
          refine lv_iconst (v := 0) X.1 X.2.1 dX12_usesOf_30 (by decide) ?_
          exact HJ31 x2 0 H locs ls h hP hS (lv_sub hl [0, 1, 3] rfl)
        · have h := it_f hc h
          refine lv_iconst (v := 1) X.1 X.2.1 dX12_usesOf_24 (by decide) ?_
          refine lv_iload_n X.1 X.2.1 dX12_usesOf_25 rfl (lv_at hl 3 rfl) ?_
          refine lv_ishl X.1 X.2.1 dX12_usesOf_26 ?_
          refine lv_goto (tgt := 31) X.1 X.2.1 dX12_usesOf_27 (by decide) ?_
          exact HJ31 x2 (1 <<< (x3 &&& 31)) H locs ls h hP hS (lv_sub hl [0, 1, 3] rfl)
  unfold f_X12_usesOf at h
  refine lv_iconst (v := 0) X.1 X.2.1 dX12_usesOf_0 (by decide) ?_
  refine lv_istore_n (lv' := [(2, .int 0), (0, .ref (a0 0)), (1, .int x1)]) X.1 X.2.1 dX12_usesOf_1 rfl hl (by decide) rfl (fun ls hl => ?_)
  refine lv_iconst (v := 0) X.1 X.2.1 dX12_usesOf_2 (by decide) ?_
  refine lv_istore_n (lv' := [(3, .int 0), (2, .int 0), (0, .ref (a0 0)), (1, .int x1)]) X.1 X.2.1 dX12_usesOf_3 rfl hl (by decide) rfl (fun ls hl => ?_)
  obtain ⟨ex_4, hL_4, h⟩ := bd_el h
  refine HL4 x1 fu 0 0 ex_4 hL_4 H locs ls hP hS (lv_sub hl [2, 3, 1, 0] rfl) (fun x2_4 he H locs ls hP hS hl => ?_)
  subst he
  refine lv_iload_n X.1 X.2.1 dX12_usesOf_39 rfl (lv_at hl 0 rfl) ?_
  exact ret_i0 (Option.some.inj h) X hQ hP hS dX12_usesOf_40

def f_X12_uses (g0 : Pic) (x1 : Int32) : Option (Int32 × Pic) := bd (f_X12_isIn x1 0 7) (fun r_1 => jn (fun (s1_J16 : Int32) => nm (pu g0 0 0 s1_J16) (fun g0_2 => jn (fun (s0_J35 : Int32) => some (s0_J35, g0_2)) (fun J35 => (if (g0_2 0 0) ≤ 0 then bd (f_X12_usesOf g0_2 x1) (fun r_3 => J35 r_3) else J35 0)))) (fun J16 => (if r_1 = 0 then J16 1 else J16 0)))
abbrev rm_X12_uses : Room := { frames := 3, cells := 0, slots := 0, locals := 69 }
set_option maxHeartbeats 4000000 in
set_option maxRecDepth 100000 in
theorem c_X12_uses (l : Launch) (dC : Nat → ClassId) (dI : Nat → Nat → Nat) (sk sv : Nat → Nat) (tc : Nat → ClassId) (a0 : Nat → Nat) (g0 : Pic) (x1 : Int32) {r0 : Int32} {G0 : Pic} (h : f_X12_uses g0 x1 = some (r0, G0)) : CT l (dC, dI) sk sv (TY tc) yX12_uses cX12_uses 2 (some .int) rm_X12_uses [.ref (a0 0), .int x1] (wM tc a0 g0) (some (.int r0)) (wM tc a0 G0) := by
  refine ofCT (by decide) (Nat.le_of_ble_eq_true rfl) ?_
  intro pr e s m args below meth c A Q ls H locs X hQ hD0 hP hS hl
  have hD : ∀ z0, va_D A (wM tc a0 z0) := fun z0 => D_fst (ws := (wM tc a0 g0)) rfl hD0
  have hl : lv_has ls 2 [(0, .ref (a0 0)), (1, .int x1)] := hl
  unfold f_X12_uses at h
  refine lv_aload_n X.1 X.2.1 dX12_uses_0 rfl (lv_at hl 0 rfl) ?_
  refine lv_iload_n X.1 X.2.1 dX12_uses_1 rfl (lv_at hl 1 rfl) ?_
  refine lv_iconst (v := 0) X.1 X.2.1 dX12_uses_2 (by decide) ?_
  refine lv_bipush (v := 7) X.1 X.2.1 dX12_uses_3 (by decide) ?_
  obtain ⟨r_1, hc_1, h⟩ := bd_el h
  refine call_S0i (As := [.int x1, .int 0, .int 7]) (rest := [.ref (a0 0)]) X (c_X12_isIn l dC dI sk sv tc x1 0 7 hc_1) mw_7_218 mw_7_219 mw_1_12 mw_7_220 dc_X12_isIn ⟨Nat.le_of_ble_eq_true rfl, Nat.le_of_ble_eq_true rfl⟩ rfl rfl ⟨Nat.zero_le _, Nat.zero_le _⟩ hP (hD _) hS hl.1 (Nat.le_of_ble_eq_true rfl) dX12_uses_5 (fun H locs hP hS => ?_)
  obtain ⟨J16, eJ16, h⟩ := jn_el h
  have HJ16 : ∀ (s1_J16 : Int32) (H : Heap) (locs : List Loc) (ls : Array Slot), J16 s1_J16 = some (r0, G0) → va_P (dC, dI) vwCl (wM tc a0 g0) H → va_S A s.heap H locs → lv_has ls 2 [(0, .ref (a0 0)), (1, .int x1)] → W pr l e rm_X12_uses s m args below meth c H locs 0 0 Q (F0 m 16 ls [.int s1_J16, .ref (a0 0)]) := by
    intro s1_J16 H locs ls h hP hS hl
    rw [eJ16] at h
    obtain ⟨g0_2, eg0_2, h⟩ := nm_el h
    refine r_put (C := RX12) (T := TX12) (N := 28) (ci := 12) tyX12 tyX12_ok nmX12 X iw12 hP (hD _) hS 0 rfl rfl 0 rfl mw_7_120 rfl rfl rfl rfl dX12_uses_16 (wM tc a0 g0_2) (by rw [eg0_2]; rfl) (fun H locs hP hS => ?_)
    refine lv_aload_n X.1 X.2.1 dX12_uses_19 rfl (lv_at hl 0 rfl) ?_
    refine r_get (C := RX12) (T := TX12) (N := 28) (ci := 12) (v := .int (g0_2 0 0)) X iw12 hP 0 rfl rfl 0 rfl mw_7_120 rfl dX12_uses_20 ?_
    obtain ⟨J35, eJ35, h⟩ := jn_el h
    have HJ35 : ∀ (s0_J35 : Int32) (H : Heap) (locs : List Loc) (ls : Array Slot), J35 s0_J35 = some (r0, G0) → va_P (dC, dI) vwCl (wM tc a0 g0_2) H → va_S A s.heap H locs → lv_has ls 2 [] → W pr l e rm_X12_uses s m args below meth c H locs 0 0 Q (F0 m 35 ls [.int s0_J35]) := by
      intro s0_J35 H locs ls h hP hS hl
      rw [eJ35] at h
      exact ret_i (fun u => (wM tc a0 u)) (res := (r0, G0)) (Option.some.inj h) X hQ hP hS dX12_uses_35
    refine lv_if_le (tgt := 30) X.1 X.2.1 dX12_uses_23 (by decide) (fun hc => ?_) (fun hc => ?_)
    · have h := it_t hc h
      refine lv_aload_n X.1 X.2.1 dX12_uses_30 rfl (lv_at hl 0 rfl) ?_
      refine lv_iload_n X.1 X.2.1 dX12_uses_31 rfl (lv_at hl 1 rfl) ?_
      obtain ⟨r_3, hc_3, h⟩ := bd_el h
      refine call_V1i (As := [.int x1]) (rest := []) X (c_X12_usesOf l dC dI sk sv tc a0 g0_2 x1 hc_3) mw_10_21 mw_10_23 mp_6_8 mw_1_12 mw_10_24 dc_X12_usesOf ⟨Nat.le_of_ble_eq_true rfl, Nat.le_of_ble_eq_true rfl⟩ rfl rfl ⟨Nat.zero_le _, Nat.zero_le _⟩ hP (hD _) hS 0 rfl rfl rfl hl.1 (Nat.le_of_ble_eq_true rfl) dX12_uses_32 (fun H locs hP hS => ?_)
      exact HJ35 r_3 H locs ls h hP hS (lv_sub hl [] rfl)
    · have h := it_f hc h
      refine lv_iconst (v := 0) X.1 X.2.1 dX12_uses_26 (by decide) ?_
      refine lv_goto (tgt := 35) X.1 X.2.1 dX12_uses_27 (by decide) ?_
      exact HJ35 0 H locs ls h hP hS (lv_sub hl [] rfl)
  refine lv_if_ne (tgt := 15) X.1 X.2.1 dX12_uses_8 (by decide) (fun hc => ?_) (fun hc => ?_)
  · have h := it_f hc h
    refine lv_iconst (v := 0) X.1 X.2.1 dX12_uses_15 (by decide) ?_
    exact HJ16 0 H locs ls h hP hS (lv_sub hl [0, 1] rfl)
  · have h := it_t hc h
    refine lv_iconst (v := 1) X.1 X.2.1 dX12_uses_11 (by decide) ?_
    refine lv_goto (tgt := 16) X.1 X.2.1 dX12_uses_12 (by decide) ?_
    exact HJ16 1 H locs ls h hP hS (lv_sub hl [0, 1] rfl)

def f_X12_silent_L9 (g0 : Pic) (n : Nat) (a : Int32 × Int32) : Option (Int32) := lp (fun (rec : Int32 × Int32 → Option (Int32)) (a : Int32 × Int32) => match a with | (x1, x2) => (if 8 ≤ x2 then some x1 else bd (f_X12_usesOf g0 x2) (fun r_2 => jn (fun (s0_J31 : Int32) (s1_J31 : Int32) => nm ((s0_J31 ||| s1_J31)) (fun x1_3 => nm (x2 + 1) (fun x2_4 => rec (x1_3, x2_4)))) (fun J31 => (if r_2 = 0 then J31 x1 (1 <<< (x2 &&& 31)) else J31 x1 0))))) n a
def f_X12_silent (g0 : Pic) : Option (Int32 × Pic) := nm (pu g0 0 0 0) (fun g0_1 => bd (f_X12_silent_L9 g0_1 fu (0, 0)) (fun x1_5 => some (x1_5, g0_1)))
abbrev rm_X12_silent : Room := { frames := 3, cells := 0, slots := 0, locals := 69 }
set_option maxHeartbeats 4000000 in
set_option maxRecDepth 100000 in
theorem c_X12_silent (l : Launch) (dC : Nat → ClassId) (dI : Nat → Nat → Nat) (sk sv : Nat → Nat) (tc : Nat → ClassId) (a0 : Nat → Nat) (g0 : Pic) {r0 : Int32} {G0 : Pic} (h : f_X12_silent g0 = some (r0, G0)) : CT l (dC, dI) sk sv (TY tc) yX12_silent cX12_silent 3 (some .int) rm_X12_silent [.ref (a0 0)] (wM tc a0 g0) (some (.int r0)) (wM tc a0 G0) := by
  refine ofCT (by decide) (Nat.le_of_ble_eq_true rfl) ?_
  intro pr e s m args below meth c A Q ls H locs X hQ hD0 hP hS hl
  have hD : ∀ z0, va_D A (wM tc a0 z0) := fun z0 => D_fst (ws := (wM tc a0 g0)) rfl hD0
  have hl : lv_has ls 3 [(0, .ref (a0 0))] := hl
  have HL9 : ∀ (g0 : Pic) (n : Nat) (x1 : Int32) (x2 : Int32) (ex : (Int32)), f_X12_silent_L9 g0 n (x1, x2) = some ex → ∀ (H : Heap) (locs : List Loc) (ls : Array Slot), va_P (dC, dI) vwCl (wM tc a0 g0) H → va_S A s.heap H locs → lv_has ls 3 [(0, .ref (a0 0)), (1, .int x1), (2, .int x2)] → (∀ (y1 : Int32), y1 = ex → ∀ (H : Heap) (locs : List Loc) (ls : Array Slot), va_P (dC, dI) vwCl (wM tc a0 g0) H → va_S A s.heap H locs → lv_has ls 3 [(1, .int y1)] → W pr l e rm_X12_silent s m args below meth c H locs 0 0 Q (F0 m 39 ls [])) → W pr l e rm_X12_silent s m args below meth c H locs 0 0 Q (F0 m 9 ls []) := by
    intro g0 n
    induction n with
    | zero => intro x1 x2 ex h; exact lp_z h
    | succ n ih =>
      intro x1 x2 ex h H locs ls hP hS hl K
      have h := lp_s h
      refine lv_iload_n X.1 X.2.1 dX12_silent_9 rfl (lv_at hl 2 rfl) ?_
      refine lv_bipush (v := 8) X.1 X.2.1 dX12_silent_10 (by decide) ?_
      refine lv_icmp_ge (tgt := 39) X.1 X.2.1 dX12_silent_12 (by decide) (fun hc => ?_) (fun hc => ?_)
      · have h := it_t hc h
        exact K x1 (Option.some.inj h) H locs ls hP hS (lv_sub hl [1] rfl)
      · have h := it_f hc h
        refine lv_iload_n X.1 X.2.1 dX12_silent_15 rfl (lv_at hl 1 rfl) ?_
        refine lv_aload_n X.1 X.2.1 dX12_silent_16 rfl (lv_at hl 0 rfl) ?_
        refine lv_iload_n X.1 X.2.1 dX12_silent_17 rfl (lv_at hl 2 rfl) ?_
        obtain ⟨r_2, hc_2, h⟩ := bd_el h
        refine call_V1i (As := [.int x2]) (rest := [.int x1]) X (c_X12_usesOf l dC dI sk sv tc a0 g0 x2 hc_2) mw_10_21 mw_10_23 mp_6_8 mw_1_12 mw_10_24 dc_X12_usesOf ⟨Nat.le_of_ble_eq_true rfl, Nat.le_of_ble_eq_true rfl⟩ rfl rfl ⟨Nat.zero_le _, Nat.zero_le _⟩ hP (hD _) hS 0 rfl rfl rfl hl.1 (Nat.le_of_ble_eq_true rfl) dX12_silent_18 (fun H locs hP hS => ?_)
        obtain ⟨J31, eJ31, h⟩ := jn_el h
        have HJ31 : ∀ (s0_J31 : Int32) (s1_J31 : Int32) (H : Heap) (locs : List Loc) (ls : Array Slot), J31 s0_J31 s1_J31 = some ex → va_P (dC, dI) vwCl (wM tc a0 g0) H → va_S A s.heap H locs → lv_has ls 3 [(0, .ref (a0 0)), (2, .int x2)] → W pr l e rm_X12_silent s m args below meth c H locs 0 0 Q (F0 m 31 ls [.int s1_J31, .int s0_J31]) := by
          intro s0_J31 s1_J31 H locs ls h hP hS hl
          rw [eJ31] at h
          refine lv_ior X.1 X.2.1 dX12_silent_31 ?_
          obtain ⟨x1_3, ex1_3, h⟩ := nm_el h
          refine tp_i ex1_3 ?_
          refine lv_istore_n (lv' := [(1, .int x1_3), (0, .ref (a0 0)), (2, .int x2)]) X.1 X.2.1 dX12_silent_32 rfl hl (by decide) rfl (fun ls hl => ?_)
          obtain ⟨x2_4, ex2_4, h⟩ := nm_el h
          refine lv_iinc (v := x2_4) (lv' := [(2, .int x2_4), (1, .int x1_3), (0, .ref (a0 0))]) X.1 X.2.1 dX12_silent_33 hl (k := 2) rfl (by rw [ex2_4]; rfl) (by decide) rfl (fun ls hl => ?_)
          refine lv_goto (tgt := 9) X.1 X.2.1 dX12_silent_36 (by decide) ?_
          exact ih x1_3 x2_4 ex h H locs ls hP hS (lv_sub hl [2, 1, 0] rfl) K
        refine lv_if_ne (tgt := 30) X.1 X.2.1 dX12_silent_21 (by decide) (fun hc => ?_) (fun hc => ?_)
        · have h := it_f hc h
          refine lv_iconst (v := 0) X.1 X.2.1 dX12_silent_30 (by decide) ?_
          exact HJ31 x1 0 H locs ls h hP hS (lv_sub hl [0, 2] rfl)
        · have h := it_t hc h
          refine lv_iconst (v := 1) X.1 X.2.1 dX12_silent_24 (by decide) ?_
          refine lv_iload_n X.1 X.2.1 dX12_silent_25 rfl (lv_at hl 2 rfl) ?_
          refine lv_ishl X.1 X.2.1 dX12_silent_26 ?_
          refine lv_goto (tgt := 31) X.1 X.2.1 dX12_silent_27 (by decide) ?_
          exact HJ31 x1 (1 <<< (x2 &&& 31)) H locs ls h hP hS (lv_sub hl [0, 2] rfl)
  unfold f_X12_silent at h
  refine lv_aload_n X.1 X.2.1 dX12_silent_0 rfl (lv_at hl 0 rfl) ?_
  refine lv_iconst (v := 0) X.1 X.2.1 dX12_silent_1 (by decide) ?_
  obtain ⟨g0_1, eg0_1, h⟩ := nm_el h
  refine r_put (C := RX12) (T := TX12) (N := 28) (ci := 12) tyX12 tyX12_ok nmX12 X iw12 hP (hD _) hS 0 rfl rfl 0 rfl mw_7_120 rfl rfl rfl rfl dX12_silent_2 (wM tc a0 g0_1) (by rw [eg0_1]; rfl) (fun H locs hP hS => ?_)
  refine lv_iconst (v := 0) X.1 X.2.1 dX12_silent_5 (by decide) ?_
  refine lv_istore_n (lv' := [(1, .int 0), (0, .ref (a0 0))]) X.1 X.2.1 dX12_silent_6 rfl hl (by decide) rfl (fun ls hl => ?_)
  refine lv_iconst (v := 0) X.1 X.2.1 dX12_silent_7 (by decide) ?_
  refine lv_istore_n (lv' := [(2, .int 0), (1, .int 0), (0, .ref (a0 0))]) X.1 X.2.1 dX12_silent_8 rfl hl (by decide) rfl (fun ls hl => ?_)
  obtain ⟨ex_5, hL_5, h⟩ := bd_el h
  refine HL9 g0_1 fu 0 0 ex_5 hL_5 H locs ls hP hS (lv_sub hl [2, 1, 0] rfl) (fun x1_5 he H locs ls hP hS hl => ?_)
  subst he
  refine lv_iload_n X.1 X.2.1 dX12_silent_39 rfl (lv_at hl 0 rfl) ?_
  exact ret_i (fun u => (wM tc a0 u)) (res := (r0, G0)) (Option.some.inj h) X hQ hP hS dX12_silent_40

def f_X12_logged (g0 : Pic) (x1 : Int32) (x2 : Int32) : Option (Int32) := gdi ((216 + (4 * x1)) + x2) 856 (some (g0 1 (((216 + (4 * x1)) + x2).toNatClampNeg)))
abbrev rm_X12_logged : Room := { frames := 0, cells := 0, slots := 0, locals := 0 }
set_option maxHeartbeats 4000000 in
set_option maxRecDepth 100000 in
theorem c_X12_logged (l : Launch) (dC : Nat → ClassId) (dI : Nat → Nat → Nat) (sk sv : Nat → Nat) (tc : Nat → ClassId) (a0 : Nat → Nat) (g0 : Pic) (x1 : Int32) (x2 : Int32) {r0 : Int32} (h : f_X12_logged g0 x1 x2 = some r0) : CT l (dC, dI) sk sv (TY tc) yX12_logged cX12_logged 3 (some .int) rm_X12_logged [.ref (a0 0), .int x1, .int x2] (wM tc a0 g0) (some (.int r0)) (wM tc a0 g0) := by
  refine ofCT (by decide) (Nat.le_of_ble_eq_true rfl) ?_
  intro pr e s m args below meth c A Q ls H locs X hQ hD0 hP hS hl
  have hD : ∀ z0, va_D A (wM tc a0 z0) := fun z0 => D_fst (ws := (wM tc a0 g0)) rfl hD0
  have hl : lv_has ls 3 [(0, .ref (a0 0)), (1, .int x1), (2, .int x2)] := hl
  unfold f_X12_logged at h
  refine lv_aload_n X.1 X.2.1 dX12_logged_0 rfl (lv_at hl 0 rfl) ?_
  refine r_get (C := RX12) (T := TX12) (N := 28) (ci := 12) (v := .ref (a0 2)) X iw12 hP 0 rfl rfl 1 rfl mw_7_121 rfl dX12_logged_1 ?_
  refine lv_sipush (v := 216) X.1 X.2.1 dX12_logged_4 (by decide) ?_
  refine lv_iconst (v := 4) X.1 X.2.1 dX12_logged_7 (by decide) ?_
  refine lv_iload_n X.1 X.2.1 dX12_logged_8 rfl (lv_at hl 1 rfl) ?_
  refine lv_imul X.1 X.2.1 dX12_logged_9 ?_
  refine lv_iadd X.1 X.2.1 dX12_logged_10 ?_
  refine lv_iload_n X.1 X.2.1 dX12_logged_11 rfl (lv_at hl 2 rfl) ?_
  refine lv_iadd X.1 X.2.1 dX12_logged_12 ?_
  obtain ⟨hg_1, h⟩ := gdi_el h
  refine r_iald X hP 1 0 rfl rfl hg_1 rfl dX12_logged_13 ?_
  exact ret_i0 (Option.some.inj h) X hQ hP hS dX12_logged_14

def f_X12_led_L42 (x1 : Int32) (x2 : Int32) (g0 : Pic) (n : Nat) (a : Int32 × Int32 × Int32) : Option (Int32 × Int32) := lp (fun (rec : Int32 × Int32 × Int32 → Option (Int32 × Int32)) (a : Int32 × Int32 × Int32) => match a with | (x3, x4, x5) => (if x5 < 0 then some (x3, x4) else bd (f_X12_logged g0 x5 1) (fun r_4 => jn (fun (x3_J73 : Int32) (x4_J73 : Int32) => nm (x5 + (-1)) (fun x5_5 => rec (x3_J73, x4_J73, x5_5))) (fun J73 => (if r_4 = x1 then nm (x3 + 1) (fun x3_6 => bd (f_X12_logged g0 x5 0) (fun r_7 => J73 x3_6 r_7)) else J73 x3 x4))))) n a
def f_X12_led (g0 : Pic) (x1 : Int32) (x2 : Int32) : Option (Int32 × Pic) := bd (f_X12_isWriter g0 x1) (fun r_1 => jn (fun (s1_J14 : Int32) => nm (pu g0 0 0 s1_J14) (fun g0_2 => (if (g0_2 0 0) ≤ 0 then nm (((g0_2 1 10) - 1)) (fun x5_3 => bd (f_X12_led_L42 x1 x2 g0_2 fu (0, (-1), x5_3)) (fun (x3_8, x4_8) => jn (fun (s0_J89 : Int32) => some (s0_J89, g0_2)) (fun J89 => (if x2 = 0 then J89 x3_8 else J89 x4_8)))) else some (0, g0_2)))) (fun J14 => (if r_1 = 0 then J14 1 else J14 0)))
abbrev rm_X12_led : Room := { frames := 2, cells := 0, slots := 0, locals := 43 }
set_option maxHeartbeats 4000000 in
set_option maxRecDepth 100000 in
theorem c_X12_led (l : Launch) (dC : Nat → ClassId) (dI : Nat → Nat → Nat) (sk sv : Nat → Nat) (tc : Nat → ClassId) (a0 : Nat → Nat) (g0 : Pic) (x1 : Int32) (x2 : Int32) {r0 : Int32} {G0 : Pic} (h : f_X12_led g0 x1 x2 = some (r0, G0)) : CT l (dC, dI) sk sv (TY tc) yX12_led cX12_led 6 (some .int) rm_X12_led [.ref (a0 0), .int x1, .int x2] (wM tc a0 g0) (some (.int r0)) (wM tc a0 G0) := by
  refine ofCT (by decide) (Nat.le_of_ble_eq_true rfl) ?_
  intro pr e s m args below meth c A Q ls H locs X hQ hD0 hP hS hl
  have hD : ∀ z0, va_D A (wM tc a0 z0) := fun z0 => D_fst (ws := (wM tc a0 g0)) rfl hD0
  have hl : lv_has ls 6 [(0, .ref (a0 0)), (1, .int x1), (2, .int x2)] := hl
  have HL42 : ∀ (x1 : Int32) (x2 : Int32) (g0 : Pic) (n : Nat) (x3 : Int32) (x4 : Int32) (x5 : Int32) (ex : (Int32 × Int32)), f_X12_led_L42 x1 x2 g0 n (x3, x4, x5) = some ex → ∀ (H : Heap) (locs : List Loc) (ls : Array Slot), va_P (dC, dI) vwCl (wM tc a0 g0) H → va_S A s.heap H locs → lv_has ls 6 [(0, .ref (a0 0)), (1, .int x1), (2, .int x2), (3, .int x3), (4, .int x4), (5, .int x5)] → (∀ (y3 : Int32) (y4 : Int32), (y3, y4) = ex → ∀ (H : Heap) (locs : List Loc) (ls : Array Slot), va_P (dC, dI) vwCl (wM tc a0 g0) H → va_S A s.heap H locs → lv_has ls 6 [(2, .int x2), (3, .int y3), (4, .int y4)] → W pr l e rm_X12_led s m args below meth c H locs 0 0 Q (F0 m 79 ls [])) → W pr l e rm_X12_led s m args below meth c H locs 0 0 Q (F0 m 42 ls []) := by
    intro x1 x2 g0 n
    induction n with
    | zero => intro x3 x4 x5 ex h; exact lp_z h
    | succ n ih =>
      intro x3 x4 x5 ex h H locs ls hP hS hl K
      have h := lp_s h
      refine lv_iload X.1 X.2.1 dX12_led_42 (lv_at hl 5 rfl) ?_
      refine lv_if_lt (tgt := 79) X.1 X.2.1 dX12_led_44 (by decide) (fun hc => ?_) (fun hc => ?_)
      · have h := it_t hc h
        exact K x3 x4 (Option.some.inj h) H locs ls hP hS (lv_sub hl [2, 3, 4] rfl)
      · have h := it_f hc h
        refine lv_aload_n X.1 X.2.1 dX12_led_47 rfl (lv_at hl 0 rfl) ?_
        refine lv_iload X.1 X.2.1 dX12_led_48 (lv_at hl 5 rfl) ?_
        refine lv_iconst (v := 1) X.1 X.2.1 dX12_led_50 (by decide) ?_
        obtain ⟨r_4, hc_4, h⟩ := bd_el h
        refine call_V1i (As := [.int x5, .int 1]) (rest := []) X (c_X12_logged l dC dI sk sv tc a0 g0 x5 1 hc_4) mw_10_49 mw_10_51 mp_6_10 mw_1_12 mw_10_52 dc_X12_logged ⟨Nat.le_of_ble_eq_true rfl, Nat.le_of_ble_eq_true rfl⟩ rfl rfl ⟨Nat.zero_le _, Nat.zero_le _⟩ hP (hD _) hS 0 rfl rfl rfl hl.1 (Nat.le_of_ble_eq_true rfl) dX12_led_51 (fun H locs hP hS => ?_)
        refine lv_iload_n X.1 X.2.1 dX12_led_54 rfl (lv_at hl 1 rfl) ?_
        obtain ⟨J73, eJ73, h⟩ := jn_el h
        have HJ73 : ∀ (x3_J73 : Int32) (x4_J73 : Int32) (H : Heap) (locs : List Loc) (ls : Array Slot), J73 x3_J73 x4_J73 = some ex → va_P (dC, dI) vwCl (wM tc a0 g0) H → va_S A s.heap H locs → lv_has ls 6 [(0, .ref (a0 0)), (1, .int x1), (2, .int x2), (3, .int x3_J73), (4, .int x4_J73), (5, .int x5)] → W pr l e rm_X12_led s m args below meth c H locs 0 0 Q (F0 m 73 ls []) := by
          intro x3_J73 x4_J73 H locs ls h hP hS hl
          rw [eJ73] at h
          obtain ⟨x5_5, ex5_5, h⟩ := nm_el h
          refine lv_iinc (v := x5_5) (lv' := [(5, .int x5_5), (0, .ref (a0 0)), (1, .int x1), (2, .int x2), (3, .int x3_J73), (4, .int x4_J73)]) X.1 X.2.1 dX12_led_73 hl (k := 5) rfl (by rw [ex5_5]; rfl) (by decide) rfl (fun ls hl => ?_)
          refine lv_goto (tgt := 42) X.1 X.2.1 dX12_led_76 (by decide) ?_
          exact ih x3_J73 x4_J73 x5_5 ex h H locs ls hP hS (lv_sub hl [1, 2, 3, 4, 5, 0] rfl) K
        refine lv_icmp_eq (tgt := 61) X.1 X.2.1 dX12_led_55 (by decide) (fun hc => ?_) (fun hc => ?_)
        · have h := it_t hc h
          obtain ⟨x3_6, ex3_6, h⟩ := nm_el h
          refine lv_iinc (v := x3_6) (lv' := [(3, .int x3_6), (0, .ref (a0 0)), (1, .int x1), (2, .int x2), (4, .int x4), (5, .int x5)]) X.1 X.2.1 dX12_led_61 hl (k := 3) rfl (by rw [ex3_6]; rfl) (by decide) rfl (fun ls hl => ?_)
          refine lv_aload_n X.1 X.2.1 dX12_led_64 rfl (lv_at hl 1 rfl) ?_
          refine lv_iload X.1 X.2.1 dX12_led_65 (lv_at hl 5 rfl) ?_
          refine lv_iconst (v := 0) X.1 X.2.1 dX12_led_67 (by decide) ?_
          obtain ⟨r_7, hc_7, h⟩ := bd_el h
          refine call_V1i (As := [.int x5, .int 0]) (rest := []) X (c_X12_logged l dC dI sk sv tc a0 g0 x5 0 hc_7) mw_10_49 mw_10_51 mp_6_10 mw_1_12 mw_10_52 dc_X12_logged ⟨Nat.le_of_ble_eq_true rfl, Nat.le_of_ble_eq_true rfl⟩ rfl rfl ⟨Nat.zero_le _, Nat.zero_le _⟩ hP (hD _) hS 0 rfl rfl rfl hl.1 (Nat.le_of_ble_eq_true rfl) dX12_led_68 (fun H locs hP hS => ?_)
          refine lv_istore (lv' := [(4, .int r_7), (3, .int x3_6), (0, .ref (a0 0)), (1, .int x1), (2, .int x2), (5, .int x5)]) X.1 X.2.1 dX12_led_71 hl (by decide) rfl (fun ls hl => ?_)
          exact HJ73 x3_6 r_7 H locs ls h hP hS (lv_sub hl [2, 3, 4, 1, 0, 5] rfl)
        · have h := it_f hc h
          refine lv_goto (tgt := 73) X.1 X.2.1 dX12_led_58 (by decide) ?_
          exact HJ73 x3 x4 H locs ls h hP hS (lv_sub hl [0, 1, 2, 3, 4, 5] rfl)
  unfold f_X12_led at h
  refine lv_aload_n X.1 X.2.1 dX12_led_0 rfl (lv_at hl 0 rfl) ?_
  refine lv_aload_n X.1 X.2.1 dX12_led_1 rfl (lv_at hl 0 rfl) ?_
  refine lv_iload_n X.1 X.2.1 dX12_led_2 rfl (lv_at hl 1 rfl) ?_
  obtain ⟨r_1, hc_1, h⟩ := bd_el h
  refine call_V1i (As := [.int x1]) (rest := [.ref (a0 0)]) X (c_X12_isWriter l dC dI sk sv tc a0 g0 x1 hc_1) mw_8_176 mw_8_178 mp_4_0 mw_1_12 mw_8_179 dc_X12_isWriter ⟨Nat.le_of_ble_eq_true rfl, Nat.le_of_ble_eq_true rfl⟩ rfl rfl ⟨Nat.zero_le _, Nat.zero_le _⟩ hP (hD _) hS 0 rfl rfl rfl hl.1 (Nat.le_of_ble_eq_true rfl) dX12_led_3 (fun H locs hP hS => ?_)
  obtain ⟨J14, eJ14, h⟩ := jn_el h
  have HJ14 : ∀ (s1_J14 : Int32) (H : Heap) (locs : List Loc) (ls : Array Slot), J14 s1_J14 = some (r0, G0) → va_P (dC, dI) vwCl (wM tc a0 g0) H → va_S A s.heap H locs → lv_has ls 6 [(0, .ref (a0 0)), (1, .int x1), (2, .int x2)] → W pr l e rm_X12_led s m args below meth c H locs 0 0 Q (F0 m 14 ls [.int s1_J14, .ref (a0 0)]) := by
    intro s1_J14 H locs ls h hP hS hl
    rw [eJ14] at h
    obtain ⟨g0_2, eg0_2, h⟩ := nm_el h
    refine r_put (C := RX12) (T := TX12) (N := 28) (ci := 12) tyX12 tyX12_ok nmX12 X iw12 hP (hD _) hS 0 rfl rfl 0 rfl mw_7_120 rfl rfl rfl rfl dX12_led_14 (wM tc a0 g0_2) (by rw [eg0_2]; rfl) (fun H locs hP hS => ?_)
    refine lv_aload_n X.1 X.2.1 dX12_led_17 rfl (lv_at hl 0 rfl) ?_
    refine r_get (C := RX12) (T := TX12) (N := 28) (ci := 12) (v := .int (g0_2 0 0)) X iw12 hP 0 rfl rfl 0 rfl mw_7_120 rfl dX12_led_18 ?_
    refine lv_if_le (tgt := 26) X.1 X.2.1 dX12_led_21 (by decide) (fun hc => ?_) (fun hc => ?_)
    · have h := it_t hc h
      refine lv_iconst (v := 0) X.1 X.2.1 dX12_led_26 (by decide) ?_
      refine lv_istore_n (lv' := [(3, .int 0), (0, .ref (a0 0)), (1, .int x1), (2, .int x2)]) X.1 X.2.1 dX12_led_27 rfl hl (by decide) rfl (fun ls hl => ?_)
      refine lv_iconst (v := (-1)) X.1 X.2.1 dX12_led_28 (by decide) ?_
      refine lv_istore (lv' := [(4, .int (-1)), (3, .int 0), (0, .ref (a0 0)), (1, .int x1), (2, .int x2)]) X.1 X.2.1 dX12_led_29 hl (by decide) rfl (fun ls hl => ?_)
      refine lv_aload_n X.1 X.2.1 dX12_led_31 rfl (lv_at hl 2 rfl) ?_
      refine r_get (C := RX12) (T := TX12) (N := 28) (ci := 12) (v := .ref (a0 2)) X iw12 hP 0 rfl rfl 1 rfl mw_7_121 rfl dX12_led_32 ?_
      refine lv_bipush (v := 10) X.1 X.2.1 dX12_led_35 (by decide) ?_
      refine r_iald X hP 1 0 rfl rfl (j := 10) (by unfold vp_in; decide) (by decide) dX12_led_37 ?_
      refine lv_iconst (v := 1) X.1 X.2.1 dX12_led_38 (by decide) ?_
      refine lv_isub X.1 X.2.1 dX12_led_39 ?_
      obtain ⟨x5_3, ex5_3, h⟩ := nm_el h
      refine tp_i ex5_3 ?_
      refine lv_istore (lv' := [(5, .int x5_3), (4, .int (-1)), (3, .int 0), (0, .ref (a0 0)), (1, .int x1), (2, .int x2)]) X.1 X.2.1 dX12_led_40 hl (by decide) rfl (fun ls hl => ?_)
      obtain ⟨ex_8, hL_8, h⟩ := bd_el h
      refine HL42 x1 x2 g0_2 fu 0 (-1) x5_3 ex_8 hL_8 H locs ls hP hS (lv_sub hl [3, 4, 5, 2, 1, 0] rfl) (fun x3_8 x4_8 he H locs ls hP hS hl => ?_)
      subst he
      refine lv_iload_n X.1 X.2.1 dX12_led_79 rfl (lv_at hl 0 rfl) ?_
      obtain ⟨J89, eJ89, h⟩ := jn_el h
      have HJ89 : ∀ (s0_J89 : Int32) (H : Heap) (locs : List Loc) (ls : Array Slot), J89 s0_J89 = some (r0, G0) → va_P (dC, dI) vwCl (wM tc a0 g0_2) H → va_S A s.heap H locs → lv_has ls 6 [] → W pr l e rm_X12_led s m args below meth c H locs 0 0 Q (F0 m 89 ls [.int s0_J89]) := by
        intro s0_J89 H locs ls h hP hS hl
        rw [eJ89] at h
        exact ret_i (fun u => (wM tc a0 u)) (res := (r0, G0)) (Option.some.inj h) X hQ hP hS dX12_led_89
      refine lv_if_eq (tgt := 88) X.1 X.2.1 dX12_led_80 (by decide) (fun hc => ?_) (fun hc => ?_)
      · have h := it_t hc h
        refine lv_iload_n X.1 X.2.1 dX12_led_88 rfl (lv_at hl 1 rfl) ?_
        exact HJ89 x3_8 H locs ls h hP hS (lv_sub hl [] rfl)
      · have h := it_f hc h
        refine lv_iload X.1 X.2.1 dX12_led_83 (lv_at hl 2 rfl) ?_
        refine lv_goto (tgt := 89) X.1 X.2.1 dX12_led_85 (by decide) ?_
        exact HJ89 x4_8 H locs ls h hP hS (lv_sub hl [] rfl)
    · have h := it_f hc h
      refine lv_iconst (v := 0) X.1 X.2.1 dX12_led_24 (by decide) ?_
      exact ret_i (fun u => (wM tc a0 u)) (res := (r0, G0)) (Option.some.inj h) X hQ hP hS dX12_led_25
  refine lv_if_ne (tgt := 13) X.1 X.2.1 dX12_led_6 (by decide) (fun hc => ?_) (fun hc => ?_)
  · have h := it_f hc h
    refine lv_iconst (v := 0) X.1 X.2.1 dX12_led_13 (by decide) ?_
    exact HJ14 0 H locs ls h hP hS (lv_sub hl [0, 1, 2] rfl)
  · have h := it_t hc h
    refine lv_iconst (v := 1) X.1 X.2.1 dX12_led_9 (by decide) ?_
    refine lv_goto (tgt := 14) X.1 X.2.1 dX12_led_10 (by decide) ?_
    exact HJ14 1 H locs ls h hP hS (lv_sub hl [0, 1, 2] rfl)

def f_X12_log (g0 : Pic) (x1 : Int32) (x2 : Int32) : Option (Int32 × Pic) := bd (f_X12_isIn x2 0 3) (fun r_1 => jn (fun (s1_J15 : Int32) => nm (pu g0 0 0 s1_J15) (fun g0_2 => (if (g0_2 0 0) ≤ 0 then bd (f_X12_isIn x1 0 ((g0_2 1 10) - 1)) (fun r_3 => jn (fun (s0_J54 : Int32) => some (s0_J54, g0_2)) (fun J54 => (if r_3 = 0 then J54 (-1) else bd (f_X12_logged g0_2 x1 x2) (fun r_4 => J54 r_4)))) else some (0, g0_2)))) (fun J15 => (if r_1 = 0 then J15 1 else J15 0)))
abbrev rm_X12_log : Room := { frames := 1, cells := 0, slots := 0, locals := 22 }
set_option maxHeartbeats 4000000 in
set_option maxRecDepth 100000 in
theorem c_X12_log (l : Launch) (dC : Nat → ClassId) (dI : Nat → Nat → Nat) (sk sv : Nat → Nat) (tc : Nat → ClassId) (a0 : Nat → Nat) (g0 : Pic) (x1 : Int32) (x2 : Int32) {r0 : Int32} {G0 : Pic} (h : f_X12_log g0 x1 x2 = some (r0, G0)) : CT l (dC, dI) sk sv (TY tc) yX12_log cX12_log 3 (some .int) rm_X12_log [.ref (a0 0), .int x1, .int x2] (wM tc a0 g0) (some (.int r0)) (wM tc a0 G0) := by
  refine ofCT (by decide) (Nat.le_of_ble_eq_true rfl) ?_
  intro pr e s m args below meth c A Q ls H locs X hQ hD0 hP hS hl
  have hD : ∀ z0, va_D A (wM tc a0 z0) := fun z0 => D_fst (ws := (wM tc a0 g0)) rfl hD0
  have hl : lv_has ls 3 [(0, .ref (a0 0)), (1, .int x1), (2, .int x2)] := hl
  unfold f_X12_log at h
  refine lv_aload_n X.1 X.2.1 dX12_log_0 rfl (lv_at hl 0 rfl) ?_
  refine lv_iload_n X.1 X.2.1 dX12_log_1 rfl (lv_at hl 2 rfl) ?_
  refine lv_iconst (v := 0) X.1 X.2.1 dX12_log_2 (by decide) ?_
  refine lv_iconst (v := 3) X.1 X.2.1 dX12_log_3 (by decide) ?_
  obtain ⟨r_1, hc_1, h⟩ := bd_el h
  refine call_S0i (As := [.int x2, .int 0, .int 3]) (rest := [.ref (a0 0)]) X (c_X12_isIn l dC dI sk sv tc x2 0 3 hc_1) mw_7_218 mw_7_219 mw_1_12 mw_7_220 dc_X12_isIn ⟨Nat.le_of_ble_eq_true rfl, Nat.le_of_ble_eq_true rfl⟩ rfl rfl ⟨Nat.zero_le _, Nat.zero_le _⟩ hP (hD _) hS hl.1 (Nat.le_of_ble_eq_true rfl) dX12_log_4 (fun H locs hP hS => ?_)
  obtain ⟨J15, eJ15, h⟩ := jn_el h
  have HJ15 : ∀ (s1_J15 : Int32) (H : Heap) (locs : List Loc) (ls : Array Slot), J15 s1_J15 = some (r0, G0) → va_P (dC, dI) vwCl (wM tc a0 g0) H → va_S A s.heap H locs → lv_has ls 3 [(0, .ref (a0 0)), (1, .int x1), (2, .int x2)] → W pr l e rm_X12_log s m args below meth c H locs 0 0 Q (F0 m 15 ls [.int s1_J15, .ref (a0 0)]) := by
    intro s1_J15 H locs ls h hP hS hl
    rw [eJ15] at h
    obtain ⟨g0_2, eg0_2, h⟩ := nm_el h
    refine r_put (C := RX12) (T := TX12) (N := 28) (ci := 12) tyX12 tyX12_ok nmX12 X iw12 hP (hD _) hS 0 rfl rfl 0 rfl mw_7_120 rfl rfl rfl rfl dX12_log_15 (wM tc a0 g0_2) (by rw [eg0_2]; rfl) (fun H locs hP hS => ?_)
    refine lv_aload_n X.1 X.2.1 dX12_log_18 rfl (lv_at hl 0 rfl) ?_
    refine r_get (C := RX12) (T := TX12) (N := 28) (ci := 12) (v := .int (g0_2 0 0)) X iw12 hP 0 rfl rfl 0 rfl mw_7_120 rfl dX12_log_19 ?_
    refine lv_if_le (tgt := 27) X.1 X.2.1 dX12_log_22 (by decide) (fun hc => ?_) (fun hc => ?_)
    · have h := it_t hc h
      refine lv_iload_n X.1 X.2.1 dX12_log_27 rfl (lv_at hl 1 rfl) ?_
      refine lv_iconst (v := 0) X.1 X.2.1 dX12_log_28 (by decide) ?_
      refine lv_aload_n X.1 X.2.1 dX12_log_29 rfl (lv_at hl 0 rfl) ?_
      refine r_get (C := RX12) (T := TX12) (N := 28) (ci := 12) (v := .ref (a0 2)) X iw12 hP 0 rfl rfl 1 rfl mw_7_121 rfl dX12_log_30 ?_
      refine lv_bipush (v := 10) X.1 X.2.1 dX12_log_33 (by decide) ?_
      refine r_iald X hP 1 0 rfl rfl (j := 10) (by unfold vp_in; decide) (by decide) dX12_log_35 ?_
      refine lv_iconst (v := 1) X.1 X.2.1 dX12_log_36 (by decide) ?_
      refine lv_isub X.1 X.2.1 dX12_log_37 ?_
      obtain ⟨r_3, hc_3, h⟩ := bd_el h
      refine call_S0i (As := [.int x1, .int 0, .int ((g0_2 1 10) - 1)]) (rest := []) X (c_X12_isIn l dC dI sk sv tc x1 0 ((g0_2 1 10) - 1) hc_3) mw_7_218 mw_7_219 mw_1_12 mw_7_220 dc_X12_isIn ⟨Nat.le_of_ble_eq_true rfl, Nat.le_of_ble_eq_true rfl⟩ rfl rfl ⟨Nat.zero_le _, Nat.zero_le _⟩ hP (hD _) hS hl.1 (Nat.le_of_ble_eq_true rfl) dX12_log_38 (fun H locs hP hS => ?_)
      obtain ⟨J54, eJ54, h⟩ := jn_el h
      have HJ54 : ∀ (s0_J54 : Int32) (H : Heap) (locs : List Loc) (ls : Array Slot), J54 s0_J54 = some (r0, G0) → va_P (dC, dI) vwCl (wM tc a0 g0_2) H → va_S A s.heap H locs → lv_has ls 3 [] → W pr l e rm_X12_log s m args below meth c H locs 0 0 Q (F0 m 54 ls [.int s0_J54]) := by
        intro s0_J54 H locs ls h hP hS hl
        rw [eJ54] at h
        exact ret_i (fun u => (wM tc a0 u)) (res := (r0, G0)) (Option.some.inj h) X hQ hP hS dX12_log_54
      refine lv_if_eq (tgt := 53) X.1 X.2.1 dX12_log_41 (by decide) (fun hc => ?_) (fun hc => ?_)
      · have h := it_t hc h
        refine lv_iconst (v := (-1)) X.1 X.2.1 dX12_log_53 (by decide) ?_
        exact HJ54 (-1) H locs ls h hP hS (lv_sub hl [] rfl)
      · have h := it_f hc h
        refine lv_aload_n X.1 X.2.1 dX12_log_44 rfl (lv_at hl 0 rfl) ?_
        refine lv_iload_n X.1 X.2.1 dX12_log_45 rfl (lv_at hl 1 rfl) ?_
        refine lv_iload_n X.1 X.2.1 dX12_log_46 rfl (lv_at hl 2 rfl) ?_
        obtain ⟨r_4, hc_4, h⟩ := bd_el h
        refine call_V1i (As := [.int x1, .int x2]) (rest := []) X (c_X12_logged l dC dI sk sv tc a0 g0_2 x1 x2 hc_4) mw_10_49 mw_10_51 mp_6_10 mw_1_12 mw_10_52 dc_X12_logged ⟨Nat.le_of_ble_eq_true rfl, Nat.le_of_ble_eq_true rfl⟩ rfl rfl ⟨Nat.zero_le _, Nat.zero_le _⟩ hP (hD _) hS 0 rfl rfl rfl hl.1 (Nat.le_of_ble_eq_true rfl) dX12_log_47 (fun H locs hP hS => ?_)
        refine lv_goto (tgt := 54) X.1 X.2.1 dX12_log_50 (by decide) ?_
        exact HJ54 r_4 H locs ls h hP hS (lv_sub hl [] rfl)
    · have h := it_f hc h
      refine lv_iconst (v := 0) X.1 X.2.1 dX12_log_25 (by decide) ?_
      exact ret_i (fun u => (wM tc a0 u)) (res := (r0, G0)) (Option.some.inj h) X hQ hP hS dX12_log_26
  refine lv_if_ne (tgt := 14) X.1 X.2.1 dX12_log_7 (by decide) (fun hc => ?_) (fun hc => ?_)
  · have h := it_f hc h
    refine lv_iconst (v := 0) X.1 X.2.1 dX12_log_14 (by decide) ?_
    exact HJ15 0 H locs ls h hP hS (lv_sub hl [0, 1, 2] rfl)
  · have h := it_t hc h
    refine lv_iconst (v := 1) X.1 X.2.1 dX12_log_10 (by decide) ?_
    refine lv_goto (tgt := 15) X.1 X.2.1 dX12_log_11 (by decide) ?_
    exact HJ15 1 H locs ls h hP hS (lv_sub hl [0, 1, 2] rfl)

def f_X12_seed (g0 : Pic) (x1 : Int32) : Option (Int32 × Pic) := nm (pu g0 0 0 0) (fun g0_1 => nm ((g0_1 1 11)) (fun x2_2 => nm (pu g0_1 1 11 x1) (fun g0_3 => some (x2_2, g0_3))))
abbrev rm_X12_seed : Room := { frames := 0, cells := 0, slots := 0, locals := 0 }
set_option maxHeartbeats 4000000 in
set_option maxRecDepth 100000 in
theorem c_X12_seed (l : Launch) (dC : Nat → ClassId) (dI : Nat → Nat → Nat) (sk sv : Nat → Nat) (tc : Nat → ClassId) (a0 : Nat → Nat) (g0 : Pic) (x1 : Int32) {r0 : Int32} {G0 : Pic} (h : f_X12_seed g0 x1 = some (r0, G0)) : CT l (dC, dI) sk sv (TY tc) yX12_seed cX12_seed 3 (some .int) rm_X12_seed [.ref (a0 0), .int x1] (wM tc a0 g0) (some (.int r0)) (wM tc a0 G0) := by
  refine ofCT (by decide) (Nat.le_of_ble_eq_true rfl) ?_
  intro pr e s m args below meth c A Q ls H locs X hQ hD0 hP hS hl
  have hD : ∀ z0, va_D A (wM tc a0 z0) := fun z0 => D_fst (ws := (wM tc a0 g0)) rfl hD0
  have hl : lv_has ls 3 [(0, .ref (a0 0)), (1, .int x1)] := hl
  unfold f_X12_seed at h
  refine lv_aload_n X.1 X.2.1 dX12_seed_0 rfl (lv_at hl 0 rfl) ?_
  refine lv_iconst (v := 0) X.1 X.2.1 dX12_seed_1 (by decide) ?_
  obtain ⟨g0_1, eg0_1, h⟩ := nm_el h
  refine r_put (C := RX12) (T := TX12) (N := 28) (ci := 12) tyX12 tyX12_ok nmX12 X iw12 hP (hD _) hS 0 rfl rfl 0 rfl mw_7_120 rfl rfl rfl rfl dX12_seed_2 (wM tc a0 g0_1) (by rw [eg0_1]; rfl) (fun H locs hP hS => ?_)
  refine lv_aload_n X.1 X.2.1 dX12_seed_5 rfl (lv_at hl 0 rfl) ?_
  refine r_get (C := RX12) (T := TX12) (N := 28) (ci := 12) (v := .ref (a0 2)) X iw12 hP 0 rfl rfl 1 rfl mw_7_121 rfl dX12_seed_6 ?_
  refine lv_bipush (v := 11) X.1 X.2.1 dX12_seed_9 (by decide) ?_
  refine r_iald X hP 1 0 rfl rfl (j := 11) (by unfold vp_in; decide) (by decide) dX12_seed_11 ?_
  obtain ⟨x2_2, ex2_2, h⟩ := nm_el h
  refine tp_i ex2_2 ?_
  refine lv_istore_n (lv' := [(2, .int x2_2), (0, .ref (a0 0)), (1, .int x1)]) X.1 X.2.1 dX12_seed_12 rfl hl (by decide) rfl (fun ls hl => ?_)
  refine lv_aload_n X.1 X.2.1 dX12_seed_13 rfl (lv_at hl 1 rfl) ?_
  refine r_get (C := RX12) (T := TX12) (N := 28) (ci := 12) (v := .ref (a0 2)) X iw12 hP 0 rfl rfl 1 rfl mw_7_121 rfl dX12_seed_14 ?_
  refine lv_bipush (v := 11) X.1 X.2.1 dX12_seed_17 (by decide) ?_
  refine lv_iload_n X.1 X.2.1 dX12_seed_19 rfl (lv_at hl 2 rfl) ?_
  obtain ⟨g0_3, eg0_3, h⟩ := nm_el h
  refine r_iast X hP (hD _) hS 1 0 rfl rfl (j := 11) (by unfold vp_in; decide) (by decide) dX12_seed_20 (wM tc a0 g0_3) (by rw [eg0_3]; rfl) (fun H locs hP hS => ?_)
  refine lv_iload_n X.1 X.2.1 dX12_seed_21 rfl (lv_at hl 0 rfl) ?_
  exact ret_i (fun u => (wM tc a0 u)) (res := (r0, G0)) (Option.some.inj h) X hQ hP hS dX12_seed_22

def f_X12_undo_L26 (n : Nat) (a : Int32 × Pic) : Option (Pic) := lp (fun (rec : Int32 × Pic → Option (Pic)) (a : Int32 × Pic) => match a with | (x1, g0) => (if 456 ≤ x1 then some g0 else gdi ((456 * (g0 6 0)) + x1) 5472 (gdi x1 856 (nm (pu g0 1 (x1.toNatClampNeg) (g0 5 (((456 * (g0 6 0)) + x1).toNatClampNeg))) (fun g0_5 => nm (x1 + 1) (fun x1_6 => rec (x1_6, g0_5))))))) n a
def f_X12_undo (g0 : Pic) : Option (Int32 × Pic) := nm (pu g0 0 0 0) (fun g0_1 => (if (g0_1 6 0) = 0 then some (0, g0_1) else nm (pu g0_1 6 0 ((g0_1 6 0) - 1)) (fun g0_2 => bd (f_X12_undo_L26  fu (0, g0_2)) (fun g0_7 => some (1, g0_7)))))
abbrev rm_X12_undo : Room := { frames := 0, cells := 0, slots := 0, locals := 0 }
set_option maxHeartbeats 4000000 in
set_option maxRecDepth 100000 in
theorem c_X12_undo (l : Launch) (dC : Nat → ClassId) (dI : Nat → Nat → Nat) (sk sv : Nat → Nat) (tc : Nat → ClassId) (a0 : Nat → Nat) (g0 : Pic) {r0 : Int32} {G0 : Pic} (h : f_X12_undo g0 = some (r0, G0)) : CT l (dC, dI) sk sv (TY tc) yX12_undo cX12_undo 2 (some .boolean) rm_X12_undo [.ref (a0 0)] (wM tc a0 g0) (some (.int r0)) (wM tc a0 G0) := by
  refine ofCT (by decide) (Nat.le_of_ble_eq_true rfl) ?_
  intro pr e s m args below meth c A Q ls H locs X hQ hD0 hP hS hl
  have hD : ∀ z0, va_D A (wM tc a0 z0) := fun z0 => D_fst (ws := (wM tc a0 g0)) rfl hD0
  have hl : lv_has ls 2 [(0, .ref (a0 0))] := hl
  have HL26 : ∀ (n : Nat) (x1 : Int32) (g0 : Pic) (ex : (Pic)), f_X12_undo_L26  n (x1, g0) = some ex → ∀ (H : Heap) (locs : List Loc) (ls : Array Slot), va_P (dC, dI) vwCl (wM tc a0 g0) H → va_S A s.heap H locs → lv_has ls 2 [(0, .ref (a0 0)), (1, .int x1)] → (∀ (k0 : Pic), k0 = ex → ∀ (H : Heap) (locs : List Loc) (ls : Array Slot), va_P (dC, dI) vwCl (wM tc a0 k0) H → va_S A s.heap H locs → lv_has ls 2 [] → W pr l e rm_X12_undo s m args below meth c H locs 0 0 Q (F0 m 60 ls [])) → W pr l e rm_X12_undo s m args below meth c H locs 0 0 Q (F0 m 26 ls []) := by
    intro n
    induction n with
    | zero => intro x1 g0 ex h; exact lp_z h
    | succ n ih =>
      intro x1 g0 ex h H locs ls hP hS hl K
      have h := lp_s h
      refine lv_iload_n X.1 X.2.1 dX12_undo_26 rfl (lv_at hl 1 rfl) ?_
      refine lv_sipush (v := 456) X.1 X.2.1 dX12_undo_27 (by decide) ?_
      refine lv_icmp_ge (tgt := 60) X.1 X.2.1 dX12_undo_30 (by decide) (fun hc => ?_) (fun hc => ?_)
      · have h := it_t hc h
        exact K g0 (Option.some.inj h) H locs ls hP hS (lv_sub hl [] rfl)
      · have h := it_f hc h
        refine lv_aload_n X.1 X.2.1 dX12_undo_33 rfl (lv_at hl 0 rfl) ?_
        refine r_get (C := RX12) (T := TX12) (N := 28) (ci := 12) (v := .ref (a0 2)) X iw12 hP 0 rfl rfl 1 rfl mw_7_121 rfl dX12_undo_34 ?_
        refine lv_iload_n X.1 X.2.1 dX12_undo_37 rfl (lv_at hl 1 rfl) ?_
        refine lv_aload_n X.1 X.2.1 dX12_undo_38 rfl (lv_at hl 0 rfl) ?_
        refine r_get (C := RX12) (T := TX12) (N := 28) (ci := 12) (v := .ref (a0 6)) X iw12 hP 0 rfl rfl 5 rfl mw_7_125 rfl dX12_undo_39 ?_
        refine lv_sipush (v := 456) X.1 X.2.1 dX12_undo_42 (by decide) ?_
        refine lv_aload_n X.1 X.2.1 dX12_undo_45 rfl (lv_at hl 0 rfl) ?_
        refine r_get (C := RX12) (T := TX12) (N := 28) (ci := 12) (v := .int (g0 6 0)) X iw12 hP 0 rfl rfl 6 rfl mw_7_126 rfl dX12_undo_46 ?_
        refine lv_imul X.1 X.2.1 dX12_undo_49 ?_
        refine lv_iload_n X.1 X.2.1 dX12_undo_50 rfl (lv_at hl 1 rfl) ?_
        refine lv_iadd X.1 X.2.1 dX12_undo_51 ?_
        obtain ⟨hg_3, h⟩ := gdi_el h
        refine r_iald X hP 4 0 rfl rfl hg_3 rfl dX12_undo_52 ?_
        obtain ⟨hg_4, h⟩ := gdi_el h
        obtain ⟨g0_5, eg0_5, h⟩ := nm_el h
        refine r_iast X hP (hD _) hS 1 0 rfl rfl hg_4 rfl dX12_undo_53 (wM tc a0 g0_5) (by rw [eg0_5]; rfl) (fun H locs hP hS => ?_)
        obtain ⟨x1_6, ex1_6, h⟩ := nm_el h
        refine lv_iinc (v := x1_6) (lv' := [(1, .int x1_6), (0, .ref (a0 0))]) X.1 X.2.1 dX12_undo_54 hl (k := 1) rfl (by rw [ex1_6]; rfl) (by decide) rfl (fun ls hl => ?_)
        refine lv_goto (tgt := 26) X.1 X.2.1 dX12_undo_57 (by decide) ?_
        exact ih x1_6 g0_5 ex h H locs ls hP hS (lv_sub hl [1, 0] rfl) K
  unfold f_X12_undo at h
  refine lv_aload_n X.1 X.2.1 dX12_undo_0 rfl (lv_at hl 0 rfl) ?_
  refine lv_iconst (v := 0) X.1 X.2.1 dX12_undo_1 (by decide) ?_
  obtain ⟨g0_1, eg0_1, h⟩ := nm_el h
  refine r_put (C := RX12) (T := TX12) (N := 28) (ci := 12) tyX12 tyX12_ok nmX12 X iw12 hP (hD _) hS 0 rfl rfl 0 rfl mw_7_120 rfl rfl rfl rfl dX12_undo_2 (wM tc a0 g0_1) (by rw [eg0_1]; rfl) (fun H locs hP hS => ?_)
  refine lv_aload_n X.1 X.2.1 dX12_undo_5 rfl (lv_at hl 0 rfl) ?_
  refine r_get (C := RX12) (T := TX12) (N := 28) (ci := 12) (v := .int (g0_1 6 0)) X iw12 hP 0 rfl rfl 6 rfl mw_7_126 rfl dX12_undo_6 ?_
  refine lv_if_ne (tgt := 14) X.1 X.2.1 dX12_undo_9 (by decide) (fun hc => ?_) (fun hc => ?_)
  · have h := it_f hc h
    refine lv_aload_n X.1 X.2.1 dX12_undo_14 rfl (lv_at hl 0 rfl) ?_
    refine lv_dup X.1 X.2.1 dX12_undo_15 rfl ?_
    refine r_get (C := RX12) (T := TX12) (N := 28) (ci := 12) (v := .int (g0_1 6 0)) X iw12 hP 0 rfl rfl 6 rfl mw_7_126 rfl dX12_undo_16 ?_
    refine lv_iconst (v := 1) X.1 X.2.1 dX12_undo_19 (by decide) ?_
    refine lv_isub X.1 X.2.1 dX12_undo_20 ?_
    obtain ⟨g0_2, eg0_2, h⟩ := nm_el h
    refine r_put (C := RX12) (T := TX12) (N := 28) (ci := 12) tyX12 tyX12_ok nmX12 X iw12 hP (hD _) hS 0 rfl rfl 6 rfl mw_7_126 rfl rfl rfl rfl dX12_undo_21 (wM tc a0 g0_2) (by rw [eg0_2]; rfl) (fun H locs hP hS => ?_)
    refine lv_iconst (v := 0) X.1 X.2.1 dX12_undo_24 (by decide) ?_
    refine lv_istore_n (lv' := [(1, .int 0), (0, .ref (a0 0))]) X.1 X.2.1 dX12_undo_25 rfl hl (by decide) rfl (fun ls hl => ?_)
    obtain ⟨ex_7, hL_7, h⟩ := bd_el h
    refine HL26  fu 0 g0_2 ex_7 hL_7 H locs ls hP hS (lv_sub hl [1, 0] rfl) (fun g0_7 he H locs ls hP hS hl => ?_)
    subst he
    refine lv_iconst (v := 1) X.1 X.2.1 dX12_undo_60 (by decide) ?_
    exact ret_z (fun u => (wM tc a0 u)) (res := (r0, G0)) (by decide) (Option.some.inj h) X hQ hP hS dX12_undo_61
  · have h := it_t hc h
    refine lv_iconst (v := 0) X.1 X.2.1 dX12_undo_12 (by decide) ?_
    exact ret_z (fun u => (wM tc a0 u)) (res := (r0, G0)) (by decide) (Option.some.inj h) X hQ hP hS dX12_undo_13

def f_X12_image_L7 (n : Nat) (a : Int32 × Pic) : Option (Pic) := lp (fun (rec : Int32 × Pic → Option (Pic)) (a : Int32 × Pic) => match a with | (x1, g0) => (if 856 ≤ x1 then some g0 else gdi x1 856 (gdi x1 856 (nm (pu g0 2 (x1.toNatClampNeg) (g0 1 (x1.toNatClampNeg))) (fun g0_4 => nm (x1 + 1) (fun x1_5 => rec (x1_5, g0_4))))))) n a
def f_X12_image (g0 : Pic) : Option (Pic) := nm (pu g0 0 0 0) (fun g0_1 => bd (f_X12_image_L7  fu (0, g0_1)) (fun g0_6 => nm (pu g0_6 3 0 1) (fun g0_7 => some g0_7)))
abbrev rm_X12_image : Room := { frames := 0, cells := 0, slots := 0, locals := 0 }
set_option maxHeartbeats 4000000 in
set_option maxRecDepth 100000 in
theorem c_X12_image (l : Launch) (dC : Nat → ClassId) (dI : Nat → Nat → Nat) (sk sv : Nat → Nat) (tc : Nat → ClassId) (a0 : Nat → Nat) (g0 : Pic) {G0 : Pic} (h : f_X12_image g0 = some G0) : CT l (dC, dI) sk sv (TY tc) yX12_image cX12_image 2 none rm_X12_image [.ref (a0 0)] (wM tc a0 g0) none (wM tc a0 G0) := by
  refine ofCT (by decide) (Nat.le_of_ble_eq_true rfl) ?_
  intro pr e s m args below meth c A Q ls H locs X hQ hD0 hP hS hl
  have hD : ∀ z0, va_D A (wM tc a0 z0) := fun z0 => D_fst (ws := (wM tc a0 g0)) rfl hD0
  have hl : lv_has ls 2 [(0, .ref (a0 0))] := hl
  have HL7 : ∀ (n : Nat) (x1 : Int32) (g0 : Pic) (ex : (Pic)), f_X12_image_L7  n (x1, g0) = some ex → ∀ (H : Heap) (locs : List Loc) (ls : Array Slot), va_P (dC, dI) vwCl (wM tc a0 g0) H → va_S A s.heap H locs → lv_has ls 2 [(0, .ref (a0 0)), (1, .int x1)] → (∀ (k0 : Pic), k0 = ex → ∀ (H : Heap) (locs : List Loc) (ls : Array Slot), va_P (dC, dI) vwCl (wM tc a0 k0) H → va_S A s.heap H locs → lv_has ls 2 [(0, .ref (a0 0))] → W pr l e rm_X12_image s m args below meth c H locs 0 0 Q (F0 m 32 ls [])) → W pr l e rm_X12_image s m args below meth c H locs 0 0 Q (F0 m 7 ls []) := by
    intro n
    induction n with
    | zero => intro x1 g0 ex h; exact lp_z h
    | succ n ih =>
      intro x1 g0 ex h H locs ls hP hS hl K
      have h := lp_s h
      refine lv_iload_n X.1 X.2.1 dX12_image_7 rfl (lv_at hl 1 rfl) ?_
      refine lv_sipush (v := 856) X.1 X.2.1 dX12_image_8 (by decide) ?_
      refine lv_icmp_ge (tgt := 32) X.1 X.2.1 dX12_image_11 (by decide) (fun hc => ?_) (fun hc => ?_)
      · have h := it_t hc h
        exact K g0 (Option.some.inj h) H locs ls hP hS (lv_sub hl [0] rfl)
      · have h := it_f hc h
        refine lv_aload_n X.1 X.2.1 dX12_image_14 rfl (lv_at hl 0 rfl) ?_
        refine r_get (C := RX12) (T := TX12) (N := 28) (ci := 12) (v := .ref (a0 3)) X iw12 hP 0 rfl rfl 2 rfl mw_7_122 rfl dX12_image_15 ?_
        refine lv_iload_n X.1 X.2.1 dX12_image_18 rfl (lv_at hl 1 rfl) ?_
        refine lv_aload_n X.1 X.2.1 dX12_image_19 rfl (lv_at hl 0 rfl) ?_
        refine r_get (C := RX12) (T := TX12) (N := 28) (ci := 12) (v := .ref (a0 2)) X iw12 hP 0 rfl rfl 1 rfl mw_7_121 rfl dX12_image_20 ?_
        refine lv_iload_n X.1 X.2.1 dX12_image_23 rfl (lv_at hl 1 rfl) ?_
        obtain ⟨hg_2, h⟩ := gdi_el h
        refine r_iald X hP 1 0 rfl rfl hg_2 rfl dX12_image_24 ?_
        obtain ⟨hg_3, h⟩ := gdi_el h
        obtain ⟨g0_4, eg0_4, h⟩ := nm_el h
        refine r_iast X hP (hD _) hS 2 0 rfl rfl hg_3 rfl dX12_image_25 (wM tc a0 g0_4) (by rw [eg0_4]; rfl) (fun H locs hP hS => ?_)
        obtain ⟨x1_5, ex1_5, h⟩ := nm_el h
        refine lv_iinc (v := x1_5) (lv' := [(1, .int x1_5), (0, .ref (a0 0))]) X.1 X.2.1 dX12_image_26 hl (k := 1) rfl (by rw [ex1_5]; rfl) (by decide) rfl (fun ls hl => ?_)
        refine lv_goto (tgt := 7) X.1 X.2.1 dX12_image_29 (by decide) ?_
        exact ih x1_5 g0_4 ex h H locs ls hP hS (lv_sub hl [1, 0] rfl) K
  unfold f_X12_image at h
  refine lv_aload_n X.1 X.2.1 dX12_image_0 rfl (lv_at hl 0 rfl) ?_
  refine lv_iconst (v := 0) X.1 X.2.1 dX12_image_1 (by decide) ?_
  obtain ⟨g0_1, eg0_1, h⟩ := nm_el h
  refine r_put (C := RX12) (T := TX12) (N := 28) (ci := 12) tyX12 tyX12_ok nmX12 X iw12 hP (hD _) hS 0 rfl rfl 0 rfl mw_7_120 rfl rfl rfl rfl dX12_image_2 (wM tc a0 g0_1) (by rw [eg0_1]; rfl) (fun H locs hP hS => ?_)
  refine lv_iconst (v := 0) X.1 X.2.1 dX12_image_5 (by decide) ?_
  refine lv_istore_n (lv' := [(1, .int 0), (0, .ref (a0 0))]) X.1 X.2.1 dX12_image_6 rfl hl (by decide) rfl (fun ls hl => ?_)
  obtain ⟨ex_6, hL_6, h⟩ := bd_el h
  refine HL7  fu 0 g0_1 ex_6 hL_6 H locs ls hP hS (lv_sub hl [1, 0] rfl) (fun g0_6 he H locs ls hP hS hl => ?_)
  subst he
  refine lv_aload_n X.1 X.2.1 dX12_image_32 rfl (lv_at hl 0 rfl) ?_
  refine lv_iconst (v := 1) X.1 X.2.1 dX12_image_33 (by decide) ?_
  obtain ⟨g0_7, eg0_7, h⟩ := nm_el h
  refine r_put (C := RX12) (T := TX12) (N := 28) (ci := 12) tyX12 tyX12_ok nmX12 X iw12 hP (hD _) hS 0 rfl rfl 3 rfl mw_7_123 rfl (nz_bool (by decide)).1 (nz_bool (by decide)).2 rfl dX12_image_34 (wM tc a0 g0_7) (by rw [eg0_7]; rfl) (fun H locs hP hS => ?_)
  exact ret_v (fun u => (wM tc a0 u)) (res := G0) (Option.some.inj h) X hQ hP hS dX12_image_37

def f_X12_back_L16 (n : Nat) (a : Int32 × Pic) : Option (Pic) := lp (fun (rec : Int32 × Pic → Option (Pic)) (a : Int32 × Pic) => match a with | (x1, g0) => (if 856 ≤ x1 then some g0 else gdi x1 856 (gdi x1 856 (nm (pu g0 1 (x1.toNatClampNeg) (g0 2 (x1.toNatClampNeg))) (fun g0_4 => nm (x1 + 1) (fun x1_5 => rec (x1_5, g0_4))))))) n a
def f_X12_back (g0 : Pic) : Option (Int32 × Pic) := nm (pu g0 0 0 0) (fun g0_1 => (if (g0_1 3 0) = 0 then some (0, g0_1) else bd (f_X12_back_L16  fu (0, g0_1)) (fun g0_6 => nm (pu g0_6 6 0 0) (fun g0_7 => some (1, g0_7)))))
abbrev rm_X12_back : Room := { frames := 0, cells := 0, slots := 0, locals := 0 }
set_option maxHeartbeats 4000000 in
set_option maxRecDepth 100000 in
theorem c_X12_back (l : Launch) (dC : Nat → ClassId) (dI : Nat → Nat → Nat) (sk sv : Nat → Nat) (tc : Nat → ClassId) (a0 : Nat → Nat) (g0 : Pic) {r0 : Int32} {G0 : Pic} (h : f_X12_back g0 = some (r0, G0)) : CT l (dC, dI) sk sv (TY tc) yX12_back cX12_back 2 (some .boolean) rm_X12_back [.ref (a0 0)] (wM tc a0 g0) (some (.int r0)) (wM tc a0 G0) := by
  refine ofCT (by decide) (Nat.le_of_ble_eq_true rfl) ?_
  intro pr e s m args below meth c A Q ls H locs X hQ hD0 hP hS hl
  have hD : ∀ z0, va_D A (wM tc a0 z0) := fun z0 => D_fst (ws := (wM tc a0 g0)) rfl hD0
  have hl : lv_has ls 2 [(0, .ref (a0 0))] := hl
  have HL16 : ∀ (n : Nat) (x1 : Int32) (g0 : Pic) (ex : (Pic)), f_X12_back_L16  n (x1, g0) = some ex → ∀ (H : Heap) (locs : List Loc) (ls : Array Slot), va_P (dC, dI) vwCl (wM tc a0 g0) H → va_S A s.heap H locs → lv_has ls 2 [(0, .ref (a0 0)), (1, .int x1)] → (∀ (k0 : Pic), k0 = ex → ∀ (H : Heap) (locs : List Loc) (ls : Array Slot), va_P (dC, dI) vwCl (wM tc a0 k0) H → va_S A s.heap H locs → lv_has ls 2 [(0, .ref (a0 0))] → W pr l e rm_X12_back s m args below meth c H locs 0 0 Q (F0 m 41 ls [])) → W pr l e rm_X12_back s m args below meth c H locs 0 0 Q (F0 m 16 ls []) := by
    intro n
    induction n with
    | zero => intro x1 g0 ex h; exact lp_z h
    | succ n ih =>
      intro x1 g0 ex h H locs ls hP hS hl K
      have h := lp_s h
      refine lv_iload_n X.1 X.2.1 dX12_back_16 rfl (lv_at hl 1 rfl) ?_
      refine lv_sipush (v := 856) X.1 X.2.1 dX12_back_17 (by decide) ?_
      refine lv_icmp_ge (tgt := 41) X.1 X.2.1 dX12_back_20 (by decide) (fun hc => ?_) (fun hc => ?_)
      · have h := it_t hc h
        exact K g0 (Option.some.inj h) H locs ls hP hS (lv_sub hl [0] rfl)
      · have h := it_f hc h
        refine lv_aload_n X.1 X.2.1 dX12_back_23 rfl (lv_at hl 0 rfl) ?_
        refine r_get (C := RX12) (T := TX12) (N := 28) (ci := 12) (v := .ref (a0 2)) X iw12 hP 0 rfl rfl 1 rfl mw_7_121 rfl dX12_back_24 ?_
        refine lv_iload_n X.1 X.2.1 dX12_back_27 rfl (lv_at hl 1 rfl) ?_
        refine lv_aload_n X.1 X.2.1 dX12_back_28 rfl (lv_at hl 0 rfl) ?_
        refine r_get (C := RX12) (T := TX12) (N := 28) (ci := 12) (v := .ref (a0 3)) X iw12 hP 0 rfl rfl 2 rfl mw_7_122 rfl dX12_back_29 ?_
        refine lv_iload_n X.1 X.2.1 dX12_back_32 rfl (lv_at hl 1 rfl) ?_
        obtain ⟨hg_2, h⟩ := gdi_el h
        refine r_iald X hP 2 0 rfl rfl hg_2 rfl dX12_back_33 ?_
        obtain ⟨hg_3, h⟩ := gdi_el h
        obtain ⟨g0_4, eg0_4, h⟩ := nm_el h
        refine r_iast X hP (hD _) hS 1 0 rfl rfl hg_3 rfl dX12_back_34 (wM tc a0 g0_4) (by rw [eg0_4]; rfl) (fun H locs hP hS => ?_)
        obtain ⟨x1_5, ex1_5, h⟩ := nm_el h
        refine lv_iinc (v := x1_5) (lv' := [(1, .int x1_5), (0, .ref (a0 0))]) X.1 X.2.1 dX12_back_35 hl (k := 1) rfl (by rw [ex1_5]; rfl) (by decide) rfl (fun ls hl => ?_)
        refine lv_goto (tgt := 16) X.1 X.2.1 dX12_back_38 (by decide) ?_
        exact ih x1_5 g0_4 ex h H locs ls hP hS (lv_sub hl [1, 0] rfl) K
  unfold f_X12_back at h
  refine lv_aload_n X.1 X.2.1 dX12_back_0 rfl (lv_at hl 0 rfl) ?_
  refine lv_iconst (v := 0) X.1 X.2.1 dX12_back_1 (by decide) ?_
  obtain ⟨g0_1, eg0_1, h⟩ := nm_el h
  refine r_put (C := RX12) (T := TX12) (N := 28) (ci := 12) tyX12 tyX12_ok nmX12 X iw12 hP (hD _) hS 0 rfl rfl 0 rfl mw_7_120 rfl rfl rfl rfl dX12_back_2 (wM tc a0 g0_1) (by rw [eg0_1]; rfl) (fun H locs hP hS => ?_)
  refine lv_aload_n X.1 X.2.1 dX12_back_5 rfl (lv_at hl 0 rfl) ?_
  refine r_get (C := RX12) (T := TX12) (N := 28) (ci := 12) (v := .int (g0_1 3 0)) X iw12 hP 0 rfl rfl 3 rfl mw_7_123 rfl dX12_back_6 ?_
  refine lv_if_ne (tgt := 14) X.1 X.2.1 dX12_back_9 (by decide) (fun hc => ?_) (fun hc => ?_)
  · have h := it_f hc h
    refine lv_iconst (v := 0) X.1 X.2.1 dX12_back_14 (by decide) ?_
    refine lv_istore_n (lv' := [(1, .int 0), (0, .ref (a0 0))]) X.1 X.2.1 dX12_back_15 rfl hl (by decide) rfl (fun ls hl => ?_)
    obtain ⟨ex_6, hL_6, h⟩ := bd_el h
    refine HL16  fu 0 g0_1 ex_6 hL_6 H locs ls hP hS (lv_sub hl [1, 0] rfl) (fun g0_6 he H locs ls hP hS hl => ?_)
    subst he
    refine lv_aload_n X.1 X.2.1 dX12_back_41 rfl (lv_at hl 0 rfl) ?_
    refine lv_iconst (v := 0) X.1 X.2.1 dX12_back_42 (by decide) ?_
    obtain ⟨g0_7, eg0_7, h⟩ := nm_el h
    refine r_put (C := RX12) (T := TX12) (N := 28) (ci := 12) tyX12 tyX12_ok nmX12 X iw12 hP (hD _) hS 0 rfl rfl 6 rfl mw_7_126 rfl rfl rfl rfl dX12_back_43 (wM tc a0 g0_7) (by rw [eg0_7]; rfl) (fun H locs hP hS => ?_)
    refine lv_iconst (v := 1) X.1 X.2.1 dX12_back_46 (by decide) ?_
    exact ret_z (fun u => (wM tc a0 u)) (res := (r0, G0)) (by decide) (Option.some.inj h) X hQ hP hS dX12_back_47
  · have h := it_t hc h
    refine lv_iconst (v := 0) X.1 X.2.1 dX12_back_12 (by decide) ?_
    exact ret_z (fun u => (wM tc a0 u)) (res := (r0, G0)) (by decide) (Option.some.inj h) X hQ hP hS dX12_back_13

def f_X12_count (g0 : Pic) (x1 : Int32) : Option (Int32 × Pic) := nm (pu g0 0 0 0) (fun g0_1 => (if x1 = 0 then some ((g0_1 1 3), g0_1) else (if x1 = 1 then some ((g0_1 1 4), g0_1) else (if x1 = 2 then some ((g0_1 1 0), g0_1) else (if x1 = 3 then some ((g0_1 1 1), g0_1) else bd (f_X12_isIn x1 4 8) (fun r_2 => (if r_2 = 0 then (if x1 = 9 then bd (f_X12_tiredOfAll g0_1) (fun r_3 => some (r_3, g0_1)) else (if x1 = 10 then some ((g0_1 1 10), g0_1) else jn (fun (s0_J112 : Int32) => some (s0_J112, g0_1)) (fun J112 => (if x1 = 11 then J112 (g0_1 6 0) else J112 (-1))))) else gdi ((5 + x1) - 4) 856 (some ((g0_1 1 (((5 + x1) - 4).toNatClampNeg)), g0_1)))))))))
abbrev rm_X12_count : Room := { frames := 2, cells := 0, slots := 0, locals := 44 }
set_option maxHeartbeats 4000000 in
set_option maxRecDepth 100000 in
theorem c_X12_count (l : Launch) (dC : Nat → ClassId) (dI : Nat → Nat → Nat) (sk sv : Nat → Nat) (tc : Nat → ClassId) (a0 : Nat → Nat) (g0 : Pic) (x1 : Int32) {r0 : Int32} {G0 : Pic} (h : f_X12_count g0 x1 = some (r0, G0)) : CT l (dC, dI) sk sv (TY tc) yX12_count cX12_count 2 (some .int) rm_X12_count [.ref (a0 0), .int x1] (wM tc a0 g0) (some (.int r0)) (wM tc a0 G0) := by
  refine ofCT (by decide) (Nat.le_of_ble_eq_true rfl) ?_
  intro pr e s m args below meth c A Q ls H locs X hQ hD0 hP hS hl
  have hD : ∀ z0, va_D A (wM tc a0 z0) := fun z0 => D_fst (ws := (wM tc a0 g0)) rfl hD0
  have hl : lv_has ls 2 [(0, .ref (a0 0)), (1, .int x1)] := hl
  unfold f_X12_count at h
  refine lv_aload_n X.1 X.2.1 dX12_count_0 rfl (lv_at hl 0 rfl) ?_
  refine lv_iconst (v := 0) X.1 X.2.1 dX12_count_1 (by decide) ?_
  obtain ⟨g0_1, eg0_1, h⟩ := nm_el h
  refine r_put (C := RX12) (T := TX12) (N := 28) (ci := 12) tyX12 tyX12_ok nmX12 X iw12 hP (hD _) hS 0 rfl rfl 0 rfl mw_7_120 rfl rfl rfl rfl dX12_count_2 (wM tc a0 g0_1) (by rw [eg0_1]; rfl) (fun H locs hP hS => ?_)
  refine lv_iload_n X.1 X.2.1 dX12_count_5 rfl (lv_at hl 1 rfl) ?_
  refine lv_if_ne (tgt := 16) X.1 X.2.1 dX12_count_6 (by decide) (fun hc => ?_) (fun hc => ?_)
  · have h := it_f hc h
    refine lv_iload_n X.1 X.2.1 dX12_count_16 rfl (lv_at hl 1 rfl) ?_
    refine lv_iconst (v := 1) X.1 X.2.1 dX12_count_17 (by decide) ?_
    refine lv_icmp_ne (tgt := 28) X.1 X.2.1 dX12_count_18 (by decide) (fun hc => ?_) (fun hc => ?_)
    · have h := it_f hc h
      refine lv_iload_n X.1 X.2.1 dX12_count_28 rfl (lv_at hl 1 rfl) ?_
      refine lv_iconst (v := 2) X.1 X.2.1 dX12_count_29 (by decide) ?_
      refine lv_icmp_ne (tgt := 40) X.1 X.2.1 dX12_count_30 (by decide) (fun hc => ?_) (fun hc => ?_)
      · have h := it_f hc h
        refine lv_iload_n X.1 X.2.1 dX12_count_40 rfl (lv_at hl 1 rfl) ?_
        refine lv_iconst (v := 3) X.1 X.2.1 dX12_count_41 (by decide) ?_
        refine lv_icmp_ne (tgt := 52) X.1 X.2.1 dX12_count_42 (by decide) (fun hc => ?_) (fun hc => ?_)
        · have h := it_f hc h
          refine lv_iload_n X.1 X.2.1 dX12_count_52 rfl (lv_at hl 1 rfl) ?_
          refine lv_iconst (v := 4) X.1 X.2.1 dX12_count_53 (by decide) ?_
          refine lv_bipush (v := 8) X.1 X.2.1 dX12_count_54 (by decide) ?_
          obtain ⟨r_2, hc_2, h⟩ := bd_el h
          refine call_S0i (As := [.int x1, .int 4, .int 8]) (rest := []) X (c_X12_isIn l dC dI sk sv tc x1 4 8 hc_2) mw_7_218 mw_7_219 mw_1_12 mw_7_220 dc_X12_isIn ⟨Nat.le_of_ble_eq_true rfl, Nat.le_of_ble_eq_true rfl⟩ rfl rfl ⟨Nat.zero_le _, Nat.zero_le _⟩ hP (hD _) hS hl.1 (Nat.le_of_ble_eq_true rfl) dX12_count_56 (fun H locs hP hS => ?_)
          refine lv_if_eq (tgt := 73) X.1 X.2.1 dX12_count_59 (by decide) (fun hc => ?_) (fun hc => ?_)
          · have h := it_t hc h
            refine lv_iload_n X.1 X.2.1 dX12_count_73 rfl (lv_at hl 1 rfl) ?_
            refine lv_bipush (v := 9) X.1 X.2.1 dX12_count_74 (by decide) ?_
            refine lv_icmp_ne (tgt := 84) X.1 X.2.1 dX12_count_76 (by decide) (fun hc => ?_) (fun hc => ?_)
            · have h := it_f hc h
              refine lv_iload_n X.1 X.2.1 dX12_count_84 rfl (lv_at hl 1 rfl) ?_
              refine lv_bipush (v := 10) X.1 X.2.1 dX12_count_85 (by decide) ?_
              refine lv_icmp_ne (tgt := 98) X.1 X.2.1 dX12_count_87 (by decide) (fun hc => ?_) (fun hc => ?_)
              · have h := it_f hc h
                refine lv_iload_n X.1 X.2.1 dX12_count_98 rfl (lv_at hl 1 rfl) ?_
                refine lv_bipush (v := 11) X.1 X.2.1 dX12_count_99 (by decide) ?_
                obtain ⟨J112, eJ112, h⟩ := jn_el h
                have HJ112 : ∀ (s0_J112 : Int32) (H : Heap) (locs : List Loc) (ls : Array Slot), J112 s0_J112 = some (r0, G0) → va_P (dC, dI) vwCl (wM tc a0 g0_1) H → va_S A s.heap H locs → lv_has ls 2 [] → W pr l e rm_X12_count s m args below meth c H locs 0 0 Q (F0 m 112 ls [.int s0_J112]) := by
                  intro s0_J112 H locs ls h hP hS hl
                  rw [eJ112] at h
                  exact ret_i (fun u => (wM tc a0 u)) (res := (r0, G0)) (Option.some.inj h) X hQ hP hS dX12_count_112
                refine lv_icmp_ne (tgt := 111) X.1 X.2.1 dX12_count_101 (by decide) (fun hc => ?_) (fun hc => ?_)
                · have h := it_f hc h
                  refine lv_iconst (v := (-1)) X.1 X.2.1 dX12_count_111 (by decide) ?_
                  exact HJ112 (-1) H locs ls h hP hS (lv_sub hl [] rfl)
                · have h := it_t hc h
                  refine lv_aload_n X.1 X.2.1 dX12_count_104 rfl (lv_at hl 0 rfl) ?_
                  refine r_get (C := RX12) (T := TX12) (N := 28) (ci := 12) (v := .int (g0_1 6 0)) X iw12 hP 0 rfl rfl 6 rfl mw_7_126 rfl dX12_count_105 ?_
                  refine lv_goto (tgt := 112) X.1 X.2.1 dX12_count_108 (by decide) ?_
                  exact HJ112 (g0_1 6 0) H locs ls h hP hS (lv_sub hl [] rfl)
              · have h := it_t hc h
                refine lv_aload_n X.1 X.2.1 dX12_count_90 rfl (lv_at hl 0 rfl) ?_
                refine r_get (C := RX12) (T := TX12) (N := 28) (ci := 12) (v := .ref (a0 2)) X iw12 hP 0 rfl rfl 1 rfl mw_7_121 rfl dX12_count_91 ?_
                refine lv_bipush (v := 10) X.1 X.2.1 dX12_count_94 (by decide) ?_
                refine r_iald X hP 1 0 rfl rfl (j := 10) (by unfold vp_in; decide) (by decide) dX12_count_96 ?_
                exact ret_i (fun u => (wM tc a0 u)) (res := (r0, G0)) (Option.some.inj h) X hQ hP hS dX12_count_97
            · have h := it_t hc h
              refine lv_aload_n X.1 X.2.1 dX12_count_79 rfl (lv_at hl 0 rfl) ?_
              obtain ⟨r_3, hc_3, h⟩ := bd_el h
              refine call_V1i (As := []) (rest := []) X (c_X12_tiredOfAll l dC dI sk sv tc a0 g0_1 hc_3) mw_10_37 mw_10_39 mp_6_9 mw_1_12 mw_10_40 dc_X12_tiredOfAll ⟨Nat.le_of_ble_eq_true rfl, Nat.le_of_ble_eq_true rfl⟩ rfl rfl ⟨Nat.zero_le _, Nat.zero_le _⟩ hP (hD _) hS 0 rfl rfl rfl hl.1 (Nat.le_of_ble_eq_true rfl) dX12_count_80 (fun H locs hP hS => ?_)
              exact ret_i (fun u => (wM tc a0 u)) (res := (r0, G0)) (Option.some.inj h) X hQ hP hS dX12_count_83
          · have h := it_f hc h
            refine lv_aload_n X.1 X.2.1 dX12_count_62 rfl (lv_at hl 0 rfl) ?_
            refine r_get (C := RX12) (T := TX12) (N := 28) (ci := 12) (v := .ref (a0 2)) X iw12 hP 0 rfl rfl 1 rfl mw_7_121 rfl dX12_count_63 ?_
            refine lv_iconst (v := 5) X.1 X.2.1 dX12_count_66 (by decide) ?_
            refine lv_iload_n X.1 X.2.1 dX12_count_67 rfl (lv_at hl 1 rfl) ?_
            refine lv_iadd X.1 X.2.1 dX12_count_68 ?_
            refine lv_iconst (v := 4) X.1 X.2.1 dX12_count_69 (by decide) ?_
            refine lv_isub X.1 X.2.1 dX12_count_70 ?_
            obtain ⟨hg_4, h⟩ := gdi_el h
            refine r_iald X hP 1 0 rfl rfl hg_4 rfl dX12_count_71 ?_
            exact ret_i (fun u => (wM tc a0 u)) (res := (r0, G0)) (Option.some.inj h) X hQ hP hS dX12_count_72
        · have h := it_t hc h
          refine lv_aload_n X.1 X.2.1 dX12_count_45 rfl (lv_at hl 0 rfl) ?_
          refine r_get (C := RX12) (T := TX12) (N := 28) (ci := 12) (v := .ref (a0 2)) X iw12 hP 0 rfl rfl 1 rfl mw_7_121 rfl dX12_count_46 ?_
          refine lv_iconst (v := 1) X.1 X.2.1 dX12_count_49 (by decide) ?_
          refine r_iald X hP 1 0 rfl rfl (j := 1) (by unfold vp_in; decide) (by decide) dX12_count_50 ?_
          exact ret_i (fun u => (wM tc a0 u)) (res := (r0, G0)) (Option.some.inj h) X hQ hP hS dX12_count_51
      · have h := it_t hc h
        refine lv_aload_n X.1 X.2.1 dX12_count_33 rfl (lv_at hl 0 rfl) ?_
        refine r_get (C := RX12) (T := TX12) (N := 28) (ci := 12) (v := .ref (a0 2)) X iw12 hP 0 rfl rfl 1 rfl mw_7_121 rfl dX12_count_34 ?_
        refine lv_iconst (v := 0) X.1 X.2.1 dX12_count_37 (by decide) ?_
        refine r_iald X hP 1 0 rfl rfl (j := 0) (by unfold vp_in; decide) (by decide) dX12_count_38 ?_
        exact ret_i (fun u => (wM tc a0 u)) (res := (r0, G0)) (Option.some.inj h) X hQ hP hS dX12_count_39
    · have h := it_t hc h
      refine lv_aload_n X.1 X.2.1 dX12_count_21 rfl (lv_at hl 0 rfl) ?_
      refine r_get (C := RX12) (T := TX12) (N := 28) (ci := 12) (v := .ref (a0 2)) X iw12 hP 0 rfl rfl 1 rfl mw_7_121 rfl dX12_count_22 ?_
      refine lv_iconst (v := 4) X.1 X.2.1 dX12_count_25 (by decide) ?_
      refine r_iald X hP 1 0 rfl rfl (j := 4) (by unfold vp_in; decide) (by decide) dX12_count_26 ?_
      exact ret_i (fun u => (wM tc a0 u)) (res := (r0, G0)) (Option.some.inj h) X hQ hP hS dX12_count_27
  · have h := it_t hc h
    refine lv_aload_n X.1 X.2.1 dX12_count_9 rfl (lv_at hl 0 rfl) ?_
    refine r_get (C := RX12) (T := TX12) (N := 28) (ci := 12) (v := .ref (a0 2)) X iw12 hP 0 rfl rfl 1 rfl mw_7_121 rfl dX12_count_10 ?_
    refine lv_iconst (v := 3) X.1 X.2.1 dX12_count_13 (by decide) ?_
    refine r_iald X hP 1 0 rfl rfl (j := 3) (by unfold vp_in; decide) (by decide) dX12_count_14 ?_
    exact ret_i (fun u => (wM tc a0 u)) (res := (r0, G0)) (Option.some.inj h) X hQ hP hS dX12_count_15

def f_X12_allCoded_L2 (n : Nat) (a : Int32 × Pic) : Option (Pic) := lp (fun (rec : Int32 × Pic → Option (Pic)) (a : Int32 × Pic) => match a with | (x1, g0) => (if 129 ≤ x1 then some g0 else gdi ((129 * (g0 1 3)) + x1) 1161 (nm (pu g0 22 (((129 * (g0 1 3)) + x1).toNatClampNeg) 0) (fun g0_2 => nm (x1 + 1) (fun x1_3 => rec (x1_3, g0_2)))))) n a
def f_X12_allCoded_L62 (x1 : Int32) (x2 : Int32) (g0 : Pic) (n : Nat) (a : Int32 × Int32) : Option (Int32) := lp (fun (rec : Int32 × Int32 → Option (Int32)) (a : Int32 × Int32) => match a with | (x3, x4) => (if 8 ≤ x4 then some x3 else bd (f_X12_codedBy g0 x1 x4 x2) (fun r_6 => bd (f_X12_lesser x3 r_6) (fun r_7 => nm (x4 + 1) (fun x4_8 => rec (r_7, x4_8)))))) n a
def f_X12_allCoded_L48 (x1 : Int32) (n : Nat) (a : Int32 × Pic) : Option (Pic) := lp (fun (rec : Int32 × Pic → Option (Pic)) (a : Int32 × Pic) => match a with | (x2, g0) => (if 129 ≤ x2 then some g0 else bd (f_X12_allCoded_L62 x1 x2 g0 fu (2000000000, 1)) (fun x3_9 => gdi ((129 * x1) + x2) 1161 (nm (pu g0 22 (((129 * x1) + x2).toNatClampNeg) x3_9) (fun g0_11 => nm (x2 + 1) (fun x2_12 => rec (x2_12, g0_11))))))) n a
def f_X12_allCoded_L42 (n : Nat) (a : Int32 × Pic) : Option (Pic) := lp (fun (rec : Int32 × Pic → Option (Pic)) (a : Int32 × Pic) => match a with | (x1, g0) => (if x1 < 0 then some g0 else bd (f_X12_allCoded_L48 x1 fu (0, g0)) (fun g0_13 => nm (x1 + (-1)) (fun x1_14 => rec (x1_14, g0_13))))) n a
def f_X12_allCoded (g0 : Pic) : Option (Pic) := bd (f_X12_allCoded_L2  fu (0, g0)) (fun g0_4 => nm (((g0_4 1 3) - 1)) (fun x1_5 => bd (f_X12_allCoded_L42  fu (x1_5, g0_4)) (fun g0_15 => some g0_15)))
abbrev rm_X12_allCoded : Room := { frames := 2, cells := 0, slots := 0, locals := 46 }
set_option maxHeartbeats 4000000 in
set_option maxRecDepth 100000 in
theorem c_X12_allCoded (l : Launch) (dC : Nat → ClassId) (dI : Nat → Nat → Nat) (sk sv : Nat → Nat) (tc : Nat → ClassId) (a0 : Nat → Nat) (g0 : Pic) {G0 : Pic} (h : f_X12_allCoded g0 = some G0) : CT l (dC, dI) sk sv (TY tc) yX12_allCoded cX12_allCoded 5 none rm_X12_allCoded [.ref (a0 0)] (wM tc a0 g0) none (wM tc a0 G0) := by
  refine ofCT (by decide) (Nat.le_of_ble_eq_true rfl) ?_
  intro pr e s m args below meth c A Q ls H locs X hQ hD0 hP hS hl
  have hD : ∀ z0, va_D A (wM tc a0 z0) := fun z0 => D_fst (ws := (wM tc a0 g0)) rfl hD0
  have hl : lv_has ls 5 [(0, .ref (a0 0))] := hl
  have HL2 : ∀ (n : Nat) (x1 : Int32) (g0 : Pic) (ex : (Pic)), f_X12_allCoded_L2  n (x1, g0) = some ex → ∀ (H : Heap) (locs : List Loc) (ls : Array Slot), va_P (dC, dI) vwCl (wM tc a0 g0) H → va_S A s.heap H locs → lv_has ls 5 [(0, .ref (a0 0)), (1, .int x1)] → (∀ (k0 : Pic), k0 = ex → ∀ (H : Heap) (locs : List Loc) (ls : Array Slot), va_P (dC, dI) vwCl (wM tc a0 k0) H → va_S A s.heap H locs → lv_has ls 5 [(0, .ref (a0 0))] → W pr l e rm_X12_allCoded s m args below meth c H locs 0 0 Q (F0 m 33 ls [])) → W pr l e rm_X12_allCoded s m args below meth c H locs 0 0 Q (F0 m 2 ls []) := by
    intro n
    induction n with
    | zero => intro x1 g0 ex h; exact lp_z h
    | succ n ih =>
      intro x1 g0 ex h H locs ls hP hS hl K
      have h := lp_s h
      refine lv_iload_n X.1 X.2.1 dX12_allCoded_2 rfl (lv_at hl 1 rfl) ?_
      refine lv_sipush (v := 129) X.1 X.2.1 dX12_allCoded_3 (by decide) ?_
      refine lv_icmp_ge (tgt := 33) X.1 X.2.1 dX12_allCoded_6 (by decide) (fun hc => ?_) (fun hc => ?_)
      · have h := it_t hc h
        exact K g0 (Option.some.inj h) H locs ls hP hS (lv_sub hl [0] rfl)
      · have h := it_f hc h
        refine lv_aload_n X.1 X.2.1 dX12_allCoded_9 rfl (lv_at hl 0 rfl) ?_
        refine r_get (C := RX12) (T := TX12) (N := 28) (ci := 12) (v := .ref (a0 23)) X iw12 hP 0 rfl rfl 22 rfl mw_7_142 rfl dX12_allCoded_10 ?_
        refine lv_sipush (v := 129) X.1 X.2.1 dX12_allCoded_13 (by decide) ?_
        refine lv_aload_n X.1 X.2.1 dX12_allCoded_16 rfl (lv_at hl 0 rfl) ?_
        refine r_get (C := RX12) (T := TX12) (N := 28) (ci := 12) (v := .ref (a0 2)) X iw12 hP 0 rfl rfl 1 rfl mw_7_121 rfl dX12_allCoded_17 ?_
        refine lv_iconst (v := 3) X.1 X.2.1 dX12_allCoded_20 (by decide) ?_
        refine r_iald X hP 1 0 rfl rfl (j := 3) (by unfold vp_in; decide) (by decide) dX12_allCoded_21 ?_
        refine lv_imul X.1 X.2.1 dX12_allCoded_22 ?_
        refine lv_iload_n X.1 X.2.1 dX12_allCoded_23 rfl (lv_at hl 1 rfl) ?_
        refine lv_iadd X.1 X.2.1 dX12_allCoded_24 ?_
        refine lv_iconst (v := 0) X.1 X.2.1 dX12_allCoded_25 (by decide) ?_
        obtain ⟨hg_1, h⟩ := gdi_el h
        obtain ⟨g0_2, eg0_2, h⟩ := nm_el h
        refine r_iast X hP (hD _) hS 9 0 rfl rfl hg_1 rfl dX12_allCoded_26 (wM tc a0 g0_2) (by rw [eg0_2]; rfl) (fun H locs hP hS => ?_)
        obtain ⟨x1_3, ex1_3, h⟩ := nm_el h
        refine lv_iinc (v := x1_3) (lv' := [(1, .int x1_3), (0, .ref (a0 0))]) X.1 X.2.1 dX12_allCoded_27 hl (k := 1) rfl (by rw [ex1_3]; rfl) (by decide) rfl (fun ls hl => ?_)
        refine lv_goto (tgt := 2) X.1 X.2.1 dX12_allCoded_30 (by decide) ?_
        exact ih x1_3 g0_2 ex h H locs ls hP hS (lv_sub hl [1, 0] rfl) K
  have HL62 : ∀ (x1 : Int32) (x2 : Int32) (g0 : Pic) (n : Nat) (x3 : Int32) (x4 : Int32) (ex : (Int32)), f_X12_allCoded_L62 x1 x2 g0 n (x3, x4) = some ex → ∀ (H : Heap) (locs : List Loc) (ls : Array Slot), va_P (dC, dI) vwCl (wM tc a0 g0) H → va_S A s.heap H locs → lv_has ls 5 [(0, .ref (a0 0)), (1, .int x1), (2, .int x2), (3, .int x3), (4, .int x4)] → (∀ (y3 : Int32), y3 = ex → ∀ (H : Heap) (locs : List Loc) (ls : Array Slot), va_P (dC, dI) vwCl (wM tc a0 g0) H → va_S A s.heap H locs → lv_has ls 5 [(0, .ref (a0 0)), (1, .int x1), (2, .int x2), (3, .int y3)] → W pr l e rm_X12_allCoded s m args below meth c H locs 0 0 Q (F0 m 88 ls [])) → W pr l e rm_X12_allCoded s m args below meth c H locs 0 0 Q (F0 m 62 ls []) := by
    intro x1 x2 g0 n
    induction n with
    | zero => intro x3 x4 ex h; exact lp_z h
    | succ n ih =>
      intro x3 x4 ex h H locs ls hP hS hl K
      have h := lp_s h
      refine lv_iload X.1 X.2.1 dX12_allCoded_62 (lv_at hl 4 rfl) ?_
      refine lv_bipush (v := 8) X.1 X.2.1 dX12_allCoded_64 (by decide) ?_
      refine lv_icmp_ge (tgt := 88) X.1 X.2.1 dX12_allCoded_66 (by decide) (fun hc => ?_) (fun hc => ?_)
      · have h := it_t hc h
        exact K x3 (Option.some.inj h) H locs ls hP hS (lv_sub hl [0, 1, 2, 3] rfl)
      · have h := it_f hc h
        refine lv_iload_n X.1 X.2.1 dX12_allCoded_69 rfl (lv_at hl 3 rfl) ?_
        refine lv_aload_n X.1 X.2.1 dX12_allCoded_70 rfl (lv_at hl 0 rfl) ?_
        refine lv_iload_n X.1 X.2.1 dX12_allCoded_71 rfl (lv_at hl 1 rfl) ?_
        refine lv_iload X.1 X.2.1 dX12_allCoded_72 (lv_at hl 4 rfl) ?_
        refine lv_iload_n X.1 X.2.1 dX12_allCoded_74 rfl (lv_at hl 2 rfl) ?_
        obtain ⟨r_6, hc_6, h⟩ := bd_el h
        refine call_V1i (As := [.int x1, .int x4, .int x2]) (rest := [.int x3]) X (c_X12_codedBy l dC dI sk sv tc a0 g0 x1 x4 x2 hc_6) mw_8_153 mw_8_155 mp_3_13 mw_1_12 mw_8_156 dc_X12_codedBy ⟨Nat.le_of_ble_eq_true rfl, Nat.le_of_ble_eq_true rfl⟩ rfl rfl ⟨Nat.zero_le _, Nat.zero_le _⟩ hP (hD _) hS 0 rfl rfl rfl hl.1 (Nat.le_of_ble_eq_true rfl) dX12_allCoded_75 (fun H locs hP hS => ?_)
        obtain ⟨r_7, hc_7, h⟩ := bd_el h
        refine call_S0i (As := [.int x3, .int r_6]) (rest := []) X (c_X12_lesser l dC dI sk sv tc x3 r_6 hc_7) mw_8_157 mw_8_158 mw_1_12 mw_8_159 dc_X12_lesser ⟨Nat.le_of_ble_eq_true rfl, Nat.le_of_ble_eq_true rfl⟩ rfl rfl ⟨Nat.zero_le _, Nat.zero_le _⟩ hP (hD _) hS hl.1 (Nat.le_of_ble_eq_true rfl) dX12_allCoded_78 (fun H locs hP hS => ?_)
        refine lv_istore_n (lv' := [(3, .int r_7), (0, .ref (a0 0)), (1, .int x1), (2, .int x2), (4, .int x4)]) X.1 X.2.1 dX12_allCoded_81 rfl hl (by decide) rfl (fun ls hl => ?_)
        obtain ⟨x4_8, ex4_8, h⟩ := nm_el h
        refine lv_iinc (v := x4_8) (lv' := [(4, .int x4_8), (3, .int r_7), (0, .ref (a0 0)), (1, .int x1), (2, .int x2)]) X.1 X.2.1 dX12_allCoded_82 hl (k := 4) rfl (by rw [ex4_8]; rfl) (by decide) rfl (fun ls hl => ?_)
        refine lv_goto (tgt := 62) X.1 X.2.1 dX12_allCoded_85 (by decide) ?_
        exact ih r_7 x4_8 ex h H locs ls hP hS (lv_sub hl [2, 3, 4, 1, 0] rfl) K
  have HL48 : ∀ (x1 : Int32) (n : Nat) (x2 : Int32) (g0 : Pic) (ex : (Pic)), f_X12_allCoded_L48 x1 n (x2, g0) = some ex → ∀ (H : Heap) (locs : List Loc) (ls : Array Slot), va_P (dC, dI) vwCl (wM tc a0 g0) H → va_S A s.heap H locs → lv_has ls 5 [(0, .ref (a0 0)), (1, .int x1), (2, .int x2)] → (∀ (k0 : Pic), k0 = ex → ∀ (H : Heap) (locs : List Loc) (ls : Array Slot), va_P (dC, dI) vwCl (wM tc a0 k0) H → va_S A s.heap H locs → lv_has ls 5 [(0, .ref (a0 0)), (1, .int x1)] → W pr l e rm_X12_allCoded s m args below meth c H locs 0 0 Q (F0 m 107 ls [])) → W pr l e rm_X12_allCoded s m args below meth c H locs 0 0 Q (F0 m 48 ls []) := by
    intro x1 n
    induction n with
    | zero => intro x2 g0 ex h; exact lp_z h
    | succ n ih =>
      intro x2 g0 ex h H locs ls hP hS hl K
      have h := lp_s h
      refine lv_iload_n X.1 X.2.1 dX12_allCoded_48 rfl (lv_at hl 2 rfl) ?_
      refine lv_sipush (v := 129) X.1 X.2.1 dX12_allCoded_49 (by decide) ?_
      refine lv_icmp_ge (tgt := 107) X.1 X.2.1 dX12_allCoded_52 (by decide) (fun hc => ?_) (fun hc => ?_)
      · have h := it_t hc h
        exact K g0 (Option.some.inj h) H locs ls hP hS (lv_sub hl [0, 1] rfl)
      · have h := it_f hc h
        refine lv_ldcw (v := 2000000000) X.1 X.2.1 X.2.2.2.2.1 (X.2.2.2.2.2.1 _ (List.mem_cons_of_mem _ mw_8_152)) dX12_allCoded_55 ?_
        refine lv_istore_n (lv' := [(3, .int 2000000000), (0, .ref (a0 0)), (1, .int x1), (2, .int x2)]) X.1 X.2.1 dX12_allCoded_58 rfl hl (by decide) rfl (fun ls hl => ?_)
        refine lv_iconst (v := 1) X.1 X.2.1 dX12_allCoded_59 (by decide) ?_
        refine lv_istore (lv' := [(4, .int 1), (3, .int 2000000000), (0, .ref (a0 0)), (1, .int x1), (2, .int x2)]) X.1 X.2.1 dX12_allCoded_60 hl (by decide) rfl (fun ls hl => ?_)
        obtain ⟨ex_9, hL_9, h⟩ := bd_el h
        refine HL62 x1 x2 g0 fu 2000000000 1 ex_9 hL_9 H locs ls hP hS (lv_sub hl [2, 3, 4, 1, 0] rfl) (fun x3_9 he H locs ls hP hS hl => ?_)
        subst he
        refine lv_aload_n X.1 X.2.1 dX12_allCoded_88 rfl (lv_at hl 0 rfl) ?_
        refine r_get (C := RX12) (T := TX12) (N := 28) (ci := 12) (v := .ref (a0 23)) X iw12 hP 0 rfl rfl 22 rfl mw_7_142 rfl dX12_allCoded_89 ?_
        refine lv_sipush (v := 129) X.1 X.2.1 dX12_allCoded_92 (by decide) ?_
        refine lv_iload_n X.1 X.2.1 dX12_allCoded_95 rfl (lv_at hl 1 rfl) ?_
        refine lv_imul X.1 X.2.1 dX12_allCoded_96 ?_
        refine lv_iload_n X.1 X.2.1 dX12_allCoded_97 rfl (lv_at hl 2 rfl) ?_
        refine lv_iadd X.1 X.2.1 dX12_allCoded_98 ?_
        refine lv_iload_n X.1 X.2.1 dX12_allCoded_99 rfl (lv_at hl 3 rfl) ?_
        obtain ⟨hg_10, h⟩ := gdi_el h
        obtain ⟨g0_11, eg0_11, h⟩ := nm_el h
        refine r_iast X hP (hD _) hS 9 0 rfl rfl hg_10 rfl dX12_allCoded_100 (wM tc a0 g0_11) (by rw [eg0_11]; rfl) (fun H locs hP hS => ?_)
        obtain ⟨x2_12, ex2_12, h⟩ := nm_el h
        refine lv_iinc (v := x2_12) (lv' := [(2, .int x2_12), (0, .ref (a0 0)), (1, .int x1), (3, .int x3_9)]) X.1 X.2.1 dX12_allCoded_101 hl (k := 2) rfl (by rw [ex2_12]; rfl) (by decide) rfl (fun ls hl => ?_)
        refine lv_goto (tgt := 48) X.1 X.2.1 dX12_allCoded_104 (by decide) ?_
        exact ih x2_12 g0_11 ex h H locs ls hP hS (lv_sub hl [1, 2, 0] rfl) K
  have HL42 : ∀ (n : Nat) (x1 : Int32) (g0 : Pic) (ex : (Pic)), f_X12_allCoded_L42  n (x1, g0) = some ex → ∀ (H : Heap) (locs : List Loc) (ls : Array Slot), va_P (dC, dI) vwCl (wM tc a0 g0) H → va_S A s.heap H locs → lv_has ls 5 [(0, .ref (a0 0)), (1, .int x1)] → (∀ (k0 : Pic), k0 = ex → ∀ (H : Heap) (locs : List Loc) (ls : Array Slot), va_P (dC, dI) vwCl (wM tc a0 k0) H → va_S A s.heap H locs → lv_has ls 5 [] → W pr l e rm_X12_allCoded s m args below meth c H locs 0 0 Q (F0 m 113 ls [])) → W pr l e rm_X12_allCoded s m args below meth c H locs 0 0 Q (F0 m 42 ls []) := by
    intro n
    induction n with
    | zero => intro x1 g0 ex h; exact lp_z h
    | succ n ih =>
      intro x1 g0 ex h H locs ls hP hS hl K
      have h := lp_s h
      refine lv_iload_n X.1 X.2.1 dX12_allCoded_42 rfl (lv_at hl 1 rfl) ?_
      refine lv_if_lt (tgt := 113) X.1 X.2.1 dX12_allCoded_43 (by decide) (fun hc => ?_) (fun hc => ?_)
      · have h := it_t hc h
        exact K g0 (Option.some.inj h) H locs ls hP hS (lv_sub hl [] rfl)
      · have h := it_f hc h
        refine lv_iconst (v := 0) X.1 X.2.1 dX12_allCoded_46 (by decide) ?_
        refine lv_istore_n (lv' := [(2, .int 0), (0, .ref (a0 0)), (1, .int x1)]) X.1 X.2.1 dX12_allCoded_47 rfl hl (by decide) rfl (fun ls hl => ?_)
        obtain ⟨ex_13, hL_13, h⟩ := bd_el h
        refine HL48 x1 fu 0 g0 ex_13 hL_13 H locs ls hP hS (lv_sub hl [1, 2, 0] rfl) (fun g0_13 he H locs ls hP hS hl => ?_)
        subst he
        obtain ⟨x1_14, ex1_14, h⟩ := nm_el h
        refine lv_iinc (v := x1_14) (lv' := [(1, .int x1_14), (0, .ref (a0 0))]) X.1 X.2.1 dX12_allCoded_107 hl (k := 1) rfl (by rw [ex1_14]; rfl) (by decide) rfl (fun ls hl => ?_)
        refine lv_goto (tgt := 42) X.1 X.2.1 dX12_allCoded_110 (by decide) ?_
        exact ih x1_14 g0_13 ex h H locs ls hP hS (lv_sub hl [1, 0] rfl) K
  unfold f_X12_allCoded at h
  refine lv_iconst (v := 0) X.1 X.2.1 dX12_allCoded_0 (by decide) ?_
  refine lv_istore_n (lv' := [(1, .int 0), (0, .ref (a0 0))]) X.1 X.2.1 dX12_allCoded_1 rfl hl (by decide) rfl (fun ls hl => ?_)
  obtain ⟨ex_4, hL_4, h⟩ := bd_el h
  refine HL2  fu 0 g0 ex_4 hL_4 H locs ls hP hS (lv_sub hl [1, 0] rfl) (fun g0_4 he H locs ls hP hS hl => ?_)
  subst he
  refine lv_aload_n X.1 X.2.1 dX12_allCoded_33 rfl (lv_at hl 0 rfl) ?_
  refine r_get (C := RX12) (T := TX12) (N := 28) (ci := 12) (v := .ref (a0 2)) X iw12 hP 0 rfl rfl 1 rfl mw_7_121 rfl dX12_allCoded_34 ?_
  refine lv_iconst (v := 3) X.1 X.2.1 dX12_allCoded_37 (by decide) ?_
  refine r_iald X hP 1 0 rfl rfl (j := 3) (by unfold vp_in; decide) (by decide) dX12_allCoded_38 ?_
  refine lv_iconst (v := 1) X.1 X.2.1 dX12_allCoded_39 (by decide) ?_
  refine lv_isub X.1 X.2.1 dX12_allCoded_40 ?_
  obtain ⟨x1_5, ex1_5, h⟩ := nm_el h
  refine tp_i ex1_5 ?_
  refine lv_istore_n (lv' := [(1, .int x1_5), (0, .ref (a0 0))]) X.1 X.2.1 dX12_allCoded_41 rfl hl (by decide) rfl (fun ls hl => ?_)
  obtain ⟨ex_15, hL_15, h⟩ := bd_el h
  refine HL42  fu x1_5 g0_4 ex_15 hL_15 H locs ls hP hS (lv_sub hl [1, 0] rfl) (fun g0_15 he H locs ls hP hS hl => ?_)
  subst he
  exact ret_v (fun u => (wM tc a0 u)) (res := G0) (Option.some.inj h) X hQ hP hS dX12_allCoded_113

def f_X12_lengthOf_L33 (x1 : Int32) (x2 : Int32) (x4 : Int32) (g0 : Pic) (n : Nat) (a : Int32) : Option (Int32) := lp (fun (rec : Int32 → Option (Int32)) (a : Int32) => (fun (x3 : Int32) => bd (f_X12_codedBy g0 x4 x3 x2) (fun r_2 => gdi ((129 * x4) + x2) 1161 ((if r_2 = (g0 22 (((129 * x4) + x2).toNatClampNeg)) then some x3 else nm (x3 + 1) (fun x3_4 => rec x3_4))))) a) n a
def f_X12_lengthOf_L25 (x1 : Int32) (g0 : Pic) (n : Nat) (a : Int32 × Int32 × Int32) : Option (Int32) := lp (fun (rec : Int32 × Int32 × Int32 → Option (Int32)) (a : Int32 × Int32 × Int32) => match a with | (x2, x3, x4) => (if x1 < x4 then some x3 else bd (f_X12_lengthOf_L33 x1 x2 x4 g0 fu 1) (fun x3_5 => nm ((x2 - (1 <<< ((7 - x3_5) &&& 31)))) (fun x2_6 => nm (x4 + 1) (fun x4_7 => rec (x2_6, x3_5, x4_7)))))) n a
def f_X12_lengthOf (g0 : Pic) (x1 : Int32) : Option (Int32 × Pic) := (if 2 ≤ (g0 1 3) then bd (f_X12_allCoded g0) (fun g0_1 => bd (f_X12_lengthOf_L25 x1 g0_1 fu (128, 0, 0)) (fun x3_8 => some (x3_8, g0_1))) else some (0, g0))
abbrev rm_X12_lengthOf : Room := { frames := 3, cells := 0, slots := 0, locals := 70 }
set_option maxHeartbeats 4000000 in
set_option maxRecDepth 100000 in
theorem c_X12_lengthOf (l : Launch) (dC : Nat → ClassId) (dI : Nat → Nat → Nat) (sk sv : Nat → Nat) (tc : Nat → ClassId) (a0 : Nat → Nat) (g0 : Pic) (x1 : Int32) {r0 : Int32} {G0 : Pic} (h : f_X12_lengthOf g0 x1 = some (r0, G0)) : CT l (dC, dI) sk sv (TY tc) yX12_lengthOf cX12_lengthOf 5 (some .int) rm_X12_lengthOf [.ref (a0 0), .int x1] (wM tc a0 g0) (some (.int r0)) (wM tc a0 G0) := by
  refine ofCT (by decide) (Nat.le_of_ble_eq_true rfl) ?_
  intro pr e s m args below meth c A Q ls H locs X hQ hD0 hP hS hl
  have hD : ∀ z0, va_D A (wM tc a0 z0) := fun z0 => D_fst (ws := (wM tc a0 g0)) rfl hD0
  have hl : lv_has ls 5 [(0, .ref (a0 0)), (1, .int x1)] := hl
  have HL33 : ∀ (x1 : Int32) (x2 : Int32) (x4 : Int32) (g0 : Pic) (n : Nat) (x3 : Int32) (ex : (Int32)), f_X12_lengthOf_L33 x1 x2 x4 g0 n x3 = some ex → ∀ (H : Heap) (locs : List Loc) (ls : Array Slot), va_P (dC, dI) vwCl (wM tc a0 g0) H → va_S A s.heap H locs → lv_has ls 5 [(0, .ref (a0 0)), (1, .int x1), (2, .int x2), (3, .int x3), (4, .int x4)] → (∀ (y3 : Int32), y3 = ex → ∀ (H : Heap) (locs : List Loc) (ls : Array Slot), va_P (dC, dI) vwCl (wM tc a0 g0) H → va_S A s.heap H locs → lv_has ls 5 [(0, .ref (a0 0)), (1, .int x1), (2, .int x2), (3, .int y3), (4, .int x4)] → W pr l e rm_X12_lengthOf s m args below meth c H locs 0 0 Q (F0 m 63 ls [])) → W pr l e rm_X12_lengthOf s m args below meth c H locs 0 0 Q (F0 m 33 ls []) := by
    intro x1 x2 x4 g0 n
    induction n with
    | zero => intro x3 ex h; exact lp_z h
    | succ n ih =>
      intro x3 ex h H locs ls hP hS hl K
      have h := lp_s h
      refine lv_aload_n X.1 X.2.1 dX12_lengthOf_33 rfl (lv_at hl 0 rfl) ?_
      refine lv_iload X.1 X.2.1 dX12_lengthOf_34 (lv_at hl 4 rfl) ?_
      refine lv_iload_n X.1 X.2.1 dX12_lengthOf_36 rfl (lv_at hl 3 rfl) ?_
      refine lv_iload_n X.1 X.2.1 dX12_lengthOf_37 rfl (lv_at hl 2 rfl) ?_
      obtain ⟨r_2, hc_2, h⟩ := bd_el h
      refine call_V1i (As := [.int x4, .int x3, .int x2]) (rest := []) X (c_X12_codedBy l dC dI sk sv tc a0 g0 x4 x3 x2 hc_2) mw_8_153 mw_8_155 mp_3_13 mw_1_12 mw_8_156 dc_X12_codedBy ⟨Nat.le_of_ble_eq_true rfl, Nat.le_of_ble_eq_true rfl⟩ rfl rfl ⟨Nat.zero_le _, Nat.zero_le _⟩ hP (hD _) hS 0 rfl rfl rfl hl.1 (Nat.le_of_ble_eq_true rfl) dX12_lengthOf_38 (fun H locs hP hS => ?_)
      refine lv_aload_n X.1 X.2.1 dX12_lengthOf_41 rfl (lv_at hl 0 rfl) ?_
      refine r_get (C := RX12) (T := TX12) (N := 28) (ci := 12) (v := .ref (a0 23)) X iw12 hP 0 rfl rfl 22 rfl mw_7_142 rfl dX12_lengthOf_42 ?_
      refine lv_sipush (v := 129) X.1 X.2.1 dX12_lengthOf_45 (by decide) ?_
      refine lv_iload X.1 X.2.1 dX12_lengthOf_48 (lv_at hl 4 rfl) ?_
      refine lv_imul X.1 X.2.1 dX12_lengthOf_50 ?_
      refine lv_iload_n X.1 X.2.1 dX12_lengthOf_51 rfl (lv_at hl 2 rfl) ?_
      refine lv_iadd X.1 X.2.1 dX12_lengthOf_52 ?_
      obtain ⟨hg_3, h⟩ := gdi_el h
      refine r_iald X hP 9 0 rfl rfl hg_3 rfl dX12_lengthOf_53 ?_
      refine lv_icmp_eq (tgt := 63) X.1 X.2.1 dX12_lengthOf_54 (by decide) (fun hc => ?_) (fun hc => ?_)
      · have h := it_t hc h
        exact K x3 (Option.some.inj h) H locs ls hP hS (lv_sub hl [0, 1, 2, 3, 4] rfl)
      · have h := it_f hc h
        obtain ⟨x3_4, ex3_4, h⟩ := nm_el h
        refine lv_iinc (v := x3_4) (lv' := [(3, .int x3_4), (0, .ref (a0 0)), (1, .int x1), (2, .int x2), (4, .int x4)]) X.1 X.2.1 dX12_lengthOf_57 hl (k := 3) rfl (by rw [ex3_4]; rfl) (by decide) rfl (fun ls hl => ?_)
        refine lv_goto (tgt := 33) X.1 X.2.1 dX12_lengthOf_60 (by decide) ?_
        exact ih x3_4 ex h H locs ls hP hS (lv_sub hl [1, 2, 3, 0, 4] rfl) K
  have HL25 : ∀ (x1 : Int32) (g0 : Pic) (n : Nat) (x2 : Int32) (x3 : Int32) (x4 : Int32) (ex : (Int32)), f_X12_lengthOf_L25 x1 g0 n (x2, x3, x4) = some ex → ∀ (H : Heap) (locs : List Loc) (ls : Array Slot), va_P (dC, dI) vwCl (wM tc a0 g0) H → va_S A s.heap H locs → lv_has ls 5 [(0, .ref (a0 0)), (1, .int x1), (2, .int x2), (3, .int x3), (4, .int x4)] → (∀ (y3 : Int32), y3 = ex → ∀ (H : Heap) (locs : List Loc) (ls : Array Slot), va_P (dC, dI) vwCl (wM tc a0 g0) H → va_S A s.heap H locs → lv_has ls 5 [(3, .int y3)] → W pr l e rm_X12_lengthOf s m args below meth c H locs 0 0 Q (F0 m 78 ls [])) → W pr l e rm_X12_lengthOf s m args below meth c H locs 0 0 Q (F0 m 25 ls []) := by
    intro x1 g0 n
    induction n with
    | zero => intro x2 x3 x4 ex h; exact lp_z h
    | succ n ih =>
      intro x2 x3 x4 ex h H locs ls hP hS hl K
      have h := lp_s h
      refine lv_iload X.1 X.2.1 dX12_lengthOf_25 (lv_at hl 4 rfl) ?_
      refine lv_iload_n X.1 X.2.1 dX12_lengthOf_27 rfl (lv_at hl 1 rfl) ?_
      refine lv_icmp_gt (tgt := 78) X.1 X.2.1 dX12_lengthOf_28 (by decide) (fun hc => ?_) (fun hc => ?_)
      · have h := it_t hc h
        exact K x3 (Option.some.inj h) H locs ls hP hS (lv_sub hl [3] rfl)
      · have h := it_f hc h
        refine lv_iconst (v := 1) X.1 X.2.1 dX12_lengthOf_31 (by decide) ?_
        refine lv_istore_n (lv' := [(3, .int 1), (0, .ref (a0 0)), (1, .int x1), (2, .int x2), (4, .int x4)]) X.1 X.2.1 dX12_lengthOf_32 rfl hl (by decide) rfl (fun ls hl => ?_)
        obtain ⟨ex_5, hL_5, h⟩ := bd_el h
        refine HL33 x1 x2 x4 g0 fu 1 ex_5 hL_5 H locs ls hP hS (lv_sub hl [1, 2, 3, 0, 4] rfl) (fun x3_5 he H locs ls hP hS hl => ?_)
        subst he
        refine lv_iload_n X.1 X.2.1 dX12_lengthOf_63 rfl (lv_at hl 2 rfl) ?_
        refine lv_iconst (v := 1) X.1 X.2.1 dX12_lengthOf_64 (by decide) ?_
        refine lv_bipush (v := 7) X.1 X.2.1 dX12_lengthOf_65 (by decide) ?_
        refine lv_iload_n X.1 X.2.1 dX12_lengthOf_67 rfl (lv_at hl 3 rfl) ?_
        refine lv_isub X.1 X.2.1 dX12_lengthOf_68 ?_
        refine lv_ishl X.1 X.2.1 dX12_lengthOf_69 ?_
        refine lv_isub X.1 X.2.1 dX12_lengthOf_70 ?_
        obtain ⟨x2_6, ex2_6, h⟩ := nm_el h
        refine tp_i ex2_6 ?_
        refine lv_istore_n (lv' := [(2, .int x2_6), (0, .ref (a0 0)), (1, .int x1), (3, .int x3_5), (4, .int x4)]) X.1 X.2.1 dX12_lengthOf_71 rfl hl (by decide) rfl (fun ls hl => ?_)
        obtain ⟨x4_7, ex4_7, h⟩ := nm_el h
        refine lv_iinc (v := x4_7) (lv' := [(4, .int x4_7), (2, .int x2_6), (0, .ref (a0 0)), (1, .int x1), (3, .int x3_5)]) X.1 X.2.1 dX12_lengthOf_72 hl (k := 4) rfl (by rw [ex4_7]; rfl) (by decide) rfl (fun ls hl => ?_)
        refine lv_goto (tgt := 25) X.1 X.2.1 dX12_lengthOf_75 (by decide) ?_
        exact ih x2_6 x3_5 x4_7 ex h H locs ls hP hS (lv_sub hl [2, 3, 1, 4, 0] rfl) K
  unfold f_X12_lengthOf at h
  refine lv_aload_n X.1 X.2.1 dX12_lengthOf_0 rfl (lv_at hl 0 rfl) ?_
  refine r_get (C := RX12) (T := TX12) (N := 28) (ci := 12) (v := .ref (a0 2)) X iw12 hP 0 rfl rfl 1 rfl mw_7_121 rfl dX12_lengthOf_1 ?_
  refine lv_iconst (v := 3) X.1 X.2.1 dX12_lengthOf_4 (by decide) ?_
  refine r_iald X hP 1 0 rfl rfl (j := 3) (by unfold vp_in; decide) (by decide) dX12_lengthOf_5 ?_
  refine lv_iconst (v := 2) X.1 X.2.1 dX12_lengthOf_6 (by decide) ?_
  refine lv_icmp_ge (tgt := 12) X.1 X.2.1 dX12_lengthOf_7 (by decide) (fun hc => ?_) (fun hc => ?_)
  · have h := it_t hc h
    refine lv_aload_n X.1 X.2.1 dX12_lengthOf_12 rfl (lv_at hl 0 rfl) ?_
    obtain ⟨g0_1, hc_1, h⟩ := bd_el h
    refine call_V1v (As := []) (rest := []) X (c_X12_allCoded l dC dI sk sv tc a0 g0 hc_1) mw_8_148 mw_8_150 mp_3_12 mw_1_12 mw_8_151 dc_X12_allCoded ⟨Nat.le_of_ble_eq_true rfl, Nat.le_of_ble_eq_true rfl⟩ rfl rfl ⟨Nat.zero_le _, Nat.zero_le _⟩ hP (hD _) hS 0 rfl rfl rfl hl.1 (Nat.le_of_ble_eq_true rfl) dX12_lengthOf_13 (fun H locs hP hS => ?_)
    refine lv_sipush (v := 128) X.1 X.2.1 dX12_lengthOf_16 (by decide) ?_
    refine lv_istore_n (lv' := [(2, .int 128), (0, .ref (a0 0)), (1, .int x1)]) X.1 X.2.1 dX12_lengthOf_19 rfl hl (by decide) rfl (fun ls hl => ?_)
    refine lv_iconst (v := 0) X.1 X.2.1 dX12_lengthOf_20 (by decide) ?_
    refine lv_istore_n (lv' := [(3, .int 0), (2, .int 128), (0, .ref (a0 0)), (1, .int x1)]) X.1 X.2.1 dX12_lengthOf_21 rfl hl (by decide) rfl (fun ls hl => ?_)
    refine lv_iconst (v := 0) X.1 X.2.1 dX12_lengthOf_22 (by decide) ?_
    refine lv_istore (lv' := [(4, .int 0), (3, .int 0), (2, .int 128), (0, .ref (a0 0)), (1, .int x1)]) X.1 X.2.1 dX12_lengthOf_23 hl (by decide) rfl (fun ls hl => ?_)
    obtain ⟨ex_8, hL_8, h⟩ := bd_el h
    refine HL25 x1 g0_1 fu 128 0 0 ex_8 hL_8 H locs ls hP hS (lv_sub hl [3, 4, 2, 1, 0] rfl) (fun x3_8 he H locs ls hP hS hl => ?_)
    subst he
    refine lv_iload_n X.1 X.2.1 dX12_lengthOf_78 rfl (lv_at hl 0 rfl) ?_
    exact ret_i (fun u => (wM tc a0 u)) (res := (r0, G0)) (Option.some.inj h) X hQ hP hS dX12_lengthOf_79
  · have h := it_f hc h
    refine lv_iconst (v := 0) X.1 X.2.1 dX12_lengthOf_10 (by decide) ?_
    exact ret_i (fun u => (wM tc a0 u)) (res := (r0, G0)) (Option.some.inj h) X hQ hP hS dX12_lengthOf_11

def f_X12_word (g0 : Pic) (x1 : Int32) (x2 : Int32) : Option (Int32 × Pic) := bd (f_X12_isWord g0 x1) (fun r_1 => jn (fun (s1_J27 : Int32) => nm (pu g0 0 0 s1_J27) (fun g0_2 => (if (g0_2 0 0) ≤ 0 then (if 2 ≤ x2 then jn (fun (s0_J72 : Int32) (g0_J72 : Pic) => some (s0_J72, g0_J72)) (fun J72 => (if x2 = 2 then bd2 (f_X12_lengthOf g0_2 x1) (fun r_4 g0_4 => J72 r_4 g0_4) else bd2 (f_X12_closest g0_2 x1) (fun r_3 g0_3 => J72 r_3 g0_3))) else bd (f_X12_ofWord g0_2 x1 (6 + x2)) (fun r_5 => some (r_5, g0_2))) else some (0, g0_2)))) (fun J27 => (if r_1 = 0 then J27 1 else bd (f_X12_isIn x2 0 3) (fun r_6 => (if r_6 = 0 then J27 2 else J27 0)))))
abbrev rm_X12_word : Room := { frames := 4, cells := 0, slots := 0, locals := 94 }
set_option maxHeartbeats 4000000 in
set_option maxRecDepth 100000 in
theorem c_X12_word (l : Launch) (dC : Nat → ClassId) (dI : Nat → Nat → Nat) (sk sv : Nat → Nat) (tc : Nat → ClassId) (a0 : Nat → Nat) (g0 : Pic) (x1 : Int32) (x2 : Int32) {r0 : Int32} {G0 : Pic} (h : f_X12_word g0 x1 x2 = some (r0, G0)) : CT l (dC, dI) sk sv (TY tc) yX12_word cX12_word 3 (some .int) rm_X12_word [.ref (a0 0), .int x1, .int x2] (wM tc a0 g0) (some (.int r0)) (wM tc a0 G0) := by
  refine ofCT (by decide) (Nat.le_of_ble_eq_true rfl) ?_
  intro pr e s m args below meth c A Q ls H locs X hQ hD0 hP hS hl
  have hD : ∀ z0, va_D A (wM tc a0 z0) := fun z0 => D_fst (ws := (wM tc a0 g0)) rfl hD0
  have hl : lv_has ls 3 [(0, .ref (a0 0)), (1, .int x1), (2, .int x2)] := hl
  unfold f_X12_word at h
  refine lv_aload_n X.1 X.2.1 dX12_word_0 rfl (lv_at hl 0 rfl) ?_
  refine lv_aload_n X.1 X.2.1 dX12_word_1 rfl (lv_at hl 0 rfl) ?_
  refine lv_iload_n X.1 X.2.1 dX12_word_2 rfl (lv_at hl 1 rfl) ?_
  obtain ⟨r_1, hc_1, h⟩ := bd_el h
  refine call_V1i (As := [.int x1]) (rest := [.ref (a0 0)]) X (c_X12_isWord l dC dI sk sv tc a0 g0 x1 hc_1) mw_8_136 mw_8_138 mp_3_9 mw_1_12 mw_8_139 dc_X12_isWord ⟨Nat.le_of_ble_eq_true rfl, Nat.le_of_ble_eq_true rfl⟩ rfl rfl ⟨Nat.zero_le _, Nat.zero_le _⟩ hP (hD _) hS 0 rfl rfl rfl hl.1 (Nat.le_of_ble_eq_true rfl) dX12_word_3 (fun H locs hP hS => ?_)
  obtain ⟨J27, eJ27, h⟩ := jn_el h
  have HJ27 : ∀ (s1_J27 : Int32) (H : Heap) (locs : List Loc) (ls : Array Slot), J27 s1_J27 = some (r0, G0) → va_P (dC, dI) vwCl (wM tc a0 g0) H → va_S A s.heap H locs → lv_has ls 3 [(0, .ref (a0 0)), (1, .int x1), (2, .int x2)] → W pr l e rm_X12_word s m args below meth c H locs 0 0 Q (F0 m 27 ls [.int s1_J27, .ref (a0 0)]) := by
    intro s1_J27 H locs ls h hP hS hl
    rw [eJ27] at h
    obtain ⟨g0_2, eg0_2, h⟩ := nm_el h
    refine r_put (C := RX12) (T := TX12) (N := 28) (ci := 12) tyX12 tyX12_ok nmX12 X iw12 hP (hD _) hS 0 rfl rfl 0 rfl mw_7_120 rfl rfl rfl rfl dX12_word_27 (wM tc a0 g0_2) (by rw [eg0_2]; rfl) (fun H locs hP hS => ?_)
    refine lv_aload_n X.1 X.2.1 dX12_word_30 rfl (lv_at hl 0 rfl) ?_
    refine r_get (C := RX12) (T := TX12) (N := 28) (ci := 12) (v := .int (g0_2 0 0)) X iw12 hP 0 rfl rfl 0 rfl mw_7_120 rfl dX12_word_31 ?_
    refine lv_if_le (tgt := 39) X.1 X.2.1 dX12_word_34 (by decide) (fun hc => ?_) (fun hc => ?_)
    · have h := it_t hc h
      refine lv_iload_n X.1 X.2.1 dX12_word_39 rfl (lv_at hl 2 rfl) ?_
      refine lv_iconst (v := 2) X.1 X.2.1 dX12_word_40 (by decide) ?_
      refine lv_icmp_ge (tgt := 54) X.1 X.2.1 dX12_word_41 (by decide) (fun hc => ?_) (fun hc => ?_)
      · have h := it_t hc h
        refine lv_iload_n X.1 X.2.1 dX12_word_54 rfl (lv_at hl 2 rfl) ?_
        refine lv_iconst (v := 2) X.1 X.2.1 dX12_word_55 (by decide) ?_
        obtain ⟨J72, eJ72, h⟩ := jn_el h
        have HJ72 : ∀ (s0_J72 : Int32) (g0_J72 : Pic) (H : Heap) (locs : List Loc) (ls : Array Slot), J72 s0_J72 g0_J72 = some (r0, G0) → va_P (dC, dI) vwCl (wM tc a0 g0_J72) H → va_S A s.heap H locs → lv_has ls 3 [] → W pr l e rm_X12_word s m args below meth c H locs 0 0 Q (F0 m 72 ls [.int s0_J72]) := by
          intro s0_J72 g0_J72 H locs ls h hP hS hl
          rw [eJ72] at h
          exact ret_i (fun u => (wM tc a0 u)) (res := (r0, G0)) (Option.some.inj h) X hQ hP hS dX12_word_72
        refine lv_icmp_ne (tgt := 67) X.1 X.2.1 dX12_word_56 (by decide) (fun hc => ?_) (fun hc => ?_)
        · have h := it_f hc h
          refine lv_aload_n X.1 X.2.1 dX12_word_67 rfl (lv_at hl 0 rfl) ?_
          refine lv_iload_n X.1 X.2.1 dX12_word_68 rfl (lv_at hl 1 rfl) ?_
          obtain ⟨r_3, g0_3, hc_3, h⟩ := bd2_el h
          refine call_V1i (As := [.int x1]) (rest := []) X (c_X12_closest l dC dI sk sv tc a0 g0_2 x1 hc_3) mw_8_160 mw_8_162 mp_3_14 mw_1_12 mw_8_163 dc_X12_closest ⟨Nat.le_of_ble_eq_true rfl, Nat.le_of_ble_eq_true rfl⟩ rfl rfl ⟨Nat.zero_le _, Nat.zero_le _⟩ hP (hD _) hS 0 rfl rfl rfl hl.1 (Nat.le_of_ble_eq_true rfl) dX12_word_69 (fun H locs hP hS => ?_)
          exact HJ72 r_3 g0_3 H locs ls h hP hS (lv_sub hl [] rfl)
        · have h := it_t hc h
          refine lv_aload_n X.1 X.2.1 dX12_word_59 rfl (lv_at hl 0 rfl) ?_
          refine lv_iload_n X.1 X.2.1 dX12_word_60 rfl (lv_at hl 1 rfl) ?_
          obtain ⟨r_4, g0_4, hc_4, h⟩ := bd2_el h
          refine call_V1i (As := [.int x1]) (rest := []) X (c_X12_lengthOf l dC dI sk sv tc a0 g0_2 x1 hc_4) mw_8_144 mw_8_146 mp_3_11 mw_1_12 mw_8_147 dc_X12_lengthOf ⟨Nat.le_of_ble_eq_true rfl, Nat.le_of_ble_eq_true rfl⟩ rfl rfl ⟨Nat.zero_le _, Nat.zero_le _⟩ hP (hD _) hS 0 rfl rfl rfl hl.1 (Nat.le_of_ble_eq_true rfl) dX12_word_61 (fun H locs hP hS => ?_)
          refine lv_goto (tgt := 72) X.1 X.2.1 dX12_word_64 (by decide) ?_
          exact HJ72 r_4 g0_4 H locs ls h hP hS (lv_sub hl [] rfl)
      · have h := it_f hc h
        refine lv_aload_n X.1 X.2.1 dX12_word_44 rfl (lv_at hl 0 rfl) ?_
        refine lv_iload_n X.1 X.2.1 dX12_word_45 rfl (lv_at hl 1 rfl) ?_
        refine lv_bipush (v := 6) X.1 X.2.1 dX12_word_46 (by decide) ?_
        refine lv_iload_n X.1 X.2.1 dX12_word_48 rfl (lv_at hl 2 rfl) ?_
        refine lv_iadd X.1 X.2.1 dX12_word_49 ?_
        obtain ⟨r_5, hc_5, h⟩ := bd_el h
        refine call_V1i (As := [.int x1, .int (6 + x2)]) (rest := []) X (c_X12_ofWord l dC dI sk sv tc a0 g0_2 x1 (6 + x2) hc_5) mw_8_140 mw_8_142 mp_3_10 mw_1_12 mw_8_143 dc_X12_ofWord ⟨Nat.le_of_ble_eq_true rfl, Nat.le_of_ble_eq_true rfl⟩ rfl rfl ⟨Nat.zero_le _, Nat.zero_le _⟩ hP (hD _) hS 0 rfl rfl rfl hl.1 (Nat.le_of_ble_eq_true rfl) dX12_word_50 (fun H locs hP hS => ?_)
        exact ret_i (fun u => (wM tc a0 u)) (res := (r0, G0)) (Option.some.inj h) X hQ hP hS dX12_word_53
    · have h := it_f hc h
      refine lv_iconst (v := 0) X.1 X.2.1 dX12_word_37 (by decide) ?_
      exact ret_i (fun u => (wM tc a0 u)) (res := (r0, G0)) (Option.some.inj h) X hQ hP hS dX12_word_38
  refine lv_if_ne (tgt := 13) X.1 X.2.1 dX12_word_6 (by decide) (fun hc => ?_) (fun hc => ?_)
  · have h := it_f hc h
    refine lv_iload_n X.1 X.2.1 dX12_word_13 rfl (lv_at hl 2 rfl) ?_
    refine lv_iconst (v := 0) X.1 X.2.1 dX12_word_14 (by decide) ?_
    refine lv_iconst (v := 3) X.1 X.2.1 dX12_word_15 (by decide) ?_
    obtain ⟨r_6, hc_6, h⟩ := bd_el h
    refine call_S0i (As := [.int x2, .int 0, .int 3]) (rest := [.ref (a0 0)]) X (c_X12_isIn l dC dI sk sv tc x2 0 3 hc_6) mw_7_218 mw_7_219 mw_1_12 mw_7_220 dc_X12_isIn ⟨Nat.le_of_ble_eq_true rfl, Nat.le_of_ble_eq_true rfl⟩ rfl rfl ⟨Nat.zero_le _, Nat.zero_le _⟩ hP (hD _) hS hl.1 (Nat.le_of_ble_eq_true rfl) dX12_word_16 (fun H locs hP hS => ?_)
    refine lv_if_ne (tgt := 26) X.1 X.2.1 dX12_word_19 (by decide) (fun hc => ?_) (fun hc => ?_)
    · have h := it_f hc h
      refine lv_iconst (v := 0) X.1 X.2.1 dX12_word_26 (by decide) ?_
      exact HJ27 0 H locs ls h hP hS (lv_sub hl [0, 1, 2] rfl)
    · have h := it_t hc h
      refine lv_iconst (v := 2) X.1 X.2.1 dX12_word_22 (by decide) ?_
      refine lv_goto (tgt := 27) X.1 X.2.1 dX12_word_23 (by decide) ?_
      exact HJ27 2 H locs ls h hP hS (lv_sub hl [0, 1, 2] rfl)
  · have h := it_t hc h
    refine lv_iconst (v := 1) X.1 X.2.1 dX12_word_9 (by decide) ?_
    refine lv_goto (tgt := 27) X.1 X.2.1 dX12_word_10 (by decide) ?_
    exact HJ27 1 H locs ls h hP hS (lv_sub hl [0, 1, 2] rfl)

def f_X12_codes (g0 : Pic) : Option (Int32 × Pic) := nm (pu g0 0 0 0) (fun g0_1 => (if 2 ≤ (g0_1 1 3) then bd (f_X12_allCoded g0_1) (fun g0_2 => some ((g0_2 22 128), g0_2)) else some (0, g0_1)))
abbrev rm_X12_codes : Room := { frames := 3, cells := 0, slots := 0, locals := 70 }
set_option maxHeartbeats 4000000 in
set_option maxRecDepth 100000 in
theorem c_X12_codes (l : Launch) (dC : Nat → ClassId) (dI : Nat → Nat → Nat) (sk sv : Nat → Nat) (tc : Nat → ClassId) (a0 : Nat → Nat) (g0 : Pic) {r0 : Int32} {G0 : Pic} (h : f_X12_codes g0 = some (r0, G0)) : CT l (dC, dI) sk sv (TY tc) yX12_codes cX12_codes 1 (some .int) rm_X12_codes [.ref (a0 0)] (wM tc a0 g0) (some (.int r0)) (wM tc a0 G0) := by
  refine ofCT (by decide) (Nat.le_of_ble_eq_true rfl) ?_
  intro pr e s m args below meth c A Q ls H locs X hQ hD0 hP hS hl
  have hD : ∀ z0, va_D A (wM tc a0 z0) := fun z0 => D_fst (ws := (wM tc a0 g0)) rfl hD0
  have hl : lv_has ls 1 [(0, .ref (a0 0))] := hl
  unfold f_X12_codes at h
  refine lv_aload_n X.1 X.2.1 dX12_codes_0 rfl (lv_at hl 0 rfl) ?_
  refine lv_iconst (v := 0) X.1 X.2.1 dX12_codes_1 (by decide) ?_
  obtain ⟨g0_1, eg0_1, h⟩ := nm_el h
  refine r_put (C := RX12) (T := TX12) (N := 28) (ci := 12) tyX12 tyX12_ok nmX12 X iw12 hP (hD _) hS 0 rfl rfl 0 rfl mw_7_120 rfl rfl rfl rfl dX12_codes_2 (wM tc a0 g0_1) (by rw [eg0_1]; rfl) (fun H locs hP hS => ?_)
  refine lv_aload_n X.1 X.2.1 dX12_codes_5 rfl (lv_at hl 0 rfl) ?_
  refine r_get (C := RX12) (T := TX12) (N := 28) (ci := 12) (v := .ref (a0 2)) X iw12 hP 0 rfl rfl 1 rfl mw_7_121 rfl dX12_codes_6 ?_
  refine lv_iconst (v := 3) X.1 X.2.1 dX12_codes_9 (by decide) ?_
  refine r_iald X hP 1 0 rfl rfl (j := 3) (by unfold vp_in; decide) (by decide) dX12_codes_10 ?_
  refine lv_iconst (v := 2) X.1 X.2.1 dX12_codes_11 (by decide) ?_
  refine lv_icmp_ge (tgt := 17) X.1 X.2.1 dX12_codes_12 (by decide) (fun hc => ?_) (fun hc => ?_)
  · have h := it_t hc h
    refine lv_aload_n X.1 X.2.1 dX12_codes_17 rfl (lv_at hl 0 rfl) ?_
    obtain ⟨g0_2, hc_2, h⟩ := bd_el h
    refine call_V1v (As := []) (rest := []) X (c_X12_allCoded l dC dI sk sv tc a0 g0_1 hc_2) mw_8_148 mw_8_150 mp_3_12 mw_1_12 mw_8_151 dc_X12_allCoded ⟨Nat.le_of_ble_eq_true rfl, Nat.le_of_ble_eq_true rfl⟩ rfl rfl ⟨Nat.zero_le _, Nat.zero_le _⟩ hP (hD _) hS 0 rfl rfl rfl hl.1 (Nat.le_of_ble_eq_true rfl) dX12_codes_18 (fun H locs hP hS => ?_)
    refine lv_aload_n X.1 X.2.1 dX12_codes_21 rfl (lv_at hl 0 rfl) ?_
    refine r_get (C := RX12) (T := TX12) (N := 28) (ci := 12) (v := .ref (a0 23)) X iw12 hP 0 rfl rfl 22 rfl mw_7_142 rfl dX12_codes_22 ?_
    refine lv_sipush (v := 128) X.1 X.2.1 dX12_codes_25 (by decide) ?_
    refine r_iald X hP 9 0 rfl rfl (j := 128) (by unfold vp_in; decide) (by decide) dX12_codes_28 ?_
    exact ret_i (fun u => (wM tc a0 u)) (res := (r0, G0)) (Option.some.inj h) X hQ hP hS dX12_codes_29
  · have h := it_f hc h
    refine lv_iconst (v := 0) X.1 X.2.1 dX12_codes_15 (by decide) ?_
    exact ret_i (fun u => (wM tc a0 u)) (res := (r0, G0)) (Option.some.inj h) X hQ hP hS dX12_codes_16
