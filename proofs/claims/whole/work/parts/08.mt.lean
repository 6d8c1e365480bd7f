def wM (tc : Nat → ClassId) (a : Nat → Nat) (g : Pic) : va_W := [(a 0, .inr (12, [.int (g 0 0), .ref (a 2), .ref (a 3), .int (g 3 0), .ref (a 5), .ref (a 6), .int (g 6 0), .ref (a 8), .int (g 8 0), .int (g 9 0), .int (g 10 0), .int (g 11 0), .int (g 12 0), .int (g 13 0), .ref (a 15), .int (g 15 0), .int (g 16 0), .int (g 17 0), .int (g 18 0), .int (g 19 0), .ref (a 21), .ref (a 22), .ref (a 23), .ref (a 24), .ref (a 25), .ref (a 26), .ref (a 27), .ref (a 28)])), (a 2, .inl (tc 0, 856, .inl (g 1))), (a 3, .inl (tc 0, 856, .inl (g 2))), (a 5, .inl (tc 0, 456, .inl (g 4))), (a 6, .inl (tc 0, 5472, .inl (g 5))), (a 8, .inl (tc 0, 400, .inl (g 7))), (a 15, .inl (tc 0, 7, .inl (g 14))), (a 21, .inl (tc 0, 8, .inl (g 20))), (a 22, .inl (tc 0, 49, .inl (g 21))), (a 23, .inl (tc 0, 1161, .inl (g 22))), (a 24, .inl (tc 0, 32, .inl (g 23))), (a 25, .inl (tc 0, 5, .inl (g 24))), (a 26, .inl (tc 0, 8, .inl (g 25))), (a 27, .inl (tc 0, 9, .inl (g 26))), (a 28, .inl (tc 1, 256, .inl (g 27)))]
def f_X12_isIn (x0 : Int32) (x1 : Int32) (x2 : Int32) : Option (Int32) := jn (fun (s0_J15 : Int32) => gdb s0_J15 (some s0_J15)) (fun J15 => jn (fun (_ : Unit) => J15 0) (fun J14 => (if x0 < x1 then J14 () else (if x2 < x0 then J14 () else J15 1))))
abbrev rm_X12_isIn : Room := { frames := 0, cells := 0, slots := 0, locals := 0 }
set_option maxHeartbeats 4000000 in
set_option maxRecDepth 100000 in
theorem c_X12_isIn (l : Launch) (dC : Nat → ClassId) (dI : Nat → Nat → Nat) (sk sv : Nat → Nat) (tc : Nat → ClassId) (x0 : Int32) (x1 : Int32) (x2 : Int32) {r0 : Int32} (h : f_X12_isIn x0 x1 x2 = some r0) : CT l (dC, dI) sk sv (TY tc) yX12_isIn cX12_isIn 3 (some .boolean) rm_X12_isIn [.int x0, .int x1, .int x2] [] (some (.int r0)) [] := by
  refine ofCT (by decide) (Nat.le_of_ble_eq_true rfl) ?_
  intro pr e s m args below meth c A Q ls H locs X hQ hD0 hP hS hl
  have hD : va_D A [] := hD0
  have hl : lv_has ls 3 [(0, .int x0), (1, .int x1), (2, .int x2)] := hl
  unfold f_X12_isIn at h
  refine lv_iload_n X.1 X.2.1 dX12_isIn_0 rfl (lv_at hl 0 rfl) ?_
  refine lv_iload_n X.1 X.2.1 dX12_isIn_1 rfl (lv_at hl 1 rfl) ?_
  obtain ⟨J15, eJ15, h⟩ := jn_el h
  have HJ15 : ∀ (s0_J15 : Int32) (H : Heap) (locs : List Loc) (ls : Array Slot), J15 s0_J15 = some r0 → va_P (dC, dI) vwCl [] H → va_S A s.heap H locs → lv_has ls 3 [] → W pr l e rm_X12_isIn s m args below meth c H locs 0 0 Q (F0 m 15 ls [.int s0_J15]) := by
    intro s0_J15 H locs ls h hP hS hl
    rw [eJ15] at h
    obtain ⟨hg_1, h⟩ := gdb_el h
    exact ret_z0 hg_1 (Option.some.inj h) X hQ hP hS dX12_isIn_15
  obtain ⟨J14, eJ14, h⟩ := jn_el h
  have HJ14 : ∀ (_ : Unit) (H : Heap) (locs : List Loc) (ls : Array Slot), J14 () = some r0 → va_P (dC, dI) vwCl [] H → va_S A s.heap H locs → lv_has ls 3 [] → W pr l e rm_X12_isIn s m args below meth c H locs 0 0 Q (F0 m 14 ls []) := by
    intro _ H locs ls h hP hS hl
    rw [eJ14] at h
    refine lv_iconst (v := 0) X.1 X.2.1 dX12_isIn_14 (by decide) ?_
    exact HJ15 0 H locs ls h hP hS (lv_sub hl [] rfl)
  refine lv_icmp_lt (tgt := 14) X.1 X.2.1 dX12_isIn_2 (by decide) (fun hc => ?_) (fun hc => ?_)
  · have h := it_t hc h
    exact HJ14 () H locs ls h hP hS (lv_sub hl [] rfl)
  · have h := it_f hc h
    refine lv_iload_n X.1 X.2.1 dX12_isIn_5 rfl (lv_at hl 0 rfl) ?_
    refine lv_iload_n X.1 X.2.1 dX12_isIn_6 rfl (lv_at hl 2 rfl) ?_
    refine lv_icmp_gt (tgt := 14) X.1 X.2.1 dX12_isIn_7 (by decide) (fun hc => ?_) (fun hc => ?_)
    · have h := it_t hc h
      exact HJ14 () H locs ls h hP hS (lv_sub hl [] rfl)
    · have h := it_f hc h
      refine lv_iconst (v := 1) X.1 X.2.1 dX12_isIn_10 (by decide) ?_
      refine lv_goto (tgt := 15) X.1 X.2.1 dX12_isIn_11 (by decide) ?_
      exact HJ15 1 H locs ls h hP hS (lv_sub hl [] rfl)

def f_X12_lesser (x0 : Int32) (x1 : Int32) : Option (Int32) := jn (fun (s0_J10 : Int32) => some s0_J10) (fun J10 => (if x1 ≤ x0 then J10 x1 else J10 x0))
abbrev rm_X12_lesser : Room := { frames := 0, cells := 0, slots := 0, locals := 0 }
set_option maxHeartbeats 4000000 in
set_option maxRecDepth 100000 in
theorem c_X12_lesser (l : Launch) (dC : Nat → ClassId) (dI : Nat → Nat → Nat) (sk sv : Nat → Nat) (tc : Nat → ClassId) (x0 : Int32) (x1 : Int32) {r0 : Int32} (h : f_X12_lesser x0 x1 = some r0) : CT l (dC, dI) sk sv (TY tc) yX12_lesser cX12_lesser 2 (some .int) rm_X12_lesser [.int x0, .int x1] [] (some (.int r0)) [] := by
  refine ofCT (by decide) (Nat.le_of_ble_eq_true rfl) ?_
  intro pr e s m args below meth c A Q ls H locs X hQ hD0 hP hS hl
  have hD : va_D A [] := hD0
  have hl : lv_has ls 2 [(0, .int x0), (1, .int x1)] := hl
  unfold f_X12_lesser at h
  refine lv_iload_n X.1 X.2.1 dX12_lesser_0 rfl (lv_at hl 0 rfl) ?_
  refine lv_iload_n X.1 X.2.1 dX12_lesser_1 rfl (lv_at hl 1 rfl) ?_
  obtain ⟨J10, eJ10, h⟩ := jn_el h
  have HJ10 : ∀ (s0_J10 : Int32) (H : Heap) (locs : List Loc) (ls : Array Slot), J10 s0_J10 = some r0 → va_P (dC, dI) vwCl [] H → va_S A s.heap H locs → lv_has ls 2 [] → W pr l e rm_X12_lesser s m args below meth c H locs 0 0 Q (F0 m 10 ls [.int s0_J10]) := by
    intro s0_J10 H locs ls h hP hS hl
    rw [eJ10] at h
    exact ret_i0 (Option.some.inj h) X hQ hP hS dX12_lesser_10
  refine lv_icmp_ge (tgt := 9) X.1 X.2.1 dX12_lesser_2 (by decide) (fun hc => ?_) (fun hc => ?_)
  · have h := it_t hc h
    refine lv_iload_n X.1 X.2.1 dX12_lesser_9 rfl (lv_at hl 1 rfl) ?_
    exact HJ10 x1 H locs ls h hP hS (lv_sub hl [] rfl)
  · have h := it_f hc h
    refine lv_iload_n X.1 X.2.1 dX12_lesser_5 rfl (lv_at hl 0 rfl) ?_
    refine lv_goto (tgt := 10) X.1 X.2.1 dX12_lesser_6 (by decide) ?_
    exact HJ10 x0 H locs ls h hP hS (lv_sub hl [] rfl)

def f_X12_greater (x0 : Int32) (x1 : Int32) : Option (Int32) := jn (fun (s0_J10 : Int32) => some s0_J10) (fun J10 => (if x0 ≤ x1 then J10 x1 else J10 x0))
abbrev rm_X12_greater : Room := { frames := 0, cells := 0, slots := 0, locals := 0 }
set_option maxHeartbeats 4000000 in
set_option maxRecDepth 100000 in
theorem c_X12_greater (l : Launch) (dC : Nat → ClassId) (dI : Nat → Nat → Nat) (sk sv : Nat → Nat) (tc : Nat → ClassId) (x0 : Int32) (x1 : Int32) {r0 : Int32} (h : f_X12_greater x0 x1 = some r0) : CT l (dC, dI) sk sv (TY tc) yX12_greater cX12_greater 2 (some .int) rm_X12_greater [.int x0, .int x1] [] (some (.int r0)) [] := by
  refine ofCT (by decide) (Nat.le_of_ble_eq_true rfl) ?_
  intro pr e s m args below meth c A Q ls H locs X hQ hD0 hP hS hl
  have hD : va_D A [] := hD0
  have hl : lv_has ls 2 [(0, .int x0), (1, .int x1)] := hl
  unfold f_X12_greater at h
  refine lv_iload_n X.1 X.2.1 dX12_greater_0 rfl (lv_at hl 0 rfl) ?_
  refine lv_iload_n X.1 X.2.1 dX12_greater_1 rfl (lv_at hl 1 rfl) ?_
  obtain ⟨J10, eJ10, h⟩ := jn_el h
  have HJ10 : ∀ (s0_J10 : Int32) (H : Heap) (locs : List Loc) (ls : Array Slot), J10 s0_J10 = some r0 → va_P (dC, dI) vwCl [] H → va_S A s.heap H locs → lv_has ls 2 [] → W pr l e rm_X12_greater s m args below meth c H locs 0 0 Q (F0 m 10 ls [.int s0_J10]) := by
    intro s0_J10 H locs ls h hP hS hl
    rw [eJ10] at h
    exact ret_i0 (Option.some.inj h) X hQ hP hS dX12_greater_10
  refine lv_icmp_le (tgt := 9) X.1 X.2.1 dX12_greater_2 (by decide) (fun hc => ?_) (fun hc => ?_)
  · have h := it_t hc h
    refine lv_iload_n X.1 X.2.1 dX12_greater_9 rfl (lv_at hl 1 rfl) ?_
    exact HJ10 x1 H locs ls h hP hS (lv_sub hl [] rfl)
  · have h := it_f hc h
    refine lv_iload_n X.1 X.2.1 dX12_greater_5 rfl (lv_at hl 0 rfl) ?_
    refine lv_goto (tgt := 10) X.1 X.2.1 dX12_greater_6 (by decide) ?_
    exact HJ10 x0 H locs ls h hP hS (lv_sub hl [] rfl)

def f_X12_isOf (x0 : Int32) (x1 : Int32) : Option (Int32) := jn (fun (s0_J14 : Int32) => gdb s0_J14 (some s0_J14)) (fun J14 => (if ((x0 >>> (x1 &&& 31)) &&& 1) = 1 then J14 1 else J14 0))
abbrev rm_X12_isOf : Room := { frames := 0, cells := 0, slots := 0, locals := 0 }
set_option maxHeartbeats 4000000 in
set_option maxRecDepth 100000 in
theorem c_X12_isOf (l : Launch) (dC : Nat → ClassId) (dI : Nat → Nat → Nat) (sk sv : Nat → Nat) (tc : Nat → ClassId) (x0 : Int32) (x1 : Int32) {r0 : Int32} (h : f_X12_isOf x0 x1 = some r0) : CT l (dC, dI) sk sv (TY tc) yX12_isOf cX12_isOf 2 (some .boolean) rm_X12_isOf [.int x0, .int x1] [] (some (.int r0)) [] := by
  refine ofCT (by decide) (Nat.le_of_ble_eq_true rfl) ?_
  intro pr e s m args below meth c A Q ls H locs X hQ hD0 hP hS hl
  have hD : va_D A [] := hD0
  have hl : lv_has ls 2 [(0, .int x0), (1, .int x1)] := hl
  unfold f_X12_isOf at h
  refine lv_iload_n X.1 X.2.1 dX12_isOf_0 rfl (lv_at hl 0 rfl) ?_
  refine lv_iload_n X.1 X.2.1 dX12_isOf_1 rfl (lv_at hl 1 rfl) ?_
  refine lv_ishr X.1 X.2.1 dX12_isOf_2 ?_
  refine lv_iconst (v := 1) X.1 X.2.1 dX12_isOf_3 (by decide) ?_
  refine lv_iand X.1 X.2.1 dX12_isOf_4 ?_
  refine lv_iconst (v := 1) X.1 X.2.1 dX12_isOf_5 (by decide) ?_
  obtain ⟨J14, eJ14, h⟩ := jn_el h
  have HJ14 : ∀ (s0_J14 : Int32) (H : Heap) (locs : List Loc) (ls : Array Slot), J14 s0_J14 = some r0 → va_P (dC, dI) vwCl [] H → va_S A s.heap H locs → lv_has ls 2 [] → W pr l e rm_X12_isOf s m args below meth c H locs 0 0 Q (F0 m 14 ls [.int s0_J14]) := by
    intro s0_J14 H locs ls h hP hS hl
    rw [eJ14] at h
    obtain ⟨hg_1, h⟩ := gdb_el h
    exact ret_z0 hg_1 (Option.some.inj h) X hQ hP hS dX12_isOf_14
  refine lv_icmp_ne (tgt := 13) X.1 X.2.1 dX12_isOf_6 (by decide) (fun hc => ?_) (fun hc => ?_)
  · have h := it_f hc h
    refine lv_iconst (v := 0) X.1 X.2.1 dX12_isOf_13 (by decide) ?_
    exact HJ14 0 H locs ls h hP hS (lv_sub hl [] rfl)
  · have h := it_t hc h
    refine lv_iconst (v := 1) X.1 X.2.1 dX12_isOf_9 (by decide) ?_
    refine lv_goto (tgt := 14) X.1 X.2.1 dX12_isOf_10 (by decide) ?_
    exact HJ14 1 H locs ls h hP hS (lv_sub hl [] rfl)

def f_X12_bits_L4 (x0 : Int32) (n : Nat) (a : Int32 × Int32) : Option (Int32) := lp (fun (rec : Int32 × Int32 → Option (Int32)) (a : Int32 × Int32) => match a with | (x1, x2) => (if 31 ≤ x2 then some x1 else nm ((x1 + ((x0 >>> (x2 &&& 31)) &&& 1))) (fun x1_1 => nm (x2 + 1) (fun x2_2 => rec (x1_1, x2_2))))) n a
def f_X12_bits (x0 : Int32) : Option (Int32) := bd (f_X12_bits_L4 x0 fu (0, 0)) (fun x1_3 => some x1_3)
abbrev rm_X12_bits : Room := { frames := 0, cells := 0, slots := 0, locals := 0 }
set_option maxHeartbeats 4000000 in
set_option maxRecDepth 100000 in
theorem c_X12_bits (l : Launch) (dC : Nat → ClassId) (dI : Nat → Nat → Nat) (sk sv : Nat → Nat) (tc : Nat → ClassId) (x0 : Int32) {r0 : Int32} (h : f_X12_bits x0 = some r0) : CT l (dC, dI) sk sv (TY tc) yX12_bits cX12_bits 3 (some .int) rm_X12_bits [.int x0] [] (some (.int r0)) [] := by
  refine ofCT (by decide) (Nat.le_of_ble_eq_true rfl) ?_
  intro pr e s m args below meth c A Q ls H locs X hQ hD0 hP hS hl
  have hD : va_D A [] := hD0
  have hl : lv_has ls 3 [(0, .int x0)] := hl
  have HL4 : ∀ (x0 : Int32) (n : Nat) (x1 : Int32) (x2 : Int32) (ex : (Int32)), f_X12_bits_L4 x0 n (x1, x2) = some ex → ∀ (H : Heap) (locs : List Loc) (ls : Array Slot), va_P (dC, dI) vwCl [] H → va_S A s.heap H locs → lv_has ls 3 [(0, .int x0), (1, .int x1), (2, .int x2)] → (∀ (y1 : Int32), y1 = ex → ∀ (H : Heap) (locs : List Loc) (ls : Array Slot), va_P (dC, dI) vwCl [] H → va_S A s.heap H locs → lv_has ls 3 [(1, .int y1)] → W pr l e rm_X12_bits s m args below meth c H locs 0 0 Q (F0 m 24 ls [])) → W pr l e rm_X12_bits s m args below meth c H locs 0 0 Q (F0 m 4 ls []) := by
    intro x0 n
    induction n with
    | zero => intro x1 x2 ex h; exact lp_z h
    | succ n ih =>
      intro x1 x2 ex h H locs ls hP hS hl K
      have h := lp_s h
      refine lv_iload_n X.1 X.2.1 dX12_bits_4 rfl (lv_at hl 2 rfl) ?_
      refine lv_bipush (v := 31) X.1 X.2.1 dX12_bits_5 (by decide) ?_
      refine lv_icmp_ge (tgt := 24) X.1 X.2.1 dX12_bits_7 (by decide) (fun hc => ?_) (fun hc => ?_)
      · have h := it_t hc h
        exact K x1 (Option.some.inj h) H locs ls hP hS (lv_sub hl [1] rfl)
      · have h := it_f hc h
        refine lv_iload_n X.1 X.2.1 dX12_bits_10 rfl (lv_at hl 1 rfl) ?_
        refine lv_iload_n X.1 X.2.1 dX12_bits_11 rfl (lv_at hl 0 rfl) ?_
        refine lv_iload_n X.1 X.2.1 dX12_bits_12 rfl (lv_at hl 2 rfl) ?_
        refine lv_ishr X.1 X.2.1 dX12_bits_13 ?_
        refine lv_iconst (v := 1) X.1 X.2.1 dX12_bits_14 (by decide) ?_
        refine lv_iand X.1 X.2.1 dX12_bits_15 ?_
        refine lv_iadd X.1 X.2.1 dX12_bits_16 ?_
        obtain ⟨x1_1, ex1_1, h⟩ := nm_el h
        refine tp_i ex1_1 ?_
        refine lv_istore_n (lv' := [(1, .int x1_1), (0, .int x0), (2, .int x2)]) X.1 X.2.1 dX12_bits_17 rfl hl (by decide) rfl (fun ls hl => ?_)
        obtain ⟨x2_2, ex2_2, h⟩ := nm_el h
        refine lv_iinc (v := x2_2) (lv' := [(2, .int x2_2), (1, .int x1_1), (0, .int x0)]) X.1 X.2.1 dX12_bits_18 hl (k := 2) rfl (by rw [ex2_2]; rfl) (by decide) rfl (fun ls hl => ?_)
        refine lv_goto (tgt := 4) X.1 X.2.1 dX12_bits_21 (by decide) ?_
        exact ih x1_1 x2_2 ex h H locs ls hP hS (lv_sub hl [2, 1, 0] rfl) K
  unfold f_X12_bits at h
  refine lv_iconst (v := 0) X.1 X.2.1 dX12_bits_0 (by decide) ?_
  refine lv_istore_n (lv' := [(1, .int 0), (0, .int x0)]) X.1 X.2.1 dX12_bits_1 rfl hl (by decide) rfl (fun ls hl => ?_)
  refine lv_iconst (v := 0) X.1 X.2.1 dX12_bits_2 (by decide) ?_
  refine lv_istore_n (lv' := [(2, .int 0), (1, .int 0), (0, .int x0)]) X.1 X.2.1 dX12_bits_3 rfl hl (by decide) rfl (fun ls hl => ?_)
  obtain ⟨ex_3, hL_3, h⟩ := bd_el h
  refine HL4 x0 fu 0 0 ex_3 hL_3 H locs ls hP hS (lv_sub hl [2, 1, 0] rfl) (fun x1_3 he H locs ls hP hS hl => ?_)
  subst he
  refine lv_iload_n X.1 X.2.1 dX12_bits_24 rfl (lv_at hl 0 rfl) ?_
  exact ret_i0 (Option.some.inj h) X hQ hP hS dX12_bits_25

def f_X12_ofWord (g0 : Pic) (x1 : Int32) (x2 : Int32) : Option (Int32) := gdi ((12 + (8 * x1)) + x2) 856 (some (g0 1 (((12 + (8 * x1)) + x2).toNatClampNeg)))
abbrev rm_X12_ofWord : Room := { frames := 0, cells := 0, slots := 0, locals := 0 }
set_option maxHeartbeats 4000000 in
set_option maxRecDepth 100000 in
theorem c_X12_ofWord (l : Launch) (dC : Nat → ClassId) (dI : Nat → Nat → Nat) (sk sv : Nat → Nat) (tc : Nat → ClassId) (a0 : Nat → Nat) (g0 : Pic) (x1 : Int32) (x2 : Int32) {r0 : Int32} (h : f_X12_ofWord g0 x1 x2 = some r0) : CT l (dC, dI) sk sv (TY tc) yX12_ofWord cX12_ofWord 3 (some .int) rm_X12_ofWord [.ref (a0 0), .int x1, .int x2] (wM tc a0 g0) (some (.int r0)) (wM tc a0 g0) := by
  refine ofCT (by decide) (Nat.le_of_ble_eq_true rfl) ?_
  intro pr e s m args below meth c A Q ls H locs X hQ hD0 hP hS hl
  have hD : ∀ z0, va_D A (wM tc a0 z0) := fun z0 => D_fst (ws := (wM tc a0 g0)) rfl hD0
  have hl : lv_has ls 3 [(0, .ref (a0 0)), (1, .int x1), (2, .int x2)] := hl
  unfold f_X12_ofWord at h
  refine lv_aload_n X.1 X.2.1 dX12_ofWord_0 rfl (lv_at hl 0 rfl) ?_
  refine r_get (C := RX12) (T := TX12) (N := 28) (ci := 12) (v := .ref (a0 2)) X iw12 hP 0 rfl rfl 1 rfl mw_7_121 rfl dX12_ofWord_1 ?_
  refine lv_bipush (v := 12) X.1 X.2.1 dX12_ofWord_4 (by decide) ?_
  refine lv_bipush (v := 8) X.1 X.2.1 dX12_ofWord_6 (by decide) ?_
  refine lv_iload_n X.1 X.2.1 dX12_ofWord_8 rfl (lv_at hl 1 rfl) ?_
  refine lv_imul X.1 X.2.1 dX12_ofWord_9 ?_
  refine lv_iadd X.1 X.2.1 dX12_ofWord_10 ?_
  refine lv_iload_n X.1 X.2.1 dX12_ofWord_11 rfl (lv_at hl 2 rfl) ?_
  refine lv_iadd X.1 X.2.1 dX12_ofWord_12 ?_
  obtain ⟨hg_1, h⟩ := gdi_el h
  refine r_iald X hP 1 0 rfl rfl hg_1 rfl dX12_ofWord_13 ?_
  exact ret_i0 (Option.some.inj h) X hQ hP hS dX12_ofWord_14

def f_X12_of (g0 : Pic) (x1 : Int32) (x2 : Int32) : Option (Int32) := gdi ((96 + (4 * x1)) + x2) 856 (some (g0 1 (((96 + (4 * x1)) + x2).toNatClampNeg)))
abbrev rm_X12_of : Room := { frames := 0, cells := 0, slots := 0, locals := 0 }
set_option maxHeartbeats 4000000 in
set_option maxRecDepth 100000 in
theorem c_X12_of (l : Launch) (dC : Nat → ClassId) (dI : Nat → Nat → Nat) (sk sv : Nat → Nat) (tc : Nat → ClassId) (a0 : Nat → Nat) (g0 : Pic) (x1 : Int32) (x2 : Int32) {r0 : Int32} (h : f_X12_of g0 x1 x2 = some r0) : CT l (dC, dI) sk sv (TY tc) yX12_of cX12_of 3 (some .int) rm_X12_of [.ref (a0 0), .int x1, .int x2] (wM tc a0 g0) (some (.int r0)) (wM tc a0 g0) := by
  refine ofCT (by decide) (Nat.le_of_ble_eq_true rfl) ?_
  intro pr e s m args below meth c A Q ls H locs X hQ hD0 hP hS hl
  have hD : ∀ z0, va_D A (wM tc a0 z0) := fun z0 => D_fst (ws := (wM tc a0 g0)) rfl hD0
  have hl : lv_has ls 3 [(0, .ref (a0 0)), (1, .int x1), (2, .int x2)] := hl
  unfold f_X12_of at h
  refine lv_aload_n X.1 X.2.1 dX12_of_0 rfl (lv_at hl 0 rfl) ?_
  refine r_get (C := RX12) (T := TX12) (N := 28) (ci := 12) (v := .ref (a0 2)) X iw12 hP 0 rfl rfl 1 rfl mw_7_121 rfl dX12_of_1 ?_
  refine lv_bipush (v := 96) X.1 X.2.1 dX12_of_4 (by decide) ?_
  refine lv_iconst (v := 4) X.1 X.2.1 dX12_of_6 (by decide) ?_
  refine lv_iload_n X.1 X.2.1 dX12_of_7 rfl (lv_at hl 1 rfl) ?_
  refine lv_imul X.1 X.2.1 dX12_of_8 ?_
  refine lv_iadd X.1 X.2.1 dX12_of_9 ?_
  refine lv_iload_n X.1 X.2.1 dX12_of_10 rfl (lv_at hl 2 rfl) ?_
  refine lv_iadd X.1 X.2.1 dX12_of_11 ?_
  obtain ⟨hg_1, h⟩ := gdi_el h
  refine r_iald X hP 1 0 rfl rfl hg_1 rfl dX12_of_12 ?_
  exact ret_i0 (Option.some.inj h) X hQ hP hS dX12_of_13

def f_X12_lays (g0 : Pic) (x1 : Int32) (x2 : Int32) (x3 : Int32) : Option (Pic) := gdi ((96 + (4 * x1)) + x2) 856 (nm (pu g0 1 (((96 + (4 * x1)) + x2).toNatClampNeg) x3) (fun g0_2 => some g0_2))
abbrev rm_X12_lays : Room := { frames := 0, cells := 0, slots := 0, locals := 0 }
set_option maxHeartbeats 4000000 in
set_option maxRecDepth 100000 in
theorem c_X12_lays (l : Launch) (dC : Nat → ClassId) (dI : Nat → Nat → Nat) (sk sv : Nat → Nat) (tc : Nat → ClassId) (a0 : Nat → Nat) (g0 : Pic) (x1 : Int32) (x2 : Int32) (x3 : Int32) {G0 : Pic} (h : f_X12_lays g0 x1 x2 x3 = some G0) : CT l (dC, dI) sk sv (TY tc) yX12_lays cX12_lays 4 none rm_X12_lays [.ref (a0 0), .int x1, .int x2, .int x3] (wM tc a0 g0) none (wM tc a0 G0) := by
  refine ofCT (by decide) (Nat.le_of_ble_eq_true rfl) ?_
  intro pr e s m args below meth c A Q ls H locs X hQ hD0 hP hS hl
  have hD : ∀ z0, va_D A (wM tc a0 z0) := fun z0 => D_fst (ws := (wM tc a0 g0)) rfl hD0
  have hl : lv_has ls 4 [(0, .ref (a0 0)), (1, .int x1), (2, .int x2), (3, .int x3)] := hl
  unfold f_X12_lays at h
  refine lv_aload_n X.1 X.2.1 dX12_lays_0 rfl (lv_at hl 0 rfl) ?_
  refine r_get (C := RX12) (T := TX12) (N := 28) (ci := 12) (v := .ref (a0 2)) X iw12 hP 0 rfl rfl 1 rfl mw_7_121 rfl dX12_lays_1 ?_
  refine lv_bipush (v := 96) X.1 X.2.1 dX12_lays_4 (by decide) ?_
  refine lv_iconst (v := 4) X.1 X.2.1 dX12_lays_6 (by decide) ?_
  refine lv_iload_n X.1 X.2.1 dX12_lays_7 rfl (lv_at hl 1 rfl) ?_
  refine lv_imul X.1 X.2.1 dX12_lays_8 ?_
  refine lv_iadd X.1 X.2.1 dX12_lays_9 ?_
  refine lv_iload_n X.1 X.2.1 dX12_lays_10 rfl (lv_at hl 2 rfl) ?_
  refine lv_iadd X.1 X.2.1 dX12_lays_11 ?_
  refine lv_iload_n X.1 X.2.1 dX12_lays_12 rfl (lv_at hl 3 rfl) ?_
  obtain ⟨hg_1, h⟩ := gdi_el h
  obtain ⟨g0_2, eg0_2, h⟩ := nm_el h
  refine r_iast X hP (hD _) hS 1 0 rfl rfl hg_1 rfl dX12_lays_13 (wM tc a0 g0_2) (by rw [eg0_2]; rfl) (fun H locs hP hS => ?_)
  exact ret_v (fun u => (wM tc a0 u)) (res := G0) (Option.some.inj h) X hQ hP hS dX12_lays_14

def f_X12_onPage (g0 : Pic) (x1 : Int32) (x2 : Int32) : Option (Int32) := gdi ((116 + (20 * x1)) + x2) 856 (some (g0 1 (((116 + (20 * x1)) + x2).toNatClampNeg)))
abbrev rm_X12_onPage : Room := { frames := 0, cells := 0, slots := 0, locals := 0 }
set_option maxHeartbeats 4000000 in
set_option maxRecDepth 100000 in
theorem c_X12_onPage (l : Launch) (dC : Nat → ClassId) (dI : Nat → Nat → Nat) (sk sv : Nat → Nat) (tc : Nat → ClassId) (a0 : Nat → Nat) (g0 : Pic) (x1 : Int32) (x2 : Int32) {r0 : Int32} (h : f_X12_onPage g0 x1 x2 = some r0) : CT l (dC, dI) sk sv (TY tc) yX12_onPage cX12_onPage 3 (some .int) rm_X12_onPage [.ref (a0 0), .int x1, .int x2] (wM tc a0 g0) (some (.int r0)) (wM tc a0 g0) := by
  refine ofCT (by decide) (Nat.le_of_ble_eq_true rfl) ?_
  intro pr e s m args below meth c A Q ls H locs X hQ hD0 hP hS hl
  have hD : ∀ z0, va_D A (wM tc a0 z0) := fun z0 => D_fst (ws := (wM tc a0 g0)) rfl hD0
  have hl : lv_has ls 3 [(0, .ref (a0 0)), (1, .int x1), (2, .int x2)] := hl
  unfold f_X12_onPage at h
  refine lv_aload_n X.1 X.2.1 dX12_onPage_0 rfl (lv_at hl 0 rfl) ?_
  refine r_get (C := RX12) (T := TX12) (N := 28) (ci := 12) (v := .ref (a0 2)) X iw12 hP 0 rfl rfl 1 rfl mw_7_121 rfl dX12_onPage_1 ?_
  refine lv_bipush (v := 116) X.1 X.2.1 dX12_onPage_4 (by decide) ?_
  refine lv_bipush (v := 20) X.1 X.2.1 dX12_onPage_6 (by decide) ?_
  refine lv_iload_n X.1 X.2.1 dX12_onPage_8 rfl (lv_at hl 1 rfl) ?_
  refine lv_imul X.1 X.2.1 dX12_onPage_9 ?_
  refine lv_iadd X.1 X.2.1 dX12_onPage_10 ?_
  refine lv_iload_n X.1 X.2.1 dX12_onPage_11 rfl (lv_at hl 2 rfl) ?_
  refine lv_iadd X.1 X.2.1 dX12_onPage_12 ?_
  obtain ⟨hg_1, h⟩ := gdi_el h
  refine r_iald X hP 1 0 rfl rfl hg_1 rfl dX12_onPage_13 ?_
  exact ret_i0 (Option.some.inj h) X hQ hP hS dX12_onPage_14

def f_X12_isWord (g0 : Pic) (x1 : Int32) : Option (Int32) := bd (f_X12_isIn x1 0 ((g0 1 3) - 1)) (fun r_1 => gdb r_1 (some r_1))
abbrev rm_X12_isWord : Room := { frames := 1, cells := 0, slots := 0, locals := 22 }
set_option maxHeartbeats 4000000 in
set_option maxRecDepth 100000 in
theorem c_X12_isWord (l : Launch) (dC : Nat → ClassId) (dI : Nat → Nat → Nat) (sk sv : Nat → Nat) (tc : Nat → ClassId) (a0 : Nat → Nat) (g0 : Pic) (x1 : Int32) {r0 : Int32} (h : f_X12_isWord g0 x1 = some r0) : CT l (dC, dI) sk sv (TY tc) yX12_isWord cX12_isWord 2 (some .boolean) rm_X12_isWord [.ref (a0 0), .int x1] (wM tc a0 g0) (some (.int r0)) (wM tc a0 g0) := by
  refine ofCT (by decide) (Nat.le_of_ble_eq_true rfl) ?_
  intro pr e s m args below meth c A Q ls H locs X hQ hD0 hP hS hl
  have hD : ∀ z0, va_D A (wM tc a0 z0) := fun z0 => D_fst (ws := (wM tc a0 g0)) rfl hD0
  have hl : lv_has ls 2 [(0, .ref (a0 0)), (1, .int x1)] := hl
  unfold f_X12_isWord at h
  refine lv_iload_n X.1 X.2.1 dX12_isWord_0 rfl (lv_at hl 1 rfl) ?_
  refine lv_iconst (v := 0) X.1 X.2.1 dX12_isWord_1 (by decide) ?_
  refine lv_aload_n X.1 X.2.1 dX12_isWord_2 rfl (lv_at hl 0 rfl) ?_
  refine r_get (C := RX12) (T := TX12) (N := 28) (ci := 12) (v := .ref (a0 2)) X iw12 hP 0 rfl rfl 1 rfl mw_7_121 rfl dX12_isWord_3 ?_
  refine lv_iconst (v := 3) X.1 X.2.1 dX12_isWord_6 (by decide) ?_
  refine r_iald X hP 1 0 rfl rfl (j := 3) (by unfold vp_in; decide) (by decide) dX12_isWord_7 ?_
  refine lv_iconst (v := 1) X.1 X.2.1 dX12_isWord_8 (by decide) ?_
  refine lv_isub X.1 X.2.1 dX12_isWord_9 ?_
  obtain ⟨r_1, hc_1, h⟩ := bd_el h
  refine call_S0i (As := [.int x1, .int 0, .int ((g0 1 3) - 1)]) (rest := []) X (c_X12_isIn l dC dI sk sv tc x1 0 ((g0 1 3) - 1) hc_1) mw_7_218 mw_7_219 mw_1_12 mw_7_220 dc_X12_isIn ⟨Nat.le_of_ble_eq_true rfl, Nat.le_of_ble_eq_true rfl⟩ rfl rfl ⟨Nat.zero_le _, Nat.zero_le _⟩ hP (hD _) hS hl.1 (Nat.le_of_ble_eq_true rfl) dX12_isWord_10 (fun H locs hP hS => ?_)
  obtain ⟨hg_2, h⟩ := gdb_el h
  exact ret_z0 hg_2 (Option.some.inj h) X hQ hP hS dX12_isWord_13

def f_X12_markBy_L5 (x1 : Int32) (x2 : Int32) (g0 : Pic) (n : Nat) (a : Int32 × Int32) : Option (Int32) := lp (fun (rec : Int32 × Int32 → Option (Int32)) (a : Int32 × Int32) => match a with | (x3, x4) => bd (f_X12_ofWord g0 x1 6) (fun r_1 => (if r_1 ≤ x4 then some x3 else bd (f_X12_ofWord g0 x1 x4) (fun r_2 => bd (f_X12_isOf x2 r_2) (fun r_3 => jn (fun (s0_J49 : Int32) => nm (x4 + 1) (fun x4_4 => rec (s0_J49, x4_4))) (fun J49 => (if r_3 = 0 then bd (f_X12_ofWord g0 x1 x4) (fun r_5 => J49 (((9 * x3) + r_5) + 1)) else J49 x3))))))) n a
def f_X12_markBy (g0 : Pic) (x1 : Int32) (x2 : Int32) : Option (Int32) := bd (f_X12_markBy_L5 x1 x2 g0 fu (0, 0)) (fun x3_6 => some x3_6)
abbrev rm_X12_markBy : Room := { frames := 1, cells := 0, slots := 0, locals := 22 }
set_option maxHeartbeats 4000000 in
set_option maxRecDepth 100000 in
theorem c_X12_markBy (l : Launch) (dC : Nat → ClassId) (dI : Nat → Nat → Nat) (sk sv : Nat → Nat) (tc : Nat → ClassId) (a0 : Nat → Nat) (g0 : Pic) (x1 : Int32) (x2 : Int32) {r0 : Int32} (h : f_X12_markBy g0 x1 x2 = some r0) : CT l (dC, dI) sk sv (TY tc) yX12_markBy cX12_markBy 5 (some .int) rm_X12_markBy [.ref (a0 0), .int x1, .int x2] (wM tc a0 g0) (some (.int r0)) (wM tc a0 g0) := by
  refine ofCT (by decide) (Nat.le_of_ble_eq_true rfl) ?_
  intro pr e s m args below meth c A Q ls H locs X hQ hD0 hP hS hl
  have hD : ∀ z0, va_D A (wM tc a0 z0) := fun z0 => D_fst (ws := (wM tc a0 g0)) rfl hD0
  have hl : lv_has ls 5 [(0, .ref (a0 0)), (1, .int x1), (2, .int x2)] := hl
  have HL5 : ∀ (x1 : Int32) (x2 : Int32) (g0 : Pic) (n : Nat) (x3 : Int32) (x4 : Int32) (ex : (Int32)), f_X12_markBy_L5 x1 x2 g0 n (x3, x4) = some ex → ∀ (H : Heap) (locs : List Loc) (ls : Array Slot), va_P (dC, dI) vwCl (wM tc a0 g0) H → va_S A s.heap H locs → lv_has ls 5 [(0, .ref (a0 0)), (1, .int x1), (2, .int x2), (3, .int x3), (4, .int x4)] → (∀ (y3 : Int32), y3 = ex → ∀ (H : Heap) (locs : List Loc) (ls : Array Slot), va_P (dC, dI) vwCl (wM tc a0 g0) H → va_S A s.heap H locs → lv_has ls 5 [(3, .int y3)] → W pr l e rm_X12_markBy s m args below meth c H locs 0 0 Q (F0 m 56 ls [])) → W pr l e rm_X12_markBy s m args below meth c H locs 0 0 Q (F0 m 5 ls []) := by
    intro x1 x2 g0 n
    induction n with
    | zero => intro x3 x4 ex h; exact lp_z h
    | succ n ih =>
      intro x3 x4 ex h H locs ls hP hS hl K
      have h := lp_s h
      refine lv_iload X.1 X.2.1 dX12_markBy_5 (lv_at hl 4 rfl) ?_
      refine lv_aload_n X.1 X.2.1 dX12_markBy_7 rfl (lv_at hl 0 rfl) ?_
      refine lv_iload_n X.1 X.2.1 dX12_markBy_8 rfl (lv_at hl 1 rfl) ?_
      refine lv_bipush (v := 6) X.1 X.2.1 dX12_markBy_9 (by decide) ?_
      obtain ⟨r_1, hc_1, h⟩ := bd_el h
      refine call_V1i (As := [.int x1, .int 6]) (rest := [.int x4]) X (c_X12_ofWord l dC dI sk sv tc a0 g0 x1 6 hc_1) mw_8_140 mw_8_142 mp_3_10 mw_1_12 mw_8_143 dc_X12_ofWord ⟨Nat.le_of_ble_eq_true rfl, Nat.le_of_ble_eq_true rfl⟩ rfl rfl ⟨Nat.zero_le _, Nat.zero_le _⟩ hP (hD _) hS 0 rfl rfl rfl hl.1 (Nat.le_of_ble_eq_true rfl) dX12_markBy_11 (fun H locs hP hS => ?_)
      refine lv_icmp_ge (tgt := 56) X.1 X.2.1 dX12_markBy_14 (by decide) (fun hc => ?_) (fun hc => ?_)
      · have h := it_t hc h
        exact K x3 (Option.some.inj h) H locs ls hP hS (lv_sub hl [3] rfl)
      · have h := it_f hc h
        refine lv_iload_n X.1 X.2.1 dX12_markBy_17 rfl (lv_at hl 2 rfl) ?_
        refine lv_aload_n X.1 X.2.1 dX12_markBy_18 rfl (lv_at hl 0 rfl) ?_
        refine lv_iload_n X.1 X.2.1 dX12_markBy_19 rfl (lv_at hl 1 rfl) ?_
        refine lv_iload X.1 X.2.1 dX12_markBy_20 (lv_at hl 4 rfl) ?_
        obtain ⟨r_2, hc_2, h⟩ := bd_el h
        refine call_V1i (As := [.int x1, .int x4]) (rest := [.int x2]) X (c_X12_ofWord l dC dI sk sv tc a0 g0 x1 x4 hc_2) mw_8_140 mw_8_142 mp_3_10 mw_1_12 mw_8_143 dc_X12_ofWord ⟨Nat.le_of_ble_eq_true rfl, Nat.le_of_ble_eq_true rfl⟩ rfl rfl ⟨Nat.zero_le _, Nat.zero_le _⟩ hP (hD _) hS 0 rfl rfl rfl hl.1 (Nat.le_of_ble_eq_true rfl) dX12_markBy_22 (fun H locs hP hS => ?_)
        obtain ⟨r_3, hc_3, h⟩ := bd_el h
        refine call_S0i (As := [.int x2, .int r_2]) (rest := []) X (c_X12_isOf l dC dI sk sv tc x2 r_2 hc_3) mw_8_192 mw_8_193 mw_1_12 mw_8_194 dc_X12_isOf ⟨Nat.le_of_ble_eq_true rfl, Nat.le_of_ble_eq_true rfl⟩ rfl rfl ⟨Nat.zero_le _, Nat.zero_le _⟩ hP (hD _) hS hl.1 (Nat.le_of_ble_eq_true rfl) dX12_markBy_25 (fun H locs hP hS => ?_)
        obtain ⟨J49, eJ49, h⟩ := jn_el h
        have HJ49 : ∀ (s0_J49 : Int32) (H : Heap) (locs : List Loc) (ls : Array Slot), J49 s0_J49 = some ex → va_P (dC, dI) vwCl (wM tc a0 g0) H → va_S A s.heap H locs → lv_has ls 5 [(0, .ref (a0 0)), (1, .int x1), (2, .int x2), (4, .int x4)] → W pr l e rm_X12_markBy s m args below meth c H locs 0 0 Q (F0 m 49 ls [.int s0_J49]) := by
          intro s0_J49 H locs ls h hP hS hl
          rw [eJ49] at h
          refine lv_istore_n (lv' := [(3, .int s0_J49), (0, .ref (a0 0)), (1, .int x1), (2, .int x2), (4, .int x4)]) X.1 X.2.1 dX12_markBy_49 rfl hl (by decide) rfl (fun ls hl => ?_)
          obtain ⟨x4_4, ex4_4, h⟩ := nm_el h
          refine lv_iinc (v := x4_4) (lv' := [(4, .int x4_4), (3, .int s0_J49), (0, .ref (a0 0)), (1, .int x1), (2, .int x2)]) X.1 X.2.1 dX12_markBy_50 hl (k := 4) rfl (by rw [ex4_4]; rfl) (by decide) rfl (fun ls hl => ?_)
          refine lv_goto (tgt := 5) X.1 X.2.1 dX12_markBy_53 (by decide) ?_
          exact ih s0_J49 x4_4 ex h H locs ls hP hS (lv_sub hl [2, 3, 4, 1, 0] rfl) K
        refine lv_if_eq (tgt := 35) X.1 X.2.1 dX12_markBy_28 (by decide) (fun hc => ?_) (fun hc => ?_)
        · have h := it_t hc h
          refine lv_bipush (v := 9) X.1 X.2.1 dX12_markBy_35 (by decide) ?_
          refine lv_iload_n X.1 X.2.1 dX12_markBy_37 rfl (lv_at hl 3 rfl) ?_
          refine lv_imul X.1 X.2.1 dX12_markBy_38 ?_
          refine lv_aload_n X.1 X.2.1 dX12_markBy_39 rfl (lv_at hl 0 rfl) ?_
          refine lv_iload_n X.1 X.2.1 dX12_markBy_40 rfl (lv_at hl 1 rfl) ?_
          refine lv_iload X.1 X.2.1 dX12_markBy_41 (lv_at hl 4 rfl) ?_
          obtain ⟨r_5, hc_5, h⟩ := bd_el h
          refine call_V1i (As := [.int x1, .int x4]) (rest := [.int (9 * x3)]) X (c_X12_ofWord l dC dI sk sv tc a0 g0 x1 x4 hc_5) mw_8_140 mw_8_142 mp_3_10 mw_1_12 mw_8_143 dc_X12_ofWord ⟨Nat.le_of_ble_eq_true rfl, Nat.le_of_ble_eq_true rfl⟩ rfl rfl ⟨Nat.zero_le _, Nat.zero_le _⟩ hP (hD _) hS 0 rfl rfl rfl hl.1 (Nat.le_of_ble_eq_true rfl) dX12_markBy_43 (fun H locs hP hS => ?_)
          refine lv_iadd X.1 X.2.1 dX12_markBy_46 ?_
          refine lv_iconst (v := 1) X.1 X.2.1 dX12_markBy_47 (by decide) ?_
          refine lv_iadd X.1 X.2.1 dX12_markBy_48 ?_
          exact HJ49 (((9 * x3) + r_5) + 1) H locs ls h hP hS (lv_sub hl [0, 1, 2, 4] rfl)
        · have h := it_f hc h
          refine lv_iload_n X.1 X.2.1 dX12_markBy_31 rfl (lv_at hl 3 rfl) ?_
          refine lv_goto (tgt := 49) X.1 X.2.1 dX12_markBy_32 (by decide) ?_
          exact HJ49 x3 H locs ls h hP hS (lv_sub hl [0, 1, 2, 4] rfl)
  unfold f_X12_markBy at h
  refine lv_iconst (v := 0) X.1 X.2.1 dX12_markBy_0 (by decide) ?_
  refine lv_istore_n (lv' := [(3, .int 0), (0, .ref (a0 0)), (1, .int x1), (2, .int x2)]) X.1 X.2.1 dX12_markBy_1 rfl hl (by decide) rfl (fun ls hl => ?_)
  refine lv_iconst (v := 0) X.1 X.2.1 dX12_markBy_2 (by decide) ?_
  refine lv_istore (lv' := [(4, .int 0), (3, .int 0), (0, .ref (a0 0)), (1, .int x1), (2, .int x2)]) X.1 X.2.1 dX12_markBy_3 hl (by decide) rfl (fun ls hl => ?_)
  obtain ⟨ex_6, hL_6, h⟩ := bd_el h
  refine HL5 x1 x2 g0 fu 0 0 ex_6 hL_6 H locs ls hP hS (lv_sub hl [2, 3, 4, 1, 0] rfl) (fun x3_6 he H locs ls hP hS hl => ?_)
  subst he
  refine lv_iload_n X.1 X.2.1 dX12_markBy_56 rfl (lv_at hl 0 rfl) ?_
  exact ret_i0 (Option.some.inj h) X hQ hP hS dX12_markBy_57

def f_X12_strokesBy_L5 (x1 : Int32) (x2 : Int32) (g0 : Pic) (n : Nat) (a : Int32 × Int32) : Option (Int32) := lp (fun (rec : Int32 × Int32 → Option (Int32)) (a : Int32 × Int32) => match a with | (x3, x4) => bd (f_X12_ofWord g0 x1 6) (fun r_1 => (if r_1 ≤ x4 then some x3 else bd (f_X12_ofWord g0 x1 x4) (fun r_2 => bd (f_X12_isOf x2 r_2) (fun r_3 => jn (fun (s0_J37 : Int32) (s1_J37 : Int32) => nm ((s0_J37 + s1_J37)) (fun x3_4 => nm (x4 + 1) (fun x4_5 => rec (x3_4, x4_5)))) (fun J37 => (if r_3 = 0 then J37 x3 1 else J37 x3 0))))))) n a
def f_X12_strokesBy (g0 : Pic) (x1 : Int32) (x2 : Int32) : Option (Int32) := bd (f_X12_strokesBy_L5 x1 x2 g0 fu (0, 0)) (fun x3_6 => some x3_6)
abbrev rm_X12_strokesBy : Room := { frames := 1, cells := 0, slots := 0, locals := 22 }
set_option maxHeartbeats 4000000 in
set_option maxRecDepth 100000 in
theorem c_X12_strokesBy (l : Launch) (dC : Nat → ClassId) (dI : Nat → Nat → Nat) (sk sv : Nat → Nat) (tc : Nat → ClassId) (a0 : Nat → Nat) (g0 : Pic) (x1 : Int32) (x2 : Int32) {r0 : Int32} (h : f_X12_strokesBy g0 x1 x2 = some r0) : CT l (dC, dI) sk sv (TY tc) yX12_strokesBy cX12_strokesBy 5 (some .int) rm_X12_strokesBy [.ref (a0 0), .int x1, .int x2] (wM tc a0 g0) (some (.int r0)) (wM tc a0 g0) := by
  refine ofCT (by decide) (Nat.le_of_ble_eq_true rfl) ?_
  intro pr e s m args below meth c A Q ls H locs X hQ hD0 hP hS hl
  have hD : ∀ z0, va_D A (wM tc a0 z0) := fun z0 => D_fst (ws := (wM tc a0 g0)) rfl hD0
  have hl : lv_has ls 5 [(0, .ref (a0 0)), (1, .int x1), (2, .int x2)] := hl
  have HL5 : ∀ (x1 : Int32) (x2 : Int32) (g0 : Pic) (n : Nat) (x3 : Int32) (x4 : Int32) (ex : (Int32)), f_X12_strokesBy_L5 x1 x2 g0 n (x3, x4) = some ex → ∀ (H : Heap) (locs : List Loc) (ls : Array Slot), va_P (dC, dI) vwCl (wM tc a0 g0) H → va_S A s.heap H locs → lv_has ls 5 [(0, .ref (a0 0)), (1, .int x1), (2, .int x2), (3, .int x3), (4, .int x4)] → (∀ (y3 : Int32), y3 = ex → ∀ (H : Heap) (locs : List Loc) (ls : Array Slot), va_P (dC, dI) vwCl (wM tc a0 g0) H → va_S A s.heap H locs → lv_has ls 5 [(3, .int y3)] → W pr l e rm_X12_strokesBy s m args below meth c H locs 0 0 Q (F0 m 45 ls [])) → W pr l e rm_X12_strokesBy s m args below meth c H locs 0 0 Q (F0 m 5 ls []) := by
    intro x1 x2 g0 n
    induction n with
    | zero => intro x3 x4 ex h; exact lp_z h
    | succ n ih =>
      intro x3 x4 ex h H locs ls hP hS hl K
      have h := lp_s h
      refine lv_iload X.1 X.2.1 dX12_strokesBy_5 (lv_at hl 4 rfl) ?_
      refine lv_aload_n X.1 X.2.1 dX12_strokesBy_7 rfl (lv_at hl 0 rfl) ?_
      refine lv_iload_n X.1 X.2.1 dX12_strokesBy_8 rfl (lv_at hl 1 rfl) ?_
      refine lv_bipush (v := 6) X.1 X.2.1 dX12_strokesBy_9 (by decide) ?_
      obtain ⟨r_1, hc_1, h⟩ := bd_el h
      refine call_V1i (As := [.int x1, .int 6]) (rest := [.int x4]) X (c_X12_ofWord l dC dI sk sv tc a0 g0 x1 6 hc_1) mw_8_140 mw_8_142 mp_3_10 mw_1_12 mw_8_143 dc_X12_ofWord ⟨Nat.le_of_ble_eq_true rfl, Nat.le_of_ble_eq_true rfl⟩ rfl rfl ⟨Nat.zero_le _, Nat.zero_le _⟩ hP (hD _) hS 0 rfl rfl rfl hl.1 (Nat.le_of_ble_eq_true rfl) dX12_strokesBy_11 (fun H locs hP hS => ?_)
      refine lv_icmp_ge (tgt := 45) X.1 X.2.1 dX12_strokesBy_14 (by decide) (fun hc => ?_) (fun hc => ?_)
      · have h := it_t hc h
        exact K x3 (Option.some.inj h) H locs ls hP hS (lv_sub hl [3] rfl)
      · have h := it_f hc h
        refine lv_iload_n X.1 X.2.1 dX12_strokesBy_17 rfl (lv_at hl 3 rfl) ?_
        refine lv_iload_n X.1 X.2.1 dX12_strokesBy_18 rfl (lv_at hl 2 rfl) ?_
        refine lv_aload_n X.1 X.2.1 dX12_strokesBy_19 rfl (lv_at hl 0 rfl) ?_
        refine lv_iload_n X.1 X.2.1 dX12_strokesBy_20 rfl (lv_at hl 1 rfl) ?_
        refine lv_iload X.1 X.2.1 dX12_strokesBy_21 (lv_at hl 4 rfl) ?_
        obtain ⟨r_2, hc_2, h⟩ := bd_el h
        refine call_V1i (As := [.int x1, .int x4]) (rest := [.int x2, .int x3]) X (c_X12_ofWord l dC dI sk sv tc a0 g0 x1 x4 hc_2) mw_8_140 mw_8_142 mp_3_10 mw_1_12 mw_8_143 dc_X12_ofWord ⟨Nat.le_of_ble_eq_true rfl, Nat.le_of_ble_eq_true rfl⟩ rfl rfl ⟨Nat.zero_le _, Nat.zero_le _⟩ hP (hD _) hS 0 rfl rfl rfl hl.1 (Nat.le_of_ble_eq_true rfl) dX12_strokesBy_23 (fun H locs hP hS => ?_)
        obtain ⟨r_3, hc_3, h⟩ := bd_el h
        refine call_S0i (As := [.int x2, .int r_2]) (rest := [.int x3]) X (c_X12_isOf l dC dI sk sv tc x2 r_2 hc_3) mw_8_192 mw_8_193 mw_1_12 mw_8_194 dc_X12_isOf ⟨Nat.le_of_ble_eq_true rfl, Nat.le_of_ble_eq_true rfl⟩ rfl rfl ⟨Nat.zero_le _, Nat.zero_le _⟩ hP (hD _) hS hl.1 (Nat.le_of_ble_eq_true rfl) dX12_strokesBy_26 (fun H locs hP hS => ?_)
        obtain ⟨J37, eJ37, h⟩ := jn_el h
        have HJ37 : ∀ (s0_J37 : Int32) (s1_J37 : Int32) (H : Heap) (locs : List Loc) (ls : Array Slot), J37 s0_J37 s1_J37 = some ex → va_P (dC, dI) vwCl (wM tc a0 g0) H → va_S A s.heap H locs → lv_has ls 5 [(0, .ref (a0 0)), (1, .int x1), (2, .int x2), (4, .int x4)] → W pr l e rm_X12_strokesBy s m args below meth c H locs 0 0 Q (F0 m 37 ls [.int s1_J37, .int s0_J37]) := by
          intro s0_J37 s1_J37 H locs ls h hP hS hl
          rw [eJ37] at h
          refine lv_iadd X.1 X.2.1 dX12_strokesBy_37 ?_
          obtain ⟨x3_4, ex3_4, h⟩ := nm_el h
          refine tp_i ex3_4 ?_
          refine lv_istore_n (lv' := [(3, .int x3_4), (0, .ref (a0 0)), (1, .int x1), (2, .int x2), (4, .int x4)]) X.1 X.2.1 dX12_strokesBy_38 rfl hl (by decide) rfl (fun ls hl => ?_)
          obtain ⟨x4_5, ex4_5, h⟩ := nm_el h
          refine lv_iinc (v := x4_5) (lv' := [(4, .int x4_5), (3, .int x3_4), (0, .ref (a0 0)), (1, .int x1), (2, .int x2)]) X.1 X.2.1 dX12_strokesBy_39 hl (k := 4) rfl (by rw [ex4_5]; rfl) (by decide) rfl (fun ls hl => ?_)
          refine lv_goto (tgt := 5) X.1 X.2.1 dX12_strokesBy_42 (by decide) ?_
          exact ih x3_4 x4_5 ex h H locs ls hP hS (lv_sub hl [2, 3, 4, 1, 0] rfl) K
        refine lv_if_eq (tgt := 36) X.1 X.2.1 dX12_strokesBy_29 (by decide) (fun hc => ?_) (fun hc => ?_)
        · have h := it_t hc h
          refine lv_iconst (v := 1) X.1 X.2.1 dX12_strokesBy_36 (by decide) ?_
          exact HJ37 x3 1 H locs ls h hP hS (lv_sub hl [0, 1, 2, 4] rfl)
        · have h := it_f hc h
          refine lv_iconst (v := 0) X.1 X.2.1 dX12_strokesBy_32 (by decide) ?_
          refine lv_goto (tgt := 37) X.1 X.2.1 dX12_strokesBy_33 (by decide) ?_
          exact HJ37 x3 0 H locs ls h hP hS (lv_sub hl [0, 1, 2, 4] rfl)
  unfold f_X12_strokesBy at h
  refine lv_iconst (v := 0) X.1 X.2.1 dX12_strokesBy_0 (by decide) ?_
  refine lv_istore_n (lv' := [(3, .int 0), (0, .ref (a0 0)), (1, .int x1), (2, .int x2)]) X.1 X.2.1 dX12_strokesBy_1 rfl hl (by decide) rfl (fun ls hl => ?_)
  refine lv_iconst (v := 0) X.1 X.2.1 dX12_strokesBy_2 (by decide) ?_
  refine lv_istore (lv' := [(4, .int 0), (3, .int 0), (0, .ref (a0 0)), (1, .int x1), (2, .int x2)]) X.1 X.2.1 dX12_strokesBy_3 hl (by decide) rfl (fun ls hl => ?_)
  obtain ⟨ex_6, hL_6, h⟩ := bd_el h
  refine HL5 x1 x2 g0 fu 0 0 ex_6 hL_6 H locs ls hP hS (lv_sub hl [2, 3, 4, 1, 0] rfl) (fun x3_6 he H locs ls hP hS hl => ?_)
  subst he
  refine lv_iload_n X.1 X.2.1 dX12_strokesBy_45 rfl (lv_at hl 0 rfl) ?_
  exact ret_i0 (Option.some.inj h) X hQ hP hS dX12_strokesBy_46

def f_X12_likeBy_L5 (x1 : Int32) (x2 : Int32) (g0 : Pic) (n : Nat) (a : Int32 × Int32) : Option (Int32) := lp (fun (rec : Int32 × Int32 → Option (Int32)) (a : Int32 × Int32) => match a with | (x3, x4) => (if (g0 1 3) ≤ x4 then some x3 else bd (f_X12_markBy g0 x4 x2) (fun r_1 => bd (f_X12_markBy g0 x1 x2) (fun r_2 => jn (fun (s0_J41 : Int32) (s1_J41 : Int32) => nm ((s0_J41 ||| s1_J41)) (fun x3_3 => nm (x4 + 1) (fun x4_4 => rec (x3_3, x4_4)))) (fun J41 => (if r_1 = r_2 then J41 x3 (1 <<< (x4 &&& 31)) else J41 x3 0)))))) n a
def f_X12_likeBy (g0 : Pic) (x1 : Int32) (x2 : Int32) : Option (Int32) := bd (f_X12_likeBy_L5 x1 x2 g0 fu (0, 0)) (fun x3_5 => some x3_5)
abbrev rm_X12_likeBy : Room := { frames := 2, cells := 0, slots := 0, locals := 46 }
set_option maxHeartbeats 4000000 in
set_option maxRecDepth 100000 in
theorem c_X12_likeBy (l : Launch) (dC : Nat → ClassId) (dI : Nat → Nat → Nat) (sk sv : Nat → Nat) (tc : Nat → ClassId) (a0 : Nat → Nat) (g0 : Pic) (x1 : Int32) (x2 : Int32) {r0 : Int32} (h : f_X12_likeBy g0 x1 x2 = some r0) : CT l (dC, dI) sk sv (TY tc) yX12_likeBy cX12_likeBy 5 (some .int) rm_X12_likeBy [.ref (a0 0), .int x1, .int x2] (wM tc a0 g0) (some (.int r0)) (wM tc a0 g0) := by
  refine ofCT (by decide) (Nat.le_of_ble_eq_true rfl) ?_
  intro pr e s m args below meth c A Q ls H locs X hQ hD0 hP hS hl
  have hD : ∀ z0, va_D A (wM tc a0 z0) := fun z0 => D_fst (ws := (wM tc a0 g0)) rfl hD0
  have hl : lv_has ls 5 [(0, .ref (a0 0)), (1, .int x1), (2, .int x2)] := hl
  have HL5 : ∀ (x1 : Int32) (x2 : Int32) (g0 : Pic) (n : Nat) (x3 : Int32) (x4 : Int32) (ex : (Int32)), f_X12_likeBy_L5 x1 x2 g0 n (x3, x4) = some ex → ∀ (H : Heap) (locs : List Loc) (ls : Array Slot), va_P (dC, dI) vwCl (wM tc a0 g0) H → va_S A s.heap H locs → lv_has ls 5 [(0, .ref (a0 0)), (1, .int x1), (2, .int x2), (3, .int x3), (4, .int x4)] → (∀ (y3 : Int32), y3 = ex → ∀ (H : Heap) (locs : List Loc) (ls : Array Slot), va_P (dC, dI) vwCl (wM tc a0 g0) H → va_S A s.heap H locs → lv_has ls 5 [(3, .int y3)] → W pr l e rm_X12_likeBy s m args below meth c H locs 0 0 Q (F0 m 49 ls [])) → W pr l e rm_X12_likeBy s m args below meth c H locs 0 0 Q (F0 m 5 ls []) := by
    intro x1 x2 g0 n
    induction n with
    | zero => intro x3 x4 ex h; exact lp_z h
    | succ n ih =>
      intro x3 x4 ex h H locs ls hP hS hl K
      have h := lp_s h
      refine lv_iload X.1 X.2.1 dX12_likeBy_5 (lv_at hl 4 rfl) ?_
      refine lv_aload_n X.1 X.2.1 dX12_likeBy_7 rfl (lv_at hl 0 rfl) ?_
      refine r_get (C := RX12) (T := TX12) (N := 28) (ci := 12) (v := .ref (a0 2)) X iw12 hP 0 rfl rfl 1 rfl mw_7_121 rfl dX12_likeBy_8 ?_
      refine lv_iconst (v := 3) X.1 X.2.1 dX12_likeBy_11 (by decide) ?_
      refine r_iald X hP 1 0 rfl rfl (j := 3) (by unfold vp_in; decide) (by decide) dX12_likeBy_12 ?_
      refine lv_icmp_ge (tgt := 49) X.1 X.2.1 dX12_likeBy_13 (by decide) (fun hc => ?_) (fun hc => ?_)
      · have h := it_t hc h
        exact K x3 (Option.some.inj h) H locs ls hP hS (lv_sub hl [3] rfl)
      · have h := it_f hc h
        refine lv_iload_n X.1 X.2.1 dX12_likeBy_16 rfl (lv_at hl 3 rfl) ?_
        refine lv_aload_n X.1 X.2.1 dX12_likeBy_17 rfl (lv_at hl 0 rfl) ?_
        refine lv_iload X.1 X.2.1 dX12_likeBy_18 (lv_at hl 4 rfl) ?_
        refine lv_iload_n X.1 X.2.1 dX12_likeBy_20 rfl (lv_at hl 2 rfl) ?_
        obtain ⟨r_1, hc_1, h⟩ := bd_el h
        refine call_V1i (As := [.int x4, .int x2]) (rest := [.int x3]) X (c_X12_markBy l dC dI sk sv tc a0 g0 x4 x2 hc_1) mw_8_207 mw_8_209 mp_4_7 mw_1_12 mw_8_210 dc_X12_markBy ⟨Nat.le_of_ble_eq_true rfl, Nat.le_of_ble_eq_true rfl⟩ rfl rfl ⟨Nat.zero_le _, Nat.zero_le _⟩ hP (hD _) hS 0 rfl rfl rfl hl.1 (Nat.le_of_ble_eq_true rfl) dX12_likeBy_21 (fun H locs hP hS => ?_)
        refine lv_aload_n X.1 X.2.1 dX12_likeBy_24 rfl (lv_at hl 0 rfl) ?_
        refine lv_iload_n X.1 X.2.1 dX12_likeBy_25 rfl (lv_at hl 1 rfl) ?_
        refine lv_iload_n X.1 X.2.1 dX12_likeBy_26 rfl (lv_at hl 2 rfl) ?_
        obtain ⟨r_2, hc_2, h⟩ := bd_el h
        refine call_V1i (As := [.int x1, .int x2]) (rest := [.int r_1, .int x3]) X (c_X12_markBy l dC dI sk sv tc a0 g0 x1 x2 hc_2) mw_8_207 mw_8_209 mp_4_7 mw_1_12 mw_8_210 dc_X12_markBy ⟨Nat.le_of_ble_eq_true rfl, Nat.le_of_ble_eq_true rfl⟩ rfl rfl ⟨Nat.zero_le _, Nat.zero_le _⟩ hP (hD _) hS 0 rfl rfl rfl hl.1 (Nat.le_of_ble_eq_true rfl) dX12_likeBy_27 (fun H locs hP hS => ?_)
        obtain ⟨J41, eJ41, h⟩ := jn_el h
        have HJ41 : ∀ (s0_J41 : Int32) (s1_J41 : Int32) (H : Heap) (locs : List Loc) (ls : Array Slot), J41 s0_J41 s1_J41 = some ex → va_P (dC, dI) vwCl (wM tc a0 g0) H → va_S A s.heap H locs → lv_has ls 5 [(0, .ref (a0 0)), (1, .int x1), (2, .int x2), (4, .int x4)] → W pr l e rm_X12_likeBy s m args below meth c H locs 0 0 Q (F0 m 41 ls [.int s1_J41, .int s0_J41]) := by
          intro s0_J41 s1_J41 H locs ls h hP hS hl
          rw [eJ41] at h
          refine lv_ior X.1 X.2.1 dX12_likeBy_41 ?_
          obtain ⟨x3_3, ex3_3, h⟩ := nm_el h
          refine tp_i ex3_3 ?_
          refine lv_istore_n (lv' := [(3, .int x3_3), (0, .ref (a0 0)), (1, .int x1), (2, .int x2), (4, .int x4)]) X.1 X.2.1 dX12_likeBy_42 rfl hl (by decide) rfl (fun ls hl => ?_)
          obtain ⟨x4_4, ex4_4, h⟩ := nm_el h
          refine lv_iinc (v := x4_4) (lv' := [(4, .int x4_4), (3, .int x3_3), (0, .ref (a0 0)), (1, .int x1), (2, .int x2)]) X.1 X.2.1 dX12_likeBy_43 hl (k := 4) rfl (by rw [ex4_4]; rfl) (by decide) rfl (fun ls hl => ?_)
          refine lv_goto (tgt := 5) X.1 X.2.1 dX12_likeBy_46 (by decide) ?_
          exact ih x3_3 x4_4 ex h H locs ls hP hS (lv_sub hl [2, 3, 4, 1, 0] rfl) K
        refine lv_icmp_ne (tgt := 40) X.1 X.2.1 dX12_likeBy_30 (by decide) (fun hc => ?_) (fun hc => ?_)
        · have h := it_f hc h
          refine lv_iconst (v := 0) X.1 X.2.1 dX12_likeBy_40 (by decide) ?_
          exact HJ41 x3 0 H locs ls h hP hS (lv_sub hl [0, 1, 2, 4] rfl)
        · have h := it_t hc h
          refine lv_iconst (v := 1) X.1 X.2.1 dX12_likeBy_33 (by decide) ?_
          refine lv_iload X.1 X.2.1 dX12_likeBy_34 (lv_at hl 4 rfl) ?_
          refine lv_ishl X.1 X.2.1 dX12_likeBy_36 ?_
          refine lv_goto (tgt := 41) X.1 X.2.1 dX12_likeBy_37 (by decide) ?_
          exact HJ41 x3 (1 <<< (x4 &&& 31)) H locs ls h hP hS (lv_sub hl [0, 1, 2, 4] rfl)
  unfold f_X12_likeBy at h
  refine lv_iconst (v := 0) X.1 X.2.1 dX12_likeBy_0 (by decide) ?_
  refine lv_istore_n (lv' := [(3, .int 0), (0, .ref (a0 0)), (1, .int x1), (2, .int x2)]) X.1 X.2.1 dX12_likeBy_1 rfl hl (by decide) rfl (fun ls hl => ?_)
  refine lv_iconst (v := 0) X.1 X.2.1 dX12_likeBy_2 (by decide) ?_
  refine lv_istore (lv' := [(4, .int 0), (3, .int 0), (0, .ref (a0 0)), (1, .int x1), (2, .int x2)]) X.1 X.2.1 dX12_likeBy_3 hl (by decide) rfl (fun ls hl => ?_)
  obtain ⟨ex_5, hL_5, h⟩ := bd_el h
  refine HL5 x1 x2 g0 fu 0 0 ex_5 hL_5 H locs ls hP hS (lv_sub hl [2, 3, 4, 1, 0] rfl) (fun x3_5 he H locs ls hP hS hl => ?_)
  subst he
  refine lv_iload_n X.1 X.2.1 dX12_likeBy_49 rfl (lv_at hl 0 rfl) ?_
  exact ret_i0 (Option.some.inj h) X hQ hP hS dX12_likeBy_50

def f_X12_readBy_L13 (x3 : Int32) (g0 : Pic) (n : Nat) (a : Int32 × Int32) : Option (Int32) := lp (fun (rec : Int32 × Int32 → Option (Int32)) (a : Int32 × Int32) => match a with | (x4, x5) => (if (g0 1 3) ≤ x5 then some x4 else bd (f_X12_isOf x3 x5) (fun r_2 => jn (fun (x4_J62 : Int32) => nm (x5 + 1) (fun x5_3 => rec (x4_J62, x5_3))) (fun J62 => (if r_2 = 0 then J62 x4 else jn (fun (_ : Unit) => J62 x5) (fun J58 => (if x4 = (-1) then J58 () else bd (f_X12_ofWord g0 x5 7) (fun r_4 => bd (f_X12_ofWord g0 x4 7) (fun r_5 => (if r_4 ≤ r_5 then J62 x4 else J58 ())))))))))) n a
def f_X12_readBy (g0 : Pic) (x1 : Int32) (x2 : Int32) : Option (Int32) := bd (f_X12_likeBy g0 x1 x2) (fun r_1 => bd (f_X12_readBy_L13 r_1 g0 fu ((-1), 0)) (fun x4_6 => some x4_6))
abbrev rm_X12_readBy : Room := { frames := 3, cells := 0, slots := 0, locals := 70 }
set_option maxHeartbeats 4000000 in
set_option maxRecDepth 100000 in
theorem c_X12_readBy (l : Launch) (dC : Nat → ClassId) (dI : Nat → Nat → Nat) (sk sv : Nat → Nat) (tc : Nat → ClassId) (a0 : Nat → Nat) (g0 : Pic) (x1 : Int32) (x2 : Int32) {r0 : Int32} (h : f_X12_readBy g0 x1 x2 = some r0) : CT l (dC, dI) sk sv (TY tc) yX12_readBy cX12_readBy 6 (some .int) rm_X12_readBy [.ref (a0 0), .int x1, .int x2] (wM tc a0 g0) (some (.int r0)) (wM tc a0 g0) := by
  refine ofCT (by decide) (Nat.le_of_ble_eq_true rfl) ?_
  intro pr e s m args below meth c A Q ls H locs X hQ hD0 hP hS hl
  have hD : ∀ z0, va_D A (wM tc a0 z0) := fun z0 => D_fst (ws := (wM tc a0 g0)) rfl hD0
  have hl : lv_has ls 6 [(0, .ref (a0 0)), (1, .int x1), (2, .int x2)] := hl
  have HL13 : ∀ (x3 : Int32) (g0 : Pic) (n : Nat) (x4 : Int32) (x5 : Int32) (ex : (Int32)), f_X12_readBy_L13 x3 g0 n (x4, x5) = some ex → ∀ (H : Heap) (locs : List Loc) (ls : Array Slot), va_P (dC, dI) vwCl (wM tc a0 g0) H → va_S A s.heap H locs → lv_has ls 6 [(0, .ref (a0 0)), (3, .int x3), (4, .int x4), (5, .int x5)] → (∀ (y4 : Int32), y4 = ex → ∀ (H : Heap) (locs : List Loc) (ls : Array Slot), va_P (dC, dI) vwCl (wM tc a0 g0) H → va_S A s.heap H locs → lv_has ls 6 [(4, .int y4)] → W pr l e rm_X12_readBy s m args below meth c H locs 0 0 Q (F0 m 68 ls [])) → W pr l e rm_X12_readBy s m args below meth c H locs 0 0 Q (F0 m 13 ls []) := by
    intro x3 g0 n
    induction n with
    | zero => intro x4 x5 ex h; exact lp_z h
    | succ n ih =>
      intro x4 x5 ex h H locs ls hP hS hl K
      have h := lp_s h
      refine lv_iload X.1 X.2.1 dX12_readBy_13 (lv_at hl 3 rfl) ?_
      refine lv_aload_n X.1 X.2.1 dX12_readBy_15 rfl (lv_at hl 0 rfl) ?_
      refine r_get (C := RX12) (T := TX12) (N := 28) (ci := 12) (v := .ref (a0 2)) X iw12 hP 0 rfl rfl 1 rfl mw_7_121 rfl dX12_readBy_16 ?_
      refine lv_iconst (v := 3) X.1 X.2.1 dX12_readBy_19 (by decide) ?_
      refine r_iald X hP 1 0 rfl rfl (j := 3) (by unfold vp_in; decide) (by decide) dX12_readBy_20 ?_
      refine lv_icmp_ge (tgt := 68) X.1 X.2.1 dX12_readBy_21 (by decide) (fun hc => ?_) (fun hc => ?_)
      · have h := it_t hc h
        exact K x4 (Option.some.inj h) H locs ls hP hS (lv_sub hl [2] rfl)
      · have h := it_f hc h
        refine lv_iload_n X.1 X.2.1 dX12_readBy_24 rfl (lv_at hl 1 rfl) ?_
        refine lv_iload X.1 X.2.1 dX12_readBy_25 (lv_at hl 3 rfl) ?_
        obtain ⟨r_2, hc_2, h⟩ := bd_el h
        refine call_S0i (As := [.int x3, .int x5]) (rest := []) X (c_X12_isOf l dC dI sk sv tc x3 x5 hc_2) mw_8_192 mw_8_193 mw_1_12 mw_8_194 dc_X12_isOf ⟨Nat.le_of_ble_eq_true rfl, Nat.le_of_ble_eq_true rfl⟩ rfl rfl ⟨Nat.zero_le _, Nat.zero_le _⟩ hP (hD _) hS hl.1 (Nat.le_of_ble_eq_true rfl) dX12_readBy_27 (fun H locs hP hS => ?_)
        obtain ⟨J62, eJ62, h⟩ := jn_el h
        have HJ62 : ∀ (x4_J62 : Int32) (H : Heap) (locs : List Loc) (ls : Array Slot), J62 x4_J62 = some ex → va_P (dC, dI) vwCl (wM tc a0 g0) H → va_S A s.heap H locs → lv_has ls 6 [(0, .ref (a0 0)), (3, .int x3), (4, .int x4_J62), (5, .int x5)] → W pr l e rm_X12_readBy s m args below meth c H locs 0 0 Q (F0 m 62 ls []) := by
          intro x4_J62 H locs ls h hP hS hl
          rw [eJ62] at h
          obtain ⟨x5_3, ex5_3, h⟩ := nm_el h
          refine lv_iinc (v := x5_3) (lv' := [(5, .int x5_3), (0, .ref (a0 0)), (3, .int x3), (4, .int x4_J62)]) X.1 X.2.1 dX12_readBy_62 hl (k := 3) rfl (by rw [ex5_3]; rfl) (by decide) rfl (fun ls hl => ?_)
          refine lv_goto (tgt := 13) X.1 X.2.1 dX12_readBy_65 (by decide) ?_
          exact ih x4_J62 x5_3 ex h H locs ls hP hS (lv_sub hl [1, 2, 3, 0] rfl) K
        refine lv_if_eq (tgt := 62) X.1 X.2.1 dX12_readBy_30 (by decide) (fun hc => ?_) (fun hc => ?_)
        · have h := it_t hc h
          exact HJ62 x4 H locs ls h hP hS (lv_sub hl [0, 1, 2, 3] rfl)
        · have h := it_f hc h
          refine lv_iload X.1 X.2.1 dX12_readBy_33 (lv_at hl 2 rfl) ?_
          refine lv_iconst (v := (-1)) X.1 X.2.1 dX12_readBy_35 (by decide) ?_
          obtain ⟨J58, eJ58, h⟩ := jn_el h
          have HJ58 : ∀ (_ : Unit) (H : Heap) (locs : List Loc) (ls : Array Slot), J58 () = some ex → va_P (dC, dI) vwCl (wM tc a0 g0) H → va_S A s.heap H locs → lv_has ls 6 [(0, .ref (a0 0)), (3, .int x3), (5, .int x5)] → W pr l e rm_X12_readBy s m args below meth c H locs 0 0 Q (F0 m 58 ls []) := by
            intro _ H locs ls h hP hS hl
            rw [eJ58] at h
            refine lv_iload X.1 X.2.1 dX12_readBy_58 (lv_at hl 2 rfl) ?_
            refine lv_istore (lv' := [(4, .int x5), (0, .ref (a0 0)), (3, .int x3), (5, .int x5)]) X.1 X.2.1 dX12_readBy_60 hl (by decide) rfl (fun ls hl => ?_)
            exact HJ62 x5 H locs ls h hP hS (lv_sub hl [1, 2, 0, 3] rfl)
          refine lv_icmp_eq (tgt := 58) X.1 X.2.1 dX12_readBy_36 (by decide) (fun hc => ?_) (fun hc => ?_)
          · have h := it_t hc h
            exact HJ58 () H locs ls h hP hS (lv_sub hl [0, 1, 3] rfl)
          · have h := it_f hc h
            refine lv_aload_n X.1 X.2.1 dX12_readBy_39 rfl (lv_at hl 0 rfl) ?_
            refine lv_iload X.1 X.2.1 dX12_readBy_40 (lv_at hl 3 rfl) ?_
            refine lv_bipush (v := 7) X.1 X.2.1 dX12_readBy_42 (by decide) ?_
            obtain ⟨r_4, hc_4, h⟩ := bd_el h
            refine call_V1i (As := [.int x5, .int 7]) (rest := []) X (c_X12_ofWord l dC dI sk sv tc a0 g0 x5 7 hc_4) mw_8_140 mw_8_142 mp_3_10 mw_1_12 mw_8_143 dc_X12_ofWord ⟨Nat.le_of_ble_eq_true rfl, Nat.le_of_ble_eq_true rfl⟩ rfl rfl ⟨Nat.zero_le _, Nat.zero_le _⟩ hP (hD _) hS 0 rfl rfl rfl hl.1 (Nat.le_of_ble_eq_true rfl) dX12_readBy_44 (fun H locs hP hS => ?_)
            refine lv_aload_n X.1 X.2.1 dX12_readBy_47 rfl (lv_at hl 0 rfl) ?_
            refine lv_iload X.1 X.2.1 dX12_readBy_48 (lv_at hl 2 rfl) ?_
            refine lv_bipush (v := 7) X.1 X.2.1 dX12_readBy_50 (by decide) ?_
            obtain ⟨r_5, hc_5, h⟩ := bd_el h
            refine call_V1i (As := [.int x4, .int 7]) (rest := [.int r_4]) X (c_X12_ofWord l dC dI sk sv tc a0 g0 x4 7 hc_5) mw_8_140 mw_8_142 mp_3_10 mw_1_12 mw_8_143 dc_X12_ofWord ⟨Nat.le_of_ble_eq_true rfl, Nat.le_of_ble_eq_true rfl⟩ rfl rfl ⟨Nat.zero_le _, Nat.zero_le _⟩ hP (hD _) hS 0 rfl rfl rfl hl.1 (Nat.le_of_ble_eq_true rfl) dX12_readBy_52 (fun H locs hP hS => ?_)
            refine lv_icmp_le (tgt := 62) X.1 X.2.1 dX12_readBy_55 (by decide) (fun hc => ?_) (fun hc => ?_)
            · have h := it_t hc h
              exact HJ62 x4 H locs ls h hP hS (lv_sub hl [0, 1, 2, 3] rfl)
            · have h := it_f hc h
              exact HJ58 () H locs ls h hP hS (lv_sub hl [0, 1, 3] rfl)
  unfold f_X12_readBy at h
  refine lv_aload_n X.1 X.2.1 dX12_readBy_0 rfl (lv_at hl 0 rfl) ?_
  refine lv_iload_n X.1 X.2.1 dX12_readBy_1 rfl (lv_at hl 1 rfl) ?_
  refine lv_iload_n X.1 X.2.1 dX12_readBy_2 rfl (lv_at hl 2 rfl) ?_
  obtain ⟨r_1, hc_1, h⟩ := bd_el h
  refine call_V1i (As := [.int x1, .int x2]) (rest := []) X (c_X12_likeBy l dC dI sk sv tc a0 g0 x1 x2 hc_1) mw_8_203 mw_8_205 mp_4_6 mw_1_12 mw_8_206 dc_X12_likeBy ⟨Nat.le_of_ble_eq_true rfl, Nat.le_of_ble_eq_true rfl⟩ rfl rfl ⟨Nat.zero_le _, Nat.zero_le _⟩ hP (hD _) hS 0 rfl rfl rfl hl.1 (Nat.le_of_ble_eq_true rfl) dX12_readBy_3 (fun H locs hP hS => ?_)
  refine lv_istore_n (lv' := [(3, .int r_1), (0, .ref (a0 0)), (1, .int x1), (2, .int x2)]) X.1 X.2.1 dX12_readBy_6 rfl hl (by decide) rfl (fun ls hl => ?_)
  refine lv_iconst (v := (-1)) X.1 X.2.1 dX12_readBy_7 (by decide) ?_
  refine lv_istore (lv' := [(4, .int (-1)), (3, .int r_1), (0, .ref (a0 0)), (1, .int x1), (2, .int x2)]) X.1 X.2.1 dX12_readBy_8 hl (by decide) rfl (fun ls hl => ?_)
  refine lv_iconst (v := 0) X.1 X.2.1 dX12_readBy_10 (by decide) ?_
  refine lv_istore (lv' := [(5, .int 0), (4, .int (-1)), (3, .int r_1), (0, .ref (a0 0)), (1, .int x1), (2, .int x2)]) X.1 X.2.1 dX12_readBy_11 hl (by decide) rfl (fun ls hl => ?_)
  obtain ⟨ex_6, hL_6, h⟩ := bd_el h
  refine HL13 r_1 g0 fu (-1) 0 ex_6 hL_6 H locs ls hP hS (lv_sub hl [3, 2, 1, 0] rfl) (fun x4_6 he H locs ls hP hS hl => ?_)
  subst he
  refine lv_iload X.1 X.2.1 dX12_readBy_68 (lv_at hl 0 rfl) ?_
  exact ret_i0 (Option.some.inj h) X hQ hP hS dX12_readBy_70

def f_X12_feed_L23 (x1 : Int32) (x2 : Int32) (x3 : Int32) (x4 : Int32) (x5 : Int32) (n : Nat) (a : Int32 × Pic) : Option (Pic) := lp (fun (rec : Int32 × Pic → Option (Pic)) (a : Int32 × Pic) => match a with | (x6, g0) => (if 20 ≤ x6 then some g0 else jn (fun (s0_J76 : Int32) => gdi (g0 8 0) 400 (nm (pu g0 7 ((g0 8 0).toNatClampNeg) (((s0_J76.toUInt32 >>> ((24 - (8 * (x6 - x6 / 4 * 4))).toUInt32 &&& Int32.toUInt32 31)).toInt32) &&& 255)) (fun g0_3 => nm (pu g0_3 8 0 ((g0_3 8 0) + 1)) (fun g0_4 => nm (x6 + 1) (fun x6_5 => rec (x6_5, g0_4)))))) (fun J76 => (if 4 ≤ x6 then (if 8 ≤ x6 then (if 12 ≤ x6 then (if 16 ≤ x6 then J76 x5 else J76 x4) else J76 x3) else J76 x2) else J76 x1)))) n a
def f_X12_feed (g0 : Pic) (x1 : Int32) (x2 : Int32) (x3 : Int32) (x4 : Int32) (x5 : Int32) : Option (Int32 × Pic) := nm (pu g0 0 0 0) (fun g0_1 => (if ((g0_1 8 0) + 20) ≤ 400 then bd (f_X12_feed_L23 x1 x2 x3 x4 x5 fu (0, g0_1)) (fun g0_6 => some ((g0_6 8 0), g0_6)) else some ((-1), g0_1)))
abbrev rm_X12_feed : Room := { frames := 0, cells := 0, slots := 0, locals := 0 }
set_option maxHeartbeats 4000000 in
set_option maxRecDepth 100000 in
theorem c_X12_feed (l : Launch) (dC : Nat → ClassId) (dI : Nat → Nat → Nat) (sk sv : Nat → Nat) (tc : Nat → ClassId) (a0 : Nat → Nat) (g0 : Pic) (x1 : Int32) (x2 : Int32) (x3 : Int32) (x4 : Int32) (x5 : Int32) {r0 : Int32} {G0 : Pic} (h : f_X12_feed g0 x1 x2 x3 x4 x5 = some (r0, G0)) : CT l (dC, dI) sk sv (TY tc) yX12_feed cX12_feed 8 (some .int) rm_X12_feed [.ref (a0 0), .int x1, .int x2, .int x3, .int x4, .int x5] (wM tc a0 g0) (some (.int r0)) (wM tc a0 G0) := by
  refine ofCT (by decide) (Nat.le_of_ble_eq_true rfl) ?_
  intro pr e s m args below meth c A Q ls H locs X hQ hD0 hP hS hl
  have hD : ∀ z0, va_D A (wM tc a0 z0) := fun z0 => D_fst (ws := (wM tc a0 g0)) rfl hD0
  have hl : lv_has ls 8 [(0, .ref (a0 0)), (1, .int x1), (2, .int x2), (3, .int x3), (4, .int x4), (5, .int x5)] := hl
  have HL23 : ∀ (x1 : Int32) (x2 : Int32) (x3 : Int32) (x4 : Int32) (x5 : Int32) (n : Nat) (x6 : Int32) (g0 : Pic) (ex : (Pic)), f_X12_feed_L23 x1 x2 x3 x4 x5 n (x6, g0) = some ex → ∀ (H : Heap) (locs : List Loc) (ls : Array Slot), va_P (dC, dI) vwCl (wM tc a0 g0) H → va_S A s.heap H locs → lv_has ls 8 [(0, .ref (a0 0)), (1, .int x1), (2, .int x2), (3, .int x3), (4, .int x4), (5, .int x5), (6, .int x6)] → (∀ (k0 : Pic), k0 = ex → ∀ (H : Heap) (locs : List Loc) (ls : Array Slot), va_P (dC, dI) vwCl (wM tc a0 k0) H → va_S A s.heap H locs → lv_has ls 8 [(0, .ref (a0 0))] → W pr l e rm_X12_feed s m args below meth c H locs 0 0 Q (F0 m 120 ls [])) → W pr l e rm_X12_feed s m args below meth c H locs 0 0 Q (F0 m 23 ls []) := by
    intro x1 x2 x3 x4 x5 n
    induction n with
    | zero => intro x6 g0 ex h; exact lp_z h
    | succ n ih =>
      intro x6 g0 ex h H locs ls hP hS hl K
      have h := lp_s h
      refine lv_iload X.1 X.2.1 dX12_feed_23 (lv_at hl 6 rfl) ?_
      refine lv_bipush (v := 20) X.1 X.2.1 dX12_feed_25 (by decide) ?_
      refine lv_icmp_ge (tgt := 120) X.1 X.2.1 dX12_feed_27 (by decide) (fun hc => ?_) (fun hc => ?_)
      · have h := it_t hc h
        exact K g0 (Option.some.inj h) H locs ls hP hS (lv_sub hl [0] rfl)
      · have h := it_f hc h
        refine lv_iload X.1 X.2.1 dX12_feed_30 (lv_at hl 6 rfl) ?_
        refine lv_iconst (v := 4) X.1 X.2.1 dX12_feed_32 (by decide) ?_
        obtain ⟨J76, eJ76, h⟩ := jn_el h
        have HJ76 : ∀ (s0_J76 : Int32) (H : Heap) (locs : List Loc) (ls : Array Slot), J76 s0_J76 = some ex → va_P (dC, dI) vwCl (wM tc a0 g0) H → va_S A s.heap H locs → lv_has ls 8 [(0, .ref (a0 0)), (1, .int x1), (2, .int x2), (3, .int x3), (4, .int x4), (5, .int x5), (6, .int x6)] → W pr l e rm_X12_feed s m args below meth c H locs 0 0 Q (F0 m 76 ls [.int s0_J76]) := by
          intro s0_J76 H locs ls h hP hS hl
          rw [eJ76] at h
          refine lv_istore (lv' := [(7, .int s0_J76), (0, .ref (a0 0)), (1, .int x1), (2, .int x2), (3, .int x3), (4, .int x4), (5, .int x5), (6, .int x6)]) X.1 X.2.1 dX12_feed_76 hl (by decide) rfl (fun ls hl => ?_)
          refine lv_aload_n X.1 X.2.1 dX12_feed_78 rfl (lv_at hl 1 rfl) ?_
          refine r_get (C := RX12) (T := TX12) (N := 28) (ci := 12) (v := .ref (a0 8)) X iw12 hP 0 rfl rfl 7 rfl mw_7_127 rfl dX12_feed_79 ?_
          refine lv_aload_n X.1 X.2.1 dX12_feed_82 rfl (lv_at hl 1 rfl) ?_
          refine r_get (C := RX12) (T := TX12) (N := 28) (ci := 12) (v := .int (g0 8 0)) X iw12 hP 0 rfl rfl 8 rfl mw_7_128 rfl dX12_feed_83 ?_
          refine lv_iload X.1 X.2.1 dX12_feed_86 (lv_at hl 0 rfl) ?_
          refine lv_bipush (v := 24) X.1 X.2.1 dX12_feed_88 (by decide) ?_
          refine lv_bipush (v := 8) X.1 X.2.1 dX12_feed_90 (by decide) ?_
          refine lv_iload X.1 X.2.1 dX12_feed_92 (lv_at hl 7 rfl) ?_
          refine lv_iconst (v := 4) X.1 X.2.1 dX12_feed_94 (by decide) ?_
          refine lv_irem X.1 X.2.1 dX12_feed_95 (by decide) ?_
          refine lv_imul X.1 X.2.1 dX12_feed_96 ?_
          refine lv_isub X.1 X.2.1 dX12_feed_97 ?_
          refine lv_iushr X.1 X.2.1 dX12_feed_98 rfl ?_
          refine lv_sipush (v := 255) X.1 X.2.1 dX12_feed_99 (by decide) ?_
          refine lv_iand X.1 X.2.1 dX12_feed_102 ?_
          obtain ⟨hg_2, h⟩ := gdi_el h
          obtain ⟨g0_3, eg0_3, h⟩ := nm_el h
          refine r_iast X hP (hD _) hS 5 0 rfl rfl hg_2 rfl dX12_feed_103 (wM tc a0 g0_3) (by rw [eg0_3]; rfl) (fun H locs hP hS => ?_)
          refine lv_aload_n X.1 X.2.1 dX12_feed_104 rfl (lv_at hl 1 rfl) ?_
          refine lv_dup X.1 X.2.1 dX12_feed_105 rfl ?_
          refine r_get (C := RX12) (T := TX12) (N := 28) (ci := 12) (v := .int (g0_3 8 0)) X iw12 hP 0 rfl rfl 8 rfl mw_7_128 rfl dX12_feed_106 ?_
          refine lv_iconst (v := 1) X.1 X.2.1 dX12_feed_109 (by decide) ?_
          refine lv_iadd X.1 X.2.1 dX12_feed_110 ?_
          obtain ⟨g0_4, eg0_4, h⟩ := nm_el h
          refine r_put (C := RX12) (T := TX12) (N := 28) (ci := 12) tyX12 tyX12_ok nmX12 X iw12 hP (hD _) hS 0 rfl rfl 8 rfl mw_7_128 rfl rfl rfl rfl dX12_feed_111 (wM tc a0 g0_4) (by rw [eg0_4]; rfl) (fun H locs hP hS => ?_)
          obtain ⟨x6_5, ex6_5, h⟩ := nm_el h
          refine lv_iinc (v := x6_5) (lv' := [(6, .int x6_5), (7, .int s0_J76), (0, .ref (a0 0)), (1, .int x1), (2, .int x2), (3, .int x3), (4, .int x4), (5, .int x5)]) X.1 X.2.1 dX12_feed_114 hl (k := 7) rfl (by rw [ex6_5]; rfl) (by decide) rfl (fun ls hl => ?_)
          refine lv_goto (tgt := 23) X.1 X.2.1 dX12_feed_117 (by decide) ?_
          exact ih x6_5 g0_4 ex h H locs ls hP hS (lv_sub hl [2, 3, 4, 5, 6, 7, 0] rfl) K
        refine lv_icmp_ge (tgt := 40) X.1 X.2.1 dX12_feed_33 (by decide) (fun hc => ?_) (fun hc => ?_)
        · have h := it_t hc h
          refine lv_iload X.1 X.2.1 dX12_feed_40 (lv_at hl 6 rfl) ?_
          refine lv_bipush (v := 8) X.1 X.2.1 dX12_feed_42 (by decide) ?_
          refine lv_icmp_ge (tgt := 51) X.1 X.2.1 dX12_feed_44 (by decide) (fun hc => ?_) (fun hc => ?_)
          · have h := it_t hc h
            refine lv_iload X.1 X.2.1 dX12_feed_51 (lv_at hl 6 rfl) ?_
            refine lv_bipush (v := 12) X.1 X.2.1 dX12_feed_53 (by decide) ?_
            refine lv_icmp_ge (tgt := 62) X.1 X.2.1 dX12_feed_55 (by decide) (fun hc => ?_) (fun hc => ?_)
            · have h := it_t hc h
              refine lv_iload X.1 X.2.1 dX12_feed_62 (lv_at hl 6 rfl) ?_
              refine lv_bipush (v := 16) X.1 X.2.1 dX12_feed_64 (by decide) ?_
              refine lv_icmp_ge (tgt := 74) X.1 X.2.1 dX12_feed_66 (by decide) (fun hc => ?_) (fun hc => ?_)
              · have h := it_t hc h
                refine lv_iload X.1 X.2.1 dX12_feed_74 (lv_at hl 5 rfl) ?_
                exact HJ76 x5 H locs ls h hP hS (lv_sub hl [0, 1, 2, 3, 4, 5, 6] rfl)
              · have h := it_f hc h
                refine lv_iload X.1 X.2.1 dX12_feed_69 (lv_at hl 4 rfl) ?_
                refine lv_goto (tgt := 76) X.1 X.2.1 dX12_feed_71 (by decide) ?_
                exact HJ76 x4 H locs ls h hP hS (lv_sub hl [0, 1, 2, 3, 4, 5, 6] rfl)
            · have h := it_f hc h
              refine lv_iload_n X.1 X.2.1 dX12_feed_58 rfl (lv_at hl 3 rfl) ?_
              refine lv_goto (tgt := 76) X.1 X.2.1 dX12_feed_59 (by decide) ?_
              exact HJ76 x3 H locs ls h hP hS (lv_sub hl [0, 1, 2, 3, 4, 5, 6] rfl)
          · have h := it_f hc h
            refine lv_iload_n X.1 X.2.1 dX12_feed_47 rfl (lv_at hl 2 rfl) ?_
            refine lv_goto (tgt := 76) X.1 X.2.1 dX12_feed_48 (by decide) ?_
            exact HJ76 x2 H locs ls h hP hS (lv_sub hl [0, 1, 2, 3, 4, 5, 6] rfl)
        · have h := it_f hc h
          refine lv_iload_n X.1 X.2.1 dX12_feed_36 rfl (lv_at hl 1 rfl) ?_
          refine lv_goto (tgt := 76) X.1 X.2.1 dX12_feed_37 (by decide) ?_
          exact HJ76 x1 H locs ls h hP hS (lv_sub hl [0, 1, 2, 3, 4, 5, 6] rfl)
  unfold f_X12_feed at h
  refine lv_aload_n X.1 X.2.1 dX12_feed_0 rfl (lv_at hl 0 rfl) ?_
  refine lv_iconst (v := 0) X.1 X.2.1 dX12_feed_1 (by decide) ?_
  obtain ⟨g0_1, eg0_1, h⟩ := nm_el h
  refine r_put (C := RX12) (T := TX12) (N := 28) (ci := 12) tyX12 tyX12_ok nmX12 X iw12 hP (hD _) hS 0 rfl rfl 0 rfl mw_7_120 rfl rfl rfl rfl dX12_feed_2 (wM tc a0 g0_1) (by rw [eg0_1]; rfl) (fun H locs hP hS => ?_)
  refine lv_aload_n X.1 X.2.1 dX12_feed_5 rfl (lv_at hl 0 rfl) ?_
  refine r_get (C := RX12) (T := TX12) (N := 28) (ci := 12) (v := .int (g0_1 8 0)) X iw12 hP 0 rfl rfl 8 rfl mw_7_128 rfl dX12_feed_6 ?_
  refine lv_bipush (v := 20) X.1 X.2.1 dX12_feed_9 (by decide) ?_
  refine lv_iadd X.1 X.2.1 dX12_feed_11 ?_
  refine lv_sipush (v := 400) X.1 X.2.1 dX12_feed_12 (by decide) ?_
  refine lv_icmp_le (tgt := 20) X.1 X.2.1 dX12_feed_15 (by decide) (fun hc => ?_) (fun hc => ?_)
  · have h := it_t hc h
    refine lv_iconst (v := 0) X.1 X.2.1 dX12_feed_20 (by decide) ?_
    refine lv_istore (lv' := [(6, .int 0), (0, .ref (a0 0)), (1, .int x1), (2, .int x2), (3, .int x3), (4, .int x4), (5, .int x5)]) X.1 X.2.1 dX12_feed_21 hl (by decide) rfl (fun ls hl => ?_)
    obtain ⟨ex_6, hL_6, h⟩ := bd_el h
    refine HL23 x1 x2 x3 x4 x5 fu 0 g0_1 ex_6 hL_6 H locs ls hP hS (lv_sub hl [1, 2, 3, 4, 5, 6, 0] rfl) (fun g0_6 he H locs ls hP hS hl => ?_)
    subst he
    refine lv_aload_n X.1 X.2.1 dX12_feed_120 rfl (lv_at hl 0 rfl) ?_
    refine r_get (C := RX12) (T := TX12) (N := 28) (ci := 12) (v := .int (g0_6 8 0)) X iw12 hP 0 rfl rfl 8 rfl mw_7_128 rfl dX12_feed_121 ?_
    exact ret_i (fun u => (wM tc a0 u)) (res := (r0, G0)) (Option.some.inj h) X hQ hP hS dX12_feed_124
  · have h := it_f hc h
    refine lv_iconst (v := (-1)) X.1 X.2.1 dX12_feed_18 (by decide) ?_
    exact ret_i (fun u => (wM tc a0 u)) (res := (r0, G0)) (Option.some.inj h) X hQ hP hS dX12_feed_19

def f_X12_end (g0 : Pic) (x1 : Int32) : Option (Int32 × Pic) := nm (pu g0 0 0 0) (fun g0_1 => bd (f_X12_isIn x1 0 (g0_1 8 0)) (fun r_2 => (if r_2 = 0 then some (0, g0_1) else nm (pu g0_1 8 0 x1) (fun g0_3 => some (1, g0_3)))))
abbrev rm_X12_end : Room := { frames := 1, cells := 0, slots := 0, locals := 22 }
set_option maxHeartbeats 4000000 in
set_option maxRecDepth 100000 in
theorem c_X12_end (l : Launch) (dC : Nat → ClassId) (dI : Nat → Nat → Nat) (sk sv : Nat → Nat) (tc : Nat → ClassId) (a0 : Nat → Nat) (g0 : Pic) (x1 : Int32) {r0 : Int32} {G0 : Pic} (h : f_X12_end g0 x1 = some (r0, G0)) : CT l (dC, dI) sk sv (TY tc) yX12_end cX12_end 2 (some .boolean) rm_X12_end [.ref (a0 0), .int x1] (wM tc a0 g0) (some (.int r0)) (wM tc a0 G0) := by
  refine ofCT (by decide) (Nat.le_of_ble_eq_true rfl) ?_
  intro pr e s m args below meth c A Q ls H locs X hQ hD0 hP hS hl
  have hD : ∀ z0, va_D A (wM tc a0 z0) := fun z0 => D_fst (ws := (wM tc a0 g0)) rfl hD0
  have hl : lv_has ls 2 [(0, .ref (a0 0)), (1, .int x1)] := hl
  unfold f_X12_end at h
  refine lv_aload_n X.1 X.2.1 dX12_end_0 rfl (lv_at hl 0 rfl) ?_
  refine lv_iconst (v := 0) X.1 X.2.1 dX12_end_1 (by decide) ?_
  obtain ⟨g0_1, eg0_1, h⟩ := nm_el h
  refine r_put (C := RX12) (T := TX12) (N := 28) (ci := 12) tyX12 tyX12_ok nmX12 X iw12 hP (hD _) hS 0 rfl rfl 0 rfl mw_7_120 rfl rfl rfl rfl dX12_end_2 (wM tc a0 g0_1) (by rw [eg0_1]; rfl) (fun H locs hP hS => ?_)
  refine lv_iload_n X.1 X.2.1 dX12_end_5 rfl (lv_at hl 1 rfl) ?_
  refine lv_iconst (v := 0) X.1 X.2.1 dX12_end_6 (by decide) ?_
  refine lv_aload_n X.1 X.2.1 dX12_end_7 rfl (lv_at hl 0 rfl) ?_
  refine r_get (C := RX12) (T := TX12) (N := 28) (ci := 12) (v := .int (g0_1 8 0)) X iw12 hP 0 rfl rfl 8 rfl mw_7_128 rfl dX12_end_8 ?_
  obtain ⟨r_2, hc_2, h⟩ := bd_el h
  refine call_S0i (As := [.int x1, .int 0, .int (g0_1 8 0)]) (rest := []) X (c_X12_isIn l dC dI sk sv tc x1 0 (g0_1 8 0) hc_2) mw_7_218 mw_7_219 mw_1_12 mw_7_220 dc_X12_isIn ⟨Nat.le_of_ble_eq_true rfl, Nat.le_of_ble_eq_true rfl⟩ rfl rfl ⟨Nat.zero_le _, Nat.zero_le _⟩ hP (hD _) hS hl.1 (Nat.le_of_ble_eq_true rfl) dX12_end_11 (fun H locs hP hS => ?_)
  refine lv_if_ne (tgt := 19) X.1 X.2.1 dX12_end_14 (by decide) (fun hc => ?_) (fun hc => ?_)
  · have h := it_f hc h
    refine lv_aload_n X.1 X.2.1 dX12_end_19 rfl (lv_at hl 0 rfl) ?_
    refine lv_iload_n X.1 X.2.1 dX12_end_20 rfl (lv_at hl 1 rfl) ?_
    obtain ⟨g0_3, eg0_3, h⟩ := nm_el h
    refine r_put (C := RX12) (T := TX12) (N := 28) (ci := 12) tyX12 tyX12_ok nmX12 X iw12 hP (hD _) hS 0 rfl rfl 8 rfl mw_7_128 rfl rfl rfl rfl dX12_end_21 (wM tc a0 g0_3) (by rw [eg0_3]; rfl) (fun H locs hP hS => ?_)
    refine lv_iconst (v := 1) X.1 X.2.1 dX12_end_24 (by decide) ?_
    exact ret_z (fun u => (wM tc a0 u)) (res := (r0, G0)) (by decide) (Option.some.inj h) X hQ hP hS dX12_end_25
  · have h := it_t hc h
    refine lv_iconst (v := 0) X.1 X.2.1 dX12_end_17 (by decide) ?_
    exact ret_z (fun u => (wM tc a0 u)) (res := (r0, G0)) (by decide) (Option.some.inj h) X hQ hP hS dX12_end_18

