/-! the law's own loop: its pieces -/
abbrev AA (s : State) : Nat → Prop := fun q => s.heap.size ≤ q
def CC (pr : Program) (l : Launch) (s : State) (m : MethodId) (meth : Method) (c : Code) (dC : Nat → ClassId) (dI : Nat → Nat → Nat) (sk sv : Nat → Nat) (tc : Nat → ClassId) (b L : Nat) (xs : Nat → Int32) : Prop := CY pr (dC, dI) sk sv (TY tc) "PencilUpLaw" cL_law_ 7 s m #[.ref b] c (AA s) ∧ meth.sig.returnType = ret ∧ meth.locks = false ∧ va_X b L xs s s.heap ∧ b < s.heap.size ∧ L ≤ 3072 ∧ l.stackTraces = false
def GO (pr : Program) (l : Launch) (e : Env) (s : State) (m : MethodId) (below : List Frame) (meth : Method) (c : Code) (dC : Nat → ClassId) (dI : Nat → Nat → Nat) (tc : Nat → ClassId) (b ax am ao i j pc : Nat) : Prop := ∀ (w : va_W) (t : Int32) (o : Nat → Int64) (H : Heap) (locs : List Loc) (cells slots : Nat) (ls : Array Slot), Top tc ax am t w → va_P (dC, dI) vwCl (w ++ wO tc ao o) H → va_D (AA s) (w ++ wO tc ao o) → va_S (AA s) s.heap H locs → lv_has ls 7 [(0, .ref b), (1, .ref ax), (2, .ref am), (3, .ref ao), (4, .int (nI (6 * i)))] → cells ≤ 200 + 20 * j → slots ≤ 20000 + 600 * j → W pr l e room_1 s m #[.ref b] below meth c H locs cells slots (lw_Z below #[.ref b] s) (F0 m pc ls [])
def bz (x : Int32) : Int32 := if x = 0 then 0 else 1
theorem bz_01 (x : Int32) : bz x = 0 ∨ bz x = 1 := by
  unfold bz
  by_cases z : x = 0
  · exact Or.inl (if_pos z)
  · exact Or.inr (if_neg z)
theorem Top.mem {tc : Nat → ClassId} {ax am : Nat} {t : Int32} {w : va_W} (h : Top tc ax am t w) : ∃ fs, (ax, .inr (11, fs)) ∈ w := by
  obtain ⟨A, G, q1, lo, ko, sh, hs, SA, SL, SG, SK, SQ, Z, rfl, rfl, rfl, -⟩ := h
  exact mem0
theorem top_thrown (l : Launch) (dC : Nat → ClassId) (dI : Nat → Nat → Nat) (sk sv : Nat → Nat) (tc : Nat → ClassId) (ax am : Nat) {t : Int32} {w : va_W} (hT : Top tc ax am t w) : MR l (dC, dI) sk sv tc yX12_thrown cX12_thrown 1 (some .int) am [.ref am] w (fun b w2 => b = some (.int t) ∧ Top tc ax am t w2) := by
  obtain ⟨A, G, q1, lo, ko, sh, hs, SA, SL, SG, SK, SQ, Z, rfl, rfl, rfl, hI, hB, h7, rfl⟩ := hT
  exact mR (c_X12_thrown l dC dI sk sv tc (A 16) (G 16) rfl) hI hB h7 rfl ⟨by decide, by decide, rfl, rfl, by decide, by decide⟩
/-- how a small method of the law ends, and what is due then -/
theorem w_due {l : Launch} {D : va_G} {sk sv : Nat → Nat} {tc : Nat → ClassId} {y : MethodName} {cc : ByteArray} {n : Nat} {rt : Option FieldType} {ax am ao : Nat} {av : List Value} {ks : List Nat} {cd : Nat → Int32} (hcd : ∀ k ∈ ks, cd k ≠ 0) {v : Option Value} {w' : va_W} (h : PNW tc ao (fun r w1 => PIr l D sk sv tc y cc n rt ax am av (some (.int r)) w1) (PEr ks cd l D sk sv tc y cc n rt ax am av) cd v w') : ∃ (kk : Int32) (o' : Nat → Int64) (w1 : va_W), v = some (.int kk) ∧ w' = w1 ++ wO tc ao o' ∧ MR l D sk sv tc y cc n rt am av w1 (fun b w2 => ∃ bb : Int32, b = some (.int bb) ∧ Top tc ax am kk w2 ∧ (kk = 0 → o' 0 = bb.toInt64)) := by
  obtain ⟨kk, o', w1, h1, h2, h3⟩ := h
  refine ⟨kk, o', w1, h1, h2, ?_⟩
  rcases h3 with ⟨rfl, r, h4, -, h5⟩ | ⟨k, rfl, h4, h5⟩
  · exact h5.imp (fun b w2 h => ⟨r, h.1, h.2, fun _ => h4⟩)
  · refine h5.imp (fun b w2 h => ?_)
    obtain ⟨⟨r, hr⟩, hT⟩ := h
    exact ⟨r, hr, hT, fun z => absurd z (hcd k h4)⟩
theorem w_dueZ {l : Launch} {D : va_G} {sk sv : Nat → Nat} {tc : Nat → ClassId} {y : MethodName} {cc : ByteArray} {n : Nat} {rt : Option FieldType} {ax am ao : Nat} {av : List Value} {ks : List Nat} {cd : Nat → Int32} (hcd : ∀ k ∈ ks, cd k ≠ 0) {v : Option Value} {w' : va_W} (h : PNW tc ao (fun r w1 => PIz l D sk sv tc y cc n rt ax am av (some (.int r)) w1) (PEr ks cd l D sk sv tc y cc n rt ax am av) cd v w') : ∃ (kk : Int32) (o' : Nat → Int64) (w1 : va_W), v = some (.int kk) ∧ w' = w1 ++ wO tc ao o' ∧ MR l D sk sv tc y cc n rt am av w1 (fun b w2 => ∃ bb : Int32, b = some (.int bb) ∧ Top tc ax am kk w2 ∧ (kk = 0 → o' 0 = (bz bb).toInt64)) := by
  obtain ⟨kk, o', w1, h1, h2, h3⟩ := h
  refine ⟨kk, o', w1, h1, h2, ?_⟩
  rcases h3 with ⟨rfl, r, h4, hz, h5⟩ | ⟨k, rfl, h4, h5⟩
  · refine h5.imp (fun b w2 h => ⟨r, h.1, h.2, fun _ => ?_⟩)
    rw [h4]
    rcases hz with z | z
    · cases z; rfl
    · cases z; rfl
  · refine h5.imp (fun b w2 h => ?_)
    obtain ⟨⟨r, hr⟩, hT⟩ := h
    exact ⟨r, hr, hT, fun z => absurd z (hcd k h4)⟩
/-- the class's call in the form that the small methods want -/
theorem SC.w {l : Launch} {D : va_G} {sk sv : Nat → Nat} {tc : Nat → ClassId} {y : MethodName} {cc : ByteArray} {n : Nat} {rt : Option FieldType} {av : List Value} {w : va_W} {PI : Option Value → va_W → Prop} {PE : Nat → va_W → Prop} (hi : ∀ v w1, PI v w1 → ∃ r : Int32, v = some (.int r)) {rm : Room} {mc ms : Nat} {ao : Nat} {o : Nat → Int64} (h : CZ l D sk sv (TY tc) y (.code y cc n rt) rm mc ms av (w ++ wO tc ao o) (fun v w' => ∃ w1, w' = w1 ++ wO tc ao o ∧ PI v w1) (PXc tc ao o PE)) : CZ l D sk sv (TY tc) y (.code y cc n rt) rm mc ms av (w ++ wO tc ao o) (PNc tc ao o (fun r w1 => PI (some (.int r)) w1)) (PXc tc ao o PE) := by
  refine h.imp (fun v w' h => ?_) (fun _ _ h => h)
  obtain ⟨w1, h1, h2⟩ := h
  obtain ⟨r, rfl⟩ := hi v w1 h2
  exact ⟨r, w1, rfl, h1, h2⟩
theorem lg_cmp0 {x y : Int64} (h : x = y) : lg_cmp x y = 0 := by
  subst h
  unfold lg_cmp
  simp
section LL1
variable {pr : Program} {l : Launch} {e : Env} {s : State} {m : MethodId} {below : List Frame} {meth : Method} {c : Code} {dC : Nat → ClassId} {dI : Nat → Nat → Nat} {sk sv : Nat → Nat} {tc : Nat → ClassId} {b L ax am ao i j : Nat} {xs : Nat → Int32} {H : Heap} {locs : List Loc} {cells slots : Nat} {ls : Array Slot} {Q : State → Prop} {st : List Value} {pc : Nat}
theorem pushI1 (C : CC pr l s m meth c dC dI sk sv tc b L xs) (h : 6 * i + 6 ≤ L) (hS : va_S (AA s) s.heap H locs) (hl : lv_has ls 7 [(0, .ref b), (1, .ref ax), (2, .ref am), (3, .ref ao), (4, .int (nI (6 * i)))]) (d0 : decode cL_law_ pc = .ok (.aload_n 0, 1)) (d1 : decode cL_law_ (pc + 1) = .ok (.iload 4, 2)) (d3 : decode cL_law_ (pc + 3) = .ok (.iconst 1, 1)) (d4 : decode cL_law_ (pc + 4) = .ok (.iadd, 1)) (d5 : decode cL_law_ (pc + 5) = .ok (.iaload, 1)) (kk : W pr l e room_1 s m #[.ref b] below meth c H locs cells slots Q (F0 m (pc + 6) ls (.int (xs (6 * i + 1)) :: st))) : W pr l e room_1 s m #[.ref b] below meth c H locs cells slots Q (F0 m pc ls st) := by
  obtain ⟨X, hr, hlk, hX, hbl, hL, hst⟩ := C
  refine lv_aload_n X.1 X.2.1 d0 rfl (lv_at hl 0 rfl) ?_
  refine lv_iload X.1 X.2.1 d1 (lv_at hl 4 rfl) ?_
  refine lv_iconst (v := 1) X.1 X.2.1 d3 (by decide) ?_
  refine lv_iadd X.1 X.2.1 d4 ?_
  have e : nI (6 * i) + 1 = nI (6 * i + 1) := by rw [show (1 : Int32) = nI 1 from rfl, nI_add]
  rw [e]
  refine va_sld X.1 X.2.1 hX hbl (Nat.not_le.mpr hbl) hS (nI_in (by omega) (by omega)) d5 ?_
  rw [nI_clamp (by omega)]
  exact kk
theorem pushI2 (C : CC pr l s m meth c dC dI sk sv tc b L xs) (h : 6 * i + 6 ≤ L) (hS : va_S (AA s) s.heap H locs) (hl : lv_has ls 7 [(0, .ref b), (1, .ref ax), (2, .ref am), (3, .ref ao), (4, .int (nI (6 * i)))]) (d0 : decode cL_law_ pc = .ok (.aload_n 0, 1)) (d1 : decode cL_law_ (pc + 1) = .ok (.iload 4, 2)) (d3 : decode cL_law_ (pc + 3) = .ok (.iconst 2, 1)) (d4 : decode cL_law_ (pc + 4) = .ok (.iadd, 1)) (d5 : decode cL_law_ (pc + 5) = .ok (.iaload, 1)) (kk : W pr l e room_1 s m #[.ref b] below meth c H locs cells slots Q (F0 m (pc + 6) ls (.int (xs (6 * i + 2)) :: st))) : W pr l e room_1 s m #[.ref b] below meth c H locs cells slots Q (F0 m pc ls st) := by
  obtain ⟨X, hr, hlk, hX, hbl, hL, hst⟩ := C
  refine lv_aload_n X.1 X.2.1 d0 rfl (lv_at hl 0 rfl) ?_
  refine lv_iload X.1 X.2.1 d1 (lv_at hl 4 rfl) ?_
  refine lv_iconst (v := 2) X.1 X.2.1 d3 (by decide) ?_
  refine lv_iadd X.1 X.2.1 d4 ?_
  have e : nI (6 * i) + 2 = nI (6 * i + 2) := by rw [show (2 : Int32) = nI 2 from rfl, nI_add]
  rw [e]
  refine va_sld X.1 X.2.1 hX hbl (Nat.not_le.mpr hbl) hS (nI_in (by omega) (by omega)) d5 ?_
  rw [nI_clamp (by omega)]
  exact kk
theorem pushI3 (C : CC pr l s m meth c dC dI sk sv tc b L xs) (h : 6 * i + 6 ≤ L) (hS : va_S (AA s) s.heap H locs) (hl : lv_has ls 7 [(0, .ref b), (1, .ref ax), (2, .ref am), (3, .ref ao), (4, .int (nI (6 * i)))]) (d0 : decode cL_law_ pc = .ok (.aload_n 0, 1)) (d1 : decode cL_law_ (pc + 1) = .ok (.iload 4, 2)) (d3 : decode cL_law_ (pc + 3) = .ok (.iconst 3, 1)) (d4 : decode cL_law_ (pc + 4) = .ok (.iadd, 1)) (d5 : decode cL_law_ (pc + 5) = .ok (.iaload, 1)) (kk : W pr l e room_1 s m #[.ref b] below meth c H locs cells slots Q (F0 m (pc + 6) ls (.int (xs (6 * i + 3)) :: st))) : W pr l e room_1 s m #[.ref b] below meth c H locs cells slots Q (F0 m pc ls st) := by
  obtain ⟨X, hr, hlk, hX, hbl, hL, hst⟩ := C
  refine lv_aload_n X.1 X.2.1 d0 rfl (lv_at hl 0 rfl) ?_
  refine lv_iload X.1 X.2.1 d1 (lv_at hl 4 rfl) ?_
  refine lv_iconst (v := 3) X.1 X.2.1 d3 (by decide) ?_
  refine lv_iadd X.1 X.2.1 d4 ?_
  have e : nI (6 * i) + 3 = nI (6 * i + 3) := by rw [show (3 : Int32) = nI 3 from rfl, nI_add]
  rw [e]
  refine va_sld X.1 X.2.1 hX hbl (Nat.not_le.mpr hbl) hS (nI_in (by omega) (by omega)) d5 ?_
  rw [nI_clamp (by omega)]
  exact kk
theorem pushI4 (C : CC pr l s m meth c dC dI sk sv tc b L xs) (h : 6 * i + 6 ≤ L) (hS : va_S (AA s) s.heap H locs) (hl : lv_has ls 7 [(0, .ref b), (1, .ref ax), (2, .ref am), (3, .ref ao), (4, .int (nI (6 * i)))]) (d0 : decode cL_law_ pc = .ok (.aload_n 0, 1)) (d1 : decode cL_law_ (pc + 1) = .ok (.iload 4, 2)) (d3 : decode cL_law_ (pc + 3) = .ok (.iconst 4, 1)) (d4 : decode cL_law_ (pc + 4) = .ok (.iadd, 1)) (d5 : decode cL_law_ (pc + 5) = .ok (.iaload, 1)) (kk : W pr l e room_1 s m #[.ref b] below meth c H locs cells slots Q (F0 m (pc + 6) ls (.int (xs (6 * i + 4)) :: st))) : W pr l e room_1 s m #[.ref b] below meth c H locs cells slots Q (F0 m pc ls st) := by
  obtain ⟨X, hr, hlk, hX, hbl, hL, hst⟩ := C
  refine lv_aload_n X.1 X.2.1 d0 rfl (lv_at hl 0 rfl) ?_
  refine lv_iload X.1 X.2.1 d1 (lv_at hl 4 rfl) ?_
  refine lv_iconst (v := 4) X.1 X.2.1 d3 (by decide) ?_
  refine lv_iadd X.1 X.2.1 d4 ?_
  have e : nI (6 * i) + 4 = nI (6 * i + 4) := by rw [show (4 : Int32) = nI 4 from rfl, nI_add]
  rw [e]
  refine va_sld X.1 X.2.1 hX hbl (Nat.not_le.mpr hbl) hS (nI_in (by omega) (by omega)) d5 ?_
  rw [nI_clamp (by omega)]
  exact kk
theorem pushI5 (C : CC pr l s m meth c dC dI sk sv tc b L xs) (h : 6 * i + 6 ≤ L) (hS : va_S (AA s) s.heap H locs) (hl : lv_has ls 7 [(0, .ref b), (1, .ref ax), (2, .ref am), (3, .ref ao), (4, .int (nI (6 * i)))]) (d0 : decode cL_law_ pc = .ok (.aload_n 0, 1)) (d1 : decode cL_law_ (pc + 1) = .ok (.iload 4, 2)) (d3 : decode cL_law_ (pc + 3) = .ok (.iconst 5, 1)) (d4 : decode cL_law_ (pc + 4) = .ok (.iadd, 1)) (d5 : decode cL_law_ (pc + 5) = .ok (.iaload, 1)) (kk : W pr l e room_1 s m #[.ref b] below meth c H locs cells slots Q (F0 m (pc + 6) ls (.int (xs (6 * i + 5)) :: st))) : W pr l e room_1 s m #[.ref b] below meth c H locs cells slots Q (F0 m pc ls st) := by
  obtain ⟨X, hr, hlk, hX, hbl, hL, hst⟩ := C
  refine lv_aload_n X.1 X.2.1 d0 rfl (lv_at hl 0 rfl) ?_
  refine lv_iload X.1 X.2.1 d1 (lv_at hl 4 rfl) ?_
  refine lv_iconst (v := 5) X.1 X.2.1 d3 (by decide) ?_
  refine lv_iadd X.1 X.2.1 d4 ?_
  have e : nI (6 * i) + 5 = nI (6 * i + 5) := by rw [show (5 : Int32) = nI 5 from rfl, nI_add]
  rw [e]
  refine va_sld X.1 X.2.1 hX hbl (Nat.not_le.mpr hbl) hS (nI_in (by omega) (by omega)) d5 ?_
  rw [nI_clamp (by omega)]
  exact kk
theorem pushZ {x : Int32} {K : Nat} (C : CC pr l s m meth c dC dI sk sv tc b L xs) (d0 : decode cL_law_ pc = .ok (.ifCond .eq 7, 3)) (d3 : decode cL_law_ (pc + 3) = .ok (.iconst 1, 1)) (d4 : decode cL_law_ (pc + 4) = .ok (.goto 4, 3)) (d7 : decode cL_law_ (pc + 7) = .ok (.iconst 0, 1)) (kk : W pr l e room_1 s m #[.ref b] below meth c H locs cells slots Q (F0 m (pc + 8) ls (.int (bz x) :: st))) : W pr l e room_1 s m #[.ref b] below meth c H locs cells slots Q (F0 m pc ls (.int x :: st)) := by
  obtain ⟨X, -⟩ := C
  unfold bz at kk
  refine lv_if_eq (tgt := pc + 7) X.1 X.2.1 d0 (by omega) (fun z => ?_) (fun z => ?_)
  · rw [if_pos z] at kk
    exact lv_iconst (v := 0) X.1 X.2.1 d7 (by decide) kk
  · rw [if_neg z] at kk
    refine lv_iconst (v := 1) X.1 X.2.1 d3 (by decide) ?_
    exact lv_goto (tgt := pc + 8) X.1 X.2.1 d4 (by omega) kk
theorem tailI {T : Nat} {off : Int} {kk bb : Int32} {w : va_W} {o : Nat → Int64} (C : CC pr l s m meth c dC dI sk sv tc b L xs) (hn : GO pr l e s m below meth c dC dI tc b ax am ao i j 3264) (hT : Top tc ax am kk w) (ho : kk = 0 → o 0 = bb.toInt64) (hP : va_P (dC, dI) vwCl (w ++ wO tc ao o) H) (hD : va_D (AA s) (w ++ wO tc ao o)) (hS : va_S (AA s) s.heap H locs) (hl : lv_has ls 7 [(5, .int kk), (0, .ref b), (1, .ref ax), (2, .ref am), (3, .ref ao), (4, .int (nI (6 * i)))]) (hc : cells ≤ 200 + 20 * j) (hs : slots ≤ 20000 + 600 * j) (hj : j ≤ 513)
    (d0 : decode cL_law_ T = .ok (.istore 6, 2)) (d2 : decode cL_law_ (T + 2) = .ok (.aload_n 2, 1)) (d3 : decode cL_law_ (T + 3) = .ok (.invokevirtual 167, 3)) (d6 : decode cL_law_ (T + 6) = .ok (.iload 5, 2)) (d8 : decode cL_law_ (T + 8) = .ok (.if_icmp .eq 5, 3)) (d13 : decode cL_law_ (T + 13) = .ok (.iload 5, 2)) (d15 : decode cL_law_ (T + 15) = .ok (.ifCond .ne 15, 3)) (d18 : decode cL_law_ (T + 18) = .ok (.aload_n 3, 1)) (d19 : decode cL_law_ (T + 19) = .ok (.iconst 0, 1)) (d20 : decode cL_law_ (T + 20) = .ok (.laload, 1)) (d21 : decode cL_law_ (T + 21) = .ok (.iload 6, 2)) (d23 : decode cL_law_ (T + 23) = .ok (.i2l, 1)) (d24 : decode cL_law_ (T + 24) = .ok (.lcmp, 1)) (d25 : decode cL_law_ (T + 25) = .ok (.ifCond .eq 5, 3)) (d30 : decode cL_law_ (T + 30) = .ok (.goto off, 3)) (hoff : ((T + 30 : Nat) : Int) + off = 3264) :
    W pr l e room_1 s m #[.ref b] below meth c H locs cells slots (lw_Z below #[.ref b] s) (F0 m T ls [.int bb]) := by
  obtain ⟨X, hr, hlk, hX, hbl, hL, hst⟩ := id C
  refine lv_istore (lv' := [(6, .int bb), (5, .int kk), (0, .ref b), (1, .ref ax), (2, .ref am), (3, .ref ao), (4, .int (nI (6 * i)))]) X.1 X.2.1 d0 hl (by decide) rfl (fun ls hl => ?_)
  refine lv_aload_n X.1 X.2.1 d2 rfl (lv_at hl 4 rfl) ?_
  obtain ⟨⟨fs, hm⟩, rm, hrm, hM⟩ := top_thrown l dC dI sk sv tc ax am hT
  refine callZ (As := []) (rest := []) X (hM ao o) mw_7_206 mw_7_207 mw_7_208 mw_1_12 mw_7_209 dc_X12_thrown ⟨by have := hrm.1; show rm.frames + 1 ≤ 2048; omega, by have := hrm.2.1; show 8 + (1 + 11) + rm.locals ≤ 84000; omega⟩ hrm.2.2.1 hrm.2.2.2.1 ⟨by show cells + 0 ≤ 601024; omega, by show slots + 0 ≤ 7293034; omega⟩ hP hD hS (List.mem_append_left _ hm) rfl rfl hl.1 (Nat.le_of_ble_eq_true rfl) d3 (fun v w' H locs h hP hD hS => ?_) (fun E q ce w' H locs hx hP hD hS y1 y2 y3 => hx.elim)
  obtain ⟨w2, rfl, rfl, hT2⟩ := h
  refine W.eq (g2 := F0 m (T + 6) ls [.int kk]) rfl ?_
  refine lv_iload X.1 X.2.1 d6 (lv_at hl 1 rfl) ?_
  refine lv_icmp_eq (tgt := T + 13) X.1 X.2.1 d8 (by omega) (fun _ => ?_) (fun z => absurd rfl z)
  refine lv_iload X.1 X.2.1 d13 (lv_at hl 1 rfl) ?_
  have fin : W pr l e room_1 s m #[.ref b] below meth c H locs (cells + 0) (slots + 0) (lw_Z below #[.ref b] s) (F0 m (T + 30) ls []) := by
    refine lv_goto (tgt := 3264) X.1 X.2.1 d30 (by rw [hoff]; rfl) ?_
    exact hn w2 kk o H locs _ _ ls hT2 hP hD hS (lv_sub hl [2, 3, 4, 5, 6] rfl) hc hs
  refine lv_if_ne (tgt := T + 30) X.1 X.2.1 d15 (by omega) (fun _ => fin) (fun z => ?_)
  refine lv_aload_n X.1 X.2.1 d18 rfl (lv_at hl 5 rfl) ?_
  refine lv_iconst (v := 0) X.1 X.2.1 d19 (by decide) ?_
  refine va_lald X.1 X.2.1 X.2.2.2.2.2.2.1 hP w2.length 2 (o_at tc ao o w2) rfl (by unfold vp_in; decide) d20 ?_
  refine lv_iload X.1 X.2.1 d21 (lv_at hl 0 rfl) ?_
  refine lv_i2l X.1 X.2.1 d23 rfl ?_
  refine W.lcmp X.1 X.2.1 d24 ?_
  rw [show lg_cmp (o (0 : Int32).toNatClampNeg) bb.toInt64 = 0 from lg_cmp0 (ho z)]
  exact lv_if_eq (tgt := T + 30) X.1 X.2.1 d25 (by omega) (fun _ => fin) (fun z => absurd rfl z)
theorem tailZ {T : Nat} {off : Int} {kk bb : Int32} {w : va_W} {o : Nat → Int64} (C : CC pr l s m meth c dC dI sk sv tc b L xs) (hn : GO pr l e s m below meth c dC dI tc b ax am ao i j 3264) (hT : Top tc ax am kk w) (ho : kk = 0 → o 0 = (bz bb).toInt64) (hP : va_P (dC, dI) vwCl (w ++ wO tc ao o) H) (hD : va_D (AA s) (w ++ wO tc ao o)) (hS : va_S (AA s) s.heap H locs) (hl : lv_has ls 7 [(5, .int kk), (0, .ref b), (1, .ref ax), (2, .ref am), (3, .ref ao), (4, .int (nI (6 * i)))]) (hc : cells ≤ 200 + 20 * j) (hs : slots ≤ 20000 + 600 * j) (hj : j ≤ 513)
    (d0 : decode cL_law_ T = .ok (.istore 6, 2)) (d2 : decode cL_law_ (T + 2) = .ok (.aload_n 2, 1)) (d3 : decode cL_law_ (T + 3) = .ok (.invokevirtual 167, 3)) (d6 : decode cL_law_ (T + 6) = .ok (.iload 5, 2)) (d8 : decode cL_law_ (T + 8) = .ok (.if_icmp .eq 5, 3)) (d13 : decode cL_law_ (T + 13) = .ok (.iload 5, 2)) (d15 : decode cL_law_ (T + 15) = .ok (.ifCond .ne 22, 3)) (d18 : decode cL_law_ (T + 18) = .ok (.aload_n 3, 1)) (d19 : decode cL_law_ (T + 19) = .ok (.iconst 0, 1)) (d20 : decode cL_law_ (T + 20) = .ok (.laload, 1)) (d21 : decode cL_law_ (T + 21) = .ok (.iload 6, 2)) (d23 : decode cL_law_ (T + 23) = .ok (.ifCond .eq 7, 3)) (d26 : decode cL_law_ (T + 26) = .ok (.lconst 1, 1)) (d27 : decode cL_law_ (T + 27) = .ok (.goto 4, 3)) (d30 : decode cL_law_ (T + 30) = .ok (.lconst 0, 1)) (d31 : decode cL_law_ (T + 31) = .ok (.lcmp, 1)) (d32 : decode cL_law_ (T + 32) = .ok (.ifCond .eq 5, 3)) (d37 : decode cL_law_ (T + 37) = .ok (.goto off, 3)) (hoff : ((T + 37 : Nat) : Int) + off = 3264) :
    W pr l e room_1 s m #[.ref b] below meth c H locs cells slots (lw_Z below #[.ref b] s) (F0 m T ls [.int bb]) := by
  obtain ⟨X, hr, hlk, hX, hbl, hL, hst⟩ := id C
  refine lv_istore (lv' := [(6, .int bb), (5, .int kk), (0, .ref b), (1, .ref ax), (2, .ref am), (3, .ref ao), (4, .int (nI (6 * i)))]) X.1 X.2.1 d0 hl (by decide) rfl (fun ls hl => ?_)
  refine lv_aload_n X.1 X.2.1 d2 rfl (lv_at hl 4 rfl) ?_
  obtain ⟨⟨fs, hm⟩, rm, hrm, hM⟩ := top_thrown l dC dI sk sv tc ax am hT
  refine callZ (As := []) (rest := []) X (hM ao o) mw_7_206 mw_7_207 mw_7_208 mw_1_12 mw_7_209 dc_X12_thrown ⟨by have := hrm.1; show rm.frames + 1 ≤ 2048; omega, by have := hrm.2.1; show 8 + (1 + 11) + rm.locals ≤ 84000; omega⟩ hrm.2.2.1 hrm.2.2.2.1 ⟨by show cells + 0 ≤ 601024; omega, by show slots + 0 ≤ 7293034; omega⟩ hP hD hS (List.mem_append_left _ hm) rfl rfl hl.1 (Nat.le_of_ble_eq_true rfl) d3 (fun v w' H locs h hP hD hS => ?_) (fun E q ce w' H locs hx hP hD hS y1 y2 y3 => hx.elim)
  obtain ⟨w2, rfl, rfl, hT2⟩ := h
  refine W.eq (g2 := F0 m (T + 6) ls [.int kk]) rfl ?_
  refine lv_iload X.1 X.2.1 d6 (lv_at hl 1 rfl) ?_
  refine lv_icmp_eq (tgt := T + 13) X.1 X.2.1 d8 (by omega) (fun _ => ?_) (fun z => absurd rfl z)
  refine lv_iload X.1 X.2.1 d13 (lv_at hl 1 rfl) ?_
  have fin : W pr l e room_1 s m #[.ref b] below meth c H locs (cells + 0) (slots + 0) (lw_Z below #[.ref b] s) (F0 m (T + 37) ls []) := by
    refine lv_goto (tgt := 3264) X.1 X.2.1 d37 (by rw [hoff]; rfl) ?_
    exact hn w2 kk o H locs _ _ ls hT2 hP hD hS (lv_sub hl [2, 3, 4, 5, 6] rfl) hc hs
  refine lv_if_ne (tgt := T + 37) X.1 X.2.1 d15 (by omega) (fun _ => fin) (fun z => ?_)
  have hz := ho z
  refine lv_aload_n X.1 X.2.1 d18 rfl (lv_at hl 5 rfl) ?_
  refine lv_iconst (v := 0) X.1 X.2.1 d19 (by decide) ?_
  refine va_lald X.1 X.2.1 X.2.2.2.2.2.2.1 hP w2.length 2 (o_at tc ao o w2) rfl (by unfold vp_in; decide) d20 ?_
  refine lv_iload X.1 X.2.1 d21 (lv_at hl 0 rfl) ?_
  have last : W pr l e room_1 s m #[.ref b] below meth c H locs (cells + 0) (slots + 0) (lw_Z below #[.ref b] s) (F0 m (T + 31) ls [.long ((bz bb).toInt64), .long (o (0 : Int32).toNatClampNeg)]) := by
    refine W.lcmp X.1 X.2.1 d31 ?_
    rw [show lg_cmp (o (0 : Int32).toNatClampNeg) (bz bb).toInt64 = 0 from lg_cmp0 hz]
    exact lv_if_eq (tgt := T + 37) X.1 X.2.1 d32 (by omega) (fun _ => fin) (fun z => absurd rfl z)
  unfold bz at last
  refine lv_if_eq (tgt := T + 30) X.1 X.2.1 d23 (by omega) (fun y => ?_) (fun y => ?_)
  · rw [if_pos y] at last
    exact lv_lconst (v := 0) X.1 X.2.1 d30 rfl last
  · rw [if_neg y] at last
    refine lv_lconst (v := 1) X.1 X.2.1 d26 rfl ?_
    exact lv_goto (tgt := T + 31) X.1 X.2.1 d27 (by omega) last
end LL1
