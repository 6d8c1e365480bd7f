theorem at_416 : atOK RX11 416 0 := ⟨by decide +kernel, by decide +kernel, by decide +kernel⟩
theorem at_114 : atOK RX11 114 1 := ⟨by decide +kernel, by decide +kernel, by decide +kernel⟩
theorem at_163 : atOK RX11 163 2 := sorry
theorem at_271 : atOK RX11 271 3 := ⟨by decide +kernel, by decide +kernel, by decide +kernel⟩
theorem at_124 : atOK RX11 124 4 := ⟨by decide +kernel, by decide +kernel, by decide +kernel⟩
theorem oUi {α : Type} (wf : α → Option Nat → va_W) {k : Nat} {x : α} {res : (Nat × α) ⊕ (Int32 × α)} (h : Sum.inl (k, x) = res) : Sum.inl (k, wf x) = oI wf res := by
  subst h; rfl
theorem oUv {α : Type} (wf : α → Option Nat → va_W) {k : Nat} {x : α} {res : (Nat × α) ⊕ α} (h : Sum.inl (k, x) = res) : Sum.inl (k, wf x) = oV wf res := by
  subst h; rfl
theorem ret_a {pr : Program} {l : Launch} {e : Env} {R : Room} {D : va_G} {sk sv : Nat → Nat} {tys : List (ClassId × FieldType)} {y : MethodName} {cc : ByteArray} {n : Nat} {s : State} {m : MethodId} {args : Array Value} {below : List Frame} {meth : Method} {c : Code} {A : Nat → Prop} {H : Heap} {locs : List Loc} {Q : State → Prop} {pc b : Nat} {ls : Array Slot} {C : String} {α : Type} (wf : α → va_W) {x res : α} (hv : x = res) (X : CX pr D sk sv tys y cc n (some (.object C)) s m args meth c A) (hQ : MQ below (QT D A (some (.ref b)) (wf res)) args s 0 0 A = Q) (hP : va_P D vwCl (wf x) H) (hS : va_S A s.heap H locs) (hd : decode cc pc = .ok (.areturn, 1)) :
    W pr l e R s m args below meth c H locs 0 0 Q (F0 m pc ls [.ref b]) := by
  subst hv
  subst hQ
  obtain ⟨hx, hb, hr, hml, hown, hts, hlocks, hA, hK, hE⟩ := X
  exact W.aret (v := .ref b) hx hb hr (Or.inl ⟨C, rfl⟩) (Or.inr ⟨b, rfl⟩) (fun t ht hW => ⟨rfl, by rw [ht]; exact hP, hS.F ht⟩) hS.2.2 hd
def wPU (tc : Nat → ClassId) (a : Nat → Nat) (g : Pic) (r0 : Nat) (r1 : Nat) (r2 : Nat) (r3 : Nat) (r4 : Nat) (r5 : Nat) (r6 : Nat) (r7 : Nat) (r8 : Nat) (r9 : Nat) (r10 : Nat) (r13 : Option Nat) : va_W := [(a 0, .inr (11, [.ref r0, .ref r1, .ref r2, .ref r3, .ref r4, .ref r5, .ref r6, .ref r7, .ref r8, .ref r9, .ref r10, .int (g 11 0), .int (g 12 0), va_rf r13, .int (g 14 0)]))]
def f_X11_needWord (g0 : Pic) (g1 : Pic) (x1 : Int32) : Option ((Nat × Unit) ⊕ Unit) := jn (fun (_ : Unit) => some (.inl (0, ()))) (fun J15 => (if x1 < 0 then J15 () else (if x1 < (g1 0 0) then some (.inr ()) else J15 ())))
abbrev rm_X11_needWord : Room := { frames := 6, cells := 1, slots := 6, locals := 120 }
set_option maxHeartbeats 4000000 in
set_option maxRecDepth 100000 in
theorem c_X11_needWord (l : Launch) (hst : l.stackTraces = false) (dC : Nat → ClassId) (dI : Nat → Nat → Nat) (sk sv : Nat → Nat) (tc : Nat → ClassId) (a0 : Nat → Nat) (q0_0 : Nat) (q0_2 : Nat) (q0_3 : Nat) (q0_4 : Nat) (q0_5 : Nat) (q0_6 : Nat) (q0_7 : Nat) (q0_8 : Nat) (q0_9 : Nat) (q0_10 : Nat) (q0_13 : Option Nat) (a1 : Nat → Nat) (q1_18 : Option Nat) (q1_19 : Nat) (g0 : Pic) (g1 : Pic) (x1 : Int32) {res : ((Nat × Unit) ⊕ Unit)} (h : f_X11_needWord g0 g1 x1 = some res) : CU l (dC, dI) sk sv (TY tc) yX11_needWord cX11_needWord 2 none rm_X11_needWord 1 6 [.ref (a0 0), .int x1] (wPU tc a0 g0 q0_0 (a1 0) q0_2 q0_3 q0_4 q0_5 q0_6 q0_7 q0_8 q0_9 q0_10 q0_13 ++ (wSt tc a1 g1 q1_18 q1_19)) (oV (fun (_ : Unit) (_ : Option Nat) => (wPU tc a0 g0 q0_0 (a1 0) q0_2 q0_3 q0_4 q0_5 q0_6 q0_7 q0_8 q0_9 q0_10 q0_13 ++ (wSt tc a1 g1 q1_18 q1_19))) res) := by
  refine ofCU (by decide) (Nat.le_of_ble_eq_true rfl) ?_
  intro pr e s m args below meth c A Q ls H locs X hT hQ hD0 hP hS hl
  have hD : ∀ z0 z1, va_D A (wPU tc a0 z0 q0_0 (a1 0) q0_2 q0_3 q0_4 q0_5 q0_6 q0_7 q0_8 q0_9 q0_10 q0_13 ++ (wSt tc a1 z1 q1_18 q1_19)) := fun z0 z1 => D_fst (ws := (wPU tc a0 g0 q0_0 (a1 0) q0_2 q0_3 q0_4 q0_5 q0_6 q0_7 q0_8 q0_9 q0_10 q0_13 ++ (wSt tc a1 g1 q1_18 q1_19))) rfl hD0
  have hl : lv_has ls 2 [(0, .ref (a0 0)), (1, .int x1)] := hl
  unfold f_X11_needWord at h
  refine lv_iload_n X.1 X.2.1 dX11_needWord_0 rfl (lv_at hl 1 rfl) ?_
  obtain ⟨J15, eJ15, h⟩ := jn_el h
  have HJ15 : ∀ (_ : Unit) (H : Heap) (locs : List Loc) (ls : Array Slot), J15 () = some res → va_P (dC, dI) vwCl (wPU tc a0 g0 q0_0 (a1 0) q0_2 q0_3 q0_4 q0_5 q0_6 q0_7 q0_8 q0_9 q0_10 q0_13 ++ (wSt tc a1 g1 q1_18 q1_19)) H → va_S A s.heap H locs → lv_has ls 2 [] → W pr l e rm_X11_needWord s m args below meth c H locs 0 0 Q (F0 m 15 ls []) := by
    intro _ H locs ls h hP hS hl
    rw [eJ15] at h
    exact thr_W (k := 0) (text := "no such word") (ti := 23) none (oUv (fun (_ : Unit) (_ : Option Nat) => (wPU tc a0 g0 q0_0 (a1 0) q0_2 q0_3 q0_4 q0_5 q0_6 q0_7 q0_8 q0_9 q0_10 q0_13 ++ (wSt tc a1 g1 q1_18 q1_19))) (Option.some.inj h)) X hT hst at_416 mw_4_214 mw_1_26 (List.mem_of_getElem? (i := 29) rfl) hQ hP hS hl.1 dX11_needWord_15 dX11_needWord_18 dX11_needWord_19 dX11_needWord_22 dX11_needWord_25 (Nat.le_of_ble_eq_true rfl) (Nat.le_of_ble_eq_true rfl) (Nat.le_of_ble_eq_true rfl) (Nat.le_of_ble_eq_true rfl) (Nat.le_of_ble_eq_true rfl) (Nat.le_of_ble_eq_true rfl)
  refine lv_if_lt (tgt := 15) X.1 X.2.1 dX11_needWord_1 (by decide) (fun hc => ?_) (fun hc => ?_)
  · have h := it_t hc h
    exact HJ15 () H locs ls h hP hS (lv_sub hl [] rfl)
  · have h := it_f hc h
    refine lv_iload_n X.1 X.2.1 dX11_needWord_4 rfl (lv_at hl 1 rfl) ?_
    refine lv_aload_n X.1 X.2.1 dX11_needWord_5 rfl (lv_at hl 0 rfl) ?_
    refine r_get (C := RX11) (T := TX11) (N := 15) (ci := 11) (v := .ref (a1 0)) X iw11 hP 0 rfl rfl 1 rfl mw_2_144 rfl dX11_needWord_6 ?_
    refine r_get (C := RX9) (T := TX9) (N := 20) (ci := 9) (v := .int (g1 0 0)) X iw9 hP 1 rfl rfl 0 rfl mw_1_108 rfl dX11_needWord_9 ?_
    refine lv_icmp_lt (tgt := 26) X.1 X.2.1 dX11_needWord_12 (by decide) (fun hc => ?_) (fun hc => ?_)
    · have h := it_t hc h
      exact retU_v (fun (_ : Unit) (_ : Option Nat) => (wPU tc a0 g0 q0_0 (a1 0) q0_2 q0_3 q0_4 q0_5 q0_6 q0_7 q0_8 q0_9 q0_10 q0_13 ++ (wSt tc a1 g1 q1_18 q1_19))) none (Option.some.inj h) X hQ hP hS (Nat.le_of_ble_eq_true rfl) (Nat.le_of_ble_eq_true rfl) dX11_needWord_26
    · have h := it_f hc h
      exact HJ15 () H locs ls h hP hS (lv_sub hl [] rfl)

def f_X11_needWriter (g0 : Pic) (g1 : Pic) (x1 : Int32) : Option ((Nat × Unit) ⊕ Unit) := jn (fun (_ : Unit) => some (.inl (0, ()))) (fun J15 => (if x1 < 0 then J15 () else (if x1 < (g1 7 0) then some (.inr ()) else J15 ())))
abbrev rm_X11_needWriter : Room := { frames := 6, cells := 1, slots := 6, locals := 120 }
set_option maxHeartbeats 4000000 in
set_option maxRecDepth 100000 in
theorem c_X11_needWriter (l : Launch) (hst : l.stackTraces = false) (dC : Nat → ClassId) (dI : Nat → Nat → Nat) (sk sv : Nat → Nat) (tc : Nat → ClassId) (a0 : Nat → Nat) (q0_0 : Nat) (q0_2 : Nat) (q0_3 : Nat) (q0_4 : Nat) (q0_5 : Nat) (q0_6 : Nat) (q0_7 : Nat) (q0_8 : Nat) (q0_9 : Nat) (q0_10 : Nat) (q0_13 : Option Nat) (a1 : Nat → Nat) (q1_18 : Option Nat) (q1_19 : Nat) (g0 : Pic) (g1 : Pic) (x1 : Int32) {res : ((Nat × Unit) ⊕ Unit)} (h : f_X11_needWriter g0 g1 x1 = some res) : CU l (dC, dI) sk sv (TY tc) yX11_needWriter cX11_needWriter 2 none rm_X11_needWriter 1 6 [.ref (a0 0), .int x1] (wPU tc a0 g0 q0_0 (a1 0) q0_2 q0_3 q0_4 q0_5 q0_6 q0_7 q0_8 q0_9 q0_10 q0_13 ++ (wSt tc a1 g1 q1_18 q1_19)) (oV (fun (_ : Unit) (_ : Option Nat) => (wPU tc a0 g0 q0_0 (a1 0) q0_2 q0_3 q0_4 q0_5 q0_6 q0_7 q0_8 q0_9 q0_10 q0_13 ++ (wSt tc a1 g1 q1_18 q1_19))) res) := by
  refine ofCU (by decide) (Nat.le_of_ble_eq_true rfl) ?_
  intro pr e s m args below meth c A Q ls H locs X hT hQ hD0 hP hS hl
  have hD : ∀ z0 z1, va_D A (wPU tc a0 z0 q0_0 (a1 0) q0_2 q0_3 q0_4 q0_5 q0_6 q0_7 q0_8 q0_9 q0_10 q0_13 ++ (wSt tc a1 z1 q1_18 q1_19)) := fun z0 z1 => D_fst (ws := (wPU tc a0 g0 q0_0 (a1 0) q0_2 q0_3 q0_4 q0_5 q0_6 q0_7 q0_8 q0_9 q0_10 q0_13 ++ (wSt tc a1 g1 q1_18 q1_19))) rfl hD0
  have hl : lv_has ls 2 [(0, .ref (a0 0)), (1, .int x1)] := hl
  unfold f_X11_needWriter at h
  refine lv_iload_n X.1 X.2.1 dX11_needWriter_0 rfl (lv_at hl 1 rfl) ?_
  obtain ⟨J15, eJ15, h⟩ := jn_el h
  have HJ15 : ∀ (_ : Unit) (H : Heap) (locs : List Loc) (ls : Array Slot), J15 () = some res → va_P (dC, dI) vwCl (wPU tc a0 g0 q0_0 (a1 0) q0_2 q0_3 q0_4 q0_5 q0_6 q0_7 q0_8 q0_9 q0_10 q0_13 ++ (wSt tc a1 g1 q1_18 q1_19)) H → va_S A s.heap H locs → lv_has ls 2 [] → W pr l e rm_X11_needWriter s m args below meth c H locs 0 0 Q (F0 m 15 ls []) := by
    intro _ H locs ls h hP hS hl
    rw [eJ15] at h
    exact thr_W (k := 0) (text := "no such writer") (ti := 25) none (oUv (fun (_ : Unit) (_ : Option Nat) => (wPU tc a0 g0 q0_0 (a1 0) q0_2 q0_3 q0_4 q0_5 q0_6 q0_7 q0_8 q0_9 q0_10 q0_13 ++ (wSt tc a1 g1 q1_18 q1_19))) (Option.some.inj h)) X hT hst at_416 mw_4_214 mw_1_26 (List.mem_of_getElem? (i := 31) rfl) hQ hP hS hl.1 dX11_needWriter_15 dX11_needWriter_18 dX11_needWriter_19 dX11_needWriter_22 dX11_needWriter_25 (Nat.le_of_ble_eq_true rfl) (Nat.le_of_ble_eq_true rfl) (Nat.le_of_ble_eq_true rfl) (Nat.le_of_ble_eq_true rfl) (Nat.le_of_ble_eq_true rfl) (Nat.le_of_ble_eq_true rfl)
  refine lv_if_lt (tgt := 15) X.1 X.2.1 dX11_needWriter_1 (by decide) (fun hc => ?_) (fun hc => ?_)
  · have h := it_t hc h
    exact HJ15 () H locs ls h hP hS (lv_sub hl [] rfl)
  · have h := it_f hc h
    refine lv_iload_n X.1 X.2.1 dX11_needWriter_4 rfl (lv_at hl 1 rfl) ?_
    refine lv_aload_n X.1 X.2.1 dX11_needWriter_5 rfl (lv_at hl 0 rfl) ?_
    refine r_get (C := RX11) (T := TX11) (N := 15) (ci := 11) (v := .ref (a1 0)) X iw11 hP 0 rfl rfl 1 rfl mw_2_144 rfl dX11_needWriter_6 ?_
    refine r_get (C := RX9) (T := TX9) (N := 20) (ci := 9) (v := .int (g1 7 0)) X iw9 hP 1 rfl rfl 7 rfl mw_1_146 rfl dX11_needWriter_9 ?_
    refine lv_icmp_lt (tgt := 26) X.1 X.2.1 dX11_needWriter_12 (by decide) (fun hc => ?_) (fun hc => ?_)
    · have h := it_t hc h
      exact retU_v (fun (_ : Unit) (_ : Option Nat) => (wPU tc a0 g0 q0_0 (a1 0) q0_2 q0_3 q0_4 q0_5 q0_6 q0_7 q0_8 q0_9 q0_10 q0_13 ++ (wSt tc a1 g1 q1_18 q1_19))) none (Option.some.inj h) X hQ hP hS (Nat.le_of_ble_eq_true rfl) (Nat.le_of_ble_eq_true rfl) dX11_needWriter_26
    · have h := it_f hc h
      exact HJ15 () H locs ls h hP hS (lv_sub hl [] rfl)

def f_X11_needLetter (g0 : Pic) (x1 : Int32) : Option ((Nat × Unit) ⊕ Unit) := jn (fun (_ : Unit) => some (.inl (0, ()))) (fun J10 => (if x1 < 0 then J10 () else (if x1 < 8 then some (.inr ()) else J10 ())))
abbrev rm_X11_needLetter : Room := { frames := 6, cells := 1, slots := 6, locals := 120 }
set_option maxHeartbeats 4000000 in
set_option maxRecDepth 100000 in
theorem c_X11_needLetter (l : Launch) (hst : l.stackTraces = false) (dC : Nat → ClassId) (dI : Nat → Nat → Nat) (sk sv : Nat → Nat) (tc : Nat → ClassId) (a0 : Nat → Nat) (q0_0 : Nat) (q0_1 : Nat) (q0_2 : Nat) (q0_3 : Nat) (q0_4 : Nat) (q0_5 : Nat) (q0_6 : Nat) (q0_7 : Nat) (q0_8 : Nat) (q0_9 : Nat) (q0_10 : Nat) (q0_13 : Option Nat) (g0 : Pic) (x1 : Int32) {res : ((Nat × Unit) ⊕ Unit)} (h : f_X11_needLetter g0 x1 = some res) : CU l (dC, dI) sk sv (TY tc) yX11_needLetter cX11_needLetter 2 none rm_X11_needLetter 1 6 [.ref (a0 0), .int x1] (wPU tc a0 g0 q0_0 q0_1 q0_2 q0_3 q0_4 q0_5 q0_6 q0_7 q0_8 q0_9 q0_10 q0_13) (oV (fun (_ : Unit) (_ : Option Nat) => (wPU tc a0 g0 q0_0 q0_1 q0_2 q0_3 q0_4 q0_5 q0_6 q0_7 q0_8 q0_9 q0_10 q0_13)) res) := by
  refine ofCU (by decide) (Nat.le_of_ble_eq_true rfl) ?_
  intro pr e s m args below meth c A Q ls H locs X hT hQ hD0 hP hS hl
  have hD : ∀ z0, va_D A (wPU tc a0 z0 q0_0 q0_1 q0_2 q0_3 q0_4 q0_5 q0_6 q0_7 q0_8 q0_9 q0_10 q0_13) := fun z0 => D_fst (ws := (wPU tc a0 g0 q0_0 q0_1 q0_2 q0_3 q0_4 q0_5 q0_6 q0_7 q0_8 q0_9 q0_10 q0_13)) rfl hD0
  have hl : lv_has ls 2 [(0, .ref (a0 0)), (1, .int x1)] := hl
  unfold f_X11_needLetter at h
  refine lv_iload_n X.1 X.2.1 dX11_needLetter_0 rfl (lv_at hl 1 rfl) ?_
  obtain ⟨J10, eJ10, h⟩ := jn_el h
  have HJ10 : ∀ (_ : Unit) (H : Heap) (locs : List Loc) (ls : Array Slot), J10 () = some res → va_P (dC, dI) vwCl (wPU tc a0 g0 q0_0 q0_1 q0_2 q0_3 q0_4 q0_5 q0_6 q0_7 q0_8 q0_9 q0_10 q0_13) H → va_S A s.heap H locs → lv_has ls 2 [] → W pr l e rm_X11_needLetter s m args below meth c H locs 0 0 Q (F0 m 10 ls []) := by
    intro _ H locs ls h hP hS hl
    rw [eJ10] at h
    exact thr_W (k := 0) (text := "no such letter") (ti := 29) none (oUv (fun (_ : Unit) (_ : Option Nat) => (wPU tc a0 g0 q0_0 q0_1 q0_2 q0_3 q0_4 q0_5 q0_6 q0_7 q0_8 q0_9 q0_10 q0_13)) (Option.some.inj h)) X hT hst at_416 mw_4_214 mw_1_26 (List.mem_of_getElem? (i := 35) rfl) hQ hP hS hl.1 dX11_needLetter_10 dX11_needLetter_13 dX11_needLetter_14 dX11_needLetter_17 dX11_needLetter_20 (Nat.le_of_ble_eq_true rfl) (Nat.le_of_ble_eq_true rfl) (Nat.le_of_ble_eq_true rfl) (Nat.le_of_ble_eq_true rfl) (Nat.le_of_ble_eq_true rfl) (Nat.le_of_ble_eq_true rfl)
  refine lv_if_lt (tgt := 10) X.1 X.2.1 dX11_needLetter_1 (by decide) (fun hc => ?_) (fun hc => ?_)
  · have h := it_t hc h
    exact HJ10 () H locs ls h hP hS (lv_sub hl [] rfl)
  · have h := it_f hc h
    refine lv_iload_n X.1 X.2.1 dX11_needLetter_4 rfl (lv_at hl 1 rfl) ?_
    refine lv_bipush (v := 8) X.1 X.2.1 dX11_needLetter_5 (by decide) ?_
    refine lv_icmp_lt (tgt := 21) X.1 X.2.1 dX11_needLetter_7 (by decide) (fun hc => ?_) (fun hc => ?_)
    · have h := it_t hc h
      exact retU_v (fun (_ : Unit) (_ : Option Nat) => (wPU tc a0 g0 q0_0 q0_1 q0_2 q0_3 q0_4 q0_5 q0_6 q0_7 q0_8 q0_9 q0_10 q0_13)) none (Option.some.inj h) X hQ hP hS (Nat.le_of_ble_eq_true rfl) (Nat.le_of_ble_eq_true rfl) dX11_needLetter_21
    · have h := it_f hc h
      exact HJ10 () H locs ls h hP hS (lv_sub hl [] rfl)

def f_X11_needNumber (g0 : Pic) (x1 : Int32) (x2 : Int32) (x3 : Int32) : Option ((Nat × Unit) ⊕ Unit) := jn (fun (_ : Unit) => some (.inl (1, ()))) (fun J10 => (if x1 < x2 then J10 () else (if x1 ≤ x3 then some (.inr ()) else J10 ())))
abbrev rm_X11_needNumber : Room := { frames := 6, cells := 1, slots := 6, locals := 120 }
set_option maxHeartbeats 4000000 in
set_option maxRecDepth 100000 in
theorem c_X11_needNumber (l : Launch) (hst : l.stackTraces = false) (dC : Nat → ClassId) (dI : Nat → Nat → Nat) (sk sv : Nat → Nat) (tc : Nat → ClassId) (a0 : Nat → Nat) (q0_0 : Nat) (q0_1 : Nat) (q0_2 : Nat) (q0_3 : Nat) (q0_4 : Nat) (q0_5 : Nat) (q0_6 : Nat) (q0_7 : Nat) (q0_8 : Nat) (q0_9 : Nat) (q0_10 : Nat) (q0_13 : Option Nat) (g0 : Pic) (x1 : Int32) (x2 : Int32) (x3 : Int32) {res : ((Nat × Unit) ⊕ Unit)} (h : f_X11_needNumber g0 x1 x2 x3 = some res) : CU l (dC, dI) sk sv (TY tc) yX11_needNumber cX11_needNumber 4 none rm_X11_needNumber 1 6 [.ref (a0 0), .int x1, .int x2, .int x3] (wPU tc a0 g0 q0_0 q0_1 q0_2 q0_3 q0_4 q0_5 q0_6 q0_7 q0_8 q0_9 q0_10 q0_13) (oV (fun (_ : Unit) (_ : Option Nat) => (wPU tc a0 g0 q0_0 q0_1 q0_2 q0_3 q0_4 q0_5 q0_6 q0_7 q0_8 q0_9 q0_10 q0_13)) res) := by
  refine ofCU (by decide) (Nat.le_of_ble_eq_true rfl) ?_
  intro pr e s m args below meth c A Q ls H locs X hT hQ hD0 hP hS hl
  have hD : ∀ z0, va_D A (wPU tc a0 z0 q0_0 q0_1 q0_2 q0_3 q0_4 q0_5 q0_6 q0_7 q0_8 q0_9 q0_10 q0_13) := fun z0 => D_fst (ws := (wPU tc a0 g0 q0_0 q0_1 q0_2 q0_3 q0_4 q0_5 q0_6 q0_7 q0_8 q0_9 q0_10 q0_13)) rfl hD0
  have hl : lv_has ls 4 [(0, .ref (a0 0)), (1, .int x1), (2, .int x2), (3, .int x3)] := hl
  unfold f_X11_needNumber at h
  refine lv_iload_n X.1 X.2.1 dX11_needNumber_0 rfl (lv_at hl 1 rfl) ?_
  refine lv_iload_n X.1 X.2.1 dX11_needNumber_1 rfl (lv_at hl 2 rfl) ?_
  obtain ⟨J10, eJ10, h⟩ := jn_el h
  have HJ10 : ∀ (_ : Unit) (H : Heap) (locs : List Loc) (ls : Array Slot), J10 () = some res → va_P (dC, dI) vwCl (wPU tc a0 g0 q0_0 q0_1 q0_2 q0_3 q0_4 q0_5 q0_6 q0_7 q0_8 q0_9 q0_10 q0_13) H → va_S A s.heap H locs → lv_has ls 4 [] → W pr l e rm_X11_needNumber s m args below meth c H locs 0 0 Q (F0 m 10 ls []) := by
    intro _ H locs ls h hP hS hl
    rw [eJ10] at h
    exact thr_W (k := 1) (text := "the number is none") (ti := 27) none (oUv (fun (_ : Unit) (_ : Option Nat) => (wPU tc a0 g0 q0_0 q0_1 q0_2 q0_3 q0_4 q0_5 q0_6 q0_7 q0_8 q0_9 q0_10 q0_13)) (Option.some.inj h)) X hT hst at_114 mw_4_6 mw_1_21 (List.mem_of_getElem? (i := 33) rfl) hQ hP hS hl.1 dX11_needNumber_10 dX11_needNumber_13 dX11_needNumber_14 dX11_needNumber_17 dX11_needNumber_20 (Nat.le_of_ble_eq_true rfl) (Nat.le_of_ble_eq_true rfl) (Nat.le_of_ble_eq_true rfl) (Nat.le_of_ble_eq_true rfl) (Nat.le_of_ble_eq_true rfl) (Nat.le_of_ble_eq_true rfl)
  refine lv_icmp_lt (tgt := 10) X.1 X.2.1 dX11_needNumber_2 (by decide) (fun hc => ?_) (fun hc => ?_)
  · have h := it_t hc h
    exact HJ10 () H locs ls h hP hS (lv_sub hl [] rfl)
  · have h := it_f hc h
    refine lv_iload_n X.1 X.2.1 dX11_needNumber_5 rfl (lv_at hl 1 rfl) ?_
    refine lv_iload_n X.1 X.2.1 dX11_needNumber_6 rfl (lv_at hl 3 rfl) ?_
    refine lv_icmp_le (tgt := 21) X.1 X.2.1 dX11_needNumber_7 (by decide) (fun hc => ?_) (fun hc => ?_)
    · have h := it_t hc h
      exact retU_v (fun (_ : Unit) (_ : Option Nat) => (wPU tc a0 g0 q0_0 q0_1 q0_2 q0_3 q0_4 q0_5 q0_6 q0_7 q0_8 q0_9 q0_10 q0_13)) none (Option.some.inj h) X hQ hP hS (Nat.le_of_ble_eq_true rfl) (Nat.le_of_ble_eq_true rfl) dX11_needNumber_21
    · have h := it_f hc h
      exact HJ10 () H locs ls h hP hS (lv_sub hl [] rfl)

def f_X11_needRows (g0 : Pic) (x1 : Int32) : Option ((Nat × Unit) ⊕ Unit) := (if x1 = 0 then some (.inl (1, ())) else some (.inr ()))
abbrev rm_X11_needRows : Room := { frames := 6, cells := 1, slots := 6, locals := 120 }
set_option maxHeartbeats 4000000 in
set_option maxRecDepth 100000 in
theorem c_X11_needRows (l : Launch) (hst : l.stackTraces = false) (dC : Nat → ClassId) (dI : Nat → Nat → Nat) (sk sv : Nat → Nat) (tc : Nat → ClassId) (a0 : Nat → Nat) (q0_0 : Nat) (q0_1 : Nat) (q0_2 : Nat) (q0_3 : Nat) (q0_4 : Nat) (q0_5 : Nat) (q0_6 : Nat) (q0_7 : Nat) (q0_8 : Nat) (q0_9 : Nat) (q0_10 : Nat) (q0_13 : Option Nat) (g0 : Pic) (x1 : Int32) {res : ((Nat × Unit) ⊕ Unit)} (h : f_X11_needRows g0 x1 = some res) : CU l (dC, dI) sk sv (TY tc) yX11_needRows cX11_needRows 2 none rm_X11_needRows 1 6 [.ref (a0 0), .int x1] (wPU tc a0 g0 q0_0 q0_1 q0_2 q0_3 q0_4 q0_5 q0_6 q0_7 q0_8 q0_9 q0_10 q0_13) (oV (fun (_ : Unit) (_ : Option Nat) => (wPU tc a0 g0 q0_0 q0_1 q0_2 q0_3 q0_4 q0_5 q0_6 q0_7 q0_8 q0_9 q0_10 q0_13)) res) := by
  refine ofCU (by decide) (Nat.le_of_ble_eq_true rfl) ?_
  intro pr e s m args below meth c A Q ls H locs X hT hQ hD0 hP hS hl
  have hD : ∀ z0, va_D A (wPU tc a0 z0 q0_0 q0_1 q0_2 q0_3 q0_4 q0_5 q0_6 q0_7 q0_8 q0_9 q0_10 q0_13) := fun z0 => D_fst (ws := (wPU tc a0 g0 q0_0 q0_1 q0_2 q0_3 q0_4 q0_5 q0_6 q0_7 q0_8 q0_9 q0_10 q0_13)) rfl hD0
  have hl : lv_has ls 2 [(0, .ref (a0 0)), (1, .int x1)] := hl
  unfold f_X11_needRows at h
  refine lv_iload_n X.1 X.2.1 dX11_needRows_0 rfl (lv_at hl 1 rfl) ?_
  refine lv_if_ne (tgt := 15) X.1 X.2.1 dX11_needRows_1 (by decide) (fun hc => ?_) (fun hc => ?_)
  · have h := it_f hc h
    exact retU_v (fun (_ : Unit) (_ : Option Nat) => (wPU tc a0 g0 q0_0 q0_1 q0_2 q0_3 q0_4 q0_5 q0_6 q0_7 q0_8 q0_9 q0_10 q0_13)) none (Option.some.inj h) X hQ hP hS (Nat.le_of_ble_eq_true rfl) (Nat.le_of_ble_eq_true rfl) dX11_needRows_15
  · have h := it_t hc h
    exact thr_W (k := 1) (text := "the tape is not that") (ti := 30) none (oUv (fun (_ : Unit) (_ : Option Nat) => (wPU tc a0 g0 q0_0 q0_1 q0_2 q0_3 q0_4 q0_5 q0_6 q0_7 q0_8 q0_9 q0_10 q0_13)) (Option.some.inj h)) X hT hst at_114 mw_4_6 mw_1_21 (List.mem_of_getElem? (i := 36) rfl) hQ hP hS hl.1 dX11_needRows_4 dX11_needRows_7 dX11_needRows_8 dX11_needRows_11 dX11_needRows_14 (Nat.le_of_ble_eq_true rfl) (Nat.le_of_ble_eq_true rfl) (Nat.le_of_ble_eq_true rfl) (Nat.le_of_ble_eq_true rfl) (Nat.le_of_ble_eq_true rfl) (Nat.le_of_ble_eq_true rfl)

def f_X11_handOf (g0 : Pic) (g1 : Pic) (g2 : Pic) (x1 : Int32) : Option (Pic) := gdi x1 5 (bd (f_X3_take g2 g1 (g1 8 (x1.toNatClampNeg))) (fun g2_2 => some g2_2))
abbrev rm_X11_handOf : Room := { frames := 1, cells := 0, slots := 0, locals := 27 }
set_option maxHeartbeats 4000000 in
set_option maxRecDepth 100000 in
theorem c_X11_handOf (l : Launch) (dC : Nat → ClassId) (dI : Nat → Nat → Nat) (sk sv : Nat → Nat) (tc : Nat → ClassId) (a0 : Nat → Nat) (q0_0 : Nat) (q0_2 : Nat) (q0_3 : Nat) (q0_4 : Nat) (q0_6 : Nat) (q0_7 : Nat) (q0_8 : Nat) (q0_9 : Nat) (q0_10 : Nat) (q0_13 : Option Nat) (a1 : Nat → Nat) (q1_18 : Option Nat) (q1_19 : Nat) (a2 : Nat → Nat) (g0 : Pic) (g1 : Pic) (g2 : Pic) (x1 : Int32) {G2 : Pic} (h : f_X11_handOf g0 g1 g2 x1 = some G2) : CT l (dC, dI) sk sv (TY tc) yX11_handOf cX11_handOf 2 (some (.object "PencilUp$Hand")) rm_X11_handOf [.ref (a0 0), .int x1] (wPU tc a0 g0 q0_0 (a1 0) q0_2 q0_3 q0_4 (a2 0) q0_6 q0_7 q0_8 q0_9 q0_10 q0_13 ++ (wSt tc a1 g1 q1_18 q1_19 ++ (wHd tc a2 g2))) (some (.ref (a2 0))) (wPU tc a0 g0 q0_0 (a1 0) q0_2 q0_3 q0_4 (a2 0) q0_6 q0_7 q0_8 q0_9 q0_10 q0_13 ++ (wSt tc a1 g1 q1_18 q1_19 ++ (wHd tc a2 G2))) := by
  refine ofCT (by decide) (Nat.le_of_ble_eq_true rfl) ?_
  intro pr e s m args below meth c A Q ls H locs X hQ hD0 hP hS hl
  have hD : ∀ z0 z1 z2, va_D A (wPU tc a0 z0 q0_0 (a1 0) q0_2 q0_3 q0_4 (a2 0) q0_6 q0_7 q0_8 q0_9 q0_10 q0_13 ++ (wSt tc a1 z1 q1_18 q1_19 ++ (wHd tc a2 z2))) := fun z0 z1 z2 => D_fst (ws := (wPU tc a0 g0 q0_0 (a1 0) q0_2 q0_3 q0_4 (a2 0) q0_6 q0_7 q0_8 q0_9 q0_10 q0_13 ++ (wSt tc a1 g1 q1_18 q1_19 ++ (wHd tc a2 g2)))) rfl hD0
  have hl : lv_has ls 2 [(0, .ref (a0 0)), (1, .int x1)] := hl
  unfold f_X11_handOf at h
  refine lv_aload_n X.1 X.2.1 dX11_handOf_0 rfl (lv_at hl 0 rfl) ?_
  refine r_get (C := RX11) (T := TX11) (N := 15) (ci := 11) (v := .ref (a2 0)) X iw11 hP 0 rfl rfl 5 rfl mw_2_148 rfl dX11_handOf_1 ?_
  refine lv_aload_n X.1 X.2.1 dX11_handOf_4 rfl (lv_at hl 0 rfl) ?_
  refine r_get (C := RX11) (T := TX11) (N := 15) (ci := 11) (v := .ref (a1 0)) X iw11 hP 0 rfl rfl 1 rfl mw_2_144 rfl dX11_handOf_5 ?_
  refine lv_aload_n X.1 X.2.1 dX11_handOf_8 rfl (lv_at hl 0 rfl) ?_
  refine r_get (C := RX11) (T := TX11) (N := 15) (ci := 11) (v := .ref (a1 0)) X iw11 hP 0 rfl rfl 1 rfl mw_2_144 rfl dX11_handOf_9 ?_
  refine r_get (C := RX9) (T := TX9) (N := 20) (ci := 9) (v := .ref (a1 9)) X iw9 hP 1 rfl rfl 8 rfl mw_1_151 rfl dX11_handOf_12 ?_
  refine lv_iload_n X.1 X.2.1 dX11_handOf_15 rfl (lv_at hl 1 rfl) ?_
  obtain ⟨hg_1, h⟩ := gdi_el h
  refine r_iald X hP 6 0 rfl rfl hg_1 rfl dX11_handOf_16 ?_
  obtain ⟨g2_2, hc_2, h⟩ := bd_el h
  refine call_Q (ws := (wPU tc a0 g0 q0_0 (a1 0) q0_2 q0_3 q0_4 (a2 0) q0_6 q0_7 q0_8 q0_9 q0_10 q0_13 ++ (wSt tc a1 g1 q1_18 q1_19 ++ (wHd tc a2 g2)))) (ws' := (wPU tc a0 g0 q0_0 (a1 0) q0_2 q0_3 q0_4 (a2 0) q0_6 q0_7 q0_8 q0_9 q0_10 q0_13 ++ (wSt tc a1 g1 q1_18 q1_19 ++ (wHd tc a2 g2_2)))) (wr := (wPU tc a0 g0 q0_0 (a1 0) q0_2 q0_3 q0_4 (a2 0) q0_6 q0_7 q0_8 q0_9 q0_10 q0_13)) [11, 12, 13, 14, 15, 1, 2, 3, 4, 5, 6, 7, 8, 9, 10] [0] [0, 6, 7, 8, 9, 10, 11, 12, 13, 14, 15, 1, 2, 3, 4, 5] (As := [.ref (a1 0), .int (g1 8 (x1.toNatClampNeg))]) (rest := []) X (c_X3_take l dC dI sk sv tc a2 a1 q1_18 q1_19 g2 g1 (g1 8 (x1.toNatClampNeg)) hc_2) mw_2_219 mw_2_220 mw_2_221 mw_1_7 mw_2_222 dc_X3_take ⟨Nat.le_of_ble_eq_true rfl, Nat.le_of_ble_eq_true rfl⟩ rfl rfl ⟨Nat.zero_le _, Nat.zero_le _⟩ ⟨rfl, rfl, rfl, rfl, by decide, rfl, rfl⟩ hP (hD _ _ _) hS 0 rfl rfl rfl hl.1 (Nat.le_of_ble_eq_true rfl) dX11_handOf_17 (fun H locs hP hS => ?_)
  refine W.eq (g2 := F0 m 20 ls []) rfl ?_
  refine lv_aload_n X.1 X.2.1 dX11_handOf_20 rfl (lv_at hl 0 rfl) ?_
  refine r_get (C := RX11) (T := TX11) (N := 15) (ci := 11) (v := .ref (a2 0)) X iw11 hP 0 rfl rfl 5 rfl mw_2_148 rfl dX11_handOf_21 ?_
  exact ret_a (fun u => (wPU tc a0 g0 q0_0 (a1 0) q0_2 q0_3 q0_4 (a2 0) q0_6 q0_7 q0_8 q0_9 q0_10 q0_13 ++ (wSt tc a1 g1 q1_18 q1_19 ++ (wHd tc a2 u)))) (Option.some.inj h) X hQ hP hS dX11_handOf_24

def f_X11_forgetActs (g0 : Pic) : Option (Pic) := nm (pu g0 12 0 0) (fun g0_1 => some g0_1)
abbrev rm_X11_forgetActs : Room := { frames := 0, cells := 0, slots := 0, locals := 0 }
set_option maxHeartbeats 4000000 in
set_option maxRecDepth 100000 in
theorem c_X11_forgetActs (l : Launch) (dC : Nat → ClassId) (dI : Nat → Nat → Nat) (sk sv : Nat → Nat) (tc : Nat → ClassId) (a0 : Nat → Nat) (q0_0 : Nat) (q0_1 : Nat) (q0_2 : Nat) (q0_3 : Nat) (q0_4 : Nat) (q0_5 : Nat) (q0_6 : Nat) (q0_7 : Nat) (q0_8 : Nat) (q0_9 : Nat) (q0_10 : Nat) (q0_13 : Option Nat) (g0 : Pic) {G0 : Pic} (h : f_X11_forgetActs g0 = some G0) : CT l (dC, dI) sk sv (TY tc) yX11_forgetActs cX11_forgetActs 1 none rm_X11_forgetActs [.ref (a0 0)] (wPU tc a0 g0 q0_0 q0_1 q0_2 q0_3 q0_4 q0_5 q0_6 q0_7 q0_8 q0_9 q0_10 q0_13) none (wPU tc a0 G0 q0_0 q0_1 q0_2 q0_3 q0_4 q0_5 q0_6 q0_7 q0_8 q0_9 q0_10 q0_13) := by
  refine ofCT (by decide) (Nat.le_of_ble_eq_true rfl) ?_
  intro pr e s m args below meth c A Q ls H locs X hQ hD0 hP hS hl
  have hD : ∀ z0, va_D A (wPU tc a0 z0 q0_0 q0_1 q0_2 q0_3 q0_4 q0_5 q0_6 q0_7 q0_8 q0_9 q0_10 q0_13) := fun z0 => D_fst (ws := (wPU tc a0 g0 q0_0 q0_1 q0_2 q0_3 q0_4 q0_5 q0_6 q0_7 q0_8 q0_9 q0_10 q0_13)) rfl hD0
  have hl : lv_has ls 1 [(0, .ref (a0 0))] := hl
  unfold f_X11_forgetActs at h
  refine lv_aload_n X.1 X.2.1 dX11_forgetActs_0 rfl (lv_at hl 0 rfl) ?_
  refine lv_iconst (v := 0) X.1 X.2.1 dX11_forgetActs_1 (by decide) ?_
  obtain ⟨g0_1, eg0_1, h⟩ := nm_el h
  refine r_put (C := RX11) (T := TX11) (N := 15) (ci := 11) tyX11 tyX11_ok nmX11 X iw11 hP (hD _) hS 0 rfl rfl 12 rfl mw_2_155 rfl rfl rfl rfl dX11_forgetActs_2 (wPU tc a0 g0_1 q0_0 q0_1 q0_2 q0_3 q0_4 q0_5 q0_6 q0_7 q0_8 q0_9 q0_10 q0_13) (by rw [eg0_1]; rfl) (fun H locs hP hS => ?_)
  exact ret_v (fun u => (wPU tc a0 u q0_0 q0_1 q0_2 q0_3 q0_4 q0_5 q0_6 q0_7 q0_8 q0_9 q0_10 q0_13)) (res := G0) (Option.some.inj h) X hQ hP hS dX11_forgetActs_5

def f_X11_greatest_often_L5 (x2 : Int32) (g0 : Pic) (g1 : Pic) (n : Nat) (a : Int32 × Int32) : Option (Int32) := lp (fun (rec : Int32 × Int32 → Option (Int32)) (a : Int32 × Int32) => match a with | (x3, x4) => (if x2 ≤ x4 then some x3 else jn (fun (x3_J29 : Int32) => nm (x4 + 1) (fun x4_1 => rec (x3_J29, x4_1))) (fun J29 => jn (fun (_ : Unit) => J29 x4) (fun J26 => (if x3 = (-1) then J26 () else gdi x4 8 (gdi x3 8 ((if (g1 3 (x4.toNatClampNeg)) ≤ (g1 3 (x3.toNatClampNeg)) then J29 x3 else J26 ())))))))) n a
def f_X11_greatest_often (g0 : Pic) (g1 : Pic) (x2 : Int32) : Option (Int32) := bd (f_X11_greatest_often_L5 x2 g0 g1 fu ((-1), 0)) (fun x3_4 => some x3_4)
abbrev rm_X11_greatest_often : Room := { frames := 0, cells := 0, slots := 0, locals := 0 }
set_option maxHeartbeats 4000000 in
set_option maxRecDepth 100000 in
theorem c_X11_greatest_often (l : Launch) (dC : Nat → ClassId) (dI : Nat → Nat → Nat) (sk sv : Nat → Nat) (tc : Nat → ClassId) (a0 : Nat → Nat) (q0_0 : Nat) (q0_2 : Nat) (q0_3 : Nat) (q0_4 : Nat) (q0_5 : Nat) (q0_6 : Nat) (q0_7 : Nat) (q0_8 : Nat) (q0_9 : Nat) (q0_10 : Nat) (q0_13 : Option Nat) (a1 : Nat → Nat) (q1_18 : Option Nat) (q1_19 : Nat) (g0 : Pic) (g1 : Pic) (x2 : Int32) {r0 : Int32} (h : f_X11_greatest_often g0 g1 x2 = some r0) : CT l (dC, dI) sk sv (TY tc) yX11_greatest cX11_greatest 5 (some .int) rm_X11_greatest_often [.ref (a0 0), .ref (a1 4), .int x2] (wPU tc a0 g0 q0_0 (a1 0) q0_2 q0_3 q0_4 q0_5 q0_6 q0_7 q0_8 q0_9 q0_10 q0_13 ++ (wSt tc a1 g1 q1_18 q1_19)) (some (.int r0)) (wPU tc a0 g0 q0_0 (a1 0) q0_2 q0_3 q0_4 q0_5 q0_6 q0_7 q0_8 q0_9 q0_10 q0_13 ++ (wSt tc a1 g1 q1_18 q1_19)) := by
  refine ofCT (by decide) (Nat.le_of_ble_eq_true rfl) ?_
  intro pr e s m args below meth c A Q ls H locs X hQ hD0 hP hS hl
  have hD : ∀ z0 z1, va_D A (wPU tc a0 z0 q0_0 (a1 0) q0_2 q0_3 q0_4 q0_5 q0_6 q0_7 q0_8 q0_9 q0_10 q0_13 ++ (wSt tc a1 z1 q1_18 q1_19)) := fun z0 z1 => D_fst (ws := (wPU tc a0 g0 q0_0 (a1 0) q0_2 q0_3 q0_4 q0_5 q0_6 q0_7 q0_8 q0_9 q0_10 q0_13 ++ (wSt tc a1 g1 q1_18 q1_19))) rfl hD0
  have hl : lv_has ls 5 [(0, .ref (a0 0)), (1, .ref (a1 4)), (2, .int x2)] := hl
  have HL5 : ∀ (x2 : Int32) (n : Nat) (x3 : Int32) (x4 : Int32) (ex : (Int32)), f_X11_greatest_often_L5 x2 g0 g1 n (x3, x4) = some ex → ∀ (H : Heap) (locs : List Loc) (ls : Array Slot), va_P (dC, dI) vwCl (wPU tc a0 g0 q0_0 (a1 0) q0_2 q0_3 q0_4 q0_5 q0_6 q0_7 q0_8 q0_9 q0_10 q0_13 ++ (wSt tc a1 g1 q1_18 q1_19)) H → va_S A s.heap H locs → lv_has ls 5 [(1, .ref (a1 4)), (2, .int x2), (3, .int x3), (4, .int x4)] → (∀ (y3 : Int32), y3 = ex → ∀ (H : Heap) (locs : List Loc) (ls : Array Slot), va_P (dC, dI) vwCl (wPU tc a0 g0 q0_0 (a1 0) q0_2 q0_3 q0_4 q0_5 q0_6 q0_7 q0_8 q0_9 q0_10 q0_13 ++ (wSt tc a1 g1 q1_18 q1_19)) H → va_S A s.heap H locs → lv_has ls 5 [(3, .int y3)] → W pr l e rm_X11_greatest_often s m args below meth c H locs 0 0 Q (F0 m 35 ls [])) → W pr l e rm_X11_greatest_often s m args below meth c H locs 0 0 Q (F0 m 5 ls []) := by
    intro x2 n
    induction n with
    | zero => intro x3 x4 ex h; exact lp_z h
    | succ n ih =>
      intro x3 x4 ex h H locs ls hP hS hl K
      have h := lp_s h
      refine lv_iload X.1 X.2.1 dX11_greatest_5 (lv_at hl 3 rfl) ?_
      refine lv_iload_n X.1 X.2.1 dX11_greatest_7 rfl (lv_at hl 1 rfl) ?_
      refine lv_icmp_ge (tgt := 35) X.1 X.2.1 dX11_greatest_8 (by decide) (fun hc => ?_) (fun hc => ?_)
      · have h := it_t hc h
        exact K x3 (Option.some.inj h) H locs ls hP hS (lv_sub hl [2] rfl)
      · have h := it_f hc h
        refine lv_iload_n X.1 X.2.1 dX11_greatest_11 rfl (lv_at hl 2 rfl) ?_
        refine lv_iconst (v := (-1)) X.1 X.2.1 dX11_greatest_12 (by decide) ?_
        obtain ⟨J29, eJ29, h⟩ := jn_el h
        have HJ29 : ∀ (x3_J29 : Int32) (H : Heap) (locs : List Loc) (ls : Array Slot), J29 x3_J29 = some ex → va_P (dC, dI) vwCl (wPU tc a0 g0 q0_0 (a1 0) q0_2 q0_3 q0_4 q0_5 q0_6 q0_7 q0_8 q0_9 q0_10 q0_13 ++ (wSt tc a1 g1 q1_18 q1_19)) H → va_S A s.heap H locs → lv_has ls 5 [(1, .ref (a1 4)), (2, .int x2), (3, .int x3_J29), (4, .int x4)] → W pr l e rm_X11_greatest_often s m args below meth c H locs 0 0 Q (F0 m 29 ls []) := by
          intro x3_J29 H locs ls h hP hS hl
          rw [eJ29] at h
          obtain ⟨x4_1, ex4_1, h⟩ := nm_el h
          refine lv_iinc (v := x4_1) (lv' := [(4, .int x4_1), (1, .ref (a1 4)), (2, .int x2), (3, .int x3_J29)]) X.1 X.2.1 dX11_greatest_29 hl (k := 3) rfl (by rw [ex4_1]; rfl) (by decide) rfl (fun ls hl => ?_)
          refine lv_goto (tgt := 5) X.1 X.2.1 dX11_greatest_32 (by decide) ?_
          exact ih x3_J29 x4_1 ex h H locs ls hP hS (lv_sub hl [1, 2, 3, 0] rfl) K
        obtain ⟨J26, eJ26, h⟩ := jn_el h
        have HJ26 : ∀ (_ : Unit) (H : Heap) (locs : List Loc) (ls : Array Slot), J26 () = some ex → va_P (dC, dI) vwCl (wPU tc a0 g0 q0_0 (a1 0) q0_2 q0_3 q0_4 q0_5 q0_6 q0_7 q0_8 q0_9 q0_10 q0_13 ++ (wSt tc a1 g1 q1_18 q1_19)) H → va_S A s.heap H locs → lv_has ls 5 [(1, .ref (a1 4)), (2, .int x2), (4, .int x4)] → W pr l e rm_X11_greatest_often s m args below meth c H locs 0 0 Q (F0 m 26 ls []) := by
          intro _ H locs ls h hP hS hl
          rw [eJ26] at h
          refine lv_iload X.1 X.2.1 dX11_greatest_26 (lv_at hl 2 rfl) ?_
          refine lv_istore_n (lv' := [(3, .int x4), (1, .ref (a1 4)), (2, .int x2), (4, .int x4)]) X.1 X.2.1 dX11_greatest_28 rfl hl (by decide) rfl (fun ls hl => ?_)
          exact HJ29 x4 H locs ls h hP hS (lv_sub hl [1, 2, 0, 3] rfl)
        refine lv_icmp_eq (tgt := 26) X.1 X.2.1 dX11_greatest_13 (by decide) (fun hc => ?_) (fun hc => ?_)
        · have h := it_t hc h
          exact HJ26 () H locs ls h hP hS (lv_sub hl [0, 1, 3] rfl)
        · have h := it_f hc h
          refine lv_aload_n X.1 X.2.1 dX11_greatest_16 rfl (lv_at hl 0 rfl) ?_
          refine lv_iload X.1 X.2.1 dX11_greatest_17 (lv_at hl 3 rfl) ?_
          obtain ⟨hg_2, h⟩ := gdi_el h
          refine r_iald X hP 4 0 rfl rfl hg_2 rfl dX11_greatest_19 ?_
          refine lv_aload_n X.1 X.2.1 dX11_greatest_20 rfl (lv_at hl 0 rfl) ?_
          refine lv_iload_n X.1 X.2.1 dX11_greatest_21 rfl (lv_at hl 2 rfl) ?_
          obtain ⟨hg_3, h⟩ := gdi_el h
          refine r_iald X hP 4 0 rfl rfl hg_3 rfl dX11_greatest_22 ?_
          refine lv_icmp_le (tgt := 29) X.1 X.2.1 dX11_greatest_23 (by decide) (fun hc => ?_) (fun hc => ?_)
          · have h := it_t hc h
            exact HJ29 x3 H locs ls h hP hS (lv_sub hl [0, 1, 2, 3] rfl)
          · have h := it_f hc h
            exact HJ26 () H locs ls h hP hS (lv_sub hl [0, 1, 3] rfl)
  unfold f_X11_greatest_often at h
  refine lv_iconst (v := (-1)) X.1 X.2.1 dX11_greatest_0 (by decide) ?_
  refine lv_istore_n (lv' := [(3, .int (-1)), (0, .ref (a0 0)), (1, .ref (a1 4)), (2, .int x2)]) X.1 X.2.1 dX11_greatest_1 rfl hl (by decide) rfl (fun ls hl => ?_)
  refine lv_iconst (v := 0) X.1 X.2.1 dX11_greatest_2 (by decide) ?_
  refine lv_istore (lv' := [(4, .int 0), (3, .int (-1)), (0, .ref (a0 0)), (1, .ref (a1 4)), (2, .int x2)]) X.1 X.2.1 dX11_greatest_3 hl (by decide) rfl (fun ls hl => ?_)
  obtain ⟨ex_4, hL_4, h⟩ := bd_el h
  refine HL5 x2 fu (-1) 0 ex_4 hL_4 H locs ls hP hS (lv_sub hl [3, 4, 1, 0] rfl) (fun x3_4 he H locs ls hP hS hl => ?_)
  subst he
  refine lv_iload_n X.1 X.2.1 dX11_greatest_35 rfl (lv_at hl 0 rfl) ?_
  exact ret_i0 (Option.some.inj h) X hQ hP hS dX11_greatest_36

def f_X11_greatest_lengths_L5 (x2 : Int32) (g0 : Pic) (g1 : Pic) (n : Nat) (a : Int32 × Int32) : Option (Int32) := lp (fun (rec : Int32 × Int32 → Option (Int32)) (a : Int32 × Int32) => match a with | (x3, x4) => (if x2 ≤ x4 then some x3 else jn (fun (x3_J29 : Int32) => nm (x4 + 1) (fun x4_1 => rec (x3_J29, x4_1))) (fun J29 => jn (fun (_ : Unit) => J29 x4) (fun J26 => (if x3 = (-1) then J26 () else gdi x4 8 (gdi x3 8 ((if (g1 2 (x4.toNatClampNeg)) ≤ (g1 2 (x3.toNatClampNeg)) then J29 x3 else J26 ())))))))) n a
def f_X11_greatest_lengths (g0 : Pic) (g1 : Pic) (x2 : Int32) : Option (Int32) := bd (f_X11_greatest_lengths_L5 x2 g0 g1 fu ((-1), 0)) (fun x3_4 => some x3_4)
abbrev rm_X11_greatest_lengths : Room := { frames := 0, cells := 0, slots := 0, locals := 0 }
set_option maxHeartbeats 4000000 in
set_option maxRecDepth 100000 in
theorem c_X11_greatest_lengths (l : Launch) (dC : Nat → ClassId) (dI : Nat → Nat → Nat) (sk sv : Nat → Nat) (tc : Nat → ClassId) (a0 : Nat → Nat) (q0_0 : Nat) (q0_2 : Nat) (q0_3 : Nat) (q0_4 : Nat) (q0_5 : Nat) (q0_6 : Nat) (q0_7 : Nat) (q0_8 : Nat) (q0_9 : Nat) (q0_10 : Nat) (q0_13 : Option Nat) (a1 : Nat → Nat) (q1_18 : Option Nat) (q1_19 : Nat) (g0 : Pic) (g1 : Pic) (x2 : Int32) {r0 : Int32} (h : f_X11_greatest_lengths g0 g1 x2 = some r0) : CT l (dC, dI) sk sv (TY tc) yX11_greatest cX11_greatest 5 (some .int) rm_X11_greatest_lengths [.ref (a0 0), .ref (a1 3), .int x2] (wPU tc a0 g0 q0_0 (a1 0) q0_2 q0_3 q0_4 q0_5 q0_6 q0_7 q0_8 q0_9 q0_10 q0_13 ++ (wSt tc a1 g1 q1_18 q1_19)) (some (.int r0)) (wPU tc a0 g0 q0_0 (a1 0) q0_2 q0_3 q0_4 q0_5 q0_6 q0_7 q0_8 q0_9 q0_10 q0_13 ++ (wSt tc a1 g1 q1_18 q1_19)) := by
  refine ofCT (by decide) (Nat.le_of_ble_eq_true rfl) ?_
  intro pr e s m args below meth c A Q ls H locs X hQ hD0 hP hS hl
  have hD : ∀ z0 z1, va_D A (wPU tc a0 z0 q0_0 (a1 0) q0_2 q0_3 q0_4 q0_5 q0_6 q0_7 q0_8 q0_9 q0_10 q0_13 ++ (wSt tc a1 z1 q1_18 q1_19)) := fun z0 z1 => D_fst (ws := (wPU tc a0 g0 q0_0 (a1 0) q0_2 q0_3 q0_4 q0_5 q0_6 q0_7 q0_8 q0_9 q0_10 q0_13 ++ (wSt tc a1 g1 q1_18 q1_19))) rfl hD0
  have hl : lv_has ls 5 [(0, .ref (a0 0)), (1, .ref (a1 3)), (2, .int x2)] := hl
  have HL5 : ∀ (x2 : Int32) (n : Nat) (x3 : Int32) (x4 : Int32) (ex : (Int32)), f_X11_greatest_lengths_L5 x2 g0 g1 n (x3, x4) = some ex → ∀ (H : Heap) (locs : List Loc) (ls : Array Slot), va_P (dC, dI) vwCl (wPU tc a0 g0 q0_0 (a1 0) q0_2 q0_3 q0_4 q0_5 q0_6 q0_7 q0_8 q0_9 q0_10 q0_13 ++ (wSt tc a1 g1 q1_18 q1_19)) H → va_S A s.heap H locs → lv_has ls 5 [(1, .ref (a1 3)), (2, .int x2), (3, .int x3), (4, .int x4)] → (∀ (y3 : Int32), y3 = ex → ∀ (H : Heap) (locs : List Loc) (ls : Array Slot), va_P (dC, dI) vwCl (wPU tc a0 g0 q0_0 (a1 0) q0_2 q0_3 q0_4 q0_5 q0_6 q0_7 q0_8 q0_9 q0_10 q0_13 ++ (wSt tc a1 g1 q1_18 q1_19)) H → va_S A s.heap H locs → lv_has ls 5 [(3, .int y3)] → W pr l e rm_X11_greatest_lengths s m args below meth c H locs 0 0 Q (F0 m 35 ls [])) → W pr l e rm_X11_greatest_lengths s m args below meth c H locs 0 0 Q (F0 m 5 ls []) := by
    intro x2 n
    induction n with
    | zero => intro x3 x4 ex h; exact lp_z h
    | succ n ih =>
      intro x3 x4 ex h H locs ls hP hS hl K
      have h := lp_s h
      refine lv_iload X.1 X.2.1 dX11_greatest_5 (lv_at hl 3 rfl) ?_
      refine lv_iload_n X.1 X.2.1 dX11_greatest_7 rfl (lv_at hl 1 rfl) ?_
      refine lv_icmp_ge (tgt := 35) X.1 X.2.1 dX11_greatest_8 (by decide) (fun hc => ?_) (fun hc => ?_)
      · have h := it_t hc h
        exact K x3 (Option.some.inj h) H locs ls hP hS (lv_sub hl [2] rfl)
      · have h := it_f hc h
        refine lv_iload_n X.1 X.2.1 dX11_greatest_11 rfl (lv_at hl 2 rfl) ?_
        refine lv_iconst (v := (-1)) X.1 X.2.1 dX11_greatest_12 (by decide) ?_
        obtain ⟨J29, eJ29, h⟩ := jn_el h
        have HJ29 : ∀ (x3_J29 : Int32) (H : Heap) (locs : List Loc) (ls : Array Slot), J29 x3_J29 = some ex → va_P (dC, dI) vwCl (wPU tc a0 g0 q0_0 (a1 0) q0_2 q0_3 q0_4 q0_5 q0_6 q0_7 q0_8 q0_9 q0_10 q0_13 ++ (wSt tc a1 g1 q1_18 q1_19)) H → va_S A s.heap H locs → lv_has ls 5 [(1, .ref (a1 3)), (2, .int x2), (3, .int x3_J29), (4, .int x4)] → W pr l e rm_X11_greatest_lengths s m args below meth c H locs 0 0 Q (F0 m 29 ls []) := by
          intro x3_J29 H locs ls h hP hS hl
          rw [eJ29] at h
          obtain ⟨x4_1, ex4_1, h⟩ := nm_el h
          refine lv_iinc (v := x4_1) (lv' := [(4, .int x4_1), (1, .ref (a1 3)), (2, .int x2), (3, .int x3_J29)]) X.1 X.2.1 dX11_greatest_29 hl (k := 3) rfl (by rw [ex4_1]; rfl) (by decide) rfl (fun ls hl => ?_)
          refine lv_goto (tgt := 5) X.1 X.2.1 dX11_greatest_32 (by decide) ?_
          exact ih x3_J29 x4_1 ex h H locs ls hP hS (lv_sub hl [1, 2, 3, 0] rfl) K
        obtain ⟨J26, eJ26, h⟩ := jn_el h
        have HJ26 : ∀ (_ : Unit) (H : Heap) (locs : List Loc) (ls : Array Slot), J26 () = some ex → va_P (dC, dI) vwCl (wPU tc a0 g0 q0_0 (a1 0) q0_2 q0_3 q0_4 q0_5 q0_6 q0_7 q0_8 q0_9 q0_10 q0_13 ++ (wSt tc a1 g1 q1_18 q1_19)) H → va_S A s.heap H locs → lv_has ls 5 [(1, .ref (a1 3)), (2, .int x2), (4, .int x4)] → W pr l e rm_X11_greatest_lengths s m args below meth c H locs 0 0 Q (F0 m 26 ls []) := by
          intro _ H locs ls h hP hS hl
          rw [eJ26] at h
          refine lv_iload X.1 X.2.1 dX11_greatest_26 (lv_at hl 2 rfl) ?_
          refine lv_istore_n (lv' := [(3, .int x4), (1, .ref (a1 3)), (2, .int x2), (4, .int x4)]) X.1 X.2.1 dX11_greatest_28 rfl hl (by decide) rfl (fun ls hl => ?_)
          exact HJ29 x4 H locs ls h hP hS (lv_sub hl [1, 2, 0, 3] rfl)
        refine lv_icmp_eq (tgt := 26) X.1 X.2.1 dX11_greatest_13 (by decide) (fun hc => ?_) (fun hc => ?_)
        · have h := it_t hc h
          exact HJ26 () H locs ls h hP hS (lv_sub hl [0, 1, 3] rfl)
        · have h := it_f hc h
          refine lv_aload_n X.1 X.2.1 dX11_greatest_16 rfl (lv_at hl 0 rfl) ?_
          refine lv_iload X.1 X.2.1 dX11_greatest_17 (lv_at hl 3 rfl) ?_
          obtain ⟨hg_2, h⟩ := gdi_el h
          refine r_iald X hP 3 0 rfl rfl hg_2 rfl dX11_greatest_19 ?_
          refine lv_aload_n X.1 X.2.1 dX11_greatest_20 rfl (lv_at hl 0 rfl) ?_
          refine lv_iload_n X.1 X.2.1 dX11_greatest_21 rfl (lv_at hl 2 rfl) ?_
          obtain ⟨hg_3, h⟩ := gdi_el h
          refine r_iald X hP 3 0 rfl rfl hg_3 rfl dX11_greatest_22 ?_
          refine lv_icmp_le (tgt := 29) X.1 X.2.1 dX11_greatest_23 (by decide) (fun hc => ?_) (fun hc => ?_)
          · have h := it_t hc h
            exact HJ29 x3 H locs ls h hP hS (lv_sub hl [0, 1, 2, 3] rfl)
          · have h := it_f hc h
            exact HJ26 () H locs ls h hP hS (lv_sub hl [0, 1, 3] rfl)
  unfold f_X11_greatest_lengths at h
  refine lv_iconst (v := (-1)) X.1 X.2.1 dX11_greatest_0 (by decide) ?_
  refine lv_istore_n (lv' := [(3, .int (-1)), (0, .ref (a0 0)), (1, .ref (a1 3)), (2, .int x2)]) X.1 X.2.1 dX11_greatest_1 rfl hl (by decide) rfl (fun ls hl => ?_)
  refine lv_iconst (v := 0) X.1 X.2.1 dX11_greatest_2 (by decide) ?_
  refine lv_istore (lv' := [(4, .int 0), (3, .int (-1)), (0, .ref (a0 0)), (1, .ref (a1 3)), (2, .int x2)]) X.1 X.2.1 dX11_greatest_3 hl (by decide) rfl (fun ls hl => ?_)
  obtain ⟨ex_4, hL_4, h⟩ := bd_el h
  refine HL5 x2 fu (-1) 0 ex_4 hL_4 H locs ls hP hS (lv_sub hl [3, 4, 1, 0] rfl) (fun x3_4 he H locs ls hP hS hl => ?_)
  subst he
  refine lv_iload_n X.1 X.2.1 dX11_greatest_35 rfl (lv_at hl 0 rfl) ?_
  exact ret_i0 (Option.some.inj h) X hQ hP hS dX11_greatest_36

def f_X11_greatest_speed_L5 (x2 : Int32) (g0 : Pic) (g1 : Pic) (n : Nat) (a : Int32 × Int32) : Option (Int32) := lp (fun (rec : Int32 × Int32 → Option (Int32)) (a : Int32 × Int32) => match a with | (x3, x4) => (if x2 ≤ x4 then some x3 else jn (fun (x3_J29 : Int32) => nm (x4 + 1) (fun x4_1 => rec (x3_J29, x4_1))) (fun J29 => jn (fun (_ : Unit) => J29 x4) (fun J26 => (if x3 = (-1) then J26 () else gdi x4 5 (gdi x3 5 ((if (g1 9 (x4.toNatClampNeg)) ≤ (g1 9 (x3.toNatClampNeg)) then J29 x3 else J26 ())))))))) n a
def f_X11_greatest_speed (g0 : Pic) (g1 : Pic) (x2 : Int32) : Option (Int32) := bd (f_X11_greatest_speed_L5 x2 g0 g1 fu ((-1), 0)) (fun x3_4 => some x3_4)
abbrev rm_X11_greatest_speed : Room := { frames := 0, cells := 0, slots := 0, locals := 0 }
set_option maxHeartbeats 4000000 in
set_option maxRecDepth 100000 in
theorem c_X11_greatest_speed (l : Launch) (dC : Nat → ClassId) (dI : Nat → Nat → Nat) (sk sv : Nat → Nat) (tc : Nat → ClassId) (a0 : Nat → Nat) (q0_0 : Nat) (q0_2 : Nat) (q0_3 : Nat) (q0_4 : Nat) (q0_5 : Nat) (q0_6 : Nat) (q0_7 : Nat) (q0_8 : Nat) (q0_9 : Nat) (q0_10 : Nat) (q0_13 : Option Nat) (a1 : Nat → Nat) (q1_18 : Option Nat) (q1_19 : Nat) (g0 : Pic) (g1 : Pic) (x2 : Int32) {r0 : Int32} (h : f_X11_greatest_speed g0 g1 x2 = some r0) : CT l (dC, dI) sk sv (TY tc) yX11_greatest cX11_greatest 5 (some .int) rm_X11_greatest_speed [.ref (a0 0), .ref (a1 10), .int x2] (wPU tc a0 g0 q0_0 (a1 0) q0_2 q0_3 q0_4 q0_5 q0_6 q0_7 q0_8 q0_9 q0_10 q0_13 ++ (wSt tc a1 g1 q1_18 q1_19)) (some (.int r0)) (wPU tc a0 g0 q0_0 (a1 0) q0_2 q0_3 q0_4 q0_5 q0_6 q0_7 q0_8 q0_9 q0_10 q0_13 ++ (wSt tc a1 g1 q1_18 q1_19)) := by
  refine ofCT (by decide) (Nat.le_of_ble_eq_true rfl) ?_
  intro pr e s m args below meth c A Q ls H locs X hQ hD0 hP hS hl
  have hD : ∀ z0 z1, va_D A (wPU tc a0 z0 q0_0 (a1 0) q0_2 q0_3 q0_4 q0_5 q0_6 q0_7 q0_8 q0_9 q0_10 q0_13 ++ (wSt tc a1 z1 q1_18 q1_19)) := fun z0 z1 => D_fst (ws := (wPU tc a0 g0 q0_0 (a1 0) q0_2 q0_3 q0_4 q0_5 q0_6 q0_7 q0_8 q0_9 q0_10 q0_13 ++ (wSt tc a1 g1 q1_18 q1_19))) rfl hD0
  have hl : lv_has ls 5 [(0, .ref (a0 0)), (1, .ref (a1 10)), (2, .int x2)] := hl
  have HL5 : ∀ (x2 : Int32) (n : Nat) (x3 : Int32) (x4 : Int32) (ex : (Int32)), f_X11_greatest_speed_L5 x2 g0 g1 n (x3, x4) = some ex → ∀ (H : Heap) (locs : List Loc) (ls : Array Slot), va_P (dC, dI) vwCl (wPU tc a0 g0 q0_0 (a1 0) q0_2 q0_3 q0_4 q0_5 q0_6 q0_7 q0_8 q0_9 q0_10 q0_13 ++ (wSt tc a1 g1 q1_18 q1_19)) H → va_S A s.heap H locs → lv_has ls 5 [(1, .ref (a1 10)), (2, .int x2), (3, .int x3), (4, .int x4)] → (∀ (y3 : Int32), y3 = ex → ∀ (H : Heap) (locs : List Loc) (ls : Array Slot), va_P (dC, dI) vwCl (wPU tc a0 g0 q0_0 (a1 0) q0_2 q0_3 q0_4 q0_5 q0_6 q0_7 q0_8 q0_9 q0_10 q0_13 ++ (wSt tc a1 g1 q1_18 q1_19)) H → va_S A s.heap H locs → lv_has ls 5 [(3, .int y3)] → W pr l e rm_X11_greatest_speed s m args below meth c H locs 0 0 Q (F0 m 35 ls [])) → W pr l e rm_X11_greatest_speed s m args below meth c H locs 0 0 Q (F0 m 5 ls []) := by
    intro x2 n
    induction n with
    | zero => intro x3 x4 ex h; exact lp_z h
    | succ n ih =>
      intro x3 x4 ex h H locs ls hP hS hl K
      have h := lp_s h
      refine lv_iload X.1 X.2.1 dX11_greatest_5 (lv_at hl 3 rfl) ?_
      refine lv_iload_n X.1 X.2.1 dX11_greatest_7 rfl (lv_at hl 1 rfl) ?_
      refine lv_icmp_ge (tgt := 35) X.1 X.2.1 dX11_greatest_8 (by decide) (fun hc => ?_) (fun hc => ?_)
      · have h := it_t hc h
        exact K x3 (Option.some.inj h) H locs ls hP hS (lv_sub hl [2] rfl)
      · have h := it_f hc h
        refine lv_iload_n X.1 X.2.1 dX11_greatest_11 rfl (lv_at hl 2 rfl) ?_
        refine lv_iconst (v := (-1)) X.1 X.2.1 dX11_greatest_12 (by decide) ?_
        obtain ⟨J29, eJ29, h⟩ := jn_el h
        have HJ29 : ∀ (x3_J29 : Int32) (H : Heap) (locs : List Loc) (ls : Array Slot), J29 x3_J29 = some ex → va_P (dC, dI) vwCl (wPU tc a0 g0 q0_0 (a1 0) q0_2 q0_3 q0_4 q0_5 q0_6 q0_7 q0_8 q0_9 q0_10 q0_13 ++ (wSt tc a1 g1 q1_18 q1_19)) H → va_S A s.heap H locs → lv_has ls 5 [(1, .ref (a1 10)), (2, .int x2), (3, .int x3_J29), (4, .int x4)] → W pr l e rm_X11_greatest_speed s m args below meth c H locs 0 0 Q (F0 m 29 ls []) := by
          intro x3_J29 H locs ls h hP hS hl
          rw [eJ29] at h
          obtain ⟨x4_1, ex4_1, h⟩ := nm_el h
          refine lv_iinc (v := x4_1) (lv' := [(4, .int x4_1), (1, .ref (a1 10)), (2, .int x2), (3, .int x3_J29)]) X.1 X.2.1 dX11_greatest_29 hl (k := 3) rfl (by rw [ex4_1]; rfl) (by decide) rfl (fun ls hl => ?_)
          refine lv_goto (tgt := 5) X.1 X.2.1 dX11_greatest_32 (by decide) ?_
          exact ih x3_J29 x4_1 ex h H locs ls hP hS (lv_sub hl [1, 2, 3, 0] rfl) K
        obtain ⟨J26, eJ26, h⟩ := jn_el h
        have HJ26 : ∀ (_ : Unit) (H : Heap) (locs : List Loc) (ls : Array Slot), J26 () = some ex → va_P (dC, dI) vwCl (wPU tc a0 g0 q0_0 (a1 0) q0_2 q0_3 q0_4 q0_5 q0_6 q0_7 q0_8 q0_9 q0_10 q0_13 ++ (wSt tc a1 g1 q1_18 q1_19)) H → va_S A s.heap H locs → lv_has ls 5 [(1, .ref (a1 10)), (2, .int x2), (4, .int x4)] → W pr l e rm_X11_greatest_speed s m args below meth c H locs 0 0 Q (F0 m 26 ls []) := by
          intro _ H locs ls h hP hS hl
          rw [eJ26] at h
          refine lv_iload X.1 X.2.1 dX11_greatest_26 (lv_at hl 2 rfl) ?_
          refine lv_istore_n (lv' := [(3, .int x4), (1, .ref (a1 10)), (2, .int x2), (4, .int x4)]) X.1 X.2.1 dX11_greatest_28 rfl hl (by decide) rfl (fun ls hl => ?_)
          exact HJ29 x4 H locs ls h hP hS (lv_sub hl [1, 2, 0, 3] rfl)
        refine lv_icmp_eq (tgt := 26) X.1 X.2.1 dX11_greatest_13 (by decide) (fun hc => ?_) (fun hc => ?_)
        · have h := it_t hc h
          exact HJ26 () H locs ls h hP hS (lv_sub hl [0, 1, 3] rfl)
        · have h := it_f hc h
          refine lv_aload_n X.1 X.2.1 dX11_greatest_16 rfl (lv_at hl 0 rfl) ?_
          refine lv_iload X.1 X.2.1 dX11_greatest_17 (lv_at hl 3 rfl) ?_
          obtain ⟨hg_2, h⟩ := gdi_el h
          refine r_iald X hP 7 0 rfl rfl hg_2 rfl dX11_greatest_19 ?_
          refine lv_aload_n X.1 X.2.1 dX11_greatest_20 rfl (lv_at hl 0 rfl) ?_
          refine lv_iload_n X.1 X.2.1 dX11_greatest_21 rfl (lv_at hl 2 rfl) ?_
          obtain ⟨hg_3, h⟩ := gdi_el h
          refine r_iald X hP 7 0 rfl rfl hg_3 rfl dX11_greatest_22 ?_
          refine lv_icmp_le (tgt := 29) X.1 X.2.1 dX11_greatest_23 (by decide) (fun hc => ?_) (fun hc => ?_)
          · have h := it_t hc h
            exact HJ29 x3 H locs ls h hP hS (lv_sub hl [0, 1, 2, 3] rfl)
          · have h := it_f hc h
            exact HJ26 () H locs ls h hP hS (lv_sub hl [0, 1, 3] rfl)
  unfold f_X11_greatest_speed at h
  refine lv_iconst (v := (-1)) X.1 X.2.1 dX11_greatest_0 (by decide) ?_
  refine lv_istore_n (lv' := [(3, .int (-1)), (0, .ref (a0 0)), (1, .ref (a1 10)), (2, .int x2)]) X.1 X.2.1 dX11_greatest_1 rfl hl (by decide) rfl (fun ls hl => ?_)
  refine lv_iconst (v := 0) X.1 X.2.1 dX11_greatest_2 (by decide) ?_
  refine lv_istore (lv' := [(4, .int 0), (3, .int (-1)), (0, .ref (a0 0)), (1, .ref (a1 10)), (2, .int x2)]) X.1 X.2.1 dX11_greatest_3 hl (by decide) rfl (fun ls hl => ?_)
  obtain ⟨ex_4, hL_4, h⟩ := bd_el h
  refine HL5 x2 fu (-1) 0 ex_4 hL_4 H locs ls hP hS (lv_sub hl [3, 4, 1, 0] rfl) (fun x3_4 he H locs ls hP hS hl => ?_)
  subst he
  refine lv_iload_n X.1 X.2.1 dX11_greatest_35 rfl (lv_at hl 0 rfl) ?_
  exact ret_i0 (Option.some.inj h) X hQ hP hS dX11_greatest_36

def f_X11_greatest_tired_L5 (x2 : Int32) (g0 : Pic) (g1 : Pic) (n : Nat) (a : Int32 × Int32) : Option (Int32) := lp (fun (rec : Int32 × Int32 → Option (Int32)) (a : Int32 × Int32) => match a with | (x3, x4) => (if x2 ≤ x4 then some x3 else jn (fun (x3_J29 : Int32) => nm (x4 + 1) (fun x4_1 => rec (x3_J29, x4_1))) (fun J29 => jn (fun (_ : Unit) => J29 x4) (fun J26 => (if x3 = (-1) then J26 () else gdi x4 5 (gdi x3 5 ((if (g1 11 (x4.toNatClampNeg)) ≤ (g1 11 (x3.toNatClampNeg)) then J29 x3 else J26 ())))))))) n a
def f_X11_greatest_tired (g0 : Pic) (g1 : Pic) (x2 : Int32) : Option (Int32) := bd (f_X11_greatest_tired_L5 x2 g0 g1 fu ((-1), 0)) (fun x3_4 => some x3_4)
abbrev rm_X11_greatest_tired : Room := { frames := 0, cells := 0, slots := 0, locals := 0 }
set_option maxHeartbeats 4000000 in
set_option maxRecDepth 100000 in
theorem c_X11_greatest_tired (l : Launch) (dC : Nat → ClassId) (dI : Nat → Nat → Nat) (sk sv : Nat → Nat) (tc : Nat → ClassId) (a0 : Nat → Nat) (q0_0 : Nat) (q0_2 : Nat) (q0_3 : Nat) (q0_4 : Nat) (q0_5 : Nat) (q0_6 : Nat) (q0_7 : Nat) (q0_8 : Nat) (q0_9 : Nat) (q0_10 : Nat) (q0_13 : Option Nat) (a1 : Nat → Nat) (q1_18 : Option Nat) (q1_19 : Nat) (g0 : Pic) (g1 : Pic) (x2 : Int32) {r0 : Int32} (h : f_X11_greatest_tired g0 g1 x2 = some r0) : CT l (dC, dI) sk sv (TY tc) yX11_greatest cX11_greatest 5 (some .int) rm_X11_greatest_tired [.ref (a0 0), .ref (a1 12), .int x2] (wPU tc a0 g0 q0_0 (a1 0) q0_2 q0_3 q0_4 q0_5 q0_6 q0_7 q0_8 q0_9 q0_10 q0_13 ++ (wSt tc a1 g1 q1_18 q1_19)) (some (.int r0)) (wPU tc a0 g0 q0_0 (a1 0) q0_2 q0_3 q0_4 q0_5 q0_6 q0_7 q0_8 q0_9 q0_10 q0_13 ++ (wSt tc a1 g1 q1_18 q1_19)) := by
  refine ofCT (by decide) (Nat.le_of_ble_eq_true rfl) ?_
  intro pr e s m args below meth c A Q ls H locs X hQ hD0 hP hS hl
  have hD : ∀ z0 z1, va_D A (wPU tc a0 z0 q0_0 (a1 0) q0_2 q0_3 q0_4 q0_5 q0_6 q0_7 q0_8 q0_9 q0_10 q0_13 ++ (wSt tc a1 z1 q1_18 q1_19)) := fun z0 z1 => D_fst (ws := (wPU tc a0 g0 q0_0 (a1 0) q0_2 q0_3 q0_4 q0_5 q0_6 q0_7 q0_8 q0_9 q0_10 q0_13 ++ (wSt tc a1 g1 q1_18 q1_19))) rfl hD0
  have hl : lv_has ls 5 [(0, .ref (a0 0)), (1, .ref (a1 12)), (2, .int x2)] := hl
  have HL5 : ∀ (x2 : Int32) (n : Nat) (x3 : Int32) (x4 : Int32) (ex : (Int32)), f_X11_greatest_tired_L5 x2 g0 g1 n (x3, x4) = some ex → ∀ (H : Heap) (locs : List Loc) (ls : Array Slot), va_P (dC, dI) vwCl (wPU tc a0 g0 q0_0 (a1 0) q0_2 q0_3 q0_4 q0_5 q0_6 q0_7 q0_8 q0_9 q0_10 q0_13 ++ (wSt tc a1 g1 q1_18 q1_19)) H → va_S A s.heap H locs → lv_has ls 5 [(1, .ref (a1 12)), (2, .int x2), (3, .int x3), (4, .int x4)] → (∀ (y3 : Int32), y3 = ex → ∀ (H : Heap) (locs : List Loc) (ls : Array Slot), va_P (dC, dI) vwCl (wPU tc a0 g0 q0_0 (a1 0) q0_2 q0_3 q0_4 q0_5 q0_6 q0_7 q0_8 q0_9 q0_10 q0_13 ++ (wSt tc a1 g1 q1_18 q1_19)) H → va_S A s.heap H locs → lv_has ls 5 [(3, .int y3)] → W pr l e rm_X11_greatest_tired s m args below meth c H locs 0 0 Q (F0 m 35 ls [])) → W pr l e rm_X11_greatest_tired s m args below meth c H locs 0 0 Q (F0 m 5 ls []) := by
    intro x2 n
    induction n with
    | zero => intro x3 x4 ex h; exact lp_z h
    | succ n ih =>
      intro x3 x4 ex h H locs ls hP hS hl K
      have h := lp_s h
      refine lv_iload X.1 X.2.1 dX11_greatest_5 (lv_at hl 3 rfl) ?_
      refine lv_iload_n X.1 X.2.1 dX11_greatest_7 rfl (lv_at hl 1 rfl) ?_
      refine lv_icmp_ge (tgt := 35) X.1 X.2.1 dX11_greatest_8 (by decide) (fun hc => ?_) (fun hc => ?_)
      · have h := it_t hc h
        exact K x3 (Option.some.inj h) H locs ls hP hS (lv_sub hl [2] rfl)
      · have h := it_f hc h
        refine lv_iload_n X.1 X.2.1 dX11_greatest_11 rfl (lv_at hl 2 rfl) ?_
        refine lv_iconst (v := (-1)) X.1 X.2.1 dX11_greatest_12 (by decide) ?_
        obtain ⟨J29, eJ29, h⟩ := jn_el h
        have HJ29 : ∀ (x3_J29 : Int32) (H : Heap) (locs : List Loc) (ls : Array Slot), J29 x3_J29 = some ex → va_P (dC, dI) vwCl (wPU tc a0 g0 q0_0 (a1 0) q0_2 q0_3 q0_4 q0_5 q0_6 q0_7 q0_8 q0_9 q0_10 q0_13 ++ (wSt tc a1 g1 q1_18 q1_19)) H → va_S A s.heap H locs → lv_has ls 5 [(1, .ref (a1 12)), (2, .int x2), (3, .int x3_J29), (4, .int x4)] → W pr l e rm_X11_greatest_tired s m args below meth c H locs 0 0 Q (F0 m 29 ls []) := by
          intro x3_J29 H locs ls h hP hS hl
          rw [eJ29] at h
          obtain ⟨x4_1, ex4_1, h⟩ := nm_el h
          refine lv_iinc (v := x4_1) (lv' := [(4, .int x4_1), (1, .ref (a1 12)), (2, .int x2), (3, .int x3_J29)]) X.1 X.2.1 dX11_greatest_29 hl (k := 3) rfl (by rw [ex4_1]; rfl) (by decide) rfl (fun ls hl => ?_)
          refine lv_goto (tgt := 5) X.1 X.2.1 dX11_greatest_32 (by decide) ?_
          exact ih x3_J29 x4_1 ex h H locs ls hP hS (lv_sub hl [1, 2, 3, 0] rfl) K
        obtain ⟨J26, eJ26, h⟩ := jn_el h
        have HJ26 : ∀ (_ : Unit) (H : Heap) (locs : List Loc) (ls : Array Slot), J26 () = some ex → va_P (dC, dI) vwCl (wPU tc a0 g0 q0_0 (a1 0) q0_2 q0_3 q0_4 q0_5 q0_6 q0_7 q0_8 q0_9 q0_10 q0_13 ++ (wSt tc a1 g1 q1_18 q1_19)) H → va_S A s.heap H locs → lv_has ls 5 [(1, .ref (a1 12)), (2, .int x2), (4, .int x4)] → W pr l e rm_X11_greatest_tired s m args below meth c H locs 0 0 Q (F0 m 26 ls []) := by
          intro _ H locs ls h hP hS hl
          rw [eJ26] at h
          refine lv_iload X.1 X.2.1 dX11_greatest_26 (lv_at hl 2 rfl) ?_
          refine lv_istore_n (lv' := [(3, .int x4), (1, .ref (a1 12)), (2, .int x2), (4, .int x4)]) X.1 X.2.1 dX11_greatest_28 rfl hl (by decide) rfl (fun ls hl => ?_)
          exact HJ29 x4 H locs ls h hP hS (lv_sub hl [1, 2, 0, 3] rfl)
        refine lv_icmp_eq (tgt := 26) X.1 X.2.1 dX11_greatest_13 (by decide) (fun hc => ?_) (fun hc => ?_)
        · have h := it_t hc h
          exact HJ26 () H locs ls h hP hS (lv_sub hl [0, 1, 3] rfl)
        · have h := it_f hc h
          refine lv_aload_n X.1 X.2.1 dX11_greatest_16 rfl (lv_at hl 0 rfl) ?_
          refine lv_iload X.1 X.2.1 dX11_greatest_17 (lv_at hl 3 rfl) ?_
          obtain ⟨hg_2, h⟩ := gdi_el h
          refine r_iald X hP 9 0 rfl rfl hg_2 rfl dX11_greatest_19 ?_
          refine lv_aload_n X.1 X.2.1 dX11_greatest_20 rfl (lv_at hl 0 rfl) ?_
          refine lv_iload_n X.1 X.2.1 dX11_greatest_21 rfl (lv_at hl 2 rfl) ?_
          obtain ⟨hg_3, h⟩ := gdi_el h
          refine r_iald X hP 9 0 rfl rfl hg_3 rfl dX11_greatest_22 ?_
          refine lv_icmp_le (tgt := 29) X.1 X.2.1 dX11_greatest_23 (by decide) (fun hc => ?_) (fun hc => ?_)
          · have h := it_t hc h
            exact HJ29 x3 H locs ls h hP hS (lv_sub hl [0, 1, 2, 3] rfl)
          · have h := it_f hc h
            exact HJ26 () H locs ls h hP hS (lv_sub hl [0, 1, 3] rfl)
  unfold f_X11_greatest_tired at h
  refine lv_iconst (v := (-1)) X.1 X.2.1 dX11_greatest_0 (by decide) ?_
  refine lv_istore_n (lv' := [(3, .int (-1)), (0, .ref (a0 0)), (1, .ref (a1 12)), (2, .int x2)]) X.1 X.2.1 dX11_greatest_1 rfl hl (by decide) rfl (fun ls hl => ?_)
  refine lv_iconst (v := 0) X.1 X.2.1 dX11_greatest_2 (by decide) ?_
  refine lv_istore (lv' := [(4, .int 0), (3, .int (-1)), (0, .ref (a0 0)), (1, .ref (a1 12)), (2, .int x2)]) X.1 X.2.1 dX11_greatest_3 hl (by decide) rfl (fun ls hl => ?_)
  obtain ⟨ex_4, hL_4, h⟩ := bd_el h
  refine HL5 x2 fu (-1) 0 ex_4 hL_4 H locs ls hP hS (lv_sub hl [3, 4, 1, 0] rfl) (fun x3_4 he H locs ls hP hS hl => ?_)
  subst he
  refine lv_iload_n X.1 X.2.1 dX11_greatest_35 rfl (lv_at hl 0 rfl) ?_
  exact ret_i0 (Option.some.inj h) X hQ hP hS dX11_greatest_36

def f_X11_feed (g0 : Pic) (g1 : Pic) (x1 : Int32) (x2 : Int32) (x3 : Int32) (x4 : Int32) (x5 : Int32) : Option (Int32 × Pic) := (if ((g1 1 0) + 20) ≤ 400 then bd (f_X10_addNumber g1 x1) (fun g1_1 => bd (f_X10_addNumber g1_1 x2) (fun g1_2 => bd (f_X10_addNumber g1_2 x3) (fun g1_3 => bd (f_X10_addNumber g1_3 x4) (fun g1_4 => bd (f_X10_addNumber g1_4 x5) (fun g1_5 => some ((g1_5 1 0), g1_5)))))) else some ((-1), g1))
abbrev rm_X11_feed : Room := { frames := 1, cells := 0, slots := 0, locals := 22 }
set_option maxHeartbeats 4000000 in
set_option maxRecDepth 100000 in
theorem c_X11_feed (l : Launch) (dC : Nat → ClassId) (dI : Nat → Nat → Nat) (sk sv : Nat → Nat) (tc : Nat → ClassId) (a0 : Nat → Nat) (q0_1 : Nat) (q0_2 : Nat) (q0_3 : Nat) (q0_4 : Nat) (q0_5 : Nat) (q0_6 : Nat) (q0_7 : Nat) (q0_8 : Nat) (q0_9 : Nat) (q0_10 : Nat) (q0_13 : Option Nat) (a1 : Nat → Nat) (g0 : Pic) (g1 : Pic) (x1 : Int32) (x2 : Int32) (x3 : Int32) (x4 : Int32) (x5 : Int32) {r0 : Int32} {G1 : Pic} (h : f_X11_feed g0 g1 x1 x2 x3 x4 x5 = some (r0, G1)) : CT l (dC, dI) sk sv (TY tc) yX11_feed cX11_feed 6 (some .int) rm_X11_feed [.ref (a0 0), .int x1, .int x2, .int x3, .int x4, .int x5] (wPU tc a0 g0 (a1 0) q0_1 q0_2 q0_3 q0_4 q0_5 q0_6 q0_7 q0_8 q0_9 q0_10 q0_13 ++ (wTp tc a1 g1)) (some (.int r0)) (wPU tc a0 g0 (a1 0) q0_1 q0_2 q0_3 q0_4 q0_5 q0_6 q0_7 q0_8 q0_9 q0_10 q0_13 ++ (wTp tc a1 G1)) := by
  refine ofCT (by decide) (Nat.le_of_ble_eq_true rfl) ?_
  intro pr e s m args below meth c A Q ls H locs X hQ hD0 hP hS hl
  have hD : ∀ z0 z1, va_D A (wPU tc a0 z0 (a1 0) q0_1 q0_2 q0_3 q0_4 q0_5 q0_6 q0_7 q0_8 q0_9 q0_10 q0_13 ++ (wTp tc a1 z1)) := fun z0 z1 => D_fst (ws := (wPU tc a0 g0 (a1 0) q0_1 q0_2 q0_3 q0_4 q0_5 q0_6 q0_7 q0_8 q0_9 q0_10 q0_13 ++ (wTp tc a1 g1))) rfl hD0
  have hl : lv_has ls 6 [(0, .ref (a0 0)), (1, .int x1), (2, .int x2), (3, .int x3), (4, .int x4), (5, .int x5)] := hl
  unfold f_X11_feed at h
  refine lv_aload_n X.1 X.2.1 dX11_feed_0 rfl (lv_at hl 0 rfl) ?_
  refine r_get (C := RX11) (T := TX11) (N := 15) (ci := 11) (v := .ref (a1 0)) X iw11 hP 0 rfl rfl 0 rfl mw_2_143 rfl dX11_feed_1 ?_
  refine r_get (C := RX10) (T := TX10) (N := 8) (ci := 10) (v := .int (g1 1 0)) X iw10 hP 1 rfl rfl 1 rfl mw_1_46 rfl dX11_feed_4 ?_
  refine lv_bipush (v := 20) X.1 X.2.1 dX11_feed_7 (by decide) ?_
  refine lv_iadd X.1 X.2.1 dX11_feed_9 ?_
  refine lv_sipush (v := 400) X.1 X.2.1 dX11_feed_10 (by decide) ?_
  refine lv_icmp_le (tgt := 18) X.1 X.2.1 dX11_feed_13 (by decide) (fun hc => ?_) (fun hc => ?_)
  · have h := it_t hc h
    refine lv_aload_n X.1 X.2.1 dX11_feed_18 rfl (lv_at hl 0 rfl) ?_
    refine r_get (C := RX11) (T := TX11) (N := 15) (ci := 11) (v := .ref (a1 0)) X iw11 hP 0 rfl rfl 0 rfl mw_2_143 rfl dX11_feed_19 ?_
    refine lv_iload_n X.1 X.2.1 dX11_feed_22 rfl (lv_at hl 1 rfl) ?_
    obtain ⟨g1_1, hc_1, h⟩ := bd_el h
    refine call_Vsv (ws := (wPU tc a0 g0 (a1 0) q0_1 q0_2 q0_3 q0_4 q0_5 q0_6 q0_7 q0_8 q0_9 q0_10 q0_13 ++ (wTp tc a1 g1))) (ws' := (wPU tc a0 g0 (a1 0) q0_1 q0_2 q0_3 q0_4 q0_5 q0_6 q0_7 q0_8 q0_9 q0_10 q0_13 ++ (wTp tc a1 g1_1))) (wPU tc a0 g0 (a1 0) q0_1 q0_2 q0_3 q0_4 q0_5 q0_6 q0_7 q0_8 q0_9 q0_10 q0_13) [] (As := [.int x1]) (rest := []) X (c_X10_addNumber l dC dI sk sv tc a1 g1 x1 hc_1) mw_2_193 mw_2_194 mw_2_195 mw_1_2 mw_2_196 dc_X10_addNumber ⟨Nat.le_of_ble_eq_true rfl, Nat.le_of_ble_eq_true rfl⟩ rfl rfl ⟨Nat.zero_le _, Nat.zero_le _⟩ (by simp only [List.append_assoc, List.nil_append, List.append_nil]) (by simp only [List.append_assoc, List.nil_append, List.append_nil]) hP (hD _ _) hS 0 rfl rfl rfl hl.1 (Nat.le_of_ble_eq_true rfl) dX11_feed_23 (fun H locs hP hS => ?_)
    refine lv_aload_n X.1 X.2.1 dX11_feed_26 rfl (lv_at hl 0 rfl) ?_
    refine r_get (C := RX11) (T := TX11) (N := 15) (ci := 11) (v := .ref (a1 0)) X iw11 hP 0 rfl rfl 0 rfl mw_2_143 rfl dX11_feed_27 ?_
    refine lv_iload_n X.1 X.2.1 dX11_feed_30 rfl (lv_at hl 2 rfl) ?_
    obtain ⟨g1_2, hc_2, h⟩ := bd_el h
    refine call_Vsv (ws := (wPU tc a0 g0 (a1 0) q0_1 q0_2 q0_3 q0_4 q0_5 q0_6 q0_7 q0_8 q0_9 q0_10 q0_13 ++ (wTp tc a1 g1_1))) (ws' := (wPU tc a0 g0 (a1 0) q0_1 q0_2 q0_3 q0_4 q0_5 q0_6 q0_7 q0_8 q0_9 q0_10 q0_13 ++ (wTp tc a1 g1_2))) (wPU tc a0 g0 (a1 0) q0_1 q0_2 q0_3 q0_4 q0_5 q0_6 q0_7 q0_8 q0_9 q0_10 q0_13) [] (As := [.int x2]) (rest := []) X (c_X10_addNumber l dC dI sk sv tc a1 g1_1 x2 hc_2) mw_2_193 mw_2_194 mw_2_195 mw_1_2 mw_2_196 dc_X10_addNumber ⟨Nat.le_of_ble_eq_true rfl, Nat.le_of_ble_eq_true rfl⟩ rfl rfl ⟨Nat.zero_le _, Nat.zero_le _⟩ (by simp only [List.append_assoc, List.nil_append, List.append_nil]) (by simp only [List.append_assoc, List.nil_append, List.append_nil]) hP (hD _ _) hS 0 rfl rfl rfl hl.1 (Nat.le_of_ble_eq_true rfl) dX11_feed_31 (fun H locs hP hS => ?_)
    refine lv_aload_n X.1 X.2.1 dX11_feed_34 rfl (lv_at hl 0 rfl) ?_
    refine r_get (C := RX11) (T := TX11) (N := 15) (ci := 11) (v := .ref (a1 0)) X iw11 hP 0 rfl rfl 0 rfl mw_2_143 rfl dX11_feed_35 ?_
    refine lv_iload_n X.1 X.2.1 dX11_feed_38 rfl (lv_at hl 3 rfl) ?_
    obtain ⟨g1_3, hc_3, h⟩ := bd_el h
    refine call_Vsv (ws := (wPU tc a0 g0 (a1 0) q0_1 q0_2 q0_3 q0_4 q0_5 q0_6 q0_7 q0_8 q0_9 q0_10 q0_13 ++ (wTp tc a1 g1_2))) (ws' := (wPU tc a0 g0 (a1 0) q0_1 q0_2 q0_3 q0_4 q0_5 q0_6 q0_7 q0_8 q0_9 q0_10 q0_13 ++ (wTp tc a1 g1_3))) (wPU tc a0 g0 (a1 0) q0_1 q0_2 q0_3 q0_4 q0_5 q0_6 q0_7 q0_8 q0_9 q0_10 q0_13) [] (As := [.int x3]) (rest := []) X (c_X10_addNumber l dC dI sk sv tc a1 g1_2 x3 hc_3) mw_2_193 mw_2_194 mw_2_195 mw_1_2 mw_2_196 dc_X10_addNumber ⟨Nat.le_of_ble_eq_true rfl, Nat.le_of_ble_eq_true rfl⟩ rfl rfl ⟨Nat.zero_le _, Nat.zero_le _⟩ (by simp only [List.append_assoc, List.nil_append, List.append_nil]) (by simp only [List.append_assoc, List.nil_append, List.append_nil]) hP (hD _ _) hS 0 rfl rfl rfl hl.1 (Nat.le_of_ble_eq_true rfl) dX11_feed_39 (fun H locs hP hS => ?_)
    refine lv_aload_n X.1 X.2.1 dX11_feed_42 rfl (lv_at hl 0 rfl) ?_
    refine r_get (C := RX11) (T := TX11) (N := 15) (ci := 11) (v := .ref (a1 0)) X iw11 hP 0 rfl rfl 0 rfl mw_2_143 rfl dX11_feed_43 ?_
    refine lv_iload X.1 X.2.1 dX11_feed_46 (lv_at hl 4 rfl) ?_
    obtain ⟨g1_4, hc_4, h⟩ := bd_el h
    refine call_Vsv (ws := (wPU tc a0 g0 (a1 0) q0_1 q0_2 q0_3 q0_4 q0_5 q0_6 q0_7 q0_8 q0_9 q0_10 q0_13 ++ (wTp tc a1 g1_3))) (ws' := (wPU tc a0 g0 (a1 0) q0_1 q0_2 q0_3 q0_4 q0_5 q0_6 q0_7 q0_8 q0_9 q0_10 q0_13 ++ (wTp tc a1 g1_4))) (wPU tc a0 g0 (a1 0) q0_1 q0_2 q0_3 q0_4 q0_5 q0_6 q0_7 q0_8 q0_9 q0_10 q0_13) [] (As := [.int x4]) (rest := []) X (c_X10_addNumber l dC dI sk sv tc a1 g1_3 x4 hc_4) mw_2_193 mw_2_194 mw_2_195 mw_1_2 mw_2_196 dc_X10_addNumber ⟨Nat.le_of_ble_eq_true rfl, Nat.le_of_ble_eq_true rfl⟩ rfl rfl ⟨Nat.zero_le _, Nat.zero_le _⟩ (by simp only [List.append_assoc, List.nil_append, List.append_nil]) (by simp only [List.append_assoc, List.nil_append, List.append_nil]) hP (hD _ _) hS 0 rfl rfl rfl hl.1 (Nat.le_of_ble_eq_true rfl) dX11_feed_48 (fun H locs hP hS => ?_)
    refine lv_aload_n X.1 X.2.1 dX11_feed_51 rfl (lv_at hl 0 rfl) ?_
    refine r_get (C := RX11) (T := TX11) (N := 15) (ci := 11) (v := .ref (a1 0)) X iw11 hP 0 rfl rfl 0 rfl mw_2_143 rfl dX11_feed_52 ?_
    refine lv_iload X.1 X.2.1 dX11_feed_55 (lv_at hl 5 rfl) ?_
    obtain ⟨g1_5, hc_5, h⟩ := bd_el h
    refine call_Vsv (ws := (wPU tc a0 g0 (a1 0) q0_1 q0_2 q0_3 q0_4 q0_5 q0_6 q0_7 q0_8 q0_9 q0_10 q0_13 ++ (wTp tc a1 g1_4))) (ws' := (wPU tc a0 g0 (a1 0) q0_1 q0_2 q0_3 q0_4 q0_5 q0_6 q0_7 q0_8 q0_9 q0_10 q0_13 ++ (wTp tc a1 g1_5))) (wPU tc a0 g0 (a1 0) q0_1 q0_2 q0_3 q0_4 q0_5 q0_6 q0_7 q0_8 q0_9 q0_10 q0_13) [] (As := [.int x5]) (rest := []) X (c_X10_addNumber l dC dI sk sv tc a1 g1_4 x5 hc_5) mw_2_193 mw_2_194 mw_2_195 mw_1_2 mw_2_196 dc_X10_addNumber ⟨Nat.le_of_ble_eq_true rfl, Nat.le_of_ble_eq_true rfl⟩ rfl rfl ⟨Nat.zero_le _, Nat.zero_le _⟩ (by simp only [List.append_assoc, List.nil_append, List.append_nil]) (by simp only [List.append_assoc, List.nil_append, List.append_nil]) hP (hD _ _) hS 0 rfl rfl rfl hl.1 (Nat.le_of_ble_eq_true rfl) dX11_feed_57 (fun H locs hP hS => ?_)
    refine lv_aload_n X.1 X.2.1 dX11_feed_60 rfl (lv_at hl 0 rfl) ?_
    refine r_get (C := RX11) (T := TX11) (N := 15) (ci := 11) (v := .ref (a1 0)) X iw11 hP 0 rfl rfl 0 rfl mw_2_143 rfl dX11_feed_61 ?_
    refine r_get (C := RX10) (T := TX10) (N := 8) (ci := 10) (v := .int (g1_5 1 0)) X iw10 hP 1 rfl rfl 1 rfl mw_1_46 rfl dX11_feed_64 ?_
    exact ret_i (fun u => (wPU tc a0 g0 (a1 0) q0_1 q0_2 q0_3 q0_4 q0_5 q0_6 q0_7 q0_8 q0_9 q0_10 q0_13 ++ (wTp tc a1 u))) (res := (r0, G1)) (Option.some.inj h) X hQ hP hS dX11_feed_67
  · have h := it_f hc h
    refine lv_iconst (v := (-1)) X.1 X.2.1 dX11_feed_16 (by decide) ?_
    exact ret_i (fun u => (wPU tc a0 g0 (a1 0) q0_1 q0_2 q0_3 q0_4 q0_5 q0_6 q0_7 q0_8 q0_9 q0_10 q0_13 ++ (wTp tc a1 u))) (res := (r0, G1)) (Option.some.inj h) X hQ hP hS dX11_feed_17

def f_X11_end (g0 : Pic) (g1 : Pic) (x1 : Int32) : Option (Int32 × Pic) := jn (fun (_ : Unit) => some (0, g1)) (fun J15 => (if x1 < 0 then J15 () else (if x1 ≤ (g1 1 0) then nm (pu g1 1 0 x1) (fun g1_1 => some (1, g1_1)) else J15 ())))
abbrev rm_X11_end : Room := { frames := 0, cells := 0, slots := 0, locals := 0 }
set_option maxHeartbeats 4000000 in
set_option maxRecDepth 100000 in
theorem c_X11_end (l : Launch) (dC : Nat → ClassId) (dI : Nat → Nat → Nat) (sk sv : Nat → Nat) (tc : Nat → ClassId) (a0 : Nat → Nat) (q0_1 : Nat) (q0_2 : Nat) (q0_3 : Nat) (q0_4 : Nat) (q0_5 : Nat) (q0_6 : Nat) (q0_7 : Nat) (q0_8 : Nat) (q0_9 : Nat) (q0_10 : Nat) (q0_13 : Option Nat) (a1 : Nat → Nat) (g0 : Pic) (g1 : Pic) (x1 : Int32) {r0 : Int32} {G1 : Pic} (h : f_X11_end g0 g1 x1 = some (r0, G1)) : CT l (dC, dI) sk sv (TY tc) yX11_end cX11_end 2 (some .boolean) rm_X11_end [.ref (a0 0), .int x1] (wPU tc a0 g0 (a1 0) q0_1 q0_2 q0_3 q0_4 q0_5 q0_6 q0_7 q0_8 q0_9 q0_10 q0_13 ++ (wTp tc a1 g1)) (some (.int r0)) (wPU tc a0 g0 (a1 0) q0_1 q0_2 q0_3 q0_4 q0_5 q0_6 q0_7 q0_8 q0_9 q0_10 q0_13 ++ (wTp tc a1 G1)) := by
  refine ofCT (by decide) (Nat.le_of_ble_eq_true rfl) ?_
  intro pr e s m args below meth c A Q ls H locs X hQ hD0 hP hS hl
  have hD : ∀ z0 z1, va_D A (wPU tc a0 z0 (a1 0) q0_1 q0_2 q0_3 q0_4 q0_5 q0_6 q0_7 q0_8 q0_9 q0_10 q0_13 ++ (wTp tc a1 z1)) := fun z0 z1 => D_fst (ws := (wPU tc a0 g0 (a1 0) q0_1 q0_2 q0_3 q0_4 q0_5 q0_6 q0_7 q0_8 q0_9 q0_10 q0_13 ++ (wTp tc a1 g1))) rfl hD0
  have hl : lv_has ls 2 [(0, .ref (a0 0)), (1, .int x1)] := hl
  unfold f_X11_end at h
  refine lv_iload_n X.1 X.2.1 dX11_end_0 rfl (lv_at hl 1 rfl) ?_
  obtain ⟨J15, eJ15, h⟩ := jn_el h
  have HJ15 : ∀ (_ : Unit) (H : Heap) (locs : List Loc) (ls : Array Slot), J15 () = some (r0, G1) → va_P (dC, dI) vwCl (wPU tc a0 g0 (a1 0) q0_1 q0_2 q0_3 q0_4 q0_5 q0_6 q0_7 q0_8 q0_9 q0_10 q0_13 ++ (wTp tc a1 g1)) H → va_S A s.heap H locs → lv_has ls 2 [] → W pr l e rm_X11_end s m args below meth c H locs 0 0 Q (F0 m 15 ls []) := by
    intro _ H locs ls h hP hS hl
    rw [eJ15] at h
    refine lv_iconst (v := 0) X.1 X.2.1 dX11_end_15 (by decide) ?_
    exact ret_z (fun u => (wPU tc a0 g0 (a1 0) q0_1 q0_2 q0_3 q0_4 q0_5 q0_6 q0_7 q0_8 q0_9 q0_10 q0_13 ++ (wTp tc a1 u))) (res := (r0, G1)) (by decide) (Option.some.inj h) X hQ hP hS dX11_end_16
  refine lv_if_lt (tgt := 15) X.1 X.2.1 dX11_end_1 (by decide) (fun hc => ?_) (fun hc => ?_)
  · have h := it_t hc h
    exact HJ15 () H locs ls h hP hS (lv_sub hl [] rfl)
  · have h := it_f hc h
    refine lv_iload_n X.1 X.2.1 dX11_end_4 rfl (lv_at hl 1 rfl) ?_
    refine lv_aload_n X.1 X.2.1 dX11_end_5 rfl (lv_at hl 0 rfl) ?_
    refine r_get (C := RX11) (T := TX11) (N := 15) (ci := 11) (v := .ref (a1 0)) X iw11 hP 0 rfl rfl 0 rfl mw_2_143 rfl dX11_end_6 ?_
    refine r_get (C := RX10) (T := TX10) (N := 8) (ci := 10) (v := .int (g1 1 0)) X iw10 hP 1 rfl rfl 1 rfl mw_1_46 rfl dX11_end_9 ?_
    refine lv_icmp_le (tgt := 17) X.1 X.2.1 dX11_end_12 (by decide) (fun hc => ?_) (fun hc => ?_)
    · have h := it_t hc h
      refine lv_aload_n X.1 X.2.1 dX11_end_17 rfl (lv_at hl 0 rfl) ?_
      refine r_get (C := RX11) (T := TX11) (N := 15) (ci := 11) (v := .ref (a1 0)) X iw11 hP 0 rfl rfl 0 rfl mw_2_143 rfl dX11_end_18 ?_
      refine lv_iload_n X.1 X.2.1 dX11_end_21 rfl (lv_at hl 1 rfl) ?_
      obtain ⟨g1_1, eg1_1, h⟩ := nm_el h
      refine r_put (C := RX10) (T := TX10) (N := 8) (ci := 10) tyX10 tyX10_ok nmX10 X iw10 hP (hD _ _) hS 1 rfl rfl 1 rfl mw_1_46 rfl rfl rfl rfl dX11_end_22 (wPU tc a0 g0 (a1 0) q0_1 q0_2 q0_3 q0_4 q0_5 q0_6 q0_7 q0_8 q0_9 q0_10 q0_13 ++ (wTp tc a1 g1_1)) (by rw [eg1_1]; rfl) (fun H locs hP hS => ?_)
      refine lv_iconst (v := 1) X.1 X.2.1 dX11_end_25 (by decide) ?_
      exact ret_z (fun u => (wPU tc a0 g0 (a1 0) q0_1 q0_2 q0_3 q0_4 q0_5 q0_6 q0_7 q0_8 q0_9 q0_10 q0_13 ++ (wTp tc a1 u))) (res := (r0, G1)) (by decide) (Option.some.inj h) X hQ hP hS dX11_end_26
    · have h := it_f hc h
      exact HJ15 () H locs ls h hP hS (lv_sub hl [] rfl)

def f_X11_fault (g0 : Pic) : Option (Int32) := some (g0 14 0)
abbrev rm_X11_fault : Room := { frames := 0, cells := 0, slots := 0, locals := 0 }
set_option maxHeartbeats 4000000 in
set_option maxRecDepth 100000 in
theorem c_X11_fault (l : Launch) (dC : Nat → ClassId) (dI : Nat → Nat → Nat) (sk sv : Nat → Nat) (tc : Nat → ClassId) (a0 : Nat → Nat) (q0_0 : Nat) (q0_1 : Nat) (q0_2 : Nat) (q0_3 : Nat) (q0_4 : Nat) (q0_5 : Nat) (q0_6 : Nat) (q0_7 : Nat) (q0_8 : Nat) (q0_9 : Nat) (q0_10 : Nat) (q0_13 : Option Nat) (g0 : Pic) {r0 : Int32} (h : f_X11_fault g0 = some r0) : CT l (dC, dI) sk sv (TY tc) yX11_fault cX11_fault 1 (some .int) rm_X11_fault [.ref (a0 0)] (wPU tc a0 g0 q0_0 q0_1 q0_2 q0_3 q0_4 q0_5 q0_6 q0_7 q0_8 q0_9 q0_10 q0_13) (some (.int r0)) (wPU tc a0 g0 q0_0 q0_1 q0_2 q0_3 q0_4 q0_5 q0_6 q0_7 q0_8 q0_9 q0_10 q0_13) := by
  refine ofCT (by decide) (Nat.le_of_ble_eq_true rfl) ?_
  intro pr e s m args below meth c A Q ls H locs X hQ hD0 hP hS hl
  have hD : ∀ z0, va_D A (wPU tc a0 z0 q0_0 q0_1 q0_2 q0_3 q0_4 q0_5 q0_6 q0_7 q0_8 q0_9 q0_10 q0_13) := fun z0 => D_fst (ws := (wPU tc a0 g0 q0_0 q0_1 q0_2 q0_3 q0_4 q0_5 q0_6 q0_7 q0_8 q0_9 q0_10 q0_13)) rfl hD0
  have hl : lv_has ls 1 [(0, .ref (a0 0))] := hl
  unfold f_X11_fault at h
  refine lv_aload_n X.1 X.2.1 dX11_fault_0 rfl (lv_at hl 0 rfl) ?_
  refine r_get (C := RX11) (T := TX11) (N := 15) (ci := 11) (v := .int (g0 14 0)) X iw11 hP 0 rfl rfl 14 rfl mw_2_157 rfl dX11_fault_1 ?_
  exact ret_i0 (Option.some.inj h) X hQ hP hS dX11_fault_4

def f_X11_word (g0 : Pic) (g1 : Pic) (g2 : Pic) (x1 : Int32) (x2 : Int32) : Option ((Nat × Pic) ⊕ (Int32 × Pic)) := lr (f_X11_needWord g0 g1 x1) (fun e => .inl (e.1, g2)) (fun _ => (if x2 = 0 then gdi x1 8 (some (.inr ((g1 2 (x1.toNatClampNeg)), g2))) else (if x2 = 1 then gdi x1 8 (some (.inr ((g1 3 (x1.toNatClampNeg)), g2))) else (if x2 = 2 then bd2 (f_X6_codeLength g2 g1 x1) (fun r_5 g2_5 => some (.inr (r_5, g2_5))) else (if x2 = 3 then bd2 (f_X6_closestTo g2 g1 x1) (fun r_6 g2_6 => some (.inr (r_6, g2_6))) else some (.inl (2, g2)))))))
abbrev rm_X11_word : Room := { frames := 7, cells := 2, slots := 12, locals := 151 }
set_option maxHeartbeats 4000000 in
set_option maxRecDepth 100000 in
theorem c_X11_word (l : Launch) (hst : l.stackTraces = false) (dC : Nat → ClassId) (dI : Nat → Nat → Nat) (sk sv : Nat → Nat) (tc : Nat → ClassId) (a0 : Nat → Nat) (q0_0 : Nat) (q0_2 : Nat) (q0_3 : Nat) (q0_4 : Nat) (q0_5 : Nat) (q0_6 : Nat) (q0_8 : Nat) (q0_9 : Nat) (q0_10 : Nat) (q0_13 : Option Nat) (a1 : Nat → Nat) (q1_18 : Option Nat) (q1_19 : Nat) (a2 : Nat → Nat) (g0 : Pic) (g1 : Pic) (g2 : Pic) (x1 : Int32) (x2 : Int32) {res : ((Nat × Pic) ⊕ (Int32 × Pic))} (h : f_X11_word g0 g1 g2 x1 x2 = some res) : CU l (dC, dI) sk sv (TY tc) yX11_word cX11_word 3 (some .int) rm_X11_word 2 12 [.ref (a0 0), .int x1, .int x2] (wPU tc a0 g0 q0_0 (a1 0) q0_2 q0_3 q0_4 q0_5 q0_6 (a2 0) q0_8 q0_9 q0_10 q0_13 ++ (wSt tc a1 g1 q1_18 q1_19 ++ (wLx tc a2 g2 (a1 0)))) (oI (fun u (_ : Option Nat) => (wPU tc a0 g0 q0_0 (a1 0) q0_2 q0_3 q0_4 q0_5 q0_6 (a2 0) q0_8 q0_9 q0_10 q0_13 ++ (wSt tc a1 g1 q1_18 q1_19 ++ (wLx tc a2 u (a1 0))))) res) := by
  refine ofCU (by decide) (Nat.le_of_ble_eq_true rfl) ?_
  intro pr e s m args below meth c A Q ls H locs X hT hQ hD0 hP hS hl
  have hD : ∀ z0 z1 z2, va_D A (wPU tc a0 z0 q0_0 (a1 0) q0_2 q0_3 q0_4 q0_5 q0_6 (a2 0) q0_8 q0_9 q0_10 q0_13 ++ (wSt tc a1 z1 q1_18 q1_19 ++ (wLx tc a2 z2 (a1 0)))) := fun z0 z1 z2 => D_fst (ws := (wPU tc a0 g0 q0_0 (a1 0) q0_2 q0_3 q0_4 q0_5 q0_6 (a2 0) q0_8 q0_9 q0_10 q0_13 ++ (wSt tc a1 g1 q1_18 q1_19 ++ (wLx tc a2 g2 (a1 0))))) rfl hD0
  have hl : lv_has ls 3 [(0, .ref (a0 0)), (1, .int x1), (2, .int x2)] := hl
  unfold f_X11_word at h
  refine lv_aload_n X.1 X.2.1 dX11_word_0 rfl (lv_at hl 0 rfl) ?_
  refine lv_iload_n X.1 X.2.1 dX11_word_1 rfl (lv_at hl 1 rfl) ?_
  obtain ⟨ex_1, hc_1, h1_1, h2_1⟩ := lr_el h
  rcases ex_1 with e_1 | r_1
  · exact callU_t (ws := (wPU tc a0 g0 q0_0 (a1 0) q0_2 q0_3 q0_4 q0_5 q0_6 (a2 0) q0_8 q0_9 q0_10 q0_13 ++ (wSt tc a1 g1 q1_18 q1_19 ++ (wLx tc a2 g2 (a1 0))))) (ws' := (wPU tc a0 g0 q0_0 (a1 0) q0_2 q0_3 q0_4 q0_5 q0_6 (a2 0) q0_8 q0_9 q0_10 q0_13 ++ (wSt tc a1 g1 q1_18 q1_19 ++ (wLx tc a2 g2 (a1 0))))) (wr := (wLx tc a2 g2 (a1 0))) [0, 1, 2, 3, 4, 5, 6, 7, 8, 9, 10] [11, 12, 13, 14] [4, 5, 6, 7, 8, 9, 10, 11, 12, 13, 14, 0, 1, 2, 3] (As := [.int x1]) (rest := []) none rfl (oUi (fun u (_ : Option Nat) => (wPU tc a0 g0 q0_0 (a1 0) q0_2 q0_3 q0_4 q0_5 q0_6 (a2 0) q0_8 q0_9 q0_10 q0_13 ++ (wSt tc a1 g1 q1_18 q1_19 ++ (wLx tc a2 u (a1 0))))) (h1_1 _ rfl)) X hT hQ (c_X11_needWord l hst dC dI sk sv tc a0 q0_0 q0_2 q0_3 q0_4 q0_5 q0_6 (a2 0) q0_8 q0_9 q0_10 q0_13 a1 q1_18 q1_19 g0 g1 x1 hc_1) mw_4_210 mw_4_212 mp_1_5 mw_1_1 mw_4_213 dc_X11_needWord ⟨Nat.le_of_ble_eq_true rfl, Nat.le_of_ble_eq_true rfl⟩ rfl rfl ⟨Nat.le_of_ble_eq_true rfl, Nat.le_of_ble_eq_true rfl⟩ ⟨rfl, rfl, rfl, rfl, by decide, rfl, rfl⟩ hP (hD _ _ _) hS 0 rfl rfl rfl hl.1 (Nat.le_of_ble_eq_true rfl) dX11_word_2 (Nat.le_of_ble_eq_true rfl) (Nat.le_of_ble_eq_true rfl)
  have h := h2_1 _ rfl
  refine callU_n (ws := (wPU tc a0 g0 q0_0 (a1 0) q0_2 q0_3 q0_4 q0_5 q0_6 (a2 0) q0_8 q0_9 q0_10 q0_13 ++ (wSt tc a1 g1 q1_18 q1_19 ++ (wLx tc a2 g2 (a1 0))))) (ws' := (wPU tc a0 g0 q0_0 (a1 0) q0_2 q0_3 q0_4 q0_5 q0_6 (a2 0) q0_8 q0_9 q0_10 q0_13 ++ (wSt tc a1 g1 q1_18 q1_19 ++ (wLx tc a2 g2 (a1 0))))) (wr := (wLx tc a2 g2 (a1 0))) [0, 1, 2, 3, 4, 5, 6, 7, 8, 9, 10] [11, 12, 13, 14] [4, 5, 6, 7, 8, 9, 10, 11, 12, 13, 14, 0, 1, 2, 3] (As := [.int x1]) (rest := []) X (c_X11_needWord l hst dC dI sk sv tc a0 q0_0 q0_2 q0_3 q0_4 q0_5 q0_6 (a2 0) q0_8 q0_9 q0_10 q0_13 a1 q1_18 q1_19 g0 g1 x1 hc_1) mw_4_210 mw_4_212 mp_1_5 mw_1_1 mw_4_213 dc_X11_needWord ⟨Nat.le_of_ble_eq_true rfl, Nat.le_of_ble_eq_true rfl⟩ rfl rfl ⟨Nat.le_of_ble_eq_true rfl, Nat.le_of_ble_eq_true rfl⟩ ⟨rfl, rfl, rfl, rfl, by decide, rfl, rfl⟩ hP (hD _ _ _) hS 0 rfl rfl rfl hl.1 (Nat.le_of_ble_eq_true rfl) dX11_word_2 (fun H locs hP hS => ?_)
  refine W.eq (g2 := F0 m 5 ls []) rfl ?_
  refine lv_iload_n X.1 X.2.1 dX11_word_5 rfl (lv_at hl 2 rfl) ?_
  by_cases hq2_0 : x2 = 0
  · have h := it_t hq2_0 h
    refine lv_tableIn (tgt := 36) X.1 X.2.1 dX11_word_6 (by rw [hq2_0]; decide) (by rw [hq2_0]; decide) (by rw [hq2_0]; rfl) (by decide) ?_
    refine lv_aload_n X.1 X.2.1 dX11_word_36 rfl (lv_at hl 0 rfl) ?_
    refine r_get (C := RX11) (T := TX11) (N := 15) (ci := 11) (v := .ref (a1 0)) X iw11 hP 0 rfl rfl 1 rfl mw_2_144 rfl dX11_word_37 ?_
    refine r_get (C := RX9) (T := TX9) (N := 20) (ci := 9) (v := .ref (a1 3)) X iw9 hP 1 rfl rfl 2 rfl mw_1_118 rfl dX11_word_40 ?_
    refine lv_iload_n X.1 X.2.1 dX11_word_43 rfl (lv_at hl 1 rfl) ?_
    obtain ⟨hg_3, h⟩ := gdi_el h
    refine r_iald X hP 3 0 rfl rfl hg_3 rfl dX11_word_44 ?_
    exact retU_i (fun u (_ : Option Nat) => (wPU tc a0 g0 q0_0 (a1 0) q0_2 q0_3 q0_4 q0_5 q0_6 (a2 0) q0_8 q0_9 q0_10 q0_13 ++ (wSt tc a1 g1 q1_18 q1_19 ++ (wLx tc a2 u (a1 0))))) none (Option.some.inj h) X hQ hP hS (Nat.le_of_ble_eq_true rfl) (Nat.le_of_ble_eq_true rfl) dX11_word_45
  · have h := it_f hq2_0 h
    by_cases hq2_1 : x2 = 1
    · have h := it_t hq2_1 h
      refine lv_tableIn (tgt := 46) X.1 X.2.1 dX11_word_6 (by rw [hq2_1]; decide) (by rw [hq2_1]; decide) (by rw [hq2_1]; rfl) (by decide) ?_
      refine lv_aload_n X.1 X.2.1 dX11_word_46 rfl (lv_at hl 0 rfl) ?_
      refine r_get (C := RX11) (T := TX11) (N := 15) (ci := 11) (v := .ref (a1 0)) X iw11 hP 0 rfl rfl 1 rfl mw_2_144 rfl dX11_word_47 ?_
      refine r_get (C := RX9) (T := TX9) (N := 20) (ci := 9) (v := .ref (a1 4)) X iw9 hP 1 rfl rfl 3 rfl mw_1_122 rfl dX11_word_50 ?_
      refine lv_iload_n X.1 X.2.1 dX11_word_53 rfl (lv_at hl 1 rfl) ?_
      obtain ⟨hg_4, h⟩ := gdi_el h
      refine r_iald X hP 4 0 rfl rfl hg_4 rfl dX11_word_54 ?_
      exact retU_i (fun u (_ : Option Nat) => (wPU tc a0 g0 q0_0 (a1 0) q0_2 q0_3 q0_4 q0_5 q0_6 (a2 0) q0_8 q0_9 q0_10 q0_13 ++ (wSt tc a1 g1 q1_18 q1_19 ++ (wLx tc a2 u (a1 0))))) none (Option.some.inj h) X hQ hP hS (Nat.le_of_ble_eq_true rfl) (Nat.le_of_ble_eq_true rfl) dX11_word_55
    · have h := it_f hq2_1 h
      by_cases hq2_2 : x2 = 2
      · have h := it_t hq2_2 h
        refine lv_tableIn (tgt := 56) X.1 X.2.1 dX11_word_6 (by rw [hq2_2]; decide) (by rw [hq2_2]; decide) (by rw [hq2_2]; rfl) (by decide) ?_
        refine lv_aload_n X.1 X.2.1 dX11_word_56 rfl (lv_at hl 0 rfl) ?_
        refine r_get (C := RX11) (T := TX11) (N := 15) (ci := 11) (v := .ref (a2 0)) X iw11 hP 0 rfl rfl 7 rfl mw_2_150 rfl dX11_word_57 ?_
        refine lv_iload_n X.1 X.2.1 dX11_word_60 rfl (lv_at hl 1 rfl) ?_
        obtain ⟨r_5, g2_5, hc_5, h⟩ := bd2_el h
        refine call_Q (ws := (wPU tc a0 g0 q0_0 (a1 0) q0_2 q0_3 q0_4 q0_5 q0_6 (a2 0) q0_8 q0_9 q0_10 q0_13 ++ (wSt tc a1 g1 q1_18 q1_19 ++ (wLx tc a2 g2 (a1 0))))) (ws' := (wPU tc a0 g0 q0_0 (a1 0) q0_2 q0_3 q0_4 q0_5 q0_6 (a2 0) q0_8 q0_9 q0_10 q0_13 ++ (wSt tc a1 g1 q1_18 q1_19 ++ (wLx tc a2 g2_5 (a1 0))))) (wr := (wPU tc a0 g0 q0_0 (a1 0) q0_2 q0_3 q0_4 q0_5 q0_6 (a2 0) q0_8 q0_9 q0_10 q0_13)) [11, 12, 13, 14, 1, 2, 3, 4, 5, 6, 7, 8, 9, 10] [0] [0, 5, 6, 7, 8, 9, 10, 11, 12, 13, 14, 1, 2, 3, 4] (As := [.int x1]) (rest := []) X (c_X6_codeLength l dC dI sk sv tc a2 a1 q1_18 q1_19 g2 g1 x1 hc_5) mw_4_230 mw_4_231 mw_4_232 mw_1_9 mw_4_233 dc_X6_codeLength ⟨Nat.le_of_ble_eq_true rfl, Nat.le_of_ble_eq_true rfl⟩ rfl rfl ⟨Nat.le_of_ble_eq_true rfl, Nat.le_of_ble_eq_true rfl⟩ ⟨rfl, rfl, rfl, rfl, by decide, rfl, rfl⟩ hP (hD _ _ _) hS 0 rfl rfl rfl hl.1 (Nat.le_of_ble_eq_true rfl) dX11_word_61 (fun H locs hP hS => ?_)
        refine W.eq (g2 := F0 m 64 ls [.int r_5]) rfl ?_
        exact retU_i (fun u (_ : Option Nat) => (wPU tc a0 g0 q0_0 (a1 0) q0_2 q0_3 q0_4 q0_5 q0_6 (a2 0) q0_8 q0_9 q0_10 q0_13 ++ (wSt tc a1 g1 q1_18 q1_19 ++ (wLx tc a2 u (a1 0))))) none (Option.some.inj h) X hQ hP hS (Nat.le_of_ble_eq_true rfl) (Nat.le_of_ble_eq_true rfl) dX11_word_64
      · have h := it_f hq2_2 h
        by_cases hq2_3 : x2 = 3
        · have h := it_t hq2_3 h
          refine lv_tableIn (tgt := 65) X.1 X.2.1 dX11_word_6 (by rw [hq2_3]; decide) (by rw [hq2_3]; decide) (by rw [hq2_3]; rfl) (by decide) ?_
          refine lv_aload_n X.1 X.2.1 dX11_word_65 rfl (lv_at hl 0 rfl) ?_
          refine r_get (C := RX11) (T := TX11) (N := 15) (ci := 11) (v := .ref (a2 0)) X iw11 hP 0 rfl rfl 7 rfl mw_2_150 rfl dX11_word_66 ?_
          refine lv_iload_n X.1 X.2.1 dX11_word_69 rfl (lv_at hl 1 rfl) ?_
          obtain ⟨r_6, g2_6, hc_6, h⟩ := bd2_el h
          refine call_Q (ws := (wPU tc a0 g0 q0_0 (a1 0) q0_2 q0_3 q0_4 q0_5 q0_6 (a2 0) q0_8 q0_9 q0_10 q0_13 ++ (wSt tc a1 g1 q1_18 q1_19 ++ (wLx tc a2 g2 (a1 0))))) (ws' := (wPU tc a0 g0 q0_0 (a1 0) q0_2 q0_3 q0_4 q0_5 q0_6 (a2 0) q0_8 q0_9 q0_10 q0_13 ++ (wSt tc a1 g1 q1_18 q1_19 ++ (wLx tc a2 g2_6 (a1 0))))) (wr := (wPU tc a0 g0 q0_0 (a1 0) q0_2 q0_3 q0_4 q0_5 q0_6 (a2 0) q0_8 q0_9 q0_10 q0_13)) [11, 12, 13, 14, 1, 2, 3, 4, 5, 6, 7, 8, 9, 10] [0] [0, 5, 6, 7, 8, 9, 10, 11, 12, 13, 14, 1, 2, 3, 4] (As := [.int x1]) (rest := []) X (c_X6_closestTo l dC dI sk sv tc a2 a1 q1_18 q1_19 g2 g1 x1 hc_6) mw_4_238 mw_4_239 mw_5_0 mw_1_9 mw_5_1 dc_X6_closestTo ⟨Nat.le_of_ble_eq_true rfl, Nat.le_of_ble_eq_true rfl⟩ rfl rfl ⟨Nat.le_of_ble_eq_true rfl, Nat.le_of_ble_eq_true rfl⟩ ⟨rfl, rfl, rfl, rfl, by decide, rfl, rfl⟩ hP (hD _ _ _) hS 0 rfl rfl rfl hl.1 (Nat.le_of_ble_eq_true rfl) dX11_word_70 (fun H locs hP hS => ?_)
          refine W.eq (g2 := F0 m 73 ls [.int r_6]) rfl ?_
          exact retU_i (fun u (_ : Option Nat) => (wPU tc a0 g0 q0_0 (a1 0) q0_2 q0_3 q0_4 q0_5 q0_6 (a2 0) q0_8 q0_9 q0_10 q0_13 ++ (wSt tc a1 g1 q1_18 q1_19 ++ (wLx tc a2 u (a1 0))))) none (Option.some.inj h) X hQ hP hS (Nat.le_of_ble_eq_true rfl) (Nat.le_of_ble_eq_true rfl) dX11_word_73
        · have h := it_f hq2_3 h
          refine lv_tableOut (tgt := 74) X.1 X.2.1 dX11_word_6 (sw_out x2 [0, 1, 2, 3] 4 (by decide) (by decide) (by simp only [List.mem_cons, List.not_mem_nil, or_false, forall_eq_or_imp, forall_eq]; exact ⟨hq2_0, hq2_1, hq2_2, hq2_3⟩)) (by decide) ?_
          exact thr_S (k := 2) (text := "no such thing of a word") (ti := 24) none (oUi (fun u (_ : Option Nat) => (wPU tc a0 g0 q0_0 (a1 0) q0_2 q0_3 q0_4 q0_5 q0_6 (a2 0) q0_8 q0_9 q0_10 q0_13 ++ (wSt tc a1 g1 q1_18 q1_19 ++ (wLx tc a2 u (a1 0))))) (Option.some.inj h)) X hT hst at_163 mw_5_7 mw_1_27 (List.mem_of_getElem? (i := 30) rfl) hQ hP hS hl.1 dX11_word_74 dX11_word_77 dX11_word_78 dX11_word_80 dX11_word_83 (Nat.le_of_ble_eq_true rfl) (Nat.le_of_ble_eq_true rfl) (Nat.le_of_ble_eq_true rfl) (Nat.le_of_ble_eq_true rfl) (Nat.le_of_ble_eq_true rfl) (Nat.le_of_ble_eq_true rfl)

def f_X11_letter (g0 : Pic) (g1 : Pic) (x1 : Int32) (x2 : Int32) : Option ((Nat × Unit) ⊕ (Int32 × Unit)) := lr (f_X11_needWord g0 g1 x1) (fun e => .inl (e.1, ())) (fun _ => bd (f_X9_letterAt g1 x1 x2) (fun r_2 => some (.inr (r_2, ()))))
abbrev rm_X11_letter : Room := { frames := 7, cells := 1, slots := 6, locals := 141 }
set_option maxHeartbeats 4000000 in
set_option maxRecDepth 100000 in
theorem c_X11_letter (l : Launch) (hst : l.stackTraces = false) (dC : Nat → ClassId) (dI : Nat → Nat → Nat) (sk sv : Nat → Nat) (tc : Nat → ClassId) (a0 : Nat → Nat) (q0_0 : Nat) (q0_2 : Nat) (q0_3 : Nat) (q0_4 : Nat) (q0_5 : Nat) (q0_6 : Nat) (q0_7 : Nat) (q0_8 : Nat) (q0_9 : Nat) (q0_10 : Nat) (q0_13 : Option Nat) (a1 : Nat → Nat) (q1_18 : Option Nat) (q1_19 : Nat) (g0 : Pic) (g1 : Pic) (x1 : Int32) (x2 : Int32) {res : ((Nat × Unit) ⊕ (Int32 × Unit))} (h : f_X11_letter g0 g1 x1 x2 = some res) : CU l (dC, dI) sk sv (TY tc) yX11_letter cX11_letter 3 (some .int) rm_X11_letter 1 6 [.ref (a0 0), .int x1, .int x2] (wPU tc a0 g0 q0_0 (a1 0) q0_2 q0_3 q0_4 q0_5 q0_6 q0_7 q0_8 q0_9 q0_10 q0_13 ++ (wSt tc a1 g1 q1_18 q1_19)) (oI (fun (_ : Unit) (_ : Option Nat) => (wPU tc a0 g0 q0_0 (a1 0) q0_2 q0_3 q0_4 q0_5 q0_6 q0_7 q0_8 q0_9 q0_10 q0_13 ++ (wSt tc a1 g1 q1_18 q1_19))) res) := by
  refine ofCU (by decide) (Nat.le_of_ble_eq_true rfl) ?_
  intro pr e s m args below meth c A Q ls H locs X hT hQ hD0 hP hS hl
  have hD : ∀ z0 z1, va_D A (wPU tc a0 z0 q0_0 (a1 0) q0_2 q0_3 q0_4 q0_5 q0_6 q0_7 q0_8 q0_9 q0_10 q0_13 ++ (wSt tc a1 z1 q1_18 q1_19)) := fun z0 z1 => D_fst (ws := (wPU tc a0 g0 q0_0 (a1 0) q0_2 q0_3 q0_4 q0_5 q0_6 q0_7 q0_8 q0_9 q0_10 q0_13 ++ (wSt tc a1 g1 q1_18 q1_19))) rfl hD0
  have hl : lv_has ls 3 [(0, .ref (a0 0)), (1, .int x1), (2, .int x2)] := hl
  unfold f_X11_letter at h
  refine lv_aload_n X.1 X.2.1 dX11_letter_0 rfl (lv_at hl 0 rfl) ?_
  refine lv_iload_n X.1 X.2.1 dX11_letter_1 rfl (lv_at hl 1 rfl) ?_
  obtain ⟨ex_1, hc_1, h1_1, h2_1⟩ := lr_el h
  rcases ex_1 with e_1 | r_1
  · exact callU_t (ws := (wPU tc a0 g0 q0_0 (a1 0) q0_2 q0_3 q0_4 q0_5 q0_6 q0_7 q0_8 q0_9 q0_10 q0_13 ++ (wSt tc a1 g1 q1_18 q1_19))) (ws' := (wPU tc a0 g0 q0_0 (a1 0) q0_2 q0_3 q0_4 q0_5 q0_6 q0_7 q0_8 q0_9 q0_10 q0_13 ++ (wSt tc a1 g1 q1_18 q1_19))) (wr := []) [0, 1, 2, 3, 4, 5, 6, 7, 8, 9, 10] [] [0, 1, 2, 3, 4, 5, 6, 7, 8, 9, 10] (As := [.int x1]) (rest := []) none rfl (oUi (fun (_ : Unit) (_ : Option Nat) => (wPU tc a0 g0 q0_0 (a1 0) q0_2 q0_3 q0_4 q0_5 q0_6 q0_7 q0_8 q0_9 q0_10 q0_13 ++ (wSt tc a1 g1 q1_18 q1_19))) (h1_1 _ rfl)) X hT hQ (c_X11_needWord l hst dC dI sk sv tc a0 q0_0 q0_2 q0_3 q0_4 q0_5 q0_6 q0_7 q0_8 q0_9 q0_10 q0_13 a1 q1_18 q1_19 g0 g1 x1 hc_1) mw_4_210 mw_4_212 mp_1_5 mw_1_1 mw_4_213 dc_X11_needWord ⟨Nat.le_of_ble_eq_true rfl, Nat.le_of_ble_eq_true rfl⟩ rfl rfl ⟨Nat.le_of_ble_eq_true rfl, Nat.le_of_ble_eq_true rfl⟩ ⟨rfl, rfl, rfl, rfl, by decide, rfl, rfl⟩ hP (hD _ _) hS 0 rfl rfl rfl hl.1 (Nat.le_of_ble_eq_true rfl) dX11_letter_2 (Nat.le_of_ble_eq_true rfl) (Nat.le_of_ble_eq_true rfl)
  have h := h2_1 _ rfl
  refine callU_n (ws := (wPU tc a0 g0 q0_0 (a1 0) q0_2 q0_3 q0_4 q0_5 q0_6 q0_7 q0_8 q0_9 q0_10 q0_13 ++ (wSt tc a1 g1 q1_18 q1_19))) (ws' := (wPU tc a0 g0 q0_0 (a1 0) q0_2 q0_3 q0_4 q0_5 q0_6 q0_7 q0_8 q0_9 q0_10 q0_13 ++ (wSt tc a1 g1 q1_18 q1_19))) (wr := []) [0, 1, 2, 3, 4, 5, 6, 7, 8, 9, 10] [] [0, 1, 2, 3, 4, 5, 6, 7, 8, 9, 10] (As := [.int x1]) (rest := []) X (c_X11_needWord l hst dC dI sk sv tc a0 q0_0 q0_2 q0_3 q0_4 q0_5 q0_6 q0_7 q0_8 q0_9 q0_10 q0_13 a1 q1_18 q1_19 g0 g1 x1 hc_1) mw_4_210 mw_4_212 mp_1_5 mw_1_1 mw_4_213 dc_X11_needWord ⟨Nat.le_of_ble_eq_true rfl, Nat.le_of_ble_eq_true rfl⟩ rfl rfl ⟨Nat.le_of_ble_eq_true rfl, Nat.le_of_ble_eq_true rfl⟩ ⟨rfl, rfl, rfl, rfl, by decide, rfl, rfl⟩ hP (hD _ _) hS 0 rfl rfl rfl hl.1 (Nat.le_of_ble_eq_true rfl) dX11_letter_2 (fun H locs hP hS => ?_)
  refine W.eq (g2 := F0 m 5 ls []) rfl ?_
  refine lv_aload_n X.1 X.2.1 dX11_letter_5 rfl (lv_at hl 0 rfl) ?_
  refine r_get (C := RX11) (T := TX11) (N := 15) (ci := 11) (v := .ref (a1 0)) X iw11 hP 0 rfl rfl 1 rfl mw_2_144 rfl dX11_letter_6 ?_
  refine lv_iload_n X.1 X.2.1 dX11_letter_9 rfl (lv_at hl 1 rfl) ?_
  refine lv_iload_n X.1 X.2.1 dX11_letter_10 rfl (lv_at hl 2 rfl) ?_
  obtain ⟨r_2, hc_2, h⟩ := bd_el h
  refine call_Vsi (ws := (wPU tc a0 g0 q0_0 (a1 0) q0_2 q0_3 q0_4 q0_5 q0_6 q0_7 q0_8 q0_9 q0_10 q0_13 ++ (wSt tc a1 g1 q1_18 q1_19))) (ws' := (wPU tc a0 g0 q0_0 (a1 0) q0_2 q0_3 q0_4 q0_5 q0_6 q0_7 q0_8 q0_9 q0_10 q0_13 ++ (wSt tc a1 g1 q1_18 q1_19))) (wPU tc a0 g0 q0_0 (a1 0) q0_2 q0_3 q0_4 q0_5 q0_6 q0_7 q0_8 q0_9 q0_10 q0_13) [] (As := [.int x1, .int x2]) (rest := []) X (c_X9_letterAt l dC dI sk sv tc a1 q1_18 q1_19 g1 x1 x2 hc_2) mw_5_30 mw_3_68 mw_3_69 mw_1_3 mw_3_70 dc_X9_letterAt ⟨Nat.le_of_ble_eq_true rfl, Nat.le_of_ble_eq_true rfl⟩ rfl rfl ⟨Nat.le_of_ble_eq_true rfl, Nat.le_of_ble_eq_true rfl⟩ (by simp only [List.append_assoc, List.nil_append, List.append_nil]) (by simp only [List.append_assoc, List.nil_append, List.append_nil]) hP (hD _ _) hS 0 rfl rfl rfl hl.1 (Nat.le_of_ble_eq_true rfl) dX11_letter_11 (fun H locs hP hS => ?_)
  exact retU_i (fun (_ : Unit) (_ : Option Nat) => (wPU tc a0 g0 q0_0 (a1 0) q0_2 q0_3 q0_4 q0_5 q0_6 q0_7 q0_8 q0_9 q0_10 q0_13 ++ (wSt tc a1 g1 q1_18 q1_19))) none (Option.some.inj h) X hQ hP hS (Nat.le_of_ble_eq_true rfl) (Nat.le_of_ble_eq_true rfl) dX11_letter_14

def f_X11_writer (g0 : Pic) (g1 : Pic) (g2 : Pic) (g3 : Pic) (x1 : Int32) (x2 : Int32) : Option ((Nat × (Pic × Pic)) ⊕ (Int32 × (Pic × Pic))) := lr (f_X11_needWriter g0 g1 x1) (fun e => .inl (e.1, (g2, g3))) (fun _ => (if x2 = 0 then gdi x1 5 (some (.inr ((g1 8 (x1.toNatClampNeg)), (g2, g3)))) else (if x2 = 1 then gdi x1 5 (some (.inr ((g1 9 (x1.toNatClampNeg)), (g2, g3)))) else (if x2 = 2 then gdi x1 5 (some (.inr ((g1 10 (x1.toNatClampNeg)), (g2, g3)))) else (if x2 = 3 then gdi x1 5 (some (.inr ((g1 11 (x1.toNatClampNeg)), (g2, g3)))) else (if x2 = 4 then bd (f_X11_handOf g0 g1 g2 x1) (fun g2_7 => bd (f_X3_clean g2_7) (fun r_8 => some (.inr (r_8, (g2_7, g3))))) else (if x2 = 5 then bd (f_X11_handOf g0 g1 g2 x1) (fun g2_9 => bd (f_X3_lost g2_9) (fun r_10 => some (.inr (r_10, (g2_9, g3))))) else (if x2 = 6 then bd (f_X11_handOf g0 g1 g2 x1) (fun g2_11 => bd (f_X3_saved g2_11) (fun r_12 => some (.inr (r_12, (g2_11, g3))))) else (if x2 = 7 then bd3 (f_X8_doneOf g3 g2 g1 x1) (fun r_13 g3_13 g2_13 => some (.inr (r_13, (g2_13, g3_13)))) else (if x2 = 8 then bd3 (f_X8_lagOf g3 g2 g1 x1 (g1 13 0)) (fun r_14 g3_14 g2_14 => some (.inr (r_14, (g2_14, g3_14)))) else (if x2 = 9 then bd3 (f_X8_edgeOf g3 g2 g1 x1) (fun r_15 g3_15 g2_15 => some (.inr (r_15, (g2_15, g3_15)))) else (if x2 = 10 then bd (f_X8_runOf g3 g2 g1 x1) (fun r_16 => some (.inr (r_16, (g2, g3)))) else (if x2 = 11 then bd (f_X8_gapsOf g3 g2 g1 x1) (fun r_17 => some (.inr (r_17, (g2, g3)))) else (if x2 = 12 then bd2 (f_X8_trueOf g3 g2 g1 x1) (fun r_18 g2_18 => some (.inr (r_18, (g2_18, g3)))) else (if x2 = 13 then bd (f_X8_shareOf g3 g2 g1 x1) (fun r_19 => some (.inr (r_19, (g2, g3)))) else some (.inl (2, (g2, g3))))))))))))))))))
abbrev rm_X11_writer : Room := { frames := 7, cells := 2, slots := 12, locals := 141 }
set_option maxHeartbeats 4000000 in
set_option maxRecDepth 100000 in
theorem c_X11_writer (l : Launch) (hst : l.stackTraces = false) (dC : Nat → ClassId) (dI : Nat → Nat → Nat) (sk sv : Nat → Nat) (tc : Nat → ClassId) (a0 : Nat → Nat) (q0_0 : Nat) (q0_2 : Nat) (q0_3 : Nat) (q0_4 : Nat) (q0_6 : Nat) (q0_7 : Nat) (q0_8 : Nat) (q0_10 : Nat) (q0_13 : Option Nat) (a1 : Nat → Nat) (q1_18 : Option Nat) (q1_19 : Nat) (a2 : Nat → Nat) (a3 : Nat → Nat) (g0 : Pic) (g1 : Pic) (g2 : Pic) (g3 : Pic) (x1 : Int32) (x2 : Int32) {res : ((Nat × (Pic × Pic)) ⊕ (Int32 × (Pic × Pic)))} (h : f_X11_writer g0 g1 g2 g3 x1 x2 = some res) : CU l (dC, dI) sk sv (TY tc) yX11_writer cX11_writer 3 (some .int) rm_X11_writer 2 12 [.ref (a0 0), .int x1, .int x2] (wPU tc a0 g0 q0_0 (a1 0) q0_2 q0_3 q0_4 (a2 0) q0_6 q0_7 q0_8 (a3 0) q0_10 q0_13 ++ (wSt tc a1 g1 q1_18 q1_19 ++ (wHd tc a2 g2 ++ (wSc tc a3 g3 (a1 0) (a2 0))))) (oI (fun u (_ : Option Nat) => (wPU tc a0 g0 q0_0 (a1 0) q0_2 q0_3 q0_4 (a2 0) q0_6 q0_7 q0_8 (a3 0) q0_10 q0_13 ++ (wSt tc a1 g1 q1_18 q1_19 ++ (wHd tc a2 u.1 ++ (wSc tc a3 u.2 (a1 0) (a2 0)))))) res) := by
  refine ofCU (by decide) (Nat.le_of_ble_eq_true rfl) ?_
  intro pr e s m args below meth c A Q ls H locs X hT hQ hD0 hP hS hl
  have hD : ∀ z0 z1 z2 z3, va_D A (wPU tc a0 z0 q0_0 (a1 0) q0_2 q0_3 q0_4 (a2 0) q0_6 q0_7 q0_8 (a3 0) q0_10 q0_13 ++ (wSt tc a1 z1 q1_18 q1_19 ++ (wHd tc a2 z2 ++ (wSc tc a3 z3 (a1 0) (a2 0))))) := fun z0 z1 z2 z3 => D_fst (ws := (wPU tc a0 g0 q0_0 (a1 0) q0_2 q0_3 q0_4 (a2 0) q0_6 q0_7 q0_8 (a3 0) q0_10 q0_13 ++ (wSt tc a1 g1 q1_18 q1_19 ++ (wHd tc a2 g2 ++ (wSc tc a3 g3 (a1 0) (a2 0)))))) rfl hD0
  have hl : lv_has ls 3 [(0, .ref (a0 0)), (1, .int x1), (2, .int x2)] := hl
  unfold f_X11_writer at h
  refine lv_aload_n X.1 X.2.1 dX11_writer_0 rfl (lv_at hl 0 rfl) ?_
  refine lv_iload_n X.1 X.2.1 dX11_writer_1 rfl (lv_at hl 1 rfl) ?_
  obtain ⟨ex_1, hc_1, h1_1, h2_1⟩ := lr_el h
  rcases ex_1 with e_1 | r_1
  · exact callU_t (ws := (wPU tc a0 g0 q0_0 (a1 0) q0_2 q0_3 q0_4 (a2 0) q0_6 q0_7 q0_8 (a3 0) q0_10 q0_13 ++ (wSt tc a1 g1 q1_18 q1_19 ++ (wHd tc a2 g2 ++ (wSc tc a3 g3 (a1 0) (a2 0)))))) (ws' := (wPU tc a0 g0 q0_0 (a1 0) q0_2 q0_3 q0_4 (a2 0) q0_6 q0_7 q0_8 (a3 0) q0_10 q0_13 ++ (wSt tc a1 g1 q1_18 q1_19 ++ (wHd tc a2 g2 ++ (wSc tc a3 g3 (a1 0) (a2 0)))))) (wr := (wHd tc a2 g2 ++ (wSc tc a3 g3 (a1 0) (a2 0)))) [0, 1, 2, 3, 4, 5, 6, 7, 8, 9, 10] [11, 12, 13, 14, 15, 16, 17, 18, 19] [9, 10, 11, 12, 13, 14, 15, 16, 17, 18, 19, 0, 1, 2, 3, 4, 5, 6, 7, 8] (As := [.int x1]) (rest := []) none rfl (oUi (fun u (_ : Option Nat) => (wPU tc a0 g0 q0_0 (a1 0) q0_2 q0_3 q0_4 (a2 0) q0_6 q0_7 q0_8 (a3 0) q0_10 q0_13 ++ (wSt tc a1 g1 q1_18 q1_19 ++ (wHd tc a2 u.1 ++ (wSc tc a3 u.2 (a1 0) (a2 0)))))) (h1_1 _ rfl)) X hT hQ (c_X11_needWriter l hst dC dI sk sv tc a0 q0_0 q0_2 q0_3 q0_4 (a2 0) q0_6 q0_7 q0_8 (a3 0) q0_10 q0_13 a1 q1_18 q1_19 g0 g1 x1 hc_1) mw_5_38 mw_5_40 mp_1_6 mw_1_1 mw_5_41 dc_X11_needWriter ⟨Nat.le_of_ble_eq_true rfl, Nat.le_of_ble_eq_true rfl⟩ rfl rfl ⟨Nat.le_of_ble_eq_true rfl, Nat.le_of_ble_eq_true rfl⟩ ⟨rfl, rfl, rfl, rfl, by decide, rfl, rfl⟩ hP (hD _ _ _ _) hS 0 rfl rfl rfl hl.1 (Nat.le_of_ble_eq_true rfl) dX11_writer_2 (Nat.le_of_ble_eq_true rfl) (Nat.le_of_ble_eq_true rfl)
  have h := h2_1 _ rfl
  refine callU_n (ws := (wPU tc a0 g0 q0_0 (a1 0) q0_2 q0_3 q0_4 (a2 0) q0_6 q0_7 q0_8 (a3 0) q0_10 q0_13 ++ (wSt tc a1 g1 q1_18 q1_19 ++ (wHd tc a2 g2 ++ (wSc tc a3 g3 (a1 0) (a2 0)))))) (ws' := (wPU tc a0 g0 q0_0 (a1 0) q0_2 q0_3 q0_4 (a2 0) q0_6 q0_7 q0_8 (a3 0) q0_10 q0_13 ++ (wSt tc a1 g1 q1_18 q1_19 ++ (wHd tc a2 g2 ++ (wSc tc a3 g3 (a1 0) (a2 0)))))) (wr := (wHd tc a2 g2 ++ (wSc tc a3 g3 (a1 0) (a2 0)))) [0, 1, 2, 3, 4, 5, 6, 7, 8, 9, 10] [11, 12, 13, 14, 15, 16, 17, 18, 19] [9, 10, 11, 12, 13, 14, 15, 16, 17, 18, 19, 0, 1, 2, 3, 4, 5, 6, 7, 8] (As := [.int x1]) (rest := []) X (c_X11_needWriter l hst dC dI sk sv tc a0 q0_0 q0_2 q0_3 q0_4 (a2 0) q0_6 q0_7 q0_8 (a3 0) q0_10 q0_13 a1 q1_18 q1_19 g0 g1 x1 hc_1) mw_5_38 mw_5_40 mp_1_6 mw_1_1 mw_5_41 dc_X11_needWriter ⟨Nat.le_of_ble_eq_true rfl, Nat.le_of_ble_eq_true rfl⟩ rfl rfl ⟨Nat.le_of_ble_eq_true rfl, Nat.le_of_ble_eq_true rfl⟩ ⟨rfl, rfl, rfl, rfl, by decide, rfl, rfl⟩ hP (hD _ _ _ _) hS 0 rfl rfl rfl hl.1 (Nat.le_of_ble_eq_true rfl) dX11_writer_2 (fun H locs hP hS => ?_)
  refine W.eq (g2 := F0 m 5 ls []) rfl ?_
  refine lv_iload_n X.1 X.2.1 dX11_writer_5 rfl (lv_at hl 2 rfl) ?_
  by_cases hq2_0 : x2 = 0
  · have h := it_t hq2_0 h
    refine lv_tableIn (tgt := 76) X.1 X.2.1 dX11_writer_6 (by rw [hq2_0]; decide) (by rw [hq2_0]; decide) (by rw [hq2_0]; rfl) (by decide) ?_
    refine lv_aload_n X.1 X.2.1 dX11_writer_76 rfl (lv_at hl 0 rfl) ?_
    refine r_get (C := RX11) (T := TX11) (N := 15) (ci := 11) (v := .ref (a1 0)) X iw11 hP 0 rfl rfl 1 rfl mw_2_144 rfl dX11_writer_77 ?_
    refine r_get (C := RX9) (T := TX9) (N := 20) (ci := 9) (v := .ref (a1 9)) X iw9 hP 1 rfl rfl 8 rfl mw_1_151 rfl dX11_writer_80 ?_
    refine lv_iload_n X.1 X.2.1 dX11_writer_83 rfl (lv_at hl 1 rfl) ?_
    obtain ⟨hg_3, h⟩ := gdi_el h
    refine r_iald X hP 6 0 rfl rfl hg_3 rfl dX11_writer_84 ?_
    exact retU_i (fun u (_ : Option Nat) => (wPU tc a0 g0 q0_0 (a1 0) q0_2 q0_3 q0_4 (a2 0) q0_6 q0_7 q0_8 (a3 0) q0_10 q0_13 ++ (wSt tc a1 g1 q1_18 q1_19 ++ (wHd tc a2 u.1 ++ (wSc tc a3 u.2 (a1 0) (a2 0)))))) none (Option.some.inj h) X hQ hP hS (Nat.le_of_ble_eq_true rfl) (Nat.le_of_ble_eq_true rfl) dX11_writer_85
  · have h := it_f hq2_0 h
    by_cases hq2_1 : x2 = 1
    · have h := it_t hq2_1 h
      refine lv_tableIn (tgt := 86) X.1 X.2.1 dX11_writer_6 (by rw [hq2_1]; decide) (by rw [hq2_1]; decide) (by rw [hq2_1]; rfl) (by decide) ?_
      refine lv_aload_n X.1 X.2.1 dX11_writer_86 rfl (lv_at hl 0 rfl) ?_
      refine r_get (C := RX11) (T := TX11) (N := 15) (ci := 11) (v := .ref (a1 0)) X iw11 hP 0 rfl rfl 1 rfl mw_2_144 rfl dX11_writer_87 ?_
      refine r_get (C := RX9) (T := TX9) (N := 20) (ci := 9) (v := .ref (a1 10)) X iw9 hP 1 rfl rfl 9 rfl mw_1_157 rfl dX11_writer_90 ?_
      refine lv_iload_n X.1 X.2.1 dX11_writer_93 rfl (lv_at hl 1 rfl) ?_
      obtain ⟨hg_4, h⟩ := gdi_el h
      refine r_iald X hP 7 0 rfl rfl hg_4 rfl dX11_writer_94 ?_
      exact retU_i (fun u (_ : Option Nat) => (wPU tc a0 g0 q0_0 (a1 0) q0_2 q0_3 q0_4 (a2 0) q0_6 q0_7 q0_8 (a3 0) q0_10 q0_13 ++ (wSt tc a1 g1 q1_18 q1_19 ++ (wHd tc a2 u.1 ++ (wSc tc a3 u.2 (a1 0) (a2 0)))))) none (Option.some.inj h) X hQ hP hS (Nat.le_of_ble_eq_true rfl) (Nat.le_of_ble_eq_true rfl) dX11_writer_95
    · have h := it_f hq2_1 h
      by_cases hq2_2 : x2 = 2
      · have h := it_t hq2_2 h
        refine lv_tableIn (tgt := 96) X.1 X.2.1 dX11_writer_6 (by rw [hq2_2]; decide) (by rw [hq2_2]; decide) (by rw [hq2_2]; rfl) (by decide) ?_
        refine lv_aload_n X.1 X.2.1 dX11_writer_96 rfl (lv_at hl 0 rfl) ?_
        refine r_get (C := RX11) (T := TX11) (N := 15) (ci := 11) (v := .ref (a1 0)) X iw11 hP 0 rfl rfl 1 rfl mw_2_144 rfl dX11_writer_97 ?_
        refine r_get (C := RX9) (T := TX9) (N := 20) (ci := 9) (v := .ref (a1 11)) X iw9 hP 1 rfl rfl 10 rfl mw_1_161 rfl dX11_writer_100 ?_
        refine lv_iload_n X.1 X.2.1 dX11_writer_103 rfl (lv_at hl 1 rfl) ?_
        obtain ⟨hg_5, h⟩ := gdi_el h
        refine r_iald X hP 8 0 rfl rfl hg_5 rfl dX11_writer_104 ?_
        exact retU_i (fun u (_ : Option Nat) => (wPU tc a0 g0 q0_0 (a1 0) q0_2 q0_3 q0_4 (a2 0) q0_6 q0_7 q0_8 (a3 0) q0_10 q0_13 ++ (wSt tc a1 g1 q1_18 q1_19 ++ (wHd tc a2 u.1 ++ (wSc tc a3 u.2 (a1 0) (a2 0)))))) none (Option.some.inj h) X hQ hP hS (Nat.le_of_ble_eq_true rfl) (Nat.le_of_ble_eq_true rfl) dX11_writer_105
      · have h := it_f hq2_2 h
        by_cases hq2_3 : x2 = 3
        · have h := it_t hq2_3 h
          refine lv_tableIn (tgt := 106) X.1 X.2.1 dX11_writer_6 (by rw [hq2_3]; decide) (by rw [hq2_3]; decide) (by rw [hq2_3]; rfl) (by decide) ?_
          refine lv_aload_n X.1 X.2.1 dX11_writer_106 rfl (lv_at hl 0 rfl) ?_
          refine r_get (C := RX11) (T := TX11) (N := 15) (ci := 11) (v := .ref (a1 0)) X iw11 hP 0 rfl rfl 1 rfl mw_2_144 rfl dX11_writer_107 ?_
          refine r_get (C := RX9) (T := TX9) (N := 20) (ci := 9) (v := .ref (a1 12)) X iw9 hP 1 rfl rfl 11 rfl mw_1_166 rfl dX11_writer_110 ?_
          refine lv_iload_n X.1 X.2.1 dX11_writer_113 rfl (lv_at hl 1 rfl) ?_
          obtain ⟨hg_6, h⟩ := gdi_el h
          refine r_iald X hP 9 0 rfl rfl hg_6 rfl dX11_writer_114 ?_
          exact retU_i (fun u (_ : Option Nat) => (wPU tc a0 g0 q0_0 (a1 0) q0_2 q0_3 q0_4 (a2 0) q0_6 q0_7 q0_8 (a3 0) q0_10 q0_13 ++ (wSt tc a1 g1 q1_18 q1_19 ++ (wHd tc a2 u.1 ++ (wSc tc a3 u.2 (a1 0) (a2 0)))))) none (Option.some.inj h) X hQ hP hS (Nat.le_of_ble_eq_true rfl) (Nat.le_of_ble_eq_true rfl) dX11_writer_115
        · have h := it_f hq2_3 h
          by_cases hq2_4 : x2 = 4
          · have h := it_t hq2_4 h
            refine lv_tableIn (tgt := 116) X.1 X.2.1 dX11_writer_6 (by rw [hq2_4]; decide) (by rw [hq2_4]; decide) (by rw [hq2_4]; rfl) (by decide) ?_
            refine lv_aload_n X.1 X.2.1 dX11_writer_116 rfl (lv_at hl 0 rfl) ?_
            refine lv_iload_n X.1 X.2.1 dX11_writer_117 rfl (lv_at hl 1 rfl) ?_
            obtain ⟨g2_7, hc_7, h⟩ := bd_el h
            refine call_Vs (ws := (wPU tc a0 g0 q0_0 (a1 0) q0_2 q0_3 q0_4 (a2 0) q0_6 q0_7 q0_8 (a3 0) q0_10 q0_13 ++ (wSt tc a1 g1 q1_18 q1_19 ++ (wHd tc a2 g2 ++ (wSc tc a3 g3 (a1 0) (a2 0)))))) (ws' := (wPU tc a0 g0 q0_0 (a1 0) q0_2 q0_3 q0_4 (a2 0) q0_6 q0_7 q0_8 (a3 0) q0_10 q0_13 ++ (wSt tc a1 g1 q1_18 q1_19 ++ (wHd tc a2 g2_7 ++ (wSc tc a3 g3 (a1 0) (a2 0)))))) [] (wSc tc a3 g3 (a1 0) (a2 0)) (As := [.int x1]) (rest := []) X (c_X11_handOf l dC dI sk sv tc a0 q0_0 q0_2 q0_3 q0_4 q0_6 q0_7 q0_8 (a3 0) q0_10 q0_13 a1 q1_18 q1_19 a2 g0 g1 g2 x1 hc_7) mw_5_43 mw_5_45 mp_1_7 mw_1_1 mw_5_46 dc_X11_handOf ⟨Nat.le_of_ble_eq_true rfl, Nat.le_of_ble_eq_true rfl⟩ rfl rfl ⟨Nat.le_of_ble_eq_true rfl, Nat.le_of_ble_eq_true rfl⟩ (by simp only [List.append_assoc, List.nil_append, List.append_nil]) (by simp only [List.append_assoc, List.nil_append, List.append_nil]) hP (hD _ _ _ _) hS 0 rfl rfl rfl hl.1 (Nat.le_of_ble_eq_true rfl) dX11_writer_118 (fun H locs hP hS => ?_)
            refine W.eq (g2 := F0 m 121 ls [.ref (a2 0)]) rfl ?_
            obtain ⟨r_8, hc_8, h⟩ := bd_el h
            refine call_Vsi (ws := (wPU tc a0 g0 q0_0 (a1 0) q0_2 q0_3 q0_4 (a2 0) q0_6 q0_7 q0_8 (a3 0) q0_10 q0_13 ++ (wSt tc a1 g1 q1_18 q1_19 ++ (wHd tc a2 g2_7 ++ (wSc tc a3 g3 (a1 0) (a2 0)))))) (ws' := (wPU tc a0 g0 q0_0 (a1 0) q0_2 q0_3 q0_4 (a2 0) q0_6 q0_7 q0_8 (a3 0) q0_10 q0_13 ++ (wSt tc a1 g1 q1_18 q1_19 ++ (wHd tc a2 g2_7 ++ (wSc tc a3 g3 (a1 0) (a2 0)))))) (wPU tc a0 g0 q0_0 (a1 0) q0_2 q0_3 q0_4 (a2 0) q0_6 q0_7 q0_8 (a3 0) q0_10 q0_13 ++ (wSt tc a1 g1 q1_18 q1_19)) (wSc tc a3 g3 (a1 0) (a2 0)) (As := []) (rest := []) X (c_X3_clean l dC dI sk sv tc a2 g2_7 hc_8) mw_5_47 mw_5_48 mw_5_49 mw_1_7 mw_5_50 dc_X3_clean ⟨Nat.le_of_ble_eq_true rfl, Nat.le_of_ble_eq_true rfl⟩ rfl rfl ⟨Nat.le_of_ble_eq_true rfl, Nat.le_of_ble_eq_true rfl⟩ (by simp only [List.append_assoc, List.nil_append, List.append_nil]) (by simp only [List.append_assoc, List.nil_append, List.append_nil]) hP (hD _ _ _ _) hS 0 rfl rfl rfl hl.1 (Nat.le_of_ble_eq_true rfl) dX11_writer_121 (fun H locs hP hS => ?_)
            exact retU_i (fun u (_ : Option Nat) => (wPU tc a0 g0 q0_0 (a1 0) q0_2 q0_3 q0_4 (a2 0) q0_6 q0_7 q0_8 (a3 0) q0_10 q0_13 ++ (wSt tc a1 g1 q1_18 q1_19 ++ (wHd tc a2 u.1 ++ (wSc tc a3 u.2 (a1 0) (a2 0)))))) none (Option.some.inj h) X hQ hP hS (Nat.le_of_ble_eq_true rfl) (Nat.le_of_ble_eq_true rfl) dX11_writer_124
          · have h := it_f hq2_4 h
            by_cases hq2_5 : x2 = 5
            · have h := it_t hq2_5 h
              refine lv_tableIn (tgt := 125) X.1 X.2.1 dX11_writer_6 (by rw [hq2_5]; decide) (by rw [hq2_5]; decide) (by rw [hq2_5]; rfl) (by decide) ?_
              refine lv_aload_n X.1 X.2.1 dX11_writer_125 rfl (lv_at hl 0 rfl) ?_
              refine lv_iload_n X.1 X.2.1 dX11_writer_126 rfl (lv_at hl 1 rfl) ?_
              obtain ⟨g2_9, hc_9, h⟩ := bd_el h
              refine call_Vs (ws := (wPU tc a0 g0 q0_0 (a1 0) q0_2 q0_3 q0_4 (a2 0) q0_6 q0_7 q0_8 (a3 0) q0_10 q0_13 ++ (wSt tc a1 g1 q1_18 q1_19 ++ (wHd tc a2 g2 ++ (wSc tc a3 g3 (a1 0) (a2 0)))))) (ws' := (wPU tc a0 g0 q0_0 (a1 0) q0_2 q0_3 q0_4 (a2 0) q0_6 q0_7 q0_8 (a3 0) q0_10 q0_13 ++ (wSt tc a1 g1 q1_18 q1_19 ++ (wHd tc a2 g2_9 ++ (wSc tc a3 g3 (a1 0) (a2 0)))))) [] (wSc tc a3 g3 (a1 0) (a2 0)) (As := [.int x1]) (rest := []) X (c_X11_handOf l dC dI sk sv tc a0 q0_0 q0_2 q0_3 q0_4 q0_6 q0_7 q0_8 (a3 0) q0_10 q0_13 a1 q1_18 q1_19 a2 g0 g1 g2 x1 hc_9) mw_5_43 mw_5_45 mp_1_7 mw_1_1 mw_5_46 dc_X11_handOf ⟨Nat.le_of_ble_eq_true rfl, Nat.le_of_ble_eq_true rfl⟩ rfl rfl ⟨Nat.le_of_ble_eq_true rfl, Nat.le_of_ble_eq_true rfl⟩ (by simp only [List.append_assoc, List.nil_append, List.append_nil]) (by simp only [List.append_assoc, List.nil_append, List.append_nil]) hP (hD _ _ _ _) hS 0 rfl rfl rfl hl.1 (Nat.le_of_ble_eq_true rfl) dX11_writer_127 (fun H locs hP hS => ?_)
              refine W.eq (g2 := F0 m 130 ls [.ref (a2 0)]) rfl ?_
              obtain ⟨r_10, hc_10, h⟩ := bd_el h
              refine call_Vsi (ws := (wPU tc a0 g0 q0_0 (a1 0) q0_2 q0_3 q0_4 (a2 0) q0_6 q0_7 q0_8 (a3 0) q0_10 q0_13 ++ (wSt tc a1 g1 q1_18 q1_19 ++ (wHd tc a2 g2_9 ++ (wSc tc a3 g3 (a1 0) (a2 0)))))) (ws' := (wPU tc a0 g0 q0_0 (a1 0) q0_2 q0_3 q0_4 (a2 0) q0_6 q0_7 q0_8 (a3 0) q0_10 q0_13 ++ (wSt tc a1 g1 q1_18 q1_19 ++ (wHd tc a2 g2_9 ++ (wSc tc a3 g3 (a1 0) (a2 0)))))) (wPU tc a0 g0 q0_0 (a1 0) q0_2 q0_3 q0_4 (a2 0) q0_6 q0_7 q0_8 (a3 0) q0_10 q0_13 ++ (wSt tc a1 g1 q1_18 q1_19)) (wSc tc a3 g3 (a1 0) (a2 0)) (As := []) (rest := []) X (c_X3_lost l dC dI sk sv tc a2 g2_9 hc_10) mw_5_51 mw_5_52 mw_5_53 mw_1_7 mw_5_54 dc_X3_lost ⟨Nat.le_of_ble_eq_true rfl, Nat.le_of_ble_eq_true rfl⟩ rfl rfl ⟨Nat.le_of_ble_eq_true rfl, Nat.le_of_ble_eq_true rfl⟩ (by simp only [List.append_assoc, List.nil_append, List.append_nil]) (by simp only [List.append_assoc, List.nil_append, List.append_nil]) hP (hD _ _ _ _) hS 0 rfl rfl rfl hl.1 (Nat.le_of_ble_eq_true rfl) dX11_writer_130 (fun H locs hP hS => ?_)
              exact retU_i (fun u (_ : Option Nat) => (wPU tc a0 g0 q0_0 (a1 0) q0_2 q0_3 q0_4 (a2 0) q0_6 q0_7 q0_8 (a3 0) q0_10 q0_13 ++ (wSt tc a1 g1 q1_18 q1_19 ++ (wHd tc a2 u.1 ++ (wSc tc a3 u.2 (a1 0) (a2 0)))))) none (Option.some.inj h) X hQ hP hS (Nat.le_of_ble_eq_true rfl) (Nat.le_of_ble_eq_true rfl) dX11_writer_133
            · have h := it_f hq2_5 h
              by_cases hq2_6 : x2 = 6
              · have h := it_t hq2_6 h
                refine lv_tableIn (tgt := 134) X.1 X.2.1 dX11_writer_6 (by rw [hq2_6]; decide) (by rw [hq2_6]; decide) (by rw [hq2_6]; rfl) (by decide) ?_
                refine lv_aload_n X.1 X.2.1 dX11_writer_134 rfl (lv_at hl 0 rfl) ?_
                refine lv_iload_n X.1 X.2.1 dX11_writer_135 rfl (lv_at hl 1 rfl) ?_
                obtain ⟨g2_11, hc_11, h⟩ := bd_el h
                refine call_Vs (ws := (wPU tc a0 g0 q0_0 (a1 0) q0_2 q0_3 q0_4 (a2 0) q0_6 q0_7 q0_8 (a3 0) q0_10 q0_13 ++ (wSt tc a1 g1 q1_18 q1_19 ++ (wHd tc a2 g2 ++ (wSc tc a3 g3 (a1 0) (a2 0)))))) (ws' := (wPU tc a0 g0 q0_0 (a1 0) q0_2 q0_3 q0_4 (a2 0) q0_6 q0_7 q0_8 (a3 0) q0_10 q0_13 ++ (wSt tc a1 g1 q1_18 q1_19 ++ (wHd tc a2 g2_11 ++ (wSc tc a3 g3 (a1 0) (a2 0)))))) [] (wSc tc a3 g3 (a1 0) (a2 0)) (As := [.int x1]) (rest := []) X (c_X11_handOf l dC dI sk sv tc a0 q0_0 q0_2 q0_3 q0_4 q0_6 q0_7 q0_8 (a3 0) q0_10 q0_13 a1 q1_18 q1_19 a2 g0 g1 g2 x1 hc_11) mw_5_43 mw_5_45 mp_1_7 mw_1_1 mw_5_46 dc_X11_handOf ⟨Nat.le_of_ble_eq_true rfl, Nat.le_of_ble_eq_true rfl⟩ rfl rfl ⟨Nat.le_of_ble_eq_true rfl, Nat.le_of_ble_eq_true rfl⟩ (by simp only [List.append_assoc, List.nil_append, List.append_nil]) (by simp only [List.append_assoc, List.nil_append, List.append_nil]) hP (hD _ _ _ _) hS 0 rfl rfl rfl hl.1 (Nat.le_of_ble_eq_true rfl) dX11_writer_136 (fun H locs hP hS => ?_)
                refine W.eq (g2 := F0 m 139 ls [.ref (a2 0)]) rfl ?_
                obtain ⟨r_12, hc_12, h⟩ := bd_el h
                refine call_Vsi (ws := (wPU tc a0 g0 q0_0 (a1 0) q0_2 q0_3 q0_4 (a2 0) q0_6 q0_7 q0_8 (a3 0) q0_10 q0_13 ++ (wSt tc a1 g1 q1_18 q1_19 ++ (wHd tc a2 g2_11 ++ (wSc tc a3 g3 (a1 0) (a2 0)))))) (ws' := (wPU tc a0 g0 q0_0 (a1 0) q0_2 q0_3 q0_4 (a2 0) q0_6 q0_7 q0_8 (a3 0) q0_10 q0_13 ++ (wSt tc a1 g1 q1_18 q1_19 ++ (wHd tc a2 g2_11 ++ (wSc tc a3 g3 (a1 0) (a2 0)))))) (wPU tc a0 g0 q0_0 (a1 0) q0_2 q0_3 q0_4 (a2 0) q0_6 q0_7 q0_8 (a3 0) q0_10 q0_13 ++ (wSt tc a1 g1 q1_18 q1_19)) (wSc tc a3 g3 (a1 0) (a2 0)) (As := []) (rest := []) X (c_X3_saved l dC dI sk sv tc a2 g2_11 hc_12) mw_5_59 mw_5_60 mw_5_61 mw_1_7 mw_5_62 dc_X3_saved ⟨Nat.le_of_ble_eq_true rfl, Nat.le_of_ble_eq_true rfl⟩ rfl rfl ⟨Nat.le_of_ble_eq_true rfl, Nat.le_of_ble_eq_true rfl⟩ (by simp only [List.append_assoc, List.nil_append, List.append_nil]) (by simp only [List.append_assoc, List.nil_append, List.append_nil]) hP (hD _ _ _ _) hS 0 rfl rfl rfl hl.1 (Nat.le_of_ble_eq_true rfl) dX11_writer_139 (fun H locs hP hS => ?_)
                exact retU_i (fun u (_ : Option Nat) => (wPU tc a0 g0 q0_0 (a1 0) q0_2 q0_3 q0_4 (a2 0) q0_6 q0_7 q0_8 (a3 0) q0_10 q0_13 ++ (wSt tc a1 g1 q1_18 q1_19 ++ (wHd tc a2 u.1 ++ (wSc tc a3 u.2 (a1 0) (a2 0)))))) none (Option.some.inj h) X hQ hP hS (Nat.le_of_ble_eq_true rfl) (Nat.le_of_ble_eq_true rfl) dX11_writer_142
              · have h := it_f hq2_6 h
                by_cases hq2_7 : x2 = 7
                · have h := it_t hq2_7 h
                  refine lv_tableIn (tgt := 143) X.1 X.2.1 dX11_writer_6 (by rw [hq2_7]; decide) (by rw [hq2_7]; decide) (by rw [hq2_7]; rfl) (by decide) ?_
                  refine lv_aload_n X.1 X.2.1 dX11_writer_143 rfl (lv_at hl 0 rfl) ?_
                  refine r_get (C := RX11) (T := TX11) (N := 15) (ci := 11) (v := .ref (a3 0)) X iw11 hP 0 rfl rfl 9 rfl mw_2_152 rfl dX11_writer_144 ?_
                  refine lv_iload_n X.1 X.2.1 dX11_writer_147 rfl (lv_at hl 1 rfl) ?_
                  obtain ⟨r_13, g3_13, g2_13, hc_13, h⟩ := bd3_el h
                  refine call_Q (ws := (wPU tc a0 g0 q0_0 (a1 0) q0_2 q0_3 q0_4 (a2 0) q0_6 q0_7 q0_8 (a3 0) q0_10 q0_13 ++ (wSt tc a1 g1 q1_18 q1_19 ++ (wHd tc a2 g2 ++ (wSc tc a3 g3 (a1 0) (a2 0)))))) (ws' := (wPU tc a0 g0 q0_0 (a1 0) q0_2 q0_3 q0_4 (a2 0) q0_6 q0_7 q0_8 (a3 0) q0_10 q0_13 ++ (wSt tc a1 g1 q1_18 q1_19 ++ (wHd tc a2 g2_13 ++ (wSc tc a3 g3_13 (a1 0) (a2 0)))))) (wr := (wPU tc a0 g0 q0_0 (a1 0) q0_2 q0_3 q0_4 (a2 0) q0_6 q0_7 q0_8 (a3 0) q0_10 q0_13)) [16, 17, 18, 19, 11, 12, 13, 14, 15, 1, 2, 3, 4, 5, 6, 7, 8, 9, 10] [0] [0, 10, 11, 12, 13, 14, 15, 16, 17, 18, 19, 5, 6, 7, 8, 9, 1, 2, 3, 4] (As := [.int x1]) (rest := []) X (c_X8_doneOf l dC dI sk sv tc a3 a2 a1 q1_18 q1_19 g3 g2 g1 x1 hc_13) mw_5_63 mw_5_64 mw_5_65 mw_1_11 mw_5_66 dc_X8_doneOf ⟨Nat.le_of_ble_eq_true rfl, Nat.le_of_ble_eq_true rfl⟩ rfl rfl ⟨Nat.le_of_ble_eq_true rfl, Nat.le_of_ble_eq_true rfl⟩ ⟨rfl, rfl, rfl, rfl, by decide, rfl, rfl⟩ hP (hD _ _ _ _) hS 0 rfl rfl rfl hl.1 (Nat.le_of_ble_eq_true rfl) dX11_writer_148 (fun H locs hP hS => ?_)
                  refine W.eq (g2 := F0 m 151 ls [.int r_13]) rfl ?_
                  exact retU_i (fun u (_ : Option Nat) => (wPU tc a0 g0 q0_0 (a1 0) q0_2 q0_3 q0_4 (a2 0) q0_6 q0_7 q0_8 (a3 0) q0_10 q0_13 ++ (wSt tc a1 g1 q1_18 q1_19 ++ (wHd tc a2 u.1 ++ (wSc tc a3 u.2 (a1 0) (a2 0)))))) none (Option.some.inj h) X hQ hP hS (Nat.le_of_ble_eq_true rfl) (Nat.le_of_ble_eq_true rfl) dX11_writer_151
                · have h := it_f hq2_7 h
                  by_cases hq2_8 : x2 = 8
                  · have h := it_t hq2_8 h
                    refine lv_tableIn (tgt := 152) X.1 X.2.1 dX11_writer_6 (by rw [hq2_8]; decide) (by rw [hq2_8]; decide) (by rw [hq2_8]; rfl) (by decide) ?_
                    refine lv_aload_n X.1 X.2.1 dX11_writer_152 rfl (lv_at hl 0 rfl) ?_
                    refine r_get (C := RX11) (T := TX11) (N := 15) (ci := 11) (v := .ref (a3 0)) X iw11 hP 0 rfl rfl 9 rfl mw_2_152 rfl dX11_writer_153 ?_
                    refine lv_iload_n X.1 X.2.1 dX11_writer_156 rfl (lv_at hl 1 rfl) ?_
                    refine lv_aload_n X.1 X.2.1 dX11_writer_157 rfl (lv_at hl 0 rfl) ?_
                    refine r_get (C := RX11) (T := TX11) (N := 15) (ci := 11) (v := .ref (a1 0)) X iw11 hP 0 rfl rfl 1 rfl mw_2_144 rfl dX11_writer_158 ?_
                    refine r_get (C := RX9) (T := TX9) (N := 20) (ci := 9) (v := .int (g1 13 0)) X iw9 hP 1 rfl rfl 13 rfl mw_1_175 rfl dX11_writer_161 ?_
                    obtain ⟨r_14, g3_14, g2_14, hc_14, h⟩ := bd3_el h
                    refine call_Q (ws := (wPU tc a0 g0 q0_0 (a1 0) q0_2 q0_3 q0_4 (a2 0) q0_6 q0_7 q0_8 (a3 0) q0_10 q0_13 ++ (wSt tc a1 g1 q1_18 q1_19 ++ (wHd tc a2 g2 ++ (wSc tc a3 g3 (a1 0) (a2 0)))))) (ws' := (wPU tc a0 g0 q0_0 (a1 0) q0_2 q0_3 q0_4 (a2 0) q0_6 q0_7 q0_8 (a3 0) q0_10 q0_13 ++ (wSt tc a1 g1 q1_18 q1_19 ++ (wHd tc a2 g2_14 ++ (wSc tc a3 g3_14 (a1 0) (a2 0)))))) (wr := (wPU tc a0 g0 q0_0 (a1 0) q0_2 q0_3 q0_4 (a2 0) q0_6 q0_7 q0_8 (a3 0) q0_10 q0_13)) [16, 17, 18, 19, 11, 12, 13, 14, 15, 1, 2, 3, 4, 5, 6, 7, 8, 9, 10] [0] [0, 10, 11, 12, 13, 14, 15, 16, 17, 18, 19, 5, 6, 7, 8, 9, 1, 2, 3, 4] (As := [.int x1, .int (g1 13 0)]) (rest := []) X (c_X8_lagOf l dC dI sk sv tc a3 a2 a1 q1_18 q1_19 g3 g2 g1 x1 (g1 13 0) hc_14) mw_3_15 mw_3_16 mw_3_17 mw_1_11 mw_3_18 dc_X8_lagOf ⟨Nat.le_of_ble_eq_true rfl, Nat.le_of_ble_eq_true rfl⟩ rfl rfl ⟨Nat.le_of_ble_eq_true rfl, Nat.le_of_ble_eq_true rfl⟩ ⟨rfl, rfl, rfl, rfl, by decide, rfl, rfl⟩ hP (hD _ _ _ _) hS 0 rfl rfl rfl hl.1 (Nat.le_of_ble_eq_true rfl) dX11_writer_164 (fun H locs hP hS => ?_)
                    refine W.eq (g2 := F0 m 167 ls [.int r_14]) rfl ?_
                    exact retU_i (fun u (_ : Option Nat) => (wPU tc a0 g0 q0_0 (a1 0) q0_2 q0_3 q0_4 (a2 0) q0_6 q0_7 q0_8 (a3 0) q0_10 q0_13 ++ (wSt tc a1 g1 q1_18 q1_19 ++ (wHd tc a2 u.1 ++ (wSc tc a3 u.2 (a1 0) (a2 0)))))) none (Option.some.inj h) X hQ hP hS (Nat.le_of_ble_eq_true rfl) (Nat.le_of_ble_eq_true rfl) dX11_writer_167
                  · have h := it_f hq2_8 h
                    by_cases hq2_9 : x2 = 9
                    · have h := it_t hq2_9 h
                      refine lv_tableIn (tgt := 168) X.1 X.2.1 dX11_writer_6 (by rw [hq2_9]; decide) (by rw [hq2_9]; decide) (by rw [hq2_9]; rfl) (by decide) ?_
                      refine lv_aload_n X.1 X.2.1 dX11_writer_168 rfl (lv_at hl 0 rfl) ?_
                      refine r_get (C := RX11) (T := TX11) (N := 15) (ci := 11) (v := .ref (a3 0)) X iw11 hP 0 rfl rfl 9 rfl mw_2_152 rfl dX11_writer_169 ?_
                      refine lv_iload_n X.1 X.2.1 dX11_writer_172 rfl (lv_at hl 1 rfl) ?_
                      obtain ⟨r_15, g3_15, g2_15, hc_15, h⟩ := bd3_el h
                      refine call_Q (ws := (wPU tc a0 g0 q0_0 (a1 0) q0_2 q0_3 q0_4 (a2 0) q0_6 q0_7 q0_8 (a3 0) q0_10 q0_13 ++ (wSt tc a1 g1 q1_18 q1_19 ++ (wHd tc a2 g2 ++ (wSc tc a3 g3 (a1 0) (a2 0)))))) (ws' := (wPU tc a0 g0 q0_0 (a1 0) q0_2 q0_3 q0_4 (a2 0) q0_6 q0_7 q0_8 (a3 0) q0_10 q0_13 ++ (wSt tc a1 g1 q1_18 q1_19 ++ (wHd tc a2 g2_15 ++ (wSc tc a3 g3_15 (a1 0) (a2 0)))))) (wr := (wPU tc a0 g0 q0_0 (a1 0) q0_2 q0_3 q0_4 (a2 0) q0_6 q0_7 q0_8 (a3 0) q0_10 q0_13)) [16, 17, 18, 19, 11, 12, 13, 14, 15, 1, 2, 3, 4, 5, 6, 7, 8, 9, 10] [0] [0, 10, 11, 12, 13, 14, 15, 16, 17, 18, 19, 5, 6, 7, 8, 9, 1, 2, 3, 4] (As := [.int x1]) (rest := []) X (c_X8_edgeOf l dC dI sk sv tc a3 a2 a1 q1_18 q1_19 g3 g2 g1 x1 hc_15) mw_5_68 mw_5_69 mw_5_70 mw_1_11 mw_5_71 dc_X8_edgeOf ⟨Nat.le_of_ble_eq_true rfl, Nat.le_of_ble_eq_true rfl⟩ rfl rfl ⟨Nat.le_of_ble_eq_true rfl, Nat.le_of_ble_eq_true rfl⟩ ⟨rfl, rfl, rfl, rfl, by decide, rfl, rfl⟩ hP (hD _ _ _ _) hS 0 rfl rfl rfl hl.1 (Nat.le_of_ble_eq_true rfl) dX11_writer_173 (fun H locs hP hS => ?_)
                      refine W.eq (g2 := F0 m 176 ls [.int r_15]) rfl ?_
                      exact retU_i (fun u (_ : Option Nat) => (wPU tc a0 g0 q0_0 (a1 0) q0_2 q0_3 q0_4 (a2 0) q0_6 q0_7 q0_8 (a3 0) q0_10 q0_13 ++ (wSt tc a1 g1 q1_18 q1_19 ++ (wHd tc a2 u.1 ++ (wSc tc a3 u.2 (a1 0) (a2 0)))))) none (Option.some.inj h) X hQ hP hS (Nat.le_of_ble_eq_true rfl) (Nat.le_of_ble_eq_true rfl) dX11_writer_176
                    · have h := it_f hq2_9 h
                      by_cases hq2_10 : x2 = 10
                      · have h := it_t hq2_10 h
                        refine lv_tableIn (tgt := 177) X.1 X.2.1 dX11_writer_6 (by rw [hq2_10]; decide) (by rw [hq2_10]; decide) (by rw [hq2_10]; rfl) (by decide) ?_
                        refine lv_aload_n X.1 X.2.1 dX11_writer_177 rfl (lv_at hl 0 rfl) ?_
                        refine r_get (C := RX11) (T := TX11) (N := 15) (ci := 11) (v := .ref (a3 0)) X iw11 hP 0 rfl rfl 9 rfl mw_2_152 rfl dX11_writer_178 ?_
                        refine lv_iload_n X.1 X.2.1 dX11_writer_181 rfl (lv_at hl 1 rfl) ?_
                        obtain ⟨r_16, hc_16, h⟩ := bd_el h
                        refine call_Q (ws := (wPU tc a0 g0 q0_0 (a1 0) q0_2 q0_3 q0_4 (a2 0) q0_6 q0_7 q0_8 (a3 0) q0_10 q0_13 ++ (wSt tc a1 g1 q1_18 q1_19 ++ (wHd tc a2 g2 ++ (wSc tc a3 g3 (a1 0) (a2 0)))))) (ws' := (wPU tc a0 g0 q0_0 (a1 0) q0_2 q0_3 q0_4 (a2 0) q0_6 q0_7 q0_8 (a3 0) q0_10 q0_13 ++ (wSt tc a1 g1 q1_18 q1_19 ++ (wHd tc a2 g2 ++ (wSc tc a3 g3 (a1 0) (a2 0)))))) (wr := (wPU tc a0 g0 q0_0 (a1 0) q0_2 q0_3 q0_4 (a2 0) q0_6 q0_7 q0_8 (a3 0) q0_10 q0_13)) [16, 17, 18, 19, 11, 12, 13, 14, 15, 1, 2, 3, 4, 5, 6, 7, 8, 9, 10] [0] [0, 10, 11, 12, 13, 14, 15, 16, 17, 18, 19, 5, 6, 7, 8, 9, 1, 2, 3, 4] (As := [.int x1]) (rest := []) X (c_X8_runOf l dC dI sk sv tc a3 a2 a1 q1_18 q1_19 g3 g2 g1 x1 hc_16) mw_5_72 mw_5_73 mw_5_74 mw_1_11 mw_5_75 dc_X8_runOf ⟨Nat.le_of_ble_eq_true rfl, Nat.le_of_ble_eq_true rfl⟩ rfl rfl ⟨Nat.le_of_ble_eq_true rfl, Nat.le_of_ble_eq_true rfl⟩ ⟨rfl, rfl, rfl, rfl, by decide, rfl, rfl⟩ hP (hD _ _ _ _) hS 0 rfl rfl rfl hl.1 (Nat.le_of_ble_eq_true rfl) dX11_writer_182 (fun H locs hP hS => ?_)
                        refine W.eq (g2 := F0 m 185 ls [.int r_16]) rfl ?_
                        exact retU_i (fun u (_ : Option Nat) => (wPU tc a0 g0 q0_0 (a1 0) q0_2 q0_3 q0_4 (a2 0) q0_6 q0_7 q0_8 (a3 0) q0_10 q0_13 ++ (wSt tc a1 g1 q1_18 q1_19 ++ (wHd tc a2 u.1 ++ (wSc tc a3 u.2 (a1 0) (a2 0)))))) none (Option.some.inj h) X hQ hP hS (Nat.le_of_ble_eq_true rfl) (Nat.le_of_ble_eq_true rfl) dX11_writer_185
                      · have h := it_f hq2_10 h
                        by_cases hq2_11 : x2 = 11
                        · have h := it_t hq2_11 h
                          refine lv_tableIn (tgt := 186) X.1 X.2.1 dX11_writer_6 (by rw [hq2_11]; decide) (by rw [hq2_11]; decide) (by rw [hq2_11]; rfl) (by decide) ?_
                          refine lv_aload_n X.1 X.2.1 dX11_writer_186 rfl (lv_at hl 0 rfl) ?_
                          refine r_get (C := RX11) (T := TX11) (N := 15) (ci := 11) (v := .ref (a3 0)) X iw11 hP 0 rfl rfl 9 rfl mw_2_152 rfl dX11_writer_187 ?_
                          refine lv_iload_n X.1 X.2.1 dX11_writer_190 rfl (lv_at hl 1 rfl) ?_
                          obtain ⟨r_17, hc_17, h⟩ := bd_el h
                          refine call_Q (ws := (wPU tc a0 g0 q0_0 (a1 0) q0_2 q0_3 q0_4 (a2 0) q0_6 q0_7 q0_8 (a3 0) q0_10 q0_13 ++ (wSt tc a1 g1 q1_18 q1_19 ++ (wHd tc a2 g2 ++ (wSc tc a3 g3 (a1 0) (a2 0)))))) (ws' := (wPU tc a0 g0 q0_0 (a1 0) q0_2 q0_3 q0_4 (a2 0) q0_6 q0_7 q0_8 (a3 0) q0_10 q0_13 ++ (wSt tc a1 g1 q1_18 q1_19 ++ (wHd tc a2 g2 ++ (wSc tc a3 g3 (a1 0) (a2 0)))))) (wr := (wPU tc a0 g0 q0_0 (a1 0) q0_2 q0_3 q0_4 (a2 0) q0_6 q0_7 q0_8 (a3 0) q0_10 q0_13)) [16, 17, 18, 19, 11, 12, 13, 14, 15, 1, 2, 3, 4, 5, 6, 7, 8, 9, 10] [0] [0, 10, 11, 12, 13, 14, 15, 16, 17, 18, 19, 5, 6, 7, 8, 9, 1, 2, 3, 4] (As := [.int x1]) (rest := []) X (c_X8_gapsOf l dC dI sk sv tc a3 a2 a1 q1_18 q1_19 g3 g2 g1 x1 hc_17) mw_5_80 mw_5_81 mw_5_82 mw_1_11 mw_5_83 dc_X8_gapsOf ⟨Nat.le_of_ble_eq_true rfl, Nat.le_of_ble_eq_true rfl⟩ rfl rfl ⟨Nat.le_of_ble_eq_true rfl, Nat.le_of_ble_eq_true rfl⟩ ⟨rfl, rfl, rfl, rfl, by decide, rfl, rfl⟩ hP (hD _ _ _ _) hS 0 rfl rfl rfl hl.1 (Nat.le_of_ble_eq_true rfl) dX11_writer_191 (fun H locs hP hS => ?_)
                          refine W.eq (g2 := F0 m 194 ls [.int r_17]) rfl ?_
                          exact retU_i (fun u (_ : Option Nat) => (wPU tc a0 g0 q0_0 (a1 0) q0_2 q0_3 q0_4 (a2 0) q0_6 q0_7 q0_8 (a3 0) q0_10 q0_13 ++ (wSt tc a1 g1 q1_18 q1_19 ++ (wHd tc a2 u.1 ++ (wSc tc a3 u.2 (a1 0) (a2 0)))))) none (Option.some.inj h) X hQ hP hS (Nat.le_of_ble_eq_true rfl) (Nat.le_of_ble_eq_true rfl) dX11_writer_194
                        · have h := it_f hq2_11 h
                          by_cases hq2_12 : x2 = 12
                          · have h := it_t hq2_12 h
                            refine lv_tableIn (tgt := 195) X.1 X.2.1 dX11_writer_6 (by rw [hq2_12]; decide) (by rw [hq2_12]; decide) (by rw [hq2_12]; rfl) (by decide) ?_
                            refine lv_aload_n X.1 X.2.1 dX11_writer_195 rfl (lv_at hl 0 rfl) ?_
                            refine r_get (C := RX11) (T := TX11) (N := 15) (ci := 11) (v := .ref (a3 0)) X iw11 hP 0 rfl rfl 9 rfl mw_2_152 rfl dX11_writer_196 ?_
                            refine lv_iload_n X.1 X.2.1 dX11_writer_199 rfl (lv_at hl 1 rfl) ?_
                            obtain ⟨r_18, g2_18, hc_18, h⟩ := bd2_el h
                            refine call_Q (ws := (wPU tc a0 g0 q0_0 (a1 0) q0_2 q0_3 q0_4 (a2 0) q0_6 q0_7 q0_8 (a3 0) q0_10 q0_13 ++ (wSt tc a1 g1 q1_18 q1_19 ++ (wHd tc a2 g2 ++ (wSc tc a3 g3 (a1 0) (a2 0)))))) (ws' := (wPU tc a0 g0 q0_0 (a1 0) q0_2 q0_3 q0_4 (a2 0) q0_6 q0_7 q0_8 (a3 0) q0_10 q0_13 ++ (wSt tc a1 g1 q1_18 q1_19 ++ (wHd tc a2 g2_18 ++ (wSc tc a3 g3 (a1 0) (a2 0)))))) (wr := (wPU tc a0 g0 q0_0 (a1 0) q0_2 q0_3 q0_4 (a2 0) q0_6 q0_7 q0_8 (a3 0) q0_10 q0_13)) [16, 17, 18, 19, 11, 12, 13, 14, 15, 1, 2, 3, 4, 5, 6, 7, 8, 9, 10] [0] [0, 10, 11, 12, 13, 14, 15, 16, 17, 18, 19, 5, 6, 7, 8, 9, 1, 2, 3, 4] (As := [.int x1]) (rest := []) X (c_X8_trueOf l dC dI sk sv tc a3 a2 a1 q1_18 q1_19 g3 g2 g1 x1 hc_18) mw_5_89 mw_5_90 mw_5_91 mw_1_11 mw_5_92 dc_X8_trueOf ⟨Nat.le_of_ble_eq_true rfl, Nat.le_of_ble_eq_true rfl⟩ rfl rfl ⟨Nat.le_of_ble_eq_true rfl, Nat.le_of_ble_eq_true rfl⟩ ⟨rfl, rfl, rfl, rfl, by decide, rfl, rfl⟩ hP (hD _ _ _ _) hS 0 rfl rfl rfl hl.1 (Nat.le_of_ble_eq_true rfl) dX11_writer_200 (fun H locs hP hS => ?_)
                            refine W.eq (g2 := F0 m 203 ls [.int r_18]) rfl ?_
                            exact retU_i (fun u (_ : Option Nat) => (wPU tc a0 g0 q0_0 (a1 0) q0_2 q0_3 q0_4 (a2 0) q0_6 q0_7 q0_8 (a3 0) q0_10 q0_13 ++ (wSt tc a1 g1 q1_18 q1_19 ++ (wHd tc a2 u.1 ++ (wSc tc a3 u.2 (a1 0) (a2 0)))))) none (Option.some.inj h) X hQ hP hS (Nat.le_of_ble_eq_true rfl) (Nat.le_of_ble_eq_true rfl) dX11_writer_203
                          · have h := it_f hq2_12 h
                            by_cases hq2_13 : x2 = 13
                            · have h := it_t hq2_13 h
                              refine lv_tableIn (tgt := 204) X.1 X.2.1 dX11_writer_6 (by rw [hq2_13]; decide) (by rw [hq2_13]; decide) (by rw [hq2_13]; rfl) (by decide) ?_
                              refine lv_aload_n X.1 X.2.1 dX11_writer_204 rfl (lv_at hl 0 rfl) ?_
                              refine r_get (C := RX11) (T := TX11) (N := 15) (ci := 11) (v := .ref (a3 0)) X iw11 hP 0 rfl rfl 9 rfl mw_2_152 rfl dX11_writer_205 ?_
                              refine lv_iload_n X.1 X.2.1 dX11_writer_208 rfl (lv_at hl 1 rfl) ?_
                              obtain ⟨r_19, hc_19, h⟩ := bd_el h
                              refine call_Q (ws := (wPU tc a0 g0 q0_0 (a1 0) q0_2 q0_3 q0_4 (a2 0) q0_6 q0_7 q0_8 (a3 0) q0_10 q0_13 ++ (wSt tc a1 g1 q1_18 q1_19 ++ (wHd tc a2 g2 ++ (wSc tc a3 g3 (a1 0) (a2 0)))))) (ws' := (wPU tc a0 g0 q0_0 (a1 0) q0_2 q0_3 q0_4 (a2 0) q0_6 q0_7 q0_8 (a3 0) q0_10 q0_13 ++ (wSt tc a1 g1 q1_18 q1_19 ++ (wHd tc a2 g2 ++ (wSc tc a3 g3 (a1 0) (a2 0)))))) (wr := (wPU tc a0 g0 q0_0 (a1 0) q0_2 q0_3 q0_4 (a2 0) q0_6 q0_7 q0_8 (a3 0) q0_10 q0_13)) [16, 17, 18, 19, 11, 12, 13, 14, 15, 1, 2, 3, 4, 5, 6, 7, 8, 9, 10] [0] [0, 10, 11, 12, 13, 14, 15, 16, 17, 18, 19, 5, 6, 7, 8, 9, 1, 2, 3, 4] (As := [.int x1]) (rest := []) X (c_X8_shareOf l dC dI sk sv tc a3 a2 a1 q1_18 q1_19 g3 g2 g1 x1 hc_19) mw_5_94 mw_5_95 mw_5_96 mw_1_11 mw_5_97 dc_X8_shareOf ⟨Nat.le_of_ble_eq_true rfl, Nat.le_of_ble_eq_true rfl⟩ rfl rfl ⟨Nat.le_of_ble_eq_true rfl, Nat.le_of_ble_eq_true rfl⟩ ⟨rfl, rfl, rfl, rfl, by decide, rfl, rfl⟩ hP (hD _ _ _ _) hS 0 rfl rfl rfl hl.1 (Nat.le_of_ble_eq_true rfl) dX11_writer_209 (fun H locs hP hS => ?_)
                              refine W.eq (g2 := F0 m 212 ls [.int r_19]) rfl ?_
                              exact retU_i (fun u (_ : Option Nat) => (wPU tc a0 g0 q0_0 (a1 0) q0_2 q0_3 q0_4 (a2 0) q0_6 q0_7 q0_8 (a3 0) q0_10 q0_13 ++ (wSt tc a1 g1 q1_18 q1_19 ++ (wHd tc a2 u.1 ++ (wSc tc a3 u.2 (a1 0) (a2 0)))))) none (Option.some.inj h) X hQ hP hS (Nat.le_of_ble_eq_true rfl) (Nat.le_of_ble_eq_true rfl) dX11_writer_212
                            · have h := it_f hq2_13 h
                              refine lv_tableOut (tgt := 213) X.1 X.2.1 dX11_writer_6 (sw_out x2 [0, 1, 2, 3, 4, 5, 6, 7, 8, 9, 10, 11, 12, 13] 14 (by decide) (by decide) (by simp only [List.mem_cons, List.not_mem_nil, or_false, forall_eq_or_imp, forall_eq]; exact ⟨hq2_0, hq2_1, hq2_2, hq2_3, hq2_4, hq2_5, hq2_6, hq2_7, hq2_8, hq2_9, hq2_10, hq2_11, hq2_12, hq2_13⟩)) (by decide) ?_
                              exact thr_S (k := 2) (text := "no such thing of a writer") (ti := 26) none (oUi (fun u (_ : Option Nat) => (wPU tc a0 g0 q0_0 (a1 0) q0_2 q0_3 q0_4 (a2 0) q0_6 q0_7 q0_8 (a3 0) q0_10 q0_13 ++ (wSt tc a1 g1 q1_18 q1_19 ++ (wHd tc a2 u.1 ++ (wSc tc a3 u.2 (a1 0) (a2 0)))))) (Option.some.inj h)) X hT hst at_163 mw_5_7 mw_1_27 (List.mem_of_getElem? (i := 32) rfl) hQ hP hS hl.1 dX11_writer_213 dX11_writer_216 dX11_writer_217 dX11_writer_219 dX11_writer_222 (Nat.le_of_ble_eq_true rfl) (Nat.le_of_ble_eq_true rfl) (Nat.le_of_ble_eq_true rfl) (Nat.le_of_ble_eq_true rfl) (Nat.le_of_ble_eq_true rfl) (Nat.le_of_ble_eq_true rfl)

def f_X11_speech (g0 : Pic) (g1 : Pic) (x1 : Int32) : Option (Int32) := jn (fun (s0_J28 : Int32) => some s0_J28) (fun J28 => jn (fun (_ : Unit) => J28 (-1)) (fun J15 => (if x1 < 0 then J15 () else (if x1 < (g1 4 0) then gdi x1 20 (J28 (g1 5 (x1.toNatClampNeg))) else J15 ()))))
abbrev rm_X11_speech : Room := { frames := 0, cells := 0, slots := 0, locals := 0 }
set_option maxHeartbeats 4000000 in
set_option maxRecDepth 100000 in
theorem c_X11_speech (l : Launch) (dC : Nat → ClassId) (dI : Nat → Nat → Nat) (sk sv : Nat → Nat) (tc : Nat → ClassId) (a0 : Nat → Nat) (q0_0 : Nat) (q0_2 : Nat) (q0_3 : Nat) (q0_4 : Nat) (q0_5 : Nat) (q0_6 : Nat) (q0_7 : Nat) (q0_8 : Nat) (q0_9 : Nat) (q0_10 : Nat) (q0_13 : Option Nat) (a1 : Nat → Nat) (q1_18 : Option Nat) (q1_19 : Nat) (g0 : Pic) (g1 : Pic) (x1 : Int32) {r0 : Int32} (h : f_X11_speech g0 g1 x1 = some r0) : CT l (dC, dI) sk sv (TY tc) yX11_speech cX11_speech 2 (some .int) rm_X11_speech [.ref (a0 0), .int x1] (wPU tc a0 g0 q0_0 (a1 0) q0_2 q0_3 q0_4 q0_5 q0_6 q0_7 q0_8 q0_9 q0_10 q0_13 ++ (wSt tc a1 g1 q1_18 q1_19)) (some (.int r0)) (wPU tc a0 g0 q0_0 (a1 0) q0_2 q0_3 q0_4 q0_5 q0_6 q0_7 q0_8 q0_9 q0_10 q0_13 ++ (wSt tc a1 g1 q1_18 q1_19)) := by
  refine ofCT (by decide) (Nat.le_of_ble_eq_true rfl) ?_
  intro pr e s m args below meth c A Q ls H locs X hQ hD0 hP hS hl
  have hD : ∀ z0 z1, va_D A (wPU tc a0 z0 q0_0 (a1 0) q0_2 q0_3 q0_4 q0_5 q0_6 q0_7 q0_8 q0_9 q0_10 q0_13 ++ (wSt tc a1 z1 q1_18 q1_19)) := fun z0 z1 => D_fst (ws := (wPU tc a0 g0 q0_0 (a1 0) q0_2 q0_3 q0_4 q0_5 q0_6 q0_7 q0_8 q0_9 q0_10 q0_13 ++ (wSt tc a1 g1 q1_18 q1_19))) rfl hD0
  have hl : lv_has ls 2 [(0, .ref (a0 0)), (1, .int x1)] := hl
  unfold f_X11_speech at h
  refine lv_iload_n X.1 X.2.1 dX11_speech_0 rfl (lv_at hl 1 rfl) ?_
  obtain ⟨J28, eJ28, h⟩ := jn_el h
  have HJ28 : ∀ (s0_J28 : Int32) (H : Heap) (locs : List Loc) (ls : Array Slot), J28 s0_J28 = some r0 → va_P (dC, dI) vwCl (wPU tc a0 g0 q0_0 (a1 0) q0_2 q0_3 q0_4 q0_5 q0_6 q0_7 q0_8 q0_9 q0_10 q0_13 ++ (wSt tc a1 g1 q1_18 q1_19)) H → va_S A s.heap H locs → lv_has ls 2 [] → W pr l e rm_X11_speech s m args below meth c H locs 0 0 Q (F0 m 28 ls [.int s0_J28]) := by
    intro s0_J28 H locs ls h hP hS hl
    rw [eJ28] at h
    exact ret_i0 (Option.some.inj h) X hQ hP hS dX11_speech_28
  obtain ⟨J15, eJ15, h⟩ := jn_el h
  have HJ15 : ∀ (_ : Unit) (H : Heap) (locs : List Loc) (ls : Array Slot), J15 () = some r0 → va_P (dC, dI) vwCl (wPU tc a0 g0 q0_0 (a1 0) q0_2 q0_3 q0_4 q0_5 q0_6 q0_7 q0_8 q0_9 q0_10 q0_13 ++ (wSt tc a1 g1 q1_18 q1_19)) H → va_S A s.heap H locs → lv_has ls 2 [] → W pr l e rm_X11_speech s m args below meth c H locs 0 0 Q (F0 m 15 ls []) := by
    intro _ H locs ls h hP hS hl
    rw [eJ15] at h
    refine lv_iconst (v := (-1)) X.1 X.2.1 dX11_speech_15 (by decide) ?_
    refine lv_goto (tgt := 28) X.1 X.2.1 dX11_speech_16 (by decide) ?_
    exact HJ28 (-1) H locs ls h hP hS (lv_sub hl [] rfl)
  refine lv_if_lt (tgt := 15) X.1 X.2.1 dX11_speech_1 (by decide) (fun hc => ?_) (fun hc => ?_)
  · have h := it_t hc h
    exact HJ15 () H locs ls h hP hS (lv_sub hl [] rfl)
  · have h := it_f hc h
    refine lv_iload_n X.1 X.2.1 dX11_speech_4 rfl (lv_at hl 1 rfl) ?_
    refine lv_aload_n X.1 X.2.1 dX11_speech_5 rfl (lv_at hl 0 rfl) ?_
    refine r_get (C := RX11) (T := TX11) (N := 15) (ci := 11) (v := .ref (a1 0)) X iw11 hP 0 rfl rfl 1 rfl mw_2_144 rfl dX11_speech_6 ?_
    refine r_get (C := RX9) (T := TX9) (N := 20) (ci := 9) (v := .int (g1 4 0)) X iw9 hP 1 rfl rfl 4 rfl mw_1_130 rfl dX11_speech_9 ?_
    refine lv_icmp_lt (tgt := 19) X.1 X.2.1 dX11_speech_12 (by decide) (fun hc => ?_) (fun hc => ?_)
    · have h := it_t hc h
      refine lv_aload_n X.1 X.2.1 dX11_speech_19 rfl (lv_at hl 0 rfl) ?_
      refine r_get (C := RX11) (T := TX11) (N := 15) (ci := 11) (v := .ref (a1 0)) X iw11 hP 0 rfl rfl 1 rfl mw_2_144 rfl dX11_speech_20 ?_
      refine r_get (C := RX9) (T := TX9) (N := 20) (ci := 9) (v := .ref (a1 6)) X iw9 hP 1 rfl rfl 5 rfl mw_1_136 rfl dX11_speech_23 ?_
      refine lv_iload_n X.1 X.2.1 dX11_speech_26 rfl (lv_at hl 1 rfl) ?_
      obtain ⟨hg_1, h⟩ := gdi_el h
      refine r_iald X hP 5 0 rfl rfl hg_1 rfl dX11_speech_27 ?_
      exact HJ28 (g1 5 (x1.toNatClampNeg)) H locs ls h hP hS (lv_sub hl [] rfl)
    · have h := it_f hc h
      exact HJ15 () H locs ls h hP hS (lv_sub hl [] rfl)

def f_X11_page (g0 : Pic) (g1 : Pic) (x1 : Int32) (x2 : Int32) : Option ((Nat × Unit) ⊕ (Int32 × Unit)) := lr (f_X11_needWriter g0 g1 x1) (fun e => .inl (e.1, ())) (fun _ => jn (fun (s0_J33 : Int32) => some (.inr (s0_J33, ()))) (fun J33 => jn (fun (_ : Unit) => J33 (-1)) (fun J20 => (if x2 < 0 then J20 () else (if x2 < (g1 6 0) then bd (f_X9_onPage g1 x1 x2) (fun r_2 => J33 r_2) else J20 ())))))
abbrev rm_X11_page : Room := { frames := 7, cells := 1, slots := 6, locals := 141 }
set_option maxHeartbeats 4000000 in
set_option maxRecDepth 100000 in
theorem c_X11_page (l : Launch) (hst : l.stackTraces = false) (dC : Nat → ClassId) (dI : Nat → Nat → Nat) (sk sv : Nat → Nat) (tc : Nat → ClassId) (a0 : Nat → Nat) (q0_0 : Nat) (q0_2 : Nat) (q0_3 : Nat) (q0_4 : Nat) (q0_5 : Nat) (q0_6 : Nat) (q0_7 : Nat) (q0_8 : Nat) (q0_9 : Nat) (q0_10 : Nat) (q0_13 : Option Nat) (a1 : Nat → Nat) (q1_18 : Option Nat) (q1_19 : Nat) (g0 : Pic) (g1 : Pic) (x1 : Int32) (x2 : Int32) {res : ((Nat × Unit) ⊕ (Int32 × Unit))} (h : f_X11_page g0 g1 x1 x2 = some res) : CU l (dC, dI) sk sv (TY tc) yX11_page cX11_page 3 (some .int) rm_X11_page 1 6 [.ref (a0 0), .int x1, .int x2] (wPU tc a0 g0 q0_0 (a1 0) q0_2 q0_3 q0_4 q0_5 q0_6 q0_7 q0_8 q0_9 q0_10 q0_13 ++ (wSt tc a1 g1 q1_18 q1_19)) (oI (fun (_ : Unit) (_ : Option Nat) => (wPU tc a0 g0 q0_0 (a1 0) q0_2 q0_3 q0_4 q0_5 q0_6 q0_7 q0_8 q0_9 q0_10 q0_13 ++ (wSt tc a1 g1 q1_18 q1_19))) res) := by
  refine ofCU (by decide) (Nat.le_of_ble_eq_true rfl) ?_
  intro pr e s m args below meth c A Q ls H locs X hT hQ hD0 hP hS hl
  have hD : ∀ z0 z1, va_D A (wPU tc a0 z0 q0_0 (a1 0) q0_2 q0_3 q0_4 q0_5 q0_6 q0_7 q0_8 q0_9 q0_10 q0_13 ++ (wSt tc a1 z1 q1_18 q1_19)) := fun z0 z1 => D_fst (ws := (wPU tc a0 g0 q0_0 (a1 0) q0_2 q0_3 q0_4 q0_5 q0_6 q0_7 q0_8 q0_9 q0_10 q0_13 ++ (wSt tc a1 g1 q1_18 q1_19))) rfl hD0
  have hl : lv_has ls 3 [(0, .ref (a0 0)), (1, .int x1), (2, .int x2)] := hl
  unfold f_X11_page at h
  refine lv_aload_n X.1 X.2.1 dX11_page_0 rfl (lv_at hl 0 rfl) ?_
  refine lv_iload_n X.1 X.2.1 dX11_page_1 rfl (lv_at hl 1 rfl) ?_
  obtain ⟨ex_1, hc_1, h1_1, h2_1⟩ := lr_el h
  rcases ex_1 with e_1 | r_1
  · exact callU_t (ws := (wPU tc a0 g0 q0_0 (a1 0) q0_2 q0_3 q0_4 q0_5 q0_6 q0_7 q0_8 q0_9 q0_10 q0_13 ++ (wSt tc a1 g1 q1_18 q1_19))) (ws' := (wPU tc a0 g0 q0_0 (a1 0) q0_2 q0_3 q0_4 q0_5 q0_6 q0_7 q0_8 q0_9 q0_10 q0_13 ++ (wSt tc a1 g1 q1_18 q1_19))) (wr := []) [0, 1, 2, 3, 4, 5, 6, 7, 8, 9, 10] [] [0, 1, 2, 3, 4, 5, 6, 7, 8, 9, 10] (As := [.int x1]) (rest := []) none rfl (oUi (fun (_ : Unit) (_ : Option Nat) => (wPU tc a0 g0 q0_0 (a1 0) q0_2 q0_3 q0_4 q0_5 q0_6 q0_7 q0_8 q0_9 q0_10 q0_13 ++ (wSt tc a1 g1 q1_18 q1_19))) (h1_1 _ rfl)) X hT hQ (c_X11_needWriter l hst dC dI sk sv tc a0 q0_0 q0_2 q0_3 q0_4 q0_5 q0_6 q0_7 q0_8 q0_9 q0_10 q0_13 a1 q1_18 q1_19 g0 g1 x1 hc_1) mw_5_38 mw_5_40 mp_1_6 mw_1_1 mw_5_41 dc_X11_needWriter ⟨Nat.le_of_ble_eq_true rfl, Nat.le_of_ble_eq_true rfl⟩ rfl rfl ⟨Nat.le_of_ble_eq_true rfl, Nat.le_of_ble_eq_true rfl⟩ ⟨rfl, rfl, rfl, rfl, by decide, rfl, rfl⟩ hP (hD _ _) hS 0 rfl rfl rfl hl.1 (Nat.le_of_ble_eq_true rfl) dX11_page_2 (Nat.le_of_ble_eq_true rfl) (Nat.le_of_ble_eq_true rfl)
  have h := h2_1 _ rfl
  refine callU_n (ws := (wPU tc a0 g0 q0_0 (a1 0) q0_2 q0_3 q0_4 q0_5 q0_6 q0_7 q0_8 q0_9 q0_10 q0_13 ++ (wSt tc a1 g1 q1_18 q1_19))) (ws' := (wPU tc a0 g0 q0_0 (a1 0) q0_2 q0_3 q0_4 q0_5 q0_6 q0_7 q0_8 q0_9 q0_10 q0_13 ++ (wSt tc a1 g1 q1_18 q1_19))) (wr := []) [0, 1, 2, 3, 4, 5, 6, 7, 8, 9, 10] [] [0, 1, 2, 3, 4, 5, 6, 7, 8, 9, 10] (As := [.int x1]) (rest := []) X (c_X11_needWriter l hst dC dI sk sv tc a0 q0_0 q0_2 q0_3 q0_4 q0_5 q0_6 q0_7 q0_8 q0_9 q0_10 q0_13 a1 q1_18 q1_19 g0 g1 x1 hc_1) mw_5_38 mw_5_40 mp_1_6 mw_1_1 mw_5_41 dc_X11_needWriter ⟨Nat.le_of_ble_eq_true rfl, Nat.le_of_ble_eq_true rfl⟩ rfl rfl ⟨Nat.le_of_ble_eq_true rfl, Nat.le_of_ble_eq_true rfl⟩ ⟨rfl, rfl, rfl, rfl, by decide, rfl, rfl⟩ hP (hD _ _) hS 0 rfl rfl rfl hl.1 (Nat.le_of_ble_eq_true rfl) dX11_page_2 (fun H locs hP hS => ?_)
  refine W.eq (g2 := F0 m 5 ls []) rfl ?_
  refine lv_iload_n X.1 X.2.1 dX11_page_5 rfl (lv_at hl 2 rfl) ?_
  obtain ⟨J33, eJ33, h⟩ := jn_el h
  have HJ33 : ∀ (s0_J33 : Int32) (H : Heap) (locs : List Loc) (ls : Array Slot), J33 s0_J33 = some res → va_P (dC, dI) vwCl (wPU tc a0 g0 q0_0 (a1 0) q0_2 q0_3 q0_4 q0_5 q0_6 q0_7 q0_8 q0_9 q0_10 q0_13 ++ (wSt tc a1 g1 q1_18 q1_19)) H → va_S A s.heap H locs → lv_has ls 3 [] → W pr l e rm_X11_page s m args below meth c H locs 1 6 Q (F0 m 33 ls [.int s0_J33]) := by
    intro s0_J33 H locs ls h hP hS hl
    rw [eJ33] at h
    exact retU_i (fun (_ : Unit) (_ : Option Nat) => (wPU tc a0 g0 q0_0 (a1 0) q0_2 q0_3 q0_4 q0_5 q0_6 q0_7 q0_8 q0_9 q0_10 q0_13 ++ (wSt tc a1 g1 q1_18 q1_19))) none (Option.some.inj h) X hQ hP hS (Nat.le_of_ble_eq_true rfl) (Nat.le_of_ble_eq_true rfl) dX11_page_33
  obtain ⟨J20, eJ20, h⟩ := jn_el h
  have HJ20 : ∀ (_ : Unit) (H : Heap) (locs : List Loc) (ls : Array Slot), J20 () = some res → va_P (dC, dI) vwCl (wPU tc a0 g0 q0_0 (a1 0) q0_2 q0_3 q0_4 q0_5 q0_6 q0_7 q0_8 q0_9 q0_10 q0_13 ++ (wSt tc a1 g1 q1_18 q1_19)) H → va_S A s.heap H locs → lv_has ls 3 [] → W pr l e rm_X11_page s m args below meth c H locs 1 6 Q (F0 m 20 ls []) := by
    intro _ H locs ls h hP hS hl
    rw [eJ20] at h
    refine lv_iconst (v := (-1)) X.1 X.2.1 dX11_page_20 (by decide) ?_
    refine lv_goto (tgt := 33) X.1 X.2.1 dX11_page_21 (by decide) ?_
    exact HJ33 (-1) H locs ls h hP hS (lv_sub hl [] rfl)
  refine lv_if_lt (tgt := 20) X.1 X.2.1 dX11_page_6 (by decide) (fun hc => ?_) (fun hc => ?_)
  · have h := it_t hc h
    exact HJ20 () H locs ls h hP hS (lv_sub hl [] rfl)
  · have h := it_f hc h
    refine lv_iload_n X.1 X.2.1 dX11_page_9 rfl (lv_at hl 2 rfl) ?_
    refine lv_aload_n X.1 X.2.1 dX11_page_10 rfl (lv_at hl 0 rfl) ?_
    refine r_get (C := RX11) (T := TX11) (N := 15) (ci := 11) (v := .ref (a1 0)) X iw11 hP 0 rfl rfl 1 rfl mw_2_144 rfl dX11_page_11 ?_
    refine r_get (C := RX9) (T := TX9) (N := 20) (ci := 9) (v := .int (g1 6 0)) X iw9 hP 1 rfl rfl 6 rfl mw_1_140 rfl dX11_page_14 ?_
    refine lv_icmp_lt (tgt := 24) X.1 X.2.1 dX11_page_17 (by decide) (fun hc => ?_) (fun hc => ?_)
    · have h := it_t hc h
      refine lv_aload_n X.1 X.2.1 dX11_page_24 rfl (lv_at hl 0 rfl) ?_
      refine r_get (C := RX11) (T := TX11) (N := 15) (ci := 11) (v := .ref (a1 0)) X iw11 hP 0 rfl rfl 1 rfl mw_2_144 rfl dX11_page_25 ?_
      refine lv_iload_n X.1 X.2.1 dX11_page_28 rfl (lv_at hl 1 rfl) ?_
      refine lv_iload_n X.1 X.2.1 dX11_page_29 rfl (lv_at hl 2 rfl) ?_
      obtain ⟨r_2, hc_2, h⟩ := bd_el h
      refine call_Vsi (ws := (wPU tc a0 g0 q0_0 (a1 0) q0_2 q0_3 q0_4 q0_5 q0_6 q0_7 q0_8 q0_9 q0_10 q0_13 ++ (wSt tc a1 g1 q1_18 q1_19))) (ws' := (wPU tc a0 g0 q0_0 (a1 0) q0_2 q0_3 q0_4 q0_5 q0_6 q0_7 q0_8 q0_9 q0_10 q0_13 ++ (wSt tc a1 g1 q1_18 q1_19))) (wPU tc a0 g0 q0_0 (a1 0) q0_2 q0_3 q0_4 q0_5 q0_6 q0_7 q0_8 q0_9 q0_10 q0_13) [] (As := [.int x1, .int x2]) (rest := []) X (c_X9_onPage l dC dI sk sv tc a1 q1_18 q1_19 g1 x1 x2 hc_2) mw_5_111 mw_5_77 mw_5_78 mw_1_3 mw_5_79 dc_X9_onPage ⟨Nat.le_of_ble_eq_true rfl, Nat.le_of_ble_eq_true rfl⟩ rfl rfl ⟨Nat.le_of_ble_eq_true rfl, Nat.le_of_ble_eq_true rfl⟩ (by simp only [List.append_assoc, List.nil_append, List.append_nil]) (by simp only [List.append_assoc, List.nil_append, List.append_nil]) hP (hD _ _) hS 0 rfl rfl rfl hl.1 (Nat.le_of_ble_eq_true rfl) dX11_page_30 (fun H locs hP hS => ?_)
      exact HJ33 r_2 H locs ls h hP hS (lv_sub hl [] rfl)
    · have h := it_f hc h
      exact HJ20 () H locs ls h hP hS (lv_sub hl [] rfl)

def f_X11_strokes (g0 : Pic) (g1 : Pic) (x1 : Int32) (x2 : Int32) : Option ((Nat × Unit) ⊕ (Int32 × Unit)) := lr (f_X11_needWriter g0 g1 x1) (fun e => .inl (e.1, ())) (fun _ => lr (f_X11_needWord g0 g1 x2) (fun e => .inl (e.1, ())) (fun _ => gdi x1 5 (bd (f_X9_strokesOf g1 x2 (g1 8 (x1.toNatClampNeg))) (fun r_4 => some (.inr (r_4, ()))))))
abbrev rm_X11_strokes : Room := { frames := 7, cells := 2, slots := 12, locals := 141 }
set_option maxHeartbeats 4000000 in
set_option maxRecDepth 100000 in
theorem c_X11_strokes (l : Launch) (hst : l.stackTraces = false) (dC : Nat → ClassId) (dI : Nat → Nat → Nat) (sk sv : Nat → Nat) (tc : Nat → ClassId) (a0 : Nat → Nat) (q0_0 : Nat) (q0_2 : Nat) (q0_3 : Nat) (q0_4 : Nat) (q0_5 : Nat) (q0_6 : Nat) (q0_7 : Nat) (q0_8 : Nat) (q0_9 : Nat) (q0_10 : Nat) (q0_13 : Option Nat) (a1 : Nat → Nat) (q1_18 : Option Nat) (q1_19 : Nat) (g0 : Pic) (g1 : Pic) (x1 : Int32) (x2 : Int32) {res : ((Nat × Unit) ⊕ (Int32 × Unit))} (h : f_X11_strokes g0 g1 x1 x2 = some res) : CU l (dC, dI) sk sv (TY tc) yX11_strokes cX11_strokes 3 (some .int) rm_X11_strokes 2 12 [.ref (a0 0), .int x1, .int x2] (wPU tc a0 g0 q0_0 (a1 0) q0_2 q0_3 q0_4 q0_5 q0_6 q0_7 q0_8 q0_9 q0_10 q0_13 ++ (wSt tc a1 g1 q1_18 q1_19)) (oI (fun (_ : Unit) (_ : Option Nat) => (wPU tc a0 g0 q0_0 (a1 0) q0_2 q0_3 q0_4 q0_5 q0_6 q0_7 q0_8 q0_9 q0_10 q0_13 ++ (wSt tc a1 g1 q1_18 q1_19))) res) := by
  refine ofCU (by decide) (Nat.le_of_ble_eq_true rfl) ?_
  intro pr e s m args below meth c A Q ls H locs X hT hQ hD0 hP hS hl
  have hD : ∀ z0 z1, va_D A (wPU tc a0 z0 q0_0 (a1 0) q0_2 q0_3 q0_4 q0_5 q0_6 q0_7 q0_8 q0_9 q0_10 q0_13 ++ (wSt tc a1 z1 q1_18 q1_19)) := fun z0 z1 => D_fst (ws := (wPU tc a0 g0 q0_0 (a1 0) q0_2 q0_3 q0_4 q0_5 q0_6 q0_7 q0_8 q0_9 q0_10 q0_13 ++ (wSt tc a1 g1 q1_18 q1_19))) rfl hD0
  have hl : lv_has ls 3 [(0, .ref (a0 0)), (1, .int x1), (2, .int x2)] := hl
  unfold f_X11_strokes at h
  refine lv_aload_n X.1 X.2.1 dX11_strokes_0 rfl (lv_at hl 0 rfl) ?_
  refine lv_iload_n X.1 X.2.1 dX11_strokes_1 rfl (lv_at hl 1 rfl) ?_
  obtain ⟨ex_1, hc_1, h1_1, h2_1⟩ := lr_el h
  rcases ex_1 with e_1 | r_1
  · exact callU_t (ws := (wPU tc a0 g0 q0_0 (a1 0) q0_2 q0_3 q0_4 q0_5 q0_6 q0_7 q0_8 q0_9 q0_10 q0_13 ++ (wSt tc a1 g1 q1_18 q1_19))) (ws' := (wPU tc a0 g0 q0_0 (a1 0) q0_2 q0_3 q0_4 q0_5 q0_6 q0_7 q0_8 q0_9 q0_10 q0_13 ++ (wSt tc a1 g1 q1_18 q1_19))) (wr := []) [0, 1, 2, 3, 4, 5, 6, 7, 8, 9, 10] [] [0, 1, 2, 3, 4, 5, 6, 7, 8, 9, 10] (As := [.int x1]) (rest := []) none rfl (oUi (fun (_ : Unit) (_ : Option Nat) => (wPU tc a0 g0 q0_0 (a1 0) q0_2 q0_3 q0_4 q0_5 q0_6 q0_7 q0_8 q0_9 q0_10 q0_13 ++ (wSt tc a1 g1 q1_18 q1_19))) (h1_1 _ rfl)) X hT hQ (c_X11_needWriter l hst dC dI sk sv tc a0 q0_0 q0_2 q0_3 q0_4 q0_5 q0_6 q0_7 q0_8 q0_9 q0_10 q0_13 a1 q1_18 q1_19 g0 g1 x1 hc_1) mw_5_38 mw_5_40 mp_1_6 mw_1_1 mw_5_41 dc_X11_needWriter ⟨Nat.le_of_ble_eq_true rfl, Nat.le_of_ble_eq_true rfl⟩ rfl rfl ⟨Nat.le_of_ble_eq_true rfl, Nat.le_of_ble_eq_true rfl⟩ ⟨rfl, rfl, rfl, rfl, by decide, rfl, rfl⟩ hP (hD _ _) hS 0 rfl rfl rfl hl.1 (Nat.le_of_ble_eq_true rfl) dX11_strokes_2 (Nat.le_of_ble_eq_true rfl) (Nat.le_of_ble_eq_true rfl)
  have h := h2_1 _ rfl
  refine callU_n (ws := (wPU tc a0 g0 q0_0 (a1 0) q0_2 q0_3 q0_4 q0_5 q0_6 q0_7 q0_8 q0_9 q0_10 q0_13 ++ (wSt tc a1 g1 q1_18 q1_19))) (ws' := (wPU tc a0 g0 q0_0 (a1 0) q0_2 q0_3 q0_4 q0_5 q0_6 q0_7 q0_8 q0_9 q0_10 q0_13 ++ (wSt tc a1 g1 q1_18 q1_19))) (wr := []) [0, 1, 2, 3, 4, 5, 6, 7, 8, 9, 10] [] [0, 1, 2, 3, 4, 5, 6, 7, 8, 9, 10] (As := [.int x1]) (rest := []) X (c_X11_needWriter l hst dC dI sk sv tc a0 q0_0 q0_2 q0_3 q0_4 q0_5 q0_6 q0_7 q0_8 q0_9 q0_10 q0_13 a1 q1_18 q1_19 g0 g1 x1 hc_1) mw_5_38 mw_5_40 mp_1_6 mw_1_1 mw_5_41 dc_X11_needWriter ⟨Nat.le_of_ble_eq_true rfl, Nat.le_of_ble_eq_true rfl⟩ rfl rfl ⟨Nat.le_of_ble_eq_true rfl, Nat.le_of_ble_eq_true rfl⟩ ⟨rfl, rfl, rfl, rfl, by decide, rfl, rfl⟩ hP (hD _ _) hS 0 rfl rfl rfl hl.1 (Nat.le_of_ble_eq_true rfl) dX11_strokes_2 (fun H locs hP hS => ?_)
  refine W.eq (g2 := F0 m 5 ls []) rfl ?_
  refine lv_aload_n X.1 X.2.1 dX11_strokes_5 rfl (lv_at hl 0 rfl) ?_
  refine lv_iload_n X.1 X.2.1 dX11_strokes_6 rfl (lv_at hl 2 rfl) ?_
  obtain ⟨ex_2, hc_2, h1_2, h2_2⟩ := lr_el h
  rcases ex_2 with e_2 | r_2
  · exact callU_t (ws := (wPU tc a0 g0 q0_0 (a1 0) q0_2 q0_3 q0_4 q0_5 q0_6 q0_7 q0_8 q0_9 q0_10 q0_13 ++ (wSt tc a1 g1 q1_18 q1_19))) (ws' := (wPU tc a0 g0 q0_0 (a1 0) q0_2 q0_3 q0_4 q0_5 q0_6 q0_7 q0_8 q0_9 q0_10 q0_13 ++ (wSt tc a1 g1 q1_18 q1_19))) (wr := []) [0, 1, 2, 3, 4, 5, 6, 7, 8, 9, 10] [] [0, 1, 2, 3, 4, 5, 6, 7, 8, 9, 10] (As := [.int x2]) (rest := []) none rfl (oUi (fun (_ : Unit) (_ : Option Nat) => (wPU tc a0 g0 q0_0 (a1 0) q0_2 q0_3 q0_4 q0_5 q0_6 q0_7 q0_8 q0_9 q0_10 q0_13 ++ (wSt tc a1 g1 q1_18 q1_19))) (h1_2 _ rfl)) X hT hQ (c_X11_needWord l hst dC dI sk sv tc a0 q0_0 q0_2 q0_3 q0_4 q0_5 q0_6 q0_7 q0_8 q0_9 q0_10 q0_13 a1 q1_18 q1_19 g0 g1 x2 hc_2) mw_4_210 mw_4_212 mp_1_5 mw_1_1 mw_4_213 dc_X11_needWord ⟨Nat.le_of_ble_eq_true rfl, Nat.le_of_ble_eq_true rfl⟩ rfl rfl ⟨Nat.le_of_ble_eq_true rfl, Nat.le_of_ble_eq_true rfl⟩ ⟨rfl, rfl, rfl, rfl, by decide, rfl, rfl⟩ hP (hD _ _) hS 0 rfl rfl rfl hl.1 (Nat.le_of_ble_eq_true rfl) dX11_strokes_7 (Nat.le_of_ble_eq_true rfl) (Nat.le_of_ble_eq_true rfl)
  have h := h2_2 _ rfl
  refine callU_n (ws := (wPU tc a0 g0 q0_0 (a1 0) q0_2 q0_3 q0_4 q0_5 q0_6 q0_7 q0_8 q0_9 q0_10 q0_13 ++ (wSt tc a1 g1 q1_18 q1_19))) (ws' := (wPU tc a0 g0 q0_0 (a1 0) q0_2 q0_3 q0_4 q0_5 q0_6 q0_7 q0_8 q0_9 q0_10 q0_13 ++ (wSt tc a1 g1 q1_18 q1_19))) (wr := []) [0, 1, 2, 3, 4, 5, 6, 7, 8, 9, 10] [] [0, 1, 2, 3, 4, 5, 6, 7, 8, 9, 10] (As := [.int x2]) (rest := []) X (c_X11_needWord l hst dC dI sk sv tc a0 q0_0 q0_2 q0_3 q0_4 q0_5 q0_6 q0_7 q0_8 q0_9 q0_10 q0_13 a1 q1_18 q1_19 g0 g1 x2 hc_2) mw_4_210 mw_4_212 mp_1_5 mw_1_1 mw_4_213 dc_X11_needWord ⟨Nat.le_of_ble_eq_true rfl, Nat.le_of_ble_eq_true rfl⟩ rfl rfl ⟨Nat.le_of_ble_eq_true rfl, Nat.le_of_ble_eq_true rfl⟩ ⟨rfl, rfl, rfl, rfl, by decide, rfl, rfl⟩ hP (hD _ _) hS 0 rfl rfl rfl hl.1 (Nat.le_of_ble_eq_true rfl) dX11_strokes_7 (fun H locs hP hS => ?_)
  refine W.eq (g2 := F0 m 10 ls []) rfl ?_
  refine lv_aload_n X.1 X.2.1 dX11_strokes_10 rfl (lv_at hl 0 rfl) ?_
  refine r_get (C := RX11) (T := TX11) (N := 15) (ci := 11) (v := .ref (a1 0)) X iw11 hP 0 rfl rfl 1 rfl mw_2_144 rfl dX11_strokes_11 ?_
  refine lv_iload_n X.1 X.2.1 dX11_strokes_14 rfl (lv_at hl 2 rfl) ?_
  refine lv_aload_n X.1 X.2.1 dX11_strokes_15 rfl (lv_at hl 0 rfl) ?_
  refine r_get (C := RX11) (T := TX11) (N := 15) (ci := 11) (v := .ref (a1 0)) X iw11 hP 0 rfl rfl 1 rfl mw_2_144 rfl dX11_strokes_16 ?_
  refine r_get (C := RX9) (T := TX9) (N := 20) (ci := 9) (v := .ref (a1 9)) X iw9 hP 1 rfl rfl 8 rfl mw_1_151 rfl dX11_strokes_19 ?_
  refine lv_iload_n X.1 X.2.1 dX11_strokes_22 rfl (lv_at hl 1 rfl) ?_
  obtain ⟨hg_3, h⟩ := gdi_el h
  refine r_iald X hP 6 0 rfl rfl hg_3 rfl dX11_strokes_23 ?_
  obtain ⟨r_4, hc_4, h⟩ := bd_el h
  refine call_Vsi (ws := (wPU tc a0 g0 q0_0 (a1 0) q0_2 q0_3 q0_4 q0_5 q0_6 q0_7 q0_8 q0_9 q0_10 q0_13 ++ (wSt tc a1 g1 q1_18 q1_19))) (ws' := (wPU tc a0 g0 q0_0 (a1 0) q0_2 q0_3 q0_4 q0_5 q0_6 q0_7 q0_8 q0_9 q0_10 q0_13 ++ (wSt tc a1 g1 q1_18 q1_19))) (wPU tc a0 g0 q0_0 (a1 0) q0_2 q0_3 q0_4 q0_5 q0_6 q0_7 q0_8 q0_9 q0_10 q0_13) [] (As := [.int x2, .int (g1 8 (x1.toNatClampNeg))]) (rest := []) X (c_X9_strokesOf l dC dI sk sv tc a1 q1_18 q1_19 g1 x2 (g1 8 (x1.toNatClampNeg)) hc_4) mw_5_119 mw_5_120 mw_5_121 mw_1_3 mw_5_122 dc_X9_strokesOf ⟨Nat.le_of_ble_eq_true rfl, Nat.le_of_ble_eq_true rfl⟩ rfl rfl ⟨Nat.le_of_ble_eq_true rfl, Nat.le_of_ble_eq_true rfl⟩ (by simp only [List.append_assoc, List.nil_append, List.append_nil]) (by simp only [List.append_assoc, List.nil_append, List.append_nil]) hP (hD _ _) hS 0 rfl rfl rfl hl.1 (Nat.le_of_ble_eq_true rfl) dX11_strokes_24 (fun H locs hP hS => ?_)
  exact retU_i (fun (_ : Unit) (_ : Option Nat) => (wPU tc a0 g0 q0_0 (a1 0) q0_2 q0_3 q0_4 q0_5 q0_6 q0_7 q0_8 q0_9 q0_10 q0_13 ++ (wSt tc a1 g1 q1_18 q1_19))) none (Option.some.inj h) X hQ hP hS (Nat.le_of_ble_eq_true rfl) (Nat.le_of_ble_eq_true rfl) dX11_strokes_27

def f_X11_mark_L16 (x1 : Int32) (x2 : Int32) (x3 : Int32) (g0 : Pic) (g1 : Pic) (n : Nat) (a : Int32 × Int32) : Option ((((Nat × Unit) ⊕ (Int32 × Unit))) ⊕ (Unit)) := lp (fun (rec : Int32 × Int32 → Option ((((Nat × Unit) ⊕ (Int32 × Unit))) ⊕ (Unit))) (a : Int32 × Int32) => match a with | (x4, x5) => gdi x2 8 ((if (g1 2 (x2.toNatClampNeg)) ≤ x5 then some (.inr ()) else bd (f_X9_letterAt g1 x2 x5) (fun r_4 => gdi x1 5 (jn (fun (x4_J71 : Int32) => nm (x5 + 1) (fun x5_6 => rec (x4_J71, x5_6))) (fun J71 => (if (((g1 8 (x1.toNatClampNeg)) >>> (r_4 &&& 31)) &&& 1) = 0 then (if x4 = x3 then some (.inl (.inr (r_4, ()))) else nm (x4 + 1) (fun x4_7 => J71 x4_7)) else J71 x4))))))) n a
def f_X11_mark (g0 : Pic) (g1 : Pic) (x1 : Int32) (x2 : Int32) (x3 : Int32) : Option ((Nat × Unit) ⊕ (Int32 × Unit)) := lr (f_X11_needWriter g0 g1 x1) (fun e => .inl (e.1, ())) (fun _ => lr (f_X11_needWord g0 g1 x2) (fun e => .inl (e.1, ())) (fun _ => lr (f_X11_mark_L16 x1 x2 x3 g0 g1 fu (0, 0)) (fun a => a) (fun _ => some (.inr ((-1), ())))))
abbrev rm_X11_mark : Room := { frames := 7, cells := 2, slots := 12, locals := 141 }
set_option maxHeartbeats 4000000 in
set_option maxRecDepth 100000 in
theorem c_X11_mark (l : Launch) (hst : l.stackTraces = false) (dC : Nat → ClassId) (dI : Nat → Nat → Nat) (sk sv : Nat → Nat) (tc : Nat → ClassId) (a0 : Nat → Nat) (q0_0 : Nat) (q0_2 : Nat) (q0_3 : Nat) (q0_4 : Nat) (q0_5 : Nat) (q0_6 : Nat) (q0_7 : Nat) (q0_8 : Nat) (q0_9 : Nat) (q0_10 : Nat) (q0_13 : Option Nat) (a1 : Nat → Nat) (q1_18 : Option Nat) (q1_19 : Nat) (g0 : Pic) (g1 : Pic) (x1 : Int32) (x2 : Int32) (x3 : Int32) {res : ((Nat × Unit) ⊕ (Int32 × Unit))} (h : f_X11_mark g0 g1 x1 x2 x3 = some res) : CU l (dC, dI) sk sv (TY tc) yX11_mark cX11_mark 7 (some .int) rm_X11_mark 2 12 [.ref (a0 0), .int x1, .int x2, .int x3] (wPU tc a0 g0 q0_0 (a1 0) q0_2 q0_3 q0_4 q0_5 q0_6 q0_7 q0_8 q0_9 q0_10 q0_13 ++ (wSt tc a1 g1 q1_18 q1_19)) (oI (fun (_ : Unit) (_ : Option Nat) => (wPU tc a0 g0 q0_0 (a1 0) q0_2 q0_3 q0_4 q0_5 q0_6 q0_7 q0_8 q0_9 q0_10 q0_13 ++ (wSt tc a1 g1 q1_18 q1_19))) res) := by
  refine ofCU (by decide) (Nat.le_of_ble_eq_true rfl) ?_
  intro pr e s m args below meth c A Q ls H locs X hT hQ hD0 hP hS hl
  have hD : ∀ z0 z1, va_D A (wPU tc a0 z0 q0_0 (a1 0) q0_2 q0_3 q0_4 q0_5 q0_6 q0_7 q0_8 q0_9 q0_10 q0_13 ++ (wSt tc a1 z1 q1_18 q1_19)) := fun z0 z1 => D_fst (ws := (wPU tc a0 g0 q0_0 (a1 0) q0_2 q0_3 q0_4 q0_5 q0_6 q0_7 q0_8 q0_9 q0_10 q0_13 ++ (wSt tc a1 g1 q1_18 q1_19))) rfl hD0
  have hl : lv_has ls 7 [(0, .ref (a0 0)), (1, .int x1), (2, .int x2), (3, .int x3)] := hl
  have HL16 : ∀ (x1 : Int32) (x2 : Int32) (x3 : Int32) (n : Nat) (x4 : Int32) (x5 : Int32) (ex : ((((Nat × Unit) ⊕ (Int32 × Unit))) ⊕ (Unit))), f_X11_mark_L16 x1 x2 x3 g0 g1 n (x4, x5) = some ex → (∀ rv, ex = .inl rv → rv = res) → ∀ (H : Heap) (locs : List Loc) (ls : Array Slot), va_P (dC, dI) vwCl (wPU tc a0 g0 q0_0 (a1 0) q0_2 q0_3 q0_4 q0_5 q0_6 q0_7 q0_8 q0_9 q0_10 q0_13 ++ (wSt tc a1 g1 q1_18 q1_19)) H → va_S A s.heap H locs → lv_has ls 7 [(0, .ref (a0 0)), (1, .int x1), (2, .int x2), (3, .int x3), (4, .int x4), (5, .int x5)] → (.inr () = ex → ∀ (H : Heap) (locs : List Loc) (ls : Array Slot), va_P (dC, dI) vwCl (wPU tc a0 g0 q0_0 (a1 0) q0_2 q0_3 q0_4 q0_5 q0_6 q0_7 q0_8 q0_9 q0_10 q0_13 ++ (wSt tc a1 g1 q1_18 q1_19)) H → va_S A s.heap H locs → lv_has ls 7 [] → W pr l e rm_X11_mark s m args below meth c H locs 2 12 Q (F0 m 77 ls [])) → W pr l e rm_X11_mark s m args below meth c H locs 2 12 Q (F0 m 16 ls []) := by
    intro x1 x2 x3 n
    induction n with
    | zero => intro x4 x5 ex h; exact lp_z h
    | succ n ih =>
      intro x4 x5 ex h hR H locs ls hP hS hl K
      have h := lp_s h
      refine lv_iload X.1 X.2.1 dX11_mark_16 (lv_at hl 5 rfl) ?_
      refine lv_aload_n X.1 X.2.1 dX11_mark_18 rfl (lv_at hl 0 rfl) ?_
      refine r_get (C := RX11) (T := TX11) (N := 15) (ci := 11) (v := .ref (a1 0)) X iw11 hP 0 rfl rfl 1 rfl mw_2_144 rfl dX11_mark_19 ?_
      refine r_get (C := RX9) (T := TX9) (N := 20) (ci := 9) (v := .ref (a1 3)) X iw9 hP 1 rfl rfl 2 rfl mw_1_118 rfl dX11_mark_22 ?_
      refine lv_iload_n X.1 X.2.1 dX11_mark_25 rfl (lv_at hl 2 rfl) ?_
      obtain ⟨hg_3, h⟩ := gdi_el h
      refine r_iald X hP 3 0 rfl rfl hg_3 rfl dX11_mark_26 ?_
      refine lv_icmp_ge (tgt := 77) X.1 X.2.1 dX11_mark_27 (by decide) (fun hc => ?_) (fun hc => ?_)
      · have h := it_t hc h
        exact K  (Option.some.inj h) H locs ls hP hS (lv_sub hl [] rfl)
      · have h := it_f hc h
        refine lv_aload_n X.1 X.2.1 dX11_mark_30 rfl (lv_at hl 0 rfl) ?_
        refine r_get (C := RX11) (T := TX11) (N := 15) (ci := 11) (v := .ref (a1 0)) X iw11 hP 0 rfl rfl 1 rfl mw_2_144 rfl dX11_mark_31 ?_
        refine lv_iload_n X.1 X.2.1 dX11_mark_34 rfl (lv_at hl 2 rfl) ?_
        refine lv_iload X.1 X.2.1 dX11_mark_35 (lv_at hl 5 rfl) ?_
        obtain ⟨r_4, hc_4, h⟩ := bd_el h
        refine call_Vsi (ws := (wPU tc a0 g0 q0_0 (a1 0) q0_2 q0_3 q0_4 q0_5 q0_6 q0_7 q0_8 q0_9 q0_10 q0_13 ++ (wSt tc a1 g1 q1_18 q1_19))) (ws' := (wPU tc a0 g0 q0_0 (a1 0) q0_2 q0_3 q0_4 q0_5 q0_6 q0_7 q0_8 q0_9 q0_10 q0_13 ++ (wSt tc a1 g1 q1_18 q1_19))) (wPU tc a0 g0 q0_0 (a1 0) q0_2 q0_3 q0_4 q0_5 q0_6 q0_7 q0_8 q0_9 q0_10 q0_13) [] (As := [.int x2, .int x5]) (rest := []) X (c_X9_letterAt l dC dI sk sv tc a1 q1_18 q1_19 g1 x2 x5 hc_4) mw_5_30 mw_3_68 mw_3_69 mw_1_3 mw_3_70 dc_X9_letterAt ⟨Nat.le_of_ble_eq_true rfl, Nat.le_of_ble_eq_true rfl⟩ rfl rfl ⟨Nat.le_of_ble_eq_true rfl, Nat.le_of_ble_eq_true rfl⟩ (by simp only [List.append_assoc, List.nil_append, List.append_nil]) (by simp only [List.append_assoc, List.nil_append, List.append_nil]) hP (hD _ _) hS 0 rfl rfl rfl hl.1 (Nat.le_of_ble_eq_true rfl) dX11_mark_37 (fun H locs hP hS => ?_)
        refine lv_istore (lv' := [(6, .int r_4), (0, .ref (a0 0)), (1, .int x1), (2, .int x2), (3, .int x3), (4, .int x4), (5, .int x5)]) X.1 X.2.1 dX11_mark_40 hl (by decide) rfl (fun ls hl => ?_)
        refine lv_aload_n X.1 X.2.1 dX11_mark_42 rfl (lv_at hl 1 rfl) ?_
        refine r_get (C := RX11) (T := TX11) (N := 15) (ci := 11) (v := .ref (a1 0)) X iw11 hP 0 rfl rfl 1 rfl mw_2_144 rfl dX11_mark_43 ?_
        refine r_get (C := RX9) (T := TX9) (N := 20) (ci := 9) (v := .ref (a1 9)) X iw9 hP 1 rfl rfl 8 rfl mw_1_151 rfl dX11_mark_46 ?_
        refine lv_iload_n X.1 X.2.1 dX11_mark_49 rfl (lv_at hl 2 rfl) ?_
        obtain ⟨hg_5, h⟩ := gdi_el h
        refine r_iald X hP 6 0 rfl rfl hg_5 rfl dX11_mark_50 ?_
        refine lv_iload X.1 X.2.1 dX11_mark_51 (lv_at hl 0 rfl) ?_
        refine lv_ishr X.1 X.2.1 dX11_mark_53 ?_
        refine lv_iconst (v := 1) X.1 X.2.1 dX11_mark_54 (by decide) ?_
        refine lv_iand X.1 X.2.1 dX11_mark_55 ?_
        obtain ⟨J71, eJ71, h⟩ := jn_el h
        have HJ71 : ∀ (x4_J71 : Int32) (H : Heap) (locs : List Loc) (ls : Array Slot), J71 x4_J71 = some ex → va_P (dC, dI) vwCl (wPU tc a0 g0 q0_0 (a1 0) q0_2 q0_3 q0_4 q0_5 q0_6 q0_7 q0_8 q0_9 q0_10 q0_13 ++ (wSt tc a1 g1 q1_18 q1_19)) H → va_S A s.heap H locs → lv_has ls 7 [(0, .ref (a0 0)), (1, .int x1), (2, .int x2), (3, .int x3), (4, .int x4_J71), (5, .int x5)] → W pr l e rm_X11_mark s m args below meth c H locs 2 12 Q (F0 m 71 ls []) := by
          intro x4_J71 H locs ls h hP hS hl
          rw [eJ71] at h
          obtain ⟨x5_6, ex5_6, h⟩ := nm_el h
          refine lv_iinc (v := x5_6) (lv' := [(5, .int x5_6), (0, .ref (a0 0)), (1, .int x1), (2, .int x2), (3, .int x3), (4, .int x4_J71)]) X.1 X.2.1 dX11_mark_71 hl (k := 5) rfl (by rw [ex5_6]; rfl) (by decide) rfl (fun ls hl => ?_)
          refine lv_goto (tgt := 16) X.1 X.2.1 dX11_mark_74 (by decide) ?_
          exact ih x4_J71 x5_6 ex h hR H locs ls hP hS (lv_sub hl [1, 2, 3, 4, 5, 0] rfl) K
        refine lv_if_ne (tgt := 71) X.1 X.2.1 dX11_mark_56 (by decide) (fun hc => ?_) (fun hc => ?_)
        · have h := it_f hc h
          exact HJ71 x4 H locs ls h hP hS (lv_sub hl [1, 2, 3, 4, 5, 6] rfl)
        · have h := it_t hc h
          refine lv_iload X.1 X.2.1 dX11_mark_59 (lv_at hl 5 rfl) ?_
          refine lv_iload_n X.1 X.2.1 dX11_mark_61 rfl (lv_at hl 4 rfl) ?_
          refine lv_icmp_ne (tgt := 68) X.1 X.2.1 dX11_mark_62 (by decide) (fun hc => ?_) (fun hc => ?_)
          · have h := it_f hc h
            obtain ⟨x4_7, ex4_7, h⟩ := nm_el h
            refine lv_iinc (v := x4_7) (lv' := [(4, .int x4_7), (6, .int r_4), (0, .ref (a0 0)), (1, .int x1), (2, .int x2), (3, .int x3), (5, .int x5)]) X.1 X.2.1 dX11_mark_68 hl (k := 5) rfl (by rw [ex4_7]; rfl) (by decide) rfl (fun ls hl => ?_)
            exact HJ71 x4_7 H locs ls h hP hS (lv_sub hl [2, 3, 4, 5, 0, 6] rfl)
          · have h := it_t hc h
            refine lv_iload X.1 X.2.1 dX11_mark_65 (lv_at hl 0 rfl) ?_
            exact retU_i (fun (_ : Unit) (_ : Option Nat) => (wPU tc a0 g0 q0_0 (a1 0) q0_2 q0_3 q0_4 q0_5 q0_6 q0_7 q0_8 q0_9 q0_10 q0_13 ++ (wSt tc a1 g1 q1_18 q1_19))) none (hR _ (Option.some.inj h).symm) X hQ hP hS (Nat.le_of_ble_eq_true rfl) (Nat.le_of_ble_eq_true rfl) dX11_mark_67
  unfold f_X11_mark at h
  refine lv_aload_n X.1 X.2.1 dX11_mark_0 rfl (lv_at hl 0 rfl) ?_
  refine lv_iload_n X.1 X.2.1 dX11_mark_1 rfl (lv_at hl 1 rfl) ?_
  obtain ⟨ex_1, hc_1, h1_1, h2_1⟩ := lr_el h
  rcases ex_1 with e_1 | r_1
  · exact callU_t (ws := (wPU tc a0 g0 q0_0 (a1 0) q0_2 q0_3 q0_4 q0_5 q0_6 q0_7 q0_8 q0_9 q0_10 q0_13 ++ (wSt tc a1 g1 q1_18 q1_19))) (ws' := (wPU tc a0 g0 q0_0 (a1 0) q0_2 q0_3 q0_4 q0_5 q0_6 q0_7 q0_8 q0_9 q0_10 q0_13 ++ (wSt tc a1 g1 q1_18 q1_19))) (wr := []) [0, 1, 2, 3, 4, 5, 6, 7, 8, 9, 10] [] [0, 1, 2, 3, 4, 5, 6, 7, 8, 9, 10] (As := [.int x1]) (rest := []) none rfl (oUi (fun (_ : Unit) (_ : Option Nat) => (wPU tc a0 g0 q0_0 (a1 0) q0_2 q0_3 q0_4 q0_5 q0_6 q0_7 q0_8 q0_9 q0_10 q0_13 ++ (wSt tc a1 g1 q1_18 q1_19))) (h1_1 _ rfl)) X hT hQ (c_X11_needWriter l hst dC dI sk sv tc a0 q0_0 q0_2 q0_3 q0_4 q0_5 q0_6 q0_7 q0_8 q0_9 q0_10 q0_13 a1 q1_18 q1_19 g0 g1 x1 hc_1) mw_5_38 mw_5_40 mp_1_6 mw_1_1 mw_5_41 dc_X11_needWriter ⟨Nat.le_of_ble_eq_true rfl, Nat.le_of_ble_eq_true rfl⟩ rfl rfl ⟨Nat.le_of_ble_eq_true rfl, Nat.le_of_ble_eq_true rfl⟩ ⟨rfl, rfl, rfl, rfl, by decide, rfl, rfl⟩ hP (hD _ _) hS 0 rfl rfl rfl hl.1 (Nat.le_of_ble_eq_true rfl) dX11_mark_2 (Nat.le_of_ble_eq_true rfl) (Nat.le_of_ble_eq_true rfl)
  have h := h2_1 _ rfl
  refine callU_n (ws := (wPU tc a0 g0 q0_0 (a1 0) q0_2 q0_3 q0_4 q0_5 q0_6 q0_7 q0_8 q0_9 q0_10 q0_13 ++ (wSt tc a1 g1 q1_18 q1_19))) (ws' := (wPU tc a0 g0 q0_0 (a1 0) q0_2 q0_3 q0_4 q0_5 q0_6 q0_7 q0_8 q0_9 q0_10 q0_13 ++ (wSt tc a1 g1 q1_18 q1_19))) (wr := []) [0, 1, 2, 3, 4, 5, 6, 7, 8, 9, 10] [] [0, 1, 2, 3, 4, 5, 6, 7, 8, 9, 10] (As := [.int x1]) (rest := []) X (c_X11_needWriter l hst dC dI sk sv tc a0 q0_0 q0_2 q0_3 q0_4 q0_5 q0_6 q0_7 q0_8 q0_9 q0_10 q0_13 a1 q1_18 q1_19 g0 g1 x1 hc_1) mw_5_38 mw_5_40 mp_1_6 mw_1_1 mw_5_41 dc_X11_needWriter ⟨Nat.le_of_ble_eq_true rfl, Nat.le_of_ble_eq_true rfl⟩ rfl rfl ⟨Nat.le_of_ble_eq_true rfl, Nat.le_of_ble_eq_true rfl⟩ ⟨rfl, rfl, rfl, rfl, by decide, rfl, rfl⟩ hP (hD _ _) hS 0 rfl rfl rfl hl.1 (Nat.le_of_ble_eq_true rfl) dX11_mark_2 (fun H locs hP hS => ?_)
  refine W.eq (g2 := F0 m 5 ls []) rfl ?_
  refine lv_aload_n X.1 X.2.1 dX11_mark_5 rfl (lv_at hl 0 rfl) ?_
  refine lv_iload_n X.1 X.2.1 dX11_mark_6 rfl (lv_at hl 2 rfl) ?_
  obtain ⟨ex_2, hc_2, h1_2, h2_2⟩ := lr_el h
  rcases ex_2 with e_2 | r_2
  · exact callU_t (ws := (wPU tc a0 g0 q0_0 (a1 0) q0_2 q0_3 q0_4 q0_5 q0_6 q0_7 q0_8 q0_9 q0_10 q0_13 ++ (wSt tc a1 g1 q1_18 q1_19))) (ws' := (wPU tc a0 g0 q0_0 (a1 0) q0_2 q0_3 q0_4 q0_5 q0_6 q0_7 q0_8 q0_9 q0_10 q0_13 ++ (wSt tc a1 g1 q1_18 q1_19))) (wr := []) [0, 1, 2, 3, 4, 5, 6, 7, 8, 9, 10] [] [0, 1, 2, 3, 4, 5, 6, 7, 8, 9, 10] (As := [.int x2]) (rest := []) none rfl (oUi (fun (_ : Unit) (_ : Option Nat) => (wPU tc a0 g0 q0_0 (a1 0) q0_2 q0_3 q0_4 q0_5 q0_6 q0_7 q0_8 q0_9 q0_10 q0_13 ++ (wSt tc a1 g1 q1_18 q1_19))) (h1_2 _ rfl)) X hT hQ (c_X11_needWord l hst dC dI sk sv tc a0 q0_0 q0_2 q0_3 q0_4 q0_5 q0_6 q0_7 q0_8 q0_9 q0_10 q0_13 a1 q1_18 q1_19 g0 g1 x2 hc_2) mw_4_210 mw_4_212 mp_1_5 mw_1_1 mw_4_213 dc_X11_needWord ⟨Nat.le_of_ble_eq_true rfl, Nat.le_of_ble_eq_true rfl⟩ rfl rfl ⟨Nat.le_of_ble_eq_true rfl, Nat.le_of_ble_eq_true rfl⟩ ⟨rfl, rfl, rfl, rfl, by decide, rfl, rfl⟩ hP (hD _ _) hS 0 rfl rfl rfl hl.1 (Nat.le_of_ble_eq_true rfl) dX11_mark_7 (Nat.le_of_ble_eq_true rfl) (Nat.le_of_ble_eq_true rfl)
  have h := h2_2 _ rfl
  refine callU_n (ws := (wPU tc a0 g0 q0_0 (a1 0) q0_2 q0_3 q0_4 q0_5 q0_6 q0_7 q0_8 q0_9 q0_10 q0_13 ++ (wSt tc a1 g1 q1_18 q1_19))) (ws' := (wPU tc a0 g0 q0_0 (a1 0) q0_2 q0_3 q0_4 q0_5 q0_6 q0_7 q0_8 q0_9 q0_10 q0_13 ++ (wSt tc a1 g1 q1_18 q1_19))) (wr := []) [0, 1, 2, 3, 4, 5, 6, 7, 8, 9, 10] [] [0, 1, 2, 3, 4, 5, 6, 7, 8, 9, 10] (As := [.int x2]) (rest := []) X (c_X11_needWord l hst dC dI sk sv tc a0 q0_0 q0_2 q0_3 q0_4 q0_5 q0_6 q0_7 q0_8 q0_9 q0_10 q0_13 a1 q1_18 q1_19 g0 g1 x2 hc_2) mw_4_210 mw_4_212 mp_1_5 mw_1_1 mw_4_213 dc_X11_needWord ⟨Nat.le_of_ble_eq_true rfl, Nat.le_of_ble_eq_true rfl⟩ rfl rfl ⟨Nat.le_of_ble_eq_true rfl, Nat.le_of_ble_eq_true rfl⟩ ⟨rfl, rfl, rfl, rfl, by decide, rfl, rfl⟩ hP (hD _ _) hS 0 rfl rfl rfl hl.1 (Nat.le_of_ble_eq_true rfl) dX11_mark_7 (fun H locs hP hS => ?_)
  refine W.eq (g2 := F0 m 10 ls []) rfl ?_
  refine lv_iconst (v := 0) X.1 X.2.1 dX11_mark_10 (by decide) ?_
  refine lv_istore (lv' := [(4, .int 0), (0, .ref (a0 0)), (1, .int x1), (2, .int x2), (3, .int x3)]) X.1 X.2.1 dX11_mark_11 hl (by decide) rfl (fun ls hl => ?_)
  refine lv_iconst (v := 0) X.1 X.2.1 dX11_mark_13 (by decide) ?_
  refine lv_istore (lv' := [(5, .int 0), (4, .int 0), (0, .ref (a0 0)), (1, .int x1), (2, .int x2), (3, .int x3)]) X.1 X.2.1 dX11_mark_14 hl (by decide) rfl (fun ls hl => ?_)
  obtain ⟨ex_8, hL_8, h1_8, h2_8⟩ := lr_el h
  refine HL16 x1 x2 x3 fu 0 0 ex_8 hL_8 (fun rv hq => h1_8 rv hq) H locs ls hP hS (lv_sub hl [2, 3, 4, 5, 1, 0] rfl) (fun  he H locs ls hP hS hl => ?_)
  have h := h2_8 _ he.symm
  refine lv_iconst (v := (-1)) X.1 X.2.1 dX11_mark_77 (by decide) ?_
  exact retU_i (fun (_ : Unit) (_ : Option Nat) => (wPU tc a0 g0 q0_0 (a1 0) q0_2 q0_3 q0_4 q0_5 q0_6 q0_7 q0_8 q0_9 q0_10 q0_13 ++ (wSt tc a1 g1 q1_18 q1_19))) none (Option.some.inj h) X hQ hP hS (Nat.le_of_ble_eq_true rfl) (Nat.le_of_ble_eq_true rfl) dX11_mark_78

def f_X11_alike (g0 : Pic) (g1 : Pic) (g2 : Pic) (x1 : Int32) (x2 : Int32) : Option ((Nat × Pic) ⊕ (Int32 × Pic)) := lr (f_X11_needWriter g0 g1 x1) (fun e => .inl (e.1, g2)) (fun _ => lr (f_X11_needWord g0 g1 x2) (fun e => .inl (e.1, g2)) (fun _ => bd (f_X11_handOf g0 g1 g2 x1) (fun g2_3 => bd (f_X3_alikeTo g2_3 x2) (fun r_4 => some (.inr (r_4, g2_3))))))
abbrev rm_X11_alike : Room := { frames := 7, cells := 2, slots := 12, locals := 141 }
set_option maxHeartbeats 4000000 in
set_option maxRecDepth 100000 in
theorem c_X11_alike (l : Launch) (hst : l.stackTraces = false) (dC : Nat → ClassId) (dI : Nat → Nat → Nat) (sk sv : Nat → Nat) (tc : Nat → ClassId) (a0 : Nat → Nat) (q0_0 : Nat) (q0_2 : Nat) (q0_3 : Nat) (q0_4 : Nat) (q0_6 : Nat) (q0_7 : Nat) (q0_8 : Nat) (q0_9 : Nat) (q0_10 : Nat) (q0_13 : Option Nat) (a1 : Nat → Nat) (q1_18 : Option Nat) (q1_19 : Nat) (a2 : Nat → Nat) (g0 : Pic) (g1 : Pic) (g2 : Pic) (x1 : Int32) (x2 : Int32) {res : ((Nat × Pic) ⊕ (Int32 × Pic))} (h : f_X11_alike g0 g1 g2 x1 x2 = some res) : CU l (dC, dI) sk sv (TY tc) yX11_alike cX11_alike 3 (some .int) rm_X11_alike 2 12 [.ref (a0 0), .int x1, .int x2] (wPU tc a0 g0 q0_0 (a1 0) q0_2 q0_3 q0_4 (a2 0) q0_6 q0_7 q0_8 q0_9 q0_10 q0_13 ++ (wSt tc a1 g1 q1_18 q1_19 ++ (wHd tc a2 g2))) (oI (fun u (_ : Option Nat) => (wPU tc a0 g0 q0_0 (a1 0) q0_2 q0_3 q0_4 (a2 0) q0_6 q0_7 q0_8 q0_9 q0_10 q0_13 ++ (wSt tc a1 g1 q1_18 q1_19 ++ (wHd tc a2 u)))) res) := by
  refine ofCU (by decide) (Nat.le_of_ble_eq_true rfl) ?_
  intro pr e s m args below meth c A Q ls H locs X hT hQ hD0 hP hS hl
  have hD : ∀ z0 z1 z2, va_D A (wPU tc a0 z0 q0_0 (a1 0) q0_2 q0_3 q0_4 (a2 0) q0_6 q0_7 q0_8 q0_9 q0_10 q0_13 ++ (wSt tc a1 z1 q1_18 q1_19 ++ (wHd tc a2 z2))) := fun z0 z1 z2 => D_fst (ws := (wPU tc a0 g0 q0_0 (a1 0) q0_2 q0_3 q0_4 (a2 0) q0_6 q0_7 q0_8 q0_9 q0_10 q0_13 ++ (wSt tc a1 g1 q1_18 q1_19 ++ (wHd tc a2 g2)))) rfl hD0
  have hl : lv_has ls 3 [(0, .ref (a0 0)), (1, .int x1), (2, .int x2)] := hl
  unfold f_X11_alike at h
  refine lv_aload_n X.1 X.2.1 dX11_alike_0 rfl (lv_at hl 0 rfl) ?_
  refine lv_iload_n X.1 X.2.1 dX11_alike_1 rfl (lv_at hl 1 rfl) ?_
  obtain ⟨ex_1, hc_1, h1_1, h2_1⟩ := lr_el h
  rcases ex_1 with e_1 | r_1
  · exact callU_t (ws := (wPU tc a0 g0 q0_0 (a1 0) q0_2 q0_3 q0_4 (a2 0) q0_6 q0_7 q0_8 q0_9 q0_10 q0_13 ++ (wSt tc a1 g1 q1_18 q1_19 ++ (wHd tc a2 g2)))) (ws' := (wPU tc a0 g0 q0_0 (a1 0) q0_2 q0_3 q0_4 (a2 0) q0_6 q0_7 q0_8 q0_9 q0_10 q0_13 ++ (wSt tc a1 g1 q1_18 q1_19 ++ (wHd tc a2 g2)))) (wr := (wHd tc a2 g2)) [0, 1, 2, 3, 4, 5, 6, 7, 8, 9, 10] [11, 12, 13, 14, 15] [5, 6, 7, 8, 9, 10, 11, 12, 13, 14, 15, 0, 1, 2, 3, 4] (As := [.int x1]) (rest := []) none rfl (oUi (fun u (_ : Option Nat) => (wPU tc a0 g0 q0_0 (a1 0) q0_2 q0_3 q0_4 (a2 0) q0_6 q0_7 q0_8 q0_9 q0_10 q0_13 ++ (wSt tc a1 g1 q1_18 q1_19 ++ (wHd tc a2 u)))) (h1_1 _ rfl)) X hT hQ (c_X11_needWriter l hst dC dI sk sv tc a0 q0_0 q0_2 q0_3 q0_4 (a2 0) q0_6 q0_7 q0_8 q0_9 q0_10 q0_13 a1 q1_18 q1_19 g0 g1 x1 hc_1) mw_5_38 mw_5_40 mp_1_6 mw_1_1 mw_5_41 dc_X11_needWriter ⟨Nat.le_of_ble_eq_true rfl, Nat.le_of_ble_eq_true rfl⟩ rfl rfl ⟨Nat.le_of_ble_eq_true rfl, Nat.le_of_ble_eq_true rfl⟩ ⟨rfl, rfl, rfl, rfl, by decide, rfl, rfl⟩ hP (hD _ _ _) hS 0 rfl rfl rfl hl.1 (Nat.le_of_ble_eq_true rfl) dX11_alike_2 (Nat.le_of_ble_eq_true rfl) (Nat.le_of_ble_eq_true rfl)
  have h := h2_1 _ rfl
  refine callU_n (ws := (wPU tc a0 g0 q0_0 (a1 0) q0_2 q0_3 q0_4 (a2 0) q0_6 q0_7 q0_8 q0_9 q0_10 q0_13 ++ (wSt tc a1 g1 q1_18 q1_19 ++ (wHd tc a2 g2)))) (ws' := (wPU tc a0 g0 q0_0 (a1 0) q0_2 q0_3 q0_4 (a2 0) q0_6 q0_7 q0_8 q0_9 q0_10 q0_13 ++ (wSt tc a1 g1 q1_18 q1_19 ++ (wHd tc a2 g2)))) (wr := (wHd tc a2 g2)) [0, 1, 2, 3, 4, 5, 6, 7, 8, 9, 10] [11, 12, 13, 14, 15] [5, 6, 7, 8, 9, 10, 11, 12, 13, 14, 15, 0, 1, 2, 3, 4] (As := [.int x1]) (rest := []) X (c_X11_needWriter l hst dC dI sk sv tc a0 q0_0 q0_2 q0_3 q0_4 (a2 0) q0_6 q0_7 q0_8 q0_9 q0_10 q0_13 a1 q1_18 q1_19 g0 g1 x1 hc_1) mw_5_38 mw_5_40 mp_1_6 mw_1_1 mw_5_41 dc_X11_needWriter ⟨Nat.le_of_ble_eq_true rfl, Nat.le_of_ble_eq_true rfl⟩ rfl rfl ⟨Nat.le_of_ble_eq_true rfl, Nat.le_of_ble_eq_true rfl⟩ ⟨rfl, rfl, rfl, rfl, by decide, rfl, rfl⟩ hP (hD _ _ _) hS 0 rfl rfl rfl hl.1 (Nat.le_of_ble_eq_true rfl) dX11_alike_2 (fun H locs hP hS => ?_)
  refine W.eq (g2 := F0 m 5 ls []) rfl ?_
  refine lv_aload_n X.1 X.2.1 dX11_alike_5 rfl (lv_at hl 0 rfl) ?_
  refine lv_iload_n X.1 X.2.1 dX11_alike_6 rfl (lv_at hl 2 rfl) ?_
  obtain ⟨ex_2, hc_2, h1_2, h2_2⟩ := lr_el h
  rcases ex_2 with e_2 | r_2
  · exact callU_t (ws := (wPU tc a0 g0 q0_0 (a1 0) q0_2 q0_3 q0_4 (a2 0) q0_6 q0_7 q0_8 q0_9 q0_10 q0_13 ++ (wSt tc a1 g1 q1_18 q1_19 ++ (wHd tc a2 g2)))) (ws' := (wPU tc a0 g0 q0_0 (a1 0) q0_2 q0_3 q0_4 (a2 0) q0_6 q0_7 q0_8 q0_9 q0_10 q0_13 ++ (wSt tc a1 g1 q1_18 q1_19 ++ (wHd tc a2 g2)))) (wr := (wHd tc a2 g2)) [0, 1, 2, 3, 4, 5, 6, 7, 8, 9, 10] [11, 12, 13, 14, 15] [5, 6, 7, 8, 9, 10, 11, 12, 13, 14, 15, 0, 1, 2, 3, 4] (As := [.int x2]) (rest := []) none rfl (oUi (fun u (_ : Option Nat) => (wPU tc a0 g0 q0_0 (a1 0) q0_2 q0_3 q0_4 (a2 0) q0_6 q0_7 q0_8 q0_9 q0_10 q0_13 ++ (wSt tc a1 g1 q1_18 q1_19 ++ (wHd tc a2 u)))) (h1_2 _ rfl)) X hT hQ (c_X11_needWord l hst dC dI sk sv tc a0 q0_0 q0_2 q0_3 q0_4 (a2 0) q0_6 q0_7 q0_8 q0_9 q0_10 q0_13 a1 q1_18 q1_19 g0 g1 x2 hc_2) mw_4_210 mw_4_212 mp_1_5 mw_1_1 mw_4_213 dc_X11_needWord ⟨Nat.le_of_ble_eq_true rfl, Nat.le_of_ble_eq_true rfl⟩ rfl rfl ⟨Nat.le_of_ble_eq_true rfl, Nat.le_of_ble_eq_true rfl⟩ ⟨rfl, rfl, rfl, rfl, by decide, rfl, rfl⟩ hP (hD _ _ _) hS 0 rfl rfl rfl hl.1 (Nat.le_of_ble_eq_true rfl) dX11_alike_7 (Nat.le_of_ble_eq_true rfl) (Nat.le_of_ble_eq_true rfl)
  have h := h2_2 _ rfl
  refine callU_n (ws := (wPU tc a0 g0 q0_0 (a1 0) q0_2 q0_3 q0_4 (a2 0) q0_6 q0_7 q0_8 q0_9 q0_10 q0_13 ++ (wSt tc a1 g1 q1_18 q1_19 ++ (wHd tc a2 g2)))) (ws' := (wPU tc a0 g0 q0_0 (a1 0) q0_2 q0_3 q0_4 (a2 0) q0_6 q0_7 q0_8 q0_9 q0_10 q0_13 ++ (wSt tc a1 g1 q1_18 q1_19 ++ (wHd tc a2 g2)))) (wr := (wHd tc a2 g2)) [0, 1, 2, 3, 4, 5, 6, 7, 8, 9, 10] [11, 12, 13, 14, 15] [5, 6, 7, 8, 9, 10, 11, 12, 13, 14, 15, 0, 1, 2, 3, 4] (As := [.int x2]) (rest := []) X (c_X11_needWord l hst dC dI sk sv tc a0 q0_0 q0_2 q0_3 q0_4 (a2 0) q0_6 q0_7 q0_8 q0_9 q0_10 q0_13 a1 q1_18 q1_19 g0 g1 x2 hc_2) mw_4_210 mw_4_212 mp_1_5 mw_1_1 mw_4_213 dc_X11_needWord ⟨Nat.le_of_ble_eq_true rfl, Nat.le_of_ble_eq_true rfl⟩ rfl rfl ⟨Nat.le_of_ble_eq_true rfl, Nat.le_of_ble_eq_true rfl⟩ ⟨rfl, rfl, rfl, rfl, by decide, rfl, rfl⟩ hP (hD _ _ _) hS 0 rfl rfl rfl hl.1 (Nat.le_of_ble_eq_true rfl) dX11_alike_7 (fun H locs hP hS => ?_)
  refine W.eq (g2 := F0 m 10 ls []) rfl ?_
  refine lv_aload_n X.1 X.2.1 dX11_alike_10 rfl (lv_at hl 0 rfl) ?_
  refine lv_iload_n X.1 X.2.1 dX11_alike_11 rfl (lv_at hl 1 rfl) ?_
  obtain ⟨g2_3, hc_3, h⟩ := bd_el h
  refine call_V1 (As := [.int x1]) (rest := []) X (c_X11_handOf l dC dI sk sv tc a0 q0_0 q0_2 q0_3 q0_4 q0_6 q0_7 q0_8 q0_9 q0_10 q0_13 a1 q1_18 q1_19 a2 g0 g1 g2 x1 hc_3) mw_5_43 mw_5_45 mp_1_7 mw_1_1 mw_5_46 dc_X11_handOf ⟨Nat.le_of_ble_eq_true rfl, Nat.le_of_ble_eq_true rfl⟩ rfl rfl ⟨Nat.le_of_ble_eq_true rfl, Nat.le_of_ble_eq_true rfl⟩ hP (hD _ _ _) hS 0 rfl rfl rfl hl.1 (Nat.le_of_ble_eq_true rfl) dX11_alike_12 (fun H locs hP hS => ?_)
  refine W.eq (g2 := F0 m 15 ls [.ref (a2 0)]) rfl ?_
  refine lv_iload_n X.1 X.2.1 dX11_alike_15 rfl (lv_at hl 2 rfl) ?_
  obtain ⟨r_4, hc_4, h⟩ := bd_el h
  refine call_Vsi (ws := (wPU tc a0 g0 q0_0 (a1 0) q0_2 q0_3 q0_4 (a2 0) q0_6 q0_7 q0_8 q0_9 q0_10 q0_13 ++ (wSt tc a1 g1 q1_18 q1_19 ++ (wHd tc a2 g2_3)))) (ws' := (wPU tc a0 g0 q0_0 (a1 0) q0_2 q0_3 q0_4 (a2 0) q0_6 q0_7 q0_8 q0_9 q0_10 q0_13 ++ (wSt tc a1 g1 q1_18 q1_19 ++ (wHd tc a2 g2_3)))) (wPU tc a0 g0 q0_0 (a1 0) q0_2 q0_3 q0_4 (a2 0) q0_6 q0_7 q0_8 q0_9 q0_10 q0_13 ++ (wSt tc a1 g1 q1_18 q1_19)) [] (As := [.int x2]) (rest := []) X (c_X3_alikeTo l dC dI sk sv tc a2 g2_3 x2 hc_4) mw_5_137 mw_2_228 mw_2_229 mw_1_7 mw_2_230 dc_X3_alikeTo ⟨Nat.le_of_ble_eq_true rfl, Nat.le_of_ble_eq_true rfl⟩ rfl rfl ⟨Nat.le_of_ble_eq_true rfl, Nat.le_of_ble_eq_true rfl⟩ (by simp only [List.append_assoc, List.nil_append, List.append_nil]) (by simp only [List.append_assoc, List.nil_append, List.append_nil]) hP (hD _ _ _) hS 0 rfl rfl rfl hl.1 (Nat.le_of_ble_eq_true rfl) dX11_alike_16 (fun H locs hP hS => ?_)
  exact retU_i (fun u (_ : Option Nat) => (wPU tc a0 g0 q0_0 (a1 0) q0_2 q0_3 q0_4 (a2 0) q0_6 q0_7 q0_8 q0_9 q0_10 q0_13 ++ (wSt tc a1 g1 q1_18 q1_19 ++ (wHd tc a2 u)))) none (Option.some.inj h) X hQ hP hS (Nat.le_of_ble_eq_true rfl) (Nat.le_of_ble_eq_true rfl) dX11_alike_19

def f_X11_reads (g0 : Pic) (g1 : Pic) (g2 : Pic) (x1 : Int32) (x2 : Int32) : Option ((Nat × Pic) ⊕ (Int32 × Pic)) := lr (f_X11_needWriter g0 g1 x1) (fun e => .inl (e.1, g2)) (fun _ => lr (f_X11_needWord g0 g1 x2) (fun e => .inl (e.1, g2)) (fun _ => bd (f_X11_handOf g0 g1 g2 x1) (fun g2_3 => bd (f_X3_readAs g2_3 x2) (fun r_4 => some (.inr (r_4, g2_3))))))
abbrev rm_X11_reads : Room := { frames := 7, cells := 2, slots := 12, locals := 141 }
set_option maxHeartbeats 4000000 in
set_option maxRecDepth 100000 in
theorem c_X11_reads (l : Launch) (hst : l.stackTraces = false) (dC : Nat → ClassId) (dI : Nat → Nat → Nat) (sk sv : Nat → Nat) (tc : Nat → ClassId) (a0 : Nat → Nat) (q0_0 : Nat) (q0_2 : Nat) (q0_3 : Nat) (q0_4 : Nat) (q0_6 : Nat) (q0_7 : Nat) (q0_8 : Nat) (q0_9 : Nat) (q0_10 : Nat) (q0_13 : Option Nat) (a1 : Nat → Nat) (q1_18 : Option Nat) (q1_19 : Nat) (a2 : Nat → Nat) (g0 : Pic) (g1 : Pic) (g2 : Pic) (x1 : Int32) (x2 : Int32) {res : ((Nat × Pic) ⊕ (Int32 × Pic))} (h : f_X11_reads g0 g1 g2 x1 x2 = some res) : CU l (dC, dI) sk sv (TY tc) yX11_reads cX11_reads 3 (some .int) rm_X11_reads 2 12 [.ref (a0 0), .int x1, .int x2] (wPU tc a0 g0 q0_0 (a1 0) q0_2 q0_3 q0_4 (a2 0) q0_6 q0_7 q0_8 q0_9 q0_10 q0_13 ++ (wSt tc a1 g1 q1_18 q1_19 ++ (wHd tc a2 g2))) (oI (fun u (_ : Option Nat) => (wPU tc a0 g0 q0_0 (a1 0) q0_2 q0_3 q0_4 (a2 0) q0_6 q0_7 q0_8 q0_9 q0_10 q0_13 ++ (wSt tc a1 g1 q1_18 q1_19 ++ (wHd tc a2 u)))) res) := by
  refine ofCU (by decide) (Nat.le_of_ble_eq_true rfl) ?_
  intro pr e s m args below meth c A Q ls H locs X hT hQ hD0 hP hS hl
  have hD : ∀ z0 z1 z2, va_D A (wPU tc a0 z0 q0_0 (a1 0) q0_2 q0_3 q0_4 (a2 0) q0_6 q0_7 q0_8 q0_9 q0_10 q0_13 ++ (wSt tc a1 z1 q1_18 q1_19 ++ (wHd tc a2 z2))) := fun z0 z1 z2 => D_fst (ws := (wPU tc a0 g0 q0_0 (a1 0) q0_2 q0_3 q0_4 (a2 0) q0_6 q0_7 q0_8 q0_9 q0_10 q0_13 ++ (wSt tc a1 g1 q1_18 q1_19 ++ (wHd tc a2 g2)))) rfl hD0
  have hl : lv_has ls 3 [(0, .ref (a0 0)), (1, .int x1), (2, .int x2)] := hl
  unfold f_X11_reads at h
  refine lv_aload_n X.1 X.2.1 dX11_reads_0 rfl (lv_at hl 0 rfl) ?_
  refine lv_iload_n X.1 X.2.1 dX11_reads_1 rfl (lv_at hl 1 rfl) ?_
  obtain ⟨ex_1, hc_1, h1_1, h2_1⟩ := lr_el h
  rcases ex_1 with e_1 | r_1
  · exact callU_t (ws := (wPU tc a0 g0 q0_0 (a1 0) q0_2 q0_3 q0_4 (a2 0) q0_6 q0_7 q0_8 q0_9 q0_10 q0_13 ++ (wSt tc a1 g1 q1_18 q1_19 ++ (wHd tc a2 g2)))) (ws' := (wPU tc a0 g0 q0_0 (a1 0) q0_2 q0_3 q0_4 (a2 0) q0_6 q0_7 q0_8 q0_9 q0_10 q0_13 ++ (wSt tc a1 g1 q1_18 q1_19 ++ (wHd tc a2 g2)))) (wr := (wHd tc a2 g2)) [0, 1, 2, 3, 4, 5, 6, 7, 8, 9, 10] [11, 12, 13, 14, 15] [5, 6, 7, 8, 9, 10, 11, 12, 13, 14, 15, 0, 1, 2, 3, 4] (As := [.int x1]) (rest := []) none rfl (oUi (fun u (_ : Option Nat) => (wPU tc a0 g0 q0_0 (a1 0) q0_2 q0_3 q0_4 (a2 0) q0_6 q0_7 q0_8 q0_9 q0_10 q0_13 ++ (wSt tc a1 g1 q1_18 q1_19 ++ (wHd tc a2 u)))) (h1_1 _ rfl)) X hT hQ (c_X11_needWriter l hst dC dI sk sv tc a0 q0_0 q0_2 q0_3 q0_4 (a2 0) q0_6 q0_7 q0_8 q0_9 q0_10 q0_13 a1 q1_18 q1_19 g0 g1 x1 hc_1) mw_5_38 mw_5_40 mp_1_6 mw_1_1 mw_5_41 dc_X11_needWriter ⟨Nat.le_of_ble_eq_true rfl, Nat.le_of_ble_eq_true rfl⟩ rfl rfl ⟨Nat.le_of_ble_eq_true rfl, Nat.le_of_ble_eq_true rfl⟩ ⟨rfl, rfl, rfl, rfl, by decide, rfl, rfl⟩ hP (hD _ _ _) hS 0 rfl rfl rfl hl.1 (Nat.le_of_ble_eq_true rfl) dX11_reads_2 (Nat.le_of_ble_eq_true rfl) (Nat.le_of_ble_eq_true rfl)
  have h := h2_1 _ rfl
  refine callU_n (ws := (wPU tc a0 g0 q0_0 (a1 0) q0_2 q0_3 q0_4 (a2 0) q0_6 q0_7 q0_8 q0_9 q0_10 q0_13 ++ (wSt tc a1 g1 q1_18 q1_19 ++ (wHd tc a2 g2)))) (ws' := (wPU tc a0 g0 q0_0 (a1 0) q0_2 q0_3 q0_4 (a2 0) q0_6 q0_7 q0_8 q0_9 q0_10 q0_13 ++ (wSt tc a1 g1 q1_18 q1_19 ++ (wHd tc a2 g2)))) (wr := (wHd tc a2 g2)) [0, 1, 2, 3, 4, 5, 6, 7, 8, 9, 10] [11, 12, 13, 14, 15] [5, 6, 7, 8, 9, 10, 11, 12, 13, 14, 15, 0, 1, 2, 3, 4] (As := [.int x1]) (rest := []) X (c_X11_needWriter l hst dC dI sk sv tc a0 q0_0 q0_2 q0_3 q0_4 (a2 0) q0_6 q0_7 q0_8 q0_9 q0_10 q0_13 a1 q1_18 q1_19 g0 g1 x1 hc_1) mw_5_38 mw_5_40 mp_1_6 mw_1_1 mw_5_41 dc_X11_needWriter ⟨Nat.le_of_ble_eq_true rfl, Nat.le_of_ble_eq_true rfl⟩ rfl rfl ⟨Nat.le_of_ble_eq_true rfl, Nat.le_of_ble_eq_true rfl⟩ ⟨rfl, rfl, rfl, rfl, by decide, rfl, rfl⟩ hP (hD _ _ _) hS 0 rfl rfl rfl hl.1 (Nat.le_of_ble_eq_true rfl) dX11_reads_2 (fun H locs hP hS => ?_)
  refine W.eq (g2 := F0 m 5 ls []) rfl ?_
  refine lv_aload_n X.1 X.2.1 dX11_reads_5 rfl (lv_at hl 0 rfl) ?_
  refine lv_iload_n X.1 X.2.1 dX11_reads_6 rfl (lv_at hl 2 rfl) ?_
  obtain ⟨ex_2, hc_2, h1_2, h2_2⟩ := lr_el h
  rcases ex_2 with e_2 | r_2
  · exact callU_t (ws := (wPU tc a0 g0 q0_0 (a1 0) q0_2 q0_3 q0_4 (a2 0) q0_6 q0_7 q0_8 q0_9 q0_10 q0_13 ++ (wSt tc a1 g1 q1_18 q1_19 ++ (wHd tc a2 g2)))) (ws' := (wPU tc a0 g0 q0_0 (a1 0) q0_2 q0_3 q0_4 (a2 0) q0_6 q0_7 q0_8 q0_9 q0_10 q0_13 ++ (wSt tc a1 g1 q1_18 q1_19 ++ (wHd tc a2 g2)))) (wr := (wHd tc a2 g2)) [0, 1, 2, 3, 4, 5, 6, 7, 8, 9, 10] [11, 12, 13, 14, 15] [5, 6, 7, 8, 9, 10, 11, 12, 13, 14, 15, 0, 1, 2, 3, 4] (As := [.int x2]) (rest := []) none rfl (oUi (fun u (_ : Option Nat) => (wPU tc a0 g0 q0_0 (a1 0) q0_2 q0_3 q0_4 (a2 0) q0_6 q0_7 q0_8 q0_9 q0_10 q0_13 ++ (wSt tc a1 g1 q1_18 q1_19 ++ (wHd tc a2 u)))) (h1_2 _ rfl)) X hT hQ (c_X11_needWord l hst dC dI sk sv tc a0 q0_0 q0_2 q0_3 q0_4 (a2 0) q0_6 q0_7 q0_8 q0_9 q0_10 q0_13 a1 q1_18 q1_19 g0 g1 x2 hc_2) mw_4_210 mw_4_212 mp_1_5 mw_1_1 mw_4_213 dc_X11_needWord ⟨Nat.le_of_ble_eq_true rfl, Nat.le_of_ble_eq_true rfl⟩ rfl rfl ⟨Nat.le_of_ble_eq_true rfl, Nat.le_of_ble_eq_true rfl⟩ ⟨rfl, rfl, rfl, rfl, by decide, rfl, rfl⟩ hP (hD _ _ _) hS 0 rfl rfl rfl hl.1 (Nat.le_of_ble_eq_true rfl) dX11_reads_7 (Nat.le_of_ble_eq_true rfl) (Nat.le_of_ble_eq_true rfl)
  have h := h2_2 _ rfl
  refine callU_n (ws := (wPU tc a0 g0 q0_0 (a1 0) q0_2 q0_3 q0_4 (a2 0) q0_6 q0_7 q0_8 q0_9 q0_10 q0_13 ++ (wSt tc a1 g1 q1_18 q1_19 ++ (wHd tc a2 g2)))) (ws' := (wPU tc a0 g0 q0_0 (a1 0) q0_2 q0_3 q0_4 (a2 0) q0_6 q0_7 q0_8 q0_9 q0_10 q0_13 ++ (wSt tc a1 g1 q1_18 q1_19 ++ (wHd tc a2 g2)))) (wr := (wHd tc a2 g2)) [0, 1, 2, 3, 4, 5, 6, 7, 8, 9, 10] [11, 12, 13, 14, 15] [5, 6, 7, 8, 9, 10, 11, 12, 13, 14, 15, 0, 1, 2, 3, 4] (As := [.int x2]) (rest := []) X (c_X11_needWord l hst dC dI sk sv tc a0 q0_0 q0_2 q0_3 q0_4 (a2 0) q0_6 q0_7 q0_8 q0_9 q0_10 q0_13 a1 q1_18 q1_19 g0 g1 x2 hc_2) mw_4_210 mw_4_212 mp_1_5 mw_1_1 mw_4_213 dc_X11_needWord ⟨Nat.le_of_ble_eq_true rfl, Nat.le_of_ble_eq_true rfl⟩ rfl rfl ⟨Nat.le_of_ble_eq_true rfl, Nat.le_of_ble_eq_true rfl⟩ ⟨rfl, rfl, rfl, rfl, by decide, rfl, rfl⟩ hP (hD _ _ _) hS 0 rfl rfl rfl hl.1 (Nat.le_of_ble_eq_true rfl) dX11_reads_7 (fun H locs hP hS => ?_)
  refine W.eq (g2 := F0 m 10 ls []) rfl ?_
  refine lv_aload_n X.1 X.2.1 dX11_reads_10 rfl (lv_at hl 0 rfl) ?_
  refine lv_iload_n X.1 X.2.1 dX11_reads_11 rfl (lv_at hl 1 rfl) ?_
  obtain ⟨g2_3, hc_3, h⟩ := bd_el h
  refine call_V1 (As := [.int x1]) (rest := []) X (c_X11_handOf l dC dI sk sv tc a0 q0_0 q0_2 q0_3 q0_4 q0_6 q0_7 q0_8 q0_9 q0_10 q0_13 a1 q1_18 q1_19 a2 g0 g1 g2 x1 hc_3) mw_5_43 mw_5_45 mp_1_7 mw_1_1 mw_5_46 dc_X11_handOf ⟨Nat.le_of_ble_eq_true rfl, Nat.le_of_ble_eq_true rfl⟩ rfl rfl ⟨Nat.le_of_ble_eq_true rfl, Nat.le_of_ble_eq_true rfl⟩ hP (hD _ _ _) hS 0 rfl rfl rfl hl.1 (Nat.le_of_ble_eq_true rfl) dX11_reads_12 (fun H locs hP hS => ?_)
  refine W.eq (g2 := F0 m 15 ls [.ref (a2 0)]) rfl ?_
  refine lv_iload_n X.1 X.2.1 dX11_reads_15 rfl (lv_at hl 2 rfl) ?_
  obtain ⟨r_4, hc_4, h⟩ := bd_el h
  refine call_Vsi (ws := (wPU tc a0 g0 q0_0 (a1 0) q0_2 q0_3 q0_4 (a2 0) q0_6 q0_7 q0_8 q0_9 q0_10 q0_13 ++ (wSt tc a1 g1 q1_18 q1_19 ++ (wHd tc a2 g2_3)))) (ws' := (wPU tc a0 g0 q0_0 (a1 0) q0_2 q0_3 q0_4 (a2 0) q0_6 q0_7 q0_8 q0_9 q0_10 q0_13 ++ (wSt tc a1 g1 q1_18 q1_19 ++ (wHd tc a2 g2_3)))) (wPU tc a0 g0 q0_0 (a1 0) q0_2 q0_3 q0_4 (a2 0) q0_6 q0_7 q0_8 q0_9 q0_10 q0_13 ++ (wSt tc a1 g1 q1_18 q1_19)) [] (As := [.int x2]) (rest := []) X (c_X3_readAs l dC dI sk sv tc a2 g2_3 x2 hc_4) mw_5_145 mw_5_56 mw_5_57 mw_1_7 mw_5_58 dc_X3_readAs ⟨Nat.le_of_ble_eq_true rfl, Nat.le_of_ble_eq_true rfl⟩ rfl rfl ⟨Nat.le_of_ble_eq_true rfl, Nat.le_of_ble_eq_true rfl⟩ (by simp only [List.append_assoc, List.nil_append, List.append_nil]) (by simp only [List.append_assoc, List.nil_append, List.append_nil]) hP (hD _ _ _) hS 0 rfl rfl rfl hl.1 (Nat.le_of_ble_eq_true rfl) dX11_reads_16 (fun H locs hP hS => ?_)
  exact retU_i (fun u (_ : Option Nat) => (wPU tc a0 g0 q0_0 (a1 0) q0_2 q0_3 q0_4 (a2 0) q0_6 q0_7 q0_8 q0_9 q0_10 q0_13 ++ (wSt tc a1 g1 q1_18 q1_19 ++ (wHd tc a2 u)))) none (Option.some.inj h) X hQ hP hS (Nat.le_of_ble_eq_true rfl) (Nat.le_of_ble_eq_true rfl) dX11_reads_19

def f_X11_keepsUp_n (g0 : Pic) (g1 : Pic) (g2 : Pic) (g3 : Pic) (g4 : Pic) (g5 : Pic) (x1 : Int32) (x2 : Int32) : Option ((Nat × (Pic × Pic)) ⊕ (Int32 × (Pic × Pic))) := lr (f_X11_needWriter g0 g1 x1) (fun e => .inl (e.1, (g3, g5))) (fun _ => lr (f_X11_needWord g0 g1 x2) (fun e => .inl (e.1, (g3, g5))) (fun _ => bd2 (f_X0_observe_n g4 g5 g3 g1 g2 x1 x2) (fun g5_3 g3_3 => bd (f_X0_isKeepingUp_n g4 g5_3 g3_3 g1 g2) (fun r_4 => gdb r_4 (some (.inr (r_4, (g3_3, g5_3))))))))
abbrev rm_X11_keepsUp_n : Room := { frames := 7, cells := 2, slots := 12, locals := 141 }
set_option maxHeartbeats 4000000 in
set_option maxRecDepth 100000 in
theorem c_X11_keepsUp_n (l : Launch) (hst : l.stackTraces = false) (dC : Nat → ClassId) (dI : Nat → Nat → Nat) (sk sv : Nat → Nat) (tc : Nat → ClassId) (a0 : Nat → Nat) (q0_0 : Nat) (q0_2 : Nat) (q0_3 : Nat) (q0_4 : Nat) (q0_7 : Nat) (q0_8 : Nat) (q0_9 : Nat) (q0_10 : Nat) (q0_13 : Option Nat) (a1 : Nat → Nat) (a2 : Nat → Nat) (a3 : Nat → Nat) (a4 : Nat → Nat) (a5 : Nat → Nat) (g0 : Pic) (g1 : Pic) (g2 : Pic) (g3 : Pic) (g4 : Pic) (g5 : Pic) (x1 : Int32) (x2 : Int32) {res : ((Nat × (Pic × Pic)) ⊕ (Int32 × (Pic × Pic)))} (h : f_X11_keepsUp_n g0 g1 g2 g3 g4 g5 x1 x2 = some res) : CU l (dC, dI) sk sv (TY tc) yX11_keepsUp cX11_keepsUp 3 (some .boolean) rm_X11_keepsUp_n 2 12 [.ref (a0 0), .int x1, .int x2] (wPU tc a0 g0 q0_0 (a1 0) q0_2 q0_3 q0_4 (a3 0) (a4 0) q0_7 q0_8 q0_9 q0_10 q0_13 ++ (wSt tc a1 g1 none (a2 0) ++ (wLg tc a2 g2 ++ (wHd tc a3 g3 ++ (wCk tc a4 g4 (a3 0) (a5 0) ++ (wFa tc a5 g5)))))) (oI (fun u (_ : Option Nat) => (wPU tc a0 g0 q0_0 (a1 0) q0_2 q0_3 q0_4 (a3 0) (a4 0) q0_7 q0_8 q0_9 q0_10 q0_13 ++ (wSt tc a1 g1 none (a2 0) ++ (wLg tc a2 g2 ++ (wHd tc a3 u.1 ++ (wCk tc a4 g4 (a3 0) (a5 0) ++ (wFa tc a5 u.2))))))) res) := by
  refine ofCU (by decide) (Nat.le_of_ble_eq_true rfl) ?_
  intro pr e s m args below meth c A Q ls H locs X hT hQ hD0 hP hS hl
  have hD : ∀ z0 z1 z2 z3 z4 z5, va_D A (wPU tc a0 z0 q0_0 (a1 0) q0_2 q0_3 q0_4 (a3 0) (a4 0) q0_7 q0_8 q0_9 q0_10 q0_13 ++ (wSt tc a1 z1 none (a2 0) ++ (wLg tc a2 z2 ++ (wHd tc a3 z3 ++ (wCk tc a4 z4 (a3 0) (a5 0) ++ (wFa tc a5 z5)))))) := fun z0 z1 z2 z3 z4 z5 => D_fst (ws := (wPU tc a0 g0 q0_0 (a1 0) q0_2 q0_3 q0_4 (a3 0) (a4 0) q0_7 q0_8 q0_9 q0_10 q0_13 ++ (wSt tc a1 g1 none (a2 0) ++ (wLg tc a2 g2 ++ (wHd tc a3 g3 ++ (wCk tc a4 g4 (a3 0) (a5 0) ++ (wFa tc a5 g5))))))) rfl hD0
  have hl : lv_has ls 3 [(0, .ref (a0 0)), (1, .int x1), (2, .int x2)] := hl
  unfold f_X11_keepsUp_n at h
  refine lv_aload_n X.1 X.2.1 dX11_keepsUp_0 rfl (lv_at hl 0 rfl) ?_
  refine lv_iload_n X.1 X.2.1 dX11_keepsUp_1 rfl (lv_at hl 1 rfl) ?_
  obtain ⟨ex_1, hc_1, h1_1, h2_1⟩ := lr_el h
  rcases ex_1 with e_1 | r_1
  · exact callU_t (ws := (wPU tc a0 g0 q0_0 (a1 0) q0_2 q0_3 q0_4 (a3 0) (a4 0) q0_7 q0_8 q0_9 q0_10 q0_13 ++ (wSt tc a1 g1 none (a2 0) ++ (wLg tc a2 g2 ++ (wHd tc a3 g3 ++ (wCk tc a4 g4 (a3 0) (a5 0) ++ (wFa tc a5 g5))))))) (ws' := (wPU tc a0 g0 q0_0 (a1 0) q0_2 q0_3 q0_4 (a3 0) (a4 0) q0_7 q0_8 q0_9 q0_10 q0_13 ++ (wSt tc a1 g1 none (a2 0) ++ (wLg tc a2 g2 ++ (wHd tc a3 g3 ++ (wCk tc a4 g4 (a3 0) (a5 0) ++ (wFa tc a5 g5))))))) (wr := (wLg tc a2 g2 ++ (wHd tc a3 g3 ++ (wCk tc a4 g4 (a3 0) (a5 0) ++ (wFa tc a5 g5))))) [0, 1, 2, 3, 4, 5, 6, 7, 8, 9, 10] [11, 12, 13, 14, 15, 16, 17, 18, 19] [9, 10, 11, 12, 13, 14, 15, 16, 17, 18, 19, 0, 1, 2, 3, 4, 5, 6, 7, 8] (As := [.int x1]) (rest := []) none rfl (oUi (fun u (_ : Option Nat) => (wPU tc a0 g0 q0_0 (a1 0) q0_2 q0_3 q0_4 (a3 0) (a4 0) q0_7 q0_8 q0_9 q0_10 q0_13 ++ (wSt tc a1 g1 none (a2 0) ++ (wLg tc a2 g2 ++ (wHd tc a3 u.1 ++ (wCk tc a4 g4 (a3 0) (a5 0) ++ (wFa tc a5 u.2))))))) (h1_1 _ rfl)) X hT hQ (c_X11_needWriter l hst dC dI sk sv tc a0 q0_0 q0_2 q0_3 q0_4 (a3 0) (a4 0) q0_7 q0_8 q0_9 q0_10 q0_13 a1 none (a2 0) g0 g1 x1 hc_1) mw_5_38 mw_5_40 mp_1_6 mw_1_1 mw_5_41 dc_X11_needWriter ⟨Nat.le_of_ble_eq_true rfl, Nat.le_of_ble_eq_true rfl⟩ rfl rfl ⟨Nat.le_of_ble_eq_true rfl, Nat.le_of_ble_eq_true rfl⟩ ⟨rfl, rfl, rfl, rfl, by decide, rfl, rfl⟩ hP (hD _ _ _ _ _ _) hS 0 rfl rfl rfl hl.1 (Nat.le_of_ble_eq_true rfl) dX11_keepsUp_2 (Nat.le_of_ble_eq_true rfl) (Nat.le_of_ble_eq_true rfl)
  have h := h2_1 _ rfl
  refine callU_n (ws := (wPU tc a0 g0 q0_0 (a1 0) q0_2 q0_3 q0_4 (a3 0) (a4 0) q0_7 q0_8 q0_9 q0_10 q0_13 ++ (wSt tc a1 g1 none (a2 0) ++ (wLg tc a2 g2 ++ (wHd tc a3 g3 ++ (wCk tc a4 g4 (a3 0) (a5 0) ++ (wFa tc a5 g5))))))) (ws' := (wPU tc a0 g0 q0_0 (a1 0) q0_2 q0_3 q0_4 (a3 0) (a4 0) q0_7 q0_8 q0_9 q0_10 q0_13 ++ (wSt tc a1 g1 none (a2 0) ++ (wLg tc a2 g2 ++ (wHd tc a3 g3 ++ (wCk tc a4 g4 (a3 0) (a5 0) ++ (wFa tc a5 g5))))))) (wr := (wLg tc a2 g2 ++ (wHd tc a3 g3 ++ (wCk tc a4 g4 (a3 0) (a5 0) ++ (wFa tc a5 g5))))) [0, 1, 2, 3, 4, 5, 6, 7, 8, 9, 10] [11, 12, 13, 14, 15, 16, 17, 18, 19] [9, 10, 11, 12, 13, 14, 15, 16, 17, 18, 19, 0, 1, 2, 3, 4, 5, 6, 7, 8] (As := [.int x1]) (rest := []) X (c_X11_needWriter l hst dC dI sk sv tc a0 q0_0 q0_2 q0_3 q0_4 (a3 0) (a4 0) q0_7 q0_8 q0_9 q0_10 q0_13 a1 none (a2 0) g0 g1 x1 hc_1) mw_5_38 mw_5_40 mp_1_6 mw_1_1 mw_5_41 dc_X11_needWriter ⟨Nat.le_of_ble_eq_true rfl, Nat.le_of_ble_eq_true rfl⟩ rfl rfl ⟨Nat.le_of_ble_eq_true rfl, Nat.le_of_ble_eq_true rfl⟩ ⟨rfl, rfl, rfl, rfl, by decide, rfl, rfl⟩ hP (hD _ _ _ _ _ _) hS 0 rfl rfl rfl hl.1 (Nat.le_of_ble_eq_true rfl) dX11_keepsUp_2 (fun H locs hP hS => ?_)
  refine W.eq (g2 := F0 m 5 ls []) rfl ?_
  refine lv_aload_n X.1 X.2.1 dX11_keepsUp_5 rfl (lv_at hl 0 rfl) ?_
  refine lv_iload_n X.1 X.2.1 dX11_keepsUp_6 rfl (lv_at hl 2 rfl) ?_
  obtain ⟨ex_2, hc_2, h1_2, h2_2⟩ := lr_el h
  rcases ex_2 with e_2 | r_2
  · exact callU_t (ws := (wPU tc a0 g0 q0_0 (a1 0) q0_2 q0_3 q0_4 (a3 0) (a4 0) q0_7 q0_8 q0_9 q0_10 q0_13 ++ (wSt tc a1 g1 none (a2 0) ++ (wLg tc a2 g2 ++ (wHd tc a3 g3 ++ (wCk tc a4 g4 (a3 0) (a5 0) ++ (wFa tc a5 g5))))))) (ws' := (wPU tc a0 g0 q0_0 (a1 0) q0_2 q0_3 q0_4 (a3 0) (a4 0) q0_7 q0_8 q0_9 q0_10 q0_13 ++ (wSt tc a1 g1 none (a2 0) ++ (wLg tc a2 g2 ++ (wHd tc a3 g3 ++ (wCk tc a4 g4 (a3 0) (a5 0) ++ (wFa tc a5 g5))))))) (wr := (wLg tc a2 g2 ++ (wHd tc a3 g3 ++ (wCk tc a4 g4 (a3 0) (a5 0) ++ (wFa tc a5 g5))))) [0, 1, 2, 3, 4, 5, 6, 7, 8, 9, 10] [11, 12, 13, 14, 15, 16, 17, 18, 19] [9, 10, 11, 12, 13, 14, 15, 16, 17, 18, 19, 0, 1, 2, 3, 4, 5, 6, 7, 8] (As := [.int x2]) (rest := []) none rfl (oUi (fun u (_ : Option Nat) => (wPU tc a0 g0 q0_0 (a1 0) q0_2 q0_3 q0_4 (a3 0) (a4 0) q0_7 q0_8 q0_9 q0_10 q0_13 ++ (wSt tc a1 g1 none (a2 0) ++ (wLg tc a2 g2 ++ (wHd tc a3 u.1 ++ (wCk tc a4 g4 (a3 0) (a5 0) ++ (wFa tc a5 u.2))))))) (h1_2 _ rfl)) X hT hQ (c_X11_needWord l hst dC dI sk sv tc a0 q0_0 q0_2 q0_3 q0_4 (a3 0) (a4 0) q0_7 q0_8 q0_9 q0_10 q0_13 a1 none (a2 0) g0 g1 x2 hc_2) mw_4_210 mw_4_212 mp_1_5 mw_1_1 mw_4_213 dc_X11_needWord ⟨Nat.le_of_ble_eq_true rfl, Nat.le_of_ble_eq_true rfl⟩ rfl rfl ⟨Nat.le_of_ble_eq_true rfl, Nat.le_of_ble_eq_true rfl⟩ ⟨rfl, rfl, rfl, rfl, by decide, rfl, rfl⟩ hP (hD _ _ _ _ _ _) hS 0 rfl rfl rfl hl.1 (Nat.le_of_ble_eq_true rfl) dX11_keepsUp_7 (Nat.le_of_ble_eq_true rfl) (Nat.le_of_ble_eq_true rfl)
  have h := h2_2 _ rfl
  refine callU_n (ws := (wPU tc a0 g0 q0_0 (a1 0) q0_2 q0_3 q0_4 (a3 0) (a4 0) q0_7 q0_8 q0_9 q0_10 q0_13 ++ (wSt tc a1 g1 none (a2 0) ++ (wLg tc a2 g2 ++ (wHd tc a3 g3 ++ (wCk tc a4 g4 (a3 0) (a5 0) ++ (wFa tc a5 g5))))))) (ws' := (wPU tc a0 g0 q0_0 (a1 0) q0_2 q0_3 q0_4 (a3 0) (a4 0) q0_7 q0_8 q0_9 q0_10 q0_13 ++ (wSt tc a1 g1 none (a2 0) ++ (wLg tc a2 g2 ++ (wHd tc a3 g3 ++ (wCk tc a4 g4 (a3 0) (a5 0) ++ (wFa tc a5 g5))))))) (wr := (wLg tc a2 g2 ++ (wHd tc a3 g3 ++ (wCk tc a4 g4 (a3 0) (a5 0) ++ (wFa tc a5 g5))))) [0, 1, 2, 3, 4, 5, 6, 7, 8, 9, 10] [11, 12, 13, 14, 15, 16, 17, 18, 19] [9, 10, 11, 12, 13, 14, 15, 16, 17, 18, 19, 0, 1, 2, 3, 4, 5, 6, 7, 8] (As := [.int x2]) (rest := []) X (c_X11_needWord l hst dC dI sk sv tc a0 q0_0 q0_2 q0_3 q0_4 (a3 0) (a4 0) q0_7 q0_8 q0_9 q0_10 q0_13 a1 none (a2 0) g0 g1 x2 hc_2) mw_4_210 mw_4_212 mp_1_5 mw_1_1 mw_4_213 dc_X11_needWord ⟨Nat.le_of_ble_eq_true rfl, Nat.le_of_ble_eq_true rfl⟩ rfl rfl ⟨Nat.le_of_ble_eq_true rfl, Nat.le_of_ble_eq_true rfl⟩ ⟨rfl, rfl, rfl, rfl, by decide, rfl, rfl⟩ hP (hD _ _ _ _ _ _) hS 0 rfl rfl rfl hl.1 (Nat.le_of_ble_eq_true rfl) dX11_keepsUp_7 (fun H locs hP hS => ?_)
  refine W.eq (g2 := F0 m 10 ls []) rfl ?_
  refine lv_aload_n X.1 X.2.1 dX11_keepsUp_10 rfl (lv_at hl 0 rfl) ?_
  refine r_get (C := RX11) (T := TX11) (N := 15) (ci := 11) (v := .ref (a4 0)) X iw11 hP 0 rfl rfl 6 rfl mw_2_149 rfl dX11_keepsUp_11 ?_
  refine lv_aload_n X.1 X.2.1 dX11_keepsUp_14 rfl (lv_at hl 0 rfl) ?_
  refine r_get (C := RX11) (T := TX11) (N := 15) (ci := 11) (v := .ref (a1 0)) X iw11 hP 0 rfl rfl 1 rfl mw_2_144 rfl dX11_keepsUp_15 ?_
  refine lv_iload_n X.1 X.2.1 dX11_keepsUp_18 rfl (lv_at hl 1 rfl) ?_
  refine lv_iload_n X.1 X.2.1 dX11_keepsUp_19 rfl (lv_at hl 2 rfl) ?_
  obtain ⟨g5_3, g3_3, hc_3, h⟩ := bd2_el h
  refine call_Q (ws := (wPU tc a0 g0 q0_0 (a1 0) q0_2 q0_3 q0_4 (a3 0) (a4 0) q0_7 q0_8 q0_9 q0_10 q0_13 ++ (wSt tc a1 g1 none (a2 0) ++ (wLg tc a2 g2 ++ (wHd tc a3 g3 ++ (wCk tc a4 g4 (a3 0) (a5 0) ++ (wFa tc a5 g5))))))) (ws' := (wPU tc a0 g0 q0_0 (a1 0) q0_2 q0_3 q0_4 (a3 0) (a4 0) q0_7 q0_8 q0_9 q0_10 q0_13 ++ (wSt tc a1 g1 none (a2 0) ++ (wLg tc a2 g2 ++ (wHd tc a3 g3_3 ++ (wCk tc a4 g4 (a3 0) (a5 0) ++ (wFa tc a5 g5_3))))))) (wr := (wPU tc a0 g0 q0_0 (a1 0) q0_2 q0_3 q0_4 (a3 0) (a4 0) q0_7 q0_8 q0_9 q0_10 q0_13)) [18, 19, 13, 14, 15, 16, 17, 1, 2, 3, 4, 5, 6, 7, 8, 9, 10, 11, 12] [0] [0, 8, 9, 10, 11, 12, 13, 14, 15, 16, 17, 18, 19, 3, 4, 5, 6, 7, 1, 2] (As := [.ref (a1 0), .int x1, .int x2]) (rest := []) X (c_X0_observe_n l dC dI sk sv tc a4 a5 a3 a1 a2 g4 g5 g3 g1 g2 x1 x2 hc_3) mw_5_153 mw_5_154 mw_5_155 mw_1_8 mw_5_156 dc_X0_observe ⟨Nat.le_of_ble_eq_true rfl, Nat.le_of_ble_eq_true rfl⟩ rfl rfl ⟨Nat.le_of_ble_eq_true rfl, Nat.le_of_ble_eq_true rfl⟩ ⟨rfl, rfl, rfl, rfl, by decide, rfl, rfl⟩ hP (hD _ _ _ _ _ _) hS 0 rfl rfl rfl hl.1 (Nat.le_of_ble_eq_true rfl) dX11_keepsUp_20 (fun H locs hP hS => ?_)
  refine W.eq (g2 := F0 m 23 ls []) rfl ?_
  refine lv_aload_n X.1 X.2.1 dX11_keepsUp_23 rfl (lv_at hl 0 rfl) ?_
  refine r_get (C := RX11) (T := TX11) (N := 15) (ci := 11) (v := .ref (a4 0)) X iw11 hP 0 rfl rfl 6 rfl mw_2_149 rfl dX11_keepsUp_24 ?_
  refine lv_aload_n X.1 X.2.1 dX11_keepsUp_27 rfl (lv_at hl 0 rfl) ?_
  refine r_get (C := RX11) (T := TX11) (N := 15) (ci := 11) (v := .ref (a1 0)) X iw11 hP 0 rfl rfl 1 rfl mw_2_144 rfl dX11_keepsUp_28 ?_
  obtain ⟨r_4, hc_4, h⟩ := bd_el h
  refine call_Q (ws := (wPU tc a0 g0 q0_0 (a1 0) q0_2 q0_3 q0_4 (a3 0) (a4 0) q0_7 q0_8 q0_9 q0_10 q0_13 ++ (wSt tc a1 g1 none (a2 0) ++ (wLg tc a2 g2 ++ (wHd tc a3 g3_3 ++ (wCk tc a4 g4 (a3 0) (a5 0) ++ (wFa tc a5 g5_3))))))) (ws' := (wPU tc a0 g0 q0_0 (a1 0) q0_2 q0_3 q0_4 (a3 0) (a4 0) q0_7 q0_8 q0_9 q0_10 q0_13 ++ (wSt tc a1 g1 none (a2 0) ++ (wLg tc a2 g2 ++ (wHd tc a3 g3_3 ++ (wCk tc a4 g4 (a3 0) (a5 0) ++ (wFa tc a5 g5_3))))))) (wr := (wPU tc a0 g0 q0_0 (a1 0) q0_2 q0_3 q0_4 (a3 0) (a4 0) q0_7 q0_8 q0_9 q0_10 q0_13)) [18, 19, 13, 14, 15, 16, 17, 1, 2, 3, 4, 5, 6, 7, 8, 9, 10, 11, 12] [0] [0, 8, 9, 10, 11, 12, 13, 14, 15, 16, 17, 18, 19, 3, 4, 5, 6, 7, 1, 2] (As := [.ref (a1 0)]) (rest := []) X (c_X0_isKeepingUp_n l dC dI sk sv tc a4 a5 a3 a1 a2 g4 g5_3 g3_3 g1 g2 hc_4) mw_5_159 mw_5_160 mw_5_161 mw_1_8 mw_5_162 dc_X0_isKeepingUp ⟨Nat.le_of_ble_eq_true rfl, Nat.le_of_ble_eq_true rfl⟩ rfl rfl ⟨Nat.le_of_ble_eq_true rfl, Nat.le_of_ble_eq_true rfl⟩ ⟨rfl, rfl, rfl, rfl, by decide, rfl, rfl⟩ hP (hD _ _ _ _ _ _) hS 0 rfl rfl rfl hl.1 (Nat.le_of_ble_eq_true rfl) dX11_keepsUp_31 (fun H locs hP hS => ?_)
  refine W.eq (g2 := F0 m 34 ls [.int r_4]) rfl ?_
  obtain ⟨hg_5, h⟩ := gdb_el h
  exact retU_z (fun u (_ : Option Nat) => (wPU tc a0 g0 q0_0 (a1 0) q0_2 q0_3 q0_4 (a3 0) (a4 0) q0_7 q0_8 q0_9 q0_10 q0_13 ++ (wSt tc a1 g1 none (a2 0) ++ (wLg tc a2 g2 ++ (wHd tc a3 u.1 ++ (wCk tc a4 g4 (a3 0) (a5 0) ++ (wFa tc a5 u.2))))))) none hg_5 (Option.some.inj h) X hQ hP hS (Nat.le_of_ble_eq_true rfl) (Nat.le_of_ble_eq_true rfl) dX11_keepsUp_34

def f_X11_keepsUp_l (ln6 : Nat → Nat) (g0 : Pic) (g1 : Pic) (g2 : Pic) (g3 : Pic) (g4 : Pic) (g5 : Pic) (g6 : Pic) (x1 : Int32) (x2 : Int32) : Option ((Nat × (Pic × Pic)) ⊕ (Int32 × (Pic × Pic))) := lr (f_X11_needWriter g0 g1 x1) (fun e => .inl (e.1, (g3, g5))) (fun _ => lr (f_X11_needWord g0 g1 x2) (fun e => .inl (e.1, (g3, g5))) (fun _ => bd2 (f_X0_observe_l ln6 g4 g6 g5 g3 g1 g2 x1 x2) (fun g5_3 g3_3 => bd (f_X0_isKeepingUp_l ln6 g4 g6 g5_3 g3_3 g1 g2) (fun r_4 => gdb r_4 (some (.inr (r_4, (g3_3, g5_3))))))))
abbrev rm_X11_keepsUp_l : Room := { frames := 7, cells := 2, slots := 12, locals := 141 }
set_option maxHeartbeats 4000000 in
set_option maxRecDepth 100000 in
theorem c_X11_keepsUp_l (l : Launch) (hst : l.stackTraces = false) (dC : Nat → ClassId) (dI : Nat → Nat → Nat) (sk sv : Nat → Nat) (tc : Nat → ClassId) (ln6 : Nat → Nat) (a0 : Nat → Nat) (q0_0 : Nat) (q0_2 : Nat) (q0_3 : Nat) (q0_4 : Nat) (q0_7 : Nat) (q0_8 : Nat) (q0_9 : Nat) (q0_10 : Nat) (q0_13 : Option Nat) (a1 : Nat → Nat) (a2 : Nat → Nat) (a3 : Nat → Nat) (a4 : Nat → Nat) (a5 : Nat → Nat) (a6 : Nat → Nat) (g0 : Pic) (g1 : Pic) (g2 : Pic) (g3 : Pic) (g4 : Pic) (g5 : Pic) (g6 : Pic) (x1 : Int32) (x2 : Int32) {res : ((Nat × (Pic × Pic)) ⊕ (Int32 × (Pic × Pic)))} (h : f_X11_keepsUp_l ln6 g0 g1 g2 g3 g4 g5 g6 x1 x2 = some res) : CU l (dC, dI) sk sv (TY tc) yX11_keepsUp cX11_keepsUp 3 (some .boolean) rm_X11_keepsUp_l 2 12 [.ref (a0 0), .int x1, .int x2] (wPU tc a0 g0 q0_0 (a1 0) q0_2 q0_3 q0_4 (a3 0) (a4 0) q0_7 q0_8 q0_9 q0_10 q0_13 ++ (wSt tc a1 g1 (some (a6 0)) (a2 0) ++ (wLg tc a2 g2 ++ (wHd tc a3 g3 ++ (wCk tc a4 g4 (a3 0) (a5 0) ++ (wFa tc a5 g5 ++ (wLw tc a6 g6 ln6))))))) (oI (fun u (_ : Option Nat) => (wPU tc a0 g0 q0_0 (a1 0) q0_2 q0_3 q0_4 (a3 0) (a4 0) q0_7 q0_8 q0_9 q0_10 q0_13 ++ (wSt tc a1 g1 (some (a6 0)) (a2 0) ++ (wLg tc a2 g2 ++ (wHd tc a3 u.1 ++ (wCk tc a4 g4 (a3 0) (a5 0) ++ (wFa tc a5 u.2 ++ (wLw tc a6 g6 ln6)))))))) res) := by
  refine ofCU (by decide) (Nat.le_of_ble_eq_true rfl) ?_
  intro pr e s m args below meth c A Q ls H locs X hT hQ hD0 hP hS hl
  have hD : ∀ z0 z1 z2 z3 z4 z5 z6, va_D A (wPU tc a0 z0 q0_0 (a1 0) q0_2 q0_3 q0_4 (a3 0) (a4 0) q0_7 q0_8 q0_9 q0_10 q0_13 ++ (wSt tc a1 z1 (some (a6 0)) (a2 0) ++ (wLg tc a2 z2 ++ (wHd tc a3 z3 ++ (wCk tc a4 z4 (a3 0) (a5 0) ++ (wFa tc a5 z5 ++ (wLw tc a6 z6 ln6))))))) := fun z0 z1 z2 z3 z4 z5 z6 => D_fst (ws := (wPU tc a0 g0 q0_0 (a1 0) q0_2 q0_3 q0_4 (a3 0) (a4 0) q0_7 q0_8 q0_9 q0_10 q0_13 ++ (wSt tc a1 g1 (some (a6 0)) (a2 0) ++ (wLg tc a2 g2 ++ (wHd tc a3 g3 ++ (wCk tc a4 g4 (a3 0) (a5 0) ++ (wFa tc a5 g5 ++ (wLw tc a6 g6 ln6)))))))) rfl hD0
  have hl : lv_has ls 3 [(0, .ref (a0 0)), (1, .int x1), (2, .int x2)] := hl
  unfold f_X11_keepsUp_l at h
  refine lv_aload_n X.1 X.2.1 dX11_keepsUp_0 rfl (lv_at hl 0 rfl) ?_
  refine lv_iload_n X.1 X.2.1 dX11_keepsUp_1 rfl (lv_at hl 1 rfl) ?_
  obtain ⟨ex_1, hc_1, h1_1, h2_1⟩ := lr_el h
  rcases ex_1 with e_1 | r_1
  · exact callU_t (ws := (wPU tc a0 g0 q0_0 (a1 0) q0_2 q0_3 q0_4 (a3 0) (a4 0) q0_7 q0_8 q0_9 q0_10 q0_13 ++ (wSt tc a1 g1 (some (a6 0)) (a2 0) ++ (wLg tc a2 g2 ++ (wHd tc a3 g3 ++ (wCk tc a4 g4 (a3 0) (a5 0) ++ (wFa tc a5 g5 ++ (wLw tc a6 g6 ln6)))))))) (ws' := (wPU tc a0 g0 q0_0 (a1 0) q0_2 q0_3 q0_4 (a3 0) (a4 0) q0_7 q0_8 q0_9 q0_10 q0_13 ++ (wSt tc a1 g1 (some (a6 0)) (a2 0) ++ (wLg tc a2 g2 ++ (wHd tc a3 g3 ++ (wCk tc a4 g4 (a3 0) (a5 0) ++ (wFa tc a5 g5 ++ (wLw tc a6 g6 ln6)))))))) (wr := (wLg tc a2 g2 ++ (wHd tc a3 g3 ++ (wCk tc a4 g4 (a3 0) (a5 0) ++ (wFa tc a5 g5 ++ (wLw tc a6 g6 ln6)))))) [0, 1, 2, 3, 4, 5, 6, 7, 8, 9, 10] [11, 12, 13, 14, 15, 16, 17, 18, 19, 20, 21, 22, 23, 24, 25] [15, 16, 17, 18, 19, 20, 21, 22, 23, 24, 25, 0, 1, 2, 3, 4, 5, 6, 7, 8, 9, 10, 11, 12, 13, 14] (As := [.int x1]) (rest := []) none rfl (oUi (fun u (_ : Option Nat) => (wPU tc a0 g0 q0_0 (a1 0) q0_2 q0_3 q0_4 (a3 0) (a4 0) q0_7 q0_8 q0_9 q0_10 q0_13 ++ (wSt tc a1 g1 (some (a6 0)) (a2 0) ++ (wLg tc a2 g2 ++ (wHd tc a3 u.1 ++ (wCk tc a4 g4 (a3 0) (a5 0) ++ (wFa tc a5 u.2 ++ (wLw tc a6 g6 ln6)))))))) (h1_1 _ rfl)) X hT hQ (c_X11_needWriter l hst dC dI sk sv tc a0 q0_0 q0_2 q0_3 q0_4 (a3 0) (a4 0) q0_7 q0_8 q0_9 q0_10 q0_13 a1 (some (a6 0)) (a2 0) g0 g1 x1 hc_1) mw_5_38 mw_5_40 mp_1_6 mw_1_1 mw_5_41 dc_X11_needWriter ⟨Nat.le_of_ble_eq_true rfl, Nat.le_of_ble_eq_true rfl⟩ rfl rfl ⟨Nat.le_of_ble_eq_true rfl, Nat.le_of_ble_eq_true rfl⟩ ⟨rfl, rfl, rfl, rfl, by decide, rfl, rfl⟩ hP (hD _ _ _ _ _ _ _) hS 0 rfl rfl rfl hl.1 (Nat.le_of_ble_eq_true rfl) dX11_keepsUp_2 (Nat.le_of_ble_eq_true rfl) (Nat.le_of_ble_eq_true rfl)
  have h := h2_1 _ rfl
  refine callU_n (ws := (wPU tc a0 g0 q0_0 (a1 0) q0_2 q0_3 q0_4 (a3 0) (a4 0) q0_7 q0_8 q0_9 q0_10 q0_13 ++ (wSt tc a1 g1 (some (a6 0)) (a2 0) ++ (wLg tc a2 g2 ++ (wHd tc a3 g3 ++ (wCk tc a4 g4 (a3 0) (a5 0) ++ (wFa tc a5 g5 ++ (wLw tc a6 g6 ln6)))))))) (ws' := (wPU tc a0 g0 q0_0 (a1 0) q0_2 q0_3 q0_4 (a3 0) (a4 0) q0_7 q0_8 q0_9 q0_10 q0_13 ++ (wSt tc a1 g1 (some (a6 0)) (a2 0) ++ (wLg tc a2 g2 ++ (wHd tc a3 g3 ++ (wCk tc a4 g4 (a3 0) (a5 0) ++ (wFa tc a5 g5 ++ (wLw tc a6 g6 ln6)))))))) (wr := (wLg tc a2 g2 ++ (wHd tc a3 g3 ++ (wCk tc a4 g4 (a3 0) (a5 0) ++ (wFa tc a5 g5 ++ (wLw tc a6 g6 ln6)))))) [0, 1, 2, 3, 4, 5, 6, 7, 8, 9, 10] [11, 12, 13, 14, 15, 16, 17, 18, 19, 20, 21, 22, 23, 24, 25] [15, 16, 17, 18, 19, 20, 21, 22, 23, 24, 25, 0, 1, 2, 3, 4, 5, 6, 7, 8, 9, 10, 11, 12, 13, 14] (As := [.int x1]) (rest := []) X (c_X11_needWriter l hst dC dI sk sv tc a0 q0_0 q0_2 q0_3 q0_4 (a3 0) (a4 0) q0_7 q0_8 q0_9 q0_10 q0_13 a1 (some (a6 0)) (a2 0) g0 g1 x1 hc_1) mw_5_38 mw_5_40 mp_1_6 mw_1_1 mw_5_41 dc_X11_needWriter ⟨Nat.le_of_ble_eq_true rfl, Nat.le_of_ble_eq_true rfl⟩ rfl rfl ⟨Nat.le_of_ble_eq_true rfl, Nat.le_of_ble_eq_true rfl⟩ ⟨rfl, rfl, rfl, rfl, by decide, rfl, rfl⟩ hP (hD _ _ _ _ _ _ _) hS 0 rfl rfl rfl hl.1 (Nat.le_of_ble_eq_true rfl) dX11_keepsUp_2 (fun H locs hP hS => ?_)
  refine W.eq (g2 := F0 m 5 ls []) rfl ?_
  refine lv_aload_n X.1 X.2.1 dX11_keepsUp_5 rfl (lv_at hl 0 rfl) ?_
  refine lv_iload_n X.1 X.2.1 dX11_keepsUp_6 rfl (lv_at hl 2 rfl) ?_
  obtain ⟨ex_2, hc_2, h1_2, h2_2⟩ := lr_el h
  rcases ex_2 with e_2 | r_2
  · exact callU_t (ws := (wPU tc a0 g0 q0_0 (a1 0) q0_2 q0_3 q0_4 (a3 0) (a4 0) q0_7 q0_8 q0_9 q0_10 q0_13 ++ (wSt tc a1 g1 (some (a6 0)) (a2 0) ++ (wLg tc a2 g2 ++ (wHd tc a3 g3 ++ (wCk tc a4 g4 (a3 0) (a5 0) ++ (wFa tc a5 g5 ++ (wLw tc a6 g6 ln6)))))))) (ws' := (wPU tc a0 g0 q0_0 (a1 0) q0_2 q0_3 q0_4 (a3 0) (a4 0) q0_7 q0_8 q0_9 q0_10 q0_13 ++ (wSt tc a1 g1 (some (a6 0)) (a2 0) ++ (wLg tc a2 g2 ++ (wHd tc a3 g3 ++ (wCk tc a4 g4 (a3 0) (a5 0) ++ (wFa tc a5 g5 ++ (wLw tc a6 g6 ln6)))))))) (wr := (wLg tc a2 g2 ++ (wHd tc a3 g3 ++ (wCk tc a4 g4 (a3 0) (a5 0) ++ (wFa tc a5 g5 ++ (wLw tc a6 g6 ln6)))))) [0, 1, 2, 3, 4, 5, 6, 7, 8, 9, 10] [11, 12, 13, 14, 15, 16, 17, 18, 19, 20, 21, 22, 23, 24, 25] [15, 16, 17, 18, 19, 20, 21, 22, 23, 24, 25, 0, 1, 2, 3, 4, 5, 6, 7, 8, 9, 10, 11, 12, 13, 14] (As := [.int x2]) (rest := []) none rfl (oUi (fun u (_ : Option Nat) => (wPU tc a0 g0 q0_0 (a1 0) q0_2 q0_3 q0_4 (a3 0) (a4 0) q0_7 q0_8 q0_9 q0_10 q0_13 ++ (wSt tc a1 g1 (some (a6 0)) (a2 0) ++ (wLg tc a2 g2 ++ (wHd tc a3 u.1 ++ (wCk tc a4 g4 (a3 0) (a5 0) ++ (wFa tc a5 u.2 ++ (wLw tc a6 g6 ln6)))))))) (h1_2 _ rfl)) X hT hQ (c_X11_needWord l hst dC dI sk sv tc a0 q0_0 q0_2 q0_3 q0_4 (a3 0) (a4 0) q0_7 q0_8 q0_9 q0_10 q0_13 a1 (some (a6 0)) (a2 0) g0 g1 x2 hc_2) mw_4_210 mw_4_212 mp_1_5 mw_1_1 mw_4_213 dc_X11_needWord ⟨Nat.le_of_ble_eq_true rfl, Nat.le_of_ble_eq_true rfl⟩ rfl rfl ⟨Nat.le_of_ble_eq_true rfl, Nat.le_of_ble_eq_true rfl⟩ ⟨rfl, rfl, rfl, rfl, by decide, rfl, rfl⟩ hP (hD _ _ _ _ _ _ _) hS 0 rfl rfl rfl hl.1 (Nat.le_of_ble_eq_true rfl) dX11_keepsUp_7 (Nat.le_of_ble_eq_true rfl) (Nat.le_of_ble_eq_true rfl)
  have h := h2_2 _ rfl
  refine callU_n (ws := (wPU tc a0 g0 q0_0 (a1 0) q0_2 q0_3 q0_4 (a3 0) (a4 0) q0_7 q0_8 q0_9 q0_10 q0_13 ++ (wSt tc a1 g1 (some (a6 0)) (a2 0) ++ (wLg tc a2 g2 ++ (wHd tc a3 g3 ++ (wCk tc a4 g4 (a3 0) (a5 0) ++ (wFa tc a5 g5 ++ (wLw tc a6 g6 ln6)))))))) (ws' := (wPU tc a0 g0 q0_0 (a1 0) q0_2 q0_3 q0_4 (a3 0) (a4 0) q0_7 q0_8 q0_9 q0_10 q0_13 ++ (wSt tc a1 g1 (some (a6 0)) (a2 0) ++ (wLg tc a2 g2 ++ (wHd tc a3 g3 ++ (wCk tc a4 g4 (a3 0) (a5 0) ++ (wFa tc a5 g5 ++ (wLw tc a6 g6 ln6)))))))) (wr := (wLg tc a2 g2 ++ (wHd tc a3 g3 ++ (wCk tc a4 g4 (a3 0) (a5 0) ++ (wFa tc a5 g5 ++ (wLw tc a6 g6 ln6)))))) [0, 1, 2, 3, 4, 5, 6, 7, 8, 9, 10] [11, 12, 13, 14, 15, 16, 17, 18, 19, 20, 21, 22, 23, 24, 25] [15, 16, 17, 18, 19, 20, 21, 22, 23, 24, 25, 0, 1, 2, 3, 4, 5, 6, 7, 8, 9, 10, 11, 12, 13, 14] (As := [.int x2]) (rest := []) X (c_X11_needWord l hst dC dI sk sv tc a0 q0_0 q0_2 q0_3 q0_4 (a3 0) (a4 0) q0_7 q0_8 q0_9 q0_10 q0_13 a1 (some (a6 0)) (a2 0) g0 g1 x2 hc_2) mw_4_210 mw_4_212 mp_1_5 mw_1_1 mw_4_213 dc_X11_needWord ⟨Nat.le_of_ble_eq_true rfl, Nat.le_of_ble_eq_true rfl⟩ rfl rfl ⟨Nat.le_of_ble_eq_true rfl, Nat.le_of_ble_eq_true rfl⟩ ⟨rfl, rfl, rfl, rfl, by decide, rfl, rfl⟩ hP (hD _ _ _ _ _ _ _) hS 0 rfl rfl rfl hl.1 (Nat.le_of_ble_eq_true rfl) dX11_keepsUp_7 (fun H locs hP hS => ?_)
  refine W.eq (g2 := F0 m 10 ls []) rfl ?_
  refine lv_aload_n X.1 X.2.1 dX11_keepsUp_10 rfl (lv_at hl 0 rfl) ?_
  refine r_get (C := RX11) (T := TX11) (N := 15) (ci := 11) (v := .ref (a4 0)) X iw11 hP 0 rfl rfl 6 rfl mw_2_149 rfl dX11_keepsUp_11 ?_
  refine lv_aload_n X.1 X.2.1 dX11_keepsUp_14 rfl (lv_at hl 0 rfl) ?_
  refine r_get (C := RX11) (T := TX11) (N := 15) (ci := 11) (v := .ref (a1 0)) X iw11 hP 0 rfl rfl 1 rfl mw_2_144 rfl dX11_keepsUp_15 ?_
  refine lv_iload_n X.1 X.2.1 dX11_keepsUp_18 rfl (lv_at hl 1 rfl) ?_
  refine lv_iload_n X.1 X.2.1 dX11_keepsUp_19 rfl (lv_at hl 2 rfl) ?_
  obtain ⟨g5_3, g3_3, hc_3, h⟩ := bd2_el h
  refine call_Q (ws := (wPU tc a0 g0 q0_0 (a1 0) q0_2 q0_3 q0_4 (a3 0) (a4 0) q0_7 q0_8 q0_9 q0_10 q0_13 ++ (wSt tc a1 g1 (some (a6 0)) (a2 0) ++ (wLg tc a2 g2 ++ (wHd tc a3 g3 ++ (wCk tc a4 g4 (a3 0) (a5 0) ++ (wFa tc a5 g5 ++ (wLw tc a6 g6 ln6)))))))) (ws' := (wPU tc a0 g0 q0_0 (a1 0) q0_2 q0_3 q0_4 (a3 0) (a4 0) q0_7 q0_8 q0_9 q0_10 q0_13 ++ (wSt tc a1 g1 (some (a6 0)) (a2 0) ++ (wLg tc a2 g2 ++ (wHd tc a3 g3_3 ++ (wCk tc a4 g4 (a3 0) (a5 0) ++ (wFa tc a5 g5_3 ++ (wLw tc a6 g6 ln6)))))))) (wr := (wPU tc a0 g0 q0_0 (a1 0) q0_2 q0_3 q0_4 (a3 0) (a4 0) q0_7 q0_8 q0_9 q0_10 q0_13)) [18, 20, 21, 22, 23, 24, 25, 19, 13, 14, 15, 16, 17, 1, 2, 3, 4, 5, 6, 7, 8, 9, 10, 11, 12] [0] [0, 14, 15, 16, 17, 18, 19, 20, 21, 22, 23, 24, 25, 9, 10, 11, 12, 13, 1, 8, 2, 3, 4, 5, 6, 7] (As := [.ref (a1 0), .int x1, .int x2]) (rest := []) X (c_X0_observe_l l dC dI sk sv tc ln6 a4 a6 a5 a3 a1 a2 g4 g6 g5 g3 g1 g2 x1 x2 hc_3) mw_5_153 mw_5_154 mw_5_155 mw_1_8 mw_5_156 dc_X0_observe ⟨Nat.le_of_ble_eq_true rfl, Nat.le_of_ble_eq_true rfl⟩ rfl rfl ⟨Nat.le_of_ble_eq_true rfl, Nat.le_of_ble_eq_true rfl⟩ ⟨rfl, rfl, rfl, rfl, by decide, rfl, rfl⟩ hP (hD _ _ _ _ _ _ _) hS 0 rfl rfl rfl hl.1 (Nat.le_of_ble_eq_true rfl) dX11_keepsUp_20 (fun H locs hP hS => ?_)
  refine W.eq (g2 := F0 m 23 ls []) rfl ?_
  refine lv_aload_n X.1 X.2.1 dX11_keepsUp_23 rfl (lv_at hl 0 rfl) ?_
  refine r_get (C := RX11) (T := TX11) (N := 15) (ci := 11) (v := .ref (a4 0)) X iw11 hP 0 rfl rfl 6 rfl mw_2_149 rfl dX11_keepsUp_24 ?_
  refine lv_aload_n X.1 X.2.1 dX11_keepsUp_27 rfl (lv_at hl 0 rfl) ?_
  refine r_get (C := RX11) (T := TX11) (N := 15) (ci := 11) (v := .ref (a1 0)) X iw11 hP 0 rfl rfl 1 rfl mw_2_144 rfl dX11_keepsUp_28 ?_
  obtain ⟨r_4, hc_4, h⟩ := bd_el h
  refine call_Q (ws := (wPU tc a0 g0 q0_0 (a1 0) q0_2 q0_3 q0_4 (a3 0) (a4 0) q0_7 q0_8 q0_9 q0_10 q0_13 ++ (wSt tc a1 g1 (some (a6 0)) (a2 0) ++ (wLg tc a2 g2 ++ (wHd tc a3 g3_3 ++ (wCk tc a4 g4 (a3 0) (a5 0) ++ (wFa tc a5 g5_3 ++ (wLw tc a6 g6 ln6)))))))) (ws' := (wPU tc a0 g0 q0_0 (a1 0) q0_2 q0_3 q0_4 (a3 0) (a4 0) q0_7 q0_8 q0_9 q0_10 q0_13 ++ (wSt tc a1 g1 (some (a6 0)) (a2 0) ++ (wLg tc a2 g2 ++ (wHd tc a3 g3_3 ++ (wCk tc a4 g4 (a3 0) (a5 0) ++ (wFa tc a5 g5_3 ++ (wLw tc a6 g6 ln6)))))))) (wr := (wPU tc a0 g0 q0_0 (a1 0) q0_2 q0_3 q0_4 (a3 0) (a4 0) q0_7 q0_8 q0_9 q0_10 q0_13)) [18, 20, 21, 22, 23, 24, 25, 19, 13, 14, 15, 16, 17, 1, 2, 3, 4, 5, 6, 7, 8, 9, 10, 11, 12] [0] [0, 14, 15, 16, 17, 18, 19, 20, 21, 22, 23, 24, 25, 9, 10, 11, 12, 13, 1, 8, 2, 3, 4, 5, 6, 7] (As := [.ref (a1 0)]) (rest := []) X (c_X0_isKeepingUp_l l dC dI sk sv tc ln6 a4 a6 a5 a3 a1 a2 g4 g6 g5_3 g3_3 g1 g2 hc_4) mw_5_159 mw_5_160 mw_5_161 mw_1_8 mw_5_162 dc_X0_isKeepingUp ⟨Nat.le_of_ble_eq_true rfl, Nat.le_of_ble_eq_true rfl⟩ rfl rfl ⟨Nat.le_of_ble_eq_true rfl, Nat.le_of_ble_eq_true rfl⟩ ⟨rfl, rfl, rfl, rfl, by decide, rfl, rfl⟩ hP (hD _ _ _ _ _ _ _) hS 0 rfl rfl rfl hl.1 (Nat.le_of_ble_eq_true rfl) dX11_keepsUp_31 (fun H locs hP hS => ?_)
  refine W.eq (g2 := F0 m 34 ls [.int r_4]) rfl ?_
  obtain ⟨hg_5, h⟩ := gdb_el h
  exact retU_z (fun u (_ : Option Nat) => (wPU tc a0 g0 q0_0 (a1 0) q0_2 q0_3 q0_4 (a3 0) (a4 0) q0_7 q0_8 q0_9 q0_10 q0_13 ++ (wSt tc a1 g1 (some (a6 0)) (a2 0) ++ (wLg tc a2 g2 ++ (wHd tc a3 u.1 ++ (wCk tc a4 g4 (a3 0) (a5 0) ++ (wFa tc a5 u.2 ++ (wLw tc a6 g6 ln6)))))))) none hg_5 (Option.some.inj h) X hQ hP hS (Nat.le_of_ble_eq_true rfl) (Nat.le_of_ble_eq_true rfl) dX11_keepsUp_34

def f_X11_slips_n (g0 : Pic) (g1 : Pic) (g2 : Pic) (g3 : Pic) (g4 : Pic) (g5 : Pic) (x1 : Int32) (x2 : Int32) : Option ((Nat × (Pic × Pic)) ⊕ (Int32 × (Pic × Pic))) := lr (f_X11_needWriter g0 g1 x1) (fun e => .inl (e.1, (g3, g5))) (fun _ => lr (f_X11_needWord g0 g1 x2) (fun e => .inl (e.1, (g3, g5))) (fun _ => bd2 (f_X0_observe_n g4 g5 g3 g1 g2 x1 x2) (fun g5_3 g3_3 => bd (f_X0_slipsOf_n g4 g5_3 g3_3 g1 g2) (fun r_4 => some (.inr (r_4, (g3_3, g5_3)))))))
abbrev rm_X11_slips_n : Room := { frames := 7, cells := 2, slots := 12, locals := 141 }
set_option maxHeartbeats 4000000 in
set_option maxRecDepth 100000 in
theorem c_X11_slips_n (l : Launch) (hst : l.stackTraces = false) (dC : Nat → ClassId) (dI : Nat → Nat → Nat) (sk sv : Nat → Nat) (tc : Nat → ClassId) (a0 : Nat → Nat) (q0_0 : Nat) (q0_2 : Nat) (q0_3 : Nat) (q0_4 : Nat) (q0_7 : Nat) (q0_8 : Nat) (q0_9 : Nat) (q0_10 : Nat) (q0_13 : Option Nat) (a1 : Nat → Nat) (a2 : Nat → Nat) (a3 : Nat → Nat) (a4 : Nat → Nat) (a5 : Nat → Nat) (g0 : Pic) (g1 : Pic) (g2 : Pic) (g3 : Pic) (g4 : Pic) (g5 : Pic) (x1 : Int32) (x2 : Int32) {res : ((Nat × (Pic × Pic)) ⊕ (Int32 × (Pic × Pic)))} (h : f_X11_slips_n g0 g1 g2 g3 g4 g5 x1 x2 = some res) : CU l (dC, dI) sk sv (TY tc) yX11_slips cX11_slips 3 (some .int) rm_X11_slips_n 2 12 [.ref (a0 0), .int x1, .int x2] (wPU tc a0 g0 q0_0 (a1 0) q0_2 q0_3 q0_4 (a3 0) (a4 0) q0_7 q0_8 q0_9 q0_10 q0_13 ++ (wSt tc a1 g1 none (a2 0) ++ (wLg tc a2 g2 ++ (wHd tc a3 g3 ++ (wCk tc a4 g4 (a3 0) (a5 0) ++ (wFa tc a5 g5)))))) (oI (fun u (_ : Option Nat) => (wPU tc a0 g0 q0_0 (a1 0) q0_2 q0_3 q0_4 (a3 0) (a4 0) q0_7 q0_8 q0_9 q0_10 q0_13 ++ (wSt tc a1 g1 none (a2 0) ++ (wLg tc a2 g2 ++ (wHd tc a3 u.1 ++ (wCk tc a4 g4 (a3 0) (a5 0) ++ (wFa tc a5 u.2))))))) res) := by
  refine ofCU (by decide) (Nat.le_of_ble_eq_true rfl) ?_
  intro pr e s m args below meth c A Q ls H locs X hT hQ hD0 hP hS hl
  have hD : ∀ z0 z1 z2 z3 z4 z5, va_D A (wPU tc a0 z0 q0_0 (a1 0) q0_2 q0_3 q0_4 (a3 0) (a4 0) q0_7 q0_8 q0_9 q0_10 q0_13 ++ (wSt tc a1 z1 none (a2 0) ++ (wLg tc a2 z2 ++ (wHd tc a3 z3 ++ (wCk tc a4 z4 (a3 0) (a5 0) ++ (wFa tc a5 z5)))))) := fun z0 z1 z2 z3 z4 z5 => D_fst (ws := (wPU tc a0 g0 q0_0 (a1 0) q0_2 q0_3 q0_4 (a3 0) (a4 0) q0_7 q0_8 q0_9 q0_10 q0_13 ++ (wSt tc a1 g1 none (a2 0) ++ (wLg tc a2 g2 ++ (wHd tc a3 g3 ++ (wCk tc a4 g4 (a3 0) (a5 0) ++ (wFa tc a5 g5))))))) rfl hD0
  have hl : lv_has ls 3 [(0, .ref (a0 0)), (1, .int x1), (2, .int x2)] := hl
  unfold f_X11_slips_n at h
  refine lv_aload_n X.1 X.2.1 dX11_slips_0 rfl (lv_at hl 0 rfl) ?_
  refine lv_iload_n X.1 X.2.1 dX11_slips_1 rfl (lv_at hl 1 rfl) ?_
  obtain ⟨ex_1, hc_1, h1_1, h2_1⟩ := lr_el h
  rcases ex_1 with e_1 | r_1
  · exact callU_t (ws := (wPU tc a0 g0 q0_0 (a1 0) q0_2 q0_3 q0_4 (a3 0) (a4 0) q0_7 q0_8 q0_9 q0_10 q0_13 ++ (wSt tc a1 g1 none (a2 0) ++ (wLg tc a2 g2 ++ (wHd tc a3 g3 ++ (wCk tc a4 g4 (a3 0) (a5 0) ++ (wFa tc a5 g5))))))) (ws' := (wPU tc a0 g0 q0_0 (a1 0) q0_2 q0_3 q0_4 (a3 0) (a4 0) q0_7 q0_8 q0_9 q0_10 q0_13 ++ (wSt tc a1 g1 none (a2 0) ++ (wLg tc a2 g2 ++ (wHd tc a3 g3 ++ (wCk tc a4 g4 (a3 0) (a5 0) ++ (wFa tc a5 g5))))))) (wr := (wLg tc a2 g2 ++ (wHd tc a3 g3 ++ (wCk tc a4 g4 (a3 0) (a5 0) ++ (wFa tc a5 g5))))) [0, 1, 2, 3, 4, 5, 6, 7, 8, 9, 10] [11, 12, 13, 14, 15, 16, 17, 18, 19] [9, 10, 11, 12, 13, 14, 15, 16, 17, 18, 19, 0, 1, 2, 3, 4, 5, 6, 7, 8] (As := [.int x1]) (rest := []) none rfl (oUi (fun u (_ : Option Nat) => (wPU tc a0 g0 q0_0 (a1 0) q0_2 q0_3 q0_4 (a3 0) (a4 0) q0_7 q0_8 q0_9 q0_10 q0_13 ++ (wSt tc a1 g1 none (a2 0) ++ (wLg tc a2 g2 ++ (wHd tc a3 u.1 ++ (wCk tc a4 g4 (a3 0) (a5 0) ++ (wFa tc a5 u.2))))))) (h1_1 _ rfl)) X hT hQ (c_X11_needWriter l hst dC dI sk sv tc a0 q0_0 q0_2 q0_3 q0_4 (a3 0) (a4 0) q0_7 q0_8 q0_9 q0_10 q0_13 a1 none (a2 0) g0 g1 x1 hc_1) mw_5_38 mw_5_40 mp_1_6 mw_1_1 mw_5_41 dc_X11_needWriter ⟨Nat.le_of_ble_eq_true rfl, Nat.le_of_ble_eq_true rfl⟩ rfl rfl ⟨Nat.le_of_ble_eq_true rfl, Nat.le_of_ble_eq_true rfl⟩ ⟨rfl, rfl, rfl, rfl, by decide, rfl, rfl⟩ hP (hD _ _ _ _ _ _) hS 0 rfl rfl rfl hl.1 (Nat.le_of_ble_eq_true rfl) dX11_slips_2 (Nat.le_of_ble_eq_true rfl) (Nat.le_of_ble_eq_true rfl)
  have h := h2_1 _ rfl
  refine callU_n (ws := (wPU tc a0 g0 q0_0 (a1 0) q0_2 q0_3 q0_4 (a3 0) (a4 0) q0_7 q0_8 q0_9 q0_10 q0_13 ++ (wSt tc a1 g1 none (a2 0) ++ (wLg tc a2 g2 ++ (wHd tc a3 g3 ++ (wCk tc a4 g4 (a3 0) (a5 0) ++ (wFa tc a5 g5))))))) (ws' := (wPU tc a0 g0 q0_0 (a1 0) q0_2 q0_3 q0_4 (a3 0) (a4 0) q0_7 q0_8 q0_9 q0_10 q0_13 ++ (wSt tc a1 g1 none (a2 0) ++ (wLg tc a2 g2 ++ (wHd tc a3 g3 ++ (wCk tc a4 g4 (a3 0) (a5 0) ++ (wFa tc a5 g5))))))) (wr := (wLg tc a2 g2 ++ (wHd tc a3 g3 ++ (wCk tc a4 g4 (a3 0) (a5 0) ++ (wFa tc a5 g5))))) [0, 1, 2, 3, 4, 5, 6, 7, 8, 9, 10] [11, 12, 13, 14, 15, 16, 17, 18, 19] [9, 10, 11, 12, 13, 14, 15, 16, 17, 18, 19, 0, 1, 2, 3, 4, 5, 6, 7, 8] (As := [.int x1]) (rest := []) X (c_X11_needWriter l hst dC dI sk sv tc a0 q0_0 q0_2 q0_3 q0_4 (a3 0) (a4 0) q0_7 q0_8 q0_9 q0_10 q0_13 a1 none (a2 0) g0 g1 x1 hc_1) mw_5_38 mw_5_40 mp_1_6 mw_1_1 mw_5_41 dc_X11_needWriter ⟨Nat.le_of_ble_eq_true rfl, Nat.le_of_ble_eq_true rfl⟩ rfl rfl ⟨Nat.le_of_ble_eq_true rfl, Nat.le_of_ble_eq_true rfl⟩ ⟨rfl, rfl, rfl, rfl, by decide, rfl, rfl⟩ hP (hD _ _ _ _ _ _) hS 0 rfl rfl rfl hl.1 (Nat.le_of_ble_eq_true rfl) dX11_slips_2 (fun H locs hP hS => ?_)
  refine W.eq (g2 := F0 m 5 ls []) rfl ?_
  refine lv_aload_n X.1 X.2.1 dX11_slips_5 rfl (lv_at hl 0 rfl) ?_
  refine lv_iload_n X.1 X.2.1 dX11_slips_6 rfl (lv_at hl 2 rfl) ?_
  obtain ⟨ex_2, hc_2, h1_2, h2_2⟩ := lr_el h
  rcases ex_2 with e_2 | r_2
  · exact callU_t (ws := (wPU tc a0 g0 q0_0 (a1 0) q0_2 q0_3 q0_4 (a3 0) (a4 0) q0_7 q0_8 q0_9 q0_10 q0_13 ++ (wSt tc a1 g1 none (a2 0) ++ (wLg tc a2 g2 ++ (wHd tc a3 g3 ++ (wCk tc a4 g4 (a3 0) (a5 0) ++ (wFa tc a5 g5))))))) (ws' := (wPU tc a0 g0 q0_0 (a1 0) q0_2 q0_3 q0_4 (a3 0) (a4 0) q0_7 q0_8 q0_9 q0_10 q0_13 ++ (wSt tc a1 g1 none (a2 0) ++ (wLg tc a2 g2 ++ (wHd tc a3 g3 ++ (wCk tc a4 g4 (a3 0) (a5 0) ++ (wFa tc a5 g5))))))) (wr := (wLg tc a2 g2 ++ (wHd tc a3 g3 ++ (wCk tc a4 g4 (a3 0) (a5 0) ++ (wFa tc a5 g5))))) [0, 1, 2, 3, 4, 5, 6, 7, 8, 9, 10] [11, 12, 13, 14, 15, 16, 17, 18, 19] [9, 10, 11, 12, 13, 14, 15, 16, 17, 18, 19, 0, 1, 2, 3, 4, 5, 6, 7, 8] (As := [.int x2]) (rest := []) none rfl (oUi (fun u (_ : Option Nat) => (wPU tc a0 g0 q0_0 (a1 0) q0_2 q0_3 q0_4 (a3 0) (a4 0) q0_7 q0_8 q0_9 q0_10 q0_13 ++ (wSt tc a1 g1 none (a2 0) ++ (wLg tc a2 g2 ++ (wHd tc a3 u.1 ++ (wCk tc a4 g4 (a3 0) (a5 0) ++ (wFa tc a5 u.2))))))) (h1_2 _ rfl)) X hT hQ (c_X11_needWord l hst dC dI sk sv tc a0 q0_0 q0_2 q0_3 q0_4 (a3 0) (a4 0) q0_7 q0_8 q0_9 q0_10 q0_13 a1 none (a2 0) g0 g1 x2 hc_2) mw_4_210 mw_4_212 mp_1_5 mw_1_1 mw_4_213 dc_X11_needWord ⟨Nat.le_of_ble_eq_true rfl, Nat.le_of_ble_eq_true rfl⟩ rfl rfl ⟨Nat.le_of_ble_eq_true rfl, Nat.le_of_ble_eq_true rfl⟩ ⟨rfl, rfl, rfl, rfl, by decide, rfl, rfl⟩ hP (hD _ _ _ _ _ _) hS 0 rfl rfl rfl hl.1 (Nat.le_of_ble_eq_true rfl) dX11_slips_7 (Nat.le_of_ble_eq_true rfl) (Nat.le_of_ble_eq_true rfl)
  have h := h2_2 _ rfl
  refine callU_n (ws := (wPU tc a0 g0 q0_0 (a1 0) q0_2 q0_3 q0_4 (a3 0) (a4 0) q0_7 q0_8 q0_9 q0_10 q0_13 ++ (wSt tc a1 g1 none (a2 0) ++ (wLg tc a2 g2 ++ (wHd tc a3 g3 ++ (wCk tc a4 g4 (a3 0) (a5 0) ++ (wFa tc a5 g5))))))) (ws' := (wPU tc a0 g0 q0_0 (a1 0) q0_2 q0_3 q0_4 (a3 0) (a4 0) q0_7 q0_8 q0_9 q0_10 q0_13 ++ (wSt tc a1 g1 none (a2 0) ++ (wLg tc a2 g2 ++ (wHd tc a3 g3 ++ (wCk tc a4 g4 (a3 0) (a5 0) ++ (wFa tc a5 g5))))))) (wr := (wLg tc a2 g2 ++ (wHd tc a3 g3 ++ (wCk tc a4 g4 (a3 0) (a5 0) ++ (wFa tc a5 g5))))) [0, 1, 2, 3, 4, 5, 6, 7, 8, 9, 10] [11, 12, 13, 14, 15, 16, 17, 18, 19] [9, 10, 11, 12, 13, 14, 15, 16, 17, 18, 19, 0, 1, 2, 3, 4, 5, 6, 7, 8] (As := [.int x2]) (rest := []) X (c_X11_needWord l hst dC dI sk sv tc a0 q0_0 q0_2 q0_3 q0_4 (a3 0) (a4 0) q0_7 q0_8 q0_9 q0_10 q0_13 a1 none (a2 0) g0 g1 x2 hc_2) mw_4_210 mw_4_212 mp_1_5 mw_1_1 mw_4_213 dc_X11_needWord ⟨Nat.le_of_ble_eq_true rfl, Nat.le_of_ble_eq_true rfl⟩ rfl rfl ⟨Nat.le_of_ble_eq_true rfl, Nat.le_of_ble_eq_true rfl⟩ ⟨rfl, rfl, rfl, rfl, by decide, rfl, rfl⟩ hP (hD _ _ _ _ _ _) hS 0 rfl rfl rfl hl.1 (Nat.le_of_ble_eq_true rfl) dX11_slips_7 (fun H locs hP hS => ?_)
  refine W.eq (g2 := F0 m 10 ls []) rfl ?_
  refine lv_aload_n X.1 X.2.1 dX11_slips_10 rfl (lv_at hl 0 rfl) ?_
  refine r_get (C := RX11) (T := TX11) (N := 15) (ci := 11) (v := .ref (a4 0)) X iw11 hP 0 rfl rfl 6 rfl mw_2_149 rfl dX11_slips_11 ?_
  refine lv_aload_n X.1 X.2.1 dX11_slips_14 rfl (lv_at hl 0 rfl) ?_
  refine r_get (C := RX11) (T := TX11) (N := 15) (ci := 11) (v := .ref (a1 0)) X iw11 hP 0 rfl rfl 1 rfl mw_2_144 rfl dX11_slips_15 ?_
  refine lv_iload_n X.1 X.2.1 dX11_slips_18 rfl (lv_at hl 1 rfl) ?_
  refine lv_iload_n X.1 X.2.1 dX11_slips_19 rfl (lv_at hl 2 rfl) ?_
  obtain ⟨g5_3, g3_3, hc_3, h⟩ := bd2_el h
  refine call_Q (ws := (wPU tc a0 g0 q0_0 (a1 0) q0_2 q0_3 q0_4 (a3 0) (a4 0) q0_7 q0_8 q0_9 q0_10 q0_13 ++ (wSt tc a1 g1 none (a2 0) ++ (wLg tc a2 g2 ++ (wHd tc a3 g3 ++ (wCk tc a4 g4 (a3 0) (a5 0) ++ (wFa tc a5 g5))))))) (ws' := (wPU tc a0 g0 q0_0 (a1 0) q0_2 q0_3 q0_4 (a3 0) (a4 0) q0_7 q0_8 q0_9 q0_10 q0_13 ++ (wSt tc a1 g1 none (a2 0) ++ (wLg tc a2 g2 ++ (wHd tc a3 g3_3 ++ (wCk tc a4 g4 (a3 0) (a5 0) ++ (wFa tc a5 g5_3))))))) (wr := (wPU tc a0 g0 q0_0 (a1 0) q0_2 q0_3 q0_4 (a3 0) (a4 0) q0_7 q0_8 q0_9 q0_10 q0_13)) [18, 19, 13, 14, 15, 16, 17, 1, 2, 3, 4, 5, 6, 7, 8, 9, 10, 11, 12] [0] [0, 8, 9, 10, 11, 12, 13, 14, 15, 16, 17, 18, 19, 3, 4, 5, 6, 7, 1, 2] (As := [.ref (a1 0), .int x1, .int x2]) (rest := []) X (c_X0_observe_n l dC dI sk sv tc a4 a5 a3 a1 a2 g4 g5 g3 g1 g2 x1 x2 hc_3) mw_5_153 mw_5_154 mw_5_155 mw_1_8 mw_5_156 dc_X0_observe ⟨Nat.le_of_ble_eq_true rfl, Nat.le_of_ble_eq_true rfl⟩ rfl rfl ⟨Nat.le_of_ble_eq_true rfl, Nat.le_of_ble_eq_true rfl⟩ ⟨rfl, rfl, rfl, rfl, by decide, rfl, rfl⟩ hP (hD _ _ _ _ _ _) hS 0 rfl rfl rfl hl.1 (Nat.le_of_ble_eq_true rfl) dX11_slips_20 (fun H locs hP hS => ?_)
  refine W.eq (g2 := F0 m 23 ls []) rfl ?_
  refine lv_aload_n X.1 X.2.1 dX11_slips_23 rfl (lv_at hl 0 rfl) ?_
  refine r_get (C := RX11) (T := TX11) (N := 15) (ci := 11) (v := .ref (a4 0)) X iw11 hP 0 rfl rfl 6 rfl mw_2_149 rfl dX11_slips_24 ?_
  refine lv_aload_n X.1 X.2.1 dX11_slips_27 rfl (lv_at hl 0 rfl) ?_
  refine r_get (C := RX11) (T := TX11) (N := 15) (ci := 11) (v := .ref (a1 0)) X iw11 hP 0 rfl rfl 1 rfl mw_2_144 rfl dX11_slips_28 ?_
  obtain ⟨r_4, hc_4, h⟩ := bd_el h
  refine call_Q (ws := (wPU tc a0 g0 q0_0 (a1 0) q0_2 q0_3 q0_4 (a3 0) (a4 0) q0_7 q0_8 q0_9 q0_10 q0_13 ++ (wSt tc a1 g1 none (a2 0) ++ (wLg tc a2 g2 ++ (wHd tc a3 g3_3 ++ (wCk tc a4 g4 (a3 0) (a5 0) ++ (wFa tc a5 g5_3))))))) (ws' := (wPU tc a0 g0 q0_0 (a1 0) q0_2 q0_3 q0_4 (a3 0) (a4 0) q0_7 q0_8 q0_9 q0_10 q0_13 ++ (wSt tc a1 g1 none (a2 0) ++ (wLg tc a2 g2 ++ (wHd tc a3 g3_3 ++ (wCk tc a4 g4 (a3 0) (a5 0) ++ (wFa tc a5 g5_3))))))) (wr := (wPU tc a0 g0 q0_0 (a1 0) q0_2 q0_3 q0_4 (a3 0) (a4 0) q0_7 q0_8 q0_9 q0_10 q0_13)) [18, 19, 13, 14, 15, 16, 17, 1, 2, 3, 4, 5, 6, 7, 8, 9, 10, 11, 12] [0] [0, 8, 9, 10, 11, 12, 13, 14, 15, 16, 17, 18, 19, 3, 4, 5, 6, 7, 1, 2] (As := [.ref (a1 0)]) (rest := []) X (c_X0_slipsOf_n l dC dI sk sv tc a4 a5 a3 a1 a2 g4 g5_3 g3_3 g1 g2 hc_4) mw_5_170 mw_5_171 mw_5_172 mw_1_8 mw_5_173 dc_X0_slipsOf ⟨Nat.le_of_ble_eq_true rfl, Nat.le_of_ble_eq_true rfl⟩ rfl rfl ⟨Nat.le_of_ble_eq_true rfl, Nat.le_of_ble_eq_true rfl⟩ ⟨rfl, rfl, rfl, rfl, by decide, rfl, rfl⟩ hP (hD _ _ _ _ _ _) hS 0 rfl rfl rfl hl.1 (Nat.le_of_ble_eq_true rfl) dX11_slips_31 (fun H locs hP hS => ?_)
  refine W.eq (g2 := F0 m 34 ls [.int r_4]) rfl ?_
  exact retU_i (fun u (_ : Option Nat) => (wPU tc a0 g0 q0_0 (a1 0) q0_2 q0_3 q0_4 (a3 0) (a4 0) q0_7 q0_8 q0_9 q0_10 q0_13 ++ (wSt tc a1 g1 none (a2 0) ++ (wLg tc a2 g2 ++ (wHd tc a3 u.1 ++ (wCk tc a4 g4 (a3 0) (a5 0) ++ (wFa tc a5 u.2))))))) none (Option.some.inj h) X hQ hP hS (Nat.le_of_ble_eq_true rfl) (Nat.le_of_ble_eq_true rfl) dX11_slips_34

def f_X11_slips_l (ln6 : Nat → Nat) (g0 : Pic) (g1 : Pic) (g2 : Pic) (g3 : Pic) (g4 : Pic) (g5 : Pic) (g6 : Pic) (x1 : Int32) (x2 : Int32) : Option ((Nat × (Pic × Pic × Pic)) ⊕ (Int32 × (Pic × Pic × Pic))) := lr (f_X11_needWriter g0 g1 x1) (fun e => .inl (e.1, (g3, g5, g6))) (fun _ => lr (f_X11_needWord g0 g1 x2) (fun e => .inl (e.1, (g3, g5, g6))) (fun _ => bd2 (f_X0_observe_l ln6 g4 g6 g5 g3 g1 g2 x1 x2) (fun g5_3 g3_3 => bd2 (f_X0_slipsOf_l ln6 g4 g6 g5_3 g3_3 g1 g2) (fun r_4 g6_4 => some (.inr (r_4, (g3_3, g5_3, g6_4)))))))
abbrev rm_X11_slips_l : Room := { frames := 7, cells := 2, slots := 12, locals := 141 }
set_option maxHeartbeats 4000000 in
set_option maxRecDepth 100000 in
theorem c_X11_slips_l (l : Launch) (hst : l.stackTraces = false) (dC : Nat → ClassId) (dI : Nat → Nat → Nat) (sk sv : Nat → Nat) (tc : Nat → ClassId) (ln6 : Nat → Nat) (a0 : Nat → Nat) (q0_0 : Nat) (q0_2 : Nat) (q0_3 : Nat) (q0_4 : Nat) (q0_7 : Nat) (q0_8 : Nat) (q0_9 : Nat) (q0_10 : Nat) (q0_13 : Option Nat) (a1 : Nat → Nat) (a2 : Nat → Nat) (a3 : Nat → Nat) (a4 : Nat → Nat) (a5 : Nat → Nat) (a6 : Nat → Nat) (g0 : Pic) (g1 : Pic) (g2 : Pic) (g3 : Pic) (g4 : Pic) (g5 : Pic) (g6 : Pic) (x1 : Int32) (x2 : Int32) {res : ((Nat × (Pic × Pic × Pic)) ⊕ (Int32 × (Pic × Pic × Pic)))} (h : f_X11_slips_l ln6 g0 g1 g2 g3 g4 g5 g6 x1 x2 = some res) : CU l (dC, dI) sk sv (TY tc) yX11_slips cX11_slips 3 (some .int) rm_X11_slips_l 2 12 [.ref (a0 0), .int x1, .int x2] (wPU tc a0 g0 q0_0 (a1 0) q0_2 q0_3 q0_4 (a3 0) (a4 0) q0_7 q0_8 q0_9 q0_10 q0_13 ++ (wSt tc a1 g1 (some (a6 0)) (a2 0) ++ (wLg tc a2 g2 ++ (wHd tc a3 g3 ++ (wCk tc a4 g4 (a3 0) (a5 0) ++ (wFa tc a5 g5 ++ (wLw tc a6 g6 ln6))))))) (oI (fun u (_ : Option Nat) => (wPU tc a0 g0 q0_0 (a1 0) q0_2 q0_3 q0_4 (a3 0) (a4 0) q0_7 q0_8 q0_9 q0_10 q0_13 ++ (wSt tc a1 g1 (some (a6 0)) (a2 0) ++ (wLg tc a2 g2 ++ (wHd tc a3 u.1 ++ (wCk tc a4 g4 (a3 0) (a5 0) ++ (wFa tc a5 u.2.1 ++ (wLw tc a6 u.2.2 ln6)))))))) res) := by
  refine ofCU (by decide) (Nat.le_of_ble_eq_true rfl) ?_
  intro pr e s m args below meth c A Q ls H locs X hT hQ hD0 hP hS hl
  have hD : ∀ z0 z1 z2 z3 z4 z5 z6, va_D A (wPU tc a0 z0 q0_0 (a1 0) q0_2 q0_3 q0_4 (a3 0) (a4 0) q0_7 q0_8 q0_9 q0_10 q0_13 ++ (wSt tc a1 z1 (some (a6 0)) (a2 0) ++ (wLg tc a2 z2 ++ (wHd tc a3 z3 ++ (wCk tc a4 z4 (a3 0) (a5 0) ++ (wFa tc a5 z5 ++ (wLw tc a6 z6 ln6))))))) := fun z0 z1 z2 z3 z4 z5 z6 => D_fst (ws := (wPU tc a0 g0 q0_0 (a1 0) q0_2 q0_3 q0_4 (a3 0) (a4 0) q0_7 q0_8 q0_9 q0_10 q0_13 ++ (wSt tc a1 g1 (some (a6 0)) (a2 0) ++ (wLg tc a2 g2 ++ (wHd tc a3 g3 ++ (wCk tc a4 g4 (a3 0) (a5 0) ++ (wFa tc a5 g5 ++ (wLw tc a6 g6 ln6)))))))) rfl hD0
  have hl : lv_has ls 3 [(0, .ref (a0 0)), (1, .int x1), (2, .int x2)] := hl
  unfold f_X11_slips_l at h
  refine lv_aload_n X.1 X.2.1 dX11_slips_0 rfl (lv_at hl 0 rfl) ?_
  refine lv_iload_n X.1 X.2.1 dX11_slips_1 rfl (lv_at hl 1 rfl) ?_
  obtain ⟨ex_1, hc_1, h1_1, h2_1⟩ := lr_el h
  rcases ex_1 with e_1 | r_1
  · exact callU_t (ws := (wPU tc a0 g0 q0_0 (a1 0) q0_2 q0_3 q0_4 (a3 0) (a4 0) q0_7 q0_8 q0_9 q0_10 q0_13 ++ (wSt tc a1 g1 (some (a6 0)) (a2 0) ++ (wLg tc a2 g2 ++ (wHd tc a3 g3 ++ (wCk tc a4 g4 (a3 0) (a5 0) ++ (wFa tc a5 g5 ++ (wLw tc a6 g6 ln6)))))))) (ws' := (wPU tc a0 g0 q0_0 (a1 0) q0_2 q0_3 q0_4 (a3 0) (a4 0) q0_7 q0_8 q0_9 q0_10 q0_13 ++ (wSt tc a1 g1 (some (a6 0)) (a2 0) ++ (wLg tc a2 g2 ++ (wHd tc a3 g3 ++ (wCk tc a4 g4 (a3 0) (a5 0) ++ (wFa tc a5 g5 ++ (wLw tc a6 g6 ln6)))))))) (wr := (wLg tc a2 g2 ++ (wHd tc a3 g3 ++ (wCk tc a4 g4 (a3 0) (a5 0) ++ (wFa tc a5 g5 ++ (wLw tc a6 g6 ln6)))))) [0, 1, 2, 3, 4, 5, 6, 7, 8, 9, 10] [11, 12, 13, 14, 15, 16, 17, 18, 19, 20, 21, 22, 23, 24, 25] [15, 16, 17, 18, 19, 20, 21, 22, 23, 24, 25, 0, 1, 2, 3, 4, 5, 6, 7, 8, 9, 10, 11, 12, 13, 14] (As := [.int x1]) (rest := []) none rfl (oUi (fun u (_ : Option Nat) => (wPU tc a0 g0 q0_0 (a1 0) q0_2 q0_3 q0_4 (a3 0) (a4 0) q0_7 q0_8 q0_9 q0_10 q0_13 ++ (wSt tc a1 g1 (some (a6 0)) (a2 0) ++ (wLg tc a2 g2 ++ (wHd tc a3 u.1 ++ (wCk tc a4 g4 (a3 0) (a5 0) ++ (wFa tc a5 u.2.1 ++ (wLw tc a6 u.2.2 ln6)))))))) (h1_1 _ rfl)) X hT hQ (c_X11_needWriter l hst dC dI sk sv tc a0 q0_0 q0_2 q0_3 q0_4 (a3 0) (a4 0) q0_7 q0_8 q0_9 q0_10 q0_13 a1 (some (a6 0)) (a2 0) g0 g1 x1 hc_1) mw_5_38 mw_5_40 mp_1_6 mw_1_1 mw_5_41 dc_X11_needWriter ⟨Nat.le_of_ble_eq_true rfl, Nat.le_of_ble_eq_true rfl⟩ rfl rfl ⟨Nat.le_of_ble_eq_true rfl, Nat.le_of_ble_eq_true rfl⟩ ⟨rfl, rfl, rfl, rfl, by decide, rfl, rfl⟩ hP (hD _ _ _ _ _ _ _) hS 0 rfl rfl rfl hl.1 (Nat.le_of_ble_eq_true rfl) dX11_slips_2 (Nat.le_of_ble_eq_true rfl) (Nat.le_of_ble_eq_true rfl)
  have h := h2_1 _ rfl
  refine callU_n (ws := (wPU tc a0 g0 q0_0 (a1 0) q0_2 q0_3 q0_4 (a3 0) (a4 0) q0_7 q0_8 q0_9 q0_10 q0_13 ++ (wSt tc a1 g1 (some (a6 0)) (a2 0) ++ (wLg tc a2 g2 ++ (wHd tc a3 g3 ++ (wCk tc a4 g4 (a3 0) (a5 0) ++ (wFa tc a5 g5 ++ (wLw tc a6 g6 ln6)))))))) (ws' := (wPU tc a0 g0 q0_0 (a1 0) q0_2 q0_3 q0_4 (a3 0) (a4 0) q0_7 q0_8 q0_9 q0_10 q0_13 ++ (wSt tc a1 g1 (some (a6 0)) (a2 0) ++ (wLg tc a2 g2 ++ (wHd tc a3 g3 ++ (wCk tc a4 g4 (a3 0) (a5 0) ++ (wFa tc a5 g5 ++ (wLw tc a6 g6 ln6)))))))) (wr := (wLg tc a2 g2 ++ (wHd tc a3 g3 ++ (wCk tc a4 g4 (a3 0) (a5 0) ++ (wFa tc a5 g5 ++ (wLw tc a6 g6 ln6)))))) [0, 1, 2, 3, 4, 5, 6, 7, 8, 9, 10] [11, 12, 13, 14, 15, 16, 17, 18, 19, 20, 21, 22, 23, 24, 25] [15, 16, 17, 18, 19, 20, 21, 22, 23, 24, 25, 0, 1, 2, 3, 4, 5, 6, 7, 8, 9, 10, 11, 12, 13, 14] (As := [.int x1]) (rest := []) X (c_X11_needWriter l hst dC dI sk sv tc a0 q0_0 q0_2 q0_3 q0_4 (a3 0) (a4 0) q0_7 q0_8 q0_9 q0_10 q0_13 a1 (some (a6 0)) (a2 0) g0 g1 x1 hc_1) mw_5_38 mw_5_40 mp_1_6 mw_1_1 mw_5_41 dc_X11_needWriter ⟨Nat.le_of_ble_eq_true rfl, Nat.le_of_ble_eq_true rfl⟩ rfl rfl ⟨Nat.le_of_ble_eq_true rfl, Nat.le_of_ble_eq_true rfl⟩ ⟨rfl, rfl, rfl, rfl, by decide, rfl, rfl⟩ hP (hD _ _ _ _ _ _ _) hS 0 rfl rfl rfl hl.1 (Nat.le_of_ble_eq_true rfl) dX11_slips_2 (fun H locs hP hS => ?_)
  refine W.eq (g2 := F0 m 5 ls []) rfl ?_
  refine lv_aload_n X.1 X.2.1 dX11_slips_5 rfl (lv_at hl 0 rfl) ?_
  refine lv_iload_n X.1 X.2.1 dX11_slips_6 rfl (lv_at hl 2 rfl) ?_
  obtain ⟨ex_2, hc_2, h1_2, h2_2⟩ := lr_el h
  rcases ex_2 with e_2 | r_2
  · exact callU_t (ws := (wPU tc a0 g0 q0_0 (a1 0) q0_2 q0_3 q0_4 (a3 0) (a4 0) q0_7 q0_8 q0_9 q0_10 q0_13 ++ (wSt tc a1 g1 (some (a6 0)) (a2 0) ++ (wLg tc a2 g2 ++ (wHd tc a3 g3 ++ (wCk tc a4 g4 (a3 0) (a5 0) ++ (wFa tc a5 g5 ++ (wLw tc a6 g6 ln6)))))))) (ws' := (wPU tc a0 g0 q0_0 (a1 0) q0_2 q0_3 q0_4 (a3 0) (a4 0) q0_7 q0_8 q0_9 q0_10 q0_13 ++ (wSt tc a1 g1 (some (a6 0)) (a2 0) ++ (wLg tc a2 g2 ++ (wHd tc a3 g3 ++ (wCk tc a4 g4 (a3 0) (a5 0) ++ (wFa tc a5 g5 ++ (wLw tc a6 g6 ln6)))))))) (wr := (wLg tc a2 g2 ++ (wHd tc a3 g3 ++ (wCk tc a4 g4 (a3 0) (a5 0) ++ (wFa tc a5 g5 ++ (wLw tc a6 g6 ln6)))))) [0, 1, 2, 3, 4, 5, 6, 7, 8, 9, 10] [11, 12, 13, 14, 15, 16, 17, 18, 19, 20, 21, 22, 23, 24, 25] [15, 16, 17, 18, 19, 20, 21, 22, 23, 24, 25, 0, 1, 2, 3, 4, 5, 6, 7, 8, 9, 10, 11, 12, 13, 14] (As := [.int x2]) (rest := []) none rfl (oUi (fun u (_ : Option Nat) => (wPU tc a0 g0 q0_0 (a1 0) q0_2 q0_3 q0_4 (a3 0) (a4 0) q0_7 q0_8 q0_9 q0_10 q0_13 ++ (wSt tc a1 g1 (some (a6 0)) (a2 0) ++ (wLg tc a2 g2 ++ (wHd tc a3 u.1 ++ (wCk tc a4 g4 (a3 0) (a5 0) ++ (wFa tc a5 u.2.1 ++ (wLw tc a6 u.2.2 ln6)))))))) (h1_2 _ rfl)) X hT hQ (c_X11_needWord l hst dC dI sk sv tc a0 q0_0 q0_2 q0_3 q0_4 (a3 0) (a4 0) q0_7 q0_8 q0_9 q0_10 q0_13 a1 (some (a6 0)) (a2 0) g0 g1 x2 hc_2) mw_4_210 mw_4_212 mp_1_5 mw_1_1 mw_4_213 dc_X11_needWord ⟨Nat.le_of_ble_eq_true rfl, Nat.le_of_ble_eq_true rfl⟩ rfl rfl ⟨Nat.le_of_ble_eq_true rfl, Nat.le_of_ble_eq_true rfl⟩ ⟨rfl, rfl, rfl, rfl, by decide, rfl, rfl⟩ hP (hD _ _ _ _ _ _ _) hS 0 rfl rfl rfl hl.1 (Nat.le_of_ble_eq_true rfl) dX11_slips_7 (Nat.le_of_ble_eq_true rfl) (Nat.le_of_ble_eq_true rfl)
  have h := h2_2 _ rfl
  refine callU_n (ws := (wPU tc a0 g0 q0_0 (a1 0) q0_2 q0_3 q0_4 (a3 0) (a4 0) q0_7 q0_8 q0_9 q0_10 q0_13 ++ (wSt tc a1 g1 (some (a6 0)) (a2 0) ++ (wLg tc a2 g2 ++ (wHd tc a3 g3 ++ (wCk tc a4 g4 (a3 0) (a5 0) ++ (wFa tc a5 g5 ++ (wLw tc a6 g6 ln6)))))))) (ws' := (wPU tc a0 g0 q0_0 (a1 0) q0_2 q0_3 q0_4 (a3 0) (a4 0) q0_7 q0_8 q0_9 q0_10 q0_13 ++ (wSt tc a1 g1 (some (a6 0)) (a2 0) ++ (wLg tc a2 g2 ++ (wHd tc a3 g3 ++ (wCk tc a4 g4 (a3 0) (a5 0) ++ (wFa tc a5 g5 ++ (wLw tc a6 g6 ln6)))))))) (wr := (wLg tc a2 g2 ++ (wHd tc a3 g3 ++ (wCk tc a4 g4 (a3 0) (a5 0) ++ (wFa tc a5 g5 ++ (wLw tc a6 g6 ln6)))))) [0, 1, 2, 3, 4, 5, 6, 7, 8, 9, 10] [11, 12, 13, 14, 15, 16, 17, 18, 19, 20, 21, 22, 23, 24, 25] [15, 16, 17, 18, 19, 20, 21, 22, 23, 24, 25, 0, 1, 2, 3, 4, 5, 6, 7, 8, 9, 10, 11, 12, 13, 14] (As := [.int x2]) (rest := []) X (c_X11_needWord l hst dC dI sk sv tc a0 q0_0 q0_2 q0_3 q0_4 (a3 0) (a4 0) q0_7 q0_8 q0_9 q0_10 q0_13 a1 (some (a6 0)) (a2 0) g0 g1 x2 hc_2) mw_4_210 mw_4_212 mp_1_5 mw_1_1 mw_4_213 dc_X11_needWord ⟨Nat.le_of_ble_eq_true rfl, Nat.le_of_ble_eq_true rfl⟩ rfl rfl ⟨Nat.le_of_ble_eq_true rfl, Nat.le_of_ble_eq_true rfl⟩ ⟨rfl, rfl, rfl, rfl, by decide, rfl, rfl⟩ hP (hD _ _ _ _ _ _ _) hS 0 rfl rfl rfl hl.1 (Nat.le_of_ble_eq_true rfl) dX11_slips_7 (fun H locs hP hS => ?_)
  refine W.eq (g2 := F0 m 10 ls []) rfl ?_
  refine lv_aload_n X.1 X.2.1 dX11_slips_10 rfl (lv_at hl 0 rfl) ?_
  refine r_get (C := RX11) (T := TX11) (N := 15) (ci := 11) (v := .ref (a4 0)) X iw11 hP 0 rfl rfl 6 rfl mw_2_149 rfl dX11_slips_11 ?_
  refine lv_aload_n X.1 X.2.1 dX11_slips_14 rfl (lv_at hl 0 rfl) ?_
  refine r_get (C := RX11) (T := TX11) (N := 15) (ci := 11) (v := .ref (a1 0)) X iw11 hP 0 rfl rfl 1 rfl mw_2_144 rfl dX11_slips_15 ?_
  refine lv_iload_n X.1 X.2.1 dX11_slips_18 rfl (lv_at hl 1 rfl) ?_
  refine lv_iload_n X.1 X.2.1 dX11_slips_19 rfl (lv_at hl 2 rfl) ?_
  obtain ⟨g5_3, g3_3, hc_3, h⟩ := bd2_el h
  refine call_Q (ws := (wPU tc a0 g0 q0_0 (a1 0) q0_2 q0_3 q0_4 (a3 0) (a4 0) q0_7 q0_8 q0_9 q0_10 q0_13 ++ (wSt tc a1 g1 (some (a6 0)) (a2 0) ++ (wLg tc a2 g2 ++ (wHd tc a3 g3 ++ (wCk tc a4 g4 (a3 0) (a5 0) ++ (wFa tc a5 g5 ++ (wLw tc a6 g6 ln6)))))))) (ws' := (wPU tc a0 g0 q0_0 (a1 0) q0_2 q0_3 q0_4 (a3 0) (a4 0) q0_7 q0_8 q0_9 q0_10 q0_13 ++ (wSt tc a1 g1 (some (a6 0)) (a2 0) ++ (wLg tc a2 g2 ++ (wHd tc a3 g3_3 ++ (wCk tc a4 g4 (a3 0) (a5 0) ++ (wFa tc a5 g5_3 ++ (wLw tc a6 g6 ln6)))))))) (wr := (wPU tc a0 g0 q0_0 (a1 0) q0_2 q0_3 q0_4 (a3 0) (a4 0) q0_7 q0_8 q0_9 q0_10 q0_13)) [18, 20, 21, 22, 23, 24, 25, 19, 13, 14, 15, 16, 17, 1, 2, 3, 4, 5, 6, 7, 8, 9, 10, 11, 12] [0] [0, 14, 15, 16, 17, 18, 19, 20, 21, 22, 23, 24, 25, 9, 10, 11, 12, 13, 1, 8, 2, 3, 4, 5, 6, 7] (As := [.ref (a1 0), .int x1, .int x2]) (rest := []) X (c_X0_observe_l l dC dI sk sv tc ln6 a4 a6 a5 a3 a1 a2 g4 g6 g5 g3 g1 g2 x1 x2 hc_3) mw_5_153 mw_5_154 mw_5_155 mw_1_8 mw_5_156 dc_X0_observe ⟨Nat.le_of_ble_eq_true rfl, Nat.le_of_ble_eq_true rfl⟩ rfl rfl ⟨Nat.le_of_ble_eq_true rfl, Nat.le_of_ble_eq_true rfl⟩ ⟨rfl, rfl, rfl, rfl, by decide, rfl, rfl⟩ hP (hD _ _ _ _ _ _ _) hS 0 rfl rfl rfl hl.1 (Nat.le_of_ble_eq_true rfl) dX11_slips_20 (fun H locs hP hS => ?_)
  refine W.eq (g2 := F0 m 23 ls []) rfl ?_
  refine lv_aload_n X.1 X.2.1 dX11_slips_23 rfl (lv_at hl 0 rfl) ?_
  refine r_get (C := RX11) (T := TX11) (N := 15) (ci := 11) (v := .ref (a4 0)) X iw11 hP 0 rfl rfl 6 rfl mw_2_149 rfl dX11_slips_24 ?_
  refine lv_aload_n X.1 X.2.1 dX11_slips_27 rfl (lv_at hl 0 rfl) ?_
  refine r_get (C := RX11) (T := TX11) (N := 15) (ci := 11) (v := .ref (a1 0)) X iw11 hP 0 rfl rfl 1 rfl mw_2_144 rfl dX11_slips_28 ?_
  obtain ⟨r_4, g6_4, hc_4, h⟩ := bd2_el h
  refine call_Q (ws := (wPU tc a0 g0 q0_0 (a1 0) q0_2 q0_3 q0_4 (a3 0) (a4 0) q0_7 q0_8 q0_9 q0_10 q0_13 ++ (wSt tc a1 g1 (some (a6 0)) (a2 0) ++ (wLg tc a2 g2 ++ (wHd tc a3 g3_3 ++ (wCk tc a4 g4 (a3 0) (a5 0) ++ (wFa tc a5 g5_3 ++ (wLw tc a6 g6 ln6)))))))) (ws' := (wPU tc a0 g0 q0_0 (a1 0) q0_2 q0_3 q0_4 (a3 0) (a4 0) q0_7 q0_8 q0_9 q0_10 q0_13 ++ (wSt tc a1 g1 (some (a6 0)) (a2 0) ++ (wLg tc a2 g2 ++ (wHd tc a3 g3_3 ++ (wCk tc a4 g4 (a3 0) (a5 0) ++ (wFa tc a5 g5_3 ++ (wLw tc a6 g6_4 ln6)))))))) (wr := (wPU tc a0 g0 q0_0 (a1 0) q0_2 q0_3 q0_4 (a3 0) (a4 0) q0_7 q0_8 q0_9 q0_10 q0_13)) [18, 20, 21, 22, 23, 24, 25, 19, 13, 14, 15, 16, 17, 1, 2, 3, 4, 5, 6, 7, 8, 9, 10, 11, 12] [0] [0, 14, 15, 16, 17, 18, 19, 20, 21, 22, 23, 24, 25, 9, 10, 11, 12, 13, 1, 8, 2, 3, 4, 5, 6, 7] (As := [.ref (a1 0)]) (rest := []) X (c_X0_slipsOf_l l dC dI sk sv tc ln6 a4 a6 a5 a3 a1 a2 g4 g6 g5_3 g3_3 g1 g2 hc_4) mw_5_170 mw_5_171 mw_5_172 mw_1_8 mw_5_173 dc_X0_slipsOf ⟨Nat.le_of_ble_eq_true rfl, Nat.le_of_ble_eq_true rfl⟩ rfl rfl ⟨Nat.le_of_ble_eq_true rfl, Nat.le_of_ble_eq_true rfl⟩ ⟨rfl, rfl, rfl, rfl, by decide, rfl, rfl⟩ hP (hD _ _ _ _ _ _ _) hS 0 rfl rfl rfl hl.1 (Nat.le_of_ble_eq_true rfl) dX11_slips_31 (fun H locs hP hS => ?_)
  refine W.eq (g2 := F0 m 34 ls [.int r_4]) rfl ?_
  exact retU_i (fun u (_ : Option Nat) => (wPU tc a0 g0 q0_0 (a1 0) q0_2 q0_3 q0_4 (a3 0) (a4 0) q0_7 q0_8 q0_9 q0_10 q0_13 ++ (wSt tc a1 g1 (some (a6 0)) (a2 0) ++ (wLg tc a2 g2 ++ (wHd tc a3 u.1 ++ (wCk tc a4 g4 (a3 0) (a5 0) ++ (wFa tc a5 u.2.1 ++ (wLw tc a6 u.2.2 ln6)))))))) none (Option.some.inj h) X hQ hP hS (Nat.le_of_ble_eq_true rfl) (Nat.le_of_ble_eq_true rfl) dX11_slips_34

def f_X11_keep_L7 (g0 : Pic) (g1 : Pic) (n : Nat) (a : Int32 × Int32 × Int32 × Pic) : Option (Int32 × Pic) := lp (fun (rec : Int32 × Int32 × Int32 × Pic → Option (Int32 × Pic)) (a : Int32 × Int32 × Int32 × Pic) => match a with | (x1, x2, x3, g2) => (if 256 ≤ x3 then some (x1, g2) else bd (f_J6_bitCount_0f7a4 x3) (fun r_1 => jn (fun (x1_J55 : Int32) (x2_J55 : Int32) (g2_J55 : Pic) => nm (x3 + 1) (fun x3_2 => rec (x1_J55, x2_J55, x3_2, g2_J55))) (fun J55 => (if x2 ≤ r_1 then J55 x1 x2 g2 else bd (f_X3_take g2 g1 (255 - x3)) (fun g2_3 => bd (f_X3_allDiffer g2_3) (fun r_4 => (if r_4 = 0 then J55 x1 x2 g2_3 else bd (f_J6_bitCount_0f7a4 x3) (fun r_5 => J55 x3 r_5 g2_3))))))))) n a
def f_X11_keep (g0 : Pic) (g1 : Pic) (g2 : Pic) : Option (Int32 × Pic) := bd (f_X11_keep_L7 g0 g1 fu ((-1), 9, 0, g2)) (fun (x1_6, g2_6) => some (x1_6, g2_6))
abbrev rm_X11_keep : Room := { frames := 2, cells := 0, slots := 0, locals := 44 }
set_option maxHeartbeats 4000000 in
set_option maxRecDepth 100000 in
theorem c_X11_keep (l : Launch) (dC : Nat → ClassId) (dI : Nat → Nat → Nat) (sk sv : Nat → Nat) (tc : Nat → ClassId) (a0 : Nat → Nat) (q0_0 : Nat) (q0_2 : Nat) (q0_3 : Nat) (q0_4 : Nat) (q0_6 : Nat) (q0_7 : Nat) (q0_8 : Nat) (q0_9 : Nat) (q0_10 : Nat) (q0_13 : Option Nat) (a1 : Nat → Nat) (q1_18 : Option Nat) (q1_19 : Nat) (a2 : Nat → Nat) (g0 : Pic) (g1 : Pic) (g2 : Pic) {r0 : Int32} {G2 : Pic} (h : f_X11_keep g0 g1 g2 = some (r0, G2)) : CT l (dC, dI) sk sv (TY tc) yX11_keep cX11_keep 4 (some .int) rm_X11_keep [.ref (a0 0)] (wPU tc a0 g0 q0_0 (a1 0) q0_2 q0_3 q0_4 (a2 0) q0_6 q0_7 q0_8 q0_9 q0_10 q0_13 ++ (wSt tc a1 g1 q1_18 q1_19 ++ (wHd tc a2 g2))) (some (.int r0)) (wPU tc a0 g0 q0_0 (a1 0) q0_2 q0_3 q0_4 (a2 0) q0_6 q0_7 q0_8 q0_9 q0_10 q0_13 ++ (wSt tc a1 g1 q1_18 q1_19 ++ (wHd tc a2 G2))) := by
  refine ofCT (by decide) (Nat.le_of_ble_eq_true rfl) ?_
  intro pr e s m args below meth c A Q ls H locs X hQ hD0 hP hS hl
  have hD : ∀ z0 z1 z2, va_D A (wPU tc a0 z0 q0_0 (a1 0) q0_2 q0_3 q0_4 (a2 0) q0_6 q0_7 q0_8 q0_9 q0_10 q0_13 ++ (wSt tc a1 z1 q1_18 q1_19 ++ (wHd tc a2 z2))) := fun z0 z1 z2 => D_fst (ws := (wPU tc a0 g0 q0_0 (a1 0) q0_2 q0_3 q0_4 (a2 0) q0_6 q0_7 q0_8 q0_9 q0_10 q0_13 ++ (wSt tc a1 g1 q1_18 q1_19 ++ (wHd tc a2 g2)))) rfl hD0
  have hl : lv_has ls 4 [(0, .ref (a0 0))] := hl
  have HL7 : ∀ (n : Nat) (x1 : Int32) (x2 : Int32) (x3 : Int32) (g2 : Pic) (ex : (Int32 × Pic)), f_X11_keep_L7 g0 g1 n (x1, x2, x3, g2) = some ex → ∀ (H : Heap) (locs : List Loc) (ls : Array Slot), va_P (dC, dI) vwCl (wPU tc a0 g0 q0_0 (a1 0) q0_2 q0_3 q0_4 (a2 0) q0_6 q0_7 q0_8 q0_9 q0_10 q0_13 ++ (wSt tc a1 g1 q1_18 q1_19 ++ (wHd tc a2 g2))) H → va_S A s.heap H locs → lv_has ls 4 [(0, .ref (a0 0)), (1, .int x1), (2, .int x2), (3, .int x3)] → (∀ (y1 : Int32) (k2 : Pic), (y1, k2) = ex → ∀ (H : Heap) (locs : List Loc) (ls : Array Slot), va_P (dC, dI) vwCl (wPU tc a0 g0 q0_0 (a1 0) q0_2 q0_3 q0_4 (a2 0) q0_6 q0_7 q0_8 q0_9 q0_10 q0_13 ++ (wSt tc a1 g1 q1_18 q1_19 ++ (wHd tc a2 k2))) H → va_S A s.heap H locs → lv_has ls 4 [(1, .int y1)] → W pr l e rm_X11_keep s m args below meth c H locs 0 0 Q (F0 m 61 ls [])) → W pr l e rm_X11_keep s m args below meth c H locs 0 0 Q (F0 m 7 ls []) := by
    intro n
    induction n with
    | zero => intro x1 x2 x3 g2 ex h; exact lp_z h
    | succ n ih =>
      intro x1 x2 x3 g2 ex h H locs ls hP hS hl K
      have h := lp_s h
      refine lv_iload_n X.1 X.2.1 dX11_keep_7 rfl (lv_at hl 3 rfl) ?_
      refine lv_sipush (v := 256) X.1 X.2.1 dX11_keep_8 (by decide) ?_
      refine lv_icmp_ge (tgt := 61) X.1 X.2.1 dX11_keep_11 (by decide) (fun hc => ?_) (fun hc => ?_)
      · have h := it_t hc h
        exact K x1 g2 (Option.some.inj h) H locs ls hP hS (lv_sub hl [1] rfl)
      · have h := it_f hc h
        refine lv_iload_n X.1 X.2.1 dX11_keep_14 rfl (lv_at hl 3 rfl) ?_
        obtain ⟨r_1, hc_1, h⟩ := bd_el h
        refine call_S0i (As := [.int x3]) (rest := []) X (c_J6_bitCount_0f7a4 l dC dI sk sv tc x3 hc_1) mw_2_213 mw_2_214 mw_1_29 mw_2_215 dc_J6_bitCount_0f7a4 ⟨Nat.le_of_ble_eq_true rfl, Nat.le_of_ble_eq_true rfl⟩ rfl rfl ⟨Nat.zero_le _, Nat.zero_le _⟩ hP (hD _ _ _) hS hl.1 (Nat.le_of_ble_eq_true rfl) dX11_keep_15 (fun H locs hP hS => ?_)
        refine lv_iload_n X.1 X.2.1 dX11_keep_18 rfl (lv_at hl 2 rfl) ?_
        obtain ⟨J55, eJ55, h⟩ := jn_el h
        have HJ55 : ∀ (x1_J55 : Int32) (x2_J55 : Int32) (g2_J55 : Pic) (H : Heap) (locs : List Loc) (ls : Array Slot), J55 x1_J55 x2_J55 g2_J55 = some ex → va_P (dC, dI) vwCl (wPU tc a0 g0 q0_0 (a1 0) q0_2 q0_3 q0_4 (a2 0) q0_6 q0_7 q0_8 q0_9 q0_10 q0_13 ++ (wSt tc a1 g1 q1_18 q1_19 ++ (wHd tc a2 g2_J55))) H → va_S A s.heap H locs → lv_has ls 4 [(0, .ref (a0 0)), (1, .int x1_J55), (2, .int x2_J55), (3, .int x3)] → W pr l e rm_X11_keep s m args below meth c H locs 0 0 Q (F0 m 55 ls []) := by
          intro x1_J55 x2_J55 g2_J55 H locs ls h hP hS hl
          rw [eJ55] at h
          obtain ⟨x3_2, ex3_2, h⟩ := nm_el h
          refine lv_iinc (v := x3_2) (lv' := [(3, .int x3_2), (0, .ref (a0 0)), (1, .int x1_J55), (2, .int x2_J55)]) X.1 X.2.1 dX11_keep_55 hl (k := 3) rfl (by rw [ex3_2]; rfl) (by decide) rfl (fun ls hl => ?_)
          refine lv_goto (tgt := 7) X.1 X.2.1 dX11_keep_58 (by decide) ?_
          exact ih x1_J55 x2_J55 x3_2 g2_J55 ex h H locs ls hP hS (lv_sub hl [1, 2, 3, 0] rfl) K
        refine lv_icmp_ge (tgt := 55) X.1 X.2.1 dX11_keep_19 (by decide) (fun hc => ?_) (fun hc => ?_)
        · have h := it_t hc h
          exact HJ55 x1 x2 g2 H locs ls h hP hS (lv_sub hl [0, 1, 2, 3] rfl)
        · have h := it_f hc h
          refine lv_aload_n X.1 X.2.1 dX11_keep_22 rfl (lv_at hl 0 rfl) ?_
          refine r_get (C := RX11) (T := TX11) (N := 15) (ci := 11) (v := .ref (a2 0)) X iw11 hP 0 rfl rfl 5 rfl mw_2_148 rfl dX11_keep_23 ?_
          refine lv_aload_n X.1 X.2.1 dX11_keep_26 rfl (lv_at hl 0 rfl) ?_
          refine r_get (C := RX11) (T := TX11) (N := 15) (ci := 11) (v := .ref (a1 0)) X iw11 hP 0 rfl rfl 1 rfl mw_2_144 rfl dX11_keep_27 ?_
          refine lv_sipush (v := 255) X.1 X.2.1 dX11_keep_30 (by decide) ?_
          refine lv_iload_n X.1 X.2.1 dX11_keep_33 rfl (lv_at hl 3 rfl) ?_
          refine lv_isub X.1 X.2.1 dX11_keep_34 ?_
          obtain ⟨g2_3, hc_3, h⟩ := bd_el h
          refine call_Q (ws := (wPU tc a0 g0 q0_0 (a1 0) q0_2 q0_3 q0_4 (a2 0) q0_6 q0_7 q0_8 q0_9 q0_10 q0_13 ++ (wSt tc a1 g1 q1_18 q1_19 ++ (wHd tc a2 g2)))) (ws' := (wPU tc a0 g0 q0_0 (a1 0) q0_2 q0_3 q0_4 (a2 0) q0_6 q0_7 q0_8 q0_9 q0_10 q0_13 ++ (wSt tc a1 g1 q1_18 q1_19 ++ (wHd tc a2 g2_3)))) (wr := (wPU tc a0 g0 q0_0 (a1 0) q0_2 q0_3 q0_4 (a2 0) q0_6 q0_7 q0_8 q0_9 q0_10 q0_13)) [11, 12, 13, 14, 15, 1, 2, 3, 4, 5, 6, 7, 8, 9, 10] [0] [0, 6, 7, 8, 9, 10, 11, 12, 13, 14, 15, 1, 2, 3, 4, 5] (As := [.ref (a1 0), .int (255 - x3)]) (rest := []) X (c_X3_take l dC dI sk sv tc a2 a1 q1_18 q1_19 g2 g1 (255 - x3) hc_3) mw_2_219 mw_2_220 mw_2_221 mw_1_7 mw_2_222 dc_X3_take ⟨Nat.le_of_ble_eq_true rfl, Nat.le_of_ble_eq_true rfl⟩ rfl rfl ⟨Nat.zero_le _, Nat.zero_le _⟩ ⟨rfl, rfl, rfl, rfl, by decide, rfl, rfl⟩ hP (hD _ _ _) hS 0 rfl rfl rfl hl.1 (Nat.le_of_ble_eq_true rfl) dX11_keep_35 (fun H locs hP hS => ?_)
          refine W.eq (g2 := F0 m 38 ls []) rfl ?_
          refine lv_aload_n X.1 X.2.1 dX11_keep_38 rfl (lv_at hl 0 rfl) ?_
          refine r_get (C := RX11) (T := TX11) (N := 15) (ci := 11) (v := .ref (a2 0)) X iw11 hP 0 rfl rfl 5 rfl mw_2_148 rfl dX11_keep_39 ?_
          obtain ⟨r_4, hc_4, h⟩ := bd_el h
          refine call_Vsi (ws := (wPU tc a0 g0 q0_0 (a1 0) q0_2 q0_3 q0_4 (a2 0) q0_6 q0_7 q0_8 q0_9 q0_10 q0_13 ++ (wSt tc a1 g1 q1_18 q1_19 ++ (wHd tc a2 g2_3)))) (ws' := (wPU tc a0 g0 q0_0 (a1 0) q0_2 q0_3 q0_4 (a2 0) q0_6 q0_7 q0_8 q0_9 q0_10 q0_13 ++ (wSt tc a1 g1 q1_18 q1_19 ++ (wHd tc a2 g2_3)))) (wPU tc a0 g0 q0_0 (a1 0) q0_2 q0_3 q0_4 (a2 0) q0_6 q0_7 q0_8 q0_9 q0_10 q0_13 ++ (wSt tc a1 g1 q1_18 q1_19)) [] (As := []) (rest := []) X (c_X3_allDiffer l dC dI sk sv tc a2 g2_3 hc_4) mw_2_223 mw_2_224 mw_2_225 mw_1_7 mw_2_226 dc_X3_allDiffer ⟨Nat.le_of_ble_eq_true rfl, Nat.le_of_ble_eq_true rfl⟩ rfl rfl ⟨Nat.zero_le _, Nat.zero_le _⟩ (by simp only [List.append_assoc, List.nil_append, List.append_nil]) (by simp only [List.append_assoc, List.nil_append, List.append_nil]) hP (hD _ _ _) hS 0 rfl rfl rfl hl.1 (Nat.le_of_ble_eq_true rfl) dX11_keep_42 (fun H locs hP hS => ?_)
          refine lv_if_eq (tgt := 55) X.1 X.2.1 dX11_keep_45 (by decide) (fun hc => ?_) (fun hc => ?_)
          · have h := it_t hc h
            exact HJ55 x1 x2 g2_3 H locs ls h hP hS (lv_sub hl [0, 1, 2, 3] rfl)
          · have h := it_f hc h
            refine lv_iload_n X.1 X.2.1 dX11_keep_48 rfl (lv_at hl 3 rfl) ?_
            refine lv_istore_n (lv' := [(1, .int x3), (0, .ref (a0 0)), (2, .int x2), (3, .int x3)]) X.1 X.2.1 dX11_keep_49 rfl hl (by decide) rfl (fun ls hl => ?_)
            refine lv_iload_n X.1 X.2.1 dX11_keep_50 rfl (lv_at hl 3 rfl) ?_
            obtain ⟨r_5, hc_5, h⟩ := bd_el h
            refine call_S0i (As := [.int x3]) (rest := []) X (c_J6_bitCount_0f7a4 l dC dI sk sv tc x3 hc_5) mw_2_213 mw_2_214 mw_1_29 mw_2_215 dc_J6_bitCount_0f7a4 ⟨Nat.le_of_ble_eq_true rfl, Nat.le_of_ble_eq_true rfl⟩ rfl rfl ⟨Nat.zero_le _, Nat.zero_le _⟩ hP (hD _ _ _) hS hl.1 (Nat.le_of_ble_eq_true rfl) dX11_keep_51 (fun H locs hP hS => ?_)
            refine lv_istore_n (lv' := [(2, .int r_5), (1, .int x3), (0, .ref (a0 0)), (3, .int x3)]) X.1 X.2.1 dX11_keep_54 rfl hl (by decide) rfl (fun ls hl => ?_)
            exact HJ55 x3 r_5 g2_3 H locs ls h hP hS (lv_sub hl [2, 1, 0, 3] rfl)
  unfold f_X11_keep at h
  refine lv_iconst (v := (-1)) X.1 X.2.1 dX11_keep_0 (by decide) ?_
  refine lv_istore_n (lv' := [(1, .int (-1)), (0, .ref (a0 0))]) X.1 X.2.1 dX11_keep_1 rfl hl (by decide) rfl (fun ls hl => ?_)
  refine lv_bipush (v := 9) X.1 X.2.1 dX11_keep_2 (by decide) ?_
  refine lv_istore_n (lv' := [(2, .int 9), (1, .int (-1)), (0, .ref (a0 0))]) X.1 X.2.1 dX11_keep_4 rfl hl (by decide) rfl (fun ls hl => ?_)
  refine lv_iconst (v := 0) X.1 X.2.1 dX11_keep_5 (by decide) ?_
  refine lv_istore_n (lv' := [(3, .int 0), (2, .int 9), (1, .int (-1)), (0, .ref (a0 0))]) X.1 X.2.1 dX11_keep_6 rfl hl (by decide) rfl (fun ls hl => ?_)
  obtain ⟨ex_6, hL_6, h⟩ := bd_el h
  refine HL7  fu (-1) 9 0 g2 ex_6 hL_6 H locs ls hP hS (lv_sub hl [3, 2, 1, 0] rfl) (fun x1_6 g2_6 he H locs ls hP hS hl => ?_)
  subst he
  refine lv_iload_n X.1 X.2.1 dX11_keep_61 rfl (lv_at hl 0 rfl) ?_
  exact ret_i (fun u => (wPU tc a0 g0 q0_0 (a1 0) q0_2 q0_3 q0_4 (a2 0) q0_6 q0_7 q0_8 q0_9 q0_10 q0_13 ++ (wSt tc a1 g1 q1_18 q1_19 ++ (wHd tc a2 u)))) (res := (r0, G2)) (Option.some.inj h) X hQ hP hS dX11_keep_62

def f_X11_leaves_L17 (x1 : Int32) (x2 : Int32) (g0 : Pic) (g1 : Pic) (n : Nat) (a : Int32 × Int32 × Int32 × Pic) : Option (Int32 × Int32 × Pic) := lp (fun (rec : Int32 × Int32 × Int32 × Pic → Option (Int32 × Int32 × Pic)) (a : Int32 × Int32 × Int32 × Pic) => match a with | (x3, x4, x5, g2) => (if 256 ≤ x5 then some (x3, x4, g2) else bd (f_X3_take g2 g1 x5) (fun g2_2 => bd (f_X3_saved g2_2) (fun r_3 => jn (fun (x3_J73 : Int32) (x4_J73 : Int32) => nm (x5 + 1) (fun x5_4 => rec (x3_J73, x4_J73, x5_4, g2_2))) (fun J73 => (if r_3 ≤ x4 then J73 x3 x4 else bd (f_X3_lost g2_2) (fun r_5 => (if x1 < r_5 then J73 x3 x4 else bd (f_X3_saved g2_2) (fun r_6 => J73 x5 r_6))))))))) n a
def f_X11_leaves (g0 : Pic) (g1 : Pic) (g2 : Pic) (x1 : Int32) (x2 : Int32) : Option ((Nat × Pic) ⊕ (Int32 × Pic)) := lr (f_X11_needNumber g0 x1 0 999) (fun e => .inl (e.1, g2)) (fun _ => bd (f_X11_leaves_L17 x1 x2 g0 g1 fu ((-1), (-1), 0, g2)) (fun (x3_7, x4_7, g2_7) => jn (fun (s0_J89 : Int32) => some (.inr (s0_J89, g2_7))) (fun J89 => (if x2 = 0 then J89 x3_7 else J89 x4_7))))
abbrev rm_X11_leaves : Room := { frames := 7, cells := 1, slots := 6, locals := 143 }
set_option maxHeartbeats 4000000 in
set_option maxRecDepth 100000 in
theorem c_X11_leaves (l : Launch) (hst : l.stackTraces = false) (dC : Nat → ClassId) (dI : Nat → Nat → Nat) (sk sv : Nat → Nat) (tc : Nat → ClassId) (a0 : Nat → Nat) (q0_0 : Nat) (q0_2 : Nat) (q0_3 : Nat) (q0_4 : Nat) (q0_6 : Nat) (q0_7 : Nat) (q0_8 : Nat) (q0_9 : Nat) (q0_10 : Nat) (q0_13 : Option Nat) (a1 : Nat → Nat) (q1_18 : Option Nat) (q1_19 : Nat) (a2 : Nat → Nat) (g0 : Pic) (g1 : Pic) (g2 : Pic) (x1 : Int32) (x2 : Int32) {res : ((Nat × Pic) ⊕ (Int32 × Pic))} (h : f_X11_leaves g0 g1 g2 x1 x2 = some res) : CU l (dC, dI) sk sv (TY tc) yX11_leaves cX11_leaves 6 (some .int) rm_X11_leaves 1 6 [.ref (a0 0), .int x1, .int x2] (wPU tc a0 g0 q0_0 (a1 0) q0_2 q0_3 q0_4 (a2 0) q0_6 q0_7 q0_8 q0_9 q0_10 q0_13 ++ (wSt tc a1 g1 q1_18 q1_19 ++ (wHd tc a2 g2))) (oI (fun u (_ : Option Nat) => (wPU tc a0 g0 q0_0 (a1 0) q0_2 q0_3 q0_4 (a2 0) q0_6 q0_7 q0_8 q0_9 q0_10 q0_13 ++ (wSt tc a1 g1 q1_18 q1_19 ++ (wHd tc a2 u)))) res) := by
  refine ofCU (by decide) (Nat.le_of_ble_eq_true rfl) ?_
  intro pr e s m args below meth c A Q ls H locs X hT hQ hD0 hP hS hl
  have hD : ∀ z0 z1 z2, va_D A (wPU tc a0 z0 q0_0 (a1 0) q0_2 q0_3 q0_4 (a2 0) q0_6 q0_7 q0_8 q0_9 q0_10 q0_13 ++ (wSt tc a1 z1 q1_18 q1_19 ++ (wHd tc a2 z2))) := fun z0 z1 z2 => D_fst (ws := (wPU tc a0 g0 q0_0 (a1 0) q0_2 q0_3 q0_4 (a2 0) q0_6 q0_7 q0_8 q0_9 q0_10 q0_13 ++ (wSt tc a1 g1 q1_18 q1_19 ++ (wHd tc a2 g2)))) rfl hD0
  have hl : lv_has ls 6 [(0, .ref (a0 0)), (1, .int x1), (2, .int x2)] := hl
  have HL17 : ∀ (x1 : Int32) (x2 : Int32) (n : Nat) (x3 : Int32) (x4 : Int32) (x5 : Int32) (g2 : Pic) (ex : (Int32 × Int32 × Pic)), f_X11_leaves_L17 x1 x2 g0 g1 n (x3, x4, x5, g2) = some ex → ∀ (H : Heap) (locs : List Loc) (ls : Array Slot), va_P (dC, dI) vwCl (wPU tc a0 g0 q0_0 (a1 0) q0_2 q0_3 q0_4 (a2 0) q0_6 q0_7 q0_8 q0_9 q0_10 q0_13 ++ (wSt tc a1 g1 q1_18 q1_19 ++ (wHd tc a2 g2))) H → va_S A s.heap H locs → lv_has ls 6 [(0, .ref (a0 0)), (1, .int x1), (2, .int x2), (3, .int x3), (4, .int x4), (5, .int x5)] → (∀ (y3 : Int32) (y4 : Int32) (k2 : Pic), (y3, y4, k2) = ex → ∀ (H : Heap) (locs : List Loc) (ls : Array Slot), va_P (dC, dI) vwCl (wPU tc a0 g0 q0_0 (a1 0) q0_2 q0_3 q0_4 (a2 0) q0_6 q0_7 q0_8 q0_9 q0_10 q0_13 ++ (wSt tc a1 g1 q1_18 q1_19 ++ (wHd tc a2 k2))) H → va_S A s.heap H locs → lv_has ls 6 [(2, .int x2), (3, .int y3), (4, .int y4)] → W pr l e rm_X11_leaves s m args below meth c H locs 1 6 Q (F0 m 79 ls [])) → W pr l e rm_X11_leaves s m args below meth c H locs 1 6 Q (F0 m 17 ls []) := by
    intro x1 x2 n
    induction n with
    | zero => intro x3 x4 x5 g2 ex h; exact lp_z h
    | succ n ih =>
      intro x3 x4 x5 g2 ex h H locs ls hP hS hl K
      have h := lp_s h
      refine lv_iload X.1 X.2.1 dX11_leaves_17 (lv_at hl 5 rfl) ?_
      refine lv_sipush (v := 256) X.1 X.2.1 dX11_leaves_19 (by decide) ?_
      refine lv_icmp_ge (tgt := 79) X.1 X.2.1 dX11_leaves_22 (by decide) (fun hc => ?_) (fun hc => ?_)
      · have h := it_t hc h
        exact K x3 x4 g2 (Option.some.inj h) H locs ls hP hS (lv_sub hl [2, 3, 4] rfl)
      · have h := it_f hc h
        refine lv_aload_n X.1 X.2.1 dX11_leaves_25 rfl (lv_at hl 0 rfl) ?_
        refine r_get (C := RX11) (T := TX11) (N := 15) (ci := 11) (v := .ref (a2 0)) X iw11 hP 0 rfl rfl 5 rfl mw_2_148 rfl dX11_leaves_26 ?_
        refine lv_aload_n X.1 X.2.1 dX11_leaves_29 rfl (lv_at hl 0 rfl) ?_
        refine r_get (C := RX11) (T := TX11) (N := 15) (ci := 11) (v := .ref (a1 0)) X iw11 hP 0 rfl rfl 1 rfl mw_2_144 rfl dX11_leaves_30 ?_
        refine lv_iload X.1 X.2.1 dX11_leaves_33 (lv_at hl 5 rfl) ?_
        obtain ⟨g2_2, hc_2, h⟩ := bd_el h
        refine call_Q (ws := (wPU tc a0 g0 q0_0 (a1 0) q0_2 q0_3 q0_4 (a2 0) q0_6 q0_7 q0_8 q0_9 q0_10 q0_13 ++ (wSt tc a1 g1 q1_18 q1_19 ++ (wHd tc a2 g2)))) (ws' := (wPU tc a0 g0 q0_0 (a1 0) q0_2 q0_3 q0_4 (a2 0) q0_6 q0_7 q0_8 q0_9 q0_10 q0_13 ++ (wSt tc a1 g1 q1_18 q1_19 ++ (wHd tc a2 g2_2)))) (wr := (wPU tc a0 g0 q0_0 (a1 0) q0_2 q0_3 q0_4 (a2 0) q0_6 q0_7 q0_8 q0_9 q0_10 q0_13)) [11, 12, 13, 14, 15, 1, 2, 3, 4, 5, 6, 7, 8, 9, 10] [0] [0, 6, 7, 8, 9, 10, 11, 12, 13, 14, 15, 1, 2, 3, 4, 5] (As := [.ref (a1 0), .int x5]) (rest := []) X (c_X3_take l dC dI sk sv tc a2 a1 q1_18 q1_19 g2 g1 x5 hc_2) mw_2_219 mw_2_220 mw_2_221 mw_1_7 mw_2_222 dc_X3_take ⟨Nat.le_of_ble_eq_true rfl, Nat.le_of_ble_eq_true rfl⟩ rfl rfl ⟨Nat.le_of_ble_eq_true rfl, Nat.le_of_ble_eq_true rfl⟩ ⟨rfl, rfl, rfl, rfl, by decide, rfl, rfl⟩ hP (hD _ _ _) hS 0 rfl rfl rfl hl.1 (Nat.le_of_ble_eq_true rfl) dX11_leaves_35 (fun H locs hP hS => ?_)
        refine W.eq (g2 := F0 m 38 ls []) rfl ?_
        refine lv_aload_n X.1 X.2.1 dX11_leaves_38 rfl (lv_at hl 0 rfl) ?_
        refine r_get (C := RX11) (T := TX11) (N := 15) (ci := 11) (v := .ref (a2 0)) X iw11 hP 0 rfl rfl 5 rfl mw_2_148 rfl dX11_leaves_39 ?_
        obtain ⟨r_3, hc_3, h⟩ := bd_el h
        refine call_Vsi (ws := (wPU tc a0 g0 q0_0 (a1 0) q0_2 q0_3 q0_4 (a2 0) q0_6 q0_7 q0_8 q0_9 q0_10 q0_13 ++ (wSt tc a1 g1 q1_18 q1_19 ++ (wHd tc a2 g2_2)))) (ws' := (wPU tc a0 g0 q0_0 (a1 0) q0_2 q0_3 q0_4 (a2 0) q0_6 q0_7 q0_8 q0_9 q0_10 q0_13 ++ (wSt tc a1 g1 q1_18 q1_19 ++ (wHd tc a2 g2_2)))) (wPU tc a0 g0 q0_0 (a1 0) q0_2 q0_3 q0_4 (a2 0) q0_6 q0_7 q0_8 q0_9 q0_10 q0_13 ++ (wSt tc a1 g1 q1_18 q1_19)) [] (As := []) (rest := []) X (c_X3_saved l dC dI sk sv tc a2 g2_2 hc_3) mw_5_59 mw_5_60 mw_5_61 mw_1_7 mw_5_62 dc_X3_saved ⟨Nat.le_of_ble_eq_true rfl, Nat.le_of_ble_eq_true rfl⟩ rfl rfl ⟨Nat.le_of_ble_eq_true rfl, Nat.le_of_ble_eq_true rfl⟩ (by simp only [List.append_assoc, List.nil_append, List.append_nil]) (by simp only [List.append_assoc, List.nil_append, List.append_nil]) hP (hD _ _ _) hS 0 rfl rfl rfl hl.1 (Nat.le_of_ble_eq_true rfl) dX11_leaves_42 (fun H locs hP hS => ?_)
        refine lv_iload X.1 X.2.1 dX11_leaves_45 (lv_at hl 4 rfl) ?_
        obtain ⟨J73, eJ73, h⟩ := jn_el h
        have HJ73 : ∀ (x3_J73 : Int32) (x4_J73 : Int32) (H : Heap) (locs : List Loc) (ls : Array Slot), J73 x3_J73 x4_J73 = some ex → va_P (dC, dI) vwCl (wPU tc a0 g0 q0_0 (a1 0) q0_2 q0_3 q0_4 (a2 0) q0_6 q0_7 q0_8 q0_9 q0_10 q0_13 ++ (wSt tc a1 g1 q1_18 q1_19 ++ (wHd tc a2 g2_2))) H → va_S A s.heap H locs → lv_has ls 6 [(0, .ref (a0 0)), (1, .int x1), (2, .int x2), (3, .int x3_J73), (4, .int x4_J73), (5, .int x5)] → W pr l e rm_X11_leaves s m args below meth c H locs 1 6 Q (F0 m 73 ls []) := by
          intro x3_J73 x4_J73 H locs ls h hP hS hl
          rw [eJ73] at h
          obtain ⟨x5_4, ex5_4, h⟩ := nm_el h
          refine lv_iinc (v := x5_4) (lv' := [(5, .int x5_4), (0, .ref (a0 0)), (1, .int x1), (2, .int x2), (3, .int x3_J73), (4, .int x4_J73)]) X.1 X.2.1 dX11_leaves_73 hl (k := 5) rfl (by rw [ex5_4]; rfl) (by decide) rfl (fun ls hl => ?_)
          refine lv_goto (tgt := 17) X.1 X.2.1 dX11_leaves_76 (by decide) ?_
          exact ih x3_J73 x4_J73 x5_4 g2_2 ex h H locs ls hP hS (lv_sub hl [1, 2, 3, 4, 5, 0] rfl) K
        refine lv_icmp_le (tgt := 73) X.1 X.2.1 dX11_leaves_47 (by decide) (fun hc => ?_) (fun hc => ?_)
        · have h := it_t hc h
          exact HJ73 x3 x4 H locs ls h hP hS (lv_sub hl [0, 1, 2, 3, 4, 5] rfl)
        · have h := it_f hc h
          refine lv_aload_n X.1 X.2.1 dX11_leaves_50 rfl (lv_at hl 0 rfl) ?_
          refine r_get (C := RX11) (T := TX11) (N := 15) (ci := 11) (v := .ref (a2 0)) X iw11 hP 0 rfl rfl 5 rfl mw_2_148 rfl dX11_leaves_51 ?_
          obtain ⟨r_5, hc_5, h⟩ := bd_el h
          refine call_Vsi (ws := (wPU tc a0 g0 q0_0 (a1 0) q0_2 q0_3 q0_4 (a2 0) q0_6 q0_7 q0_8 q0_9 q0_10 q0_13 ++ (wSt tc a1 g1 q1_18 q1_19 ++ (wHd tc a2 g2_2)))) (ws' := (wPU tc a0 g0 q0_0 (a1 0) q0_2 q0_3 q0_4 (a2 0) q0_6 q0_7 q0_8 q0_9 q0_10 q0_13 ++ (wSt tc a1 g1 q1_18 q1_19 ++ (wHd tc a2 g2_2)))) (wPU tc a0 g0 q0_0 (a1 0) q0_2 q0_3 q0_4 (a2 0) q0_6 q0_7 q0_8 q0_9 q0_10 q0_13 ++ (wSt tc a1 g1 q1_18 q1_19)) [] (As := []) (rest := []) X (c_X3_lost l dC dI sk sv tc a2 g2_2 hc_5) mw_5_51 mw_5_52 mw_5_53 mw_1_7 mw_5_54 dc_X3_lost ⟨Nat.le_of_ble_eq_true rfl, Nat.le_of_ble_eq_true rfl⟩ rfl rfl ⟨Nat.le_of_ble_eq_true rfl, Nat.le_of_ble_eq_true rfl⟩ (by simp only [List.append_assoc, List.nil_append, List.append_nil]) (by simp only [List.append_assoc, List.nil_append, List.append_nil]) hP (hD _ _ _) hS 0 rfl rfl rfl hl.1 (Nat.le_of_ble_eq_true rfl) dX11_leaves_54 (fun H locs hP hS => ?_)
          refine lv_iload_n X.1 X.2.1 dX11_leaves_57 rfl (lv_at hl 1 rfl) ?_
          refine lv_icmp_gt (tgt := 73) X.1 X.2.1 dX11_leaves_58 (by decide) (fun hc => ?_) (fun hc => ?_)
          · have h := it_t hc h
            exact HJ73 x3 x4 H locs ls h hP hS (lv_sub hl [0, 1, 2, 3, 4, 5] rfl)
          · have h := it_f hc h
            refine lv_iload X.1 X.2.1 dX11_leaves_61 (lv_at hl 5 rfl) ?_
            refine lv_istore_n (lv' := [(3, .int x5), (0, .ref (a0 0)), (1, .int x1), (2, .int x2), (4, .int x4), (5, .int x5)]) X.1 X.2.1 dX11_leaves_63 rfl hl (by decide) rfl (fun ls hl => ?_)
            refine lv_aload_n X.1 X.2.1 dX11_leaves_64 rfl (lv_at hl 1 rfl) ?_
            refine r_get (C := RX11) (T := TX11) (N := 15) (ci := 11) (v := .ref (a2 0)) X iw11 hP 0 rfl rfl 5 rfl mw_2_148 rfl dX11_leaves_65 ?_
            obtain ⟨r_6, hc_6, h⟩ := bd_el h
            refine call_Vsi (ws := (wPU tc a0 g0 q0_0 (a1 0) q0_2 q0_3 q0_4 (a2 0) q0_6 q0_7 q0_8 q0_9 q0_10 q0_13 ++ (wSt tc a1 g1 q1_18 q1_19 ++ (wHd tc a2 g2_2)))) (ws' := (wPU tc a0 g0 q0_0 (a1 0) q0_2 q0_3 q0_4 (a2 0) q0_6 q0_7 q0_8 q0_9 q0_10 q0_13 ++ (wSt tc a1 g1 q1_18 q1_19 ++ (wHd tc a2 g2_2)))) (wPU tc a0 g0 q0_0 (a1 0) q0_2 q0_3 q0_4 (a2 0) q0_6 q0_7 q0_8 q0_9 q0_10 q0_13 ++ (wSt tc a1 g1 q1_18 q1_19)) [] (As := []) (rest := []) X (c_X3_saved l dC dI sk sv tc a2 g2_2 hc_6) mw_5_59 mw_5_60 mw_5_61 mw_1_7 mw_5_62 dc_X3_saved ⟨Nat.le_of_ble_eq_true rfl, Nat.le_of_ble_eq_true rfl⟩ rfl rfl ⟨Nat.le_of_ble_eq_true rfl, Nat.le_of_ble_eq_true rfl⟩ (by simp only [List.append_assoc, List.nil_append, List.append_nil]) (by simp only [List.append_assoc, List.nil_append, List.append_nil]) hP (hD _ _ _) hS 0 rfl rfl rfl hl.1 (Nat.le_of_ble_eq_true rfl) dX11_leaves_68 (fun H locs hP hS => ?_)
            refine lv_istore (lv' := [(4, .int r_6), (3, .int x5), (0, .ref (a0 0)), (1, .int x1), (2, .int x2), (5, .int x5)]) X.1 X.2.1 dX11_leaves_71 hl (by decide) rfl (fun ls hl => ?_)
            exact HJ73 x5 r_6 H locs ls h hP hS (lv_sub hl [2, 3, 4, 1, 0, 5] rfl)
  unfold f_X11_leaves at h
  refine lv_aload_n X.1 X.2.1 dX11_leaves_0 rfl (lv_at hl 0 rfl) ?_
  refine lv_iload_n X.1 X.2.1 dX11_leaves_1 rfl (lv_at hl 1 rfl) ?_
  refine lv_iconst (v := 0) X.1 X.2.1 dX11_leaves_2 (by decide) ?_
  refine lv_sipush (v := 999) X.1 X.2.1 dX11_leaves_3 (by decide) ?_
  obtain ⟨ex_1, hc_1, h1_1, h2_1⟩ := lr_el h
  rcases ex_1 with e_1 | r_1
  · exact callU_t (ws := (wPU tc a0 g0 q0_0 (a1 0) q0_2 q0_3 q0_4 (a2 0) q0_6 q0_7 q0_8 q0_9 q0_10 q0_13 ++ (wSt tc a1 g1 q1_18 q1_19 ++ (wHd tc a2 g2)))) (ws' := (wPU tc a0 g0 q0_0 (a1 0) q0_2 q0_3 q0_4 (a2 0) q0_6 q0_7 q0_8 q0_9 q0_10 q0_13 ++ (wSt tc a1 g1 q1_18 q1_19 ++ (wHd tc a2 g2)))) (wr := (wSt tc a1 g1 q1_18 q1_19 ++ (wHd tc a2 g2))) [0] [1, 2, 3, 4, 5, 6, 7, 8, 9, 10, 11, 12, 13, 14, 15] [15, 0, 1, 2, 3, 4, 5, 6, 7, 8, 9, 10, 11, 12, 13, 14] (As := [.int x1, .int 0, .int 999]) (rest := []) none rfl (oUi (fun u (_ : Option Nat) => (wPU tc a0 g0 q0_0 (a1 0) q0_2 q0_3 q0_4 (a2 0) q0_6 q0_7 q0_8 q0_9 q0_10 q0_13 ++ (wSt tc a1 g1 q1_18 q1_19 ++ (wHd tc a2 u)))) (h1_1 _ rfl)) X hT hQ (c_X11_needNumber l hst dC dI sk sv tc a0 q0_0 (a1 0) q0_2 q0_3 q0_4 (a2 0) q0_6 q0_7 q0_8 q0_9 q0_10 q0_13 g0 x1 0 999 hc_1) mw_5_199 mw_5_201 mp_1_8 mw_1_1 mw_5_202 dc_X11_needNumber ⟨Nat.le_of_ble_eq_true rfl, Nat.le_of_ble_eq_true rfl⟩ rfl rfl ⟨Nat.le_of_ble_eq_true rfl, Nat.le_of_ble_eq_true rfl⟩ ⟨rfl, rfl, rfl, rfl, by decide, rfl, rfl⟩ hP (hD _ _ _) hS 0 rfl rfl rfl hl.1 (Nat.le_of_ble_eq_true rfl) dX11_leaves_6 (Nat.le_of_ble_eq_true rfl) (Nat.le_of_ble_eq_true rfl)
  have h := h2_1 _ rfl
  refine callU_n (ws := (wPU tc a0 g0 q0_0 (a1 0) q0_2 q0_3 q0_4 (a2 0) q0_6 q0_7 q0_8 q0_9 q0_10 q0_13 ++ (wSt tc a1 g1 q1_18 q1_19 ++ (wHd tc a2 g2)))) (ws' := (wPU tc a0 g0 q0_0 (a1 0) q0_2 q0_3 q0_4 (a2 0) q0_6 q0_7 q0_8 q0_9 q0_10 q0_13 ++ (wSt tc a1 g1 q1_18 q1_19 ++ (wHd tc a2 g2)))) (wr := (wSt tc a1 g1 q1_18 q1_19 ++ (wHd tc a2 g2))) [0] [1, 2, 3, 4, 5, 6, 7, 8, 9, 10, 11, 12, 13, 14, 15] [15, 0, 1, 2, 3, 4, 5, 6, 7, 8, 9, 10, 11, 12, 13, 14] (As := [.int x1, .int 0, .int 999]) (rest := []) X (c_X11_needNumber l hst dC dI sk sv tc a0 q0_0 (a1 0) q0_2 q0_3 q0_4 (a2 0) q0_6 q0_7 q0_8 q0_9 q0_10 q0_13 g0 x1 0 999 hc_1) mw_5_199 mw_5_201 mp_1_8 mw_1_1 mw_5_202 dc_X11_needNumber ⟨Nat.le_of_ble_eq_true rfl, Nat.le_of_ble_eq_true rfl⟩ rfl rfl ⟨Nat.le_of_ble_eq_true rfl, Nat.le_of_ble_eq_true rfl⟩ ⟨rfl, rfl, rfl, rfl, by decide, rfl, rfl⟩ hP (hD _ _ _) hS 0 rfl rfl rfl hl.1 (Nat.le_of_ble_eq_true rfl) dX11_leaves_6 (fun H locs hP hS => ?_)
  refine W.eq (g2 := F0 m 9 ls []) rfl ?_
  refine lv_iconst (v := (-1)) X.1 X.2.1 dX11_leaves_9 (by decide) ?_
  refine lv_istore_n (lv' := [(3, .int (-1)), (0, .ref (a0 0)), (1, .int x1), (2, .int x2)]) X.1 X.2.1 dX11_leaves_10 rfl hl (by decide) rfl (fun ls hl => ?_)
  refine lv_iconst (v := (-1)) X.1 X.2.1 dX11_leaves_11 (by decide) ?_
  refine lv_istore (lv' := [(4, .int (-1)), (3, .int (-1)), (0, .ref (a0 0)), (1, .int x1), (2, .int x2)]) X.1 X.2.1 dX11_leaves_12 hl (by decide) rfl (fun ls hl => ?_)
  refine lv_iconst (v := 0) X.1 X.2.1 dX11_leaves_14 (by decide) ?_
  refine lv_istore (lv' := [(5, .int 0), (4, .int (-1)), (3, .int (-1)), (0, .ref (a0 0)), (1, .int x1), (2, .int x2)]) X.1 X.2.1 dX11_leaves_15 hl (by decide) rfl (fun ls hl => ?_)
  obtain ⟨ex_7, hL_7, h⟩ := bd_el h
  refine HL17 x1 x2 fu (-1) (-1) 0 g2 ex_7 hL_7 H locs ls hP hS (lv_sub hl [3, 4, 5, 2, 1, 0] rfl) (fun x3_7 x4_7 g2_7 he H locs ls hP hS hl => ?_)
  subst he
  refine lv_iload_n X.1 X.2.1 dX11_leaves_79 rfl (lv_at hl 0 rfl) ?_
  obtain ⟨J89, eJ89, h⟩ := jn_el h
  have HJ89 : ∀ (s0_J89 : Int32) (H : Heap) (locs : List Loc) (ls : Array Slot), J89 s0_J89 = some res → va_P (dC, dI) vwCl (wPU tc a0 g0 q0_0 (a1 0) q0_2 q0_3 q0_4 (a2 0) q0_6 q0_7 q0_8 q0_9 q0_10 q0_13 ++ (wSt tc a1 g1 q1_18 q1_19 ++ (wHd tc a2 g2_7))) H → va_S A s.heap H locs → lv_has ls 6 [] → W pr l e rm_X11_leaves s m args below meth c H locs 1 6 Q (F0 m 89 ls [.int s0_J89]) := by
    intro s0_J89 H locs ls h hP hS hl
    rw [eJ89] at h
    exact retU_i (fun u (_ : Option Nat) => (wPU tc a0 g0 q0_0 (a1 0) q0_2 q0_3 q0_4 (a2 0) q0_6 q0_7 q0_8 q0_9 q0_10 q0_13 ++ (wSt tc a1 g1 q1_18 q1_19 ++ (wHd tc a2 u)))) none (Option.some.inj h) X hQ hP hS (Nat.le_of_ble_eq_true rfl) (Nat.le_of_ble_eq_true rfl) dX11_leaves_89
  refine lv_if_eq (tgt := 88) X.1 X.2.1 dX11_leaves_80 (by decide) (fun hc => ?_) (fun hc => ?_)
  · have h := it_t hc h
    refine lv_iload_n X.1 X.2.1 dX11_leaves_88 rfl (lv_at hl 1 rfl) ?_
    exact HJ89 x3_7 H locs ls h hP hS (lv_sub hl [] rfl)
  · have h := it_f hc h
    refine lv_iload X.1 X.2.1 dX11_leaves_83 (lv_at hl 2 rfl) ?_
    refine lv_goto (tgt := 89) X.1 X.2.1 dX11_leaves_85 (by decide) ?_
    exact HJ89 x4_7 H locs ls h hP hS (lv_sub hl [] rfl)

def f_X11_codes (g0 : Pic) (g1 : Pic) (g2 : Pic) : Option (Int32 × Pic) := bd2 (f_X6_codesTogether g2 g1) (fun r_1 g2_1 => some (r_1, g2_1))
abbrev rm_X11_codes : Room := { frames := 3, cells := 0, slots := 0, locals := 84 }
set_option maxHeartbeats 4000000 in
set_option maxRecDepth 100000 in
theorem c_X11_codes (l : Launch) (dC : Nat → ClassId) (dI : Nat → Nat → Nat) (sk sv : Nat → Nat) (tc : Nat → ClassId) (a0 : Nat → Nat) (q0_0 : Nat) (q0_2 : Nat) (q0_3 : Nat) (q0_4 : Nat) (q0_5 : Nat) (q0_6 : Nat) (q0_8 : Nat) (q0_9 : Nat) (q0_10 : Nat) (q0_13 : Option Nat) (a1 : Nat → Nat) (q1_18 : Option Nat) (q1_19 : Nat) (a2 : Nat → Nat) (g0 : Pic) (g1 : Pic) (g2 : Pic) {r0 : Int32} {G2 : Pic} (h : f_X11_codes g0 g1 g2 = some (r0, G2)) : CT l (dC, dI) sk sv (TY tc) yX11_codes cX11_codes 1 (some .int) rm_X11_codes [.ref (a0 0)] (wPU tc a0 g0 q0_0 (a1 0) q0_2 q0_3 q0_4 q0_5 q0_6 (a2 0) q0_8 q0_9 q0_10 q0_13 ++ (wSt tc a1 g1 q1_18 q1_19 ++ (wLx tc a2 g2 (a1 0)))) (some (.int r0)) (wPU tc a0 g0 q0_0 (a1 0) q0_2 q0_3 q0_4 q0_5 q0_6 (a2 0) q0_8 q0_9 q0_10 q0_13 ++ (wSt tc a1 g1 q1_18 q1_19 ++ (wLx tc a2 G2 (a1 0)))) := by
  refine ofCT (by decide) (Nat.le_of_ble_eq_true rfl) ?_
  intro pr e s m args below meth c A Q ls H locs X hQ hD0 hP hS hl
  have hD : ∀ z0 z1 z2, va_D A (wPU tc a0 z0 q0_0 (a1 0) q0_2 q0_3 q0_4 q0_5 q0_6 (a2 0) q0_8 q0_9 q0_10 q0_13 ++ (wSt tc a1 z1 q1_18 q1_19 ++ (wLx tc a2 z2 (a1 0)))) := fun z0 z1 z2 => D_fst (ws := (wPU tc a0 g0 q0_0 (a1 0) q0_2 q0_3 q0_4 q0_5 q0_6 (a2 0) q0_8 q0_9 q0_10 q0_13 ++ (wSt tc a1 g1 q1_18 q1_19 ++ (wLx tc a2 g2 (a1 0))))) rfl hD0
  have hl : lv_has ls 1 [(0, .ref (a0 0))] := hl
  unfold f_X11_codes at h
  refine lv_aload_n X.1 X.2.1 dX11_codes_0 rfl (lv_at hl 0 rfl) ?_
  refine r_get (C := RX11) (T := TX11) (N := 15) (ci := 11) (v := .ref (a2 0)) X iw11 hP 0 rfl rfl 7 rfl mw_2_150 rfl dX11_codes_1 ?_
  obtain ⟨r_1, g2_1, hc_1, h⟩ := bd2_el h
  refine call_Q (ws := (wPU tc a0 g0 q0_0 (a1 0) q0_2 q0_3 q0_4 q0_5 q0_6 (a2 0) q0_8 q0_9 q0_10 q0_13 ++ (wSt tc a1 g1 q1_18 q1_19 ++ (wLx tc a2 g2 (a1 0))))) (ws' := (wPU tc a0 g0 q0_0 (a1 0) q0_2 q0_3 q0_4 q0_5 q0_6 (a2 0) q0_8 q0_9 q0_10 q0_13 ++ (wSt tc a1 g1 q1_18 q1_19 ++ (wLx tc a2 g2_1 (a1 0))))) (wr := (wPU tc a0 g0 q0_0 (a1 0) q0_2 q0_3 q0_4 q0_5 q0_6 (a2 0) q0_8 q0_9 q0_10 q0_13)) [11, 12, 13, 14, 1, 2, 3, 4, 5, 6, 7, 8, 9, 10] [0] [0, 5, 6, 7, 8, 9, 10, 11, 12, 13, 14, 1, 2, 3, 4] (As := []) (rest := []) X (c_X6_codesTogether l dC dI sk sv tc a2 a1 q1_18 q1_19 g2 g1 hc_1) mw_2_235 mw_2_236 mw_2_237 mw_1_9 mw_2_238 dc_X6_codesTogether ⟨Nat.le_of_ble_eq_true rfl, Nat.le_of_ble_eq_true rfl⟩ rfl rfl ⟨Nat.zero_le _, Nat.zero_le _⟩ ⟨rfl, rfl, rfl, rfl, by decide, rfl, rfl⟩ hP (hD _ _ _) hS 0 rfl rfl rfl hl.1 (Nat.le_of_ble_eq_true rfl) dX11_codes_4 (fun H locs hP hS => ?_)
  refine W.eq (g2 := F0 m 7 ls [.int r_1]) rfl ?_
  exact ret_i (fun u => (wPU tc a0 g0 q0_0 (a1 0) q0_2 q0_3 q0_4 q0_5 q0_6 (a2 0) q0_8 q0_9 q0_10 q0_13 ++ (wSt tc a1 g1 q1_18 q1_19 ++ (wLx tc a2 u (a1 0))))) (res := (r0, G2)) (Option.some.inj h) X hQ hP hS dX11_codes_7

def f_X11_heard (g0 : Pic) (g1 : Pic) (g2 : Pic) (g3 : Pic) : Option ((Nat × (Pic × Pic)) ⊕ (Int32 × (Pic × Pic))) := bd3 (f_X1_takeHeard g3 g1 g2) (fun r_1 g3_1 g1_1 => lr (f_X11_needRows g0 r_1) (fun e => .inl (e.1, (g1_1, g3_1))) (fun _ => bd (f_X1_fittingWords g3_1 g1_1 g2) (fun r_3 => some (.inr (r_3, (g1_1, g3_1))))))
abbrev rm_X11_heard : Room := { frames := 7, cells := 1, slots := 6, locals := 141 }
set_option maxHeartbeats 4000000 in
set_option maxRecDepth 100000 in
theorem c_X11_heard (l : Launch) (hst : l.stackTraces = false) (dC : Nat → ClassId) (dI : Nat → Nat → Nat) (sk sv : Nat → Nat) (tc : Nat → ClassId) (a0 : Nat → Nat) (q0_2 : Nat) (q0_3 : Nat) (q0_4 : Nat) (q0_5 : Nat) (q0_6 : Nat) (q0_7 : Nat) (q0_9 : Nat) (q0_10 : Nat) (q0_13 : Option Nat) (a1 : Nat → Nat) (a2 : Nat → Nat) (q2_18 : Option Nat) (q2_19 : Nat) (a3 : Nat → Nat) (g0 : Pic) (g1 : Pic) (g2 : Pic) (g3 : Pic) {res : ((Nat × (Pic × Pic)) ⊕ (Int32 × (Pic × Pic)))} (h : f_X11_heard g0 g1 g2 g3 = some res) : CU l (dC, dI) sk sv (TY tc) yX11_heard cX11_heard 1 (some .int) rm_X11_heard 1 6 [.ref (a0 0)] (wPU tc a0 g0 (a1 0) (a2 0) q0_2 q0_3 q0_4 q0_5 q0_6 q0_7 (a3 0) q0_9 q0_10 q0_13 ++ (wTp tc a1 g1 ++ (wSt tc a2 g2 q2_18 q2_19 ++ (wCl tc a3 g3 (a1 0) (a2 0))))) (oI (fun u (_ : Option Nat) => (wPU tc a0 g0 (a1 0) (a2 0) q0_2 q0_3 q0_4 q0_5 q0_6 q0_7 (a3 0) q0_9 q0_10 q0_13 ++ (wTp tc a1 u.1 ++ (wSt tc a2 g2 q2_18 q2_19 ++ (wCl tc a3 u.2 (a1 0) (a2 0)))))) res) := by
  refine ofCU (by decide) (Nat.le_of_ble_eq_true rfl) ?_
  intro pr e s m args below meth c A Q ls H locs X hT hQ hD0 hP hS hl
  have hD : ∀ z0 z1 z2 z3, va_D A (wPU tc a0 z0 (a1 0) (a2 0) q0_2 q0_3 q0_4 q0_5 q0_6 q0_7 (a3 0) q0_9 q0_10 q0_13 ++ (wTp tc a1 z1 ++ (wSt tc a2 z2 q2_18 q2_19 ++ (wCl tc a3 z3 (a1 0) (a2 0))))) := fun z0 z1 z2 z3 => D_fst (ws := (wPU tc a0 g0 (a1 0) (a2 0) q0_2 q0_3 q0_4 q0_5 q0_6 q0_7 (a3 0) q0_9 q0_10 q0_13 ++ (wTp tc a1 g1 ++ (wSt tc a2 g2 q2_18 q2_19 ++ (wCl tc a3 g3 (a1 0) (a2 0)))))) rfl hD0
  have hl : lv_has ls 1 [(0, .ref (a0 0))] := hl
  unfold f_X11_heard at h
  refine lv_aload_n X.1 X.2.1 dX11_heard_0 rfl (lv_at hl 0 rfl) ?_
  refine lv_aload_n X.1 X.2.1 dX11_heard_1 rfl (lv_at hl 0 rfl) ?_
  refine r_get (C := RX11) (T := TX11) (N := 15) (ci := 11) (v := .ref (a3 0)) X iw11 hP 0 rfl rfl 8 rfl mw_2_151 rfl dX11_heard_2 ?_
  obtain ⟨r_1, g3_1, g1_1, hc_1, h⟩ := bd3_el h
  refine call_Q (ws := (wPU tc a0 g0 (a1 0) (a2 0) q0_2 q0_3 q0_4 q0_5 q0_6 q0_7 (a3 0) q0_9 q0_10 q0_13 ++ (wTp tc a1 g1 ++ (wSt tc a2 g2 q2_18 q2_19 ++ (wCl tc a3 g3 (a1 0) (a2 0)))))) (ws' := (wPU tc a0 g0 (a1 0) (a2 0) q0_2 q0_3 q0_4 q0_5 q0_6 q0_7 (a3 0) q0_9 q0_10 q0_13 ++ (wTp tc a1 g1_1 ++ (wSt tc a2 g2 q2_18 q2_19 ++ (wCl tc a3 g3_1 (a1 0) (a2 0)))))) (wr := (wPU tc a0 g0 (a1 0) (a2 0) q0_2 q0_3 q0_4 q0_5 q0_6 q0_7 (a3 0) q0_9 q0_10 q0_13)) [13, 14, 15, 1, 2, 3, 4, 5, 6, 7, 8, 9, 10, 11, 12] [0] [0, 4, 5, 6, 7, 8, 9, 10, 11, 12, 13, 14, 15, 1, 2, 3] (As := []) (rest := [.ref (a0 0)]) X (c_X1_takeHeard l dC dI sk sv tc a3 a1 a2 q2_18 q2_19 g3 g1 g2 hc_1) mw_6_83 mw_6_84 mw_6_85 mw_1_10 mw_6_86 dc_X1_takeHeard ⟨Nat.le_of_ble_eq_true rfl, Nat.le_of_ble_eq_true rfl⟩ rfl rfl ⟨Nat.zero_le _, Nat.zero_le _⟩ ⟨rfl, rfl, rfl, rfl, by decide, rfl, rfl⟩ hP (hD _ _ _ _) hS 0 rfl rfl rfl hl.1 (Nat.le_of_ble_eq_true rfl) dX11_heard_5 (fun H locs hP hS => ?_)
  refine W.eq (g2 := F0 m 8 ls [.int r_1, .ref (a0 0)]) rfl ?_
  obtain ⟨ex_2, hc_2, h1_2, h2_2⟩ := lr_el h
  rcases ex_2 with e_2 | r_2
  · exact callU_t (ws := (wPU tc a0 g0 (a1 0) (a2 0) q0_2 q0_3 q0_4 q0_5 q0_6 q0_7 (a3 0) q0_9 q0_10 q0_13 ++ (wTp tc a1 g1_1 ++ (wSt tc a2 g2 q2_18 q2_19 ++ (wCl tc a3 g3_1 (a1 0) (a2 0)))))) (ws' := (wPU tc a0 g0 (a1 0) (a2 0) q0_2 q0_3 q0_4 q0_5 q0_6 q0_7 (a3 0) q0_9 q0_10 q0_13 ++ (wTp tc a1 g1_1 ++ (wSt tc a2 g2 q2_18 q2_19 ++ (wCl tc a3 g3_1 (a1 0) (a2 0)))))) (wr := (wTp tc a1 g1_1 ++ (wSt tc a2 g2 q2_18 q2_19 ++ (wCl tc a3 g3_1 (a1 0) (a2 0))))) [0] [1, 2, 3, 4, 5, 6, 7, 8, 9, 10, 11, 12, 13, 14, 15] [15, 0, 1, 2, 3, 4, 5, 6, 7, 8, 9, 10, 11, 12, 13, 14] (As := [.int r_1]) (rest := []) none rfl (oUi (fun u (_ : Option Nat) => (wPU tc a0 g0 (a1 0) (a2 0) q0_2 q0_3 q0_4 q0_5 q0_6 q0_7 (a3 0) q0_9 q0_10 q0_13 ++ (wTp tc a1 u.1 ++ (wSt tc a2 g2 q2_18 q2_19 ++ (wCl tc a3 u.2 (a1 0) (a2 0)))))) (h1_2 _ rfl)) X hT hQ (c_X11_needRows l hst dC dI sk sv tc a0 (a1 0) (a2 0) q0_2 q0_3 q0_4 q0_5 q0_6 q0_7 (a3 0) q0_9 q0_10 q0_13 g0 r_1 hc_2) mw_6_99 mw_6_101 mp_1_11 mw_1_1 mw_6_102 dc_X11_needRows ⟨Nat.le_of_ble_eq_true rfl, Nat.le_of_ble_eq_true rfl⟩ rfl rfl ⟨Nat.le_of_ble_eq_true rfl, Nat.le_of_ble_eq_true rfl⟩ ⟨rfl, rfl, rfl, rfl, by decide, rfl, rfl⟩ hP (hD _ _ _ _) hS 0 rfl rfl rfl hl.1 (Nat.le_of_ble_eq_true rfl) dX11_heard_8 (Nat.le_of_ble_eq_true rfl) (Nat.le_of_ble_eq_true rfl)
  have h := h2_2 _ rfl
  refine callU_n (ws := (wPU tc a0 g0 (a1 0) (a2 0) q0_2 q0_3 q0_4 q0_5 q0_6 q0_7 (a3 0) q0_9 q0_10 q0_13 ++ (wTp tc a1 g1_1 ++ (wSt tc a2 g2 q2_18 q2_19 ++ (wCl tc a3 g3_1 (a1 0) (a2 0)))))) (ws' := (wPU tc a0 g0 (a1 0) (a2 0) q0_2 q0_3 q0_4 q0_5 q0_6 q0_7 (a3 0) q0_9 q0_10 q0_13 ++ (wTp tc a1 g1_1 ++ (wSt tc a2 g2 q2_18 q2_19 ++ (wCl tc a3 g3_1 (a1 0) (a2 0)))))) (wr := (wTp tc a1 g1_1 ++ (wSt tc a2 g2 q2_18 q2_19 ++ (wCl tc a3 g3_1 (a1 0) (a2 0))))) [0] [1, 2, 3, 4, 5, 6, 7, 8, 9, 10, 11, 12, 13, 14, 15] [15, 0, 1, 2, 3, 4, 5, 6, 7, 8, 9, 10, 11, 12, 13, 14] (As := [.int r_1]) (rest := []) X (c_X11_needRows l hst dC dI sk sv tc a0 (a1 0) (a2 0) q0_2 q0_3 q0_4 q0_5 q0_6 q0_7 (a3 0) q0_9 q0_10 q0_13 g0 r_1 hc_2) mw_6_99 mw_6_101 mp_1_11 mw_1_1 mw_6_102 dc_X11_needRows ⟨Nat.le_of_ble_eq_true rfl, Nat.le_of_ble_eq_true rfl⟩ rfl rfl ⟨Nat.le_of_ble_eq_true rfl, Nat.le_of_ble_eq_true rfl⟩ ⟨rfl, rfl, rfl, rfl, by decide, rfl, rfl⟩ hP (hD _ _ _ _) hS 0 rfl rfl rfl hl.1 (Nat.le_of_ble_eq_true rfl) dX11_heard_8 (fun H locs hP hS => ?_)
  refine W.eq (g2 := F0 m 11 ls []) rfl ?_
  refine lv_aload_n X.1 X.2.1 dX11_heard_11 rfl (lv_at hl 0 rfl) ?_
  refine r_get (C := RX11) (T := TX11) (N := 15) (ci := 11) (v := .ref (a3 0)) X iw11 hP 0 rfl rfl 8 rfl mw_2_151 rfl dX11_heard_12 ?_
  obtain ⟨r_3, hc_3, h⟩ := bd_el h
  refine call_Q (ws := (wPU tc a0 g0 (a1 0) (a2 0) q0_2 q0_3 q0_4 q0_5 q0_6 q0_7 (a3 0) q0_9 q0_10 q0_13 ++ (wTp tc a1 g1_1 ++ (wSt tc a2 g2 q2_18 q2_19 ++ (wCl tc a3 g3_1 (a1 0) (a2 0)))))) (ws' := (wPU tc a0 g0 (a1 0) (a2 0) q0_2 q0_3 q0_4 q0_5 q0_6 q0_7 (a3 0) q0_9 q0_10 q0_13 ++ (wTp tc a1 g1_1 ++ (wSt tc a2 g2 q2_18 q2_19 ++ (wCl tc a3 g3_1 (a1 0) (a2 0)))))) (wr := (wPU tc a0 g0 (a1 0) (a2 0) q0_2 q0_3 q0_4 q0_5 q0_6 q0_7 (a3 0) q0_9 q0_10 q0_13)) [13, 14, 15, 1, 2, 3, 4, 5, 6, 7, 8, 9, 10, 11, 12] [0] [0, 4, 5, 6, 7, 8, 9, 10, 11, 12, 13, 14, 15, 1, 2, 3] (As := []) (rest := []) X (c_X1_fittingWords l dC dI sk sv tc a3 a1 a2 q2_18 q2_19 g3_1 g1_1 g2 hc_3) mw_6_104 mw_6_105 mw_6_106 mw_1_10 mw_6_107 dc_X1_fittingWords ⟨Nat.le_of_ble_eq_true rfl, Nat.le_of_ble_eq_true rfl⟩ rfl rfl ⟨Nat.le_of_ble_eq_true rfl, Nat.le_of_ble_eq_true rfl⟩ ⟨rfl, rfl, rfl, rfl, by decide, rfl, rfl⟩ hP (hD _ _ _ _) hS 0 rfl rfl rfl hl.1 (Nat.le_of_ble_eq_true rfl) dX11_heard_15 (fun H locs hP hS => ?_)
  refine W.eq (g2 := F0 m 18 ls [.int r_3]) rfl ?_
  exact retU_i (fun u (_ : Option Nat) => (wPU tc a0 g0 (a1 0) (a2 0) q0_2 q0_3 q0_4 q0_5 q0_6 q0_7 (a3 0) q0_9 q0_10 q0_13 ++ (wTp tc a1 u.1 ++ (wSt tc a2 g2 q2_18 q2_19 ++ (wCl tc a3 u.2 (a1 0) (a2 0)))))) none (Option.some.inj h) X hQ hP hS (Nat.le_of_ble_eq_true rfl) (Nat.le_of_ble_eq_true rfl) dX11_heard_18

def f_X11_likely (g0 : Pic) (g1 : Pic) (g2 : Pic) (g3 : Pic) : Option ((Nat × (Pic × Pic)) ⊕ (Int32 × (Pic × Pic))) := bd3 (f_X1_takeHeard g3 g1 g2) (fun r_1 g3_1 g1_1 => lr (f_X11_needRows g0 r_1) (fun e => .inl (e.1, (g1_1, g3_1))) (fun _ => bd (f_X1_likeliest g3_1 g1_1 g2) (fun r_3 => some (.inr (r_3, (g1_1, g3_1))))))
abbrev rm_X11_likely : Room := { frames := 7, cells := 1, slots := 6, locals := 141 }
set_option maxHeartbeats 4000000 in
set_option maxRecDepth 100000 in
theorem c_X11_likely (l : Launch) (hst : l.stackTraces = false) (dC : Nat → ClassId) (dI : Nat → Nat → Nat) (sk sv : Nat → Nat) (tc : Nat → ClassId) (a0 : Nat → Nat) (q0_2 : Nat) (q0_3 : Nat) (q0_4 : Nat) (q0_5 : Nat) (q0_6 : Nat) (q0_7 : Nat) (q0_9 : Nat) (q0_10 : Nat) (q0_13 : Option Nat) (a1 : Nat → Nat) (a2 : Nat → Nat) (q2_18 : Option Nat) (q2_19 : Nat) (a3 : Nat → Nat) (g0 : Pic) (g1 : Pic) (g2 : Pic) (g3 : Pic) {res : ((Nat × (Pic × Pic)) ⊕ (Int32 × (Pic × Pic)))} (h : f_X11_likely g0 g1 g2 g3 = some res) : CU l (dC, dI) sk sv (TY tc) yX11_likely cX11_likely 1 (some .int) rm_X11_likely 1 6 [.ref (a0 0)] (wPU tc a0 g0 (a1 0) (a2 0) q0_2 q0_3 q0_4 q0_5 q0_6 q0_7 (a3 0) q0_9 q0_10 q0_13 ++ (wTp tc a1 g1 ++ (wSt tc a2 g2 q2_18 q2_19 ++ (wCl tc a3 g3 (a1 0) (a2 0))))) (oI (fun u (_ : Option Nat) => (wPU tc a0 g0 (a1 0) (a2 0) q0_2 q0_3 q0_4 q0_5 q0_6 q0_7 (a3 0) q0_9 q0_10 q0_13 ++ (wTp tc a1 u.1 ++ (wSt tc a2 g2 q2_18 q2_19 ++ (wCl tc a3 u.2 (a1 0) (a2 0)))))) res) := by
  refine ofCU (by decide) (Nat.le_of_ble_eq_true rfl) ?_
  intro pr e s m args below meth c A Q ls H locs X hT hQ hD0 hP hS hl
  have hD : ∀ z0 z1 z2 z3, va_D A (wPU tc a0 z0 (a1 0) (a2 0) q0_2 q0_3 q0_4 q0_5 q0_6 q0_7 (a3 0) q0_9 q0_10 q0_13 ++ (wTp tc a1 z1 ++ (wSt tc a2 z2 q2_18 q2_19 ++ (wCl tc a3 z3 (a1 0) (a2 0))))) := fun z0 z1 z2 z3 => D_fst (ws := (wPU tc a0 g0 (a1 0) (a2 0) q0_2 q0_3 q0_4 q0_5 q0_6 q0_7 (a3 0) q0_9 q0_10 q0_13 ++ (wTp tc a1 g1 ++ (wSt tc a2 g2 q2_18 q2_19 ++ (wCl tc a3 g3 (a1 0) (a2 0)))))) rfl hD0
  have hl : lv_has ls 1 [(0, .ref (a0 0))] := hl
  unfold f_X11_likely at h
  refine lv_aload_n X.1 X.2.1 dX11_likely_0 rfl (lv_at hl 0 rfl) ?_
  refine lv_aload_n X.1 X.2.1 dX11_likely_1 rfl (lv_at hl 0 rfl) ?_
  refine r_get (C := RX11) (T := TX11) (N := 15) (ci := 11) (v := .ref (a3 0)) X iw11 hP 0 rfl rfl 8 rfl mw_2_151 rfl dX11_likely_2 ?_
  obtain ⟨r_1, g3_1, g1_1, hc_1, h⟩ := bd3_el h
  refine call_Q (ws := (wPU tc a0 g0 (a1 0) (a2 0) q0_2 q0_3 q0_4 q0_5 q0_6 q0_7 (a3 0) q0_9 q0_10 q0_13 ++ (wTp tc a1 g1 ++ (wSt tc a2 g2 q2_18 q2_19 ++ (wCl tc a3 g3 (a1 0) (a2 0)))))) (ws' := (wPU tc a0 g0 (a1 0) (a2 0) q0_2 q0_3 q0_4 q0_5 q0_6 q0_7 (a3 0) q0_9 q0_10 q0_13 ++ (wTp tc a1 g1_1 ++ (wSt tc a2 g2 q2_18 q2_19 ++ (wCl tc a3 g3_1 (a1 0) (a2 0)))))) (wr := (wPU tc a0 g0 (a1 0) (a2 0) q0_2 q0_3 q0_4 q0_5 q0_6 q0_7 (a3 0) q0_9 q0_10 q0_13)) [13, 14, 15, 1, 2, 3, 4, 5, 6, 7, 8, 9, 10, 11, 12] [0] [0, 4, 5, 6, 7, 8, 9, 10, 11, 12, 13, 14, 15, 1, 2, 3] (As := []) (rest := [.ref (a0 0)]) X (c_X1_takeHeard l dC dI sk sv tc a3 a1 a2 q2_18 q2_19 g3 g1 g2 hc_1) mw_6_83 mw_6_84 mw_6_85 mw_1_10 mw_6_86 dc_X1_takeHeard ⟨Nat.le_of_ble_eq_true rfl, Nat.le_of_ble_eq_true rfl⟩ rfl rfl ⟨Nat.zero_le _, Nat.zero_le _⟩ ⟨rfl, rfl, rfl, rfl, by decide, rfl, rfl⟩ hP (hD _ _ _ _) hS 0 rfl rfl rfl hl.1 (Nat.le_of_ble_eq_true rfl) dX11_likely_5 (fun H locs hP hS => ?_)
  refine W.eq (g2 := F0 m 8 ls [.int r_1, .ref (a0 0)]) rfl ?_
  obtain ⟨ex_2, hc_2, h1_2, h2_2⟩ := lr_el h
  rcases ex_2 with e_2 | r_2
  · exact callU_t (ws := (wPU tc a0 g0 (a1 0) (a2 0) q0_2 q0_3 q0_4 q0_5 q0_6 q0_7 (a3 0) q0_9 q0_10 q0_13 ++ (wTp tc a1 g1_1 ++ (wSt tc a2 g2 q2_18 q2_19 ++ (wCl tc a3 g3_1 (a1 0) (a2 0)))))) (ws' := (wPU tc a0 g0 (a1 0) (a2 0) q0_2 q0_3 q0_4 q0_5 q0_6 q0_7 (a3 0) q0_9 q0_10 q0_13 ++ (wTp tc a1 g1_1 ++ (wSt tc a2 g2 q2_18 q2_19 ++ (wCl tc a3 g3_1 (a1 0) (a2 0)))))) (wr := (wTp tc a1 g1_1 ++ (wSt tc a2 g2 q2_18 q2_19 ++ (wCl tc a3 g3_1 (a1 0) (a2 0))))) [0] [1, 2, 3, 4, 5, 6, 7, 8, 9, 10, 11, 12, 13, 14, 15] [15, 0, 1, 2, 3, 4, 5, 6, 7, 8, 9, 10, 11, 12, 13, 14] (As := [.int r_1]) (rest := []) none rfl (oUi (fun u (_ : Option Nat) => (wPU tc a0 g0 (a1 0) (a2 0) q0_2 q0_3 q0_4 q0_5 q0_6 q0_7 (a3 0) q0_9 q0_10 q0_13 ++ (wTp tc a1 u.1 ++ (wSt tc a2 g2 q2_18 q2_19 ++ (wCl tc a3 u.2 (a1 0) (a2 0)))))) (h1_2 _ rfl)) X hT hQ (c_X11_needRows l hst dC dI sk sv tc a0 (a1 0) (a2 0) q0_2 q0_3 q0_4 q0_5 q0_6 q0_7 (a3 0) q0_9 q0_10 q0_13 g0 r_1 hc_2) mw_6_99 mw_6_101 mp_1_11 mw_1_1 mw_6_102 dc_X11_needRows ⟨Nat.le_of_ble_eq_true rfl, Nat.le_of_ble_eq_true rfl⟩ rfl rfl ⟨Nat.le_of_ble_eq_true rfl, Nat.le_of_ble_eq_true rfl⟩ ⟨rfl, rfl, rfl, rfl, by decide, rfl, rfl⟩ hP (hD _ _ _ _) hS 0 rfl rfl rfl hl.1 (Nat.le_of_ble_eq_true rfl) dX11_likely_8 (Nat.le_of_ble_eq_true rfl) (Nat.le_of_ble_eq_true rfl)
  have h := h2_2 _ rfl
  refine callU_n (ws := (wPU tc a0 g0 (a1 0) (a2 0) q0_2 q0_3 q0_4 q0_5 q0_6 q0_7 (a3 0) q0_9 q0_10 q0_13 ++ (wTp tc a1 g1_1 ++ (wSt tc a2 g2 q2_18 q2_19 ++ (wCl tc a3 g3_1 (a1 0) (a2 0)))))) (ws' := (wPU tc a0 g0 (a1 0) (a2 0) q0_2 q0_3 q0_4 q0_5 q0_6 q0_7 (a3 0) q0_9 q0_10 q0_13 ++ (wTp tc a1 g1_1 ++ (wSt tc a2 g2 q2_18 q2_19 ++ (wCl tc a3 g3_1 (a1 0) (a2 0)))))) (wr := (wTp tc a1 g1_1 ++ (wSt tc a2 g2 q2_18 q2_19 ++ (wCl tc a3 g3_1 (a1 0) (a2 0))))) [0] [1, 2, 3, 4, 5, 6, 7, 8, 9, 10, 11, 12, 13, 14, 15] [15, 0, 1, 2, 3, 4, 5, 6, 7, 8, 9, 10, 11, 12, 13, 14] (As := [.int r_1]) (rest := []) X (c_X11_needRows l hst dC dI sk sv tc a0 (a1 0) (a2 0) q0_2 q0_3 q0_4 q0_5 q0_6 q0_7 (a3 0) q0_9 q0_10 q0_13 g0 r_1 hc_2) mw_6_99 mw_6_101 mp_1_11 mw_1_1 mw_6_102 dc_X11_needRows ⟨Nat.le_of_ble_eq_true rfl, Nat.le_of_ble_eq_true rfl⟩ rfl rfl ⟨Nat.le_of_ble_eq_true rfl, Nat.le_of_ble_eq_true rfl⟩ ⟨rfl, rfl, rfl, rfl, by decide, rfl, rfl⟩ hP (hD _ _ _ _) hS 0 rfl rfl rfl hl.1 (Nat.le_of_ble_eq_true rfl) dX11_likely_8 (fun H locs hP hS => ?_)
  refine W.eq (g2 := F0 m 11 ls []) rfl ?_
  refine lv_aload_n X.1 X.2.1 dX11_likely_11 rfl (lv_at hl 0 rfl) ?_
  refine r_get (C := RX11) (T := TX11) (N := 15) (ci := 11) (v := .ref (a3 0)) X iw11 hP 0 rfl rfl 8 rfl mw_2_151 rfl dX11_likely_12 ?_
  obtain ⟨r_3, hc_3, h⟩ := bd_el h
  refine call_Q (ws := (wPU tc a0 g0 (a1 0) (a2 0) q0_2 q0_3 q0_4 q0_5 q0_6 q0_7 (a3 0) q0_9 q0_10 q0_13 ++ (wTp tc a1 g1_1 ++ (wSt tc a2 g2 q2_18 q2_19 ++ (wCl tc a3 g3_1 (a1 0) (a2 0)))))) (ws' := (wPU tc a0 g0 (a1 0) (a2 0) q0_2 q0_3 q0_4 q0_5 q0_6 q0_7 (a3 0) q0_9 q0_10 q0_13 ++ (wTp tc a1 g1_1 ++ (wSt tc a2 g2 q2_18 q2_19 ++ (wCl tc a3 g3_1 (a1 0) (a2 0)))))) (wr := (wPU tc a0 g0 (a1 0) (a2 0) q0_2 q0_3 q0_4 q0_5 q0_6 q0_7 (a3 0) q0_9 q0_10 q0_13)) [13, 14, 15, 1, 2, 3, 4, 5, 6, 7, 8, 9, 10, 11, 12] [0] [0, 4, 5, 6, 7, 8, 9, 10, 11, 12, 13, 14, 15, 1, 2, 3] (As := []) (rest := []) X (c_X1_likeliest l dC dI sk sv tc a3 a1 a2 q2_18 q2_19 g3_1 g1_1 g2 hc_3) mw_6_120 mw_6_121 mw_6_122 mw_1_10 mw_6_123 dc_X1_likeliest ⟨Nat.le_of_ble_eq_true rfl, Nat.le_of_ble_eq_true rfl⟩ rfl rfl ⟨Nat.le_of_ble_eq_true rfl, Nat.le_of_ble_eq_true rfl⟩ ⟨rfl, rfl, rfl, rfl, by decide, rfl, rfl⟩ hP (hD _ _ _ _) hS 0 rfl rfl rfl hl.1 (Nat.le_of_ble_eq_true rfl) dX11_likely_15 (fun H locs hP hS => ?_)
  refine W.eq (g2 := F0 m 18 ls [.int r_3]) rfl ?_
  exact retU_i (fun u (_ : Option Nat) => (wPU tc a0 g0 (a1 0) (a2 0) q0_2 q0_3 q0_4 q0_5 q0_6 q0_7 (a3 0) q0_9 q0_10 q0_13 ++ (wTp tc a1 u.1 ++ (wSt tc a2 g2 q2_18 q2_19 ++ (wCl tc a3 u.2 (a1 0) (a2 0)))))) none (Option.some.inj h) X hQ hP hS (Nat.le_of_ble_eq_true rfl) (Nat.le_of_ble_eq_true rfl) dX11_likely_18

def f_X11_look (g0 : Pic) (g1 : Pic) (g2 : Pic) (g3 : Pic) : Option ((Nat × (Pic × Pic)) ⊕ (Int32 × (Pic × Pic))) := bd3 (f_X1_takeHeard g3 g1 g2) (fun r_1 g3_1 g1_1 => lr (f_X11_needRows g0 r_1) (fun e => .inl (e.1, (g1_1, g3_1))) (fun _ => bd2 (f_X1_placeToLook g3_1 g1_1 g2) (fun r_3 g3_3 => some (.inr (r_3, (g1_1, g3_3))))))
abbrev rm_X11_look : Room := { frames := 7, cells := 1, slots := 6, locals := 141 }
set_option maxHeartbeats 4000000 in
set_option maxRecDepth 100000 in
theorem c_X11_look (l : Launch) (hst : l.stackTraces = false) (dC : Nat → ClassId) (dI : Nat → Nat → Nat) (sk sv : Nat → Nat) (tc : Nat → ClassId) (a0 : Nat → Nat) (q0_2 : Nat) (q0_3 : Nat) (q0_4 : Nat) (q0_5 : Nat) (q0_6 : Nat) (q0_7 : Nat) (q0_9 : Nat) (q0_10 : Nat) (q0_13 : Option Nat) (a1 : Nat → Nat) (a2 : Nat → Nat) (q2_18 : Option Nat) (q2_19 : Nat) (a3 : Nat → Nat) (g0 : Pic) (g1 : Pic) (g2 : Pic) (g3 : Pic) {res : ((Nat × (Pic × Pic)) ⊕ (Int32 × (Pic × Pic)))} (h : f_X11_look g0 g1 g2 g3 = some res) : CU l (dC, dI) sk sv (TY tc) yX11_look cX11_look 1 (some .int) rm_X11_look 1 6 [.ref (a0 0)] (wPU tc a0 g0 (a1 0) (a2 0) q0_2 q0_3 q0_4 q0_5 q0_6 q0_7 (a3 0) q0_9 q0_10 q0_13 ++ (wTp tc a1 g1 ++ (wSt tc a2 g2 q2_18 q2_19 ++ (wCl tc a3 g3 (a1 0) (a2 0))))) (oI (fun u (_ : Option Nat) => (wPU tc a0 g0 (a1 0) (a2 0) q0_2 q0_3 q0_4 q0_5 q0_6 q0_7 (a3 0) q0_9 q0_10 q0_13 ++ (wTp tc a1 u.1 ++ (wSt tc a2 g2 q2_18 q2_19 ++ (wCl tc a3 u.2 (a1 0) (a2 0)))))) res) := by
  refine ofCU (by decide) (Nat.le_of_ble_eq_true rfl) ?_
  intro pr e s m args below meth c A Q ls H locs X hT hQ hD0 hP hS hl
  have hD : ∀ z0 z1 z2 z3, va_D A (wPU tc a0 z0 (a1 0) (a2 0) q0_2 q0_3 q0_4 q0_5 q0_6 q0_7 (a3 0) q0_9 q0_10 q0_13 ++ (wTp tc a1 z1 ++ (wSt tc a2 z2 q2_18 q2_19 ++ (wCl tc a3 z3 (a1 0) (a2 0))))) := fun z0 z1 z2 z3 => D_fst (ws := (wPU tc a0 g0 (a1 0) (a2 0) q0_2 q0_3 q0_4 q0_5 q0_6 q0_7 (a3 0) q0_9 q0_10 q0_13 ++ (wTp tc a1 g1 ++ (wSt tc a2 g2 q2_18 q2_19 ++ (wCl tc a3 g3 (a1 0) (a2 0)))))) rfl hD0
  have hl : lv_has ls 1 [(0, .ref (a0 0))] := hl
  unfold f_X11_look at h
  refine lv_aload_n X.1 X.2.1 dX11_look_0 rfl (lv_at hl 0 rfl) ?_
  refine lv_aload_n X.1 X.2.1 dX11_look_1 rfl (lv_at hl 0 rfl) ?_
  refine r_get (C := RX11) (T := TX11) (N := 15) (ci := 11) (v := .ref (a3 0)) X iw11 hP 0 rfl rfl 8 rfl mw_2_151 rfl dX11_look_2 ?_
  obtain ⟨r_1, g3_1, g1_1, hc_1, h⟩ := bd3_el h
  refine call_Q (ws := (wPU tc a0 g0 (a1 0) (a2 0) q0_2 q0_3 q0_4 q0_5 q0_6 q0_7 (a3 0) q0_9 q0_10 q0_13 ++ (wTp tc a1 g1 ++ (wSt tc a2 g2 q2_18 q2_19 ++ (wCl tc a3 g3 (a1 0) (a2 0)))))) (ws' := (wPU tc a0 g0 (a1 0) (a2 0) q0_2 q0_3 q0_4 q0_5 q0_6 q0_7 (a3 0) q0_9 q0_10 q0_13 ++ (wTp tc a1 g1_1 ++ (wSt tc a2 g2 q2_18 q2_19 ++ (wCl tc a3 g3_1 (a1 0) (a2 0)))))) (wr := (wPU tc a0 g0 (a1 0) (a2 0) q0_2 q0_3 q0_4 q0_5 q0_6 q0_7 (a3 0) q0_9 q0_10 q0_13)) [13, 14, 15, 1, 2, 3, 4, 5, 6, 7, 8, 9, 10, 11, 12] [0] [0, 4, 5, 6, 7, 8, 9, 10, 11, 12, 13, 14, 15, 1, 2, 3] (As := []) (rest := [.ref (a0 0)]) X (c_X1_takeHeard l dC dI sk sv tc a3 a1 a2 q2_18 q2_19 g3 g1 g2 hc_1) mw_6_83 mw_6_84 mw_6_85 mw_1_10 mw_6_86 dc_X1_takeHeard ⟨Nat.le_of_ble_eq_true rfl, Nat.le_of_ble_eq_true rfl⟩ rfl rfl ⟨Nat.zero_le _, Nat.zero_le _⟩ ⟨rfl, rfl, rfl, rfl, by decide, rfl, rfl⟩ hP (hD _ _ _ _) hS 0 rfl rfl rfl hl.1 (Nat.le_of_ble_eq_true rfl) dX11_look_5 (fun H locs hP hS => ?_)
  refine W.eq (g2 := F0 m 8 ls [.int r_1, .ref (a0 0)]) rfl ?_
  obtain ⟨ex_2, hc_2, h1_2, h2_2⟩ := lr_el h
  rcases ex_2 with e_2 | r_2
  · exact callU_t (ws := (wPU tc a0 g0 (a1 0) (a2 0) q0_2 q0_3 q0_4 q0_5 q0_6 q0_7 (a3 0) q0_9 q0_10 q0_13 ++ (wTp tc a1 g1_1 ++ (wSt tc a2 g2 q2_18 q2_19 ++ (wCl tc a3 g3_1 (a1 0) (a2 0)))))) (ws' := (wPU tc a0 g0 (a1 0) (a2 0) q0_2 q0_3 q0_4 q0_5 q0_6 q0_7 (a3 0) q0_9 q0_10 q0_13 ++ (wTp tc a1 g1_1 ++ (wSt tc a2 g2 q2_18 q2_19 ++ (wCl tc a3 g3_1 (a1 0) (a2 0)))))) (wr := (wTp tc a1 g1_1 ++ (wSt tc a2 g2 q2_18 q2_19 ++ (wCl tc a3 g3_1 (a1 0) (a2 0))))) [0] [1, 2, 3, 4, 5, 6, 7, 8, 9, 10, 11, 12, 13, 14, 15] [15, 0, 1, 2, 3, 4, 5, 6, 7, 8, 9, 10, 11, 12, 13, 14] (As := [.int r_1]) (rest := []) none rfl (oUi (fun u (_ : Option Nat) => (wPU tc a0 g0 (a1 0) (a2 0) q0_2 q0_3 q0_4 q0_5 q0_6 q0_7 (a3 0) q0_9 q0_10 q0_13 ++ (wTp tc a1 u.1 ++ (wSt tc a2 g2 q2_18 q2_19 ++ (wCl tc a3 u.2 (a1 0) (a2 0)))))) (h1_2 _ rfl)) X hT hQ (c_X11_needRows l hst dC dI sk sv tc a0 (a1 0) (a2 0) q0_2 q0_3 q0_4 q0_5 q0_6 q0_7 (a3 0) q0_9 q0_10 q0_13 g0 r_1 hc_2) mw_6_99 mw_6_101 mp_1_11 mw_1_1 mw_6_102 dc_X11_needRows ⟨Nat.le_of_ble_eq_true rfl, Nat.le_of_ble_eq_true rfl⟩ rfl rfl ⟨Nat.le_of_ble_eq_true rfl, Nat.le_of_ble_eq_true rfl⟩ ⟨rfl, rfl, rfl, rfl, by decide, rfl, rfl⟩ hP (hD _ _ _ _) hS 0 rfl rfl rfl hl.1 (Nat.le_of_ble_eq_true rfl) dX11_look_8 (Nat.le_of_ble_eq_true rfl) (Nat.le_of_ble_eq_true rfl)
  have h := h2_2 _ rfl
  refine callU_n (ws := (wPU tc a0 g0 (a1 0) (a2 0) q0_2 q0_3 q0_4 q0_5 q0_6 q0_7 (a3 0) q0_9 q0_10 q0_13 ++ (wTp tc a1 g1_1 ++ (wSt tc a2 g2 q2_18 q2_19 ++ (wCl tc a3 g3_1 (a1 0) (a2 0)))))) (ws' := (wPU tc a0 g0 (a1 0) (a2 0) q0_2 q0_3 q0_4 q0_5 q0_6 q0_7 (a3 0) q0_9 q0_10 q0_13 ++ (wTp tc a1 g1_1 ++ (wSt tc a2 g2 q2_18 q2_19 ++ (wCl tc a3 g3_1 (a1 0) (a2 0)))))) (wr := (wTp tc a1 g1_1 ++ (wSt tc a2 g2 q2_18 q2_19 ++ (wCl tc a3 g3_1 (a1 0) (a2 0))))) [0] [1, 2, 3, 4, 5, 6, 7, 8, 9, 10, 11, 12, 13, 14, 15] [15, 0, 1, 2, 3, 4, 5, 6, 7, 8, 9, 10, 11, 12, 13, 14] (As := [.int r_1]) (rest := []) X (c_X11_needRows l hst dC dI sk sv tc a0 (a1 0) (a2 0) q0_2 q0_3 q0_4 q0_5 q0_6 q0_7 (a3 0) q0_9 q0_10 q0_13 g0 r_1 hc_2) mw_6_99 mw_6_101 mp_1_11 mw_1_1 mw_6_102 dc_X11_needRows ⟨Nat.le_of_ble_eq_true rfl, Nat.le_of_ble_eq_true rfl⟩ rfl rfl ⟨Nat.le_of_ble_eq_true rfl, Nat.le_of_ble_eq_true rfl⟩ ⟨rfl, rfl, rfl, rfl, by decide, rfl, rfl⟩ hP (hD _ _ _ _) hS 0 rfl rfl rfl hl.1 (Nat.le_of_ble_eq_true rfl) dX11_look_8 (fun H locs hP hS => ?_)
  refine W.eq (g2 := F0 m 11 ls []) rfl ?_
  refine lv_aload_n X.1 X.2.1 dX11_look_11 rfl (lv_at hl 0 rfl) ?_
  refine r_get (C := RX11) (T := TX11) (N := 15) (ci := 11) (v := .ref (a3 0)) X iw11 hP 0 rfl rfl 8 rfl mw_2_151 rfl dX11_look_12 ?_
  obtain ⟨r_3, g3_3, hc_3, h⟩ := bd2_el h
  refine call_Q (ws := (wPU tc a0 g0 (a1 0) (a2 0) q0_2 q0_3 q0_4 q0_5 q0_6 q0_7 (a3 0) q0_9 q0_10 q0_13 ++ (wTp tc a1 g1_1 ++ (wSt tc a2 g2 q2_18 q2_19 ++ (wCl tc a3 g3_1 (a1 0) (a2 0)))))) (ws' := (wPU tc a0 g0 (a1 0) (a2 0) q0_2 q0_3 q0_4 q0_5 q0_6 q0_7 (a3 0) q0_9 q0_10 q0_13 ++ (wTp tc a1 g1_1 ++ (wSt tc a2 g2 q2_18 q2_19 ++ (wCl tc a3 g3_3 (a1 0) (a2 0)))))) (wr := (wPU tc a0 g0 (a1 0) (a2 0) q0_2 q0_3 q0_4 q0_5 q0_6 q0_7 (a3 0) q0_9 q0_10 q0_13)) [13, 14, 15, 1, 2, 3, 4, 5, 6, 7, 8, 9, 10, 11, 12] [0] [0, 4, 5, 6, 7, 8, 9, 10, 11, 12, 13, 14, 15, 1, 2, 3] (As := []) (rest := []) X (c_X1_placeToLook l dC dI sk sv tc a3 a1 a2 q2_18 q2_19 g3_1 g1_1 g2 hc_3) mw_6_131 mw_6_132 mw_6_133 mw_1_10 mw_6_134 dc_X1_placeToLook ⟨Nat.le_of_ble_eq_true rfl, Nat.le_of_ble_eq_true rfl⟩ rfl rfl ⟨Nat.le_of_ble_eq_true rfl, Nat.le_of_ble_eq_true rfl⟩ ⟨rfl, rfl, rfl, rfl, by decide, rfl, rfl⟩ hP (hD _ _ _ _) hS 0 rfl rfl rfl hl.1 (Nat.le_of_ble_eq_true rfl) dX11_look_15 (fun H locs hP hS => ?_)
  refine W.eq (g2 := F0 m 18 ls [.int r_3]) rfl ?_
  exact retU_i (fun u (_ : Option Nat) => (wPU tc a0 g0 (a1 0) (a2 0) q0_2 q0_3 q0_4 q0_5 q0_6 q0_7 (a3 0) q0_9 q0_10 q0_13 ++ (wTp tc a1 u.1 ++ (wSt tc a2 g2 q2_18 q2_19 ++ (wCl tc a3 u.2 (a1 0) (a2 0)))))) none (Option.some.inj h) X hQ hP hS (Nat.le_of_ble_eq_true rfl) (Nat.le_of_ble_eq_true rfl) dX11_look_18

def f_X11_hand (g0 : Pic) (g1 : Pic) (g2 : Pic) (g3 : Pic) (x1 : Int32) : Option ((Nat × (Pic × Pic)) ⊕ (Int32 × (Pic × Pic))) := bd3 (f_X1_takeHand g3 g1 g2) (fun r_1 g3_1 g1_1 => lr (f_X11_needRows g0 r_1) (fun e => .inl (e.1, (g1_1, g3_1))) (fun _ => bd2 (f_X1_findSets g3_1 g1_1 g2) (fun r_3 g3_3 => jn (fun (s0_J34 : Int32) => some (.inr (s0_J34, (g1_1, g3_3)))) (fun J34 => (if x1 = 0 then J34 r_3 else bd (f_X1_leastSet g3_3 g1_1 g2) (fun r_4 => J34 r_4))))))
abbrev rm_X11_hand : Room := { frames := 7, cells := 1, slots := 6, locals := 141 }
set_option maxHeartbeats 4000000 in
set_option maxRecDepth 100000 in
theorem c_X11_hand (l : Launch) (hst : l.stackTraces = false) (dC : Nat → ClassId) (dI : Nat → Nat → Nat) (sk sv : Nat → Nat) (tc : Nat → ClassId) (a0 : Nat → Nat) (q0_2 : Nat) (q0_3 : Nat) (q0_4 : Nat) (q0_5 : Nat) (q0_6 : Nat) (q0_7 : Nat) (q0_9 : Nat) (q0_10 : Nat) (q0_13 : Option Nat) (a1 : Nat → Nat) (a2 : Nat → Nat) (q2_18 : Option Nat) (q2_19 : Nat) (a3 : Nat → Nat) (g0 : Pic) (g1 : Pic) (g2 : Pic) (g3 : Pic) (x1 : Int32) {res : ((Nat × (Pic × Pic)) ⊕ (Int32 × (Pic × Pic)))} (h : f_X11_hand g0 g1 g2 g3 x1 = some res) : CU l (dC, dI) sk sv (TY tc) yX11_hand cX11_hand 3 (some .int) rm_X11_hand 1 6 [.ref (a0 0), .int x1] (wPU tc a0 g0 (a1 0) (a2 0) q0_2 q0_3 q0_4 q0_5 q0_6 q0_7 (a3 0) q0_9 q0_10 q0_13 ++ (wTp tc a1 g1 ++ (wSt tc a2 g2 q2_18 q2_19 ++ (wCl tc a3 g3 (a1 0) (a2 0))))) (oI (fun u (_ : Option Nat) => (wPU tc a0 g0 (a1 0) (a2 0) q0_2 q0_3 q0_4 q0_5 q0_6 q0_7 (a3 0) q0_9 q0_10 q0_13 ++ (wTp tc a1 u.1 ++ (wSt tc a2 g2 q2_18 q2_19 ++ (wCl tc a3 u.2 (a1 0) (a2 0)))))) res) := by
  refine ofCU (by decide) (Nat.le_of_ble_eq_true rfl) ?_
  intro pr e s m args below meth c A Q ls H locs X hT hQ hD0 hP hS hl
  have hD : ∀ z0 z1 z2 z3, va_D A (wPU tc a0 z0 (a1 0) (a2 0) q0_2 q0_3 q0_4 q0_5 q0_6 q0_7 (a3 0) q0_9 q0_10 q0_13 ++ (wTp tc a1 z1 ++ (wSt tc a2 z2 q2_18 q2_19 ++ (wCl tc a3 z3 (a1 0) (a2 0))))) := fun z0 z1 z2 z3 => D_fst (ws := (wPU tc a0 g0 (a1 0) (a2 0) q0_2 q0_3 q0_4 q0_5 q0_6 q0_7 (a3 0) q0_9 q0_10 q0_13 ++ (wTp tc a1 g1 ++ (wSt tc a2 g2 q2_18 q2_19 ++ (wCl tc a3 g3 (a1 0) (a2 0)))))) rfl hD0
  have hl : lv_has ls 3 [(0, .ref (a0 0)), (1, .int x1)] := hl
  unfold f_X11_hand at h
  refine lv_aload_n X.1 X.2.1 dX11_hand_0 rfl (lv_at hl 0 rfl) ?_
  refine lv_aload_n X.1 X.2.1 dX11_hand_1 rfl (lv_at hl 0 rfl) ?_
  refine r_get (C := RX11) (T := TX11) (N := 15) (ci := 11) (v := .ref (a3 0)) X iw11 hP 0 rfl rfl 8 rfl mw_2_151 rfl dX11_hand_2 ?_
  obtain ⟨r_1, g3_1, g1_1, hc_1, h⟩ := bd3_el h
  refine call_Q (ws := (wPU tc a0 g0 (a1 0) (a2 0) q0_2 q0_3 q0_4 q0_5 q0_6 q0_7 (a3 0) q0_9 q0_10 q0_13 ++ (wTp tc a1 g1 ++ (wSt tc a2 g2 q2_18 q2_19 ++ (wCl tc a3 g3 (a1 0) (a2 0)))))) (ws' := (wPU tc a0 g0 (a1 0) (a2 0) q0_2 q0_3 q0_4 q0_5 q0_6 q0_7 (a3 0) q0_9 q0_10 q0_13 ++ (wTp tc a1 g1_1 ++ (wSt tc a2 g2 q2_18 q2_19 ++ (wCl tc a3 g3_1 (a1 0) (a2 0)))))) (wr := (wPU tc a0 g0 (a1 0) (a2 0) q0_2 q0_3 q0_4 q0_5 q0_6 q0_7 (a3 0) q0_9 q0_10 q0_13)) [13, 14, 15, 1, 2, 3, 4, 5, 6, 7, 8, 9, 10, 11, 12] [0] [0, 4, 5, 6, 7, 8, 9, 10, 11, 12, 13, 14, 15, 1, 2, 3] (As := []) (rest := [.ref (a0 0)]) X (c_X1_takeHand l dC dI sk sv tc a3 a1 a2 q2_18 q2_19 g3 g1 g2 hc_1) mw_6_152 mw_6_153 mw_6_154 mw_1_10 mw_6_155 dc_X1_takeHand ⟨Nat.le_of_ble_eq_true rfl, Nat.le_of_ble_eq_true rfl⟩ rfl rfl ⟨Nat.zero_le _, Nat.zero_le _⟩ ⟨rfl, rfl, rfl, rfl, by decide, rfl, rfl⟩ hP (hD _ _ _ _) hS 0 rfl rfl rfl hl.1 (Nat.le_of_ble_eq_true rfl) dX11_hand_5 (fun H locs hP hS => ?_)
  refine W.eq (g2 := F0 m 8 ls [.int r_1, .ref (a0 0)]) rfl ?_
  obtain ⟨ex_2, hc_2, h1_2, h2_2⟩ := lr_el h
  rcases ex_2 with e_2 | r_2
  · exact callU_t (ws := (wPU tc a0 g0 (a1 0) (a2 0) q0_2 q0_3 q0_4 q0_5 q0_6 q0_7 (a3 0) q0_9 q0_10 q0_13 ++ (wTp tc a1 g1_1 ++ (wSt tc a2 g2 q2_18 q2_19 ++ (wCl tc a3 g3_1 (a1 0) (a2 0)))))) (ws' := (wPU tc a0 g0 (a1 0) (a2 0) q0_2 q0_3 q0_4 q0_5 q0_6 q0_7 (a3 0) q0_9 q0_10 q0_13 ++ (wTp tc a1 g1_1 ++ (wSt tc a2 g2 q2_18 q2_19 ++ (wCl tc a3 g3_1 (a1 0) (a2 0)))))) (wr := (wTp tc a1 g1_1 ++ (wSt tc a2 g2 q2_18 q2_19 ++ (wCl tc a3 g3_1 (a1 0) (a2 0))))) [0] [1, 2, 3, 4, 5, 6, 7, 8, 9, 10, 11, 12, 13, 14, 15] [15, 0, 1, 2, 3, 4, 5, 6, 7, 8, 9, 10, 11, 12, 13, 14] (As := [.int r_1]) (rest := []) none rfl (oUi (fun u (_ : Option Nat) => (wPU tc a0 g0 (a1 0) (a2 0) q0_2 q0_3 q0_4 q0_5 q0_6 q0_7 (a3 0) q0_9 q0_10 q0_13 ++ (wTp tc a1 u.1 ++ (wSt tc a2 g2 q2_18 q2_19 ++ (wCl tc a3 u.2 (a1 0) (a2 0)))))) (h1_2 _ rfl)) X hT hQ (c_X11_needRows l hst dC dI sk sv tc a0 (a1 0) (a2 0) q0_2 q0_3 q0_4 q0_5 q0_6 q0_7 (a3 0) q0_9 q0_10 q0_13 g0 r_1 hc_2) mw_6_99 mw_6_101 mp_1_11 mw_1_1 mw_6_102 dc_X11_needRows ⟨Nat.le_of_ble_eq_true rfl, Nat.le_of_ble_eq_true rfl⟩ rfl rfl ⟨Nat.le_of_ble_eq_true rfl, Nat.le_of_ble_eq_true rfl⟩ ⟨rfl, rfl, rfl, rfl, by decide, rfl, rfl⟩ hP (hD _ _ _ _) hS 0 rfl rfl rfl hl.1 (Nat.le_of_ble_eq_true rfl) dX11_hand_8 (Nat.le_of_ble_eq_true rfl) (Nat.le_of_ble_eq_true rfl)
  have h := h2_2 _ rfl
  refine callU_n (ws := (wPU tc a0 g0 (a1 0) (a2 0) q0_2 q0_3 q0_4 q0_5 q0_6 q0_7 (a3 0) q0_9 q0_10 q0_13 ++ (wTp tc a1 g1_1 ++ (wSt tc a2 g2 q2_18 q2_19 ++ (wCl tc a3 g3_1 (a1 0) (a2 0)))))) (ws' := (wPU tc a0 g0 (a1 0) (a2 0) q0_2 q0_3 q0_4 q0_5 q0_6 q0_7 (a3 0) q0_9 q0_10 q0_13 ++ (wTp tc a1 g1_1 ++ (wSt tc a2 g2 q2_18 q2_19 ++ (wCl tc a3 g3_1 (a1 0) (a2 0)))))) (wr := (wTp tc a1 g1_1 ++ (wSt tc a2 g2 q2_18 q2_19 ++ (wCl tc a3 g3_1 (a1 0) (a2 0))))) [0] [1, 2, 3, 4, 5, 6, 7, 8, 9, 10, 11, 12, 13, 14, 15] [15, 0, 1, 2, 3, 4, 5, 6, 7, 8, 9, 10, 11, 12, 13, 14] (As := [.int r_1]) (rest := []) X (c_X11_needRows l hst dC dI sk sv tc a0 (a1 0) (a2 0) q0_2 q0_3 q0_4 q0_5 q0_6 q0_7 (a3 0) q0_9 q0_10 q0_13 g0 r_1 hc_2) mw_6_99 mw_6_101 mp_1_11 mw_1_1 mw_6_102 dc_X11_needRows ⟨Nat.le_of_ble_eq_true rfl, Nat.le_of_ble_eq_true rfl⟩ rfl rfl ⟨Nat.le_of_ble_eq_true rfl, Nat.le_of_ble_eq_true rfl⟩ ⟨rfl, rfl, rfl, rfl, by decide, rfl, rfl⟩ hP (hD _ _ _ _) hS 0 rfl rfl rfl hl.1 (Nat.le_of_ble_eq_true rfl) dX11_hand_8 (fun H locs hP hS => ?_)
  refine W.eq (g2 := F0 m 11 ls []) rfl ?_
  refine lv_aload_n X.1 X.2.1 dX11_hand_11 rfl (lv_at hl 0 rfl) ?_
  refine r_get (C := RX11) (T := TX11) (N := 15) (ci := 11) (v := .ref (a3 0)) X iw11 hP 0 rfl rfl 8 rfl mw_2_151 rfl dX11_hand_12 ?_
  obtain ⟨r_3, g3_3, hc_3, h⟩ := bd2_el h
  refine call_Q (ws := (wPU tc a0 g0 (a1 0) (a2 0) q0_2 q0_3 q0_4 q0_5 q0_6 q0_7 (a3 0) q0_9 q0_10 q0_13 ++ (wTp tc a1 g1_1 ++ (wSt tc a2 g2 q2_18 q2_19 ++ (wCl tc a3 g3_1 (a1 0) (a2 0)))))) (ws' := (wPU tc a0 g0 (a1 0) (a2 0) q0_2 q0_3 q0_4 q0_5 q0_6 q0_7 (a3 0) q0_9 q0_10 q0_13 ++ (wTp tc a1 g1_1 ++ (wSt tc a2 g2 q2_18 q2_19 ++ (wCl tc a3 g3_3 (a1 0) (a2 0)))))) (wr := (wPU tc a0 g0 (a1 0) (a2 0) q0_2 q0_3 q0_4 q0_5 q0_6 q0_7 (a3 0) q0_9 q0_10 q0_13)) [13, 14, 15, 1, 2, 3, 4, 5, 6, 7, 8, 9, 10, 11, 12] [0] [0, 4, 5, 6, 7, 8, 9, 10, 11, 12, 13, 14, 15, 1, 2, 3] (As := []) (rest := []) X (c_X1_findSets l dC dI sk sv tc a3 a1 a2 q2_18 q2_19 g3_1 g1_1 g2 hc_3) mw_6_156 mw_6_157 mw_6_158 mw_1_10 mw_6_159 dc_X1_findSets ⟨Nat.le_of_ble_eq_true rfl, Nat.le_of_ble_eq_true rfl⟩ rfl rfl ⟨Nat.le_of_ble_eq_true rfl, Nat.le_of_ble_eq_true rfl⟩ ⟨rfl, rfl, rfl, rfl, by decide, rfl, rfl⟩ hP (hD _ _ _ _) hS 0 rfl rfl rfl hl.1 (Nat.le_of_ble_eq_true rfl) dX11_hand_15 (fun H locs hP hS => ?_)
  refine W.eq (g2 := F0 m 18 ls [.int r_3]) rfl ?_
  refine lv_istore_n (lv' := [(2, .int r_3), (0, .ref (a0 0)), (1, .int x1)]) X.1 X.2.1 dX11_hand_18 rfl hl (by decide) rfl (fun ls hl => ?_)
  refine lv_iload_n X.1 X.2.1 dX11_hand_19 rfl (lv_at hl 2 rfl) ?_
  obtain ⟨J34, eJ34, h⟩ := jn_el h
  have HJ34 : ∀ (s0_J34 : Int32) (H : Heap) (locs : List Loc) (ls : Array Slot), J34 s0_J34 = some res → va_P (dC, dI) vwCl (wPU tc a0 g0 (a1 0) (a2 0) q0_2 q0_3 q0_4 q0_5 q0_6 q0_7 (a3 0) q0_9 q0_10 q0_13 ++ (wTp tc a1 g1_1 ++ (wSt tc a2 g2 q2_18 q2_19 ++ (wCl tc a3 g3_3 (a1 0) (a2 0))))) H → va_S A s.heap H locs → lv_has ls 3 [] → W pr l e rm_X11_hand s m args below meth c H locs 1 6 Q (F0 m 34 ls [.int s0_J34]) := by
    intro s0_J34 H locs ls h hP hS hl
    rw [eJ34] at h
    exact retU_i (fun u (_ : Option Nat) => (wPU tc a0 g0 (a1 0) (a2 0) q0_2 q0_3 q0_4 q0_5 q0_6 q0_7 (a3 0) q0_9 q0_10 q0_13 ++ (wTp tc a1 u.1 ++ (wSt tc a2 g2 q2_18 q2_19 ++ (wCl tc a3 u.2 (a1 0) (a2 0)))))) none (Option.some.inj h) X hQ hP hS (Nat.le_of_ble_eq_true rfl) (Nat.le_of_ble_eq_true rfl) dX11_hand_34
  refine lv_if_eq (tgt := 33) X.1 X.2.1 dX11_hand_20 (by decide) (fun hc => ?_) (fun hc => ?_)
  · have h := it_t hc h
    refine lv_iload_n X.1 X.2.1 dX11_hand_33 rfl (lv_at hl 0 rfl) ?_
    exact HJ34 r_3 H locs ls h hP hS (lv_sub hl [] rfl)
  · have h := it_f hc h
    refine lv_aload_n X.1 X.2.1 dX11_hand_23 rfl (lv_at hl 1 rfl) ?_
    refine r_get (C := RX11) (T := TX11) (N := 15) (ci := 11) (v := .ref (a3 0)) X iw11 hP 0 rfl rfl 8 rfl mw_2_151 rfl dX11_hand_24 ?_
    obtain ⟨r_4, hc_4, h⟩ := bd_el h
    refine call_Q (ws := (wPU tc a0 g0 (a1 0) (a2 0) q0_2 q0_3 q0_4 q0_5 q0_6 q0_7 (a3 0) q0_9 q0_10 q0_13 ++ (wTp tc a1 g1_1 ++ (wSt tc a2 g2 q2_18 q2_19 ++ (wCl tc a3 g3_3 (a1 0) (a2 0)))))) (ws' := (wPU tc a0 g0 (a1 0) (a2 0) q0_2 q0_3 q0_4 q0_5 q0_6 q0_7 (a3 0) q0_9 q0_10 q0_13 ++ (wTp tc a1 g1_1 ++ (wSt tc a2 g2 q2_18 q2_19 ++ (wCl tc a3 g3_3 (a1 0) (a2 0)))))) (wr := (wPU tc a0 g0 (a1 0) (a2 0) q0_2 q0_3 q0_4 q0_5 q0_6 q0_7 (a3 0) q0_9 q0_10 q0_13)) [13, 14, 15, 1, 2, 3, 4, 5, 6, 7, 8, 9, 10, 11, 12] [0] [0, 4, 5, 6, 7, 8, 9, 10, 11, 12, 13, 14, 15, 1, 2, 3] (As := []) (rest := []) X (c_X1_leastSet l dC dI sk sv tc a3 a1 a2 q2_18 q2_19 g3_3 g1_1 g2 hc_4) mw_6_165 mw_6_166 mw_6_167 mw_1_10 mw_6_168 dc_X1_leastSet ⟨Nat.le_of_ble_eq_true rfl, Nat.le_of_ble_eq_true rfl⟩ rfl rfl ⟨Nat.le_of_ble_eq_true rfl, Nat.le_of_ble_eq_true rfl⟩ ⟨rfl, rfl, rfl, rfl, by decide, rfl, rfl⟩ hP (hD _ _ _ _) hS 0 rfl rfl rfl hl.1 (Nat.le_of_ble_eq_true rfl) dX11_hand_27 (fun H locs hP hS => ?_)
    refine W.eq (g2 := F0 m 30 ls [.int r_4]) rfl ?_
    refine lv_goto (tgt := 34) X.1 X.2.1 dX11_hand_30 (by decide) ?_
    exact HJ34 r_4 H locs ls h hP hS (lv_sub hl [] rfl)

def f_X11_ask (g0 : Pic) (g1 : Pic) (g2 : Pic) (g3 : Pic) : Option ((Nat × (Pic × Pic)) ⊕ (Int32 × (Pic × Pic))) := bd3 (f_X1_takeHand g3 g1 g2) (fun r_1 g3_1 g1_1 => lr (f_X11_needRows g0 r_1) (fun e => .inl (e.1, (g1_1, g3_1))) (fun _ => bd2 (f_X1_findSets g3_1 g1_1 g2) (fun r_3 g3_3 => bd2 (f_X1_wordToAsk g3_3 g1_1 g2) (fun r_4 g3_4 => some (.inr (r_4, (g1_1, g3_4)))))))
abbrev rm_X11_ask : Room := { frames := 7, cells := 1, slots := 6, locals := 141 }
set_option maxHeartbeats 4000000 in
set_option maxRecDepth 100000 in
theorem c_X11_ask (l : Launch) (hst : l.stackTraces = false) (dC : Nat → ClassId) (dI : Nat → Nat → Nat) (sk sv : Nat → Nat) (tc : Nat → ClassId) (a0 : Nat → Nat) (q0_2 : Nat) (q0_3 : Nat) (q0_4 : Nat) (q0_5 : Nat) (q0_6 : Nat) (q0_7 : Nat) (q0_9 : Nat) (q0_10 : Nat) (q0_13 : Option Nat) (a1 : Nat → Nat) (a2 : Nat → Nat) (q2_18 : Option Nat) (q2_19 : Nat) (a3 : Nat → Nat) (g0 : Pic) (g1 : Pic) (g2 : Pic) (g3 : Pic) {res : ((Nat × (Pic × Pic)) ⊕ (Int32 × (Pic × Pic)))} (h : f_X11_ask g0 g1 g2 g3 = some res) : CU l (dC, dI) sk sv (TY tc) yX11_ask cX11_ask 1 (some .int) rm_X11_ask 1 6 [.ref (a0 0)] (wPU tc a0 g0 (a1 0) (a2 0) q0_2 q0_3 q0_4 q0_5 q0_6 q0_7 (a3 0) q0_9 q0_10 q0_13 ++ (wTp tc a1 g1 ++ (wSt tc a2 g2 q2_18 q2_19 ++ (wCl tc a3 g3 (a1 0) (a2 0))))) (oI (fun u (_ : Option Nat) => (wPU tc a0 g0 (a1 0) (a2 0) q0_2 q0_3 q0_4 q0_5 q0_6 q0_7 (a3 0) q0_9 q0_10 q0_13 ++ (wTp tc a1 u.1 ++ (wSt tc a2 g2 q2_18 q2_19 ++ (wCl tc a3 u.2 (a1 0) (a2 0)))))) res) := by
  refine ofCU (by decide) (Nat.le_of_ble_eq_true rfl) ?_
  intro pr e s m args below meth c A Q ls H locs X hT hQ hD0 hP hS hl
  have hD : ∀ z0 z1 z2 z3, va_D A (wPU tc a0 z0 (a1 0) (a2 0) q0_2 q0_3 q0_4 q0_5 q0_6 q0_7 (a3 0) q0_9 q0_10 q0_13 ++ (wTp tc a1 z1 ++ (wSt tc a2 z2 q2_18 q2_19 ++ (wCl tc a3 z3 (a1 0) (a2 0))))) := fun z0 z1 z2 z3 => D_fst (ws := (wPU tc a0 g0 (a1 0) (a2 0) q0_2 q0_3 q0_4 q0_5 q0_6 q0_7 (a3 0) q0_9 q0_10 q0_13 ++ (wTp tc a1 g1 ++ (wSt tc a2 g2 q2_18 q2_19 ++ (wCl tc a3 g3 (a1 0) (a2 0)))))) rfl hD0
  have hl : lv_has ls 1 [(0, .ref (a0 0))] := hl
  unfold f_X11_ask at h
  refine lv_aload_n X.1 X.2.1 dX11_ask_0 rfl (lv_at hl 0 rfl) ?_
  refine lv_aload_n X.1 X.2.1 dX11_ask_1 rfl (lv_at hl 0 rfl) ?_
  refine r_get (C := RX11) (T := TX11) (N := 15) (ci := 11) (v := .ref (a3 0)) X iw11 hP 0 rfl rfl 8 rfl mw_2_151 rfl dX11_ask_2 ?_
  obtain ⟨r_1, g3_1, g1_1, hc_1, h⟩ := bd3_el h
  refine call_Q (ws := (wPU tc a0 g0 (a1 0) (a2 0) q0_2 q0_3 q0_4 q0_5 q0_6 q0_7 (a3 0) q0_9 q0_10 q0_13 ++ (wTp tc a1 g1 ++ (wSt tc a2 g2 q2_18 q2_19 ++ (wCl tc a3 g3 (a1 0) (a2 0)))))) (ws' := (wPU tc a0 g0 (a1 0) (a2 0) q0_2 q0_3 q0_4 q0_5 q0_6 q0_7 (a3 0) q0_9 q0_10 q0_13 ++ (wTp tc a1 g1_1 ++ (wSt tc a2 g2 q2_18 q2_19 ++ (wCl tc a3 g3_1 (a1 0) (a2 0)))))) (wr := (wPU tc a0 g0 (a1 0) (a2 0) q0_2 q0_3 q0_4 q0_5 q0_6 q0_7 (a3 0) q0_9 q0_10 q0_13)) [13, 14, 15, 1, 2, 3, 4, 5, 6, 7, 8, 9, 10, 11, 12] [0] [0, 4, 5, 6, 7, 8, 9, 10, 11, 12, 13, 14, 15, 1, 2, 3] (As := []) (rest := [.ref (a0 0)]) X (c_X1_takeHand l dC dI sk sv tc a3 a1 a2 q2_18 q2_19 g3 g1 g2 hc_1) mw_6_152 mw_6_153 mw_6_154 mw_1_10 mw_6_155 dc_X1_takeHand ⟨Nat.le_of_ble_eq_true rfl, Nat.le_of_ble_eq_true rfl⟩ rfl rfl ⟨Nat.zero_le _, Nat.zero_le _⟩ ⟨rfl, rfl, rfl, rfl, by decide, rfl, rfl⟩ hP (hD _ _ _ _) hS 0 rfl rfl rfl hl.1 (Nat.le_of_ble_eq_true rfl) dX11_ask_5 (fun H locs hP hS => ?_)
  refine W.eq (g2 := F0 m 8 ls [.int r_1, .ref (a0 0)]) rfl ?_
  obtain ⟨ex_2, hc_2, h1_2, h2_2⟩ := lr_el h
  rcases ex_2 with e_2 | r_2
  · exact callU_t (ws := (wPU tc a0 g0 (a1 0) (a2 0) q0_2 q0_3 q0_4 q0_5 q0_6 q0_7 (a3 0) q0_9 q0_10 q0_13 ++ (wTp tc a1 g1_1 ++ (wSt tc a2 g2 q2_18 q2_19 ++ (wCl tc a3 g3_1 (a1 0) (a2 0)))))) (ws' := (wPU tc a0 g0 (a1 0) (a2 0) q0_2 q0_3 q0_4 q0_5 q0_6 q0_7 (a3 0) q0_9 q0_10 q0_13 ++ (wTp tc a1 g1_1 ++ (wSt tc a2 g2 q2_18 q2_19 ++ (wCl tc a3 g3_1 (a1 0) (a2 0)))))) (wr := (wTp tc a1 g1_1 ++ (wSt tc a2 g2 q2_18 q2_19 ++ (wCl tc a3 g3_1 (a1 0) (a2 0))))) [0] [1, 2, 3, 4, 5, 6, 7, 8, 9, 10, 11, 12, 13, 14, 15] [15, 0, 1, 2, 3, 4, 5, 6, 7, 8, 9, 10, 11, 12, 13, 14] (As := [.int r_1]) (rest := []) none rfl (oUi (fun u (_ : Option Nat) => (wPU tc a0 g0 (a1 0) (a2 0) q0_2 q0_3 q0_4 q0_5 q0_6 q0_7 (a3 0) q0_9 q0_10 q0_13 ++ (wTp tc a1 u.1 ++ (wSt tc a2 g2 q2_18 q2_19 ++ (wCl tc a3 u.2 (a1 0) (a2 0)))))) (h1_2 _ rfl)) X hT hQ (c_X11_needRows l hst dC dI sk sv tc a0 (a1 0) (a2 0) q0_2 q0_3 q0_4 q0_5 q0_6 q0_7 (a3 0) q0_9 q0_10 q0_13 g0 r_1 hc_2) mw_6_99 mw_6_101 mp_1_11 mw_1_1 mw_6_102 dc_X11_needRows ⟨Nat.le_of_ble_eq_true rfl, Nat.le_of_ble_eq_true rfl⟩ rfl rfl ⟨Nat.le_of_ble_eq_true rfl, Nat.le_of_ble_eq_true rfl⟩ ⟨rfl, rfl, rfl, rfl, by decide, rfl, rfl⟩ hP (hD _ _ _ _) hS 0 rfl rfl rfl hl.1 (Nat.le_of_ble_eq_true rfl) dX11_ask_8 (Nat.le_of_ble_eq_true rfl) (Nat.le_of_ble_eq_true rfl)
  have h := h2_2 _ rfl
  refine callU_n (ws := (wPU tc a0 g0 (a1 0) (a2 0) q0_2 q0_3 q0_4 q0_5 q0_6 q0_7 (a3 0) q0_9 q0_10 q0_13 ++ (wTp tc a1 g1_1 ++ (wSt tc a2 g2 q2_18 q2_19 ++ (wCl tc a3 g3_1 (a1 0) (a2 0)))))) (ws' := (wPU tc a0 g0 (a1 0) (a2 0) q0_2 q0_3 q0_4 q0_5 q0_6 q0_7 (a3 0) q0_9 q0_10 q0_13 ++ (wTp tc a1 g1_1 ++ (wSt tc a2 g2 q2_18 q2_19 ++ (wCl tc a3 g3_1 (a1 0) (a2 0)))))) (wr := (wTp tc a1 g1_1 ++ (wSt tc a2 g2 q2_18 q2_19 ++ (wCl tc a3 g3_1 (a1 0) (a2 0))))) [0] [1, 2, 3, 4, 5, 6, 7, 8, 9, 10, 11, 12, 13, 14, 15] [15, 0, 1, 2, 3, 4, 5, 6, 7, 8, 9, 10, 11, 12, 13, 14] (As := [.int r_1]) (rest := []) X (c_X11_needRows l hst dC dI sk sv tc a0 (a1 0) (a2 0) q0_2 q0_3 q0_4 q0_5 q0_6 q0_7 (a3 0) q0_9 q0_10 q0_13 g0 r_1 hc_2) mw_6_99 mw_6_101 mp_1_11 mw_1_1 mw_6_102 dc_X11_needRows ⟨Nat.le_of_ble_eq_true rfl, Nat.le_of_ble_eq_true rfl⟩ rfl rfl ⟨Nat.le_of_ble_eq_true rfl, Nat.le_of_ble_eq_true rfl⟩ ⟨rfl, rfl, rfl, rfl, by decide, rfl, rfl⟩ hP (hD _ _ _ _) hS 0 rfl rfl rfl hl.1 (Nat.le_of_ble_eq_true rfl) dX11_ask_8 (fun H locs hP hS => ?_)
  refine W.eq (g2 := F0 m 11 ls []) rfl ?_
  refine lv_aload_n X.1 X.2.1 dX11_ask_11 rfl (lv_at hl 0 rfl) ?_
  refine r_get (C := RX11) (T := TX11) (N := 15) (ci := 11) (v := .ref (a3 0)) X iw11 hP 0 rfl rfl 8 rfl mw_2_151 rfl dX11_ask_12 ?_
  obtain ⟨r_3, g3_3, hc_3, h⟩ := bd2_el h
  refine call_Q (ws := (wPU tc a0 g0 (a1 0) (a2 0) q0_2 q0_3 q0_4 q0_5 q0_6 q0_7 (a3 0) q0_9 q0_10 q0_13 ++ (wTp tc a1 g1_1 ++ (wSt tc a2 g2 q2_18 q2_19 ++ (wCl tc a3 g3_1 (a1 0) (a2 0)))))) (ws' := (wPU tc a0 g0 (a1 0) (a2 0) q0_2 q0_3 q0_4 q0_5 q0_6 q0_7 (a3 0) q0_9 q0_10 q0_13 ++ (wTp tc a1 g1_1 ++ (wSt tc a2 g2 q2_18 q2_19 ++ (wCl tc a3 g3_3 (a1 0) (a2 0)))))) (wr := (wPU tc a0 g0 (a1 0) (a2 0) q0_2 q0_3 q0_4 q0_5 q0_6 q0_7 (a3 0) q0_9 q0_10 q0_13)) [13, 14, 15, 1, 2, 3, 4, 5, 6, 7, 8, 9, 10, 11, 12] [0] [0, 4, 5, 6, 7, 8, 9, 10, 11, 12, 13, 14, 15, 1, 2, 3] (As := []) (rest := []) X (c_X1_findSets l dC dI sk sv tc a3 a1 a2 q2_18 q2_19 g3_1 g1_1 g2 hc_3) mw_6_156 mw_6_157 mw_6_158 mw_1_10 mw_6_159 dc_X1_findSets ⟨Nat.le_of_ble_eq_true rfl, Nat.le_of_ble_eq_true rfl⟩ rfl rfl ⟨Nat.le_of_ble_eq_true rfl, Nat.le_of_ble_eq_true rfl⟩ ⟨rfl, rfl, rfl, rfl, by decide, rfl, rfl⟩ hP (hD _ _ _ _) hS 0 rfl rfl rfl hl.1 (Nat.le_of_ble_eq_true rfl) dX11_ask_15 (fun H locs hP hS => ?_)
  refine W.eq (g2 := F0 m 18 ls [.int r_3]) rfl ?_
  refine lv_pop X.1 X.2.1 dX11_ask_18 rfl ?_
  refine lv_aload_n X.1 X.2.1 dX11_ask_19 rfl (lv_at hl 0 rfl) ?_
  refine r_get (C := RX11) (T := TX11) (N := 15) (ci := 11) (v := .ref (a3 0)) X iw11 hP 0 rfl rfl 8 rfl mw_2_151 rfl dX11_ask_20 ?_
  obtain ⟨r_4, g3_4, hc_4, h⟩ := bd2_el h
  refine call_Q (ws := (wPU tc a0 g0 (a1 0) (a2 0) q0_2 q0_3 q0_4 q0_5 q0_6 q0_7 (a3 0) q0_9 q0_10 q0_13 ++ (wTp tc a1 g1_1 ++ (wSt tc a2 g2 q2_18 q2_19 ++ (wCl tc a3 g3_3 (a1 0) (a2 0)))))) (ws' := (wPU tc a0 g0 (a1 0) (a2 0) q0_2 q0_3 q0_4 q0_5 q0_6 q0_7 (a3 0) q0_9 q0_10 q0_13 ++ (wTp tc a1 g1_1 ++ (wSt tc a2 g2 q2_18 q2_19 ++ (wCl tc a3 g3_4 (a1 0) (a2 0)))))) (wr := (wPU tc a0 g0 (a1 0) (a2 0) q0_2 q0_3 q0_4 q0_5 q0_6 q0_7 (a3 0) q0_9 q0_10 q0_13)) [13, 14, 15, 1, 2, 3, 4, 5, 6, 7, 8, 9, 10, 11, 12] [0] [0, 4, 5, 6, 7, 8, 9, 10, 11, 12, 13, 14, 15, 1, 2, 3] (As := []) (rest := []) X (c_X1_wordToAsk l dC dI sk sv tc a3 a1 a2 q2_18 q2_19 g3_3 g1_1 g2 hc_4) mw_6_176 mw_6_177 mw_6_178 mw_1_10 mw_6_179 dc_X1_wordToAsk ⟨Nat.le_of_ble_eq_true rfl, Nat.le_of_ble_eq_true rfl⟩ rfl rfl ⟨Nat.le_of_ble_eq_true rfl, Nat.le_of_ble_eq_true rfl⟩ ⟨rfl, rfl, rfl, rfl, by decide, rfl, rfl⟩ hP (hD _ _ _ _) hS 0 rfl rfl rfl hl.1 (Nat.le_of_ble_eq_true rfl) dX11_ask_23 (fun H locs hP hS => ?_)
  refine W.eq (g2 := F0 m 26 ls [.int r_4]) rfl ?_
  exact retU_i (fun u (_ : Option Nat) => (wPU tc a0 g0 (a1 0) (a2 0) q0_2 q0_3 q0_4 q0_5 q0_6 q0_7 (a3 0) q0_9 q0_10 q0_13 ++ (wTp tc a1 u.1 ++ (wSt tc a2 g2 q2_18 q2_19 ++ (wCl tc a3 u.2 (a1 0) (a2 0)))))) none (Option.some.inj h) X hQ hP hS (Nat.le_of_ble_eq_true rfl) (Nat.le_of_ble_eq_true rfl) dX11_ask_26

def f_X11_whose (g0 : Pic) (g1 : Pic) (g2 : Pic) (g3 : Pic) : Option ((Nat × (Pic × Pic)) ⊕ (Int32 × (Pic × Pic))) := bd3 (f_X1_takeHand g3 g1 g2) (fun r_1 g3_1 g1_1 => lr (f_X11_needRows g0 r_1) (fun e => .inl (e.1, (g1_1, g3_1))) (fun _ => bd (f_X1_fittingWriters g3_1 g1_1 g2) (fun r_3 => some (.inr (r_3, (g1_1, g3_1))))))
abbrev rm_X11_whose : Room := { frames := 7, cells := 1, slots := 6, locals := 141 }
set_option maxHeartbeats 4000000 in
set_option maxRecDepth 100000 in
theorem c_X11_whose (l : Launch) (hst : l.stackTraces = false) (dC : Nat → ClassId) (dI : Nat → Nat → Nat) (sk sv : Nat → Nat) (tc : Nat → ClassId) (a0 : Nat → Nat) (q0_2 : Nat) (q0_3 : Nat) (q0_4 : Nat) (q0_5 : Nat) (q0_6 : Nat) (q0_7 : Nat) (q0_9 : Nat) (q0_10 : Nat) (q0_13 : Option Nat) (a1 : Nat → Nat) (a2 : Nat → Nat) (q2_18 : Option Nat) (q2_19 : Nat) (a3 : Nat → Nat) (g0 : Pic) (g1 : Pic) (g2 : Pic) (g3 : Pic) {res : ((Nat × (Pic × Pic)) ⊕ (Int32 × (Pic × Pic)))} (h : f_X11_whose g0 g1 g2 g3 = some res) : CU l (dC, dI) sk sv (TY tc) yX11_whose cX11_whose 1 (some .int) rm_X11_whose 1 6 [.ref (a0 0)] (wPU tc a0 g0 (a1 0) (a2 0) q0_2 q0_3 q0_4 q0_5 q0_6 q0_7 (a3 0) q0_9 q0_10 q0_13 ++ (wTp tc a1 g1 ++ (wSt tc a2 g2 q2_18 q2_19 ++ (wCl tc a3 g3 (a1 0) (a2 0))))) (oI (fun u (_ : Option Nat) => (wPU tc a0 g0 (a1 0) (a2 0) q0_2 q0_3 q0_4 q0_5 q0_6 q0_7 (a3 0) q0_9 q0_10 q0_13 ++ (wTp tc a1 u.1 ++ (wSt tc a2 g2 q2_18 q2_19 ++ (wCl tc a3 u.2 (a1 0) (a2 0)))))) res) := by
  refine ofCU (by decide) (Nat.le_of_ble_eq_true rfl) ?_
  intro pr e s m args below meth c A Q ls H locs X hT hQ hD0 hP hS hl
  have hD : ∀ z0 z1 z2 z3, va_D A (wPU tc a0 z0 (a1 0) (a2 0) q0_2 q0_3 q0_4 q0_5 q0_6 q0_7 (a3 0) q0_9 q0_10 q0_13 ++ (wTp tc a1 z1 ++ (wSt tc a2 z2 q2_18 q2_19 ++ (wCl tc a3 z3 (a1 0) (a2 0))))) := fun z0 z1 z2 z3 => D_fst (ws := (wPU tc a0 g0 (a1 0) (a2 0) q0_2 q0_3 q0_4 q0_5 q0_6 q0_7 (a3 0) q0_9 q0_10 q0_13 ++ (wTp tc a1 g1 ++ (wSt tc a2 g2 q2_18 q2_19 ++ (wCl tc a3 g3 (a1 0) (a2 0)))))) rfl hD0
  have hl : lv_has ls 1 [(0, .ref (a0 0))] := hl
  unfold f_X11_whose at h
  refine lv_aload_n X.1 X.2.1 dX11_whose_0 rfl (lv_at hl 0 rfl) ?_
  refine lv_aload_n X.1 X.2.1 dX11_whose_1 rfl (lv_at hl 0 rfl) ?_
  refine r_get (C := RX11) (T := TX11) (N := 15) (ci := 11) (v := .ref (a3 0)) X iw11 hP 0 rfl rfl 8 rfl mw_2_151 rfl dX11_whose_2 ?_
  obtain ⟨r_1, g3_1, g1_1, hc_1, h⟩ := bd3_el h
  refine call_Q (ws := (wPU tc a0 g0 (a1 0) (a2 0) q0_2 q0_3 q0_4 q0_5 q0_6 q0_7 (a3 0) q0_9 q0_10 q0_13 ++ (wTp tc a1 g1 ++ (wSt tc a2 g2 q2_18 q2_19 ++ (wCl tc a3 g3 (a1 0) (a2 0)))))) (ws' := (wPU tc a0 g0 (a1 0) (a2 0) q0_2 q0_3 q0_4 q0_5 q0_6 q0_7 (a3 0) q0_9 q0_10 q0_13 ++ (wTp tc a1 g1_1 ++ (wSt tc a2 g2 q2_18 q2_19 ++ (wCl tc a3 g3_1 (a1 0) (a2 0)))))) (wr := (wPU tc a0 g0 (a1 0) (a2 0) q0_2 q0_3 q0_4 q0_5 q0_6 q0_7 (a3 0) q0_9 q0_10 q0_13)) [13, 14, 15, 1, 2, 3, 4, 5, 6, 7, 8, 9, 10, 11, 12] [0] [0, 4, 5, 6, 7, 8, 9, 10, 11, 12, 13, 14, 15, 1, 2, 3] (As := []) (rest := [.ref (a0 0)]) X (c_X1_takeHand l dC dI sk sv tc a3 a1 a2 q2_18 q2_19 g3 g1 g2 hc_1) mw_6_152 mw_6_153 mw_6_154 mw_1_10 mw_6_155 dc_X1_takeHand ⟨Nat.le_of_ble_eq_true rfl, Nat.le_of_ble_eq_true rfl⟩ rfl rfl ⟨Nat.zero_le _, Nat.zero_le _⟩ ⟨rfl, rfl, rfl, rfl, by decide, rfl, rfl⟩ hP (hD _ _ _ _) hS 0 rfl rfl rfl hl.1 (Nat.le_of_ble_eq_true rfl) dX11_whose_5 (fun H locs hP hS => ?_)
  refine W.eq (g2 := F0 m 8 ls [.int r_1, .ref (a0 0)]) rfl ?_
  obtain ⟨ex_2, hc_2, h1_2, h2_2⟩ := lr_el h
  rcases ex_2 with e_2 | r_2
  · exact callU_t (ws := (wPU tc a0 g0 (a1 0) (a2 0) q0_2 q0_3 q0_4 q0_5 q0_6 q0_7 (a3 0) q0_9 q0_10 q0_13 ++ (wTp tc a1 g1_1 ++ (wSt tc a2 g2 q2_18 q2_19 ++ (wCl tc a3 g3_1 (a1 0) (a2 0)))))) (ws' := (wPU tc a0 g0 (a1 0) (a2 0) q0_2 q0_3 q0_4 q0_5 q0_6 q0_7 (a3 0) q0_9 q0_10 q0_13 ++ (wTp tc a1 g1_1 ++ (wSt tc a2 g2 q2_18 q2_19 ++ (wCl tc a3 g3_1 (a1 0) (a2 0)))))) (wr := (wTp tc a1 g1_1 ++ (wSt tc a2 g2 q2_18 q2_19 ++ (wCl tc a3 g3_1 (a1 0) (a2 0))))) [0] [1, 2, 3, 4, 5, 6, 7, 8, 9, 10, 11, 12, 13, 14, 15] [15, 0, 1, 2, 3, 4, 5, 6, 7, 8, 9, 10, 11, 12, 13, 14] (As := [.int r_1]) (rest := []) none rfl (oUi (fun u (_ : Option Nat) => (wPU tc a0 g0 (a1 0) (a2 0) q0_2 q0_3 q0_4 q0_5 q0_6 q0_7 (a3 0) q0_9 q0_10 q0_13 ++ (wTp tc a1 u.1 ++ (wSt tc a2 g2 q2_18 q2_19 ++ (wCl tc a3 u.2 (a1 0) (a2 0)))))) (h1_2 _ rfl)) X hT hQ (c_X11_needRows l hst dC dI sk sv tc a0 (a1 0) (a2 0) q0_2 q0_3 q0_4 q0_5 q0_6 q0_7 (a3 0) q0_9 q0_10 q0_13 g0 r_1 hc_2) mw_6_99 mw_6_101 mp_1_11 mw_1_1 mw_6_102 dc_X11_needRows ⟨Nat.le_of_ble_eq_true rfl, Nat.le_of_ble_eq_true rfl⟩ rfl rfl ⟨Nat.le_of_ble_eq_true rfl, Nat.le_of_ble_eq_true rfl⟩ ⟨rfl, rfl, rfl, rfl, by decide, rfl, rfl⟩ hP (hD _ _ _ _) hS 0 rfl rfl rfl hl.1 (Nat.le_of_ble_eq_true rfl) dX11_whose_8 (Nat.le_of_ble_eq_true rfl) (Nat.le_of_ble_eq_true rfl)
  have h := h2_2 _ rfl
  refine callU_n (ws := (wPU tc a0 g0 (a1 0) (a2 0) q0_2 q0_3 q0_4 q0_5 q0_6 q0_7 (a3 0) q0_9 q0_10 q0_13 ++ (wTp tc a1 g1_1 ++ (wSt tc a2 g2 q2_18 q2_19 ++ (wCl tc a3 g3_1 (a1 0) (a2 0)))))) (ws' := (wPU tc a0 g0 (a1 0) (a2 0) q0_2 q0_3 q0_4 q0_5 q0_6 q0_7 (a3 0) q0_9 q0_10 q0_13 ++ (wTp tc a1 g1_1 ++ (wSt tc a2 g2 q2_18 q2_19 ++ (wCl tc a3 g3_1 (a1 0) (a2 0)))))) (wr := (wTp tc a1 g1_1 ++ (wSt tc a2 g2 q2_18 q2_19 ++ (wCl tc a3 g3_1 (a1 0) (a2 0))))) [0] [1, 2, 3, 4, 5, 6, 7, 8, 9, 10, 11, 12, 13, 14, 15] [15, 0, 1, 2, 3, 4, 5, 6, 7, 8, 9, 10, 11, 12, 13, 14] (As := [.int r_1]) (rest := []) X (c_X11_needRows l hst dC dI sk sv tc a0 (a1 0) (a2 0) q0_2 q0_3 q0_4 q0_5 q0_6 q0_7 (a3 0) q0_9 q0_10 q0_13 g0 r_1 hc_2) mw_6_99 mw_6_101 mp_1_11 mw_1_1 mw_6_102 dc_X11_needRows ⟨Nat.le_of_ble_eq_true rfl, Nat.le_of_ble_eq_true rfl⟩ rfl rfl ⟨Nat.le_of_ble_eq_true rfl, Nat.le_of_ble_eq_true rfl⟩ ⟨rfl, rfl, rfl, rfl, by decide, rfl, rfl⟩ hP (hD _ _ _ _) hS 0 rfl rfl rfl hl.1 (Nat.le_of_ble_eq_true rfl) dX11_whose_8 (fun H locs hP hS => ?_)
  refine W.eq (g2 := F0 m 11 ls []) rfl ?_
  refine lv_aload_n X.1 X.2.1 dX11_whose_11 rfl (lv_at hl 0 rfl) ?_
  refine r_get (C := RX11) (T := TX11) (N := 15) (ci := 11) (v := .ref (a3 0)) X iw11 hP 0 rfl rfl 8 rfl mw_2_151 rfl dX11_whose_12 ?_
  obtain ⟨r_3, hc_3, h⟩ := bd_el h
  refine call_Q (ws := (wPU tc a0 g0 (a1 0) (a2 0) q0_2 q0_3 q0_4 q0_5 q0_6 q0_7 (a3 0) q0_9 q0_10 q0_13 ++ (wTp tc a1 g1_1 ++ (wSt tc a2 g2 q2_18 q2_19 ++ (wCl tc a3 g3_1 (a1 0) (a2 0)))))) (ws' := (wPU tc a0 g0 (a1 0) (a2 0) q0_2 q0_3 q0_4 q0_5 q0_6 q0_7 (a3 0) q0_9 q0_10 q0_13 ++ (wTp tc a1 g1_1 ++ (wSt tc a2 g2 q2_18 q2_19 ++ (wCl tc a3 g3_1 (a1 0) (a2 0)))))) (wr := (wPU tc a0 g0 (a1 0) (a2 0) q0_2 q0_3 q0_4 q0_5 q0_6 q0_7 (a3 0) q0_9 q0_10 q0_13)) [13, 14, 15, 1, 2, 3, 4, 5, 6, 7, 8, 9, 10, 11, 12] [0] [0, 4, 5, 6, 7, 8, 9, 10, 11, 12, 13, 14, 15, 1, 2, 3] (As := []) (rest := []) X (c_X1_fittingWriters l dC dI sk sv tc a3 a1 a2 q2_18 q2_19 g3_1 g1_1 g2 hc_3) mw_6_191 mw_6_192 mw_6_193 mw_1_10 mw_6_194 dc_X1_fittingWriters ⟨Nat.le_of_ble_eq_true rfl, Nat.le_of_ble_eq_true rfl⟩ rfl rfl ⟨Nat.le_of_ble_eq_true rfl, Nat.le_of_ble_eq_true rfl⟩ ⟨rfl, rfl, rfl, rfl, by decide, rfl, rfl⟩ hP (hD _ _ _ _) hS 0 rfl rfl rfl hl.1 (Nat.le_of_ble_eq_true rfl) dX11_whose_15 (fun H locs hP hS => ?_)
  refine W.eq (g2 := F0 m 18 ls [.int r_3]) rfl ?_
  exact retU_i (fun u (_ : Option Nat) => (wPU tc a0 g0 (a1 0) (a2 0) q0_2 q0_3 q0_4 q0_5 q0_6 q0_7 (a3 0) q0_9 q0_10 q0_13 ++ (wTp tc a1 u.1 ++ (wSt tc a2 g2 q2_18 q2_19 ++ (wCl tc a3 u.2 (a1 0) (a2 0)))))) none (Option.some.inj h) X hQ hP hS (Nat.le_of_ble_eq_true rfl) (Nat.le_of_ble_eq_true rfl) dX11_whose_18

def f_X11_fluent_L4 (g0 : Pic) (g1 : Pic) (n : Nat) (a : Int32 × Int32 × Pic × Pic) : Option (Int32 × Pic × Pic) := lp (fun (rec : Int32 × Int32 × Pic × Pic → Option (Int32 × Pic × Pic)) (a : Int32 × Int32 × Pic × Pic) => match a with | (x1, x2, g2, g3) => (if (g1 7 0) ≤ x2 then some (x1, g2, g3) else bd3 (f_X8_lagOf g3 g2 g1 x2 (g1 13 0)) (fun r_1 g3_1 g2_1 => jn (fun (x1_J39 : Int32) => nm (x2 + 1) (fun x2_2 => rec (x1_J39, x2_2, g2_1, g3_1))) (fun J39 => (if r_1 = 0 then nm ((x1 ||| ((1 : Int32) <<< (x2 &&& 31)))) (fun x1_3 => J39 x1_3) else J39 x1))))) n a
def f_X11_fluent (g0 : Pic) (g1 : Pic) (g2 : Pic) (g3 : Pic) : Option (Int32 × Pic × Pic) := bd (f_X11_fluent_L4 g0 g1 fu (0, 0, g2, g3)) (fun (x1_4, g2_4, g3_4) => some (x1_4, g2_4, g3_4))
abbrev rm_X11_fluent : Room := { frames := 2, cells := 0, slots := 0, locals := 66 }
set_option maxHeartbeats 4000000 in
set_option maxRecDepth 100000 in
theorem c_X11_fluent (l : Launch) (dC : Nat → ClassId) (dI : Nat → Nat → Nat) (sk sv : Nat → Nat) (tc : Nat → ClassId) (a0 : Nat → Nat) (q0_0 : Nat) (q0_2 : Nat) (q0_3 : Nat) (q0_4 : Nat) (q0_6 : Nat) (q0_7 : Nat) (q0_8 : Nat) (q0_10 : Nat) (q0_13 : Option Nat) (a1 : Nat → Nat) (q1_18 : Option Nat) (q1_19 : Nat) (a2 : Nat → Nat) (a3 : Nat → Nat) (g0 : Pic) (g1 : Pic) (g2 : Pic) (g3 : Pic) {r0 : Int32} {G2 : Pic} {G3 : Pic} (h : f_X11_fluent g0 g1 g2 g3 = some (r0, G2, G3)) : CT l (dC, dI) sk sv (TY tc) yX11_fluent cX11_fluent 3 (some .int) rm_X11_fluent [.ref (a0 0)] (wPU tc a0 g0 q0_0 (a1 0) q0_2 q0_3 q0_4 (a2 0) q0_6 q0_7 q0_8 (a3 0) q0_10 q0_13 ++ (wSt tc a1 g1 q1_18 q1_19 ++ (wHd tc a2 g2 ++ (wSc tc a3 g3 (a1 0) (a2 0))))) (some (.int r0)) (wPU tc a0 g0 q0_0 (a1 0) q0_2 q0_3 q0_4 (a2 0) q0_6 q0_7 q0_8 (a3 0) q0_10 q0_13 ++ (wSt tc a1 g1 q1_18 q1_19 ++ (wHd tc a2 G2 ++ (wSc tc a3 G3 (a1 0) (a2 0))))) := by
  refine ofCT (by decide) (Nat.le_of_ble_eq_true rfl) ?_
  intro pr e s m args below meth c A Q ls H locs X hQ hD0 hP hS hl
  have hD : ∀ z0 z1 z2 z3, va_D A (wPU tc a0 z0 q0_0 (a1 0) q0_2 q0_3 q0_4 (a2 0) q0_6 q0_7 q0_8 (a3 0) q0_10 q0_13 ++ (wSt tc a1 z1 q1_18 q1_19 ++ (wHd tc a2 z2 ++ (wSc tc a3 z3 (a1 0) (a2 0))))) := fun z0 z1 z2 z3 => D_fst (ws := (wPU tc a0 g0 q0_0 (a1 0) q0_2 q0_3 q0_4 (a2 0) q0_6 q0_7 q0_8 (a3 0) q0_10 q0_13 ++ (wSt tc a1 g1 q1_18 q1_19 ++ (wHd tc a2 g2 ++ (wSc tc a3 g3 (a1 0) (a2 0)))))) rfl hD0
  have hl : lv_has ls 3 [(0, .ref (a0 0))] := hl
  have HL4 : ∀ (n : Nat) (x1 : Int32) (x2 : Int32) (g2 : Pic) (g3 : Pic) (ex : (Int32 × Pic × Pic)), f_X11_fluent_L4 g0 g1 n (x1, x2, g2, g3) = some ex → ∀ (H : Heap) (locs : List Loc) (ls : Array Slot), va_P (dC, dI) vwCl (wPU tc a0 g0 q0_0 (a1 0) q0_2 q0_3 q0_4 (a2 0) q0_6 q0_7 q0_8 (a3 0) q0_10 q0_13 ++ (wSt tc a1 g1 q1_18 q1_19 ++ (wHd tc a2 g2 ++ (wSc tc a3 g3 (a1 0) (a2 0))))) H → va_S A s.heap H locs → lv_has ls 3 [(0, .ref (a0 0)), (1, .int x1), (2, .int x2)] → (∀ (y1 : Int32) (k2 : Pic) (k3 : Pic), (y1, k2, k3) = ex → ∀ (H : Heap) (locs : List Loc) (ls : Array Slot), va_P (dC, dI) vwCl (wPU tc a0 g0 q0_0 (a1 0) q0_2 q0_3 q0_4 (a2 0) q0_6 q0_7 q0_8 (a3 0) q0_10 q0_13 ++ (wSt tc a1 g1 q1_18 q1_19 ++ (wHd tc a2 k2 ++ (wSc tc a3 k3 (a1 0) (a2 0))))) H → va_S A s.heap H locs → lv_has ls 3 [(1, .int y1)] → W pr l e rm_X11_fluent s m args below meth c H locs 0 0 Q (F0 m 45 ls [])) → W pr l e rm_X11_fluent s m args below meth c H locs 0 0 Q (F0 m 4 ls []) := by
    intro n
    induction n with
    | zero => intro x1 x2 g2 g3 ex h; exact lp_z h
    | succ n ih =>
      intro x1 x2 g2 g3 ex h H locs ls hP hS hl K
      have h := lp_s h
      refine lv_iload_n X.1 X.2.1 dX11_fluent_4 rfl (lv_at hl 2 rfl) ?_
      refine lv_aload_n X.1 X.2.1 dX11_fluent_5 rfl (lv_at hl 0 rfl) ?_
      refine r_get (C := RX11) (T := TX11) (N := 15) (ci := 11) (v := .ref (a1 0)) X iw11 hP 0 rfl rfl 1 rfl mw_2_144 rfl dX11_fluent_6 ?_
      refine r_get (C := RX9) (T := TX9) (N := 20) (ci := 9) (v := .int (g1 7 0)) X iw9 hP 1 rfl rfl 7 rfl mw_1_146 rfl dX11_fluent_9 ?_
      refine lv_icmp_ge (tgt := 45) X.1 X.2.1 dX11_fluent_12 (by decide) (fun hc => ?_) (fun hc => ?_)
      · have h := it_t hc h
        exact K x1 g2 g3 (Option.some.inj h) H locs ls hP hS (lv_sub hl [1] rfl)
      · have h := it_f hc h
        refine lv_aload_n X.1 X.2.1 dX11_fluent_15 rfl (lv_at hl 0 rfl) ?_
        refine r_get (C := RX11) (T := TX11) (N := 15) (ci := 11) (v := .ref (a3 0)) X iw11 hP 0 rfl rfl 9 rfl mw_2_152 rfl dX11_fluent_16 ?_
        refine lv_iload_n X.1 X.2.1 dX11_fluent_19 rfl (lv_at hl 2 rfl) ?_
        refine lv_aload_n X.1 X.2.1 dX11_fluent_20 rfl (lv_at hl 0 rfl) ?_
        refine r_get (C := RX11) (T := TX11) (N := 15) (ci := 11) (v := .ref (a1 0)) X iw11 hP 0 rfl rfl 1 rfl mw_2_144 rfl dX11_fluent_21 ?_
        refine r_get (C := RX9) (T := TX9) (N := 20) (ci := 9) (v := .int (g1 13 0)) X iw9 hP 1 rfl rfl 13 rfl mw_1_175 rfl dX11_fluent_24 ?_
        obtain ⟨r_1, g3_1, g2_1, hc_1, h⟩ := bd3_el h
        refine call_Q (ws := (wPU tc a0 g0 q0_0 (a1 0) q0_2 q0_3 q0_4 (a2 0) q0_6 q0_7 q0_8 (a3 0) q0_10 q0_13 ++ (wSt tc a1 g1 q1_18 q1_19 ++ (wHd tc a2 g2 ++ (wSc tc a3 g3 (a1 0) (a2 0)))))) (ws' := (wPU tc a0 g0 q0_0 (a1 0) q0_2 q0_3 q0_4 (a2 0) q0_6 q0_7 q0_8 (a3 0) q0_10 q0_13 ++ (wSt tc a1 g1 q1_18 q1_19 ++ (wHd tc a2 g2_1 ++ (wSc tc a3 g3_1 (a1 0) (a2 0)))))) (wr := (wPU tc a0 g0 q0_0 (a1 0) q0_2 q0_3 q0_4 (a2 0) q0_6 q0_7 q0_8 (a3 0) q0_10 q0_13)) [16, 17, 18, 19, 11, 12, 13, 14, 15, 1, 2, 3, 4, 5, 6, 7, 8, 9, 10] [0] [0, 10, 11, 12, 13, 14, 15, 16, 17, 18, 19, 5, 6, 7, 8, 9, 1, 2, 3, 4] (As := [.int x2, .int (g1 13 0)]) (rest := []) X (c_X8_lagOf l dC dI sk sv tc a3 a2 a1 q1_18 q1_19 g3 g2 g1 x2 (g1 13 0) hc_1) mw_3_15 mw_3_16 mw_3_17 mw_1_11 mw_3_18 dc_X8_lagOf ⟨Nat.le_of_ble_eq_true rfl, Nat.le_of_ble_eq_true rfl⟩ rfl rfl ⟨Nat.zero_le _, Nat.zero_le _⟩ ⟨rfl, rfl, rfl, rfl, by decide, rfl, rfl⟩ hP (hD _ _ _ _) hS 0 rfl rfl rfl hl.1 (Nat.le_of_ble_eq_true rfl) dX11_fluent_27 (fun H locs hP hS => ?_)
        refine W.eq (g2 := F0 m 30 ls [.int r_1]) rfl ?_
        obtain ⟨J39, eJ39, h⟩ := jn_el h
        have HJ39 : ∀ (x1_J39 : Int32) (H : Heap) (locs : List Loc) (ls : Array Slot), J39 x1_J39 = some ex → va_P (dC, dI) vwCl (wPU tc a0 g0 q0_0 (a1 0) q0_2 q0_3 q0_4 (a2 0) q0_6 q0_7 q0_8 (a3 0) q0_10 q0_13 ++ (wSt tc a1 g1 q1_18 q1_19 ++ (wHd tc a2 g2_1 ++ (wSc tc a3 g3_1 (a1 0) (a2 0))))) H → va_S A s.heap H locs → lv_has ls 3 [(0, .ref (a0 0)), (1, .int x1_J39), (2, .int x2)] → W pr l e rm_X11_fluent s m args below meth c H locs 0 0 Q (F0 m 39 ls []) := by
          intro x1_J39 H locs ls h hP hS hl
          rw [eJ39] at h
          obtain ⟨x2_2, ex2_2, h⟩ := nm_el h
          refine lv_iinc (v := x2_2) (lv' := [(2, .int x2_2), (0, .ref (a0 0)), (1, .int x1_J39)]) X.1 X.2.1 dX11_fluent_39 hl (k := 2) rfl (by rw [ex2_2]; rfl) (by decide) rfl (fun ls hl => ?_)
          refine lv_goto (tgt := 4) X.1 X.2.1 dX11_fluent_42 (by decide) ?_
          exact ih x1_J39 x2_2 g2_1 g3_1 ex h H locs ls hP hS (lv_sub hl [1, 2, 0] rfl) K
        refine lv_if_ne (tgt := 39) X.1 X.2.1 dX11_fluent_30 (by decide) (fun hc => ?_) (fun hc => ?_)
        · have h := it_f hc h
          exact HJ39 x1 H locs ls h hP hS (lv_sub hl [0, 1, 2] rfl)
        · have h := it_t hc h
          refine lv_iload_n X.1 X.2.1 dX11_fluent_33 rfl (lv_at hl 1 rfl) ?_
          refine lv_iconst (v := 1) X.1 X.2.1 dX11_fluent_34 (by decide) ?_
          refine lv_iload_n X.1 X.2.1 dX11_fluent_35 rfl (lv_at hl 2 rfl) ?_
          refine lv_ishl X.1 X.2.1 dX11_fluent_36 ?_
          refine lv_ior X.1 X.2.1 dX11_fluent_37 ?_
          obtain ⟨x1_3, ex1_3, h⟩ := nm_el h
          refine tp_i ex1_3 ?_
          refine lv_istore_n (lv' := [(1, .int x1_3), (0, .ref (a0 0)), (2, .int x2)]) X.1 X.2.1 dX11_fluent_38 rfl hl (by decide) rfl (fun ls hl => ?_)
          exact HJ39 x1_3 H locs ls h hP hS (lv_sub hl [1, 0, 2] rfl)
  unfold f_X11_fluent at h
  refine lv_iconst (v := 0) X.1 X.2.1 dX11_fluent_0 (by decide) ?_
  refine lv_istore_n (lv' := [(1, .int 0), (0, .ref (a0 0))]) X.1 X.2.1 dX11_fluent_1 rfl hl (by decide) rfl (fun ls hl => ?_)
  refine lv_iconst (v := 0) X.1 X.2.1 dX11_fluent_2 (by decide) ?_
  refine lv_istore_n (lv' := [(2, .int 0), (1, .int 0), (0, .ref (a0 0))]) X.1 X.2.1 dX11_fluent_3 rfl hl (by decide) rfl (fun ls hl => ?_)
  obtain ⟨ex_4, hL_4, h⟩ := bd_el h
  refine HL4  fu 0 0 g2 g3 ex_4 hL_4 H locs ls hP hS (lv_sub hl [2, 1, 0] rfl) (fun x1_4 g2_4 g3_4 he H locs ls hP hS hl => ?_)
  subst he
  refine lv_iload_n X.1 X.2.1 dX11_fluent_45 rfl (lv_at hl 0 rfl) ?_
  exact ret_i (fun u => (wPU tc a0 g0 q0_0 (a1 0) q0_2 q0_3 q0_4 (a2 0) q0_6 q0_7 q0_8 (a3 0) q0_10 q0_13 ++ (wSt tc a1 g1 q1_18 q1_19 ++ (wHd tc a2 u.1 ++ (wSc tc a3 u.2 (a1 0) (a2 0)))))) (res := (r0, G2, G3)) (Option.some.inj h) X hQ hP hS dX11_fluent_46

def f_X11_better (g0 : Pic) (g1 : Pic) (g2 : Pic) (g3 : Pic) (x1 : Int32) (x2 : Int32) : Option ((Nat × Pic) ⊕ (Int32 × Pic)) := lr (f_X11_needWriter g0 g1 x1) (fun e => .inl (e.1, g2)) (fun _ => lr (f_X11_needWriter g0 g1 x2) (fun e => .inl (e.1, g2)) (fun _ => (if x1 = x2 then some (.inl (1, g2)) else bd2 (f_X8_trueOf g3 g2 g1 x1) (fun r_3 g2_3 => bd2 (f_X8_trueOf g3 g2_3 g1 x2) (fun r_4 g2_4 => jn (fun (s0_J50 : Int32) => gdb s0_J50 (some (.inr (s0_J50, g2_4)))) (fun J50 => (if r_3 ≤ r_4 then J50 0 else J50 1)))))))
abbrev rm_X11_better : Room := { frames := 7, cells := 3, slots := 18, locals := 141 }
set_option maxHeartbeats 4000000 in
set_option maxRecDepth 100000 in
theorem c_X11_better (l : Launch) (hst : l.stackTraces = false) (dC : Nat → ClassId) (dI : Nat → Nat → Nat) (sk sv : Nat → Nat) (tc : Nat → ClassId) (a0 : Nat → Nat) (q0_0 : Nat) (q0_2 : Nat) (q0_3 : Nat) (q0_4 : Nat) (q0_6 : Nat) (q0_7 : Nat) (q0_8 : Nat) (q0_10 : Nat) (q0_13 : Option Nat) (a1 : Nat → Nat) (q1_18 : Option Nat) (q1_19 : Nat) (a2 : Nat → Nat) (a3 : Nat → Nat) (g0 : Pic) (g1 : Pic) (g2 : Pic) (g3 : Pic) (x1 : Int32) (x2 : Int32) {res : ((Nat × Pic) ⊕ (Int32 × Pic))} (h : f_X11_better g0 g1 g2 g3 x1 x2 = some res) : CU l (dC, dI) sk sv (TY tc) yX11_better cX11_better 3 (some .boolean) rm_X11_better 3 18 [.ref (a0 0), .int x1, .int x2] (wPU tc a0 g0 q0_0 (a1 0) q0_2 q0_3 q0_4 (a2 0) q0_6 q0_7 q0_8 (a3 0) q0_10 q0_13 ++ (wSt tc a1 g1 q1_18 q1_19 ++ (wHd tc a2 g2 ++ (wSc tc a3 g3 (a1 0) (a2 0))))) (oI (fun u (_ : Option Nat) => (wPU tc a0 g0 q0_0 (a1 0) q0_2 q0_3 q0_4 (a2 0) q0_6 q0_7 q0_8 (a3 0) q0_10 q0_13 ++ (wSt tc a1 g1 q1_18 q1_19 ++ (wHd tc a2 u ++ (wSc tc a3 g3 (a1 0) (a2 0)))))) res) := by
  refine ofCU (by decide) (Nat.le_of_ble_eq_true rfl) ?_
  intro pr e s m args below meth c A Q ls H locs X hT hQ hD0 hP hS hl
  have hD : ∀ z0 z1 z2 z3, va_D A (wPU tc a0 z0 q0_0 (a1 0) q0_2 q0_3 q0_4 (a2 0) q0_6 q0_7 q0_8 (a3 0) q0_10 q0_13 ++ (wSt tc a1 z1 q1_18 q1_19 ++ (wHd tc a2 z2 ++ (wSc tc a3 z3 (a1 0) (a2 0))))) := fun z0 z1 z2 z3 => D_fst (ws := (wPU tc a0 g0 q0_0 (a1 0) q0_2 q0_3 q0_4 (a2 0) q0_6 q0_7 q0_8 (a3 0) q0_10 q0_13 ++ (wSt tc a1 g1 q1_18 q1_19 ++ (wHd tc a2 g2 ++ (wSc tc a3 g3 (a1 0) (a2 0)))))) rfl hD0
  have hl : lv_has ls 3 [(0, .ref (a0 0)), (1, .int x1), (2, .int x2)] := hl
  unfold f_X11_better at h
  refine lv_aload_n X.1 X.2.1 dX11_better_0 rfl (lv_at hl 0 rfl) ?_
  refine lv_iload_n X.1 X.2.1 dX11_better_1 rfl (lv_at hl 1 rfl) ?_
  obtain ⟨ex_1, hc_1, h1_1, h2_1⟩ := lr_el h
  rcases ex_1 with e_1 | r_1
  · exact callU_t (ws := (wPU tc a0 g0 q0_0 (a1 0) q0_2 q0_3 q0_4 (a2 0) q0_6 q0_7 q0_8 (a3 0) q0_10 q0_13 ++ (wSt tc a1 g1 q1_18 q1_19 ++ (wHd tc a2 g2 ++ (wSc tc a3 g3 (a1 0) (a2 0)))))) (ws' := (wPU tc a0 g0 q0_0 (a1 0) q0_2 q0_3 q0_4 (a2 0) q0_6 q0_7 q0_8 (a3 0) q0_10 q0_13 ++ (wSt tc a1 g1 q1_18 q1_19 ++ (wHd tc a2 g2 ++ (wSc tc a3 g3 (a1 0) (a2 0)))))) (wr := (wHd tc a2 g2 ++ (wSc tc a3 g3 (a1 0) (a2 0)))) [0, 1, 2, 3, 4, 5, 6, 7, 8, 9, 10] [11, 12, 13, 14, 15, 16, 17, 18, 19] [9, 10, 11, 12, 13, 14, 15, 16, 17, 18, 19, 0, 1, 2, 3, 4, 5, 6, 7, 8] (As := [.int x1]) (rest := []) none rfl (oUi (fun u (_ : Option Nat) => (wPU tc a0 g0 q0_0 (a1 0) q0_2 q0_3 q0_4 (a2 0) q0_6 q0_7 q0_8 (a3 0) q0_10 q0_13 ++ (wSt tc a1 g1 q1_18 q1_19 ++ (wHd tc a2 u ++ (wSc tc a3 g3 (a1 0) (a2 0)))))) (h1_1 _ rfl)) X hT hQ (c_X11_needWriter l hst dC dI sk sv tc a0 q0_0 q0_2 q0_3 q0_4 (a2 0) q0_6 q0_7 q0_8 (a3 0) q0_10 q0_13 a1 q1_18 q1_19 g0 g1 x1 hc_1) mw_5_38 mw_5_40 mp_1_6 mw_1_1 mw_5_41 dc_X11_needWriter ⟨Nat.le_of_ble_eq_true rfl, Nat.le_of_ble_eq_true rfl⟩ rfl rfl ⟨Nat.le_of_ble_eq_true rfl, Nat.le_of_ble_eq_true rfl⟩ ⟨rfl, rfl, rfl, rfl, by decide, rfl, rfl⟩ hP (hD _ _ _ _) hS 0 rfl rfl rfl hl.1 (Nat.le_of_ble_eq_true rfl) dX11_better_2 (Nat.le_of_ble_eq_true rfl) (Nat.le_of_ble_eq_true rfl)
  have h := h2_1 _ rfl
  refine callU_n (ws := (wPU tc a0 g0 q0_0 (a1 0) q0_2 q0_3 q0_4 (a2 0) q0_6 q0_7 q0_8 (a3 0) q0_10 q0_13 ++ (wSt tc a1 g1 q1_18 q1_19 ++ (wHd tc a2 g2 ++ (wSc tc a3 g3 (a1 0) (a2 0)))))) (ws' := (wPU tc a0 g0 q0_0 (a1 0) q0_2 q0_3 q0_4 (a2 0) q0_6 q0_7 q0_8 (a3 0) q0_10 q0_13 ++ (wSt tc a1 g1 q1_18 q1_19 ++ (wHd tc a2 g2 ++ (wSc tc a3 g3 (a1 0) (a2 0)))))) (wr := (wHd tc a2 g2 ++ (wSc tc a3 g3 (a1 0) (a2 0)))) [0, 1, 2, 3, 4, 5, 6, 7, 8, 9, 10] [11, 12, 13, 14, 15, 16, 17, 18, 19] [9, 10, 11, 12, 13, 14, 15, 16, 17, 18, 19, 0, 1, 2, 3, 4, 5, 6, 7, 8] (As := [.int x1]) (rest := []) X (c_X11_needWriter l hst dC dI sk sv tc a0 q0_0 q0_2 q0_3 q0_4 (a2 0) q0_6 q0_7 q0_8 (a3 0) q0_10 q0_13 a1 q1_18 q1_19 g0 g1 x1 hc_1) mw_5_38 mw_5_40 mp_1_6 mw_1_1 mw_5_41 dc_X11_needWriter ⟨Nat.le_of_ble_eq_true rfl, Nat.le_of_ble_eq_true rfl⟩ rfl rfl ⟨Nat.le_of_ble_eq_true rfl, Nat.le_of_ble_eq_true rfl⟩ ⟨rfl, rfl, rfl, rfl, by decide, rfl, rfl⟩ hP (hD _ _ _ _) hS 0 rfl rfl rfl hl.1 (Nat.le_of_ble_eq_true rfl) dX11_better_2 (fun H locs hP hS => ?_)
  refine W.eq (g2 := F0 m 5 ls []) rfl ?_
  refine lv_aload_n X.1 X.2.1 dX11_better_5 rfl (lv_at hl 0 rfl) ?_
  refine lv_iload_n X.1 X.2.1 dX11_better_6 rfl (lv_at hl 2 rfl) ?_
  obtain ⟨ex_2, hc_2, h1_2, h2_2⟩ := lr_el h
  rcases ex_2 with e_2 | r_2
  · exact callU_t (ws := (wPU tc a0 g0 q0_0 (a1 0) q0_2 q0_3 q0_4 (a2 0) q0_6 q0_7 q0_8 (a3 0) q0_10 q0_13 ++ (wSt tc a1 g1 q1_18 q1_19 ++ (wHd tc a2 g2 ++ (wSc tc a3 g3 (a1 0) (a2 0)))))) (ws' := (wPU tc a0 g0 q0_0 (a1 0) q0_2 q0_3 q0_4 (a2 0) q0_6 q0_7 q0_8 (a3 0) q0_10 q0_13 ++ (wSt tc a1 g1 q1_18 q1_19 ++ (wHd tc a2 g2 ++ (wSc tc a3 g3 (a1 0) (a2 0)))))) (wr := (wHd tc a2 g2 ++ (wSc tc a3 g3 (a1 0) (a2 0)))) [0, 1, 2, 3, 4, 5, 6, 7, 8, 9, 10] [11, 12, 13, 14, 15, 16, 17, 18, 19] [9, 10, 11, 12, 13, 14, 15, 16, 17, 18, 19, 0, 1, 2, 3, 4, 5, 6, 7, 8] (As := [.int x2]) (rest := []) none rfl (oUi (fun u (_ : Option Nat) => (wPU tc a0 g0 q0_0 (a1 0) q0_2 q0_3 q0_4 (a2 0) q0_6 q0_7 q0_8 (a3 0) q0_10 q0_13 ++ (wSt tc a1 g1 q1_18 q1_19 ++ (wHd tc a2 u ++ (wSc tc a3 g3 (a1 0) (a2 0)))))) (h1_2 _ rfl)) X hT hQ (c_X11_needWriter l hst dC dI sk sv tc a0 q0_0 q0_2 q0_3 q0_4 (a2 0) q0_6 q0_7 q0_8 (a3 0) q0_10 q0_13 a1 q1_18 q1_19 g0 g1 x2 hc_2) mw_5_38 mw_5_40 mp_1_6 mw_1_1 mw_5_41 dc_X11_needWriter ⟨Nat.le_of_ble_eq_true rfl, Nat.le_of_ble_eq_true rfl⟩ rfl rfl ⟨Nat.le_of_ble_eq_true rfl, Nat.le_of_ble_eq_true rfl⟩ ⟨rfl, rfl, rfl, rfl, by decide, rfl, rfl⟩ hP (hD _ _ _ _) hS 0 rfl rfl rfl hl.1 (Nat.le_of_ble_eq_true rfl) dX11_better_7 (Nat.le_of_ble_eq_true rfl) (Nat.le_of_ble_eq_true rfl)
  have h := h2_2 _ rfl
  refine callU_n (ws := (wPU tc a0 g0 q0_0 (a1 0) q0_2 q0_3 q0_4 (a2 0) q0_6 q0_7 q0_8 (a3 0) q0_10 q0_13 ++ (wSt tc a1 g1 q1_18 q1_19 ++ (wHd tc a2 g2 ++ (wSc tc a3 g3 (a1 0) (a2 0)))))) (ws' := (wPU tc a0 g0 q0_0 (a1 0) q0_2 q0_3 q0_4 (a2 0) q0_6 q0_7 q0_8 (a3 0) q0_10 q0_13 ++ (wSt tc a1 g1 q1_18 q1_19 ++ (wHd tc a2 g2 ++ (wSc tc a3 g3 (a1 0) (a2 0)))))) (wr := (wHd tc a2 g2 ++ (wSc tc a3 g3 (a1 0) (a2 0)))) [0, 1, 2, 3, 4, 5, 6, 7, 8, 9, 10] [11, 12, 13, 14, 15, 16, 17, 18, 19] [9, 10, 11, 12, 13, 14, 15, 16, 17, 18, 19, 0, 1, 2, 3, 4, 5, 6, 7, 8] (As := [.int x2]) (rest := []) X (c_X11_needWriter l hst dC dI sk sv tc a0 q0_0 q0_2 q0_3 q0_4 (a2 0) q0_6 q0_7 q0_8 (a3 0) q0_10 q0_13 a1 q1_18 q1_19 g0 g1 x2 hc_2) mw_5_38 mw_5_40 mp_1_6 mw_1_1 mw_5_41 dc_X11_needWriter ⟨Nat.le_of_ble_eq_true rfl, Nat.le_of_ble_eq_true rfl⟩ rfl rfl ⟨Nat.le_of_ble_eq_true rfl, Nat.le_of_ble_eq_true rfl⟩ ⟨rfl, rfl, rfl, rfl, by decide, rfl, rfl⟩ hP (hD _ _ _ _) hS 0 rfl rfl rfl hl.1 (Nat.le_of_ble_eq_true rfl) dX11_better_7 (fun H locs hP hS => ?_)
  refine W.eq (g2 := F0 m 10 ls []) rfl ?_
  refine lv_iload_n X.1 X.2.1 dX11_better_10 rfl (lv_at hl 1 rfl) ?_
  refine lv_iload_n X.1 X.2.1 dX11_better_11 rfl (lv_at hl 2 rfl) ?_
  refine lv_icmp_ne (tgt := 26) X.1 X.2.1 dX11_better_12 (by decide) (fun hc => ?_) (fun hc => ?_)
  · have h := it_f hc h
    refine lv_aload_n X.1 X.2.1 dX11_better_26 rfl (lv_at hl 0 rfl) ?_
    refine r_get (C := RX11) (T := TX11) (N := 15) (ci := 11) (v := .ref (a3 0)) X iw11 hP 0 rfl rfl 9 rfl mw_2_152 rfl dX11_better_27 ?_
    refine lv_iload_n X.1 X.2.1 dX11_better_30 rfl (lv_at hl 1 rfl) ?_
    obtain ⟨r_3, g2_3, hc_3, h⟩ := bd2_el h
    refine call_Q (ws := (wPU tc a0 g0 q0_0 (a1 0) q0_2 q0_3 q0_4 (a2 0) q0_6 q0_7 q0_8 (a3 0) q0_10 q0_13 ++ (wSt tc a1 g1 q1_18 q1_19 ++ (wHd tc a2 g2 ++ (wSc tc a3 g3 (a1 0) (a2 0)))))) (ws' := (wPU tc a0 g0 q0_0 (a1 0) q0_2 q0_3 q0_4 (a2 0) q0_6 q0_7 q0_8 (a3 0) q0_10 q0_13 ++ (wSt tc a1 g1 q1_18 q1_19 ++ (wHd tc a2 g2_3 ++ (wSc tc a3 g3 (a1 0) (a2 0)))))) (wr := (wPU tc a0 g0 q0_0 (a1 0) q0_2 q0_3 q0_4 (a2 0) q0_6 q0_7 q0_8 (a3 0) q0_10 q0_13)) [16, 17, 18, 19, 11, 12, 13, 14, 15, 1, 2, 3, 4, 5, 6, 7, 8, 9, 10] [0] [0, 10, 11, 12, 13, 14, 15, 16, 17, 18, 19, 5, 6, 7, 8, 9, 1, 2, 3, 4] (As := [.int x1]) (rest := []) X (c_X8_trueOf l dC dI sk sv tc a3 a2 a1 q1_18 q1_19 g3 g2 g1 x1 hc_3) mw_5_89 mw_5_90 mw_5_91 mw_1_11 mw_5_92 dc_X8_trueOf ⟨Nat.le_of_ble_eq_true rfl, Nat.le_of_ble_eq_true rfl⟩ rfl rfl ⟨Nat.le_of_ble_eq_true rfl, Nat.le_of_ble_eq_true rfl⟩ ⟨rfl, rfl, rfl, rfl, by decide, rfl, rfl⟩ hP (hD _ _ _ _) hS 0 rfl rfl rfl hl.1 (Nat.le_of_ble_eq_true rfl) dX11_better_31 (fun H locs hP hS => ?_)
    refine W.eq (g2 := F0 m 34 ls [.int r_3]) rfl ?_
    refine lv_aload_n X.1 X.2.1 dX11_better_34 rfl (lv_at hl 0 rfl) ?_
    refine r_get (C := RX11) (T := TX11) (N := 15) (ci := 11) (v := .ref (a3 0)) X iw11 hP 0 rfl rfl 9 rfl mw_2_152 rfl dX11_better_35 ?_
    refine lv_iload_n X.1 X.2.1 dX11_better_38 rfl (lv_at hl 2 rfl) ?_
    obtain ⟨r_4, g2_4, hc_4, h⟩ := bd2_el h
    refine call_Q (ws := (wPU tc a0 g0 q0_0 (a1 0) q0_2 q0_3 q0_4 (a2 0) q0_6 q0_7 q0_8 (a3 0) q0_10 q0_13 ++ (wSt tc a1 g1 q1_18 q1_19 ++ (wHd tc a2 g2_3 ++ (wSc tc a3 g3 (a1 0) (a2 0)))))) (ws' := (wPU tc a0 g0 q0_0 (a1 0) q0_2 q0_3 q0_4 (a2 0) q0_6 q0_7 q0_8 (a3 0) q0_10 q0_13 ++ (wSt tc a1 g1 q1_18 q1_19 ++ (wHd tc a2 g2_4 ++ (wSc tc a3 g3 (a1 0) (a2 0)))))) (wr := (wPU tc a0 g0 q0_0 (a1 0) q0_2 q0_3 q0_4 (a2 0) q0_6 q0_7 q0_8 (a3 0) q0_10 q0_13)) [16, 17, 18, 19, 11, 12, 13, 14, 15, 1, 2, 3, 4, 5, 6, 7, 8, 9, 10] [0] [0, 10, 11, 12, 13, 14, 15, 16, 17, 18, 19, 5, 6, 7, 8, 9, 1, 2, 3, 4] (As := [.int x2]) (rest := [.int r_3]) X (c_X8_trueOf l dC dI sk sv tc a3 a2 a1 q1_18 q1_19 g3 g2_3 g1 x2 hc_4) mw_5_89 mw_5_90 mw_5_91 mw_1_11 mw_5_92 dc_X8_trueOf ⟨Nat.le_of_ble_eq_true rfl, Nat.le_of_ble_eq_true rfl⟩ rfl rfl ⟨Nat.le_of_ble_eq_true rfl, Nat.le_of_ble_eq_true rfl⟩ ⟨rfl, rfl, rfl, rfl, by decide, rfl, rfl⟩ hP (hD _ _ _ _) hS 0 rfl rfl rfl hl.1 (Nat.le_of_ble_eq_true rfl) dX11_better_39 (fun H locs hP hS => ?_)
    refine W.eq (g2 := F0 m 42 ls [.int r_4, .int r_3]) rfl ?_
    obtain ⟨J50, eJ50, h⟩ := jn_el h
    have HJ50 : ∀ (s0_J50 : Int32) (H : Heap) (locs : List Loc) (ls : Array Slot), J50 s0_J50 = some res → va_P (dC, dI) vwCl (wPU tc a0 g0 q0_0 (a1 0) q0_2 q0_3 q0_4 (a2 0) q0_6 q0_7 q0_8 (a3 0) q0_10 q0_13 ++ (wSt tc a1 g1 q1_18 q1_19 ++ (wHd tc a2 g2_4 ++ (wSc tc a3 g3 (a1 0) (a2 0))))) H → va_S A s.heap H locs → lv_has ls 3 [] → W pr l e rm_X11_better s m args below meth c H locs 2 12 Q (F0 m 50 ls [.int s0_J50]) := by
      intro s0_J50 H locs ls h hP hS hl
      rw [eJ50] at h
      obtain ⟨hg_5, h⟩ := gdb_el h
      exact retU_z (fun u (_ : Option Nat) => (wPU tc a0 g0 q0_0 (a1 0) q0_2 q0_3 q0_4 (a2 0) q0_6 q0_7 q0_8 (a3 0) q0_10 q0_13 ++ (wSt tc a1 g1 q1_18 q1_19 ++ (wHd tc a2 u ++ (wSc tc a3 g3 (a1 0) (a2 0)))))) none hg_5 (Option.some.inj h) X hQ hP hS (Nat.le_of_ble_eq_true rfl) (Nat.le_of_ble_eq_true rfl) dX11_better_50
    refine lv_icmp_le (tgt := 49) X.1 X.2.1 dX11_better_42 (by decide) (fun hc => ?_) (fun hc => ?_)
    · have h := it_t hc h
      refine lv_iconst (v := 0) X.1 X.2.1 dX11_better_49 (by decide) ?_
      exact HJ50 0 H locs ls h hP hS (lv_sub hl [] rfl)
    · have h := it_f hc h
      refine lv_iconst (v := 1) X.1 X.2.1 dX11_better_45 (by decide) ?_
      refine lv_goto (tgt := 50) X.1 X.2.1 dX11_better_46 (by decide) ?_
      exact HJ50 1 H locs ls h hP hS (lv_sub hl [] rfl)
  · have h := it_t hc h
    exact thr_W (k := 1) (text := "both are one") (ti := 31) none (oUi (fun u (_ : Option Nat) => (wPU tc a0 g0 q0_0 (a1 0) q0_2 q0_3 q0_4 (a2 0) q0_6 q0_7 q0_8 (a3 0) q0_10 q0_13 ++ (wSt tc a1 g1 q1_18 q1_19 ++ (wHd tc a2 u ++ (wSc tc a3 g3 (a1 0) (a2 0)))))) (Option.some.inj h)) X hT hst at_114 mw_4_6 mw_1_21 (List.mem_of_getElem? (i := 37) rfl) hQ hP hS hl.1 dX11_better_15 dX11_better_18 dX11_better_19 dX11_better_22 dX11_better_25 (Nat.le_of_ble_eq_true rfl) (Nat.le_of_ble_eq_true rfl) (Nat.le_of_ble_eq_true rfl) (Nat.le_of_ble_eq_true rfl) (Nat.le_of_ble_eq_true rfl) (Nat.le_of_ble_eq_true rfl)

def f_X11_change (g0 : Pic) (g1 : Pic) (g2 : Pic) (x1 : Int32) (x2 : Int32) : Option ((Nat × Pic) ⊕ (Int32 × Pic)) := lr (f_X11_needWord g0 g1 x1) (fun e => .inl (e.1, g2)) (fun _ => lr (f_X11_needWord g0 g1 x2) (fun e => .inl (e.1, g2)) (fun _ => bd2 (f_X6_changeOf g2 g1 x1 x2) (fun r_3 g2_3 => some (.inr (r_3, g2_3)))))
abbrev rm_X11_change : Room := { frames := 7, cells := 2, slots := 12, locals := 141 }
set_option maxHeartbeats 4000000 in
set_option maxRecDepth 100000 in
theorem c_X11_change (l : Launch) (hst : l.stackTraces = false) (dC : Nat → ClassId) (dI : Nat → Nat → Nat) (sk sv : Nat → Nat) (tc : Nat → ClassId) (a0 : Nat → Nat) (q0_0 : Nat) (q0_2 : Nat) (q0_3 : Nat) (q0_4 : Nat) (q0_5 : Nat) (q0_6 : Nat) (q0_8 : Nat) (q0_9 : Nat) (q0_10 : Nat) (q0_13 : Option Nat) (a1 : Nat → Nat) (q1_18 : Option Nat) (q1_19 : Nat) (a2 : Nat → Nat) (g0 : Pic) (g1 : Pic) (g2 : Pic) (x1 : Int32) (x2 : Int32) {res : ((Nat × Pic) ⊕ (Int32 × Pic))} (h : f_X11_change g0 g1 g2 x1 x2 = some res) : CU l (dC, dI) sk sv (TY tc) yX11_change cX11_change 3 (some .int) rm_X11_change 2 12 [.ref (a0 0), .int x1, .int x2] (wPU tc a0 g0 q0_0 (a1 0) q0_2 q0_3 q0_4 q0_5 q0_6 (a2 0) q0_8 q0_9 q0_10 q0_13 ++ (wSt tc a1 g1 q1_18 q1_19 ++ (wLx tc a2 g2 (a1 0)))) (oI (fun u (_ : Option Nat) => (wPU tc a0 g0 q0_0 (a1 0) q0_2 q0_3 q0_4 q0_5 q0_6 (a2 0) q0_8 q0_9 q0_10 q0_13 ++ (wSt tc a1 g1 q1_18 q1_19 ++ (wLx tc a2 u (a1 0))))) res) := by
  refine ofCU (by decide) (Nat.le_of_ble_eq_true rfl) ?_
  intro pr e s m args below meth c A Q ls H locs X hT hQ hD0 hP hS hl
  have hD : ∀ z0 z1 z2, va_D A (wPU tc a0 z0 q0_0 (a1 0) q0_2 q0_3 q0_4 q0_5 q0_6 (a2 0) q0_8 q0_9 q0_10 q0_13 ++ (wSt tc a1 z1 q1_18 q1_19 ++ (wLx tc a2 z2 (a1 0)))) := fun z0 z1 z2 => D_fst (ws := (wPU tc a0 g0 q0_0 (a1 0) q0_2 q0_3 q0_4 q0_5 q0_6 (a2 0) q0_8 q0_9 q0_10 q0_13 ++ (wSt tc a1 g1 q1_18 q1_19 ++ (wLx tc a2 g2 (a1 0))))) rfl hD0
  have hl : lv_has ls 3 [(0, .ref (a0 0)), (1, .int x1), (2, .int x2)] := hl
  unfold f_X11_change at h
  refine lv_aload_n X.1 X.2.1 dX11_change_0 rfl (lv_at hl 0 rfl) ?_
  refine lv_iload_n X.1 X.2.1 dX11_change_1 rfl (lv_at hl 1 rfl) ?_
  obtain ⟨ex_1, hc_1, h1_1, h2_1⟩ := lr_el h
  rcases ex_1 with e_1 | r_1
  · exact callU_t (ws := (wPU tc a0 g0 q0_0 (a1 0) q0_2 q0_3 q0_4 q0_5 q0_6 (a2 0) q0_8 q0_9 q0_10 q0_13 ++ (wSt tc a1 g1 q1_18 q1_19 ++ (wLx tc a2 g2 (a1 0))))) (ws' := (wPU tc a0 g0 q0_0 (a1 0) q0_2 q0_3 q0_4 q0_5 q0_6 (a2 0) q0_8 q0_9 q0_10 q0_13 ++ (wSt tc a1 g1 q1_18 q1_19 ++ (wLx tc a2 g2 (a1 0))))) (wr := (wLx tc a2 g2 (a1 0))) [0, 1, 2, 3, 4, 5, 6, 7, 8, 9, 10] [11, 12, 13, 14] [4, 5, 6, 7, 8, 9, 10, 11, 12, 13, 14, 0, 1, 2, 3] (As := [.int x1]) (rest := []) none rfl (oUi (fun u (_ : Option Nat) => (wPU tc a0 g0 q0_0 (a1 0) q0_2 q0_3 q0_4 q0_5 q0_6 (a2 0) q0_8 q0_9 q0_10 q0_13 ++ (wSt tc a1 g1 q1_18 q1_19 ++ (wLx tc a2 u (a1 0))))) (h1_1 _ rfl)) X hT hQ (c_X11_needWord l hst dC dI sk sv tc a0 q0_0 q0_2 q0_3 q0_4 q0_5 q0_6 (a2 0) q0_8 q0_9 q0_10 q0_13 a1 q1_18 q1_19 g0 g1 x1 hc_1) mw_4_210 mw_4_212 mp_1_5 mw_1_1 mw_4_213 dc_X11_needWord ⟨Nat.le_of_ble_eq_true rfl, Nat.le_of_ble_eq_true rfl⟩ rfl rfl ⟨Nat.le_of_ble_eq_true rfl, Nat.le_of_ble_eq_true rfl⟩ ⟨rfl, rfl, rfl, rfl, by decide, rfl, rfl⟩ hP (hD _ _ _) hS 0 rfl rfl rfl hl.1 (Nat.le_of_ble_eq_true rfl) dX11_change_2 (Nat.le_of_ble_eq_true rfl) (Nat.le_of_ble_eq_true rfl)
  have h := h2_1 _ rfl
  refine callU_n (ws := (wPU tc a0 g0 q0_0 (a1 0) q0_2 q0_3 q0_4 q0_5 q0_6 (a2 0) q0_8 q0_9 q0_10 q0_13 ++ (wSt tc a1 g1 q1_18 q1_19 ++ (wLx tc a2 g2 (a1 0))))) (ws' := (wPU tc a0 g0 q0_0 (a1 0) q0_2 q0_3 q0_4 q0_5 q0_6 (a2 0) q0_8 q0_9 q0_10 q0_13 ++ (wSt tc a1 g1 q1_18 q1_19 ++ (wLx tc a2 g2 (a1 0))))) (wr := (wLx tc a2 g2 (a1 0))) [0, 1, 2, 3, 4, 5, 6, 7, 8, 9, 10] [11, 12, 13, 14] [4, 5, 6, 7, 8, 9, 10, 11, 12, 13, 14, 0, 1, 2, 3] (As := [.int x1]) (rest := []) X (c_X11_needWord l hst dC dI sk sv tc a0 q0_0 q0_2 q0_3 q0_4 q0_5 q0_6 (a2 0) q0_8 q0_9 q0_10 q0_13 a1 q1_18 q1_19 g0 g1 x1 hc_1) mw_4_210 mw_4_212 mp_1_5 mw_1_1 mw_4_213 dc_X11_needWord ⟨Nat.le_of_ble_eq_true rfl, Nat.le_of_ble_eq_true rfl⟩ rfl rfl ⟨Nat.le_of_ble_eq_true rfl, Nat.le_of_ble_eq_true rfl⟩ ⟨rfl, rfl, rfl, rfl, by decide, rfl, rfl⟩ hP (hD _ _ _) hS 0 rfl rfl rfl hl.1 (Nat.le_of_ble_eq_true rfl) dX11_change_2 (fun H locs hP hS => ?_)
  refine W.eq (g2 := F0 m 5 ls []) rfl ?_
  refine lv_aload_n X.1 X.2.1 dX11_change_5 rfl (lv_at hl 0 rfl) ?_
  refine lv_iload_n X.1 X.2.1 dX11_change_6 rfl (lv_at hl 2 rfl) ?_
  obtain ⟨ex_2, hc_2, h1_2, h2_2⟩ := lr_el h
  rcases ex_2 with e_2 | r_2
  · exact callU_t (ws := (wPU tc a0 g0 q0_0 (a1 0) q0_2 q0_3 q0_4 q0_5 q0_6 (a2 0) q0_8 q0_9 q0_10 q0_13 ++ (wSt tc a1 g1 q1_18 q1_19 ++ (wLx tc a2 g2 (a1 0))))) (ws' := (wPU tc a0 g0 q0_0 (a1 0) q0_2 q0_3 q0_4 q0_5 q0_6 (a2 0) q0_8 q0_9 q0_10 q0_13 ++ (wSt tc a1 g1 q1_18 q1_19 ++ (wLx tc a2 g2 (a1 0))))) (wr := (wLx tc a2 g2 (a1 0))) [0, 1, 2, 3, 4, 5, 6, 7, 8, 9, 10] [11, 12, 13, 14] [4, 5, 6, 7, 8, 9, 10, 11, 12, 13, 14, 0, 1, 2, 3] (As := [.int x2]) (rest := []) none rfl (oUi (fun u (_ : Option Nat) => (wPU tc a0 g0 q0_0 (a1 0) q0_2 q0_3 q0_4 q0_5 q0_6 (a2 0) q0_8 q0_9 q0_10 q0_13 ++ (wSt tc a1 g1 q1_18 q1_19 ++ (wLx tc a2 u (a1 0))))) (h1_2 _ rfl)) X hT hQ (c_X11_needWord l hst dC dI sk sv tc a0 q0_0 q0_2 q0_3 q0_4 q0_5 q0_6 (a2 0) q0_8 q0_9 q0_10 q0_13 a1 q1_18 q1_19 g0 g1 x2 hc_2) mw_4_210 mw_4_212 mp_1_5 mw_1_1 mw_4_213 dc_X11_needWord ⟨Nat.le_of_ble_eq_true rfl, Nat.le_of_ble_eq_true rfl⟩ rfl rfl ⟨Nat.le_of_ble_eq_true rfl, Nat.le_of_ble_eq_true rfl⟩ ⟨rfl, rfl, rfl, rfl, by decide, rfl, rfl⟩ hP (hD _ _ _) hS 0 rfl rfl rfl hl.1 (Nat.le_of_ble_eq_true rfl) dX11_change_7 (Nat.le_of_ble_eq_true rfl) (Nat.le_of_ble_eq_true rfl)
  have h := h2_2 _ rfl
  refine callU_n (ws := (wPU tc a0 g0 q0_0 (a1 0) q0_2 q0_3 q0_4 q0_5 q0_6 (a2 0) q0_8 q0_9 q0_10 q0_13 ++ (wSt tc a1 g1 q1_18 q1_19 ++ (wLx tc a2 g2 (a1 0))))) (ws' := (wPU tc a0 g0 q0_0 (a1 0) q0_2 q0_3 q0_4 q0_5 q0_6 (a2 0) q0_8 q0_9 q0_10 q0_13 ++ (wSt tc a1 g1 q1_18 q1_19 ++ (wLx tc a2 g2 (a1 0))))) (wr := (wLx tc a2 g2 (a1 0))) [0, 1, 2, 3, 4, 5, 6, 7, 8, 9, 10] [11, 12, 13, 14] [4, 5, 6, 7, 8, 9, 10, 11, 12, 13, 14, 0, 1, 2, 3] (As := [.int x2]) (rest := []) X (c_X11_needWord l hst dC dI sk sv tc a0 q0_0 q0_2 q0_3 q0_4 q0_5 q0_6 (a2 0) q0_8 q0_9 q0_10 q0_13 a1 q1_18 q1_19 g0 g1 x2 hc_2) mw_4_210 mw_4_212 mp_1_5 mw_1_1 mw_4_213 dc_X11_needWord ⟨Nat.le_of_ble_eq_true rfl, Nat.le_of_ble_eq_true rfl⟩ rfl rfl ⟨Nat.le_of_ble_eq_true rfl, Nat.le_of_ble_eq_true rfl⟩ ⟨rfl, rfl, rfl, rfl, by decide, rfl, rfl⟩ hP (hD _ _ _) hS 0 rfl rfl rfl hl.1 (Nat.le_of_ble_eq_true rfl) dX11_change_7 (fun H locs hP hS => ?_)
  refine W.eq (g2 := F0 m 10 ls []) rfl ?_
  refine lv_aload_n X.1 X.2.1 dX11_change_10 rfl (lv_at hl 0 rfl) ?_
  refine r_get (C := RX11) (T := TX11) (N := 15) (ci := 11) (v := .ref (a2 0)) X iw11 hP 0 rfl rfl 7 rfl mw_2_150 rfl dX11_change_11 ?_
  refine lv_iload_n X.1 X.2.1 dX11_change_14 rfl (lv_at hl 1 rfl) ?_
  refine lv_iload_n X.1 X.2.1 dX11_change_15 rfl (lv_at hl 2 rfl) ?_
  obtain ⟨r_3, g2_3, hc_3, h⟩ := bd2_el h
  refine call_Q (ws := (wPU tc a0 g0 q0_0 (a1 0) q0_2 q0_3 q0_4 q0_5 q0_6 (a2 0) q0_8 q0_9 q0_10 q0_13 ++ (wSt tc a1 g1 q1_18 q1_19 ++ (wLx tc a2 g2 (a1 0))))) (ws' := (wPU tc a0 g0 q0_0 (a1 0) q0_2 q0_3 q0_4 q0_5 q0_6 (a2 0) q0_8 q0_9 q0_10 q0_13 ++ (wSt tc a1 g1 q1_18 q1_19 ++ (wLx tc a2 g2_3 (a1 0))))) (wr := (wPU tc a0 g0 q0_0 (a1 0) q0_2 q0_3 q0_4 q0_5 q0_6 (a2 0) q0_8 q0_9 q0_10 q0_13)) [11, 12, 13, 14, 1, 2, 3, 4, 5, 6, 7, 8, 9, 10] [0] [0, 5, 6, 7, 8, 9, 10, 11, 12, 13, 14, 1, 2, 3, 4] (As := [.int x1, .int x2]) (rest := []) X (c_X6_changeOf l dC dI sk sv tc a2 a1 q1_18 q1_19 g2 g1 x1 x2 hc_3) mw_6_210 mw_5_3 mw_5_4 mw_1_9 mw_5_5 dc_X6_changeOf ⟨Nat.le_of_ble_eq_true rfl, Nat.le_of_ble_eq_true rfl⟩ rfl rfl ⟨Nat.le_of_ble_eq_true rfl, Nat.le_of_ble_eq_true rfl⟩ ⟨rfl, rfl, rfl, rfl, by decide, rfl, rfl⟩ hP (hD _ _ _) hS 0 rfl rfl rfl hl.1 (Nat.le_of_ble_eq_true rfl) dX11_change_16 (fun H locs hP hS => ?_)
  refine W.eq (g2 := F0 m 19 ls [.int r_3]) rfl ?_
  exact retU_i (fun u (_ : Option Nat) => (wPU tc a0 g0 q0_0 (a1 0) q0_2 q0_3 q0_4 q0_5 q0_6 (a2 0) q0_8 q0_9 q0_10 q0_13 ++ (wSt tc a1 g1 q1_18 q1_19 ++ (wLx tc a2 u (a1 0))))) none (Option.some.inj h) X hQ hP hS (Nat.le_of_ble_eq_true rfl) (Nat.le_of_ble_eq_true rfl) dX11_change_19

def f_X11_chain (g0 : Pic) (g1 : Pic) (g2 : Pic) (x1 : Int32) (x2 : Int32) : Option ((Nat × Pic) ⊕ (Int32 × Pic)) := lr (f_X11_needWord g0 g1 x1) (fun e => .inl (e.1, g2)) (fun _ => lr (f_X11_needWord g0 g1 x2) (fun e => .inl (e.1, g2)) (fun _ => bd2 (f_X6_stepsBetween g2 g1 x1 x2) (fun r_3 g2_3 => some (.inr (r_3, g2_3)))))
abbrev rm_X11_chain : Room := { frames := 7, cells := 2, slots := 12, locals := 175 }
set_option maxHeartbeats 4000000 in
set_option maxRecDepth 100000 in
theorem c_X11_chain (l : Launch) (hst : l.stackTraces = false) (dC : Nat → ClassId) (dI : Nat → Nat → Nat) (sk sv : Nat → Nat) (tc : Nat → ClassId) (a0 : Nat → Nat) (q0_0 : Nat) (q0_2 : Nat) (q0_3 : Nat) (q0_4 : Nat) (q0_5 : Nat) (q0_6 : Nat) (q0_8 : Nat) (q0_9 : Nat) (q0_10 : Nat) (q0_13 : Option Nat) (a1 : Nat → Nat) (q1_18 : Option Nat) (q1_19 : Nat) (a2 : Nat → Nat) (g0 : Pic) (g1 : Pic) (g2 : Pic) (x1 : Int32) (x2 : Int32) {res : ((Nat × Pic) ⊕ (Int32 × Pic))} (h : f_X11_chain g0 g1 g2 x1 x2 = some res) : CU l (dC, dI) sk sv (TY tc) yX11_chain cX11_chain 3 (some .int) rm_X11_chain 2 12 [.ref (a0 0), .int x1, .int x2] (wPU tc a0 g0 q0_0 (a1 0) q0_2 q0_3 q0_4 q0_5 q0_6 (a2 0) q0_8 q0_9 q0_10 q0_13 ++ (wSt tc a1 g1 q1_18 q1_19 ++ (wLx tc a2 g2 (a1 0)))) (oI (fun u (_ : Option Nat) => (wPU tc a0 g0 q0_0 (a1 0) q0_2 q0_3 q0_4 q0_5 q0_6 (a2 0) q0_8 q0_9 q0_10 q0_13 ++ (wSt tc a1 g1 q1_18 q1_19 ++ (wLx tc a2 u (a1 0))))) res) := by
  refine ofCU (by decide) (Nat.le_of_ble_eq_true rfl) ?_
  intro pr e s m args below meth c A Q ls H locs X hT hQ hD0 hP hS hl
  have hD : ∀ z0 z1 z2, va_D A (wPU tc a0 z0 q0_0 (a1 0) q0_2 q0_3 q0_4 q0_5 q0_6 (a2 0) q0_8 q0_9 q0_10 q0_13 ++ (wSt tc a1 z1 q1_18 q1_19 ++ (wLx tc a2 z2 (a1 0)))) := fun z0 z1 z2 => D_fst (ws := (wPU tc a0 g0 q0_0 (a1 0) q0_2 q0_3 q0_4 q0_5 q0_6 (a2 0) q0_8 q0_9 q0_10 q0_13 ++ (wSt tc a1 g1 q1_18 q1_19 ++ (wLx tc a2 g2 (a1 0))))) rfl hD0
  have hl : lv_has ls 3 [(0, .ref (a0 0)), (1, .int x1), (2, .int x2)] := hl
  unfold f_X11_chain at h
  refine lv_aload_n X.1 X.2.1 dX11_chain_0 rfl (lv_at hl 0 rfl) ?_
  refine lv_iload_n X.1 X.2.1 dX11_chain_1 rfl (lv_at hl 1 rfl) ?_
  obtain ⟨ex_1, hc_1, h1_1, h2_1⟩ := lr_el h
  rcases ex_1 with e_1 | r_1
  · exact callU_t (ws := (wPU tc a0 g0 q0_0 (a1 0) q0_2 q0_3 q0_4 q0_5 q0_6 (a2 0) q0_8 q0_9 q0_10 q0_13 ++ (wSt tc a1 g1 q1_18 q1_19 ++ (wLx tc a2 g2 (a1 0))))) (ws' := (wPU tc a0 g0 q0_0 (a1 0) q0_2 q0_3 q0_4 q0_5 q0_6 (a2 0) q0_8 q0_9 q0_10 q0_13 ++ (wSt tc a1 g1 q1_18 q1_19 ++ (wLx tc a2 g2 (a1 0))))) (wr := (wLx tc a2 g2 (a1 0))) [0, 1, 2, 3, 4, 5, 6, 7, 8, 9, 10] [11, 12, 13, 14] [4, 5, 6, 7, 8, 9, 10, 11, 12, 13, 14, 0, 1, 2, 3] (As := [.int x1]) (rest := []) none rfl (oUi (fun u (_ : Option Nat) => (wPU tc a0 g0 q0_0 (a1 0) q0_2 q0_3 q0_4 q0_5 q0_6 (a2 0) q0_8 q0_9 q0_10 q0_13 ++ (wSt tc a1 g1 q1_18 q1_19 ++ (wLx tc a2 u (a1 0))))) (h1_1 _ rfl)) X hT hQ (c_X11_needWord l hst dC dI sk sv tc a0 q0_0 q0_2 q0_3 q0_4 q0_5 q0_6 (a2 0) q0_8 q0_9 q0_10 q0_13 a1 q1_18 q1_19 g0 g1 x1 hc_1) mw_4_210 mw_4_212 mp_1_5 mw_1_1 mw_4_213 dc_X11_needWord ⟨Nat.le_of_ble_eq_true rfl, Nat.le_of_ble_eq_true rfl⟩ rfl rfl ⟨Nat.le_of_ble_eq_true rfl, Nat.le_of_ble_eq_true rfl⟩ ⟨rfl, rfl, rfl, rfl, by decide, rfl, rfl⟩ hP (hD _ _ _) hS 0 rfl rfl rfl hl.1 (Nat.le_of_ble_eq_true rfl) dX11_chain_2 (Nat.le_of_ble_eq_true rfl) (Nat.le_of_ble_eq_true rfl)
  have h := h2_1 _ rfl
  refine callU_n (ws := (wPU tc a0 g0 q0_0 (a1 0) q0_2 q0_3 q0_4 q0_5 q0_6 (a2 0) q0_8 q0_9 q0_10 q0_13 ++ (wSt tc a1 g1 q1_18 q1_19 ++ (wLx tc a2 g2 (a1 0))))) (ws' := (wPU tc a0 g0 q0_0 (a1 0) q0_2 q0_3 q0_4 q0_5 q0_6 (a2 0) q0_8 q0_9 q0_10 q0_13 ++ (wSt tc a1 g1 q1_18 q1_19 ++ (wLx tc a2 g2 (a1 0))))) (wr := (wLx tc a2 g2 (a1 0))) [0, 1, 2, 3, 4, 5, 6, 7, 8, 9, 10] [11, 12, 13, 14] [4, 5, 6, 7, 8, 9, 10, 11, 12, 13, 14, 0, 1, 2, 3] (As := [.int x1]) (rest := []) X (c_X11_needWord l hst dC dI sk sv tc a0 q0_0 q0_2 q0_3 q0_4 q0_5 q0_6 (a2 0) q0_8 q0_9 q0_10 q0_13 a1 q1_18 q1_19 g0 g1 x1 hc_1) mw_4_210 mw_4_212 mp_1_5 mw_1_1 mw_4_213 dc_X11_needWord ⟨Nat.le_of_ble_eq_true rfl, Nat.le_of_ble_eq_true rfl⟩ rfl rfl ⟨Nat.le_of_ble_eq_true rfl, Nat.le_of_ble_eq_true rfl⟩ ⟨rfl, rfl, rfl, rfl, by decide, rfl, rfl⟩ hP (hD _ _ _) hS 0 rfl rfl rfl hl.1 (Nat.le_of_ble_eq_true rfl) dX11_chain_2 (fun H locs hP hS => ?_)
  refine W.eq (g2 := F0 m 5 ls []) rfl ?_
  refine lv_aload_n X.1 X.2.1 dX11_chain_5 rfl (lv_at hl 0 rfl) ?_
  refine lv_iload_n X.1 X.2.1 dX11_chain_6 rfl (lv_at hl 2 rfl) ?_
  obtain ⟨ex_2, hc_2, h1_2, h2_2⟩ := lr_el h
  rcases ex_2 with e_2 | r_2
  · exact callU_t (ws := (wPU tc a0 g0 q0_0 (a1 0) q0_2 q0_3 q0_4 q0_5 q0_6 (a2 0) q0_8 q0_9 q0_10 q0_13 ++ (wSt tc a1 g1 q1_18 q1_19 ++ (wLx tc a2 g2 (a1 0))))) (ws' := (wPU tc a0 g0 q0_0 (a1 0) q0_2 q0_3 q0_4 q0_5 q0_6 (a2 0) q0_8 q0_9 q0_10 q0_13 ++ (wSt tc a1 g1 q1_18 q1_19 ++ (wLx tc a2 g2 (a1 0))))) (wr := (wLx tc a2 g2 (a1 0))) [0, 1, 2, 3, 4, 5, 6, 7, 8, 9, 10] [11, 12, 13, 14] [4, 5, 6, 7, 8, 9, 10, 11, 12, 13, 14, 0, 1, 2, 3] (As := [.int x2]) (rest := []) none rfl (oUi (fun u (_ : Option Nat) => (wPU tc a0 g0 q0_0 (a1 0) q0_2 q0_3 q0_4 q0_5 q0_6 (a2 0) q0_8 q0_9 q0_10 q0_13 ++ (wSt tc a1 g1 q1_18 q1_19 ++ (wLx tc a2 u (a1 0))))) (h1_2 _ rfl)) X hT hQ (c_X11_needWord l hst dC dI sk sv tc a0 q0_0 q0_2 q0_3 q0_4 q0_5 q0_6 (a2 0) q0_8 q0_9 q0_10 q0_13 a1 q1_18 q1_19 g0 g1 x2 hc_2) mw_4_210 mw_4_212 mp_1_5 mw_1_1 mw_4_213 dc_X11_needWord ⟨Nat.le_of_ble_eq_true rfl, Nat.le_of_ble_eq_true rfl⟩ rfl rfl ⟨Nat.le_of_ble_eq_true rfl, Nat.le_of_ble_eq_true rfl⟩ ⟨rfl, rfl, rfl, rfl, by decide, rfl, rfl⟩ hP (hD _ _ _) hS 0 rfl rfl rfl hl.1 (Nat.le_of_ble_eq_true rfl) dX11_chain_7 (Nat.le_of_ble_eq_true rfl) (Nat.le_of_ble_eq_true rfl)
  have h := h2_2 _ rfl
  refine callU_n (ws := (wPU tc a0 g0 q0_0 (a1 0) q0_2 q0_3 q0_4 q0_5 q0_6 (a2 0) q0_8 q0_9 q0_10 q0_13 ++ (wSt tc a1 g1 q1_18 q1_19 ++ (wLx tc a2 g2 (a1 0))))) (ws' := (wPU tc a0 g0 q0_0 (a1 0) q0_2 q0_3 q0_4 q0_5 q0_6 (a2 0) q0_8 q0_9 q0_10 q0_13 ++ (wSt tc a1 g1 q1_18 q1_19 ++ (wLx tc a2 g2 (a1 0))))) (wr := (wLx tc a2 g2 (a1 0))) [0, 1, 2, 3, 4, 5, 6, 7, 8, 9, 10] [11, 12, 13, 14] [4, 5, 6, 7, 8, 9, 10, 11, 12, 13, 14, 0, 1, 2, 3] (As := [.int x2]) (rest := []) X (c_X11_needWord l hst dC dI sk sv tc a0 q0_0 q0_2 q0_3 q0_4 q0_5 q0_6 (a2 0) q0_8 q0_9 q0_10 q0_13 a1 q1_18 q1_19 g0 g1 x2 hc_2) mw_4_210 mw_4_212 mp_1_5 mw_1_1 mw_4_213 dc_X11_needWord ⟨Nat.le_of_ble_eq_true rfl, Nat.le_of_ble_eq_true rfl⟩ rfl rfl ⟨Nat.le_of_ble_eq_true rfl, Nat.le_of_ble_eq_true rfl⟩ ⟨rfl, rfl, rfl, rfl, by decide, rfl, rfl⟩ hP (hD _ _ _) hS 0 rfl rfl rfl hl.1 (Nat.le_of_ble_eq_true rfl) dX11_chain_7 (fun H locs hP hS => ?_)
  refine W.eq (g2 := F0 m 10 ls []) rfl ?_
  refine lv_aload_n X.1 X.2.1 dX11_chain_10 rfl (lv_at hl 0 rfl) ?_
  refine r_get (C := RX11) (T := TX11) (N := 15) (ci := 11) (v := .ref (a2 0)) X iw11 hP 0 rfl rfl 7 rfl mw_2_150 rfl dX11_chain_11 ?_
  refine lv_iload_n X.1 X.2.1 dX11_chain_14 rfl (lv_at hl 1 rfl) ?_
  refine lv_iload_n X.1 X.2.1 dX11_chain_15 rfl (lv_at hl 2 rfl) ?_
  obtain ⟨r_3, g2_3, hc_3, h⟩ := bd2_el h
  refine call_Q (ws := (wPU tc a0 g0 q0_0 (a1 0) q0_2 q0_3 q0_4 q0_5 q0_6 (a2 0) q0_8 q0_9 q0_10 q0_13 ++ (wSt tc a1 g1 q1_18 q1_19 ++ (wLx tc a2 g2 (a1 0))))) (ws' := (wPU tc a0 g0 q0_0 (a1 0) q0_2 q0_3 q0_4 q0_5 q0_6 (a2 0) q0_8 q0_9 q0_10 q0_13 ++ (wSt tc a1 g1 q1_18 q1_19 ++ (wLx tc a2 g2_3 (a1 0))))) (wr := (wPU tc a0 g0 q0_0 (a1 0) q0_2 q0_3 q0_4 q0_5 q0_6 (a2 0) q0_8 q0_9 q0_10 q0_13)) [11, 12, 13, 14, 1, 2, 3, 4, 5, 6, 7, 8, 9, 10] [0] [0, 5, 6, 7, 8, 9, 10, 11, 12, 13, 14, 1, 2, 3, 4] (As := [.int x1, .int x2]) (rest := []) X (c_X6_stepsBetween l dC dI sk sv tc a2 a1 q1_18 q1_19 g2 g1 x1 x2 hc_3) mw_6_218 mw_6_219 mw_6_220 mw_1_9 mw_6_221 dc_X6_stepsBetween ⟨Nat.le_of_ble_eq_true rfl, Nat.le_of_ble_eq_true rfl⟩ rfl rfl ⟨Nat.le_of_ble_eq_true rfl, Nat.le_of_ble_eq_true rfl⟩ ⟨rfl, rfl, rfl, rfl, by decide, rfl, rfl⟩ hP (hD _ _ _) hS 0 rfl rfl rfl hl.1 (Nat.le_of_ble_eq_true rfl) dX11_chain_16 (fun H locs hP hS => ?_)
  refine W.eq (g2 := F0 m 19 ls [.int r_3]) rfl ?_
  exact retU_i (fun u (_ : Option Nat) => (wPU tc a0 g0 q0_0 (a1 0) q0_2 q0_3 q0_4 q0_5 q0_6 (a2 0) q0_8 q0_9 q0_10 q0_13 ++ (wSt tc a1 g1 q1_18 q1_19 ++ (wLx tc a2 u (a1 0))))) none (Option.some.inj h) X hQ hP hS (Nat.le_of_ble_eq_true rfl) (Nat.le_of_ble_eq_true rfl) dX11_chain_19

def f_X11_echo (g0 : Pic) (g1 : Pic) (g2 : Pic) : Option (Int32) := bd (f_X6_longestEcho g2 g1) (fun r_1 => some r_1)
abbrev rm_X11_echo : Room := { frames := 2, cells := 0, slots := 0, locals := 47 }
set_option maxHeartbeats 4000000 in
set_option maxRecDepth 100000 in
theorem c_X11_echo (l : Launch) (dC : Nat → ClassId) (dI : Nat → Nat → Nat) (sk sv : Nat → Nat) (tc : Nat → ClassId) (a0 : Nat → Nat) (q0_0 : Nat) (q0_2 : Nat) (q0_3 : Nat) (q0_4 : Nat) (q0_5 : Nat) (q0_6 : Nat) (q0_8 : Nat) (q0_9 : Nat) (q0_10 : Nat) (q0_13 : Option Nat) (a1 : Nat → Nat) (q1_18 : Option Nat) (q1_19 : Nat) (a2 : Nat → Nat) (g0 : Pic) (g1 : Pic) (g2 : Pic) {r0 : Int32} (h : f_X11_echo g0 g1 g2 = some r0) : CT l (dC, dI) sk sv (TY tc) yX11_echo cX11_echo 1 (some .int) rm_X11_echo [.ref (a0 0)] (wPU tc a0 g0 q0_0 (a1 0) q0_2 q0_3 q0_4 q0_5 q0_6 (a2 0) q0_8 q0_9 q0_10 q0_13 ++ (wSt tc a1 g1 q1_18 q1_19 ++ (wLx tc a2 g2 (a1 0)))) (some (.int r0)) (wPU tc a0 g0 q0_0 (a1 0) q0_2 q0_3 q0_4 q0_5 q0_6 (a2 0) q0_8 q0_9 q0_10 q0_13 ++ (wSt tc a1 g1 q1_18 q1_19 ++ (wLx tc a2 g2 (a1 0)))) := by
  refine ofCT (by decide) (Nat.le_of_ble_eq_true rfl) ?_
  intro pr e s m args below meth c A Q ls H locs X hQ hD0 hP hS hl
  have hD : ∀ z0 z1 z2, va_D A (wPU tc a0 z0 q0_0 (a1 0) q0_2 q0_3 q0_4 q0_5 q0_6 (a2 0) q0_8 q0_9 q0_10 q0_13 ++ (wSt tc a1 z1 q1_18 q1_19 ++ (wLx tc a2 z2 (a1 0)))) := fun z0 z1 z2 => D_fst (ws := (wPU tc a0 g0 q0_0 (a1 0) q0_2 q0_3 q0_4 q0_5 q0_6 (a2 0) q0_8 q0_9 q0_10 q0_13 ++ (wSt tc a1 g1 q1_18 q1_19 ++ (wLx tc a2 g2 (a1 0))))) rfl hD0
  have hl : lv_has ls 1 [(0, .ref (a0 0))] := hl
  unfold f_X11_echo at h
  refine lv_aload_n X.1 X.2.1 dX11_echo_0 rfl (lv_at hl 0 rfl) ?_
  refine r_get (C := RX11) (T := TX11) (N := 15) (ci := 11) (v := .ref (a2 0)) X iw11 hP 0 rfl rfl 7 rfl mw_2_150 rfl dX11_echo_1 ?_
  obtain ⟨r_1, hc_1, h⟩ := bd_el h
  refine call_Q (ws := (wPU tc a0 g0 q0_0 (a1 0) q0_2 q0_3 q0_4 q0_5 q0_6 (a2 0) q0_8 q0_9 q0_10 q0_13 ++ (wSt tc a1 g1 q1_18 q1_19 ++ (wLx tc a2 g2 (a1 0))))) (ws' := (wPU tc a0 g0 q0_0 (a1 0) q0_2 q0_3 q0_4 q0_5 q0_6 (a2 0) q0_8 q0_9 q0_10 q0_13 ++ (wSt tc a1 g1 q1_18 q1_19 ++ (wLx tc a2 g2 (a1 0))))) (wr := (wPU tc a0 g0 q0_0 (a1 0) q0_2 q0_3 q0_4 q0_5 q0_6 (a2 0) q0_8 q0_9 q0_10 q0_13)) [11, 12, 13, 14, 1, 2, 3, 4, 5, 6, 7, 8, 9, 10] [0] [0, 5, 6, 7, 8, 9, 10, 11, 12, 13, 14, 1, 2, 3, 4] (As := []) (rest := []) X (c_X6_longestEcho l dC dI sk sv tc a2 a1 q1_18 q1_19 g2 g1 hc_1) mw_3_27 mw_3_28 mw_3_29 mw_1_9 mw_3_30 dc_X6_longestEcho ⟨Nat.le_of_ble_eq_true rfl, Nat.le_of_ble_eq_true rfl⟩ rfl rfl ⟨Nat.zero_le _, Nat.zero_le _⟩ ⟨rfl, rfl, rfl, rfl, by decide, rfl, rfl⟩ hP (hD _ _ _) hS 0 rfl rfl rfl hl.1 (Nat.le_of_ble_eq_true rfl) dX11_echo_4 (fun H locs hP hS => ?_)
  refine W.eq (g2 := F0 m 7 ls [.int r_1]) rfl ?_
  exact ret_i0 (Option.some.inj h) X hQ hP hS dX11_echo_7

def f_X11_pages (g0 : Pic) (g1 : Pic) (g2 : Pic) (g3 : Pic) (x1 : Int32) (x2 : Int32) : Option ((Nat × Pic) ⊕ (Int32 × Pic)) := lr (f_X11_needWriter g0 g1 x1) (fun e => .inl (e.1, g3)) (fun _ => lr (f_X11_needNumber g0 x2 0 99) (fun e => .inl (e.1, g3)) (fun _ => bd2 (f_X8_pagesOf g3 g2 g1 x1 x2) (fun r_3 g3_3 => some (.inr (r_3, g3_3)))))
abbrev rm_X11_pages : Room := { frames := 7, cells := 2, slots := 12, locals := 143 }
set_option maxHeartbeats 4000000 in
set_option maxRecDepth 100000 in
theorem c_X11_pages (l : Launch) (hst : l.stackTraces = false) (dC : Nat → ClassId) (dI : Nat → Nat → Nat) (sk sv : Nat → Nat) (tc : Nat → ClassId) (a0 : Nat → Nat) (q0_0 : Nat) (q0_2 : Nat) (q0_3 : Nat) (q0_4 : Nat) (q0_6 : Nat) (q0_7 : Nat) (q0_8 : Nat) (q0_10 : Nat) (q0_13 : Option Nat) (a1 : Nat → Nat) (q1_18 : Option Nat) (q1_19 : Nat) (a2 : Nat → Nat) (a3 : Nat → Nat) (g0 : Pic) (g1 : Pic) (g2 : Pic) (g3 : Pic) (x1 : Int32) (x2 : Int32) {res : ((Nat × Pic) ⊕ (Int32 × Pic))} (h : f_X11_pages g0 g1 g2 g3 x1 x2 = some res) : CU l (dC, dI) sk sv (TY tc) yX11_pages cX11_pages 3 (some .int) rm_X11_pages 2 12 [.ref (a0 0), .int x1, .int x2] (wPU tc a0 g0 q0_0 (a1 0) q0_2 q0_3 q0_4 (a2 0) q0_6 q0_7 q0_8 (a3 0) q0_10 q0_13 ++ (wSt tc a1 g1 q1_18 q1_19 ++ (wHd tc a2 g2 ++ (wSc tc a3 g3 (a1 0) (a2 0))))) (oI (fun u (_ : Option Nat) => (wPU tc a0 g0 q0_0 (a1 0) q0_2 q0_3 q0_4 (a2 0) q0_6 q0_7 q0_8 (a3 0) q0_10 q0_13 ++ (wSt tc a1 g1 q1_18 q1_19 ++ (wHd tc a2 g2 ++ (wSc tc a3 u (a1 0) (a2 0)))))) res) := by
  refine ofCU (by decide) (Nat.le_of_ble_eq_true rfl) ?_
  intro pr e s m args below meth c A Q ls H locs X hT hQ hD0 hP hS hl
  have hD : ∀ z0 z1 z2 z3, va_D A (wPU tc a0 z0 q0_0 (a1 0) q0_2 q0_3 q0_4 (a2 0) q0_6 q0_7 q0_8 (a3 0) q0_10 q0_13 ++ (wSt tc a1 z1 q1_18 q1_19 ++ (wHd tc a2 z2 ++ (wSc tc a3 z3 (a1 0) (a2 0))))) := fun z0 z1 z2 z3 => D_fst (ws := (wPU tc a0 g0 q0_0 (a1 0) q0_2 q0_3 q0_4 (a2 0) q0_6 q0_7 q0_8 (a3 0) q0_10 q0_13 ++ (wSt tc a1 g1 q1_18 q1_19 ++ (wHd tc a2 g2 ++ (wSc tc a3 g3 (a1 0) (a2 0)))))) rfl hD0
  have hl : lv_has ls 3 [(0, .ref (a0 0)), (1, .int x1), (2, .int x2)] := hl
  unfold f_X11_pages at h
  refine lv_aload_n X.1 X.2.1 dX11_pages_0 rfl (lv_at hl 0 rfl) ?_
  refine lv_iload_n X.1 X.2.1 dX11_pages_1 rfl (lv_at hl 1 rfl) ?_
  obtain ⟨ex_1, hc_1, h1_1, h2_1⟩ := lr_el h
  rcases ex_1 with e_1 | r_1
  · exact callU_t (ws := (wPU tc a0 g0 q0_0 (a1 0) q0_2 q0_3 q0_4 (a2 0) q0_6 q0_7 q0_8 (a3 0) q0_10 q0_13 ++ (wSt tc a1 g1 q1_18 q1_19 ++ (wHd tc a2 g2 ++ (wSc tc a3 g3 (a1 0) (a2 0)))))) (ws' := (wPU tc a0 g0 q0_0 (a1 0) q0_2 q0_3 q0_4 (a2 0) q0_6 q0_7 q0_8 (a3 0) q0_10 q0_13 ++ (wSt tc a1 g1 q1_18 q1_19 ++ (wHd tc a2 g2 ++ (wSc tc a3 g3 (a1 0) (a2 0)))))) (wr := (wHd tc a2 g2 ++ (wSc tc a3 g3 (a1 0) (a2 0)))) [0, 1, 2, 3, 4, 5, 6, 7, 8, 9, 10] [11, 12, 13, 14, 15, 16, 17, 18, 19] [9, 10, 11, 12, 13, 14, 15, 16, 17, 18, 19, 0, 1, 2, 3, 4, 5, 6, 7, 8] (As := [.int x1]) (rest := []) none rfl (oUi (fun u (_ : Option Nat) => (wPU tc a0 g0 q0_0 (a1 0) q0_2 q0_3 q0_4 (a2 0) q0_6 q0_7 q0_8 (a3 0) q0_10 q0_13 ++ (wSt tc a1 g1 q1_18 q1_19 ++ (wHd tc a2 g2 ++ (wSc tc a3 u (a1 0) (a2 0)))))) (h1_1 _ rfl)) X hT hQ (c_X11_needWriter l hst dC dI sk sv tc a0 q0_0 q0_2 q0_3 q0_4 (a2 0) q0_6 q0_7 q0_8 (a3 0) q0_10 q0_13 a1 q1_18 q1_19 g0 g1 x1 hc_1) mw_5_38 mw_5_40 mp_1_6 mw_1_1 mw_5_41 dc_X11_needWriter ⟨Nat.le_of_ble_eq_true rfl, Nat.le_of_ble_eq_true rfl⟩ rfl rfl ⟨Nat.le_of_ble_eq_true rfl, Nat.le_of_ble_eq_true rfl⟩ ⟨rfl, rfl, rfl, rfl, by decide, rfl, rfl⟩ hP (hD _ _ _ _) hS 0 rfl rfl rfl hl.1 (Nat.le_of_ble_eq_true rfl) dX11_pages_2 (Nat.le_of_ble_eq_true rfl) (Nat.le_of_ble_eq_true rfl)
  have h := h2_1 _ rfl
  refine callU_n (ws := (wPU tc a0 g0 q0_0 (a1 0) q0_2 q0_3 q0_4 (a2 0) q0_6 q0_7 q0_8 (a3 0) q0_10 q0_13 ++ (wSt tc a1 g1 q1_18 q1_19 ++ (wHd tc a2 g2 ++ (wSc tc a3 g3 (a1 0) (a2 0)))))) (ws' := (wPU tc a0 g0 q0_0 (a1 0) q0_2 q0_3 q0_4 (a2 0) q0_6 q0_7 q0_8 (a3 0) q0_10 q0_13 ++ (wSt tc a1 g1 q1_18 q1_19 ++ (wHd tc a2 g2 ++ (wSc tc a3 g3 (a1 0) (a2 0)))))) (wr := (wHd tc a2 g2 ++ (wSc tc a3 g3 (a1 0) (a2 0)))) [0, 1, 2, 3, 4, 5, 6, 7, 8, 9, 10] [11, 12, 13, 14, 15, 16, 17, 18, 19] [9, 10, 11, 12, 13, 14, 15, 16, 17, 18, 19, 0, 1, 2, 3, 4, 5, 6, 7, 8] (As := [.int x1]) (rest := []) X (c_X11_needWriter l hst dC dI sk sv tc a0 q0_0 q0_2 q0_3 q0_4 (a2 0) q0_6 q0_7 q0_8 (a3 0) q0_10 q0_13 a1 q1_18 q1_19 g0 g1 x1 hc_1) mw_5_38 mw_5_40 mp_1_6 mw_1_1 mw_5_41 dc_X11_needWriter ⟨Nat.le_of_ble_eq_true rfl, Nat.le_of_ble_eq_true rfl⟩ rfl rfl ⟨Nat.le_of_ble_eq_true rfl, Nat.le_of_ble_eq_true rfl⟩ ⟨rfl, rfl, rfl, rfl, by decide, rfl, rfl⟩ hP (hD _ _ _ _) hS 0 rfl rfl rfl hl.1 (Nat.le_of_ble_eq_true rfl) dX11_pages_2 (fun H locs hP hS => ?_)
  refine W.eq (g2 := F0 m 5 ls []) rfl ?_
  refine lv_aload_n X.1 X.2.1 dX11_pages_5 rfl (lv_at hl 0 rfl) ?_
  refine lv_iload_n X.1 X.2.1 dX11_pages_6 rfl (lv_at hl 2 rfl) ?_
  refine lv_iconst (v := 0) X.1 X.2.1 dX11_pages_7 (by decide) ?_
  refine lv_bipush (v := 99) X.1 X.2.1 dX11_pages_8 (by decide) ?_
  obtain ⟨ex_2, hc_2, h1_2, h2_2⟩ := lr_el h
  rcases ex_2 with e_2 | r_2
  · exact callU_t (ws := (wPU tc a0 g0 q0_0 (a1 0) q0_2 q0_3 q0_4 (a2 0) q0_6 q0_7 q0_8 (a3 0) q0_10 q0_13 ++ (wSt tc a1 g1 q1_18 q1_19 ++ (wHd tc a2 g2 ++ (wSc tc a3 g3 (a1 0) (a2 0)))))) (ws' := (wPU tc a0 g0 q0_0 (a1 0) q0_2 q0_3 q0_4 (a2 0) q0_6 q0_7 q0_8 (a3 0) q0_10 q0_13 ++ (wSt tc a1 g1 q1_18 q1_19 ++ (wHd tc a2 g2 ++ (wSc tc a3 g3 (a1 0) (a2 0)))))) (wr := (wSt tc a1 g1 q1_18 q1_19 ++ (wHd tc a2 g2 ++ (wSc tc a3 g3 (a1 0) (a2 0))))) [0] [1, 2, 3, 4, 5, 6, 7, 8, 9, 10, 11, 12, 13, 14, 15, 16, 17, 18, 19] [19, 0, 1, 2, 3, 4, 5, 6, 7, 8, 9, 10, 11, 12, 13, 14, 15, 16, 17, 18] (As := [.int x2, .int 0, .int 99]) (rest := []) none rfl (oUi (fun u (_ : Option Nat) => (wPU tc a0 g0 q0_0 (a1 0) q0_2 q0_3 q0_4 (a2 0) q0_6 q0_7 q0_8 (a3 0) q0_10 q0_13 ++ (wSt tc a1 g1 q1_18 q1_19 ++ (wHd tc a2 g2 ++ (wSc tc a3 u (a1 0) (a2 0)))))) (h1_2 _ rfl)) X hT hQ (c_X11_needNumber l hst dC dI sk sv tc a0 q0_0 (a1 0) q0_2 q0_3 q0_4 (a2 0) q0_6 q0_7 q0_8 (a3 0) q0_10 q0_13 g0 x2 0 99 hc_2) mw_5_199 mw_5_201 mp_1_8 mw_1_1 mw_5_202 dc_X11_needNumber ⟨Nat.le_of_ble_eq_true rfl, Nat.le_of_ble_eq_true rfl⟩ rfl rfl ⟨Nat.le_of_ble_eq_true rfl, Nat.le_of_ble_eq_true rfl⟩ ⟨rfl, rfl, rfl, rfl, by decide, rfl, rfl⟩ hP (hD _ _ _ _) hS 0 rfl rfl rfl hl.1 (Nat.le_of_ble_eq_true rfl) dX11_pages_10 (Nat.le_of_ble_eq_true rfl) (Nat.le_of_ble_eq_true rfl)
  have h := h2_2 _ rfl
  refine callU_n (ws := (wPU tc a0 g0 q0_0 (a1 0) q0_2 q0_3 q0_4 (a2 0) q0_6 q0_7 q0_8 (a3 0) q0_10 q0_13 ++ (wSt tc a1 g1 q1_18 q1_19 ++ (wHd tc a2 g2 ++ (wSc tc a3 g3 (a1 0) (a2 0)))))) (ws' := (wPU tc a0 g0 q0_0 (a1 0) q0_2 q0_3 q0_4 (a2 0) q0_6 q0_7 q0_8 (a3 0) q0_10 q0_13 ++ (wSt tc a1 g1 q1_18 q1_19 ++ (wHd tc a2 g2 ++ (wSc tc a3 g3 (a1 0) (a2 0)))))) (wr := (wSt tc a1 g1 q1_18 q1_19 ++ (wHd tc a2 g2 ++ (wSc tc a3 g3 (a1 0) (a2 0))))) [0] [1, 2, 3, 4, 5, 6, 7, 8, 9, 10, 11, 12, 13, 14, 15, 16, 17, 18, 19] [19, 0, 1, 2, 3, 4, 5, 6, 7, 8, 9, 10, 11, 12, 13, 14, 15, 16, 17, 18] (As := [.int x2, .int 0, .int 99]) (rest := []) X (c_X11_needNumber l hst dC dI sk sv tc a0 q0_0 (a1 0) q0_2 q0_3 q0_4 (a2 0) q0_6 q0_7 q0_8 (a3 0) q0_10 q0_13 g0 x2 0 99 hc_2) mw_5_199 mw_5_201 mp_1_8 mw_1_1 mw_5_202 dc_X11_needNumber ⟨Nat.le_of_ble_eq_true rfl, Nat.le_of_ble_eq_true rfl⟩ rfl rfl ⟨Nat.le_of_ble_eq_true rfl, Nat.le_of_ble_eq_true rfl⟩ ⟨rfl, rfl, rfl, rfl, by decide, rfl, rfl⟩ hP (hD _ _ _ _) hS 0 rfl rfl rfl hl.1 (Nat.le_of_ble_eq_true rfl) dX11_pages_10 (fun H locs hP hS => ?_)
  refine W.eq (g2 := F0 m 13 ls []) rfl ?_
  refine lv_aload_n X.1 X.2.1 dX11_pages_13 rfl (lv_at hl 0 rfl) ?_
  refine r_get (C := RX11) (T := TX11) (N := 15) (ci := 11) (v := .ref (a3 0)) X iw11 hP 0 rfl rfl 9 rfl mw_2_152 rfl dX11_pages_14 ?_
  refine lv_iload_n X.1 X.2.1 dX11_pages_17 rfl (lv_at hl 1 rfl) ?_
  refine lv_iload_n X.1 X.2.1 dX11_pages_18 rfl (lv_at hl 2 rfl) ?_
  obtain ⟨r_3, g3_3, hc_3, h⟩ := bd2_el h
  refine call_Q (ws := (wPU tc a0 g0 q0_0 (a1 0) q0_2 q0_3 q0_4 (a2 0) q0_6 q0_7 q0_8 (a3 0) q0_10 q0_13 ++ (wSt tc a1 g1 q1_18 q1_19 ++ (wHd tc a2 g2 ++ (wSc tc a3 g3 (a1 0) (a2 0)))))) (ws' := (wPU tc a0 g0 q0_0 (a1 0) q0_2 q0_3 q0_4 (a2 0) q0_6 q0_7 q0_8 (a3 0) q0_10 q0_13 ++ (wSt tc a1 g1 q1_18 q1_19 ++ (wHd tc a2 g2 ++ (wSc tc a3 g3_3 (a1 0) (a2 0)))))) (wr := (wPU tc a0 g0 q0_0 (a1 0) q0_2 q0_3 q0_4 (a2 0) q0_6 q0_7 q0_8 (a3 0) q0_10 q0_13)) [16, 17, 18, 19, 11, 12, 13, 14, 15, 1, 2, 3, 4, 5, 6, 7, 8, 9, 10] [0] [0, 10, 11, 12, 13, 14, 15, 16, 17, 18, 19, 5, 6, 7, 8, 9, 1, 2, 3, 4] (As := [.int x1, .int x2]) (rest := []) X (c_X8_pagesOf l dC dI sk sv tc a3 a2 a1 q1_18 q1_19 g3 g2 g1 x1 x2 hc_3) mw_6_233 mw_6_234 mw_6_235 mw_1_11 mw_6_236 dc_X8_pagesOf ⟨Nat.le_of_ble_eq_true rfl, Nat.le_of_ble_eq_true rfl⟩ rfl rfl ⟨Nat.le_of_ble_eq_true rfl, Nat.le_of_ble_eq_true rfl⟩ ⟨rfl, rfl, rfl, rfl, by decide, rfl, rfl⟩ hP (hD _ _ _ _) hS 0 rfl rfl rfl hl.1 (Nat.le_of_ble_eq_true rfl) dX11_pages_19 (fun H locs hP hS => ?_)
  refine W.eq (g2 := F0 m 22 ls [.int r_3]) rfl ?_
  exact retU_i (fun u (_ : Option Nat) => (wPU tc a0 g0 q0_0 (a1 0) q0_2 q0_3 q0_4 (a2 0) q0_6 q0_7 q0_8 (a3 0) q0_10 q0_13 ++ (wSt tc a1 g1 q1_18 q1_19 ++ (wHd tc a2 g2 ++ (wSc tc a3 u (a1 0) (a2 0)))))) none (Option.some.inj h) X hQ hP hS (Nat.le_of_ble_eq_true rfl) (Nat.le_of_ble_eq_true rfl) dX11_pages_22

def f_X11_pairs (g0 : Pic) (g1 : Pic) (g2 : Pic) (g3 : Pic) (x1 : Int32) : Option ((Nat × Pic) ⊕ (Int32 × Pic)) := jn (fun (_ : Unit) => bd2 (f_X8_findPairs g3 g2 g1) (fun r_1 g3_1 => jn (fun (s0_J35 : Int32) (g3_J35 : Pic) => some (.inr (s0_J35, g3_J35))) (fun J35 => (if x1 = (-1) then J35 r_1 g3_1 else bd2 (f_X8_partnerOf g3_1 g2 g1 x1) (fun r_2 g3_2 => J35 r_2 g3_2))))) (fun J10 => (if x1 = (-1) then J10 () else lr (f_X11_needWriter g0 g1 x1) (fun e => .inl (e.1, g3)) (fun _ => J10 ())))
abbrev rm_X11_pairs : Room := { frames := 7, cells := 1, slots := 6, locals := 141 }
set_option maxHeartbeats 4000000 in
set_option maxRecDepth 100000 in
theorem c_X11_pairs (l : Launch) (hst : l.stackTraces = false) (dC : Nat → ClassId) (dI : Nat → Nat → Nat) (sk sv : Nat → Nat) (tc : Nat → ClassId) (a0 : Nat → Nat) (q0_0 : Nat) (q0_2 : Nat) (q0_3 : Nat) (q0_4 : Nat) (q0_6 : Nat) (q0_7 : Nat) (q0_8 : Nat) (q0_10 : Nat) (q0_13 : Option Nat) (a1 : Nat → Nat) (q1_18 : Option Nat) (q1_19 : Nat) (a2 : Nat → Nat) (a3 : Nat → Nat) (g0 : Pic) (g1 : Pic) (g2 : Pic) (g3 : Pic) (x1 : Int32) {res : ((Nat × Pic) ⊕ (Int32 × Pic))} (h : f_X11_pairs g0 g1 g2 g3 x1 = some res) : CU l (dC, dI) sk sv (TY tc) yX11_pairs cX11_pairs 3 (some .int) rm_X11_pairs 1 6 [.ref (a0 0), .int x1] (wPU tc a0 g0 q0_0 (a1 0) q0_2 q0_3 q0_4 (a2 0) q0_6 q0_7 q0_8 (a3 0) q0_10 q0_13 ++ (wSt tc a1 g1 q1_18 q1_19 ++ (wHd tc a2 g2 ++ (wSc tc a3 g3 (a1 0) (a2 0))))) (oI (fun u (_ : Option Nat) => (wPU tc a0 g0 q0_0 (a1 0) q0_2 q0_3 q0_4 (a2 0) q0_6 q0_7 q0_8 (a3 0) q0_10 q0_13 ++ (wSt tc a1 g1 q1_18 q1_19 ++ (wHd tc a2 g2 ++ (wSc tc a3 u (a1 0) (a2 0)))))) res) := by
  refine ofCU (by decide) (Nat.le_of_ble_eq_true rfl) ?_
  intro pr e s m args below meth c A Q ls H locs X hT hQ hD0 hP hS hl
  have hD : ∀ z0 z1 z2 z3, va_D A (wPU tc a0 z0 q0_0 (a1 0) q0_2 q0_3 q0_4 (a2 0) q0_6 q0_7 q0_8 (a3 0) q0_10 q0_13 ++ (wSt tc a1 z1 q1_18 q1_19 ++ (wHd tc a2 z2 ++ (wSc tc a3 z3 (a1 0) (a2 0))))) := fun z0 z1 z2 z3 => D_fst (ws := (wPU tc a0 g0 q0_0 (a1 0) q0_2 q0_3 q0_4 (a2 0) q0_6 q0_7 q0_8 (a3 0) q0_10 q0_13 ++ (wSt tc a1 g1 q1_18 q1_19 ++ (wHd tc a2 g2 ++ (wSc tc a3 g3 (a1 0) (a2 0)))))) rfl hD0
  have hl : lv_has ls 3 [(0, .ref (a0 0)), (1, .int x1)] := hl
  unfold f_X11_pairs at h
  refine lv_iload_n X.1 X.2.1 dX11_pairs_0 rfl (lv_at hl 1 rfl) ?_
  refine lv_iconst (v := (-1)) X.1 X.2.1 dX11_pairs_1 (by decide) ?_
  obtain ⟨J10, eJ10, h⟩ := jn_el h
  have HJ10 : ∀ (_ : Unit) (H : Heap) (locs : List Loc) (ls : Array Slot), J10 () = some res → va_P (dC, dI) vwCl (wPU tc a0 g0 q0_0 (a1 0) q0_2 q0_3 q0_4 (a2 0) q0_6 q0_7 q0_8 (a3 0) q0_10 q0_13 ++ (wSt tc a1 g1 q1_18 q1_19 ++ (wHd tc a2 g2 ++ (wSc tc a3 g3 (a1 0) (a2 0))))) H → va_S A s.heap H locs → lv_has ls 3 [(0, .ref (a0 0)), (1, .int x1)] → W pr l e rm_X11_pairs s m args below meth c H locs 1 6 Q (F0 m 10 ls []) := by
    intro _ H locs ls h hP hS hl
    rw [eJ10] at h
    refine lv_aload_n X.1 X.2.1 dX11_pairs_10 rfl (lv_at hl 0 rfl) ?_
    refine r_get (C := RX11) (T := TX11) (N := 15) (ci := 11) (v := .ref (a3 0)) X iw11 hP 0 rfl rfl 9 rfl mw_2_152 rfl dX11_pairs_11 ?_
    obtain ⟨r_1, g3_1, hc_1, h⟩ := bd2_el h
    refine call_Q (ws := (wPU tc a0 g0 q0_0 (a1 0) q0_2 q0_3 q0_4 (a2 0) q0_6 q0_7 q0_8 (a3 0) q0_10 q0_13 ++ (wSt tc a1 g1 q1_18 q1_19 ++ (wHd tc a2 g2 ++ (wSc tc a3 g3 (a1 0) (a2 0)))))) (ws' := (wPU tc a0 g0 q0_0 (a1 0) q0_2 q0_3 q0_4 (a2 0) q0_6 q0_7 q0_8 (a3 0) q0_10 q0_13 ++ (wSt tc a1 g1 q1_18 q1_19 ++ (wHd tc a2 g2 ++ (wSc tc a3 g3_1 (a1 0) (a2 0)))))) (wr := (wPU tc a0 g0 q0_0 (a1 0) q0_2 q0_3 q0_4 (a2 0) q0_6 q0_7 q0_8 (a3 0) q0_10 q0_13)) [16, 17, 18, 19, 11, 12, 13, 14, 15, 1, 2, 3, 4, 5, 6, 7, 8, 9, 10] [0] [0, 10, 11, 12, 13, 14, 15, 16, 17, 18, 19, 5, 6, 7, 8, 9, 1, 2, 3, 4] (As := []) (rest := []) X (c_X8_findPairs l dC dI sk sv tc a3 a2 a1 q1_18 q1_19 g3 g2 g1 hc_1) mw_7_9 mw_7_10 mw_7_11 mw_1_11 mw_7_12 dc_X8_findPairs ⟨Nat.le_of_ble_eq_true rfl, Nat.le_of_ble_eq_true rfl⟩ rfl rfl ⟨Nat.le_of_ble_eq_true rfl, Nat.le_of_ble_eq_true rfl⟩ ⟨rfl, rfl, rfl, rfl, by decide, rfl, rfl⟩ hP (hD _ _ _ _) hS 0 rfl rfl rfl hl.1 (Nat.le_of_ble_eq_true rfl) dX11_pairs_14 (fun H locs hP hS => ?_)
    refine W.eq (g2 := F0 m 17 ls [.int r_1]) rfl ?_
    refine lv_istore_n (lv' := [(2, .int r_1), (0, .ref (a0 0)), (1, .int x1)]) X.1 X.2.1 dX11_pairs_17 rfl hl (by decide) rfl (fun ls hl => ?_)
    refine lv_iload_n X.1 X.2.1 dX11_pairs_18 rfl (lv_at hl 2 rfl) ?_
    refine lv_iconst (v := (-1)) X.1 X.2.1 dX11_pairs_19 (by decide) ?_
    obtain ⟨J35, eJ35, h⟩ := jn_el h
    have HJ35 : ∀ (s0_J35 : Int32) (g3_J35 : Pic) (H : Heap) (locs : List Loc) (ls : Array Slot), J35 s0_J35 g3_J35 = some res → va_P (dC, dI) vwCl (wPU tc a0 g0 q0_0 (a1 0) q0_2 q0_3 q0_4 (a2 0) q0_6 q0_7 q0_8 (a3 0) q0_10 q0_13 ++ (wSt tc a1 g1 q1_18 q1_19 ++ (wHd tc a2 g2 ++ (wSc tc a3 g3_J35 (a1 0) (a2 0))))) H → va_S A s.heap H locs → lv_has ls 3 [] → W pr l e rm_X11_pairs s m args below meth c H locs 1 6 Q (F0 m 35 ls [.int s0_J35]) := by
      intro s0_J35 g3_J35 H locs ls h hP hS hl
      rw [eJ35] at h
      exact retU_i (fun u (_ : Option Nat) => (wPU tc a0 g0 q0_0 (a1 0) q0_2 q0_3 q0_4 (a2 0) q0_6 q0_7 q0_8 (a3 0) q0_10 q0_13 ++ (wSt tc a1 g1 q1_18 q1_19 ++ (wHd tc a2 g2 ++ (wSc tc a3 u (a1 0) (a2 0)))))) none (Option.some.inj h) X hQ hP hS (Nat.le_of_ble_eq_true rfl) (Nat.le_of_ble_eq_true rfl) dX11_pairs_35
    refine lv_icmp_ne (tgt := 27) X.1 X.2.1 dX11_pairs_20 (by decide) (fun hc => ?_) (fun hc => ?_)
    · have h := it_f hc h
      refine lv_aload_n X.1 X.2.1 dX11_pairs_27 rfl (lv_at hl 1 rfl) ?_
      refine r_get (C := RX11) (T := TX11) (N := 15) (ci := 11) (v := .ref (a3 0)) X iw11 hP 0 rfl rfl 9 rfl mw_2_152 rfl dX11_pairs_28 ?_
      refine lv_iload_n X.1 X.2.1 dX11_pairs_31 rfl (lv_at hl 2 rfl) ?_
      obtain ⟨r_2, g3_2, hc_2, h⟩ := bd2_el h
      refine call_Q (ws := (wPU tc a0 g0 q0_0 (a1 0) q0_2 q0_3 q0_4 (a2 0) q0_6 q0_7 q0_8 (a3 0) q0_10 q0_13 ++ (wSt tc a1 g1 q1_18 q1_19 ++ (wHd tc a2 g2 ++ (wSc tc a3 g3_1 (a1 0) (a2 0)))))) (ws' := (wPU tc a0 g0 q0_0 (a1 0) q0_2 q0_3 q0_4 (a2 0) q0_6 q0_7 q0_8 (a3 0) q0_10 q0_13 ++ (wSt tc a1 g1 q1_18 q1_19 ++ (wHd tc a2 g2 ++ (wSc tc a3 g3_2 (a1 0) (a2 0)))))) (wr := (wPU tc a0 g0 q0_0 (a1 0) q0_2 q0_3 q0_4 (a2 0) q0_6 q0_7 q0_8 (a3 0) q0_10 q0_13)) [16, 17, 18, 19, 11, 12, 13, 14, 15, 1, 2, 3, 4, 5, 6, 7, 8, 9, 10] [0] [0, 10, 11, 12, 13, 14, 15, 16, 17, 18, 19, 5, 6, 7, 8, 9, 1, 2, 3, 4] (As := [.int x1]) (rest := []) X (c_X8_partnerOf l dC dI sk sv tc a3 a2 a1 q1_18 q1_19 g3_1 g2 g1 x1 hc_2) mw_7_22 mw_7_23 mw_7_24 mw_1_11 mw_7_25 dc_X8_partnerOf ⟨Nat.le_of_ble_eq_true rfl, Nat.le_of_ble_eq_true rfl⟩ rfl rfl ⟨Nat.le_of_ble_eq_true rfl, Nat.le_of_ble_eq_true rfl⟩ ⟨rfl, rfl, rfl, rfl, by decide, rfl, rfl⟩ hP (hD _ _ _ _) hS 0 rfl rfl rfl hl.1 (Nat.le_of_ble_eq_true rfl) dX11_pairs_32 (fun H locs hP hS => ?_)
      refine W.eq (g2 := F0 m 35 ls [.int r_2]) rfl ?_
      exact HJ35 r_2 g3_2 H locs ls h hP hS (lv_sub hl [] rfl)
    · have h := it_t hc h
      refine lv_iload_n X.1 X.2.1 dX11_pairs_23 rfl (lv_at hl 0 rfl) ?_
      refine lv_goto (tgt := 35) X.1 X.2.1 dX11_pairs_24 (by decide) ?_
      exact HJ35 r_1 g3_1 H locs ls h hP hS (lv_sub hl [] rfl)
  refine lv_icmp_eq (tgt := 10) X.1 X.2.1 dX11_pairs_2 (by decide) (fun hc => ?_) (fun hc => ?_)
  · have h := it_t hc h
    refine W.widen (k := 1) (n := 6) (Nat.le_of_ble_eq_true rfl) (Nat.le_of_ble_eq_true rfl) ?_
    exact HJ10 () H locs ls h hP hS (lv_sub hl [0, 1] rfl)
  · have h := it_f hc h
    refine lv_aload_n X.1 X.2.1 dX11_pairs_5 rfl (lv_at hl 0 rfl) ?_
    refine lv_iload_n X.1 X.2.1 dX11_pairs_6 rfl (lv_at hl 1 rfl) ?_
    obtain ⟨ex_3, hc_3, h1_3, h2_3⟩ := lr_el h
    rcases ex_3 with e_3 | r_3
    · exact callU_t (ws := (wPU tc a0 g0 q0_0 (a1 0) q0_2 q0_3 q0_4 (a2 0) q0_6 q0_7 q0_8 (a3 0) q0_10 q0_13 ++ (wSt tc a1 g1 q1_18 q1_19 ++ (wHd tc a2 g2 ++ (wSc tc a3 g3 (a1 0) (a2 0)))))) (ws' := (wPU tc a0 g0 q0_0 (a1 0) q0_2 q0_3 q0_4 (a2 0) q0_6 q0_7 q0_8 (a3 0) q0_10 q0_13 ++ (wSt tc a1 g1 q1_18 q1_19 ++ (wHd tc a2 g2 ++ (wSc tc a3 g3 (a1 0) (a2 0)))))) (wr := (wHd tc a2 g2 ++ (wSc tc a3 g3 (a1 0) (a2 0)))) [0, 1, 2, 3, 4, 5, 6, 7, 8, 9, 10] [11, 12, 13, 14, 15, 16, 17, 18, 19] [9, 10, 11, 12, 13, 14, 15, 16, 17, 18, 19, 0, 1, 2, 3, 4, 5, 6, 7, 8] (As := [.int x1]) (rest := []) none rfl (oUi (fun u (_ : Option Nat) => (wPU tc a0 g0 q0_0 (a1 0) q0_2 q0_3 q0_4 (a2 0) q0_6 q0_7 q0_8 (a3 0) q0_10 q0_13 ++ (wSt tc a1 g1 q1_18 q1_19 ++ (wHd tc a2 g2 ++ (wSc tc a3 u (a1 0) (a2 0)))))) (h1_3 _ rfl)) X hT hQ (c_X11_needWriter l hst dC dI sk sv tc a0 q0_0 q0_2 q0_3 q0_4 (a2 0) q0_6 q0_7 q0_8 (a3 0) q0_10 q0_13 a1 q1_18 q1_19 g0 g1 x1 hc_3) mw_5_38 mw_5_40 mp_1_6 mw_1_1 mw_5_41 dc_X11_needWriter ⟨Nat.le_of_ble_eq_true rfl, Nat.le_of_ble_eq_true rfl⟩ rfl rfl ⟨Nat.le_of_ble_eq_true rfl, Nat.le_of_ble_eq_true rfl⟩ ⟨rfl, rfl, rfl, rfl, by decide, rfl, rfl⟩ hP (hD _ _ _ _) hS 0 rfl rfl rfl hl.1 (Nat.le_of_ble_eq_true rfl) dX11_pairs_7 (Nat.le_of_ble_eq_true rfl) (Nat.le_of_ble_eq_true rfl)
    have h := h2_3 _ rfl
    refine callU_n (ws := (wPU tc a0 g0 q0_0 (a1 0) q0_2 q0_3 q0_4 (a2 0) q0_6 q0_7 q0_8 (a3 0) q0_10 q0_13 ++ (wSt tc a1 g1 q1_18 q1_19 ++ (wHd tc a2 g2 ++ (wSc tc a3 g3 (a1 0) (a2 0)))))) (ws' := (wPU tc a0 g0 q0_0 (a1 0) q0_2 q0_3 q0_4 (a2 0) q0_6 q0_7 q0_8 (a3 0) q0_10 q0_13 ++ (wSt tc a1 g1 q1_18 q1_19 ++ (wHd tc a2 g2 ++ (wSc tc a3 g3 (a1 0) (a2 0)))))) (wr := (wHd tc a2 g2 ++ (wSc tc a3 g3 (a1 0) (a2 0)))) [0, 1, 2, 3, 4, 5, 6, 7, 8, 9, 10] [11, 12, 13, 14, 15, 16, 17, 18, 19] [9, 10, 11, 12, 13, 14, 15, 16, 17, 18, 19, 0, 1, 2, 3, 4, 5, 6, 7, 8] (As := [.int x1]) (rest := []) X (c_X11_needWriter l hst dC dI sk sv tc a0 q0_0 q0_2 q0_3 q0_4 (a2 0) q0_6 q0_7 q0_8 (a3 0) q0_10 q0_13 a1 q1_18 q1_19 g0 g1 x1 hc_3) mw_5_38 mw_5_40 mp_1_6 mw_1_1 mw_5_41 dc_X11_needWriter ⟨Nat.le_of_ble_eq_true rfl, Nat.le_of_ble_eq_true rfl⟩ rfl rfl ⟨Nat.le_of_ble_eq_true rfl, Nat.le_of_ble_eq_true rfl⟩ ⟨rfl, rfl, rfl, rfl, by decide, rfl, rfl⟩ hP (hD _ _ _ _) hS 0 rfl rfl rfl hl.1 (Nat.le_of_ble_eq_true rfl) dX11_pairs_7 (fun H locs hP hS => ?_)
    refine W.eq (g2 := F0 m 10 ls []) rfl ?_
    exact HJ10 () H locs ls h hP hS (lv_sub hl [0, 1] rfl)

def f_X11_rests (g0 : Pic) (g1 : Pic) (g2 : Pic) (g3 : Pic) (x1 : Int32) : Option ((Nat × Unit) ⊕ (Int32 × Unit)) := lr (f_X11_needWriter g0 g1 x1) (fun e => .inl (e.1, ())) (fun _ => bd (f_X8_steadyChoices g3 g2 g1 x1) (fun r_2 => some (.inr (r_2, ()))))
abbrev rm_X11_rests : Room := { frames := 7, cells := 1, slots := 6, locals := 141 }
set_option maxHeartbeats 4000000 in
set_option maxRecDepth 100000 in
theorem c_X11_rests (l : Launch) (hst : l.stackTraces = false) (dC : Nat → ClassId) (dI : Nat → Nat → Nat) (sk sv : Nat → Nat) (tc : Nat → ClassId) (a0 : Nat → Nat) (q0_0 : Nat) (q0_2 : Nat) (q0_3 : Nat) (q0_4 : Nat) (q0_6 : Nat) (q0_7 : Nat) (q0_8 : Nat) (q0_10 : Nat) (q0_13 : Option Nat) (a1 : Nat → Nat) (q1_18 : Option Nat) (q1_19 : Nat) (a2 : Nat → Nat) (a3 : Nat → Nat) (g0 : Pic) (g1 : Pic) (g2 : Pic) (g3 : Pic) (x1 : Int32) {res : ((Nat × Unit) ⊕ (Int32 × Unit))} (h : f_X11_rests g0 g1 g2 g3 x1 = some res) : CU l (dC, dI) sk sv (TY tc) yX11_rests cX11_rests 2 (some .int) rm_X11_rests 1 6 [.ref (a0 0), .int x1] (wPU tc a0 g0 q0_0 (a1 0) q0_2 q0_3 q0_4 (a2 0) q0_6 q0_7 q0_8 (a3 0) q0_10 q0_13 ++ (wSt tc a1 g1 q1_18 q1_19 ++ (wHd tc a2 g2 ++ (wSc tc a3 g3 (a1 0) (a2 0))))) (oI (fun (_ : Unit) (_ : Option Nat) => (wPU tc a0 g0 q0_0 (a1 0) q0_2 q0_3 q0_4 (a2 0) q0_6 q0_7 q0_8 (a3 0) q0_10 q0_13 ++ (wSt tc a1 g1 q1_18 q1_19 ++ (wHd tc a2 g2 ++ (wSc tc a3 g3 (a1 0) (a2 0)))))) res) := by
  refine ofCU (by decide) (Nat.le_of_ble_eq_true rfl) ?_
  intro pr e s m args below meth c A Q ls H locs X hT hQ hD0 hP hS hl
  have hD : ∀ z0 z1 z2 z3, va_D A (wPU tc a0 z0 q0_0 (a1 0) q0_2 q0_3 q0_4 (a2 0) q0_6 q0_7 q0_8 (a3 0) q0_10 q0_13 ++ (wSt tc a1 z1 q1_18 q1_19 ++ (wHd tc a2 z2 ++ (wSc tc a3 z3 (a1 0) (a2 0))))) := fun z0 z1 z2 z3 => D_fst (ws := (wPU tc a0 g0 q0_0 (a1 0) q0_2 q0_3 q0_4 (a2 0) q0_6 q0_7 q0_8 (a3 0) q0_10 q0_13 ++ (wSt tc a1 g1 q1_18 q1_19 ++ (wHd tc a2 g2 ++ (wSc tc a3 g3 (a1 0) (a2 0)))))) rfl hD0
  have hl : lv_has ls 2 [(0, .ref (a0 0)), (1, .int x1)] := hl
  unfold f_X11_rests at h
  refine lv_aload_n X.1 X.2.1 dX11_rests_0 rfl (lv_at hl 0 rfl) ?_
  refine lv_iload_n X.1 X.2.1 dX11_rests_1 rfl (lv_at hl 1 rfl) ?_
  obtain ⟨ex_1, hc_1, h1_1, h2_1⟩ := lr_el h
  rcases ex_1 with e_1 | r_1
  · exact callU_t (ws := (wPU tc a0 g0 q0_0 (a1 0) q0_2 q0_3 q0_4 (a2 0) q0_6 q0_7 q0_8 (a3 0) q0_10 q0_13 ++ (wSt tc a1 g1 q1_18 q1_19 ++ (wHd tc a2 g2 ++ (wSc tc a3 g3 (a1 0) (a2 0)))))) (ws' := (wPU tc a0 g0 q0_0 (a1 0) q0_2 q0_3 q0_4 (a2 0) q0_6 q0_7 q0_8 (a3 0) q0_10 q0_13 ++ (wSt tc a1 g1 q1_18 q1_19 ++ (wHd tc a2 g2 ++ (wSc tc a3 g3 (a1 0) (a2 0)))))) (wr := (wHd tc a2 g2 ++ (wSc tc a3 g3 (a1 0) (a2 0)))) [0, 1, 2, 3, 4, 5, 6, 7, 8, 9, 10] [11, 12, 13, 14, 15, 16, 17, 18, 19] [9, 10, 11, 12, 13, 14, 15, 16, 17, 18, 19, 0, 1, 2, 3, 4, 5, 6, 7, 8] (As := [.int x1]) (rest := []) none rfl (oUi (fun (_ : Unit) (_ : Option Nat) => (wPU tc a0 g0 q0_0 (a1 0) q0_2 q0_3 q0_4 (a2 0) q0_6 q0_7 q0_8 (a3 0) q0_10 q0_13 ++ (wSt tc a1 g1 q1_18 q1_19 ++ (wHd tc a2 g2 ++ (wSc tc a3 g3 (a1 0) (a2 0)))))) (h1_1 _ rfl)) X hT hQ (c_X11_needWriter l hst dC dI sk sv tc a0 q0_0 q0_2 q0_3 q0_4 (a2 0) q0_6 q0_7 q0_8 (a3 0) q0_10 q0_13 a1 q1_18 q1_19 g0 g1 x1 hc_1) mw_5_38 mw_5_40 mp_1_6 mw_1_1 mw_5_41 dc_X11_needWriter ⟨Nat.le_of_ble_eq_true rfl, Nat.le_of_ble_eq_true rfl⟩ rfl rfl ⟨Nat.le_of_ble_eq_true rfl, Nat.le_of_ble_eq_true rfl⟩ ⟨rfl, rfl, rfl, rfl, by decide, rfl, rfl⟩ hP (hD _ _ _ _) hS 0 rfl rfl rfl hl.1 (Nat.le_of_ble_eq_true rfl) dX11_rests_2 (Nat.le_of_ble_eq_true rfl) (Nat.le_of_ble_eq_true rfl)
  have h := h2_1 _ rfl
  refine callU_n (ws := (wPU tc a0 g0 q0_0 (a1 0) q0_2 q0_3 q0_4 (a2 0) q0_6 q0_7 q0_8 (a3 0) q0_10 q0_13 ++ (wSt tc a1 g1 q1_18 q1_19 ++ (wHd tc a2 g2 ++ (wSc tc a3 g3 (a1 0) (a2 0)))))) (ws' := (wPU tc a0 g0 q0_0 (a1 0) q0_2 q0_3 q0_4 (a2 0) q0_6 q0_7 q0_8 (a3 0) q0_10 q0_13 ++ (wSt tc a1 g1 q1_18 q1_19 ++ (wHd tc a2 g2 ++ (wSc tc a3 g3 (a1 0) (a2 0)))))) (wr := (wHd tc a2 g2 ++ (wSc tc a3 g3 (a1 0) (a2 0)))) [0, 1, 2, 3, 4, 5, 6, 7, 8, 9, 10] [11, 12, 13, 14, 15, 16, 17, 18, 19] [9, 10, 11, 12, 13, 14, 15, 16, 17, 18, 19, 0, 1, 2, 3, 4, 5, 6, 7, 8] (As := [.int x1]) (rest := []) X (c_X11_needWriter l hst dC dI sk sv tc a0 q0_0 q0_2 q0_3 q0_4 (a2 0) q0_6 q0_7 q0_8 (a3 0) q0_10 q0_13 a1 q1_18 q1_19 g0 g1 x1 hc_1) mw_5_38 mw_5_40 mp_1_6 mw_1_1 mw_5_41 dc_X11_needWriter ⟨Nat.le_of_ble_eq_true rfl, Nat.le_of_ble_eq_true rfl⟩ rfl rfl ⟨Nat.le_of_ble_eq_true rfl, Nat.le_of_ble_eq_true rfl⟩ ⟨rfl, rfl, rfl, rfl, by decide, rfl, rfl⟩ hP (hD _ _ _ _) hS 0 rfl rfl rfl hl.1 (Nat.le_of_ble_eq_true rfl) dX11_rests_2 (fun H locs hP hS => ?_)
  refine W.eq (g2 := F0 m 5 ls []) rfl ?_
  refine lv_aload_n X.1 X.2.1 dX11_rests_5 rfl (lv_at hl 0 rfl) ?_
  refine r_get (C := RX11) (T := TX11) (N := 15) (ci := 11) (v := .ref (a3 0)) X iw11 hP 0 rfl rfl 9 rfl mw_2_152 rfl dX11_rests_6 ?_
  refine lv_iload_n X.1 X.2.1 dX11_rests_9 rfl (lv_at hl 1 rfl) ?_
  obtain ⟨r_2, hc_2, h⟩ := bd_el h
  refine call_Q (ws := (wPU tc a0 g0 q0_0 (a1 0) q0_2 q0_3 q0_4 (a2 0) q0_6 q0_7 q0_8 (a3 0) q0_10 q0_13 ++ (wSt tc a1 g1 q1_18 q1_19 ++ (wHd tc a2 g2 ++ (wSc tc a3 g3 (a1 0) (a2 0)))))) (ws' := (wPU tc a0 g0 q0_0 (a1 0) q0_2 q0_3 q0_4 (a2 0) q0_6 q0_7 q0_8 (a3 0) q0_10 q0_13 ++ (wSt tc a1 g1 q1_18 q1_19 ++ (wHd tc a2 g2 ++ (wSc tc a3 g3 (a1 0) (a2 0)))))) (wr := (wPU tc a0 g0 q0_0 (a1 0) q0_2 q0_3 q0_4 (a2 0) q0_6 q0_7 q0_8 (a3 0) q0_10 q0_13)) [16, 17, 18, 19, 11, 12, 13, 14, 15, 1, 2, 3, 4, 5, 6, 7, 8, 9, 10] [0] [0, 10, 11, 12, 13, 14, 15, 16, 17, 18, 19, 5, 6, 7, 8, 9, 1, 2, 3, 4] (As := [.int x1]) (rest := []) X (c_X8_steadyChoices l dC dI sk sv tc a3 a2 a1 q1_18 q1_19 g3 g2 g1 x1 hc_2) mw_7_37 mw_7_38 mw_7_39 mw_1_11 mw_7_40 dc_X8_steadyChoices ⟨Nat.le_of_ble_eq_true rfl, Nat.le_of_ble_eq_true rfl⟩ rfl rfl ⟨Nat.le_of_ble_eq_true rfl, Nat.le_of_ble_eq_true rfl⟩ ⟨rfl, rfl, rfl, rfl, by decide, rfl, rfl⟩ hP (hD _ _ _ _) hS 0 rfl rfl rfl hl.1 (Nat.le_of_ble_eq_true rfl) dX11_rests_10 (fun H locs hP hS => ?_)
  refine W.eq (g2 := F0 m 13 ls [.int r_2]) rfl ?_
  exact retU_i (fun (_ : Unit) (_ : Option Nat) => (wPU tc a0 g0 q0_0 (a1 0) q0_2 q0_3 q0_4 (a2 0) q0_6 q0_7 q0_8 (a3 0) q0_10 q0_13 ++ (wSt tc a1 g1 q1_18 q1_19 ++ (wHd tc a2 g2 ++ (wSc tc a3 g3 (a1 0) (a2 0)))))) none (Option.some.inj h) X hQ hP hS (Nat.le_of_ble_eq_true rfl) (Nat.le_of_ble_eq_true rfl) dX11_rests_13

def f_X11_odds_n_L54 (x3 : Int32) (x4 : Int32) (g0 : Pic) (g1 : Pic) (g2 : Pic) (g3 : Pic) (g4 : Pic) (g5 : Pic) (n : Nat) (a : Int32 × Int32) : Option (Int32) := lp (fun (rec : Int32 × Int32 → Option (Int32)) (a : Int32 × Int32) => match a with | (x5, x6) => (if x3 ≤ x6 then some x5 else nm (((x5 * x4) / 100)) (fun x5_7 => nm (x6 + 1) (fun x6_8 => rec (x5_7, x6_8))))) n a
def f_X11_odds_n (g0 : Pic) (g1 : Pic) (g2 : Pic) (g3 : Pic) (g4 : Pic) (g5 : Pic) (x1 : Int32) (x2 : Int32) (x3 : Int32) : Option ((Nat × (Pic × Pic)) ⊕ (Int32 × (Pic × Pic))) := lr (f_X11_needWriter g0 g1 x1) (fun e => .inl (e.1, (g3, g5))) (fun _ => lr (f_X11_needWord g0 g1 x2) (fun e => .inl (e.1, (g3, g5))) (fun _ => lr (f_X11_needNumber g0 x3 0 4) (fun e => .inl (e.1, (g3, g5))) (fun _ => bd2 (f_X0_observe_n g4 g5 g3 g1 g2 x1 x2) (fun g5_4 g3_4 => bd (f_X0_slipsOf_n g4 g5_4 g3_4 g1 g2) (fun r_5 => nm ((100 - r_5)) (fun x4_6 => bd (f_X11_odds_n_L54 x3 x4_6 g0 g1 g2 g3_4 g4 g5_4 fu (10000, 0)) (fun x5_9 => some (.inr (x5_9, (g3_4, g5_4))))))))))
abbrev rm_X11_odds_n : Room := { frames := 7, cells := 3, slots := 18, locals := 143 }
set_option maxHeartbeats 4000000 in
set_option maxRecDepth 100000 in
theorem c_X11_odds_n (l : Launch) (hst : l.stackTraces = false) (dC : Nat → ClassId) (dI : Nat → Nat → Nat) (sk sv : Nat → Nat) (tc : Nat → ClassId) (a0 : Nat → Nat) (q0_0 : Nat) (q0_2 : Nat) (q0_3 : Nat) (q0_4 : Nat) (q0_7 : Nat) (q0_8 : Nat) (q0_9 : Nat) (q0_10 : Nat) (q0_13 : Option Nat) (a1 : Nat → Nat) (a2 : Nat → Nat) (a3 : Nat → Nat) (a4 : Nat → Nat) (a5 : Nat → Nat) (g0 : Pic) (g1 : Pic) (g2 : Pic) (g3 : Pic) (g4 : Pic) (g5 : Pic) (x1 : Int32) (x2 : Int32) (x3 : Int32) {res : ((Nat × (Pic × Pic)) ⊕ (Int32 × (Pic × Pic)))} (h : f_X11_odds_n g0 g1 g2 g3 g4 g5 x1 x2 x3 = some res) : CU l (dC, dI) sk sv (TY tc) yX11_odds cX11_odds 7 (some .int) rm_X11_odds_n 3 18 [.ref (a0 0), .int x1, .int x2, .int x3] (wPU tc a0 g0 q0_0 (a1 0) q0_2 q0_3 q0_4 (a3 0) (a4 0) q0_7 q0_8 q0_9 q0_10 q0_13 ++ (wSt tc a1 g1 none (a2 0) ++ (wLg tc a2 g2 ++ (wHd tc a3 g3 ++ (wCk tc a4 g4 (a3 0) (a5 0) ++ (wFa tc a5 g5)))))) (oI (fun u (_ : Option Nat) => (wPU tc a0 g0 q0_0 (a1 0) q0_2 q0_3 q0_4 (a3 0) (a4 0) q0_7 q0_8 q0_9 q0_10 q0_13 ++ (wSt tc a1 g1 none (a2 0) ++ (wLg tc a2 g2 ++ (wHd tc a3 u.1 ++ (wCk tc a4 g4 (a3 0) (a5 0) ++ (wFa tc a5 u.2))))))) res) := by
  refine ofCU (by decide) (Nat.le_of_ble_eq_true rfl) ?_
  intro pr e s m args below meth c A Q ls H locs X hT hQ hD0 hP hS hl
  have hD : ∀ z0 z1 z2 z3 z4 z5, va_D A (wPU tc a0 z0 q0_0 (a1 0) q0_2 q0_3 q0_4 (a3 0) (a4 0) q0_7 q0_8 q0_9 q0_10 q0_13 ++ (wSt tc a1 z1 none (a2 0) ++ (wLg tc a2 z2 ++ (wHd tc a3 z3 ++ (wCk tc a4 z4 (a3 0) (a5 0) ++ (wFa tc a5 z5)))))) := fun z0 z1 z2 z3 z4 z5 => D_fst (ws := (wPU tc a0 g0 q0_0 (a1 0) q0_2 q0_3 q0_4 (a3 0) (a4 0) q0_7 q0_8 q0_9 q0_10 q0_13 ++ (wSt tc a1 g1 none (a2 0) ++ (wLg tc a2 g2 ++ (wHd tc a3 g3 ++ (wCk tc a4 g4 (a3 0) (a5 0) ++ (wFa tc a5 g5))))))) rfl hD0
  have hl : lv_has ls 7 [(0, .ref (a0 0)), (1, .int x1), (2, .int x2), (3, .int x3)] := hl
  have HL54 : ∀ (x3 : Int32) (x4 : Int32) (g3 : Pic) (g5 : Pic) (n : Nat) (x5 : Int32) (x6 : Int32) (ex : (Int32)), f_X11_odds_n_L54 x3 x4 g0 g1 g2 g3 g4 g5 n (x5, x6) = some ex → ∀ (H : Heap) (locs : List Loc) (ls : Array Slot), va_P (dC, dI) vwCl (wPU tc a0 g0 q0_0 (a1 0) q0_2 q0_3 q0_4 (a3 0) (a4 0) q0_7 q0_8 q0_9 q0_10 q0_13 ++ (wSt tc a1 g1 none (a2 0) ++ (wLg tc a2 g2 ++ (wHd tc a3 g3 ++ (wCk tc a4 g4 (a3 0) (a5 0) ++ (wFa tc a5 g5)))))) H → va_S A s.heap H locs → lv_has ls 7 [(3, .int x3), (4, .int x4), (5, .int x5), (6, .int x6)] → (∀ (y5 : Int32), y5 = ex → ∀ (H : Heap) (locs : List Loc) (ls : Array Slot), va_P (dC, dI) vwCl (wPU tc a0 g0 q0_0 (a1 0) q0_2 q0_3 q0_4 (a3 0) (a4 0) q0_7 q0_8 q0_9 q0_10 q0_13 ++ (wSt tc a1 g1 none (a2 0) ++ (wLg tc a2 g2 ++ (wHd tc a3 g3 ++ (wCk tc a4 g4 (a3 0) (a5 0) ++ (wFa tc a5 g5)))))) H → va_S A s.heap H locs → lv_has ls 7 [(5, .int y5)] → W pr l e rm_X11_odds_n s m args below meth c H locs 3 18 Q (F0 m 76 ls [])) → W pr l e rm_X11_odds_n s m args below meth c H locs 3 18 Q (F0 m 54 ls []) := by
    intro x3 x4 g3 g5 n
    induction n with
    | zero => intro x5 x6 ex h; exact lp_z h
    | succ n ih =>
      intro x5 x6 ex h H locs ls hP hS hl K
      have h := lp_s h
      refine lv_iload X.1 X.2.1 dX11_odds_54 (lv_at hl 3 rfl) ?_
      refine lv_iload_n X.1 X.2.1 dX11_odds_56 rfl (lv_at hl 0 rfl) ?_
      refine lv_icmp_ge (tgt := 76) X.1 X.2.1 dX11_odds_57 (by decide) (fun hc => ?_) (fun hc => ?_)
      · have h := it_t hc h
        exact K x5 (Option.some.inj h) H locs ls hP hS (lv_sub hl [2] rfl)
      · have h := it_f hc h
        refine lv_iload X.1 X.2.1 dX11_odds_60 (lv_at hl 2 rfl) ?_
        refine lv_iload X.1 X.2.1 dX11_odds_62 (lv_at hl 1 rfl) ?_
        refine lv_imul X.1 X.2.1 dX11_odds_64 ?_
        refine lv_bipush (v := 100) X.1 X.2.1 dX11_odds_65 (by decide) ?_
        refine lv_idiv X.1 X.2.1 dX11_odds_67 (by decide) ?_
        obtain ⟨x5_7, ex5_7, h⟩ := nm_el h
        refine tp_i ex5_7 ?_
        refine lv_istore (lv' := [(5, .int x5_7), (3, .int x3), (4, .int x4), (6, .int x6)]) X.1 X.2.1 dX11_odds_68 hl (by decide) rfl (fun ls hl => ?_)
        obtain ⟨x6_8, ex6_8, h⟩ := nm_el h
        refine lv_iinc (v := x6_8) (lv' := [(6, .int x6_8), (5, .int x5_7), (3, .int x3), (4, .int x4)]) X.1 X.2.1 dX11_odds_70 hl (k := 3) rfl (by rw [ex6_8]; rfl) (by decide) rfl (fun ls hl => ?_)
        refine lv_goto (tgt := 54) X.1 X.2.1 dX11_odds_73 (by decide) ?_
        exact ih x5_7 x6_8 ex h H locs ls hP hS (lv_sub hl [2, 3, 1, 0] rfl) K
  unfold f_X11_odds_n at h
  refine lv_aload_n X.1 X.2.1 dX11_odds_0 rfl (lv_at hl 0 rfl) ?_
  refine lv_iload_n X.1 X.2.1 dX11_odds_1 rfl (lv_at hl 1 rfl) ?_
  obtain ⟨ex_1, hc_1, h1_1, h2_1⟩ := lr_el h
  rcases ex_1 with e_1 | r_1
  · exact callU_t (ws := (wPU tc a0 g0 q0_0 (a1 0) q0_2 q0_3 q0_4 (a3 0) (a4 0) q0_7 q0_8 q0_9 q0_10 q0_13 ++ (wSt tc a1 g1 none (a2 0) ++ (wLg tc a2 g2 ++ (wHd tc a3 g3 ++ (wCk tc a4 g4 (a3 0) (a5 0) ++ (wFa tc a5 g5))))))) (ws' := (wPU tc a0 g0 q0_0 (a1 0) q0_2 q0_3 q0_4 (a3 0) (a4 0) q0_7 q0_8 q0_9 q0_10 q0_13 ++ (wSt tc a1 g1 none (a2 0) ++ (wLg tc a2 g2 ++ (wHd tc a3 g3 ++ (wCk tc a4 g4 (a3 0) (a5 0) ++ (wFa tc a5 g5))))))) (wr := (wLg tc a2 g2 ++ (wHd tc a3 g3 ++ (wCk tc a4 g4 (a3 0) (a5 0) ++ (wFa tc a5 g5))))) [0, 1, 2, 3, 4, 5, 6, 7, 8, 9, 10] [11, 12, 13, 14, 15, 16, 17, 18, 19] [9, 10, 11, 12, 13, 14, 15, 16, 17, 18, 19, 0, 1, 2, 3, 4, 5, 6, 7, 8] (As := [.int x1]) (rest := []) none rfl (oUi (fun u (_ : Option Nat) => (wPU tc a0 g0 q0_0 (a1 0) q0_2 q0_3 q0_4 (a3 0) (a4 0) q0_7 q0_8 q0_9 q0_10 q0_13 ++ (wSt tc a1 g1 none (a2 0) ++ (wLg tc a2 g2 ++ (wHd tc a3 u.1 ++ (wCk tc a4 g4 (a3 0) (a5 0) ++ (wFa tc a5 u.2))))))) (h1_1 _ rfl)) X hT hQ (c_X11_needWriter l hst dC dI sk sv tc a0 q0_0 q0_2 q0_3 q0_4 (a3 0) (a4 0) q0_7 q0_8 q0_9 q0_10 q0_13 a1 none (a2 0) g0 g1 x1 hc_1) mw_5_38 mw_5_40 mp_1_6 mw_1_1 mw_5_41 dc_X11_needWriter ⟨Nat.le_of_ble_eq_true rfl, Nat.le_of_ble_eq_true rfl⟩ rfl rfl ⟨Nat.le_of_ble_eq_true rfl, Nat.le_of_ble_eq_true rfl⟩ ⟨rfl, rfl, rfl, rfl, by decide, rfl, rfl⟩ hP (hD _ _ _ _ _ _) hS 0 rfl rfl rfl hl.1 (Nat.le_of_ble_eq_true rfl) dX11_odds_2 (Nat.le_of_ble_eq_true rfl) (Nat.le_of_ble_eq_true rfl)
  have h := h2_1 _ rfl
  refine callU_n (ws := (wPU tc a0 g0 q0_0 (a1 0) q0_2 q0_3 q0_4 (a3 0) (a4 0) q0_7 q0_8 q0_9 q0_10 q0_13 ++ (wSt tc a1 g1 none (a2 0) ++ (wLg tc a2 g2 ++ (wHd tc a3 g3 ++ (wCk tc a4 g4 (a3 0) (a5 0) ++ (wFa tc a5 g5))))))) (ws' := (wPU tc a0 g0 q0_0 (a1 0) q0_2 q0_3 q0_4 (a3 0) (a4 0) q0_7 q0_8 q0_9 q0_10 q0_13 ++ (wSt tc a1 g1 none (a2 0) ++ (wLg tc a2 g2 ++ (wHd tc a3 g3 ++ (wCk tc a4 g4 (a3 0) (a5 0) ++ (wFa tc a5 g5))))))) (wr := (wLg tc a2 g2 ++ (wHd tc a3 g3 ++ (wCk tc a4 g4 (a3 0) (a5 0) ++ (wFa tc a5 g5))))) [0, 1, 2, 3, 4, 5, 6, 7, 8, 9, 10] [11, 12, 13, 14, 15, 16, 17, 18, 19] [9, 10, 11, 12, 13, 14, 15, 16, 17, 18, 19, 0, 1, 2, 3, 4, 5, 6, 7, 8] (As := [.int x1]) (rest := []) X (c_X11_needWriter l hst dC dI sk sv tc a0 q0_0 q0_2 q0_3 q0_4 (a3 0) (a4 0) q0_7 q0_8 q0_9 q0_10 q0_13 a1 none (a2 0) g0 g1 x1 hc_1) mw_5_38 mw_5_40 mp_1_6 mw_1_1 mw_5_41 dc_X11_needWriter ⟨Nat.le_of_ble_eq_true rfl, Nat.le_of_ble_eq_true rfl⟩ rfl rfl ⟨Nat.le_of_ble_eq_true rfl, Nat.le_of_ble_eq_true rfl⟩ ⟨rfl, rfl, rfl, rfl, by decide, rfl, rfl⟩ hP (hD _ _ _ _ _ _) hS 0 rfl rfl rfl hl.1 (Nat.le_of_ble_eq_true rfl) dX11_odds_2 (fun H locs hP hS => ?_)
  refine W.eq (g2 := F0 m 5 ls []) rfl ?_
  refine lv_aload_n X.1 X.2.1 dX11_odds_5 rfl (lv_at hl 0 rfl) ?_
  refine lv_iload_n X.1 X.2.1 dX11_odds_6 rfl (lv_at hl 2 rfl) ?_
  obtain ⟨ex_2, hc_2, h1_2, h2_2⟩ := lr_el h
  rcases ex_2 with e_2 | r_2
  · exact callU_t (ws := (wPU tc a0 g0 q0_0 (a1 0) q0_2 q0_3 q0_4 (a3 0) (a4 0) q0_7 q0_8 q0_9 q0_10 q0_13 ++ (wSt tc a1 g1 none (a2 0) ++ (wLg tc a2 g2 ++ (wHd tc a3 g3 ++ (wCk tc a4 g4 (a3 0) (a5 0) ++ (wFa tc a5 g5))))))) (ws' := (wPU tc a0 g0 q0_0 (a1 0) q0_2 q0_3 q0_4 (a3 0) (a4 0) q0_7 q0_8 q0_9 q0_10 q0_13 ++ (wSt tc a1 g1 none (a2 0) ++ (wLg tc a2 g2 ++ (wHd tc a3 g3 ++ (wCk tc a4 g4 (a3 0) (a5 0) ++ (wFa tc a5 g5))))))) (wr := (wLg tc a2 g2 ++ (wHd tc a3 g3 ++ (wCk tc a4 g4 (a3 0) (a5 0) ++ (wFa tc a5 g5))))) [0, 1, 2, 3, 4, 5, 6, 7, 8, 9, 10] [11, 12, 13, 14, 15, 16, 17, 18, 19] [9, 10, 11, 12, 13, 14, 15, 16, 17, 18, 19, 0, 1, 2, 3, 4, 5, 6, 7, 8] (As := [.int x2]) (rest := []) none rfl (oUi (fun u (_ : Option Nat) => (wPU tc a0 g0 q0_0 (a1 0) q0_2 q0_3 q0_4 (a3 0) (a4 0) q0_7 q0_8 q0_9 q0_10 q0_13 ++ (wSt tc a1 g1 none (a2 0) ++ (wLg tc a2 g2 ++ (wHd tc a3 u.1 ++ (wCk tc a4 g4 (a3 0) (a5 0) ++ (wFa tc a5 u.2))))))) (h1_2 _ rfl)) X hT hQ (c_X11_needWord l hst dC dI sk sv tc a0 q0_0 q0_2 q0_3 q0_4 (a3 0) (a4 0) q0_7 q0_8 q0_9 q0_10 q0_13 a1 none (a2 0) g0 g1 x2 hc_2) mw_4_210 mw_4_212 mp_1_5 mw_1_1 mw_4_213 dc_X11_needWord ⟨Nat.le_of_ble_eq_true rfl, Nat.le_of_ble_eq_true rfl⟩ rfl rfl ⟨Nat.le_of_ble_eq_true rfl, Nat.le_of_ble_eq_true rfl⟩ ⟨rfl, rfl, rfl, rfl, by decide, rfl, rfl⟩ hP (hD _ _ _ _ _ _) hS 0 rfl rfl rfl hl.1 (Nat.le_of_ble_eq_true rfl) dX11_odds_7 (Nat.le_of_ble_eq_true rfl) (Nat.le_of_ble_eq_true rfl)
  have h := h2_2 _ rfl
  refine callU_n (ws := (wPU tc a0 g0 q0_0 (a1 0) q0_2 q0_3 q0_4 (a3 0) (a4 0) q0_7 q0_8 q0_9 q0_10 q0_13 ++ (wSt tc a1 g1 none (a2 0) ++ (wLg tc a2 g2 ++ (wHd tc a3 g3 ++ (wCk tc a4 g4 (a3 0) (a5 0) ++ (wFa tc a5 g5))))))) (ws' := (wPU tc a0 g0 q0_0 (a1 0) q0_2 q0_3 q0_4 (a3 0) (a4 0) q0_7 q0_8 q0_9 q0_10 q0_13 ++ (wSt tc a1 g1 none (a2 0) ++ (wLg tc a2 g2 ++ (wHd tc a3 g3 ++ (wCk tc a4 g4 (a3 0) (a5 0) ++ (wFa tc a5 g5))))))) (wr := (wLg tc a2 g2 ++ (wHd tc a3 g3 ++ (wCk tc a4 g4 (a3 0) (a5 0) ++ (wFa tc a5 g5))))) [0, 1, 2, 3, 4, 5, 6, 7, 8, 9, 10] [11, 12, 13, 14, 15, 16, 17, 18, 19] [9, 10, 11, 12, 13, 14, 15, 16, 17, 18, 19, 0, 1, 2, 3, 4, 5, 6, 7, 8] (As := [.int x2]) (rest := []) X (c_X11_needWord l hst dC dI sk sv tc a0 q0_0 q0_2 q0_3 q0_4 (a3 0) (a4 0) q0_7 q0_8 q0_9 q0_10 q0_13 a1 none (a2 0) g0 g1 x2 hc_2) mw_4_210 mw_4_212 mp_1_5 mw_1_1 mw_4_213 dc_X11_needWord ⟨Nat.le_of_ble_eq_true rfl, Nat.le_of_ble_eq_true rfl⟩ rfl rfl ⟨Nat.le_of_ble_eq_true rfl, Nat.le_of_ble_eq_true rfl⟩ ⟨rfl, rfl, rfl, rfl, by decide, rfl, rfl⟩ hP (hD _ _ _ _ _ _) hS 0 rfl rfl rfl hl.1 (Nat.le_of_ble_eq_true rfl) dX11_odds_7 (fun H locs hP hS => ?_)
  refine W.eq (g2 := F0 m 10 ls []) rfl ?_
  refine lv_aload_n X.1 X.2.1 dX11_odds_10 rfl (lv_at hl 0 rfl) ?_
  refine lv_iload_n X.1 X.2.1 dX11_odds_11 rfl (lv_at hl 3 rfl) ?_
  refine lv_iconst (v := 0) X.1 X.2.1 dX11_odds_12 (by decide) ?_
  refine lv_iconst (v := 4) X.1 X.2.1 dX11_odds_13 (by decide) ?_
  obtain ⟨ex_3, hc_3, h1_3, h2_3⟩ := lr_el h
  rcases ex_3 with e_3 | r_3
  · exact callU_t (ws := (wPU tc a0 g0 q0_0 (a1 0) q0_2 q0_3 q0_4 (a3 0) (a4 0) q0_7 q0_8 q0_9 q0_10 q0_13 ++ (wSt tc a1 g1 none (a2 0) ++ (wLg tc a2 g2 ++ (wHd tc a3 g3 ++ (wCk tc a4 g4 (a3 0) (a5 0) ++ (wFa tc a5 g5))))))) (ws' := (wPU tc a0 g0 q0_0 (a1 0) q0_2 q0_3 q0_4 (a3 0) (a4 0) q0_7 q0_8 q0_9 q0_10 q0_13 ++ (wSt tc a1 g1 none (a2 0) ++ (wLg tc a2 g2 ++ (wHd tc a3 g3 ++ (wCk tc a4 g4 (a3 0) (a5 0) ++ (wFa tc a5 g5))))))) (wr := (wSt tc a1 g1 none (a2 0) ++ (wLg tc a2 g2 ++ (wHd tc a3 g3 ++ (wCk tc a4 g4 (a3 0) (a5 0) ++ (wFa tc a5 g5)))))) [0] [1, 2, 3, 4, 5, 6, 7, 8, 9, 10, 11, 12, 13, 14, 15, 16, 17, 18, 19] [19, 0, 1, 2, 3, 4, 5, 6, 7, 8, 9, 10, 11, 12, 13, 14, 15, 16, 17, 18] (As := [.int x3, .int 0, .int 4]) (rest := []) none rfl (oUi (fun u (_ : Option Nat) => (wPU tc a0 g0 q0_0 (a1 0) q0_2 q0_3 q0_4 (a3 0) (a4 0) q0_7 q0_8 q0_9 q0_10 q0_13 ++ (wSt tc a1 g1 none (a2 0) ++ (wLg tc a2 g2 ++ (wHd tc a3 u.1 ++ (wCk tc a4 g4 (a3 0) (a5 0) ++ (wFa tc a5 u.2))))))) (h1_3 _ rfl)) X hT hQ (c_X11_needNumber l hst dC dI sk sv tc a0 q0_0 (a1 0) q0_2 q0_3 q0_4 (a3 0) (a4 0) q0_7 q0_8 q0_9 q0_10 q0_13 g0 x3 0 4 hc_3) mw_5_199 mw_5_201 mp_1_8 mw_1_1 mw_5_202 dc_X11_needNumber ⟨Nat.le_of_ble_eq_true rfl, Nat.le_of_ble_eq_true rfl⟩ rfl rfl ⟨Nat.le_of_ble_eq_true rfl, Nat.le_of_ble_eq_true rfl⟩ ⟨rfl, rfl, rfl, rfl, by decide, rfl, rfl⟩ hP (hD _ _ _ _ _ _) hS 0 rfl rfl rfl hl.1 (Nat.le_of_ble_eq_true rfl) dX11_odds_14 (Nat.le_of_ble_eq_true rfl) (Nat.le_of_ble_eq_true rfl)
  have h := h2_3 _ rfl
  refine callU_n (ws := (wPU tc a0 g0 q0_0 (a1 0) q0_2 q0_3 q0_4 (a3 0) (a4 0) q0_7 q0_8 q0_9 q0_10 q0_13 ++ (wSt tc a1 g1 none (a2 0) ++ (wLg tc a2 g2 ++ (wHd tc a3 g3 ++ (wCk tc a4 g4 (a3 0) (a5 0) ++ (wFa tc a5 g5))))))) (ws' := (wPU tc a0 g0 q0_0 (a1 0) q0_2 q0_3 q0_4 (a3 0) (a4 0) q0_7 q0_8 q0_9 q0_10 q0_13 ++ (wSt tc a1 g1 none (a2 0) ++ (wLg tc a2 g2 ++ (wHd tc a3 g3 ++ (wCk tc a4 g4 (a3 0) (a5 0) ++ (wFa tc a5 g5))))))) (wr := (wSt tc a1 g1 none (a2 0) ++ (wLg tc a2 g2 ++ (wHd tc a3 g3 ++ (wCk tc a4 g4 (a3 0) (a5 0) ++ (wFa tc a5 g5)))))) [0] [1, 2, 3, 4, 5, 6, 7, 8, 9, 10, 11, 12, 13, 14, 15, 16, 17, 18, 19] [19, 0, 1, 2, 3, 4, 5, 6, 7, 8, 9, 10, 11, 12, 13, 14, 15, 16, 17, 18] (As := [.int x3, .int 0, .int 4]) (rest := []) X (c_X11_needNumber l hst dC dI sk sv tc a0 q0_0 (a1 0) q0_2 q0_3 q0_4 (a3 0) (a4 0) q0_7 q0_8 q0_9 q0_10 q0_13 g0 x3 0 4 hc_3) mw_5_199 mw_5_201 mp_1_8 mw_1_1 mw_5_202 dc_X11_needNumber ⟨Nat.le_of_ble_eq_true rfl, Nat.le_of_ble_eq_true rfl⟩ rfl rfl ⟨Nat.le_of_ble_eq_true rfl, Nat.le_of_ble_eq_true rfl⟩ ⟨rfl, rfl, rfl, rfl, by decide, rfl, rfl⟩ hP (hD _ _ _ _ _ _) hS 0 rfl rfl rfl hl.1 (Nat.le_of_ble_eq_true rfl) dX11_odds_14 (fun H locs hP hS => ?_)
  refine W.eq (g2 := F0 m 17 ls []) rfl ?_
  refine lv_aload_n X.1 X.2.1 dX11_odds_17 rfl (lv_at hl 0 rfl) ?_
  refine r_get (C := RX11) (T := TX11) (N := 15) (ci := 11) (v := .ref (a4 0)) X iw11 hP 0 rfl rfl 6 rfl mw_2_149 rfl dX11_odds_18 ?_
  refine lv_aload_n X.1 X.2.1 dX11_odds_21 rfl (lv_at hl 0 rfl) ?_
  refine r_get (C := RX11) (T := TX11) (N := 15) (ci := 11) (v := .ref (a1 0)) X iw11 hP 0 rfl rfl 1 rfl mw_2_144 rfl dX11_odds_22 ?_
  refine lv_iload_n X.1 X.2.1 dX11_odds_25 rfl (lv_at hl 1 rfl) ?_
  refine lv_iload_n X.1 X.2.1 dX11_odds_26 rfl (lv_at hl 2 rfl) ?_
  obtain ⟨g5_4, g3_4, hc_4, h⟩ := bd2_el h
  refine call_Q (ws := (wPU tc a0 g0 q0_0 (a1 0) q0_2 q0_3 q0_4 (a3 0) (a4 0) q0_7 q0_8 q0_9 q0_10 q0_13 ++ (wSt tc a1 g1 none (a2 0) ++ (wLg tc a2 g2 ++ (wHd tc a3 g3 ++ (wCk tc a4 g4 (a3 0) (a5 0) ++ (wFa tc a5 g5))))))) (ws' := (wPU tc a0 g0 q0_0 (a1 0) q0_2 q0_3 q0_4 (a3 0) (a4 0) q0_7 q0_8 q0_9 q0_10 q0_13 ++ (wSt tc a1 g1 none (a2 0) ++ (wLg tc a2 g2 ++ (wHd tc a3 g3_4 ++ (wCk tc a4 g4 (a3 0) (a5 0) ++ (wFa tc a5 g5_4))))))) (wr := (wPU tc a0 g0 q0_0 (a1 0) q0_2 q0_3 q0_4 (a3 0) (a4 0) q0_7 q0_8 q0_9 q0_10 q0_13)) [18, 19, 13, 14, 15, 16, 17, 1, 2, 3, 4, 5, 6, 7, 8, 9, 10, 11, 12] [0] [0, 8, 9, 10, 11, 12, 13, 14, 15, 16, 17, 18, 19, 3, 4, 5, 6, 7, 1, 2] (As := [.ref (a1 0), .int x1, .int x2]) (rest := []) X (c_X0_observe_n l dC dI sk sv tc a4 a5 a3 a1 a2 g4 g5 g3 g1 g2 x1 x2 hc_4) mw_5_153 mw_5_154 mw_5_155 mw_1_8 mw_5_156 dc_X0_observe ⟨Nat.le_of_ble_eq_true rfl, Nat.le_of_ble_eq_true rfl⟩ rfl rfl ⟨Nat.le_of_ble_eq_true rfl, Nat.le_of_ble_eq_true rfl⟩ ⟨rfl, rfl, rfl, rfl, by decide, rfl, rfl⟩ hP (hD _ _ _ _ _ _) hS 0 rfl rfl rfl hl.1 (Nat.le_of_ble_eq_true rfl) dX11_odds_27 (fun H locs hP hS => ?_)
  refine W.eq (g2 := F0 m 30 ls []) rfl ?_
  refine lv_bipush (v := 100) X.1 X.2.1 dX11_odds_30 (by decide) ?_
  refine lv_aload_n X.1 X.2.1 dX11_odds_32 rfl (lv_at hl 0 rfl) ?_
  refine r_get (C := RX11) (T := TX11) (N := 15) (ci := 11) (v := .ref (a4 0)) X iw11 hP 0 rfl rfl 6 rfl mw_2_149 rfl dX11_odds_33 ?_
  refine lv_aload_n X.1 X.2.1 dX11_odds_36 rfl (lv_at hl 0 rfl) ?_
  refine r_get (C := RX11) (T := TX11) (N := 15) (ci := 11) (v := .ref (a1 0)) X iw11 hP 0 rfl rfl 1 rfl mw_2_144 rfl dX11_odds_37 ?_
  obtain ⟨r_5, hc_5, h⟩ := bd_el h
  refine call_Q (ws := (wPU tc a0 g0 q0_0 (a1 0) q0_2 q0_3 q0_4 (a3 0) (a4 0) q0_7 q0_8 q0_9 q0_10 q0_13 ++ (wSt tc a1 g1 none (a2 0) ++ (wLg tc a2 g2 ++ (wHd tc a3 g3_4 ++ (wCk tc a4 g4 (a3 0) (a5 0) ++ (wFa tc a5 g5_4))))))) (ws' := (wPU tc a0 g0 q0_0 (a1 0) q0_2 q0_3 q0_4 (a3 0) (a4 0) q0_7 q0_8 q0_9 q0_10 q0_13 ++ (wSt tc a1 g1 none (a2 0) ++ (wLg tc a2 g2 ++ (wHd tc a3 g3_4 ++ (wCk tc a4 g4 (a3 0) (a5 0) ++ (wFa tc a5 g5_4))))))) (wr := (wPU tc a0 g0 q0_0 (a1 0) q0_2 q0_3 q0_4 (a3 0) (a4 0) q0_7 q0_8 q0_9 q0_10 q0_13)) [18, 19, 13, 14, 15, 16, 17, 1, 2, 3, 4, 5, 6, 7, 8, 9, 10, 11, 12] [0] [0, 8, 9, 10, 11, 12, 13, 14, 15, 16, 17, 18, 19, 3, 4, 5, 6, 7, 1, 2] (As := [.ref (a1 0)]) (rest := [.int 100]) X (c_X0_slipsOf_n l dC dI sk sv tc a4 a5 a3 a1 a2 g4 g5_4 g3_4 g1 g2 hc_5) mw_5_170 mw_5_171 mw_5_172 mw_1_8 mw_5_173 dc_X0_slipsOf ⟨Nat.le_of_ble_eq_true rfl, Nat.le_of_ble_eq_true rfl⟩ rfl rfl ⟨Nat.le_of_ble_eq_true rfl, Nat.le_of_ble_eq_true rfl⟩ ⟨rfl, rfl, rfl, rfl, by decide, rfl, rfl⟩ hP (hD _ _ _ _ _ _) hS 0 rfl rfl rfl hl.1 (Nat.le_of_ble_eq_true rfl) dX11_odds_40 (fun H locs hP hS => ?_)
  refine W.eq (g2 := F0 m 43 ls [.int r_5, .int 100]) rfl ?_
  refine lv_isub X.1 X.2.1 dX11_odds_43 ?_
  obtain ⟨x4_6, ex4_6, h⟩ := nm_el h
  refine tp_i ex4_6 ?_
  refine lv_istore (lv' := [(4, .int x4_6), (0, .ref (a0 0)), (1, .int x1), (2, .int x2), (3, .int x3)]) X.1 X.2.1 dX11_odds_44 hl (by decide) rfl (fun ls hl => ?_)
  refine lv_sipush (v := 10000) X.1 X.2.1 dX11_odds_46 (by decide) ?_
  refine lv_istore (lv' := [(5, .int 10000), (4, .int x4_6), (0, .ref (a0 0)), (1, .int x1), (2, .int x2), (3, .int x3)]) X.1 X.2.1 dX11_odds_49 hl (by decide) rfl (fun ls hl => ?_)
  refine lv_iconst (v := 0) X.1 X.2.1 dX11_odds_51 (by decide) ?_
  refine lv_istore (lv' := [(6, .int 0), (5, .int 10000), (4, .int x4_6), (0, .ref (a0 0)), (1, .int x1), (2, .int x2), (3, .int x3)]) X.1 X.2.1 dX11_odds_52 hl (by decide) rfl (fun ls hl => ?_)
  obtain ⟨ex_9, hL_9, h⟩ := bd_el h
  refine HL54 x3 x4_6 g3_4 g5_4 fu 10000 0 ex_9 hL_9 H locs ls hP hS (lv_sub hl [6, 2, 1, 0] rfl) (fun x5_9 he H locs ls hP hS hl => ?_)
  subst he
  refine lv_iload X.1 X.2.1 dX11_odds_76 (lv_at hl 0 rfl) ?_
  exact retU_i (fun u (_ : Option Nat) => (wPU tc a0 g0 q0_0 (a1 0) q0_2 q0_3 q0_4 (a3 0) (a4 0) q0_7 q0_8 q0_9 q0_10 q0_13 ++ (wSt tc a1 g1 none (a2 0) ++ (wLg tc a2 g2 ++ (wHd tc a3 u.1 ++ (wCk tc a4 g4 (a3 0) (a5 0) ++ (wFa tc a5 u.2))))))) none (Option.some.inj h) X hQ hP hS (Nat.le_of_ble_eq_true rfl) (Nat.le_of_ble_eq_true rfl) dX11_odds_78

def f_X11_odds_l_L54 (ln6 : Nat → Nat) (x3 : Int32) (x4 : Int32) (g0 : Pic) (g1 : Pic) (g2 : Pic) (g3 : Pic) (g4 : Pic) (g5 : Pic) (g6 : Pic) (n : Nat) (a : Int32 × Int32) : Option (Int32) := lp (fun (rec : Int32 × Int32 → Option (Int32)) (a : Int32 × Int32) => match a with | (x5, x6) => (if x3 ≤ x6 then some x5 else nm (((x5 * x4) / 100)) (fun x5_7 => nm (x6 + 1) (fun x6_8 => rec (x5_7, x6_8))))) n a
def f_X11_odds_l (ln6 : Nat → Nat) (g0 : Pic) (g1 : Pic) (g2 : Pic) (g3 : Pic) (g4 : Pic) (g5 : Pic) (g6 : Pic) (x1 : Int32) (x2 : Int32) (x3 : Int32) : Option ((Nat × (Pic × Pic × Pic)) ⊕ (Int32 × (Pic × Pic × Pic))) := lr (f_X11_needWriter g0 g1 x1) (fun e => .inl (e.1, (g3, g5, g6))) (fun _ => lr (f_X11_needWord g0 g1 x2) (fun e => .inl (e.1, (g3, g5, g6))) (fun _ => lr (f_X11_needNumber g0 x3 0 4) (fun e => .inl (e.1, (g3, g5, g6))) (fun _ => bd2 (f_X0_observe_l ln6 g4 g6 g5 g3 g1 g2 x1 x2) (fun g5_4 g3_4 => bd2 (f_X0_slipsOf_l ln6 g4 g6 g5_4 g3_4 g1 g2) (fun r_5 g6_5 => nm ((100 - r_5)) (fun x4_6 => bd (f_X11_odds_l_L54 ln6 x3 x4_6 g0 g1 g2 g3_4 g4 g5_4 g6_5 fu (10000, 0)) (fun x5_9 => some (.inr (x5_9, (g3_4, g5_4, g6_5))))))))))
abbrev rm_X11_odds_l : Room := { frames := 7, cells := 3, slots := 18, locals := 143 }
set_option maxHeartbeats 4000000 in
set_option maxRecDepth 100000 in
theorem c_X11_odds_l (l : Launch) (hst : l.stackTraces = false) (dC : Nat → ClassId) (dI : Nat → Nat → Nat) (sk sv : Nat → Nat) (tc : Nat → ClassId) (ln6 : Nat → Nat) (a0 : Nat → Nat) (q0_0 : Nat) (q0_2 : Nat) (q0_3 : Nat) (q0_4 : Nat) (q0_7 : Nat) (q0_8 : Nat) (q0_9 : Nat) (q0_10 : Nat) (q0_13 : Option Nat) (a1 : Nat → Nat) (a2 : Nat → Nat) (a3 : Nat → Nat) (a4 : Nat → Nat) (a5 : Nat → Nat) (a6 : Nat → Nat) (g0 : Pic) (g1 : Pic) (g2 : Pic) (g3 : Pic) (g4 : Pic) (g5 : Pic) (g6 : Pic) (x1 : Int32) (x2 : Int32) (x3 : Int32) {res : ((Nat × (Pic × Pic × Pic)) ⊕ (Int32 × (Pic × Pic × Pic)))} (h : f_X11_odds_l ln6 g0 g1 g2 g3 g4 g5 g6 x1 x2 x3 = some res) : CU l (dC, dI) sk sv (TY tc) yX11_odds cX11_odds 7 (some .int) rm_X11_odds_l 3 18 [.ref (a0 0), .int x1, .int x2, .int x3] (wPU tc a0 g0 q0_0 (a1 0) q0_2 q0_3 q0_4 (a3 0) (a4 0) q0_7 q0_8 q0_9 q0_10 q0_13 ++ (wSt tc a1 g1 (some (a6 0)) (a2 0) ++ (wLg tc a2 g2 ++ (wHd tc a3 g3 ++ (wCk tc a4 g4 (a3 0) (a5 0) ++ (wFa tc a5 g5 ++ (wLw tc a6 g6 ln6))))))) (oI (fun u (_ : Option Nat) => (wPU tc a0 g0 q0_0 (a1 0) q0_2 q0_3 q0_4 (a3 0) (a4 0) q0_7 q0_8 q0_9 q0_10 q0_13 ++ (wSt tc a1 g1 (some (a6 0)) (a2 0) ++ (wLg tc a2 g2 ++ (wHd tc a3 u.1 ++ (wCk tc a4 g4 (a3 0) (a5 0) ++ (wFa tc a5 u.2.1 ++ (wLw tc a6 u.2.2 ln6)))))))) res) := by
  refine ofCU (by decide) (Nat.le_of_ble_eq_true rfl) ?_
  intro pr e s m args below meth c A Q ls H locs X hT hQ hD0 hP hS hl
  have hD : ∀ z0 z1 z2 z3 z4 z5 z6, va_D A (wPU tc a0 z0 q0_0 (a1 0) q0_2 q0_3 q0_4 (a3 0) (a4 0) q0_7 q0_8 q0_9 q0_10 q0_13 ++ (wSt tc a1 z1 (some (a6 0)) (a2 0) ++ (wLg tc a2 z2 ++ (wHd tc a3 z3 ++ (wCk tc a4 z4 (a3 0) (a5 0) ++ (wFa tc a5 z5 ++ (wLw tc a6 z6 ln6))))))) := fun z0 z1 z2 z3 z4 z5 z6 => D_fst (ws := (wPU tc a0 g0 q0_0 (a1 0) q0_2 q0_3 q0_4 (a3 0) (a4 0) q0_7 q0_8 q0_9 q0_10 q0_13 ++ (wSt tc a1 g1 (some (a6 0)) (a2 0) ++ (wLg tc a2 g2 ++ (wHd tc a3 g3 ++ (wCk tc a4 g4 (a3 0) (a5 0) ++ (wFa tc a5 g5 ++ (wLw tc a6 g6 ln6)))))))) rfl hD0
  have hl : lv_has ls 7 [(0, .ref (a0 0)), (1, .int x1), (2, .int x2), (3, .int x3)] := hl
  have HL54 : ∀ (x3 : Int32) (x4 : Int32) (g3 : Pic) (g5 : Pic) (g6 : Pic) (n : Nat) (x5 : Int32) (x6 : Int32) (ex : (Int32)), f_X11_odds_l_L54 ln6 x3 x4 g0 g1 g2 g3 g4 g5 g6 n (x5, x6) = some ex → ∀ (H : Heap) (locs : List Loc) (ls : Array Slot), va_P (dC, dI) vwCl (wPU tc a0 g0 q0_0 (a1 0) q0_2 q0_3 q0_4 (a3 0) (a4 0) q0_7 q0_8 q0_9 q0_10 q0_13 ++ (wSt tc a1 g1 (some (a6 0)) (a2 0) ++ (wLg tc a2 g2 ++ (wHd tc a3 g3 ++ (wCk tc a4 g4 (a3 0) (a5 0) ++ (wFa tc a5 g5 ++ (wLw tc a6 g6 ln6))))))) H → va_S A s.heap H locs → lv_has ls 7 [(3, .int x3), (4, .int x4), (5, .int x5), (6, .int x6)] → (∀ (y5 : Int32), y5 = ex → ∀ (H : Heap) (locs : List Loc) (ls : Array Slot), va_P (dC, dI) vwCl (wPU tc a0 g0 q0_0 (a1 0) q0_2 q0_3 q0_4 (a3 0) (a4 0) q0_7 q0_8 q0_9 q0_10 q0_13 ++ (wSt tc a1 g1 (some (a6 0)) (a2 0) ++ (wLg tc a2 g2 ++ (wHd tc a3 g3 ++ (wCk tc a4 g4 (a3 0) (a5 0) ++ (wFa tc a5 g5 ++ (wLw tc a6 g6 ln6))))))) H → va_S A s.heap H locs → lv_has ls 7 [(5, .int y5)] → W pr l e rm_X11_odds_l s m args below meth c H locs 3 18 Q (F0 m 76 ls [])) → W pr l e rm_X11_odds_l s m args below meth c H locs 3 18 Q (F0 m 54 ls []) := by
    intro x3 x4 g3 g5 g6 n
    induction n with
    | zero => intro x5 x6 ex h; exact lp_z h
    | succ n ih =>
      intro x5 x6 ex h H locs ls hP hS hl K
      have h := lp_s h
      refine lv_iload X.1 X.2.1 dX11_odds_54 (lv_at hl 3 rfl) ?_
      refine lv_iload_n X.1 X.2.1 dX11_odds_56 rfl (lv_at hl 0 rfl) ?_
      refine lv_icmp_ge (tgt := 76) X.1 X.2.1 dX11_odds_57 (by decide) (fun hc => ?_) (fun hc => ?_)
      · have h := it_t hc h
        exact K x5 (Option.some.inj h) H locs ls hP hS (lv_sub hl [2] rfl)
      · have h := it_f hc h
        refine lv_iload X.1 X.2.1 dX11_odds_60 (lv_at hl 2 rfl) ?_
        refine lv_iload X.1 X.2.1 dX11_odds_62 (lv_at hl 1 rfl) ?_
        refine lv_imul X.1 X.2.1 dX11_odds_64 ?_
        refine lv_bipush (v := 100) X.1 X.2.1 dX11_odds_65 (by decide) ?_
        refine lv_idiv X.1 X.2.1 dX11_odds_67 (by decide) ?_
        obtain ⟨x5_7, ex5_7, h⟩ := nm_el h
        refine tp_i ex5_7 ?_
        refine lv_istore (lv' := [(5, .int x5_7), (3, .int x3), (4, .int x4), (6, .int x6)]) X.1 X.2.1 dX11_odds_68 hl (by decide) rfl (fun ls hl => ?_)
        obtain ⟨x6_8, ex6_8, h⟩ := nm_el h
        refine lv_iinc (v := x6_8) (lv' := [(6, .int x6_8), (5, .int x5_7), (3, .int x3), (4, .int x4)]) X.1 X.2.1 dX11_odds_70 hl (k := 3) rfl (by rw [ex6_8]; rfl) (by decide) rfl (fun ls hl => ?_)
        refine lv_goto (tgt := 54) X.1 X.2.1 dX11_odds_73 (by decide) ?_
        exact ih x5_7 x6_8 ex h H locs ls hP hS (lv_sub hl [2, 3, 1, 0] rfl) K
  unfold f_X11_odds_l at h
  refine lv_aload_n X.1 X.2.1 dX11_odds_0 rfl (lv_at hl 0 rfl) ?_
  refine lv_iload_n X.1 X.2.1 dX11_odds_1 rfl (lv_at hl 1 rfl) ?_
  obtain ⟨ex_1, hc_1, h1_1, h2_1⟩ := lr_el h
  rcases ex_1 with e_1 | r_1
  · exact callU_t (ws := (wPU tc a0 g0 q0_0 (a1 0) q0_2 q0_3 q0_4 (a3 0) (a4 0) q0_7 q0_8 q0_9 q0_10 q0_13 ++ (wSt tc a1 g1 (some (a6 0)) (a2 0) ++ (wLg tc a2 g2 ++ (wHd tc a3 g3 ++ (wCk tc a4 g4 (a3 0) (a5 0) ++ (wFa tc a5 g5 ++ (wLw tc a6 g6 ln6)))))))) (ws' := (wPU tc a0 g0 q0_0 (a1 0) q0_2 q0_3 q0_4 (a3 0) (a4 0) q0_7 q0_8 q0_9 q0_10 q0_13 ++ (wSt tc a1 g1 (some (a6 0)) (a2 0) ++ (wLg tc a2 g2 ++ (wHd tc a3 g3 ++ (wCk tc a4 g4 (a3 0) (a5 0) ++ (wFa tc a5 g5 ++ (wLw tc a6 g6 ln6)))))))) (wr := (wLg tc a2 g2 ++ (wHd tc a3 g3 ++ (wCk tc a4 g4 (a3 0) (a5 0) ++ (wFa tc a5 g5 ++ (wLw tc a6 g6 ln6)))))) [0, 1, 2, 3, 4, 5, 6, 7, 8, 9, 10] [11, 12, 13, 14, 15, 16, 17, 18, 19, 20, 21, 22, 23, 24, 25] [15, 16, 17, 18, 19, 20, 21, 22, 23, 24, 25, 0, 1, 2, 3, 4, 5, 6, 7, 8, 9, 10, 11, 12, 13, 14] (As := [.int x1]) (rest := []) none rfl (oUi (fun u (_ : Option Nat) => (wPU tc a0 g0 q0_0 (a1 0) q0_2 q0_3 q0_4 (a3 0) (a4 0) q0_7 q0_8 q0_9 q0_10 q0_13 ++ (wSt tc a1 g1 (some (a6 0)) (a2 0) ++ (wLg tc a2 g2 ++ (wHd tc a3 u.1 ++ (wCk tc a4 g4 (a3 0) (a5 0) ++ (wFa tc a5 u.2.1 ++ (wLw tc a6 u.2.2 ln6)))))))) (h1_1 _ rfl)) X hT hQ (c_X11_needWriter l hst dC dI sk sv tc a0 q0_0 q0_2 q0_3 q0_4 (a3 0) (a4 0) q0_7 q0_8 q0_9 q0_10 q0_13 a1 (some (a6 0)) (a2 0) g0 g1 x1 hc_1) mw_5_38 mw_5_40 mp_1_6 mw_1_1 mw_5_41 dc_X11_needWriter ⟨Nat.le_of_ble_eq_true rfl, Nat.le_of_ble_eq_true rfl⟩ rfl rfl ⟨Nat.le_of_ble_eq_true rfl, Nat.le_of_ble_eq_true rfl⟩ ⟨rfl, rfl, rfl, rfl, by decide, rfl, rfl⟩ hP (hD _ _ _ _ _ _ _) hS 0 rfl rfl rfl hl.1 (Nat.le_of_ble_eq_true rfl) dX11_odds_2 (Nat.le_of_ble_eq_true rfl) (Nat.le_of_ble_eq_true rfl)
  have h := h2_1 _ rfl
  refine callU_n (ws := (wPU tc a0 g0 q0_0 (a1 0) q0_2 q0_3 q0_4 (a3 0) (a4 0) q0_7 q0_8 q0_9 q0_10 q0_13 ++ (wSt tc a1 g1 (some (a6 0)) (a2 0) ++ (wLg tc a2 g2 ++ (wHd tc a3 g3 ++ (wCk tc a4 g4 (a3 0) (a5 0) ++ (wFa tc a5 g5 ++ (wLw tc a6 g6 ln6)))))))) (ws' := (wPU tc a0 g0 q0_0 (a1 0) q0_2 q0_3 q0_4 (a3 0) (a4 0) q0_7 q0_8 q0_9 q0_10 q0_13 ++ (wSt tc a1 g1 (some (a6 0)) (a2 0) ++ (wLg tc a2 g2 ++ (wHd tc a3 g3 ++ (wCk tc a4 g4 (a3 0) (a5 0) ++ (wFa tc a5 g5 ++ (wLw tc a6 g6 ln6)))))))) (wr := (wLg tc a2 g2 ++ (wHd tc a3 g3 ++ (wCk tc a4 g4 (a3 0) (a5 0) ++ (wFa tc a5 g5 ++ (wLw tc a6 g6 ln6)))))) [0, 1, 2, 3, 4, 5, 6, 7, 8, 9, 10] [11, 12, 13, 14, 15, 16, 17, 18, 19, 20, 21, 22, 23, 24, 25] [15, 16, 17, 18, 19, 20, 21, 22, 23, 24, 25, 0, 1, 2, 3, 4, 5, 6, 7, 8, 9, 10, 11, 12, 13, 14] (As := [.int x1]) (rest := []) X (c_X11_needWriter l hst dC dI sk sv tc a0 q0_0 q0_2 q0_3 q0_4 (a3 0) (a4 0) q0_7 q0_8 q0_9 q0_10 q0_13 a1 (some (a6 0)) (a2 0) g0 g1 x1 hc_1) mw_5_38 mw_5_40 mp_1_6 mw_1_1 mw_5_41 dc_X11_needWriter ⟨Nat.le_of_ble_eq_true rfl, Nat.le_of_ble_eq_true rfl⟩ rfl rfl ⟨Nat.le_of_ble_eq_true rfl, Nat.le_of_ble_eq_true rfl⟩ ⟨rfl, rfl, rfl, rfl, by decide, rfl, rfl⟩ hP (hD _ _ _ _ _ _ _) hS 0 rfl rfl rfl hl.1 (Nat.le_of_ble_eq_true rfl) dX11_odds_2 (fun H locs hP hS => ?_)
  refine W.eq (g2 := F0 m 5 ls []) rfl ?_
  refine lv_aload_n X.1 X.2.1 dX11_odds_5 rfl (lv_at hl 0 rfl) ?_
  refine lv_iload_n X.1 X.2.1 dX11_odds_6 rfl (lv_at hl 2 rfl) ?_
  obtain ⟨ex_2, hc_2, h1_2, h2_2⟩ := lr_el h
  rcases ex_2 with e_2 | r_2
  · exact callU_t (ws := (wPU tc a0 g0 q0_0 (a1 0) q0_2 q0_3 q0_4 (a3 0) (a4 0) q0_7 q0_8 q0_9 q0_10 q0_13 ++ (wSt tc a1 g1 (some (a6 0)) (a2 0) ++ (wLg tc a2 g2 ++ (wHd tc a3 g3 ++ (wCk tc a4 g4 (a3 0) (a5 0) ++ (wFa tc a5 g5 ++ (wLw tc a6 g6 ln6)))))))) (ws' := (wPU tc a0 g0 q0_0 (a1 0) q0_2 q0_3 q0_4 (a3 0) (a4 0) q0_7 q0_8 q0_9 q0_10 q0_13 ++ (wSt tc a1 g1 (some (a6 0)) (a2 0) ++ (wLg tc a2 g2 ++ (wHd tc a3 g3 ++ (wCk tc a4 g4 (a3 0) (a5 0) ++ (wFa tc a5 g5 ++ (wLw tc a6 g6 ln6)))))))) (wr := (wLg tc a2 g2 ++ (wHd tc a3 g3 ++ (wCk tc a4 g4 (a3 0) (a5 0) ++ (wFa tc a5 g5 ++ (wLw tc a6 g6 ln6)))))) [0, 1, 2, 3, 4, 5, 6, 7, 8, 9, 10] [11, 12, 13, 14, 15, 16, 17, 18, 19, 20, 21, 22, 23, 24, 25] [15, 16, 17, 18, 19, 20, 21, 22, 23, 24, 25, 0, 1, 2, 3, 4, 5, 6, 7, 8, 9, 10, 11, 12, 13, 14] (As := [.int x2]) (rest := []) none rfl (oUi (fun u (_ : Option Nat) => (wPU tc a0 g0 q0_0 (a1 0) q0_2 q0_3 q0_4 (a3 0) (a4 0) q0_7 q0_8 q0_9 q0_10 q0_13 ++ (wSt tc a1 g1 (some (a6 0)) (a2 0) ++ (wLg tc a2 g2 ++ (wHd tc a3 u.1 ++ (wCk tc a4 g4 (a3 0) (a5 0) ++ (wFa tc a5 u.2.1 ++ (wLw tc a6 u.2.2 ln6)))))))) (h1_2 _ rfl)) X hT hQ (c_X11_needWord l hst dC dI sk sv tc a0 q0_0 q0_2 q0_3 q0_4 (a3 0) (a4 0) q0_7 q0_8 q0_9 q0_10 q0_13 a1 (some (a6 0)) (a2 0) g0 g1 x2 hc_2) mw_4_210 mw_4_212 mp_1_5 mw_1_1 mw_4_213 dc_X11_needWord ⟨Nat.le_of_ble_eq_true rfl, Nat.le_of_ble_eq_true rfl⟩ rfl rfl ⟨Nat.le_of_ble_eq_true rfl, Nat.le_of_ble_eq_true rfl⟩ ⟨rfl, rfl, rfl, rfl, by decide, rfl, rfl⟩ hP (hD _ _ _ _ _ _ _) hS 0 rfl rfl rfl hl.1 (Nat.le_of_ble_eq_true rfl) dX11_odds_7 (Nat.le_of_ble_eq_true rfl) (Nat.le_of_ble_eq_true rfl)
  have h := h2_2 _ rfl
  refine callU_n (ws := (wPU tc a0 g0 q0_0 (a1 0) q0_2 q0_3 q0_4 (a3 0) (a4 0) q0_7 q0_8 q0_9 q0_10 q0_13 ++ (wSt tc a1 g1 (some (a6 0)) (a2 0) ++ (wLg tc a2 g2 ++ (wHd tc a3 g3 ++ (wCk tc a4 g4 (a3 0) (a5 0) ++ (wFa tc a5 g5 ++ (wLw tc a6 g6 ln6)))))))) (ws' := (wPU tc a0 g0 q0_0 (a1 0) q0_2 q0_3 q0_4 (a3 0) (a4 0) q0_7 q0_8 q0_9 q0_10 q0_13 ++ (wSt tc a1 g1 (some (a6 0)) (a2 0) ++ (wLg tc a2 g2 ++ (wHd tc a3 g3 ++ (wCk tc a4 g4 (a3 0) (a5 0) ++ (wFa tc a5 g5 ++ (wLw tc a6 g6 ln6)))))))) (wr := (wLg tc a2 g2 ++ (wHd tc a3 g3 ++ (wCk tc a4 g4 (a3 0) (a5 0) ++ (wFa tc a5 g5 ++ (wLw tc a6 g6 ln6)))))) [0, 1, 2, 3, 4, 5, 6, 7, 8, 9, 10] [11, 12, 13, 14, 15, 16, 17, 18, 19, 20, 21, 22, 23, 24, 25] [15, 16, 17, 18, 19, 20, 21, 22, 23, 24, 25, 0, 1, 2, 3, 4, 5, 6, 7, 8, 9, 10, 11, 12, 13, 14] (As := [.int x2]) (rest := []) X (c_X11_needWord l hst dC dI sk sv tc a0 q0_0 q0_2 q0_3 q0_4 (a3 0) (a4 0) q0_7 q0_8 q0_9 q0_10 q0_13 a1 (some (a6 0)) (a2 0) g0 g1 x2 hc_2) mw_4_210 mw_4_212 mp_1_5 mw_1_1 mw_4_213 dc_X11_needWord ⟨Nat.le_of_ble_eq_true rfl, Nat.le_of_ble_eq_true rfl⟩ rfl rfl ⟨Nat.le_of_ble_eq_true rfl, Nat.le_of_ble_eq_true rfl⟩ ⟨rfl, rfl, rfl, rfl, by decide, rfl, rfl⟩ hP (hD _ _ _ _ _ _ _) hS 0 rfl rfl rfl hl.1 (Nat.le_of_ble_eq_true rfl) dX11_odds_7 (fun H locs hP hS => ?_)
  refine W.eq (g2 := F0 m 10 ls []) rfl ?_
  refine lv_aload_n X.1 X.2.1 dX11_odds_10 rfl (lv_at hl 0 rfl) ?_
  refine lv_iload_n X.1 X.2.1 dX11_odds_11 rfl (lv_at hl 3 rfl) ?_
  refine lv_iconst (v := 0) X.1 X.2.1 dX11_odds_12 (by decide) ?_
  refine lv_iconst (v := 4) X.1 X.2.1 dX11_odds_13 (by decide) ?_
  obtain ⟨ex_3, hc_3, h1_3, h2_3⟩ := lr_el h
  rcases ex_3 with e_3 | r_3
  · exact callU_t (ws := (wPU tc a0 g0 q0_0 (a1 0) q0_2 q0_3 q0_4 (a3 0) (a4 0) q0_7 q0_8 q0_9 q0_10 q0_13 ++ (wSt tc a1 g1 (some (a6 0)) (a2 0) ++ (wLg tc a2 g2 ++ (wHd tc a3 g3 ++ (wCk tc a4 g4 (a3 0) (a5 0) ++ (wFa tc a5 g5 ++ (wLw tc a6 g6 ln6)))))))) (ws' := (wPU tc a0 g0 q0_0 (a1 0) q0_2 q0_3 q0_4 (a3 0) (a4 0) q0_7 q0_8 q0_9 q0_10 q0_13 ++ (wSt tc a1 g1 (some (a6 0)) (a2 0) ++ (wLg tc a2 g2 ++ (wHd tc a3 g3 ++ (wCk tc a4 g4 (a3 0) (a5 0) ++ (wFa tc a5 g5 ++ (wLw tc a6 g6 ln6)))))))) (wr := (wSt tc a1 g1 (some (a6 0)) (a2 0) ++ (wLg tc a2 g2 ++ (wHd tc a3 g3 ++ (wCk tc a4 g4 (a3 0) (a5 0) ++ (wFa tc a5 g5 ++ (wLw tc a6 g6 ln6))))))) [0] [1, 2, 3, 4, 5, 6, 7, 8, 9, 10, 11, 12, 13, 14, 15, 16, 17, 18, 19, 20, 21, 22, 23, 24, 25] [25, 0, 1, 2, 3, 4, 5, 6, 7, 8, 9, 10, 11, 12, 13, 14, 15, 16, 17, 18, 19, 20, 21, 22, 23, 24] (As := [.int x3, .int 0, .int 4]) (rest := []) none rfl (oUi (fun u (_ : Option Nat) => (wPU tc a0 g0 q0_0 (a1 0) q0_2 q0_3 q0_4 (a3 0) (a4 0) q0_7 q0_8 q0_9 q0_10 q0_13 ++ (wSt tc a1 g1 (some (a6 0)) (a2 0) ++ (wLg tc a2 g2 ++ (wHd tc a3 u.1 ++ (wCk tc a4 g4 (a3 0) (a5 0) ++ (wFa tc a5 u.2.1 ++ (wLw tc a6 u.2.2 ln6)))))))) (h1_3 _ rfl)) X hT hQ (c_X11_needNumber l hst dC dI sk sv tc a0 q0_0 (a1 0) q0_2 q0_3 q0_4 (a3 0) (a4 0) q0_7 q0_8 q0_9 q0_10 q0_13 g0 x3 0 4 hc_3) mw_5_199 mw_5_201 mp_1_8 mw_1_1 mw_5_202 dc_X11_needNumber ⟨Nat.le_of_ble_eq_true rfl, Nat.le_of_ble_eq_true rfl⟩ rfl rfl ⟨Nat.le_of_ble_eq_true rfl, Nat.le_of_ble_eq_true rfl⟩ ⟨rfl, rfl, rfl, rfl, by decide, rfl, rfl⟩ hP (hD _ _ _ _ _ _ _) hS 0 rfl rfl rfl hl.1 (Nat.le_of_ble_eq_true rfl) dX11_odds_14 (Nat.le_of_ble_eq_true rfl) (Nat.le_of_ble_eq_true rfl)
  have h := h2_3 _ rfl
  refine callU_n (ws := (wPU tc a0 g0 q0_0 (a1 0) q0_2 q0_3 q0_4 (a3 0) (a4 0) q0_7 q0_8 q0_9 q0_10 q0_13 ++ (wSt tc a1 g1 (some (a6 0)) (a2 0) ++ (wLg tc a2 g2 ++ (wHd tc a3 g3 ++ (wCk tc a4 g4 (a3 0) (a5 0) ++ (wFa tc a5 g5 ++ (wLw tc a6 g6 ln6)))))))) (ws' := (wPU tc a0 g0 q0_0 (a1 0) q0_2 q0_3 q0_4 (a3 0) (a4 0) q0_7 q0_8 q0_9 q0_10 q0_13 ++ (wSt tc a1 g1 (some (a6 0)) (a2 0) ++ (wLg tc a2 g2 ++ (wHd tc a3 g3 ++ (wCk tc a4 g4 (a3 0) (a5 0) ++ (wFa tc a5 g5 ++ (wLw tc a6 g6 ln6)))))))) (wr := (wSt tc a1 g1 (some (a6 0)) (a2 0) ++ (wLg tc a2 g2 ++ (wHd tc a3 g3 ++ (wCk tc a4 g4 (a3 0) (a5 0) ++ (wFa tc a5 g5 ++ (wLw tc a6 g6 ln6))))))) [0] [1, 2, 3, 4, 5, 6, 7, 8, 9, 10, 11, 12, 13, 14, 15, 16, 17, 18, 19, 20, 21, 22, 23, 24, 25] [25, 0, 1, 2, 3, 4, 5, 6, 7, 8, 9, 10, 11, 12, 13, 14, 15, 16, 17, 18, 19, 20, 21, 22, 23, 24] (As := [.int x3, .int 0, .int 4]) (rest := []) X (c_X11_needNumber l hst dC dI sk sv tc a0 q0_0 (a1 0) q0_2 q0_3 q0_4 (a3 0) (a4 0) q0_7 q0_8 q0_9 q0_10 q0_13 g0 x3 0 4 hc_3) mw_5_199 mw_5_201 mp_1_8 mw_1_1 mw_5_202 dc_X11_needNumber ⟨Nat.le_of_ble_eq_true rfl, Nat.le_of_ble_eq_true rfl⟩ rfl rfl ⟨Nat.le_of_ble_eq_true rfl, Nat.le_of_ble_eq_true rfl⟩ ⟨rfl, rfl, rfl, rfl, by decide, rfl, rfl⟩ hP (hD _ _ _ _ _ _ _) hS 0 rfl rfl rfl hl.1 (Nat.le_of_ble_eq_true rfl) dX11_odds_14 (fun H locs hP hS => ?_)
  refine W.eq (g2 := F0 m 17 ls []) rfl ?_
  refine lv_aload_n X.1 X.2.1 dX11_odds_17 rfl (lv_at hl 0 rfl) ?_
  refine r_get (C := RX11) (T := TX11) (N := 15) (ci := 11) (v := .ref (a4 0)) X iw11 hP 0 rfl rfl 6 rfl mw_2_149 rfl dX11_odds_18 ?_
  refine lv_aload_n X.1 X.2.1 dX11_odds_21 rfl (lv_at hl 0 rfl) ?_
  refine r_get (C := RX11) (T := TX11) (N := 15) (ci := 11) (v := .ref (a1 0)) X iw11 hP 0 rfl rfl 1 rfl mw_2_144 rfl dX11_odds_22 ?_
  refine lv_iload_n X.1 X.2.1 dX11_odds_25 rfl (lv_at hl 1 rfl) ?_
  refine lv_iload_n X.1 X.2.1 dX11_odds_26 rfl (lv_at hl 2 rfl) ?_
  obtain ⟨g5_4, g3_4, hc_4, h⟩ := bd2_el h
  refine call_Q (ws := (wPU tc a0 g0 q0_0 (a1 0) q0_2 q0_3 q0_4 (a3 0) (a4 0) q0_7 q0_8 q0_9 q0_10 q0_13 ++ (wSt tc a1 g1 (some (a6 0)) (a2 0) ++ (wLg tc a2 g2 ++ (wHd tc a3 g3 ++ (wCk tc a4 g4 (a3 0) (a5 0) ++ (wFa tc a5 g5 ++ (wLw tc a6 g6 ln6)))))))) (ws' := (wPU tc a0 g0 q0_0 (a1 0) q0_2 q0_3 q0_4 (a3 0) (a4 0) q0_7 q0_8 q0_9 q0_10 q0_13 ++ (wSt tc a1 g1 (some (a6 0)) (a2 0) ++ (wLg tc a2 g2 ++ (wHd tc a3 g3_4 ++ (wCk tc a4 g4 (a3 0) (a5 0) ++ (wFa tc a5 g5_4 ++ (wLw tc a6 g6 ln6)))))))) (wr := (wPU tc a0 g0 q0_0 (a1 0) q0_2 q0_3 q0_4 (a3 0) (a4 0) q0_7 q0_8 q0_9 q0_10 q0_13)) [18, 20, 21, 22, 23, 24, 25, 19, 13, 14, 15, 16, 17, 1, 2, 3, 4, 5, 6, 7, 8, 9, 10, 11, 12] [0] [0, 14, 15, 16, 17, 18, 19, 20, 21, 22, 23, 24, 25, 9, 10, 11, 12, 13, 1, 8, 2, 3, 4, 5, 6, 7] (As := [.ref (a1 0), .int x1, .int x2]) (rest := []) X (c_X0_observe_l l dC dI sk sv tc ln6 a4 a6 a5 a3 a1 a2 g4 g6 g5 g3 g1 g2 x1 x2 hc_4) mw_5_153 mw_5_154 mw_5_155 mw_1_8 mw_5_156 dc_X0_observe ⟨Nat.le_of_ble_eq_true rfl, Nat.le_of_ble_eq_true rfl⟩ rfl rfl ⟨Nat.le_of_ble_eq_true rfl, Nat.le_of_ble_eq_true rfl⟩ ⟨rfl, rfl, rfl, rfl, by decide, rfl, rfl⟩ hP (hD _ _ _ _ _ _ _) hS 0 rfl rfl rfl hl.1 (Nat.le_of_ble_eq_true rfl) dX11_odds_27 (fun H locs hP hS => ?_)
  refine W.eq (g2 := F0 m 30 ls []) rfl ?_
  refine lv_bipush (v := 100) X.1 X.2.1 dX11_odds_30 (by decide) ?_
  refine lv_aload_n X.1 X.2.1 dX11_odds_32 rfl (lv_at hl 0 rfl) ?_
  refine r_get (C := RX11) (T := TX11) (N := 15) (ci := 11) (v := .ref (a4 0)) X iw11 hP 0 rfl rfl 6 rfl mw_2_149 rfl dX11_odds_33 ?_
  refine lv_aload_n X.1 X.2.1 dX11_odds_36 rfl (lv_at hl 0 rfl) ?_
  refine r_get (C := RX11) (T := TX11) (N := 15) (ci := 11) (v := .ref (a1 0)) X iw11 hP 0 rfl rfl 1 rfl mw_2_144 rfl dX11_odds_37 ?_
  obtain ⟨r_5, g6_5, hc_5, h⟩ := bd2_el h
  refine call_Q (ws := (wPU tc a0 g0 q0_0 (a1 0) q0_2 q0_3 q0_4 (a3 0) (a4 0) q0_7 q0_8 q0_9 q0_10 q0_13 ++ (wSt tc a1 g1 (some (a6 0)) (a2 0) ++ (wLg tc a2 g2 ++ (wHd tc a3 g3_4 ++ (wCk tc a4 g4 (a3 0) (a5 0) ++ (wFa tc a5 g5_4 ++ (wLw tc a6 g6 ln6)))))))) (ws' := (wPU tc a0 g0 q0_0 (a1 0) q0_2 q0_3 q0_4 (a3 0) (a4 0) q0_7 q0_8 q0_9 q0_10 q0_13 ++ (wSt tc a1 g1 (some (a6 0)) (a2 0) ++ (wLg tc a2 g2 ++ (wHd tc a3 g3_4 ++ (wCk tc a4 g4 (a3 0) (a5 0) ++ (wFa tc a5 g5_4 ++ (wLw tc a6 g6_5 ln6)))))))) (wr := (wPU tc a0 g0 q0_0 (a1 0) q0_2 q0_3 q0_4 (a3 0) (a4 0) q0_7 q0_8 q0_9 q0_10 q0_13)) [18, 20, 21, 22, 23, 24, 25, 19, 13, 14, 15, 16, 17, 1, 2, 3, 4, 5, 6, 7, 8, 9, 10, 11, 12] [0] [0, 14, 15, 16, 17, 18, 19, 20, 21, 22, 23, 24, 25, 9, 10, 11, 12, 13, 1, 8, 2, 3, 4, 5, 6, 7] (As := [.ref (a1 0)]) (rest := [.int 100]) X (c_X0_slipsOf_l l dC dI sk sv tc ln6 a4 a6 a5 a3 a1 a2 g4 g6 g5_4 g3_4 g1 g2 hc_5) mw_5_170 mw_5_171 mw_5_172 mw_1_8 mw_5_173 dc_X0_slipsOf ⟨Nat.le_of_ble_eq_true rfl, Nat.le_of_ble_eq_true rfl⟩ rfl rfl ⟨Nat.le_of_ble_eq_true rfl, Nat.le_of_ble_eq_true rfl⟩ ⟨rfl, rfl, rfl, rfl, by decide, rfl, rfl⟩ hP (hD _ _ _ _ _ _ _) hS 0 rfl rfl rfl hl.1 (Nat.le_of_ble_eq_true rfl) dX11_odds_40 (fun H locs hP hS => ?_)
  refine W.eq (g2 := F0 m 43 ls [.int r_5, .int 100]) rfl ?_
  refine lv_isub X.1 X.2.1 dX11_odds_43 ?_
  obtain ⟨x4_6, ex4_6, h⟩ := nm_el h
  refine tp_i ex4_6 ?_
  refine lv_istore (lv' := [(4, .int x4_6), (0, .ref (a0 0)), (1, .int x1), (2, .int x2), (3, .int x3)]) X.1 X.2.1 dX11_odds_44 hl (by decide) rfl (fun ls hl => ?_)
  refine lv_sipush (v := 10000) X.1 X.2.1 dX11_odds_46 (by decide) ?_
  refine lv_istore (lv' := [(5, .int 10000), (4, .int x4_6), (0, .ref (a0 0)), (1, .int x1), (2, .int x2), (3, .int x3)]) X.1 X.2.1 dX11_odds_49 hl (by decide) rfl (fun ls hl => ?_)
  refine lv_iconst (v := 0) X.1 X.2.1 dX11_odds_51 (by decide) ?_
  refine lv_istore (lv' := [(6, .int 0), (5, .int 10000), (4, .int x4_6), (0, .ref (a0 0)), (1, .int x1), (2, .int x2), (3, .int x3)]) X.1 X.2.1 dX11_odds_52 hl (by decide) rfl (fun ls hl => ?_)
  obtain ⟨ex_9, hL_9, h⟩ := bd_el h
  refine HL54 x3 x4_6 g3_4 g5_4 g6_5 fu 10000 0 ex_9 hL_9 H locs ls hP hS (lv_sub hl [6, 2, 1, 0] rfl) (fun x5_9 he H locs ls hP hS hl => ?_)
  subst he
  refine lv_iload X.1 X.2.1 dX11_odds_76 (lv_at hl 0 rfl) ?_
  exact retU_i (fun u (_ : Option Nat) => (wPU tc a0 g0 q0_0 (a1 0) q0_2 q0_3 q0_4 (a3 0) (a4 0) q0_7 q0_8 q0_9 q0_10 q0_13 ++ (wSt tc a1 g1 (some (a6 0)) (a2 0) ++ (wLg tc a2 g2 ++ (wHd tc a3 u.1 ++ (wCk tc a4 g4 (a3 0) (a5 0) ++ (wFa tc a5 u.2.1 ++ (wLw tc a6 u.2.2 ln6)))))))) none (Option.some.inj h) X hQ hP hS (Nat.le_of_ble_eq_true rfl) (Nat.le_of_ble_eq_true rfl) dX11_odds_78

def f_X11_twins (g0 : Pic) (g1 : Pic) (g2 : Pic) : Option (Int32) := bd (f_X6_countTwins g2 g1) (fun r_1 => some r_1)
abbrev rm_X11_twins : Room := { frames := 2, cells := 0, slots := 0, locals := 46 }
set_option maxHeartbeats 4000000 in
set_option maxRecDepth 100000 in
theorem c_X11_twins (l : Launch) (dC : Nat → ClassId) (dI : Nat → Nat → Nat) (sk sv : Nat → Nat) (tc : Nat → ClassId) (a0 : Nat → Nat) (q0_0 : Nat) (q0_2 : Nat) (q0_3 : Nat) (q0_4 : Nat) (q0_5 : Nat) (q0_6 : Nat) (q0_8 : Nat) (q0_9 : Nat) (q0_10 : Nat) (q0_13 : Option Nat) (a1 : Nat → Nat) (q1_18 : Option Nat) (q1_19 : Nat) (a2 : Nat → Nat) (g0 : Pic) (g1 : Pic) (g2 : Pic) {r0 : Int32} (h : f_X11_twins g0 g1 g2 = some r0) : CT l (dC, dI) sk sv (TY tc) yX11_twins cX11_twins 1 (some .int) rm_X11_twins [.ref (a0 0)] (wPU tc a0 g0 q0_0 (a1 0) q0_2 q0_3 q0_4 q0_5 q0_6 (a2 0) q0_8 q0_9 q0_10 q0_13 ++ (wSt tc a1 g1 q1_18 q1_19 ++ (wLx tc a2 g2 (a1 0)))) (some (.int r0)) (wPU tc a0 g0 q0_0 (a1 0) q0_2 q0_3 q0_4 q0_5 q0_6 (a2 0) q0_8 q0_9 q0_10 q0_13 ++ (wSt tc a1 g1 q1_18 q1_19 ++ (wLx tc a2 g2 (a1 0)))) := by
  refine ofCT (by decide) (Nat.le_of_ble_eq_true rfl) ?_
  intro pr e s m args below meth c A Q ls H locs X hQ hD0 hP hS hl
  have hD : ∀ z0 z1 z2, va_D A (wPU tc a0 z0 q0_0 (a1 0) q0_2 q0_3 q0_4 q0_5 q0_6 (a2 0) q0_8 q0_9 q0_10 q0_13 ++ (wSt tc a1 z1 q1_18 q1_19 ++ (wLx tc a2 z2 (a1 0)))) := fun z0 z1 z2 => D_fst (ws := (wPU tc a0 g0 q0_0 (a1 0) q0_2 q0_3 q0_4 q0_5 q0_6 (a2 0) q0_8 q0_9 q0_10 q0_13 ++ (wSt tc a1 g1 q1_18 q1_19 ++ (wLx tc a2 g2 (a1 0))))) rfl hD0
  have hl : lv_has ls 1 [(0, .ref (a0 0))] := hl
  unfold f_X11_twins at h
  refine lv_aload_n X.1 X.2.1 dX11_twins_0 rfl (lv_at hl 0 rfl) ?_
  refine r_get (C := RX11) (T := TX11) (N := 15) (ci := 11) (v := .ref (a2 0)) X iw11 hP 0 rfl rfl 7 rfl mw_2_150 rfl dX11_twins_1 ?_
  obtain ⟨r_1, hc_1, h⟩ := bd_el h
  refine call_Q (ws := (wPU tc a0 g0 q0_0 (a1 0) q0_2 q0_3 q0_4 q0_5 q0_6 (a2 0) q0_8 q0_9 q0_10 q0_13 ++ (wSt tc a1 g1 q1_18 q1_19 ++ (wLx tc a2 g2 (a1 0))))) (ws' := (wPU tc a0 g0 q0_0 (a1 0) q0_2 q0_3 q0_4 q0_5 q0_6 (a2 0) q0_8 q0_9 q0_10 q0_13 ++ (wSt tc a1 g1 q1_18 q1_19 ++ (wLx tc a2 g2 (a1 0))))) (wr := (wPU tc a0 g0 q0_0 (a1 0) q0_2 q0_3 q0_4 q0_5 q0_6 (a2 0) q0_8 q0_9 q0_10 q0_13)) [11, 12, 13, 14, 1, 2, 3, 4, 5, 6, 7, 8, 9, 10] [0] [0, 5, 6, 7, 8, 9, 10, 11, 12, 13, 14, 1, 2, 3, 4] (As := []) (rest := []) X (c_X6_countTwins l dC dI sk sv tc a2 a1 q1_18 q1_19 g2 g1 hc_1) mw_3_51 mw_3_52 mw_3_53 mw_1_9 mw_3_54 dc_X6_countTwins ⟨Nat.le_of_ble_eq_true rfl, Nat.le_of_ble_eq_true rfl⟩ rfl rfl ⟨Nat.zero_le _, Nat.zero_le _⟩ ⟨rfl, rfl, rfl, rfl, by decide, rfl, rfl⟩ hP (hD _ _ _) hS 0 rfl rfl rfl hl.1 (Nat.le_of_ble_eq_true rfl) dX11_twins_4 (fun H locs hP hS => ?_)
  refine W.eq (g2 := F0 m 7 ls [.int r_1]) rfl ?_
  exact ret_i0 (Option.some.inj h) X hQ hP hS dX11_twins_7

def f_X11_uses (g0 : Pic) (g1 : Pic) (g2 : Pic) (x1 : Int32) : Option ((Nat × Unit) ⊕ (Int32 × Unit)) := lr (f_X11_needLetter g0 x1) (fun e => .inl (e.1, ())) (fun _ => bd (f_X6_usersOf g2 g1 x1) (fun r_2 => some (.inr (r_2, ()))))
abbrev rm_X11_uses : Room := { frames := 7, cells := 1, slots := 6, locals := 141 }
set_option maxHeartbeats 4000000 in
set_option maxRecDepth 100000 in
theorem c_X11_uses (l : Launch) (hst : l.stackTraces = false) (dC : Nat → ClassId) (dI : Nat → Nat → Nat) (sk sv : Nat → Nat) (tc : Nat → ClassId) (a0 : Nat → Nat) (q0_0 : Nat) (q0_2 : Nat) (q0_3 : Nat) (q0_4 : Nat) (q0_5 : Nat) (q0_6 : Nat) (q0_8 : Nat) (q0_9 : Nat) (q0_10 : Nat) (q0_13 : Option Nat) (a1 : Nat → Nat) (q1_18 : Option Nat) (q1_19 : Nat) (a2 : Nat → Nat) (g0 : Pic) (g1 : Pic) (g2 : Pic) (x1 : Int32) {res : ((Nat × Unit) ⊕ (Int32 × Unit))} (h : f_X11_uses g0 g1 g2 x1 = some res) : CU l (dC, dI) sk sv (TY tc) yX11_uses cX11_uses 2 (some .int) rm_X11_uses 1 6 [.ref (a0 0), .int x1] (wPU tc a0 g0 q0_0 (a1 0) q0_2 q0_3 q0_4 q0_5 q0_6 (a2 0) q0_8 q0_9 q0_10 q0_13 ++ (wSt tc a1 g1 q1_18 q1_19 ++ (wLx tc a2 g2 (a1 0)))) (oI (fun (_ : Unit) (_ : Option Nat) => (wPU tc a0 g0 q0_0 (a1 0) q0_2 q0_3 q0_4 q0_5 q0_6 (a2 0) q0_8 q0_9 q0_10 q0_13 ++ (wSt tc a1 g1 q1_18 q1_19 ++ (wLx tc a2 g2 (a1 0))))) res) := by
  refine ofCU (by decide) (Nat.le_of_ble_eq_true rfl) ?_
  intro pr e s m args below meth c A Q ls H locs X hT hQ hD0 hP hS hl
  have hD : ∀ z0 z1 z2, va_D A (wPU tc a0 z0 q0_0 (a1 0) q0_2 q0_3 q0_4 q0_5 q0_6 (a2 0) q0_8 q0_9 q0_10 q0_13 ++ (wSt tc a1 z1 q1_18 q1_19 ++ (wLx tc a2 z2 (a1 0)))) := fun z0 z1 z2 => D_fst (ws := (wPU tc a0 g0 q0_0 (a1 0) q0_2 q0_3 q0_4 q0_5 q0_6 (a2 0) q0_8 q0_9 q0_10 q0_13 ++ (wSt tc a1 g1 q1_18 q1_19 ++ (wLx tc a2 g2 (a1 0))))) rfl hD0
  have hl : lv_has ls 2 [(0, .ref (a0 0)), (1, .int x1)] := hl
  unfold f_X11_uses at h
  refine lv_aload_n X.1 X.2.1 dX11_uses_0 rfl (lv_at hl 0 rfl) ?_
  refine lv_iload_n X.1 X.2.1 dX11_uses_1 rfl (lv_at hl 1 rfl) ?_
  obtain ⟨ex_1, hc_1, h1_1, h2_1⟩ := lr_el h
  rcases ex_1 with e_1 | r_1
  · exact callU_t (ws := (wPU tc a0 g0 q0_0 (a1 0) q0_2 q0_3 q0_4 q0_5 q0_6 (a2 0) q0_8 q0_9 q0_10 q0_13 ++ (wSt tc a1 g1 q1_18 q1_19 ++ (wLx tc a2 g2 (a1 0))))) (ws' := (wPU tc a0 g0 q0_0 (a1 0) q0_2 q0_3 q0_4 q0_5 q0_6 (a2 0) q0_8 q0_9 q0_10 q0_13 ++ (wSt tc a1 g1 q1_18 q1_19 ++ (wLx tc a2 g2 (a1 0))))) (wr := (wSt tc a1 g1 q1_18 q1_19 ++ (wLx tc a2 g2 (a1 0)))) [0] [1, 2, 3, 4, 5, 6, 7, 8, 9, 10, 11, 12, 13, 14] [14, 0, 1, 2, 3, 4, 5, 6, 7, 8, 9, 10, 11, 12, 13] (As := [.int x1]) (rest := []) none rfl (oUi (fun (_ : Unit) (_ : Option Nat) => (wPU tc a0 g0 q0_0 (a1 0) q0_2 q0_3 q0_4 q0_5 q0_6 (a2 0) q0_8 q0_9 q0_10 q0_13 ++ (wSt tc a1 g1 q1_18 q1_19 ++ (wLx tc a2 g2 (a1 0))))) (h1_1 _ rfl)) X hT hQ (c_X11_needLetter l hst dC dI sk sv tc a0 q0_0 (a1 0) q0_2 q0_3 q0_4 q0_5 q0_6 (a2 0) q0_8 q0_9 q0_10 q0_13 g0 x1 hc_1) mw_6_28 mw_6_30 mp_1_10 mw_1_1 mw_6_31 dc_X11_needLetter ⟨Nat.le_of_ble_eq_true rfl, Nat.le_of_ble_eq_true rfl⟩ rfl rfl ⟨Nat.le_of_ble_eq_true rfl, Nat.le_of_ble_eq_true rfl⟩ ⟨rfl, rfl, rfl, rfl, by decide, rfl, rfl⟩ hP (hD _ _ _) hS 0 rfl rfl rfl hl.1 (Nat.le_of_ble_eq_true rfl) dX11_uses_2 (Nat.le_of_ble_eq_true rfl) (Nat.le_of_ble_eq_true rfl)
  have h := h2_1 _ rfl
  refine callU_n (ws := (wPU tc a0 g0 q0_0 (a1 0) q0_2 q0_3 q0_4 q0_5 q0_6 (a2 0) q0_8 q0_9 q0_10 q0_13 ++ (wSt tc a1 g1 q1_18 q1_19 ++ (wLx tc a2 g2 (a1 0))))) (ws' := (wPU tc a0 g0 q0_0 (a1 0) q0_2 q0_3 q0_4 q0_5 q0_6 (a2 0) q0_8 q0_9 q0_10 q0_13 ++ (wSt tc a1 g1 q1_18 q1_19 ++ (wLx tc a2 g2 (a1 0))))) (wr := (wSt tc a1 g1 q1_18 q1_19 ++ (wLx tc a2 g2 (a1 0)))) [0] [1, 2, 3, 4, 5, 6, 7, 8, 9, 10, 11, 12, 13, 14] [14, 0, 1, 2, 3, 4, 5, 6, 7, 8, 9, 10, 11, 12, 13] (As := [.int x1]) (rest := []) X (c_X11_needLetter l hst dC dI sk sv tc a0 q0_0 (a1 0) q0_2 q0_3 q0_4 q0_5 q0_6 (a2 0) q0_8 q0_9 q0_10 q0_13 g0 x1 hc_1) mw_6_28 mw_6_30 mp_1_10 mw_1_1 mw_6_31 dc_X11_needLetter ⟨Nat.le_of_ble_eq_true rfl, Nat.le_of_ble_eq_true rfl⟩ rfl rfl ⟨Nat.le_of_ble_eq_true rfl, Nat.le_of_ble_eq_true rfl⟩ ⟨rfl, rfl, rfl, rfl, by decide, rfl, rfl⟩ hP (hD _ _ _) hS 0 rfl rfl rfl hl.1 (Nat.le_of_ble_eq_true rfl) dX11_uses_2 (fun H locs hP hS => ?_)
  refine W.eq (g2 := F0 m 5 ls []) rfl ?_
  refine lv_aload_n X.1 X.2.1 dX11_uses_5 rfl (lv_at hl 0 rfl) ?_
  refine r_get (C := RX11) (T := TX11) (N := 15) (ci := 11) (v := .ref (a2 0)) X iw11 hP 0 rfl rfl 7 rfl mw_2_150 rfl dX11_uses_6 ?_
  refine lv_iload_n X.1 X.2.1 dX11_uses_9 rfl (lv_at hl 1 rfl) ?_
  obtain ⟨r_2, hc_2, h⟩ := bd_el h
  refine call_Q (ws := (wPU tc a0 g0 q0_0 (a1 0) q0_2 q0_3 q0_4 q0_5 q0_6 (a2 0) q0_8 q0_9 q0_10 q0_13 ++ (wSt tc a1 g1 q1_18 q1_19 ++ (wLx tc a2 g2 (a1 0))))) (ws' := (wPU tc a0 g0 q0_0 (a1 0) q0_2 q0_3 q0_4 q0_5 q0_6 (a2 0) q0_8 q0_9 q0_10 q0_13 ++ (wSt tc a1 g1 q1_18 q1_19 ++ (wLx tc a2 g2 (a1 0))))) (wr := (wPU tc a0 g0 q0_0 (a1 0) q0_2 q0_3 q0_4 q0_5 q0_6 (a2 0) q0_8 q0_9 q0_10 q0_13)) [11, 12, 13, 14, 1, 2, 3, 4, 5, 6, 7, 8, 9, 10] [0] [0, 5, 6, 7, 8, 9, 10, 11, 12, 13, 14, 1, 2, 3, 4] (As := [.int x1]) (rest := []) X (c_X6_usersOf l dC dI sk sv tc a2 a1 q1_18 q1_19 g2 g1 x1 hc_2) mw_3_63 mw_3_64 mw_3_65 mw_1_9 mw_3_66 dc_X6_usersOf ⟨Nat.le_of_ble_eq_true rfl, Nat.le_of_ble_eq_true rfl⟩ rfl rfl ⟨Nat.le_of_ble_eq_true rfl, Nat.le_of_ble_eq_true rfl⟩ ⟨rfl, rfl, rfl, rfl, by decide, rfl, rfl⟩ hP (hD _ _ _) hS 0 rfl rfl rfl hl.1 (Nat.le_of_ble_eq_true rfl) dX11_uses_10 (fun H locs hP hS => ?_)
  refine W.eq (g2 := F0 m 13 ls [.int r_2]) rfl ?_
  exact retU_i (fun (_ : Unit) (_ : Option Nat) => (wPU tc a0 g0 q0_0 (a1 0) q0_2 q0_3 q0_4 q0_5 q0_6 (a2 0) q0_8 q0_9 q0_10 q0_13 ++ (wSt tc a1 g1 q1_18 q1_19 ++ (wLx tc a2 g2 (a1 0))))) none (Option.some.inj h) X hQ hP hS (Nat.le_of_ble_eq_true rfl) (Nat.le_of_ble_eq_true rfl) dX11_uses_13

def f_X11_silent_L4 (g0 : Pic) (g1 : Pic) (g2 : Pic) (n : Nat) (a : Int32 × Int32) : Option (Int32) := lp (fun (rec : Int32 × Int32 → Option (Int32)) (a : Int32 × Int32) => match a with | (x1, x2) => (if 8 ≤ x2 then some x1 else bd (f_X6_usersOf g2 g1 x2) (fun r_1 => jn (fun (x1_J27 : Int32) => nm (x2 + 1) (fun x2_2 => rec (x1_J27, x2_2))) (fun J27 => (if r_1 = 0 then nm ((x1 ||| ((1 : Int32) <<< (x2 &&& 31)))) (fun x1_3 => J27 x1_3) else J27 x1))))) n a
def f_X11_silent (g0 : Pic) (g1 : Pic) (g2 : Pic) : Option (Int32) := bd (f_X11_silent_L4 g0 g1 g2 fu (0, 0)) (fun x1_4 => some x1_4)
abbrev rm_X11_silent : Room := { frames := 2, cells := 0, slots := 0, locals := 46 }
set_option maxHeartbeats 4000000 in
set_option maxRecDepth 100000 in
theorem c_X11_silent (l : Launch) (dC : Nat → ClassId) (dI : Nat → Nat → Nat) (sk sv : Nat → Nat) (tc : Nat → ClassId) (a0 : Nat → Nat) (q0_0 : Nat) (q0_2 : Nat) (q0_3 : Nat) (q0_4 : Nat) (q0_5 : Nat) (q0_6 : Nat) (q0_8 : Nat) (q0_9 : Nat) (q0_10 : Nat) (q0_13 : Option Nat) (a1 : Nat → Nat) (q1_18 : Option Nat) (q1_19 : Nat) (a2 : Nat → Nat) (g0 : Pic) (g1 : Pic) (g2 : Pic) {r0 : Int32} (h : f_X11_silent g0 g1 g2 = some r0) : CT l (dC, dI) sk sv (TY tc) yX11_silent cX11_silent 3 (some .int) rm_X11_silent [.ref (a0 0)] (wPU tc a0 g0 q0_0 (a1 0) q0_2 q0_3 q0_4 q0_5 q0_6 (a2 0) q0_8 q0_9 q0_10 q0_13 ++ (wSt tc a1 g1 q1_18 q1_19 ++ (wLx tc a2 g2 (a1 0)))) (some (.int r0)) (wPU tc a0 g0 q0_0 (a1 0) q0_2 q0_3 q0_4 q0_5 q0_6 (a2 0) q0_8 q0_9 q0_10 q0_13 ++ (wSt tc a1 g1 q1_18 q1_19 ++ (wLx tc a2 g2 (a1 0)))) := by
  refine ofCT (by decide) (Nat.le_of_ble_eq_true rfl) ?_
  intro pr e s m args below meth c A Q ls H locs X hQ hD0 hP hS hl
  have hD : ∀ z0 z1 z2, va_D A (wPU tc a0 z0 q0_0 (a1 0) q0_2 q0_3 q0_4 q0_5 q0_6 (a2 0) q0_8 q0_9 q0_10 q0_13 ++ (wSt tc a1 z1 q1_18 q1_19 ++ (wLx tc a2 z2 (a1 0)))) := fun z0 z1 z2 => D_fst (ws := (wPU tc a0 g0 q0_0 (a1 0) q0_2 q0_3 q0_4 q0_5 q0_6 (a2 0) q0_8 q0_9 q0_10 q0_13 ++ (wSt tc a1 g1 q1_18 q1_19 ++ (wLx tc a2 g2 (a1 0))))) rfl hD0
  have hl : lv_has ls 3 [(0, .ref (a0 0))] := hl
  have HL4 : ∀ (n : Nat) (x1 : Int32) (x2 : Int32) (ex : (Int32)), f_X11_silent_L4 g0 g1 g2 n (x1, x2) = some ex → ∀ (H : Heap) (locs : List Loc) (ls : Array Slot), va_P (dC, dI) vwCl (wPU tc a0 g0 q0_0 (a1 0) q0_2 q0_3 q0_4 q0_5 q0_6 (a2 0) q0_8 q0_9 q0_10 q0_13 ++ (wSt tc a1 g1 q1_18 q1_19 ++ (wLx tc a2 g2 (a1 0)))) H → va_S A s.heap H locs → lv_has ls 3 [(0, .ref (a0 0)), (1, .int x1), (2, .int x2)] → (∀ (y1 : Int32), y1 = ex → ∀ (H : Heap) (locs : List Loc) (ls : Array Slot), va_P (dC, dI) vwCl (wPU tc a0 g0 q0_0 (a1 0) q0_2 q0_3 q0_4 q0_5 q0_6 (a2 0) q0_8 q0_9 q0_10 q0_13 ++ (wSt tc a1 g1 q1_18 q1_19 ++ (wLx tc a2 g2 (a1 0)))) H → va_S A s.heap H locs → lv_has ls 3 [(1, .int y1)] → W pr l e rm_X11_silent s m args below meth c H locs 0 0 Q (F0 m 33 ls [])) → W pr l e rm_X11_silent s m args below meth c H locs 0 0 Q (F0 m 4 ls []) := by
    intro n
    induction n with
    | zero => intro x1 x2 ex h; exact lp_z h
    | succ n ih =>
      intro x1 x2 ex h H locs ls hP hS hl K
      have h := lp_s h
      refine lv_iload_n X.1 X.2.1 dX11_silent_4 rfl (lv_at hl 2 rfl) ?_
      refine lv_bipush (v := 8) X.1 X.2.1 dX11_silent_5 (by decide) ?_
      refine lv_icmp_ge (tgt := 33) X.1 X.2.1 dX11_silent_7 (by decide) (fun hc => ?_) (fun hc => ?_)
      · have h := it_t hc h
        exact K x1 (Option.some.inj h) H locs ls hP hS (lv_sub hl [1] rfl)
      · have h := it_f hc h
        refine lv_aload_n X.1 X.2.1 dX11_silent_10 rfl (lv_at hl 0 rfl) ?_
        refine r_get (C := RX11) (T := TX11) (N := 15) (ci := 11) (v := .ref (a2 0)) X iw11 hP 0 rfl rfl 7 rfl mw_2_150 rfl dX11_silent_11 ?_
        refine lv_iload_n X.1 X.2.1 dX11_silent_14 rfl (lv_at hl 2 rfl) ?_
        obtain ⟨r_1, hc_1, h⟩ := bd_el h
        refine call_Q (ws := (wPU tc a0 g0 q0_0 (a1 0) q0_2 q0_3 q0_4 q0_5 q0_6 (a2 0) q0_8 q0_9 q0_10 q0_13 ++ (wSt tc a1 g1 q1_18 q1_19 ++ (wLx tc a2 g2 (a1 0))))) (ws' := (wPU tc a0 g0 q0_0 (a1 0) q0_2 q0_3 q0_4 q0_5 q0_6 (a2 0) q0_8 q0_9 q0_10 q0_13 ++ (wSt tc a1 g1 q1_18 q1_19 ++ (wLx tc a2 g2 (a1 0))))) (wr := (wPU tc a0 g0 q0_0 (a1 0) q0_2 q0_3 q0_4 q0_5 q0_6 (a2 0) q0_8 q0_9 q0_10 q0_13)) [11, 12, 13, 14, 1, 2, 3, 4, 5, 6, 7, 8, 9, 10] [0] [0, 5, 6, 7, 8, 9, 10, 11, 12, 13, 14, 1, 2, 3, 4] (As := [.int x2]) (rest := []) X (c_X6_usersOf l dC dI sk sv tc a2 a1 q1_18 q1_19 g2 g1 x2 hc_1) mw_3_63 mw_3_64 mw_3_65 mw_1_9 mw_3_66 dc_X6_usersOf ⟨Nat.le_of_ble_eq_true rfl, Nat.le_of_ble_eq_true rfl⟩ rfl rfl ⟨Nat.zero_le _, Nat.zero_le _⟩ ⟨rfl, rfl, rfl, rfl, by decide, rfl, rfl⟩ hP (hD _ _ _) hS 0 rfl rfl rfl hl.1 (Nat.le_of_ble_eq_true rfl) dX11_silent_15 (fun H locs hP hS => ?_)
        refine W.eq (g2 := F0 m 18 ls [.int r_1]) rfl ?_
        obtain ⟨J27, eJ27, h⟩ := jn_el h
        have HJ27 : ∀ (x1_J27 : Int32) (H : Heap) (locs : List Loc) (ls : Array Slot), J27 x1_J27 = some ex → va_P (dC, dI) vwCl (wPU tc a0 g0 q0_0 (a1 0) q0_2 q0_3 q0_4 q0_5 q0_6 (a2 0) q0_8 q0_9 q0_10 q0_13 ++ (wSt tc a1 g1 q1_18 q1_19 ++ (wLx tc a2 g2 (a1 0)))) H → va_S A s.heap H locs → lv_has ls 3 [(0, .ref (a0 0)), (1, .int x1_J27), (2, .int x2)] → W pr l e rm_X11_silent s m args below meth c H locs 0 0 Q (F0 m 27 ls []) := by
          intro x1_J27 H locs ls h hP hS hl
          rw [eJ27] at h
          obtain ⟨x2_2, ex2_2, h⟩ := nm_el h
          refine lv_iinc (v := x2_2) (lv' := [(2, .int x2_2), (0, .ref (a0 0)), (1, .int x1_J27)]) X.1 X.2.1 dX11_silent_27 hl (k := 2) rfl (by rw [ex2_2]; rfl) (by decide) rfl (fun ls hl => ?_)
          refine lv_goto (tgt := 4) X.1 X.2.1 dX11_silent_30 (by decide) ?_
          exact ih x1_J27 x2_2 ex h H locs ls hP hS (lv_sub hl [1, 2, 0] rfl) K
        refine lv_if_ne (tgt := 27) X.1 X.2.1 dX11_silent_18 (by decide) (fun hc => ?_) (fun hc => ?_)
        · have h := it_f hc h
          exact HJ27 x1 H locs ls h hP hS (lv_sub hl [0, 1, 2] rfl)
        · have h := it_t hc h
          refine lv_iload_n X.1 X.2.1 dX11_silent_21 rfl (lv_at hl 1 rfl) ?_
          refine lv_iconst (v := 1) X.1 X.2.1 dX11_silent_22 (by decide) ?_
          refine lv_iload_n X.1 X.2.1 dX11_silent_23 rfl (lv_at hl 2 rfl) ?_
          refine lv_ishl X.1 X.2.1 dX11_silent_24 ?_
          refine lv_ior X.1 X.2.1 dX11_silent_25 ?_
          obtain ⟨x1_3, ex1_3, h⟩ := nm_el h
          refine tp_i ex1_3 ?_
          refine lv_istore_n (lv' := [(1, .int x1_3), (0, .ref (a0 0)), (2, .int x2)]) X.1 X.2.1 dX11_silent_26 rfl hl (by decide) rfl (fun ls hl => ?_)
          exact HJ27 x1_3 H locs ls h hP hS (lv_sub hl [1, 0, 2] rfl)
  unfold f_X11_silent at h
  refine lv_iconst (v := 0) X.1 X.2.1 dX11_silent_0 (by decide) ?_
  refine lv_istore_n (lv' := [(1, .int 0), (0, .ref (a0 0))]) X.1 X.2.1 dX11_silent_1 rfl hl (by decide) rfl (fun ls hl => ?_)
  refine lv_iconst (v := 0) X.1 X.2.1 dX11_silent_2 (by decide) ?_
  refine lv_istore_n (lv' := [(2, .int 0), (1, .int 0), (0, .ref (a0 0))]) X.1 X.2.1 dX11_silent_3 rfl hl (by decide) rfl (fun ls hl => ?_)
  obtain ⟨ex_4, hL_4, h⟩ := bd_el h
  refine HL4  fu 0 0 ex_4 hL_4 H locs ls hP hS (lv_sub hl [2, 1, 0] rfl) (fun x1_4 he H locs ls hP hS hl => ?_)
  subst he
  refine lv_iload_n X.1 X.2.1 dX11_silent_33 rfl (lv_at hl 0 rfl) ?_
  exact ret_i0 (Option.some.inj h) X hQ hP hS dX11_silent_34

def f_X11_ahead_n (g0 : Pic) (g1 : Pic) (g2 : Pic) (g3 : Pic) (g4 : Pic) (g5 : Pic) (g6 : Pic) (g7 : Pic) (x1 : Int32) (x2 : Int32) : Option ((Nat × (Pic × Pic × Pic × Pic)) ⊕ (Int32 × (Pic × Pic × Pic × Pic))) := lr (f_X11_needWriter g0 g1 x1) (fun e => .inl (e.1, (g3, g4, g5, g7))) (fun _ => lr (f_X11_needNumber g0 x2 0 60) (fun e => .inl (e.1, (g3, g4, g5, g7))) (fun _ => bd2 (f_X9_copyFrom g3 g1 g4 g2) (fun g3_3 g4_3 => bd5 (f_X0_pass_n g6 g7 g5 g3_3 g4_3 x2 0) (fun r_4 g7_4 g5_4 g3_4 g4_4 => gdi x1 5 (some (.inr ((g3_4 11 (x1.toNatClampNeg)), (g3_4, g4_4, g5_4, g7_4))))))))
abbrev rm_X11_ahead_n : Room := { frames := 7, cells := 2, slots := 12, locals := 143 }
set_option maxHeartbeats 4000000 in
set_option maxRecDepth 100000 in
theorem c_X11_ahead_n (l : Launch) (hst : l.stackTraces = false) (dC : Nat → ClassId) (dI : Nat → Nat → Nat) (sk sv : Nat → Nat) (tc : Nat → ClassId) (a0 : Nat → Nat) (q0_0 : Nat) (q0_3 : Nat) (q0_4 : Nat) (q0_7 : Nat) (q0_8 : Nat) (q0_9 : Nat) (q0_10 : Nat) (q0_13 : Option Nat) (a1 : Nat → Nat) (a2 : Nat → Nat) (a3 : Nat → Nat) (q3_18 : Option Nat) (a4 : Nat → Nat) (a5 : Nat → Nat) (a6 : Nat → Nat) (a7 : Nat → Nat) (g0 : Pic) (g1 : Pic) (g2 : Pic) (g3 : Pic) (g4 : Pic) (g5 : Pic) (g6 : Pic) (g7 : Pic) (x1 : Int32) (x2 : Int32) {res : ((Nat × (Pic × Pic × Pic × Pic)) ⊕ (Int32 × (Pic × Pic × Pic × Pic)))} (h : f_X11_ahead_n g0 g1 g2 g3 g4 g5 g6 g7 x1 x2 = some res) : CU l (dC, dI) sk sv (TY tc) yX11_ahead cX11_ahead 3 (some .int) rm_X11_ahead_n 2 12 [.ref (a0 0), .int x1, .int x2] (wPU tc a0 g0 q0_0 (a1 0) (a3 0) q0_3 q0_4 (a5 0) (a6 0) q0_7 q0_8 q0_9 q0_10 q0_13 ++ (wSt tc a1 g1 none (a2 0) ++ (wLg tc a2 g2 ++ (wSt tc a3 g3 q3_18 (a4 0) ++ (wLg tc a4 g4 ++ (wHd tc a5 g5 ++ (wCk tc a6 g6 (a5 0) (a7 0) ++ (wFa tc a7 g7)))))))) (oI (fun u q => (wPU tc a0 g0 q0_0 (a1 0) (a3 0) q0_3 q0_4 (a5 0) (a6 0) q0_7 q0_8 q0_9 q0_10 q0_13 ++ (wSt tc a1 g1 none (a2 0) ++ (wLg tc a2 g2 ++ (wSt tc a3 u.1 q (a4 0) ++ (wLg tc a4 u.2.1 ++ (wHd tc a5 u.2.2.1 ++ (wCk tc a6 g6 (a5 0) (a7 0) ++ (wFa tc a7 u.2.2.2))))))))) res) := by
  refine ofCU (by decide) (Nat.le_of_ble_eq_true rfl) ?_
  intro pr e s m args below meth c A Q ls H locs X hT hQ hD0 hP hS hl
  have hD : ∀ z0 z1 z2 z3 z4 z5 z6 z7, va_D A (wPU tc a0 z0 q0_0 (a1 0) (a3 0) q0_3 q0_4 (a5 0) (a6 0) q0_7 q0_8 q0_9 q0_10 q0_13 ++ (wSt tc a1 z1 none (a2 0) ++ (wLg tc a2 z2 ++ (wSt tc a3 z3 q3_18 (a4 0) ++ (wLg tc a4 z4 ++ (wHd tc a5 z5 ++ (wCk tc a6 z6 (a5 0) (a7 0) ++ (wFa tc a7 z7)))))))) := fun z0 z1 z2 z3 z4 z5 z6 z7 => D_fst (ws := (wPU tc a0 g0 q0_0 (a1 0) (a3 0) q0_3 q0_4 (a5 0) (a6 0) q0_7 q0_8 q0_9 q0_10 q0_13 ++ (wSt tc a1 g1 none (a2 0) ++ (wLg tc a2 g2 ++ (wSt tc a3 g3 q3_18 (a4 0) ++ (wLg tc a4 g4 ++ (wHd tc a5 g5 ++ (wCk tc a6 g6 (a5 0) (a7 0) ++ (wFa tc a7 g7))))))))) rfl hD0
  have hDq : ∀ z0 z1 z2 z3 z4 z5 z6 z7 (zq : Option Nat), va_D A (wPU tc a0 z0 q0_0 (a1 0) (a3 0) q0_3 q0_4 (a5 0) (a6 0) q0_7 q0_8 q0_9 q0_10 q0_13 ++ (wSt tc a1 z1 none (a2 0) ++ (wLg tc a2 z2 ++ (wSt tc a3 z3 zq (a4 0) ++ (wLg tc a4 z4 ++ (wHd tc a5 z5 ++ (wCk tc a6 z6 (a5 0) (a7 0) ++ (wFa tc a7 z7)))))))) := fun z0 z1 z2 z3 z4 z5 z6 z7 zq => D_fst (ws := (wPU tc a0 g0 q0_0 (a1 0) (a3 0) q0_3 q0_4 (a5 0) (a6 0) q0_7 q0_8 q0_9 q0_10 q0_13 ++ (wSt tc a1 g1 none (a2 0) ++ (wLg tc a2 g2 ++ (wSt tc a3 g3 q3_18 (a4 0) ++ (wLg tc a4 g4 ++ (wHd tc a5 g5 ++ (wCk tc a6 g6 (a5 0) (a7 0) ++ (wFa tc a7 g7))))))))) rfl hD0
  have hl : lv_has ls 3 [(0, .ref (a0 0)), (1, .int x1), (2, .int x2)] := hl
  unfold f_X11_ahead_n at h
  refine lv_aload_n X.1 X.2.1 dX11_ahead_0 rfl (lv_at hl 0 rfl) ?_
  refine lv_iload_n X.1 X.2.1 dX11_ahead_1 rfl (lv_at hl 1 rfl) ?_
  obtain ⟨ex_1, hc_1, h1_1, h2_1⟩ := lr_el h
  rcases ex_1 with e_1 | r_1
  · exact callU_t (ws := (wPU tc a0 g0 q0_0 (a1 0) (a3 0) q0_3 q0_4 (a5 0) (a6 0) q0_7 q0_8 q0_9 q0_10 q0_13 ++ (wSt tc a1 g1 none (a2 0) ++ (wLg tc a2 g2 ++ (wSt tc a3 g3 q3_18 (a4 0) ++ (wLg tc a4 g4 ++ (wHd tc a5 g5 ++ (wCk tc a6 g6 (a5 0) (a7 0) ++ (wFa tc a7 g7))))))))) (ws' := (wPU tc a0 g0 q0_0 (a1 0) (a3 0) q0_3 q0_4 (a5 0) (a6 0) q0_7 q0_8 q0_9 q0_10 q0_13 ++ (wSt tc a1 g1 none (a2 0) ++ (wLg tc a2 g2 ++ (wSt tc a3 g3 q3_18 (a4 0) ++ (wLg tc a4 g4 ++ (wHd tc a5 g5 ++ (wCk tc a6 g6 (a5 0) (a7 0) ++ (wFa tc a7 g7))))))))) (wr := (wLg tc a2 g2 ++ (wSt tc a3 g3 q3_18 (a4 0) ++ (wLg tc a4 g4 ++ (wHd tc a5 g5 ++ (wCk tc a6 g6 (a5 0) (a7 0) ++ (wFa tc a7 g7))))))) [0, 1, 2, 3, 4, 5, 6, 7, 8, 9, 10] [11, 12, 13, 14, 15, 16, 17, 18, 19, 20, 21, 22, 23, 24, 25, 26, 27, 28, 29, 30, 31] [21, 22, 23, 24, 25, 26, 27, 28, 29, 30, 31, 0, 1, 2, 3, 4, 5, 6, 7, 8, 9, 10, 11, 12, 13, 14, 15, 16, 17, 18, 19, 20] (As := [.int x1]) (rest := []) q3_18 rfl (oUi (fun u q => (wPU tc a0 g0 q0_0 (a1 0) (a3 0) q0_3 q0_4 (a5 0) (a6 0) q0_7 q0_8 q0_9 q0_10 q0_13 ++ (wSt tc a1 g1 none (a2 0) ++ (wLg tc a2 g2 ++ (wSt tc a3 u.1 q (a4 0) ++ (wLg tc a4 u.2.1 ++ (wHd tc a5 u.2.2.1 ++ (wCk tc a6 g6 (a5 0) (a7 0) ++ (wFa tc a7 u.2.2.2))))))))) (h1_1 _ rfl)) X hT hQ (c_X11_needWriter l hst dC dI sk sv tc a0 q0_0 (a3 0) q0_3 q0_4 (a5 0) (a6 0) q0_7 q0_8 q0_9 q0_10 q0_13 a1 none (a2 0) g0 g1 x1 hc_1) mw_5_38 mw_5_40 mp_1_6 mw_1_1 mw_5_41 dc_X11_needWriter ⟨Nat.le_of_ble_eq_true rfl, Nat.le_of_ble_eq_true rfl⟩ rfl rfl ⟨Nat.le_of_ble_eq_true rfl, Nat.le_of_ble_eq_true rfl⟩ ⟨rfl, rfl, rfl, rfl, by decide, rfl, rfl⟩ hP (hDq _ _ _ _ _ _ _ _ _) hS 0 rfl rfl rfl hl.1 (Nat.le_of_ble_eq_true rfl) dX11_ahead_2 (Nat.le_of_ble_eq_true rfl) (Nat.le_of_ble_eq_true rfl)
  have h := h2_1 _ rfl
  refine callU_n (ws := (wPU tc a0 g0 q0_0 (a1 0) (a3 0) q0_3 q0_4 (a5 0) (a6 0) q0_7 q0_8 q0_9 q0_10 q0_13 ++ (wSt tc a1 g1 none (a2 0) ++ (wLg tc a2 g2 ++ (wSt tc a3 g3 q3_18 (a4 0) ++ (wLg tc a4 g4 ++ (wHd tc a5 g5 ++ (wCk tc a6 g6 (a5 0) (a7 0) ++ (wFa tc a7 g7))))))))) (ws' := (wPU tc a0 g0 q0_0 (a1 0) (a3 0) q0_3 q0_4 (a5 0) (a6 0) q0_7 q0_8 q0_9 q0_10 q0_13 ++ (wSt tc a1 g1 none (a2 0) ++ (wLg tc a2 g2 ++ (wSt tc a3 g3 q3_18 (a4 0) ++ (wLg tc a4 g4 ++ (wHd tc a5 g5 ++ (wCk tc a6 g6 (a5 0) (a7 0) ++ (wFa tc a7 g7))))))))) (wr := (wLg tc a2 g2 ++ (wSt tc a3 g3 q3_18 (a4 0) ++ (wLg tc a4 g4 ++ (wHd tc a5 g5 ++ (wCk tc a6 g6 (a5 0) (a7 0) ++ (wFa tc a7 g7))))))) [0, 1, 2, 3, 4, 5, 6, 7, 8, 9, 10] [11, 12, 13, 14, 15, 16, 17, 18, 19, 20, 21, 22, 23, 24, 25, 26, 27, 28, 29, 30, 31] [21, 22, 23, 24, 25, 26, 27, 28, 29, 30, 31, 0, 1, 2, 3, 4, 5, 6, 7, 8, 9, 10, 11, 12, 13, 14, 15, 16, 17, 18, 19, 20] (As := [.int x1]) (rest := []) X (c_X11_needWriter l hst dC dI sk sv tc a0 q0_0 (a3 0) q0_3 q0_4 (a5 0) (a6 0) q0_7 q0_8 q0_9 q0_10 q0_13 a1 none (a2 0) g0 g1 x1 hc_1) mw_5_38 mw_5_40 mp_1_6 mw_1_1 mw_5_41 dc_X11_needWriter ⟨Nat.le_of_ble_eq_true rfl, Nat.le_of_ble_eq_true rfl⟩ rfl rfl ⟨Nat.le_of_ble_eq_true rfl, Nat.le_of_ble_eq_true rfl⟩ ⟨rfl, rfl, rfl, rfl, by decide, rfl, rfl⟩ hP (hDq _ _ _ _ _ _ _ _ _) hS 0 rfl rfl rfl hl.1 (Nat.le_of_ble_eq_true rfl) dX11_ahead_2 (fun H locs hP hS => ?_)
  refine W.eq (g2 := F0 m 5 ls []) rfl ?_
  refine lv_aload_n X.1 X.2.1 dX11_ahead_5 rfl (lv_at hl 0 rfl) ?_
  refine lv_iload_n X.1 X.2.1 dX11_ahead_6 rfl (lv_at hl 2 rfl) ?_
  refine lv_iconst (v := 0) X.1 X.2.1 dX11_ahead_7 (by decide) ?_
  refine lv_bipush (v := 60) X.1 X.2.1 dX11_ahead_8 (by decide) ?_
  obtain ⟨ex_2, hc_2, h1_2, h2_2⟩ := lr_el h
  rcases ex_2 with e_2 | r_2
  · exact callU_t (ws := (wPU tc a0 g0 q0_0 (a1 0) (a3 0) q0_3 q0_4 (a5 0) (a6 0) q0_7 q0_8 q0_9 q0_10 q0_13 ++ (wSt tc a1 g1 none (a2 0) ++ (wLg tc a2 g2 ++ (wSt tc a3 g3 q3_18 (a4 0) ++ (wLg tc a4 g4 ++ (wHd tc a5 g5 ++ (wCk tc a6 g6 (a5 0) (a7 0) ++ (wFa tc a7 g7))))))))) (ws' := (wPU tc a0 g0 q0_0 (a1 0) (a3 0) q0_3 q0_4 (a5 0) (a6 0) q0_7 q0_8 q0_9 q0_10 q0_13 ++ (wSt tc a1 g1 none (a2 0) ++ (wLg tc a2 g2 ++ (wSt tc a3 g3 q3_18 (a4 0) ++ (wLg tc a4 g4 ++ (wHd tc a5 g5 ++ (wCk tc a6 g6 (a5 0) (a7 0) ++ (wFa tc a7 g7))))))))) (wr := (wSt tc a1 g1 none (a2 0) ++ (wLg tc a2 g2 ++ (wSt tc a3 g3 q3_18 (a4 0) ++ (wLg tc a4 g4 ++ (wHd tc a5 g5 ++ (wCk tc a6 g6 (a5 0) (a7 0) ++ (wFa tc a7 g7)))))))) [0] [1, 2, 3, 4, 5, 6, 7, 8, 9, 10, 11, 12, 13, 14, 15, 16, 17, 18, 19, 20, 21, 22, 23, 24, 25, 26, 27, 28, 29, 30, 31] [31, 0, 1, 2, 3, 4, 5, 6, 7, 8, 9, 10, 11, 12, 13, 14, 15, 16, 17, 18, 19, 20, 21, 22, 23, 24, 25, 26, 27, 28, 29, 30] (As := [.int x2, .int 0, .int 60]) (rest := []) q3_18 rfl (oUi (fun u q => (wPU tc a0 g0 q0_0 (a1 0) (a3 0) q0_3 q0_4 (a5 0) (a6 0) q0_7 q0_8 q0_9 q0_10 q0_13 ++ (wSt tc a1 g1 none (a2 0) ++ (wLg tc a2 g2 ++ (wSt tc a3 u.1 q (a4 0) ++ (wLg tc a4 u.2.1 ++ (wHd tc a5 u.2.2.1 ++ (wCk tc a6 g6 (a5 0) (a7 0) ++ (wFa tc a7 u.2.2.2))))))))) (h1_2 _ rfl)) X hT hQ (c_X11_needNumber l hst dC dI sk sv tc a0 q0_0 (a1 0) (a3 0) q0_3 q0_4 (a5 0) (a6 0) q0_7 q0_8 q0_9 q0_10 q0_13 g0 x2 0 60 hc_2) mw_5_199 mw_5_201 mp_1_8 mw_1_1 mw_5_202 dc_X11_needNumber ⟨Nat.le_of_ble_eq_true rfl, Nat.le_of_ble_eq_true rfl⟩ rfl rfl ⟨Nat.le_of_ble_eq_true rfl, Nat.le_of_ble_eq_true rfl⟩ ⟨rfl, rfl, rfl, rfl, by decide, rfl, rfl⟩ hP (hDq _ _ _ _ _ _ _ _ _) hS 0 rfl rfl rfl hl.1 (Nat.le_of_ble_eq_true rfl) dX11_ahead_10 (Nat.le_of_ble_eq_true rfl) (Nat.le_of_ble_eq_true rfl)
  have h := h2_2 _ rfl
  refine callU_n (ws := (wPU tc a0 g0 q0_0 (a1 0) (a3 0) q0_3 q0_4 (a5 0) (a6 0) q0_7 q0_8 q0_9 q0_10 q0_13 ++ (wSt tc a1 g1 none (a2 0) ++ (wLg tc a2 g2 ++ (wSt tc a3 g3 q3_18 (a4 0) ++ (wLg tc a4 g4 ++ (wHd tc a5 g5 ++ (wCk tc a6 g6 (a5 0) (a7 0) ++ (wFa tc a7 g7))))))))) (ws' := (wPU tc a0 g0 q0_0 (a1 0) (a3 0) q0_3 q0_4 (a5 0) (a6 0) q0_7 q0_8 q0_9 q0_10 q0_13 ++ (wSt tc a1 g1 none (a2 0) ++ (wLg tc a2 g2 ++ (wSt tc a3 g3 q3_18 (a4 0) ++ (wLg tc a4 g4 ++ (wHd tc a5 g5 ++ (wCk tc a6 g6 (a5 0) (a7 0) ++ (wFa tc a7 g7))))))))) (wr := (wSt tc a1 g1 none (a2 0) ++ (wLg tc a2 g2 ++ (wSt tc a3 g3 q3_18 (a4 0) ++ (wLg tc a4 g4 ++ (wHd tc a5 g5 ++ (wCk tc a6 g6 (a5 0) (a7 0) ++ (wFa tc a7 g7)))))))) [0] [1, 2, 3, 4, 5, 6, 7, 8, 9, 10, 11, 12, 13, 14, 15, 16, 17, 18, 19, 20, 21, 22, 23, 24, 25, 26, 27, 28, 29, 30, 31] [31, 0, 1, 2, 3, 4, 5, 6, 7, 8, 9, 10, 11, 12, 13, 14, 15, 16, 17, 18, 19, 20, 21, 22, 23, 24, 25, 26, 27, 28, 29, 30] (As := [.int x2, .int 0, .int 60]) (rest := []) X (c_X11_needNumber l hst dC dI sk sv tc a0 q0_0 (a1 0) (a3 0) q0_3 q0_4 (a5 0) (a6 0) q0_7 q0_8 q0_9 q0_10 q0_13 g0 x2 0 60 hc_2) mw_5_199 mw_5_201 mp_1_8 mw_1_1 mw_5_202 dc_X11_needNumber ⟨Nat.le_of_ble_eq_true rfl, Nat.le_of_ble_eq_true rfl⟩ rfl rfl ⟨Nat.le_of_ble_eq_true rfl, Nat.le_of_ble_eq_true rfl⟩ ⟨rfl, rfl, rfl, rfl, by decide, rfl, rfl⟩ hP (hDq _ _ _ _ _ _ _ _ _) hS 0 rfl rfl rfl hl.1 (Nat.le_of_ble_eq_true rfl) dX11_ahead_10 (fun H locs hP hS => ?_)
  refine W.eq (g2 := F0 m 13 ls []) rfl ?_
  refine lv_aload_n X.1 X.2.1 dX11_ahead_13 rfl (lv_at hl 0 rfl) ?_
  refine r_get (C := RX11) (T := TX11) (N := 15) (ci := 11) (v := .ref (a3 0)) X iw11 hP 0 rfl rfl 2 rfl mw_2_145 rfl dX11_ahead_14 ?_
  refine lv_aload_n X.1 X.2.1 dX11_ahead_17 rfl (lv_at hl 0 rfl) ?_
  refine r_get (C := RX11) (T := TX11) (N := 15) (ci := 11) (v := .ref (a1 0)) X iw11 hP 0 rfl rfl 1 rfl mw_2_144 rfl dX11_ahead_18 ?_
  obtain ⟨g3_3, g4_3, hc_3, h⟩ := bd2_el h
  refine call_Q (ws := (wPU tc a0 g0 q0_0 (a1 0) (a3 0) q0_3 q0_4 (a5 0) (a6 0) q0_7 q0_8 q0_9 q0_10 q0_13 ++ (wSt tc a1 g1 none (a2 0) ++ (wLg tc a2 g2 ++ (wSt tc a3 g3 q3_18 (a4 0) ++ (wLg tc a4 g4 ++ (wHd tc a5 g5 ++ (wCk tc a6 g6 (a5 0) (a7 0) ++ (wFa tc a7 g7))))))))) (ws' := (wPU tc a0 g0 q0_0 (a1 0) (a3 0) q0_3 q0_4 (a5 0) (a6 0) q0_7 q0_8 q0_9 q0_10 q0_13 ++ (wSt tc a1 g1 none (a2 0) ++ (wLg tc a2 g2 ++ (wSt tc a3 g3_3 none (a4 0) ++ (wLg tc a4 g4_3 ++ (wHd tc a5 g5 ++ (wCk tc a6 g6 (a5 0) (a7 0) ++ (wFa tc a7 g7))))))))) (wr := (wPU tc a0 g0 q0_0 (a1 0) (a3 0) q0_3 q0_4 (a5 0) (a6 0) q0_7 q0_8 q0_9 q0_10 q0_13 ++ (wHd tc a5 g5 ++ (wCk tc a6 g6 (a5 0) (a7 0) ++ (wFa tc a7 g7))))) [13, 14, 15, 16, 17, 18, 19, 20, 21, 22, 1, 2, 3, 4, 5, 6, 7, 8, 9, 10, 23, 24, 11, 12] [0, 25, 26, 27, 28, 29, 30, 31] [0, 18, 19, 20, 21, 22, 23, 24, 25, 26, 27, 30, 31, 8, 9, 10, 11, 12, 13, 14, 15, 16, 17, 28, 29, 1, 2, 3, 4, 5, 6, 7] (As := [.ref (a1 0)]) (rest := []) X (c_X9_copyFrom l dC dI sk sv tc a3 q3_18 a1 none a4 a2 g3 g1 g4 g2 hc_3) mw_3_79 mw_3_80 mw_3_81 mw_1_3 mw_3_82 dc_X9_copyFrom ⟨Nat.le_of_ble_eq_true rfl, Nat.le_of_ble_eq_true rfl⟩ rfl rfl ⟨Nat.le_of_ble_eq_true rfl, Nat.le_of_ble_eq_true rfl⟩ ⟨rfl, rfl, rfl, rfl, by decide, rfl, rfl⟩ hP (hDq _ _ _ _ _ _ _ _ _) hS 0 rfl rfl rfl hl.1 (Nat.le_of_ble_eq_true rfl) dX11_ahead_21 (fun H locs hP hS => ?_)
  refine W.eq (g2 := F0 m 24 ls []) rfl ?_
  refine lv_aload_n X.1 X.2.1 dX11_ahead_24 rfl (lv_at hl 0 rfl) ?_
  refine r_get (C := RX11) (T := TX11) (N := 15) (ci := 11) (v := .ref (a6 0)) X iw11 hP 0 rfl rfl 6 rfl mw_2_149 rfl dX11_ahead_25 ?_
  refine lv_aload_n X.1 X.2.1 dX11_ahead_28 rfl (lv_at hl 0 rfl) ?_
  refine r_get (C := RX11) (T := TX11) (N := 15) (ci := 11) (v := .ref (a3 0)) X iw11 hP 0 rfl rfl 2 rfl mw_2_145 rfl dX11_ahead_29 ?_
  refine lv_iload_n X.1 X.2.1 dX11_ahead_32 rfl (lv_at hl 2 rfl) ?_
  refine lv_iconst (v := 0) X.1 X.2.1 dX11_ahead_33 (by decide) ?_
  obtain ⟨r_4, g7_4, g5_4, g3_4, g4_4, hc_4, h⟩ := bd5_el h
  refine call_Q (ws := (wPU tc a0 g0 q0_0 (a1 0) (a3 0) q0_3 q0_4 (a5 0) (a6 0) q0_7 q0_8 q0_9 q0_10 q0_13 ++ (wSt tc a1 g1 none (a2 0) ++ (wLg tc a2 g2 ++ (wSt tc a3 g3_3 none (a4 0) ++ (wLg tc a4 g4_3 ++ (wHd tc a5 g5 ++ (wCk tc a6 g6 (a5 0) (a7 0) ++ (wFa tc a7 g7))))))))) (ws' := (wPU tc a0 g0 q0_0 (a1 0) (a3 0) q0_3 q0_4 (a5 0) (a6 0) q0_7 q0_8 q0_9 q0_10 q0_13 ++ (wSt tc a1 g1 none (a2 0) ++ (wLg tc a2 g2 ++ (wSt tc a3 g3_4 none (a4 0) ++ (wLg tc a4 g4_4 ++ (wHd tc a5 g5_4 ++ (wCk tc a6 g6 (a5 0) (a7 0) ++ (wFa tc a7 g7_4))))))))) (wr := (wPU tc a0 g0 q0_0 (a1 0) (a3 0) q0_3 q0_4 (a5 0) (a6 0) q0_7 q0_8 q0_9 q0_10 q0_13 ++ (wSt tc a1 g1 none (a2 0) ++ (wLg tc a2 g2)))) [30, 31, 25, 26, 27, 28, 29, 13, 14, 15, 16, 17, 18, 19, 20, 21, 22, 23, 24] [0, 1, 2, 3, 4, 5, 6, 7, 8, 9, 10, 11, 12] [0, 1, 2, 3, 4, 5, 6, 7, 8, 9, 10, 11, 12, 20, 21, 22, 23, 24, 25, 26, 27, 28, 29, 30, 31, 15, 16, 17, 18, 19, 13, 14] (As := [.ref (a3 0), .int x2, .int 0]) (rest := []) X (c_X0_pass_n l dC dI sk sv tc a6 a7 a5 a3 a4 g6 g7 g5 g3_3 g4_3 x2 0 hc_4) mw_5_208 mw_5_209 mw_5_210 mw_1_8 mw_5_211 dc_X0_pass ⟨Nat.le_of_ble_eq_true rfl, Nat.le_of_ble_eq_true rfl⟩ rfl rfl ⟨Nat.le_of_ble_eq_true rfl, Nat.le_of_ble_eq_true rfl⟩ ⟨rfl, rfl, rfl, rfl, by decide, rfl, rfl⟩ hP (hDq _ _ _ _ _ _ _ _ _) hS 0 rfl rfl rfl hl.1 (Nat.le_of_ble_eq_true rfl) dX11_ahead_34 (fun H locs hP hS => ?_)
  refine W.eq (g2 := F0 m 37 ls [.int r_4]) rfl ?_
  refine lv_pop X.1 X.2.1 dX11_ahead_37 rfl ?_
  refine lv_aload_n X.1 X.2.1 dX11_ahead_38 rfl (lv_at hl 0 rfl) ?_
  refine r_get (C := RX11) (T := TX11) (N := 15) (ci := 11) (v := .ref (a3 0)) X iw11 hP 0 rfl rfl 2 rfl mw_2_145 rfl dX11_ahead_39 ?_
  refine r_get (C := RX9) (T := TX9) (N := 20) (ci := 9) (v := .ref (a3 12)) X iw9 hP 13 rfl rfl 11 rfl mw_1_166 rfl dX11_ahead_42 ?_
  refine lv_iload_n X.1 X.2.1 dX11_ahead_45 rfl (lv_at hl 1 rfl) ?_
  obtain ⟨hg_5, h⟩ := gdi_el h
  refine r_iald X hP 21 0 rfl rfl hg_5 rfl dX11_ahead_46 ?_
  exact retU_i (fun u q => (wPU tc a0 g0 q0_0 (a1 0) (a3 0) q0_3 q0_4 (a5 0) (a6 0) q0_7 q0_8 q0_9 q0_10 q0_13 ++ (wSt tc a1 g1 none (a2 0) ++ (wLg tc a2 g2 ++ (wSt tc a3 u.1 q (a4 0) ++ (wLg tc a4 u.2.1 ++ (wHd tc a5 u.2.2.1 ++ (wCk tc a6 g6 (a5 0) (a7 0) ++ (wFa tc a7 u.2.2.2))))))))) none (Option.some.inj h) X hQ hP hS (Nat.le_of_ble_eq_true rfl) (Nat.le_of_ble_eq_true rfl) dX11_ahead_47

def f_X11_ahead_l (ln8 : Nat → Nat) (g0 : Pic) (g1 : Pic) (g2 : Pic) (g3 : Pic) (g4 : Pic) (g5 : Pic) (g6 : Pic) (g7 : Pic) (g8 : Pic) (x1 : Int32) (x2 : Int32) : Option ((Nat × (Pic × Pic × Pic × Pic × Pic)) ⊕ (Int32 × (Pic × Pic × Pic × Pic × Pic))) := lr (f_X11_needWriter g0 g1 x1) (fun e => .inl (e.1, (g3, g4, g5, g7, g8))) (fun _ => lr (f_X11_needNumber g0 x2 0 60) (fun e => .inl (e.1, (g3, g4, g5, g7, g8))) (fun _ => bd2 (f_X9_copyFrom g3 g1 g4 g2) (fun g3_3 g4_3 => bd6 (f_X0_pass_l ln8 g6 g8 g7 g5 g3_3 g4_3 x2 0) (fun r_4 g8_4 g7_4 g5_4 g3_4 g4_4 => gdi x1 5 (some (.inr ((g3_4 11 (x1.toNatClampNeg)), (g3_4, g4_4, g5_4, g7_4, g8_4))))))))
abbrev rm_X11_ahead_l : Room := { frames := 7, cells := 2, slots := 12, locals := 168 }
set_option maxHeartbeats 4000000 in
set_option maxRecDepth 100000 in
theorem c_X11_ahead_l (l : Launch) (hst : l.stackTraces = false) (dC : Nat → ClassId) (dI : Nat → Nat → Nat) (sk sv : Nat → Nat) (tc : Nat → ClassId) (ln8 : Nat → Nat) (a0 : Nat → Nat) (q0_0 : Nat) (q0_3 : Nat) (q0_4 : Nat) (q0_7 : Nat) (q0_8 : Nat) (q0_9 : Nat) (q0_10 : Nat) (q0_13 : Option Nat) (a1 : Nat → Nat) (a2 : Nat → Nat) (a3 : Nat → Nat) (q3_18 : Option Nat) (a4 : Nat → Nat) (a5 : Nat → Nat) (a6 : Nat → Nat) (a7 : Nat → Nat) (a8 : Nat → Nat) (g0 : Pic) (g1 : Pic) (g2 : Pic) (g3 : Pic) (g4 : Pic) (g5 : Pic) (g6 : Pic) (g7 : Pic) (g8 : Pic) (x1 : Int32) (x2 : Int32) {res : ((Nat × (Pic × Pic × Pic × Pic × Pic)) ⊕ (Int32 × (Pic × Pic × Pic × Pic × Pic)))} (h : f_X11_ahead_l ln8 g0 g1 g2 g3 g4 g5 g6 g7 g8 x1 x2 = some res) : CU l (dC, dI) sk sv (TY tc) yX11_ahead cX11_ahead 3 (some .int) rm_X11_ahead_l 2 12 [.ref (a0 0), .int x1, .int x2] (wPU tc a0 g0 q0_0 (a1 0) (a3 0) q0_3 q0_4 (a5 0) (a6 0) q0_7 q0_8 q0_9 q0_10 q0_13 ++ (wSt tc a1 g1 (some (a8 0)) (a2 0) ++ (wLg tc a2 g2 ++ (wSt tc a3 g3 q3_18 (a4 0) ++ (wLg tc a4 g4 ++ (wHd tc a5 g5 ++ (wCk tc a6 g6 (a5 0) (a7 0) ++ (wFa tc a7 g7 ++ (wLw tc a8 g8 ln8))))))))) (oI (fun u q => (wPU tc a0 g0 q0_0 (a1 0) (a3 0) q0_3 q0_4 (a5 0) (a6 0) q0_7 q0_8 q0_9 q0_10 q0_13 ++ (wSt tc a1 g1 (some (a8 0)) (a2 0) ++ (wLg tc a2 g2 ++ (wSt tc a3 u.1 q (a4 0) ++ (wLg tc a4 u.2.1 ++ (wHd tc a5 u.2.2.1 ++ (wCk tc a6 g6 (a5 0) (a7 0) ++ (wFa tc a7 u.2.2.2.1 ++ (wLw tc a8 u.2.2.2.2 ln8)))))))))) res) := by
  refine ofCU (by decide) (Nat.le_of_ble_eq_true rfl) ?_
  intro pr e s m args below meth c A Q ls H locs X hT hQ hD0 hP hS hl
  have hD : ∀ z0 z1 z2 z3 z4 z5 z6 z7 z8, va_D A (wPU tc a0 z0 q0_0 (a1 0) (a3 0) q0_3 q0_4 (a5 0) (a6 0) q0_7 q0_8 q0_9 q0_10 q0_13 ++ (wSt tc a1 z1 (some (a8 0)) (a2 0) ++ (wLg tc a2 z2 ++ (wSt tc a3 z3 q3_18 (a4 0) ++ (wLg tc a4 z4 ++ (wHd tc a5 z5 ++ (wCk tc a6 z6 (a5 0) (a7 0) ++ (wFa tc a7 z7 ++ (wLw tc a8 z8 ln8))))))))) := fun z0 z1 z2 z3 z4 z5 z6 z7 z8 => D_fst (ws := (wPU tc a0 g0 q0_0 (a1 0) (a3 0) q0_3 q0_4 (a5 0) (a6 0) q0_7 q0_8 q0_9 q0_10 q0_13 ++ (wSt tc a1 g1 (some (a8 0)) (a2 0) ++ (wLg tc a2 g2 ++ (wSt tc a3 g3 q3_18 (a4 0) ++ (wLg tc a4 g4 ++ (wHd tc a5 g5 ++ (wCk tc a6 g6 (a5 0) (a7 0) ++ (wFa tc a7 g7 ++ (wLw tc a8 g8 ln8)))))))))) rfl hD0
  have hDq : ∀ z0 z1 z2 z3 z4 z5 z6 z7 z8 (zq : Option Nat), va_D A (wPU tc a0 z0 q0_0 (a1 0) (a3 0) q0_3 q0_4 (a5 0) (a6 0) q0_7 q0_8 q0_9 q0_10 q0_13 ++ (wSt tc a1 z1 (some (a8 0)) (a2 0) ++ (wLg tc a2 z2 ++ (wSt tc a3 z3 zq (a4 0) ++ (wLg tc a4 z4 ++ (wHd tc a5 z5 ++ (wCk tc a6 z6 (a5 0) (a7 0) ++ (wFa tc a7 z7 ++ (wLw tc a8 z8 ln8))))))))) := fun z0 z1 z2 z3 z4 z5 z6 z7 z8 zq => D_fst (ws := (wPU tc a0 g0 q0_0 (a1 0) (a3 0) q0_3 q0_4 (a5 0) (a6 0) q0_7 q0_8 q0_9 q0_10 q0_13 ++ (wSt tc a1 g1 (some (a8 0)) (a2 0) ++ (wLg tc a2 g2 ++ (wSt tc a3 g3 q3_18 (a4 0) ++ (wLg tc a4 g4 ++ (wHd tc a5 g5 ++ (wCk tc a6 g6 (a5 0) (a7 0) ++ (wFa tc a7 g7 ++ (wLw tc a8 g8 ln8)))))))))) rfl hD0
  have hl : lv_has ls 3 [(0, .ref (a0 0)), (1, .int x1), (2, .int x2)] := hl
  unfold f_X11_ahead_l at h
  refine lv_aload_n X.1 X.2.1 dX11_ahead_0 rfl (lv_at hl 0 rfl) ?_
  refine lv_iload_n X.1 X.2.1 dX11_ahead_1 rfl (lv_at hl 1 rfl) ?_
  obtain ⟨ex_1, hc_1, h1_1, h2_1⟩ := lr_el h
  rcases ex_1 with e_1 | r_1
  · exact callU_t (ws := (wPU tc a0 g0 q0_0 (a1 0) (a3 0) q0_3 q0_4 (a5 0) (a6 0) q0_7 q0_8 q0_9 q0_10 q0_13 ++ (wSt tc a1 g1 (some (a8 0)) (a2 0) ++ (wLg tc a2 g2 ++ (wSt tc a3 g3 q3_18 (a4 0) ++ (wLg tc a4 g4 ++ (wHd tc a5 g5 ++ (wCk tc a6 g6 (a5 0) (a7 0) ++ (wFa tc a7 g7 ++ (wLw tc a8 g8 ln8)))))))))) (ws' := (wPU tc a0 g0 q0_0 (a1 0) (a3 0) q0_3 q0_4 (a5 0) (a6 0) q0_7 q0_8 q0_9 q0_10 q0_13 ++ (wSt tc a1 g1 (some (a8 0)) (a2 0) ++ (wLg tc a2 g2 ++ (wSt tc a3 g3 q3_18 (a4 0) ++ (wLg tc a4 g4 ++ (wHd tc a5 g5 ++ (wCk tc a6 g6 (a5 0) (a7 0) ++ (wFa tc a7 g7 ++ (wLw tc a8 g8 ln8)))))))))) (wr := (wLg tc a2 g2 ++ (wSt tc a3 g3 q3_18 (a4 0) ++ (wLg tc a4 g4 ++ (wHd tc a5 g5 ++ (wCk tc a6 g6 (a5 0) (a7 0) ++ (wFa tc a7 g7 ++ (wLw tc a8 g8 ln8)))))))) [0, 1, 2, 3, 4, 5, 6, 7, 8, 9, 10] [11, 12, 13, 14, 15, 16, 17, 18, 19, 20, 21, 22, 23, 24, 25, 26, 27, 28, 29, 30, 31, 32, 33, 34, 35, 36, 37] [27, 28, 29, 30, 31, 32, 33, 34, 35, 36, 37, 0, 1, 2, 3, 4, 5, 6, 7, 8, 9, 10, 11, 12, 13, 14, 15, 16, 17, 18, 19, 20, 21, 22, 23, 24, 25, 26] (As := [.int x1]) (rest := []) q3_18 rfl (oUi (fun u q => (wPU tc a0 g0 q0_0 (a1 0) (a3 0) q0_3 q0_4 (a5 0) (a6 0) q0_7 q0_8 q0_9 q0_10 q0_13 ++ (wSt tc a1 g1 (some (a8 0)) (a2 0) ++ (wLg tc a2 g2 ++ (wSt tc a3 u.1 q (a4 0) ++ (wLg tc a4 u.2.1 ++ (wHd tc a5 u.2.2.1 ++ (wCk tc a6 g6 (a5 0) (a7 0) ++ (wFa tc a7 u.2.2.2.1 ++ (wLw tc a8 u.2.2.2.2 ln8)))))))))) (h1_1 _ rfl)) X hT hQ (c_X11_needWriter l hst dC dI sk sv tc a0 q0_0 (a3 0) q0_3 q0_4 (a5 0) (a6 0) q0_7 q0_8 q0_9 q0_10 q0_13 a1 (some (a8 0)) (a2 0) g0 g1 x1 hc_1) mw_5_38 mw_5_40 mp_1_6 mw_1_1 mw_5_41 dc_X11_needWriter ⟨Nat.le_of_ble_eq_true rfl, Nat.le_of_ble_eq_true rfl⟩ rfl rfl ⟨Nat.le_of_ble_eq_true rfl, Nat.le_of_ble_eq_true rfl⟩ ⟨rfl, rfl, rfl, rfl, by decide, rfl, rfl⟩ hP (hDq _ _ _ _ _ _ _ _ _ _) hS 0 rfl rfl rfl hl.1 (Nat.le_of_ble_eq_true rfl) dX11_ahead_2 (Nat.le_of_ble_eq_true rfl) (Nat.le_of_ble_eq_true rfl)
  have h := h2_1 _ rfl
  refine callU_n (ws := (wPU tc a0 g0 q0_0 (a1 0) (a3 0) q0_3 q0_4 (a5 0) (a6 0) q0_7 q0_8 q0_9 q0_10 q0_13 ++ (wSt tc a1 g1 (some (a8 0)) (a2 0) ++ (wLg tc a2 g2 ++ (wSt tc a3 g3 q3_18 (a4 0) ++ (wLg tc a4 g4 ++ (wHd tc a5 g5 ++ (wCk tc a6 g6 (a5 0) (a7 0) ++ (wFa tc a7 g7 ++ (wLw tc a8 g8 ln8)))))))))) (ws' := (wPU tc a0 g0 q0_0 (a1 0) (a3 0) q0_3 q0_4 (a5 0) (a6 0) q0_7 q0_8 q0_9 q0_10 q0_13 ++ (wSt tc a1 g1 (some (a8 0)) (a2 0) ++ (wLg tc a2 g2 ++ (wSt tc a3 g3 q3_18 (a4 0) ++ (wLg tc a4 g4 ++ (wHd tc a5 g5 ++ (wCk tc a6 g6 (a5 0) (a7 0) ++ (wFa tc a7 g7 ++ (wLw tc a8 g8 ln8)))))))))) (wr := (wLg tc a2 g2 ++ (wSt tc a3 g3 q3_18 (a4 0) ++ (wLg tc a4 g4 ++ (wHd tc a5 g5 ++ (wCk tc a6 g6 (a5 0) (a7 0) ++ (wFa tc a7 g7 ++ (wLw tc a8 g8 ln8)))))))) [0, 1, 2, 3, 4, 5, 6, 7, 8, 9, 10] [11, 12, 13, 14, 15, 16, 17, 18, 19, 20, 21, 22, 23, 24, 25, 26, 27, 28, 29, 30, 31, 32, 33, 34, 35, 36, 37] [27, 28, 29, 30, 31, 32, 33, 34, 35, 36, 37, 0, 1, 2, 3, 4, 5, 6, 7, 8, 9, 10, 11, 12, 13, 14, 15, 16, 17, 18, 19, 20, 21, 22, 23, 24, 25, 26] (As := [.int x1]) (rest := []) X (c_X11_needWriter l hst dC dI sk sv tc a0 q0_0 (a3 0) q0_3 q0_4 (a5 0) (a6 0) q0_7 q0_8 q0_9 q0_10 q0_13 a1 (some (a8 0)) (a2 0) g0 g1 x1 hc_1) mw_5_38 mw_5_40 mp_1_6 mw_1_1 mw_5_41 dc_X11_needWriter ⟨Nat.le_of_ble_eq_true rfl, Nat.le_of_ble_eq_true rfl⟩ rfl rfl ⟨Nat.le_of_ble_eq_true rfl, Nat.le_of_ble_eq_true rfl⟩ ⟨rfl, rfl, rfl, rfl, by decide, rfl, rfl⟩ hP (hDq _ _ _ _ _ _ _ _ _ _) hS 0 rfl rfl rfl hl.1 (Nat.le_of_ble_eq_true rfl) dX11_ahead_2 (fun H locs hP hS => ?_)
  refine W.eq (g2 := F0 m 5 ls []) rfl ?_
  refine lv_aload_n X.1 X.2.1 dX11_ahead_5 rfl (lv_at hl 0 rfl) ?_
  refine lv_iload_n X.1 X.2.1 dX11_ahead_6 rfl (lv_at hl 2 rfl) ?_
  refine lv_iconst (v := 0) X.1 X.2.1 dX11_ahead_7 (by decide) ?_
  refine lv_bipush (v := 60) X.1 X.2.1 dX11_ahead_8 (by decide) ?_
  obtain ⟨ex_2, hc_2, h1_2, h2_2⟩ := lr_el h
  rcases ex_2 with e_2 | r_2
  · exact callU_t (ws := (wPU tc a0 g0 q0_0 (a1 0) (a3 0) q0_3 q0_4 (a5 0) (a6 0) q0_7 q0_8 q0_9 q0_10 q0_13 ++ (wSt tc a1 g1 (some (a8 0)) (a2 0) ++ (wLg tc a2 g2 ++ (wSt tc a3 g3 q3_18 (a4 0) ++ (wLg tc a4 g4 ++ (wHd tc a5 g5 ++ (wCk tc a6 g6 (a5 0) (a7 0) ++ (wFa tc a7 g7 ++ (wLw tc a8 g8 ln8)))))))))) (ws' := (wPU tc a0 g0 q0_0 (a1 0) (a3 0) q0_3 q0_4 (a5 0) (a6 0) q0_7 q0_8 q0_9 q0_10 q0_13 ++ (wSt tc a1 g1 (some (a8 0)) (a2 0) ++ (wLg tc a2 g2 ++ (wSt tc a3 g3 q3_18 (a4 0) ++ (wLg tc a4 g4 ++ (wHd tc a5 g5 ++ (wCk tc a6 g6 (a5 0) (a7 0) ++ (wFa tc a7 g7 ++ (wLw tc a8 g8 ln8)))))))))) (wr := (wSt tc a1 g1 (some (a8 0)) (a2 0) ++ (wLg tc a2 g2 ++ (wSt tc a3 g3 q3_18 (a4 0) ++ (wLg tc a4 g4 ++ (wHd tc a5 g5 ++ (wCk tc a6 g6 (a5 0) (a7 0) ++ (wFa tc a7 g7 ++ (wLw tc a8 g8 ln8))))))))) [0] [1, 2, 3, 4, 5, 6, 7, 8, 9, 10, 11, 12, 13, 14, 15, 16, 17, 18, 19, 20, 21, 22, 23, 24, 25, 26, 27, 28, 29, 30, 31, 32, 33, 34, 35, 36, 37] [37, 0, 1, 2, 3, 4, 5, 6, 7, 8, 9, 10, 11, 12, 13, 14, 15, 16, 17, 18, 19, 20, 21, 22, 23, 24, 25, 26, 27, 28, 29, 30, 31, 32, 33, 34, 35, 36] (As := [.int x2, .int 0, .int 60]) (rest := []) q3_18 rfl (oUi (fun u q => (wPU tc a0 g0 q0_0 (a1 0) (a3 0) q0_3 q0_4 (a5 0) (a6 0) q0_7 q0_8 q0_9 q0_10 q0_13 ++ (wSt tc a1 g1 (some (a8 0)) (a2 0) ++ (wLg tc a2 g2 ++ (wSt tc a3 u.1 q (a4 0) ++ (wLg tc a4 u.2.1 ++ (wHd tc a5 u.2.2.1 ++ (wCk tc a6 g6 (a5 0) (a7 0) ++ (wFa tc a7 u.2.2.2.1 ++ (wLw tc a8 u.2.2.2.2 ln8)))))))))) (h1_2 _ rfl)) X hT hQ (c_X11_needNumber l hst dC dI sk sv tc a0 q0_0 (a1 0) (a3 0) q0_3 q0_4 (a5 0) (a6 0) q0_7 q0_8 q0_9 q0_10 q0_13 g0 x2 0 60 hc_2) mw_5_199 mw_5_201 mp_1_8 mw_1_1 mw_5_202 dc_X11_needNumber ⟨Nat.le_of_ble_eq_true rfl, Nat.le_of_ble_eq_true rfl⟩ rfl rfl ⟨Nat.le_of_ble_eq_true rfl, Nat.le_of_ble_eq_true rfl⟩ ⟨rfl, rfl, rfl, rfl, by decide, rfl, rfl⟩ hP (hDq _ _ _ _ _ _ _ _ _ _) hS 0 rfl rfl rfl hl.1 (Nat.le_of_ble_eq_true rfl) dX11_ahead_10 (Nat.le_of_ble_eq_true rfl) (Nat.le_of_ble_eq_true rfl)
  have h := h2_2 _ rfl
  refine callU_n (ws := (wPU tc a0 g0 q0_0 (a1 0) (a3 0) q0_3 q0_4 (a5 0) (a6 0) q0_7 q0_8 q0_9 q0_10 q0_13 ++ (wSt tc a1 g1 (some (a8 0)) (a2 0) ++ (wLg tc a2 g2 ++ (wSt tc a3 g3 q3_18 (a4 0) ++ (wLg tc a4 g4 ++ (wHd tc a5 g5 ++ (wCk tc a6 g6 (a5 0) (a7 0) ++ (wFa tc a7 g7 ++ (wLw tc a8 g8 ln8)))))))))) (ws' := (wPU tc a0 g0 q0_0 (a1 0) (a3 0) q0_3 q0_4 (a5 0) (a6 0) q0_7 q0_8 q0_9 q0_10 q0_13 ++ (wSt tc a1 g1 (some (a8 0)) (a2 0) ++ (wLg tc a2 g2 ++ (wSt tc a3 g3 q3_18 (a4 0) ++ (wLg tc a4 g4 ++ (wHd tc a5 g5 ++ (wCk tc a6 g6 (a5 0) (a7 0) ++ (wFa tc a7 g7 ++ (wLw tc a8 g8 ln8)))))))))) (wr := (wSt tc a1 g1 (some (a8 0)) (a2 0) ++ (wLg tc a2 g2 ++ (wSt tc a3 g3 q3_18 (a4 0) ++ (wLg tc a4 g4 ++ (wHd tc a5 g5 ++ (wCk tc a6 g6 (a5 0) (a7 0) ++ (wFa tc a7 g7 ++ (wLw tc a8 g8 ln8))))))))) [0] [1, 2, 3, 4, 5, 6, 7, 8, 9, 10, 11, 12, 13, 14, 15, 16, 17, 18, 19, 20, 21, 22, 23, 24, 25, 26, 27, 28, 29, 30, 31, 32, 33, 34, 35, 36, 37] [37, 0, 1, 2, 3, 4, 5, 6, 7, 8, 9, 10, 11, 12, 13, 14, 15, 16, 17, 18, 19, 20, 21, 22, 23, 24, 25, 26, 27, 28, 29, 30, 31, 32, 33, 34, 35, 36] (As := [.int x2, .int 0, .int 60]) (rest := []) X (c_X11_needNumber l hst dC dI sk sv tc a0 q0_0 (a1 0) (a3 0) q0_3 q0_4 (a5 0) (a6 0) q0_7 q0_8 q0_9 q0_10 q0_13 g0 x2 0 60 hc_2) mw_5_199 mw_5_201 mp_1_8 mw_1_1 mw_5_202 dc_X11_needNumber ⟨Nat.le_of_ble_eq_true rfl, Nat.le_of_ble_eq_true rfl⟩ rfl rfl ⟨Nat.le_of_ble_eq_true rfl, Nat.le_of_ble_eq_true rfl⟩ ⟨rfl, rfl, rfl, rfl, by decide, rfl, rfl⟩ hP (hDq _ _ _ _ _ _ _ _ _ _) hS 0 rfl rfl rfl hl.1 (Nat.le_of_ble_eq_true rfl) dX11_ahead_10 (fun H locs hP hS => ?_)
  refine W.eq (g2 := F0 m 13 ls []) rfl ?_
  refine lv_aload_n X.1 X.2.1 dX11_ahead_13 rfl (lv_at hl 0 rfl) ?_
  refine r_get (C := RX11) (T := TX11) (N := 15) (ci := 11) (v := .ref (a3 0)) X iw11 hP 0 rfl rfl 2 rfl mw_2_145 rfl dX11_ahead_14 ?_
  refine lv_aload_n X.1 X.2.1 dX11_ahead_17 rfl (lv_at hl 0 rfl) ?_
  refine r_get (C := RX11) (T := TX11) (N := 15) (ci := 11) (v := .ref (a1 0)) X iw11 hP 0 rfl rfl 1 rfl mw_2_144 rfl dX11_ahead_18 ?_
  obtain ⟨g3_3, g4_3, hc_3, h⟩ := bd2_el h
  refine call_Q (ws := (wPU tc a0 g0 q0_0 (a1 0) (a3 0) q0_3 q0_4 (a5 0) (a6 0) q0_7 q0_8 q0_9 q0_10 q0_13 ++ (wSt tc a1 g1 (some (a8 0)) (a2 0) ++ (wLg tc a2 g2 ++ (wSt tc a3 g3 q3_18 (a4 0) ++ (wLg tc a4 g4 ++ (wHd tc a5 g5 ++ (wCk tc a6 g6 (a5 0) (a7 0) ++ (wFa tc a7 g7 ++ (wLw tc a8 g8 ln8)))))))))) (ws' := (wPU tc a0 g0 q0_0 (a1 0) (a3 0) q0_3 q0_4 (a5 0) (a6 0) q0_7 q0_8 q0_9 q0_10 q0_13 ++ (wSt tc a1 g1 (some (a8 0)) (a2 0) ++ (wLg tc a2 g2 ++ (wSt tc a3 g3_3 (some (a8 0)) (a4 0) ++ (wLg tc a4 g4_3 ++ (wHd tc a5 g5 ++ (wCk tc a6 g6 (a5 0) (a7 0) ++ (wFa tc a7 g7 ++ (wLw tc a8 g8 ln8)))))))))) (wr := (wPU tc a0 g0 q0_0 (a1 0) (a3 0) q0_3 q0_4 (a5 0) (a6 0) q0_7 q0_8 q0_9 q0_10 q0_13 ++ (wHd tc a5 g5 ++ (wCk tc a6 g6 (a5 0) (a7 0) ++ (wFa tc a7 g7 ++ (wLw tc a8 g8 ln8)))))) [13, 14, 15, 16, 17, 18, 19, 20, 21, 22, 1, 2, 3, 4, 5, 6, 7, 8, 9, 10, 23, 24, 11, 12] [0, 25, 26, 27, 28, 29, 30, 31, 32, 33, 34, 35, 36, 37] [0, 24, 25, 26, 27, 28, 29, 30, 31, 32, 33, 36, 37, 14, 15, 16, 17, 18, 19, 20, 21, 22, 23, 34, 35, 1, 2, 3, 4, 5, 6, 7, 8, 9, 10, 11, 12, 13] (As := [.ref (a1 0)]) (rest := []) X (c_X9_copyFrom l dC dI sk sv tc a3 q3_18 a1 (some (a8 0)) a4 a2 g3 g1 g4 g2 hc_3) mw_3_79 mw_3_80 mw_3_81 mw_1_3 mw_3_82 dc_X9_copyFrom ⟨Nat.le_of_ble_eq_true rfl, Nat.le_of_ble_eq_true rfl⟩ rfl rfl ⟨Nat.le_of_ble_eq_true rfl, Nat.le_of_ble_eq_true rfl⟩ ⟨rfl, rfl, rfl, rfl, by decide, rfl, rfl⟩ hP (hDq _ _ _ _ _ _ _ _ _ _) hS 0 rfl rfl rfl hl.1 (Nat.le_of_ble_eq_true rfl) dX11_ahead_21 (fun H locs hP hS => ?_)
  refine W.eq (g2 := F0 m 24 ls []) rfl ?_
  refine lv_aload_n X.1 X.2.1 dX11_ahead_24 rfl (lv_at hl 0 rfl) ?_
  refine r_get (C := RX11) (T := TX11) (N := 15) (ci := 11) (v := .ref (a6 0)) X iw11 hP 0 rfl rfl 6 rfl mw_2_149 rfl dX11_ahead_25 ?_
  refine lv_aload_n X.1 X.2.1 dX11_ahead_28 rfl (lv_at hl 0 rfl) ?_
  refine r_get (C := RX11) (T := TX11) (N := 15) (ci := 11) (v := .ref (a3 0)) X iw11 hP 0 rfl rfl 2 rfl mw_2_145 rfl dX11_ahead_29 ?_
  refine lv_iload_n X.1 X.2.1 dX11_ahead_32 rfl (lv_at hl 2 rfl) ?_
  refine lv_iconst (v := 0) X.1 X.2.1 dX11_ahead_33 (by decide) ?_
  obtain ⟨r_4, g8_4, g7_4, g5_4, g3_4, g4_4, hc_4, h⟩ := bd6_el h
  refine call_Q (ws := (wPU tc a0 g0 q0_0 (a1 0) (a3 0) q0_3 q0_4 (a5 0) (a6 0) q0_7 q0_8 q0_9 q0_10 q0_13 ++ (wSt tc a1 g1 (some (a8 0)) (a2 0) ++ (wLg tc a2 g2 ++ (wSt tc a3 g3_3 (some (a8 0)) (a4 0) ++ (wLg tc a4 g4_3 ++ (wHd tc a5 g5 ++ (wCk tc a6 g6 (a5 0) (a7 0) ++ (wFa tc a7 g7 ++ (wLw tc a8 g8 ln8)))))))))) (ws' := (wPU tc a0 g0 q0_0 (a1 0) (a3 0) q0_3 q0_4 (a5 0) (a6 0) q0_7 q0_8 q0_9 q0_10 q0_13 ++ (wSt tc a1 g1 (some (a8 0)) (a2 0) ++ (wLg tc a2 g2 ++ (wSt tc a3 g3_4 (some (a8 0)) (a4 0) ++ (wLg tc a4 g4_4 ++ (wHd tc a5 g5_4 ++ (wCk tc a6 g6 (a5 0) (a7 0) ++ (wFa tc a7 g7_4 ++ (wLw tc a8 g8_4 ln8)))))))))) (wr := (wPU tc a0 g0 q0_0 (a1 0) (a3 0) q0_3 q0_4 (a5 0) (a6 0) q0_7 q0_8 q0_9 q0_10 q0_13 ++ (wSt tc a1 g1 (some (a8 0)) (a2 0) ++ (wLg tc a2 g2)))) [30, 32, 33, 34, 35, 36, 37, 31, 25, 26, 27, 28, 29, 13, 14, 15, 16, 17, 18, 19, 20, 21, 22, 23, 24] [0, 1, 2, 3, 4, 5, 6, 7, 8, 9, 10, 11, 12] [0, 1, 2, 3, 4, 5, 6, 7, 8, 9, 10, 11, 12, 26, 27, 28, 29, 30, 31, 32, 33, 34, 35, 36, 37, 21, 22, 23, 24, 25, 13, 20, 14, 15, 16, 17, 18, 19] (As := [.ref (a3 0), .int x2, .int 0]) (rest := []) X (c_X0_pass_l l dC dI sk sv tc ln8 a6 a8 a7 a5 a3 a4 g6 g8 g7 g5 g3_3 g4_3 x2 0 hc_4) mw_5_208 mw_5_209 mw_5_210 mw_1_8 mw_5_211 dc_X0_pass ⟨Nat.le_of_ble_eq_true rfl, Nat.le_of_ble_eq_true rfl⟩ rfl rfl ⟨Nat.le_of_ble_eq_true rfl, Nat.le_of_ble_eq_true rfl⟩ ⟨rfl, rfl, rfl, rfl, by decide, rfl, rfl⟩ hP (hDq _ _ _ _ _ _ _ _ _ _) hS 0 rfl rfl rfl hl.1 (Nat.le_of_ble_eq_true rfl) dX11_ahead_34 (fun H locs hP hS => ?_)
  refine W.eq (g2 := F0 m 37 ls [.int r_4]) rfl ?_
  refine lv_pop X.1 X.2.1 dX11_ahead_37 rfl ?_
  refine lv_aload_n X.1 X.2.1 dX11_ahead_38 rfl (lv_at hl 0 rfl) ?_
  refine r_get (C := RX11) (T := TX11) (N := 15) (ci := 11) (v := .ref (a3 0)) X iw11 hP 0 rfl rfl 2 rfl mw_2_145 rfl dX11_ahead_39 ?_
  refine r_get (C := RX9) (T := TX9) (N := 20) (ci := 9) (v := .ref (a3 12)) X iw9 hP 13 rfl rfl 11 rfl mw_1_166 rfl dX11_ahead_42 ?_
  refine lv_iload_n X.1 X.2.1 dX11_ahead_45 rfl (lv_at hl 1 rfl) ?_
  obtain ⟨hg_5, h⟩ := gdi_el h
  refine r_iald X hP 21 0 rfl rfl hg_5 rfl dX11_ahead_46 ?_
  exact retU_i (fun u q => (wPU tc a0 g0 q0_0 (a1 0) (a3 0) q0_3 q0_4 (a5 0) (a6 0) q0_7 q0_8 q0_9 q0_10 q0_13 ++ (wSt tc a1 g1 (some (a8 0)) (a2 0) ++ (wLg tc a2 g2 ++ (wSt tc a3 u.1 q (a4 0) ++ (wLg tc a4 u.2.1 ++ (wHd tc a5 u.2.2.1 ++ (wCk tc a6 g6 (a5 0) (a7 0) ++ (wFa tc a7 u.2.2.2.1 ++ (wLw tc a8 u.2.2.2.2 ln8)))))))))) (some (a8 0)) (Option.some.inj h) X hQ hP hS (Nat.le_of_ble_eq_true rfl) (Nat.le_of_ble_eq_true rfl) dX11_ahead_47

def f_X11_trial_n (g0 : Pic) (g1 : Pic) (g2 : Pic) (g3 : Pic) (g4 : Pic) (g5 : Pic) (g6 : Pic) (g7 : Pic) (x1 : Int32) (x2 : Int32) : Option ((Nat × (Pic × Pic × Pic × Pic)) ⊕ (Int32 × (Pic × Pic × Pic × Pic))) := lr (f_X11_needNumber g0 x1 0 60) (fun e => .inl (e.1, (g3, g4, g5, g7))) (fun _ => bd2 (f_X9_copyFrom g3 g1 g4 g2) (fun g3_2 g4_2 => bd5 (f_X0_pass_n g6 g7 g5 g3_2 g4_2 x1 1) (fun r_3 g7_3 g5_3 g3_3 g4_3 => jn (fun (s0_J55 : Int32) => some (.inr (s0_J55, (g3_3, g4_3, g5_3, g7_3)))) (fun J55 => (if x2 = 0 then bd (f_X9_onAllPages g3_3 1) (fun r_4 => J55 r_4) else bd (f_X9_tiredTogether g3_3) (fun r_5 => J55 r_5))))))
abbrev rm_X11_trial_n : Room := { frames := 7, cells := 1, slots := 6, locals := 143 }
set_option maxHeartbeats 4000000 in
set_option maxRecDepth 100000 in
theorem c_X11_trial_n (l : Launch) (hst : l.stackTraces = false) (dC : Nat → ClassId) (dI : Nat → Nat → Nat) (sk sv : Nat → Nat) (tc : Nat → ClassId) (a0 : Nat → Nat) (q0_0 : Nat) (q0_3 : Nat) (q0_4 : Nat) (q0_7 : Nat) (q0_8 : Nat) (q0_9 : Nat) (q0_10 : Nat) (q0_13 : Option Nat) (a1 : Nat → Nat) (a2 : Nat → Nat) (a3 : Nat → Nat) (q3_18 : Option Nat) (a4 : Nat → Nat) (a5 : Nat → Nat) (a6 : Nat → Nat) (a7 : Nat → Nat) (g0 : Pic) (g1 : Pic) (g2 : Pic) (g3 : Pic) (g4 : Pic) (g5 : Pic) (g6 : Pic) (g7 : Pic) (x1 : Int32) (x2 : Int32) {res : ((Nat × (Pic × Pic × Pic × Pic)) ⊕ (Int32 × (Pic × Pic × Pic × Pic)))} (h : f_X11_trial_n g0 g1 g2 g3 g4 g5 g6 g7 x1 x2 = some res) : CU l (dC, dI) sk sv (TY tc) yX11_trial cX11_trial 3 (some .int) rm_X11_trial_n 1 6 [.ref (a0 0), .int x1, .int x2] (wPU tc a0 g0 q0_0 (a1 0) (a3 0) q0_3 q0_4 (a5 0) (a6 0) q0_7 q0_8 q0_9 q0_10 q0_13 ++ (wSt tc a1 g1 none (a2 0) ++ (wLg tc a2 g2 ++ (wSt tc a3 g3 q3_18 (a4 0) ++ (wLg tc a4 g4 ++ (wHd tc a5 g5 ++ (wCk tc a6 g6 (a5 0) (a7 0) ++ (wFa tc a7 g7)))))))) (oI (fun u q => (wPU tc a0 g0 q0_0 (a1 0) (a3 0) q0_3 q0_4 (a5 0) (a6 0) q0_7 q0_8 q0_9 q0_10 q0_13 ++ (wSt tc a1 g1 none (a2 0) ++ (wLg tc a2 g2 ++ (wSt tc a3 u.1 q (a4 0) ++ (wLg tc a4 u.2.1 ++ (wHd tc a5 u.2.2.1 ++ (wCk tc a6 g6 (a5 0) (a7 0) ++ (wFa tc a7 u.2.2.2))))))))) res) := by
  refine ofCU (by decide) (Nat.le_of_ble_eq_true rfl) ?_
  intro pr e s m args below meth c A Q ls H locs X hT hQ hD0 hP hS hl
  have hD : ∀ z0 z1 z2 z3 z4 z5 z6 z7, va_D A (wPU tc a0 z0 q0_0 (a1 0) (a3 0) q0_3 q0_4 (a5 0) (a6 0) q0_7 q0_8 q0_9 q0_10 q0_13 ++ (wSt tc a1 z1 none (a2 0) ++ (wLg tc a2 z2 ++ (wSt tc a3 z3 q3_18 (a4 0) ++ (wLg tc a4 z4 ++ (wHd tc a5 z5 ++ (wCk tc a6 z6 (a5 0) (a7 0) ++ (wFa tc a7 z7)))))))) := fun z0 z1 z2 z3 z4 z5 z6 z7 => D_fst (ws := (wPU tc a0 g0 q0_0 (a1 0) (a3 0) q0_3 q0_4 (a5 0) (a6 0) q0_7 q0_8 q0_9 q0_10 q0_13 ++ (wSt tc a1 g1 none (a2 0) ++ (wLg tc a2 g2 ++ (wSt tc a3 g3 q3_18 (a4 0) ++ (wLg tc a4 g4 ++ (wHd tc a5 g5 ++ (wCk tc a6 g6 (a5 0) (a7 0) ++ (wFa tc a7 g7))))))))) rfl hD0
  have hDq : ∀ z0 z1 z2 z3 z4 z5 z6 z7 (zq : Option Nat), va_D A (wPU tc a0 z0 q0_0 (a1 0) (a3 0) q0_3 q0_4 (a5 0) (a6 0) q0_7 q0_8 q0_9 q0_10 q0_13 ++ (wSt tc a1 z1 none (a2 0) ++ (wLg tc a2 z2 ++ (wSt tc a3 z3 zq (a4 0) ++ (wLg tc a4 z4 ++ (wHd tc a5 z5 ++ (wCk tc a6 z6 (a5 0) (a7 0) ++ (wFa tc a7 z7)))))))) := fun z0 z1 z2 z3 z4 z5 z6 z7 zq => D_fst (ws := (wPU tc a0 g0 q0_0 (a1 0) (a3 0) q0_3 q0_4 (a5 0) (a6 0) q0_7 q0_8 q0_9 q0_10 q0_13 ++ (wSt tc a1 g1 none (a2 0) ++ (wLg tc a2 g2 ++ (wSt tc a3 g3 q3_18 (a4 0) ++ (wLg tc a4 g4 ++ (wHd tc a5 g5 ++ (wCk tc a6 g6 (a5 0) (a7 0) ++ (wFa tc a7 g7))))))))) rfl hD0
  have hl : lv_has ls 3 [(0, .ref (a0 0)), (1, .int x1), (2, .int x2)] := hl
  unfold f_X11_trial_n at h
  refine lv_aload_n X.1 X.2.1 dX11_trial_0 rfl (lv_at hl 0 rfl) ?_
  refine lv_iload_n X.1 X.2.1 dX11_trial_1 rfl (lv_at hl 1 rfl) ?_
  refine lv_iconst (v := 0) X.1 X.2.1 dX11_trial_2 (by decide) ?_
  refine lv_bipush (v := 60) X.1 X.2.1 dX11_trial_3 (by decide) ?_
  obtain ⟨ex_1, hc_1, h1_1, h2_1⟩ := lr_el h
  rcases ex_1 with e_1 | r_1
  · exact callU_t (ws := (wPU tc a0 g0 q0_0 (a1 0) (a3 0) q0_3 q0_4 (a5 0) (a6 0) q0_7 q0_8 q0_9 q0_10 q0_13 ++ (wSt tc a1 g1 none (a2 0) ++ (wLg tc a2 g2 ++ (wSt tc a3 g3 q3_18 (a4 0) ++ (wLg tc a4 g4 ++ (wHd tc a5 g5 ++ (wCk tc a6 g6 (a5 0) (a7 0) ++ (wFa tc a7 g7))))))))) (ws' := (wPU tc a0 g0 q0_0 (a1 0) (a3 0) q0_3 q0_4 (a5 0) (a6 0) q0_7 q0_8 q0_9 q0_10 q0_13 ++ (wSt tc a1 g1 none (a2 0) ++ (wLg tc a2 g2 ++ (wSt tc a3 g3 q3_18 (a4 0) ++ (wLg tc a4 g4 ++ (wHd tc a5 g5 ++ (wCk tc a6 g6 (a5 0) (a7 0) ++ (wFa tc a7 g7))))))))) (wr := (wSt tc a1 g1 none (a2 0) ++ (wLg tc a2 g2 ++ (wSt tc a3 g3 q3_18 (a4 0) ++ (wLg tc a4 g4 ++ (wHd tc a5 g5 ++ (wCk tc a6 g6 (a5 0) (a7 0) ++ (wFa tc a7 g7)))))))) [0] [1, 2, 3, 4, 5, 6, 7, 8, 9, 10, 11, 12, 13, 14, 15, 16, 17, 18, 19, 20, 21, 22, 23, 24, 25, 26, 27, 28, 29, 30, 31] [31, 0, 1, 2, 3, 4, 5, 6, 7, 8, 9, 10, 11, 12, 13, 14, 15, 16, 17, 18, 19, 20, 21, 22, 23, 24, 25, 26, 27, 28, 29, 30] (As := [.int x1, .int 0, .int 60]) (rest := []) q3_18 rfl (oUi (fun u q => (wPU tc a0 g0 q0_0 (a1 0) (a3 0) q0_3 q0_4 (a5 0) (a6 0) q0_7 q0_8 q0_9 q0_10 q0_13 ++ (wSt tc a1 g1 none (a2 0) ++ (wLg tc a2 g2 ++ (wSt tc a3 u.1 q (a4 0) ++ (wLg tc a4 u.2.1 ++ (wHd tc a5 u.2.2.1 ++ (wCk tc a6 g6 (a5 0) (a7 0) ++ (wFa tc a7 u.2.2.2))))))))) (h1_1 _ rfl)) X hT hQ (c_X11_needNumber l hst dC dI sk sv tc a0 q0_0 (a1 0) (a3 0) q0_3 q0_4 (a5 0) (a6 0) q0_7 q0_8 q0_9 q0_10 q0_13 g0 x1 0 60 hc_1) mw_5_199 mw_5_201 mp_1_8 mw_1_1 mw_5_202 dc_X11_needNumber ⟨Nat.le_of_ble_eq_true rfl, Nat.le_of_ble_eq_true rfl⟩ rfl rfl ⟨Nat.le_of_ble_eq_true rfl, Nat.le_of_ble_eq_true rfl⟩ ⟨rfl, rfl, rfl, rfl, by decide, rfl, rfl⟩ hP (hDq _ _ _ _ _ _ _ _ _) hS 0 rfl rfl rfl hl.1 (Nat.le_of_ble_eq_true rfl) dX11_trial_5 (Nat.le_of_ble_eq_true rfl) (Nat.le_of_ble_eq_true rfl)
  have h := h2_1 _ rfl
  refine callU_n (ws := (wPU tc a0 g0 q0_0 (a1 0) (a3 0) q0_3 q0_4 (a5 0) (a6 0) q0_7 q0_8 q0_9 q0_10 q0_13 ++ (wSt tc a1 g1 none (a2 0) ++ (wLg tc a2 g2 ++ (wSt tc a3 g3 q3_18 (a4 0) ++ (wLg tc a4 g4 ++ (wHd tc a5 g5 ++ (wCk tc a6 g6 (a5 0) (a7 0) ++ (wFa tc a7 g7))))))))) (ws' := (wPU tc a0 g0 q0_0 (a1 0) (a3 0) q0_3 q0_4 (a5 0) (a6 0) q0_7 q0_8 q0_9 q0_10 q0_13 ++ (wSt tc a1 g1 none (a2 0) ++ (wLg tc a2 g2 ++ (wSt tc a3 g3 q3_18 (a4 0) ++ (wLg tc a4 g4 ++ (wHd tc a5 g5 ++ (wCk tc a6 g6 (a5 0) (a7 0) ++ (wFa tc a7 g7))))))))) (wr := (wSt tc a1 g1 none (a2 0) ++ (wLg tc a2 g2 ++ (wSt tc a3 g3 q3_18 (a4 0) ++ (wLg tc a4 g4 ++ (wHd tc a5 g5 ++ (wCk tc a6 g6 (a5 0) (a7 0) ++ (wFa tc a7 g7)))))))) [0] [1, 2, 3, 4, 5, 6, 7, 8, 9, 10, 11, 12, 13, 14, 15, 16, 17, 18, 19, 20, 21, 22, 23, 24, 25, 26, 27, 28, 29, 30, 31] [31, 0, 1, 2, 3, 4, 5, 6, 7, 8, 9, 10, 11, 12, 13, 14, 15, 16, 17, 18, 19, 20, 21, 22, 23, 24, 25, 26, 27, 28, 29, 30] (As := [.int x1, .int 0, .int 60]) (rest := []) X (c_X11_needNumber l hst dC dI sk sv tc a0 q0_0 (a1 0) (a3 0) q0_3 q0_4 (a5 0) (a6 0) q0_7 q0_8 q0_9 q0_10 q0_13 g0 x1 0 60 hc_1) mw_5_199 mw_5_201 mp_1_8 mw_1_1 mw_5_202 dc_X11_needNumber ⟨Nat.le_of_ble_eq_true rfl, Nat.le_of_ble_eq_true rfl⟩ rfl rfl ⟨Nat.le_of_ble_eq_true rfl, Nat.le_of_ble_eq_true rfl⟩ ⟨rfl, rfl, rfl, rfl, by decide, rfl, rfl⟩ hP (hDq _ _ _ _ _ _ _ _ _) hS 0 rfl rfl rfl hl.1 (Nat.le_of_ble_eq_true rfl) dX11_trial_5 (fun H locs hP hS => ?_)
  refine W.eq (g2 := F0 m 8 ls []) rfl ?_
  refine lv_aload_n X.1 X.2.1 dX11_trial_8 rfl (lv_at hl 0 rfl) ?_
  refine r_get (C := RX11) (T := TX11) (N := 15) (ci := 11) (v := .ref (a3 0)) X iw11 hP 0 rfl rfl 2 rfl mw_2_145 rfl dX11_trial_9 ?_
  refine lv_aload_n X.1 X.2.1 dX11_trial_12 rfl (lv_at hl 0 rfl) ?_
  refine r_get (C := RX11) (T := TX11) (N := 15) (ci := 11) (v := .ref (a1 0)) X iw11 hP 0 rfl rfl 1 rfl mw_2_144 rfl dX11_trial_13 ?_
  obtain ⟨g3_2, g4_2, hc_2, h⟩ := bd2_el h
  refine call_Q (ws := (wPU tc a0 g0 q0_0 (a1 0) (a3 0) q0_3 q0_4 (a5 0) (a6 0) q0_7 q0_8 q0_9 q0_10 q0_13 ++ (wSt tc a1 g1 none (a2 0) ++ (wLg tc a2 g2 ++ (wSt tc a3 g3 q3_18 (a4 0) ++ (wLg tc a4 g4 ++ (wHd tc a5 g5 ++ (wCk tc a6 g6 (a5 0) (a7 0) ++ (wFa tc a7 g7))))))))) (ws' := (wPU tc a0 g0 q0_0 (a1 0) (a3 0) q0_3 q0_4 (a5 0) (a6 0) q0_7 q0_8 q0_9 q0_10 q0_13 ++ (wSt tc a1 g1 none (a2 0) ++ (wLg tc a2 g2 ++ (wSt tc a3 g3_2 none (a4 0) ++ (wLg tc a4 g4_2 ++ (wHd tc a5 g5 ++ (wCk tc a6 g6 (a5 0) (a7 0) ++ (wFa tc a7 g7))))))))) (wr := (wPU tc a0 g0 q0_0 (a1 0) (a3 0) q0_3 q0_4 (a5 0) (a6 0) q0_7 q0_8 q0_9 q0_10 q0_13 ++ (wHd tc a5 g5 ++ (wCk tc a6 g6 (a5 0) (a7 0) ++ (wFa tc a7 g7))))) [13, 14, 15, 16, 17, 18, 19, 20, 21, 22, 1, 2, 3, 4, 5, 6, 7, 8, 9, 10, 23, 24, 11, 12] [0, 25, 26, 27, 28, 29, 30, 31] [0, 18, 19, 20, 21, 22, 23, 24, 25, 26, 27, 30, 31, 8, 9, 10, 11, 12, 13, 14, 15, 16, 17, 28, 29, 1, 2, 3, 4, 5, 6, 7] (As := [.ref (a1 0)]) (rest := []) X (c_X9_copyFrom l dC dI sk sv tc a3 q3_18 a1 none a4 a2 g3 g1 g4 g2 hc_2) mw_3_79 mw_3_80 mw_3_81 mw_1_3 mw_3_82 dc_X9_copyFrom ⟨Nat.le_of_ble_eq_true rfl, Nat.le_of_ble_eq_true rfl⟩ rfl rfl ⟨Nat.le_of_ble_eq_true rfl, Nat.le_of_ble_eq_true rfl⟩ ⟨rfl, rfl, rfl, rfl, by decide, rfl, rfl⟩ hP (hDq _ _ _ _ _ _ _ _ _) hS 0 rfl rfl rfl hl.1 (Nat.le_of_ble_eq_true rfl) dX11_trial_16 (fun H locs hP hS => ?_)
  refine W.eq (g2 := F0 m 19 ls []) rfl ?_
  refine lv_aload_n X.1 X.2.1 dX11_trial_19 rfl (lv_at hl 0 rfl) ?_
  refine r_get (C := RX11) (T := TX11) (N := 15) (ci := 11) (v := .ref (a6 0)) X iw11 hP 0 rfl rfl 6 rfl mw_2_149 rfl dX11_trial_20 ?_
  refine lv_aload_n X.1 X.2.1 dX11_trial_23 rfl (lv_at hl 0 rfl) ?_
  refine r_get (C := RX11) (T := TX11) (N := 15) (ci := 11) (v := .ref (a3 0)) X iw11 hP 0 rfl rfl 2 rfl mw_2_145 rfl dX11_trial_24 ?_
  refine lv_iload_n X.1 X.2.1 dX11_trial_27 rfl (lv_at hl 1 rfl) ?_
  refine lv_iconst (v := 1) X.1 X.2.1 dX11_trial_28 (by decide) ?_
  obtain ⟨r_3, g7_3, g5_3, g3_3, g4_3, hc_3, h⟩ := bd5_el h
  refine call_Q (ws := (wPU tc a0 g0 q0_0 (a1 0) (a3 0) q0_3 q0_4 (a5 0) (a6 0) q0_7 q0_8 q0_9 q0_10 q0_13 ++ (wSt tc a1 g1 none (a2 0) ++ (wLg tc a2 g2 ++ (wSt tc a3 g3_2 none (a4 0) ++ (wLg tc a4 g4_2 ++ (wHd tc a5 g5 ++ (wCk tc a6 g6 (a5 0) (a7 0) ++ (wFa tc a7 g7))))))))) (ws' := (wPU tc a0 g0 q0_0 (a1 0) (a3 0) q0_3 q0_4 (a5 0) (a6 0) q0_7 q0_8 q0_9 q0_10 q0_13 ++ (wSt tc a1 g1 none (a2 0) ++ (wLg tc a2 g2 ++ (wSt tc a3 g3_3 none (a4 0) ++ (wLg tc a4 g4_3 ++ (wHd tc a5 g5_3 ++ (wCk tc a6 g6 (a5 0) (a7 0) ++ (wFa tc a7 g7_3))))))))) (wr := (wPU tc a0 g0 q0_0 (a1 0) (a3 0) q0_3 q0_4 (a5 0) (a6 0) q0_7 q0_8 q0_9 q0_10 q0_13 ++ (wSt tc a1 g1 none (a2 0) ++ (wLg tc a2 g2)))) [30, 31, 25, 26, 27, 28, 29, 13, 14, 15, 16, 17, 18, 19, 20, 21, 22, 23, 24] [0, 1, 2, 3, 4, 5, 6, 7, 8, 9, 10, 11, 12] [0, 1, 2, 3, 4, 5, 6, 7, 8, 9, 10, 11, 12, 20, 21, 22, 23, 24, 25, 26, 27, 28, 29, 30, 31, 15, 16, 17, 18, 19, 13, 14] (As := [.ref (a3 0), .int x1, .int 1]) (rest := []) X (c_X0_pass_n l dC dI sk sv tc a6 a7 a5 a3 a4 g6 g7 g5 g3_2 g4_2 x1 1 hc_3) mw_5_208 mw_5_209 mw_5_210 mw_1_8 mw_5_211 dc_X0_pass ⟨Nat.le_of_ble_eq_true rfl, Nat.le_of_ble_eq_true rfl⟩ rfl rfl ⟨Nat.le_of_ble_eq_true rfl, Nat.le_of_ble_eq_true rfl⟩ ⟨rfl, rfl, rfl, rfl, by decide, rfl, rfl⟩ hP (hDq _ _ _ _ _ _ _ _ _) hS 0 rfl rfl rfl hl.1 (Nat.le_of_ble_eq_true rfl) dX11_trial_29 (fun H locs hP hS => ?_)
  refine W.eq (g2 := F0 m 32 ls [.int r_3]) rfl ?_
  refine lv_pop X.1 X.2.1 dX11_trial_32 rfl ?_
  refine lv_iload_n X.1 X.2.1 dX11_trial_33 rfl (lv_at hl 2 rfl) ?_
  obtain ⟨J55, eJ55, h⟩ := jn_el h
  have HJ55 : ∀ (s0_J55 : Int32) (H : Heap) (locs : List Loc) (ls : Array Slot), J55 s0_J55 = some res → va_P (dC, dI) vwCl (wPU tc a0 g0 q0_0 (a1 0) (a3 0) q0_3 q0_4 (a5 0) (a6 0) q0_7 q0_8 q0_9 q0_10 q0_13 ++ (wSt tc a1 g1 none (a2 0) ++ (wLg tc a2 g2 ++ (wSt tc a3 g3_3 none (a4 0) ++ (wLg tc a4 g4_3 ++ (wHd tc a5 g5_3 ++ (wCk tc a6 g6 (a5 0) (a7 0) ++ (wFa tc a7 g7_3)))))))) H → va_S A s.heap H locs → lv_has ls 3 [] → W pr l e rm_X11_trial_n s m args below meth c H locs 1 6 Q (F0 m 55 ls [.int s0_J55]) := by
    intro s0_J55 H locs ls h hP hS hl
    rw [eJ55] at h
    exact retU_i (fun u q => (wPU tc a0 g0 q0_0 (a1 0) (a3 0) q0_3 q0_4 (a5 0) (a6 0) q0_7 q0_8 q0_9 q0_10 q0_13 ++ (wSt tc a1 g1 none (a2 0) ++ (wLg tc a2 g2 ++ (wSt tc a3 u.1 q (a4 0) ++ (wLg tc a4 u.2.1 ++ (wHd tc a5 u.2.2.1 ++ (wCk tc a6 g6 (a5 0) (a7 0) ++ (wFa tc a7 u.2.2.2))))))))) none (Option.some.inj h) X hQ hP hS (Nat.le_of_ble_eq_true rfl) (Nat.le_of_ble_eq_true rfl) dX11_trial_55
  refine lv_if_eq (tgt := 47) X.1 X.2.1 dX11_trial_34 (by decide) (fun hc => ?_) (fun hc => ?_)
  · have h := it_t hc h
    refine lv_aload_n X.1 X.2.1 dX11_trial_47 rfl (lv_at hl 0 rfl) ?_
    refine r_get (C := RX11) (T := TX11) (N := 15) (ci := 11) (v := .ref (a3 0)) X iw11 hP 0 rfl rfl 2 rfl mw_2_145 rfl dX11_trial_48 ?_
    refine lv_iconst (v := 1) X.1 X.2.1 dX11_trial_51 (by decide) ?_
    obtain ⟨r_4, hc_4, h⟩ := bd_el h
    refine call_Vsi (ws := (wPU tc a0 g0 q0_0 (a1 0) (a3 0) q0_3 q0_4 (a5 0) (a6 0) q0_7 q0_8 q0_9 q0_10 q0_13 ++ (wSt tc a1 g1 none (a2 0) ++ (wLg tc a2 g2 ++ (wSt tc a3 g3_3 none (a4 0) ++ (wLg tc a4 g4_3 ++ (wHd tc a5 g5_3 ++ (wCk tc a6 g6 (a5 0) (a7 0) ++ (wFa tc a7 g7_3))))))))) (ws' := (wPU tc a0 g0 q0_0 (a1 0) (a3 0) q0_3 q0_4 (a5 0) (a6 0) q0_7 q0_8 q0_9 q0_10 q0_13 ++ (wSt tc a1 g1 none (a2 0) ++ (wLg tc a2 g2 ++ (wSt tc a3 g3_3 none (a4 0) ++ (wLg tc a4 g4_3 ++ (wHd tc a5 g5_3 ++ (wCk tc a6 g6 (a5 0) (a7 0) ++ (wFa tc a7 g7_3))))))))) (wPU tc a0 g0 q0_0 (a1 0) (a3 0) q0_3 q0_4 (a5 0) (a6 0) q0_7 q0_8 q0_9 q0_10 q0_13 ++ (wSt tc a1 g1 none (a2 0) ++ (wLg tc a2 g2))) (wLg tc a4 g4_3 ++ (wHd tc a5 g5_3 ++ (wCk tc a6 g6 (a5 0) (a7 0) ++ (wFa tc a7 g7_3)))) (As := [.int 1]) (rest := []) X (c_X9_onAllPages l dC dI sk sv tc a3 none (a4 0) g3_3 1 hc_4) mw_7_77 mw_5_99 mw_5_100 mw_1_3 mw_5_101 dc_X9_onAllPages ⟨Nat.le_of_ble_eq_true rfl, Nat.le_of_ble_eq_true rfl⟩ rfl rfl ⟨Nat.le_of_ble_eq_true rfl, Nat.le_of_ble_eq_true rfl⟩ (by simp only [List.append_assoc, List.nil_append, List.append_nil]) (by simp only [List.append_assoc, List.nil_append, List.append_nil]) hP (hDq _ _ _ _ _ _ _ _ _) hS 0 rfl rfl rfl hl.1 (Nat.le_of_ble_eq_true rfl) dX11_trial_52 (fun H locs hP hS => ?_)
    exact HJ55 r_4 H locs ls h hP hS (lv_sub hl [] rfl)
  · have h := it_f hc h
    refine lv_aload_n X.1 X.2.1 dX11_trial_37 rfl (lv_at hl 0 rfl) ?_
    refine r_get (C := RX11) (T := TX11) (N := 15) (ci := 11) (v := .ref (a3 0)) X iw11 hP 0 rfl rfl 2 rfl mw_2_145 rfl dX11_trial_38 ?_
    obtain ⟨r_5, hc_5, h⟩ := bd_el h
    refine call_Vsi (ws := (wPU tc a0 g0 q0_0 (a1 0) (a3 0) q0_3 q0_4 (a5 0) (a6 0) q0_7 q0_8 q0_9 q0_10 q0_13 ++ (wSt tc a1 g1 none (a2 0) ++ (wLg tc a2 g2 ++ (wSt tc a3 g3_3 none (a4 0) ++ (wLg tc a4 g4_3 ++ (wHd tc a5 g5_3 ++ (wCk tc a6 g6 (a5 0) (a7 0) ++ (wFa tc a7 g7_3))))))))) (ws' := (wPU tc a0 g0 q0_0 (a1 0) (a3 0) q0_3 q0_4 (a5 0) (a6 0) q0_7 q0_8 q0_9 q0_10 q0_13 ++ (wSt tc a1 g1 none (a2 0) ++ (wLg tc a2 g2 ++ (wSt tc a3 g3_3 none (a4 0) ++ (wLg tc a4 g4_3 ++ (wHd tc a5 g5_3 ++ (wCk tc a6 g6 (a5 0) (a7 0) ++ (wFa tc a7 g7_3))))))))) (wPU tc a0 g0 q0_0 (a1 0) (a3 0) q0_3 q0_4 (a5 0) (a6 0) q0_7 q0_8 q0_9 q0_10 q0_13 ++ (wSt tc a1 g1 none (a2 0) ++ (wLg tc a2 g2))) (wLg tc a4 g4_3 ++ (wHd tc a5 g5_3 ++ (wCk tc a6 g6 (a5 0) (a7 0) ++ (wFa tc a7 g7_3)))) (As := []) (rest := []) X (c_X9_tiredTogether l dC dI sk sv tc a3 none (a4 0) g3_3 hc_5) mw_3_107 mw_3_108 mw_3_109 mw_1_3 mw_3_110 dc_X9_tiredTogether ⟨Nat.le_of_ble_eq_true rfl, Nat.le_of_ble_eq_true rfl⟩ rfl rfl ⟨Nat.le_of_ble_eq_true rfl, Nat.le_of_ble_eq_true rfl⟩ (by simp only [List.append_assoc, List.nil_append, List.append_nil]) (by simp only [List.append_assoc, List.nil_append, List.append_nil]) hP (hDq _ _ _ _ _ _ _ _ _) hS 0 rfl rfl rfl hl.1 (Nat.le_of_ble_eq_true rfl) dX11_trial_41 (fun H locs hP hS => ?_)
    refine lv_goto (tgt := 55) X.1 X.2.1 dX11_trial_44 (by decide) ?_
    exact HJ55 r_5 H locs ls h hP hS (lv_sub hl [] rfl)

def f_X11_trial_l (ln8 : Nat → Nat) (g0 : Pic) (g1 : Pic) (g2 : Pic) (g3 : Pic) (g4 : Pic) (g5 : Pic) (g6 : Pic) (g7 : Pic) (g8 : Pic) (x1 : Int32) (x2 : Int32) : Option ((Nat × (Pic × Pic × Pic × Pic × Pic)) ⊕ (Int32 × (Pic × Pic × Pic × Pic × Pic))) := lr (f_X11_needNumber g0 x1 0 60) (fun e => .inl (e.1, (g3, g4, g5, g7, g8))) (fun _ => bd2 (f_X9_copyFrom g3 g1 g4 g2) (fun g3_2 g4_2 => bd6 (f_X0_pass_l ln8 g6 g8 g7 g5 g3_2 g4_2 x1 1) (fun r_3 g8_3 g7_3 g5_3 g3_3 g4_3 => jn (fun (s0_J55 : Int32) => some (.inr (s0_J55, (g3_3, g4_3, g5_3, g7_3, g8_3)))) (fun J55 => (if x2 = 0 then bd (f_X9_onAllPages g3_3 1) (fun r_4 => J55 r_4) else bd (f_X9_tiredTogether g3_3) (fun r_5 => J55 r_5))))))
abbrev rm_X11_trial_l : Room := { frames := 7, cells := 1, slots := 6, locals := 168 }
set_option maxHeartbeats 4000000 in
set_option maxRecDepth 100000 in
theorem c_X11_trial_l (l : Launch) (hst : l.stackTraces = false) (dC : Nat → ClassId) (dI : Nat → Nat → Nat) (sk sv : Nat → Nat) (tc : Nat → ClassId) (ln8 : Nat → Nat) (a0 : Nat → Nat) (q0_0 : Nat) (q0_3 : Nat) (q0_4 : Nat) (q0_7 : Nat) (q0_8 : Nat) (q0_9 : Nat) (q0_10 : Nat) (q0_13 : Option Nat) (a1 : Nat → Nat) (a2 : Nat → Nat) (a3 : Nat → Nat) (q3_18 : Option Nat) (a4 : Nat → Nat) (a5 : Nat → Nat) (a6 : Nat → Nat) (a7 : Nat → Nat) (a8 : Nat → Nat) (g0 : Pic) (g1 : Pic) (g2 : Pic) (g3 : Pic) (g4 : Pic) (g5 : Pic) (g6 : Pic) (g7 : Pic) (g8 : Pic) (x1 : Int32) (x2 : Int32) {res : ((Nat × (Pic × Pic × Pic × Pic × Pic)) ⊕ (Int32 × (Pic × Pic × Pic × Pic × Pic)))} (h : f_X11_trial_l ln8 g0 g1 g2 g3 g4 g5 g6 g7 g8 x1 x2 = some res) : CU l (dC, dI) sk sv (TY tc) yX11_trial cX11_trial 3 (some .int) rm_X11_trial_l 1 6 [.ref (a0 0), .int x1, .int x2] (wPU tc a0 g0 q0_0 (a1 0) (a3 0) q0_3 q0_4 (a5 0) (a6 0) q0_7 q0_8 q0_9 q0_10 q0_13 ++ (wSt tc a1 g1 (some (a8 0)) (a2 0) ++ (wLg tc a2 g2 ++ (wSt tc a3 g3 q3_18 (a4 0) ++ (wLg tc a4 g4 ++ (wHd tc a5 g5 ++ (wCk tc a6 g6 (a5 0) (a7 0) ++ (wFa tc a7 g7 ++ (wLw tc a8 g8 ln8))))))))) (oI (fun u q => (wPU tc a0 g0 q0_0 (a1 0) (a3 0) q0_3 q0_4 (a5 0) (a6 0) q0_7 q0_8 q0_9 q0_10 q0_13 ++ (wSt tc a1 g1 (some (a8 0)) (a2 0) ++ (wLg tc a2 g2 ++ (wSt tc a3 u.1 q (a4 0) ++ (wLg tc a4 u.2.1 ++ (wHd tc a5 u.2.2.1 ++ (wCk tc a6 g6 (a5 0) (a7 0) ++ (wFa tc a7 u.2.2.2.1 ++ (wLw tc a8 u.2.2.2.2 ln8)))))))))) res) := by
  refine ofCU (by decide) (Nat.le_of_ble_eq_true rfl) ?_
  intro pr e s m args below meth c A Q ls H locs X hT hQ hD0 hP hS hl
  have hD : ∀ z0 z1 z2 z3 z4 z5 z6 z7 z8, va_D A (wPU tc a0 z0 q0_0 (a1 0) (a3 0) q0_3 q0_4 (a5 0) (a6 0) q0_7 q0_8 q0_9 q0_10 q0_13 ++ (wSt tc a1 z1 (some (a8 0)) (a2 0) ++ (wLg tc a2 z2 ++ (wSt tc a3 z3 q3_18 (a4 0) ++ (wLg tc a4 z4 ++ (wHd tc a5 z5 ++ (wCk tc a6 z6 (a5 0) (a7 0) ++ (wFa tc a7 z7 ++ (wLw tc a8 z8 ln8))))))))) := fun z0 z1 z2 z3 z4 z5 z6 z7 z8 => D_fst (ws := (wPU tc a0 g0 q0_0 (a1 0) (a3 0) q0_3 q0_4 (a5 0) (a6 0) q0_7 q0_8 q0_9 q0_10 q0_13 ++ (wSt tc a1 g1 (some (a8 0)) (a2 0) ++ (wLg tc a2 g2 ++ (wSt tc a3 g3 q3_18 (a4 0) ++ (wLg tc a4 g4 ++ (wHd tc a5 g5 ++ (wCk tc a6 g6 (a5 0) (a7 0) ++ (wFa tc a7 g7 ++ (wLw tc a8 g8 ln8)))))))))) rfl hD0
  have hDq : ∀ z0 z1 z2 z3 z4 z5 z6 z7 z8 (zq : Option Nat), va_D A (wPU tc a0 z0 q0_0 (a1 0) (a3 0) q0_3 q0_4 (a5 0) (a6 0) q0_7 q0_8 q0_9 q0_10 q0_13 ++ (wSt tc a1 z1 (some (a8 0)) (a2 0) ++ (wLg tc a2 z2 ++ (wSt tc a3 z3 zq (a4 0) ++ (wLg tc a4 z4 ++ (wHd tc a5 z5 ++ (wCk tc a6 z6 (a5 0) (a7 0) ++ (wFa tc a7 z7 ++ (wLw tc a8 z8 ln8))))))))) := fun z0 z1 z2 z3 z4 z5 z6 z7 z8 zq => D_fst (ws := (wPU tc a0 g0 q0_0 (a1 0) (a3 0) q0_3 q0_4 (a5 0) (a6 0) q0_7 q0_8 q0_9 q0_10 q0_13 ++ (wSt tc a1 g1 (some (a8 0)) (a2 0) ++ (wLg tc a2 g2 ++ (wSt tc a3 g3 q3_18 (a4 0) ++ (wLg tc a4 g4 ++ (wHd tc a5 g5 ++ (wCk tc a6 g6 (a5 0) (a7 0) ++ (wFa tc a7 g7 ++ (wLw tc a8 g8 ln8)))))))))) rfl hD0
  have hl : lv_has ls 3 [(0, .ref (a0 0)), (1, .int x1), (2, .int x2)] := hl
  unfold f_X11_trial_l at h
  refine lv_aload_n X.1 X.2.1 dX11_trial_0 rfl (lv_at hl 0 rfl) ?_
  refine lv_iload_n X.1 X.2.1 dX11_trial_1 rfl (lv_at hl 1 rfl) ?_
  refine lv_iconst (v := 0) X.1 X.2.1 dX11_trial_2 (by decide) ?_
  refine lv_bipush (v := 60) X.1 X.2.1 dX11_trial_3 (by decide) ?_
  obtain ⟨ex_1, hc_1, h1_1, h2_1⟩ := lr_el h
  rcases ex_1 with e_1 | r_1
  · exact callU_t (ws := (wPU tc a0 g0 q0_0 (a1 0) (a3 0) q0_3 q0_4 (a5 0) (a6 0) q0_7 q0_8 q0_9 q0_10 q0_13 ++ (wSt tc a1 g1 (some (a8 0)) (a2 0) ++ (wLg tc a2 g2 ++ (wSt tc a3 g3 q3_18 (a4 0) ++ (wLg tc a4 g4 ++ (wHd tc a5 g5 ++ (wCk tc a6 g6 (a5 0) (a7 0) ++ (wFa tc a7 g7 ++ (wLw tc a8 g8 ln8)))))))))) (ws' := (wPU tc a0 g0 q0_0 (a1 0) (a3 0) q0_3 q0_4 (a5 0) (a6 0) q0_7 q0_8 q0_9 q0_10 q0_13 ++ (wSt tc a1 g1 (some (a8 0)) (a2 0) ++ (wLg tc a2 g2 ++ (wSt tc a3 g3 q3_18 (a4 0) ++ (wLg tc a4 g4 ++ (wHd tc a5 g5 ++ (wCk tc a6 g6 (a5 0) (a7 0) ++ (wFa tc a7 g7 ++ (wLw tc a8 g8 ln8)))))))))) (wr := (wSt tc a1 g1 (some (a8 0)) (a2 0) ++ (wLg tc a2 g2 ++ (wSt tc a3 g3 q3_18 (a4 0) ++ (wLg tc a4 g4 ++ (wHd tc a5 g5 ++ (wCk tc a6 g6 (a5 0) (a7 0) ++ (wFa tc a7 g7 ++ (wLw tc a8 g8 ln8))))))))) [0] [1, 2, 3, 4, 5, 6, 7, 8, 9, 10, 11, 12, 13, 14, 15, 16, 17, 18, 19, 20, 21, 22, 23, 24, 25, 26, 27, 28, 29, 30, 31, 32, 33, 34, 35, 36, 37] [37, 0, 1, 2, 3, 4, 5, 6, 7, 8, 9, 10, 11, 12, 13, 14, 15, 16, 17, 18, 19, 20, 21, 22, 23, 24, 25, 26, 27, 28, 29, 30, 31, 32, 33, 34, 35, 36] (As := [.int x1, .int 0, .int 60]) (rest := []) q3_18 rfl (oUi (fun u q => (wPU tc a0 g0 q0_0 (a1 0) (a3 0) q0_3 q0_4 (a5 0) (a6 0) q0_7 q0_8 q0_9 q0_10 q0_13 ++ (wSt tc a1 g1 (some (a8 0)) (a2 0) ++ (wLg tc a2 g2 ++ (wSt tc a3 u.1 q (a4 0) ++ (wLg tc a4 u.2.1 ++ (wHd tc a5 u.2.2.1 ++ (wCk tc a6 g6 (a5 0) (a7 0) ++ (wFa tc a7 u.2.2.2.1 ++ (wLw tc a8 u.2.2.2.2 ln8)))))))))) (h1_1 _ rfl)) X hT hQ (c_X11_needNumber l hst dC dI sk sv tc a0 q0_0 (a1 0) (a3 0) q0_3 q0_4 (a5 0) (a6 0) q0_7 q0_8 q0_9 q0_10 q0_13 g0 x1 0 60 hc_1) mw_5_199 mw_5_201 mp_1_8 mw_1_1 mw_5_202 dc_X11_needNumber ⟨Nat.le_of_ble_eq_true rfl, Nat.le_of_ble_eq_true rfl⟩ rfl rfl ⟨Nat.le_of_ble_eq_true rfl, Nat.le_of_ble_eq_true rfl⟩ ⟨rfl, rfl, rfl, rfl, by decide, rfl, rfl⟩ hP (hDq _ _ _ _ _ _ _ _ _ _) hS 0 rfl rfl rfl hl.1 (Nat.le_of_ble_eq_true rfl) dX11_trial_5 (Nat.le_of_ble_eq_true rfl) (Nat.le_of_ble_eq_true rfl)
  have h := h2_1 _ rfl
  refine callU_n (ws := (wPU tc a0 g0 q0_0 (a1 0) (a3 0) q0_3 q0_4 (a5 0) (a6 0) q0_7 q0_8 q0_9 q0_10 q0_13 ++ (wSt tc a1 g1 (some (a8 0)) (a2 0) ++ (wLg tc a2 g2 ++ (wSt tc a3 g3 q3_18 (a4 0) ++ (wLg tc a4 g4 ++ (wHd tc a5 g5 ++ (wCk tc a6 g6 (a5 0) (a7 0) ++ (wFa tc a7 g7 ++ (wLw tc a8 g8 ln8)))))))))) (ws' := (wPU tc a0 g0 q0_0 (a1 0) (a3 0) q0_3 q0_4 (a5 0) (a6 0) q0_7 q0_8 q0_9 q0_10 q0_13 ++ (wSt tc a1 g1 (some (a8 0)) (a2 0) ++ (wLg tc a2 g2 ++ (wSt tc a3 g3 q3_18 (a4 0) ++ (wLg tc a4 g4 ++ (wHd tc a5 g5 ++ (wCk tc a6 g6 (a5 0) (a7 0) ++ (wFa tc a7 g7 ++ (wLw tc a8 g8 ln8)))))))))) (wr := (wSt tc a1 g1 (some (a8 0)) (a2 0) ++ (wLg tc a2 g2 ++ (wSt tc a3 g3 q3_18 (a4 0) ++ (wLg tc a4 g4 ++ (wHd tc a5 g5 ++ (wCk tc a6 g6 (a5 0) (a7 0) ++ (wFa tc a7 g7 ++ (wLw tc a8 g8 ln8))))))))) [0] [1, 2, 3, 4, 5, 6, 7, 8, 9, 10, 11, 12, 13, 14, 15, 16, 17, 18, 19, 20, 21, 22, 23, 24, 25, 26, 27, 28, 29, 30, 31, 32, 33, 34, 35, 36, 37] [37, 0, 1, 2, 3, 4, 5, 6, 7, 8, 9, 10, 11, 12, 13, 14, 15, 16, 17, 18, 19, 20, 21, 22, 23, 24, 25, 26, 27, 28, 29, 30, 31, 32, 33, 34, 35, 36] (As := [.int x1, .int 0, .int 60]) (rest := []) X (c_X11_needNumber l hst dC dI sk sv tc a0 q0_0 (a1 0) (a3 0) q0_3 q0_4 (a5 0) (a6 0) q0_7 q0_8 q0_9 q0_10 q0_13 g0 x1 0 60 hc_1) mw_5_199 mw_5_201 mp_1_8 mw_1_1 mw_5_202 dc_X11_needNumber ⟨Nat.le_of_ble_eq_true rfl, Nat.le_of_ble_eq_true rfl⟩ rfl rfl ⟨Nat.le_of_ble_eq_true rfl, Nat.le_of_ble_eq_true rfl⟩ ⟨rfl, rfl, rfl, rfl, by decide, rfl, rfl⟩ hP (hDq _ _ _ _ _ _ _ _ _ _) hS 0 rfl rfl rfl hl.1 (Nat.le_of_ble_eq_true rfl) dX11_trial_5 (fun H locs hP hS => ?_)
  refine W.eq (g2 := F0 m 8 ls []) rfl ?_
  refine lv_aload_n X.1 X.2.1 dX11_trial_8 rfl (lv_at hl 0 rfl) ?_
  refine r_get (C := RX11) (T := TX11) (N := 15) (ci := 11) (v := .ref (a3 0)) X iw11 hP 0 rfl rfl 2 rfl mw_2_145 rfl dX11_trial_9 ?_
  refine lv_aload_n X.1 X.2.1 dX11_trial_12 rfl (lv_at hl 0 rfl) ?_
  refine r_get (C := RX11) (T := TX11) (N := 15) (ci := 11) (v := .ref (a1 0)) X iw11 hP 0 rfl rfl 1 rfl mw_2_144 rfl dX11_trial_13 ?_
  obtain ⟨g3_2, g4_2, hc_2, h⟩ := bd2_el h
  refine call_Q (ws := (wPU tc a0 g0 q0_0 (a1 0) (a3 0) q0_3 q0_4 (a5 0) (a6 0) q0_7 q0_8 q0_9 q0_10 q0_13 ++ (wSt tc a1 g1 (some (a8 0)) (a2 0) ++ (wLg tc a2 g2 ++ (wSt tc a3 g3 q3_18 (a4 0) ++ (wLg tc a4 g4 ++ (wHd tc a5 g5 ++ (wCk tc a6 g6 (a5 0) (a7 0) ++ (wFa tc a7 g7 ++ (wLw tc a8 g8 ln8)))))))))) (ws' := (wPU tc a0 g0 q0_0 (a1 0) (a3 0) q0_3 q0_4 (a5 0) (a6 0) q0_7 q0_8 q0_9 q0_10 q0_13 ++ (wSt tc a1 g1 (some (a8 0)) (a2 0) ++ (wLg tc a2 g2 ++ (wSt tc a3 g3_2 (some (a8 0)) (a4 0) ++ (wLg tc a4 g4_2 ++ (wHd tc a5 g5 ++ (wCk tc a6 g6 (a5 0) (a7 0) ++ (wFa tc a7 g7 ++ (wLw tc a8 g8 ln8)))))))))) (wr := (wPU tc a0 g0 q0_0 (a1 0) (a3 0) q0_3 q0_4 (a5 0) (a6 0) q0_7 q0_8 q0_9 q0_10 q0_13 ++ (wHd tc a5 g5 ++ (wCk tc a6 g6 (a5 0) (a7 0) ++ (wFa tc a7 g7 ++ (wLw tc a8 g8 ln8)))))) [13, 14, 15, 16, 17, 18, 19, 20, 21, 22, 1, 2, 3, 4, 5, 6, 7, 8, 9, 10, 23, 24, 11, 12] [0, 25, 26, 27, 28, 29, 30, 31, 32, 33, 34, 35, 36, 37] [0, 24, 25, 26, 27, 28, 29, 30, 31, 32, 33, 36, 37, 14, 15, 16, 17, 18, 19, 20, 21, 22, 23, 34, 35, 1, 2, 3, 4, 5, 6, 7, 8, 9, 10, 11, 12, 13] (As := [.ref (a1 0)]) (rest := []) X (c_X9_copyFrom l dC dI sk sv tc a3 q3_18 a1 (some (a8 0)) a4 a2 g3 g1 g4 g2 hc_2) mw_3_79 mw_3_80 mw_3_81 mw_1_3 mw_3_82 dc_X9_copyFrom ⟨Nat.le_of_ble_eq_true rfl, Nat.le_of_ble_eq_true rfl⟩ rfl rfl ⟨Nat.le_of_ble_eq_true rfl, Nat.le_of_ble_eq_true rfl⟩ ⟨rfl, rfl, rfl, rfl, by decide, rfl, rfl⟩ hP (hDq _ _ _ _ _ _ _ _ _ _) hS 0 rfl rfl rfl hl.1 (Nat.le_of_ble_eq_true rfl) dX11_trial_16 (fun H locs hP hS => ?_)
  refine W.eq (g2 := F0 m 19 ls []) rfl ?_
  refine lv_aload_n X.1 X.2.1 dX11_trial_19 rfl (lv_at hl 0 rfl) ?_
  refine r_get (C := RX11) (T := TX11) (N := 15) (ci := 11) (v := .ref (a6 0)) X iw11 hP 0 rfl rfl 6 rfl mw_2_149 rfl dX11_trial_20 ?_
  refine lv_aload_n X.1 X.2.1 dX11_trial_23 rfl (lv_at hl 0 rfl) ?_
  refine r_get (C := RX11) (T := TX11) (N := 15) (ci := 11) (v := .ref (a3 0)) X iw11 hP 0 rfl rfl 2 rfl mw_2_145 rfl dX11_trial_24 ?_
  refine lv_iload_n X.1 X.2.1 dX11_trial_27 rfl (lv_at hl 1 rfl) ?_
  refine lv_iconst (v := 1) X.1 X.2.1 dX11_trial_28 (by decide) ?_
  obtain ⟨r_3, g8_3, g7_3, g5_3, g3_3, g4_3, hc_3, h⟩ := bd6_el h
  refine call_Q (ws := (wPU tc a0 g0 q0_0 (a1 0) (a3 0) q0_3 q0_4 (a5 0) (a6 0) q0_7 q0_8 q0_9 q0_10 q0_13 ++ (wSt tc a1 g1 (some (a8 0)) (a2 0) ++ (wLg tc a2 g2 ++ (wSt tc a3 g3_2 (some (a8 0)) (a4 0) ++ (wLg tc a4 g4_2 ++ (wHd tc a5 g5 ++ (wCk tc a6 g6 (a5 0) (a7 0) ++ (wFa tc a7 g7 ++ (wLw tc a8 g8 ln8)))))))))) (ws' := (wPU tc a0 g0 q0_0 (a1 0) (a3 0) q0_3 q0_4 (a5 0) (a6 0) q0_7 q0_8 q0_9 q0_10 q0_13 ++ (wSt tc a1 g1 (some (a8 0)) (a2 0) ++ (wLg tc a2 g2 ++ (wSt tc a3 g3_3 (some (a8 0)) (a4 0) ++ (wLg tc a4 g4_3 ++ (wHd tc a5 g5_3 ++ (wCk tc a6 g6 (a5 0) (a7 0) ++ (wFa tc a7 g7_3 ++ (wLw tc a8 g8_3 ln8)))))))))) (wr := (wPU tc a0 g0 q0_0 (a1 0) (a3 0) q0_3 q0_4 (a5 0) (a6 0) q0_7 q0_8 q0_9 q0_10 q0_13 ++ (wSt tc a1 g1 (some (a8 0)) (a2 0) ++ (wLg tc a2 g2)))) [30, 32, 33, 34, 35, 36, 37, 31, 25, 26, 27, 28, 29, 13, 14, 15, 16, 17, 18, 19, 20, 21, 22, 23, 24] [0, 1, 2, 3, 4, 5, 6, 7, 8, 9, 10, 11, 12] [0, 1, 2, 3, 4, 5, 6, 7, 8, 9, 10, 11, 12, 26, 27, 28, 29, 30, 31, 32, 33, 34, 35, 36, 37, 21, 22, 23, 24, 25, 13, 20, 14, 15, 16, 17, 18, 19] (As := [.ref (a3 0), .int x1, .int 1]) (rest := []) X (c_X0_pass_l l dC dI sk sv tc ln8 a6 a8 a7 a5 a3 a4 g6 g8 g7 g5 g3_2 g4_2 x1 1 hc_3) mw_5_208 mw_5_209 mw_5_210 mw_1_8 mw_5_211 dc_X0_pass ⟨Nat.le_of_ble_eq_true rfl, Nat.le_of_ble_eq_true rfl⟩ rfl rfl ⟨Nat.le_of_ble_eq_true rfl, Nat.le_of_ble_eq_true rfl⟩ ⟨rfl, rfl, rfl, rfl, by decide, rfl, rfl⟩ hP (hDq _ _ _ _ _ _ _ _ _ _) hS 0 rfl rfl rfl hl.1 (Nat.le_of_ble_eq_true rfl) dX11_trial_29 (fun H locs hP hS => ?_)
  refine W.eq (g2 := F0 m 32 ls [.int r_3]) rfl ?_
  refine lv_pop X.1 X.2.1 dX11_trial_32 rfl ?_
  refine lv_iload_n X.1 X.2.1 dX11_trial_33 rfl (lv_at hl 2 rfl) ?_
  obtain ⟨J55, eJ55, h⟩ := jn_el h
  have HJ55 : ∀ (s0_J55 : Int32) (H : Heap) (locs : List Loc) (ls : Array Slot), J55 s0_J55 = some res → va_P (dC, dI) vwCl (wPU tc a0 g0 q0_0 (a1 0) (a3 0) q0_3 q0_4 (a5 0) (a6 0) q0_7 q0_8 q0_9 q0_10 q0_13 ++ (wSt tc a1 g1 (some (a8 0)) (a2 0) ++ (wLg tc a2 g2 ++ (wSt tc a3 g3_3 (some (a8 0)) (a4 0) ++ (wLg tc a4 g4_3 ++ (wHd tc a5 g5_3 ++ (wCk tc a6 g6 (a5 0) (a7 0) ++ (wFa tc a7 g7_3 ++ (wLw tc a8 g8_3 ln8))))))))) H → va_S A s.heap H locs → lv_has ls 3 [] → W pr l e rm_X11_trial_l s m args below meth c H locs 1 6 Q (F0 m 55 ls [.int s0_J55]) := by
    intro s0_J55 H locs ls h hP hS hl
    rw [eJ55] at h
    exact retU_i (fun u q => (wPU tc a0 g0 q0_0 (a1 0) (a3 0) q0_3 q0_4 (a5 0) (a6 0) q0_7 q0_8 q0_9 q0_10 q0_13 ++ (wSt tc a1 g1 (some (a8 0)) (a2 0) ++ (wLg tc a2 g2 ++ (wSt tc a3 u.1 q (a4 0) ++ (wLg tc a4 u.2.1 ++ (wHd tc a5 u.2.2.1 ++ (wCk tc a6 g6 (a5 0) (a7 0) ++ (wFa tc a7 u.2.2.2.1 ++ (wLw tc a8 u.2.2.2.2 ln8)))))))))) (some (a8 0)) (Option.some.inj h) X hQ hP hS (Nat.le_of_ble_eq_true rfl) (Nat.le_of_ble_eq_true rfl) dX11_trial_55
  refine lv_if_eq (tgt := 47) X.1 X.2.1 dX11_trial_34 (by decide) (fun hc => ?_) (fun hc => ?_)
  · have h := it_t hc h
    refine lv_aload_n X.1 X.2.1 dX11_trial_47 rfl (lv_at hl 0 rfl) ?_
    refine r_get (C := RX11) (T := TX11) (N := 15) (ci := 11) (v := .ref (a3 0)) X iw11 hP 0 rfl rfl 2 rfl mw_2_145 rfl dX11_trial_48 ?_
    refine lv_iconst (v := 1) X.1 X.2.1 dX11_trial_51 (by decide) ?_
    obtain ⟨r_4, hc_4, h⟩ := bd_el h
    refine call_Vsi (ws := (wPU tc a0 g0 q0_0 (a1 0) (a3 0) q0_3 q0_4 (a5 0) (a6 0) q0_7 q0_8 q0_9 q0_10 q0_13 ++ (wSt tc a1 g1 (some (a8 0)) (a2 0) ++ (wLg tc a2 g2 ++ (wSt tc a3 g3_3 (some (a8 0)) (a4 0) ++ (wLg tc a4 g4_3 ++ (wHd tc a5 g5_3 ++ (wCk tc a6 g6 (a5 0) (a7 0) ++ (wFa tc a7 g7_3 ++ (wLw tc a8 g8_3 ln8)))))))))) (ws' := (wPU tc a0 g0 q0_0 (a1 0) (a3 0) q0_3 q0_4 (a5 0) (a6 0) q0_7 q0_8 q0_9 q0_10 q0_13 ++ (wSt tc a1 g1 (some (a8 0)) (a2 0) ++ (wLg tc a2 g2 ++ (wSt tc a3 g3_3 (some (a8 0)) (a4 0) ++ (wLg tc a4 g4_3 ++ (wHd tc a5 g5_3 ++ (wCk tc a6 g6 (a5 0) (a7 0) ++ (wFa tc a7 g7_3 ++ (wLw tc a8 g8_3 ln8)))))))))) (wPU tc a0 g0 q0_0 (a1 0) (a3 0) q0_3 q0_4 (a5 0) (a6 0) q0_7 q0_8 q0_9 q0_10 q0_13 ++ (wSt tc a1 g1 (some (a8 0)) (a2 0) ++ (wLg tc a2 g2))) (wLg tc a4 g4_3 ++ (wHd tc a5 g5_3 ++ (wCk tc a6 g6 (a5 0) (a7 0) ++ (wFa tc a7 g7_3 ++ (wLw tc a8 g8_3 ln8))))) (As := [.int 1]) (rest := []) X (c_X9_onAllPages l dC dI sk sv tc a3 (some (a8 0)) (a4 0) g3_3 1 hc_4) mw_7_77 mw_5_99 mw_5_100 mw_1_3 mw_5_101 dc_X9_onAllPages ⟨Nat.le_of_ble_eq_true rfl, Nat.le_of_ble_eq_true rfl⟩ rfl rfl ⟨Nat.le_of_ble_eq_true rfl, Nat.le_of_ble_eq_true rfl⟩ (by simp only [List.append_assoc, List.nil_append, List.append_nil]) (by simp only [List.append_assoc, List.nil_append, List.append_nil]) hP (hDq _ _ _ _ _ _ _ _ _ _) hS 0 rfl rfl rfl hl.1 (Nat.le_of_ble_eq_true rfl) dX11_trial_52 (fun H locs hP hS => ?_)
    exact HJ55 r_4 H locs ls h hP hS (lv_sub hl [] rfl)
  · have h := it_f hc h
    refine lv_aload_n X.1 X.2.1 dX11_trial_37 rfl (lv_at hl 0 rfl) ?_
    refine r_get (C := RX11) (T := TX11) (N := 15) (ci := 11) (v := .ref (a3 0)) X iw11 hP 0 rfl rfl 2 rfl mw_2_145 rfl dX11_trial_38 ?_
    obtain ⟨r_5, hc_5, h⟩ := bd_el h
    refine call_Vsi (ws := (wPU tc a0 g0 q0_0 (a1 0) (a3 0) q0_3 q0_4 (a5 0) (a6 0) q0_7 q0_8 q0_9 q0_10 q0_13 ++ (wSt tc a1 g1 (some (a8 0)) (a2 0) ++ (wLg tc a2 g2 ++ (wSt tc a3 g3_3 (some (a8 0)) (a4 0) ++ (wLg tc a4 g4_3 ++ (wHd tc a5 g5_3 ++ (wCk tc a6 g6 (a5 0) (a7 0) ++ (wFa tc a7 g7_3 ++ (wLw tc a8 g8_3 ln8)))))))))) (ws' := (wPU tc a0 g0 q0_0 (a1 0) (a3 0) q0_3 q0_4 (a5 0) (a6 0) q0_7 q0_8 q0_9 q0_10 q0_13 ++ (wSt tc a1 g1 (some (a8 0)) (a2 0) ++ (wLg tc a2 g2 ++ (wSt tc a3 g3_3 (some (a8 0)) (a4 0) ++ (wLg tc a4 g4_3 ++ (wHd tc a5 g5_3 ++ (wCk tc a6 g6 (a5 0) (a7 0) ++ (wFa tc a7 g7_3 ++ (wLw tc a8 g8_3 ln8)))))))))) (wPU tc a0 g0 q0_0 (a1 0) (a3 0) q0_3 q0_4 (a5 0) (a6 0) q0_7 q0_8 q0_9 q0_10 q0_13 ++ (wSt tc a1 g1 (some (a8 0)) (a2 0) ++ (wLg tc a2 g2))) (wLg tc a4 g4_3 ++ (wHd tc a5 g5_3 ++ (wCk tc a6 g6 (a5 0) (a7 0) ++ (wFa tc a7 g7_3 ++ (wLw tc a8 g8_3 ln8))))) (As := []) (rest := []) X (c_X9_tiredTogether l dC dI sk sv tc a3 (some (a8 0)) (a4 0) g3_3 hc_5) mw_3_107 mw_3_108 mw_3_109 mw_1_3 mw_3_110 dc_X9_tiredTogether ⟨Nat.le_of_ble_eq_true rfl, Nat.le_of_ble_eq_true rfl⟩ rfl rfl ⟨Nat.le_of_ble_eq_true rfl, Nat.le_of_ble_eq_true rfl⟩ (by simp only [List.append_assoc, List.nil_append, List.append_nil]) (by simp only [List.append_assoc, List.nil_append, List.append_nil]) hP (hDq _ _ _ _ _ _ _ _ _ _) hS 0 rfl rfl rfl hl.1 (Nat.le_of_ble_eq_true rfl) dX11_trial_41 (fun H locs hP hS => ?_)
    refine lv_goto (tgt := 55) X.1 X.2.1 dX11_trial_44 (by decide) ?_
    exact HJ55 r_5 H locs ls h hP hS (lv_sub hl [] rfl)

def f_X11_span_n_L17 (x1 : Int32) (x2 : Int32) (g0 : Pic) (g1 : Pic) (g2 : Pic) (g6 : Pic) (n : Nat) (a : Int32 × Int32 × Int32 × Pic × Pic × Pic × Pic) : Option (Int32 × Int32 × Pic × Pic × Pic × Pic) := lp (fun (rec : Int32 × Int32 × Int32 × Pic × Pic × Pic × Pic → Option (Int32 × Int32 × Pic × Pic × Pic × Pic)) (a : Int32 × Int32 × Int32 × Pic × Pic × Pic × Pic) => match a with | (x3, x4, x5, g3, g4, g5, g7) => (if 6 < x5 then some (x3, x4, g3, g4, g5, g7) else bd2 (f_X9_copyFrom g3 g1 g4 g2) (fun g3_2 g4_2 => nm (pu g3_2 16 0 x5) (fun g3_3 => bd5 (f_X0_pass_n g6 g7 g5 g3_3 g4_2 x1 1) (fun r_4 g7_4 g5_4 g3_4 g4_4 => bd (f_X9_onAllPages g3_4 2) (fun r_5 => nm ((if r_5 < x3 then r_5 else x3)) (fun x3_6 => nm ((if x4 < r_5 then r_5 else x4)) (fun x4_7 => nm (x5 + 1) (fun x5_8 => rec (x3_6, x4_7, x5_8, g3_4, g4_4, g5_4, g7_4)))))))))) n a
def f_X11_span_n (g0 : Pic) (g1 : Pic) (g2 : Pic) (g3 : Pic) (g4 : Pic) (g5 : Pic) (g6 : Pic) (g7 : Pic) (x1 : Int32) (x2 : Int32) : Option ((Nat × (Pic × Pic × Pic × Pic)) ⊕ (Int32 × (Pic × Pic × Pic × Pic))) := lr (f_X11_needNumber g0 x1 0 60) (fun e => .inl (e.1, (g3, g4, g5, g7))) (fun _ => bd (f_X11_span_n_L17 x1 x2 g0 g1 g2 g6 fu (100, 0, 1, g3, g4, g5, g7)) (fun (x3_9, x4_9, g3_9, g4_9, g5_9, g7_9) => jn (fun (s0_J100 : Int32) => some (.inr (s0_J100, (g3_9, g4_9, g5_9, g7_9)))) (fun J100 => (if x2 = 0 then J100 x3_9 else J100 x4_9))))
abbrev rm_X11_span_n : Room := { frames := 7, cells := 1, slots := 6, locals := 143 }
set_option maxHeartbeats 4000000 in
set_option maxRecDepth 100000 in
theorem c_X11_span_n (l : Launch) (hst : l.stackTraces = false) (dC : Nat → ClassId) (dI : Nat → Nat → Nat) (sk sv : Nat → Nat) (tc : Nat → ClassId) (a0 : Nat → Nat) (q0_0 : Nat) (q0_3 : Nat) (q0_4 : Nat) (q0_7 : Nat) (q0_8 : Nat) (q0_9 : Nat) (q0_10 : Nat) (q0_13 : Option Nat) (a1 : Nat → Nat) (a2 : Nat → Nat) (a3 : Nat → Nat) (q3_18 : Option Nat) (a4 : Nat → Nat) (a5 : Nat → Nat) (a6 : Nat → Nat) (a7 : Nat → Nat) (g0 : Pic) (g1 : Pic) (g2 : Pic) (g3 : Pic) (g4 : Pic) (g5 : Pic) (g6 : Pic) (g7 : Pic) (x1 : Int32) (x2 : Int32) {res : ((Nat × (Pic × Pic × Pic × Pic)) ⊕ (Int32 × (Pic × Pic × Pic × Pic)))} (h : f_X11_span_n g0 g1 g2 g3 g4 g5 g6 g7 x1 x2 = some res) : CU l (dC, dI) sk sv (TY tc) yX11_span cX11_span 7 (some .int) rm_X11_span_n 1 6 [.ref (a0 0), .int x1, .int x2] (wPU tc a0 g0 q0_0 (a1 0) (a3 0) q0_3 q0_4 (a5 0) (a6 0) q0_7 q0_8 q0_9 q0_10 q0_13 ++ (wSt tc a1 g1 none (a2 0) ++ (wLg tc a2 g2 ++ (wSt tc a3 g3 q3_18 (a4 0) ++ (wLg tc a4 g4 ++ (wHd tc a5 g5 ++ (wCk tc a6 g6 (a5 0) (a7 0) ++ (wFa tc a7 g7)))))))) (oI (fun u q => (wPU tc a0 g0 q0_0 (a1 0) (a3 0) q0_3 q0_4 (a5 0) (a6 0) q0_7 q0_8 q0_9 q0_10 q0_13 ++ (wSt tc a1 g1 none (a2 0) ++ (wLg tc a2 g2 ++ (wSt tc a3 u.1 q (a4 0) ++ (wLg tc a4 u.2.1 ++ (wHd tc a5 u.2.2.1 ++ (wCk tc a6 g6 (a5 0) (a7 0) ++ (wFa tc a7 u.2.2.2))))))))) res) := by
  refine ofCU (by decide) (Nat.le_of_ble_eq_true rfl) ?_
  intro pr e s m args below meth c A Q ls H locs X hT hQ hD0 hP hS hl
  have hD : ∀ z0 z1 z2 z3 z4 z5 z6 z7, va_D A (wPU tc a0 z0 q0_0 (a1 0) (a3 0) q0_3 q0_4 (a5 0) (a6 0) q0_7 q0_8 q0_9 q0_10 q0_13 ++ (wSt tc a1 z1 none (a2 0) ++ (wLg tc a2 z2 ++ (wSt tc a3 z3 q3_18 (a4 0) ++ (wLg tc a4 z4 ++ (wHd tc a5 z5 ++ (wCk tc a6 z6 (a5 0) (a7 0) ++ (wFa tc a7 z7)))))))) := fun z0 z1 z2 z3 z4 z5 z6 z7 => D_fst (ws := (wPU tc a0 g0 q0_0 (a1 0) (a3 0) q0_3 q0_4 (a5 0) (a6 0) q0_7 q0_8 q0_9 q0_10 q0_13 ++ (wSt tc a1 g1 none (a2 0) ++ (wLg tc a2 g2 ++ (wSt tc a3 g3 q3_18 (a4 0) ++ (wLg tc a4 g4 ++ (wHd tc a5 g5 ++ (wCk tc a6 g6 (a5 0) (a7 0) ++ (wFa tc a7 g7))))))))) rfl hD0
  have hDq : ∀ z0 z1 z2 z3 z4 z5 z6 z7 (zq : Option Nat), va_D A (wPU tc a0 z0 q0_0 (a1 0) (a3 0) q0_3 q0_4 (a5 0) (a6 0) q0_7 q0_8 q0_9 q0_10 q0_13 ++ (wSt tc a1 z1 none (a2 0) ++ (wLg tc a2 z2 ++ (wSt tc a3 z3 zq (a4 0) ++ (wLg tc a4 z4 ++ (wHd tc a5 z5 ++ (wCk tc a6 z6 (a5 0) (a7 0) ++ (wFa tc a7 z7)))))))) := fun z0 z1 z2 z3 z4 z5 z6 z7 zq => D_fst (ws := (wPU tc a0 g0 q0_0 (a1 0) (a3 0) q0_3 q0_4 (a5 0) (a6 0) q0_7 q0_8 q0_9 q0_10 q0_13 ++ (wSt tc a1 g1 none (a2 0) ++ (wLg tc a2 g2 ++ (wSt tc a3 g3 q3_18 (a4 0) ++ (wLg tc a4 g4 ++ (wHd tc a5 g5 ++ (wCk tc a6 g6 (a5 0) (a7 0) ++ (wFa tc a7 g7))))))))) rfl hD0
  have hl : lv_has ls 7 [(0, .ref (a0 0)), (1, .int x1), (2, .int x2)] := hl
  have HL17 : ∀ (x1 : Int32) (x2 : Int32) (n : Nat) (x3 : Int32) (x4 : Int32) (x5 : Int32) (g3 : Pic) (g4 : Pic) (g5 : Pic) (g7 : Pic) (q3_18 : Option Nat) (ex : (Int32 × Int32 × Pic × Pic × Pic × Pic)), f_X11_span_n_L17 x1 x2 g0 g1 g2 g6 n (x3, x4, x5, g3, g4, g5, g7) = some ex → ∀ (H : Heap) (locs : List Loc) (ls : Array Slot), va_P (dC, dI) vwCl (wPU tc a0 g0 q0_0 (a1 0) (a3 0) q0_3 q0_4 (a5 0) (a6 0) q0_7 q0_8 q0_9 q0_10 q0_13 ++ (wSt tc a1 g1 none (a2 0) ++ (wLg tc a2 g2 ++ (wSt tc a3 g3 q3_18 (a4 0) ++ (wLg tc a4 g4 ++ (wHd tc a5 g5 ++ (wCk tc a6 g6 (a5 0) (a7 0) ++ (wFa tc a7 g7)))))))) H → va_S A s.heap H locs → lv_has ls 7 [(0, .ref (a0 0)), (1, .int x1), (2, .int x2), (3, .int x3), (4, .int x4), (5, .int x5)] → (∀ (y3 : Int32) (y4 : Int32) (k3 : Pic) (k4 : Pic) (k5 : Pic) (k7 : Pic) (kq3_18 : Option Nat), (y3, y4, k3, k4, k5, k7) = ex → ∀ (H : Heap) (locs : List Loc) (ls : Array Slot), va_P (dC, dI) vwCl (wPU tc a0 g0 q0_0 (a1 0) (a3 0) q0_3 q0_4 (a5 0) (a6 0) q0_7 q0_8 q0_9 q0_10 q0_13 ++ (wSt tc a1 g1 none (a2 0) ++ (wLg tc a2 g2 ++ (wSt tc a3 k3 kq3_18 (a4 0) ++ (wLg tc a4 k4 ++ (wHd tc a5 k5 ++ (wCk tc a6 g6 (a5 0) (a7 0) ++ (wFa tc a7 k7)))))))) H → va_S A s.heap H locs → lv_has ls 7 [(2, .int x2), (3, .int y3), (4, .int y4)] → W pr l e rm_X11_span_n s m args below meth c H locs 1 6 Q (F0 m 90 ls [])) → W pr l e rm_X11_span_n s m args below meth c H locs 1 6 Q (F0 m 17 ls []) := by
    intro x1 x2 n
    induction n with
    | zero => intro x3 x4 x5 g3 g4 g5 g7 q3_18 ex h; exact lp_z h
    | succ n ih =>
      intro x3 x4 x5 g3 g4 g5 g7 q3_18 ex h H locs ls hP hS hl K
      have h := lp_s h
      refine lv_iload X.1 X.2.1 dX11_span_17 (lv_at hl 5 rfl) ?_
      refine lv_bipush (v := 6) X.1 X.2.1 dX11_span_19 (by decide) ?_
      refine lv_icmp_gt (tgt := 90) X.1 X.2.1 dX11_span_21 (by decide) (fun hc => ?_) (fun hc => ?_)
      · have h := it_t hc h
        exact K x3 x4 g3 g4 g5 g7 q3_18 (Option.some.inj h) H locs ls hP hS (lv_sub hl [2, 3, 4] rfl)
      · have h := it_f hc h
        refine lv_aload_n X.1 X.2.1 dX11_span_24 rfl (lv_at hl 0 rfl) ?_
        refine r_get (C := RX11) (T := TX11) (N := 15) (ci := 11) (v := .ref (a3 0)) X iw11 hP 0 rfl rfl 2 rfl mw_2_145 rfl dX11_span_25 ?_
        refine lv_aload_n X.1 X.2.1 dX11_span_28 rfl (lv_at hl 0 rfl) ?_
        refine r_get (C := RX11) (T := TX11) (N := 15) (ci := 11) (v := .ref (a1 0)) X iw11 hP 0 rfl rfl 1 rfl mw_2_144 rfl dX11_span_29 ?_
        obtain ⟨g3_2, g4_2, hc_2, h⟩ := bd2_el h
        refine call_Q (ws := (wPU tc a0 g0 q0_0 (a1 0) (a3 0) q0_3 q0_4 (a5 0) (a6 0) q0_7 q0_8 q0_9 q0_10 q0_13 ++ (wSt tc a1 g1 none (a2 0) ++ (wLg tc a2 g2 ++ (wSt tc a3 g3 q3_18 (a4 0) ++ (wLg tc a4 g4 ++ (wHd tc a5 g5 ++ (wCk tc a6 g6 (a5 0) (a7 0) ++ (wFa tc a7 g7))))))))) (ws' := (wPU tc a0 g0 q0_0 (a1 0) (a3 0) q0_3 q0_4 (a5 0) (a6 0) q0_7 q0_8 q0_9 q0_10 q0_13 ++ (wSt tc a1 g1 none (a2 0) ++ (wLg tc a2 g2 ++ (wSt tc a3 g3_2 none (a4 0) ++ (wLg tc a4 g4_2 ++ (wHd tc a5 g5 ++ (wCk tc a6 g6 (a5 0) (a7 0) ++ (wFa tc a7 g7))))))))) (wr := (wPU tc a0 g0 q0_0 (a1 0) (a3 0) q0_3 q0_4 (a5 0) (a6 0) q0_7 q0_8 q0_9 q0_10 q0_13 ++ (wHd tc a5 g5 ++ (wCk tc a6 g6 (a5 0) (a7 0) ++ (wFa tc a7 g7))))) [13, 14, 15, 16, 17, 18, 19, 20, 21, 22, 1, 2, 3, 4, 5, 6, 7, 8, 9, 10, 23, 24, 11, 12] [0, 25, 26, 27, 28, 29, 30, 31] [0, 18, 19, 20, 21, 22, 23, 24, 25, 26, 27, 30, 31, 8, 9, 10, 11, 12, 13, 14, 15, 16, 17, 28, 29, 1, 2, 3, 4, 5, 6, 7] (As := [.ref (a1 0)]) (rest := []) X (c_X9_copyFrom l dC dI sk sv tc a3 q3_18 a1 none a4 a2 g3 g1 g4 g2 hc_2) mw_3_79 mw_3_80 mw_3_81 mw_1_3 mw_3_82 dc_X9_copyFrom ⟨Nat.le_of_ble_eq_true rfl, Nat.le_of_ble_eq_true rfl⟩ rfl rfl ⟨Nat.le_of_ble_eq_true rfl, Nat.le_of_ble_eq_true rfl⟩ ⟨rfl, rfl, rfl, rfl, by decide, rfl, rfl⟩ hP (hDq _ _ _ _ _ _ _ _ _) hS 0 rfl rfl rfl hl.1 (Nat.le_of_ble_eq_true rfl) dX11_span_32 (fun H locs hP hS => ?_)
        refine W.eq (g2 := F0 m 35 ls []) rfl ?_
        refine lv_aload_n X.1 X.2.1 dX11_span_35 rfl (lv_at hl 0 rfl) ?_
        refine r_get (C := RX11) (T := TX11) (N := 15) (ci := 11) (v := .ref (a3 0)) X iw11 hP 0 rfl rfl 2 rfl mw_2_145 rfl dX11_span_36 ?_
        refine lv_iload X.1 X.2.1 dX11_span_39 (lv_at hl 5 rfl) ?_
        obtain ⟨g3_3, eg3_3, h⟩ := nm_el h
        refine r_put (C := RX9) (T := TX9) (N := 20) (ci := 9) tyX9 tyX9_ok nmX9 X iw9 hP (hDq _ _ _ _ _ _ _ _ _) hS 13 rfl rfl 16 rfl mw_1_185 rfl rfl rfl rfl dX11_span_41 (wPU tc a0 g0 q0_0 (a1 0) (a3 0) q0_3 q0_4 (a5 0) (a6 0) q0_7 q0_8 q0_9 q0_10 q0_13 ++ (wSt tc a1 g1 none (a2 0) ++ (wLg tc a2 g2 ++ (wSt tc a3 g3_3 none (a4 0) ++ (wLg tc a4 g4_2 ++ (wHd tc a5 g5 ++ (wCk tc a6 g6 (a5 0) (a7 0) ++ (wFa tc a7 g7)))))))) (by rw [eg3_3]; rfl) (fun H locs hP hS => ?_)
        refine lv_aload_n X.1 X.2.1 dX11_span_44 rfl (lv_at hl 0 rfl) ?_
        refine r_get (C := RX11) (T := TX11) (N := 15) (ci := 11) (v := .ref (a6 0)) X iw11 hP 0 rfl rfl 6 rfl mw_2_149 rfl dX11_span_45 ?_
        refine lv_aload_n X.1 X.2.1 dX11_span_48 rfl (lv_at hl 0 rfl) ?_
        refine r_get (C := RX11) (T := TX11) (N := 15) (ci := 11) (v := .ref (a3 0)) X iw11 hP 0 rfl rfl 2 rfl mw_2_145 rfl dX11_span_49 ?_
        refine lv_iload_n X.1 X.2.1 dX11_span_52 rfl (lv_at hl 1 rfl) ?_
        refine lv_iconst (v := 1) X.1 X.2.1 dX11_span_53 (by decide) ?_
        obtain ⟨r_4, g7_4, g5_4, g3_4, g4_4, hc_4, h⟩ := bd5_el h
        refine call_Q (ws := (wPU tc a0 g0 q0_0 (a1 0) (a3 0) q0_3 q0_4 (a5 0) (a6 0) q0_7 q0_8 q0_9 q0_10 q0_13 ++ (wSt tc a1 g1 none (a2 0) ++ (wLg tc a2 g2 ++ (wSt tc a3 g3_3 none (a4 0) ++ (wLg tc a4 g4_2 ++ (wHd tc a5 g5 ++ (wCk tc a6 g6 (a5 0) (a7 0) ++ (wFa tc a7 g7))))))))) (ws' := (wPU tc a0 g0 q0_0 (a1 0) (a3 0) q0_3 q0_4 (a5 0) (a6 0) q0_7 q0_8 q0_9 q0_10 q0_13 ++ (wSt tc a1 g1 none (a2 0) ++ (wLg tc a2 g2 ++ (wSt tc a3 g3_4 none (a4 0) ++ (wLg tc a4 g4_4 ++ (wHd tc a5 g5_4 ++ (wCk tc a6 g6 (a5 0) (a7 0) ++ (wFa tc a7 g7_4))))))))) (wr := (wPU tc a0 g0 q0_0 (a1 0) (a3 0) q0_3 q0_4 (a5 0) (a6 0) q0_7 q0_8 q0_9 q0_10 q0_13 ++ (wSt tc a1 g1 none (a2 0) ++ (wLg tc a2 g2)))) [30, 31, 25, 26, 27, 28, 29, 13, 14, 15, 16, 17, 18, 19, 20, 21, 22, 23, 24] [0, 1, 2, 3, 4, 5, 6, 7, 8, 9, 10, 11, 12] [0, 1, 2, 3, 4, 5, 6, 7, 8, 9, 10, 11, 12, 20, 21, 22, 23, 24, 25, 26, 27, 28, 29, 30, 31, 15, 16, 17, 18, 19, 13, 14] (As := [.ref (a3 0), .int x1, .int 1]) (rest := []) X (c_X0_pass_n l dC dI sk sv tc a6 a7 a5 a3 a4 g6 g7 g5 g3_3 g4_2 x1 1 hc_4) mw_5_208 mw_5_209 mw_5_210 mw_1_8 mw_5_211 dc_X0_pass ⟨Nat.le_of_ble_eq_true rfl, Nat.le_of_ble_eq_true rfl⟩ rfl rfl ⟨Nat.le_of_ble_eq_true rfl, Nat.le_of_ble_eq_true rfl⟩ ⟨rfl, rfl, rfl, rfl, by decide, rfl, rfl⟩ hP (hDq _ _ _ _ _ _ _ _ _) hS 0 rfl rfl rfl hl.1 (Nat.le_of_ble_eq_true rfl) dX11_span_54 (fun H locs hP hS => ?_)
        refine W.eq (g2 := F0 m 57 ls [.int r_4]) rfl ?_
        refine lv_pop X.1 X.2.1 dX11_span_57 rfl ?_
        refine lv_aload_n X.1 X.2.1 dX11_span_58 rfl (lv_at hl 0 rfl) ?_
        refine r_get (C := RX11) (T := TX11) (N := 15) (ci := 11) (v := .ref (a3 0)) X iw11 hP 0 rfl rfl 2 rfl mw_2_145 rfl dX11_span_59 ?_
        refine lv_iconst (v := 2) X.1 X.2.1 dX11_span_62 (by decide) ?_
        obtain ⟨r_5, hc_5, h⟩ := bd_el h
        refine call_Vsi (ws := (wPU tc a0 g0 q0_0 (a1 0) (a3 0) q0_3 q0_4 (a5 0) (a6 0) q0_7 q0_8 q0_9 q0_10 q0_13 ++ (wSt tc a1 g1 none (a2 0) ++ (wLg tc a2 g2 ++ (wSt tc a3 g3_4 none (a4 0) ++ (wLg tc a4 g4_4 ++ (wHd tc a5 g5_4 ++ (wCk tc a6 g6 (a5 0) (a7 0) ++ (wFa tc a7 g7_4))))))))) (ws' := (wPU tc a0 g0 q0_0 (a1 0) (a3 0) q0_3 q0_4 (a5 0) (a6 0) q0_7 q0_8 q0_9 q0_10 q0_13 ++ (wSt tc a1 g1 none (a2 0) ++ (wLg tc a2 g2 ++ (wSt tc a3 g3_4 none (a4 0) ++ (wLg tc a4 g4_4 ++ (wHd tc a5 g5_4 ++ (wCk tc a6 g6 (a5 0) (a7 0) ++ (wFa tc a7 g7_4))))))))) (wPU tc a0 g0 q0_0 (a1 0) (a3 0) q0_3 q0_4 (a5 0) (a6 0) q0_7 q0_8 q0_9 q0_10 q0_13 ++ (wSt tc a1 g1 none (a2 0) ++ (wLg tc a2 g2))) (wLg tc a4 g4_4 ++ (wHd tc a5 g5_4 ++ (wCk tc a6 g6 (a5 0) (a7 0) ++ (wFa tc a7 g7_4)))) (As := [.int 2]) (rest := []) X (c_X9_onAllPages l dC dI sk sv tc a3 none (a4 0) g3_4 2 hc_5) mw_7_77 mw_5_99 mw_5_100 mw_1_3 mw_5_101 dc_X9_onAllPages ⟨Nat.le_of_ble_eq_true rfl, Nat.le_of_ble_eq_true rfl⟩ rfl rfl ⟨Nat.le_of_ble_eq_true rfl, Nat.le_of_ble_eq_true rfl⟩ (by simp only [List.append_assoc, List.nil_append, List.append_nil]) (by simp only [List.append_assoc, List.nil_append, List.append_nil]) hP (hDq _ _ _ _ _ _ _ _ _) hS 0 rfl rfl rfl hl.1 (Nat.le_of_ble_eq_true rfl) dX11_span_63 (fun H locs hP hS => ?_)
        refine lv_istore (lv' := [(6, .int r_5), (0, .ref (a0 0)), (1, .int x1), (2, .int x2), (3, .int x3), (4, .int x4), (5, .int x5)]) X.1 X.2.1 dX11_span_66 hl (by decide) rfl (fun ls hl => ?_)
        refine lv_iload_n X.1 X.2.1 dX11_span_68 rfl (lv_at hl 4 rfl) ?_
        refine lv_iload X.1 X.2.1 dX11_span_69 (lv_at hl 0 rfl) ?_
        refine r_min X mw_6_40 mw_3_9 mw_1_25 mw_3_10 hl.1 (Nat.le_of_ble_eq_true rfl) (Nat.le_of_ble_eq_true rfl) ⟨Nat.le_of_ble_eq_true rfl, Nat.le_of_ble_eq_true rfl⟩ dX11_span_71 ?_
        obtain ⟨x3_6, ex3_6, h⟩ := nm_el h
        refine tp_i ex3_6 ?_
        refine lv_istore_n (lv' := [(3, .int x3_6), (6, .int r_5), (0, .ref (a0 0)), (1, .int x1), (2, .int x2), (4, .int x4), (5, .int x5)]) X.1 X.2.1 dX11_span_74 rfl hl (by decide) rfl (fun ls hl => ?_)
        refine lv_iload X.1 X.2.1 dX11_span_75 (lv_at hl 5 rfl) ?_
        refine lv_iload X.1 X.2.1 dX11_span_77 (lv_at hl 1 rfl) ?_
        refine r_max X mw_7_85 mw_3_21 mw_1_25 mw_3_22 hl.1 (Nat.le_of_ble_eq_true rfl) (Nat.le_of_ble_eq_true rfl) ⟨Nat.le_of_ble_eq_true rfl, Nat.le_of_ble_eq_true rfl⟩ dX11_span_79 ?_
        obtain ⟨x4_7, ex4_7, h⟩ := nm_el h
        refine tp_i ex4_7 ?_
        refine lv_istore (lv' := [(4, .int x4_7), (3, .int x3_6), (6, .int r_5), (0, .ref (a0 0)), (1, .int x1), (2, .int x2), (5, .int x5)]) X.1 X.2.1 dX11_span_82 hl (by decide) rfl (fun ls hl => ?_)
        obtain ⟨x5_8, ex5_8, h⟩ := nm_el h
        refine lv_iinc (v := x5_8) (lv' := [(5, .int x5_8), (4, .int x4_7), (3, .int x3_6), (6, .int r_5), (0, .ref (a0 0)), (1, .int x1), (2, .int x2)]) X.1 X.2.1 dX11_span_84 hl (k := 6) rfl (by rw [ex5_8]; rfl) (by decide) rfl (fun ls hl => ?_)
        refine lv_goto (tgt := 17) X.1 X.2.1 dX11_span_87 (by decide) ?_
        exact ih x3_6 x4_7 x5_8 g3_4 g4_4 g5_4 g7_4 none ex h H locs ls hP hS (lv_sub hl [4, 5, 6, 2, 1, 0] rfl) K
  unfold f_X11_span_n at h
  refine lv_aload_n X.1 X.2.1 dX11_span_0 rfl (lv_at hl 0 rfl) ?_
  refine lv_iload_n X.1 X.2.1 dX11_span_1 rfl (lv_at hl 1 rfl) ?_
  refine lv_iconst (v := 0) X.1 X.2.1 dX11_span_2 (by decide) ?_
  refine lv_bipush (v := 60) X.1 X.2.1 dX11_span_3 (by decide) ?_
  obtain ⟨ex_1, hc_1, h1_1, h2_1⟩ := lr_el h
  rcases ex_1 with e_1 | r_1
  · exact callU_t (ws := (wPU tc a0 g0 q0_0 (a1 0) (a3 0) q0_3 q0_4 (a5 0) (a6 0) q0_7 q0_8 q0_9 q0_10 q0_13 ++ (wSt tc a1 g1 none (a2 0) ++ (wLg tc a2 g2 ++ (wSt tc a3 g3 q3_18 (a4 0) ++ (wLg tc a4 g4 ++ (wHd tc a5 g5 ++ (wCk tc a6 g6 (a5 0) (a7 0) ++ (wFa tc a7 g7))))))))) (ws' := (wPU tc a0 g0 q0_0 (a1 0) (a3 0) q0_3 q0_4 (a5 0) (a6 0) q0_7 q0_8 q0_9 q0_10 q0_13 ++ (wSt tc a1 g1 none (a2 0) ++ (wLg tc a2 g2 ++ (wSt tc a3 g3 q3_18 (a4 0) ++ (wLg tc a4 g4 ++ (wHd tc a5 g5 ++ (wCk tc a6 g6 (a5 0) (a7 0) ++ (wFa tc a7 g7))))))))) (wr := (wSt tc a1 g1 none (a2 0) ++ (wLg tc a2 g2 ++ (wSt tc a3 g3 q3_18 (a4 0) ++ (wLg tc a4 g4 ++ (wHd tc a5 g5 ++ (wCk tc a6 g6 (a5 0) (a7 0) ++ (wFa tc a7 g7)))))))) [0] [1, 2, 3, 4, 5, 6, 7, 8, 9, 10, 11, 12, 13, 14, 15, 16, 17, 18, 19, 20, 21, 22, 23, 24, 25, 26, 27, 28, 29, 30, 31] [31, 0, 1, 2, 3, 4, 5, 6, 7, 8, 9, 10, 11, 12, 13, 14, 15, 16, 17, 18, 19, 20, 21, 22, 23, 24, 25, 26, 27, 28, 29, 30] (As := [.int x1, .int 0, .int 60]) (rest := []) q3_18 rfl (oUi (fun u q => (wPU tc a0 g0 q0_0 (a1 0) (a3 0) q0_3 q0_4 (a5 0) (a6 0) q0_7 q0_8 q0_9 q0_10 q0_13 ++ (wSt tc a1 g1 none (a2 0) ++ (wLg tc a2 g2 ++ (wSt tc a3 u.1 q (a4 0) ++ (wLg tc a4 u.2.1 ++ (wHd tc a5 u.2.2.1 ++ (wCk tc a6 g6 (a5 0) (a7 0) ++ (wFa tc a7 u.2.2.2))))))))) (h1_1 _ rfl)) X hT hQ (c_X11_needNumber l hst dC dI sk sv tc a0 q0_0 (a1 0) (a3 0) q0_3 q0_4 (a5 0) (a6 0) q0_7 q0_8 q0_9 q0_10 q0_13 g0 x1 0 60 hc_1) mw_5_199 mw_5_201 mp_1_8 mw_1_1 mw_5_202 dc_X11_needNumber ⟨Nat.le_of_ble_eq_true rfl, Nat.le_of_ble_eq_true rfl⟩ rfl rfl ⟨Nat.le_of_ble_eq_true rfl, Nat.le_of_ble_eq_true rfl⟩ ⟨rfl, rfl, rfl, rfl, by decide, rfl, rfl⟩ hP (hDq _ _ _ _ _ _ _ _ _) hS 0 rfl rfl rfl hl.1 (Nat.le_of_ble_eq_true rfl) dX11_span_5 (Nat.le_of_ble_eq_true rfl) (Nat.le_of_ble_eq_true rfl)
  have h := h2_1 _ rfl
  refine callU_n (ws := (wPU tc a0 g0 q0_0 (a1 0) (a3 0) q0_3 q0_4 (a5 0) (a6 0) q0_7 q0_8 q0_9 q0_10 q0_13 ++ (wSt tc a1 g1 none (a2 0) ++ (wLg tc a2 g2 ++ (wSt tc a3 g3 q3_18 (a4 0) ++ (wLg tc a4 g4 ++ (wHd tc a5 g5 ++ (wCk tc a6 g6 (a5 0) (a7 0) ++ (wFa tc a7 g7))))))))) (ws' := (wPU tc a0 g0 q0_0 (a1 0) (a3 0) q0_3 q0_4 (a5 0) (a6 0) q0_7 q0_8 q0_9 q0_10 q0_13 ++ (wSt tc a1 g1 none (a2 0) ++ (wLg tc a2 g2 ++ (wSt tc a3 g3 q3_18 (a4 0) ++ (wLg tc a4 g4 ++ (wHd tc a5 g5 ++ (wCk tc a6 g6 (a5 0) (a7 0) ++ (wFa tc a7 g7))))))))) (wr := (wSt tc a1 g1 none (a2 0) ++ (wLg tc a2 g2 ++ (wSt tc a3 g3 q3_18 (a4 0) ++ (wLg tc a4 g4 ++ (wHd tc a5 g5 ++ (wCk tc a6 g6 (a5 0) (a7 0) ++ (wFa tc a7 g7)))))))) [0] [1, 2, 3, 4, 5, 6, 7, 8, 9, 10, 11, 12, 13, 14, 15, 16, 17, 18, 19, 20, 21, 22, 23, 24, 25, 26, 27, 28, 29, 30, 31] [31, 0, 1, 2, 3, 4, 5, 6, 7, 8, 9, 10, 11, 12, 13, 14, 15, 16, 17, 18, 19, 20, 21, 22, 23, 24, 25, 26, 27, 28, 29, 30] (As := [.int x1, .int 0, .int 60]) (rest := []) X (c_X11_needNumber l hst dC dI sk sv tc a0 q0_0 (a1 0) (a3 0) q0_3 q0_4 (a5 0) (a6 0) q0_7 q0_8 q0_9 q0_10 q0_13 g0 x1 0 60 hc_1) mw_5_199 mw_5_201 mp_1_8 mw_1_1 mw_5_202 dc_X11_needNumber ⟨Nat.le_of_ble_eq_true rfl, Nat.le_of_ble_eq_true rfl⟩ rfl rfl ⟨Nat.le_of_ble_eq_true rfl, Nat.le_of_ble_eq_true rfl⟩ ⟨rfl, rfl, rfl, rfl, by decide, rfl, rfl⟩ hP (hDq _ _ _ _ _ _ _ _ _) hS 0 rfl rfl rfl hl.1 (Nat.le_of_ble_eq_true rfl) dX11_span_5 (fun H locs hP hS => ?_)
  refine W.eq (g2 := F0 m 8 ls []) rfl ?_
  refine lv_bipush (v := 100) X.1 X.2.1 dX11_span_8 (by decide) ?_
  refine lv_istore_n (lv' := [(3, .int 100), (0, .ref (a0 0)), (1, .int x1), (2, .int x2)]) X.1 X.2.1 dX11_span_10 rfl hl (by decide) rfl (fun ls hl => ?_)
  refine lv_iconst (v := 0) X.1 X.2.1 dX11_span_11 (by decide) ?_
  refine lv_istore (lv' := [(4, .int 0), (3, .int 100), (0, .ref (a0 0)), (1, .int x1), (2, .int x2)]) X.1 X.2.1 dX11_span_12 hl (by decide) rfl (fun ls hl => ?_)
  refine lv_iconst (v := 1) X.1 X.2.1 dX11_span_14 (by decide) ?_
  refine lv_istore (lv' := [(5, .int 1), (4, .int 0), (3, .int 100), (0, .ref (a0 0)), (1, .int x1), (2, .int x2)]) X.1 X.2.1 dX11_span_15 hl (by decide) rfl (fun ls hl => ?_)
  obtain ⟨ex_9, hL_9, h⟩ := bd_el h
  refine HL17 x1 x2 fu 100 0 1 g3 g4 g5 g7 kq3_18 ex_9 hL_9 H locs ls hP hS (lv_sub hl [3, 4, 5, 2, 1, 0] rfl) (fun x3_9 x4_9 g3_9 g4_9 g5_9 g7_9 q3_18_9 he H locs ls hP hS hl => ?_)
  subst he
  refine lv_iload_n X.1 X.2.1 dX11_span_90 rfl (lv_at hl 0 rfl) ?_
  obtain ⟨J100, eJ100, h⟩ := jn_el h
  have HJ100 : ∀ (s0_J100 : Int32) (H : Heap) (locs : List Loc) (ls : Array Slot), J100 s0_J100 = some res → va_P (dC, dI) vwCl (wPU tc a0 g0 q0_0 (a1 0) (a3 0) q0_3 q0_4 (a5 0) (a6 0) q0_7 q0_8 q0_9 q0_10 q0_13 ++ (wSt tc a1 g1 none (a2 0) ++ (wLg tc a2 g2 ++ (wSt tc a3 g3_9 q3_18_9 (a4 0) ++ (wLg tc a4 g4_9 ++ (wHd tc a5 g5_9 ++ (wCk tc a6 g6 (a5 0) (a7 0) ++ (wFa tc a7 g7_9)))))))) H → va_S A s.heap H locs → lv_has ls 7 [] → W pr l e rm_X11_span_n s m args below meth c H locs 1 6 Q (F0 m 100 ls [.int s0_J100]) := by
    intro s0_J100 H locs ls h hP hS hl
    rw [eJ100] at h
    exact retU_i (fun u q => (wPU tc a0 g0 q0_0 (a1 0) (a3 0) q0_3 q0_4 (a5 0) (a6 0) q0_7 q0_8 q0_9 q0_10 q0_13 ++ (wSt tc a1 g1 none (a2 0) ++ (wLg tc a2 g2 ++ (wSt tc a3 u.1 q (a4 0) ++ (wLg tc a4 u.2.1 ++ (wHd tc a5 u.2.2.1 ++ (wCk tc a6 g6 (a5 0) (a7 0) ++ (wFa tc a7 u.2.2.2))))))))) q3_18_9 (Option.some.inj h) X hQ hP hS (Nat.le_of_ble_eq_true rfl) (Nat.le_of_ble_eq_true rfl) dX11_span_100
  refine lv_if_eq (tgt := 99) X.1 X.2.1 dX11_span_91 (by decide) (fun hc => ?_) (fun hc => ?_)
  · have h := it_t hc h
    refine lv_iload_n X.1 X.2.1 dX11_span_99 rfl (lv_at hl 1 rfl) ?_
    exact HJ100 x3_9 H locs ls h hP hS (lv_sub hl [] rfl)
  · have h := it_f hc h
    refine lv_iload X.1 X.2.1 dX11_span_94 (lv_at hl 2 rfl) ?_
    refine lv_goto (tgt := 100) X.1 X.2.1 dX11_span_96 (by decide) ?_
    exact HJ100 x4_9 H locs ls h hP hS (lv_sub hl [] rfl)

def f_X11_span_l_L17 (ln8 : Nat → Nat) (x1 : Int32) (x2 : Int32) (g0 : Pic) (g1 : Pic) (g2 : Pic) (g6 : Pic) (n : Nat) (a : Int32 × Int32 × Int32 × Pic × Pic × Pic × Pic × Pic) : Option (Int32 × Int32 × Pic × Pic × Pic × Pic × Pic) := lp (fun (rec : Int32 × Int32 × Int32 × Pic × Pic × Pic × Pic × Pic → Option (Int32 × Int32 × Pic × Pic × Pic × Pic × Pic)) (a : Int32 × Int32 × Int32 × Pic × Pic × Pic × Pic × Pic) => match a with | (x3, x4, x5, g3, g4, g5, g7, g8) => (if 6 < x5 then some (x3, x4, g3, g4, g5, g7, g8) else bd2 (f_X9_copyFrom g3 g1 g4 g2) (fun g3_2 g4_2 => nm (pu g3_2 16 0 x5) (fun g3_3 => bd6 (f_X0_pass_l ln8 g6 g8 g7 g5 g3_3 g4_2 x1 1) (fun r_4 g8_4 g7_4 g5_4 g3_4 g4_4 => bd (f_X9_onAllPages g3_4 2) (fun r_5 => nm ((if r_5 < x3 then r_5 else x3)) (fun x3_6 => nm ((if x4 < r_5 then r_5 else x4)) (fun x4_7 => nm (x5 + 1) (fun x5_8 => rec (x3_6, x4_7, x5_8, g3_4, g4_4, g5_4, g7_4, g8_4)))))))))) n a
def f_X11_span_l (ln8 : Nat → Nat) (g0 : Pic) (g1 : Pic) (g2 : Pic) (g3 : Pic) (g4 : Pic) (g5 : Pic) (g6 : Pic) (g7 : Pic) (g8 : Pic) (x1 : Int32) (x2 : Int32) : Option ((Nat × (Pic × Pic × Pic × Pic × Pic)) ⊕ (Int32 × (Pic × Pic × Pic × Pic × Pic))) := lr (f_X11_needNumber g0 x1 0 60) (fun e => .inl (e.1, (g3, g4, g5, g7, g8))) (fun _ => bd (f_X11_span_l_L17 ln8 x1 x2 g0 g1 g2 g6 fu (100, 0, 1, g3, g4, g5, g7, g8)) (fun (x3_9, x4_9, g3_9, g4_9, g5_9, g7_9, g8_9) => jn (fun (s0_J100 : Int32) => some (.inr (s0_J100, (g3_9, g4_9, g5_9, g7_9, g8_9)))) (fun J100 => (if x2 = 0 then J100 x3_9 else J100 x4_9))))
abbrev rm_X11_span_l : Room := { frames := 7, cells := 1, slots := 6, locals := 168 }
set_option maxHeartbeats 4000000 in
set_option maxRecDepth 100000 in
theorem c_X11_span_l (l : Launch) (hst : l.stackTraces = false) (dC : Nat → ClassId) (dI : Nat → Nat → Nat) (sk sv : Nat → Nat) (tc : Nat → ClassId) (ln8 : Nat → Nat) (a0 : Nat → Nat) (q0_0 : Nat) (q0_3 : Nat) (q0_4 : Nat) (q0_7 : Nat) (q0_8 : Nat) (q0_9 : Nat) (q0_10 : Nat) (q0_13 : Option Nat) (a1 : Nat → Nat) (a2 : Nat → Nat) (a3 : Nat → Nat) (q3_18 : Option Nat) (a4 : Nat → Nat) (a5 : Nat → Nat) (a6 : Nat → Nat) (a7 : Nat → Nat) (a8 : Nat → Nat) (g0 : Pic) (g1 : Pic) (g2 : Pic) (g3 : Pic) (g4 : Pic) (g5 : Pic) (g6 : Pic) (g7 : Pic) (g8 : Pic) (x1 : Int32) (x2 : Int32) {res : ((Nat × (Pic × Pic × Pic × Pic × Pic)) ⊕ (Int32 × (Pic × Pic × Pic × Pic × Pic)))} (h : f_X11_span_l ln8 g0 g1 g2 g3 g4 g5 g6 g7 g8 x1 x2 = some res) : CU l (dC, dI) sk sv (TY tc) yX11_span cX11_span 7 (some .int) rm_X11_span_l 1 6 [.ref (a0 0), .int x1, .int x2] (wPU tc a0 g0 q0_0 (a1 0) (a3 0) q0_3 q0_4 (a5 0) (a6 0) q0_7 q0_8 q0_9 q0_10 q0_13 ++ (wSt tc a1 g1 (some (a8 0)) (a2 0) ++ (wLg tc a2 g2 ++ (wSt tc a3 g3 q3_18 (a4 0) ++ (wLg tc a4 g4 ++ (wHd tc a5 g5 ++ (wCk tc a6 g6 (a5 0) (a7 0) ++ (wFa tc a7 g7 ++ (wLw tc a8 g8 ln8))))))))) (oI (fun u q => (wPU tc a0 g0 q0_0 (a1 0) (a3 0) q0_3 q0_4 (a5 0) (a6 0) q0_7 q0_8 q0_9 q0_10 q0_13 ++ (wSt tc a1 g1 (some (a8 0)) (a2 0) ++ (wLg tc a2 g2 ++ (wSt tc a3 u.1 q (a4 0) ++ (wLg tc a4 u.2.1 ++ (wHd tc a5 u.2.2.1 ++ (wCk tc a6 g6 (a5 0) (a7 0) ++ (wFa tc a7 u.2.2.2.1 ++ (wLw tc a8 u.2.2.2.2 ln8)))))))))) res) := by
  refine ofCU (by decide) (Nat.le_of_ble_eq_true rfl) ?_
  intro pr e s m args below meth c A Q ls H locs X hT hQ hD0 hP hS hl
  have hD : ∀ z0 z1 z2 z3 z4 z5 z6 z7 z8, va_D A (wPU tc a0 z0 q0_0 (a1 0) (a3 0) q0_3 q0_4 (a5 0) (a6 0) q0_7 q0_8 q0_9 q0_10 q0_13 ++ (wSt tc a1 z1 (some (a8 0)) (a2 0) ++ (wLg tc a2 z2 ++ (wSt tc a3 z3 q3_18 (a4 0) ++ (wLg tc a4 z4 ++ (wHd tc a5 z5 ++ (wCk tc a6 z6 (a5 0) (a7 0) ++ (wFa tc a7 z7 ++ (wLw tc a8 z8 ln8))))))))) := fun z0 z1 z2 z3 z4 z5 z6 z7 z8 => D_fst (ws := (wPU tc a0 g0 q0_0 (a1 0) (a3 0) q0_3 q0_4 (a5 0) (a6 0) q0_7 q0_8 q0_9 q0_10 q0_13 ++ (wSt tc a1 g1 (some (a8 0)) (a2 0) ++ (wLg tc a2 g2 ++ (wSt tc a3 g3 q3_18 (a4 0) ++ (wLg tc a4 g4 ++ (wHd tc a5 g5 ++ (wCk tc a6 g6 (a5 0) (a7 0) ++ (wFa tc a7 g7 ++ (wLw tc a8 g8 ln8)))))))))) rfl hD0
  have hDq : ∀ z0 z1 z2 z3 z4 z5 z6 z7 z8 (zq : Option Nat), va_D A (wPU tc a0 z0 q0_0 (a1 0) (a3 0) q0_3 q0_4 (a5 0) (a6 0) q0_7 q0_8 q0_9 q0_10 q0_13 ++ (wSt tc a1 z1 (some (a8 0)) (a2 0) ++ (wLg tc a2 z2 ++ (wSt tc a3 z3 zq (a4 0) ++ (wLg tc a4 z4 ++ (wHd tc a5 z5 ++ (wCk tc a6 z6 (a5 0) (a7 0) ++ (wFa tc a7 z7 ++ (wLw tc a8 z8 ln8))))))))) := fun z0 z1 z2 z3 z4 z5 z6 z7 z8 zq => D_fst (ws := (wPU tc a0 g0 q0_0 (a1 0) (a3 0) q0_3 q0_4 (a5 0) (a6 0) q0_7 q0_8 q0_9 q0_10 q0_13 ++ (wSt tc a1 g1 (some (a8 0)) (a2 0) ++ (wLg tc a2 g2 ++ (wSt tc a3 g3 q3_18 (a4 0) ++ (wLg tc a4 g4 ++ (wHd tc a5 g5 ++ (wCk tc a6 g6 (a5 0) (a7 0) ++ (wFa tc a7 g7 ++ (wLw tc a8 g8 ln8)))))))))) rfl hD0
  have hl : lv_has ls 7 [(0, .ref (a0 0)), (1, .int x1), (2, .int x2)] := hl
  have HL17 : ∀ (x1 : Int32) (x2 : Int32) (n : Nat) (x3 : Int32) (x4 : Int32) (x5 : Int32) (g3 : Pic) (g4 : Pic) (g5 : Pic) (g7 : Pic) (g8 : Pic) (q3_18 : Option Nat) (ex : (Int32 × Int32 × Pic × Pic × Pic × Pic × Pic)), f_X11_span_l_L17 ln8 x1 x2 g0 g1 g2 g6 n (x3, x4, x5, g3, g4, g5, g7, g8) = some ex → ∀ (H : Heap) (locs : List Loc) (ls : Array Slot), va_P (dC, dI) vwCl (wPU tc a0 g0 q0_0 (a1 0) (a3 0) q0_3 q0_4 (a5 0) (a6 0) q0_7 q0_8 q0_9 q0_10 q0_13 ++ (wSt tc a1 g1 (some (a8 0)) (a2 0) ++ (wLg tc a2 g2 ++ (wSt tc a3 g3 q3_18 (a4 0) ++ (wLg tc a4 g4 ++ (wHd tc a5 g5 ++ (wCk tc a6 g6 (a5 0) (a7 0) ++ (wFa tc a7 g7 ++ (wLw tc a8 g8 ln8))))))))) H → va_S A s.heap H locs → lv_has ls 7 [(0, .ref (a0 0)), (1, .int x1), (2, .int x2), (3, .int x3), (4, .int x4), (5, .int x5)] → (∀ (y3 : Int32) (y4 : Int32) (k3 : Pic) (k4 : Pic) (k5 : Pic) (k7 : Pic) (k8 : Pic) (kq3_18 : Option Nat), (y3, y4, k3, k4, k5, k7, k8) = ex → ∀ (H : Heap) (locs : List Loc) (ls : Array Slot), va_P (dC, dI) vwCl (wPU tc a0 g0 q0_0 (a1 0) (a3 0) q0_3 q0_4 (a5 0) (a6 0) q0_7 q0_8 q0_9 q0_10 q0_13 ++ (wSt tc a1 g1 (some (a8 0)) (a2 0) ++ (wLg tc a2 g2 ++ (wSt tc a3 k3 kq3_18 (a4 0) ++ (wLg tc a4 k4 ++ (wHd tc a5 k5 ++ (wCk tc a6 g6 (a5 0) (a7 0) ++ (wFa tc a7 k7 ++ (wLw tc a8 k8 ln8))))))))) H → va_S A s.heap H locs → lv_has ls 7 [(2, .int x2), (3, .int y3), (4, .int y4)] → W pr l e rm_X11_span_l s m args below meth c H locs 1 6 Q (F0 m 90 ls [])) → W pr l e rm_X11_span_l s m args below meth c H locs 1 6 Q (F0 m 17 ls []) := by
    intro x1 x2 n
    induction n with
    | zero => intro x3 x4 x5 g3 g4 g5 g7 g8 q3_18 ex h; exact lp_z h
    | succ n ih =>
      intro x3 x4 x5 g3 g4 g5 g7 g8 q3_18 ex h H locs ls hP hS hl K
      have h := lp_s h
      refine lv_iload X.1 X.2.1 dX11_span_17 (lv_at hl 5 rfl) ?_
      refine lv_bipush (v := 6) X.1 X.2.1 dX11_span_19 (by decide) ?_
      refine lv_icmp_gt (tgt := 90) X.1 X.2.1 dX11_span_21 (by decide) (fun hc => ?_) (fun hc => ?_)
      · have h := it_t hc h
        exact K x3 x4 g3 g4 g5 g7 g8 q3_18 (Option.some.inj h) H locs ls hP hS (lv_sub hl [2, 3, 4] rfl)
      · have h := it_f hc h
        refine lv_aload_n X.1 X.2.1 dX11_span_24 rfl (lv_at hl 0 rfl) ?_
        refine r_get (C := RX11) (T := TX11) (N := 15) (ci := 11) (v := .ref (a3 0)) X iw11 hP 0 rfl rfl 2 rfl mw_2_145 rfl dX11_span_25 ?_
        refine lv_aload_n X.1 X.2.1 dX11_span_28 rfl (lv_at hl 0 rfl) ?_
        refine r_get (C := RX11) (T := TX11) (N := 15) (ci := 11) (v := .ref (a1 0)) X iw11 hP 0 rfl rfl 1 rfl mw_2_144 rfl dX11_span_29 ?_
        obtain ⟨g3_2, g4_2, hc_2, h⟩ := bd2_el h
        refine call_Q (ws := (wPU tc a0 g0 q0_0 (a1 0) (a3 0) q0_3 q0_4 (a5 0) (a6 0) q0_7 q0_8 q0_9 q0_10 q0_13 ++ (wSt tc a1 g1 (some (a8 0)) (a2 0) ++ (wLg tc a2 g2 ++ (wSt tc a3 g3 q3_18 (a4 0) ++ (wLg tc a4 g4 ++ (wHd tc a5 g5 ++ (wCk tc a6 g6 (a5 0) (a7 0) ++ (wFa tc a7 g7 ++ (wLw tc a8 g8 ln8)))))))))) (ws' := (wPU tc a0 g0 q0_0 (a1 0) (a3 0) q0_3 q0_4 (a5 0) (a6 0) q0_7 q0_8 q0_9 q0_10 q0_13 ++ (wSt tc a1 g1 (some (a8 0)) (a2 0) ++ (wLg tc a2 g2 ++ (wSt tc a3 g3_2 (some (a8 0)) (a4 0) ++ (wLg tc a4 g4_2 ++ (wHd tc a5 g5 ++ (wCk tc a6 g6 (a5 0) (a7 0) ++ (wFa tc a7 g7 ++ (wLw tc a8 g8 ln8)))))))))) (wr := (wPU tc a0 g0 q0_0 (a1 0) (a3 0) q0_3 q0_4 (a5 0) (a6 0) q0_7 q0_8 q0_9 q0_10 q0_13 ++ (wHd tc a5 g5 ++ (wCk tc a6 g6 (a5 0) (a7 0) ++ (wFa tc a7 g7 ++ (wLw tc a8 g8 ln8)))))) [13, 14, 15, 16, 17, 18, 19, 20, 21, 22, 1, 2, 3, 4, 5, 6, 7, 8, 9, 10, 23, 24, 11, 12] [0, 25, 26, 27, 28, 29, 30, 31, 32, 33, 34, 35, 36, 37] [0, 24, 25, 26, 27, 28, 29, 30, 31, 32, 33, 36, 37, 14, 15, 16, 17, 18, 19, 20, 21, 22, 23, 34, 35, 1, 2, 3, 4, 5, 6, 7, 8, 9, 10, 11, 12, 13] (As := [.ref (a1 0)]) (rest := []) X (c_X9_copyFrom l dC dI sk sv tc a3 q3_18 a1 (some (a8 0)) a4 a2 g3 g1 g4 g2 hc_2) mw_3_79 mw_3_80 mw_3_81 mw_1_3 mw_3_82 dc_X9_copyFrom ⟨Nat.le_of_ble_eq_true rfl, Nat.le_of_ble_eq_true rfl⟩ rfl rfl ⟨Nat.le_of_ble_eq_true rfl, Nat.le_of_ble_eq_true rfl⟩ ⟨rfl, rfl, rfl, rfl, by decide, rfl, rfl⟩ hP (hDq _ _ _ _ _ _ _ _ _ _) hS 0 rfl rfl rfl hl.1 (Nat.le_of_ble_eq_true rfl) dX11_span_32 (fun H locs hP hS => ?_)
        refine W.eq (g2 := F0 m 35 ls []) rfl ?_
        refine lv_aload_n X.1 X.2.1 dX11_span_35 rfl (lv_at hl 0 rfl) ?_
        refine r_get (C := RX11) (T := TX11) (N := 15) (ci := 11) (v := .ref (a3 0)) X iw11 hP 0 rfl rfl 2 rfl mw_2_145 rfl dX11_span_36 ?_
        refine lv_iload X.1 X.2.1 dX11_span_39 (lv_at hl 5 rfl) ?_
        obtain ⟨g3_3, eg3_3, h⟩ := nm_el h
        refine r_put (C := RX9) (T := TX9) (N := 20) (ci := 9) tyX9 tyX9_ok nmX9 X iw9 hP (hDq _ _ _ _ _ _ _ _ _ _) hS 13 rfl rfl 16 rfl mw_1_185 rfl rfl rfl rfl dX11_span_41 (wPU tc a0 g0 q0_0 (a1 0) (a3 0) q0_3 q0_4 (a5 0) (a6 0) q0_7 q0_8 q0_9 q0_10 q0_13 ++ (wSt tc a1 g1 (some (a8 0)) (a2 0) ++ (wLg tc a2 g2 ++ (wSt tc a3 g3_3 (some (a8 0)) (a4 0) ++ (wLg tc a4 g4_2 ++ (wHd tc a5 g5 ++ (wCk tc a6 g6 (a5 0) (a7 0) ++ (wFa tc a7 g7 ++ (wLw tc a8 g8 ln8))))))))) (by rw [eg3_3]; rfl) (fun H locs hP hS => ?_)
        refine lv_aload_n X.1 X.2.1 dX11_span_44 rfl (lv_at hl 0 rfl) ?_
        refine r_get (C := RX11) (T := TX11) (N := 15) (ci := 11) (v := .ref (a6 0)) X iw11 hP 0 rfl rfl 6 rfl mw_2_149 rfl dX11_span_45 ?_
        refine lv_aload_n X.1 X.2.1 dX11_span_48 rfl (lv_at hl 0 rfl) ?_
        refine r_get (C := RX11) (T := TX11) (N := 15) (ci := 11) (v := .ref (a3 0)) X iw11 hP 0 rfl rfl 2 rfl mw_2_145 rfl dX11_span_49 ?_
        refine lv_iload_n X.1 X.2.1 dX11_span_52 rfl (lv_at hl 1 rfl) ?_
        refine lv_iconst (v := 1) X.1 X.2.1 dX11_span_53 (by decide) ?_
        obtain ⟨r_4, g8_4, g7_4, g5_4, g3_4, g4_4, hc_4, h⟩ := bd6_el h
        refine call_Q (ws := (wPU tc a0 g0 q0_0 (a1 0) (a3 0) q0_3 q0_4 (a5 0) (a6 0) q0_7 q0_8 q0_9 q0_10 q0_13 ++ (wSt tc a1 g1 (some (a8 0)) (a2 0) ++ (wLg tc a2 g2 ++ (wSt tc a3 g3_3 (some (a8 0)) (a4 0) ++ (wLg tc a4 g4_2 ++ (wHd tc a5 g5 ++ (wCk tc a6 g6 (a5 0) (a7 0) ++ (wFa tc a7 g7 ++ (wLw tc a8 g8 ln8)))))))))) (ws' := (wPU tc a0 g0 q0_0 (a1 0) (a3 0) q0_3 q0_4 (a5 0) (a6 0) q0_7 q0_8 q0_9 q0_10 q0_13 ++ (wSt tc a1 g1 (some (a8 0)) (a2 0) ++ (wLg tc a2 g2 ++ (wSt tc a3 g3_4 (some (a8 0)) (a4 0) ++ (wLg tc a4 g4_4 ++ (wHd tc a5 g5_4 ++ (wCk tc a6 g6 (a5 0) (a7 0) ++ (wFa tc a7 g7_4 ++ (wLw tc a8 g8_4 ln8)))))))))) (wr := (wPU tc a0 g0 q0_0 (a1 0) (a3 0) q0_3 q0_4 (a5 0) (a6 0) q0_7 q0_8 q0_9 q0_10 q0_13 ++ (wSt tc a1 g1 (some (a8 0)) (a2 0) ++ (wLg tc a2 g2)))) [30, 32, 33, 34, 35, 36, 37, 31, 25, 26, 27, 28, 29, 13, 14, 15, 16, 17, 18, 19, 20, 21, 22, 23, 24] [0, 1, 2, 3, 4, 5, 6, 7, 8, 9, 10, 11, 12] [0, 1, 2, 3, 4, 5, 6, 7, 8, 9, 10, 11, 12, 26, 27, 28, 29, 30, 31, 32, 33, 34, 35, 36, 37, 21, 22, 23, 24, 25, 13, 20, 14, 15, 16, 17, 18, 19] (As := [.ref (a3 0), .int x1, .int 1]) (rest := []) X (c_X0_pass_l l dC dI sk sv tc ln8 a6 a8 a7 a5 a3 a4 g6 g8 g7 g5 g3_3 g4_2 x1 1 hc_4) mw_5_208 mw_5_209 mw_5_210 mw_1_8 mw_5_211 dc_X0_pass ⟨Nat.le_of_ble_eq_true rfl, Nat.le_of_ble_eq_true rfl⟩ rfl rfl ⟨Nat.le_of_ble_eq_true rfl, Nat.le_of_ble_eq_true rfl⟩ ⟨rfl, rfl, rfl, rfl, by decide, rfl, rfl⟩ hP (hDq _ _ _ _ _ _ _ _ _ _) hS 0 rfl rfl rfl hl.1 (Nat.le_of_ble_eq_true rfl) dX11_span_54 (fun H locs hP hS => ?_)
        refine W.eq (g2 := F0 m 57 ls [.int r_4]) rfl ?_
        refine lv_pop X.1 X.2.1 dX11_span_57 rfl ?_
        refine lv_aload_n X.1 X.2.1 dX11_span_58 rfl (lv_at hl 0 rfl) ?_
        refine r_get (C := RX11) (T := TX11) (N := 15) (ci := 11) (v := .ref (a3 0)) X iw11 hP 0 rfl rfl 2 rfl mw_2_145 rfl dX11_span_59 ?_
        refine lv_iconst (v := 2) X.1 X.2.1 dX11_span_62 (by decide) ?_
        obtain ⟨r_5, hc_5, h⟩ := bd_el h
        refine call_Vsi (ws := (wPU tc a0 g0 q0_0 (a1 0) (a3 0) q0_3 q0_4 (a5 0) (a6 0) q0_7 q0_8 q0_9 q0_10 q0_13 ++ (wSt tc a1 g1 (some (a8 0)) (a2 0) ++ (wLg tc a2 g2 ++ (wSt tc a3 g3_4 (some (a8 0)) (a4 0) ++ (wLg tc a4 g4_4 ++ (wHd tc a5 g5_4 ++ (wCk tc a6 g6 (a5 0) (a7 0) ++ (wFa tc a7 g7_4 ++ (wLw tc a8 g8_4 ln8)))))))))) (ws' := (wPU tc a0 g0 q0_0 (a1 0) (a3 0) q0_3 q0_4 (a5 0) (a6 0) q0_7 q0_8 q0_9 q0_10 q0_13 ++ (wSt tc a1 g1 (some (a8 0)) (a2 0) ++ (wLg tc a2 g2 ++ (wSt tc a3 g3_4 (some (a8 0)) (a4 0) ++ (wLg tc a4 g4_4 ++ (wHd tc a5 g5_4 ++ (wCk tc a6 g6 (a5 0) (a7 0) ++ (wFa tc a7 g7_4 ++ (wLw tc a8 g8_4 ln8)))))))))) (wPU tc a0 g0 q0_0 (a1 0) (a3 0) q0_3 q0_4 (a5 0) (a6 0) q0_7 q0_8 q0_9 q0_10 q0_13 ++ (wSt tc a1 g1 (some (a8 0)) (a2 0) ++ (wLg tc a2 g2))) (wLg tc a4 g4_4 ++ (wHd tc a5 g5_4 ++ (wCk tc a6 g6 (a5 0) (a7 0) ++ (wFa tc a7 g7_4 ++ (wLw tc a8 g8_4 ln8))))) (As := [.int 2]) (rest := []) X (c_X9_onAllPages l dC dI sk sv tc a3 (some (a8 0)) (a4 0) g3_4 2 hc_5) mw_7_77 mw_5_99 mw_5_100 mw_1_3 mw_5_101 dc_X9_onAllPages ⟨Nat.le_of_ble_eq_true rfl, Nat.le_of_ble_eq_true rfl⟩ rfl rfl ⟨Nat.le_of_ble_eq_true rfl, Nat.le_of_ble_eq_true rfl⟩ (by simp only [List.append_assoc, List.nil_append, List.append_nil]) (by simp only [List.append_assoc, List.nil_append, List.append_nil]) hP (hDq _ _ _ _ _ _ _ _ _ _) hS 0 rfl rfl rfl hl.1 (Nat.le_of_ble_eq_true rfl) dX11_span_63 (fun H locs hP hS => ?_)
        refine lv_istore (lv' := [(6, .int r_5), (0, .ref (a0 0)), (1, .int x1), (2, .int x2), (3, .int x3), (4, .int x4), (5, .int x5)]) X.1 X.2.1 dX11_span_66 hl (by decide) rfl (fun ls hl => ?_)
        refine lv_iload_n X.1 X.2.1 dX11_span_68 rfl (lv_at hl 4 rfl) ?_
        refine lv_iload X.1 X.2.1 dX11_span_69 (lv_at hl 0 rfl) ?_
        refine r_min X mw_6_40 mw_3_9 mw_1_25 mw_3_10 hl.1 (Nat.le_of_ble_eq_true rfl) (Nat.le_of_ble_eq_true rfl) ⟨Nat.le_of_ble_eq_true rfl, Nat.le_of_ble_eq_true rfl⟩ dX11_span_71 ?_
        obtain ⟨x3_6, ex3_6, h⟩ := nm_el h
        refine tp_i ex3_6 ?_
        refine lv_istore_n (lv' := [(3, .int x3_6), (6, .int r_5), (0, .ref (a0 0)), (1, .int x1), (2, .int x2), (4, .int x4), (5, .int x5)]) X.1 X.2.1 dX11_span_74 rfl hl (by decide) rfl (fun ls hl => ?_)
        refine lv_iload X.1 X.2.1 dX11_span_75 (lv_at hl 5 rfl) ?_
        refine lv_iload X.1 X.2.1 dX11_span_77 (lv_at hl 1 rfl) ?_
        refine r_max X mw_7_85 mw_3_21 mw_1_25 mw_3_22 hl.1 (Nat.le_of_ble_eq_true rfl) (Nat.le_of_ble_eq_true rfl) ⟨Nat.le_of_ble_eq_true rfl, Nat.le_of_ble_eq_true rfl⟩ dX11_span_79 ?_
        obtain ⟨x4_7, ex4_7, h⟩ := nm_el h
        refine tp_i ex4_7 ?_
        refine lv_istore (lv' := [(4, .int x4_7), (3, .int x3_6), (6, .int r_5), (0, .ref (a0 0)), (1, .int x1), (2, .int x2), (5, .int x5)]) X.1 X.2.1 dX11_span_82 hl (by decide) rfl (fun ls hl => ?_)
        obtain ⟨x5_8, ex5_8, h⟩ := nm_el h
        refine lv_iinc (v := x5_8) (lv' := [(5, .int x5_8), (4, .int x4_7), (3, .int x3_6), (6, .int r_5), (0, .ref (a0 0)), (1, .int x1), (2, .int x2)]) X.1 X.2.1 dX11_span_84 hl (k := 6) rfl (by rw [ex5_8]; rfl) (by decide) rfl (fun ls hl => ?_)
        refine lv_goto (tgt := 17) X.1 X.2.1 dX11_span_87 (by decide) ?_
        exact ih x3_6 x4_7 x5_8 g3_4 g4_4 g5_4 g7_4 g8_4 (some (a8 0)) ex h H locs ls hP hS (lv_sub hl [4, 5, 6, 2, 1, 0] rfl) K
  unfold f_X11_span_l at h
  refine lv_aload_n X.1 X.2.1 dX11_span_0 rfl (lv_at hl 0 rfl) ?_
  refine lv_iload_n X.1 X.2.1 dX11_span_1 rfl (lv_at hl 1 rfl) ?_
  refine lv_iconst (v := 0) X.1 X.2.1 dX11_span_2 (by decide) ?_
  refine lv_bipush (v := 60) X.1 X.2.1 dX11_span_3 (by decide) ?_
  obtain ⟨ex_1, hc_1, h1_1, h2_1⟩ := lr_el h
  rcases ex_1 with e_1 | r_1
  · exact callU_t (ws := (wPU tc a0 g0 q0_0 (a1 0) (a3 0) q0_3 q0_4 (a5 0) (a6 0) q0_7 q0_8 q0_9 q0_10 q0_13 ++ (wSt tc a1 g1 (some (a8 0)) (a2 0) ++ (wLg tc a2 g2 ++ (wSt tc a3 g3 q3_18 (a4 0) ++ (wLg tc a4 g4 ++ (wHd tc a5 g5 ++ (wCk tc a6 g6 (a5 0) (a7 0) ++ (wFa tc a7 g7 ++ (wLw tc a8 g8 ln8)))))))))) (ws' := (wPU tc a0 g0 q0_0 (a1 0) (a3 0) q0_3 q0_4 (a5 0) (a6 0) q0_7 q0_8 q0_9 q0_10 q0_13 ++ (wSt tc a1 g1 (some (a8 0)) (a2 0) ++ (wLg tc a2 g2 ++ (wSt tc a3 g3 q3_18 (a4 0) ++ (wLg tc a4 g4 ++ (wHd tc a5 g5 ++ (wCk tc a6 g6 (a5 0) (a7 0) ++ (wFa tc a7 g7 ++ (wLw tc a8 g8 ln8)))))))))) (wr := (wSt tc a1 g1 (some (a8 0)) (a2 0) ++ (wLg tc a2 g2 ++ (wSt tc a3 g3 q3_18 (a4 0) ++ (wLg tc a4 g4 ++ (wHd tc a5 g5 ++ (wCk tc a6 g6 (a5 0) (a7 0) ++ (wFa tc a7 g7 ++ (wLw tc a8 g8 ln8))))))))) [0] [1, 2, 3, 4, 5, 6, 7, 8, 9, 10, 11, 12, 13, 14, 15, 16, 17, 18, 19, 20, 21, 22, 23, 24, 25, 26, 27, 28, 29, 30, 31, 32, 33, 34, 35, 36, 37] [37, 0, 1, 2, 3, 4, 5, 6, 7, 8, 9, 10, 11, 12, 13, 14, 15, 16, 17, 18, 19, 20, 21, 22, 23, 24, 25, 26, 27, 28, 29, 30, 31, 32, 33, 34, 35, 36] (As := [.int x1, .int 0, .int 60]) (rest := []) q3_18 rfl (oUi (fun u q => (wPU tc a0 g0 q0_0 (a1 0) (a3 0) q0_3 q0_4 (a5 0) (a6 0) q0_7 q0_8 q0_9 q0_10 q0_13 ++ (wSt tc a1 g1 (some (a8 0)) (a2 0) ++ (wLg tc a2 g2 ++ (wSt tc a3 u.1 q (a4 0) ++ (wLg tc a4 u.2.1 ++ (wHd tc a5 u.2.2.1 ++ (wCk tc a6 g6 (a5 0) (a7 0) ++ (wFa tc a7 u.2.2.2.1 ++ (wLw tc a8 u.2.2.2.2 ln8)))))))))) (h1_1 _ rfl)) X hT hQ (c_X11_needNumber l hst dC dI sk sv tc a0 q0_0 (a1 0) (a3 0) q0_3 q0_4 (a5 0) (a6 0) q0_7 q0_8 q0_9 q0_10 q0_13 g0 x1 0 60 hc_1) mw_5_199 mw_5_201 mp_1_8 mw_1_1 mw_5_202 dc_X11_needNumber ⟨Nat.le_of_ble_eq_true rfl, Nat.le_of_ble_eq_true rfl⟩ rfl rfl ⟨Nat.le_of_ble_eq_true rfl, Nat.le_of_ble_eq_true rfl⟩ ⟨rfl, rfl, rfl, rfl, by decide, rfl, rfl⟩ hP (hDq _ _ _ _ _ _ _ _ _ _) hS 0 rfl rfl rfl hl.1 (Nat.le_of_ble_eq_true rfl) dX11_span_5 (Nat.le_of_ble_eq_true rfl) (Nat.le_of_ble_eq_true rfl)
  have h := h2_1 _ rfl
  refine callU_n (ws := (wPU tc a0 g0 q0_0 (a1 0) (a3 0) q0_3 q0_4 (a5 0) (a6 0) q0_7 q0_8 q0_9 q0_10 q0_13 ++ (wSt tc a1 g1 (some (a8 0)) (a2 0) ++ (wLg tc a2 g2 ++ (wSt tc a3 g3 q3_18 (a4 0) ++ (wLg tc a4 g4 ++ (wHd tc a5 g5 ++ (wCk tc a6 g6 (a5 0) (a7 0) ++ (wFa tc a7 g7 ++ (wLw tc a8 g8 ln8)))))))))) (ws' := (wPU tc a0 g0 q0_0 (a1 0) (a3 0) q0_3 q0_4 (a5 0) (a6 0) q0_7 q0_8 q0_9 q0_10 q0_13 ++ (wSt tc a1 g1 (some (a8 0)) (a2 0) ++ (wLg tc a2 g2 ++ (wSt tc a3 g3 q3_18 (a4 0) ++ (wLg tc a4 g4 ++ (wHd tc a5 g5 ++ (wCk tc a6 g6 (a5 0) (a7 0) ++ (wFa tc a7 g7 ++ (wLw tc a8 g8 ln8)))))))))) (wr := (wSt tc a1 g1 (some (a8 0)) (a2 0) ++ (wLg tc a2 g2 ++ (wSt tc a3 g3 q3_18 (a4 0) ++ (wLg tc a4 g4 ++ (wHd tc a5 g5 ++ (wCk tc a6 g6 (a5 0) (a7 0) ++ (wFa tc a7 g7 ++ (wLw tc a8 g8 ln8))))))))) [0] [1, 2, 3, 4, 5, 6, 7, 8, 9, 10, 11, 12, 13, 14, 15, 16, 17, 18, 19, 20, 21, 22, 23, 24, 25, 26, 27, 28, 29, 30, 31, 32, 33, 34, 35, 36, 37] [37, 0, 1, 2, 3, 4, 5, 6, 7, 8, 9, 10, 11, 12, 13, 14, 15, 16, 17, 18, 19, 20, 21, 22, 23, 24, 25, 26, 27, 28, 29, 30, 31, 32, 33, 34, 35, 36] (As := [.int x1, .int 0, .int 60]) (rest := []) X (c_X11_needNumber l hst dC dI sk sv tc a0 q0_0 (a1 0) (a3 0) q0_3 q0_4 (a5 0) (a6 0) q0_7 q0_8 q0_9 q0_10 q0_13 g0 x1 0 60 hc_1) mw_5_199 mw_5_201 mp_1_8 mw_1_1 mw_5_202 dc_X11_needNumber ⟨Nat.le_of_ble_eq_true rfl, Nat.le_of_ble_eq_true rfl⟩ rfl rfl ⟨Nat.le_of_ble_eq_true rfl, Nat.le_of_ble_eq_true rfl⟩ ⟨rfl, rfl, rfl, rfl, by decide, rfl, rfl⟩ hP (hDq _ _ _ _ _ _ _ _ _ _) hS 0 rfl rfl rfl hl.1 (Nat.le_of_ble_eq_true rfl) dX11_span_5 (fun H locs hP hS => ?_)
  refine W.eq (g2 := F0 m 8 ls []) rfl ?_
  refine lv_bipush (v := 100) X.1 X.2.1 dX11_span_8 (by decide) ?_
  refine lv_istore_n (lv' := [(3, .int 100), (0, .ref (a0 0)), (1, .int x1), (2, .int x2)]) X.1 X.2.1 dX11_span_10 rfl hl (by decide) rfl (fun ls hl => ?_)
  refine lv_iconst (v := 0) X.1 X.2.1 dX11_span_11 (by decide) ?_
  refine lv_istore (lv' := [(4, .int 0), (3, .int 100), (0, .ref (a0 0)), (1, .int x1), (2, .int x2)]) X.1 X.2.1 dX11_span_12 hl (by decide) rfl (fun ls hl => ?_)
  refine lv_iconst (v := 1) X.1 X.2.1 dX11_span_14 (by decide) ?_
  refine lv_istore (lv' := [(5, .int 1), (4, .int 0), (3, .int 100), (0, .ref (a0 0)), (1, .int x1), (2, .int x2)]) X.1 X.2.1 dX11_span_15 hl (by decide) rfl (fun ls hl => ?_)
  obtain ⟨ex_9, hL_9, h⟩ := bd_el h
  refine HL17 x1 x2 fu 100 0 1 g3 g4 g5 g7 g8 kq3_18 ex_9 hL_9 H locs ls hP hS (lv_sub hl [3, 4, 5, 2, 1, 0] rfl) (fun x3_9 x4_9 g3_9 g4_9 g5_9 g7_9 g8_9 q3_18_9 he H locs ls hP hS hl => ?_)
  subst he
  refine lv_iload_n X.1 X.2.1 dX11_span_90 rfl (lv_at hl 0 rfl) ?_
  obtain ⟨J100, eJ100, h⟩ := jn_el h
  have HJ100 : ∀ (s0_J100 : Int32) (H : Heap) (locs : List Loc) (ls : Array Slot), J100 s0_J100 = some res → va_P (dC, dI) vwCl (wPU tc a0 g0 q0_0 (a1 0) (a3 0) q0_3 q0_4 (a5 0) (a6 0) q0_7 q0_8 q0_9 q0_10 q0_13 ++ (wSt tc a1 g1 (some (a8 0)) (a2 0) ++ (wLg tc a2 g2 ++ (wSt tc a3 g3_9 q3_18_9 (a4 0) ++ (wLg tc a4 g4_9 ++ (wHd tc a5 g5_9 ++ (wCk tc a6 g6 (a5 0) (a7 0) ++ (wFa tc a7 g7_9 ++ (wLw tc a8 g8_9 ln8))))))))) H → va_S A s.heap H locs → lv_has ls 7 [] → W pr l e rm_X11_span_l s m args below meth c H locs 1 6 Q (F0 m 100 ls [.int s0_J100]) := by
    intro s0_J100 H locs ls h hP hS hl
    rw [eJ100] at h
    exact retU_i (fun u q => (wPU tc a0 g0 q0_0 (a1 0) (a3 0) q0_3 q0_4 (a5 0) (a6 0) q0_7 q0_8 q0_9 q0_10 q0_13 ++ (wSt tc a1 g1 (some (a8 0)) (a2 0) ++ (wLg tc a2 g2 ++ (wSt tc a3 u.1 q (a4 0) ++ (wLg tc a4 u.2.1 ++ (wHd tc a5 u.2.2.1 ++ (wCk tc a6 g6 (a5 0) (a7 0) ++ (wFa tc a7 u.2.2.2.1 ++ (wLw tc a8 u.2.2.2.2 ln8)))))))))) q3_18_9 (Option.some.inj h) X hQ hP hS (Nat.le_of_ble_eq_true rfl) (Nat.le_of_ble_eq_true rfl) dX11_span_100
  refine lv_if_eq (tgt := 99) X.1 X.2.1 dX11_span_91 (by decide) (fun hc => ?_) (fun hc => ?_)
  · have h := it_t hc h
    refine lv_iload_n X.1 X.2.1 dX11_span_99 rfl (lv_at hl 1 rfl) ?_
    exact HJ100 x3_9 H locs ls h hP hS (lv_sub hl [] rfl)
  · have h := it_f hc h
    refine lv_iload X.1 X.2.1 dX11_span_94 (lv_at hl 2 rfl) ?_
    refine lv_goto (tgt := 100) X.1 X.2.1 dX11_span_96 (by decide) ?_
    exact HJ100 x4_9 H locs ls h hP hS (lv_sub hl [] rfl)

def f_X11_led (g0 : Pic) (g1 : Pic) (g2 : Pic) (x1 : Int32) (x2 : Int32) : Option ((Nat × Unit) ⊕ (Int32 × Unit)) := lr (f_X11_needWriter g0 g1 x1) (fun e => .inl (e.1, ())) (fun _ => jn (fun (s0_J34 : Int32) => some (.inr (s0_J34, ()))) (fun J34 => (if x2 = 0 then bd (f_X7_rowsOf g2 x1) (fun r_2 => J34 r_2) else bd (f_X7_latestOf g2 x1) (fun r_3 => J34 r_3))))
abbrev rm_X11_led : Room := { frames := 7, cells := 1, slots := 6, locals := 141 }
set_option maxHeartbeats 4000000 in
set_option maxRecDepth 100000 in
theorem c_X11_led (l : Launch) (hst : l.stackTraces = false) (dC : Nat → ClassId) (dI : Nat → Nat → Nat) (sk sv : Nat → Nat) (tc : Nat → ClassId) (a0 : Nat → Nat) (q0_0 : Nat) (q0_2 : Nat) (q0_3 : Nat) (q0_4 : Nat) (q0_5 : Nat) (q0_6 : Nat) (q0_7 : Nat) (q0_8 : Nat) (q0_9 : Nat) (q0_10 : Nat) (q0_13 : Option Nat) (a1 : Nat → Nat) (q1_18 : Option Nat) (a2 : Nat → Nat) (g0 : Pic) (g1 : Pic) (g2 : Pic) (x1 : Int32) (x2 : Int32) {res : ((Nat × Unit) ⊕ (Int32 × Unit))} (h : f_X11_led g0 g1 g2 x1 x2 = some res) : CU l (dC, dI) sk sv (TY tc) yX11_led cX11_led 3 (some .int) rm_X11_led 1 6 [.ref (a0 0), .int x1, .int x2] (wPU tc a0 g0 q0_0 (a1 0) q0_2 q0_3 q0_4 q0_5 q0_6 q0_7 q0_8 q0_9 q0_10 q0_13 ++ (wSt tc a1 g1 q1_18 (a2 0) ++ (wLg tc a2 g2))) (oI (fun (_ : Unit) (_ : Option Nat) => (wPU tc a0 g0 q0_0 (a1 0) q0_2 q0_3 q0_4 q0_5 q0_6 q0_7 q0_8 q0_9 q0_10 q0_13 ++ (wSt tc a1 g1 q1_18 (a2 0) ++ (wLg tc a2 g2)))) res) := by
  refine ofCU (by decide) (Nat.le_of_ble_eq_true rfl) ?_
  intro pr e s m args below meth c A Q ls H locs X hT hQ hD0 hP hS hl
  have hD : ∀ z0 z1 z2, va_D A (wPU tc a0 z0 q0_0 (a1 0) q0_2 q0_3 q0_4 q0_5 q0_6 q0_7 q0_8 q0_9 q0_10 q0_13 ++ (wSt tc a1 z1 q1_18 (a2 0) ++ (wLg tc a2 z2))) := fun z0 z1 z2 => D_fst (ws := (wPU tc a0 g0 q0_0 (a1 0) q0_2 q0_3 q0_4 q0_5 q0_6 q0_7 q0_8 q0_9 q0_10 q0_13 ++ (wSt tc a1 g1 q1_18 (a2 0) ++ (wLg tc a2 g2)))) rfl hD0
  have hl : lv_has ls 3 [(0, .ref (a0 0)), (1, .int x1), (2, .int x2)] := hl
  unfold f_X11_led at h
  refine lv_aload_n X.1 X.2.1 dX11_led_0 rfl (lv_at hl 0 rfl) ?_
  refine lv_iload_n X.1 X.2.1 dX11_led_1 rfl (lv_at hl 1 rfl) ?_
  obtain ⟨ex_1, hc_1, h1_1, h2_1⟩ := lr_el h
  rcases ex_1 with e_1 | r_1
  · exact callU_t (ws := (wPU tc a0 g0 q0_0 (a1 0) q0_2 q0_3 q0_4 q0_5 q0_6 q0_7 q0_8 q0_9 q0_10 q0_13 ++ (wSt tc a1 g1 q1_18 (a2 0) ++ (wLg tc a2 g2)))) (ws' := (wPU tc a0 g0 q0_0 (a1 0) q0_2 q0_3 q0_4 q0_5 q0_6 q0_7 q0_8 q0_9 q0_10 q0_13 ++ (wSt tc a1 g1 q1_18 (a2 0) ++ (wLg tc a2 g2)))) (wr := (wLg tc a2 g2)) [0, 1, 2, 3, 4, 5, 6, 7, 8, 9, 10] [11, 12] [2, 3, 4, 5, 6, 7, 8, 9, 10, 11, 12, 0, 1] (As := [.int x1]) (rest := []) none rfl (oUi (fun (_ : Unit) (_ : Option Nat) => (wPU tc a0 g0 q0_0 (a1 0) q0_2 q0_3 q0_4 q0_5 q0_6 q0_7 q0_8 q0_9 q0_10 q0_13 ++ (wSt tc a1 g1 q1_18 (a2 0) ++ (wLg tc a2 g2)))) (h1_1 _ rfl)) X hT hQ (c_X11_needWriter l hst dC dI sk sv tc a0 q0_0 q0_2 q0_3 q0_4 q0_5 q0_6 q0_7 q0_8 q0_9 q0_10 q0_13 a1 q1_18 (a2 0) g0 g1 x1 hc_1) mw_5_38 mw_5_40 mp_1_6 mw_1_1 mw_5_41 dc_X11_needWriter ⟨Nat.le_of_ble_eq_true rfl, Nat.le_of_ble_eq_true rfl⟩ rfl rfl ⟨Nat.le_of_ble_eq_true rfl, Nat.le_of_ble_eq_true rfl⟩ ⟨rfl, rfl, rfl, rfl, by decide, rfl, rfl⟩ hP (hD _ _ _) hS 0 rfl rfl rfl hl.1 (Nat.le_of_ble_eq_true rfl) dX11_led_2 (Nat.le_of_ble_eq_true rfl) (Nat.le_of_ble_eq_true rfl)
  have h := h2_1 _ rfl
  refine callU_n (ws := (wPU tc a0 g0 q0_0 (a1 0) q0_2 q0_3 q0_4 q0_5 q0_6 q0_7 q0_8 q0_9 q0_10 q0_13 ++ (wSt tc a1 g1 q1_18 (a2 0) ++ (wLg tc a2 g2)))) (ws' := (wPU tc a0 g0 q0_0 (a1 0) q0_2 q0_3 q0_4 q0_5 q0_6 q0_7 q0_8 q0_9 q0_10 q0_13 ++ (wSt tc a1 g1 q1_18 (a2 0) ++ (wLg tc a2 g2)))) (wr := (wLg tc a2 g2)) [0, 1, 2, 3, 4, 5, 6, 7, 8, 9, 10] [11, 12] [2, 3, 4, 5, 6, 7, 8, 9, 10, 11, 12, 0, 1] (As := [.int x1]) (rest := []) X (c_X11_needWriter l hst dC dI sk sv tc a0 q0_0 q0_2 q0_3 q0_4 q0_5 q0_6 q0_7 q0_8 q0_9 q0_10 q0_13 a1 q1_18 (a2 0) g0 g1 x1 hc_1) mw_5_38 mw_5_40 mp_1_6 mw_1_1 mw_5_41 dc_X11_needWriter ⟨Nat.le_of_ble_eq_true rfl, Nat.le_of_ble_eq_true rfl⟩ rfl rfl ⟨Nat.le_of_ble_eq_true rfl, Nat.le_of_ble_eq_true rfl⟩ ⟨rfl, rfl, rfl, rfl, by decide, rfl, rfl⟩ hP (hD _ _ _) hS 0 rfl rfl rfl hl.1 (Nat.le_of_ble_eq_true rfl) dX11_led_2 (fun H locs hP hS => ?_)
  refine W.eq (g2 := F0 m 5 ls []) rfl ?_
  refine lv_iload_n X.1 X.2.1 dX11_led_5 rfl (lv_at hl 2 rfl) ?_
  obtain ⟨J34, eJ34, h⟩ := jn_el h
  have HJ34 : ∀ (s0_J34 : Int32) (H : Heap) (locs : List Loc) (ls : Array Slot), J34 s0_J34 = some res → va_P (dC, dI) vwCl (wPU tc a0 g0 q0_0 (a1 0) q0_2 q0_3 q0_4 q0_5 q0_6 q0_7 q0_8 q0_9 q0_10 q0_13 ++ (wSt tc a1 g1 q1_18 (a2 0) ++ (wLg tc a2 g2))) H → va_S A s.heap H locs → lv_has ls 3 [] → W pr l e rm_X11_led s m args below meth c H locs 1 6 Q (F0 m 34 ls [.int s0_J34]) := by
    intro s0_J34 H locs ls h hP hS hl
    rw [eJ34] at h
    exact retU_i (fun (_ : Unit) (_ : Option Nat) => (wPU tc a0 g0 q0_0 (a1 0) q0_2 q0_3 q0_4 q0_5 q0_6 q0_7 q0_8 q0_9 q0_10 q0_13 ++ (wSt tc a1 g1 q1_18 (a2 0) ++ (wLg tc a2 g2)))) none (Option.some.inj h) X hQ hP hS (Nat.le_of_ble_eq_true rfl) (Nat.le_of_ble_eq_true rfl) dX11_led_34
  refine lv_if_eq (tgt := 23) X.1 X.2.1 dX11_led_6 (by decide) (fun hc => ?_) (fun hc => ?_)
  · have h := it_t hc h
    refine lv_aload_n X.1 X.2.1 dX11_led_23 rfl (lv_at hl 0 rfl) ?_
    refine r_get (C := RX11) (T := TX11) (N := 15) (ci := 11) (v := .ref (a1 0)) X iw11 hP 0 rfl rfl 1 rfl mw_2_144 rfl dX11_led_24 ?_
    refine r_get (C := RX9) (T := TX9) (N := 20) (ci := 9) (v := .ref (a2 0)) X iw9 hP 1 rfl rfl 19 rfl mw_1_193 rfl dX11_led_27 ?_
    refine lv_iload_n X.1 X.2.1 dX11_led_30 rfl (lv_at hl 1 rfl) ?_
    obtain ⟨r_2, hc_2, h⟩ := bd_el h
    refine call_Vsi (ws := (wPU tc a0 g0 q0_0 (a1 0) q0_2 q0_3 q0_4 q0_5 q0_6 q0_7 q0_8 q0_9 q0_10 q0_13 ++ (wSt tc a1 g1 q1_18 (a2 0) ++ (wLg tc a2 g2)))) (ws' := (wPU tc a0 g0 q0_0 (a1 0) q0_2 q0_3 q0_4 q0_5 q0_6 q0_7 q0_8 q0_9 q0_10 q0_13 ++ (wSt tc a1 g1 q1_18 (a2 0) ++ (wLg tc a2 g2)))) (wPU tc a0 g0 q0_0 (a1 0) q0_2 q0_3 q0_4 q0_5 q0_6 q0_7 q0_8 q0_9 q0_10 q0_13 ++ (wSt tc a1 g1 q1_18 (a2 0))) [] (As := [.int x1]) (rest := []) X (c_X7_rowsOf l dC dI sk sv tc a2 g2 x1 hc_2) mw_7_101 mw_7_102 mw_7_103 mw_1_4 mw_7_104 dc_X7_rowsOf ⟨Nat.le_of_ble_eq_true rfl, Nat.le_of_ble_eq_true rfl⟩ rfl rfl ⟨Nat.le_of_ble_eq_true rfl, Nat.le_of_ble_eq_true rfl⟩ (by simp only [List.append_assoc, List.nil_append, List.append_nil]) (by simp only [List.append_assoc, List.nil_append, List.append_nil]) hP (hD _ _ _) hS 0 rfl rfl rfl hl.1 (Nat.le_of_ble_eq_true rfl) dX11_led_31 (fun H locs hP hS => ?_)
    exact HJ34 r_2 H locs ls h hP hS (lv_sub hl [] rfl)
  · have h := it_f hc h
    refine lv_aload_n X.1 X.2.1 dX11_led_9 rfl (lv_at hl 0 rfl) ?_
    refine r_get (C := RX11) (T := TX11) (N := 15) (ci := 11) (v := .ref (a1 0)) X iw11 hP 0 rfl rfl 1 rfl mw_2_144 rfl dX11_led_10 ?_
    refine r_get (C := RX9) (T := TX9) (N := 20) (ci := 9) (v := .ref (a2 0)) X iw9 hP 1 rfl rfl 19 rfl mw_1_193 rfl dX11_led_13 ?_
    refine lv_iload_n X.1 X.2.1 dX11_led_16 rfl (lv_at hl 1 rfl) ?_
    obtain ⟨r_3, hc_3, h⟩ := bd_el h
    refine call_Vsi (ws := (wPU tc a0 g0 q0_0 (a1 0) q0_2 q0_3 q0_4 q0_5 q0_6 q0_7 q0_8 q0_9 q0_10 q0_13 ++ (wSt tc a1 g1 q1_18 (a2 0) ++ (wLg tc a2 g2)))) (ws' := (wPU tc a0 g0 q0_0 (a1 0) q0_2 q0_3 q0_4 q0_5 q0_6 q0_7 q0_8 q0_9 q0_10 q0_13 ++ (wSt tc a1 g1 q1_18 (a2 0) ++ (wLg tc a2 g2)))) (wPU tc a0 g0 q0_0 (a1 0) q0_2 q0_3 q0_4 q0_5 q0_6 q0_7 q0_8 q0_9 q0_10 q0_13 ++ (wSt tc a1 g1 q1_18 (a2 0))) [] (As := [.int x1]) (rest := []) X (c_X7_latestOf l dC dI sk sv tc a2 g2 x1 hc_3) mw_7_93 mw_7_94 mw_7_95 mw_1_4 mw_7_96 dc_X7_latestOf ⟨Nat.le_of_ble_eq_true rfl, Nat.le_of_ble_eq_true rfl⟩ rfl rfl ⟨Nat.le_of_ble_eq_true rfl, Nat.le_of_ble_eq_true rfl⟩ (by simp only [List.append_assoc, List.nil_append, List.append_nil]) (by simp only [List.append_assoc, List.nil_append, List.append_nil]) hP (hD _ _ _) hS 0 rfl rfl rfl hl.1 (Nat.le_of_ble_eq_true rfl) dX11_led_17 (fun H locs hP hS => ?_)
    refine lv_goto (tgt := 34) X.1 X.2.1 dX11_led_20 (by decide) ?_
    exact HJ34 r_3 H locs ls h hP hS (lv_sub hl [] rfl)

def f_X11_log (g0 : Pic) (g1 : Pic) (g2 : Pic) (x1 : Int32) (x2 : Int32) : Option ((Nat × Unit) ⊕ (Int32 × Unit)) := jn (fun (_ : Unit) => some (.inl (2, ()))) (fun J9 => (if x2 < 0 then J9 () else (if x2 < 4 then bd (f_X7_tell g2 x1 x2) (fun r_1 => some (.inr (r_1, ()))) else J9 ())))
abbrev rm_X11_log : Room := { frames := 6, cells := 1, slots := 6, locals := 120 }
set_option maxHeartbeats 4000000 in
set_option maxRecDepth 100000 in
theorem c_X11_log (l : Launch) (hst : l.stackTraces = false) (dC : Nat → ClassId) (dI : Nat → Nat → Nat) (sk sv : Nat → Nat) (tc : Nat → ClassId) (a0 : Nat → Nat) (q0_0 : Nat) (q0_2 : Nat) (q0_3 : Nat) (q0_4 : Nat) (q0_5 : Nat) (q0_6 : Nat) (q0_7 : Nat) (q0_8 : Nat) (q0_9 : Nat) (q0_10 : Nat) (q0_13 : Option Nat) (a1 : Nat → Nat) (q1_18 : Option Nat) (a2 : Nat → Nat) (g0 : Pic) (g1 : Pic) (g2 : Pic) (x1 : Int32) (x2 : Int32) {res : ((Nat × Unit) ⊕ (Int32 × Unit))} (h : f_X11_log g0 g1 g2 x1 x2 = some res) : CU l (dC, dI) sk sv (TY tc) yX11_log cX11_log 3 (some .int) rm_X11_log 1 6 [.ref (a0 0), .int x1, .int x2] (wPU tc a0 g0 q0_0 (a1 0) q0_2 q0_3 q0_4 q0_5 q0_6 q0_7 q0_8 q0_9 q0_10 q0_13 ++ (wSt tc a1 g1 q1_18 (a2 0) ++ (wLg tc a2 g2))) (oI (fun (_ : Unit) (_ : Option Nat) => (wPU tc a0 g0 q0_0 (a1 0) q0_2 q0_3 q0_4 q0_5 q0_6 q0_7 q0_8 q0_9 q0_10 q0_13 ++ (wSt tc a1 g1 q1_18 (a2 0) ++ (wLg tc a2 g2)))) res) := by
  refine ofCU (by decide) (Nat.le_of_ble_eq_true rfl) ?_
  intro pr e s m args below meth c A Q ls H locs X hT hQ hD0 hP hS hl
  have hD : ∀ z0 z1 z2, va_D A (wPU tc a0 z0 q0_0 (a1 0) q0_2 q0_3 q0_4 q0_5 q0_6 q0_7 q0_8 q0_9 q0_10 q0_13 ++ (wSt tc a1 z1 q1_18 (a2 0) ++ (wLg tc a2 z2))) := fun z0 z1 z2 => D_fst (ws := (wPU tc a0 g0 q0_0 (a1 0) q0_2 q0_3 q0_4 q0_5 q0_6 q0_7 q0_8 q0_9 q0_10 q0_13 ++ (wSt tc a1 g1 q1_18 (a2 0) ++ (wLg tc a2 g2)))) rfl hD0
  have hl : lv_has ls 3 [(0, .ref (a0 0)), (1, .int x1), (2, .int x2)] := hl
  unfold f_X11_log at h
  refine lv_iload_n X.1 X.2.1 dX11_log_0 rfl (lv_at hl 2 rfl) ?_
  obtain ⟨J9, eJ9, h⟩ := jn_el h
  have HJ9 : ∀ (_ : Unit) (H : Heap) (locs : List Loc) (ls : Array Slot), J9 () = some res → va_P (dC, dI) vwCl (wPU tc a0 g0 q0_0 (a1 0) q0_2 q0_3 q0_4 q0_5 q0_6 q0_7 q0_8 q0_9 q0_10 q0_13 ++ (wSt tc a1 g1 q1_18 (a2 0) ++ (wLg tc a2 g2))) H → va_S A s.heap H locs → lv_has ls 3 [] → W pr l e rm_X11_log s m args below meth c H locs 0 0 Q (F0 m 9 ls []) := by
    intro _ H locs ls h hP hS hl
    rw [eJ9] at h
    exact thr_W (k := 2) (text := "no such thing of a row") (ti := 32) none (oUi (fun (_ : Unit) (_ : Option Nat) => (wPU tc a0 g0 q0_0 (a1 0) q0_2 q0_3 q0_4 q0_5 q0_6 q0_7 q0_8 q0_9 q0_10 q0_13 ++ (wSt tc a1 g1 q1_18 (a2 0) ++ (wLg tc a2 g2)))) (Option.some.inj h)) X hT hst at_163 mw_5_7 mw_1_27 (List.mem_of_getElem? (i := 38) rfl) hQ hP hS hl.1 dX11_log_9 dX11_log_12 dX11_log_13 dX11_log_16 dX11_log_19 (Nat.le_of_ble_eq_true rfl) (Nat.le_of_ble_eq_true rfl) (Nat.le_of_ble_eq_true rfl) (Nat.le_of_ble_eq_true rfl) (Nat.le_of_ble_eq_true rfl) (Nat.le_of_ble_eq_true rfl)
  refine lv_if_lt (tgt := 9) X.1 X.2.1 dX11_log_1 (by decide) (fun hc => ?_) (fun hc => ?_)
  · have h := it_t hc h
    exact HJ9 () H locs ls h hP hS (lv_sub hl [] rfl)
  · have h := it_f hc h
    refine lv_iload_n X.1 X.2.1 dX11_log_4 rfl (lv_at hl 2 rfl) ?_
    refine lv_iconst (v := 4) X.1 X.2.1 dX11_log_5 (by decide) ?_
    refine lv_icmp_lt (tgt := 20) X.1 X.2.1 dX11_log_6 (by decide) (fun hc => ?_) (fun hc => ?_)
    · have h := it_t hc h
      refine lv_aload_n X.1 X.2.1 dX11_log_20 rfl (lv_at hl 0 rfl) ?_
      refine r_get (C := RX11) (T := TX11) (N := 15) (ci := 11) (v := .ref (a1 0)) X iw11 hP 0 rfl rfl 1 rfl mw_2_144 rfl dX11_log_21 ?_
      refine r_get (C := RX9) (T := TX9) (N := 20) (ci := 9) (v := .ref (a2 0)) X iw9 hP 1 rfl rfl 19 rfl mw_1_193 rfl dX11_log_24 ?_
      refine lv_iload_n X.1 X.2.1 dX11_log_27 rfl (lv_at hl 1 rfl) ?_
      refine lv_iload_n X.1 X.2.1 dX11_log_28 rfl (lv_at hl 2 rfl) ?_
      obtain ⟨r_1, hc_1, h⟩ := bd_el h
      refine call_Vsi (ws := (wPU tc a0 g0 q0_0 (a1 0) q0_2 q0_3 q0_4 q0_5 q0_6 q0_7 q0_8 q0_9 q0_10 q0_13 ++ (wSt tc a1 g1 q1_18 (a2 0) ++ (wLg tc a2 g2)))) (ws' := (wPU tc a0 g0 q0_0 (a1 0) q0_2 q0_3 q0_4 q0_5 q0_6 q0_7 q0_8 q0_9 q0_10 q0_13 ++ (wSt tc a1 g1 q1_18 (a2 0) ++ (wLg tc a2 g2)))) (wPU tc a0 g0 q0_0 (a1 0) q0_2 q0_3 q0_4 q0_5 q0_6 q0_7 q0_8 q0_9 q0_10 q0_13 ++ (wSt tc a1 g1 q1_18 (a2 0))) [] (As := [.int x1, .int x2]) (rest := []) X (c_X7_tell l dC dI sk sv tc a2 g2 x1 x2 hc_1) mw_7_113 mw_7_98 mw_7_99 mw_1_4 mw_7_100 dc_X7_tell ⟨Nat.le_of_ble_eq_true rfl, Nat.le_of_ble_eq_true rfl⟩ rfl rfl ⟨Nat.zero_le _, Nat.zero_le _⟩ (by simp only [List.append_assoc, List.nil_append, List.append_nil]) (by simp only [List.append_assoc, List.nil_append, List.append_nil]) hP (hD _ _ _) hS 0 rfl rfl rfl hl.1 (Nat.le_of_ble_eq_true rfl) dX11_log_29 (fun H locs hP hS => ?_)
      exact retU_i (fun (_ : Unit) (_ : Option Nat) => (wPU tc a0 g0 q0_0 (a1 0) q0_2 q0_3 q0_4 q0_5 q0_6 q0_7 q0_8 q0_9 q0_10 q0_13 ++ (wSt tc a1 g1 q1_18 (a2 0) ++ (wLg tc a2 g2)))) none (Option.some.inj h) X hQ hP hS (Nat.le_of_ble_eq_true rfl) (Nat.le_of_ble_eq_true rfl) dX11_log_32
    · have h := it_f hc h
      exact HJ9 () H locs ls h hP hS (lv_sub hl [] rfl)

def f_X11_seed (g0 : Pic) (g1 : Pic) (x1 : Int32) : Option (Int32 × Pic) := nm ((g1 16 0)) (fun x2_1 => nm (pu g1 16 0 x1) (fun g1_2 => some (x2_1, g1_2)))
abbrev rm_X11_seed : Room := { frames := 0, cells := 0, slots := 0, locals := 0 }
set_option maxHeartbeats 4000000 in
set_option maxRecDepth 100000 in
theorem c_X11_seed (l : Launch) (dC : Nat → ClassId) (dI : Nat → Nat → Nat) (sk sv : Nat → Nat) (tc : Nat → ClassId) (a0 : Nat → Nat) (q0_0 : Nat) (q0_2 : Nat) (q0_3 : Nat) (q0_4 : Nat) (q0_5 : Nat) (q0_6 : Nat) (q0_7 : Nat) (q0_8 : Nat) (q0_9 : Nat) (q0_10 : Nat) (q0_13 : Option Nat) (a1 : Nat → Nat) (q1_18 : Option Nat) (q1_19 : Nat) (g0 : Pic) (g1 : Pic) (x1 : Int32) {r0 : Int32} {G1 : Pic} (h : f_X11_seed g0 g1 x1 = some (r0, G1)) : CT l (dC, dI) sk sv (TY tc) yX11_seed cX11_seed 3 (some .int) rm_X11_seed [.ref (a0 0), .int x1] (wPU tc a0 g0 q0_0 (a1 0) q0_2 q0_3 q0_4 q0_5 q0_6 q0_7 q0_8 q0_9 q0_10 q0_13 ++ (wSt tc a1 g1 q1_18 q1_19)) (some (.int r0)) (wPU tc a0 g0 q0_0 (a1 0) q0_2 q0_3 q0_4 q0_5 q0_6 q0_7 q0_8 q0_9 q0_10 q0_13 ++ (wSt tc a1 G1 q1_18 q1_19)) := by
  refine ofCT (by decide) (Nat.le_of_ble_eq_true rfl) ?_
  intro pr e s m args below meth c A Q ls H locs X hQ hD0 hP hS hl
  have hD : ∀ z0 z1, va_D A (wPU tc a0 z0 q0_0 (a1 0) q0_2 q0_3 q0_4 q0_5 q0_6 q0_7 q0_8 q0_9 q0_10 q0_13 ++ (wSt tc a1 z1 q1_18 q1_19)) := fun z0 z1 => D_fst (ws := (wPU tc a0 g0 q0_0 (a1 0) q0_2 q0_3 q0_4 q0_5 q0_6 q0_7 q0_8 q0_9 q0_10 q0_13 ++ (wSt tc a1 g1 q1_18 q1_19))) rfl hD0
  have hl : lv_has ls 3 [(0, .ref (a0 0)), (1, .int x1)] := hl
  unfold f_X11_seed at h
  refine lv_aload_n X.1 X.2.1 dX11_seed_0 rfl (lv_at hl 0 rfl) ?_
  refine r_get (C := RX11) (T := TX11) (N := 15) (ci := 11) (v := .ref (a1 0)) X iw11 hP 0 rfl rfl 1 rfl mw_2_144 rfl dX11_seed_1 ?_
  refine r_get (C := RX9) (T := TX9) (N := 20) (ci := 9) (v := .int (g1 16 0)) X iw9 hP 1 rfl rfl 16 rfl mw_1_185 rfl dX11_seed_4 ?_
  obtain ⟨x2_1, ex2_1, h⟩ := nm_el h
  refine tp_i ex2_1 ?_
  refine lv_istore_n (lv' := [(2, .int x2_1), (0, .ref (a0 0)), (1, .int x1)]) X.1 X.2.1 dX11_seed_7 rfl hl (by decide) rfl (fun ls hl => ?_)
  refine lv_aload_n X.1 X.2.1 dX11_seed_8 rfl (lv_at hl 1 rfl) ?_
  refine r_get (C := RX11) (T := TX11) (N := 15) (ci := 11) (v := .ref (a1 0)) X iw11 hP 0 rfl rfl 1 rfl mw_2_144 rfl dX11_seed_9 ?_
  refine lv_iload_n X.1 X.2.1 dX11_seed_12 rfl (lv_at hl 2 rfl) ?_
  obtain ⟨g1_2, eg1_2, h⟩ := nm_el h
  refine r_put (C := RX9) (T := TX9) (N := 20) (ci := 9) tyX9 tyX9_ok nmX9 X iw9 hP (hD _ _) hS 1 rfl rfl 16 rfl mw_1_185 rfl rfl rfl rfl dX11_seed_13 (wPU tc a0 g0 q0_0 (a1 0) q0_2 q0_3 q0_4 q0_5 q0_6 q0_7 q0_8 q0_9 q0_10 q0_13 ++ (wSt tc a1 g1_2 q1_18 q1_19)) (by rw [eg1_2]; rfl) (fun H locs hP hS => ?_)
  refine lv_iload_n X.1 X.2.1 dX11_seed_16 rfl (lv_at hl 0 rfl) ?_
  exact ret_i (fun u => (wPU tc a0 g0 q0_0 (a1 0) q0_2 q0_3 q0_4 q0_5 q0_6 q0_7 q0_8 q0_9 q0_10 q0_13 ++ (wSt tc a1 u q1_18 q1_19))) (res := (r0, G1)) (Option.some.inj h) X hQ hP hS dX11_seed_17

def f_X11_count_n (g0 : Pic) (g1 : Pic) (g2 : Pic) (x1 : Int32) : Option (Int32) := (if x1 = 0 then some (g1 0 0) else (if x1 = 1 then some (g1 7 0) else (if x1 = 2 then some (g1 17 0) else (if x1 = 3 then some (-1) else (if x1 = 4 then some (g1 4 0) else (if x1 = 5 then some (g1 6 0) else (if x1 = 6 then some (g1 13 0) else (if x1 = 7 then some (g1 14 0) else (if x1 = 8 then some (g1 15 0) else (if x1 = 9 then bd (f_X9_tiredTogether g1) (fun r_2 => some r_2) else (if x1 = 10 then some (g2 1 0) else (if x1 = 11 then some (g0 12 0) else some (-1)))))))))))))
abbrev rm_X11_count_n : Room := { frames := 1, cells := 0, slots := 0, locals := 22 }
set_option maxHeartbeats 4000000 in
set_option maxRecDepth 100000 in
theorem c_X11_count_n (l : Launch) (dC : Nat → ClassId) (dI : Nat → Nat → Nat) (sk sv : Nat → Nat) (tc : Nat → ClassId) (a0 : Nat → Nat) (q0_0 : Nat) (q0_2 : Nat) (q0_3 : Nat) (q0_4 : Nat) (q0_5 : Nat) (q0_6 : Nat) (q0_7 : Nat) (q0_8 : Nat) (q0_9 : Nat) (q0_10 : Nat) (q0_13 : Option Nat) (a1 : Nat → Nat) (a2 : Nat → Nat) (g0 : Pic) (g1 : Pic) (g2 : Pic) (x1 : Int32) {r0 : Int32} (h : f_X11_count_n g0 g1 g2 x1 = some r0) : CT l (dC, dI) sk sv (TY tc) yX11_count cX11_count 2 (some .int) rm_X11_count_n [.ref (a0 0), .int x1] (wPU tc a0 g0 q0_0 (a1 0) q0_2 q0_3 q0_4 q0_5 q0_6 q0_7 q0_8 q0_9 q0_10 q0_13 ++ (wSt tc a1 g1 none (a2 0) ++ (wLg tc a2 g2))) (some (.int r0)) (wPU tc a0 g0 q0_0 (a1 0) q0_2 q0_3 q0_4 q0_5 q0_6 q0_7 q0_8 q0_9 q0_10 q0_13 ++ (wSt tc a1 g1 none (a2 0) ++ (wLg tc a2 g2))) := by
  refine ofCT (by decide) (Nat.le_of_ble_eq_true rfl) ?_
  intro pr e s m args below meth c A Q ls H locs X hQ hD0 hP hS hl
  have hD : ∀ z0 z1 z2, va_D A (wPU tc a0 z0 q0_0 (a1 0) q0_2 q0_3 q0_4 q0_5 q0_6 q0_7 q0_8 q0_9 q0_10 q0_13 ++ (wSt tc a1 z1 none (a2 0) ++ (wLg tc a2 z2))) := fun z0 z1 z2 => D_fst (ws := (wPU tc a0 g0 q0_0 (a1 0) q0_2 q0_3 q0_4 q0_5 q0_6 q0_7 q0_8 q0_9 q0_10 q0_13 ++ (wSt tc a1 g1 none (a2 0) ++ (wLg tc a2 g2)))) rfl hD0
  have hl : lv_has ls 2 [(0, .ref (a0 0)), (1, .int x1)] := hl
  unfold f_X11_count_n at h
  refine lv_iload_n X.1 X.2.1 dX11_count_0 rfl (lv_at hl 1 rfl) ?_
  by_cases hq1_0 : x1 = 0
  · have h := it_t hq1_0 h
    refine lv_tableIn (tgt := 64) X.1 X.2.1 dX11_count_1 (by rw [hq1_0]; decide) (by rw [hq1_0]; decide) (by rw [hq1_0]; rfl) (by decide) ?_
    refine lv_aload_n X.1 X.2.1 dX11_count_64 rfl (lv_at hl 0 rfl) ?_
    refine r_get (C := RX11) (T := TX11) (N := 15) (ci := 11) (v := .ref (a1 0)) X iw11 hP 0 rfl rfl 1 rfl mw_2_144 rfl dX11_count_65 ?_
    refine r_get (C := RX9) (T := TX9) (N := 20) (ci := 9) (v := .int (g1 0 0)) X iw9 hP 1 rfl rfl 0 rfl mw_1_108 rfl dX11_count_68 ?_
    exact ret_i0 (Option.some.inj h) X hQ hP hS dX11_count_71
  · have h := it_f hq1_0 h
    by_cases hq1_1 : x1 = 1
    · have h := it_t hq1_1 h
      refine lv_tableIn (tgt := 72) X.1 X.2.1 dX11_count_1 (by rw [hq1_1]; decide) (by rw [hq1_1]; decide) (by rw [hq1_1]; rfl) (by decide) ?_
      refine lv_aload_n X.1 X.2.1 dX11_count_72 rfl (lv_at hl 0 rfl) ?_
      refine r_get (C := RX11) (T := TX11) (N := 15) (ci := 11) (v := .ref (a1 0)) X iw11 hP 0 rfl rfl 1 rfl mw_2_144 rfl dX11_count_73 ?_
      refine r_get (C := RX9) (T := TX9) (N := 20) (ci := 9) (v := .int (g1 7 0)) X iw9 hP 1 rfl rfl 7 rfl mw_1_146 rfl dX11_count_76 ?_
      exact ret_i0 (Option.some.inj h) X hQ hP hS dX11_count_79
    · have h := it_f hq1_1 h
      by_cases hq1_2 : x1 = 2
      · have h := it_t hq1_2 h
        refine lv_tableIn (tgt := 80) X.1 X.2.1 dX11_count_1 (by rw [hq1_2]; decide) (by rw [hq1_2]; decide) (by rw [hq1_2]; rfl) (by decide) ?_
        refine lv_aload_n X.1 X.2.1 dX11_count_80 rfl (lv_at hl 0 rfl) ?_
        refine r_get (C := RX11) (T := TX11) (N := 15) (ci := 11) (v := .ref (a1 0)) X iw11 hP 0 rfl rfl 1 rfl mw_2_144 rfl dX11_count_81 ?_
        refine r_get (C := RX9) (T := TX9) (N := 20) (ci := 9) (v := .int (g1 17 0)) X iw9 hP 1 rfl rfl 17 rfl mw_1_187 rfl dX11_count_84 ?_
        exact ret_i0 (Option.some.inj h) X hQ hP hS dX11_count_87
      · have h := it_f hq1_2 h
        by_cases hq1_3 : x1 = 3
        · have h := it_t hq1_3 h
          refine lv_tableIn (tgt := 88) X.1 X.2.1 dX11_count_1 (by rw [hq1_3]; decide) (by rw [hq1_3]; decide) (by rw [hq1_3]; rfl) (by decide) ?_
          refine lv_aload_n X.1 X.2.1 dX11_count_88 rfl (lv_at hl 0 rfl) ?_
          refine r_get (C := RX11) (T := TX11) (N := 15) (ci := 11) (v := .ref (a1 0)) X iw11 hP 0 rfl rfl 1 rfl mw_2_144 rfl dX11_count_89 ?_
          refine r_get (C := RX9) (T := TX9) (N := 20) (ci := 9) (v := .null) X iw9 hP 1 rfl rfl 18 rfl mw_1_189 rfl dX11_count_92 ?_
          refine lv_ifnonnullN X.1 X.2.1 dX11_count_95 ?_
          refine lv_iconst (v := (-1)) X.1 X.2.1 dX11_count_98 (by decide) ?_
          refine lv_goto (tgt := 112) X.1 X.2.1 dX11_count_99 (by decide) ?_
          exact ret_i0 (Option.some.inj h) X hQ hP hS dX11_count_112
        · have h := it_f hq1_3 h
          by_cases hq1_4 : x1 = 4
          · have h := it_t hq1_4 h
            refine lv_tableIn (tgt := 113) X.1 X.2.1 dX11_count_1 (by rw [hq1_4]; decide) (by rw [hq1_4]; decide) (by rw [hq1_4]; rfl) (by decide) ?_
            refine lv_aload_n X.1 X.2.1 dX11_count_113 rfl (lv_at hl 0 rfl) ?_
            refine r_get (C := RX11) (T := TX11) (N := 15) (ci := 11) (v := .ref (a1 0)) X iw11 hP 0 rfl rfl 1 rfl mw_2_144 rfl dX11_count_114 ?_
            refine r_get (C := RX9) (T := TX9) (N := 20) (ci := 9) (v := .int (g1 4 0)) X iw9 hP 1 rfl rfl 4 rfl mw_1_130 rfl dX11_count_117 ?_
            exact ret_i0 (Option.some.inj h) X hQ hP hS dX11_count_120
          · have h := it_f hq1_4 h
            by_cases hq1_5 : x1 = 5
            · have h := it_t hq1_5 h
              refine lv_tableIn (tgt := 121) X.1 X.2.1 dX11_count_1 (by rw [hq1_5]; decide) (by rw [hq1_5]; decide) (by rw [hq1_5]; rfl) (by decide) ?_
              refine lv_aload_n X.1 X.2.1 dX11_count_121 rfl (lv_at hl 0 rfl) ?_
              refine r_get (C := RX11) (T := TX11) (N := 15) (ci := 11) (v := .ref (a1 0)) X iw11 hP 0 rfl rfl 1 rfl mw_2_144 rfl dX11_count_122 ?_
              refine r_get (C := RX9) (T := TX9) (N := 20) (ci := 9) (v := .int (g1 6 0)) X iw9 hP 1 rfl rfl 6 rfl mw_1_140 rfl dX11_count_125 ?_
              exact ret_i0 (Option.some.inj h) X hQ hP hS dX11_count_128
            · have h := it_f hq1_5 h
              by_cases hq1_6 : x1 = 6
              · have h := it_t hq1_6 h
                refine lv_tableIn (tgt := 129) X.1 X.2.1 dX11_count_1 (by rw [hq1_6]; decide) (by rw [hq1_6]; decide) (by rw [hq1_6]; rfl) (by decide) ?_
                refine lv_aload_n X.1 X.2.1 dX11_count_129 rfl (lv_at hl 0 rfl) ?_
                refine r_get (C := RX11) (T := TX11) (N := 15) (ci := 11) (v := .ref (a1 0)) X iw11 hP 0 rfl rfl 1 rfl mw_2_144 rfl dX11_count_130 ?_
                refine r_get (C := RX9) (T := TX9) (N := 20) (ci := 9) (v := .int (g1 13 0)) X iw9 hP 1 rfl rfl 13 rfl mw_1_175 rfl dX11_count_133 ?_
                exact ret_i0 (Option.some.inj h) X hQ hP hS dX11_count_136
              · have h := it_f hq1_6 h
                by_cases hq1_7 : x1 = 7
                · have h := it_t hq1_7 h
                  refine lv_tableIn (tgt := 137) X.1 X.2.1 dX11_count_1 (by rw [hq1_7]; decide) (by rw [hq1_7]; decide) (by rw [hq1_7]; rfl) (by decide) ?_
                  refine lv_aload_n X.1 X.2.1 dX11_count_137 rfl (lv_at hl 0 rfl) ?_
                  refine r_get (C := RX11) (T := TX11) (N := 15) (ci := 11) (v := .ref (a1 0)) X iw11 hP 0 rfl rfl 1 rfl mw_2_144 rfl dX11_count_138 ?_
                  refine r_get (C := RX9) (T := TX9) (N := 20) (ci := 9) (v := .int (g1 14 0)) X iw9 hP 1 rfl rfl 14 rfl mw_1_179 rfl dX11_count_141 ?_
                  exact ret_i0 (Option.some.inj h) X hQ hP hS dX11_count_144
                · have h := it_f hq1_7 h
                  by_cases hq1_8 : x1 = 8
                  · have h := it_t hq1_8 h
                    refine lv_tableIn (tgt := 145) X.1 X.2.1 dX11_count_1 (by rw [hq1_8]; decide) (by rw [hq1_8]; decide) (by rw [hq1_8]; rfl) (by decide) ?_
                    refine lv_aload_n X.1 X.2.1 dX11_count_145 rfl (lv_at hl 0 rfl) ?_
                    refine r_get (C := RX11) (T := TX11) (N := 15) (ci := 11) (v := .ref (a1 0)) X iw11 hP 0 rfl rfl 1 rfl mw_2_144 rfl dX11_count_146 ?_
                    refine r_get (C := RX9) (T := TX9) (N := 20) (ci := 9) (v := .int (g1 15 0)) X iw9 hP 1 rfl rfl 15 rfl mw_1_183 rfl dX11_count_149 ?_
                    exact ret_i0 (Option.some.inj h) X hQ hP hS dX11_count_152
                  · have h := it_f hq1_8 h
                    by_cases hq1_9 : x1 = 9
                    · have h := it_t hq1_9 h
                      refine lv_tableIn (tgt := 153) X.1 X.2.1 dX11_count_1 (by rw [hq1_9]; decide) (by rw [hq1_9]; decide) (by rw [hq1_9]; rfl) (by decide) ?_
                      refine lv_aload_n X.1 X.2.1 dX11_count_153 rfl (lv_at hl 0 rfl) ?_
                      refine r_get (C := RX11) (T := TX11) (N := 15) (ci := 11) (v := .ref (a1 0)) X iw11 hP 0 rfl rfl 1 rfl mw_2_144 rfl dX11_count_154 ?_
                      obtain ⟨r_2, hc_2, h⟩ := bd_el h
                      refine call_Vsi (ws := (wPU tc a0 g0 q0_0 (a1 0) q0_2 q0_3 q0_4 q0_5 q0_6 q0_7 q0_8 q0_9 q0_10 q0_13 ++ (wSt tc a1 g1 none (a2 0) ++ (wLg tc a2 g2)))) (ws' := (wPU tc a0 g0 q0_0 (a1 0) q0_2 q0_3 q0_4 q0_5 q0_6 q0_7 q0_8 q0_9 q0_10 q0_13 ++ (wSt tc a1 g1 none (a2 0) ++ (wLg tc a2 g2)))) (wPU tc a0 g0 q0_0 (a1 0) q0_2 q0_3 q0_4 q0_5 q0_6 q0_7 q0_8 q0_9 q0_10 q0_13) (wLg tc a2 g2) (As := []) (rest := []) X (c_X9_tiredTogether l dC dI sk sv tc a1 none (a2 0) g1 hc_2) mw_3_107 mw_3_108 mw_3_109 mw_1_3 mw_3_110 dc_X9_tiredTogether ⟨Nat.le_of_ble_eq_true rfl, Nat.le_of_ble_eq_true rfl⟩ rfl rfl ⟨Nat.zero_le _, Nat.zero_le _⟩ (by simp only [List.append_assoc, List.nil_append, List.append_nil]) (by simp only [List.append_assoc, List.nil_append, List.append_nil]) hP (hD _ _ _) hS 0 rfl rfl rfl hl.1 (Nat.le_of_ble_eq_true rfl) dX11_count_157 (fun H locs hP hS => ?_)
                      exact ret_i0 (Option.some.inj h) X hQ hP hS dX11_count_160
                    · have h := it_f hq1_9 h
                      by_cases hq1_10 : x1 = 10
                      · have h := it_t hq1_10 h
                        refine lv_tableIn (tgt := 161) X.1 X.2.1 dX11_count_1 (by rw [hq1_10]; decide) (by rw [hq1_10]; decide) (by rw [hq1_10]; rfl) (by decide) ?_
                        refine lv_aload_n X.1 X.2.1 dX11_count_161 rfl (lv_at hl 0 rfl) ?_
                        refine r_get (C := RX11) (T := TX11) (N := 15) (ci := 11) (v := .ref (a1 0)) X iw11 hP 0 rfl rfl 1 rfl mw_2_144 rfl dX11_count_162 ?_
                        refine r_get (C := RX9) (T := TX9) (N := 20) (ci := 9) (v := .ref (a2 0)) X iw9 hP 1 rfl rfl 19 rfl mw_1_193 rfl dX11_count_165 ?_
                        refine r_get (C := RX7) (T := TX7) (N := 3) (ci := 7) (v := .int (g2 1 0)) X iw7 hP 11 rfl rfl 1 rfl mw_1_93 rfl dX11_count_168 ?_
                        exact ret_i0 (Option.some.inj h) X hQ hP hS dX11_count_171
                      · have h := it_f hq1_10 h
                        by_cases hq1_11 : x1 = 11
                        · have h := it_t hq1_11 h
                          refine lv_tableIn (tgt := 172) X.1 X.2.1 dX11_count_1 (by rw [hq1_11]; decide) (by rw [hq1_11]; decide) (by rw [hq1_11]; rfl) (by decide) ?_
                          refine lv_aload_n X.1 X.2.1 dX11_count_172 rfl (lv_at hl 0 rfl) ?_
                          refine r_get (C := RX11) (T := TX11) (N := 15) (ci := 11) (v := .int (g0 12 0)) X iw11 hP 0 rfl rfl 12 rfl mw_2_155 rfl dX11_count_173 ?_
                          exact ret_i0 (Option.some.inj h) X hQ hP hS dX11_count_176
                        · have h := it_f hq1_11 h
                          refine lv_tableOut (tgt := 177) X.1 X.2.1 dX11_count_1 (sw_out x1 [0, 1, 2, 3, 4, 5, 6, 7, 8, 9, 10, 11] 12 (by decide) (by decide) (by simp only [List.mem_cons, List.not_mem_nil, or_false, forall_eq_or_imp, forall_eq]; exact ⟨hq1_0, hq1_1, hq1_2, hq1_3, hq1_4, hq1_5, hq1_6, hq1_7, hq1_8, hq1_9, hq1_10, hq1_11⟩)) (by decide) ?_
                          refine lv_iconst (v := (-1)) X.1 X.2.1 dX11_count_177 (by decide) ?_
                          exact ret_i0 (Option.some.inj h) X hQ hP hS dX11_count_178

def f_X11_count_l (ln3 : Nat → Nat) (g0 : Pic) (g1 : Pic) (g2 : Pic) (g3 : Pic) (x1 : Int32) : Option (Int32) := (if x1 = 0 then some (g1 0 0) else (if x1 = 1 then some (g1 7 0) else (if x1 = 2 then some (g1 17 0) else (if x1 = 3 then some (g3 0 0) else (if x1 = 4 then some (g1 4 0) else (if x1 = 5 then some (g1 6 0) else (if x1 = 6 then some (g1 13 0) else (if x1 = 7 then some (g1 14 0) else (if x1 = 8 then some (g1 15 0) else (if x1 = 9 then bd (f_X9_tiredTogether g1) (fun r_2 => some r_2) else (if x1 = 10 then some (g2 1 0) else (if x1 = 11 then some (g0 12 0) else some (-1)))))))))))))
abbrev rm_X11_count_l : Room := { frames := 1, cells := 0, slots := 0, locals := 22 }
set_option maxHeartbeats 4000000 in
set_option maxRecDepth 100000 in
theorem c_X11_count_l (l : Launch) (dC : Nat → ClassId) (dI : Nat → Nat → Nat) (sk sv : Nat → Nat) (tc : Nat → ClassId) (ln3 : Nat → Nat) (a0 : Nat → Nat) (q0_0 : Nat) (q0_2 : Nat) (q0_3 : Nat) (q0_4 : Nat) (q0_5 : Nat) (q0_6 : Nat) (q0_7 : Nat) (q0_8 : Nat) (q0_9 : Nat) (q0_10 : Nat) (q0_13 : Option Nat) (a1 : Nat → Nat) (a2 : Nat → Nat) (a3 : Nat → Nat) (g0 : Pic) (g1 : Pic) (g2 : Pic) (g3 : Pic) (x1 : Int32) {r0 : Int32} (h : f_X11_count_l ln3 g0 g1 g2 g3 x1 = some r0) : CT l (dC, dI) sk sv (TY tc) yX11_count cX11_count 2 (some .int) rm_X11_count_l [.ref (a0 0), .int x1] (wPU tc a0 g0 q0_0 (a1 0) q0_2 q0_3 q0_4 q0_5 q0_6 q0_7 q0_8 q0_9 q0_10 q0_13 ++ (wSt tc a1 g1 (some (a3 0)) (a2 0) ++ (wLg tc a2 g2 ++ (wLw tc a3 g3 ln3)))) (some (.int r0)) (wPU tc a0 g0 q0_0 (a1 0) q0_2 q0_3 q0_4 q0_5 q0_6 q0_7 q0_8 q0_9 q0_10 q0_13 ++ (wSt tc a1 g1 (some (a3 0)) (a2 0) ++ (wLg tc a2 g2 ++ (wLw tc a3 g3 ln3)))) := by
  refine ofCT (by decide) (Nat.le_of_ble_eq_true rfl) ?_
  intro pr e s m args below meth c A Q ls H locs X hQ hD0 hP hS hl
  have hD : ∀ z0 z1 z2 z3, va_D A (wPU tc a0 z0 q0_0 (a1 0) q0_2 q0_3 q0_4 q0_5 q0_6 q0_7 q0_8 q0_9 q0_10 q0_13 ++ (wSt tc a1 z1 (some (a3 0)) (a2 0) ++ (wLg tc a2 z2 ++ (wLw tc a3 z3 ln3)))) := fun z0 z1 z2 z3 => D_fst (ws := (wPU tc a0 g0 q0_0 (a1 0) q0_2 q0_3 q0_4 q0_5 q0_6 q0_7 q0_8 q0_9 q0_10 q0_13 ++ (wSt tc a1 g1 (some (a3 0)) (a2 0) ++ (wLg tc a2 g2 ++ (wLw tc a3 g3 ln3))))) rfl hD0
  have hl : lv_has ls 2 [(0, .ref (a0 0)), (1, .int x1)] := hl
  unfold f_X11_count_l at h
  refine lv_iload_n X.1 X.2.1 dX11_count_0 rfl (lv_at hl 1 rfl) ?_
  by_cases hq1_0 : x1 = 0
  · have h := it_t hq1_0 h
    refine lv_tableIn (tgt := 64) X.1 X.2.1 dX11_count_1 (by rw [hq1_0]; decide) (by rw [hq1_0]; decide) (by rw [hq1_0]; rfl) (by decide) ?_
    refine lv_aload_n X.1 X.2.1 dX11_count_64 rfl (lv_at hl 0 rfl) ?_
    refine r_get (C := RX11) (T := TX11) (N := 15) (ci := 11) (v := .ref (a1 0)) X iw11 hP 0 rfl rfl 1 rfl mw_2_144 rfl dX11_count_65 ?_
    refine r_get (C := RX9) (T := TX9) (N := 20) (ci := 9) (v := .int (g1 0 0)) X iw9 hP 1 rfl rfl 0 rfl mw_1_108 rfl dX11_count_68 ?_
    exact ret_i0 (Option.some.inj h) X hQ hP hS dX11_count_71
  · have h := it_f hq1_0 h
    by_cases hq1_1 : x1 = 1
    · have h := it_t hq1_1 h
      refine lv_tableIn (tgt := 72) X.1 X.2.1 dX11_count_1 (by rw [hq1_1]; decide) (by rw [hq1_1]; decide) (by rw [hq1_1]; rfl) (by decide) ?_
      refine lv_aload_n X.1 X.2.1 dX11_count_72 rfl (lv_at hl 0 rfl) ?_
      refine r_get (C := RX11) (T := TX11) (N := 15) (ci := 11) (v := .ref (a1 0)) X iw11 hP 0 rfl rfl 1 rfl mw_2_144 rfl dX11_count_73 ?_
      refine r_get (C := RX9) (T := TX9) (N := 20) (ci := 9) (v := .int (g1 7 0)) X iw9 hP 1 rfl rfl 7 rfl mw_1_146 rfl dX11_count_76 ?_
      exact ret_i0 (Option.some.inj h) X hQ hP hS dX11_count_79
    · have h := it_f hq1_1 h
      by_cases hq1_2 : x1 = 2
      · have h := it_t hq1_2 h
        refine lv_tableIn (tgt := 80) X.1 X.2.1 dX11_count_1 (by rw [hq1_2]; decide) (by rw [hq1_2]; decide) (by rw [hq1_2]; rfl) (by decide) ?_
        refine lv_aload_n X.1 X.2.1 dX11_count_80 rfl (lv_at hl 0 rfl) ?_
        refine r_get (C := RX11) (T := TX11) (N := 15) (ci := 11) (v := .ref (a1 0)) X iw11 hP 0 rfl rfl 1 rfl mw_2_144 rfl dX11_count_81 ?_
        refine r_get (C := RX9) (T := TX9) (N := 20) (ci := 9) (v := .int (g1 17 0)) X iw9 hP 1 rfl rfl 17 rfl mw_1_187 rfl dX11_count_84 ?_
        exact ret_i0 (Option.some.inj h) X hQ hP hS dX11_count_87
      · have h := it_f hq1_2 h
        by_cases hq1_3 : x1 = 3
        · have h := it_t hq1_3 h
          refine lv_tableIn (tgt := 88) X.1 X.2.1 dX11_count_1 (by rw [hq1_3]; decide) (by rw [hq1_3]; decide) (by rw [hq1_3]; rfl) (by decide) ?_
          refine lv_aload_n X.1 X.2.1 dX11_count_88 rfl (lv_at hl 0 rfl) ?_
          refine r_get (C := RX11) (T := TX11) (N := 15) (ci := 11) (v := .ref (a1 0)) X iw11 hP 0 rfl rfl 1 rfl mw_2_144 rfl dX11_count_89 ?_
          refine r_get (C := RX9) (T := TX9) (N := 20) (ci := 9) (v := .ref (a3 0)) X iw9 hP 1 rfl rfl 18 rfl mw_1_189 rfl dX11_count_92 ?_
          refine lv_ifnonnull (tgt := 102) X.1 X.2.1 dX11_count_95 (by decide) ?_
          refine lv_aload_n X.1 X.2.1 dX11_count_102 rfl (lv_at hl 0 rfl) ?_
          refine r_get (C := RX11) (T := TX11) (N := 15) (ci := 11) (v := .ref (a1 0)) X iw11 hP 0 rfl rfl 1 rfl mw_2_144 rfl dX11_count_103 ?_
          refine r_get (C := RX9) (T := TX9) (N := 20) (ci := 9) (v := .ref (a3 0)) X iw9 hP 1 rfl rfl 18 rfl mw_1_189 rfl dX11_count_106 ?_
          refine r_get (C := RX4) (T := TX4) (N := 6) (ci := 4) (v := .int (g3 0 0)) X iw4 hP 13 rfl rfl 0 rfl mw_4_182 rfl dX11_count_109 ?_
          exact ret_i0 (Option.some.inj h) X hQ hP hS dX11_count_112
        · have h := it_f hq1_3 h
          by_cases hq1_4 : x1 = 4
          · have h := it_t hq1_4 h
            refine lv_tableIn (tgt := 113) X.1 X.2.1 dX11_count_1 (by rw [hq1_4]; decide) (by rw [hq1_4]; decide) (by rw [hq1_4]; rfl) (by decide) ?_
            refine lv_aload_n X.1 X.2.1 dX11_count_113 rfl (lv_at hl 0 rfl) ?_
            refine r_get (C := RX11) (T := TX11) (N := 15) (ci := 11) (v := .ref (a1 0)) X iw11 hP 0 rfl rfl 1 rfl mw_2_144 rfl dX11_count_114 ?_
            refine r_get (C := RX9) (T := TX9) (N := 20) (ci := 9) (v := .int (g1 4 0)) X iw9 hP 1 rfl rfl 4 rfl mw_1_130 rfl dX11_count_117 ?_
            exact ret_i0 (Option.some.inj h) X hQ hP hS dX11_count_120
          · have h := it_f hq1_4 h
            by_cases hq1_5 : x1 = 5
            · have h := it_t hq1_5 h
              refine lv_tableIn (tgt := 121) X.1 X.2.1 dX11_count_1 (by rw [hq1_5]; decide) (by rw [hq1_5]; decide) (by rw [hq1_5]; rfl) (by decide) ?_
              refine lv_aload_n X.1 X.2.1 dX11_count_121 rfl (lv_at hl 0 rfl) ?_
              refine r_get (C := RX11) (T := TX11) (N := 15) (ci := 11) (v := .ref (a1 0)) X iw11 hP 0 rfl rfl 1 rfl mw_2_144 rfl dX11_count_122 ?_
              refine r_get (C := RX9) (T := TX9) (N := 20) (ci := 9) (v := .int (g1 6 0)) X iw9 hP 1 rfl rfl 6 rfl mw_1_140 rfl dX11_count_125 ?_
              exact ret_i0 (Option.some.inj h) X hQ hP hS dX11_count_128
            · have h := it_f hq1_5 h
              by_cases hq1_6 : x1 = 6
              · have h := it_t hq1_6 h
                refine lv_tableIn (tgt := 129) X.1 X.2.1 dX11_count_1 (by rw [hq1_6]; decide) (by rw [hq1_6]; decide) (by rw [hq1_6]; rfl) (by decide) ?_
                refine lv_aload_n X.1 X.2.1 dX11_count_129 rfl (lv_at hl 0 rfl) ?_
                refine r_get (C := RX11) (T := TX11) (N := 15) (ci := 11) (v := .ref (a1 0)) X iw11 hP 0 rfl rfl 1 rfl mw_2_144 rfl dX11_count_130 ?_
                refine r_get (C := RX9) (T := TX9) (N := 20) (ci := 9) (v := .int (g1 13 0)) X iw9 hP 1 rfl rfl 13 rfl mw_1_175 rfl dX11_count_133 ?_
                exact ret_i0 (Option.some.inj h) X hQ hP hS dX11_count_136
              · have h := it_f hq1_6 h
                by_cases hq1_7 : x1 = 7
                · have h := it_t hq1_7 h
                  refine lv_tableIn (tgt := 137) X.1 X.2.1 dX11_count_1 (by rw [hq1_7]; decide) (by rw [hq1_7]; decide) (by rw [hq1_7]; rfl) (by decide) ?_
                  refine lv_aload_n X.1 X.2.1 dX11_count_137 rfl (lv_at hl 0 rfl) ?_
                  refine r_get (C := RX11) (T := TX11) (N := 15) (ci := 11) (v := .ref (a1 0)) X iw11 hP 0 rfl rfl 1 rfl mw_2_144 rfl dX11_count_138 ?_
                  refine r_get (C := RX9) (T := TX9) (N := 20) (ci := 9) (v := .int (g1 14 0)) X iw9 hP 1 rfl rfl 14 rfl mw_1_179 rfl dX11_count_141 ?_
                  exact ret_i0 (Option.some.inj h) X hQ hP hS dX11_count_144
                · have h := it_f hq1_7 h
                  by_cases hq1_8 : x1 = 8
                  · have h := it_t hq1_8 h
                    refine lv_tableIn (tgt := 145) X.1 X.2.1 dX11_count_1 (by rw [hq1_8]; decide) (by rw [hq1_8]; decide) (by rw [hq1_8]; rfl) (by decide) ?_
                    refine lv_aload_n X.1 X.2.1 dX11_count_145 rfl (lv_at hl 0 rfl) ?_
                    refine r_get (C := RX11) (T := TX11) (N := 15) (ci := 11) (v := .ref (a1 0)) X iw11 hP 0 rfl rfl 1 rfl mw_2_144 rfl dX11_count_146 ?_
                    refine r_get (C := RX9) (T := TX9) (N := 20) (ci := 9) (v := .int (g1 15 0)) X iw9 hP 1 rfl rfl 15 rfl mw_1_183 rfl dX11_count_149 ?_
                    exact ret_i0 (Option.some.inj h) X hQ hP hS dX11_count_152
                  · have h := it_f hq1_8 h
                    by_cases hq1_9 : x1 = 9
                    · have h := it_t hq1_9 h
                      refine lv_tableIn (tgt := 153) X.1 X.2.1 dX11_count_1 (by rw [hq1_9]; decide) (by rw [hq1_9]; decide) (by rw [hq1_9]; rfl) (by decide) ?_
                      refine lv_aload_n X.1 X.2.1 dX11_count_153 rfl (lv_at hl 0 rfl) ?_
                      refine r_get (C := RX11) (T := TX11) (N := 15) (ci := 11) (v := .ref (a1 0)) X iw11 hP 0 rfl rfl 1 rfl mw_2_144 rfl dX11_count_154 ?_
                      obtain ⟨r_2, hc_2, h⟩ := bd_el h
                      refine call_Vsi (ws := (wPU tc a0 g0 q0_0 (a1 0) q0_2 q0_3 q0_4 q0_5 q0_6 q0_7 q0_8 q0_9 q0_10 q0_13 ++ (wSt tc a1 g1 (some (a3 0)) (a2 0) ++ (wLg tc a2 g2 ++ (wLw tc a3 g3 ln3))))) (ws' := (wPU tc a0 g0 q0_0 (a1 0) q0_2 q0_3 q0_4 q0_5 q0_6 q0_7 q0_8 q0_9 q0_10 q0_13 ++ (wSt tc a1 g1 (some (a3 0)) (a2 0) ++ (wLg tc a2 g2 ++ (wLw tc a3 g3 ln3))))) (wPU tc a0 g0 q0_0 (a1 0) q0_2 q0_3 q0_4 q0_5 q0_6 q0_7 q0_8 q0_9 q0_10 q0_13) (wLg tc a2 g2 ++ (wLw tc a3 g3 ln3)) (As := []) (rest := []) X (c_X9_tiredTogether l dC dI sk sv tc a1 (some (a3 0)) (a2 0) g1 hc_2) mw_3_107 mw_3_108 mw_3_109 mw_1_3 mw_3_110 dc_X9_tiredTogether ⟨Nat.le_of_ble_eq_true rfl, Nat.le_of_ble_eq_true rfl⟩ rfl rfl ⟨Nat.zero_le _, Nat.zero_le _⟩ (by simp only [List.append_assoc, List.nil_append, List.append_nil]) (by simp only [List.append_assoc, List.nil_append, List.append_nil]) hP (hD _ _ _ _) hS 0 rfl rfl rfl hl.1 (Nat.le_of_ble_eq_true rfl) dX11_count_157 (fun H locs hP hS => ?_)
                      exact ret_i0 (Option.some.inj h) X hQ hP hS dX11_count_160
                    · have h := it_f hq1_9 h
                      by_cases hq1_10 : x1 = 10
                      · have h := it_t hq1_10 h
                        refine lv_tableIn (tgt := 161) X.1 X.2.1 dX11_count_1 (by rw [hq1_10]; decide) (by rw [hq1_10]; decide) (by rw [hq1_10]; rfl) (by decide) ?_
                        refine lv_aload_n X.1 X.2.1 dX11_count_161 rfl (lv_at hl 0 rfl) ?_
                        refine r_get (C := RX11) (T := TX11) (N := 15) (ci := 11) (v := .ref (a1 0)) X iw11 hP 0 rfl rfl 1 rfl mw_2_144 rfl dX11_count_162 ?_
                        refine r_get (C := RX9) (T := TX9) (N := 20) (ci := 9) (v := .ref (a2 0)) X iw9 hP 1 rfl rfl 19 rfl mw_1_193 rfl dX11_count_165 ?_
                        refine r_get (C := RX7) (T := TX7) (N := 3) (ci := 7) (v := .int (g2 1 0)) X iw7 hP 11 rfl rfl 1 rfl mw_1_93 rfl dX11_count_168 ?_
                        exact ret_i0 (Option.some.inj h) X hQ hP hS dX11_count_171
                      · have h := it_f hq1_10 h
                        by_cases hq1_11 : x1 = 11
                        · have h := it_t hq1_11 h
                          refine lv_tableIn (tgt := 172) X.1 X.2.1 dX11_count_1 (by rw [hq1_11]; decide) (by rw [hq1_11]; decide) (by rw [hq1_11]; rfl) (by decide) ?_
                          refine lv_aload_n X.1 X.2.1 dX11_count_172 rfl (lv_at hl 0 rfl) ?_
                          refine r_get (C := RX11) (T := TX11) (N := 15) (ci := 11) (v := .int (g0 12 0)) X iw11 hP 0 rfl rfl 12 rfl mw_2_155 rfl dX11_count_173 ?_
                          exact ret_i0 (Option.some.inj h) X hQ hP hS dX11_count_176
                        · have h := it_f hq1_11 h
                          refine lv_tableOut (tgt := 177) X.1 X.2.1 dX11_count_1 (sw_out x1 [0, 1, 2, 3, 4, 5, 6, 7, 8, 9, 10, 11] 12 (by decide) (by decide) (by simp only [List.mem_cons, List.not_mem_nil, or_false, forall_eq_or_imp, forall_eq]; exact ⟨hq1_0, hq1_1, hq1_2, hq1_3, hq1_4, hq1_5, hq1_6, hq1_7, hq1_8, hq1_9, hq1_10, hq1_11⟩)) (by decide) ?_
                          refine lv_iconst (v := (-1)) X.1 X.2.1 dX11_count_177 (by decide) ?_
                          exact ret_i0 (Option.some.inj h) X hQ hP hS dX11_count_178

def f_X11_evening (g0 : Pic) (g1 : Pic) (g2 : Pic) (g3 : Pic) (g4 : Pic) (g5 : Pic) (g6 : Pic) : Option ((Nat × (Pic × Pic × Pic × Pic × Pic × Pic)) ⊕ (Int32 × (Pic × Pic × Pic × Pic × Pic × Pic))) := bd2 (f_X9_copyFrom g4 g2 g5 g3) (fun g4_1 g5_1 => bd3 (f_X2_readsText g6 g1 g4_1) (fun r_2 g1_2 g4_2 => nm (pu g0 14 0 (g1_2 7 0)) (fun g0_3 => (if r_2 = 0 then some (.inl (1, (g0_3, g1_2, g2, g3, g4_2, g5_1))) else (if (g2 17 0) < 12 then bd2 (f_X9_copyFrom g2 g4_2 g3 g5_1) (fun g2_4 g3_4 => nm (pu g2_4 17 0 ((g2_4 17 0) + 1)) (fun g2_5 => bd (f_X11_forgetActs g0_3) (fun g0_6 => some (.inr ((g2_5 17 0), (g0_6, g1_2, g2_5, g3_4, g4_2, g5_1)))))) else some (.inl (4, (g0_3, g1_2, g2, g3, g4_2, g5_1))))))))
abbrev rm_X11_evening : Room := { frames := 9, cells := 1, slots := 6, locals := 221 }
set_option maxHeartbeats 4000000 in
set_option maxRecDepth 100000 in
theorem c_X11_evening (l : Launch) (hst : l.stackTraces = false) (dC : Nat → ClassId) (dI : Nat → Nat → Nat) (sk sv : Nat → Nat) (tc : Nat → ClassId) (a0 : Nat → Nat) (q0_4 : Nat) (q0_5 : Nat) (q0_6 : Nat) (q0_7 : Nat) (q0_8 : Nat) (q0_9 : Nat) (q0_10 : Nat) (q0_13 : Option Nat) (a1 : Nat → Nat) (a2 : Nat → Nat) (q2_18 : Option Nat) (a3 : Nat → Nat) (a4 : Nat → Nat) (q4_18 : Option Nat) (a5 : Nat → Nat) (a6 : Nat → Nat) (g0 : Pic) (g1 : Pic) (g2 : Pic) (g3 : Pic) (g4 : Pic) (g5 : Pic) (g6 : Pic) {res : ((Nat × (Pic × Pic × Pic × Pic × Pic × Pic)) ⊕ (Int32 × (Pic × Pic × Pic × Pic × Pic × Pic)))} (h : f_X11_evening g0 g1 g2 g3 g4 g5 g6 = some res) : CU l (dC, dI) sk sv (TY tc) yX11_evening cX11_evening 2 (some .int) rm_X11_evening 1 6 [.ref (a0 0)] (wPU tc a0 g0 (a1 0) (a2 0) (a4 0) (a6 0) q0_4 q0_5 q0_6 q0_7 q0_8 q0_9 q0_10 q0_13 ++ (wTp tc a1 g1 ++ (wSt tc a2 g2 q2_18 (a3 0) ++ (wLg tc a3 g3 ++ (wSt tc a4 g4 q4_18 (a5 0) ++ (wLg tc a5 g5 ++ (wEv tc a6 g6 (a1 0) (a4 0)))))))) (oI (fun u q => (wPU tc a0 u.1 (a1 0) (a2 0) (a4 0) (a6 0) q0_4 q0_5 q0_6 q0_7 q0_8 q0_9 q0_10 q0_13 ++ (wTp tc a1 u.2.1 ++ (wSt tc a2 u.2.2.1 q2_18 (a3 0) ++ (wLg tc a3 u.2.2.2.1 ++ (wSt tc a4 u.2.2.2.2.1 q (a5 0) ++ (wLg tc a5 u.2.2.2.2.2 ++ (wEv tc a6 g6 (a1 0) (a4 0))))))))) res) := by
  refine ofCU (by decide) (Nat.le_of_ble_eq_true rfl) ?_
  intro pr e s m args below meth c A Q ls H locs X hT hQ hD0 hP hS hl
  have hD : ∀ z0 z1 z2 z3 z4 z5 z6, va_D A (wPU tc a0 z0 (a1 0) (a2 0) (a4 0) (a6 0) q0_4 q0_5 q0_6 q0_7 q0_8 q0_9 q0_10 q0_13 ++ (wTp tc a1 z1 ++ (wSt tc a2 z2 q2_18 (a3 0) ++ (wLg tc a3 z3 ++ (wSt tc a4 z4 q4_18 (a5 0) ++ (wLg tc a5 z5 ++ (wEv tc a6 z6 (a1 0) (a4 0)))))))) := fun z0 z1 z2 z3 z4 z5 z6 => D_fst (ws := (wPU tc a0 g0 (a1 0) (a2 0) (a4 0) (a6 0) q0_4 q0_5 q0_6 q0_7 q0_8 q0_9 q0_10 q0_13 ++ (wTp tc a1 g1 ++ (wSt tc a2 g2 q2_18 (a3 0) ++ (wLg tc a3 g3 ++ (wSt tc a4 g4 q4_18 (a5 0) ++ (wLg tc a5 g5 ++ (wEv tc a6 g6 (a1 0) (a4 0))))))))) rfl hD0
  have hDq : ∀ z0 z1 z2 z3 z4 z5 z6 (zq : Option Nat), va_D A (wPU tc a0 z0 (a1 0) (a2 0) (a4 0) (a6 0) q0_4 q0_5 q0_6 q0_7 q0_8 q0_9 q0_10 q0_13 ++ (wTp tc a1 z1 ++ (wSt tc a2 z2 q2_18 (a3 0) ++ (wLg tc a3 z3 ++ (wSt tc a4 z4 zq (a5 0) ++ (wLg tc a5 z5 ++ (wEv tc a6 z6 (a1 0) (a4 0)))))))) := fun z0 z1 z2 z3 z4 z5 z6 zq => D_fst (ws := (wPU tc a0 g0 (a1 0) (a2 0) (a4 0) (a6 0) q0_4 q0_5 q0_6 q0_7 q0_8 q0_9 q0_10 q0_13 ++ (wTp tc a1 g1 ++ (wSt tc a2 g2 q2_18 (a3 0) ++ (wLg tc a3 g3 ++ (wSt tc a4 g4 q4_18 (a5 0) ++ (wLg tc a5 g5 ++ (wEv tc a6 g6 (a1 0) (a4 0))))))))) rfl hD0
  have hl : lv_has ls 2 [(0, .ref (a0 0))] := hl
  unfold f_X11_evening at h
  refine lv_aload_n X.1 X.2.1 dX11_evening_0 rfl (lv_at hl 0 rfl) ?_
  refine r_get (C := RX11) (T := TX11) (N := 15) (ci := 11) (v := .ref (a4 0)) X iw11 hP 0 rfl rfl 2 rfl mw_2_145 rfl dX11_evening_1 ?_
  refine lv_aload_n X.1 X.2.1 dX11_evening_4 rfl (lv_at hl 0 rfl) ?_
  refine r_get (C := RX11) (T := TX11) (N := 15) (ci := 11) (v := .ref (a2 0)) X iw11 hP 0 rfl rfl 1 rfl mw_2_144 rfl dX11_evening_5 ?_
  obtain ⟨g4_1, g5_1, hc_1, h⟩ := bd2_el h
  refine call_Q (ws := (wPU tc a0 g0 (a1 0) (a2 0) (a4 0) (a6 0) q0_4 q0_5 q0_6 q0_7 q0_8 q0_9 q0_10 q0_13 ++ (wTp tc a1 g1 ++ (wSt tc a2 g2 q2_18 (a3 0) ++ (wLg tc a3 g3 ++ (wSt tc a4 g4 q4_18 (a5 0) ++ (wLg tc a5 g5 ++ (wEv tc a6 g6 (a1 0) (a4 0))))))))) (ws' := (wPU tc a0 g0 (a1 0) (a2 0) (a4 0) (a6 0) q0_4 q0_5 q0_6 q0_7 q0_8 q0_9 q0_10 q0_13 ++ (wTp tc a1 g1 ++ (wSt tc a2 g2 q2_18 (a3 0) ++ (wLg tc a3 g3 ++ (wSt tc a4 g4_1 q2_18 (a5 0) ++ (wLg tc a5 g5_1 ++ (wEv tc a6 g6 (a1 0) (a4 0))))))))) (wr := (wPU tc a0 g0 (a1 0) (a2 0) (a4 0) (a6 0) q0_4 q0_5 q0_6 q0_7 q0_8 q0_9 q0_10 q0_13 ++ (wTp tc a1 g1 ++ (wEv tc a6 g6 (a1 0) (a4 0))))) [15, 16, 17, 18, 19, 20, 21, 22, 23, 24, 3, 4, 5, 6, 7, 8, 9, 10, 11, 12, 25, 26, 13, 14] [0, 1, 2, 27] [0, 1, 2, 14, 15, 16, 17, 18, 19, 20, 21, 22, 23, 26, 27, 4, 5, 6, 7, 8, 9, 10, 11, 12, 13, 24, 25, 3] (As := [.ref (a2 0)]) (rest := []) X (c_X9_copyFrom l dC dI sk sv tc a4 q4_18 a2 q2_18 a5 a3 g4 g2 g5 g3 hc_1) mw_3_79 mw_3_80 mw_3_81 mw_1_3 mw_3_82 dc_X9_copyFrom ⟨Nat.le_of_ble_eq_true rfl, Nat.le_of_ble_eq_true rfl⟩ rfl rfl ⟨Nat.zero_le _, Nat.zero_le _⟩ ⟨rfl, rfl, rfl, rfl, by decide, rfl, rfl⟩ hP (hDq _ _ _ _ _ _ _ _) hS 0 rfl rfl rfl hl.1 (Nat.le_of_ble_eq_true rfl) dX11_evening_8 (fun H locs hP hS => ?_)
  refine W.eq (g2 := F0 m 11 ls []) rfl ?_
  refine lv_aload_n X.1 X.2.1 dX11_evening_11 rfl (lv_at hl 0 rfl) ?_
  refine r_get (C := RX11) (T := TX11) (N := 15) (ci := 11) (v := .ref (a6 0)) X iw11 hP 0 rfl rfl 3 rfl mw_2_146 rfl dX11_evening_12 ?_
  obtain ⟨r_2, g1_2, g4_2, hc_2, h⟩ := bd3_el h
  refine call_Q (ws := (wPU tc a0 g0 (a1 0) (a2 0) (a4 0) (a6 0) q0_4 q0_5 q0_6 q0_7 q0_8 q0_9 q0_10 q0_13 ++ (wTp tc a1 g1 ++ (wSt tc a2 g2 q2_18 (a3 0) ++ (wLg tc a3 g3 ++ (wSt tc a4 g4_1 q2_18 (a5 0) ++ (wLg tc a5 g5_1 ++ (wEv tc a6 g6 (a1 0) (a4 0))))))))) (ws' := (wPU tc a0 g0 (a1 0) (a2 0) (a4 0) (a6 0) q0_4 q0_5 q0_6 q0_7 q0_8 q0_9 q0_10 q0_13 ++ (wTp tc a1 g1_2 ++ (wSt tc a2 g2 q2_18 (a3 0) ++ (wLg tc a3 g3 ++ (wSt tc a4 g4_2 q2_18 (a5 0) ++ (wLg tc a5 g5_1 ++ (wEv tc a6 g6 (a1 0) (a4 0))))))))) (wr := (wPU tc a0 g0 (a1 0) (a2 0) (a4 0) (a6 0) q0_4 q0_5 q0_6 q0_7 q0_8 q0_9 q0_10 q0_13 ++ (wSt tc a2 g2 q2_18 (a3 0) ++ (wLg tc a3 g3 ++ (wLg tc a5 g5_1))))) [27, 1, 2, 15, 16, 17, 18, 19, 20, 21, 22, 23, 24] [0, 3, 4, 5, 6, 7, 8, 9, 10, 11, 12, 13, 14, 25, 26] [0, 16, 17, 1, 2, 3, 4, 5, 6, 7, 8, 9, 10, 11, 12, 18, 19, 20, 21, 22, 23, 24, 25, 26, 27, 13, 14, 15] (As := []) (rest := []) X (c_X2_readsText l dC dI sk sv tc a6 a1 a4 q2_18 (a5 0) g6 g1 g4_1 hc_2) mw_3_120 mw_3_121 mw_3_122 mw_1_5 mw_3_123 dc_X2_readsText ⟨Nat.le_of_ble_eq_true rfl, Nat.le_of_ble_eq_true rfl⟩ rfl rfl ⟨Nat.zero_le _, Nat.zero_le _⟩ ⟨rfl, rfl, rfl, rfl, by decide, rfl, rfl⟩ hP (hDq _ _ _ _ _ _ _ _) hS 0 rfl rfl rfl hl.1 (Nat.le_of_ble_eq_true rfl) dX11_evening_15 (fun H locs hP hS => ?_)
  refine W.eq (g2 := F0 m 18 ls [.int r_2]) rfl ?_
  refine lv_istore_n (lv' := [(1, .int r_2), (0, .ref (a0 0))]) X.1 X.2.1 dX11_evening_18 rfl hl (by decide) rfl (fun ls hl => ?_)
  refine lv_aload_n X.1 X.2.1 dX11_evening_19 rfl (lv_at hl 1 rfl) ?_
  refine lv_aload_n X.1 X.2.1 dX11_evening_20 rfl (lv_at hl 1 rfl) ?_
  refine r_get (C := RX11) (T := TX11) (N := 15) (ci := 11) (v := .ref (a1 0)) X iw11 hP 0 rfl rfl 0 rfl mw_2_143 rfl dX11_evening_21 ?_
  refine r_get (C := RX10) (T := TX10) (N := 8) (ci := 10) (v := .int (g1_2 7 0)) X iw10 hP 1 rfl rfl 7 rfl mw_1_60 rfl dX11_evening_24 ?_
  obtain ⟨g0_3, eg0_3, h⟩ := nm_el h
  refine r_put (C := RX11) (T := TX11) (N := 15) (ci := 11) tyX11 tyX11_ok nmX11 X iw11 hP (hDq _ _ _ _ _ _ _ _) hS 0 rfl rfl 14 rfl mw_2_157 rfl rfl rfl rfl dX11_evening_27 (wPU tc a0 g0_3 (a1 0) (a2 0) (a4 0) (a6 0) q0_4 q0_5 q0_6 q0_7 q0_8 q0_9 q0_10 q0_13 ++ (wTp tc a1 g1_2 ++ (wSt tc a2 g2 q2_18 (a3 0) ++ (wLg tc a3 g3 ++ (wSt tc a4 g4_2 q2_18 (a5 0) ++ (wLg tc a5 g5_1 ++ (wEv tc a6 g6 (a1 0) (a4 0)))))))) (by rw [eg0_3]; rfl) (fun H locs hP hS => ?_)
  refine lv_iload_n X.1 X.2.1 dX11_evening_30 rfl (lv_at hl 0 rfl) ?_
  refine lv_if_ne (tgt := 44) X.1 X.2.1 dX11_evening_31 (by decide) (fun hc => ?_) (fun hc => ?_)
  · have h := it_f hc h
    refine lv_aload_n X.1 X.2.1 dX11_evening_44 rfl (lv_at hl 1 rfl) ?_
    refine r_get (C := RX11) (T := TX11) (N := 15) (ci := 11) (v := .ref (a2 0)) X iw11 hP 0 rfl rfl 1 rfl mw_2_144 rfl dX11_evening_45 ?_
    refine r_get (C := RX9) (T := TX9) (N := 20) (ci := 9) (v := .int (g2 17 0)) X iw9 hP 3 rfl rfl 17 rfl mw_1_187 rfl dX11_evening_48 ?_
    refine lv_bipush (v := 12) X.1 X.2.1 dX11_evening_51 (by decide) ?_
    refine lv_icmp_lt (tgt := 66) X.1 X.2.1 dX11_evening_53 (by decide) (fun hc => ?_) (fun hc => ?_)
    · have h := it_t hc h
      refine lv_aload_n X.1 X.2.1 dX11_evening_66 rfl (lv_at hl 1 rfl) ?_
      refine r_get (C := RX11) (T := TX11) (N := 15) (ci := 11) (v := .ref (a2 0)) X iw11 hP 0 rfl rfl 1 rfl mw_2_144 rfl dX11_evening_67 ?_
      refine lv_aload_n X.1 X.2.1 dX11_evening_70 rfl (lv_at hl 1 rfl) ?_
      refine r_get (C := RX11) (T := TX11) (N := 15) (ci := 11) (v := .ref (a4 0)) X iw11 hP 0 rfl rfl 2 rfl mw_2_145 rfl dX11_evening_71 ?_
      obtain ⟨g2_4, g3_4, hc_4, h⟩ := bd2_el h
      refine call_Q (ws := (wPU tc a0 g0_3 (a1 0) (a2 0) (a4 0) (a6 0) q0_4 q0_5 q0_6 q0_7 q0_8 q0_9 q0_10 q0_13 ++ (wTp tc a1 g1_2 ++ (wSt tc a2 g2 q2_18 (a3 0) ++ (wLg tc a3 g3 ++ (wSt tc a4 g4_2 q2_18 (a5 0) ++ (wLg tc a5 g5_1 ++ (wEv tc a6 g6 (a1 0) (a4 0))))))))) (ws' := (wPU tc a0 g0_3 (a1 0) (a2 0) (a4 0) (a6 0) q0_4 q0_5 q0_6 q0_7 q0_8 q0_9 q0_10 q0_13 ++ (wTp tc a1 g1_2 ++ (wSt tc a2 g2_4 q2_18 (a3 0) ++ (wLg tc a3 g3_4 ++ (wSt tc a4 g4_2 q2_18 (a5 0) ++ (wLg tc a5 g5_1 ++ (wEv tc a6 g6 (a1 0) (a4 0))))))))) (wr := (wPU tc a0 g0_3 (a1 0) (a2 0) (a4 0) (a6 0) q0_4 q0_5 q0_6 q0_7 q0_8 q0_9 q0_10 q0_13 ++ (wTp tc a1 g1_2 ++ (wEv tc a6 g6 (a1 0) (a4 0))))) [3, 4, 5, 6, 7, 8, 9, 10, 11, 12, 15, 16, 17, 18, 19, 20, 21, 22, 23, 24, 13, 14, 25, 26] [0, 1, 2, 27] [0, 1, 2, 4, 5, 6, 7, 8, 9, 10, 11, 12, 13, 24, 25, 14, 15, 16, 17, 18, 19, 20, 21, 22, 23, 26, 27, 3] (As := [.ref (a4 0)]) (rest := []) X (c_X9_copyFrom l dC dI sk sv tc a2 q2_18 a4 q2_18 a3 a5 g2 g4_2 g3 g5_1 hc_4) mw_3_79 mw_3_80 mw_3_81 mw_1_3 mw_3_82 dc_X9_copyFrom ⟨Nat.le_of_ble_eq_true rfl, Nat.le_of_ble_eq_true rfl⟩ rfl rfl ⟨Nat.zero_le _, Nat.zero_le _⟩ ⟨rfl, rfl, rfl, rfl, by decide, rfl, rfl⟩ hP (hDq _ _ _ _ _ _ _ _) hS 0 rfl rfl rfl hl.1 (Nat.le_of_ble_eq_true rfl) dX11_evening_74 (fun H locs hP hS => ?_)
      refine W.eq (g2 := F0 m 77 ls []) rfl ?_
      refine lv_aload_n X.1 X.2.1 dX11_evening_77 rfl (lv_at hl 1 rfl) ?_
      refine r_get (C := RX11) (T := TX11) (N := 15) (ci := 11) (v := .ref (a2 0)) X iw11 hP 0 rfl rfl 1 rfl mw_2_144 rfl dX11_evening_78 ?_
      refine lv_dup X.1 X.2.1 dX11_evening_81 rfl ?_
      refine r_get (C := RX9) (T := TX9) (N := 20) (ci := 9) (v := .int (g2_4 17 0)) X iw9 hP 3 rfl rfl 17 rfl mw_1_187 rfl dX11_evening_82 ?_
      refine lv_iconst (v := 1) X.1 X.2.1 dX11_evening_85 (by decide) ?_
      refine lv_iadd X.1 X.2.1 dX11_evening_86 ?_
      obtain ⟨g2_5, eg2_5, h⟩ := nm_el h
      refine r_put (C := RX9) (T := TX9) (N := 20) (ci := 9) tyX9 tyX9_ok nmX9 X iw9 hP (hDq _ _ _ _ _ _ _ _) hS 3 rfl rfl 17 rfl mw_1_187 rfl rfl rfl rfl dX11_evening_87 (wPU tc a0 g0_3 (a1 0) (a2 0) (a4 0) (a6 0) q0_4 q0_5 q0_6 q0_7 q0_8 q0_9 q0_10 q0_13 ++ (wTp tc a1 g1_2 ++ (wSt tc a2 g2_5 q2_18 (a3 0) ++ (wLg tc a3 g3_4 ++ (wSt tc a4 g4_2 q2_18 (a5 0) ++ (wLg tc a5 g5_1 ++ (wEv tc a6 g6 (a1 0) (a4 0)))))))) (by rw [eg2_5]; rfl) (fun H locs hP hS => ?_)
      refine lv_aload_n X.1 X.2.1 dX11_evening_90 rfl (lv_at hl 1 rfl) ?_
      obtain ⟨g0_6, hc_6, h⟩ := bd_el h
      refine call_Vsv (ws := (wPU tc a0 g0_3 (a1 0) (a2 0) (a4 0) (a6 0) q0_4 q0_5 q0_6 q0_7 q0_8 q0_9 q0_10 q0_13 ++ (wTp tc a1 g1_2 ++ (wSt tc a2 g2_5 q2_18 (a3 0) ++ (wLg tc a3 g3_4 ++ (wSt tc a4 g4_2 q2_18 (a5 0) ++ (wLg tc a5 g5_1 ++ (wEv tc a6 g6 (a1 0) (a4 0))))))))) (ws' := (wPU tc a0 g0_6 (a1 0) (a2 0) (a4 0) (a6 0) q0_4 q0_5 q0_6 q0_7 q0_8 q0_9 q0_10 q0_13 ++ (wTp tc a1 g1_2 ++ (wSt tc a2 g2_5 q2_18 (a3 0) ++ (wLg tc a3 g3_4 ++ (wSt tc a4 g4_2 q2_18 (a5 0) ++ (wLg tc a5 g5_1 ++ (wEv tc a6 g6 (a1 0) (a4 0))))))))) [] (wTp tc a1 g1_2 ++ (wSt tc a2 g2_5 q2_18 (a3 0) ++ (wLg tc a3 g3_4 ++ (wSt tc a4 g4_2 q2_18 (a5 0) ++ (wLg tc a5 g5_1 ++ (wEv tc a6 g6 (a1 0) (a4 0))))))) (As := []) (rest := []) X (c_X11_forgetActs l dC dI sk sv tc a0 (a1 0) (a2 0) (a4 0) (a6 0) q0_4 q0_5 q0_6 q0_7 q0_8 q0_9 q0_10 q0_13 g0_3 hc_6) mw_3_99 mw_3_101 mp_1_1 mw_1_1 mw_3_102 dc_X11_forgetActs ⟨Nat.le_of_ble_eq_true rfl, Nat.le_of_ble_eq_true rfl⟩ rfl rfl ⟨Nat.zero_le _, Nat.zero_le _⟩ (by simp only [List.append_assoc, List.nil_append, List.append_nil]) (by simp only [List.append_assoc, List.nil_append, List.append_nil]) hP (hDq _ _ _ _ _ _ _ _) hS 0 rfl rfl rfl hl.1 (Nat.le_of_ble_eq_true rfl) dX11_evening_91 (fun H locs hP hS => ?_)
      refine lv_aload_n X.1 X.2.1 dX11_evening_94 rfl (lv_at hl 1 rfl) ?_
      refine r_get (C := RX11) (T := TX11) (N := 15) (ci := 11) (v := .ref (a2 0)) X iw11 hP 0 rfl rfl 1 rfl mw_2_144 rfl dX11_evening_95 ?_
      refine r_get (C := RX9) (T := TX9) (N := 20) (ci := 9) (v := .int (g2_5 17 0)) X iw9 hP 3 rfl rfl 17 rfl mw_1_187 rfl dX11_evening_98 ?_
      exact retU_i (fun u q => (wPU tc a0 u.1 (a1 0) (a2 0) (a4 0) (a6 0) q0_4 q0_5 q0_6 q0_7 q0_8 q0_9 q0_10 q0_13 ++ (wTp tc a1 u.2.1 ++ (wSt tc a2 u.2.2.1 q2_18 (a3 0) ++ (wLg tc a3 u.2.2.2.1 ++ (wSt tc a4 u.2.2.2.2.1 q (a5 0) ++ (wLg tc a5 u.2.2.2.2.2 ++ (wEv tc a6 g6 (a1 0) (a4 0))))))))) q2_18 (Option.some.inj h) X hQ hP hS (Nat.le_of_ble_eq_true rfl) (Nat.le_of_ble_eq_true rfl) dX11_evening_101
    · have h := it_f hc h
      exact thr_S (k := 4) (text := "there are 12 texts") (ti := 12) q2_18 (oUi (fun u q => (wPU tc a0 u.1 (a1 0) (a2 0) (a4 0) (a6 0) q0_4 q0_5 q0_6 q0_7 q0_8 q0_9 q0_10 q0_13 ++ (wTp tc a1 u.2.1 ++ (wSt tc a2 u.2.2.1 q2_18 (a3 0) ++ (wLg tc a3 u.2.2.2.1 ++ (wSt tc a4 u.2.2.2.2.1 q (a5 0) ++ (wLg tc a5 u.2.2.2.2.2 ++ (wEv tc a6 g6 (a1 0) (a4 0))))))))) (Option.some.inj h)) X hT hst at_124 mw_4_76 mw_1_22 (List.mem_of_getElem? (i := 12) rfl) hQ hP hS hl.1 dX11_evening_56 dX11_evening_59 dX11_evening_60 dX11_evening_62 dX11_evening_65 (Nat.le_of_ble_eq_true rfl) (Nat.le_of_ble_eq_true rfl) (Nat.le_of_ble_eq_true rfl) (Nat.le_of_ble_eq_true rfl) (Nat.le_of_ble_eq_true rfl) (Nat.le_of_ble_eq_true rfl)
  · have h := it_t hc h
    exact thr_S (k := 1) (text := "the text is wrong") (ti := 11) q2_18 (oUi (fun u q => (wPU tc a0 u.1 (a1 0) (a2 0) (a4 0) (a6 0) q0_4 q0_5 q0_6 q0_7 q0_8 q0_9 q0_10 q0_13 ++ (wTp tc a1 u.2.1 ++ (wSt tc a2 u.2.2.1 q2_18 (a3 0) ++ (wLg tc a3 u.2.2.2.1 ++ (wSt tc a4 u.2.2.2.2.1 q (a5 0) ++ (wLg tc a5 u.2.2.2.2.2 ++ (wEv tc a6 g6 (a1 0) (a4 0))))))))) (Option.some.inj h)) X hT hst at_114 mw_4_6 mw_1_21 (List.mem_of_getElem? (i := 11) rfl) hQ hP hS hl.1 dX11_evening_34 dX11_evening_37 dX11_evening_38 dX11_evening_40 dX11_evening_43 (Nat.le_of_ble_eq_true rfl) (Nat.le_of_ble_eq_true rfl) (Nat.le_of_ble_eq_true rfl) (Nat.le_of_ble_eq_true rfl) (Nat.le_of_ble_eq_true rfl) (Nat.le_of_ble_eq_true rfl)
