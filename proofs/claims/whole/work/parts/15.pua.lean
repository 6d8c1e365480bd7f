theorem at_416 : atOK RX11 416 0 := ⟨by decide +kernel, by decide +kernel, by decide +kernel⟩
theorem at_114 : atOK RX11 114 1 := ⟨by decide +kernel, by decide +kernel, by decide +kernel⟩
theorem at_163 : atNs RX11 163 := ⟨by decide +kernel, by decide +kernel⟩
theorem at_271 : atOK RX11 271 3 := ⟨by decide +kernel, by decide +kernel, by decide +kernel⟩
theorem at_124 : atOK RX11 124 4 := ⟨by decide +kernel, by decide +kernel, by decide +kernel⟩
theorem oUi {α : Type} (wf : α → Option Nat → va_W) {k : Nat} {x : α} {res : (Nat × α) ⊕ (Int32 × α)} (h : Sum.inl (k, x) = res) : Sum.inl (k, wf x) = oI wf res := by
  subst h; rfl
theorem oUv {α : Type} (wf : α → Option Nat → va_W) {k : Nat} {x : α} {res : (Nat × α) ⊕ α} (h : Sum.inl (k, x) = res) : Sum.inl (k, wf x) = oV wf res := by
  subst h; rfl
theorem ret_a {pr : Program} {l : Launch} {e : Env} {R : Room} {D : va_G} {sk sv : Nat → Nat} {tys : List (ClassId × FieldType)} {y : MethodName} {cc : ByteArray} {n : Nat} {s : State} {m : MethodId} {args : Array Value} {below : List Frame} {meth : Method} {c : Code} {A : Nat → Prop} {H : Heap} {locs : List Loc} {Q : State → Prop} {pc b : Nat} {ls : Array Slot} {C : String} {α : Type} (wf : α → va_W) {x res : α} (hv : x = res) (X : CX pr D sk sv tys y cc n (some (.object C)) s m args meth c A) (hQ : MQ below (QT D A (some (.ref b)) (wf res)) args s 0 0 A = Q) (hP : va_P D vwCl (wf x) H) (hS : va_S A s.heap H locs) (hd : decode cc pc = .ok (.areturn, 1)) :
    W pr l e R s m args below meth c H locs 0 0 Q (F0 m pc ls [.ref b]) := by
  subst hv
  subst hQ
  obtain ⟨hx, hb, hr, hml, hown, hts, hlocks, hA, hK, hE⟩ := X
  exact W.aret (v := .ref b) hx hb hr (Or.inl ⟨C, rfl⟩) (Or.inr ⟨b, rfl⟩) (fun t ht hW => ⟨rfl, by rw [ht]; exact hP, hS.F ht⟩) hS.2.2 hd

def f_X11_needWord (g0 : Pic) (g1 : Pic) (x1 : Int32) : Option ((Nat × Unit) ⊕ Unit) := jn (fun (_ : Unit) => some (.inl (0, ()))) (fun J15 => (if x1 < 0 then J15 () else (if x1 < (g1 0 0) then some (.inr ()) else J15 ())))
abbrev rm_X11_needWord : Room := { frames := 6, cells := 1, slots := 6, locals := 120 }
set_option maxHeartbeats 4000000 in
set_option maxRecDepth 100000 in
theorem c_X11_needWord (l : Launch) (hst : l.stackTraces = false) (dC : Nat → ClassId) (dI : Nat → Nat → Nat) (sk sv : Nat → Nat) (tc : Nat → ClassId) (a0 : Nat → Nat) (q0_0 : Nat) (q0_2 : Nat) (q0_3 : Nat) (q0_4 : Nat) (q0_5 : Nat) (q0_6 : Nat) (q0_7 : Nat) (q0_8 : Nat) (q0_9 : Nat) (q0_10 : Nat) (q0_13 : Option Nat) (a1 : Nat → Nat) (q1_18 : Option Nat) (q1_19 : Nat) (g0 : Pic) (g1 : Pic) (x1 : Int32) {res : ((Nat × Unit) ⊕ Unit)} (h : f_X11_needWord g0 g1 x1 = some res) : CU l (dC, dI) sk sv (TY tc) yX11_needWord cX11_needWord 2 none rm_X11_needWord 1 6 [.ref (a0 0), .int x1] (wPU tc a0 g0 q0_0 (a1 0) q0_2 q0_3 q0_4 q0_5 q0_6 q0_7 q0_8 q0_9 q0_10 q0_13 ++ (wSt tc a1 g1 q1_18 q1_19)) (oV (fun (_ : Unit) (_ : Option Nat) => (wPU tc a0 g0 q0_0 (a1 0) q0_2 q0_3 q0_4 q0_5 q0_6 q0_7 q0_8 q0_9 q0_10 q0_13 ++ (wSt tc a1 g1 q1_18 q1_19))) res) := by
  refine ofCU (by decide) (Nat.le_of_ble_eq_true rfl) ?_
  intro pr e s m args below meth c A Q ls H locs X hT hQ hD0 hP hS hl
  have hD : ∀ z0 z1, va_D A (wPU tc a0 z0 q0_0 (a1 0) q0_2 q0_3 q0_4 q0_5 q0_6 q0_7 q0_8 q0_9 q0_10 q0_13 ++ (wSt tc a1 z1 q1_18 q1_19)) := fun z0 z1 => D_fst (ws := (wPU tc a0 g0 q0_0 (a1 0) q0_2 q0_3 q0_4 q0_5 q0_6 q0_7 q0_8 q0_9 q0_10 q0_13 ++ (wSt tc a1 g1 q1_18 q1_19))) rfl hD0
  have hl : lv_has ls 2 [(0, .ref (a0 0)), (1, .int x1)] := hl
  unfold f_X11_needWord at h
  refine lv_iload_n X.1 X.2.1 dX11_needWord_0 rfl (lv_at hl 1 rfl) ?_
  obtain ⟨J15, eJ15, h⟩ := jn_el h
  have HJ15 : ∀ (_ : Unit) (H : Heap) (locs : List Loc) (ls : Array Slot), J15 () = some res → va_P (dC, dI) vwCl (wPU tc a0 g0 q0_0 (a1 0) q0_2 q0_3 q0_4 q0_5 q0_6 q0_7 q0_8 q0_9 q0_10 q0_13 ++ (wSt tc a1 g1 q1_18 q1_19)) H → va_S A s.heap H locs → lv_has ls 2 [] → W pr l e rm_X11_needWord s m args below meth c H locs 0 0 Q (F0 m 15 ls []) := by
    intro _ H locs ls h hP hS hl
    rw [eJ15] at h
    exact thr_W (k := 0) (text := "no such word") (ti := 23) none (oUv (fun (_ : Unit) (_ : Option Nat) => (wPU tc a0 g0 q0_0 (a1 0) q0_2 q0_3 q0_4 q0_5 q0_6 q0_7 q0_8 q0_9 q0_10 q0_13 ++ (wSt tc a1 g1 q1_18 q1_19))) (Option.some.inj h)) X hT hst at_416 mw_4_214 mw_1_26 (List.mem_of_getElem? (i := 29) rfl) hQ hP hS hl.1 dX11_needWord_15 dX11_needWord_18 dX11_needWord_19 dX11_needWord_22 dX11_needWord_25 (Nat.le_of_ble_eq_true rfl) (Nat.le_of_ble_eq_true rfl) (Nat.le_of_ble_eq_true rfl) (Nat.le_of_ble_eq_true rfl) (Nat.le_of_ble_eq_true rfl) (Nat.le_of_ble_eq_true rfl)
  refine lv_if_lt (tgt := 15) X.1 X.2.1 dX11_needWord_1 (by decide) (fun hc => ?_) (fun hc => ?_)
  · have h := it_t hc h
    exact HJ15 () H locs ls h hP hS (lv_sub hl [] rfl)
  · have h := it_f hc h
    refine lv_iload_n X.1 X.2.1 dX11_needWord_4 rfl (lv_at hl 1 rfl) ?_
    refine lv_aload_n X.1 X.2.1 dX11_needWord_5 rfl (lv_at hl 0 rfl) ?_
    refine r_get (C := RX11) (T := TX11) (N := 15) (ci := 11) (v := .ref (a1 0)) X iw11 hP 0 rfl rfl 1 rfl mw_2_144 rfl dX11_needWord_6 ?_
    refine r_get (C := RX9) (T := TX9) (N := 20) (ci := 9) (v := .int (g1 0 0)) X iw9 hP 1 rfl rfl 0 rfl mw_1_108 rfl dX11_needWord_9 ?_
    refine lv_icmp_lt (tgt := 26) X.1 X.2.1 dX11_needWord_12 (by decide) (fun hc => ?_) (fun hc => ?_)
    · have h := it_t hc h
      exact retU_v (fun (_ : Unit) (_ : Option Nat) => (wPU tc a0 g0 q0_0 (a1 0) q0_2 q0_3 q0_4 q0_5 q0_6 q0_7 q0_8 q0_9 q0_10 q0_13 ++ (wSt tc a1 g1 q1_18 q1_19))) none (Option.some.inj h) X hQ hP hS (Nat.le_of_ble_eq_true rfl) (Nat.le_of_ble_eq_true rfl) dX11_needWord_26
    · have h := it_f hc h
      exact HJ15 () H locs ls h hP hS (lv_sub hl [] rfl)

def f_X11_needWriter (g0 : Pic) (g1 : Pic) (x1 : Int32) : Option ((Nat × Unit) ⊕ Unit) := jn (fun (_ : Unit) => some (.inl (0, ()))) (fun J15 => (if x1 < 0 then J15 () else (if x1 < (g1 7 0) then some (.inr ()) else J15 ())))
abbrev rm_X11_needWriter : Room := { frames := 6, cells := 1, slots := 6, locals := 120 }
set_option maxHeartbeats 4000000 in
set_option maxRecDepth 100000 in
theorem c_X11_needWriter (l : Launch) (hst : l.stackTraces = false) (dC : Nat → ClassId) (dI : Nat → Nat → Nat) (sk sv : Nat → Nat) (tc : Nat → ClassId) (a0 : Nat → Nat) (q0_0 : Nat) (q0_2 : Nat) (q0_3 : Nat) (q0_4 : Nat) (q0_5 : Nat) (q0_6 : Nat) (q0_7 : Nat) (q0_8 : Nat) (q0_9 : Nat) (q0_10 : Nat) (q0_13 : Option Nat) (a1 : Nat → Nat) (q1_18 : Option Nat) (q1_19 : Nat) (g0 : Pic) (g1 : Pic) (x1 : Int32) {res : ((Nat × Unit) ⊕ Unit)} (h : f_X11_needWriter g0 g1 x1 = some res) : CU l (dC, dI) sk sv (TY tc) yX11_needWriter cX11_needWriter 2 none rm_X11_needWriter 1 6 [.ref (a0 0), .int x1] (wPU tc a0 g0 q0_0 (a1 0) q0_2 q0_3 q0_4 q0_5 q0_6 q0_7 q0_8 q0_9 q0_10 q0_13 ++ (wSt tc a1 g1 q1_18 q1_19)) (oV (fun (_ : Unit) (_ : Option Nat) => (wPU tc a0 g0 q0_0 (a1 0) q0_2 q0_3 q0_4 q0_5 q0_6 q0_7 q0_8 q0_9 q0_10 q0_13 ++ (wSt tc a1 g1 q1_18 q1_19))) res) := by
  refine ofCU (by decide) (Nat.le_of_ble_eq_true rfl) ?_
  intro pr e s m args below meth c A Q ls H locs X hT hQ hD0 hP hS hl
  have hD : ∀ z0 z1, va_D A (wPU tc a0 z0 q0_0 (a1 0) q0_2 q0_3 q0_4 q0_5 q0_6 q0_7 q0_8 q0_9 q0_10 q0_13 ++ (wSt tc a1 z1 q1_18 q1_19)) := fun z0 z1 => D_fst (ws := (wPU tc a0 g0 q0_0 (a1 0) q0_2 q0_3 q0_4 q0_5 q0_6 q0_7 q0_8 q0_9 q0_10 q0_13 ++ (wSt tc a1 g1 q1_18 q1_19))) rfl hD0
  have hl : lv_has ls 2 [(0, .ref (a0 0)), (1, .int x1)] := hl
  unfold f_X11_needWriter at h
  refine lv_iload_n X.1 X.2.1 dX11_needWriter_0 rfl (lv_at hl 1 rfl) ?_
  obtain ⟨J15, eJ15, h⟩ := jn_el h
  have HJ15 : ∀ (_ : Unit) (H : Heap) (locs : List Loc) (ls : Array Slot), J15 () = some res → va_P (dC, dI) vwCl (wPU tc a0 g0 q0_0 (a1 0) q0_2 q0_3 q0_4 q0_5 q0_6 q0_7 q0_8 q0_9 q0_10 q0_13 ++ (wSt tc a1 g1 q1_18 q1_19)) H → va_S A s.heap H locs → lv_has ls 2 [] → W pr l e rm_X11_needWriter s m args below meth c H locs 0 0 Q (F0 m 15 ls []) := by
    intro _ H locs ls h hP hS hl
    rw [eJ15] at h
    exact thr_W (k := 0) (text := "no such writer") (ti := 25) none (oUv (fun (_ : Unit) (_ : Option Nat) => (wPU tc a0 g0 q0_0 (a1 0) q0_2 q0_3 q0_4 q0_5 q0_6 q0_7 q0_8 q0_9 q0_10 q0_13 ++ (wSt tc a1 g1 q1_18 q1_19))) (Option.some.inj h)) X hT hst at_416 mw_4_214 mw_1_26 (List.mem_of_getElem? (i := 31) rfl) hQ hP hS hl.1 dX11_needWriter_15 dX11_needWriter_18 dX11_needWriter_19 dX11_needWriter_22 dX11_needWriter_25 (Nat.le_of_ble_eq_true rfl) (Nat.le_of_ble_eq_true rfl) (Nat.le_of_ble_eq_true rfl) (Nat.le_of_ble_eq_true rfl) (Nat.le_of_ble_eq_true rfl) (Nat.le_of_ble_eq_true rfl)
  refine lv_if_lt (tgt := 15) X.1 X.2.1 dX11_needWriter_1 (by decide) (fun hc => ?_) (fun hc => ?_)
  · have h := it_t hc h
    exact HJ15 () H locs ls h hP hS (lv_sub hl [] rfl)
  · have h := it_f hc h
    refine lv_iload_n X.1 X.2.1 dX11_needWriter_4 rfl (lv_at hl 1 rfl) ?_
    refine lv_aload_n X.1 X.2.1 dX11_needWriter_5 rfl (lv_at hl 0 rfl) ?_
    refine r_get (C := RX11) (T := TX11) (N := 15) (ci := 11) (v := .ref (a1 0)) X iw11 hP 0 rfl rfl 1 rfl mw_2_144 rfl dX11_needWriter_6 ?_
    refine r_get (C := RX9) (T := TX9) (N := 20) (ci := 9) (v := .int (g1 7 0)) X iw9 hP 1 rfl rfl 7 rfl mw_1_146 rfl dX11_needWriter_9 ?_
    refine lv_icmp_lt (tgt := 26) X.1 X.2.1 dX11_needWriter_12 (by decide) (fun hc => ?_) (fun hc => ?_)
    · have h := it_t hc h
      exact retU_v (fun (_ : Unit) (_ : Option Nat) => (wPU tc a0 g0 q0_0 (a1 0) q0_2 q0_3 q0_4 q0_5 q0_6 q0_7 q0_8 q0_9 q0_10 q0_13 ++ (wSt tc a1 g1 q1_18 q1_19))) none (Option.some.inj h) X hQ hP hS (Nat.le_of_ble_eq_true rfl) (Nat.le_of_ble_eq_true rfl) dX11_needWriter_26
    · have h := it_f hc h
      exact HJ15 () H locs ls h hP hS (lv_sub hl [] rfl)

def f_X11_needLetter (g0 : Pic) (x1 : Int32) : Option ((Nat × Unit) ⊕ Unit) := jn (fun (_ : Unit) => some (.inl (0, ()))) (fun J10 => (if x1 < 0 then J10 () else (if x1 < 8 then some (.inr ()) else J10 ())))
abbrev rm_X11_needLetter : Room := { frames := 6, cells := 1, slots := 6, locals := 120 }
set_option maxHeartbeats 4000000 in
set_option maxRecDepth 100000 in
theorem c_X11_needLetter (l : Launch) (hst : l.stackTraces = false) (dC : Nat → ClassId) (dI : Nat → Nat → Nat) (sk sv : Nat → Nat) (tc : Nat → ClassId) (a0 : Nat → Nat) (q0_0 : Nat) (q0_1 : Nat) (q0_2 : Nat) (q0_3 : Nat) (q0_4 : Nat) (q0_5 : Nat) (q0_6 : Nat) (q0_7 : Nat) (q0_8 : Nat) (q0_9 : Nat) (q0_10 : Nat) (q0_13 : Option Nat) (g0 : Pic) (x1 : Int32) {res : ((Nat × Unit) ⊕ Unit)} (h : f_X11_needLetter g0 x1 = some res) : CU l (dC, dI) sk sv (TY tc) yX11_needLetter cX11_needLetter 2 none rm_X11_needLetter 1 6 [.ref (a0 0), .int x1] (wPU tc a0 g0 q0_0 q0_1 q0_2 q0_3 q0_4 q0_5 q0_6 q0_7 q0_8 q0_9 q0_10 q0_13) (oV (fun (_ : Unit) (_ : Option Nat) => (wPU tc a0 g0 q0_0 q0_1 q0_2 q0_3 q0_4 q0_5 q0_6 q0_7 q0_8 q0_9 q0_10 q0_13)) res) := by
  refine ofCU (by decide) (Nat.le_of_ble_eq_true rfl) ?_
  intro pr e s m args below meth c A Q ls H locs X hT hQ hD0 hP hS hl
  have hD : ∀ z0, va_D A (wPU tc a0 z0 q0_0 q0_1 q0_2 q0_3 q0_4 q0_5 q0_6 q0_7 q0_8 q0_9 q0_10 q0_13) := fun z0 => D_fst (ws := (wPU tc a0 g0 q0_0 q0_1 q0_2 q0_3 q0_4 q0_5 q0_6 q0_7 q0_8 q0_9 q0_10 q0_13)) rfl hD0
  have hl : lv_has ls 2 [(0, .ref (a0 0)), (1, .int x1)] := hl
  unfold f_X11_needLetter at h
  refine lv_iload_n X.1 X.2.1 dX11_needLetter_0 rfl (lv_at hl 1 rfl) ?_
  obtain ⟨J10, eJ10, h⟩ := jn_el h
  have HJ10 : ∀ (_ : Unit) (H : Heap) (locs : List Loc) (ls : Array Slot), J10 () = some res → va_P (dC, dI) vwCl (wPU tc a0 g0 q0_0 q0_1 q0_2 q0_3 q0_4 q0_5 q0_6 q0_7 q0_8 q0_9 q0_10 q0_13) H → va_S A s.heap H locs → lv_has ls 2 [] → W pr l e rm_X11_needLetter s m args below meth c H locs 0 0 Q (F0 m 10 ls []) := by
    intro _ H locs ls h hP hS hl
    rw [eJ10] at h
    exact thr_W (k := 0) (text := "no such letter") (ti := 29) none (oUv (fun (_ : Unit) (_ : Option Nat) => (wPU tc a0 g0 q0_0 q0_1 q0_2 q0_3 q0_4 q0_5 q0_6 q0_7 q0_8 q0_9 q0_10 q0_13)) (Option.some.inj h)) X hT hst at_416 mw_4_214 mw_1_26 (List.mem_of_getElem? (i := 35) rfl) hQ hP hS hl.1 dX11_needLetter_10 dX11_needLetter_13 dX11_needLetter_14 dX11_needLetter_17 dX11_needLetter_20 (Nat.le_of_ble_eq_true rfl) (Nat.le_of_ble_eq_true rfl) (Nat.le_of_ble_eq_true rfl) (Nat.le_of_ble_eq_true rfl) (Nat.le_of_ble_eq_true rfl) (Nat.le_of_ble_eq_true rfl)
  refine lv_if_lt (tgt := 10) X.1 X.2.1 dX11_needLetter_1 (by decide) (fun hc => ?_) (fun hc => ?_)
  · have h := it_t hc h
    exact HJ10 () H locs ls h hP hS (lv_sub hl [] rfl)
  · have h := it_f hc h
    refine lv_iload_n X.1 X.2.1 dX11_needLetter_4 rfl (lv_at hl 1 rfl) ?_
    refine lv_bipush (v := 8) X.1 X.2.1 dX11_needLetter_5 (by decide) ?_
    refine lv_icmp_lt (tgt := 21) X.1 X.2.1 dX11_needLetter_7 (by decide) (fun hc => ?_) (fun hc => ?_)
    · have h := it_t hc h
      exact retU_v (fun (_ : Unit) (_ : Option Nat) => (wPU tc a0 g0 q0_0 q0_1 q0_2 q0_3 q0_4 q0_5 q0_6 q0_7 q0_8 q0_9 q0_10 q0_13)) none (Option.some.inj h) X hQ hP hS (Nat.le_of_ble_eq_true rfl) (Nat.le_of_ble_eq_true rfl) dX11_needLetter_21
    · have h := it_f hc h
      exact HJ10 () H locs ls h hP hS (lv_sub hl [] rfl)

def f_X11_needNumber (g0 : Pic) (x1 : Int32) (x2 : Int32) (x3 : Int32) : Option ((Nat × Unit) ⊕ Unit) := jn (fun (_ : Unit) => some (.inl (1, ()))) (fun J10 => (if x1 < x2 then J10 () else (if x1 ≤ x3 then some (.inr ()) else J10 ())))
abbrev rm_X11_needNumber : Room := { frames := 6, cells := 1, slots := 6, locals := 120 }
set_option maxHeartbeats 4000000 in
set_option maxRecDepth 100000 in
theorem c_X11_needNumber (l : Launch) (hst : l.stackTraces = false) (dC : Nat → ClassId) (dI : Nat → Nat → Nat) (sk sv : Nat → Nat) (tc : Nat → ClassId) (a0 : Nat → Nat) (q0_0 : Nat) (q0_1 : Nat) (q0_2 : Nat) (q0_3 : Nat) (q0_4 : Nat) (q0_5 : Nat) (q0_6 : Nat) (q0_7 : Nat) (q0_8 : Nat) (q0_9 : Nat) (q0_10 : Nat) (q0_13 : Option Nat) (g0 : Pic) (x1 : Int32) (x2 : Int32) (x3 : Int32) {res : ((Nat × Unit) ⊕ Unit)} (h : f_X11_needNumber g0 x1 x2 x3 = some res) : CU l (dC, dI) sk sv (TY tc) yX11_needNumber cX11_needNumber 4 none rm_X11_needNumber 1 6 [.ref (a0 0), .int x1, .int x2, .int x3] (wPU tc a0 g0 q0_0 q0_1 q0_2 q0_3 q0_4 q0_5 q0_6 q0_7 q0_8 q0_9 q0_10 q0_13) (oV (fun (_ : Unit) (_ : Option Nat) => (wPU tc a0 g0 q0_0 q0_1 q0_2 q0_3 q0_4 q0_5 q0_6 q0_7 q0_8 q0_9 q0_10 q0_13)) res) := by
  refine ofCU (by decide) (Nat.le_of_ble_eq_true rfl) ?_
  intro pr e s m args below meth c A Q ls H locs X hT hQ hD0 hP hS hl
  have hD : ∀ z0, va_D A (wPU tc a0 z0 q0_0 q0_1 q0_2 q0_3 q0_4 q0_5 q0_6 q0_7 q0_8 q0_9 q0_10 q0_13) := fun z0 => D_fst (ws := (wPU tc a0 g0 q0_0 q0_1 q0_2 q0_3 q0_4 q0_5 q0_6 q0_7 q0_8 q0_9 q0_10 q0_13)) rfl hD0
  have hl : lv_has ls 4 [(0, .ref (a0 0)), (1, .int x1), (2, .int x2), (3, .int x3)] := hl
  unfold f_X11_needNumber at h
  refine lv_iload_n X.1 X.2.1 dX11_needNumber_0 rfl (lv_at hl 1 rfl) ?_
  refine lv_iload_n X.1 X.2.1 dX11_needNumber_1 rfl (lv_at hl 2 rfl) ?_
  obtain ⟨J10, eJ10, h⟩ := jn_el h
  have HJ10 : ∀ (_ : Unit) (H : Heap) (locs : List Loc) (ls : Array Slot), J10 () = some res → va_P (dC, dI) vwCl (wPU tc a0 g0 q0_0 q0_1 q0_2 q0_3 q0_4 q0_5 q0_6 q0_7 q0_8 q0_9 q0_10 q0_13) H → va_S A s.heap H locs → lv_has ls 4 [] → W pr l e rm_X11_needNumber s m args below meth c H locs 0 0 Q (F0 m 10 ls []) := by
    intro _ H locs ls h hP hS hl
    rw [eJ10] at h
    exact thr_W (k := 1) (text := "the number is none") (ti := 27) none (oUv (fun (_ : Unit) (_ : Option Nat) => (wPU tc a0 g0 q0_0 q0_1 q0_2 q0_3 q0_4 q0_5 q0_6 q0_7 q0_8 q0_9 q0_10 q0_13)) (Option.some.inj h)) X hT hst at_114 mw_4_6 mw_1_21 (List.mem_of_getElem? (i := 33) rfl) hQ hP hS hl.1 dX11_needNumber_10 dX11_needNumber_13 dX11_needNumber_14 dX11_needNumber_17 dX11_needNumber_20 (Nat.le_of_ble_eq_true rfl) (Nat.le_of_ble_eq_true rfl) (Nat.le_of_ble_eq_true rfl) (Nat.le_of_ble_eq_true rfl) (Nat.le_of_ble_eq_true rfl) (Nat.le_of_ble_eq_true rfl)
  refine lv_icmp_lt (tgt := 10) X.1 X.2.1 dX11_needNumber_2 (by decide) (fun hc => ?_) (fun hc => ?_)
  · have h := it_t hc h
    exact HJ10 () H locs ls h hP hS (lv_sub hl [] rfl)
  · have h := it_f hc h
    refine lv_iload_n X.1 X.2.1 dX11_needNumber_5 rfl (lv_at hl 1 rfl) ?_
    refine lv_iload_n X.1 X.2.1 dX11_needNumber_6 rfl (lv_at hl 3 rfl) ?_
    refine lv_icmp_le (tgt := 21) X.1 X.2.1 dX11_needNumber_7 (by decide) (fun hc => ?_) (fun hc => ?_)
    · have h := it_t hc h
      exact retU_v (fun (_ : Unit) (_ : Option Nat) => (wPU tc a0 g0 q0_0 q0_1 q0_2 q0_3 q0_4 q0_5 q0_6 q0_7 q0_8 q0_9 q0_10 q0_13)) none (Option.some.inj h) X hQ hP hS (Nat.le_of_ble_eq_true rfl) (Nat.le_of_ble_eq_true rfl) dX11_needNumber_21
    · have h := it_f hc h
      exact HJ10 () H locs ls h hP hS (lv_sub hl [] rfl)

def f_X11_needRows (g0 : Pic) (x1 : Int32) : Option ((Nat × Unit) ⊕ Unit) := (if x1 = 0 then some (.inl (1, ())) else some (.inr ()))
abbrev rm_X11_needRows : Room := { frames := 6, cells := 1, slots := 6, locals := 120 }
set_option maxHeartbeats 4000000 in
set_option maxRecDepth 100000 in
theorem c_X11_needRows (l : Launch) (hst : l.stackTraces = false) (dC : Nat → ClassId) (dI : Nat → Nat → Nat) (sk sv : Nat → Nat) (tc : Nat → ClassId) (a0 : Nat → Nat) (q0_0 : Nat) (q0_1 : Nat) (q0_2 : Nat) (q0_3 : Nat) (q0_4 : Nat) (q0_5 : Nat) (q0_6 : Nat) (q0_7 : Nat) (q0_8 : Nat) (q0_9 : Nat) (q0_10 : Nat) (q0_13 : Option Nat) (g0 : Pic) (x1 : Int32) {res : ((Nat × Unit) ⊕ Unit)} (h : f_X11_needRows g0 x1 = some res) : CU l (dC, dI) sk sv (TY tc) yX11_needRows cX11_needRows 2 none rm_X11_needRows 1 6 [.ref (a0 0), .int x1] (wPU tc a0 g0 q0_0 q0_1 q0_2 q0_3 q0_4 q0_5 q0_6 q0_7 q0_8 q0_9 q0_10 q0_13) (oV (fun (_ : Unit) (_ : Option Nat) => (wPU tc a0 g0 q0_0 q0_1 q0_2 q0_3 q0_4 q0_5 q0_6 q0_7 q0_8 q0_9 q0_10 q0_13)) res) := by
  refine ofCU (by decide) (Nat.le_of_ble_eq_true rfl) ?_
  intro pr e s m args below meth c A Q ls H locs X hT hQ hD0 hP hS hl
  have hD : ∀ z0, va_D A (wPU tc a0 z0 q0_0 q0_1 q0_2 q0_3 q0_4 q0_5 q0_6 q0_7 q0_8 q0_9 q0_10 q0_13) := fun z0 => D_fst (ws := (wPU tc a0 g0 q0_0 q0_1 q0_2 q0_3 q0_4 q0_5 q0_6 q0_7 q0_8 q0_9 q0_10 q0_13)) rfl hD0
  have hl : lv_has ls 2 [(0, .ref (a0 0)), (1, .int x1)] := hl
  unfold f_X11_needRows at h
  refine lv_iload_n X.1 X.2.1 dX11_needRows_0 rfl (lv_at hl 1 rfl) ?_
  refine lv_if_ne (tgt := 15) X.1 X.2.1 dX11_needRows_1 (by decide) (fun hc => ?_) (fun hc => ?_)
  · have h := it_f hc h
    exact retU_v (fun (_ : Unit) (_ : Option Nat) => (wPU tc a0 g0 q0_0 q0_1 q0_2 q0_3 q0_4 q0_5 q0_6 q0_7 q0_8 q0_9 q0_10 q0_13)) none (Option.some.inj h) X hQ hP hS (Nat.le_of_ble_eq_true rfl) (Nat.le_of_ble_eq_true rfl) dX11_needRows_15
  · have h := it_t hc h
    exact thr_W (k := 1) (text := "the tape is not that") (ti := 30) none (oUv (fun (_ : Unit) (_ : Option Nat) => (wPU tc a0 g0 q0_0 q0_1 q0_2 q0_3 q0_4 q0_5 q0_6 q0_7 q0_8 q0_9 q0_10 q0_13)) (Option.some.inj h)) X hT hst at_114 mw_4_6 mw_1_21 (List.mem_of_getElem? (i := 36) rfl) hQ hP hS hl.1 dX11_needRows_4 dX11_needRows_7 dX11_needRows_8 dX11_needRows_11 dX11_needRows_14 (Nat.le_of_ble_eq_true rfl) (Nat.le_of_ble_eq_true rfl) (Nat.le_of_ble_eq_true rfl) (Nat.le_of_ble_eq_true rfl) (Nat.le_of_ble_eq_true rfl) (Nat.le_of_ble_eq_true rfl)

def f_X11_handOf (g0 : Pic) (g1 : Pic) (g2 : Pic) (x1 : Int32) : Option (Pic) := gdi x1 5 (bd (f_X3_take g2 g1 (g1 8 (x1.toNatClampNeg))) (fun g2_2 => some g2_2))
abbrev rm_X11_handOf : Room := { frames := 1, cells := 0, slots := 0, locals := 27 }
set_option maxHeartbeats 4000000 in
set_option maxRecDepth 100000 in
theorem c_X11_handOf (l : Launch) (dC : Nat → ClassId) (dI : Nat → Nat → Nat) (sk sv : Nat → Nat) (tc : Nat → ClassId) (a0 : Nat → Nat) (q0_0 : Nat) (q0_2 : Nat) (q0_3 : Nat) (q0_4 : Nat) (q0_6 : Nat) (q0_7 : Nat) (q0_8 : Nat) (q0_9 : Nat) (q0_10 : Nat) (q0_13 : Option Nat) (a1 : Nat → Nat) (q1_18 : Option Nat) (q1_19 : Nat) (a2 : Nat → Nat) (g0 : Pic) (g1 : Pic) (g2 : Pic) (x1 : Int32) {G2 : Pic} (h : f_X11_handOf g0 g1 g2 x1 = some G2) : CT l (dC, dI) sk sv (TY tc) yX11_handOf cX11_handOf 2 (some (.object "PencilUp$Hand")) rm_X11_handOf [.ref (a0 0), .int x1] (wPU tc a0 g0 q0_0 (a1 0) q0_2 q0_3 q0_4 (a2 0) q0_6 q0_7 q0_8 q0_9 q0_10 q0_13 ++ (wSt tc a1 g1 q1_18 q1_19 ++ (wHd tc a2 g2))) (some (.ref (a2 0))) (wPU tc a0 g0 q0_0 (a1 0) q0_2 q0_3 q0_4 (a2 0) q0_6 q0_7 q0_8 q0_9 q0_10 q0_13 ++ (wSt tc a1 g1 q1_18 q1_19 ++ (wHd tc a2 G2))) := by
  refine ofCT (by decide) (Nat.le_of_ble_eq_true rfl) ?_
  intro pr e s m args below meth c A Q ls H locs X hQ hD0 hP hS hl
  have hD : ∀ z0 z1 z2, va_D A (wPU tc a0 z0 q0_0 (a1 0) q0_2 q0_3 q0_4 (a2 0) q0_6 q0_7 q0_8 q0_9 q0_10 q0_13 ++ (wSt tc a1 z1 q1_18 q1_19 ++ (wHd tc a2 z2))) := fun z0 z1 z2 => D_fst (ws := (wPU tc a0 g0 q0_0 (a1 0) q0_2 q0_3 q0_4 (a2 0) q0_6 q0_7 q0_8 q0_9 q0_10 q0_13 ++ (wSt tc a1 g1 q1_18 q1_19 ++ (wHd tc a2 g2)))) rfl hD0
  have hl : lv_has ls 2 [(0, .ref (a0 0)), (1, .int x1)] := hl
  unfold f_X11_handOf at h
  refine lv_aload_n X.1 X.2.1 dX11_handOf_0 rfl (lv_at hl 0 rfl) ?_
  refine r_get (C := RX11) (T := TX11) (N := 15) (ci := 11) (v := .ref (a2 0)) X iw11 hP 0 rfl rfl 5 rfl mw_2_148 rfl dX11_handOf_1 ?_
  refine lv_aload_n X.1 X.2.1 dX11_handOf_4 rfl (lv_at hl 0 rfl) ?_
  refine r_get (C := RX11) (T := TX11) (N := 15) (ci := 11) (v := .ref (a1 0)) X iw11 hP 0 rfl rfl 1 rfl mw_2_144 rfl dX11_handOf_5 ?_
  refine lv_aload_n X.1 X.2.1 dX11_handOf_8 rfl (lv_at hl 0 rfl) ?_
  refine r_get (C := RX11) (T := TX11) (N := 15) (ci := 11) (v := .ref (a1 0)) X iw11 hP 0 rfl rfl 1 rfl mw_2_144 rfl dX11_handOf_9 ?_
  refine r_get (C := RX9) (T := TX9) (N := 20) (ci := 9) (v := .ref (a1 9)) X iw9 hP 1 rfl rfl 8 rfl mw_1_151 rfl dX11_handOf_12 ?_
  refine lv_iload_n X.1 X.2.1 dX11_handOf_15 rfl (lv_at hl 1 rfl) ?_
  obtain ⟨hg_1, h⟩ := gdi_el h
  refine r_iald X hP 6 0 rfl rfl hg_1 rfl dX11_handOf_16 ?_
  obtain ⟨g2_2, hc_2, h⟩ := bd_el h
  refine call_Q (ws := (wPU tc a0 g0 q0_0 (a1 0) q0_2 q0_3 q0_4 (a2 0) q0_6 q0_7 q0_8 q0_9 q0_10 q0_13 ++ (wSt tc a1 g1 q1_18 q1_19 ++ (wHd tc a2 g2)))) (ws' := (wPU tc a0 g0 q0_0 (a1 0) q0_2 q0_3 q0_4 (a2 0) q0_6 q0_7 q0_8 q0_9 q0_10 q0_13 ++ (wSt tc a1 g1 q1_18 q1_19 ++ (wHd tc a2 g2_2)))) (wr := (wPU tc a0 g0 q0_0 (a1 0) q0_2 q0_3 q0_4 (a2 0) q0_6 q0_7 q0_8 q0_9 q0_10 q0_13)) [11, 12, 13, 14, 15, 1, 2, 3, 4, 5, 6, 7, 8, 9, 10] [0] [0, 6, 7, 8, 9, 10, 11, 12, 13, 14, 15, 1, 2, 3, 4, 5] (As := [.ref (a1 0), .int (g1 8 (x1.toNatClampNeg))]) (rest := []) X (c_X3_take l dC dI sk sv tc a2 a1 q1_18 q1_19 g2 g1 (g1 8 (x1.toNatClampNeg)) hc_2) mw_2_219 mw_2_220 mw_2_221 mw_1_7 mw_2_222 dc_X3_take ⟨Nat.le_of_ble_eq_true rfl, Nat.le_of_ble_eq_true rfl⟩ rfl rfl ⟨Nat.zero_le _, Nat.zero_le _⟩ ⟨rfl, rfl, rfl, rfl, by decide, rfl, rfl⟩ hP (hD _ _ _) hS 0 rfl rfl rfl hl.1 (Nat.le_of_ble_eq_true rfl) dX11_handOf_17 (fun H locs hP hS => ?_)
  refine W.eq (g2 := F0 m 20 ls []) rfl ?_
  refine lv_aload_n X.1 X.2.1 dX11_handOf_20 rfl (lv_at hl 0 rfl) ?_
  refine r_get (C := RX11) (T := TX11) (N := 15) (ci := 11) (v := .ref (a2 0)) X iw11 hP 0 rfl rfl 5 rfl mw_2_148 rfl dX11_handOf_21 ?_
  exact ret_a (fun u => (wPU tc a0 g0 q0_0 (a1 0) q0_2 q0_3 q0_4 (a2 0) q0_6 q0_7 q0_8 q0_9 q0_10 q0_13 ++ (wSt tc a1 g1 q1_18 q1_19 ++ (wHd tc a2 u)))) (Option.some.inj h) X hQ hP hS dX11_handOf_24

def f_X11_forgetActs (g0 : Pic) : Option (Pic) := nm (pu g0 12 0 0) (fun g0_1 => some g0_1)
abbrev rm_X11_forgetActs : Room := { frames := 0, cells := 0, slots := 0, locals := 0 }
set_option maxHeartbeats 4000000 in
set_option maxRecDepth 100000 in
theorem c_X11_forgetActs (l : Launch) (dC : Nat → ClassId) (dI : Nat → Nat → Nat) (sk sv : Nat → Nat) (tc : Nat → ClassId) (a0 : Nat → Nat) (q0_0 : Nat) (q0_1 : Nat) (q0_2 : Nat) (q0_3 : Nat) (q0_4 : Nat) (q0_5 : Nat) (q0_6 : Nat) (q0_7 : Nat) (q0_8 : Nat) (q0_9 : Nat) (q0_10 : Nat) (q0_13 : Option Nat) (g0 : Pic) {G0 : Pic} (h : f_X11_forgetActs g0 = some G0) : CT l (dC, dI) sk sv (TY tc) yX11_forgetActs cX11_forgetActs 1 none rm_X11_forgetActs [.ref (a0 0)] (wPU tc a0 g0 q0_0 q0_1 q0_2 q0_3 q0_4 q0_5 q0_6 q0_7 q0_8 q0_9 q0_10 q0_13) none (wPU tc a0 G0 q0_0 q0_1 q0_2 q0_3 q0_4 q0_5 q0_6 q0_7 q0_8 q0_9 q0_10 q0_13) := by
  refine ofCT (by decide) (Nat.le_of_ble_eq_true rfl) ?_
  intro pr e s m args below meth c A Q ls H locs X hQ hD0 hP hS hl
  have hD : ∀ z0, va_D A (wPU tc a0 z0 q0_0 q0_1 q0_2 q0_3 q0_4 q0_5 q0_6 q0_7 q0_8 q0_9 q0_10 q0_13) := fun z0 => D_fst (ws := (wPU tc a0 g0 q0_0 q0_1 q0_2 q0_3 q0_4 q0_5 q0_6 q0_7 q0_8 q0_9 q0_10 q0_13)) rfl hD0
  have hl : lv_has ls 1 [(0, .ref (a0 0))] := hl
  unfold f_X11_forgetActs at h
  refine lv_aload_n X.1 X.2.1 dX11_forgetActs_0 rfl (lv_at hl 0 rfl) ?_
  refine lv_iconst (v := 0) X.1 X.2.1 dX11_forgetActs_1 (by decide) ?_
  obtain ⟨g0_1, eg0_1, h⟩ := nm_el h
  refine r_put (C := RX11) (T := TX11) (N := 15) (ci := 11) tyX11 tyX11_ok nmX11 X iw11 hP (hD _) hS 0 rfl rfl 12 rfl mw_2_155 rfl rfl rfl rfl dX11_forgetActs_2 (wPU tc a0 g0_1 q0_0 q0_1 q0_2 q0_3 q0_4 q0_5 q0_6 q0_7 q0_8 q0_9 q0_10 q0_13) (by rw [eg0_1]; rfl) (fun H locs hP hS => ?_)
  exact ret_v (fun u => (wPU tc a0 u q0_0 q0_1 q0_2 q0_3 q0_4 q0_5 q0_6 q0_7 q0_8 q0_9 q0_10 q0_13)) (res := G0) (Option.some.inj h) X hQ hP hS dX11_forgetActs_5

def f_X11_greatest_often_L5 (x2 : Int32) (g0 : Pic) (g1 : Pic) (n : Nat) (a : Int32 × Int32) : Option (Int32) := lp (fun (rec : Int32 × Int32 → Option (Int32)) (a : Int32 × Int32) => match a with | (x3, x4) => (if x2 ≤ x4 then some x3 else jn (fun (x3_J29 : Int32) => nm (x4 + 1) (fun x4_1 => rec (x3_J29, x4_1))) (fun J29 => jn (fun (_ : Unit) => J29 x4) (fun J26 => (if x3 = (-1) then J26 () else gdi x4 8 (gdi x3 8 ((if (g1 3 (x4.toNatClampNeg)) ≤ (g1 3 (x3.toNatClampNeg)) then J29 x3 else J26 ())))))))) n a
def f_X11_greatest_often (g0 : Pic) (g1 : Pic) (x2 : Int32) : Option (Int32) := bd (f_X11_greatest_often_L5 x2 g0 g1 fu ((-1), 0)) (fun x3_4 => some x3_4)
abbrev rm_X11_greatest_often : Room := { frames := 0, cells := 0, slots := 0, locals := 0 }
set_option maxHeartbeats 4000000 in
set_option maxRecDepth 100000 in
theorem c_X11_greatest_often (l : Launch) (dC : Nat → ClassId) (dI : Nat → Nat → Nat) (sk sv : Nat → Nat) (tc : Nat → ClassId) (a0 : Nat → Nat) (q0_0 : Nat) (q0_2 : Nat) (q0_3 : Nat) (q0_4 : Nat) (q0_5 : Nat) (q0_6 : Nat) (q0_7 : Nat) (q0_8 : Nat) (q0_9 : Nat) (q0_10 : Nat) (q0_13 : Option Nat) (a1 : Nat → Nat) (q1_18 : Option Nat) (q1_19 : Nat) (g0 : Pic) (g1 : Pic) (x2 : Int32) {r0 : Int32} (h : f_X11_greatest_often g0 g1 x2 = some r0) : CT l (dC, dI) sk sv (TY tc) yX11_greatest cX11_greatest 5 (some .int) rm_X11_greatest_often [.ref (a0 0), .ref (a1 4), .int x2] (wPU tc a0 g0 q0_0 (a1 0) q0_2 q0_3 q0_4 q0_5 q0_6 q0_7 q0_8 q0_9 q0_10 q0_13 ++ (wSt tc a1 g1 q1_18 q1_19)) (some (.int r0)) (wPU tc a0 g0 q0_0 (a1 0) q0_2 q0_3 q0_4 q0_5 q0_6 q0_7 q0_8 q0_9 q0_10 q0_13 ++ (wSt tc a1 g1 q1_18 q1_19)) := by
  refine ofCT (by decide) (Nat.le_of_ble_eq_true rfl) ?_
  intro pr e s m args below meth c A Q ls H locs X hQ hD0 hP hS hl
  have hD : ∀ z0 z1, va_D A (wPU tc a0 z0 q0_0 (a1 0) q0_2 q0_3 q0_4 q0_5 q0_6 q0_7 q0_8 q0_9 q0_10 q0_13 ++ (wSt tc a1 z1 q1_18 q1_19)) := fun z0 z1 => D_fst (ws := (wPU tc a0 g0 q0_0 (a1 0) q0_2 q0_3 q0_4 q0_5 q0_6 q0_7 q0_8 q0_9 q0_10 q0_13 ++ (wSt tc a1 g1 q1_18 q1_19))) rfl hD0
  have hl : lv_has ls 5 [(0, .ref (a0 0)), (1, .ref (a1 4)), (2, .int x2)] := hl
  have HL5 : ∀ (x2 : Int32) (n : Nat) (x3 : Int32) (x4 : Int32) (ex : (Int32)), f_X11_greatest_often_L5 x2 g0 g1 n (x3, x4) = some ex → ∀ (H : Heap) (locs : List Loc) (ls : Array Slot), va_P (dC, dI) vwCl (wPU tc a0 g0 q0_0 (a1 0) q0_2 q0_3 q0_4 q0_5 q0_6 q0_7 q0_8 q0_9 q0_10 q0_13 ++ (wSt tc a1 g1 q1_18 q1_19)) H → va_S A s.heap H locs → lv_has ls 5 [(1, .ref (a1 4)), (2, .int x2), (3, .int x3), (4, .int x4)] → (∀ (y3 : Int32), y3 = ex → ∀ (H : Heap) (locs : List Loc) (ls : Array Slot), va_P (dC, dI) vwCl (wPU tc a0 g0 q0_0 (a1 0) q0_2 q0_3 q0_4 q0_5 q0_6 q0_7 q0_8 q0_9 q0_10 q0_13 ++ (wSt tc a1 g1 q1_18 q1_19)) H → va_S A s.heap H locs → lv_has ls 5 [(3, .int y3)] → W pr l e rm_X11_greatest_often s m args below meth c H locs 0 0 Q (F0 m 35 ls [])) → W pr l e rm_X11_greatest_often s m args below meth c H locs 0 0 Q (F0 m 5 ls []) := by
    intro x2 n
    induction n with
    | zero => intro x3 x4 ex h; exact lp_z h
    | succ n ih =>
      intro x3 x4 ex h H locs ls hP hS hl K
      have h := lp_s h
      refine lv_iload X.1 X.2.1 dX11_greatest_5 (lv_at hl 3 rfl) ?_
      refine lv_iload_n X.1 X.2.1 dX11_greatest_7 rfl (lv_at hl 1 rfl) ?_
      refine lv_icmp_ge (tgt := 35) X.1 X.2.1 dX11_greatest_8 (by decide) (fun hc => ?_) (fun hc => ?_)
      · have h := it_t hc h
        exact K x3 (Option.some.inj h) H locs ls hP hS (lv_sub hl [2] rfl)
      · have h := it_f hc h
        refine lv_iload_n X.1 X.2.1 dX11_greatest_11 rfl (lv_at hl 2 rfl) ?_
        refine lv_iconst (v := (-1)) X.1 X.2.1 dX11_greatest_12 (by decide) ?_
        obtain ⟨J29, eJ29, h⟩ := jn_el h
        have HJ29 : ∀ (x3_J29 : Int32) (H : Heap) (locs : List Loc) (ls : Array Slot), J29 x3_J29 = some ex → va_P (dC, dI) vwCl (wPU tc a0 g0 q0_0 (a1 0) q0_2 q0_3 q0_4 q0_5 q0_6 q0_7 q0_8 q0_9 q0_10 q0_13 ++ (wSt tc a1 g1 q1_18 q1_19)) H → va_S A s.heap H locs → lv_has ls 5 [(1, .ref (a1 4)), (2, .int x2), (3, .int x3_J29), (4, .int x4)] → W pr l e rm_X11_greatest_often s m args below meth c H locs 0 0 Q (F0 m 29 ls []) := by
          intro x3_J29 H locs ls h hP hS hl
          rw [eJ29] at h
          obtain ⟨x4_1, ex4_1, h⟩ := nm_el h
          refine lv_iinc (v := x4_1) (lv' := [(4, .int x4_1), (1, .ref (a1 4)), (2, .int x2), (3, .int x3_J29)]) X.1 X.2.1 dX11_greatest_29 hl (k := 3) rfl (by rw [ex4_1]; rfl) (by decide) rfl (fun ls hl => ?_)
          refine lv_goto (tgt := 5) X.1 X.2.1 dX11_greatest_32 (by decide) ?_
          exact ih x3_J29 x4_1 ex h H locs ls hP hS (lv_sub hl [1, 2, 3, 0] rfl) K
        obtain ⟨J26, eJ26, h⟩ := jn_el h
        have HJ26 : ∀ (_ : Unit) (H : Heap) (locs : List Loc) (ls : Array Slot), J26 () = some ex → va_P (dC, dI) vwCl (wPU tc a0 g0 q0_0 (a1 0) q0_2 q0_3 q0_4 q0_5 q0_6 q0_7 q0_8 q0_9 q0_10 q0_13 ++ (wSt tc a1 g1 q1_18 q1_19)) H → va_S A s.heap H locs → lv_has ls 5 [(1, .ref (a1 4)), (2, .int x2), (4, .int x4)] → W pr l e rm_X11_greatest_often s m args below meth c H locs 0 0 Q (F0 m 26 ls []) := by
          intro _ H locs ls h hP hS hl
          rw [eJ26] at h
          refine lv_iload X.1 X.2.1 dX11_greatest_26 (lv_at hl 2 rfl) ?_
          refine lv_istore_n (lv' := [(3, .int x4), (1, .ref (a1 4)), (2, .int x2), (4, .int x4)]) X.1 X.2.1 dX11_greatest_28 rfl hl (by decide) rfl (fun ls hl => ?_)
          exact HJ29 x4 H locs ls h hP hS (lv_sub hl [1, 2, 0, 3] rfl)
        refine lv_icmp_eq (tgt := 26) X.1 X.2.1 dX11_greatest_13 (by decide) (fun hc => ?_) (fun hc => ?_)
        · have h := it_t hc h
          exact HJ26 () H locs ls h hP hS (lv_sub hl [0, 1, 3] rfl)
        · have h := it_f hc h
          refine lv_aload_n X.1 X.2.1 dX11_greatest_16 rfl (lv_at hl 0 rfl) ?_
          refine lv_iload X.1 X.2.1 dX11_greatest_17 (lv_at hl 3 rfl) ?_
          obtain ⟨hg_2, h⟩ := gdi_el h
          refine r_iald X hP 4 0 rfl rfl hg_2 rfl dX11_greatest_19 ?_
          refine lv_aload_n X.1 X.2.1 dX11_greatest_20 rfl (lv_at hl 0 rfl) ?_
          refine lv_iload_n X.1 X.2.1 dX11_greatest_21 rfl (lv_at hl 2 rfl) ?_
          obtain ⟨hg_3, h⟩ := gdi_el h
          refine r_iald X hP 4 0 rfl rfl hg_3 rfl dX11_greatest_22 ?_
          refine lv_icmp_le (tgt := 29) X.1 X.2.1 dX11_greatest_23 (by decide) (fun hc => ?_) (fun hc => ?_)
          · have h := it_t hc h
            exact HJ29 x3 H locs ls h hP hS (lv_sub hl [0, 1, 2, 3] rfl)
          · have h := it_f hc h
            exact HJ26 () H locs ls h hP hS (lv_sub hl [0, 1, 3] rfl)
  unfold f_X11_greatest_often at h
  refine lv_iconst (v := (-1)) X.1 X.2.1 dX11_greatest_0 (by decide) ?_
  refine lv_istore_n (lv' := [(3, .int (-1)), (0, .ref (a0 0)), (1, .ref (a1 4)), (2, .int x2)]) X.1 X.2.1 dX11_greatest_1 rfl hl (by decide) rfl (fun ls hl => ?_)
  refine lv_iconst (v := 0) X.1 X.2.1 dX11_greatest_2 (by decide) ?_
  refine lv_istore (lv' := [(4, .int 0), (3, .int (-1)), (0, .ref (a0 0)), (1, .ref (a1 4)), (2, .int x2)]) X.1 X.2.1 dX11_greatest_3 hl (by decide) rfl (fun ls hl => ?_)
  obtain ⟨ex_4, hL_4, h⟩ := bd_el h
  refine HL5 x2 fu (-1) 0 ex_4 hL_4 H locs ls hP hS (lv_sub hl [3, 4, 1, 0] rfl) (fun x3_4 he H locs ls hP hS hl => ?_)
  subst he
  refine lv_iload_n X.1 X.2.1 dX11_greatest_35 rfl (lv_at hl 0 rfl) ?_
  exact ret_i0 (Option.some.inj h) X hQ hP hS dX11_greatest_36

def f_X11_greatest_lengths_L5 (x2 : Int32) (g0 : Pic) (g1 : Pic) (n : Nat) (a : Int32 × Int32) : Option (Int32) := lp (fun (rec : Int32 × Int32 → Option (Int32)) (a : Int32 × Int32) => match a with | (x3, x4) => (if x2 ≤ x4 then some x3 else jn (fun (x3_J29 : Int32) => nm (x4 + 1) (fun x4_1 => rec (x3_J29, x4_1))) (fun J29 => jn (fun (_ : Unit) => J29 x4) (fun J26 => (if x3 = (-1) then J26 () else gdi x4 8 (gdi x3 8 ((if (g1 2 (x4.toNatClampNeg)) ≤ (g1 2 (x3.toNatClampNeg)) then J29 x3 else J26 ())))))))) n a
def f_X11_greatest_lengths (g0 : Pic) (g1 : Pic) (x2 : Int32) : Option (Int32) := bd (f_X11_greatest_lengths_L5 x2 g0 g1 fu ((-1), 0)) (fun x3_4 => some x3_4)
abbrev rm_X11_greatest_lengths : Room := { frames := 0, cells := 0, slots := 0, locals := 0 }
set_option maxHeartbeats 4000000 in
set_option maxRecDepth 100000 in
theorem c_X11_greatest_lengths (l : Launch) (dC : Nat → ClassId) (dI : Nat → Nat → Nat) (sk sv : Nat → Nat) (tc : Nat → ClassId) (a0 : Nat → Nat) (q0_0 : Nat) (q0_2 : Nat) (q0_3 : Nat) (q0_4 : Nat) (q0_5 : Nat) (q0_6 : Nat) (q0_7 : Nat) (q0_8 : Nat) (q0_9 : Nat) (q0_10 : Nat) (q0_13 : Option Nat) (a1 : Nat → Nat) (q1_18 : Option Nat) (q1_19 : Nat) (g0 : Pic) (g1 : Pic) (x2 : Int32) {r0 : Int32} (h : f_X11_greatest_lengths g0 g1 x2 = some r0) : CT l (dC, dI) sk sv (TY tc) yX11_greatest cX11_greatest 5 (some .int) rm_X11_greatest_lengths [.ref (a0 0), .ref (a1 3), .int x2] (wPU tc a0 g0 q0_0 (a1 0) q0_2 q0_3 q0_4 q0_5 q0_6 q0_7 q0_8 q0_9 q0_10 q0_13 ++ (wSt tc a1 g1 q1_18 q1_19)) (some (.int r0)) (wPU tc a0 g0 q0_0 (a1 0) q0_2 q0_3 q0_4 q0_5 q0_6 q0_7 q0_8 q0_9 q0_10 q0_13 ++ (wSt tc a1 g1 q1_18 q1_19)) := by
  refine ofCT (by decide) (Nat.le_of_ble_eq_true rfl) ?_
  intro pr e s m args below meth c A Q ls H locs X hQ hD0 hP hS hl
  have hD : ∀ z0 z1, va_D A (wPU tc a0 z0 q0_0 (a1 0) q0_2 q0_3 q0_4 q0_5 q0_6 q0_7 q0_8 q0_9 q0_10 q0_13 ++ (wSt tc a1 z1 q1_18 q1_19)) := fun z0 z1 => D_fst (ws := (wPU tc a0 g0 q0_0 (a1 0) q0_2 q0_3 q0_4 q0_5 q0_6 q0_7 q0_8 q0_9 q0_10 q0_13 ++ (wSt tc a1 g1 q1_18 q1_19))) rfl hD0
  have hl : lv_has ls 5 [(0, .ref (a0 0)), (1, .ref (a1 3)), (2, .int x2)] := hl
  have HL5 : ∀ (x2 : Int32) (n : Nat) (x3 : Int32) (x4 : Int32) (ex : (Int32)), f_X11_greatest_lengths_L5 x2 g0 g1 n (x3, x4) = some ex → ∀ (H : Heap) (locs : List Loc) (ls : Array Slot), va_P (dC, dI) vwCl (wPU tc a0 g0 q0_0 (a1 0) q0_2 q0_3 q0_4 q0_5 q0_6 q0_7 q0_8 q0_9 q0_10 q0_13 ++ (wSt tc a1 g1 q1_18 q1_19)) H → va_S A s.heap H locs → lv_has ls 5 [(1, .ref (a1 3)), (2, .int x2), (3, .int x3), (4, .int x4)] → (∀ (y3 : Int32), y3 = ex → ∀ (H : Heap) (locs : List Loc) (ls : Array Slot), va_P (dC, dI) vwCl (wPU tc a0 g0 q0_0 (a1 0) q0_2 q0_3 q0_4 q0_5 q0_6 q0_7 q0_8 q0_9 q0_10 q0_13 ++ (wSt tc a1 g1 q1_18 q1_19)) H → va_S A s.heap H locs → lv_has ls 5 [(3, .int y3)] → W pr l e rm_X11_greatest_lengths s m args below meth c H locs 0 0 Q (F0 m 35 ls [])) → W pr l e rm_X11_greatest_lengths s m args below meth c H locs 0 0 Q (F0 m 5 ls []) := by
    intro x2 n
    induction n with
    | zero => intro x3 x4 ex h; exact lp_z h
    | succ n ih =>
      intro x3 x4 ex h H locs ls hP hS hl K
      have h := lp_s h
      refine lv_iload X.1 X.2.1 dX11_greatest_5 (lv_at hl 3 rfl) ?_
      refine lv_iload_n X.1 X.2.1 dX11_greatest_7 rfl (lv_at hl 1 rfl) ?_
      refine lv_icmp_ge (tgt := 35) X.1 X.2.1 dX11_greatest_8 (by decide) (fun hc => ?_) (fun hc => ?_)
      · have h := it_t hc h
        exact K x3 (Option.some.inj h) H locs ls hP hS (lv_sub hl [2] rfl)
      · have h := it_f hc h
        refine lv_iload_n X.1 X.2.1 dX11_greatest_11 rfl (lv_at hl 2 rfl) ?_
        refine lv_iconst (v := (-1)) X.1 X.2.1 dX11_greatest_12 (by decide) ?_
        obtain ⟨J29, eJ29, h⟩ := jn_el h
        have HJ29 : ∀ (x3_J29 : Int32) (H : Heap) (locs : List Loc) (ls : Array Slot), J29 x3_J29 = some ex → va_P (dC, dI) vwCl (wPU tc a0 g0 q0_0 (a1 0) q0_2 q0_3 q0_4 q0_5 q0_6 q0_7 q0_8 q0_9 q0_10 q0_13 ++ (wSt tc a1 g1 q1_18 q1_19)) H → va_S A s.heap H locs → lv_has ls 5 [(1, .ref (a1 3)), (2, .int x2), (3, .int x3_J29), (4, .int x4)] → W pr l e rm_X11_greatest_lengths s m args below meth c H locs 0 0 Q (F0 m 29 ls []) := by
          intro x3_J29 H locs ls h hP hS hl
          rw [eJ29] at h
          obtain ⟨x4_1, ex4_1, h⟩ := nm_el h
          refine lv_iinc (v := x4_1) (lv' := [(4, .int x4_1), (1, .ref (a1 3)), (2, .int x2), (3, .int x3_J29)]) X.1 X.2.1 dX11_greatest_29 hl (k := 3) rfl (by rw [ex4_1]; rfl) (by decide) rfl (fun ls hl => ?_)
          refine lv_goto (tgt := 5) X.1 X.2.1 dX11_greatest_32 (by decide) ?_
          exact ih x3_J29 x4_1 ex h H locs ls hP hS (lv_sub hl [1, 2, 3, 0] rfl) K
        obtain ⟨J26, eJ26, h⟩ := jn_el h
        have HJ26 : ∀ (_ : Unit) (H : Heap) (locs : List Loc) (ls : Array Slot), J26 () = some ex → va_P (dC, dI) vwCl (wPU tc a0 g0 q0_0 (a1 0) q0_2 q0_3 q0_4 q0_5 q0_6 q0_7 q0_8 q0_9 q0_10 q0_13 ++ (wSt tc a1 g1 q1_18 q1_19)) H → va_S A s.heap H locs → lv_has ls 5 [(1, .ref (a1 3)), (2, .int x2), (4, .int x4)] → W pr l e rm_X11_greatest_lengths s m args below meth c H locs 0 0 Q (F0 m 26 ls []) := by
          intro _ H locs ls h hP hS hl
          rw [eJ26] at h
          refine lv_iload X.1 X.2.1 dX11_greatest_26 (lv_at hl 2 rfl) ?_
          refine lv_istore_n (lv' := [(3, .int x4), (1, .ref (a1 3)), (2, .int x2), (4, .int x4)]) X.1 X.2.1 dX11_greatest_28 rfl hl (by decide) rfl (fun ls hl => ?_)
          exact HJ29 x4 H locs ls h hP hS (lv_sub hl [1, 2, 0, 3] rfl)
        refine lv_icmp_eq (tgt := 26) X.1 X.2.1 dX11_greatest_13 (by decide) (fun hc => ?_) (fun hc => ?_)
        · have h := it_t hc h
          exact HJ26 () H locs ls h hP hS (lv_sub hl [0, 1, 3] rfl)
        · have h := it_f hc h
          refine lv_aload_n X.1 X.2.1 dX11_greatest_16 rfl (lv_at hl 0 rfl) ?_
          refine lv_iload X.1 X.2.1 dX11_greatest_17 (lv_at hl 3 rfl) ?_
          obtain ⟨hg_2, h⟩ := gdi_el h
          refine r_iald X hP 3 0 rfl rfl hg_2 rfl dX11_greatest_19 ?_
          refine lv_aload_n X.1 X.2.1 dX11_greatest_20 rfl (lv_at hl 0 rfl) ?_
          refine lv_iload_n X.1 X.2.1 dX11_greatest_21 rfl (lv_at hl 2 rfl) ?_
          obtain ⟨hg_3, h⟩ := gdi_el h
          refine r_iald X hP 3 0 rfl rfl hg_3 rfl dX11_greatest_22 ?_
          refine lv_icmp_le (tgt := 29) X.1 X.2.1 dX11_greatest_23 (by decide) (fun hc => ?_) (fun hc => ?_)
          · have h := it_t hc h
            exact HJ29 x3 H locs ls h hP hS (lv_sub hl [0, 1, 2, 3] rfl)
          · have h := it_f hc h
            exact HJ26 () H locs ls h hP hS (lv_sub hl [0, 1, 3] rfl)
  unfold f_X11_greatest_lengths at h
  refine lv_iconst (v := (-1)) X.1 X.2.1 dX11_greatest_0 (by decide) ?_
  refine lv_istore_n (lv' := [(3, .int (-1)), (0, .ref (a0 0)), (1, .ref (a1 3)), (2, .int x2)]) X.1 X.2.1 dX11_greatest_1 rfl hl (by decide) rfl (fun ls hl => ?_)
  refine lv_iconst (v := 0) X.1 X.2.1 dX11_greatest_2 (by decide) ?_
  refine lv_istore (lv' := [(4, .int 0), (3, .int (-1)), (0, .ref (a0 0)), (1, .ref (a1 3)), (2, .int x2)]) X.1 X.2.1 dX11_greatest_3 hl (by decide) rfl (fun ls hl => ?_)
  obtain ⟨ex_4, hL_4, h⟩ := bd_el h
  refine HL5 x2 fu (-1) 0 ex_4 hL_4 H locs ls hP hS (lv_sub hl [3, 4, 1, 0] rfl) (fun x3_4 he H locs ls hP hS hl => ?_)
  subst he
  refine lv_iload_n X.1 X.2.1 dX11_greatest_35 rfl (lv_at hl 0 rfl) ?_
  exact ret_i0 (Option.some.inj h) X hQ hP hS dX11_greatest_36

def f_X11_greatest_speed_L5 (x2 : Int32) (g0 : Pic) (g1 : Pic) (n : Nat) (a : Int32 × Int32) : Option (Int32) := lp (fun (rec : Int32 × Int32 → Option (Int32)) (a : Int32 × Int32) => match a with | (x3, x4) => (if x2 ≤ x4 then some x3 else jn (fun (x3_J29 : Int32) => nm (x4 + 1) (fun x4_1 => rec (x3_J29, x4_1))) (fun J29 => jn (fun (_ : Unit) => J29 x4) (fun J26 => (if x3 = (-1) then J26 () else gdi x4 5 (gdi x3 5 ((if (g1 9 (x4.toNatClampNeg)) ≤ (g1 9 (x3.toNatClampNeg)) then J29 x3 else J26 ())))))))) n a
def f_X11_greatest_speed (g0 : Pic) (g1 : Pic) (x2 : Int32) : Option (Int32) := bd (f_X11_greatest_speed_L5 x2 g0 g1 fu ((-1), 0)) (fun x3_4 => some x3_4)
abbrev rm_X11_greatest_speed : Room := { frames := 0, cells := 0, slots := 0, locals := 0 }
set_option maxHeartbeats 4000000 in
set_option maxRecDepth 100000 in
theorem c_X11_greatest_speed (l : Launch) (dC : Nat → ClassId) (dI : Nat → Nat → Nat) (sk sv : Nat → Nat) (tc : Nat → ClassId) (a0 : Nat → Nat) (q0_0 : Nat) (q0_2 : Nat) (q0_3 : Nat) (q0_4 : Nat) (q0_5 : Nat) (q0_6 : Nat) (q0_7 : Nat) (q0_8 : Nat) (q0_9 : Nat) (q0_10 : Nat) (q0_13 : Option Nat) (a1 : Nat → Nat) (q1_18 : Option Nat) (q1_19 : Nat) (g0 : Pic) (g1 : Pic) (x2 : Int32) {r0 : Int32} (h : f_X11_greatest_speed g0 g1 x2 = some r0) : CT l (dC, dI) sk sv (TY tc) yX11_greatest cX11_greatest 5 (some .int) rm_X11_greatest_speed [.ref (a0 0), .ref (a1 10), .int x2] (wPU tc a0 g0 q0_0 (a1 0) q0_2 q0_3 q0_4 q0_5 q0_6 q0_7 q0_8 q0_9 q0_10 q0_13 ++ (wSt tc a1 g1 q1_18 q1_19)) (some (.int r0)) (wPU tc a0 g0 q0_0 (a1 0) q0_2 q0_3 q0_4 q0_5 q0_6 q0_7 q0_8 q0_9 q0_10 q0_13 ++ (wSt tc a1 g1 q1_18 q1_19)) := by
  refine ofCT (by decide) (Nat.le_of_ble_eq_true rfl) ?_
  intro pr e s m args below meth c A Q ls H locs X hQ hD0 hP hS hl
  have hD : ∀ z0 z1, va_D A (wPU tc a0 z0 q0_0 (a1 0) q0_2 q0_3 q0_4 q0_5 q0_6 q0_7 q0_8 q0_9 q0_10 q0_13 ++ (wSt tc a1 z1 q1_18 q1_19)) := fun z0 z1 => D_fst (ws := (wPU tc a0 g0 q0_0 (a1 0) q0_2 q0_3 q0_4 q0_5 q0_6 q0_7 q0_8 q0_9 q0_10 q0_13 ++ (wSt tc a1 g1 q1_18 q1_19))) rfl hD0
  have hl : lv_has ls 5 [(0, .ref (a0 0)), (1, .ref (a1 10)), (2, .int x2)] := hl
  have HL5 : ∀ (x2 : Int32) (n : Nat) (x3 : Int32) (x4 : Int32) (ex : (Int32)), f_X11_greatest_speed_L5 x2 g0 g1 n (x3, x4) = some ex → ∀ (H : Heap) (locs : List Loc) (ls : Array Slot), va_P (dC, dI) vwCl (wPU tc a0 g0 q0_0 (a1 0) q0_2 q0_3 q0_4 q0_5 q0_6 q0_7 q0_8 q0_9 q0_10 q0_13 ++ (wSt tc a1 g1 q1_18 q1_19)) H → va_S A s.heap H locs → lv_has ls 5 [(1, .ref (a1 10)), (2, .int x2), (3, .int x3), (4, .int x4)] → (∀ (y3 : Int32), y3 = ex → ∀ (H : Heap) (locs : List Loc) (ls : Array Slot), va_P (dC, dI) vwCl (wPU tc a0 g0 q0_0 (a1 0) q0_2 q0_3 q0_4 q0_5 q0_6 q0_7 q0_8 q0_9 q0_10 q0_13 ++ (wSt tc a1 g1 q1_18 q1_19)) H → va_S A s.heap H locs → lv_has ls 5 [(3, .int y3)] → W pr l e rm_X11_greatest_speed s m args below meth c H locs 0 0 Q (F0 m 35 ls [])) → W pr l e rm_X11_greatest_speed s m args below meth c H locs 0 0 Q (F0 m 5 ls []) := by
    intro x2 n
    induction n with
    | zero => intro x3 x4 ex h; exact lp_z h
    | succ n ih =>
      intro x3 x4 ex h H locs ls hP hS hl K
      have h := lp_s h
      refine lv_iload X.1 X.2.1 dX11_greatest_5 (lv_at hl 3 rfl) ?_
      refine lv_iload_n X.1 X.2.1 dX11_greatest_7 rfl (lv_at hl 1 rfl) ?_
      refine lv_icmp_ge (tgt := 35) X.1 X.2.1 dX11_greatest_8 (by decide) (fun hc => ?_) (fun hc => ?_)
      · have h := it_t hc h
        exact K x3 (Option.some.inj h) H locs ls hP hS (lv_sub hl [2] rfl)
      · have h := it_f hc h
        refine lv_iload_n X.1 X.2.1 dX11_greatest_11 rfl (lv_at hl 2 rfl) ?_
        refine lv_iconst (v := (-1)) X.1 X.2.1 dX11_greatest_12 (by decide) ?_
        obtain ⟨J29, eJ29, h⟩ := jn_el h
        have HJ29 : ∀ (x3_J29 : Int32) (H : Heap) (locs : List Loc) (ls : Array Slot), J29 x3_J29 = some ex → va_P (dC, dI) vwCl (wPU tc a0 g0 q0_0 (a1 0) q0_2 q0_3 q0_4 q0_5 q0_6 q0_7 q0_8 q0_9 q0_10 q0_13 ++ (wSt tc a1 g1 q1_18 q1_19)) H → va_S A s.heap H locs → lv_has ls 5 [(1, .ref (a1 10)), (2, .int x2), (3, .int x3_J29), (4, .int x4)] → W pr l e rm_X11_greatest_speed s m args below meth c H locs 0 0 Q (F0 m 29 ls []) := by
          intro x3_J29 H locs ls h hP hS hl
          rw [eJ29] at h
          obtain ⟨x4_1, ex4_1, h⟩ := nm_el h
          refine lv_iinc (v := x4_1) (lv' := [(4, .int x4_1), (1, .ref (a1 10)), (2, .int x2), (3, .int x3_J29)]) X.1 X.2.1 dX11_greatest_29 hl (k := 3) rfl (by rw [ex4_1]; rfl) (by decide) rfl (fun ls hl => ?_)
          refine lv_goto (tgt := 5) X.1 X.2.1 dX11_greatest_32 (by decide) ?_
          exact ih x3_J29 x4_1 ex h H locs ls hP hS (lv_sub hl [1, 2, 3, 0] rfl) K
        obtain ⟨J26, eJ26, h⟩ := jn_el h
        have HJ26 : ∀ (_ : Unit) (H : Heap) (locs : List Loc) (ls : Array Slot), J26 () = some ex → va_P (dC, dI) vwCl (wPU tc a0 g0 q0_0 (a1 0) q0_2 q0_3 q0_4 q0_5 q0_6 q0_7 q0_8 q0_9 q0_10 q0_13 ++ (wSt tc a1 g1 q1_18 q1_19)) H → va_S A s.heap H locs → lv_has ls 5 [(1, .ref (a1 10)), (2, .int x2), (4, .int x4)] → W pr l e rm_X11_greatest_speed s m args below meth c H locs 0 0 Q (F0 m 26 ls []) := by
          intro _ H locs ls h hP hS hl
          rw [eJ26] at h
          refine lv_iload X.1 X.2.1 dX11_greatest_26 (lv_at hl 2 rfl) ?_
          refine lv_istore_n (lv' := [(3, .int x4), (1, .ref (a1 10)), (2, .int x2), (4, .int x4)]) X.1 X.2.1 dX11_greatest_28 rfl hl (by decide) rfl (fun ls hl => ?_)
          exact HJ29 x4 H locs ls h hP hS (lv_sub hl [1, 2, 0, 3] rfl)
        refine lv_icmp_eq (tgt := 26) X.1 X.2.1 dX11_greatest_13 (by decide) (fun hc => ?_) (fun hc => ?_)
        · have h := it_t hc h
          exact HJ26 () H locs ls h hP hS (lv_sub hl [0, 1, 3] rfl)
        · have h := it_f hc h
          refine lv_aload_n X.1 X.2.1 dX11_greatest_16 rfl (lv_at hl 0 rfl) ?_
          refine lv_iload X.1 X.2.1 dX11_greatest_17 (lv_at hl 3 rfl) ?_
          obtain ⟨hg_2, h⟩ := gdi_el h
          refine r_iald X hP 7 0 rfl rfl hg_2 rfl dX11_greatest_19 ?_
          refine lv_aload_n X.1 X.2.1 dX11_greatest_20 rfl (lv_at hl 0 rfl) ?_
          refine lv_iload_n X.1 X.2.1 dX11_greatest_21 rfl (lv_at hl 2 rfl) ?_
          obtain ⟨hg_3, h⟩ := gdi_el h
          refine r_iald X hP 7 0 rfl rfl hg_3 rfl dX11_greatest_22 ?_
          refine lv_icmp_le (tgt := 29) X.1 X.2.1 dX11_greatest_23 (by decide) (fun hc => ?_) (fun hc => ?_)
          · have h := it_t hc h
            exact HJ29 x3 H locs ls h hP hS (lv_sub hl [0, 1, 2, 3] rfl)
          · have h := it_f hc h
            exact HJ26 () H locs ls h hP hS (lv_sub hl [0, 1, 3] rfl)
  unfold f_X11_greatest_speed at h
  refine lv_iconst (v := (-1)) X.1 X.2.1 dX11_greatest_0 (by decide) ?_
  refine lv_istore_n (lv' := [(3, .int (-1)), (0, .ref (a0 0)), (1, .ref (a1 10)), (2, .int x2)]) X.1 X.2.1 dX11_greatest_1 rfl hl (by decide) rfl (fun ls hl => ?_)
  refine lv_iconst (v := 0) X.1 X.2.1 dX11_greatest_2 (by decide) ?_
  refine lv_istore (lv' := [(4, .int 0), (3, .int (-1)), (0, .ref (a0 0)), (1, .ref (a1 10)), (2, .int x2)]) X.1 X.2.1 dX11_greatest_3 hl (by decide) rfl (fun ls hl => ?_)
  obtain ⟨ex_4, hL_4, h⟩ := bd_el h
  refine HL5 x2 fu (-1) 0 ex_4 hL_4 H locs ls hP hS (lv_sub hl [3, 4, 1, 0] rfl) (fun x3_4 he H locs ls hP hS hl => ?_)
  subst he
  refine lv_iload_n X.1 X.2.1 dX11_greatest_35 rfl (lv_at hl 0 rfl) ?_
  exact ret_i0 (Option.some.inj h) X hQ hP hS dX11_greatest_36

def f_X11_greatest_tired_L5 (x2 : Int32) (g0 : Pic) (g1 : Pic) (n : Nat) (a : Int32 × Int32) : Option (Int32) := lp (fun (rec : Int32 × Int32 → Option (Int32)) (a : Int32 × Int32) => match a with | (x3, x4) => (if x2 ≤ x4 then some x3 else jn (fun (x3_J29 : Int32) => nm (x4 + 1) (fun x4_1 => rec (x3_J29, x4_1))) (fun J29 => jn (fun (_ : Unit) => J29 x4) (fun J26 => (if x3 = (-1) then J26 () else gdi x4 5 (gdi x3 5 ((if (g1 11 (x4.toNatClampNeg)) ≤ (g1 11 (x3.toNatClampNeg)) then J29 x3 else J26 ())))))))) n a
def f_X11_greatest_tired (g0 : Pic) (g1 : Pic) (x2 : Int32) : Option (Int32) := bd (f_X11_greatest_tired_L5 x2 g0 g1 fu ((-1), 0)) (fun x3_4 => some x3_4)
abbrev rm_X11_greatest_tired : Room := { frames := 0, cells := 0, slots := 0, locals := 0 }
set_option maxHeartbeats 4000000 in
set_option maxRecDepth 100000 in
theorem c_X11_greatest_tired (l : Launch) (dC : Nat → ClassId) (dI : Nat → Nat → Nat) (sk sv : Nat → Nat) (tc : Nat → ClassId) (a0 : Nat → Nat) (q0_0 : Nat) (q0_2 : Nat) (q0_3 : Nat) (q0_4 : Nat) (q0_5 : Nat) (q0_6 : Nat) (q0_7 : Nat) (q0_8 : Nat) (q0_9 : Nat) (q0_10 : Nat) (q0_13 : Option Nat) (a1 : Nat → Nat) (q1_18 : Option Nat) (q1_19 : Nat) (g0 : Pic) (g1 : Pic) (x2 : Int32) {r0 : Int32} (h : f_X11_greatest_tired g0 g1 x2 = some r0) : CT l (dC, dI) sk sv (TY tc) yX11_greatest cX11_greatest 5 (some .int) rm_X11_greatest_tired [.ref (a0 0), .ref (a1 12), .int x2] (wPU tc a0 g0 q0_0 (a1 0) q0_2 q0_3 q0_4 q0_5 q0_6 q0_7 q0_8 q0_9 q0_10 q0_13 ++ (wSt tc a1 g1 q1_18 q1_19)) (some (.int r0)) (wPU tc a0 g0 q0_0 (a1 0) q0_2 q0_3 q0_4 q0_5 q0_6 q0_7 q0_8 q0_9 q0_10 q0_13 ++ (wSt tc a1 g1 q1_18 q1_19)) := by
  refine ofCT (by decide) (Nat.le_of_ble_eq_true rfl) ?_
  intro pr e s m args below meth c A Q ls H locs X hQ hD0 hP hS hl
  have hD : ∀ z0 z1, va_D A (wPU tc a0 z0 q0_0 (a1 0) q0_2 q0_3 q0_4 q0_5 q0_6 q0_7 q0_8 q0_9 q0_10 q0_13 ++ (wSt tc a1 z1 q1_18 q1_19)) := fun z0 z1 => D_fst (ws := (wPU tc a0 g0 q0_0 (a1 0) q0_2 q0_3 q0_4 q0_5 q0_6 q0_7 q0_8 q0_9 q0_10 q0_13 ++ (wSt tc a1 g1 q1_18 q1_19))) rfl hD0
  have hl : lv_has ls 5 [(0, .ref (a0 0)), (1, .ref (a1 12)), (2, .int x2)] := hl
  have HL5 : ∀ (x2 : Int32) (n : Nat) (x3 : Int32) (x4 : Int32) (ex : (Int32)), f_X11_greatest_tired_L5 x2 g0 g1 n (x3, x4) = some ex → ∀ (H : Heap) (locs : List Loc) (ls : Array Slot), va_P (dC, dI) vwCl (wPU tc a0 g0 q0_0 (a1 0) q0_2 q0_3 q0_4 q0_5 q0_6 q0_7 q0_8 q0_9 q0_10 q0_13 ++ (wSt tc a1 g1 q1_18 q1_19)) H → va_S A s.heap H locs → lv_has ls 5 [(1, .ref (a1 12)), (2, .int x2), (3, .int x3), (4, .int x4)] → (∀ (y3 : Int32), y3 = ex → ∀ (H : Heap) (locs : List Loc) (ls : Array Slot), va_P (dC, dI) vwCl (wPU tc a0 g0 q0_0 (a1 0) q0_2 q0_3 q0_4 q0_5 q0_6 q0_7 q0_8 q0_9 q0_10 q0_13 ++ (wSt tc a1 g1 q1_18 q1_19)) H → va_S A s.heap H locs → lv_has ls 5 [(3, .int y3)] → W pr l e rm_X11_greatest_tired s m args below meth c H locs 0 0 Q (F0 m 35 ls [])) → W pr l e rm_X11_greatest_tired s m args below meth c H locs 0 0 Q (F0 m 5 ls []) := by
    intro x2 n
    induction n with
    | zero => intro x3 x4 ex h; exact lp_z h
    | succ n ih =>
      intro x3 x4 ex h H locs ls hP hS hl K
      have h := lp_s h
      refine lv_iload X.1 X.2.1 dX11_greatest_5 (lv_at hl 3 rfl) ?_
      refine lv_iload_n X.1 X.2.1 dX11_greatest_7 rfl (lv_at hl 1 rfl) ?_
      refine lv_icmp_ge (tgt := 35) X.1 X.2.1 dX11_greatest_8 (by decide) (fun hc => ?_) (fun hc => ?_)
      · have h := it_t hc h
        exact K x3 (Option.some.inj h) H locs ls hP hS (lv_sub hl [2] rfl)
      · have h := it_f hc h
        refine lv_iload_n X.1 X.2.1 dX11_greatest_11 rfl (lv_at hl 2 rfl) ?_
        refine lv_iconst (v := (-1)) X.1 X.2.1 dX11_greatest_12 (by decide) ?_
        obtain ⟨J29, eJ29, h⟩ := jn_el h
        have HJ29 : ∀ (x3_J29 : Int32) (H : Heap) (locs : List Loc) (ls : Array Slot), J29 x3_J29 = some ex → va_P (dC, dI) vwCl (wPU tc a0 g0 q0_0 (a1 0) q0_2 q0_3 q0_4 q0_5 q0_6 q0_7 q0_8 q0_9 q0_10 q0_13 ++ (wSt tc a1 g1 q1_18 q1_19)) H → va_S A s.heap H locs → lv_has ls 5 [(1, .ref (a1 12)), (2, .int x2), (3, .int x3_J29), (4, .int x4)] → W pr l e rm_X11_greatest_tired s m args below meth c H locs 0 0 Q (F0 m 29 ls []) := by
          intro x3_J29 H locs ls h hP hS hl
          rw [eJ29] at h
          obtain ⟨x4_1, ex4_1, h⟩ := nm_el h
          refine lv_iinc (v := x4_1) (lv' := [(4, .int x4_1), (1, .ref (a1 12)), (2, .int x2), (3, .int x3_J29)]) X.1 X.2.1 dX11_greatest_29 hl (k := 3) rfl (by rw [ex4_1]; rfl) (by decide) rfl (fun ls hl => ?_)
          refine lv_goto (tgt := 5) X.1 X.2.1 dX11_greatest_32 (by decide) ?_
          exact ih x3_J29 x4_1 ex h H locs ls hP hS (lv_sub hl [1, 2, 3, 0] rfl) K
        obtain ⟨J26, eJ26, h⟩ := jn_el h
        have HJ26 : ∀ (_ : Unit) (H : Heap) (locs : List Loc) (ls : Array Slot), J26 () = some ex → va_P (dC, dI) vwCl (wPU tc a0 g0 q0_0 (a1 0) q0_2 q0_3 q0_4 q0_5 q0_6 q0_7 q0_8 q0_9 q0_10 q0_13 ++ (wSt tc a1 g1 q1_18 q1_19)) H → va_S A s.heap H locs → lv_has ls 5 [(1, .ref (a1 12)), (2, .int x2), (4, .int x4)] → W pr l e rm_X11_greatest_tired s m args below meth c H locs 0 0 Q (F0 m 26 ls []) := by
          intro _ H locs ls h hP hS hl
          rw [eJ26] at h
          refine lv_iload X.1 X.2.1 dX11_greatest_26 (lv_at hl 2 rfl) ?_
          refine lv_istore_n (lv' := [(3, .int x4), (1, .ref (a1 12)), (2, .int x2), (4, .int x4)]) X.1 X.2.1 dX11_greatest_28 rfl hl (by decide) rfl (fun ls hl => ?_)
          exact HJ29 x4 H locs ls h hP hS (lv_sub hl [1, 2, 0, 3] rfl)
        refine lv_icmp_eq (tgt := 26) X.1 X.2.1 dX11_greatest_13 (by decide) (fun hc => ?_) (fun hc => ?_)
        · have h := it_t hc h
          exact HJ26 () H locs ls h hP hS (lv_sub hl [0, 1, 3] rfl)
        · have h := it_f hc h
          refine lv_aload_n X.1 X.2.1 dX11_greatest_16 rfl (lv_at hl 0 rfl) ?_
          refine lv_iload X.1 X.2.1 dX11_greatest_17 (lv_at hl 3 rfl) ?_
          obtain ⟨hg_2, h⟩ := gdi_el h
          refine r_iald X hP 9 0 rfl rfl hg_2 rfl dX11_greatest_19 ?_
          refine lv_aload_n X.1 X.2.1 dX11_greatest_20 rfl (lv_at hl 0 rfl) ?_
          refine lv_iload_n X.1 X.2.1 dX11_greatest_21 rfl (lv_at hl 2 rfl) ?_
          obtain ⟨hg_3, h⟩ := gdi_el h
          refine r_iald X hP 9 0 rfl rfl hg_3 rfl dX11_greatest_22 ?_
          refine lv_icmp_le (tgt := 29) X.1 X.2.1 dX11_greatest_23 (by decide) (fun hc => ?_) (fun hc => ?_)
          · have h := it_t hc h
            exact HJ29 x3 H locs ls h hP hS (lv_sub hl [0, 1, 2, 3] rfl)
          · have h := it_f hc h
            exact HJ26 () H locs ls h hP hS (lv_sub hl [0, 1, 3] rfl)
  unfold f_X11_greatest_tired at h
  refine lv_iconst (v := (-1)) X.1 X.2.1 dX11_greatest_0 (by decide) ?_
  refine lv_istore_n (lv' := [(3, .int (-1)), (0, .ref (a0 0)), (1, .ref (a1 12)), (2, .int x2)]) X.1 X.2.1 dX11_greatest_1 rfl hl (by decide) rfl (fun ls hl => ?_)
  refine lv_iconst (v := 0) X.1 X.2.1 dX11_greatest_2 (by decide) ?_
  refine lv_istore (lv' := [(4, .int 0), (3, .int (-1)), (0, .ref (a0 0)), (1, .ref (a1 12)), (2, .int x2)]) X.1 X.2.1 dX11_greatest_3 hl (by decide) rfl (fun ls hl => ?_)
  obtain ⟨ex_4, hL_4, h⟩ := bd_el h
  refine HL5 x2 fu (-1) 0 ex_4 hL_4 H locs ls hP hS (lv_sub hl [3, 4, 1, 0] rfl) (fun x3_4 he H locs ls hP hS hl => ?_)
  subst he
  refine lv_iload_n X.1 X.2.1 dX11_greatest_35 rfl (lv_at hl 0 rfl) ?_
  exact ret_i0 (Option.some.inj h) X hQ hP hS dX11_greatest_36

def f_X11_feed (g0 : Pic) (g1 : Pic) (x1 : Int32) (x2 : Int32) (x3 : Int32) (x4 : Int32) (x5 : Int32) : Option (Int32 × Pic) := (if ((g1 1 0) + 20) ≤ 400 then bd (f_X10_addNumber g1 x1) (fun g1_1 => bd (f_X10_addNumber g1_1 x2) (fun g1_2 => bd (f_X10_addNumber g1_2 x3) (fun g1_3 => bd (f_X10_addNumber g1_3 x4) (fun g1_4 => bd (f_X10_addNumber g1_4 x5) (fun g1_5 => some ((g1_5 1 0), g1_5)))))) else some ((-1), g1))
abbrev rm_X11_feed : Room := { frames := 1, cells := 0, slots := 0, locals := 22 }
set_option maxHeartbeats 4000000 in
set_option maxRecDepth 100000 in
theorem c_X11_feed (l : Launch) (dC : Nat → ClassId) (dI : Nat → Nat → Nat) (sk sv : Nat → Nat) (tc : Nat → ClassId) (a0 : Nat → Nat) (q0_1 : Nat) (q0_2 : Nat) (q0_3 : Nat) (q0_4 : Nat) (q0_5 : Nat) (q0_6 : Nat) (q0_7 : Nat) (q0_8 : Nat) (q0_9 : Nat) (q0_10 : Nat) (q0_13 : Option Nat) (a1 : Nat → Nat) (g0 : Pic) (g1 : Pic) (x1 : Int32) (x2 : Int32) (x3 : Int32) (x4 : Int32) (x5 : Int32) {r0 : Int32} {G1 : Pic} (h : f_X11_feed g0 g1 x1 x2 x3 x4 x5 = some (r0, G1)) : CT l (dC, dI) sk sv (TY tc) yX11_feed cX11_feed 6 (some .int) rm_X11_feed [.ref (a0 0), .int x1, .int x2, .int x3, .int x4, .int x5] (wPU tc a0 g0 (a1 0) q0_1 q0_2 q0_3 q0_4 q0_5 q0_6 q0_7 q0_8 q0_9 q0_10 q0_13 ++ (wTp tc a1 g1)) (some (.int r0)) (wPU tc a0 g0 (a1 0) q0_1 q0_2 q0_3 q0_4 q0_5 q0_6 q0_7 q0_8 q0_9 q0_10 q0_13 ++ (wTp tc a1 G1)) := by
  refine ofCT (by decide) (Nat.le_of_ble_eq_true rfl) ?_
  intro pr e s m args below meth c A Q ls H locs X hQ hD0 hP hS hl
  have hD : ∀ z0 z1, va_D A (wPU tc a0 z0 (a1 0) q0_1 q0_2 q0_3 q0_4 q0_5 q0_6 q0_7 q0_8 q0_9 q0_10 q0_13 ++ (wTp tc a1 z1)) := fun z0 z1 => D_fst (ws := (wPU tc a0 g0 (a1 0) q0_1 q0_2 q0_3 q0_4 q0_5 q0_6 q0_7 q0_8 q0_9 q0_10 q0_13 ++ (wTp tc a1 g1))) rfl hD0
  have hl : lv_has ls 6 [(0, .ref (a0 0)), (1, .int x1), (2, .int x2), (3, .int x3), (4, .int x4), (5, .int x5)] := hl
  unfold f_X11_feed at h
  refine lv_aload_n X.1 X.2.1 dX11_feed_0 rfl (lv_at hl 0 rfl) ?_
  refine r_get (C := RX11) (T := TX11) (N := 15) (ci := 11) (v := .ref (a1 0)) X iw11 hP 0 rfl rfl 0 rfl mw_2_143 rfl dX11_feed_1 ?_
  refine r_get (C := RX10) (T := TX10) (N := 8) (ci := 10) (v := .int (g1 1 0)) X iw10 hP 1 rfl rfl 1 rfl mw_1_46 rfl dX11_feed_4 ?_
  refine lv_bipush (v := 20) X.1 X.2.1 dX11_feed_7 (by decide) ?_
  refine lv_iadd X.1 X.2.1 dX11_feed_9 ?_
  refine lv_sipush (v := 400) X.1 X.2.1 dX11_feed_10 (by decide) ?_
  refine lv_icmp_le (tgt := 18) X.1 X.2.1 dX11_feed_13 (by decide) (fun hc => ?_) (fun hc => ?_)
  · have h := it_t hc h
    refine lv_aload_n X.1 X.2.1 dX11_feed_18 rfl (lv_at hl 0 rfl) ?_
    refine r_get (C := RX11) (T := TX11) (N := 15) (ci := 11) (v := .ref (a1 0)) X iw11 hP 0 rfl rfl 0 rfl mw_2_143 rfl dX11_feed_19 ?_
    refine lv_iload_n X.1 X.2.1 dX11_feed_22 rfl (lv_at hl 1 rfl) ?_
    obtain ⟨g1_1, hc_1, h⟩ := bd_el h
    refine call_Vsv (ws := (wPU tc a0 g0 (a1 0) q0_1 q0_2 q0_3 q0_4 q0_5 q0_6 q0_7 q0_8 q0_9 q0_10 q0_13 ++ (wTp tc a1 g1))) (ws' := (wPU tc a0 g0 (a1 0) q0_1 q0_2 q0_3 q0_4 q0_5 q0_6 q0_7 q0_8 q0_9 q0_10 q0_13 ++ (wTp tc a1 g1_1))) (wPU tc a0 g0 (a1 0) q0_1 q0_2 q0_3 q0_4 q0_5 q0_6 q0_7 q0_8 q0_9 q0_10 q0_13) [] (As := [.int x1]) (rest := []) X (c_X10_addNumber l dC dI sk sv tc a1 g1 x1 hc_1) mw_2_193 mw_2_194 mw_2_195 mw_1_2 mw_2_196 dc_X10_addNumber ⟨Nat.le_of_ble_eq_true rfl, Nat.le_of_ble_eq_true rfl⟩ rfl rfl ⟨Nat.zero_le _, Nat.zero_le _⟩ (by simp only [List.append_assoc, List.nil_append, List.append_nil]) (by simp only [List.append_assoc, List.nil_append, List.append_nil]) hP (hD _ _) hS 0 rfl rfl rfl hl.1 (Nat.le_of_ble_eq_true rfl) dX11_feed_23 (fun H locs hP hS => ?_)
    refine lv_aload_n X.1 X.2.1 dX11_feed_26 rfl (lv_at hl 0 rfl) ?_
    refine r_get (C := RX11) (T := TX11) (N := 15) (ci := 11) (v := .ref (a1 0)) X iw11 hP 0 rfl rfl 0 rfl mw_2_143 rfl dX11_feed_27 ?_
    refine lv_iload_n X.1 X.2.1 dX11_feed_30 rfl (lv_at hl 2 rfl) ?_
    obtain ⟨g1_2, hc_2, h⟩ := bd_el h
    refine call_Vsv (ws := (wPU tc a0 g0 (a1 0) q0_1 q0_2 q0_3 q0_4 q0_5 q0_6 q0_7 q0_8 q0_9 q0_10 q0_13 ++ (wTp tc a1 g1_1))) (ws' := (wPU tc a0 g0 (a1 0) q0_1 q0_2 q0_3 q0_4 q0_5 q0_6 q0_7 q0_8 q0_9 q0_10 q0_13 ++ (wTp tc a1 g1_2))) (wPU tc a0 g0 (a1 0) q0_1 q0_2 q0_3 q0_4 q0_5 q0_6 q0_7 q0_8 q0_9 q0_10 q0_13) [] (As := [.int x2]) (rest := []) X (c_X10_addNumber l dC dI sk sv tc a1 g1_1 x2 hc_2) mw_2_193 mw_2_194 mw_2_195 mw_1_2 mw_2_196 dc_X10_addNumber ⟨Nat.le_of_ble_eq_true rfl, Nat.le_of_ble_eq_true rfl⟩ rfl rfl ⟨Nat.zero_le _, Nat.zero_le _⟩ (by simp only [List.append_assoc, List.nil_append, List.append_nil]) (by simp only [List.append_assoc, List.nil_append, List.append_nil]) hP (hD _ _) hS 0 rfl rfl rfl hl.1 (Nat.le_of_ble_eq_true rfl) dX11_feed_31 (fun H locs hP hS => ?_)
    refine lv_aload_n X.1 X.2.1 dX11_feed_34 rfl (lv_at hl 0 rfl) ?_
    refine r_get (C := RX11) (T := TX11) (N := 15) (ci := 11) (v := .ref (a1 0)) X iw11 hP 0 rfl rfl 0 rfl mw_2_143 rfl dX11_feed_35 ?_
    refine lv_iload_n X.1 X.2.1 dX11_feed_38 rfl (lv_at hl 3 rfl) ?_
    obtain ⟨g1_3, hc_3, h⟩ := bd_el h
    refine call_Vsv (ws := (wPU tc a0 g0 (a1 0) q0_1 q0_2 q0_3 q0_4 q0_5 q0_6 q0_7 q0_8 q0_9 q0_10 q0_13 ++ (wTp tc a1 g1_2))) (ws' := (wPU tc a0 g0 (a1 0) q0_1 q0_2 q0_3 q0_4 q0_5 q0_6 q0_7 q0_8 q0_9 q0_10 q0_13 ++ (wTp tc a1 g1_3))) (wPU tc a0 g0 (a1 0) q0_1 q0_2 q0_3 q0_4 q0_5 q0_6 q0_7 q0_8 q0_9 q0_10 q0_13) [] (As := [.int x3]) (rest := []) X (c_X10_addNumber l dC dI sk sv tc a1 g1_2 x3 hc_3) mw_2_193 mw_2_194 mw_2_195 mw_1_2 mw_2_196 dc_X10_addNumber ⟨Nat.le_of_ble_eq_true rfl, Nat.le_of_ble_eq_true rfl⟩ rfl rfl ⟨Nat.zero_le _, Nat.zero_le _⟩ (by simp only [List.append_assoc, List.nil_append, List.append_nil]) (by simp only [List.append_assoc, List.nil_append, List.append_nil]) hP (hD _ _) hS 0 rfl rfl rfl hl.1 (Nat.le_of_ble_eq_true rfl) dX11_feed_39 (fun H locs hP hS => ?_)
    refine lv_aload_n X.1 X.2.1 dX11_feed_42 rfl (lv_at hl 0 rfl) ?_
    refine r_get (C := RX11) (T := TX11) (N := 15) (ci := 11) (v := .ref (a1 0)) X iw11 hP 0 rfl rfl 0 rfl mw_2_143 rfl dX11_feed_43 ?_
    refine lv_iload X.1 X.2.1 dX11_feed_46 (lv_at hl 4 rfl) ?_
    obtain ⟨g1_4, hc_4, h⟩ := bd_el h
    refine call_Vsv (ws := (wPU tc a0 g0 (a1 0) q0_1 q0_2 q0_3 q0_4 q0_5 q0_6 q0_7 q0_8 q0_9 q0_10 q0_13 ++ (wTp tc a1 g1_3))) (ws' := (wPU tc a0 g0 (a1 0) q0_1 q0_2 q0_3 q0_4 q0_5 q0_6 q0_7 q0_8 q0_9 q0_10 q0_13 ++ (wTp tc a1 g1_4))) (wPU tc a0 g0 (a1 0) q0_1 q0_2 q0_3 q0_4 q0_5 q0_6 q0_7 q0_8 q0_9 q0_10 q0_13) [] (As := [.int x4]) (rest := []) X (c_X10_addNumber l dC dI sk sv tc a1 g1_3 x4 hc_4) mw_2_193 mw_2_194 mw_2_195 mw_1_2 mw_2_196 dc_X10_addNumber ⟨Nat.le_of_ble_eq_true rfl, Nat.le_of_ble_eq_true rfl⟩ rfl rfl ⟨Nat.zero_le _, Nat.zero_le _⟩ (by simp only [List.append_assoc, List.nil_append, List.append_nil]) (by simp only [List.append_assoc, List.nil_append, List.append_nil]) hP (hD _ _) hS 0 rfl rfl rfl hl.1 (Nat.le_of_ble_eq_true rfl) dX11_feed_48 (fun H locs hP hS => ?_)
    refine lv_aload_n X.1 X.2.1 dX11_feed_51 rfl (lv_at hl 0 rfl) ?_
    refine r_get (C := RX11) (T := TX11) (N := 15) (ci := 11) (v := .ref (a1 0)) X iw11 hP 0 rfl rfl 0 rfl mw_2_143 rfl dX11_feed_52 ?_
    refine lv_iload X.1 X.2.1 dX11_feed_55 (lv_at hl 5 rfl) ?_
    obtain ⟨g1_5, hc_5, h⟩ := bd_el h
    refine call_Vsv (ws := (wPU tc a0 g0 (a1 0) q0_1 q0_2 q0_3 q0_4 q0_5 q0_6 q0_7 q0_8 q0_9 q0_10 q0_13 ++ (wTp tc a1 g1_4))) (ws' := (wPU tc a0 g0 (a1 0) q0_1 q0_2 q0_3 q0_4 q0_5 q0_6 q0_7 q0_8 q0_9 q0_10 q0_13 ++ (wTp tc a1 g1_5))) (wPU tc a0 g0 (a1 0) q0_1 q0_2 q0_3 q0_4 q0_5 q0_6 q0_7 q0_8 q0_9 q0_10 q0_13) [] (As := [.int x5]) (rest := []) X (c_X10_addNumber l dC dI sk sv tc a1 g1_4 x5 hc_5) mw_2_193 mw_2_194 mw_2_195 mw_1_2 mw_2_196 dc_X10_addNumber ⟨Nat.le_of_ble_eq_true rfl, Nat.le_of_ble_eq_true rfl⟩ rfl rfl ⟨Nat.zero_le _, Nat.zero_le _⟩ (by simp only [List.append_assoc, List.nil_append, List.append_nil]) (by simp only [List.append_assoc, List.nil_append, List.append_nil]) hP (hD _ _) hS 0 rfl rfl rfl hl.1 (Nat.le_of_ble_eq_true rfl) dX11_feed_57 (fun H locs hP hS => ?_)
    refine lv_aload_n X.1 X.2.1 dX11_feed_60 rfl (lv_at hl 0 rfl) ?_
    refine r_get (C := RX11) (T := TX11) (N := 15) (ci := 11) (v := .ref (a1 0)) X iw11 hP 0 rfl rfl 0 rfl mw_2_143 rfl dX11_feed_61 ?_
    refine r_get (C := RX10) (T := TX10) (N := 8) (ci := 10) (v := .int (g1_5 1 0)) X iw10 hP 1 rfl rfl 1 rfl mw_1_46 rfl dX11_feed_64 ?_
    exact ret_i (fun u => (wPU tc a0 g0 (a1 0) q0_1 q0_2 q0_3 q0_4 q0_5 q0_6 q0_7 q0_8 q0_9 q0_10 q0_13 ++ (wTp tc a1 u))) (res := (r0, G1)) (Option.some.inj h) X hQ hP hS dX11_feed_67
  · have h := it_f hc h
    refine lv_iconst (v := (-1)) X.1 X.2.1 dX11_feed_16 (by decide) ?_
    exact ret_i (fun u => (wPU tc a0 g0 (a1 0) q0_1 q0_2 q0_3 q0_4 q0_5 q0_6 q0_7 q0_8 q0_9 q0_10 q0_13 ++ (wTp tc a1 u))) (res := (r0, G1)) (Option.some.inj h) X hQ hP hS dX11_feed_17

def f_X11_end (g0 : Pic) (g1 : Pic) (x1 : Int32) : Option (Int32 × Pic) := jn (fun (_ : Unit) => some (0, g1)) (fun J15 => (if x1 < 0 then J15 () else (if x1 ≤ (g1 1 0) then nm (pu g1 1 0 x1) (fun g1_1 => some (1, g1_1)) else J15 ())))
abbrev rm_X11_end : Room := { frames := 0, cells := 0, slots := 0, locals := 0 }
set_option maxHeartbeats 4000000 in
set_option maxRecDepth 100000 in
theorem c_X11_end (l : Launch) (dC : Nat → ClassId) (dI : Nat → Nat → Nat) (sk sv : Nat → Nat) (tc : Nat → ClassId) (a0 : Nat → Nat) (q0_1 : Nat) (q0_2 : Nat) (q0_3 : Nat) (q0_4 : Nat) (q0_5 : Nat) (q0_6 : Nat) (q0_7 : Nat) (q0_8 : Nat) (q0_9 : Nat) (q0_10 : Nat) (q0_13 : Option Nat) (a1 : Nat → Nat) (g0 : Pic) (g1 : Pic) (x1 : Int32) {r0 : Int32} {G1 : Pic} (h : f_X11_end g0 g1 x1 = some (r0, G1)) : CT l (dC, dI) sk sv (TY tc) yX11_end cX11_end 2 (some .boolean) rm_X11_end [.ref (a0 0), .int x1] (wPU tc a0 g0 (a1 0) q0_1 q0_2 q0_3 q0_4 q0_5 q0_6 q0_7 q0_8 q0_9 q0_10 q0_13 ++ (wTp tc a1 g1)) (some (.int r0)) (wPU tc a0 g0 (a1 0) q0_1 q0_2 q0_3 q0_4 q0_5 q0_6 q0_7 q0_8 q0_9 q0_10 q0_13 ++ (wTp tc a1 G1)) := by
  refine ofCT (by decide) (Nat.le_of_ble_eq_true rfl) ?_
  intro pr e s m args below meth c A Q ls H locs X hQ hD0 hP hS hl
  have hD : ∀ z0 z1, va_D A (wPU tc a0 z0 (a1 0) q0_1 q0_2 q0_3 q0_4 q0_5 q0_6 q0_7 q0_8 q0_9 q0_10 q0_13 ++ (wTp tc a1 z1)) := fun z0 z1 => D_fst (ws := (wPU tc a0 g0 (a1 0) q0_1 q0_2 q0_3 q0_4 q0_5 q0_6 q0_7 q0_8 q0_9 q0_10 q0_13 ++ (wTp tc a1 g1))) rfl hD0
  have hl : lv_has ls 2 [(0, .ref (a0 0)), (1, .int x1)] := hl
  unfold f_X11_end at h
  refine lv_iload_n X.1 X.2.1 dX11_end_0 rfl (lv_at hl 1 rfl) ?_
  obtain ⟨J15, eJ15, h⟩ := jn_el h
  have HJ15 : ∀ (_ : Unit) (H : Heap) (locs : List Loc) (ls : Array Slot), J15 () = some (r0, G1) → va_P (dC, dI) vwCl (wPU tc a0 g0 (a1 0) q0_1 q0_2 q0_3 q0_4 q0_5 q0_6 q0_7 q0_8 q0_9 q0_10 q0_13 ++ (wTp tc a1 g1)) H → va_S A s.heap H locs → lv_has ls 2 [] → W pr l e rm_X11_end s m args below meth c H locs 0 0 Q (F0 m 15 ls []) := by
    intro _ H locs ls h hP hS hl
    rw [eJ15] at h
    refine lv_iconst (v := 0) X.1 X.2.1 dX11_end_15 (by decide) ?_
    exact ret_z (fun u => (wPU tc a0 g0 (a1 0) q0_1 q0_2 q0_3 q0_4 q0_5 q0_6 q0_7 q0_8 q0_9 q0_10 q0_13 ++ (wTp tc a1 u))) (res := (r0, G1)) (by decide) (Option.some.inj h) X hQ hP hS dX11_end_16
  refine lv_if_lt (tgt := 15) X.1 X.2.1 dX11_end_1 (by decide) (fun hc => ?_) (fun hc => ?_)
  · have h := it_t hc h
    exact HJ15 () H locs ls h hP hS (lv_sub hl [] rfl)
  · have h := it_f hc h
    refine lv_iload_n X.1 X.2.1 dX11_end_4 rfl (lv_at hl 1 rfl) ?_
    refine lv_aload_n X.1 X.2.1 dX11_end_5 rfl (lv_at hl 0 rfl) ?_
    refine r_get (C := RX11) (T := TX11) (N := 15) (ci := 11) (v := .ref (a1 0)) X iw11 hP 0 rfl rfl 0 rfl mw_2_143 rfl dX11_end_6 ?_
    refine r_get (C := RX10) (T := TX10) (N := 8) (ci := 10) (v := .int (g1 1 0)) X iw10 hP 1 rfl rfl 1 rfl mw_1_46 rfl dX11_end_9 ?_
    refine lv_icmp_le (tgt := 17) X.1 X.2.1 dX11_end_12 (by decide) (fun hc => ?_) (fun hc => ?_)
    · have h := it_t hc h
      refine lv_aload_n X.1 X.2.1 dX11_end_17 rfl (lv_at hl 0 rfl) ?_
      refine r_get (C := RX11) (T := TX11) (N := 15) (ci := 11) (v := .ref (a1 0)) X iw11 hP 0 rfl rfl 0 rfl mw_2_143 rfl dX11_end_18 ?_
      refine lv_iload_n X.1 X.2.1 dX11_end_21 rfl (lv_at hl 1 rfl) ?_
      obtain ⟨g1_1, eg1_1, h⟩ := nm_el h
      refine r_put (C := RX10) (T := TX10) (N := 8) (ci := 10) tyX10 tyX10_ok nmX10 X iw10 hP (hD _ _) hS 1 rfl rfl 1 rfl mw_1_46 rfl rfl rfl rfl dX11_end_22 (wPU tc a0 g0 (a1 0) q0_1 q0_2 q0_3 q0_4 q0_5 q0_6 q0_7 q0_8 q0_9 q0_10 q0_13 ++ (wTp tc a1 g1_1)) (by rw [eg1_1]; rfl) (fun H locs hP hS => ?_)
      refine lv_iconst (v := 1) X.1 X.2.1 dX11_end_25 (by decide) ?_
      exact ret_z (fun u => (wPU tc a0 g0 (a1 0) q0_1 q0_2 q0_3 q0_4 q0_5 q0_6 q0_7 q0_8 q0_9 q0_10 q0_13 ++ (wTp tc a1 u))) (res := (r0, G1)) (by decide) (Option.some.inj h) X hQ hP hS dX11_end_26
    · have h := it_f hc h
      exact HJ15 () H locs ls h hP hS (lv_sub hl [] rfl)

def f_X11_fault (g0 : Pic) : Option (Int32) := some (g0 14 0)
abbrev rm_X11_fault : Room := { frames := 0, cells := 0, slots := 0, locals := 0 }
set_option maxHeartbeats 4000000 in
set_option maxRecDepth 100000 in
theorem c_X11_fault (l : Launch) (dC : Nat → ClassId) (dI : Nat → Nat → Nat) (sk sv : Nat → Nat) (tc : Nat → ClassId) (a0 : Nat → Nat) (q0_0 : Nat) (q0_1 : Nat) (q0_2 : Nat) (q0_3 : Nat) (q0_4 : Nat) (q0_5 : Nat) (q0_6 : Nat) (q0_7 : Nat) (q0_8 : Nat) (q0_9 : Nat) (q0_10 : Nat) (q0_13 : Option Nat) (g0 : Pic) {r0 : Int32} (h : f_X11_fault g0 = some r0) : CT l (dC, dI) sk sv (TY tc) yX11_fault cX11_fault 1 (some .int) rm_X11_fault [.ref (a0 0)] (wPU tc a0 g0 q0_0 q0_1 q0_2 q0_3 q0_4 q0_5 q0_6 q0_7 q0_8 q0_9 q0_10 q0_13) (some (.int r0)) (wPU tc a0 g0 q0_0 q0_1 q0_2 q0_3 q0_4 q0_5 q0_6 q0_7 q0_8 q0_9 q0_10 q0_13) := by
  refine ofCT (by decide) (Nat.le_of_ble_eq_true rfl) ?_
  intro pr e s m args below meth c A Q ls H locs X hQ hD0 hP hS hl
  have hD : ∀ z0, va_D A (wPU tc a0 z0 q0_0 q0_1 q0_2 q0_3 q0_4 q0_5 q0_6 q0_7 q0_8 q0_9 q0_10 q0_13) := fun z0 => D_fst (ws := (wPU tc a0 g0 q0_0 q0_1 q0_2 q0_3 q0_4 q0_5 q0_6 q0_7 q0_8 q0_9 q0_10 q0_13)) rfl hD0
  have hl : lv_has ls 1 [(0, .ref (a0 0))] := hl
  unfold f_X11_fault at h
  refine lv_aload_n X.1 X.2.1 dX11_fault_0 rfl (lv_at hl 0 rfl) ?_
  refine r_get (C := RX11) (T := TX11) (N := 15) (ci := 11) (v := .int (g0 14 0)) X iw11 hP 0 rfl rfl 14 rfl mw_2_157 rfl dX11_fault_1 ?_
  exact ret_i0 (Option.some.inj h) X hQ hP hS dX11_fault_4

def f_X11_word (g0 : Pic) (g1 : Pic) (g2 : Pic) (x1 : Int32) (x2 : Int32) : Option ((Nat × Pic) ⊕ (Int32 × Pic)) := lr (f_X11_needWord g0 g1 x1) (fun e => .inl (e.1, g2)) (fun _ => (if x2 = 0 then gdi x1 8 (some (.inr ((g1 2 (x1.toNatClampNeg)), g2))) else (if x2 = 1 then gdi x1 8 (some (.inr ((g1 3 (x1.toNatClampNeg)), g2))) else (if x2 = 2 then bd2 (f_X6_codeLength g2 g1 x1) (fun r_5 g2_5 => some (.inr (r_5, g2_5))) else (if x2 = 3 then bd2 (f_X6_closestTo g2 g1 x1) (fun r_6 g2_6 => some (.inr (r_6, g2_6))) else some (.inl (2, g2)))))))
abbrev rm_X11_word : Room := { frames := 7, cells := 2, slots := 12, locals := 151 }
set_option maxHeartbeats 4000000 in
set_option maxRecDepth 100000 in
theorem c_X11_word (l : Launch) (hst : l.stackTraces = false) (dC : Nat → ClassId) (dI : Nat → Nat → Nat) (sk sv : Nat → Nat) (tc : Nat → ClassId) (a0 : Nat → Nat) (q0_0 : Nat) (q0_2 : Nat) (q0_3 : Nat) (q0_4 : Nat) (q0_5 : Nat) (q0_6 : Nat) (q0_8 : Nat) (q0_9 : Nat) (q0_10 : Nat) (q0_13 : Option Nat) (a1 : Nat → Nat) (q1_18 : Option Nat) (q1_19 : Nat) (a2 : Nat → Nat) (g0 : Pic) (g1 : Pic) (g2 : Pic) (x1 : Int32) (x2 : Int32) {res : ((Nat × Pic) ⊕ (Int32 × Pic))} (h : f_X11_word g0 g1 g2 x1 x2 = some res) : CU l (dC, dI) sk sv (TY tc) yX11_word cX11_word 3 (some .int) rm_X11_word 2 12 [.ref (a0 0), .int x1, .int x2] (wPU tc a0 g0 q0_0 (a1 0) q0_2 q0_3 q0_4 q0_5 q0_6 (a2 0) q0_8 q0_9 q0_10 q0_13 ++ (wSt tc a1 g1 q1_18 q1_19 ++ (wLx tc a2 g2 (a1 0)))) (oI (fun u (_ : Option Nat) => (wPU tc a0 g0 q0_0 (a1 0) q0_2 q0_3 q0_4 q0_5 q0_6 (a2 0) q0_8 q0_9 q0_10 q0_13 ++ (wSt tc a1 g1 q1_18 q1_19 ++ (wLx tc a2 u (a1 0))))) res) := by
  refine ofCU (by decide) (Nat.le_of_ble_eq_true rfl) ?_
  intro pr e s m args below meth c A Q ls H locs X hT hQ hD0 hP hS hl
  have hD : ∀ z0 z1 z2, va_D A (wPU tc a0 z0 q0_0 (a1 0) q0_2 q0_3 q0_4 q0_5 q0_6 (a2 0) q0_8 q0_9 q0_10 q0_13 ++ (wSt tc a1 z1 q1_18 q1_19 ++ (wLx tc a2 z2 (a1 0)))) := fun z0 z1 z2 => D_fst (ws := (wPU tc a0 g0 q0_0 (a1 0) q0_2 q0_3 q0_4 q0_5 q0_6 (a2 0) q0_8 q0_9 q0_10 q0_13 ++ (wSt tc a1 g1 q1_18 q1_19 ++ (wLx tc a2 g2 (a1 0))))) rfl hD0
  have hl : lv_has ls 3 [(0, .ref (a0 0)), (1, .int x1), (2, .int x2)] := hl
  unfold f_X11_word at h
  refine lv_aload_n X.1 X.2.1 dX11_word_0 rfl (lv_at hl 0 rfl) ?_
  refine lv_iload_n X.1 X.2.1 dX11_word_1 rfl (lv_at hl 1 rfl) ?_
  obtain ⟨ex_1, hc_1, h1_1, h2_1⟩ := lr_el h
  rcases ex_1 with e_1 | r_1
  · exact callU_t (ws := (wPU tc a0 g0 q0_0 (a1 0) q0_2 q0_3 q0_4 q0_5 q0_6 (a2 0) q0_8 q0_9 q0_10 q0_13 ++ (wSt tc a1 g1 q1_18 q1_19 ++ (wLx tc a2 g2 (a1 0))))) (ws' := (wPU tc a0 g0 q0_0 (a1 0) q0_2 q0_3 q0_4 q0_5 q0_6 (a2 0) q0_8 q0_9 q0_10 q0_13 ++ (wSt tc a1 g1 q1_18 q1_19 ++ (wLx tc a2 g2 (a1 0))))) (wr := (wLx tc a2 g2 (a1 0))) [0, 1, 2, 3, 4, 5, 6, 7, 8, 9, 10] [11, 12, 13, 14] [4, 5, 6, 7, 8, 9, 10, 11, 12, 13, 14, 0, 1, 2, 3] (As := [.int x1]) (rest := []) none rfl (oUi (fun u (_ : Option Nat) => (wPU tc a0 g0 q0_0 (a1 0) q0_2 q0_3 q0_4 q0_5 q0_6 (a2 0) q0_8 q0_9 q0_10 q0_13 ++ (wSt tc a1 g1 q1_18 q1_19 ++ (wLx tc a2 u (a1 0))))) (h1_1 _ rfl)) X hT hQ (c_X11_needWord l hst dC dI sk sv tc a0 q0_0 q0_2 q0_3 q0_4 q0_5 q0_6 (a2 0) q0_8 q0_9 q0_10 q0_13 a1 q1_18 q1_19 g0 g1 x1 hc_1) mw_4_210 mw_4_212 mp_1_5 mw_1_1 mw_4_213 dc_X11_needWord ⟨Nat.le_of_ble_eq_true rfl, Nat.le_of_ble_eq_true rfl⟩ rfl rfl ⟨Nat.le_of_ble_eq_true rfl, Nat.le_of_ble_eq_true rfl⟩ ⟨rfl, rfl, rfl, rfl, by decide, rfl, rfl⟩ hP (hD _ _ _) hS 0 rfl rfl rfl hl.1 (Nat.le_of_ble_eq_true rfl) dX11_word_2 (Nat.le_of_ble_eq_true rfl) (Nat.le_of_ble_eq_true rfl)
  have h := h2_1 _ rfl
  refine callU_n (ws := (wPU tc a0 g0 q0_0 (a1 0) q0_2 q0_3 q0_4 q0_5 q0_6 (a2 0) q0_8 q0_9 q0_10 q0_13 ++ (wSt tc a1 g1 q1_18 q1_19 ++ (wLx tc a2 g2 (a1 0))))) (ws' := (wPU tc a0 g0 q0_0 (a1 0) q0_2 q0_3 q0_4 q0_5 q0_6 (a2 0) q0_8 q0_9 q0_10 q0_13 ++ (wSt tc a1 g1 q1_18 q1_19 ++ (wLx tc a2 g2 (a1 0))))) (wr := (wLx tc a2 g2 (a1 0))) [0, 1, 2, 3, 4, 5, 6, 7, 8, 9, 10] [11, 12, 13, 14] [4, 5, 6, 7, 8, 9, 10, 11, 12, 13, 14, 0, 1, 2, 3] (As := [.int x1]) (rest := []) X (c_X11_needWord l hst dC dI sk sv tc a0 q0_0 q0_2 q0_3 q0_4 q0_5 q0_6 (a2 0) q0_8 q0_9 q0_10 q0_13 a1 q1_18 q1_19 g0 g1 x1 hc_1) mw_4_210 mw_4_212 mp_1_5 mw_1_1 mw_4_213 dc_X11_needWord ⟨Nat.le_of_ble_eq_true rfl, Nat.le_of_ble_eq_true rfl⟩ rfl rfl ⟨Nat.le_of_ble_eq_true rfl, Nat.le_of_ble_eq_true rfl⟩ ⟨rfl, rfl, rfl, rfl, by decide, rfl, rfl⟩ hP (hD _ _ _) hS 0 rfl rfl rfl hl.1 (Nat.le_of_ble_eq_true rfl) dX11_word_2 (fun H locs hP hS => ?_)
  refine W.eq (g2 := F0 m 5 ls []) rfl ?_
  refine lv_iload_n X.1 X.2.1 dX11_word_5 rfl (lv_at hl 2 rfl) ?_
  by_cases hq2_0 : x2 = 0
  · have h := it_t hq2_0 h
    refine lv_tableIn (tgt := 36) X.1 X.2.1 dX11_word_6 (by rw [hq2_0]; decide) (by rw [hq2_0]; decide) (by rw [hq2_0]; rfl) (by decide) ?_
    refine lv_aload_n X.1 X.2.1 dX11_word_36 rfl (lv_at hl 0 rfl) ?_
    refine r_get (C := RX11) (T := TX11) (N := 15) (ci := 11) (v := .ref (a1 0)) X iw11 hP 0 rfl rfl 1 rfl mw_2_144 rfl dX11_word_37 ?_
    refine r_get (C := RX9) (T := TX9) (N := 20) (ci := 9) (v := .ref (a1 3)) X iw9 hP 1 rfl rfl 2 rfl mw_1_118 rfl dX11_word_40 ?_
    refine lv_iload_n X.1 X.2.1 dX11_word_43 rfl (lv_at hl 1 rfl) ?_
    obtain ⟨hg_3, h⟩ := gdi_el h
    refine r_iald X hP 3 0 rfl rfl hg_3 rfl dX11_word_44 ?_
    exact retU_i (fun u (_ : Option Nat) => (wPU tc a0 g0 q0_0 (a1 0) q0_2 q0_3 q0_4 q0_5 q0_6 (a2 0) q0_8 q0_9 q0_10 q0_13 ++ (wSt tc a1 g1 q1_18 q1_19 ++ (wLx tc a2 u (a1 0))))) none (Option.some.inj h) X hQ hP hS (Nat.le_of_ble_eq_true rfl) (Nat.le_of_ble_eq_true rfl) dX11_word_45
  · have h := it_f hq2_0 h
    by_cases hq2_1 : x2 = 1
    · have h := it_t hq2_1 h
      refine lv_tableIn (tgt := 46) X.1 X.2.1 dX11_word_6 (by rw [hq2_1]; decide) (by rw [hq2_1]; decide) (by rw [hq2_1]; rfl) (by decide) ?_
      refine lv_aload_n X.1 X.2.1 dX11_word_46 rfl (lv_at hl 0 rfl) ?_
      refine r_get (C := RX11) (T := TX11) (N := 15) (ci := 11) (v := .ref (a1 0)) X iw11 hP 0 rfl rfl 1 rfl mw_2_144 rfl dX11_word_47 ?_
      refine r_get (C := RX9) (T := TX9) (N := 20) (ci := 9) (v := .ref (a1 4)) X iw9 hP 1 rfl rfl 3 rfl mw_1_122 rfl dX11_word_50 ?_
      refine lv_iload_n X.1 X.2.1 dX11_word_53 rfl (lv_at hl 1 rfl) ?_
      obtain ⟨hg_4, h⟩ := gdi_el h
      refine r_iald X hP 4 0 rfl rfl hg_4 rfl dX11_word_54 ?_
      exact retU_i (fun u (_ : Option Nat) => (wPU tc a0 g0 q0_0 (a1 0) q0_2 q0_3 q0_4 q0_5 q0_6 (a2 0) q0_8 q0_9 q0_10 q0_13 ++ (wSt tc a1 g1 q1_18 q1_19 ++ (wLx tc a2 u (a1 0))))) none (Option.some.inj h) X hQ hP hS (Nat.le_of_ble_eq_true rfl) (Nat.le_of_ble_eq_true rfl) dX11_word_55
    · have h := it_f hq2_1 h
      by_cases hq2_2 : x2 = 2
      · have h := it_t hq2_2 h
        refine lv_tableIn (tgt := 56) X.1 X.2.1 dX11_word_6 (by rw [hq2_2]; decide) (by rw [hq2_2]; decide) (by rw [hq2_2]; rfl) (by decide) ?_
        refine lv_aload_n X.1 X.2.1 dX11_word_56 rfl (lv_at hl 0 rfl) ?_
        refine r_get (C := RX11) (T := TX11) (N := 15) (ci := 11) (v := .ref (a2 0)) X iw11 hP 0 rfl rfl 7 rfl mw_2_150 rfl dX11_word_57 ?_
        refine lv_iload_n X.1 X.2.1 dX11_word_60 rfl (lv_at hl 1 rfl) ?_
        obtain ⟨r_5, g2_5, hc_5, h⟩ := bd2_el h
        refine call_Q (ws := (wPU tc a0 g0 q0_0 (a1 0) q0_2 q0_3 q0_4 q0_5 q0_6 (a2 0) q0_8 q0_9 q0_10 q0_13 ++ (wSt tc a1 g1 q1_18 q1_19 ++ (wLx tc a2 g2 (a1 0))))) (ws' := (wPU tc a0 g0 q0_0 (a1 0) q0_2 q0_3 q0_4 q0_5 q0_6 (a2 0) q0_8 q0_9 q0_10 q0_13 ++ (wSt tc a1 g1 q1_18 q1_19 ++ (wLx tc a2 g2_5 (a1 0))))) (wr := (wPU tc a0 g0 q0_0 (a1 0) q0_2 q0_3 q0_4 q0_5 q0_6 (a2 0) q0_8 q0_9 q0_10 q0_13)) [11, 12, 13, 14, 1, 2, 3, 4, 5, 6, 7, 8, 9, 10] [0] [0, 5, 6, 7, 8, 9, 10, 11, 12, 13, 14, 1, 2, 3, 4] (As := [.int x1]) (rest := []) X (c_X6_codeLength l dC dI sk sv tc a2 a1 q1_18 q1_19 g2 g1 x1 hc_5) mw_4_230 mw_4_231 mw_4_232 mw_1_9 mw_4_233 dc_X6_codeLength ⟨Nat.le_of_ble_eq_true rfl, Nat.le_of_ble_eq_true rfl⟩ rfl rfl ⟨Nat.le_of_ble_eq_true rfl, Nat.le_of_ble_eq_true rfl⟩ ⟨rfl, rfl, rfl, rfl, by decide, rfl, rfl⟩ hP (hD _ _ _) hS 0 rfl rfl rfl hl.1 (Nat.le_of_ble_eq_true rfl) dX11_word_61 (fun H locs hP hS => ?_)
        refine W.eq (g2 := F0 m 64 ls [.int r_5]) rfl ?_
        exact retU_i (fun u (_ : Option Nat) => (wPU tc a0 g0 q0_0 (a1 0) q0_2 q0_3 q0_4 q0_5 q0_6 (a2 0) q0_8 q0_9 q0_10 q0_13 ++ (wSt tc a1 g1 q1_18 q1_19 ++ (wLx tc a2 u (a1 0))))) none (Option.some.inj h) X hQ hP hS (Nat.le_of_ble_eq_true rfl) (Nat.le_of_ble_eq_true rfl) dX11_word_64
      · have h := it_f hq2_2 h
        by_cases hq2_3 : x2 = 3
        · have h := it_t hq2_3 h
          refine lv_tableIn (tgt := 65) X.1 X.2.1 dX11_word_6 (by rw [hq2_3]; decide) (by rw [hq2_3]; decide) (by rw [hq2_3]; rfl) (by decide) ?_
          refine lv_aload_n X.1 X.2.1 dX11_word_65 rfl (lv_at hl 0 rfl) ?_
          refine r_get (C := RX11) (T := TX11) (N := 15) (ci := 11) (v := .ref (a2 0)) X iw11 hP 0 rfl rfl 7 rfl mw_2_150 rfl dX11_word_66 ?_
          refine lv_iload_n X.1 X.2.1 dX11_word_69 rfl (lv_at hl 1 rfl) ?_
          obtain ⟨r_6, g2_6, hc_6, h⟩ := bd2_el h
          refine call_Q (ws := (wPU tc a0 g0 q0_0 (a1 0) q0_2 q0_3 q0_4 q0_5 q0_6 (a2 0) q0_8 q0_9 q0_10 q0_13 ++ (wSt tc a1 g1 q1_18 q1_19 ++ (wLx tc a2 g2 (a1 0))))) (ws' := (wPU tc a0 g0 q0_0 (a1 0) q0_2 q0_3 q0_4 q0_5 q0_6 (a2 0) q0_8 q0_9 q0_10 q0_13 ++ (wSt tc a1 g1 q1_18 q1_19 ++ (wLx tc a2 g2_6 (a1 0))))) (wr := (wPU tc a0 g0 q0_0 (a1 0) q0_2 q0_3 q0_4 q0_5 q0_6 (a2 0) q0_8 q0_9 q0_10 q0_13)) [11, 12, 13, 14, 1, 2, 3, 4, 5, 6, 7, 8, 9, 10] [0] [0, 5, 6, 7, 8, 9, 10, 11, 12, 13, 14, 1, 2, 3, 4] (As := [.int x1]) (rest := []) X (c_X6_closestTo l dC dI sk sv tc a2 a1 q1_18 q1_19 g2 g1 x1 hc_6) mw_4_238 mw_4_239 mw_5_0 mw_1_9 mw_5_1 dc_X6_closestTo ⟨Nat.le_of_ble_eq_true rfl, Nat.le_of_ble_eq_true rfl⟩ rfl rfl ⟨Nat.le_of_ble_eq_true rfl, Nat.le_of_ble_eq_true rfl⟩ ⟨rfl, rfl, rfl, rfl, by decide, rfl, rfl⟩ hP (hD _ _ _) hS 0 rfl rfl rfl hl.1 (Nat.le_of_ble_eq_true rfl) dX11_word_70 (fun H locs hP hS => ?_)
          refine W.eq (g2 := F0 m 73 ls [.int r_6]) rfl ?_
          exact retU_i (fun u (_ : Option Nat) => (wPU tc a0 g0 q0_0 (a1 0) q0_2 q0_3 q0_4 q0_5 q0_6 (a2 0) q0_8 q0_9 q0_10 q0_13 ++ (wSt tc a1 g1 q1_18 q1_19 ++ (wLx tc a2 u (a1 0))))) none (Option.some.inj h) X hQ hP hS (Nat.le_of_ble_eq_true rfl) (Nat.le_of_ble_eq_true rfl) dX11_word_73
        · have h := it_f hq2_3 h
          refine lv_tableOut (tgt := 74) X.1 X.2.1 dX11_word_6 (sw_out x2 [0, 1, 2, 3] 4 (by decide) (by decide) (by simp only [List.mem_cons, List.not_mem_nil, or_false, forall_eq_or_imp, forall_eq]; exact ⟨hq2_0, hq2_1, hq2_2, hq2_3⟩)) (by decide) ?_
          exact thr_N 2 (text := "no such thing of a word") (ti := 24) none (oUi (fun u (_ : Option Nat) => (wPU tc a0 g0 q0_0 (a1 0) q0_2 q0_3 q0_4 q0_5 q0_6 (a2 0) q0_8 q0_9 q0_10 q0_13 ++ (wSt tc a1 g1 q1_18 q1_19 ++ (wLx tc a2 u (a1 0))))) (Option.some.inj h)) X hT hst at_163 mw_5_7 mw_1_27 (List.mem_of_getElem? (i := 30) rfl) hQ hP hS hl.1 dX11_word_74 dX11_word_77 (Or.inl ⟨rfl, dX11_word_78⟩) dX11_word_80 dX11_word_83 (Nat.le_of_ble_eq_true rfl) (Nat.le_of_ble_eq_true rfl) (Nat.le_of_ble_eq_true rfl) (Nat.le_of_ble_eq_true rfl) (Nat.le_of_ble_eq_true rfl) (Nat.le_of_ble_eq_true rfl)

def f_X11_letter (g0 : Pic) (g1 : Pic) (x1 : Int32) (x2 : Int32) : Option ((Nat × Unit) ⊕ (Int32 × Unit)) := lr (f_X11_needWord g0 g1 x1) (fun e => .inl (e.1, ())) (fun _ => bd (f_X9_letterAt g1 x1 x2) (fun r_2 => some (.inr (r_2, ()))))
abbrev rm_X11_letter : Room := { frames := 7, cells := 1, slots := 6, locals := 141 }
set_option maxHeartbeats 4000000 in
set_option maxRecDepth 100000 in
theorem c_X11_letter (l : Launch) (hst : l.stackTraces = false) (dC : Nat → ClassId) (dI : Nat → Nat → Nat) (sk sv : Nat → Nat) (tc : Nat → ClassId) (a0 : Nat → Nat) (q0_0 : Nat) (q0_2 : Nat) (q0_3 : Nat) (q0_4 : Nat) (q0_5 : Nat) (q0_6 : Nat) (q0_7 : Nat) (q0_8 : Nat) (q0_9 : Nat) (q0_10 : Nat) (q0_13 : Option Nat) (a1 : Nat → Nat) (q1_18 : Option Nat) (q1_19 : Nat) (g0 : Pic) (g1 : Pic) (x1 : Int32) (x2 : Int32) {res : ((Nat × Unit) ⊕ (Int32 × Unit))} (h : f_X11_letter g0 g1 x1 x2 = some res) : CU l (dC, dI) sk sv (TY tc) yX11_letter cX11_letter 3 (some .int) rm_X11_letter 1 6 [.ref (a0 0), .int x1, .int x2] (wPU tc a0 g0 q0_0 (a1 0) q0_2 q0_3 q0_4 q0_5 q0_6 q0_7 q0_8 q0_9 q0_10 q0_13 ++ (wSt tc a1 g1 q1_18 q1_19)) (oI (fun (_ : Unit) (_ : Option Nat) => (wPU tc a0 g0 q0_0 (a1 0) q0_2 q0_3 q0_4 q0_5 q0_6 q0_7 q0_8 q0_9 q0_10 q0_13 ++ (wSt tc a1 g1 q1_18 q1_19))) res) := by
  refine ofCU (by decide) (Nat.le_of_ble_eq_true rfl) ?_
  intro pr e s m args below meth c A Q ls H locs X hT hQ hD0 hP hS hl
  have hD : ∀ z0 z1, va_D A (wPU tc a0 z0 q0_0 (a1 0) q0_2 q0_3 q0_4 q0_5 q0_6 q0_7 q0_8 q0_9 q0_10 q0_13 ++ (wSt tc a1 z1 q1_18 q1_19)) := fun z0 z1 => D_fst (ws := (wPU tc a0 g0 q0_0 (a1 0) q0_2 q0_3 q0_4 q0_5 q0_6 q0_7 q0_8 q0_9 q0_10 q0_13 ++ (wSt tc a1 g1 q1_18 q1_19))) rfl hD0
  have hl : lv_has ls 3 [(0, .ref (a0 0)), (1, .int x1), (2, .int x2)] := hl
  unfold f_X11_letter at h
  refine lv_aload_n X.1 X.2.1 dX11_letter_0 rfl (lv_at hl 0 rfl) ?_
  refine lv_iload_n X.1 X.2.1 dX11_letter_1 rfl (lv_at hl 1 rfl) ?_
  obtain ⟨ex_1, hc_1, h1_1, h2_1⟩ := lr_el h
  rcases ex_1 with e_1 | r_1
  · exact callU_t (ws := (wPU tc a0 g0 q0_0 (a1 0) q0_2 q0_3 q0_4 q0_5 q0_6 q0_7 q0_8 q0_9 q0_10 q0_13 ++ (wSt tc a1 g1 q1_18 q1_19))) (ws' := (wPU tc a0 g0 q0_0 (a1 0) q0_2 q0_3 q0_4 q0_5 q0_6 q0_7 q0_8 q0_9 q0_10 q0_13 ++ (wSt tc a1 g1 q1_18 q1_19))) (wr := []) [0, 1, 2, 3, 4, 5, 6, 7, 8, 9, 10] [] [0, 1, 2, 3, 4, 5, 6, 7, 8, 9, 10] (As := [.int x1]) (rest := []) none rfl (oUi (fun (_ : Unit) (_ : Option Nat) => (wPU tc a0 g0 q0_0 (a1 0) q0_2 q0_3 q0_4 q0_5 q0_6 q0_7 q0_8 q0_9 q0_10 q0_13 ++ (wSt tc a1 g1 q1_18 q1_19))) (h1_1 _ rfl)) X hT hQ (c_X11_needWord l hst dC dI sk sv tc a0 q0_0 q0_2 q0_3 q0_4 q0_5 q0_6 q0_7 q0_8 q0_9 q0_10 q0_13 a1 q1_18 q1_19 g0 g1 x1 hc_1) mw_4_210 mw_4_212 mp_1_5 mw_1_1 mw_4_213 dc_X11_needWord ⟨Nat.le_of_ble_eq_true rfl, Nat.le_of_ble_eq_true rfl⟩ rfl rfl ⟨Nat.le_of_ble_eq_true rfl, Nat.le_of_ble_eq_true rfl⟩ ⟨rfl, rfl, rfl, rfl, by decide, rfl, rfl⟩ hP (hD _ _) hS 0 rfl rfl rfl hl.1 (Nat.le_of_ble_eq_true rfl) dX11_letter_2 (Nat.le_of_ble_eq_true rfl) (Nat.le_of_ble_eq_true rfl)
  have h := h2_1 _ rfl
  refine callU_n (ws := (wPU tc a0 g0 q0_0 (a1 0) q0_2 q0_3 q0_4 q0_5 q0_6 q0_7 q0_8 q0_9 q0_10 q0_13 ++ (wSt tc a1 g1 q1_18 q1_19))) (ws' := (wPU tc a0 g0 q0_0 (a1 0) q0_2 q0_3 q0_4 q0_5 q0_6 q0_7 q0_8 q0_9 q0_10 q0_13 ++ (wSt tc a1 g1 q1_18 q1_19))) (wr := []) [0, 1, 2, 3, 4, 5, 6, 7, 8, 9, 10] [] [0, 1, 2, 3, 4, 5, 6, 7, 8, 9, 10] (As := [.int x1]) (rest := []) X (c_X11_needWord l hst dC dI sk sv tc a0 q0_0 q0_2 q0_3 q0_4 q0_5 q0_6 q0_7 q0_8 q0_9 q0_10 q0_13 a1 q1_18 q1_19 g0 g1 x1 hc_1) mw_4_210 mw_4_212 mp_1_5 mw_1_1 mw_4_213 dc_X11_needWord ⟨Nat.le_of_ble_eq_true rfl, Nat.le_of_ble_eq_true rfl⟩ rfl rfl ⟨Nat.le_of_ble_eq_true rfl, Nat.le_of_ble_eq_true rfl⟩ ⟨rfl, rfl, rfl, rfl, by decide, rfl, rfl⟩ hP (hD _ _) hS 0 rfl rfl rfl hl.1 (Nat.le_of_ble_eq_true rfl) dX11_letter_2 (fun H locs hP hS => ?_)
  refine W.eq (g2 := F0 m 5 ls []) rfl ?_
  refine lv_aload_n X.1 X.2.1 dX11_letter_5 rfl (lv_at hl 0 rfl) ?_
  refine r_get (C := RX11) (T := TX11) (N := 15) (ci := 11) (v := .ref (a1 0)) X iw11 hP 0 rfl rfl 1 rfl mw_2_144 rfl dX11_letter_6 ?_
  refine lv_iload_n X.1 X.2.1 dX11_letter_9 rfl (lv_at hl 1 rfl) ?_
  refine lv_iload_n X.1 X.2.1 dX11_letter_10 rfl (lv_at hl 2 rfl) ?_
  obtain ⟨r_2, hc_2, h⟩ := bd_el h
  refine call_Vsi (ws := (wPU tc a0 g0 q0_0 (a1 0) q0_2 q0_3 q0_4 q0_5 q0_6 q0_7 q0_8 q0_9 q0_10 q0_13 ++ (wSt tc a1 g1 q1_18 q1_19))) (ws' := (wPU tc a0 g0 q0_0 (a1 0) q0_2 q0_3 q0_4 q0_5 q0_6 q0_7 q0_8 q0_9 q0_10 q0_13 ++ (wSt tc a1 g1 q1_18 q1_19))) (wPU tc a0 g0 q0_0 (a1 0) q0_2 q0_3 q0_4 q0_5 q0_6 q0_7 q0_8 q0_9 q0_10 q0_13) [] (As := [.int x1, .int x2]) (rest := []) X (c_X9_letterAt l dC dI sk sv tc a1 q1_18 q1_19 g1 x1 x2 hc_2) mw_5_30 mw_3_68 mw_3_69 mw_1_3 mw_3_70 dc_X9_letterAt ⟨Nat.le_of_ble_eq_true rfl, Nat.le_of_ble_eq_true rfl⟩ rfl rfl ⟨Nat.le_of_ble_eq_true rfl, Nat.le_of_ble_eq_true rfl⟩ (by simp only [List.append_assoc, List.nil_append, List.append_nil]) (by simp only [List.append_assoc, List.nil_append, List.append_nil]) hP (hD _ _) hS 0 rfl rfl rfl hl.1 (Nat.le_of_ble_eq_true rfl) dX11_letter_11 (fun H locs hP hS => ?_)
  exact retU_i (fun (_ : Unit) (_ : Option Nat) => (wPU tc a0 g0 q0_0 (a1 0) q0_2 q0_3 q0_4 q0_5 q0_6 q0_7 q0_8 q0_9 q0_10 q0_13 ++ (wSt tc a1 g1 q1_18 q1_19))) none (Option.some.inj h) X hQ hP hS (Nat.le_of_ble_eq_true rfl) (Nat.le_of_ble_eq_true rfl) dX11_letter_14

def f_X11_writer (g0 : Pic) (g1 : Pic) (g2 : Pic) (g3 : Pic) (x1 : Int32) (x2 : Int32) : Option ((Nat × (Pic × Pic)) ⊕ (Int32 × (Pic × Pic))) := lr (f_X11_needWriter g0 g1 x1) (fun e => .inl (e.1, (g2, g3))) (fun _ => (if x2 = 0 then gdi x1 5 (some (.inr ((g1 8 (x1.toNatClampNeg)), (g2, g3)))) else (if x2 = 1 then gdi x1 5 (some (.inr ((g1 9 (x1.toNatClampNeg)), (g2, g3)))) else (if x2 = 2 then gdi x1 5 (some (.inr ((g1 10 (x1.toNatClampNeg)), (g2, g3)))) else (if x2 = 3 then gdi x1 5 (some (.inr ((g1 11 (x1.toNatClampNeg)), (g2, g3)))) else (if x2 = 4 then bd (f_X11_handOf g0 g1 g2 x1) (fun g2_7 => bd (f_X3_clean g2_7) (fun r_8 => some (.inr (r_8, (g2_7, g3))))) else (if x2 = 5 then bd (f_X11_handOf g0 g1 g2 x1) (fun g2_9 => bd (f_X3_lost g2_9) (fun r_10 => some (.inr (r_10, (g2_9, g3))))) else (if x2 = 6 then bd (f_X11_handOf g0 g1 g2 x1) (fun g2_11 => bd (f_X3_saved g2_11) (fun r_12 => some (.inr (r_12, (g2_11, g3))))) else (if x2 = 7 then bd3 (f_X8_doneOf g3 g2 g1 x1) (fun r_13 g3_13 g2_13 => some (.inr (r_13, (g2_13, g3_13)))) else (if x2 = 8 then bd3 (f_X8_lagOf g3 g2 g1 x1 (g1 13 0)) (fun r_14 g3_14 g2_14 => some (.inr (r_14, (g2_14, g3_14)))) else (if x2 = 9 then bd3 (f_X8_edgeOf g3 g2 g1 x1) (fun r_15 g3_15 g2_15 => some (.inr (r_15, (g2_15, g3_15)))) else (if x2 = 10 then bd (f_X8_runOf g3 g2 g1 x1) (fun r_16 => some (.inr (r_16, (g2, g3)))) else (if x2 = 11 then bd (f_X8_gapsOf g3 g2 g1 x1) (fun r_17 => some (.inr (r_17, (g2, g3)))) else (if x2 = 12 then bd2 (f_X8_trueOf g3 g2 g1 x1) (fun r_18 g2_18 => some (.inr (r_18, (g2_18, g3)))) else (if x2 = 13 then bd (f_X8_shareOf g3 g2 g1 x1) (fun r_19 => some (.inr (r_19, (g2, g3)))) else some (.inl (2, (g2, g3))))))))))))))))))
abbrev rm_X11_writer : Room := { frames := 7, cells := 2, slots := 12, locals := 141 }
set_option maxHeartbeats 4000000 in
set_option maxRecDepth 100000 in
theorem c_X11_writer (l : Launch) (hst : l.stackTraces = false) (dC : Nat → ClassId) (dI : Nat → Nat → Nat) (sk sv : Nat → Nat) (tc : Nat → ClassId) (a0 : Nat → Nat) (q0_0 : Nat) (q0_2 : Nat) (q0_3 : Nat) (q0_4 : Nat) (q0_6 : Nat) (q0_7 : Nat) (q0_8 : Nat) (q0_10 : Nat) (q0_13 : Option Nat) (a1 : Nat → Nat) (q1_18 : Option Nat) (q1_19 : Nat) (a2 : Nat → Nat) (a3 : Nat → Nat) (g0 : Pic) (g1 : Pic) (g2 : Pic) (g3 : Pic) (x1 : Int32) (x2 : Int32) {res : ((Nat × (Pic × Pic)) ⊕ (Int32 × (Pic × Pic)))} (h : f_X11_writer g0 g1 g2 g3 x1 x2 = some res) : CU l (dC, dI) sk sv (TY tc) yX11_writer cX11_writer 3 (some .int) rm_X11_writer 2 12 [.ref (a0 0), .int x1, .int x2] (wPU tc a0 g0 q0_0 (a1 0) q0_2 q0_3 q0_4 (a2 0) q0_6 q0_7 q0_8 (a3 0) q0_10 q0_13 ++ (wSt tc a1 g1 q1_18 q1_19 ++ (wHd tc a2 g2 ++ (wSc tc a3 g3 (a1 0) (a2 0))))) (oI (fun u (_ : Option Nat) => (wPU tc a0 g0 q0_0 (a1 0) q0_2 q0_3 q0_4 (a2 0) q0_6 q0_7 q0_8 (a3 0) q0_10 q0_13 ++ (wSt tc a1 g1 q1_18 q1_19 ++ (wHd tc a2 u.1 ++ (wSc tc a3 u.2 (a1 0) (a2 0)))))) res) := by
  refine ofCU (by decide) (Nat.le_of_ble_eq_true rfl) ?_
  intro pr e s m args below meth c A Q ls H locs X hT hQ hD0 hP hS hl
  have hD : ∀ z0 z1 z2 z3, va_D A (wPU tc a0 z0 q0_0 (a1 0) q0_2 q0_3 q0_4 (a2 0) q0_6 q0_7 q0_8 (a3 0) q0_10 q0_13 ++ (wSt tc a1 z1 q1_18 q1_19 ++ (wHd tc a2 z2 ++ (wSc tc a3 z3 (a1 0) (a2 0))))) := fun z0 z1 z2 z3 => D_fst (ws := (wPU tc a0 g0 q0_0 (a1 0) q0_2 q0_3 q0_4 (a2 0) q0_6 q0_7 q0_8 (a3 0) q0_10 q0_13 ++ (wSt tc a1 g1 q1_18 q1_19 ++ (wHd tc a2 g2 ++ (wSc tc a3 g3 (a1 0) (a2 0)))))) rfl hD0
  have hl : lv_has ls 3 [(0, .ref (a0 0)), (1, .int x1), (2, .int x2)] := hl
  unfold f_X11_writer at h
  refine lv_aload_n X.1 X.2.1 dX11_writer_0 rfl (lv_at hl 0 rfl) ?_
  refine lv_iload_n X.1 X.2.1 dX11_writer_1 rfl (lv_at hl 1 rfl) ?_
  obtain ⟨ex_1, hc_1, h1_1, h2_1⟩ := lr_el h
  rcases ex_1 with e_1 | r_1
  · exact callU_t (ws := (wPU tc a0 g0 q0_0 (a1 0) q0_2 q0_3 q0_4 (a2 0) q0_6 q0_7 q0_8 (a3 0) q0_10 q0_13 ++ (wSt tc a1 g1 q1_18 q1_19 ++ (wHd tc a2 g2 ++ (wSc tc a3 g3 (a1 0) (a2 0)))))) (ws' := (wPU tc a0 g0 q0_0 (a1 0) q0_2 q0_3 q0_4 (a2 0) q0_6 q0_7 q0_8 (a3 0) q0_10 q0_13 ++ (wSt tc a1 g1 q1_18 q1_19 ++ (wHd tc a2 g2 ++ (wSc tc a3 g3 (a1 0) (a2 0)))))) (wr := (wHd tc a2 g2 ++ (wSc tc a3 g3 (a1 0) (a2 0)))) [0, 1, 2, 3, 4, 5, 6, 7, 8, 9, 10] [11, 12, 13, 14, 15, 16, 17, 18, 19] [9, 10, 11, 12, 13, 14, 15, 16, 17, 18, 19, 0, 1, 2, 3, 4, 5, 6, 7, 8] (As := [.int x1]) (rest := []) none rfl (oUi (fun u (_ : Option Nat) => (wPU tc a0 g0 q0_0 (a1 0) q0_2 q0_3 q0_4 (a2 0) q0_6 q0_7 q0_8 (a3 0) q0_10 q0_13 ++ (wSt tc a1 g1 q1_18 q1_19 ++ (wHd tc a2 u.1 ++ (wSc tc a3 u.2 (a1 0) (a2 0)))))) (h1_1 _ rfl)) X hT hQ (c_X11_needWriter l hst dC dI sk sv tc a0 q0_0 q0_2 q0_3 q0_4 (a2 0) q0_6 q0_7 q0_8 (a3 0) q0_10 q0_13 a1 q1_18 q1_19 g0 g1 x1 hc_1) mw_5_38 mw_5_40 mp_1_6 mw_1_1 mw_5_41 dc_X11_needWriter ⟨Nat.le_of_ble_eq_true rfl, Nat.le_of_ble_eq_true rfl⟩ rfl rfl ⟨Nat.le_of_ble_eq_true rfl, Nat.le_of_ble_eq_true rfl⟩ ⟨rfl, rfl, rfl, rfl, by decide, rfl, rfl⟩ hP (hD _ _ _ _) hS 0 rfl rfl rfl hl.1 (Nat.le_of_ble_eq_true rfl) dX11_writer_2 (Nat.le_of_ble_eq_true rfl) (Nat.le_of_ble_eq_true rfl)
  have h := h2_1 _ rfl
  refine callU_n (ws := (wPU tc a0 g0 q0_0 (a1 0) q0_2 q0_3 q0_4 (a2 0) q0_6 q0_7 q0_8 (a3 0) q0_10 q0_13 ++ (wSt tc a1 g1 q1_18 q1_19 ++ (wHd tc a2 g2 ++ (wSc tc a3 g3 (a1 0) (a2 0)))))) (ws' := (wPU tc a0 g0 q0_0 (a1 0) q0_2 q0_3 q0_4 (a2 0) q0_6 q0_7 q0_8 (a3 0) q0_10 q0_13 ++ (wSt tc a1 g1 q1_18 q1_19 ++ (wHd tc a2 g2 ++ (wSc tc a3 g3 (a1 0) (a2 0)))))) (wr := (wHd tc a2 g2 ++ (wSc tc a3 g3 (a1 0) (a2 0)))) [0, 1, 2, 3, 4, 5, 6, 7, 8, 9, 10] [11, 12, 13, 14, 15, 16, 17, 18, 19] [9, 10, 11, 12, 13, 14, 15, 16, 17, 18, 19, 0, 1, 2, 3, 4, 5, 6, 7, 8] (As := [.int x1]) (rest := []) X (c_X11_needWriter l hst dC dI sk sv tc a0 q0_0 q0_2 q0_3 q0_4 (a2 0) q0_6 q0_7 q0_8 (a3 0) q0_10 q0_13 a1 q1_18 q1_19 g0 g1 x1 hc_1) mw_5_38 mw_5_40 mp_1_6 mw_1_1 mw_5_41 dc_X11_needWriter ⟨Nat.le_of_ble_eq_true rfl, Nat.le_of_ble_eq_true rfl⟩ rfl rfl ⟨Nat.le_of_ble_eq_true rfl, Nat.le_of_ble_eq_true rfl⟩ ⟨rfl, rfl, rfl, rfl, by decide, rfl, rfl⟩ hP (hD _ _ _ _) hS 0 rfl rfl rfl hl.1 (Nat.le_of_ble_eq_true rfl) dX11_writer_2 (fun H locs hP hS => ?_)
  refine W.eq (g2 := F0 m 5 ls []) rfl ?_
  refine lv_iload_n X.1 X.2.1 dX11_writer_5 rfl (lv_at hl 2 rfl) ?_
  by_cases hq2_0 : x2 = 0
  · have h := it_t hq2_0 h
    refine lv_tableIn (tgt := 76) X.1 X.2.1 dX11_writer_6 (by rw [hq2_0]; decide) (by rw [hq2_0]; decide) (by rw [hq2_0]; rfl) (by decide) ?_
    refine lv_aload_n X.1 X.2.1 dX11_writer_76 rfl (lv_at hl 0 rfl) ?_
    refine r_get (C := RX11) (T := TX11) (N := 15) (ci := 11) (v := .ref (a1 0)) X iw11 hP 0 rfl rfl 1 rfl mw_2_144 rfl dX11_writer_77 ?_
    refine r_get (C := RX9) (T := TX9) (N := 20) (ci := 9) (v := .ref (a1 9)) X iw9 hP 1 rfl rfl 8 rfl mw_1_151 rfl dX11_writer_80 ?_
    refine lv_iload_n X.1 X.2.1 dX11_writer_83 rfl (lv_at hl 1 rfl) ?_
    obtain ⟨hg_3, h⟩ := gdi_el h
    refine r_iald X hP 6 0 rfl rfl hg_3 rfl dX11_writer_84 ?_
    exact retU_i (fun u (_ : Option Nat) => (wPU tc a0 g0 q0_0 (a1 0) q0_2 q0_3 q0_4 (a2 0) q0_6 q0_7 q0_8 (a3 0) q0_10 q0_13 ++ (wSt tc a1 g1 q1_18 q1_19 ++ (wHd tc a2 u.1 ++ (wSc tc a3 u.2 (a1 0) (a2 0)))))) none (Option.some.inj h) X hQ hP hS (Nat.le_of_ble_eq_true rfl) (Nat.le_of_ble_eq_true rfl) dX11_writer_85
  · have h := it_f hq2_0 h
    by_cases hq2_1 : x2 = 1
    · have h := it_t hq2_1 h
      refine lv_tableIn (tgt := 86) X.1 X.2.1 dX11_writer_6 (by rw [hq2_1]; decide) (by rw [hq2_1]; decide) (by rw [hq2_1]; rfl) (by decide) ?_
      refine lv_aload_n X.1 X.2.1 dX11_writer_86 rfl (lv_at hl 0 rfl) ?_
      refine r_get (C := RX11) (T := TX11) (N := 15) (ci := 11) (v := .ref (a1 0)) X iw11 hP 0 rfl rfl 1 rfl mw_2_144 rfl dX11_writer_87 ?_
      refine r_get (C := RX9) (T := TX9) (N := 20) (ci := 9) (v := .ref (a1 10)) X iw9 hP 1 rfl rfl 9 rfl mw_1_157 rfl dX11_writer_90 ?_
      refine lv_iload_n X.1 X.2.1 dX11_writer_93 rfl (lv_at hl 1 rfl) ?_
      obtain ⟨hg_4, h⟩ := gdi_el h
      refine r_iald X hP 7 0 rfl rfl hg_4 rfl dX11_writer_94 ?_
      exact retU_i (fun u (_ : Option Nat) => (wPU tc a0 g0 q0_0 (a1 0) q0_2 q0_3 q0_4 (a2 0) q0_6 q0_7 q0_8 (a3 0) q0_10 q0_13 ++ (wSt tc a1 g1 q1_18 q1_19 ++ (wHd tc a2 u.1 ++ (wSc tc a3 u.2 (a1 0) (a2 0)))))) none (Option.some.inj h) X hQ hP hS (Nat.le_of_ble_eq_true rfl) (Nat.le_of_ble_eq_true rfl) dX11_writer_95
    · have h := it_f hq2_1 h
      by_cases hq2_2 : x2 = 2
      · have h := it_t hq2_2 h
        refine lv_tableIn (tgt := 96) X.1 X.2.1 dX11_writer_6 (by rw [hq2_2]; decide) (by rw [hq2_2]; decide) (by rw [hq2_2]; rfl) (by decide) ?_
        refine lv_aload_n X.1 X.2.1 dX11_writer_96 rfl (lv_at hl 0 rfl) ?_
        refine r_get (C := RX11) (T := TX11) (N := 15) (ci := 11) (v := .ref (a1 0)) X iw11 hP 0 rfl rfl 1 rfl mw_2_144 rfl dX11_writer_97 ?_
        refine r_get (C := RX9) (T := TX9) (N := 20) (ci := 9) (v := .ref (a1 11)) X iw9 hP 1 rfl rfl 10 rfl mw_1_161 rfl dX11_writer_100 ?_
        refine lv_iload_n X.1 X.2.1 dX11_writer_103 rfl (lv_at hl 1 rfl) ?_
        obtain ⟨hg_5, h⟩ := gdi_el h
        refine r_iald X hP 8 0 rfl rfl hg_5 rfl dX11_writer_104 ?_
        exact retU_i (fun u (_ : Option Nat) => (wPU tc a0 g0 q0_0 (a1 0) q0_2 q0_3 q0_4 (a2 0) q0_6 q0_7 q0_8 (a3 0) q0_10 q0_13 ++ (wSt tc a1 g1 q1_18 q1_19 ++ (wHd tc a2 u.1 ++ (wSc tc a3 u.2 (a1 0) (a2 0)))))) none (Option.some.inj h) X hQ hP hS (Nat.le_of_ble_eq_true rfl) (Nat.le_of_ble_eq_true rfl) dX11_writer_105
      · have h := it_f hq2_2 h
        by_cases hq2_3 : x2 = 3
        · have h := it_t hq2_3 h
          refine lv_tableIn (tgt := 106) X.1 X.2.1 dX11_writer_6 (by rw [hq2_3]; decide) (by rw [hq2_3]; decide) (by rw [hq2_3]; rfl) (by decide) ?_
          refine lv_aload_n X.1 X.2.1 dX11_writer_106 rfl (lv_at hl 0 rfl) ?_
          refine r_get (C := RX11) (T := TX11) (N := 15) (ci := 11) (v := .ref (a1 0)) X iw11 hP 0 rfl rfl 1 rfl mw_2_144 rfl dX11_writer_107 ?_
          refine r_get (C := RX9) (T := TX9) (N := 20) (ci := 9) (v := .ref (a1 12)) X iw9 hP 1 rfl rfl 11 rfl mw_1_166 rfl dX11_writer_110 ?_
          refine lv_iload_n X.1 X.2.1 dX11_writer_113 rfl (lv_at hl 1 rfl) ?_
          obtain ⟨hg_6, h⟩ := gdi_el h
          refine r_iald X hP 9 0 rfl rfl hg_6 rfl dX11_writer_114 ?_
          exact retU_i (fun u (_ : Option Nat) => (wPU tc a0 g0 q0_0 (a1 0) q0_2 q0_3 q0_4 (a2 0) q0_6 q0_7 q0_8 (a3 0) q0_10 q0_13 ++ (wSt tc a1 g1 q1_18 q1_19 ++ (wHd tc a2 u.1 ++ (wSc tc a3 u.2 (a1 0) (a2 0)))))) none (Option.some.inj h) X hQ hP hS (Nat.le_of_ble_eq_true rfl) (Nat.le_of_ble_eq_true rfl) dX11_writer_115
        · have h := it_f hq2_3 h
          by_cases hq2_4 : x2 = 4
          · have h := it_t hq2_4 h
            refine lv_tableIn (tgt := 116) X.1 X.2.1 dX11_writer_6 (by rw [hq2_4]; decide) (by rw [hq2_4]; decide) (by rw [hq2_4]; rfl) (by decide) ?_
            refine lv_aload_n X.1 X.2.1 dX11_writer_116 rfl (lv_at hl 0 rfl) ?_
            refine lv_iload_n X.1 X.2.1 dX11_writer_117 rfl (lv_at hl 1 rfl) ?_
            obtain ⟨g2_7, hc_7, h⟩ := bd_el h
            refine call_Vs (ws := (wPU tc a0 g0 q0_0 (a1 0) q0_2 q0_3 q0_4 (a2 0) q0_6 q0_7 q0_8 (a3 0) q0_10 q0_13 ++ (wSt tc a1 g1 q1_18 q1_19 ++ (wHd tc a2 g2 ++ (wSc tc a3 g3 (a1 0) (a2 0)))))) (ws' := (wPU tc a0 g0 q0_0 (a1 0) q0_2 q0_3 q0_4 (a2 0) q0_6 q0_7 q0_8 (a3 0) q0_10 q0_13 ++ (wSt tc a1 g1 q1_18 q1_19 ++ (wHd tc a2 g2_7 ++ (wSc tc a3 g3 (a1 0) (a2 0)))))) [] (wSc tc a3 g3 (a1 0) (a2 0)) (As := [.int x1]) (rest := []) X (c_X11_handOf l dC dI sk sv tc a0 q0_0 q0_2 q0_3 q0_4 q0_6 q0_7 q0_8 (a3 0) q0_10 q0_13 a1 q1_18 q1_19 a2 g0 g1 g2 x1 hc_7) mw_5_43 mw_5_45 mp_1_7 mw_1_1 mw_5_46 dc_X11_handOf ⟨Nat.le_of_ble_eq_true rfl, Nat.le_of_ble_eq_true rfl⟩ rfl rfl ⟨Nat.le_of_ble_eq_true rfl, Nat.le_of_ble_eq_true rfl⟩ (by simp only [List.append_assoc, List.nil_append, List.append_nil]) (by simp only [List.append_assoc, List.nil_append, List.append_nil]) hP (hD _ _ _ _) hS 0 rfl rfl rfl hl.1 (Nat.le_of_ble_eq_true rfl) dX11_writer_118 (fun H locs hP hS => ?_)
            refine W.eq (g2 := F0 m 121 ls [.ref (a2 0)]) rfl ?_
            obtain ⟨r_8, hc_8, h⟩ := bd_el h
            refine call_Vsi (ws := (wPU tc a0 g0 q0_0 (a1 0) q0_2 q0_3 q0_4 (a2 0) q0_6 q0_7 q0_8 (a3 0) q0_10 q0_13 ++ (wSt tc a1 g1 q1_18 q1_19 ++ (wHd tc a2 g2_7 ++ (wSc tc a3 g3 (a1 0) (a2 0)))))) (ws' := (wPU tc a0 g0 q0_0 (a1 0) q0_2 q0_3 q0_4 (a2 0) q0_6 q0_7 q0_8 (a3 0) q0_10 q0_13 ++ (wSt tc a1 g1 q1_18 q1_19 ++ (wHd tc a2 g2_7 ++ (wSc tc a3 g3 (a1 0) (a2 0)))))) (wPU tc a0 g0 q0_0 (a1 0) q0_2 q0_3 q0_4 (a2 0) q0_6 q0_7 q0_8 (a3 0) q0_10 q0_13 ++ (wSt tc a1 g1 q1_18 q1_19)) (wSc tc a3 g3 (a1 0) (a2 0)) (As := []) (rest := []) X (c_X3_clean l dC dI sk sv tc a2 g2_7 hc_8) mw_5_47 mw_5_48 mw_5_49 mw_1_7 mw_5_50 dc_X3_clean ⟨Nat.le_of_ble_eq_true rfl, Nat.le_of_ble_eq_true rfl⟩ rfl rfl ⟨Nat.le_of_ble_eq_true rfl, Nat.le_of_ble_eq_true rfl⟩ (by simp only [List.append_assoc, List.nil_append, List.append_nil]) (by simp only [List.append_assoc, List.nil_append, List.append_nil]) hP (hD _ _ _ _) hS 0 rfl rfl rfl hl.1 (Nat.le_of_ble_eq_true rfl) dX11_writer_121 (fun H locs hP hS => ?_)
            exact retU_i (fun u (_ : Option Nat) => (wPU tc a0 g0 q0_0 (a1 0) q0_2 q0_3 q0_4 (a2 0) q0_6 q0_7 q0_8 (a3 0) q0_10 q0_13 ++ (wSt tc a1 g1 q1_18 q1_19 ++ (wHd tc a2 u.1 ++ (wSc tc a3 u.2 (a1 0) (a2 0)))))) none (Option.some.inj h) X hQ hP hS (Nat.le_of_ble_eq_true rfl) (Nat.le_of_ble_eq_true rfl) dX11_writer_124
          · have h := it_f hq2_4 h
            by_cases hq2_5 : x2 = 5
            · have h := it_t hq2_5 h
              refine lv_tableIn (tgt := 125) X.1 X.2.1 dX11_writer_6 (by rw [hq2_5]; decide) (by rw [hq2_5]; decide) (by rw [hq2_5]; rfl) (by decide) ?_
              refine lv_aload_n X.1 X.2.1 dX11_writer_125 rfl (lv_at hl 0 rfl) ?_
              refine lv_iload_n X.1 X.2.1 dX11_writer_126 rfl (lv_at hl 1 rfl) ?_
              obtain ⟨g2_9, hc_9, h⟩ := bd_el h
              refine call_Vs (ws := (wPU tc a0 g0 q0_0 (a1 0) q0_2 q0_3 q0_4 (a2 0) q0_6 q0_7 q0_8 (a3 0) q0_10 q0_13 ++ (wSt tc a1 g1 q1_18 q1_19 ++ (wHd tc a2 g2 ++ (wSc tc a3 g3 (a1 0) (a2 0)))))) (ws' := (wPU tc a0 g0 q0_0 (a1 0) q0_2 q0_3 q0_4 (a2 0) q0_6 q0_7 q0_8 (a3 0) q0_10 q0_13 ++ (wSt tc a1 g1 q1_18 q1_19 ++ (wHd tc a2 g2_9 ++ (wSc tc a3 g3 (a1 0) (a2 0)))))) [] (wSc tc a3 g3 (a1 0) (a2 0)) (As := [.int x1]) (rest := []) X (c_X11_handOf l dC dI sk sv tc a0 q0_0 q0_2 q0_3 q0_4 q0_6 q0_7 q0_8 (a3 0) q0_10 q0_13 a1 q1_18 q1_19 a2 g0 g1 g2 x1 hc_9) mw_5_43 mw_5_45 mp_1_7 mw_1_1 mw_5_46 dc_X11_handOf ⟨Nat.le_of_ble_eq_true rfl, Nat.le_of_ble_eq_true rfl⟩ rfl rfl ⟨Nat.le_of_ble_eq_true rfl, Nat.le_of_ble_eq_true rfl⟩ (by simp only [List.append_assoc, List.nil_append, List.append_nil]) (by simp only [List.append_assoc, List.nil_append, List.append_nil]) hP (hD _ _ _ _) hS 0 rfl rfl rfl hl.1 (Nat.le_of_ble_eq_true rfl) dX11_writer_127 (fun H locs hP hS => ?_)
              refine W.eq (g2 := F0 m 130 ls [.ref (a2 0)]) rfl ?_
              obtain ⟨r_10, hc_10, h⟩ := bd_el h
              refine call_Vsi (ws := (wPU tc a0 g0 q0_0 (a1 0) q0_2 q0_3 q0_4 (a2 0) q0_6 q0_7 q0_8 (a3 0) q0_10 q0_13 ++ (wSt tc a1 g1 q1_18 q1_19 ++ (wHd tc a2 g2_9 ++ (wSc tc a3 g3 (a1 0) (a2 0)))))) (ws' := (wPU tc a0 g0 q0_0 (a1 0) q0_2 q0_3 q0_4 (a2 0) q0_6 q0_7 q0_8 (a3 0) q0_10 q0_13 ++ (wSt tc a1 g1 q1_18 q1_19 ++ (wHd tc a2 g2_9 ++ (wSc tc a3 g3 (a1 0) (a2 0)))))) (wPU tc a0 g0 q0_0 (a1 0) q0_2 q0_3 q0_4 (a2 0) q0_6 q0_7 q0_8 (a3 0) q0_10 q0_13 ++ (wSt tc a1 g1 q1_18 q1_19)) (wSc tc a3 g3 (a1 0) (a2 0)) (As := []) (rest := []) X (c_X3_lost l dC dI sk sv tc a2 g2_9 hc_10) mw_5_51 mw_5_52 mw_5_53 mw_1_7 mw_5_54 dc_X3_lost ⟨Nat.le_of_ble_eq_true rfl, Nat.le_of_ble_eq_true rfl⟩ rfl rfl ⟨Nat.le_of_ble_eq_true rfl, Nat.le_of_ble_eq_true rfl⟩ (by simp only [List.append_assoc, List.nil_append, List.append_nil]) (by simp only [List.append_assoc, List.nil_append, List.append_nil]) hP (hD _ _ _ _) hS 0 rfl rfl rfl hl.1 (Nat.le_of_ble_eq_true rfl) dX11_writer_130 (fun H locs hP hS => ?_)
              exact retU_i (fun u (_ : Option Nat) => (wPU tc a0 g0 q0_0 (a1 0) q0_2 q0_3 q0_4 (a2 0) q0_6 q0_7 q0_8 (a3 0) q0_10 q0_13 ++ (wSt tc a1 g1 q1_18 q1_19 ++ (wHd tc a2 u.1 ++ (wSc tc a3 u.2 (a1 0) (a2 0)))))) none (Option.some.inj h) X hQ hP hS (Nat.le_of_ble_eq_true rfl) (Nat.le_of_ble_eq_true rfl) dX11_writer_133
            · have h := it_f hq2_5 h
              by_cases hq2_6 : x2 = 6
              · have h := it_t hq2_6 h
                refine lv_tableIn (tgt := 134) X.1 X.2.1 dX11_writer_6 (by rw [hq2_6]; decide) (by rw [hq2_6]; decide) (by rw [hq2_6]; rfl) (by decide) ?_
                refine lv_aload_n X.1 X.2.1 dX11_writer_134 rfl (lv_at hl 0 rfl) ?_
                refine lv_iload_n X.1 X.2.1 dX11_writer_135 rfl (lv_at hl 1 rfl) ?_
                obtain ⟨g2_11, hc_11, h⟩ := bd_el h
                refine call_Vs (ws := (wPU tc a0 g0 q0_0 (a1 0) q0_2 q0_3 q0_4 (a2 0) q0_6 q0_7 q0_8 (a3 0) q0_10 q0_13 ++ (wSt tc a1 g1 q1_18 q1_19 ++ (wHd tc a2 g2 ++ (wSc tc a3 g3 (a1 0) (a2 0)))))) (ws' := (wPU tc a0 g0 q0_0 (a1 0) q0_2 q0_3 q0_4 (a2 0) q0_6 q0_7 q0_8 (a3 0) q0_10 q0_13 ++ (wSt tc a1 g1 q1_18 q1_19 ++ (wHd tc a2 g2_11 ++ (wSc tc a3 g3 (a1 0) (a2 0)))))) [] (wSc tc a3 g3 (a1 0) (a2 0)) (As := [.int x1]) (rest := []) X (c_X11_handOf l dC dI sk sv tc a0 q0_0 q0_2 q0_3 q0_4 q0_6 q0_7 q0_8 (a3 0) q0_10 q0_13 a1 q1_18 q1_19 a2 g0 g1 g2 x1 hc_11) mw_5_43 mw_5_45 mp_1_7 mw_1_1 mw_5_46 dc_X11_handOf ⟨Nat.le_of_ble_eq_true rfl, Nat.le_of_ble_eq_true rfl⟩ rfl rfl ⟨Nat.le_of_ble_eq_true rfl, Nat.le_of_ble_eq_true rfl⟩ (by simp only [List.append_assoc, List.nil_append, List.append_nil]) (by simp only [List.append_assoc, List.nil_append, List.append_nil]) hP (hD _ _ _ _) hS 0 rfl rfl rfl hl.1 (Nat.le_of_ble_eq_true rfl) dX11_writer_136 (fun H locs hP hS => ?_)
                refine W.eq (g2 := F0 m 139 ls [.ref (a2 0)]) rfl ?_
                obtain ⟨r_12, hc_12, h⟩ := bd_el h
                refine call_Vsi (ws := (wPU tc a0 g0 q0_0 (a1 0) q0_2 q0_3 q0_4 (a2 0) q0_6 q0_7 q0_8 (a3 0) q0_10 q0_13 ++ (wSt tc a1 g1 q1_18 q1_19 ++ (wHd tc a2 g2_11 ++ (wSc tc a3 g3 (a1 0) (a2 0)))))) (ws' := (wPU tc a0 g0 q0_0 (a1 0) q0_2 q0_3 q0_4 (a2 0) q0_6 q0_7 q0_8 (a3 0) q0_10 q0_13 ++ (wSt tc a1 g1 q1_18 q1_19 ++ (wHd tc a2 g2_11 ++ (wSc tc a3 g3 (a1 0) (a2 0)))))) (wPU tc a0 g0 q0_0 (a1 0) q0_2 q0_3 q0_4 (a2 0) q0_6 q0_7 q0_8 (a3 0) q0_10 q0_13 ++ (wSt tc a1 g1 q1_18 q1_19)) (wSc tc a3 g3 (a1 0) (a2 0)) (As := []) (rest := []) X (c_X3_saved l dC dI sk sv tc a2 g2_11 hc_12) mw_5_59 mw_5_60 mw_5_61 mw_1_7 mw_5_62 dc_X3_saved ⟨Nat.le_of_ble_eq_true rfl, Nat.le_of_ble_eq_true rfl⟩ rfl rfl ⟨Nat.le_of_ble_eq_true rfl, Nat.le_of_ble_eq_true rfl⟩ (by simp only [List.append_assoc, List.nil_append, List.append_nil]) (by simp only [List.append_assoc, List.nil_append, List.append_nil]) hP (hD _ _ _ _) hS 0 rfl rfl rfl hl.1 (Nat.le_of_ble_eq_true rfl) dX11_writer_139 (fun H locs hP hS => ?_)
                exact retU_i (fun u (_ : Option Nat) => (wPU tc a0 g0 q0_0 (a1 0) q0_2 q0_3 q0_4 (a2 0) q0_6 q0_7 q0_8 (a3 0) q0_10 q0_13 ++ (wSt tc a1 g1 q1_18 q1_19 ++ (wHd tc a2 u.1 ++ (wSc tc a3 u.2 (a1 0) (a2 0)))))) none (Option.some.inj h) X hQ hP hS (Nat.le_of_ble_eq_true rfl) (Nat.le_of_ble_eq_true rfl) dX11_writer_142
              · have h := it_f hq2_6 h
                by_cases hq2_7 : x2 = 7
                · have h := it_t hq2_7 h
                  refine lv_tableIn (tgt := 143) X.1 X.2.1 dX11_writer_6 (by rw [hq2_7]; decide) (by rw [hq2_7]; decide) (by rw [hq2_7]; rfl) (by decide) ?_
                  refine lv_aload_n X.1 X.2.1 dX11_writer_143 rfl (lv_at hl 0 rfl) ?_
                  refine r_get (C := RX11) (T := TX11) (N := 15) (ci := 11) (v := .ref (a3 0)) X iw11 hP 0 rfl rfl 9 rfl mw_2_152 rfl dX11_writer_144 ?_
                  refine lv_iload_n X.1 X.2.1 dX11_writer_147 rfl (lv_at hl 1 rfl) ?_
                  obtain ⟨r_13, g3_13, g2_13, hc_13, h⟩ := bd3_el h
                  refine call_Q (ws := (wPU tc a0 g0 q0_0 (a1 0) q0_2 q0_3 q0_4 (a2 0) q0_6 q0_7 q0_8 (a3 0) q0_10 q0_13 ++ (wSt tc a1 g1 q1_18 q1_19 ++ (wHd tc a2 g2 ++ (wSc tc a3 g3 (a1 0) (a2 0)))))) (ws' := (wPU tc a0 g0 q0_0 (a1 0) q0_2 q0_3 q0_4 (a2 0) q0_6 q0_7 q0_8 (a3 0) q0_10 q0_13 ++ (wSt tc a1 g1 q1_18 q1_19 ++ (wHd tc a2 g2_13 ++ (wSc tc a3 g3_13 (a1 0) (a2 0)))))) (wr := (wPU tc a0 g0 q0_0 (a1 0) q0_2 q0_3 q0_4 (a2 0) q0_6 q0_7 q0_8 (a3 0) q0_10 q0_13)) [16, 17, 18, 19, 11, 12, 13, 14, 15, 1, 2, 3, 4, 5, 6, 7, 8, 9, 10] [0] [0, 10, 11, 12, 13, 14, 15, 16, 17, 18, 19, 5, 6, 7, 8, 9, 1, 2, 3, 4] (As := [.int x1]) (rest := []) X (c_X8_doneOf l dC dI sk sv tc a3 a2 a1 q1_18 q1_19 g3 g2 g1 x1 hc_13) mw_5_63 mw_5_64 mw_5_65 mw_1_11 mw_5_66 dc_X8_doneOf ⟨Nat.le_of_ble_eq_true rfl, Nat.le_of_ble_eq_true rfl⟩ rfl rfl ⟨Nat.le_of_ble_eq_true rfl, Nat.le_of_ble_eq_true rfl⟩ ⟨rfl, rfl, rfl, rfl, by decide, rfl, rfl⟩ hP (hD _ _ _ _) hS 0 rfl rfl rfl hl.1 (Nat.le_of_ble_eq_true rfl) dX11_writer_148 (fun H locs hP hS => ?_)
                  refine W.eq (g2 := F0 m 151 ls [.int r_13]) rfl ?_
                  exact retU_i (fun u (_ : Option Nat) => (wPU tc a0 g0 q0_0 (a1 0) q0_2 q0_3 q0_4 (a2 0) q0_6 q0_7 q0_8 (a3 0) q0_10 q0_13 ++ (wSt tc a1 g1 q1_18 q1_19 ++ (wHd tc a2 u.1 ++ (wSc tc a3 u.2 (a1 0) (a2 0)))))) none (Option.some.inj h) X hQ hP hS (Nat.le_of_ble_eq_true rfl) (Nat.le_of_ble_eq_true rfl) dX11_writer_151
                · have h := it_f hq2_7 h
                  by_cases hq2_8 : x2 = 8
                  · have h := it_t hq2_8 h
                    refine lv_tableIn (tgt := 152) X.1 X.2.1 dX11_writer_6 (by rw [hq2_8]; decide) (by rw [hq2_8]; decide) (by rw [hq2_8]; rfl) (by decide) ?_
                    refine lv_aload_n X.1 X.2.1 dX11_writer_152 rfl (lv_at hl 0 rfl) ?_
                    refine r_get (C := RX11) (T := TX11) (N := 15) (ci := 11) (v := .ref (a3 0)) X iw11 hP 0 rfl rfl 9 rfl mw_2_152 rfl dX11_writer_153 ?_
                    refine lv_iload_n X.1 X.2.1 dX11_writer_156 rfl (lv_at hl 1 rfl) ?_
                    refine lv_aload_n X.1 X.2.1 dX11_writer_157 rfl (lv_at hl 0 rfl) ?_
                    refine r_get (C := RX11) (T := TX11) (N := 15) (ci := 11) (v := .ref (a1 0)) X iw11 hP 0 rfl rfl 1 rfl mw_2_144 rfl dX11_writer_158 ?_
                    refine r_get (C := RX9) (T := TX9) (N := 20) (ci := 9) (v := .int (g1 13 0)) X iw9 hP 1 rfl rfl 13 rfl mw_1_175 rfl dX11_writer_161 ?_
                    obtain ⟨r_14, g3_14, g2_14, hc_14, h⟩ := bd3_el h
                    refine call_Q (ws := (wPU tc a0 g0 q0_0 (a1 0) q0_2 q0_3 q0_4 (a2 0) q0_6 q0_7 q0_8 (a3 0) q0_10 q0_13 ++ (wSt tc a1 g1 q1_18 q1_19 ++ (wHd tc a2 g2 ++ (wSc tc a3 g3 (a1 0) (a2 0)))))) (ws' := (wPU tc a0 g0 q0_0 (a1 0) q0_2 q0_3 q0_4 (a2 0) q0_6 q0_7 q0_8 (a3 0) q0_10 q0_13 ++ (wSt tc a1 g1 q1_18 q1_19 ++ (wHd tc a2 g2_14 ++ (wSc tc a3 g3_14 (a1 0) (a2 0)))))) (wr := (wPU tc a0 g0 q0_0 (a1 0) q0_2 q0_3 q0_4 (a2 0) q0_6 q0_7 q0_8 (a3 0) q0_10 q0_13)) [16, 17, 18, 19, 11, 12, 13, 14, 15, 1, 2, 3, 4, 5, 6, 7, 8, 9, 10] [0] [0, 10, 11, 12, 13, 14, 15, 16, 17, 18, 19, 5, 6, 7, 8, 9, 1, 2, 3, 4] (As := [.int x1, .int (g1 13 0)]) (rest := []) X (c_X8_lagOf l dC dI sk sv tc a3 a2 a1 q1_18 q1_19 g3 g2 g1 x1 (g1 13 0) hc_14) mw_3_15 mw_3_16 mw_3_17 mw_1_11 mw_3_18 dc_X8_lagOf ⟨Nat.le_of_ble_eq_true rfl, Nat.le_of_ble_eq_true rfl⟩ rfl rfl ⟨Nat.le_of_ble_eq_true rfl, Nat.le_of_ble_eq_true rfl⟩ ⟨rfl, rfl, rfl, rfl, by decide, rfl, rfl⟩ hP (hD _ _ _ _) hS 0 rfl rfl rfl hl.1 (Nat.le_of_ble_eq_true rfl) dX11_writer_164 (fun H locs hP hS => ?_)
                    refine W.eq (g2 := F0 m 167 ls [.int r_14]) rfl ?_
                    exact retU_i (fun u (_ : Option Nat) => (wPU tc a0 g0 q0_0 (a1 0) q0_2 q0_3 q0_4 (a2 0) q0_6 q0_7 q0_8 (a3 0) q0_10 q0_13 ++ (wSt tc a1 g1 q1_18 q1_19 ++ (wHd tc a2 u.1 ++ (wSc tc a3 u.2 (a1 0) (a2 0)))))) none (Option.some.inj h) X hQ hP hS (Nat.le_of_ble_eq_true rfl) (Nat.le_of_ble_eq_true rfl) dX11_writer_167
                  · have h := it_f hq2_8 h
                    by_cases hq2_9 : x2 = 9
                    · have h := it_t hq2_9 h
                      refine lv_tableIn (tgt := 168) X.1 X.2.1 dX11_writer_6 (by rw [hq2_9]; decide) (by rw [hq2_9]; decide) (by rw [hq2_9]; rfl) (by decide) ?_
                      refine lv_aload_n X.1 X.2.1 dX11_writer_168 rfl (lv_at hl 0 rfl) ?_
                      refine r_get (C := RX11) (T := TX11) (N := 15) (ci := 11) (v := .ref (a3 0)) X iw11 hP 0 rfl rfl 9 rfl mw_2_152 rfl dX11_writer_169 ?_
                      refine lv_iload_n X.1 X.2.1 dX11_writer_172 rfl (lv_at hl 1 rfl) ?_
                      obtain ⟨r_15, g3_15, g2_15, hc_15, h⟩ := bd3_el h
                      refine call_Q (ws := (wPU tc a0 g0 q0_0 (a1 0) q0_2 q0_3 q0_4 (a2 0) q0_6 q0_7 q0_8 (a3 0) q0_10 q0_13 ++ (wSt tc a1 g1 q1_18 q1_19 ++ (wHd tc a2 g2 ++ (wSc tc a3 g3 (a1 0) (a2 0)))))) (ws' := (wPU tc a0 g0 q0_0 (a1 0) q0_2 q0_3 q0_4 (a2 0) q0_6 q0_7 q0_8 (a3 0) q0_10 q0_13 ++ (wSt tc a1 g1 q1_18 q1_19 ++ (wHd tc a2 g2_15 ++ (wSc tc a3 g3_15 (a1 0) (a2 0)))))) (wr := (wPU tc a0 g0 q0_0 (a1 0) q0_2 q0_3 q0_4 (a2 0) q0_6 q0_7 q0_8 (a3 0) q0_10 q0_13)) [16, 17, 18, 19, 11, 12, 13, 14, 15, 1, 2, 3, 4, 5, 6, 7, 8, 9, 10] [0] [0, 10, 11, 12, 13, 14, 15, 16, 17, 18, 19, 5, 6, 7, 8, 9, 1, 2, 3, 4] (As := [.int x1]) (rest := []) X (c_X8_edgeOf l dC dI sk sv tc a3 a2 a1 q1_18 q1_19 g3 g2 g1 x1 hc_15) mw_5_68 mw_5_69 mw_5_70 mw_1_11 mw_5_71 dc_X8_edgeOf ⟨Nat.le_of_ble_eq_true rfl, Nat.le_of_ble_eq_true rfl⟩ rfl rfl ⟨Nat.le_of_ble_eq_true rfl, Nat.le_of_ble_eq_true rfl⟩ ⟨rfl, rfl, rfl, rfl, by decide, rfl, rfl⟩ hP (hD _ _ _ _) hS 0 rfl rfl rfl hl.1 (Nat.le_of_ble_eq_true rfl) dX11_writer_173 (fun H locs hP hS => ?_)
                      refine W.eq (g2 := F0 m 176 ls [.int r_15]) rfl ?_
                      exact retU_i (fun u (_ : Option Nat) => (wPU tc a0 g0 q0_0 (a1 0) q0_2 q0_3 q0_4 (a2 0) q0_6 q0_7 q0_8 (a3 0) q0_10 q0_13 ++ (wSt tc a1 g1 q1_18 q1_19 ++ (wHd tc a2 u.1 ++ (wSc tc a3 u.2 (a1 0) (a2 0)))))) none (Option.some.inj h) X hQ hP hS (Nat.le_of_ble_eq_true rfl) (Nat.le_of_ble_eq_true rfl) dX11_writer_176
                    · have h := it_f hq2_9 h
                      by_cases hq2_10 : x2 = 10
                      · have h := it_t hq2_10 h
                        refine lv_tableIn (tgt := 177) X.1 X.2.1 dX11_writer_6 (by rw [hq2_10]; decide) (by rw [hq2_10]; decide) (by rw [hq2_10]; rfl) (by decide) ?_
                        refine lv_aload_n X.1 X.2.1 dX11_writer_177 rfl (lv_at hl 0 rfl) ?_
                        refine r_get (C := RX11) (T := TX11) (N := 15) (ci := 11) (v := .ref (a3 0)) X iw11 hP 0 rfl rfl 9 rfl mw_2_152 rfl dX11_writer_178 ?_
                        refine lv_iload_n X.1 X.2.1 dX11_writer_181 rfl (lv_at hl 1 rfl) ?_
                        obtain ⟨r_16, hc_16, h⟩ := bd_el h
                        refine call_Q (ws := (wPU tc a0 g0 q0_0 (a1 0) q0_2 q0_3 q0_4 (a2 0) q0_6 q0_7 q0_8 (a3 0) q0_10 q0_13 ++ (wSt tc a1 g1 q1_18 q1_19 ++ (wHd tc a2 g2 ++ (wSc tc a3 g3 (a1 0) (a2 0)))))) (ws' := (wPU tc a0 g0 q0_0 (a1 0) q0_2 q0_3 q0_4 (a2 0) q0_6 q0_7 q0_8 (a3 0) q0_10 q0_13 ++ (wSt tc a1 g1 q1_18 q1_19 ++ (wHd tc a2 g2 ++ (wSc tc a3 g3 (a1 0) (a2 0)))))) (wr := (wPU tc a0 g0 q0_0 (a1 0) q0_2 q0_3 q0_4 (a2 0) q0_6 q0_7 q0_8 (a3 0) q0_10 q0_13)) [16, 17, 18, 19, 11, 12, 13, 14, 15, 1, 2, 3, 4, 5, 6, 7, 8, 9, 10] [0] [0, 10, 11, 12, 13, 14, 15, 16, 17, 18, 19, 5, 6, 7, 8, 9, 1, 2, 3, 4] (As := [.int x1]) (rest := []) X (c_X8_runOf l dC dI sk sv tc a3 a2 a1 q1_18 q1_19 g3 g2 g1 x1 hc_16) mw_5_72 mw_5_73 mw_5_74 mw_1_11 mw_5_75 dc_X8_runOf ⟨Nat.le_of_ble_eq_true rfl, Nat.le_of_ble_eq_true rfl⟩ rfl rfl ⟨Nat.le_of_ble_eq_true rfl, Nat.le_of_ble_eq_true rfl⟩ ⟨rfl, rfl, rfl, rfl, by decide, rfl, rfl⟩ hP (hD _ _ _ _) hS 0 rfl rfl rfl hl.1 (Nat.le_of_ble_eq_true rfl) dX11_writer_182 (fun H locs hP hS => ?_)
                        refine W.eq (g2 := F0 m 185 ls [.int r_16]) rfl ?_
                        exact retU_i (fun u (_ : Option Nat) => (wPU tc a0 g0 q0_0 (a1 0) q0_2 q0_3 q0_4 (a2 0) q0_6 q0_7 q0_8 (a3 0) q0_10 q0_13 ++ (wSt tc a1 g1 q1_18 q1_19 ++ (wHd tc a2 u.1 ++ (wSc tc a3 u.2 (a1 0) (a2 0)))))) none (Option.some.inj h) X hQ hP hS (Nat.le_of_ble_eq_true rfl) (Nat.le_of_ble_eq_true rfl) dX11_writer_185
                      · have h := it_f hq2_10 h
                        by_cases hq2_11 : x2 = 11
                        · have h := it_t hq2_11 h
                          refine lv_tableIn (tgt := 186) X.1 X.2.1 dX11_writer_6 (by rw [hq2_11]; decide) (by rw [hq2_11]; decide) (by rw [hq2_11]; rfl) (by decide) ?_
                          refine lv_aload_n X.1 X.2.1 dX11_writer_186 rfl (lv_at hl 0 rfl) ?_
                          refine r_get (C := RX11) (T := TX11) (N := 15) (ci := 11) (v := .ref (a3 0)) X iw11 hP 0 rfl rfl 9 rfl mw_2_152 rfl dX11_writer_187 ?_
                          refine lv_iload_n X.1 X.2.1 dX11_writer_190 rfl (lv_at hl 1 rfl) ?_
                          obtain ⟨r_17, hc_17, h⟩ := bd_el h
                          refine call_Q (ws := (wPU tc a0 g0 q0_0 (a1 0) q0_2 q0_3 q0_4 (a2 0) q0_6 q0_7 q0_8 (a3 0) q0_10 q0_13 ++ (wSt tc a1 g1 q1_18 q1_19 ++ (wHd tc a2 g2 ++ (wSc tc a3 g3 (a1 0) (a2 0)))))) (ws' := (wPU tc a0 g0 q0_0 (a1 0) q0_2 q0_3 q0_4 (a2 0) q0_6 q0_7 q0_8 (a3 0) q0_10 q0_13 ++ (wSt tc a1 g1 q1_18 q1_19 ++ (wHd tc a2 g2 ++ (wSc tc a3 g3 (a1 0) (a2 0)))))) (wr := (wPU tc a0 g0 q0_0 (a1 0) q0_2 q0_3 q0_4 (a2 0) q0_6 q0_7 q0_8 (a3 0) q0_10 q0_13)) [16, 17, 18, 19, 11, 12, 13, 14, 15, 1, 2, 3, 4, 5, 6, 7, 8, 9, 10] [0] [0, 10, 11, 12, 13, 14, 15, 16, 17, 18, 19, 5, 6, 7, 8, 9, 1, 2, 3, 4] (As := [.int x1]) (rest := []) X (c_X8_gapsOf l dC dI sk sv tc a3 a2 a1 q1_18 q1_19 g3 g2 g1 x1 hc_17) mw_5_80 mw_5_81 mw_5_82 mw_1_11 mw_5_83 dc_X8_gapsOf ⟨Nat.le_of_ble_eq_true rfl, Nat.le_of_ble_eq_true rfl⟩ rfl rfl ⟨Nat.le_of_ble_eq_true rfl, Nat.le_of_ble_eq_true rfl⟩ ⟨rfl, rfl, rfl, rfl, by decide, rfl, rfl⟩ hP (hD _ _ _ _) hS 0 rfl rfl rfl hl.1 (Nat.le_of_ble_eq_true rfl) dX11_writer_191 (fun H locs hP hS => ?_)
                          refine W.eq (g2 := F0 m 194 ls [.int r_17]) rfl ?_
                          exact retU_i (fun u (_ : Option Nat) => (wPU tc a0 g0 q0_0 (a1 0) q0_2 q0_3 q0_4 (a2 0) q0_6 q0_7 q0_8 (a3 0) q0_10 q0_13 ++ (wSt tc a1 g1 q1_18 q1_19 ++ (wHd tc a2 u.1 ++ (wSc tc a3 u.2 (a1 0) (a2 0)))))) none (Option.some.inj h) X hQ hP hS (Nat.le_of_ble_eq_true rfl) (Nat.le_of_ble_eq_true rfl) dX11_writer_194
                        · have h := it_f hq2_11 h
                          by_cases hq2_12 : x2 = 12
                          · have h := it_t hq2_12 h
                            refine lv_tableIn (tgt := 195) X.1 X.2.1 dX11_writer_6 (by rw [hq2_12]; decide) (by rw [hq2_12]; decide) (by rw [hq2_12]; rfl) (by decide) ?_
                            refine lv_aload_n X.1 X.2.1 dX11_writer_195 rfl (lv_at hl 0 rfl) ?_
                            refine r_get (C := RX11) (T := TX11) (N := 15) (ci := 11) (v := .ref (a3 0)) X iw11 hP 0 rfl rfl 9 rfl mw_2_152 rfl dX11_writer_196 ?_
                            refine lv_iload_n X.1 X.2.1 dX11_writer_199 rfl (lv_at hl 1 rfl) ?_
                            obtain ⟨r_18, g2_18, hc_18, h⟩ := bd2_el h
                            refine call_Q (ws := (wPU tc a0 g0 q0_0 (a1 0) q0_2 q0_3 q0_4 (a2 0) q0_6 q0_7 q0_8 (a3 0) q0_10 q0_13 ++ (wSt tc a1 g1 q1_18 q1_19 ++ (wHd tc a2 g2 ++ (wSc tc a3 g3 (a1 0) (a2 0)))))) (ws' := (wPU tc a0 g0 q0_0 (a1 0) q0_2 q0_3 q0_4 (a2 0) q0_6 q0_7 q0_8 (a3 0) q0_10 q0_13 ++ (wSt tc a1 g1 q1_18 q1_19 ++ (wHd tc a2 g2_18 ++ (wSc tc a3 g3 (a1 0) (a2 0)))))) (wr := (wPU tc a0 g0 q0_0 (a1 0) q0_2 q0_3 q0_4 (a2 0) q0_6 q0_7 q0_8 (a3 0) q0_10 q0_13)) [16, 17, 18, 19, 11, 12, 13, 14, 15, 1, 2, 3, 4, 5, 6, 7, 8, 9, 10] [0] [0, 10, 11, 12, 13, 14, 15, 16, 17, 18, 19, 5, 6, 7, 8, 9, 1, 2, 3, 4] (As := [.int x1]) (rest := []) X (c_X8_trueOf l dC dI sk sv tc a3 a2 a1 q1_18 q1_19 g3 g2 g1 x1 hc_18) mw_5_89 mw_5_90 mw_5_91 mw_1_11 mw_5_92 dc_X8_trueOf ⟨Nat.le_of_ble_eq_true rfl, Nat.le_of_ble_eq_true rfl⟩ rfl rfl ⟨Nat.le_of_ble_eq_true rfl, Nat.le_of_ble_eq_true rfl⟩ ⟨rfl, rfl, rfl, rfl, by decide, rfl, rfl⟩ hP (hD _ _ _ _) hS 0 rfl rfl rfl hl.1 (Nat.le_of_ble_eq_true rfl) dX11_writer_200 (fun H locs hP hS => ?_)
                            refine W.eq (g2 := F0 m 203 ls [.int r_18]) rfl ?_
                            exact retU_i (fun u (_ : Option Nat) => (wPU tc a0 g0 q0_0 (a1 0) q0_2 q0_3 q0_4 (a2 0) q0_6 q0_7 q0_8 (a3 0) q0_10 q0_13 ++ (wSt tc a1 g1 q1_18 q1_19 ++ (wHd tc a2 u.1 ++ (wSc tc a3 u.2 (a1 0) (a2 0)))))) none (Option.some.inj h) X hQ hP hS (Nat.le_of_ble_eq_true rfl) (Nat.le_of_ble_eq_true rfl) dX11_writer_203
                          · have h := it_f hq2_12 h
                            by_cases hq2_13 : x2 = 13
                            · have h := it_t hq2_13 h
                              refine lv_tableIn (tgt := 204) X.1 X.2.1 dX11_writer_6 (by rw [hq2_13]; decide) (by rw [hq2_13]; decide) (by rw [hq2_13]; rfl) (by decide) ?_
                              refine lv_aload_n X.1 X.2.1 dX11_writer_204 rfl (lv_at hl 0 rfl) ?_
                              refine r_get (C := RX11) (T := TX11) (N := 15) (ci := 11) (v := .ref (a3 0)) X iw11 hP 0 rfl rfl 9 rfl mw_2_152 rfl dX11_writer_205 ?_
                              refine lv_iload_n X.1 X.2.1 dX11_writer_208 rfl (lv_at hl 1 rfl) ?_
                              obtain ⟨r_19, hc_19, h⟩ := bd_el h
                              refine call_Q (ws := (wPU tc a0 g0 q0_0 (a1 0) q0_2 q0_3 q0_4 (a2 0) q0_6 q0_7 q0_8 (a3 0) q0_10 q0_13 ++ (wSt tc a1 g1 q1_18 q1_19 ++ (wHd tc a2 g2 ++ (wSc tc a3 g3 (a1 0) (a2 0)))))) (ws' := (wPU tc a0 g0 q0_0 (a1 0) q0_2 q0_3 q0_4 (a2 0) q0_6 q0_7 q0_8 (a3 0) q0_10 q0_13 ++ (wSt tc a1 g1 q1_18 q1_19 ++ (wHd tc a2 g2 ++ (wSc tc a3 g3 (a1 0) (a2 0)))))) (wr := (wPU tc a0 g0 q0_0 (a1 0) q0_2 q0_3 q0_4 (a2 0) q0_6 q0_7 q0_8 (a3 0) q0_10 q0_13)) [16, 17, 18, 19, 11, 12, 13, 14, 15, 1, 2, 3, 4, 5, 6, 7, 8, 9, 10] [0] [0, 10, 11, 12, 13, 14, 15, 16, 17, 18, 19, 5, 6, 7, 8, 9, 1, 2, 3, 4] (As := [.int x1]) (rest := []) X (c_X8_shareOf l dC dI sk sv tc a3 a2 a1 q1_18 q1_19 g3 g2 g1 x1 hc_19) mw_5_94 mw_5_95 mw_5_96 mw_1_11 mw_5_97 dc_X8_shareOf ⟨Nat.le_of_ble_eq_true rfl, Nat.le_of_ble_eq_true rfl⟩ rfl rfl ⟨Nat.le_of_ble_eq_true rfl, Nat.le_of_ble_eq_true rfl⟩ ⟨rfl, rfl, rfl, rfl, by decide, rfl, rfl⟩ hP (hD _ _ _ _) hS 0 rfl rfl rfl hl.1 (Nat.le_of_ble_eq_true rfl) dX11_writer_209 (fun H locs hP hS => ?_)
                              refine W.eq (g2 := F0 m 212 ls [.int r_19]) rfl ?_
                              exact retU_i (fun u (_ : Option Nat) => (wPU tc a0 g0 q0_0 (a1 0) q0_2 q0_3 q0_4 (a2 0) q0_6 q0_7 q0_8 (a3 0) q0_10 q0_13 ++ (wSt tc a1 g1 q1_18 q1_19 ++ (wHd tc a2 u.1 ++ (wSc tc a3 u.2 (a1 0) (a2 0)))))) none (Option.some.inj h) X hQ hP hS (Nat.le_of_ble_eq_true rfl) (Nat.le_of_ble_eq_true rfl) dX11_writer_212
                            · have h := it_f hq2_13 h
                              refine lv_tableOut (tgt := 213) X.1 X.2.1 dX11_writer_6 (sw_out x2 [0, 1, 2, 3, 4, 5, 6, 7, 8, 9, 10, 11, 12, 13] 14 (by decide) (by decide) (by simp only [List.mem_cons, List.not_mem_nil, or_false, forall_eq_or_imp, forall_eq]; exact ⟨hq2_0, hq2_1, hq2_2, hq2_3, hq2_4, hq2_5, hq2_6, hq2_7, hq2_8, hq2_9, hq2_10, hq2_11, hq2_12, hq2_13⟩)) (by decide) ?_
                              exact thr_N 2 (text := "no such thing of a writer") (ti := 26) none (oUi (fun u (_ : Option Nat) => (wPU tc a0 g0 q0_0 (a1 0) q0_2 q0_3 q0_4 (a2 0) q0_6 q0_7 q0_8 (a3 0) q0_10 q0_13 ++ (wSt tc a1 g1 q1_18 q1_19 ++ (wHd tc a2 u.1 ++ (wSc tc a3 u.2 (a1 0) (a2 0)))))) (Option.some.inj h)) X hT hst at_163 mw_5_7 mw_1_27 (List.mem_of_getElem? (i := 32) rfl) hQ hP hS hl.1 dX11_writer_213 dX11_writer_216 (Or.inl ⟨rfl, dX11_writer_217⟩) dX11_writer_219 dX11_writer_222 (Nat.le_of_ble_eq_true rfl) (Nat.le_of_ble_eq_true rfl) (Nat.le_of_ble_eq_true rfl) (Nat.le_of_ble_eq_true rfl) (Nat.le_of_ble_eq_true rfl) (Nat.le_of_ble_eq_true rfl)

def f_X11_speech (g0 : Pic) (g1 : Pic) (x1 : Int32) : Option (Int32) := jn (fun (s0_J28 : Int32) => some s0_J28) (fun J28 => jn (fun (_ : Unit) => J28 (-1)) (fun J15 => (if x1 < 0 then J15 () else (if x1 < (g1 4 0) then gdi x1 20 (J28 (g1 5 (x1.toNatClampNeg))) else J15 ()))))
abbrev rm_X11_speech : Room := { frames := 0, cells := 0, slots := 0, locals := 0 }
set_option maxHeartbeats 4000000 in
set_option maxRecDepth 100000 in
theorem c_X11_speech (l : Launch) (dC : Nat → ClassId) (dI : Nat → Nat → Nat) (sk sv : Nat → Nat) (tc : Nat → ClassId) (a0 : Nat → Nat) (q0_0 : Nat) (q0_2 : Nat) (q0_3 : Nat) (q0_4 : Nat) (q0_5 : Nat) (q0_6 : Nat) (q0_7 : Nat) (q0_8 : Nat) (q0_9 : Nat) (q0_10 : Nat) (q0_13 : Option Nat) (a1 : Nat → Nat) (q1_18 : Option Nat) (q1_19 : Nat) (g0 : Pic) (g1 : Pic) (x1 : Int32) {r0 : Int32} (h : f_X11_speech g0 g1 x1 = some r0) : CT l (dC, dI) sk sv (TY tc) yX11_speech cX11_speech 2 (some .int) rm_X11_speech [.ref (a0 0), .int x1] (wPU tc a0 g0 q0_0 (a1 0) q0_2 q0_3 q0_4 q0_5 q0_6 q0_7 q0_8 q0_9 q0_10 q0_13 ++ (wSt tc a1 g1 q1_18 q1_19)) (some (.int r0)) (wPU tc a0 g0 q0_0 (a1 0) q0_2 q0_3 q0_4 q0_5 q0_6 q0_7 q0_8 q0_9 q0_10 q0_13 ++ (wSt tc a1 g1 q1_18 q1_19)) := by
  refine ofCT (by decide) (Nat.le_of_ble_eq_true rfl) ?_
  intro pr e s m args below meth c A Q ls H locs X hQ hD0 hP hS hl
  have hD : ∀ z0 z1, va_D A (wPU tc a0 z0 q0_0 (a1 0) q0_2 q0_3 q0_4 q0_5 q0_6 q0_7 q0_8 q0_9 q0_10 q0_13 ++ (wSt tc a1 z1 q1_18 q1_19)) := fun z0 z1 => D_fst (ws := (wPU tc a0 g0 q0_0 (a1 0) q0_2 q0_3 q0_4 q0_5 q0_6 q0_7 q0_8 q0_9 q0_10 q0_13 ++ (wSt tc a1 g1 q1_18 q1_19))) rfl hD0
  have hl : lv_has ls 2 [(0, .ref (a0 0)), (1, .int x1)] := hl
  unfold f_X11_speech at h
  refine lv_iload_n X.1 X.2.1 dX11_speech_0 rfl (lv_at hl 1 rfl) ?_
  obtain ⟨J28, eJ28, h⟩ := jn_el h
  have HJ28 : ∀ (s0_J28 : Int32) (H : Heap) (locs : List Loc) (ls : Array Slot), J28 s0_J28 = some r0 → va_P (dC, dI) vwCl (wPU tc a0 g0 q0_0 (a1 0) q0_2 q0_3 q0_4 q0_5 q0_6 q0_7 q0_8 q0_9 q0_10 q0_13 ++ (wSt tc a1 g1 q1_18 q1_19)) H → va_S A s.heap H locs → lv_has ls 2 [] → W pr l e rm_X11_speech s m args below meth c H locs 0 0 Q (F0 m 28 ls [.int s0_J28]) := by
    intro s0_J28 H locs ls h hP hS hl
    rw [eJ28] at h
    exact ret_i0 (Option.some.inj h) X hQ hP hS dX11_speech_28
  obtain ⟨J15, eJ15, h⟩ := jn_el h
  have HJ15 : ∀ (_ : Unit) (H : Heap) (locs : List Loc) (ls : Array Slot), J15 () = some r0 → va_P (dC, dI) vwCl (wPU tc a0 g0 q0_0 (a1 0) q0_2 q0_3 q0_4 q0_5 q0_6 q0_7 q0_8 q0_9 q0_10 q0_13 ++ (wSt tc a1 g1 q1_18 q1_19)) H → va_S A s.heap H locs → lv_has ls 2 [] → W pr l e rm_X11_speech s m args below meth c H locs 0 0 Q (F0 m 15 ls []) := by
    intro _ H locs ls h hP hS hl
    rw [eJ15] at h
    refine lv_iconst (v := (-1)) X.1 X.2.1 dX11_speech_15 (by decide) ?_
    refine lv_goto (tgt := 28) X.1 X.2.1 dX11_speech_16 (by decide) ?_
    exact HJ28 (-1) H locs ls h hP hS (lv_sub hl [] rfl)
  refine lv_if_lt (tgt := 15) X.1 X.2.1 dX11_speech_1 (by decide) (fun hc => ?_) (fun hc => ?_)
  · have h := it_t hc h
    exact HJ15 () H locs ls h hP hS (lv_sub hl [] rfl)
  · have h := it_f hc h
    refine lv_iload_n X.1 X.2.1 dX11_speech_4 rfl (lv_at hl 1 rfl) ?_
    refine lv_aload_n X.1 X.2.1 dX11_speech_5 rfl (lv_at hl 0 rfl) ?_
    refine r_get (C := RX11) (T := TX11) (N := 15) (ci := 11) (v := .ref (a1 0)) X iw11 hP 0 rfl rfl 1 rfl mw_2_144 rfl dX11_speech_6 ?_
    refine r_get (C := RX9) (T := TX9) (N := 20) (ci := 9) (v := .int (g1 4 0)) X iw9 hP 1 rfl rfl 4 rfl mw_1_130 rfl dX11_speech_9 ?_
    refine lv_icmp_lt (tgt := 19) X.1 X.2.1 dX11_speech_12 (by decide) (fun hc => ?_) (fun hc => ?_)
    · have h := it_t hc h
      refine lv_aload_n X.1 X.2.1 dX11_speech_19 rfl (lv_at hl 0 rfl) ?_
      refine r_get (C := RX11) (T := TX11) (N := 15) (ci := 11) (v := .ref (a1 0)) X iw11 hP 0 rfl rfl 1 rfl mw_2_144 rfl dX11_speech_20 ?_
      refine r_get (C := RX9) (T := TX9) (N := 20) (ci := 9) (v := .ref (a1 6)) X iw9 hP 1 rfl rfl 5 rfl mw_1_136 rfl dX11_speech_23 ?_
      refine lv_iload_n X.1 X.2.1 dX11_speech_26 rfl (lv_at hl 1 rfl) ?_
      obtain ⟨hg_1, h⟩ := gdi_el h
      refine r_iald X hP 5 0 rfl rfl hg_1 rfl dX11_speech_27 ?_
      exact HJ28 (g1 5 (x1.toNatClampNeg)) H locs ls h hP hS (lv_sub hl [] rfl)
    · have h := it_f hc h
      exact HJ15 () H locs ls h hP hS (lv_sub hl [] rfl)

def f_X11_page (g0 : Pic) (g1 : Pic) (x1 : Int32) (x2 : Int32) : Option ((Nat × Unit) ⊕ (Int32 × Unit)) := lr (f_X11_needWriter g0 g1 x1) (fun e => .inl (e.1, ())) (fun _ => jn (fun (s0_J33 : Int32) => some (.inr (s0_J33, ()))) (fun J33 => jn (fun (_ : Unit) => J33 (-1)) (fun J20 => (if x2 < 0 then J20 () else (if x2 < (g1 6 0) then bd (f_X9_onPage g1 x1 x2) (fun r_2 => J33 r_2) else J20 ())))))
abbrev rm_X11_page : Room := { frames := 7, cells := 1, slots := 6, locals := 141 }
set_option maxHeartbeats 4000000 in
set_option maxRecDepth 100000 in
theorem c_X11_page (l : Launch) (hst : l.stackTraces = false) (dC : Nat → ClassId) (dI : Nat → Nat → Nat) (sk sv : Nat → Nat) (tc : Nat → ClassId) (a0 : Nat → Nat) (q0_0 : Nat) (q0_2 : Nat) (q0_3 : Nat) (q0_4 : Nat) (q0_5 : Nat) (q0_6 : Nat) (q0_7 : Nat) (q0_8 : Nat) (q0_9 : Nat) (q0_10 : Nat) (q0_13 : Option Nat) (a1 : Nat → Nat) (q1_18 : Option Nat) (q1_19 : Nat) (g0 : Pic) (g1 : Pic) (x1 : Int32) (x2 : Int32) {res : ((Nat × Unit) ⊕ (Int32 × Unit))} (h : f_X11_page g0 g1 x1 x2 = some res) : CU l (dC, dI) sk sv (TY tc) yX11_page cX11_page 3 (some .int) rm_X11_page 1 6 [.ref (a0 0), .int x1, .int x2] (wPU tc a0 g0 q0_0 (a1 0) q0_2 q0_3 q0_4 q0_5 q0_6 q0_7 q0_8 q0_9 q0_10 q0_13 ++ (wSt tc a1 g1 q1_18 q1_19)) (oI (fun (_ : Unit) (_ : Option Nat) => (wPU tc a0 g0 q0_0 (a1 0) q0_2 q0_3 q0_4 q0_5 q0_6 q0_7 q0_8 q0_9 q0_10 q0_13 ++ (wSt tc a1 g1 q1_18 q1_19))) res) := by
  refine ofCU (by decide) (Nat.le_of_ble_eq_true rfl) ?_
  intro pr e s m args below meth c A Q ls H locs X hT hQ hD0 hP hS hl
  have hD : ∀ z0 z1, va_D A (wPU tc a0 z0 q0_0 (a1 0) q0_2 q0_3 q0_4 q0_5 q0_6 q0_7 q0_8 q0_9 q0_10 q0_13 ++ (wSt tc a1 z1 q1_18 q1_19)) := fun z0 z1 => D_fst (ws := (wPU tc a0 g0 q0_0 (a1 0) q0_2 q0_3 q0_4 q0_5 q0_6 q0_7 q0_8 q0_9 q0_10 q0_13 ++ (wSt tc a1 g1 q1_18 q1_19))) rfl hD0
  have hl : lv_has ls 3 [(0, .ref (a0 0)), (1, .int x1), (2, .int x2)] := hl
  unfold f_X11_page at h
  refine lv_aload_n X.1 X.2.1 dX11_page_0 rfl (lv_at hl 0 rfl) ?_
  refine lv_iload_n X.1 X.2.1 dX11_page_1 rfl (lv_at hl 1 rfl) ?_
  obtain ⟨ex_1, hc_1, h1_1, h2_1⟩ := lr_el h
  rcases ex_1 with e_1 | r_1
  · exact callU_t (ws := (wPU tc a0 g0 q0_0 (a1 0) q0_2 q0_3 q0_4 q0_5 q0_6 q0_7 q0_8 q0_9 q0_10 q0_13 ++ (wSt tc a1 g1 q1_18 q1_19))) (ws' := (wPU tc a0 g0 q0_0 (a1 0) q0_2 q0_3 q0_4 q0_5 q0_6 q0_7 q0_8 q0_9 q0_10 q0_13 ++ (wSt tc a1 g1 q1_18 q1_19))) (wr := []) [0, 1, 2, 3, 4, 5, 6, 7, 8, 9, 10] [] [0, 1, 2, 3, 4, 5, 6, 7, 8, 9, 10] (As := [.int x1]) (rest := []) none rfl (oUi (fun (_ : Unit) (_ : Option Nat) => (wPU tc a0 g0 q0_0 (a1 0) q0_2 q0_3 q0_4 q0_5 q0_6 q0_7 q0_8 q0_9 q0_10 q0_13 ++ (wSt tc a1 g1 q1_18 q1_19))) (h1_1 _ rfl)) X hT hQ (c_X11_needWriter l hst dC dI sk sv tc a0 q0_0 q0_2 q0_3 q0_4 q0_5 q0_6 q0_7 q0_8 q0_9 q0_10 q0_13 a1 q1_18 q1_19 g0 g1 x1 hc_1) mw_5_38 mw_5_40 mp_1_6 mw_1_1 mw_5_41 dc_X11_needWriter ⟨Nat.le_of_ble_eq_true rfl, Nat.le_of_ble_eq_true rfl⟩ rfl rfl ⟨Nat.le_of_ble_eq_true rfl, Nat.le_of_ble_eq_true rfl⟩ ⟨rfl, rfl, rfl, rfl, by decide, rfl, rfl⟩ hP (hD _ _) hS 0 rfl rfl rfl hl.1 (Nat.le_of_ble_eq_true rfl) dX11_page_2 (Nat.le_of_ble_eq_true rfl) (Nat.le_of_ble_eq_true rfl)
  have h := h2_1 _ rfl
  refine callU_n (ws := (wPU tc a0 g0 q0_0 (a1 0) q0_2 q0_3 q0_4 q0_5 q0_6 q0_7 q0_8 q0_9 q0_10 q0_13 ++ (wSt tc a1 g1 q1_18 q1_19))) (ws' := (wPU tc a0 g0 q0_0 (a1 0) q0_2 q0_3 q0_4 q0_5 q0_6 q0_7 q0_8 q0_9 q0_10 q0_13 ++ (wSt tc a1 g1 q1_18 q1_19))) (wr := []) [0, 1, 2, 3, 4, 5, 6, 7, 8, 9, 10] [] [0, 1, 2, 3, 4, 5, 6, 7, 8, 9, 10] (As := [.int x1]) (rest := []) X (c_X11_needWriter l hst dC dI sk sv tc a0 q0_0 q0_2 q0_3 q0_4 q0_5 q0_6 q0_7 q0_8 q0_9 q0_10 q0_13 a1 q1_18 q1_19 g0 g1 x1 hc_1) mw_5_38 mw_5_40 mp_1_6 mw_1_1 mw_5_41 dc_X11_needWriter ⟨Nat.le_of_ble_eq_true rfl, Nat.le_of_ble_eq_true rfl⟩ rfl rfl ⟨Nat.le_of_ble_eq_true rfl, Nat.le_of_ble_eq_true rfl⟩ ⟨rfl, rfl, rfl, rfl, by decide, rfl, rfl⟩ hP (hD _ _) hS 0 rfl rfl rfl hl.1 (Nat.le_of_ble_eq_true rfl) dX11_page_2 (fun H locs hP hS => ?_)
  refine W.eq (g2 := F0 m 5 ls []) rfl ?_
  refine lv_iload_n X.1 X.2.1 dX11_page_5 rfl (lv_at hl 2 rfl) ?_
  obtain ⟨J33, eJ33, h⟩ := jn_el h
  have HJ33 : ∀ (s0_J33 : Int32) (H : Heap) (locs : List Loc) (ls : Array Slot), J33 s0_J33 = some res → va_P (dC, dI) vwCl (wPU tc a0 g0 q0_0 (a1 0) q0_2 q0_3 q0_4 q0_5 q0_6 q0_7 q0_8 q0_9 q0_10 q0_13 ++ (wSt tc a1 g1 q1_18 q1_19)) H → va_S A s.heap H locs → lv_has ls 3 [] → W pr l e rm_X11_page s m args below meth c H locs 1 6 Q (F0 m 33 ls [.int s0_J33]) := by
    intro s0_J33 H locs ls h hP hS hl
    rw [eJ33] at h
    exact retU_i (fun (_ : Unit) (_ : Option Nat) => (wPU tc a0 g0 q0_0 (a1 0) q0_2 q0_3 q0_4 q0_5 q0_6 q0_7 q0_8 q0_9 q0_10 q0_13 ++ (wSt tc a1 g1 q1_18 q1_19))) none (Option.some.inj h) X hQ hP hS (Nat.le_of_ble_eq_true rfl) (Nat.le_of_ble_eq_true rfl) dX11_page_33
  obtain ⟨J20, eJ20, h⟩ := jn_el h
  have HJ20 : ∀ (_ : Unit) (H : Heap) (locs : List Loc) (ls : Array Slot), J20 () = some res → va_P (dC, dI) vwCl (wPU tc a0 g0 q0_0 (a1 0) q0_2 q0_3 q0_4 q0_5 q0_6 q0_7 q0_8 q0_9 q0_10 q0_13 ++ (wSt tc a1 g1 q1_18 q1_19)) H → va_S A s.heap H locs → lv_has ls 3 [] → W pr l e rm_X11_page s m args below meth c H locs 1 6 Q (F0 m 20 ls []) := by
    intro _ H locs ls h hP hS hl
    rw [eJ20] at h
    refine lv_iconst (v := (-1)) X.1 X.2.1 dX11_page_20 (by decide) ?_
    refine lv_goto (tgt := 33) X.1 X.2.1 dX11_page_21 (by decide) ?_
    exact HJ33 (-1) H locs ls h hP hS (lv_sub hl [] rfl)
  refine lv_if_lt (tgt := 20) X.1 X.2.1 dX11_page_6 (by decide) (fun hc => ?_) (fun hc => ?_)
  · have h := it_t hc h
    exact HJ20 () H locs ls h hP hS (lv_sub hl [] rfl)
  · have h := it_f hc h
    refine lv_iload_n X.1 X.2.1 dX11_page_9 rfl (lv_at hl 2 rfl) ?_
    refine lv_aload_n X.1 X.2.1 dX11_page_10 rfl (lv_at hl 0 rfl) ?_
    refine r_get (C := RX11) (T := TX11) (N := 15) (ci := 11) (v := .ref (a1 0)) X iw11 hP 0 rfl rfl 1 rfl mw_2_144 rfl dX11_page_11 ?_
    refine r_get (C := RX9) (T := TX9) (N := 20) (ci := 9) (v := .int (g1 6 0)) X iw9 hP 1 rfl rfl 6 rfl mw_1_140 rfl dX11_page_14 ?_
    refine lv_icmp_lt (tgt := 24) X.1 X.2.1 dX11_page_17 (by decide) (fun hc => ?_) (fun hc => ?_)
    · have h := it_t hc h
      refine lv_aload_n X.1 X.2.1 dX11_page_24 rfl (lv_at hl 0 rfl) ?_
      refine r_get (C := RX11) (T := TX11) (N := 15) (ci := 11) (v := .ref (a1 0)) X iw11 hP 0 rfl rfl 1 rfl mw_2_144 rfl dX11_page_25 ?_
      refine lv_iload_n X.1 X.2.1 dX11_page_28 rfl (lv_at hl 1 rfl) ?_
      refine lv_iload_n X.1 X.2.1 dX11_page_29 rfl (lv_at hl 2 rfl) ?_
      obtain ⟨r_2, hc_2, h⟩ := bd_el h
      refine call_Vsi (ws := (wPU tc a0 g0 q0_0 (a1 0) q0_2 q0_3 q0_4 q0_5 q0_6 q0_7 q0_8 q0_9 q0_10 q0_13 ++ (wSt tc a1 g1 q1_18 q1_19))) (ws' := (wPU tc a0 g0 q0_0 (a1 0) q0_2 q0_3 q0_4 q0_5 q0_6 q0_7 q0_8 q0_9 q0_10 q0_13 ++ (wSt tc a1 g1 q1_18 q1_19))) (wPU tc a0 g0 q0_0 (a1 0) q0_2 q0_3 q0_4 q0_5 q0_6 q0_7 q0_8 q0_9 q0_10 q0_13) [] (As := [.int x1, .int x2]) (rest := []) X (c_X9_onPage l dC dI sk sv tc a1 q1_18 q1_19 g1 x1 x2 hc_2) mw_5_111 mw_5_77 mw_5_78 mw_1_3 mw_5_79 dc_X9_onPage ⟨Nat.le_of_ble_eq_true rfl, Nat.le_of_ble_eq_true rfl⟩ rfl rfl ⟨Nat.le_of_ble_eq_true rfl, Nat.le_of_ble_eq_true rfl⟩ (by simp only [List.append_assoc, List.nil_append, List.append_nil]) (by simp only [List.append_assoc, List.nil_append, List.append_nil]) hP (hD _ _) hS 0 rfl rfl rfl hl.1 (Nat.le_of_ble_eq_true rfl) dX11_page_30 (fun H locs hP hS => ?_)
      exact HJ33 r_2 H locs ls h hP hS (lv_sub hl [] rfl)
    · have h := it_f hc h
      exact HJ20 () H locs ls h hP hS (lv_sub hl [] rfl)
