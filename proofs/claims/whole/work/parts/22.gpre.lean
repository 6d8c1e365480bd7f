/-! methods that may throw and may make cells -/
abbrev RG (υ : Type) : Type := (Nat × va_W) ⊕ (υ → Option Value × va_W)
def QcG {υ : Type} (D : va_G) (A : Nat → Prop) (res : RG υ) : Array Value → State → Outcome → State → Prop := fun _ st oc t => ∃ f u, res = .inr f ∧ oc = .returned (f u).1 ∧ va_P D vwCl (f u).2 t.heap ∧ va_D A (f u).2 ∧ va_F A st t
def XcG {υ : Type} (D : va_G) (A : Nat → Prop) (res : RG υ) : String → State → State → Prop := fun E st t => ∃ k w', res = .inl (k, w') ∧ E = exn k ∧ va_P D vwCl w' t.heap ∧ va_F A st t
def CG (l : Launch) (D : va_G) (sk sv : Nat → Nat) (tys : List (ClassId × FieldType)) (y : MethodName) (cc : ByteArray) (n : Nat) (rt : Option FieldType) (rm : Room) (mc ms : Nat) (av : List Value) (w : va_W) {υ : Type} (res : RG υ) : Prop :=
  ∀ sz : Nat, vx_Met l y (wsG y cc n rt) rm (va_Pc av (fun U => U.heap.size = sz ∧ va_P D vwCl w U.heap ∧ va_K D vwCl tys U ∧ va_D (fun _ => True) w ∧ EN sk sv (va_A w sz) U U.heap)) (QcG D (va_A w sz) res) (XcG D (va_A w sz) res) mc ms (va_A w sz)
theorem ofCG {l : Launch} {D : va_G} {sk sv : Nat → Nat} {tys : List (ClassId × FieldType)} {y : MethodName} {cc : ByteArray} {n : Nat} {rt : Option FieldType} {rm : Room} {mc ms : Nat} {av : List Value} {w : va_W} {υ : Type} {res : RG υ} (hy : plainName y.cls = true) (hlen : (lg_sl av).length ≤ n)
    (body : ∀ (pr : Program) (e : Env) (s : State) (m : MethodId) (args : Array Value) (below : List Frame) (meth : Method) (c : Code) (A : Nat → Prop) (Q : State → Prop) (ls : Array Slot) (H : Heap) (locs : List Loc), CX pr D sk sv tys y cc n rt s m args meth c A → (∀ x ∈ c.exceptionTable.toList, False) → vx_MQ below (QcG D A res) (XcG D A res) args s mc ms A = Q → va_D A w → va_P D vwCl w H → va_S A s.heap H locs → lv_has ls n (lv_args 0 av) →
      W pr l e rm s m args below meth c H locs 0 0 Q (F0 m 0 ls [])) : CG l D sk sv tys y cc n rt rm mc ms av w res := by
  intro sz
  refine vx_ofW (cc := cc) (maxL := n) (ret := rt) hy rfl ?_
  intro pr e s m args below meth c s₁ B hml hT hv
  obtain ⟨rfl, hsz, hP, hK, hD0, hE⟩ := hv
  have hts := atoms_spec (ws := wsG y cc n rt) B.pre
  have hown : s.vm.findClass y.cls = some m.cls := findClass_of_methodNamed B.named
  subst hsz
  have hD := hD0.self (sz := s.heap.size)
  have hl := lv_entry av (n := n) hlen
  rw [lg_entry_eq]
  exact body pr e s m av.toArray below meth c (va_A w s.heap.size) _ _ s.heap [] ⟨B.exec, B.bytes, B.returns, hml, hown, hts, B.notSynchronized, fun q h => Or.inr h, hK, hE⟩ hT rfl hD hP va_S.rf hl
section GG
variable {pr : Program} {l : Launch} {e : Env} {R : Room} {D : va_G} {sk sv : Nat → Nat} {tys : List (ClassId × FieldType)} {y : MethodName} {cc : ByteArray} {n : Nat} {rt : Option FieldType} {s : State} {m : MethodId} {args : Array Value} {below : List Frame} {meth : Method} {c : Code} {A : Nat → Prop} {H : Heap} {locs : List Loc} {cells slots : Nat} {Q : State → Prop} {pc : Nat} {ls : Array Slot} {rest : List Value} {mc ms : Nat}
theorem retG_i {υ : Type} {f : υ → Option Value × va_W} (u : υ) {v : Int32} {res : RG υ} (hv : .inr f = res) (hu : (f u).1 = some (.int v)) (X : CX pr D sk sv tys y cc n (some .int) s m args meth c A) (hQ : vx_MQ below (QcG D A res) (XcG D A res) args s mc ms A = Q) (hP : va_P D vwCl (f u).2 H) (hD : va_D A (f u).2) (hS : va_S A s.heap H locs) (hc : cells ≤ mc) (hs : slots ≤ ms) (hd : decode cc pc = .ok (.ireturn, 1)) :
    W pr l e R s m args below meth c H locs cells slots Q (F0 m pc ls [.int v]) := by
  subst hv
  subst hQ
  obtain ⟨hx, hb, hr, hml, hown, hts, hlocks, hA, hK, hE⟩ := X
  exact W.widen (k := mc) (n := ms) hc hs (vx_ret (W.iret (v := v) hx hb hr (fun t ht hW => ⟨_, u, rfl, by rw [hu], by rw [ht]; exact hP, hD, hS.F ht⟩) hS.2.2 hd))
theorem retG_v {υ : Type} {f : υ → Option Value × va_W} (u : υ) {res : RG υ} (hv : .inr f = res) (hu : (f u).1 = none) (X : CX pr D sk sv tys y cc n none s m args meth c A) (hQ : vx_MQ below (QcG D A res) (XcG D A res) args s mc ms A = Q) (hP : va_P D vwCl (f u).2 H) (hD : va_D A (f u).2) (hS : va_S A s.heap H locs) (hc : cells ≤ mc) (hs : slots ≤ ms) (hd : decode cc pc = .ok (.return_, 1)) :
    W pr l e R s m args below meth c H locs cells slots Q (F0 m pc ls []) := by
  subst hv
  subst hQ
  obtain ⟨hx, hb, hr, hml, hown, hts, hlocks, hA, hK, hE⟩ := X
  exact W.widen (k := mc) (n := ms) hc hs (vx_ret (W.vret hx hb hr (fun t ht hW => ⟨_, u, rfl, by rw [hu], by rw [ht]; exact hP, hD, hS.F ht⟩) hS.2.2 hd))
theorem retG_z {υ : Type} {f : υ → Option Value × va_W} (u : υ) {v : Int32} {res : RG υ} (hz : v = 0 ∨ v = 1) (hv : .inr f = res) (hu : (f u).1 = some (.int v)) (X : CX pr D sk sv tys y cc n (some .boolean) s m args meth c A) (hQ : vx_MQ below (QcG D A res) (XcG D A res) args s mc ms A = Q) (hP : va_P D vwCl (f u).2 H) (hD : va_D A (f u).2) (hS : va_S A s.heap H locs) (hc : cells ≤ mc) (hs : slots ≤ ms) (hd : decode cc pc = .ok (.ireturn, 1)) :
    W pr l e R s m args below meth c H locs cells slots Q (F0 m pc ls [.int v]) := by
  subst hv
  subst hQ
  obtain ⟨hx, hb, hr, hml, hown, hts, hlocks, hA, hK, hE⟩ := X
  exact W.widen (k := mc) (n := ms) hc hs (vx_ret (W.zret (v := v) (ty := .boolean) hx hb hr (nz_bool hz).1 (fun t ht hW => ⟨_, u, rfl, by rw [hu], by rw [ht]; exact hP, hD, hS.F ht⟩) hS.2.2 hd))
theorem thrG_S {ik is ic ti k : Nat} {text : String} {w' : va_W} {υ : Type} {res : RG υ} (hv : .inl (k, w') = res) (X : CX pr D sk sv tys y cc n rt s m args meth c A) (hT : ∀ x ∈ c.exceptionTable.toList, False) (hst : l.stackTraces = false) (hat : atOK y.cls ic k) (m1 : Cond.classLink y.cls ik (exn k) ∈ WG) (m2 : Cond.initialized (exn k) ∈ WG) (hstr : (y.cls, is, text, ti) ∈ strTab)
    (hQ : vx_MQ below (QcG D A res) (XcG D A res) args s mc ms A = Q) (hP : va_P D vwCl w' H) (hS : va_S A s.heap H locs) (hsize : ls.size = n) (d0 : decode cc pc = .ok (.new ik, 3)) (d3 : decode cc (pc + 3) = .ok (.dup, 1)) (d4 : decode cc (pc + 4) = .ok (.ldc is, 2)) (d6 : decode cc (pc + 6) = .ok (.invokespecial ic, 3)) (d9 : decode cc (pc + 9) = .ok (.athrow, 1))
    (h1 : 5 < R.frames) (h2 : (rest.map fun v => v.category).sum + 82 ≤ R.locals) (h3 : cells + 1 ≤ R.cells) (h4 : slots + 6 ≤ R.slots) (hc : cells + 1 ≤ mc) (hs : slots + 6 ≤ ms) :
    W pr l e R s m args below meth c H locs cells slots Q (F0 m pc ls rest) := by
  subst hv
  subst hQ
  obtain ⟨hx, hb, hr, hml, hown, hts, hlocks, hA, hK, hE⟩ := X
  have ok : ∀ w ∈ WG, w.before args s = true := fun w h => hts w (List.mem_cons_of_mem _ h)
  refine vx_throwS (names := exL) hx hb hst hown hat.2.1 (by decide +kernel) (ok _ m1) (ok _ m2) (hE.2.2.2.2.1 _ hstr) (fun w hw => (hat.1 w hw).elim (fun h => ok w h) (fun h => va_Nw.use (nw_tab (nwTab_ok w h)) (hE.2.2.2.2.2.1 w h))) ?_ hE.2.2.2.1.1 hE.2.2.2.1.2 hS (hsize.trans hml.symm) d0 d3 d4 d6 d9 (fun x h => absurd h (fun h => hT x h)) h1 h2 h3 h4 hlocks (fun t ht hz hk => ⟨k, w', rfl, rfl, P_up hP hk, ?_⟩) hS.2.2 hc hs
  · intro w hw
    rcases List.mem_cons.mp hw with h | h
    · rw [h]; rfl
    · rcases List.mem_cons.mp h with h | h
      · rw [h]; rfl
      · exact hat.2.2 w h
  · exact ⟨Nat.le_trans hS.1 hz, fun q q1 q2 => by rw [hk q (Nat.lt_of_lt_of_le q1 hS.1)]; exact hS.2.1 q q1 q2⟩
theorem thrG_W {ik is ic ti k : Nat} {text : String} {w' : va_W} {υ : Type} {res : RG υ} (hv : .inl (k, w') = res) (X : CX pr D sk sv tys y cc n rt s m args meth c A) (hT : ∀ x ∈ c.exceptionTable.toList, False) (hst : l.stackTraces = false) (hat : atOK y.cls ic k) (m1 : Cond.classLink y.cls ik (exn k) ∈ WG) (m2 : Cond.initialized (exn k) ∈ WG) (hstr : (y.cls, is, text, ti) ∈ strTab)
    (hQ : vx_MQ below (QcG D A res) (XcG D A res) args s mc ms A = Q) (hP : va_P D vwCl w' H) (hS : va_S A s.heap H locs) (hsize : ls.size = n) (d0 : decode cc pc = .ok (.new ik, 3)) (d3 : decode cc (pc + 3) = .ok (.dup, 1)) (d4 : decode cc (pc + 4) = .ok (.ldc_w is, 3)) (d7 : decode cc (pc + 7) = .ok (.invokespecial ic, 3)) (d10 : decode cc (pc + 10) = .ok (.athrow, 1))
    (h1 : 5 < R.frames) (h2 : (rest.map fun v => v.category).sum + 82 ≤ R.locals) (h3 : cells + 1 ≤ R.cells) (h4 : slots + 6 ≤ R.slots) (hc : cells + 1 ≤ mc) (hs : slots + 6 ≤ ms) :
    W pr l e R s m args below meth c H locs cells slots Q (F0 m pc ls rest) := by
  subst hv
  subst hQ
  obtain ⟨hx, hb, hr, hml, hown, hts, hlocks, hA, hK, hE⟩ := X
  have ok : ∀ w ∈ WG, w.before args s = true := fun w h => hts w (List.mem_cons_of_mem _ h)
  refine vx_throwSW (names := exL) hx hb hst hown hat.2.1 (by decide +kernel) (ok _ m1) (ok _ m2) (hE.2.2.2.2.1 _ hstr) (fun w hw => (hat.1 w hw).elim (fun h => ok w h) (fun h => va_Nw.use (nw_tab (nwTab_ok w h)) (hE.2.2.2.2.2.1 w h))) ?_ hE.2.2.2.1.1 hE.2.2.2.1.2 hS (hsize.trans hml.symm) d0 d3 d4 d7 d10 (fun x h => absurd h (fun h => hT x h)) h1 h2 h3 h4 hlocks (fun t ht hz hk => ⟨k, w', rfl, rfl, P_up hP hk, ?_⟩) hS.2.2 hc hs
  · intro w hw
    rcases List.mem_cons.mp hw with h | h
    · rw [h]; rfl
    · rcases List.mem_cons.mp h with h | h
      · rw [h]; rfl
      · exact hat.2.2 w h
  · exact ⟨Nat.le_trans hS.1 hz, fun q q1 q2 => by rw [hk q (Nat.lt_of_lt_of_le q1 hS.1)]; exact hS.2.1 q q1 q2⟩
theorem callG_t {y' : MethodName} {cc' : ByteArray} {n' : Nat} {rt' : Option FieldType} {rm' : Room} {b ci index mc' ms' k : Nat} {fs As : List Value} {cq : vw_C} {ws ws' wc wc' wr : va_W} {υ : Type} {res : RG υ} (isC isR ps : List Nat) (hv : .inl (k, ws') = res) (X : CX pr D sk sv tys y cc n rt s m args meth c A) (hT0 : ∀ x ∈ c.exceptionTable.toList, False) (hQ : vx_MQ below (QcG D A res) (XcG D A res) args s mc ms A = Q) (hM : CU l D sk sv tys y' cc' n' rt' rm' mc' ms' (.ref b :: As) wc (.inl (k, fun _ => wc')))
    (m1 : Cond.methodLink y.cls index y' ∈ WG) (m2 : Cond.instanceMethod y' ∈ WG) (m3 : Cond.selects y'.cls y' y' ∈ WG) (m4 : Cond.initialized y'.cls ∈ WG) (m5 : Cond.code y' cc' n' rt' ∈ WG)
    (hd : y'.cls ≠ "java/lang/invoke/MethodHandle" ∧ y'.cls ≠ "java/lang/invoke/VarHandle" ∧ (parseMethodDescriptor y'.desc).map (fun d => d.parameters.length) = some As.length) (hR : rm'.frames + 1 ≤ R.frames ∧ 8 + (n' + 11) + rm'.locals ≤ R.locals) (hrc : rm'.cells = mc') (hrs : rm'.slots = ms') (hcs : cells + mc' ≤ R.cells ∧ slots + ms' ≤ R.slots)
    (hpl : Plc ws wc wc' ws' isC isR wr ps) (hP : va_P D vwCl ws H) (hD : va_D A ws) (hS : va_S A s.heap H locs) (q0 : Nat) (he : wc[q0]? = some (b, .inr (ci, fs))) (hc : vwCl[ci]? = some cq) (hcq : cq.1 = y'.cls) (hsize : ls.size = n) (hrest : (rest.map fun v => v.category).sum ≤ 8) (hdg : decode cc pc = .ok (.invokevirtual index, 3)) (hc1 : cells + mc' ≤ mc) (hs1 : slots + ms' ≤ ms) :
    W pr l e R s m args below meth c H locs cells slots Q (F0 m pc ls (As.reverse ++ .ref b :: rest)) := by
  subst hv
  subst hQ
  have hr9 := runU (e := e) (below := below) (rest := rest) X hM m1 m2 m3 m4 m5 hd hR hrc hrs hcs hpl hP hD hS q0 he hc hcq hsize hrest hdg
  obtain ⟨hx, hb, hr, hml, hown, hts, hlocks, hA, hK, hE⟩ := X
  intro T hT X
  have hF := hpl.F hD hS hA
  rcases hr9 T hT X with ⟨v0, st₀, t, T', L, h0, X', hL, e1, e2, ⟨v1, w1, q1, hv1, -⟩, -⟩ | ⟨q, st₀, t, T', L, E, ce, h0, X', hL, e1, e2, ⟨k1, w1, q1, hv1, hE1, hp1, hz, hk⟩, hce, hcv, hcl, st⟩
  · cases hv1
  · cases hv1
    rw [h0] at hz hk
    have hS1 : va_S A s.heap T'.heap (locs ++ L) := ⟨Nat.le_trans hS.1 (by rw [e1]; exact hz), fun q h1 h2 => by rw [e1, hk q (Nat.lt_of_lt_of_le h1 hS.1) (fun z => h2 (hF q z))]; exact hS.2.1 q h1 h2, fun q hq => by
        rcases List.mem_append.mp hq with h | h
        · exact hS.2.2 q h
        · exact hF _ (hL q h)⟩
    have hP1 : va_P D vwCl ws' T'.heap := by rw [e1]; exact hpl.P hP hD hk hF hp1
    obtain ⟨t2, a1, b1⟩ := vx_out (pc := pc) (ls := ls) (rest := rest) (mc := mc) (ms := ms) (E := E) (Qc := QcG (υ := υ) D A (.inl (k, ws'))) (XC := XcG (υ := υ) D A (.inl (k, ws'))) (free := A) (fun x h => absurd h (fun h => hT0 x h)) hlocks (by rw [e1]; exact hce) hcv hcl (fun t9 h9 _ => ⟨k, ws', rfl, hE1, by rw [h9]; exact hP1, hS1.F h9⟩) hS1.2.2 hc1 hs1 T' rfl X'
    exact ⟨t2, st.trans a1, b1⟩
/-- a call of an object's method that makes cells -/
theorem call_VN {y' : MethodName} {cc' : ByteArray} {n' : Nat} {rt' : Option FieldType} {rm' : Room} {mc' ms' b ci index : Nat} {fs As : List Value} {cq : vw_C} {ws wc wr : va_W} {υ : Type} {vf : υ → Option Value} {wf : υ → va_W} (isC isR : List Nat) (X : CX pr D sk sv tys y cc n rt s m args meth c A) (hM : CR l D sk sv tys y' cc' n' rt' rm' mc' ms' (.ref b :: As) wc vf wf)
    (m1 : Cond.methodLink y.cls index y' ∈ WG) (m2 : Cond.instanceMethod y' ∈ WG) (m3 : Cond.selects y'.cls y' y' ∈ WG) (m4 : Cond.initialized y'.cls ∈ WG) (m5 : Cond.code y' cc' n' rt' ∈ WG) (hd : y'.cls ≠ "java/lang/invoke/MethodHandle" ∧ y'.cls ≠ "java/lang/invoke/VarHandle" ∧ (parseMethodDescriptor y'.desc).map (fun d => d.parameters.length) = some As.length) (hR : rm'.frames + 1 ≤ R.frames ∧ 8 + (n' + 11) + rm'.locals ≤ R.locals) (hrc : rm'.cells = mc') (hrs : rm'.slots = ms') (hcs : cells + mc' ≤ R.cells ∧ slots + ms' ≤ R.slots)
    (hpl : isC.map (fun i => ws[i]?) = wc.map some ∧ isR.map (fun i => ws[i]?) = wr.map some ∧ va_nd isC = true ∧ va_nd isR = true ∧ ∀ i ∈ isR, i ∉ isC) (hP : va_P D vwCl ws H) (hD : va_D A ws) (hS : va_S A s.heap H locs) (q0 : Nat) (he : ws[q0]? = some (b, .inr (ci, fs))) (hc : vwCl[ci]? = some cq) (hcq : cq.1 = y'.cls) (hsize : ls.size = n) (hrest : (rest.map fun v => v.category).sum ≤ 8) (hdg : decode cc pc = .ok (.invokevirtual index, 3))
    (kk : ∀ (u : υ) (H1 : Heap) (locs1 : List Loc), va_P D vwCl (wr ++ wf u) H1 → va_D A (wr ++ wf u) → va_S A s.heap H1 locs1 → W pr l e R s m args below meth c H1 locs1 (cells + mc') (slots + ms') Q (F0 m (pc + 3) ls ((vf u).toList ++ rest))) : W pr l e R s m args below meth c H locs cells slots Q (F0 m pc ls (As.reverse ++ .ref b :: rest)) := by
  obtain ⟨hx, hb, hr, hml, hown, hts, hlocks, hA, hK, hE⟩ := X
  have ok : ∀ w ∈ WG, w.before args s = true := fun w h => hts w (List.mem_cons_of_mem _ h)
  have hcw : CallW R s args y.cls y'.cls index y' cc' n' rt' (wsG y' cc' n' rt') rm' mc' ms' As.length := ⟨callB_of As.length hts (wg_good (fun w h => (List.mem_cons.mp h).elim (fun e => by rw [e]; exact m5) (fun h => h))) rfl hrc hrs (ok _ m4) (ok _ m1) hd hR, ok _ m2, ok _ m3⟩
  have hp := preN (av := .ref b :: As) hK hE hA hS hP hD hpl.1 hpl.2.2.1
  exact goN (isC := isC) (isR := isR) (va_runV (g := F0 m pc ls (As.reverse ++ .ref b :: rest)) (As := As) (rest := rest) (nL := n) (Ts := wsG y cc n rt) (own := y.cls) (C := y'.cls) ⟨hx, hb, hml, hown, hts⟩ (hM H.size) hcw ⟨hp.1, by
    obtain ⟨cell, r1, r2, r3⟩ := va_recv hK hP hc he
    exact ⟨cell, r1, r2, by rw [← hcq]; exact r3⟩, hp.2⟩ rfl rfl hsize rfl (lv_room hrest) hdg hcs) hA hpl.1 hpl.2.1 hpl.2.2.2.1 hpl.2.2.2.2 hS hP hD kk
end GG
