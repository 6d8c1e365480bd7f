/-! methods that may throw: one contract, its end known beforehand -/
def exn : Nat → String
  | 0 => "java/lang/IndexOutOfBoundsException"
  | 1 => "java/lang/IllegalArgumentException"
  | 2 => "java/util/NoSuchElementException"
  | 3 => "java/lang/IllegalStateException"
  | _ => "java/lang/UnsupportedOperationException"
abbrev RU : Type := (Nat × (Option Nat → va_W)) ⊕ (Option Value × (Option Nat → va_W))
def QcU (D : va_G) (A : Nat → Prop) (res : RU) : Array Value → State → Outcome → State → Prop := fun _ st oc t => ∃ v w' q, res = .inr (v, w') ∧ oc = .returned v ∧ va_P D vwCl (w' q) t.heap ∧ va_F A st t
def XcU (D : va_G) (A : Nat → Prop) (res : RU) : String → State → State → Prop := fun E st t => ∃ k w' q, res = .inl (k, w') ∧ E = exn k ∧ va_P D vwCl (w' q) t.heap ∧ va_F A st t
def CU (l : Launch) (D : va_G) (sk sv : Nat → Nat) (tys : List (ClassId × FieldType)) (y : MethodName) (cc : ByteArray) (n : Nat) (rt : Option FieldType) (rm : Room) (mc ms : Nat) (av : List Value) (w : va_W) (res : RU) : Prop :=
  ∀ sz : Nat, vx_Met l y (wsG y cc n rt) rm (va_Pc av (fun U => U.heap.size = sz ∧ va_P D vwCl w U.heap ∧ va_K D vwCl tys U ∧ va_D (fun _ => True) w ∧ EN sk sv (va_A w sz) U U.heap)) (QcU D (va_A w sz) res) (XcU D (va_A w sz) res) mc ms (va_A w sz)
theorem ofCU {l : Launch} {D : va_G} {sk sv : Nat → Nat} {tys : List (ClassId × FieldType)} {y : MethodName} {cc : ByteArray} {n : Nat} {rt : Option FieldType} {rm : Room} {mc ms : Nat} {av : List Value} {w : va_W} {res : RU} (hy : plainName y.cls = true) (hlen : (lg_sl av).length ≤ n)
    (body : ∀ (pr : Program) (e : Env) (s : State) (m : MethodId) (args : Array Value) (below : List Frame) (meth : Method) (c : Code) (A : Nat → Prop) (Q : State → Prop) (ls : Array Slot) (H : Heap) (locs : List Loc), CX pr D sk sv tys y cc n rt s m args meth c A → (∀ x ∈ c.exceptionTable.toList, False) → vx_MQ below (QcU D A res) (XcU D A res) args s mc ms A = Q → va_D A w → va_P D vwCl w H → va_S A s.heap H locs → lv_has ls n (lv_args 0 av) →
      W pr l e rm s m args below meth c H locs 0 0 Q (F0 m 0 ls [])) : CU l D sk sv tys y cc n rt rm mc ms av w res := by
  intro sz
  refine vx_ofW (cc := cc) (maxL := n) (ret := rt) hy rfl ?_
  intro pr e s m args below meth c s₁ B hml hT hv
  obtain ⟨rfl, hsz, hP, hK, hD0, hE⟩ := hv
  have hts := atoms_spec (ws := wsG y cc n rt) B.pre
  have hown : s.vm.findClass y.cls = some m.cls := findClass_of_methodNamed B.named
  subst hsz
  have hD := hD0.self (sz := s.heap.size)
  have hl := lv_entry av (n := n) hlen
  rw [lg_entry_eq]
  exact body pr e s m av.toArray below meth c (va_A w s.heap.size) _ _ s.heap [] ⟨B.exec, B.bytes, B.returns, hml, hown, hts, B.notSynchronized, fun q h => Or.inr h, hK, hE⟩ hT rfl hD hP va_S.rf hl
def oI {α : Type} (wf : α → Option Nat → va_W) (res : (Nat × α) ⊕ (Int32 × α)) : RU := match res with
  | .inl e => .inl (e.1, wf e.2)
  | .inr r => .inr (some (.int r.1), wf r.2)
def oV {α : Type} (wf : α → Option Nat → va_W) (res : (Nat × α) ⊕ α) : RU := match res with
  | .inl e => .inl (e.1, wf e.2)
  | .inr r => .inr (none, wf r)
section UU
variable {pr : Program} {l : Launch} {e : Env} {R : Room} {D : va_G} {sk sv : Nat → Nat} {tys : List (ClassId × FieldType)} {y : MethodName} {cc : ByteArray} {n : Nat} {rt : Option FieldType} {s : State} {m : MethodId} {args : Array Value} {below : List Frame} {meth : Method} {c : Code} {A : Nat → Prop} {H : Heap} {locs : List Loc} {cells slots : Nat} {Q : State → Prop} {pc : Nat} {ls : Array Slot} {rest : List Value} {mc ms : Nat}
theorem retU_i {α : Type} (wf : α → Option Nat → va_W) (q : Option Nat) {v : Int32} {x : α} {res : (Nat × α) ⊕ (Int32 × α)} (hv : .inr (v, x) = res) (X : CX pr D sk sv tys y cc n (some .int) s m args meth c A) (hQ : vx_MQ below (QcU D A (oI wf res)) (XcU D A (oI wf res)) args s mc ms A = Q) (hP : va_P D vwCl (wf x q) H) (hS : va_S A s.heap H locs) (hc : cells ≤ mc) (hs : slots ≤ ms) (hd : decode cc pc = .ok (.ireturn, 1)) :
    W pr l e R s m args below meth c H locs cells slots Q (F0 m pc ls [.int v]) := by
  subst hv
  subst hQ
  obtain ⟨hx, hb, hr, hml, hown, hts, hlocks, hA, hK, hE⟩ := X
  exact W.widen (k := mc) (n := ms) hc hs (vx_ret (W.iret (v := v) hx hb hr (fun t ht hW => ⟨_, _, q, rfl, rfl, by rw [ht]; exact hP, hS.F ht⟩) hS.2.2 hd))
theorem retU_z {α : Type} (wf : α → Option Nat → va_W) (q : Option Nat) {v : Int32} {x : α} {res : (Nat × α) ⊕ (Int32 × α)} (hz : v = 0 ∨ v = 1) (hv : .inr (v, x) = res) (X : CX pr D sk sv tys y cc n (some .boolean) s m args meth c A) (hQ : vx_MQ below (QcU D A (oI wf res)) (XcU D A (oI wf res)) args s mc ms A = Q) (hP : va_P D vwCl (wf x q) H) (hS : va_S A s.heap H locs) (hc : cells ≤ mc) (hs : slots ≤ ms) (hd : decode cc pc = .ok (.ireturn, 1)) :
    W pr l e R s m args below meth c H locs cells slots Q (F0 m pc ls [.int v]) := by
  subst hv
  subst hQ
  obtain ⟨hx, hb, hr, hml, hown, hts, hlocks, hA, hK, hE⟩ := X
  exact W.widen (k := mc) (n := ms) hc hs (vx_ret (W.zret (v := v) (ty := .boolean) hx hb hr (nz_bool hz).1 (fun t ht hW => ⟨_, _, q, rfl, rfl, by rw [ht]; exact hP, hS.F ht⟩) hS.2.2 hd))
theorem retU_v {α : Type} (wf : α → Option Nat → va_W) (q : Option Nat) {x : α} {res : (Nat × α) ⊕ α} (hv : .inr x = res) (X : CX pr D sk sv tys y cc n none s m args meth c A) (hQ : vx_MQ below (QcU D A (oV wf res)) (XcU D A (oV wf res)) args s mc ms A = Q) (hP : va_P D vwCl (wf x q) H) (hS : va_S A s.heap H locs) (hc : cells ≤ mc) (hs : slots ≤ ms) (hd : decode cc pc = .ok (.return_, 1)) :
    W pr l e R s m args below meth c H locs cells slots Q (F0 m pc ls []) := by
  subst hv
  subst hQ
  obtain ⟨hx, hb, hr, hml, hown, hts, hlocks, hA, hK, hE⟩ := X
  exact W.widen (k := mc) (n := ms) hc hs (vx_ret (W.vret hx hb hr (fun t ht hW => ⟨_, _, q, rfl, rfl, by rw [ht]; exact hP, hS.F ht⟩) hS.2.2 hd))
theorem P_up {w : va_W} {t : State} (hP : va_P D vwCl w H) (h : ∀ q : Nat, q < H.size → t.heap[q]? = H[q]?) : va_P D vwCl w t.heap := fun i q hq => (hP i q hq).kept (h q.1 (hP i q hq).lt)
abbrev exL : List String := ["java/lang/RuntimeException", "java/lang/Exception"]
def atOK (own : String) (ic k : Nat) : Prop := (∀ w ∈ vx_atS own ic (exn k) exL, w ∈ WG ∨ w ∈ nwTab) ∧ Bundle.fit (exn k) = true ∧ (∀ w ∈ vx_atS own ic (exn k) exL, vx_ot w = true)
theorem thr_S {ik is ic ti k : Nat} {text : String} {w' : Option Nat → va_W} {res : RU} (q9 : Option Nat) (hv : .inl (k, w') = res) (X : CX pr D sk sv tys y cc n rt s m args meth c A) (hT : ∀ x ∈ c.exceptionTable.toList, False) (hst : l.stackTraces = false) (hat : atOK y.cls ic k) (m1 : Cond.classLink y.cls ik (exn k) ∈ WG) (m2 : Cond.initialized (exn k) ∈ WG) (hstr : (y.cls, is, text, ti) ∈ strTab)
    (hQ : vx_MQ below (QcU D A res) (XcU D A res) args s mc ms A = Q) (hP : va_P D vwCl (w' q9) H) (hS : va_S A s.heap H locs) (hsize : ls.size = n) (d0 : decode cc pc = .ok (.new ik, 3)) (d3 : decode cc (pc + 3) = .ok (.dup, 1)) (d4 : decode cc (pc + 4) = .ok (.ldc is, 2)) (d6 : decode cc (pc + 6) = .ok (.invokespecial ic, 3)) (d9 : decode cc (pc + 9) = .ok (.athrow, 1))
    (h1 : 5 < R.frames) (h2 : (rest.map fun v => v.category).sum + 82 ≤ R.locals) (h3 : cells + 1 ≤ R.cells) (h4 : slots + 6 ≤ R.slots) (hc : cells + 1 ≤ mc) (hs : slots + 6 ≤ ms) :
    W pr l e R s m args below meth c H locs cells slots Q (F0 m pc ls rest) := by
  subst hv
  subst hQ
  obtain ⟨hx, hb, hr, hml, hown, hts, hlocks, hA, hK, hE⟩ := X
  have ok : ∀ w ∈ WG, w.before args s = true := fun w h => hts w (List.mem_cons_of_mem _ h)
  refine vx_throwS (names := exL) hx hb hst hown hat.2.1 (by decide +kernel) (ok _ m1) (ok _ m2) (hE.2.2.2.2.1 _ hstr) (fun w hw => (hat.1 w hw).elim (fun h => ok w h) (fun h => va_Nw.use (nw_tab (nwTab_ok w h)) (hE.2.2.2.2.2.1 w h))) ?_ hE.2.2.2.1.1 hE.2.2.2.1.2 hS (hsize.trans hml.symm) d0 d3 d4 d6 d9 (fun x h => absurd h (fun h => hT x h)) h1 h2 h3 h4 hlocks (fun t ht hz hk => ⟨k, w', q9, rfl, rfl, P_up hP hk, ?_⟩) hS.2.2 hc hs
  · intro w hw
    rcases List.mem_cons.mp hw with h | h
    · rw [h]; rfl
    · rcases List.mem_cons.mp h with h | h
      · rw [h]; rfl
      · exact hat.2.2 w h
  · exact ⟨Nat.le_trans hS.1 hz, fun q q1 q2 => by rw [hk q (Nat.lt_of_lt_of_le q1 hS.1)]; exact hS.2.1 q q1 q2⟩
theorem thr_W {ik is ic ti k : Nat} {text : String} {w' : Option Nat → va_W} {res : RU} (q9 : Option Nat) (hv : .inl (k, w') = res) (X : CX pr D sk sv tys y cc n rt s m args meth c A) (hT : ∀ x ∈ c.exceptionTable.toList, False) (hst : l.stackTraces = false) (hat : atOK y.cls ic k) (m1 : Cond.classLink y.cls ik (exn k) ∈ WG) (m2 : Cond.initialized (exn k) ∈ WG) (hstr : (y.cls, is, text, ti) ∈ strTab)
    (hQ : vx_MQ below (QcU D A res) (XcU D A res) args s mc ms A = Q) (hP : va_P D vwCl (w' q9) H) (hS : va_S A s.heap H locs) (hsize : ls.size = n) (d0 : decode cc pc = .ok (.new ik, 3)) (d3 : decode cc (pc + 3) = .ok (.dup, 1)) (d4 : decode cc (pc + 4) = .ok (.ldc_w is, 3)) (d7 : decode cc (pc + 7) = .ok (.invokespecial ic, 3)) (d10 : decode cc (pc + 10) = .ok (.athrow, 1))
    (h1 : 5 < R.frames) (h2 : (rest.map fun v => v.category).sum + 82 ≤ R.locals) (h3 : cells + 1 ≤ R.cells) (h4 : slots + 6 ≤ R.slots) (hc : cells + 1 ≤ mc) (hs : slots + 6 ≤ ms) :
    W pr l e R s m args below meth c H locs cells slots Q (F0 m pc ls rest) := by
  subst hv
  subst hQ
  obtain ⟨hx, hb, hr, hml, hown, hts, hlocks, hA, hK, hE⟩ := X
  have ok : ∀ w ∈ WG, w.before args s = true := fun w h => hts w (List.mem_cons_of_mem _ h)
  refine vx_throwSW (names := exL) hx hb hst hown hat.2.1 (by decide +kernel) (ok _ m1) (ok _ m2) (hE.2.2.2.2.1 _ hstr) (fun w hw => (hat.1 w hw).elim (fun h => ok w h) (fun h => va_Nw.use (nw_tab (nwTab_ok w h)) (hE.2.2.2.2.2.1 w h))) ?_ hE.2.2.2.1.1 hE.2.2.2.1.2 hS (hsize.trans hml.symm) d0 d3 d4 d7 d10 (fun x h => absurd h (fun h => hT x h)) h1 h2 h3 h4 hlocks (fun t ht hz hk => ⟨k, w', q9, rfl, rfl, P_up hP hk, ?_⟩) hS.2.2 hc hs
  · intro w hw
    rcases List.mem_cons.mp hw with h | h
    · rw [h]; rfl
    · rcases List.mem_cons.mp h with h | h
      · rw [h]; rfl
      · exact hat.2.2 w h
  · exact ⟨Nat.le_trans hS.1 hz, fun q q1 q2 => by rw [hk q (Nat.lt_of_lt_of_le q1 hS.1)]; exact hS.2.1 q q1 q2⟩
/-! calls by places -/
/-- the callee's cells stand at the places isC, the others at isR; ps puts them back -/
def Plc (ws wc wc' ws' : va_W) (isC isR : List Nat) (wr : va_W) (ps : List Nat) : Prop :=
  isC.map (fun i => ws[i]?) = wc.map some ∧ isR.map (fun i => ws[i]?) = wr.map some ∧ va_nd isC = true ∧ va_nd isR = true ∧ (∀ i ∈ isR, i ∉ isC) ∧ wc'.map Prod.fst = wc.map Prod.fst ∧ ps.filterMap (fun i => (wr ++ wc')[i]?) = ws'
theorem Plc.P {ws wc wc' ws' wr : va_W} {isC isR ps : List Nat} {H1 : Heap} (h : Plc ws wc wc' ws' isC isR wr ps) (hP : va_P D vwCl ws H) (hD : va_D A ws) (hk : ∀ q : Nat, q < H.size → ¬ va_A wc H.size q → H1[q]? = H[q]?) (hF : ∀ q, va_A wc H.size q → A q) (h1 : va_P D vwCl wc' H1) : va_P D vwCl ws' H1 :=
  (va_join hP hD isC isR h.1 h.2.1 h.2.2.2.1 h.2.2.2.2.1 hk hF h1 (D_fst h.2.2.2.2.2.1 (hD.sub isC h.2.2.1 h.1).self)).1.sub ps h.2.2.2.2.2.2
theorem Plc.C {ws wc wc' ws' wr : va_W} {isC isR ps : List Nat} (h : Plc ws wc wc' ws' isC isR wr ps) (hP : va_P D vwCl ws H) : va_P D vwCl wc H := fun k q hq => by
  have h1 : (isC.map (fun i => ws[i]?))[k]? = some (some q) := by rw [h.1, List.getElem?_map, hq]; rfl
  rw [List.getElem?_map] at h1
  cases hi : isC[k]? with
  | none => rw [hi] at h1; cases h1
  | some i => rw [hi] at h1; exact hP i q (Option.some.inj h1)
theorem Plc.F {ws wc wc' ws' wr : va_W} {isC isR ps : List Nat} (h : Plc ws wc wc' ws' isC isR wr ps) (hD : va_D A ws) (hS : va_S A s.heap H locs) (hA : ∀ q : Nat, s.heap.size ≤ q → A q) : ∀ q, va_A wc H.size q → A q := va_free hD hS hA isC h.1
theorem Plc.E {ws wc wc' ws' wr : va_W} {isC isR ps : List Nat} (h : Plc ws wc wc' ws' isC isR wr ps) (hE : EN sk sv A s s.heap) (hD : va_D A ws) (hS : va_S A s.heap H locs) (hA : ∀ q : Nat, s.heap.size ≤ q → A q) {U : State} (hU : U.heap = H) (hW : s.WarmedH U.vm) : EN sk sv (va_A wc U.heap.size) U U.heap := by
  rw [hU]
  exact ((hE.kept (fun a h1 h2 => hS.2.1 a h1 h2)).narrow (h.F hD hS hA)).warm hW
theorem Plc.Dc {ws wc wc' ws' wr : va_W} {isC isR ps : List Nat} (h : Plc ws wc wc' ws' isC isR wr ps) (hD : va_D A ws) : va_D A wc := hD.sub isC h.2.2.1 h.1
theorem call_Q {y' : MethodName} {cc' : ByteArray} {n' : Nat} {rt' : Option FieldType} {rm' : Room} {b ci index : Nat} {fs As : List Value} {cq : vw_C} {ws ws' wc wc' wr : va_W} {v : Option Value} (isC isR ps : List Nat) (X : CX pr D sk sv tys y cc n rt s m args meth c A) (hM : CT l D sk sv tys y' cc' n' rt' rm' (.ref b :: As) wc v wc')
    (m1 : Cond.methodLink y.cls index y' ∈ WG) (m2 : Cond.instanceMethod y' ∈ WG) (m3 : Cond.selects y'.cls y' y' ∈ WG) (m4 : Cond.initialized y'.cls ∈ WG) (m5 : Cond.code y' cc' n' rt' ∈ WG)
    (hd : y'.cls ≠ "java/lang/invoke/MethodHandle" ∧ y'.cls ≠ "java/lang/invoke/VarHandle" ∧ (parseMethodDescriptor y'.desc).map (fun d => d.parameters.length) = some As.length) (hR : rm'.frames + 1 ≤ R.frames ∧ 8 + (n' + 11) + rm'.locals ≤ R.locals) (hrc : rm'.cells = 0) (hrs : rm'.slots = 0) (hcs : cells ≤ R.cells ∧ slots ≤ R.slots)
    (hpl : Plc ws wc wc' ws' isC isR wr ps) (hP : va_P D vwCl ws H) (hD : va_D A ws) (hS : va_S A s.heap H locs) (q0 : Nat) (he : wc[q0]? = some (b, .inr (ci, fs))) (hc : vwCl[ci]? = some cq) (hcq : cq.1 = y'.cls) (hsize : ls.size = n) (hrest : (rest.map fun v => v.category).sum ≤ 8) (hdg : decode cc pc = .ok (.invokevirtual index, 3))
    (kk : ∀ (H1 : Heap) (locs1 : List Loc), va_P D vwCl ws' H1 → va_S A s.heap H1 locs1 → W pr l e R s m args below meth c H1 locs1 cells slots Q (F0 m (pc + 3) ls (v.toList ++ rest))) : W pr l e R s m args below meth c H locs cells slots Q (F0 m pc ls (As.reverse ++ .ref b :: rest)) := by
  obtain ⟨hx, hb, hr, hml, hown, hts, hlocks, hA, hK, hE⟩ := X
  have ok : ∀ w ∈ WG, w.before args s = true := fun w h => hts w (List.mem_cons_of_mem _ h)
  have hcw : CallW R s args y.cls y'.cls index y' cc' n' rt' (wsG y' cc' n' rt') rm' 0 0 As.length := ⟨callB_of As.length hts (wg_good (fun w h => (List.mem_cons.mp h).elim (fun e => by rw [e]; exact m5) (fun h => h))) rfl hrc hrs (ok _ m4) (ok _ m1) hd hR, ok _ m2, ok _ m3⟩
  have hr9 := va_runV (p := pr) (l := l) (e := e) (below := below) (meth := meth) (H := H) (locs := locs) (cells := cells) (slots := slots) (g := F0 m pc ls (As.reverse ++ .ref b :: rest)) (As := As) (rest := rest) (nL := n) (Ts := wsG y cc n rt) (own := y.cls) (C := y'.cls) ⟨hx, hb, hml, hown, hts⟩ (hM H.size) hcw ⟨fun a U g mk q => by
    obtain ⟨q0, q1, qP, qK, qD, qE⟩ := q
    exact ⟨q0, q1, qP, va_K.moved (u := U) (U := U.calling g mk a) (Vm.Alike.refl U.vm) qK, qD, EN.same (u := U) (U := U.calling g mk a) rfl qE⟩, by
    obtain ⟨cell, r1, r2, r3⟩ := va_recv hK (hpl.C hP) hc he
    exact ⟨cell, r1, r2, by rw [← hcq]; exact r3⟩, fun U hU hW => ⟨rfl, by rw [hU], by rw [hU]; exact hpl.C hP, va_K.moved hW.alike hK, (hpl.Dc hD).weaken (fun _ _ _ _ => trivial), by rw [← hU]; exact hpl.E hE hD hS hA hU hW⟩⟩ rfl rfl hsize rfl (lv_room hrest) hdg ⟨hcs.1, hcs.2⟩
  intro T hT X
  have hF := hpl.F hD hS hA
  obtain ⟨v0, st₀, t, T', L, h0, X', hL, e1, e2, ⟨hv, hp1, hz, hk⟩, st⟩ := hr9 T hT X
  cases hv
  rw [h0] at hz hk
  obtain ⟨t2, a1, b1⟩ := kk T'.heap (locs ++ L) (by rw [e1]; exact hpl.P hP hD hk hF hp1)
    ⟨Nat.le_trans hS.1 (by rw [e1]; exact hz), fun q h1 h2 => by rw [e1, hk q (Nat.lt_of_lt_of_le h1 hS.1) (fun z => h2 (hF q z))]; exact hS.2.1 q h1 h2, fun q hq => by
      rcases List.mem_append.mp hq with h | h
      · exact hS.2.2 q h
      · exact hF _ (hL q h)⟩ T' rfl X'
  exact ⟨t2, st t2 a1, b1⟩
theorem runU {y' : MethodName} {cc' : ByteArray} {n' : Nat} {rt' : Option FieldType} {rm' : Room} {b ci index mc' ms' : Nat} {fs As : List Value} {cq : vw_C} {ws ws' wc wc' wr : va_W} {res' : RU} {isC isR ps : List Nat} (X : CX pr D sk sv tys y cc n rt s m args meth c A) (hM : CU l D sk sv tys y' cc' n' rt' rm' mc' ms' (.ref b :: As) wc res')
    (m1 : Cond.methodLink y.cls index y' ∈ WG) (m2 : Cond.instanceMethod y' ∈ WG) (m3 : Cond.selects y'.cls y' y' ∈ WG) (m4 : Cond.initialized y'.cls ∈ WG) (m5 : Cond.code y' cc' n' rt' ∈ WG)
    (hd : y'.cls ≠ "java/lang/invoke/MethodHandle" ∧ y'.cls ≠ "java/lang/invoke/VarHandle" ∧ (parseMethodDescriptor y'.desc).map (fun d => d.parameters.length) = some As.length) (hR : rm'.frames + 1 ≤ R.frames ∧ 8 + (n' + 11) + rm'.locals ≤ R.locals) (hrc : rm'.cells = mc') (hrs : rm'.slots = ms') (hcs : cells + mc' ≤ R.cells ∧ slots + ms' ≤ R.slots)
    (hpl : Plc ws wc wc' ws' isC isR wr ps) (hP : va_P D vwCl ws H) (hD : va_D A ws) (hS : va_S A s.heap H locs) (q0 : Nat) (he : wc[q0]? = some (b, .inr (ci, fs))) (hc : vwCl[ci]? = some cq) (hcq : cq.1 = y'.cls) (hsize : ls.size = n) (hrest : (rest.map fun v => v.category).sum ≤ 8) (hdg : decode cc pc = .ok (.invokevirtual index, 3)) :
    vx_Run pr l e R s m args below meth c H locs cells slots mc' ms' (F0 m pc ls (As.reverse ++ .ref b :: rest)) rest (QcU D (va_A wc H.size) res' (Value.ref b :: As).toArray) (XcU D (va_A wc H.size) res') (va_A wc H.size) := by
  obtain ⟨hx, hb, hr, hml, hown, hts, hlocks, hA, hK, hE⟩ := X
  have ok : ∀ w ∈ WG, w.before args s = true := fun w h => hts w (List.mem_cons_of_mem _ h)
  have hcw : CallW R s args y.cls y'.cls index y' cc' n' rt' (wsG y' cc' n' rt') rm' mc' ms' As.length := ⟨callB_of As.length hts (wg_good (fun w h => (List.mem_cons.mp h).elim (fun e => by rw [e]; exact m5) (fun h => h))) rfl hrc hrs (ok _ m4) (ok _ m1) hd hR, ok _ m2, ok _ m3⟩
  exact vx_runV (g := F0 m pc ls (As.reverse ++ .ref b :: rest)) (As := As) (rest := rest) (nL := n) (Ts := wsG y cc n rt) (own := y.cls) (C := y'.cls) ⟨hx, hb, hml, hown, hts⟩ (hM H.size) hcw ⟨fun a U g mk q => by
    obtain ⟨q0, q1, qP, qK, qD, qE⟩ := q
    exact ⟨q0, q1, qP, va_K.moved (u := U) (U := U.calling g mk a) (Vm.Alike.refl U.vm) qK, qD, EN.same (u := U) (U := U.calling g mk a) rfl qE⟩, by
    obtain ⟨cell, r1, r2, r3⟩ := va_recv hK (hpl.C hP) hc he
    exact ⟨cell, r1, r2, by rw [← hcq]; exact r3⟩, fun U hU hW => ⟨rfl, by rw [hU], by rw [hU]; exact hpl.C hP, va_K.moved hW.alike hK, (hpl.Dc hD).weaken (fun _ _ _ _ => trivial), by rw [← hU]; exact hpl.E hE hD hS hA hU hW⟩⟩ rfl rfl hsize rfl (lv_room hrest) hdg ⟨hcs.1, hcs.2⟩
/-- .. it returns -/
theorem callU_n {y' : MethodName} {cc' : ByteArray} {n' : Nat} {rt' : Option FieldType} {rm' : Room} {b ci index mc' ms' : Nat} {fs As : List Value} {cq : vw_C} {ws ws' wc wc' wr : va_W} {v : Option Value} (isC isR ps : List Nat) (X : CX pr D sk sv tys y cc n rt s m args meth c A) (hM : CU l D sk sv tys y' cc' n' rt' rm' mc' ms' (.ref b :: As) wc (.inr (v, fun _ => wc')))
    (m1 : Cond.methodLink y.cls index y' ∈ WG) (m2 : Cond.instanceMethod y' ∈ WG) (m3 : Cond.selects y'.cls y' y' ∈ WG) (m4 : Cond.initialized y'.cls ∈ WG) (m5 : Cond.code y' cc' n' rt' ∈ WG)
    (hd : y'.cls ≠ "java/lang/invoke/MethodHandle" ∧ y'.cls ≠ "java/lang/invoke/VarHandle" ∧ (parseMethodDescriptor y'.desc).map (fun d => d.parameters.length) = some As.length) (hR : rm'.frames + 1 ≤ R.frames ∧ 8 + (n' + 11) + rm'.locals ≤ R.locals) (hrc : rm'.cells = mc') (hrs : rm'.slots = ms') (hcs : cells + mc' ≤ R.cells ∧ slots + ms' ≤ R.slots)
    (hpl : Plc ws wc wc' ws' isC isR wr ps) (hP : va_P D vwCl ws H) (hD : va_D A ws) (hS : va_S A s.heap H locs) (q0 : Nat) (he : wc[q0]? = some (b, .inr (ci, fs))) (hc : vwCl[ci]? = some cq) (hcq : cq.1 = y'.cls) (hsize : ls.size = n) (hrest : (rest.map fun v => v.category).sum ≤ 8) (hdg : decode cc pc = .ok (.invokevirtual index, 3))
    (kk : ∀ (H1 : Heap) (locs1 : List Loc), va_P D vwCl ws' H1 → va_S A s.heap H1 locs1 → W pr l e R s m args below meth c H1 locs1 (cells + mc') (slots + ms') Q (F0 m (pc + 3) ls (v.toList ++ rest))) : W pr l e R s m args below meth c H locs cells slots Q (F0 m pc ls (As.reverse ++ .ref b :: rest)) := by
  have hr9 := runU (e := e) (below := below) (rest := rest) X hM m1 m2 m3 m4 m5 hd hR hrc hrs hcs hpl hP hD hS q0 he hc hcq hsize hrest hdg
  obtain ⟨hx, hb, hr, hml, hown, hts, hlocks, hA, hK, hE⟩ := X
  intro T hT X
  have hF := hpl.F hD hS hA
  rcases hr9 T hT X with ⟨v0, st₀, t, T', L, h0, X', hL, e1, e2, ⟨v1, w1, q1, hv1, hv, hp1, hz, hk⟩, st⟩ | ⟨q, st₀, t, T', L, E, ce, h0, X', hL, e1, e2, ⟨k1, w1, q1, hv1, -⟩, -⟩
  · cases hv1
    cases hv
    rw [h0] at hz hk
    obtain ⟨t2, a1, b1⟩ := kk T'.heap (locs ++ L) (by rw [e1]; exact hpl.P hP hD hk hF hp1)
      ⟨Nat.le_trans hS.1 (by rw [e1]; exact hz), fun q h1 h2 => by rw [e1, hk q (Nat.lt_of_lt_of_le h1 hS.1) (fun z => h2 (hF q z))]; exact hS.2.1 q h1 h2, fun q hq => by
        rcases List.mem_append.mp hq with h | h
        · exact hS.2.2 q h
        · exact hF _ (hL q h)⟩ T' rfl X'
    exact ⟨t2, st t2 a1, b1⟩
  · cases hv1
/-- .. it throws, and so does the caller -/
theorem callU_t {y' : MethodName} {cc' : ByteArray} {n' : Nat} {rt' : Option FieldType} {rm' : Room} {b ci index mc' ms' k : Nat} {fs As : List Value} {cq : vw_C} {ws ws' wc wc' wr : va_W} {wF : Option Nat → va_W} {res : RU} (isC isR ps : List Nat) (q9 : Option Nat) (hw9 : wF q9 = ws') (hv : .inl (k, wF) = res) (X : CX pr D sk sv tys y cc n rt s m args meth c A) (hT0 : ∀ x ∈ c.exceptionTable.toList, False) (hQ : vx_MQ below (QcU D A res) (XcU D A res) args s mc ms A = Q) (hM : CU l D sk sv tys y' cc' n' rt' rm' mc' ms' (.ref b :: As) wc (.inl (k, fun _ => wc')))
    (m1 : Cond.methodLink y.cls index y' ∈ WG) (m2 : Cond.instanceMethod y' ∈ WG) (m3 : Cond.selects y'.cls y' y' ∈ WG) (m4 : Cond.initialized y'.cls ∈ WG) (m5 : Cond.code y' cc' n' rt' ∈ WG)
    (hd : y'.cls ≠ "java/lang/invoke/MethodHandle" ∧ y'.cls ≠ "java/lang/invoke/VarHandle" ∧ (parseMethodDescriptor y'.desc).map (fun d => d.parameters.length) = some As.length) (hR : rm'.frames + 1 ≤ R.frames ∧ 8 + (n' + 11) + rm'.locals ≤ R.locals) (hrc : rm'.cells = mc') (hrs : rm'.slots = ms') (hcs : cells + mc' ≤ R.cells ∧ slots + ms' ≤ R.slots)
    (hpl : Plc ws wc wc' ws' isC isR wr ps) (hP : va_P D vwCl ws H) (hD : va_D A ws) (hS : va_S A s.heap H locs) (q0 : Nat) (he : wc[q0]? = some (b, .inr (ci, fs))) (hc : vwCl[ci]? = some cq) (hcq : cq.1 = y'.cls) (hsize : ls.size = n) (hrest : (rest.map fun v => v.category).sum ≤ 8) (hdg : decode cc pc = .ok (.invokevirtual index, 3)) (hc1 : cells + mc' ≤ mc) (hs1 : slots + ms' ≤ ms) :
    W pr l e R s m args below meth c H locs cells slots Q (F0 m pc ls (As.reverse ++ .ref b :: rest)) := by
  subst hv
  subst hQ
  have hr9 := runU (e := e) (below := below) (rest := rest) X hM m1 m2 m3 m4 m5 hd hR hrc hrs hcs hpl hP hD hS q0 he hc hcq hsize hrest hdg
  obtain ⟨hx, hb, hr, hml, hown, hts, hlocks, hA, hK, hE⟩ := X
  intro T hT X
  have hF := hpl.F hD hS hA
  rcases hr9 T hT X with ⟨v0, st₀, t, T', L, h0, X', hL, e1, e2, ⟨v1, w1, q1, hv1, -⟩, -⟩ | ⟨q, st₀, t, T', L, E, ce, h0, X', hL, e1, e2, ⟨k1, w1, q1, hv1, hE1, hp1, hz, hk⟩, hce, hcv, hcl, st⟩
  · cases hv1
  · cases hv1
    rw [h0] at hz hk
    have hS1 : va_S A s.heap T'.heap (locs ++ L) := ⟨Nat.le_trans hS.1 (by rw [e1]; exact hz), fun q h1 h2 => by rw [e1, hk q (Nat.lt_of_lt_of_le h1 hS.1) (fun z => h2 (hF q z))]; exact hS.2.1 q h1 h2, fun q hq => by
        rcases List.mem_append.mp hq with h | h
        · exact hS.2.2 q h
        · exact hF _ (hL q h)⟩
    have hP1 : va_P D vwCl ws' T'.heap := by rw [e1]; exact hpl.P hP hD hk hF hp1
    obtain ⟨t2, a1, b1⟩ := vx_out (pc := pc) (ls := ls) (rest := rest) (mc := mc) (ms := ms) (E := E) (Qc := QcU D A (.inl (k, wF))) (XC := XcU D A (.inl (k, wF))) (free := A) (fun x h => absurd h (fun h => hT0 x h)) hlocks (by rw [e1]; exact hce) hcv hcl (fun t9 h9 _ => ⟨k, wF, q9, rfl, hE1, by rw [h9, hw9]; exact hP1, hS1.F h9⟩) hS1.2.2 hc1 hs1 T' rfl X'
    exact ⟨t2, st.trans a1, b1⟩
end UU
