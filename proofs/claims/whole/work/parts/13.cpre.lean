/-! methods that make cells: constructors -/
def QN {υ : Type} (D : va_G) (A : Nat → Prop) (vf : υ → Option Value) (wf : υ → va_W) : Array Value → State → Outcome → State → Prop := fun _ st oc t => (∃ u, oc = .returned (vf u) ∧ va_P D vwCl (wf u) t.heap ∧ va_D A (wf u)) ∧ va_F A st t
def CR (l : Launch) (D : va_G) (sk sv : Nat → Nat) (tys : List (ClassId × FieldType)) (y : MethodName) (cc : ByteArray) (n : Nat) (rt : Option FieldType) (rm : Room) (mc ms : Nat) (av : List Value) (w : va_W) {υ : Type} (vf : υ → Option Value) (wf : υ → va_W) : Prop :=
  ∀ sz : Nat, Met l y (wsG y cc n rt) rm (va_Pc av (fun U => U.heap.size = sz ∧ va_P D vwCl w U.heap ∧ va_K D vwCl tys U ∧ va_D (fun _ => True) w ∧ EN sk sv (va_A w sz) U U.heap)) (QN D (va_A w sz) vf wf) mc ms (va_A w sz)
abbrev CN (l : Launch) (D : va_G) (sk sv : Nat → Nat) (tys : List (ClassId × FieldType)) (y : MethodName) (cc : ByteArray) (n : Nat) (rm : Room) (mc ms : Nat) (av : List Value) (w : va_W) {υ : Type} (wf : υ → va_W) : Prop := CR l D sk sv tys y cc n none rm mc ms av w (fun _ => none) wf
theorem ofCR {l : Launch} {D : va_G} {sk sv : Nat → Nat} {tys : List (ClassId × FieldType)} {y : MethodName} {cc : ByteArray} {n : Nat} {rt : Option FieldType} {rm : Room} {mc ms : Nat} {av : List Value} {w : va_W} {υ : Type} {vf : υ → Option Value} {wf : υ → va_W} (hy : plainName y.cls = true) (hlen : (lg_sl av).length ≤ n)
    (body : ∀ (pr : Program) (e : Env) (s : State) (m : MethodId) (args : Array Value) (below : List Frame) (meth : Method) (c : Code) (A : Nat → Prop) (Q : State → Prop) (ls : Array Slot) (H : Heap) (locs : List Loc), CX pr D sk sv tys y cc n rt s m args meth c A → meth.name = y.name → MQ below (QN D A vf wf) args s mc ms A = Q → va_D A w → va_P D vwCl w H → va_S A s.heap H locs → lv_has ls n (lv_args 0 av) →
      W pr l e rm s m args below meth c H locs 0 0 Q (F0 m 0 ls [])) : CR l D sk sv tys y cc n rt rm mc ms av w vf wf := by
  intro sz
  refine Met.ofW (cc := cc) (maxL := n) (ret := rt) hy rfl ?_
  intro pr e s m args below meth c s₁ B hml hv
  obtain ⟨rfl, hsz, hP, hK, hD0, hE⟩ := hv
  have hts := atoms_spec (ws := wsG y cc n rt) B.pre
  have hown : s.vm.findClass y.cls = some m.cls := findClass_of_methodNamed B.named
  subst hsz
  have hD := hD0.self (sz := s.heap.size)
  have hl := lv_entry av (n := n) hlen
  rw [lg_entry_eq]
  exact body pr e s m av.toArray below meth c (va_A w s.heap.size) _ _ s.heap [] ⟨B.exec, B.bytes, B.returns, hml, hown, hts, B.notSynchronized, fun q h => Or.inr h, hK, hE⟩ (name_of_methodNamed B.named B.method).1 rfl hD hP va_S.rf hl
/-- the object's own address, the rows' ones -/
def ad (h : Nat) (a : Nat → Nat) : Nat → Nat := fun i => bif Nat.beq i 0 then h else a i
section CC
variable {pr : Program} {l : Launch} {e : Env} {R : Room} {D : va_G} {sk sv : Nat → Nat} {tys : List (ClassId × FieldType)} {y : MethodName} {cc : ByteArray} {n : Nat} {rt : Option FieldType} {s : State} {m : MethodId} {args : Array Value} {below : List Frame} {meth : Method} {c : Code} {A : Nat → Prop} {H : Heap} {locs : List Loc} {cells slots : Nat} {Q : State → Prop} {pc : Nat} {ls : Array Slot} {rest : List Value} {mc ms : Nat}
theorem ret_N {υ : Type} {wf : υ → va_W} (u : υ) (X : CX pr D sk sv tys y cc n none s m args meth c A) (hQ : MQ below (QN D A (fun _ => none) wf) args s mc ms A = Q) (hP : va_P D vwCl (wf u) H) (hD : va_D A (wf u)) (hS : va_S A s.heap H locs) (hc : cells ≤ mc) (hs : slots ≤ ms) (hd : decode cc pc = .ok (.return_, 1)) :
    W pr l e R s m args below meth c H locs cells slots Q (F0 m pc ls []) := by
  subst hQ
  obtain ⟨hx, hb, hr, hml, hown, hts, hlocks, hA, hK, hE⟩ := X
  exact W.widen (k := mc) (n := ms) hc hs (W.vret hx hb hr (fun t ht hW => ⟨⟨u, rfl, by rw [ht]; exact hP, hD⟩, hS.F ht⟩) hS.2.2 hd)
theorem ret_Na {υ : Type} {vf : υ → Option Value} {wf : υ → va_W} (u : υ) {b : Nat} {ty : FieldType} (hty : (∃ C, ty = .object C) ∨ ∃ t, ty = .array t) (hv : vf u = some (.ref b)) (X : CX pr D sk sv tys y cc n (some ty) s m args meth c A) (hQ : MQ below (QN D A vf wf) args s mc ms A = Q) (hP : va_P D vwCl (wf u) H) (hD : va_D A (wf u)) (hS : va_S A s.heap H locs) (hc : cells ≤ mc) (hs : slots ≤ ms) (hd : decode cc pc = .ok (.areturn, 1)) :
    W pr l e R s m args below meth c H locs cells slots Q (F0 m pc ls [.ref b]) := by
  subst hQ
  obtain ⟨hx, hb, hr, hml, hown, hts, hlocks, hA, hK, hE⟩ := X
  exact W.widen (k := mc) (n := ms) hc hs (W.aret (v := .ref b) hx hb hr hty (Or.inr ⟨b, rfl⟩) (fun t ht hW => ⟨⟨u, by rw [hv], by rw [ht]; exact hP, hD⟩, hS.F ht⟩) hS.2.2 hd)
theorem r_obj {idx a : Nat} (X : CX pr D sk sv tys y cc n rt s m args meth c A) (m1 : Cond.methodLink y.cls idx Lib.objectInit ∈ WG) (m2 : Cond.instanceMethod Lib.objectInit ∈ WG) (m3 : Cond.code Lib.objectInit ⟨#[0xb1]⟩ 1 none ∈ WG) (hsize : ls.size = n) (hd : decode cc pc = .ok (.invokespecial idx, 3)) (h1 : 1 ≤ R.frames) (h2 : 12 ≤ R.locals)
    (kk : W pr l e R s m args below meth c H locs cells slots Q (F0 m (pc + 3) ls [])) : W pr l e R s m args below meth c H locs cells slots Q (F0 m pc ls [.ref a]) := by
  have ok : ∀ w ∈ WG, w.before args s = true := fun w h => X.2.2.2.2.2.1 w (List.mem_cons_of_mem _ h)
  exact W.objInit X.1 X.2.1 X.2.2.2.2.1 (ok _ m1) (ok _ m2) (ok _ m3) rfl (hsize.trans X.2.2.2.1.symm) rfl hd h1 h2 kk
theorem r_newi {ws : va_W} {c0 : ClassId} {Ni : Int32} {N : Nat} (X : CX pr D sk sv tys y cc n rt s m args meth c A) (m1 : Cond.arrayClass .int ∈ WG) (ht : tys[0]? = some (c0, .int)) (hN : ¬ Ni < 0 ∧ Ni.toNatClampNeg = N ∧ N * 4 ≤ 536870912) (hP : va_P D vwCl ws H) (hD : va_D A ws) (hS : va_S A s.heap H locs) (hc : cells + 1 ≤ R.cells) (hs : slots + N ≤ R.slots) (hd : decode cc pc = .ok (.newarray .int, 2))
    (kk : ∀ (q : Nat) (H1 : Heap), va_P D vwCl (ws ++ [(q, .inl (c0, N, .inl (fun _ => 0)))]) H1 → va_D A (ws ++ [(q, .inl (c0, N, .inl (fun _ => 0)))]) → va_S A s.heap H1 locs → W pr l e R s m args below meth c H1 locs (cells + 1) (slots + N) Q (F0 m (pc + 2) ls (.ref q :: rest))) : W pr l e R s m args below meth c H locs cells slots Q (F0 m pc ls (.int Ni :: rest)) := by
  have ok : ∀ w ∈ WG, w.before args s = true := fun w h => X.2.2.2.2.2.1 w (List.mem_cons_of_mem _ h)
  refine va_newa (atype := .int) (ty := .int) (a0 := (N, .inl (fun _ => 0))) X.1 X.2.1 (ok _ m1) rfl X.2.2.2.2.2.2.2.2.1 hP hD hS X.2.2.2.2.2.2.2.1 (fun _ => rfl) hN.1 hN.2.1 hN.2.2 hc hs hd (fun q cA H1 hK1 h1 h2 h3 => ?_)
  have e1 : s.vm.findClass ("[" ++ FieldType.int.toString) = some c0 := (X.2.2.2.2.2.2.2.2.1.2 0 _ ht).2
  have e2 : s.vm.findClass ("[" ++ FieldType.int.toString) = some cA := (hK1.2 tys.length (cA, .int) (by rw [List.getElem?_append_right (Nat.le_refl _), Nat.sub_self]; rfl)).2
  obtain rfl : c0 = cA := Option.some.inj (e1.symm.trans e2)
  exact kk q H1 h1 h2 h3
theorem r_newz {ws : va_W} {c0 : ClassId} {Ni : Int32} {N : Nat} (X : CX pr D sk sv tys y cc n rt s m args meth c A) (m1 : Cond.arrayClass .boolean ∈ WG) (ht : tys[1]? = some (c0, .boolean)) (hN : ¬ Ni < 0 ∧ Ni.toNatClampNeg = N ∧ N * 1 ≤ 536870912) (hP : va_P D vwCl ws H) (hD : va_D A ws) (hS : va_S A s.heap H locs) (hc : cells + 1 ≤ R.cells) (hs : slots + N ≤ R.slots) (hd : decode cc pc = .ok (.newarray .boolean, 2))
    (kk : ∀ (q : Nat) (H1 : Heap), va_P D vwCl (ws ++ [(q, .inl (c0, N, .inl (fun _ => 0)))]) H1 → va_D A (ws ++ [(q, .inl (c0, N, .inl (fun _ => 0)))]) → va_S A s.heap H1 locs → W pr l e R s m args below meth c H1 locs (cells + 1) (slots + N) Q (F0 m (pc + 2) ls (.ref q :: rest))) : W pr l e R s m args below meth c H locs cells slots Q (F0 m pc ls (.int Ni :: rest)) := by
  have ok : ∀ w ∈ WG, w.before args s = true := fun w h => X.2.2.2.2.2.1 w (List.mem_cons_of_mem _ h)
  refine va_newa (atype := .boolean) (ty := .boolean) (a0 := (N, .inl (fun _ => 0))) X.1 X.2.1 (ok _ m1) rfl X.2.2.2.2.2.2.2.2.1 hP hD hS X.2.2.2.2.2.2.2.1 (fun _ => rfl) hN.1 hN.2.1 hN.2.2 hc hs hd (fun q cA H1 hK1 h1 h2 h3 => ?_)
  have e1 : s.vm.findClass ("[" ++ FieldType.boolean.toString) = some c0 := (X.2.2.2.2.2.2.2.2.1.2 1 _ ht).2
  have e2 : s.vm.findClass ("[" ++ FieldType.boolean.toString) = some cA := (hK1.2 tys.length (cA, .boolean) (by rw [List.getElem?_append_right (Nat.le_refl _), Nat.sub_self]; rfl)).2
  obtain rfl : c0 = cA := Option.some.inj (e1.symm.trans e2)
  exact kk q H1 h1 h2 h3
theorem r_new {ws : va_W} {C : String} {T : u_T} {N ci index : Nat} (ty0 : Nat → FieldType) (hty : ∀ k, k < N → parseFieldDescriptor (T k).2.2.1 = some (ty0 k)) {fs : List Value} (X : CX pr D sk sv tys y cc n rt s m args meth c A) (hin : ∀ w ∈ u_ws C T N, w ∈ WG) (m1 : Cond.classLink y.cls index C ∈ WG) (m2 : Cond.instantiable C N ∈ WG) (m3 : Cond.initialized C ∈ WG) (hci : vwCl[ci]? = some (C, T, N)) (hfs : ∀ j, j < N → defaultValue (ty0 j) = vp_V fs j) (hP : va_P D vwCl ws H) (hD : va_D A ws) (hS : va_S A s.heap H locs) (hc : cells + 1 ≤ R.cells) (hs : slots + N ≤ R.slots) (hd : decode cc pc = .ok (.new index, 3))
    (kk : ∀ (q : Nat) (H1 : Heap), va_P D vwCl (ws ++ [(q, .inr (ci, fs))]) H1 → va_D A (ws ++ [(q, .inr (ci, fs))]) → va_S A s.heap H1 locs → W pr l e R s m args below meth c H1 locs (cells + 1) (slots + N) Q (F0 m (pc + 3) ls (.ref q :: rest))) : W pr l e R s m args below meth c H locs cells slots Q (F0 m pc ls rest) := by
  have ok : ∀ w ∈ WG, w.before args s = true := fun w h => X.2.2.2.2.2.1 w (List.mem_cons_of_mem _ h)
  exact va_new (ci := ci) (C := C) (T := T) (N := N) X.1 X.2.1 X.2.2.2.2.2.1 (fun w h => List.mem_cons_of_mem _ (hin w h)) ty0 hty X.2.2.2.2.1 (ok _ m1) (ok _ m2) (ok _ m3) X.2.2.2.2.2.2.2.2.1 hP hD hS X.2.2.2.2.2.2.2.1 hci hfs hc hs hd kk
theorem r_putF {C : String} {T : u_T} {N ci index a : Nat} {ws : va_W} (ty0 : Nat → FieldType) (hty : ∀ k, k < N → parseFieldDescriptor (T k).2.2.1 = some (ty0 k)) (hnm : ∀ a, a < N → ∀ b, b < N → a ≠ b → (T a).2.1 ≠ (T b).2.1) (X : CX pr D sk sv tys y cc n rt s m args meth c A) (hinit : meth.name = "<init>") (hin : ∀ w ∈ u_ws C T N, w ∈ WG) (hP : va_P D vwCl ws H) (hD : va_D A ws) (hS : va_S A s.heap H locs) (q0 : Nat) {fs : List Value} (he : ws[q0]? = some (a, .inr (ci, fs))) (hc : vwCl[ci]? = some (C, T, N)) (k : Nat) (hk : Nat.ble (k + 1) N = true) (hl : Cond.fieldLink y.cls index (T k).1 (T k).2.1 (T k).2.2.1 ∈ WG) (hfin : (T k).2.2.2 = true) (hdecl : (T k).1 = y.cls) {v : Value} (hn : narrow (ty0 k) v = v) (hfit : fits (ty0 k) v = true) (hlen : Nat.ble (k + 1) fs.length = true) (hdg : decode cc pc = .ok (.putfield index, 3))
    (ws' : va_W) (hw : ws.set q0 (a, .inr (ci, fs.set k v)) = ws')
    (kk : ∀ (H1 : Heap) (locs1 : List Loc), va_P D vwCl ws' H1 → va_D A ws' → va_S A s.heap H1 locs1 → W pr l e R s m args below meth c H1 locs1 cells slots Q (F0 m (pc + 3) ls rest)) : W pr l e R s m args below meth c H locs cells slots Q (F0 m pc ls (v :: .ref a :: rest)) := by
  subst hw
  exact va_putF (D := D) (ci := ci) (C := C) (T := T) (N := N) (ty := ty0 k) X.1 X.2.1 X.2.2.2.2.2.1 (fun w h => List.mem_cons_of_mem _ (hin w h)) ty0 hty hnm X.2.2.2.2.1 X.2.2.2.2.2.2.2.2.1 hP hD hS q0 he hc k (Nat.le_of_ble_eq_true hk) (X.2.2.2.2.2.1 _ (List.mem_cons_of_mem _ hl)) (fun _ h9 => h9) hfin hinit hdecl (hty k (Nat.le_of_ble_eq_true hk)) hn hfit (Nat.le_of_ble_eq_true hlen) hdg (fun H1 locs1 h1 h2 h3 => kk H1 locs1 h1 h2 h3)
theorem r_putD {C : String} {T : u_T} {N ci index a : Nat} {ws : va_W} (ty0 : Nat → FieldType) (hty : ∀ k, k < N → parseFieldDescriptor (T k).2.2.1 = some (ty0 k)) (hnm : ∀ a, a < N → ∀ b, b < N → a ≠ b → (T a).2.1 ≠ (T b).2.1) (X : CX pr D sk sv tys y cc n rt s m args meth c A) (hin : ∀ w ∈ u_ws C T N, w ∈ WG) (hP : va_P D vwCl ws H) (hD : va_D A ws) (hS : va_S A s.heap H locs) (q0 : Nat) {fs : List Value} (he : ws[q0]? = some (a, .inr (ci, fs))) (hc : vwCl[ci]? = some (C, T, N)) (k : Nat) (hk : Nat.ble (k + 1) N = true) (hl : Cond.fieldLink y.cls index (T k).1 (T k).2.1 (T k).2.2.1 ∈ WG) (hfin : (T k).2.2.2 = false) {v : Value} (hn : narrow (ty0 k) v = v) (hfit : fits (ty0 k) v = true) (hlen : Nat.ble (k + 1) fs.length = true) (hdg : decode cc pc = .ok (.putfield index, 3))
    (ws' : va_W) (hw : ws.set q0 (a, .inr (ci, fs.set k v)) = ws')
    (kk : ∀ (H1 : Heap) (locs1 : List Loc), va_P D vwCl ws' H1 → va_D A ws' → va_S A s.heap H1 locs1 → W pr l e R s m args below meth c H1 locs1 cells slots Q (F0 m (pc + 3) ls rest)) : W pr l e R s m args below meth c H locs cells slots Q (F0 m pc ls (v :: .ref a :: rest)) := by
  subst hw
  exact va_put (D := D) (ci := ci) (C := C) (T := T) (N := N) (ty := ty0 k) X.1 X.2.1 X.2.2.2.2.2.1 (fun w h => List.mem_cons_of_mem _ (hin w h)) ty0 hty hnm X.2.2.2.2.1 X.2.2.2.2.2.2.2.2.1 hP hD hS q0 he hc k (Nat.le_of_ble_eq_true hk) (X.2.2.2.2.2.1 _ (List.mem_cons_of_mem _ hl)) (fun _ h9 => h9) hfin (hty k (Nat.le_of_ble_eq_true hk)) hn hfit (Nat.le_of_ble_eq_true hlen) hdg (fun H1 locs1 h1 h2 h3 => kk H1 locs1 h1 h2 h3)
/-- a constructor's call, taken on: what it made stands behind the rest -/
theorem goN {υ : Type} {vf : υ → Option Value} {wf : υ → va_W} {ws wc wr : va_W} {mc' ms' : Nat} {st0 : List Value} {a : Array Value} {isC isR : List Nat} (hr : va_Run pr l e R s m args below meth c H locs cells slots mc' ms' (F0 m pc ls st0) rest (QN D (va_A wc H.size) vf wf a) (va_A wc H.size)) (hA : ∀ q : Nat, s.heap.size ≤ q → A q) (hC : isC.map (fun i => ws[i]?) = wc.map some) (hR : isR.map (fun i => ws[i]?) = wr.map some) (hn : va_nd isR = true) (hdis : ∀ i ∈ isR, i ∉ isC) (hS : va_S A s.heap H locs) (hP : va_P D vwCl ws H) (hD : va_D A ws)
    (kk : ∀ (u : υ) (H1 : Heap) (locs1 : List Loc), va_P D vwCl (wr ++ wf u) H1 → va_D A (wr ++ wf u) → va_S A s.heap H1 locs1 → W pr l e R s m args below meth c H1 locs1 (cells + mc') (slots + ms') Q (F0 m (pc + 3) ls ((vf u).toList ++ rest))) : W pr l e R s m args below meth c H locs cells slots Q (F0 m pc ls st0) := by
  intro T hT X
  have hF := va_free hD hS hA isC hC
  obtain ⟨v0, st₀, t, T', L, h0, X', hL, e1, e2, ⟨⟨u, hv, hp1, hd1⟩, hz, hk⟩, st⟩ := hr T hT X
  cases hv
  rw [h0] at hz hk
  have hk1 : ∀ q : Nat, q < H.size → ¬ va_A wc H.size q → T'.heap[q]? = H[q]? := fun q h1 h2 => by rw [e1]; exact hk q h1 h2
  obtain ⟨jP, jD⟩ := va_join hP hD isC isR hC hR hn hdis hk1 hF (by rw [e1]; exact hp1) hd1
  obtain ⟨t2, a1, b1⟩ := kk u T'.heap (locs ++ L) jP jD
    ⟨Nat.le_trans hS.1 (by rw [e1]; exact hz), fun q h1 h2 => by rw [e1, hk q (Nat.lt_of_lt_of_le h1 hS.1) (fun z => h2 (hF q z))]; exact hS.2.1 q h1 h2, fun q hq => by
      rcases List.mem_append.mp hq with h | h
      · exact hS.2.2 q h
      · exact hF _ (hL q h)⟩ T' rfl X'
  exact ⟨t2, st t2 a1, b1⟩
theorem preN {wc ws : va_W} {av : List Value} {isC : List Nat} (hK : va_K D vwCl tys s) (hE : EN sk sv A s s.heap) (hA : ∀ q : Nat, s.heap.size ≤ q → A q) (hS : va_S A s.heap H locs) (hP : va_P D vwCl ws H) (hD : va_D A ws) (hC : isC.map (fun i => ws[i]?) = wc.map some) (hnC : va_nd isC = true) :
    PreS s H (va_Pc av (fun U => U.heap.size = H.size ∧ va_P D vwCl wc U.heap ∧ va_K D vwCl tys U ∧ va_D (fun _ => True) wc ∧ EN sk sv (va_A wc H.size) U U.heap)) av := by
  refine ⟨fun a U g mk q => ?_, fun U hU hW => ?_⟩
  · obtain ⟨q0, q1, qP, qK, qD, qE⟩ := q
    exact ⟨q0, q1, qP, va_K.moved (u := U) (U := U.calling g mk a) (Vm.Alike.refl U.vm) qK, qD, EN.same (u := U) (U := U.calling g mk a) rfl qE⟩
  · have hPc : va_P D vwCl wc H := fun k q hq => by
      have h1 : (isC.map (fun i => ws[i]?))[k]? = some (some q) := by rw [hC, List.getElem?_map, hq]; rfl
      rw [List.getElem?_map] at h1
      cases hi : isC[k]? with
      | none => rw [hi] at h1; cases h1
      | some i => rw [hi] at h1; exact hP i q (Option.some.inj h1)
    exact ⟨rfl, by rw [hU], by rw [hU]; exact hPc, va_K.moved hW.alike hK, (hD.sub isC hnC hC).weaken (fun _ _ _ _ => trivial), by
      rw [hU]
      exact ((hE.kept (fun a h1 h2 => hS.2.1 a h1 h2)).narrow (va_free hD hS hA isC hC)).warm hW⟩
theorem call_I {y' : MethodName} {cc' : ByteArray} {n' : Nat} {rm' : Room} {mc' ms' b index : Nat} {As : List Value} {ws wc wr : va_W} {υ : Type} {wf : υ → va_W} (isC isR : List Nat) (X : CX pr D sk sv tys y cc n rt s m args meth c A) (hM : CN l D sk sv tys y' cc' n' rm' mc' ms' (.ref b :: As) wc wf)
    (m1 : Cond.methodLink y.cls index y' ∈ WG) (m2 : Cond.instanceMethod y' ∈ WG) (m4 : Cond.initialized y'.cls ∈ WG) (m5 : Cond.code y' cc' n' none ∈ WG) (hd : y'.cls ≠ "java/lang/invoke/MethodHandle" ∧ y'.cls ≠ "java/lang/invoke/VarHandle" ∧ (parseMethodDescriptor y'.desc).map (fun d => d.parameters.length) = some As.length) (hy1 : y'.name = "<init>") (hR : rm'.frames + 1 ≤ R.frames ∧ 8 + (n' + 11) + rm'.locals ≤ R.locals) (hrc : rm'.cells = mc') (hrs : rm'.slots = ms') (hcs : cells + mc' ≤ R.cells ∧ slots + ms' ≤ R.slots)
    (hpl : isC.map (fun i => ws[i]?) = wc.map some ∧ isR.map (fun i => ws[i]?) = wr.map some ∧ va_nd isC = true ∧ va_nd isR = true ∧ ∀ i ∈ isR, i ∉ isC) (hP : va_P D vwCl ws H) (hD : va_D A ws) (hS : va_S A s.heap H locs) (hsize : ls.size = n) (hrest : (rest.map fun v => v.category).sum ≤ 8) (hdg : decode cc pc = .ok (.invokespecial index, 3))
    (kk : ∀ (u : υ) (H1 : Heap) (locs1 : List Loc), va_P D vwCl (wr ++ wf u) H1 → va_D A (wr ++ wf u) → va_S A s.heap H1 locs1 → W pr l e R s m args below meth c H1 locs1 (cells + mc') (slots + ms') Q (F0 m (pc + 3) ls rest)) : W pr l e R s m args below meth c H locs cells slots Q (F0 m pc ls (As.reverse ++ .ref b :: rest)) := by
  obtain ⟨hx, hb, hr, hml, hown, hts, hlocks, hA, hK, hE⟩ := X
  have ok : ∀ w ∈ WG, w.before args s = true := fun w h => hts w (List.mem_cons_of_mem _ h)
  have hcw : CallB R s args y.cls index y' cc' n' none (wsG y' cc' n' none) rm' mc' ms' As.length ∧ y'.name = "<init>" ∧ (Cond.instanceMethod y').before args s = true := ⟨callB_of As.length hts (wg_good (fun w h => (List.mem_cons.mp h).elim (fun e => by rw [e]; exact m5) (fun h => h))) rfl hrc hrs (ok _ m4) (ok _ m1) hd hR, hy1, ok _ m2⟩
  exact goN (isC := isC) (isR := isR) (va_runI (As := As) (rest := rest) (nL := n) (Ts := wsG y cc n rt) (own := y.cls) ⟨hx, hb, hml, hown, hts⟩ (hM H.size) hcw (preN hK hE hA hS hP hD hpl.1 hpl.2.2.1) rfl rfl hsize rfl (lv_room hrest) hdg hcs) hA hpl.1 hpl.2.1 hpl.2.2.2.1 hpl.2.2.2.2 hS hP hD kk
theorem call_IN {y' : MethodName} {cc' : ByteArray} {n' : Nat} {rm' : Room} {mc' ms' b index : Nat} {host : String} {As : List Value} {ws wc wr : va_W} {υ : Type} {wf : υ → va_W} (isC isR : List Nat) (X : CX pr D sk sv tys y cc n rt s m args meth c A) (hM : CN l D sk sv tys y' cc' n' rm' mc' ms' (.ref b :: As) wc wf)
    (m1 : Cond.methodLinkNest y.cls index y' host ∈ nwTab) (m2 : Cond.instanceMethod y' ∈ WG) (m4 : Cond.initialized y'.cls ∈ WG) (m5 : Cond.code y' cc' n' none ∈ WG) (hd : y'.cls ≠ "java/lang/invoke/MethodHandle" ∧ y'.cls ≠ "java/lang/invoke/VarHandle" ∧ (parseMethodDescriptor y'.desc).map (fun d => d.parameters.length) = some As.length) (hy1 : y'.name = "<init>") (hR : rm'.frames + 1 ≤ R.frames ∧ 8 + (n' + 11) + rm'.locals ≤ R.locals) (hrc : rm'.cells = mc') (hrs : rm'.slots = ms') (hcs : cells + mc' ≤ R.cells ∧ slots + ms' ≤ R.slots)
    (hpl : isC.map (fun i => ws[i]?) = wc.map some ∧ isR.map (fun i => ws[i]?) = wr.map some ∧ va_nd isC = true ∧ va_nd isR = true ∧ ∀ i ∈ isR, i ∉ isC) (hP : va_P D vwCl ws H) (hD : va_D A ws) (hS : va_S A s.heap H locs) (hsize : ls.size = n) (hrest : (rest.map fun v => v.category).sum ≤ 8) (hdg : decode cc pc = .ok (.invokespecial index, 3))
    (kk : ∀ (u : υ) (H1 : Heap) (locs1 : List Loc), va_P D vwCl (wr ++ wf u) H1 → va_D A (wr ++ wf u) → va_S A s.heap H1 locs1 → W pr l e R s m args below meth c H1 locs1 (cells + mc') (slots + ms') Q (F0 m (pc + 3) ls rest)) : W pr l e R s m args below meth c H locs cells slots Q (F0 m pc ls (As.reverse ++ .ref b :: rest)) := by
  obtain ⟨hx, hb, hr, hml, hown, hts, hlocks, hA, hK, hE⟩ := X
  have ok : ∀ w ∈ WG, w.before args s = true := fun w h => hts w (List.mem_cons_of_mem _ h)
  have hcw : va_CN R s args y.cls index y' host cc' n' none (wsG y' cc' n' none) rm' mc' ms' As.length ∧ y'.name = "<init>" ∧ (Cond.instanceMethod y').before args s = true := ⟨va_cnB As.length hts (wg_good (fun w h => (List.mem_cons.mp h).elim (fun e => by rw [e]; exact m5) (fun h => h))) rfl hrc hrs (hE.2.2.2.2.2.1 _ m1) (ok _ m4) hd hR, hy1, ok _ m2⟩
  exact goN (isC := isC) (isR := isR) (va_runIN (As := As) (rest := rest) (nL := n) (Ts := wsG y cc n rt) (own := y.cls) ⟨hx, hb, hml, hown, hts⟩ (hM H.size) hcw (preN hK hE hA hS hP hD hpl.1 hpl.2.2.1) rfl rfl hsize rfl (lv_room hrest) hdg hcs) hA hpl.1 hpl.2.1 hpl.2.2.2.1 hpl.2.2.2.2 hS hP hD kk
theorem call_SN {y' : MethodName} {cc' : ByteArray} {n' : Nat} {rt' : Option FieldType} {rm' : Room} {mc' ms' index : Nat} {As : List Value} {ws wc wr : va_W} {υ : Type} {vf : υ → Option Value} {wf : υ → va_W} (isC isR : List Nat) (X : CX pr D sk sv tys y cc n rt s m args meth c A) (hM : CR l D sk sv tys y' cc' n' rt' rm' mc' ms' As wc vf wf)
    (m1 : Cond.methodLink y.cls index y' ∈ WG) (m2 : Cond.static y' ∈ WG) (m4 : Cond.initialized y'.cls ∈ WG) (m5 : Cond.code y' cc' n' rt' ∈ WG) (hd : y'.cls ≠ "java/lang/invoke/MethodHandle" ∧ y'.cls ≠ "java/lang/invoke/VarHandle" ∧ (parseMethodDescriptor y'.desc).map (fun d => d.parameters.length) = some As.length) (hR : rm'.frames + 1 ≤ R.frames ∧ 8 + (n' + 11) + rm'.locals ≤ R.locals) (hrc : rm'.cells = mc') (hrs : rm'.slots = ms') (hcs : cells + mc' ≤ R.cells ∧ slots + ms' ≤ R.slots)
    (hpl : isC.map (fun i => ws[i]?) = wc.map some ∧ isR.map (fun i => ws[i]?) = wr.map some ∧ va_nd isC = true ∧ va_nd isR = true ∧ ∀ i ∈ isR, i ∉ isC) (hP : va_P D vwCl ws H) (hD : va_D A ws) (hS : va_S A s.heap H locs) (hsize : ls.size = n) (hrest : (rest.map fun v => v.category).sum ≤ 8) (hdg : decode cc pc = .ok (.invokestatic index, 3))
    (kk : ∀ (u : υ) (H1 : Heap) (locs1 : List Loc), va_P D vwCl (wr ++ wf u) H1 → va_D A (wr ++ wf u) → va_S A s.heap H1 locs1 → W pr l e R s m args below meth c H1 locs1 (cells + mc') (slots + ms') Q (F0 m (pc + 3) ls ((vf u).toList ++ rest))) : W pr l e R s m args below meth c H locs cells slots Q (F0 m pc ls (As.reverse ++ rest)) := by
  obtain ⟨hx, hb, hr, hml, hown, hts, hlocks, hA, hK, hE⟩ := X
  have ok : ∀ w ∈ WG, w.before args s = true := fun w h => hts w (List.mem_cons_of_mem _ h)
  have hcw : CallB R s args y.cls index y' cc' n' rt' (wsG y' cc' n' rt') rm' mc' ms' As.length ∧ (Cond.static y').before args s = true := ⟨callB_of As.length hts (wg_good (fun w h => (List.mem_cons.mp h).elim (fun e => by rw [e]; exact m5) (fun h => h))) rfl hrc hrs (ok _ m4) (ok _ m1) hd hR, ok _ m2⟩
  exact goN (isC := isC) (isR := isR) (va_runS (As := As) (rest := rest) (nL := n) (Ts := wsG y cc n rt) (own := y.cls) ⟨hx, hb, hml, hown, hts⟩ (hM H.size) hcw (preN hK hE hA hS hP hD hpl.1 hpl.2.2.1) rfl rfl hsize rfl (lv_room hrest) hdg hcs) hA hpl.1 hpl.2.1 hpl.2.2.2.1 hpl.2.2.2.2 hS hP hD kk
end CC
