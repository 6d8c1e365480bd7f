/-! worlds up to their order; one contract for all that a method may do -/
theorem P_perm {D : va_G} {cl : List vw_C} {ws ws' : va_W} {H : Heap} (h : List.Perm ws ws') (hP : va_P D cl ws H) : va_P D cl ws' H := fun k q hq => by
  obtain ⟨i, hi⟩ := List.mem_iff_getElem?.mp (h.mem_iff.mpr (List.mem_of_getElem? hq))
  exact hP i q hi
theorem P_mem {D : va_G} {cl : List vw_C} {ws : va_W} {H : Heap} (hP : va_P D cl ws H) {q : Nat × va_E} (h : q ∈ ws) : va_at D cl q H := by
  obtain ⟨i, hi⟩ := List.mem_iff_getElem?.mp h
  exact hP i q hi
theorem P_of {D : va_G} {cl : List vw_C} {ws : va_W} {H : Heap} (h : ∀ q ∈ ws, va_at D cl q H) : va_P D cl ws H := fun _ q hq => h q (List.mem_of_getElem? hq)
theorem D_nd {A : Nat → Prop} {ws : va_W} : va_D A ws ↔ (ws.map Prod.fst).Nodup ∧ ∀ q ∈ ws, A q.1 := by
  constructor
  · intro h
    refine ⟨List.pairwise_iff_getElem.mpr (fun i j hi hj hij => ?_), fun q hq => ?_⟩
    · rw [List.getElem_map, List.getElem_map]
      intro e
      rw [List.length_map] at hi hj
      have := h.1 i j _ _ (List.getElem?_eq_getElem hi) (List.getElem?_eq_getElem hj) e
      omega
    · obtain ⟨k, hk⟩ := List.mem_iff_getElem?.mp hq
      exact h.2 k q hk
  · intro h
    have hp := List.pairwise_iff_getElem.mp h.1
    refine ⟨fun i j p q hi hj e => ?_, fun k q hk => h.2 q (List.mem_of_getElem? hk)⟩
    obtain ⟨hi1, hi2⟩ := List.getElem?_eq_some_iff.mp hi
    obtain ⟨hj1, hj2⟩ := List.getElem?_eq_some_iff.mp hj
    rcases Nat.lt_trichotomy i j with z | z | z
    · exact absurd (by rw [List.getElem_map, List.getElem_map, hi2, hj2, e]) (hp i j (by rw [List.length_map]; exact hi1) (by rw [List.length_map]; exact hj1) z)
    · exact z
    · exact absurd (by rw [List.getElem_map, List.getElem_map, hi2, hj2, e]) (hp j i (by rw [List.length_map]; exact hj1) (by rw [List.length_map]; exact hi1) z)
theorem D_perm {A : Nat → Prop} {ws ws' : va_W} (h : List.Perm ws ws') (hD : va_D A ws) : va_D A ws' :=
  D_nd.mpr ⟨(h.map Prod.fst).nodup_iff.mp (D_nd.mp hD).1, fun q hq => (D_nd.mp hD).2 q (h.mem_iff.mpr hq)⟩
theorem A_in {ws : va_W} {sz q : Nat} : va_A ws sz q ↔ (∃ e, (q, e) ∈ ws) ∨ sz ≤ q := by
  constructor
  · rintro (⟨k, e, h⟩ | h)
    · exact Or.inl ⟨e, List.mem_of_getElem? h⟩
    · exact Or.inr h
  · rintro (⟨e, h⟩ | h)
    · obtain ⟨k, hk⟩ := List.mem_iff_getElem?.mp h
      exact Or.inl ⟨k, e, hk⟩
    · exact Or.inr h
theorem fr_in {w wc z : va_W} (hp : List.Perm w (wc ++ z)) {sz q : Nat} (h : va_A wc sz q) : va_A w sz q := by
  rcases A_in.mp h with ⟨e, h⟩ | h
  · exact A_in.mpr (Or.inl ⟨e, hp.mem_iff.mpr (List.mem_append_left _ h)⟩)
  · exact Or.inr h
theorem fr_P {D : va_G} {w wc z : va_W} {H : Heap} (hp : List.Perm w (wc ++ z)) (hP : va_P D vwCl w H) : va_P D vwCl wc H := P_of fun q hq => P_mem hP (hp.mem_iff.mpr (List.mem_append_left _ hq))
theorem fr_D {A : Nat → Prop} {w wc z : va_W} (hp : List.Perm w (wc ++ z)) (hD : va_D A w) : va_D A wc := by
  have h := D_nd.mp (D_perm hp hD)
  rw [List.map_append] at h
  exact D_nd.mpr ⟨(List.nodup_append.mp h.1).1, fun q hq => h.2 q (List.mem_append_left _ hq)⟩
theorem fr_join {D : va_G} {w wc z w' : va_W} {st t : State} (hp : List.Perm w (wc ++ z)) (hP : va_P D vwCl w st.heap) (hD : va_D (fun _ => True) w) (hP' : va_P D vwCl w' t.heap) (hD' : va_D (va_A wc st.heap.size) w') (hF : va_F (va_A wc st.heap.size) st t) : va_P D vwCl (w' ++ z) t.heap ∧ va_D (va_A w st.heap.size) (w' ++ z) ∧ va_F (va_A w st.heap.size) st t := by
  have hn := (D_nd.mp (D_perm hp hD)).1
  rw [List.map_append] at hn
  have hn := List.nodup_append.mp hn
  have hz : ∀ q ∈ z, va_at D vwCl q st.heap := fun q hq => P_mem hP (hp.mem_iff.mpr (List.mem_append_right _ hq))
  have hout : ∀ q ∈ z, ¬ va_A wc st.heap.size q.1 := fun q hq h => by
    rcases A_in.mp h with ⟨e, h⟩ | h
    · exact hn.2.2 q.1 (List.mem_map.mpr ⟨(q.1, e), h, rfl⟩) q.1 (List.mem_map.mpr ⟨q, hq, rfl⟩) rfl
    · exact Nat.not_le.mpr (hz q hq).lt h
  refine ⟨P_of fun q hq => ?_, D_nd.mpr ⟨?_, fun q hq => ?_⟩, hF.1, fun q h1 h2 => hF.2 q h1 (fun h => h2 (fr_in hp h))⟩
  · rcases List.mem_append.mp hq with h | h
    · exact P_mem hP' h
    · exact (hz q h).kept (hF.2 q.1 (hz q h).lt (hout q h))
  · rw [List.map_append]
    refine List.nodup_append.mpr ⟨(D_nd.mp hD').1, hn.2.1, fun a ha b hb e => ?_⟩
    obtain ⟨p, hp1, rfl⟩ := List.mem_map.mp ha
    obtain ⟨q, hq1, rfl⟩ := List.mem_map.mp hb
    exact hout q hq1 (e ▸ (D_nd.mp hD').2 p hp1)
  · rcases List.mem_append.mp hq with h | h
    · exact fr_in hp ((D_nd.mp hD').2 q h)
    · exact A_in.mpr (Or.inl ⟨q.2, hp.mem_iff.mpr (List.mem_append_right _ h)⟩)
def QcZ (D : va_G) (A : Nat → Prop) (PN : Option Value → va_W → Prop) : Array Value → State → Outcome → State → Prop := fun _ st oc t => ∃ v w', oc = .returned v ∧ PN v w' ∧ va_P D vwCl w' t.heap ∧ va_D A w' ∧ va_F A st t
def XcZ (D : va_G) (A : Nat → Prop) (PX : String → va_W → Prop) : String → State → State → Prop := fun E st t => ∃ w', PX E w' ∧ va_P D vwCl w' t.heap ∧ va_D A w' ∧ va_F A st t
def PcZ (D : va_G) (sk sv : Nat → Nat) (tys : List (ClassId × FieldType)) (av : List Value) (w : va_W) (sz : Nat) : Array Value → State → Prop := va_Pc av (fun U => U.heap.size = sz ∧ va_P D vwCl w U.heap ∧ va_K D vwCl tys U ∧ va_D (fun _ => True) w ∧ EN sk sv (va_A w sz) U U.heap)
def CZ (l : Launch) (D : va_G) (sk sv : Nat → Nat) (tys : List (ClassId × FieldType)) (y : MethodName) (hd : Cond) (rm : Room) (mc ms : Nat) (av : List Value) (w : va_W) (PN : Option Value → va_W → Prop) (PX : String → va_W → Prop) : Prop :=
  ∀ sz : Nat, vx_Met l y (hd :: WG) rm (PcZ D sk sv tys av w sz) (QcZ D (va_A w sz) PN) (XcZ D (va_A w sz) PX) mc ms (va_A w sz)
section ZZ
variable {l : Launch} {D : va_G} {sk sv : Nat → Nat} {tys : List (ClassId × FieldType)} {y : MethodName} {hd : Cond} {cc : ByteArray} {n : Nat} {rt : Option FieldType} {rm : Room} {mc ms : Nat} {av : List Value} {w wc zr w' : va_W} {PN PN' : Option Value → va_W → Prop} {PX PX' : String → va_W → Prop}
/-- the frame, and another order -/
theorem CZ.fr (hM : CZ l D sk sv tys y hd rm mc ms av wc PN PX) (hp : List.Perm w (wc ++ zr)) (hN : ∀ v w', PN v w' → ∃ w'', List.Perm (w' ++ zr) w'' ∧ PN' v w'') (hX : ∀ E w', PX E w' → ∃ w'', List.Perm (w' ++ zr) w'' ∧ PX' E w'') : CZ l D sk sv tys y hd rm mc ms av w PN' PX' := by
  intro sz
  refine MetFree.mono (hM sz) (fun a s h => ?_) (fun _ _ _ _ _ h => h) (fun a s o t h hq => ?_)
  · obtain ⟨h1, h2, hP, hK, hD, hE⟩ := h
    exact ⟨h1, h2, fr_P hp hP, hK, fr_D hp hD, hE.narrow (fun q hq => fr_in hp hq)⟩
  · obtain ⟨h1, h2, hP, hK, hD, hE⟩ := h
    subst h2
    rcases hq with ⟨⟨v, w', ho, hn, hP', hD', hF⟩, L, hL1, hL2⟩ | ⟨q, ho, E, ce, L, ⟨w', hx, hP', hD', hF⟩, r1, r2, r3, r4, r5, r6⟩
    · obtain ⟨j1, j2, j3⟩ := fr_join hp hP hD hP' hD' hF
      obtain ⟨w'', k1, k2⟩ := hN v w' hn
      exact Or.inl ⟨⟨v, w'', ho, k2, P_perm k1 j1, D_perm k1 j2, j3⟩, L, hL1, fun q hq => fr_in hp (hL2 q hq)⟩
    · obtain ⟨j1, j2, j3⟩ := fr_join hp hP hD hP' hD' hF
      obtain ⟨w'', k1, k2⟩ := hX E w' hx
      exact Or.inr ⟨q, ho, E, ce, L, ⟨w'', k2, P_perm k1 j1, D_perm k1 j2, j3⟩, r1, r2, r3, r4, r5, fun z hz => fr_in hp (r6 z hz)⟩
theorem CZ.imp (hM : CZ l D sk sv tys y hd rm mc ms av w PN PX) (hN : ∀ v w', PN v w' → PN' v w') (hX : ∀ E w', PX E w' → PX' E w') : CZ l D sk sv tys y hd rm mc ms av w PN' PX' :=
  CZ.fr (zr := []) hM (by rw [List.append_nil]) (fun v w' h => ⟨w', by rw [List.append_nil], hN v w' h⟩) (fun E w' h => ⟨w', by rw [List.append_nil], hX E w' h⟩)
theorem CT.z {v : Option Value} (hM : CT l D sk sv tys y cc n rt rm av w v w') (hf : w'.map Prod.fst = w.map Prod.fst) : CZ l D sk sv tys y (.code y cc n rt) rm 0 0 av w (fun v' w'' => v' = v ∧ w'' = w') (fun _ _ => False) := by
  intro sz
  refine MetFree.mono (hM sz) (fun a s h => h) (fun _ _ _ _ _ h => h) (fun a s o t h hq => ?_)
  obtain ⟨h1, h2, hP, hK, hD, hE⟩ := h
  obtain ⟨⟨ho, hP', hF⟩, L, hL1, hL2⟩ := hq
  exact Or.inl ⟨⟨v, w', ho, ⟨rfl, rfl⟩, hP', D_fst hf hD.self, hF⟩, L, hL1, hL2⟩
theorem CU.z {α : Type} {wf : α → Option Nat → va_W} {res : (Nat × α) ⊕ (Int32 × α)} (hM : CU l D sk sv tys y cc n rt rm mc ms av w (oI wf res)) (hf : ∀ u q, (wf u q).map Prod.fst = w.map Prod.fst) :
    CZ l D sk sv tys y (.code y cc n rt) rm mc ms av w (fun v w'' => ∃ r u q, res = .inr (r, u) ∧ v = some (.int r) ∧ w'' = wf u q) (fun E w'' => ∃ k u q, res = .inl (k, u) ∧ E = exn k ∧ w'' = wf u q) := by
  intro sz
  refine MetFree.mono (hM sz) (fun a s h => h) (fun _ _ _ _ _ h => h) (fun a s o t h hq => ?_)
  obtain ⟨h1, h2, hP, hK, hD, hE⟩ := h
  rcases hq with ⟨⟨v, w9, q, hr, ho, hP', hF⟩, L, hL1, hL2⟩ | ⟨q, ho, E, ce, L, ⟨k, w9, q9, hr, hEk, hP', hF⟩, r1⟩
  · rcases res with ⟨k, u⟩ | ⟨r, u⟩
    · cases hr
    · cases hr
      exact Or.inl ⟨⟨_, wf u q, ho, ⟨r, u, q, rfl, rfl, rfl⟩, hP', D_fst (hf u q) hD.self, hF⟩, L, hL1, hL2⟩
  · rcases res with ⟨k, u⟩ | ⟨r, u⟩
    · cases hr
      exact Or.inr ⟨q, ho, E, ce, L, ⟨wf u q9, ⟨k, u, q9, rfl, hEk, rfl⟩, hP', D_fst (hf u q9) hD.self, hF⟩, r1⟩
    · cases hr
theorem CU.zv {α : Type} {wf : α → Option Nat → va_W} {res : (Nat × α) ⊕ α} (hM : CU l D sk sv tys y cc n rt rm mc ms av w (oV wf res)) (hf : ∀ u q, (wf u q).map Prod.fst = w.map Prod.fst) :
    CZ l D sk sv tys y (.code y cc n rt) rm mc ms av w (fun v w'' => ∃ u q, res = .inr u ∧ v = none ∧ w'' = wf u q) (fun E w'' => ∃ k u q, res = .inl (k, u) ∧ E = exn k ∧ w'' = wf u q) := by
  intro sz
  refine MetFree.mono (hM sz) (fun a s h => h) (fun _ _ _ _ _ h => h) (fun a s o t h hq => ?_)
  obtain ⟨h1, h2, hP, hK, hD, hE⟩ := h
  rcases hq with ⟨⟨v, w9, q, hr, ho, hP', hF⟩, L, hL1, hL2⟩ | ⟨q, ho, E, ce, L, ⟨k, w9, q9, hr, hEk, hP', hF⟩, r1⟩
  · rcases res with ⟨k, u⟩ | u
    · cases hr
    · cases hr
      exact Or.inl ⟨⟨_, wf u q, ho, ⟨u, q, rfl, rfl, rfl⟩, hP', D_fst (hf u q) hD.self, hF⟩, L, hL1, hL2⟩
  · rcases res with ⟨k, u⟩ | u
    · cases hr
      exact Or.inr ⟨q, ho, E, ce, L, ⟨wf u q9, ⟨k, u, q9, rfl, hEk, rfl⟩, hP', D_fst (hf u q9) hD.self, hF⟩, r1⟩
    · cases hr
theorem CR.z {υ : Type} {vf : υ → Option Value} {wf : υ → va_W} (hM : CR l D sk sv tys y cc n rt rm mc ms av w vf wf) : CZ l D sk sv tys y (.code y cc n rt) rm mc ms av w (fun v w'' => ∃ u, v = vf u ∧ w'' = wf u) (fun _ _ => False) := by
  intro sz
  refine MetFree.mono (hM sz) (fun a s h => h) (fun _ _ _ _ _ h => h) (fun a s o t h hq => ?_)
  obtain ⟨⟨⟨u, ho, hP', hD'⟩, hF⟩, L, hL1, hL2⟩ := hq
  exact Or.inl ⟨⟨_, wf u, ho, ⟨u, rfl, rfl⟩, hP', hD', hF⟩, L, hL1, hL2⟩
end ZZ
theorem wg_goodW {ws : List Cond} (h : ∀ w ∈ ws, w ∈ WG) : GoodIn WG ws := fun w hw => ⟨h w hw, good_of_word (List.mem_filter.mp (h w hw)).2⟩
/-- what holds in a body, of whatever kind -/
def CY (pr : Program) (D : va_G) (sk sv : Nat → Nat) (tys : List (ClassId × FieldType)) (own : String) (cc : ByteArray) (n : Nat) (s : State) (m : MethodId) (args : Array Value) (c : Code) (A : Nat → Prop) : Prop :=
  pr.tables.exec = Jvm.exec ∧ c.code = cc ∧ c.maxLocals = n ∧ s.vm.findClass own = some m.cls ∧ (∀ w ∈ WG, w.before args s = true) ∧ (∀ q : Nat, s.heap.size ≤ q → A q) ∧ va_K D vwCl tys s ∧ EN sk sv A s s.heap
theorem CX.y {pr : Program} {D : va_G} {sk sv : Nat → Nat} {tys : List (ClassId × FieldType)} {y : MethodName} {cc : ByteArray} {n : Nat} {rt : Option FieldType} {s : State} {m : MethodId} {args : Array Value} {meth : Method} {c : Code} {A : Nat → Prop} (X : CX pr D sk sv tys y cc n rt s m args meth c A) : CY pr D sk sv tys y.cls cc n s m args c A := by
  obtain ⟨hx, hb, hr, hml, hown, hts, hlocks, hA, hK, hE⟩ := X
  exact ⟨hx, hb, hml, hown, fun w h => hts w (List.mem_cons_of_mem _ h), hA, hK, hE⟩
theorem ofCZ {l : Launch} {D : va_G} {sk sv : Nat → Nat} {tys : List (ClassId × FieldType)} {y : MethodName} {cc : ByteArray} {n : Nat} {rt : Option FieldType} {rm : Room} {mc ms : Nat} {av : List Value} {w : va_W} {PN : Option Value → va_W → Prop} {PX : String → va_W → Prop} (hy : plainName y.cls = true) (hlen : (lg_sl av).length ≤ n)
    (body : ∀ (pr : Program) (e : Env) (s : State) (m : MethodId) (args : Array Value) (below : List Frame) (meth : Method) (c : Code) (A : Nat → Prop) (Q : State → Prop) (ls : Array Slot) (H : Heap) (locs : List Loc), CX pr D sk sv tys y cc n rt s m args meth c A → (∀ x ∈ c.exceptionTable.toList, False) → vx_MQ below (QcZ D A PN) (XcZ D A PX) args s mc ms A = Q → va_D A w → va_P D vwCl w H → va_S A s.heap H locs → lv_has ls n (lv_args 0 av) →
      W pr l e rm s m args below meth c H locs 0 0 Q (F0 m 0 ls [])) : CZ l D sk sv tys y (.code y cc n rt) rm mc ms av w PN PX := by
  intro sz
  refine vx_ofW (cc := cc) (maxL := n) (ret := rt) hy rfl ?_
  intro pr e s m args below meth c s₁ B hml hT hv
  obtain ⟨rfl, hsz, hP, hK, hD0, hE⟩ := hv
  have hts := atoms_spec (ws := wsG y cc n rt) B.pre
  have hown : s.vm.findClass y.cls = some m.cls := findClass_of_methodNamed B.named
  subst hsz
  have hD := hD0.self (sz := s.heap.size)
  have hl := lv_entry av (n := n) hlen
  rw [lg_entry_eq]
  exact body pr e s m av.toArray below meth c (va_A w s.heap.size) _ _ s.heap [] ⟨B.exec, B.bytes, B.returns, hml, hown, hts, B.notSynchronized, fun q h => Or.inr h, hK, hE⟩ hT rfl hD hP va_S.rf hl
/-- a body with handlers -/
theorem ofCZH {l : Launch} {D : va_G} {sk sv : Nat → Nat} {tys : List (ClassId × FieldType)} {y : MethodName} {cc : ByteArray} {n : Nat} {rt : Option FieldType} {hh : List (Nat × Nat × Nat × Nat)} {rm : Room} {mc ms : Nat} {av : List Value} {w : va_W} {PN : Option Value → va_W → Prop} {PX : String → va_W → Prop} (hy : plainName y.cls = true) (hlen : (lg_sl av).length ≤ n)
    (body : ∀ (pr : Program) (e : Env) (s : State) (m : MethodId) (args : Array Value) (below : List Frame) (meth : Method) (c : Code) (A : Nat → Prop) (Q : State → Prop) (ls : Array Slot) (H : Heap) (locs : List Loc), CY pr D sk sv tys y.cls cc n s m args c A → meth.sig.returnType = rt → meth.locks = false → c.exceptionTable.toList = tableOf hh → vx_MQ below (QcZ D A PN) (XcZ D A PX) args s mc ms A = Q → va_D A w → va_P D vwCl w H → va_S A s.heap H locs → lv_has ls n (lv_args 0 av) →
      W pr l e rm s m args below meth c H locs 0 0 Q (F0 m 0 ls [])) : CZ l D sk sv tys y (.codeWith y cc n rt hh) rm mc ms av w PN PX := by
  intro sz
  refine vx_ofWH (cc := cc) (maxL := n) (ret := rt) hy rfl ?_
  intro pr e s m args below meth c s₁ B hml hv
  obtain ⟨rfl, hsz, hP, hK, hD0, hE⟩ := hv
  have hts := atoms_spec (ws := .codeWith y cc n rt hh :: WG) B.pre
  have hown : s.vm.findClass y.cls = some m.cls := findClass_of_methodNamed B.named
  subst hsz
  have hD := hD0.self (sz := s.heap.size)
  have hl := lv_entry av (n := n) hlen
  rw [lg_entry_eq]
  exact body pr e s m av.toArray below meth c (va_A w s.heap.size) _ _ s.heap [] ⟨B.exec, B.bytes, hml, hown, fun w h => hts w (List.mem_cons_of_mem _ h), fun q h => Or.inr h, hK, hE⟩ B.returns B.notSynchronized (vx_table (x := y) B (hts _ List.mem_cons_self)) rfl hD hP va_S.rf hl
section ZW
variable {pr : Program} {l : Launch} {e : Env} {R : Room} {D : va_G} {sk sv : Nat → Nat} {tys : List (ClassId × FieldType)} {own : String} {cc : ByteArray} {n : Nat} {rt : Option FieldType} {s : State} {m : MethodId} {args : Array Value} {below : List Frame} {meth : Method} {c : Code} {A : Nat → Prop} {H : Heap} {locs : List Loc} {cells slots : Nat} {Q : State → Prop} {pc : Nat} {ls : Array Slot} {rest : List Value} {mc ms : Nat} {PN PN' : Option Value → va_W → Prop} {PX PX' : String → va_W → Prop} {ws : va_W}
theorem fr_A (hD : va_D A ws) (hS : va_S A s.heap H locs) (hA : ∀ q : Nat, s.heap.size ≤ q → A q) {q : Nat} (h : va_A ws H.size q) : A q := by
  rcases A_in.mp h with ⟨e, h⟩ | h
  · exact (D_nd.mp hD).2 _ h
  · exact hA q (Nat.le_trans hS.1 h)
theorem pcZ_blind {av : List Value} {sz : Nat} : FrameBlind (PcZ D sk sv tys av ws sz) := fun a U g mk q => by
  obtain ⟨q0, q1, qP, qK, qD, qE⟩ := q
  exact ⟨q0, q1, qP, va_K.moved (u := U) (U := U.calling g mk a) (Vm.Alike.refl U.vm) qK, qD, EN.same (u := U) (U := U.calling g mk a) rfl qE⟩
theorem pcZ_at {av : List Value} (X : CY pr D sk sv tys own cc n s m args c A) (hP : va_P D vwCl ws H) (hD : va_D A ws) (hS : va_S A s.heap H locs) {U : State} (hU : U.heap = H) (hW : s.WarmedH U.vm) : PcZ D sk sv tys av ws H.size av.toArray U := by
  obtain ⟨hx, hb, hml, hown, hts, hA, hK, hE⟩ := X
  refine ⟨rfl, by rw [hU], by rw [hU]; exact hP, va_K.moved hW.alike hK, hD.weaken (fun _ _ _ _ => trivial), ?_⟩
  rw [hU]
  exact ((hE.kept (fun a h1 h2 => hS.2.1 a h1 h2)).narrow (fun q hq => fr_A hD hS hA hq)).warm hW
/-- behind a call: the end that came -/
theorem goZ {hM : Unit} {mc' ms' : Nat} {st0 : List Value} {a : Array Value} (hr : vx_Run pr l e R s m args below meth c H locs cells slots mc' ms' (F0 m pc ls st0) rest (QcZ D (va_A ws H.size) PN a) (XcZ D (va_A ws H.size) PX) (va_A ws H.size)) (hA : ∀ q : Nat, s.heap.size ≤ q → A q) (hD : va_D A ws) (hS : va_S A s.heap H locs)
    (kn : ∀ (v : Option Value) (w' : va_W) (H1 : Heap) (locs1 : List Loc), PN v w' → va_P D vwCl w' H1 → va_D A w' → va_S A s.heap H1 locs1 → W pr l e R s m args below meth c H1 locs1 (cells + mc') (slots + ms') Q (F0 m (pc + 3) ls (v.toList ++ rest)))
    (kx : ∀ (E : String) (q : Nat) (ce : Cell) (w' : va_W) (H1 : Heap) (locs1 : List Loc), PX E w' → va_P D vwCl w' H1 → va_D A w' → va_S A s.heap H1 locs1 → H1[q]? = some ce → ce.vm = .none → s.vm.findClass E = some ce.cls → vx_W pr l e R s m args below meth c H1 locs1 (cells + mc') (slots + ms') Q (F0 m pc ls rest) q) :
    W pr l e R s m args below meth c H locs cells slots Q (F0 m pc ls st0) := by
  intro T hT X
  have hF : ∀ q, va_A ws H.size q → A q := fun q h => fr_A hD hS hA h
  rcases hr T hT X with ⟨v0, st₀, t, T', L, h0, X', hL, e1, e2, ⟨v1, w1, hv1, hn, hp1, hd1, hz, hk⟩, st⟩ | ⟨q, st₀, t, T', L, E, ce, h0, X', hL, e1, e2, ⟨w1, hx1, hp1, hd1, hz, hk⟩, hce, hcv, hcl, st⟩
  · cases hv1
    rw [h0] at hz hk
    obtain ⟨t2, a1, b1⟩ := kn v0 w1 T'.heap (locs ++ L) hn (by rw [e1]; exact hp1) (hd1.weaken (fun k q hq h => hF _ h))
      ⟨Nat.le_trans hS.1 (by rw [e1]; exact hz), fun q h1 h2 => by rw [e1, hk q (Nat.lt_of_lt_of_le h1 hS.1) (fun z => h2 (hF q z))]; exact hS.2.1 q h1 h2, fun q hq => by
        rcases List.mem_append.mp hq with h | h
        · exact hS.2.2 q h
        · exact hF _ (hL q h)⟩ T' rfl X'
    exact ⟨t2, st t2 a1, b1⟩
  · rw [h0] at hz hk
    obtain ⟨t2, a1, b1⟩ := kx E q ce w1 T'.heap (locs ++ L) hx1 (by rw [e1]; exact hp1) (hd1.weaken (fun k q hq h => hF _ h))
      ⟨Nat.le_trans hS.1 (by rw [e1]; exact hz), fun q h1 h2 => by rw [e1, hk q (Nat.lt_of_lt_of_le h1 hS.1) (fun z => h2 (hF q z))]; exact hS.2.1 q h1 h2, fun q hq => by
        rcases List.mem_append.mp hq with h | h
        · exact hS.2.2 q h
        · exact hF _ (hL q h)⟩ (by rw [e1]; exact hce) hcv hcl T' rfl X'
    exact ⟨t2, st.trans a1, b1⟩
theorem callZ {y' : MethodName} {cc' : ByteArray} {n' : Nat} {rt' : Option FieldType} {rm' : Room} {b ci index mc' ms' : Nat} {fs As : List Value} {cq : vw_C} (X : CY pr D sk sv tys own cc n s m args c A) (hM : CZ l D sk sv tys y' (.code y' cc' n' rt') rm' mc' ms' (.ref b :: As) ws PN PX)
    (m1 : Cond.methodLink own index y' ∈ WG) (m2 : Cond.instanceMethod y' ∈ WG) (m3 : Cond.selects y'.cls y' y' ∈ WG) (m4 : Cond.initialized y'.cls ∈ WG) (m5 : Cond.code y' cc' n' rt' ∈ WG)
    (hd : y'.cls ≠ "java/lang/invoke/MethodHandle" ∧ y'.cls ≠ "java/lang/invoke/VarHandle" ∧ (parseMethodDescriptor y'.desc).map (fun d => d.parameters.length) = some As.length) (hR : rm'.frames + 1 ≤ R.frames ∧ 8 + (n' + 11) + rm'.locals ≤ R.locals) (hrc : rm'.cells = mc') (hrs : rm'.slots = ms') (hcs : cells + mc' ≤ R.cells ∧ slots + ms' ≤ R.slots)
    (hP : va_P D vwCl ws H) (hD : va_D A ws) (hS : va_S A s.heap H locs) (he : (b, .inr (ci, fs)) ∈ ws) (hc : vwCl[ci]? = some cq) (hcq : cq.1 = y'.cls) (hsize : ls.size = n) (hrest : (rest.map fun v => v.category).sum ≤ 8) (hdg : decode cc pc = .ok (.invokevirtual index, 3))
    (kn : ∀ (v : Option Value) (w' : va_W) (H1 : Heap) (locs1 : List Loc), PN v w' → va_P D vwCl w' H1 → va_D A w' → va_S A s.heap H1 locs1 → W pr l e R s m args below meth c H1 locs1 (cells + mc') (slots + ms') Q (F0 m (pc + 3) ls (v.toList ++ rest)))
    (kx : ∀ (E : String) (q : Nat) (ce : Cell) (w' : va_W) (H1 : Heap) (locs1 : List Loc), PX E w' → va_P D vwCl w' H1 → va_D A w' → va_S A s.heap H1 locs1 → H1[q]? = some ce → ce.vm = .none → s.vm.findClass E = some ce.cls → vx_W pr l e R s m args below meth c H1 locs1 (cells + mc') (slots + ms') Q (F0 m pc ls rest) q) :
    W pr l e R s m args below meth c H locs cells slots Q (F0 m pc ls (As.reverse ++ .ref b :: rest)) := by
  have X0 := X
  obtain ⟨hx, hb, hml, hown, hts, hA, hK, hE⟩ := X
  have hcw : CallW R s args own y'.cls index y' cc' n' rt' (.code y' cc' n' rt' :: WG) rm' mc' ms' As.length := ⟨callB_of As.length hts (wg_goodW (fun w h => (List.mem_cons.mp h).elim (fun e => by rw [e]; exact m5) (fun h => h))) rfl hrc hrs (hts _ m4) (hts _ m1) hd hR, hts _ m2, hts _ m3⟩
  obtain ⟨q0, hq0⟩ := List.mem_iff_getElem?.mp he
  refine goZ (hM := ()) (vx_runV (g := F0 m pc ls (As.reverse ++ .ref b :: rest)) (As := As) (rest := rest) (nL := n) (Ts := WG) (own := own) (C := y'.cls) ⟨hx, hb, hml, hown, hts⟩ (hM H.size) hcw ⟨pcZ_blind, by
    obtain ⟨cell, r1, r2, r3⟩ := va_recv hK hP hc hq0
    exact ⟨cell, r1, r2, by rw [← hcq]; exact r3⟩, fun U hU hW => pcZ_at X0 hP hD hS hU hW⟩ rfl rfl hsize rfl (lv_room hrest) hdg ⟨hcs.1, hcs.2⟩) hA hD hS kn kx
/-- a static call of a method with handlers -/
theorem callZS {y' : MethodName} {cc' : ByteArray} {n' : Nat} {rt' : Option FieldType} {hh : List (Nat × Nat × Nat × Nat)} {rm' : Room} {index mc' ms' : Nat} {As : List Value} (X : CY pr D sk sv tys own cc n s m args c A) (hM : CZ l D sk sv tys y' (.codeWith y' cc' n' rt' hh) rm' mc' ms' As ws PN (fun _ _ => False))
    (m1 : Cond.methodLink own index y' ∈ WG) (m2 : Cond.static y' ∈ WG) (m4 : Cond.initialized y'.cls ∈ WG) (m5 : Cond.codeWith y' cc' n' rt' hh ∈ WG)
    (hd : y'.cls ≠ "java/lang/invoke/MethodHandle" ∧ y'.cls ≠ "java/lang/invoke/VarHandle" ∧ (parseMethodDescriptor y'.desc).map (fun d => d.parameters.length) = some As.length) (hR : rm'.frames + 1 ≤ R.frames ∧ 8 + (n' + 11) + rm'.locals ≤ R.locals) (hrc : rm'.cells = mc') (hrs : rm'.slots = ms') (hcs : cells + mc' ≤ R.cells ∧ slots + ms' ≤ R.slots)
    (hP : va_P D vwCl ws H) (hD : va_D A ws) (hS : va_S A s.heap H locs) (hsize : ls.size = n) (hrest : (rest.map fun v => v.category).sum ≤ 8) (hdg : decode cc pc = .ok (.invokestatic index, 3))
    (kn : ∀ (v : Option Value) (w' : va_W) (H1 : Heap) (locs1 : List Loc), PN v w' → va_P D vwCl w' H1 → va_D A w' → va_S A s.heap H1 locs1 → W pr l e R s m args below meth c H1 locs1 (cells + mc') (slots + ms') Q (F0 m (pc + 3) ls (v.toList ++ rest))) :
    W pr l e R s m args below meth c H locs cells slots Q (F0 m pc ls (As.reverse ++ rest)) := by
  have X0 := X
  obtain ⟨hx, hb, hml, hown, hts, hA, hK, hE⟩ := X
  have hg : GoodIn WG (va_wsS own index y' (.codeWith y' cc' n' rt' hh :: WG)) := wg_goodW (fun w h => by
    simp only [va_wsS, List.cons_append, List.nil_append, List.mem_cons] at h
    rcases h with rfl | rfl | rfl | rfl | h
    · exact m1
    · exact m2
    · exact m4
    · exact m5
    · exact h)
  refine goZ (hM := ()) (vx_runSX (g := F0 m pc ls (As.reverse ++ rest)) (As := As) (rest := rest) (nL := n) (Ts := WG) (own := own) ⟨hx, hb, hml, hown, hts⟩ (hM H.size) (vx_cwSW As.length hts hg rfl hrc hrs hd hR) ⟨pcZ_blind, fun U hU hW => pcZ_at X0 hP hD hS hU hW⟩ rfl rfl hsize rfl (lv_room hrest) hdg ⟨hcs.1, hcs.2⟩) hA hD hS kn (fun E q ce w' H1 locs1 h => h.elim)
/-- ends -/
theorem retZ_i {v : Int32} {cc : ByteArray} (hx : pr.tables.exec = Jvm.exec) (hb : c.code = cc) (hr : meth.sig.returnType = some .int) (hlocks : meth.locks = false) (hQ : vx_MQ below (QcZ D A PN) (XcZ D A PX) args s mc ms A = Q) (hn : PN (some (.int v)) ws) (hP : va_P D vwCl ws H) (hD : va_D A ws) (hS : va_S A s.heap H locs) (hc : cells ≤ mc) (hs : slots ≤ ms) (hd : decode cc pc = .ok (.ireturn, 1)) :
    W pr l e R s m args below meth c H locs cells slots Q (F0 m pc ls [.int v]) := by
  subst hQ
  exact W.widen (k := mc) (n := ms) hc hs (vx_ret (W.iret (v := v) hx hb hr (fun t ht hW => ⟨_, ws, rfl, hn, by rw [ht]; exact hP, hD, hS.F ht⟩) hS.2.2 hd))
theorem retZ_z {v : Int32} {cc : ByteArray} (hz : v = 0 ∨ v = 1) (hx : pr.tables.exec = Jvm.exec) (hb : c.code = cc) (hr : meth.sig.returnType = some .boolean) (hlocks : meth.locks = false) (hQ : vx_MQ below (QcZ D A PN) (XcZ D A PX) args s mc ms A = Q) (hn : PN (some (.int v)) ws) (hP : va_P D vwCl ws H) (hD : va_D A ws) (hS : va_S A s.heap H locs) (hc : cells ≤ mc) (hs : slots ≤ ms) (hd : decode cc pc = .ok (.ireturn, 1)) :
    W pr l e R s m args below meth c H locs cells slots Q (F0 m pc ls [.int v]) := by
  subst hQ
  exact W.widen (k := mc) (n := ms) hc hs (vx_ret (W.zret (v := v) (ty := .boolean) hx hb hr (nz_bool hz).1 (fun t ht hW => ⟨_, ws, rfl, hn, by rw [ht]; exact hP, hD, hS.F ht⟩) hS.2.2 hd))
theorem retZ_v {cc : ByteArray} (hx : pr.tables.exec = Jvm.exec) (hb : c.code = cc) (hr : meth.sig.returnType = none) (hlocks : meth.locks = false) (hQ : vx_MQ below (QcZ D A PN) (XcZ D A PX) args s mc ms A = Q) (hn : PN none ws) (hP : va_P D vwCl ws H) (hD : va_D A ws) (hS : va_S A s.heap H locs) (hc : cells ≤ mc) (hs : slots ≤ ms) (hd : decode cc pc = .ok (.return_, 1)) :
    W pr l e R s m args below meth c H locs cells slots Q (F0 m pc ls []) := by
  subst hQ
  exact W.widen (k := mc) (n := ms) hc hs (vx_ret (W.vret hx hb hr (fun t ht hW => ⟨_, ws, rfl, hn, by rw [ht]; exact hP, hD, hS.F ht⟩) hS.2.2 hd))
/-- a callee's throw, handed on -/
theorem outZ {E : String} {ce : Cell} {q : Nat} (hT : ∀ x ∈ c.exceptionTable.toList, False) (hlocks : meth.locks = false) (hQ : vx_MQ below (QcZ D A PN) (XcZ D A PX) args s mc ms A = Q) (hx : PX E ws) (hP : va_P D vwCl ws H) (hD : va_D A ws) (hS : va_S A s.heap H locs) (h1 : H[q]? = some ce) (h2 : ce.vm = .none) (h3 : s.vm.findClass E = some ce.cls) (hc : cells ≤ mc) (hs : slots ≤ ms) :
    vx_W pr l e R s m args below meth c H locs cells slots Q (F0 m pc ls rest) q := by
  subst hQ
  exact vx_out (fun x h => absurd h (fun h => hT x h)) hlocks h1 h2 h3 (fun t9 h9 _ => ⟨ws, hx, by rw [h9]; exact hP, hD, hS.F h9⟩) hS.2.2 hc hs
end ZW
/-! blocks -/
def flB (f : Nat → va_W) : List Nat → va_W
  | [] => []
  | i :: is => match is with
    | [] => f i
    | _ :: _ => f i ++ flB f is
theorem flB_eq (f : Nat → va_W) (is : List Nat) : flB f is = is.flatMap f := by
  induction is with
  | nil => rfl
  | cons i is ih =>
    cases is with
    | nil => show f i = _; rw [List.flatMap_cons, List.flatMap_nil, List.append_nil]
    | cons j js => show f i ++ flB f (j :: js) = _; rw [ih]; simp only [List.flatMap_cons]
theorem flB_perm (f : Nat → va_W) {is js : List Nat} (h : List.Perm is js) : List.Perm (flB f is) (flB f js) := by
  rw [flB_eq, flB_eq]; exact h.flatMap_right f
theorem flB_app (f : Nat → va_W) (is js : List Nat) : List.Perm (flB f (is ++ js)) (flB f is ++ flB f js) := by
  rw [flB_eq, flB_eq, flB_eq, List.flatMap_append]
abbrev bk (Bs : List va_W) : Nat → va_W := fun i => Bs.getD i []
theorem pB (Bs : List va_W) (is js ks : List Nat) (h : is.isPerm (js ++ ks) = true) : List.Perm (flB (bk Bs) is) (flB (bk Bs) js ++ flB (bk Bs) ks) :=
  (flB_perm _ (List.isPerm_iff.mp h)).trans (flB_app _ js ks)
theorem pB1 (Bs : List va_W) (is js : List Nat) (h : is.isPerm js = true) : List.Perm (flB (bk Bs) is) (flB (bk Bs) js) := flB_perm _ (List.isPerm_iff.mp h)
section ZT
variable {pr : Program} {l : Launch} {e : Env} {R : Room} {D : va_G} {sk sv : Nat → Nat} {tys : List (ClassId × FieldType)} {y : MethodName} {cc : ByteArray} {n : Nat} {rt : Option FieldType} {s : State} {m : MethodId} {args : Array Value} {below : List Frame} {meth : Method} {c : Code} {A : Nat → Prop} {H : Heap} {locs : List Loc} {cells slots : Nat} {Q : State → Prop} {pc : Nat} {ls : Array Slot} {rest : List Value} {mc ms : Nat} {PN : Option Value → va_W → Prop} {PX : String → va_W → Prop} {ws : va_W}
theorem thrZ_S {ik is ic ti k : Nat} {text : String} (hx9 : PX (exn k) ws) (X : CX pr D sk sv tys y cc n rt s m args meth c A) (hT : ∀ x ∈ c.exceptionTable.toList, False) (hst : l.stackTraces = false) (hat : atOK y.cls ic k) (m1 : Cond.classLink y.cls ik (exn k) ∈ WG) (m2 : Cond.initialized (exn k) ∈ WG) (hstr : (y.cls, is, text, ti) ∈ strTab)
    (hQ : vx_MQ below (QcZ D A PN) (XcZ D A PX) args s mc ms A = Q) (hP : va_P D vwCl ws H) (hD : va_D A ws) (hS : va_S A s.heap H locs) (hsize : ls.size = n) (d0 : decode cc pc = .ok (.new ik, 3)) (d3 : decode cc (pc + 3) = .ok (.dup, 1)) (d4 : decode cc (pc + 4) = .ok (.ldc is, 2)) (d6 : decode cc (pc + 6) = .ok (.invokespecial ic, 3)) (d9 : decode cc (pc + 9) = .ok (.athrow, 1))
    (h1 : 5 < R.frames) (h2 : (rest.map fun v => v.category).sum + 82 ≤ R.locals) (h3 : cells + 1 ≤ R.cells) (h4 : slots + 6 ≤ R.slots) (hc : cells + 1 ≤ mc) (hs : slots + 6 ≤ ms) :
    W pr l e R s m args below meth c H locs cells slots Q (F0 m pc ls rest) := by
  subst hQ
  obtain ⟨hx, hb, hr, hml, hown, hts, hlocks, hA, hK, hE⟩ := X
  have ok : ∀ w ∈ WG, w.before args s = true := fun w h => hts w (List.mem_cons_of_mem _ h)
  refine vx_throwS (names := exL) hx hb hst hown hat.2.1 (by decide +kernel) (ok _ m1) (ok _ m2) (hE.2.2.2.2.1 _ hstr) (fun w hw => (hat.1 w hw).elim (fun h => ok w h) (fun h => va_Nw.use (nw_tab (nwTab_ok w h)) (hE.2.2.2.2.2.1 w h))) ?_ hE.2.2.2.1.1 hE.2.2.2.1.2 hS (hsize.trans hml.symm) d0 d3 d4 d6 d9 (fun x h => absurd h (fun h => hT x h)) h1 h2 h3 h4 hlocks (fun t ht hz hk => ⟨ws, hx9, P_up hP hk, hD, ?_⟩) hS.2.2 hc hs
  · intro w hw
    rcases List.mem_cons.mp hw with h | h
    · rw [h]; rfl
    · rcases List.mem_cons.mp h with h | h
      · rw [h]; rfl
      · exact hat.2.2 w h
  · exact ⟨Nat.le_trans hS.1 hz, fun q q1 q2 => by rw [hk q (Nat.lt_of_lt_of_le q1 hS.1)]; exact hS.2.1 q q1 q2⟩
theorem thrZ_W {ik is ic ti k : Nat} {text : String} (hx9 : PX (exn k) ws) (X : CX pr D sk sv tys y cc n rt s m args meth c A) (hT : ∀ x ∈ c.exceptionTable.toList, False) (hst : l.stackTraces = false) (hat : atOK y.cls ic k) (m1 : Cond.classLink y.cls ik (exn k) ∈ WG) (m2 : Cond.initialized (exn k) ∈ WG) (hstr : (y.cls, is, text, ti) ∈ strTab)
    (hQ : vx_MQ below (QcZ D A PN) (XcZ D A PX) args s mc ms A = Q) (hP : va_P D vwCl ws H) (hD : va_D A ws) (hS : va_S A s.heap H locs) (hsize : ls.size = n) (d0 : decode cc pc = .ok (.new ik, 3)) (d3 : decode cc (pc + 3) = .ok (.dup, 1)) (d4 : decode cc (pc + 4) = .ok (.ldc_w is, 3)) (d7 : decode cc (pc + 7) = .ok (.invokespecial ic, 3)) (d10 : decode cc (pc + 10) = .ok (.athrow, 1))
    (h1 : 5 < R.frames) (h2 : (rest.map fun v => v.category).sum + 82 ≤ R.locals) (h3 : cells + 1 ≤ R.cells) (h4 : slots + 6 ≤ R.slots) (hc : cells + 1 ≤ mc) (hs : slots + 6 ≤ ms) :
    W pr l e R s m args below meth c H locs cells slots Q (F0 m pc ls rest) := by
  subst hQ
  obtain ⟨hx, hb, hr, hml, hown, hts, hlocks, hA, hK, hE⟩ := X
  have ok : ∀ w ∈ WG, w.before args s = true := fun w h => hts w (List.mem_cons_of_mem _ h)
  refine vx_throwSW (names := exL) hx hb hst hown hat.2.1 (by decide +kernel) (ok _ m1) (ok _ m2) (hE.2.2.2.2.1 _ hstr) (fun w hw => (hat.1 w hw).elim (fun h => ok w h) (fun h => va_Nw.use (nw_tab (nwTab_ok w h)) (hE.2.2.2.2.2.1 w h))) ?_ hE.2.2.2.1.1 hE.2.2.2.1.2 hS (hsize.trans hml.symm) d0 d3 d4 d7 d10 (fun x h => absurd h (fun h => hT x h)) h1 h2 h3 h4 hlocks (fun t ht hz hk => ⟨ws, hx9, P_up hP hk, hD, ?_⟩) hS.2.2 hc hs
  · intro w hw
    rcases List.mem_cons.mp hw with h | h
    · rw [h]; rfl
    · rcases List.mem_cons.mp h with h | h
      · rw [h]; rfl
      · exact hat.2.2 w h
  · exact ⟨Nat.le_trans hS.1 hz, fun q q1 q2 => by rw [hk q (Nat.lt_of_lt_of_le q1 hS.1)]; exact hS.2.1 q q1 q2⟩
end ZT
