theorem dc_J0_coder_7d493 : yJ0_coder_7d493.cls ≠ "java/lang/invoke/MethodHandle" ∧ yJ0_coder_7d493.cls ≠ "java/lang/invoke/VarHandle" ∧ (parseMethodDescriptor yJ0_coder_7d493.desc).map (fun d => d.parameters.length) = some 0 := by decide +kernel
theorem dc_J0_length_8abf5 : yJ0_length_8abf5.cls ≠ "java/lang/invoke/MethodHandle" ∧ yJ0_length_8abf5.cls ≠ "java/lang/invoke/VarHandle" ∧ (parseMethodDescriptor yJ0_length_8abf5.desc).map (fun d => d.parameters.length) = some 0 := by decide +kernel
theorem dc_J0_isLatin1_aae02 : yJ0_isLatin1_aae02.cls ≠ "java/lang/invoke/MethodHandle" ∧ yJ0_isLatin1_aae02.cls ≠ "java/lang/invoke/VarHandle" ∧ (parseMethodDescriptor yJ0_isLatin1_aae02.desc).map (fun d => d.parameters.length) = some 0 := by decide +kernel
theorem dc_J0_charAt_5068e : yJ0_charAt_5068e.cls ≠ "java/lang/invoke/MethodHandle" ∧ yJ0_charAt_5068e.cls ≠ "java/lang/invoke/VarHandle" ∧ (parseMethodDescriptor yJ0_charAt_5068e.desc).map (fun d => d.parameters.length) = some 1 := by decide +kernel
theorem dc_J0_checkIndex_df160 : yJ0_checkIndex_df160.cls ≠ "java/lang/invoke/MethodHandle" ∧ yJ0_checkIndex_df160.cls ≠ "java/lang/invoke/VarHandle" ∧ (parseMethodDescriptor yJ0_checkIndex_df160.desc).map (fun d => d.parameters.length) = some 2 := by decide +kernel
theorem dc_J1_charAt_3b067 : yJ1_charAt_3b067.cls ≠ "java/lang/invoke/MethodHandle" ∧ yJ1_charAt_3b067.cls ≠ "java/lang/invoke/VarHandle" ∧ (parseMethodDescriptor yJ1_charAt_3b067.desc).map (fun d => d.parameters.length) = some 2 := by decide +kernel
theorem dc_J3_checkIndex_8e157 : yJ3_checkIndex_8e157.cls ≠ "java/lang/invoke/MethodHandle" ∧ yJ3_checkIndex_8e157.cls ≠ "java/lang/invoke/VarHandle" ∧ (parseMethodDescriptor yJ3_checkIndex_8e157.desc).map (fun d => d.parameters.length) = some 3 := by decide +kernel
section JD
variable {pr : Program} {l : Launch} {e : Env} {R : Room} {D : va_G} {sk sv : Nat → Nat} {tys : List (ClassId × FieldType)} {y : MethodName} {cc : ByteArray} {n : Nat} {rt : Option FieldType} {s : State} {m : MethodId} {args : Array Value} {below : List Frame} {meth : Method} {c : Code} {A : Nat → Prop} {H : Heap} {locs : List Loc} {cells slots : Nat} {Q : State → Prop} {pc : Nat} {ls : Array Slot} {rest : List Value}
theorem ret_n {ty : FieldType} {v r : Int32} {w : va_W} (hn : narrow ty (.int v) = .int v) (hv : v = r) (X : CX pr D sk sv tys y cc n (some ty) s m args meth c A) (hQ : MQ below (QT D A (some (.int r)) w) args s 0 0 A = Q) (hP : va_P D vwCl w H) (hS : va_S A s.heap H locs) (hd : decode cc pc = .ok (.ireturn, 1)) :
    W pr l e R s m args below meth c H locs 0 0 Q (F0 m pc ls [.int v]) := by
  subst hv
  subst hQ
  obtain ⟨hx, hb, hr, hml, hown, hts, hlocks, hA, hK, hE⟩ := X
  exact W.zret (v := v) (ty := ty) hx hb hr hn (fun t ht hW => ⟨rfl, by rw [ht]; exact hP, hS.F ht⟩) hS.2.2 hd
/-- a call whose receiver stands outside the world -/
theorem call_R {y' : MethodName} {cc' : ByteArray} {n' : Nat} {rt' : Option FieldType} {rm' : Room} {b index : Nat} {As : List Value} {w : va_W} {r : Int32} (X : CX pr D sk sv tys y cc n rt s m args meth c A) (hM : CT l D sk sv tys y' cc' n' rt' rm' (.ref b :: As) [] (some (.int r)) [])
    (m1 : Cond.methodLink y.cls index y' ∈ WG) (m2 : Cond.instanceMethod y' ∈ WG) (m3 : Cond.selects y'.cls y' y' ∈ WG) (m4 : Cond.initialized y'.cls ∈ WG) (m5 : Cond.code y' cc' n' rt' ∈ WG)
    (hd : y'.cls ≠ "java/lang/invoke/MethodHandle" ∧ y'.cls ≠ "java/lang/invoke/VarHandle" ∧ (parseMethodDescriptor y'.desc).map (fun d => d.parameters.length) = some As.length) (hR : rm'.frames + 1 ≤ R.frames ∧ 8 + (n' + 11) + rm'.locals ≤ R.locals) (hrc : rm'.cells = 0) (hrs : rm'.slots = 0) (hcs : cells ≤ R.cells ∧ slots ≤ R.slots)
    (hP : va_P D vwCl w H) (hD : va_D A w) (hS : va_S A s.heap H locs) (hrv : va_O y'.cls b A s s.heap) (hsize : ls.size = n) (hrest : (rest.map fun v => v.category).sum ≤ 8) (hdg : decode cc pc = .ok (.invokevirtual index, 3))
    (kk : ∀ (H1 : Heap) (locs1 : List Loc), va_P D vwCl w H1 → va_S A s.heap H1 locs1 → W pr l e R s m args below meth c H1 locs1 cells slots Q (F0 m (pc + 3) ls (.int r :: rest))) : W pr l e R s m args below meth c H locs cells slots Q (F0 m pc ls (As.reverse ++ .ref b :: rest)) := by
  obtain ⟨hx, hb, hr, hml, hown, hts, hlocks, hA, hK, hE⟩ := X
  have ok : ∀ w ∈ WG, w.before args s = true := fun w h => hts w (List.mem_cons_of_mem _ h)
  have hcw : CallW R s args y.cls y'.cls index y' cc' n' rt' (wsG y' cc' n' rt') rm' 0 0 As.length := ⟨callB_of As.length hts (wg_good (fun w h => (List.mem_cons.mp h).elim (fun e => by rw [e]; exact m5) (fun h => h))) rfl hrc hrs (ok _ m4) (ok _ m1) hd hR, ok _ m2, ok _ m3⟩
  refine call_go (x := []) (wc := []) (wc' := []) (z := w) (va_runV (As := As) (rest := rest) (nL := n) (Ts := wsG y cc n rt) (own := y.cls) (C := y'.cls) ⟨hx, hb, hml, hown, hts⟩ (hM H.size) hcw ⟨fun a U g mk q => ?_, ?_, fun U hU hW => ?_⟩ rfl rfl hsize rfl (lv_room hrest) hdg ⟨hcs.1, hcs.2⟩) hA hS hP hD kk
  · obtain ⟨q0, q1, qP, qK, qD, qE⟩ := q
    exact ⟨q0, q1, qP, va_K.moved (u := U) (U := U.calling g mk a) (Vm.Alike.refl U.vm) qK, qD, EN.same (u := U) (U := U.calling g mk a) rfl qE⟩
  · obtain ⟨cell, r1, r2, r3, -⟩ := hrv.kept hS.2.1
    exact ⟨cell, r1, r2, r3⟩
  · exact ⟨rfl, by rw [hU], fun k q h => by simp at h, va_K.moved hW.alike hK, ⟨fun i j p q h => by simp at h, fun k q h => by simp at h⟩, by rw [← hU]; exact E_at (x := []) (wc := []) (z := w) hE hS hA hD hU hW⟩
theorem call_S0v {y' : MethodName} {cc' : ByteArray} {n' : Nat} {rt' : Option FieldType} {rm' : Room} {index : Nat} {As : List Value} {w : va_W} (X : CX pr D sk sv tys y cc n rt s m args meth c A) (hM : CT l D sk sv tys y' cc' n' rt' rm' As [] none [])
    (m1 : Cond.methodLink y.cls index y' ∈ WG) (m2 : Cond.static y' ∈ WG) (m4 : Cond.initialized y'.cls ∈ WG) (m5 : Cond.code y' cc' n' rt' ∈ WG)
    (hd : y'.cls ≠ "java/lang/invoke/MethodHandle" ∧ y'.cls ≠ "java/lang/invoke/VarHandle" ∧ (parseMethodDescriptor y'.desc).map (fun d => d.parameters.length) = some As.length) (hR : rm'.frames + 1 ≤ R.frames ∧ 8 + (n' + 11) + rm'.locals ≤ R.locals) (hrc : rm'.cells = 0) (hrs : rm'.slots = 0) (hcs : cells ≤ R.cells ∧ slots ≤ R.slots)
    (hP : va_P D vwCl w H) (hD : va_D A w) (hS : va_S A s.heap H locs) (hsize : ls.size = n) (hrest : (rest.map fun v => v.category).sum ≤ 8) (hdg : decode cc pc = .ok (.invokestatic index, 3))
    (kk : ∀ (H1 : Heap) (locs1 : List Loc), va_P D vwCl w H1 → va_S A s.heap H1 locs1 → W pr l e R s m args below meth c H1 locs1 cells slots Q (F0 m (pc + 3) ls rest)) : W pr l e R s m args below meth c H locs cells slots Q (F0 m pc ls (As.reverse ++ rest)) :=
  call_S0 X hM m1 m2 m4 m5 hd hR hrc hrs hcs hP hD hS hsize hrest hdg kk
end JD
theorem sw_out (x : Int32) (ks : List Int32) {lo hi : Int} (n : Nat) (hn : hi = lo + n - 1) (hk : ∀ j : Nat, j < n → ∃ k ∈ ks, k.toInt = lo + j) (h : ∀ k ∈ ks, ¬ x = k) : x.toInt < lo ∨ hi < x.toInt := by
  rcases Int.lt_or_le x.toInt lo with q | q
  · exact Or.inl q
  · rcases Int.lt_or_le hi x.toInt with p | p
    · exact Or.inr p
    · obtain ⟨k, hk1, hk2⟩ := hk (x.toInt - lo).toNat (by omega)
      have e : k.toInt = x.toInt := by rw [hk2]; omega
      exact absurd (Int32.toInt_inj.mp e.symm) (h k hk1)
def fl (n : Nat) (v : Int32) (f : Nat → Int32) : Nat → Int32 := fun i => if i < n then v else f i
theorem fl_s (i : Nat) (v : Int32) (f : Nat → Int32) : upd (fl i v f) i v = fl (i + 1) v f := by
  funext j
  by_cases h : j = i
  · subst h; rw [pk_us]; unfold fl; rw [if_pos (Nat.lt_succ_self _)]
  · rw [pk_un h]; unfold fl
    by_cases h2 : j < i
    · rw [if_pos h2, if_pos (by omega)]
    · rw [if_neg h2, if_neg (by omega)]
theorem fl_0 (v : Int32) (f : Nat → Int32) : fl 0 v f = f := by
  funext j; unfold fl; rw [if_neg (by omega)]
set_option maxHeartbeats 4000000 in
set_option maxRecDepth 100000 in
theorem c_fill (l : Launch) (dC : Nat → ClassId) (dI : Nat → Nat → Nat) (sk sv : Nat → Nat) (tc : Nat → ClassId) (b n : Nat) (f : Nat → Int32) (v : Int32) (hn : n < 2 ^ 31) : CT l (dC, dI) sk sv (TY tc) yJ7_fill_53178 cJ7_fill_53178 4 none { frames := 0, cells := 0, slots := 0, locals := 0 } [.ref b, .int v] [(b, .inl (tc 0, n, .inl f))] none [(b, .inl (tc 0, n, .inl (fl n v f)))] := by
  refine ofCT (by decide) (Nat.le_of_ble_eq_true rfl) ?_
  intro pr e s m args below meth c A Q ls H locs X hQ hD0 hP hS hl
  have hD : ∀ z, va_D A [(b, .inl (tc 0, n, .inl z))] := fun z => D_fst (ws := [(b, .inl (tc 0, n, .inl f))]) rfl hD0
  have hl : lv_has ls 4 [(0, .ref b), (1, .int v)] := hl
  have L : ∀ (k i : Nat), i + k = n → ∀ (H : Heap) (locs : List Loc) (ls : Array Slot), va_P (dC, dI) vwCl [(b, .inl (tc 0, n, .inl (fl i v f)))] H → va_S A s.heap H locs → lv_has ls 4 [(0, .ref b), (1, .int v), (2, .int (nI i)), (3, .int (nI n))] → W pr l e { frames := 0, cells := 0, slots := 0, locals := 0 } s m args below meth c H locs 0 0 Q (F0 m 5 ls []) := by
    intro k
    induction k with
    | zero =>
      intro i hi H locs ls hP hS hl
      have e1 : i = n := by omega
      subst e1
      refine lv_iload_n X.1 X.2.1 dJ7_fill_53178_5 rfl (lv_at hl 2 rfl) ?_
      refine lv_iload_n X.1 X.2.1 dJ7_fill_53178_6 rfl (lv_at hl 3 rfl) ?_
      refine lv_icmp_ge (tgt := 20) X.1 X.2.1 dJ7_fill_53178_7 (by decide) (fun hc => ?_) (fun hc => absurd (nI_le (Nat.le_refl i) hn) hc)
      exact ret_v0 X hQ hP hS dJ7_fill_53178_20
    | succ k ih =>
      intro i hi H locs ls hP hS hl
      have hlt : i < n := by omega
      refine lv_iload_n X.1 X.2.1 dJ7_fill_53178_5 rfl (lv_at hl 2 rfl) ?_
      refine lv_iload_n X.1 X.2.1 dJ7_fill_53178_6 rfl (lv_at hl 3 rfl) ?_
      refine lv_icmp_ge (tgt := 20) X.1 X.2.1 dJ7_fill_53178_7 (by decide) (fun hc => absurd hc (nI_ge hlt hn)) (fun hc => ?_)
      refine lv_aload_n X.1 X.2.1 dJ7_fill_53178_10 rfl (lv_at hl 0 rfl) ?_
      refine lv_iload_n X.1 X.2.1 dJ7_fill_53178_11 rfl (lv_at hl 2 rfl) ?_
      refine lv_iload_n X.1 X.2.1 dJ7_fill_53178_12 rfl (lv_at hl 1 rfl) ?_
      refine r_iast X hP (hD _) hS 0 0 rfl rfl (vp_in_nI hlt hn) (nI_clamp (by omega)) dJ7_fill_53178_13 [(b, .inl (tc 0, n, .inl (fl (i + 1) v f)))] (by rw [fl_s]; rfl) (fun H locs hP hS => ?_)
      refine lv_iinc (v := nI (i + 1)) (lv' := [(2, .int (nI (i + 1))), (0, .ref b), (1, .int v), (3, .int (nI n))]) X.1 X.2.1 dJ7_fill_53178_14 hl (k := 2) rfl (nI_1 i) (by decide) rfl (fun ls hl => ?_)
      refine lv_goto (tgt := 5) X.1 X.2.1 dJ7_fill_53178_17 (by decide) ?_
      exact ih (i + 1) (by omega) H locs ls hP hS (lv_sub hl [1, 2, 0, 3] rfl)
  refine lv_iconst (v := 0) X.1 X.2.1 dJ7_fill_53178_0 (by decide) ?_
  refine lv_istore_n (lv' := [(2, .int 0), (0, .ref b), (1, .int v)]) X.1 X.2.1 dJ7_fill_53178_1 rfl hl (by decide) rfl (fun ls hl => ?_)
  refine lv_aload_n X.1 X.2.1 dJ7_fill_53178_2 rfl (lv_at hl 1 rfl) ?_
  refine r_alen (v := nI n) X hP 0 0 rfl rfl rfl dJ7_fill_53178_3 ?_
  refine lv_istore_n (lv' := [(3, .int (nI n)), (2, .int 0), (0, .ref b), (1, .int v)]) X.1 X.2.1 dJ7_fill_53178_4 rfl hl (by decide) rfl (fun ls hl => ?_)
  exact L n 0 (by omega) H locs ls (by rw [fl_0]; exact hP) hS (lv_sub hl [2, 3, 1, 0] rfl)
theorem dc_J7_fill_53178 : yJ7_fill_53178.cls ≠ "java/lang/invoke/MethodHandle" ∧ yJ7_fill_53178.cls ≠ "java/lang/invoke/VarHandle" ∧ (parseMethodDescriptor yJ7_fill_53178.desc).map (fun d => d.parameters.length) = some 2 := by decide +kernel
theorem dc_J6_bitCount_0f7a4 : yJ6_bitCount_0f7a4.cls ≠ "java/lang/invoke/MethodHandle" ∧ yJ6_bitCount_0f7a4.cls ≠ "java/lang/invoke/VarHandle" ∧ (parseMethodDescriptor yJ6_bitCount_0f7a4.desc).map (fun d => d.parameters.length) = some 1 := by decide +kernel
def f_len (k : Nat) : Option Int32 := some (nI (strT.getD k []).length)
def f_chr (k : Nat) (i : Int32) : Option Int32 := gdi i (strT.getD k []).length (some ((strT.getD k []).getD i.toNatClampNeg 0))
theorem str_ok : ∀ k, k < strT.length → (strT.getD k []).length < 100 ∧ ∀ j, j < (strT.getD k []).length → ((((strT.getD k []).getD j 0) &&& 255).toUInt32 % 65536).toInt32 = (strT.getD k []).getD j 0 ∧ narrow .char (.int ((strT.getD k []).getD j 0)) = .int ((strT.getD k []).getD j 0) := by decide +kernel
abbrev rm_j0 : Room := { frames := 0, cells := 0, slots := 0, locals := 0 }
abbrev rm_j1 : Room := { frames := 1, cells := 0, slots := 0, locals := 30 }
abbrev rm_j2 : Room := { frames := 2, cells := 0, slots := 0, locals := 60 }
abbrev rm_j3 : Room := { frames := 3, cells := 0, slots := 0, locals := 90 }
set_option maxHeartbeats 4000000 in
set_option maxRecDepth 100000 in
theorem c_coder (l : Launch) (dC : Nat → ClassId) (dI : Nat → Nat → Nat) (sk sv : Nat → Nat) (tc : Nat → ClassId) (k : Nat) (hk : k < strT.length) : CT l (dC, dI) sk sv (TY tc) yJ0_coder_7d493 cJ0_coder_7d493 1 (some .byte) rm_j0 [.ref (sk k)] [] (some (.int 0)) [] := by
  refine ofCT (by decide) (Nat.le_of_ble_eq_true rfl) ?_
  intro pr e s m args below meth c A Q ls H locs X hQ hD hP hS hl
  have hl : lv_has ls 1 [(0, .ref (sk k))] := hl
  refine va_gets X.1 X.2.1 X.2.2.2.2.2.2.2.2.2.2.1 hS X.2.2.2.2.1 (X.2.2.2.2.2.1 _ (List.mem_cons_of_mem _ mw_3_149)) (fun _ h => h) dJ0_coder_7d493_0 ?_
  refine lv_if_eq (tgt := 13) X.1 X.2.1 dJ0_coder_7d493_3 (by decide) (fun hc => absurd hc (by decide)) (fun hc => ?_)
  refine lv_aload_n X.1 X.2.1 dJ0_coder_7d493_6 rfl (lv_at hl 0 rfl) ?_
  refine vk_getf X.1 X.2.1 (X.2.2.2.2.2.2.2.2.2.1 k hk).2.1 hS X.2.2.2.2.1 (X.2.2.2.2.2.1 _ (List.mem_cons_of_mem _ mw_10_100)) (fun _ h => h) dJ0_coder_7d493_7 ?_
  refine lv_goto (tgt := 14) X.1 X.2.1 dJ0_coder_7d493_10 (by decide) ?_
  exact ret_n (by decide) rfl X hQ hP hS dJ0_coder_7d493_14
set_option maxHeartbeats 4000000 in
set_option maxRecDepth 100000 in
theorem c_latin (l : Launch) (dC : Nat → ClassId) (dI : Nat → Nat → Nat) (sk sv : Nat → Nat) (tc : Nat → ClassId) (k : Nat) (hk : k < strT.length) : CT l (dC, dI) sk sv (TY tc) yJ0_isLatin1_aae02 cJ0_isLatin1_aae02 1 (some .boolean) rm_j0 [.ref (sk k)] [] (some (.int 1)) [] := by
  refine ofCT (by decide) (Nat.le_of_ble_eq_true rfl) ?_
  intro pr e s m args below meth c A Q ls H locs X hQ hD hP hS hl
  have hl : lv_has ls 1 [(0, .ref (sk k))] := hl
  refine va_gets X.1 X.2.1 X.2.2.2.2.2.2.2.2.2.2.1 hS X.2.2.2.2.1 (X.2.2.2.2.2.1 _ (List.mem_cons_of_mem _ mw_3_149)) (fun _ h => h) dJ0_isLatin1_aae02_0 ?_
  refine lv_if_eq (tgt := 17) X.1 X.2.1 dJ0_isLatin1_aae02_3 (by decide) (fun hc => absurd hc (by decide)) (fun hc => ?_)
  refine lv_aload_n X.1 X.2.1 dJ0_isLatin1_aae02_6 rfl (lv_at hl 0 rfl) ?_
  refine vk_getf X.1 X.2.1 (X.2.2.2.2.2.2.2.2.2.1 k hk).2.1 hS X.2.2.2.2.1 (X.2.2.2.2.2.1 _ (List.mem_cons_of_mem _ mw_10_100)) (fun _ h => h) dJ0_isLatin1_aae02_7 ?_
  refine lv_if_ne (tgt := 17) X.1 X.2.1 dJ0_isLatin1_aae02_10 (by decide) (fun hc => absurd rfl hc) (fun hc => ?_)
  refine lv_iconst (v := 1) X.1 X.2.1 dJ0_isLatin1_aae02_13 (by decide) ?_
  refine lv_goto (tgt := 18) X.1 X.2.1 dJ0_isLatin1_aae02_14 (by decide) ?_
  exact ret_z0 (by decide) rfl X hQ hP hS dJ0_isLatin1_aae02_18
set_option maxHeartbeats 4000000 in
set_option maxRecDepth 100000 in
theorem c_len (l : Launch) (dC : Nat → ClassId) (dI : Nat → Nat → Nat) (sk sv : Nat → Nat) (tc : Nat → ClassId) (k : Nat) {r0 : Int32} (h : f_len k = some r0) (hk : k < strT.length) : CT l (dC, dI) sk sv (TY tc) yJ0_length_8abf5 cJ0_length_8abf5 1 (some .int) rm_j1 [.ref (sk k)] [] (some (.int r0)) [] := by
  refine ofCT (by decide) (Nat.le_of_ble_eq_true rfl) ?_
  intro pr e s m args below meth c A Q ls H locs X hQ hD hP hS hl
  have hl : lv_has ls 1 [(0, .ref (sk k))] := hl
  refine lv_aload_n X.1 X.2.1 dJ0_length_8abf5_0 rfl (lv_at hl 0 rfl) ?_
  refine vk_getf X.1 X.2.1 (X.2.2.2.2.2.2.2.2.2.1 k hk).2.2.1 hS X.2.2.2.2.1 (X.2.2.2.2.2.1 _ (List.mem_cons_of_mem _ mw_10_99)) (fun _ h => h) dJ0_length_8abf5_1 ?_
  refine va_tlen X.1 X.2.1 (X.2.2.2.2.2.2.2.2.2.1 k hk).2.2.2 hS rfl dJ0_length_8abf5_4 ?_
  refine lv_aload_n X.1 X.2.1 dJ0_length_8abf5_5 rfl (lv_at hl 0 rfl) ?_
  refine call_R (As := []) (rest := [.int (Int32.ofNat (strT.getD k []).length)]) X (c_coder l dC dI sk sv tc k hk) mw_3_145 mw_3_146 mw_3_147 mw_1_14 mw_3_148 dc_J0_coder_7d493 ⟨Nat.le_of_ble_eq_true rfl, Nat.le_of_ble_eq_true rfl⟩ rfl rfl ⟨Nat.zero_le _, Nat.zero_le _⟩ hP hD hS (X.2.2.2.2.2.2.2.2.2.1 k hk).1 hl.1 (Nat.le_of_ble_eq_true rfl) dJ0_length_8abf5_6 (fun H locs hP hS => ?_)
  refine lv_ishr X.1 X.2.1 dJ0_length_8abf5_9 ?_
  refine ret_i0 ?_ X hQ hP hS dJ0_length_8abf5_10
  have h1 := (str_ok k hk).1
  have h2 : r0 = nI (strT.getD k []).length := (Option.some.inj h).symm
  rw [h2]
  show nI (strT.getD k []).length >>> ((0 : Int32) &&& 31) = nI (strT.getD k []).length
  rw [pk_shrN (by omega) _ 0 (by decide)]
  simp
set_option maxHeartbeats 4000000 in
set_option maxRecDepth 100000 in
theorem c_pchk (l : Launch) (dC : Nat → ClassId) (dI : Nat → Nat → Nat) (sk sv : Nat → Nat) (tc : Nat → ClassId) (i n : Int32) (v3 : Value) (hv : v3 = .null ∨ ∃ t, v3 = .ref t) (h0 : ¬ i < 0) (h1 : i < n) : CT l (dC, dI) sk sv (TY tc) yJ3_checkIndex_8e157 cJ3_checkIndex_8e157 3 (some .int) rm_j0 [.int i, .int n, v3] [] (some (.int i)) [] := by
  have hlen : (lg_sl [.int i, .int n, v3]).length ≤ 3 := by rcases hv with rfl | ⟨t, rfl⟩ <;> exact (Nat.le_of_ble_eq_true rfl)
  have hla : lv_args 0 [.int i, .int n, v3] = [(0, .int i), (1, .int n), (2, v3)] := rfl
  refine ofCT (by decide) hlen ?_
  intro pr e s m args below meth c A Q ls H locs X hQ hD hP hS hl
  rw [hla] at hl
  refine lv_iload_n X.1 X.2.1 dJ3_checkIndex_8e157_0 rfl (lv_at hl 0 rfl) ?_
  refine lv_if_lt (tgt := 9) X.1 X.2.1 dJ3_checkIndex_8e157_1 (by decide) (fun hc => absurd hc h0) (fun hc => ?_)
  refine lv_iload_n X.1 X.2.1 dJ3_checkIndex_8e157_4 rfl (lv_at hl 0 rfl) ?_
  refine lv_iload_n X.1 X.2.1 dJ3_checkIndex_8e157_5 rfl (lv_at hl 1 rfl) ?_
  refine lv_icmp_lt (tgt := 16) X.1 X.2.1 dJ3_checkIndex_8e157_6 (by decide) (fun hc => ?_) (fun hc => absurd h1 hc)
  refine lv_iload_n X.1 X.2.1 dJ3_checkIndex_8e157_16 rfl (lv_at hl 0 rfl) ?_
  exact ret_i0 rfl X hQ hP hS dJ3_checkIndex_8e157_17
set_option maxHeartbeats 4000000 in
set_option maxRecDepth 100000 in
theorem c_chk (l : Launch) (dC : Nat → ClassId) (dI : Nat → Nat → Nat) (sk sv : Nat → Nat) (tc : Nat → ClassId) (i n : Int32) (h0 : ¬ i < 0) (h1 : i < n) : CT l (dC, dI) sk sv (TY tc) yJ0_checkIndex_df160 cJ0_checkIndex_df160 2 none rm_j1 [.int i, .int n] [] none [] := by
  refine ofCT (by decide) (Nat.le_of_ble_eq_true rfl) ?_
  intro pr e s m args below meth c A Q ls H locs X hQ hD hP hS hl
  have hl : lv_has ls 2 [(0, .int i), (1, .int n)] := hl
  refine lv_iload_n X.1 X.2.1 dJ0_checkIndex_df160_0 rfl (lv_at hl 0 rfl) ?_
  refine lv_iload_n X.1 X.2.1 dJ0_checkIndex_df160_1 rfl (lv_at hl 1 rfl) ?_
  have go : ∀ v3 : Value, (v3 = .null ∨ ∃ t, v3 = .ref t) → va_Z "jdk/internal/util/Preconditions" "SIOOBE_FORMATTER" "Ljava/util/function/BiFunction;" v3 A s s.heap → W pr l e rm_j1 s m args below meth c H locs 0 0 Q (F0 m 2 ls [.int n, .int i]) := by
    intro v3 hv hZ
    refine va_gets X.1 X.2.1 hZ hS X.2.2.2.2.1 (X.2.2.2.2.2.1 _ (List.mem_cons_of_mem _ mw_3_165)) (fun _ h => h) dJ0_checkIndex_df160_2 ?_
    refine call_S0i (As := [.int i, .int n, v3]) (rest := []) X (c_pchk l dC dI sk sv tc i n v3 hv h0 h1) mw_3_167 mw_3_168 mw_1_16 mw_3_169 dc_J3_checkIndex_8e157 ⟨Nat.le_of_ble_eq_true rfl, Nat.le_of_ble_eq_true rfl⟩ rfl rfl ⟨Nat.zero_le _, Nat.zero_le _⟩ hP hD hS hl.1 (Nat.le_of_ble_eq_true rfl) dJ0_checkIndex_df160_5 (fun H locs hP hS => ?_)
    refine lv_pop X.1 X.2.1 dJ0_checkIndex_df160_8 rfl ?_
    exact ret_v0 X hQ hP hS dJ0_checkIndex_df160_9
  rcases X.2.2.2.2.2.2.2.2.2.2.2.1 with hz | ⟨t, hz⟩
  · exact go .null (Or.inl rfl) hz
  · exact go (.ref t) (Or.inr ⟨t, rfl⟩) hz
set_option maxHeartbeats 4000000 in
set_option maxRecDepth 100000 in
theorem c_chr1 (l : Launch) (dC : Nat → ClassId) (dI : Nat → Nat → Nat) (sk sv : Nat → Nat) (tc : Nat → ClassId) (k : Nat) (i : Int32) (hk : k < strT.length) (hi : vp_in i (strT.getD k []).length) : CT l (dC, dI) sk sv (TY tc) yJ1_charAt_3b067 cJ1_charAt_3b067 2 (some .char) rm_j2 [.ref (sv k), .int i] [] (some (.int ((strT.getD k []).getD i.toNatClampNeg 0))) [] := by
  refine ofCT (by decide) (Nat.le_of_ble_eq_true rfl) ?_
  intro pr e s m args below meth c A Q ls H locs X hQ hD hP hS hl
  have hl : lv_has ls 2 [(0, .ref (sv k)), (1, .int i)] := hl
  obtain ⟨hL, hb⟩ := str_ok k hk
  obtain ⟨j, hj, rfl⟩ := vp_in_of hi (by omega)
  have hcl : (nI j).toNatClampNeg = j := nI_clamp (by omega)
  refine lv_iload_n X.1 X.2.1 dJ1_charAt_3b067_0 rfl (lv_at hl 1 rfl) ?_
  refine lv_aload_n X.1 X.2.1 dJ1_charAt_3b067_1 rfl (lv_at hl 0 rfl) ?_
  refine va_tlen X.1 X.2.1 (X.2.2.2.2.2.2.2.2.2.1 k hk).2.2.2 hS rfl dJ1_charAt_3b067_2 ?_
  refine call_S0v (As := [.int (nI j), .int (Int32.ofNat (strT.getD k []).length)]) (rest := []) X (c_chk l dC dI sk sv tc (nI j) (Int32.ofNat (strT.getD k []).length) (nI_pos (by omega)) (nI_lt hj (by omega))) mw_3_162 mw_3_163 mw_1_14 mw_3_164 dc_J0_checkIndex_df160 ⟨Nat.le_of_ble_eq_true rfl, Nat.le_of_ble_eq_true rfl⟩ rfl rfl ⟨Nat.zero_le _, Nat.zero_le _⟩ hP hD hS hl.1 (Nat.le_of_ble_eq_true rfl) dJ1_charAt_3b067_3 (fun H locs hP hS => ?_)
  refine lv_aload_n X.1 X.2.1 dJ1_charAt_3b067_6 rfl (lv_at hl 0 rfl) ?_
  refine lv_iload_n X.1 X.2.1 dJ1_charAt_3b067_7 rfl (lv_at hl 1 rfl) ?_
  refine va_tb X.1 X.2.1 (X.2.2.2.2.2.2.2.2.2.1 k hk).2.2.2 hS hi rfl dJ1_charAt_3b067_8 ?_
  refine lv_sipush (v := 255) X.1 X.2.1 dJ1_charAt_3b067_9 (by decide) ?_
  refine lv_iand X.1 X.2.1 dJ1_charAt_3b067_12 ?_
  refine lv_i2c X.1 X.2.1 dJ1_charAt_3b067_13 rfl ?_
  rw [hcl]
  rw [(hb j hj).1]
  exact ret_n (hb j hj).2 (by rw [hcl]) X hQ hP hS dJ1_charAt_3b067_14
set_option maxHeartbeats 4000000 in
set_option maxRecDepth 100000 in
theorem c_chr (l : Launch) (dC : Nat → ClassId) (dI : Nat → Nat → Nat) (sk sv : Nat → Nat) (tc : Nat → ClassId) (k : Nat) (i : Int32) {r0 : Int32} (h : f_chr k i = some r0) (hk : k < strT.length) : CT l (dC, dI) sk sv (TY tc) yJ0_charAt_5068e cJ0_charAt_5068e 2 (some .char) rm_j3 [.ref (sk k), .int i] [] (some (.int r0)) [] := by
  refine ofCT (by decide) (Nat.le_of_ble_eq_true rfl) ?_
  intro pr e s m args below meth c A Q ls H locs X hQ hD hP hS hl
  have hl : lv_has ls 2 [(0, .ref (sk k)), (1, .int i)] := hl
  unfold f_chr at h
  obtain ⟨hi, h⟩ := gdi_el h
  have hr := Option.some.inj h
  have hn : narrow .char (.int ((strT.getD k []).getD i.toNatClampNeg 0)) = .int ((strT.getD k []).getD i.toNatClampNeg 0) := by
    obtain ⟨hL, hb⟩ := str_ok k hk
    obtain ⟨j, hj, rfl⟩ := vp_in_of hi (by omega)
    rw [nI_clamp (by omega)]
    exact (hb j hj).2
  refine lv_aload_n X.1 X.2.1 dJ0_charAt_5068e_0 rfl (lv_at hl 0 rfl) ?_
  refine call_R (As := []) (rest := []) X (c_latin l dC dI sk sv tc k hk) mw_3_155 mw_3_156 mw_3_157 mw_1_14 mw_3_158 dc_J0_isLatin1_aae02 ⟨Nat.le_of_ble_eq_true rfl, Nat.le_of_ble_eq_true rfl⟩ rfl rfl ⟨Nat.zero_le _, Nat.zero_le _⟩ hP hD hS (X.2.2.2.2.2.2.2.2.2.1 k hk).1 hl.1 (Nat.le_of_ble_eq_true rfl) dJ0_charAt_5068e_1 (fun H locs hP hS => ?_)
  refine lv_if_eq (tgt := 16) X.1 X.2.1 dJ0_charAt_5068e_4 (by decide) (fun hc => absurd hc (by decide)) (fun hc => ?_)
  refine lv_aload_n X.1 X.2.1 dJ0_charAt_5068e_7 rfl (lv_at hl 0 rfl) ?_
  refine vk_getf X.1 X.2.1 (X.2.2.2.2.2.2.2.2.2.1 k hk).2.2.1 hS X.2.2.2.2.1 (X.2.2.2.2.2.1 _ (List.mem_cons_of_mem _ mw_10_99)) (fun _ h => h) dJ0_charAt_5068e_8 ?_
  refine lv_iload_n X.1 X.2.1 dJ0_charAt_5068e_11 rfl (lv_at hl 1 rfl) ?_
  refine call_S0i (As := [.ref (sv k), .int i]) (rest := []) X (c_chr1 l dC dI sk sv tc k i hk hi) mw_3_159 mw_3_160 mw_1_15 mw_3_161 dc_J1_charAt_3b067 ⟨Nat.le_of_ble_eq_true rfl, Nat.le_of_ble_eq_true rfl⟩ rfl rfl ⟨Nat.zero_le _, Nat.zero_le _⟩ hP hD hS hl.1 (Nat.le_of_ble_eq_true rfl) dJ0_charAt_5068e_12 (fun H locs hP hS => ?_)
  exact ret_n hn hr X hQ hP hS dJ0_charAt_5068e_15
def f_J6_bitCount_0f7a4 (x0 : Int32) : Option (Int32) := nm ((x0 - (((x0.toUInt32 >>> ((1 : Int32).toUInt32 &&& Int32.toUInt32 31)).toInt32) &&& 1431655765))) (fun x0_1 => nm (((x0_1 &&& 858993459) + (((x0_1.toUInt32 >>> ((2 : Int32).toUInt32 &&& Int32.toUInt32 31)).toInt32) &&& 858993459))) (fun x0_2 => nm (((x0_2 + ((x0_2.toUInt32 >>> ((4 : Int32).toUInt32 &&& Int32.toUInt32 31)).toInt32)) &&& 252645135)) (fun x0_3 => nm ((x0_3 + ((x0_3.toUInt32 >>> ((8 : Int32).toUInt32 &&& Int32.toUInt32 31)).toInt32))) (fun x0_4 => nm ((x0_4 + ((x0_4.toUInt32 >>> ((16 : Int32).toUInt32 &&& Int32.toUInt32 31)).toInt32))) (fun x0_5 => some (x0_5 &&& 63))))))
abbrev rm_J6_bitCount_0f7a4 : Room := { frames := 0, cells := 0, slots := 0, locals := 0 }
set_option maxHeartbeats 4000000 in
set_option maxRecDepth 100000 in
theorem c_J6_bitCount_0f7a4 (l : Launch) (dC : Nat → ClassId) (dI : Nat → Nat → Nat) (sk sv : Nat → Nat) (tc : Nat → ClassId) (x0 : Int32) {r0 : Int32} (h : f_J6_bitCount_0f7a4 x0 = some r0) : CT l (dC, dI) sk sv (TY tc) yJ6_bitCount_0f7a4 cJ6_bitCount_0f7a4 1 (some .int) rm_J6_bitCount_0f7a4 [.int x0] [] (some (.int r0)) [] := by
  refine ofCT (by decide) (Nat.le_of_ble_eq_true rfl) ?_
  intro pr e s m args below meth c A Q ls H locs X hQ hD0 hP hS hl
  have hD : va_D A [] := hD0
  have hl : lv_has ls 1 [(0, .int x0)] := hl
  unfold f_J6_bitCount_0f7a4 at h
  refine lv_iload_n X.1 X.2.1 dJ6_bitCount_0f7a4_0 rfl (lv_at hl 0 rfl) ?_
  refine lv_iload_n X.1 X.2.1 dJ6_bitCount_0f7a4_1 rfl (lv_at hl 0 rfl) ?_
  refine lv_iconst (v := 1) X.1 X.2.1 dJ6_bitCount_0f7a4_2 (by decide) ?_
  refine lv_iushr X.1 X.2.1 dJ6_bitCount_0f7a4_3 rfl ?_
  refine lv_ldcw (v := 1431655765) X.1 X.2.1 X.2.2.2.2.1 (X.2.2.2.2.2.1 _ (List.mem_cons_of_mem _ mw_2_216)) dJ6_bitCount_0f7a4_4 ?_
  refine lv_iand X.1 X.2.1 dJ6_bitCount_0f7a4_7 ?_
  refine lv_isub X.1 X.2.1 dJ6_bitCount_0f7a4_8 ?_
  obtain ⟨x0_1, ex0_1, h⟩ := nm_el h
  refine tp_i ex0_1 ?_
  refine lv_istore_n (lv' := [(0, .int x0_1)]) X.1 X.2.1 dJ6_bitCount_0f7a4_9 rfl hl (by decide) rfl (fun ls hl => ?_)
  refine lv_iload_n X.1 X.2.1 dJ6_bitCount_0f7a4_10 rfl (lv_at hl 0 rfl) ?_
  refine lv_ldcw (v := 858993459) X.1 X.2.1 X.2.2.2.2.1 (X.2.2.2.2.2.1 _ (List.mem_cons_of_mem _ mw_2_217)) dJ6_bitCount_0f7a4_11 ?_
  refine lv_iand X.1 X.2.1 dJ6_bitCount_0f7a4_14 ?_
  refine lv_iload_n X.1 X.2.1 dJ6_bitCount_0f7a4_15 rfl (lv_at hl 0 rfl) ?_
  refine lv_iconst (v := 2) X.1 X.2.1 dJ6_bitCount_0f7a4_16 (by decide) ?_
  refine lv_iushr X.1 X.2.1 dJ6_bitCount_0f7a4_17 rfl ?_
  refine lv_ldcw (v := 858993459) X.1 X.2.1 X.2.2.2.2.1 (X.2.2.2.2.2.1 _ (List.mem_cons_of_mem _ mw_2_217)) dJ6_bitCount_0f7a4_18 ?_
  refine lv_iand X.1 X.2.1 dJ6_bitCount_0f7a4_21 ?_
  refine lv_iadd X.1 X.2.1 dJ6_bitCount_0f7a4_22 ?_
  obtain ⟨x0_2, ex0_2, h⟩ := nm_el h
  refine tp_i ex0_2 ?_
  refine lv_istore_n (lv' := [(0, .int x0_2)]) X.1 X.2.1 dJ6_bitCount_0f7a4_23 rfl hl (by decide) rfl (fun ls hl => ?_)
  refine lv_iload_n X.1 X.2.1 dJ6_bitCount_0f7a4_24 rfl (lv_at hl 0 rfl) ?_
  refine lv_iload_n X.1 X.2.1 dJ6_bitCount_0f7a4_25 rfl (lv_at hl 0 rfl) ?_
  refine lv_iconst (v := 4) X.1 X.2.1 dJ6_bitCount_0f7a4_26 (by decide) ?_
  refine lv_iushr X.1 X.2.1 dJ6_bitCount_0f7a4_27 rfl ?_
  refine lv_iadd X.1 X.2.1 dJ6_bitCount_0f7a4_28 ?_
  refine lv_ldcw (v := 252645135) X.1 X.2.1 X.2.2.2.2.1 (X.2.2.2.2.2.1 _ (List.mem_cons_of_mem _ mw_2_218)) dJ6_bitCount_0f7a4_29 ?_
  refine lv_iand X.1 X.2.1 dJ6_bitCount_0f7a4_32 ?_
  obtain ⟨x0_3, ex0_3, h⟩ := nm_el h
  refine tp_i ex0_3 ?_
  refine lv_istore_n (lv' := [(0, .int x0_3)]) X.1 X.2.1 dJ6_bitCount_0f7a4_33 rfl hl (by decide) rfl (fun ls hl => ?_)
  refine lv_iload_n X.1 X.2.1 dJ6_bitCount_0f7a4_34 rfl (lv_at hl 0 rfl) ?_
  refine lv_iload_n X.1 X.2.1 dJ6_bitCount_0f7a4_35 rfl (lv_at hl 0 rfl) ?_
  refine lv_bipush (v := 8) X.1 X.2.1 dJ6_bitCount_0f7a4_36 (by decide) ?_
  refine lv_iushr X.1 X.2.1 dJ6_bitCount_0f7a4_38 rfl ?_
  refine lv_iadd X.1 X.2.1 dJ6_bitCount_0f7a4_39 ?_
  obtain ⟨x0_4, ex0_4, h⟩ := nm_el h
  refine tp_i ex0_4 ?_
  refine lv_istore_n (lv' := [(0, .int x0_4)]) X.1 X.2.1 dJ6_bitCount_0f7a4_40 rfl hl (by decide) rfl (fun ls hl => ?_)
  refine lv_iload_n X.1 X.2.1 dJ6_bitCount_0f7a4_41 rfl (lv_at hl 0 rfl) ?_
  refine lv_iload_n X.1 X.2.1 dJ6_bitCount_0f7a4_42 rfl (lv_at hl 0 rfl) ?_
  refine lv_bipush (v := 16) X.1 X.2.1 dJ6_bitCount_0f7a4_43 (by decide) ?_
  refine lv_iushr X.1 X.2.1 dJ6_bitCount_0f7a4_45 rfl ?_
  refine lv_iadd X.1 X.2.1 dJ6_bitCount_0f7a4_46 ?_
  obtain ⟨x0_5, ex0_5, h⟩ := nm_el h
  refine tp_i ex0_5 ?_
  refine lv_istore_n (lv' := [(0, .int x0_5)]) X.1 X.2.1 dJ6_bitCount_0f7a4_47 rfl hl (by decide) rfl (fun ls hl => ?_)
  refine lv_iload_n X.1 X.2.1 dJ6_bitCount_0f7a4_48 rfl (lv_at hl 0 rfl) ?_
  refine lv_bipush (v := 63) X.1 X.2.1 dJ6_bitCount_0f7a4_49 (by decide) ?_
  refine lv_iand X.1 X.2.1 dJ6_bitCount_0f7a4_51 ?_
  exact ret_i0 (Option.some.inj h) X hQ hP hS dJ6_bitCount_0f7a4_52

