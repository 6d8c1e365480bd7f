def wO (tc : Nat → ClassId) (ao : Nat) (o : Nat → Int64) : va_W := [(ao, .inl (tc 2, 1, .inr (.inl o)))]
theorem o_at (tc : Nat → ClassId) (ao : Nat) (o : Nat → Int64) (w1 : va_W) : (w1 ++ wO tc ao o)[w1.length]? = some (ao, .inl (tc 2, 1, .inr (.inl o))) := by
  rw [List.getElem?_append_right (Nat.le_refl _), Nat.sub_self]; rfl
theorem o_set (tc : Nat → ClassId) (ao : Nat) (o o' : Nat → Int64) (w1 : va_W) : (w1 ++ wO tc ao o).set w1.length (ao, .inl (tc 2, 1, .inr (.inl o'))) = w1 ++ wO tc ao o' := by
  rw [List.set_append_right _ _ (Nat.le_refl _), Nat.sub_self]; rfl
def PNc (tc : Nat → ClassId) (ao : Nat) (o : Nat → Int64) (PI : Int32 → va_W → Prop) : Option Value → va_W → Prop := fun v w' => ∃ (r : Int32) (w1 : va_W), v = some (.int r) ∧ w' = w1 ++ wO tc ao o ∧ PI r w1
def PXc (tc : Nat → ClassId) (ao : Nat) (o : Nat → Int64) (PE : Nat → va_W → Prop) : String → va_W → Prop := fun E w' => ∃ (k : Nat) (w1 : va_W), E = exn k ∧ w' = w1 ++ wO tc ao o ∧ PE k w1
/-- what a small method of the law hands back -/
def PNW (tc : Nat → ClassId) (ao : Nat) (PI : Int32 → va_W → Prop) (PE : Nat → va_W → Prop) (cd : Nat → Int32) : Option Value → va_W → Prop := fun v w' => ∃ (kk : Int32) (o' : Nat → Int64) (w1 : va_W), v = some (.int kk) ∧ w' = w1 ++ wO tc ao o' ∧ ((kk = 0 ∧ ∃ r, o' 0 = r.toInt64 ∧ PI r w1) ∨ ∃ k, kk = cd k ∧ PE k w1)
theorem l_10 : (1 : Int64) = (1 : Int32).toInt64 := by decide
theorem l_00 : (0 : Int64) = (0 : Int32).toInt64 := by decide
abbrev rmW (mc ms : Nat) : Room := { frames := 101, cells := mc, slots := ms, locals := 5100 }

theorem mwc_evening : Cond.codeWith yL_evening cL_evening 3 (some .int) [(0, 8, 11, 13), (0, 8, 14, 15)] ∈ WG := wg_t (List.mem_append_right _ (List.mem_append_right _ (List.mem_append_left _ (List.mem_of_getElem? (i := 113) rfl)))) rfl
theorem dcl_evening : yL_evening.cls ≠ "java/lang/invoke/MethodHandle" ∧ yL_evening.cls ≠ "java/lang/invoke/VarHandle" ∧ (parseMethodDescriptor yL_evening.desc).map (fun d => d.parameters.length) = some 2 := by decide +kernel
set_option maxHeartbeats 1000000 in
theorem w_evening (l : Launch) (dC : Nat → ClassId) (dI : Nat → Nat → Nat) (sk sv : Nat → Nat) (tc : Nat → ClassId) (b ao : Nat) (o : Nat → Int64) (w0 : va_W) {fs : List Value} {rm0 : Room} {mc ms : Nat} {PI : Int32 → va_W → Prop} {PE : Nat → va_W → Prop} (hrm : rm0.frames ≤ 100 ∧ rm0.locals ≤ 5000 ∧ rm0.cells = mc ∧ rm0.slots = ms) (he : (b, .inr (11, fs)) ∈ w0 ++ wO tc ao o) (hPE : ∀ k w1, PE k w1 → k = 1 ∨ k = 4) (hM : CZ l (dC, dI) sk sv (TY tc) yX11_evening (.code yX11_evening cX11_evening 2 (some .int)) rm0 mc ms [.ref b] (w0 ++ wO tc ao o) (PNc tc ao o PI) (PXc tc ao o PE)) : CZ l (dC, dI) sk sv (TY tc) yL_evening (.codeWith yL_evening cL_evening 3 (some .int) [(0, 8, 11, 13), (0, 8, 14, 15)]) (rmW mc ms) mc ms [.ref b, .ref ao] (w0 ++ wO tc ao o) (PNW tc ao PI PE (fun k => if k = 1 then 1 else 2)) (fun _ _ => False) := by
  refine ofCZH (by decide) (Nat.le_of_ble_eq_true rfl) ?_
  intro pr e s m args below meth c A Q ls H locs X hr hlk hT hQ hD hP hS hl
  have hl : lv_has ls 3 [(0, .ref b), (1, .ref ao)] := hl
  refine lv_aload_n X.1 X.2.1 dL_evening_0 rfl (lv_at hl 1 rfl) ?_
  refine lv_iconst (v := 0) X.1 X.2.1 dL_evening_1 (by decide) ?_
  refine lv_aload_n X.1 X.2.1 dL_evening_2 rfl (lv_at hl 0 rfl) ?_
  refine callZ (As := []) (rest := [.int 0, .ref ao]) X hM mw_3_116 mw_3_117 mw_3_118 mw_1_1 mw_3_119 dc_X11_evening ⟨Nat.succ_le_succ hrm.1, by have := hrm.2.1; show 8 + (2 + 11) + rm0.locals ≤ 5100; omega⟩ hrm.2.2.1 hrm.2.2.2 ⟨by rw [Nat.zero_add]; exact Nat.le_refl _, by rw [Nat.zero_add]; exact Nat.le_refl _⟩ hP hD hS he rfl rfl hl.1 (Nat.le_of_ble_eq_true rfl) dL_evening_3 (fun v w' H locs hn hP hD hS => ?_) (fun E q ce w' H locs hx hP hD hS y1 y2 y3 => ?_)
  · obtain ⟨r, w1, rfl, rfl, hI⟩ := hn
    refine W.eq (g2 := F0 m 6 ls [.int r, .int 0, .ref ao]) rfl ?_
    refine lv_i2l X.1 X.2.1 dL_evening_6 rfl ?_
    refine va_last X.1 X.2.1 X.2.2.2.2.2.2.1 hP hD hS w1.length 2 (o_at tc ao o w1) rfl (by unfold vp_in; decide) dL_evening_7 (fun H locs hP hD hS => ?_)
    rw [o_set] at hP hD
    refine lv_goto (tgt := 17) X.1 X.2.1 dL_evening_8 (by decide) ?_
    refine lv_iconst (v := 0) X.1 X.2.1 dL_evening_17 (by decide) ?_
    exact retZ_i X.1 X.2.1 hr hlk hQ ⟨0, _, w1, rfl, rfl, Or.inl ⟨rfl, r, rfl, hI⟩⟩ hP hD hS (by rw [Nat.zero_add]; exact Nat.le_refl _) (by rw [Nat.zero_add]; exact Nat.le_refl _) dL_evening_18
  · obtain ⟨k, w1, rfl, rfl, hE⟩ := hx
    obtain rfl | rfl := hPE k w1 hE
    · refine vx_catch (name := "java/lang/IllegalArgumentException") (E := exn 1) X.2.2.2.1 [] ⟨0, 8, 11, 13⟩ [⟨0, 8, 14, 15⟩] hT (fun z hz => absurd hz List.not_mem_nil) (by decide) (by decide) (X.2.2.2.2.1 _ mw_3_114) (va_Nw.use (nw_tab (nwTab_ok _ (List.mem_of_getElem? (i := 4) rfl))) (X.2.2.2.2.2.2.2.2.2.2.2.2.1 _ (List.mem_of_getElem? (i := 4) rfl))) y1 y2 y3 ?_
      refine lv_astore_n (lv' := [(2, .ref q), (0, .ref b), (1, .ref ao)]) X.1 X.2.1 dL_evening_11 rfl hl (by decide) rfl (fun ls hl => ?_)
      refine lv_iconst (v := 1) X.1 X.2.1 dL_evening_12 (by decide) ?_
      exact retZ_i X.1 X.2.1 hr hlk hQ ⟨1, o, w1, rfl, rfl, Or.inr ⟨1, rfl, hE⟩⟩ hP hD hS (by rw [Nat.zero_add]; exact Nat.le_refl _) (by rw [Nat.zero_add]; exact Nat.le_refl _) dL_evening_13
    · refine vx_catch (name := "java/lang/UnsupportedOperationException") (E := exn 4) X.2.2.2.1 [⟨0, 8, 11, 13⟩] ⟨0, 8, 14, 15⟩ [] hT (fun z hz => by rw [List.mem_singleton.mp hz]; exact Or.inr ⟨by decide, "java/lang/IllegalArgumentException", X.2.2.2.2.1 _ mw_3_114, X.2.2.2.2.2.2.2.2.2.2.2.2.2.1 _ (List.mem_of_getElem? (i := 0) rfl)⟩) (by decide) (by decide) (X.2.2.2.2.1 _ mw_3_115) (va_Nw.use (nw_tab (nwTab_ok _ (List.mem_of_getElem? (i := 11) rfl))) (X.2.2.2.2.2.2.2.2.2.2.2.2.1 _ (List.mem_of_getElem? (i := 11) rfl))) y1 y2 y3 ?_
      refine lv_astore_n (lv' := [(2, .ref q), (0, .ref b), (1, .ref ao)]) X.1 X.2.1 dL_evening_14 rfl hl (by decide) rfl (fun ls hl => ?_)
      refine lv_iconst (v := 2) X.1 X.2.1 dL_evening_15 (by decide) ?_
      exact retZ_i X.1 X.2.1 hr hlk hQ ⟨2, o, w1, rfl, rfl, Or.inr ⟨4, rfl, hE⟩⟩ hP hD hS (by rw [Nat.zero_add]; exact Nat.le_refl _) (by rw [Nat.zero_add]; exact Nat.le_refl _) dL_evening_16

theorem mwc_law : Cond.codeWith yL_law cL_law 3 (some .int) [(0, 8, 11, 13)] ∈ WG := wg_t (List.mem_append_right _ (List.mem_append_right _ (List.mem_append_right _ (List.mem_append_left _ (List.mem_of_getElem? (i := 94) rfl))))) rfl
theorem dcl_law : yL_law.cls ≠ "java/lang/invoke/MethodHandle" ∧ yL_law.cls ≠ "java/lang/invoke/VarHandle" ∧ (parseMethodDescriptor yL_law.desc).map (fun d => d.parameters.length) = some 2 := by decide +kernel
set_option maxHeartbeats 1000000 in
theorem w_law (l : Launch) (dC : Nat → ClassId) (dI : Nat → Nat → Nat) (sk sv : Nat → Nat) (tc : Nat → ClassId) (b ao : Nat) (o : Nat → Int64) (w0 : va_W) {fs : List Value} {rm0 : Room} {mc ms : Nat} {PI : Int32 → va_W → Prop} {PE : Nat → va_W → Prop} (hrm : rm0.frames ≤ 100 ∧ rm0.locals ≤ 5000 ∧ rm0.cells = mc ∧ rm0.slots = ms) (he : (b, .inr (11, fs)) ∈ w0 ++ wO tc ao o) (hPE : ∀ k w1, PE k w1 → k = 1) (hM : CZ l (dC, dI) sk sv (TY tc) yX11_law (.code yX11_law cX11_law 3 (some .int)) rm0 mc ms [.ref b] (w0 ++ wO tc ao o) (PNc tc ao o PI) (PXc tc ao o PE)) : CZ l (dC, dI) sk sv (TY tc) yL_law (.codeWith yL_law cL_law 3 (some .int) [(0, 8, 11, 13)]) (rmW mc ms) mc ms [.ref b, .ref ao] (w0 ++ wO tc ao o) (PNW tc ao PI PE (fun _ => 1)) (fun _ _ => False) := by
  refine ofCZH (by decide) (Nat.le_of_ble_eq_true rfl) ?_
  intro pr e s m args below meth c A Q ls H locs X hr hlk hT hQ hD hP hS hl
  have hl : lv_has ls 3 [(0, .ref b), (1, .ref ao)] := hl
  refine lv_aload_n X.1 X.2.1 dL_law_0 rfl (lv_at hl 1 rfl) ?_
  refine lv_iconst (v := 0) X.1 X.2.1 dL_law_1 (by decide) ?_
  refine lv_aload_n X.1 X.2.1 dL_law_2 rfl (lv_at hl 0 rfl) ?_
  refine callZ (As := []) (rest := [.int 0, .ref ao]) X hM mw_4_95 mw_4_96 mw_4_97 mw_1_1 mw_4_98 dc_X11_law ⟨Nat.succ_le_succ hrm.1, by have := hrm.2.1; show 8 + (3 + 11) + rm0.locals ≤ 5100; omega⟩ hrm.2.2.1 hrm.2.2.2 ⟨by rw [Nat.zero_add]; exact Nat.le_refl _, by rw [Nat.zero_add]; exact Nat.le_refl _⟩ hP hD hS he rfl rfl hl.1 (Nat.le_of_ble_eq_true rfl) dL_law_3 (fun v w' H locs hn hP hD hS => ?_) (fun E q ce w' H locs hx hP hD hS y1 y2 y3 => ?_)
  · obtain ⟨r, w1, rfl, rfl, hI⟩ := hn
    refine W.eq (g2 := F0 m 6 ls [.int r, .int 0, .ref ao]) rfl ?_
    refine lv_i2l X.1 X.2.1 dL_law_6 rfl ?_
    refine va_last X.1 X.2.1 X.2.2.2.2.2.2.1 hP hD hS w1.length 2 (o_at tc ao o w1) rfl (by unfold vp_in; decide) dL_law_7 (fun H locs hP hD hS => ?_)
    rw [o_set] at hP hD
    refine lv_goto (tgt := 14) X.1 X.2.1 dL_law_8 (by decide) ?_
    refine lv_iconst (v := 0) X.1 X.2.1 dL_law_14 (by decide) ?_
    exact retZ_i X.1 X.2.1 hr hlk hQ ⟨0, _, w1, rfl, rfl, Or.inl ⟨rfl, r, rfl, hI⟩⟩ hP hD hS (by rw [Nat.zero_add]; exact Nat.le_refl _) (by rw [Nat.zero_add]; exact Nat.le_refl _) dL_law_15
  · obtain ⟨k, w1, rfl, rfl, hE⟩ := hx
    obtain rfl := hPE k w1 hE
    · refine vx_catch (name := "java/lang/IllegalArgumentException") (E := exn 1) X.2.2.2.1 [] ⟨0, 8, 11, 13⟩ [] hT (fun z hz => absurd hz List.not_mem_nil) (by decide) (by decide) (X.2.2.2.2.1 _ mw_3_114) (va_Nw.use (nw_tab (nwTab_ok _ (List.mem_of_getElem? (i := 4) rfl))) (X.2.2.2.2.2.2.2.2.2.2.2.2.1 _ (List.mem_of_getElem? (i := 4) rfl))) y1 y2 y3 ?_
      refine lv_astore_n (lv' := [(2, .ref q), (0, .ref b), (1, .ref ao)]) X.1 X.2.1 dL_law_11 rfl hl (by decide) rfl (fun ls hl => ?_)
      refine lv_iconst (v := 1) X.1 X.2.1 dL_law_12 (by decide) ?_
      exact retZ_i X.1 X.2.1 hr hlk hQ ⟨1, o, w1, rfl, rfl, Or.inr ⟨1, rfl, hE⟩⟩ hP hD hS (by rw [Nat.zero_add]; exact Nat.le_refl _) (by rw [Nat.zero_add]; exact Nat.le_refl _) dL_law_13

theorem mwc_word : Cond.codeWith yL_word cL_word 5 (some .int) [(0, 10, 13, 24), (0, 10, 17, 26)] ∈ WG := wg_t (List.mem_append_right _ (List.mem_append_right _ (List.mem_append_right _ (List.mem_append_left _ (List.mem_of_getElem? (i := 203) rfl))))) rfl
theorem dcl_word : yL_word.cls ≠ "java/lang/invoke/MethodHandle" ∧ yL_word.cls ≠ "java/lang/invoke/VarHandle" ∧ (parseMethodDescriptor yL_word.desc).map (fun d => d.parameters.length) = some 4 := by decide +kernel
set_option maxHeartbeats 1000000 in
theorem w_word (l : Launch) (dC : Nat → ClassId) (dI : Nat → Nat → Nat) (sk sv : Nat → Nat) (tc : Nat → ClassId) (b ao : Nat) (o : Nat → Int64) (x1 : Int32) (x2 : Int32) (w0 : va_W) {fs : List Value} {rm0 : Room} {mc ms : Nat} {PI : Int32 → va_W → Prop} {PE : Nat → va_W → Prop} (hrm : rm0.frames ≤ 100 ∧ rm0.locals ≤ 5000 ∧ rm0.cells = mc ∧ rm0.slots = ms) (he : (b, .inr (11, fs)) ∈ w0 ++ wO tc ao o) (hPE : ∀ k w1, PE k w1 → k = 0 ∨ k = 2) (hM : CZ l (dC, dI) sk sv (TY tc) yX11_word (.code yX11_word cX11_word 3 (some .int)) rm0 mc ms [.ref b, .int x1, .int x2] (w0 ++ wO tc ao o) (PNc tc ao o PI) (PXc tc ao o PE)) : CZ l (dC, dI) sk sv (TY tc) yL_word (.codeWith yL_word cL_word 5 (some .int) [(0, 10, 13, 24), (0, 10, 17, 26)]) (rmW mc ms) mc ms [.ref b, .int x1, .int x2, .ref ao] (w0 ++ wO tc ao o) (PNW tc ao PI PE (fun k => if k = 0 then 1 else 2)) (fun _ _ => False) := by
  refine ofCZH (by decide) (Nat.le_of_ble_eq_true rfl) ?_
  intro pr e s m args below meth c A Q ls H locs X hr hlk hT hQ hD hP hS hl
  have hl : lv_has ls 5 [(0, .ref b), (1, .int x1), (2, .int x2), (3, .ref ao)] := hl
  refine lv_aload_n X.1 X.2.1 dL_word_0 rfl (lv_at hl 3 rfl) ?_
  refine lv_iconst (v := 0) X.1 X.2.1 dL_word_1 (by decide) ?_
  refine lv_aload_n X.1 X.2.1 dL_word_2 rfl (lv_at hl 0 rfl) ?_
  refine lv_iload_n X.1 X.2.1 dL_word_3 rfl (lv_at hl 1 rfl) ?_
  refine lv_iload_n X.1 X.2.1 dL_word_4 rfl (lv_at hl 2 rfl) ?_
  refine callZ (As := [.int x1, .int x2]) (rest := [.int 0, .ref ao]) X hM mw_4_206 mw_4_207 mw_4_208 mw_1_1 mw_4_209 dc_X11_word ⟨Nat.succ_le_succ hrm.1, by have := hrm.2.1; show 8 + (3 + 11) + rm0.locals ≤ 5100; omega⟩ hrm.2.2.1 hrm.2.2.2 ⟨by rw [Nat.zero_add]; exact Nat.le_refl _, by rw [Nat.zero_add]; exact Nat.le_refl _⟩ hP hD hS he rfl rfl hl.1 (Nat.le_of_ble_eq_true rfl) dL_word_5 (fun v w' H locs hn hP hD hS => ?_) (fun E q ce w' H locs hx hP hD hS y1 y2 y3 => ?_)
  · obtain ⟨r, w1, rfl, rfl, hI⟩ := hn
    refine W.eq (g2 := F0 m 8 ls [.int r, .int 0, .ref ao]) rfl ?_
    refine lv_i2l X.1 X.2.1 dL_word_8 rfl ?_
    refine va_last X.1 X.2.1 X.2.2.2.2.2.2.1 hP hD hS w1.length 2 (o_at tc ao o w1) rfl (by unfold vp_in; decide) dL_word_9 (fun H locs hP hD hS => ?_)
    rw [o_set] at hP hD
    refine lv_goto (tgt := 21) X.1 X.2.1 dL_word_10 (by decide) ?_
    refine lv_iconst (v := 0) X.1 X.2.1 dL_word_21 (by decide) ?_
    exact retZ_i X.1 X.2.1 hr hlk hQ ⟨0, _, w1, rfl, rfl, Or.inl ⟨rfl, r, rfl, hI⟩⟩ hP hD hS (by rw [Nat.zero_add]; exact Nat.le_refl _) (by rw [Nat.zero_add]; exact Nat.le_refl _) dL_word_22
  · obtain ⟨k, w1, rfl, rfl, hE⟩ := hx
    obtain rfl | rfl := hPE k w1 hE
    · refine vx_catch (name := "java/lang/IndexOutOfBoundsException") (E := exn 0) X.2.2.2.1 [] ⟨0, 10, 13, 24⟩ [⟨0, 10, 17, 26⟩] hT (fun z hz => absurd hz List.not_mem_nil) (by decide) (by decide) (X.2.2.2.2.1 _ mw_4_204) (va_Nw.use (nw_tab (nwTab_ok _ (List.mem_of_getElem? (i := 13) rfl))) (X.2.2.2.2.2.2.2.2.2.2.2.2.1 _ (List.mem_of_getElem? (i := 13) rfl))) y1 y2 y3 ?_
      refine lv_astore (lv' := [(4, .ref q), (0, .ref b), (1, .int x1), (2, .int x2), (3, .ref ao)]) X.1 X.2.1 dL_word_13 hl (by decide) rfl (fun ls hl => ?_)
      refine lv_iconst (v := 1) X.1 X.2.1 dL_word_15 (by decide) ?_
      exact retZ_i X.1 X.2.1 hr hlk hQ ⟨1, o, w1, rfl, rfl, Or.inr ⟨0, rfl, hE⟩⟩ hP hD hS (by rw [Nat.zero_add]; exact Nat.le_refl _) (by rw [Nat.zero_add]; exact Nat.le_refl _) dL_word_16
    · refine vx_catch (name := "java/util/NoSuchElementException") (E := exn 2) X.2.2.2.1 [⟨0, 10, 13, 24⟩] ⟨0, 10, 17, 26⟩ [] hT (fun z hz => by rw [List.mem_singleton.mp hz]; exact Or.inr ⟨by decide, "java/lang/IndexOutOfBoundsException", X.2.2.2.2.1 _ mw_4_204, X.2.2.2.2.2.2.2.2.2.2.2.2.2.1 _ (List.mem_of_getElem? (i := 10) rfl)⟩) (by decide) (by decide) (X.2.2.2.2.1 _ mw_4_205) (va_Nw.use (nw_tab (nwTab_ok _ (List.mem_of_getElem? (i := 14) rfl))) (X.2.2.2.2.2.2.2.2.2.2.2.2.1 _ (List.mem_of_getElem? (i := 14) rfl))) y1 y2 y3 ?_
      refine lv_astore (lv' := [(4, .ref q), (0, .ref b), (1, .int x1), (2, .int x2), (3, .ref ao)]) X.1 X.2.1 dL_word_17 hl (by decide) rfl (fun ls hl => ?_)
      refine lv_iconst (v := 2) X.1 X.2.1 dL_word_19 (by decide) ?_
      exact retZ_i X.1 X.2.1 hr hlk hQ ⟨2, o, w1, rfl, rfl, Or.inr ⟨2, rfl, hE⟩⟩ hP hD hS (by rw [Nat.zero_add]; exact Nat.le_refl _) (by rw [Nat.zero_add]; exact Nat.le_refl _) dL_word_20

theorem mwc_letter : Cond.codeWith yL_letter cL_letter 5 (some .int) [(0, 10, 13, 24)] ∈ WG := wg_t (List.mem_append_right _ (List.mem_append_right _ (List.mem_append_right _ (List.mem_append_right _ (List.mem_append_left _ (List.mem_of_getElem? (i := 25) rfl)))))) rfl
theorem dcl_letter : yL_letter.cls ≠ "java/lang/invoke/MethodHandle" ∧ yL_letter.cls ≠ "java/lang/invoke/VarHandle" ∧ (parseMethodDescriptor yL_letter.desc).map (fun d => d.parameters.length) = some 4 := by decide +kernel
set_option maxHeartbeats 1000000 in
theorem w_letter (l : Launch) (dC : Nat → ClassId) (dI : Nat → Nat → Nat) (sk sv : Nat → Nat) (tc : Nat → ClassId) (b ao : Nat) (o : Nat → Int64) (x1 : Int32) (x2 : Int32) (w0 : va_W) {fs : List Value} {rm0 : Room} {mc ms : Nat} {PI : Int32 → va_W → Prop} {PE : Nat → va_W → Prop} (hrm : rm0.frames ≤ 100 ∧ rm0.locals ≤ 5000 ∧ rm0.cells = mc ∧ rm0.slots = ms) (he : (b, .inr (11, fs)) ∈ w0 ++ wO tc ao o) (hPE : ∀ k w1, PE k w1 → k = 0) (hM : CZ l (dC, dI) sk sv (TY tc) yX11_letter (.code yX11_letter cX11_letter 3 (some .int)) rm0 mc ms [.ref b, .int x1, .int x2] (w0 ++ wO tc ao o) (PNc tc ao o PI) (PXc tc ao o PE)) : CZ l (dC, dI) sk sv (TY tc) yL_letter (.codeWith yL_letter cL_letter 5 (some .int) [(0, 10, 13, 24)]) (rmW mc ms) mc ms [.ref b, .int x1, .int x2, .ref ao] (w0 ++ wO tc ao o) (PNW tc ao PI PE (fun _ => 1)) (fun _ _ => False) := by
  refine ofCZH (by decide) (Nat.le_of_ble_eq_true rfl) ?_
  intro pr e s m args below meth c A Q ls H locs X hr hlk hT hQ hD hP hS hl
  have hl : lv_has ls 5 [(0, .ref b), (1, .int x1), (2, .int x2), (3, .ref ao)] := hl
  refine lv_aload_n X.1 X.2.1 dL_letter_0 rfl (lv_at hl 3 rfl) ?_
  refine lv_iconst (v := 0) X.1 X.2.1 dL_letter_1 (by decide) ?_
  refine lv_aload_n X.1 X.2.1 dL_letter_2 rfl (lv_at hl 0 rfl) ?_
  refine lv_iload_n X.1 X.2.1 dL_letter_3 rfl (lv_at hl 1 rfl) ?_
  refine lv_iload_n X.1 X.2.1 dL_letter_4 rfl (lv_at hl 2 rfl) ?_
  refine callZ (As := [.int x1, .int x2]) (rest := [.int 0, .ref ao]) X hM mw_5_26 mw_5_27 mw_5_28 mw_1_1 mw_5_29 dc_X11_letter ⟨Nat.succ_le_succ hrm.1, by have := hrm.2.1; show 8 + (3 + 11) + rm0.locals ≤ 5100; omega⟩ hrm.2.2.1 hrm.2.2.2 ⟨by rw [Nat.zero_add]; exact Nat.le_refl _, by rw [Nat.zero_add]; exact Nat.le_refl _⟩ hP hD hS he rfl rfl hl.1 (Nat.le_of_ble_eq_true rfl) dL_letter_5 (fun v w' H locs hn hP hD hS => ?_) (fun E q ce w' H locs hx hP hD hS y1 y2 y3 => ?_)
  · obtain ⟨r, w1, rfl, rfl, hI⟩ := hn
    refine W.eq (g2 := F0 m 8 ls [.int r, .int 0, .ref ao]) rfl ?_
    refine lv_i2l X.1 X.2.1 dL_letter_8 rfl ?_
    refine va_last X.1 X.2.1 X.2.2.2.2.2.2.1 hP hD hS w1.length 2 (o_at tc ao o w1) rfl (by unfold vp_in; decide) dL_letter_9 (fun H locs hP hD hS => ?_)
    rw [o_set] at hP hD
    refine lv_goto (tgt := 17) X.1 X.2.1 dL_letter_10 (by decide) ?_
    refine lv_iconst (v := 0) X.1 X.2.1 dL_letter_17 (by decide) ?_
    exact retZ_i X.1 X.2.1 hr hlk hQ ⟨0, _, w1, rfl, rfl, Or.inl ⟨rfl, r, rfl, hI⟩⟩ hP hD hS (by rw [Nat.zero_add]; exact Nat.le_refl _) (by rw [Nat.zero_add]; exact Nat.le_refl _) dL_letter_18
  · obtain ⟨k, w1, rfl, rfl, hE⟩ := hx
    obtain rfl := hPE k w1 hE
    · refine vx_catch (name := "java/lang/IndexOutOfBoundsException") (E := exn 0) X.2.2.2.1 [] ⟨0, 10, 13, 24⟩ [] hT (fun z hz => absurd hz List.not_mem_nil) (by decide) (by decide) (X.2.2.2.2.1 _ mw_4_204) (va_Nw.use (nw_tab (nwTab_ok _ (List.mem_of_getElem? (i := 13) rfl))) (X.2.2.2.2.2.2.2.2.2.2.2.2.1 _ (List.mem_of_getElem? (i := 13) rfl))) y1 y2 y3 ?_
      refine lv_astore (lv' := [(4, .ref q), (0, .ref b), (1, .int x1), (2, .int x2), (3, .ref ao)]) X.1 X.2.1 dL_letter_13 hl (by decide) rfl (fun ls hl => ?_)
      refine lv_iconst (v := 1) X.1 X.2.1 dL_letter_15 (by decide) ?_
      exact retZ_i X.1 X.2.1 hr hlk hQ ⟨1, o, w1, rfl, rfl, Or.inr ⟨0, rfl, hE⟩⟩ hP hD hS (by rw [Nat.zero_add]; exact Nat.le_refl _) (by rw [Nat.zero_add]; exact Nat.le_refl _) dL_letter_16

theorem mwc_writer : Cond.codeWith yL_writer cL_writer 5 (some .int) [(0, 10, 13, 24), (0, 10, 17, 26)] ∈ WG := wg_t (List.mem_append_right _ (List.mem_append_right _ (List.mem_append_right _ (List.mem_append_right _ (List.mem_append_left _ (List.mem_of_getElem? (i := 33) rfl)))))) rfl
theorem dcl_writer : yL_writer.cls ≠ "java/lang/invoke/MethodHandle" ∧ yL_writer.cls ≠ "java/lang/invoke/VarHandle" ∧ (parseMethodDescriptor yL_writer.desc).map (fun d => d.parameters.length) = some 4 := by decide +kernel
set_option maxHeartbeats 1000000 in
theorem w_writer (l : Launch) (dC : Nat → ClassId) (dI : Nat → Nat → Nat) (sk sv : Nat → Nat) (tc : Nat → ClassId) (b ao : Nat) (o : Nat → Int64) (x1 : Int32) (x2 : Int32) (w0 : va_W) {fs : List Value} {rm0 : Room} {mc ms : Nat} {PI : Int32 → va_W → Prop} {PE : Nat → va_W → Prop} (hrm : rm0.frames ≤ 100 ∧ rm0.locals ≤ 5000 ∧ rm0.cells = mc ∧ rm0.slots = ms) (he : (b, .inr (11, fs)) ∈ w0 ++ wO tc ao o) (hPE : ∀ k w1, PE k w1 → k = 0 ∨ k = 2) (hM : CZ l (dC, dI) sk sv (TY tc) yX11_writer (.code yX11_writer cX11_writer 3 (some .int)) rm0 mc ms [.ref b, .int x1, .int x2] (w0 ++ wO tc ao o) (PNc tc ao o PI) (PXc tc ao o PE)) : CZ l (dC, dI) sk sv (TY tc) yL_writer (.codeWith yL_writer cL_writer 5 (some .int) [(0, 10, 13, 24), (0, 10, 17, 26)]) (rmW mc ms) mc ms [.ref b, .int x1, .int x2, .ref ao] (w0 ++ wO tc ao o) (PNW tc ao PI PE (fun k => if k = 0 then 1 else 2)) (fun _ _ => False) := by
  refine ofCZH (by decide) (Nat.le_of_ble_eq_true rfl) ?_
  intro pr e s m args below meth c A Q ls H locs X hr hlk hT hQ hD hP hS hl
  have hl : lv_has ls 5 [(0, .ref b), (1, .int x1), (2, .int x2), (3, .ref ao)] := hl
  refine lv_aload_n X.1 X.2.1 dL_writer_0 rfl (lv_at hl 3 rfl) ?_
  refine lv_iconst (v := 0) X.1 X.2.1 dL_writer_1 (by decide) ?_
  refine lv_aload_n X.1 X.2.1 dL_writer_2 rfl (lv_at hl 0 rfl) ?_
  refine lv_iload_n X.1 X.2.1 dL_writer_3 rfl (lv_at hl 1 rfl) ?_
  refine lv_iload_n X.1 X.2.1 dL_writer_4 rfl (lv_at hl 2 rfl) ?_
  refine callZ (As := [.int x1, .int x2]) (rest := [.int 0, .ref ao]) X hM mw_5_34 mw_5_35 mw_5_36 mw_1_1 mw_5_37 dc_X11_writer ⟨Nat.succ_le_succ hrm.1, by have := hrm.2.1; show 8 + (3 + 11) + rm0.locals ≤ 5100; omega⟩ hrm.2.2.1 hrm.2.2.2 ⟨by rw [Nat.zero_add]; exact Nat.le_refl _, by rw [Nat.zero_add]; exact Nat.le_refl _⟩ hP hD hS he rfl rfl hl.1 (Nat.le_of_ble_eq_true rfl) dL_writer_5 (fun v w' H locs hn hP hD hS => ?_) (fun E q ce w' H locs hx hP hD hS y1 y2 y3 => ?_)
  · obtain ⟨r, w1, rfl, rfl, hI⟩ := hn
    refine W.eq (g2 := F0 m 8 ls [.int r, .int 0, .ref ao]) rfl ?_
    refine lv_i2l X.1 X.2.1 dL_writer_8 rfl ?_
    refine va_last X.1 X.2.1 X.2.2.2.2.2.2.1 hP hD hS w1.length 2 (o_at tc ao o w1) rfl (by unfold vp_in; decide) dL_writer_9 (fun H locs hP hD hS => ?_)
    rw [o_set] at hP hD
    refine lv_goto (tgt := 21) X.1 X.2.1 dL_writer_10 (by decide) ?_
    refine lv_iconst (v := 0) X.1 X.2.1 dL_writer_21 (by decide) ?_
    exact retZ_i X.1 X.2.1 hr hlk hQ ⟨0, _, w1, rfl, rfl, Or.inl ⟨rfl, r, rfl, hI⟩⟩ hP hD hS (by rw [Nat.zero_add]; exact Nat.le_refl _) (by rw [Nat.zero_add]; exact Nat.le_refl _) dL_writer_22
  · obtain ⟨k, w1, rfl, rfl, hE⟩ := hx
    obtain rfl | rfl := hPE k w1 hE
    · refine vx_catch (name := "java/lang/IndexOutOfBoundsException") (E := exn 0) X.2.2.2.1 [] ⟨0, 10, 13, 24⟩ [⟨0, 10, 17, 26⟩] hT (fun z hz => absurd hz List.not_mem_nil) (by decide) (by decide) (X.2.2.2.2.1 _ mw_4_204) (va_Nw.use (nw_tab (nwTab_ok _ (List.mem_of_getElem? (i := 13) rfl))) (X.2.2.2.2.2.2.2.2.2.2.2.2.1 _ (List.mem_of_getElem? (i := 13) rfl))) y1 y2 y3 ?_
      refine lv_astore (lv' := [(4, .ref q), (0, .ref b), (1, .int x1), (2, .int x2), (3, .ref ao)]) X.1 X.2.1 dL_writer_13 hl (by decide) rfl (fun ls hl => ?_)
      refine lv_iconst (v := 1) X.1 X.2.1 dL_writer_15 (by decide) ?_
      exact retZ_i X.1 X.2.1 hr hlk hQ ⟨1, o, w1, rfl, rfl, Or.inr ⟨0, rfl, hE⟩⟩ hP hD hS (by rw [Nat.zero_add]; exact Nat.le_refl _) (by rw [Nat.zero_add]; exact Nat.le_refl _) dL_writer_16
    · refine vx_catch (name := "java/util/NoSuchElementException") (E := exn 2) X.2.2.2.1 [⟨0, 10, 13, 24⟩] ⟨0, 10, 17, 26⟩ [] hT (fun z hz => by rw [List.mem_singleton.mp hz]; exact Or.inr ⟨by decide, "java/lang/IndexOutOfBoundsException", X.2.2.2.2.1 _ mw_4_204, X.2.2.2.2.2.2.2.2.2.2.2.2.2.1 _ (List.mem_of_getElem? (i := 10) rfl)⟩) (by decide) (by decide) (X.2.2.2.2.1 _ mw_4_205) (va_Nw.use (nw_tab (nwTab_ok _ (List.mem_of_getElem? (i := 14) rfl))) (X.2.2.2.2.2.2.2.2.2.2.2.2.1 _ (List.mem_of_getElem? (i := 14) rfl))) y1 y2 y3 ?_
      refine lv_astore (lv' := [(4, .ref q), (0, .ref b), (1, .int x1), (2, .int x2), (3, .ref ao)]) X.1 X.2.1 dL_writer_17 hl (by decide) rfl (fun ls hl => ?_)
      refine lv_iconst (v := 2) X.1 X.2.1 dL_writer_19 (by decide) ?_
      exact retZ_i X.1 X.2.1 hr hlk hQ ⟨2, o, w1, rfl, rfl, Or.inr ⟨2, rfl, hE⟩⟩ hP hD hS (by rw [Nat.zero_add]; exact Nat.le_refl _) (by rw [Nat.zero_add]; exact Nat.le_refl _) dL_writer_20

theorem mwc_page : Cond.codeWith yL_page cL_page 5 (some .int) [(0, 10, 13, 24)] ∈ WG := wg_t (List.mem_append_right _ (List.mem_append_right _ (List.mem_append_right _ (List.mem_append_right _ (List.mem_append_left _ (List.mem_of_getElem? (i := 106) rfl)))))) rfl
theorem dcl_page : yL_page.cls ≠ "java/lang/invoke/MethodHandle" ∧ yL_page.cls ≠ "java/lang/invoke/VarHandle" ∧ (parseMethodDescriptor yL_page.desc).map (fun d => d.parameters.length) = some 4 := by decide +kernel
set_option maxHeartbeats 1000000 in
theorem w_page (l : Launch) (dC : Nat → ClassId) (dI : Nat → Nat → Nat) (sk sv : Nat → Nat) (tc : Nat → ClassId) (b ao : Nat) (o : Nat → Int64) (x1 : Int32) (x2 : Int32) (w0 : va_W) {fs : List Value} {rm0 : Room} {mc ms : Nat} {PI : Int32 → va_W → Prop} {PE : Nat → va_W → Prop} (hrm : rm0.frames ≤ 100 ∧ rm0.locals ≤ 5000 ∧ rm0.cells = mc ∧ rm0.slots = ms) (he : (b, .inr (11, fs)) ∈ w0 ++ wO tc ao o) (hPE : ∀ k w1, PE k w1 → k = 0) (hM : CZ l (dC, dI) sk sv (TY tc) yX11_page (.code yX11_page cX11_page 3 (some .int)) rm0 mc ms [.ref b, .int x1, .int x2] (w0 ++ wO tc ao o) (PNc tc ao o PI) (PXc tc ao o PE)) : CZ l (dC, dI) sk sv (TY tc) yL_page (.codeWith yL_page cL_page 5 (some .int) [(0, 10, 13, 24)]) (rmW mc ms) mc ms [.ref b, .int x1, .int x2, .ref ao] (w0 ++ wO tc ao o) (PNW tc ao PI PE (fun _ => 1)) (fun _ _ => False) := by
  refine ofCZH (by decide) (Nat.le_of_ble_eq_true rfl) ?_
  intro pr e s m args below meth c A Q ls H locs X hr hlk hT hQ hD hP hS hl
  have hl : lv_has ls 5 [(0, .ref b), (1, .int x1), (2, .int x2), (3, .ref ao)] := hl
  refine lv_aload_n X.1 X.2.1 dL_page_0 rfl (lv_at hl 3 rfl) ?_
  refine lv_iconst (v := 0) X.1 X.2.1 dL_page_1 (by decide) ?_
  refine lv_aload_n X.1 X.2.1 dL_page_2 rfl (lv_at hl 0 rfl) ?_
  refine lv_iload_n X.1 X.2.1 dL_page_3 rfl (lv_at hl 1 rfl) ?_
  refine lv_iload_n X.1 X.2.1 dL_page_4 rfl (lv_at hl 2 rfl) ?_
  refine callZ (As := [.int x1, .int x2]) (rest := [.int 0, .ref ao]) X hM mw_5_107 mw_5_108 mw_5_109 mw_1_1 mw_5_110 dc_X11_page ⟨Nat.succ_le_succ hrm.1, by have := hrm.2.1; show 8 + (3 + 11) + rm0.locals ≤ 5100; omega⟩ hrm.2.2.1 hrm.2.2.2 ⟨by rw [Nat.zero_add]; exact Nat.le_refl _, by rw [Nat.zero_add]; exact Nat.le_refl _⟩ hP hD hS he rfl rfl hl.1 (Nat.le_of_ble_eq_true rfl) dL_page_5 (fun v w' H locs hn hP hD hS => ?_) (fun E q ce w' H locs hx hP hD hS y1 y2 y3 => ?_)
  · obtain ⟨r, w1, rfl, rfl, hI⟩ := hn
    refine W.eq (g2 := F0 m 8 ls [.int r, .int 0, .ref ao]) rfl ?_
    refine lv_i2l X.1 X.2.1 dL_page_8 rfl ?_
    refine va_last X.1 X.2.1 X.2.2.2.2.2.2.1 hP hD hS w1.length 2 (o_at tc ao o w1) rfl (by unfold vp_in; decide) dL_page_9 (fun H locs hP hD hS => ?_)
    rw [o_set] at hP hD
    refine lv_goto (tgt := 17) X.1 X.2.1 dL_page_10 (by decide) ?_
    refine lv_iconst (v := 0) X.1 X.2.1 dL_page_17 (by decide) ?_
    exact retZ_i X.1 X.2.1 hr hlk hQ ⟨0, _, w1, rfl, rfl, Or.inl ⟨rfl, r, rfl, hI⟩⟩ hP hD hS (by rw [Nat.zero_add]; exact Nat.le_refl _) (by rw [Nat.zero_add]; exact Nat.le_refl _) dL_page_18
  · obtain ⟨k, w1, rfl, rfl, hE⟩ := hx
    obtain rfl := hPE k w1 hE
    · refine vx_catch (name := "java/lang/IndexOutOfBoundsException") (E := exn 0) X.2.2.2.1 [] ⟨0, 10, 13, 24⟩ [] hT (fun z hz => absurd hz List.not_mem_nil) (by decide) (by decide) (X.2.2.2.2.1 _ mw_4_204) (va_Nw.use (nw_tab (nwTab_ok _ (List.mem_of_getElem? (i := 13) rfl))) (X.2.2.2.2.2.2.2.2.2.2.2.2.1 _ (List.mem_of_getElem? (i := 13) rfl))) y1 y2 y3 ?_
      refine lv_astore (lv' := [(4, .ref q), (0, .ref b), (1, .int x1), (2, .int x2), (3, .ref ao)]) X.1 X.2.1 dL_page_13 hl (by decide) rfl (fun ls hl => ?_)
      refine lv_iconst (v := 1) X.1 X.2.1 dL_page_15 (by decide) ?_
      exact retZ_i X.1 X.2.1 hr hlk hQ ⟨1, o, w1, rfl, rfl, Or.inr ⟨0, rfl, hE⟩⟩ hP hD hS (by rw [Nat.zero_add]; exact Nat.le_refl _) (by rw [Nat.zero_add]; exact Nat.le_refl _) dL_page_16

theorem mwc_strokes : Cond.codeWith yL_strokes cL_strokes 5 (some .int) [(0, 10, 13, 24)] ∈ WG := wg_t (List.mem_append_right _ (List.mem_append_right _ (List.mem_append_right _ (List.mem_append_right _ (List.mem_append_left _ (List.mem_of_getElem? (i := 114) rfl)))))) rfl
theorem dcl_strokes : yL_strokes.cls ≠ "java/lang/invoke/MethodHandle" ∧ yL_strokes.cls ≠ "java/lang/invoke/VarHandle" ∧ (parseMethodDescriptor yL_strokes.desc).map (fun d => d.parameters.length) = some 4 := by decide +kernel
set_option maxHeartbeats 1000000 in
theorem w_strokes (l : Launch) (dC : Nat → ClassId) (dI : Nat → Nat → Nat) (sk sv : Nat → Nat) (tc : Nat → ClassId) (b ao : Nat) (o : Nat → Int64) (x1 : Int32) (x2 : Int32) (w0 : va_W) {fs : List Value} {rm0 : Room} {mc ms : Nat} {PI : Int32 → va_W → Prop} {PE : Nat → va_W → Prop} (hrm : rm0.frames ≤ 100 ∧ rm0.locals ≤ 5000 ∧ rm0.cells = mc ∧ rm0.slots = ms) (he : (b, .inr (11, fs)) ∈ w0 ++ wO tc ao o) (hPE : ∀ k w1, PE k w1 → k = 0) (hM : CZ l (dC, dI) sk sv (TY tc) yX11_strokes (.code yX11_strokes cX11_strokes 3 (some .int)) rm0 mc ms [.ref b, .int x1, .int x2] (w0 ++ wO tc ao o) (PNc tc ao o PI) (PXc tc ao o PE)) : CZ l (dC, dI) sk sv (TY tc) yL_strokes (.codeWith yL_strokes cL_strokes 5 (some .int) [(0, 10, 13, 24)]) (rmW mc ms) mc ms [.ref b, .int x1, .int x2, .ref ao] (w0 ++ wO tc ao o) (PNW tc ao PI PE (fun _ => 1)) (fun _ _ => False) := by
  refine ofCZH (by decide) (Nat.le_of_ble_eq_true rfl) ?_
  intro pr e s m args below meth c A Q ls H locs X hr hlk hT hQ hD hP hS hl
  have hl : lv_has ls 5 [(0, .ref b), (1, .int x1), (2, .int x2), (3, .ref ao)] := hl
  refine lv_aload_n X.1 X.2.1 dL_strokes_0 rfl (lv_at hl 3 rfl) ?_
  refine lv_iconst (v := 0) X.1 X.2.1 dL_strokes_1 (by decide) ?_
  refine lv_aload_n X.1 X.2.1 dL_strokes_2 rfl (lv_at hl 0 rfl) ?_
  refine lv_iload_n X.1 X.2.1 dL_strokes_3 rfl (lv_at hl 1 rfl) ?_
  refine lv_iload_n X.1 X.2.1 dL_strokes_4 rfl (lv_at hl 2 rfl) ?_
  refine callZ (As := [.int x1, .int x2]) (rest := [.int 0, .ref ao]) X hM mw_5_115 mw_5_116 mw_5_117 mw_1_1 mw_5_118 dc_X11_strokes ⟨Nat.succ_le_succ hrm.1, by have := hrm.2.1; show 8 + (3 + 11) + rm0.locals ≤ 5100; omega⟩ hrm.2.2.1 hrm.2.2.2 ⟨by rw [Nat.zero_add]; exact Nat.le_refl _, by rw [Nat.zero_add]; exact Nat.le_refl _⟩ hP hD hS he rfl rfl hl.1 (Nat.le_of_ble_eq_true rfl) dL_strokes_5 (fun v w' H locs hn hP hD hS => ?_) (fun E q ce w' H locs hx hP hD hS y1 y2 y3 => ?_)
  · obtain ⟨r, w1, rfl, rfl, hI⟩ := hn
    refine W.eq (g2 := F0 m 8 ls [.int r, .int 0, .ref ao]) rfl ?_
    refine lv_i2l X.1 X.2.1 dL_strokes_8 rfl ?_
    refine va_last X.1 X.2.1 X.2.2.2.2.2.2.1 hP hD hS w1.length 2 (o_at tc ao o w1) rfl (by unfold vp_in; decide) dL_strokes_9 (fun H locs hP hD hS => ?_)
    rw [o_set] at hP hD
    refine lv_goto (tgt := 17) X.1 X.2.1 dL_strokes_10 (by decide) ?_
    refine lv_iconst (v := 0) X.1 X.2.1 dL_strokes_17 (by decide) ?_
    exact retZ_i X.1 X.2.1 hr hlk hQ ⟨0, _, w1, rfl, rfl, Or.inl ⟨rfl, r, rfl, hI⟩⟩ hP hD hS (by rw [Nat.zero_add]; exact Nat.le_refl _) (by rw [Nat.zero_add]; exact Nat.le_refl _) dL_strokes_18
  · obtain ⟨k, w1, rfl, rfl, hE⟩ := hx
    obtain rfl := hPE k w1 hE
    · refine vx_catch (name := "java/lang/IndexOutOfBoundsException") (E := exn 0) X.2.2.2.1 [] ⟨0, 10, 13, 24⟩ [] hT (fun z hz => absurd hz List.not_mem_nil) (by decide) (by decide) (X.2.2.2.2.1 _ mw_4_204) (va_Nw.use (nw_tab (nwTab_ok _ (List.mem_of_getElem? (i := 13) rfl))) (X.2.2.2.2.2.2.2.2.2.2.2.2.1 _ (List.mem_of_getElem? (i := 13) rfl))) y1 y2 y3 ?_
      refine lv_astore (lv' := [(4, .ref q), (0, .ref b), (1, .int x1), (2, .int x2), (3, .ref ao)]) X.1 X.2.1 dL_strokes_13 hl (by decide) rfl (fun ls hl => ?_)
      refine lv_iconst (v := 1) X.1 X.2.1 dL_strokes_15 (by decide) ?_
      exact retZ_i X.1 X.2.1 hr hlk hQ ⟨1, o, w1, rfl, rfl, Or.inr ⟨0, rfl, hE⟩⟩ hP hD hS (by rw [Nat.zero_add]; exact Nat.le_refl _) (by rw [Nat.zero_add]; exact Nat.le_refl _) dL_strokes_16

theorem mwc_mark : Cond.codeWith yL_mark cL_mark 6 (some .int) [(0, 12, 15, 24)] ∈ WG := wg_t (List.mem_append_right _ (List.mem_append_right _ (List.mem_append_right _ (List.mem_append_right _ (List.mem_append_left _ (List.mem_of_getElem? (i := 125) rfl)))))) rfl
theorem dcl_mark : yL_mark.cls ≠ "java/lang/invoke/MethodHandle" ∧ yL_mark.cls ≠ "java/lang/invoke/VarHandle" ∧ (parseMethodDescriptor yL_mark.desc).map (fun d => d.parameters.length) = some 5 := by decide +kernel
set_option maxHeartbeats 1000000 in
theorem w_mark (l : Launch) (dC : Nat → ClassId) (dI : Nat → Nat → Nat) (sk sv : Nat → Nat) (tc : Nat → ClassId) (b ao : Nat) (o : Nat → Int64) (x1 : Int32) (x2 : Int32) (x3 : Int32) (w0 : va_W) {fs : List Value} {rm0 : Room} {mc ms : Nat} {PI : Int32 → va_W → Prop} {PE : Nat → va_W → Prop} (hrm : rm0.frames ≤ 100 ∧ rm0.locals ≤ 5000 ∧ rm0.cells = mc ∧ rm0.slots = ms) (he : (b, .inr (11, fs)) ∈ w0 ++ wO tc ao o) (hPE : ∀ k w1, PE k w1 → k = 0) (hM : CZ l (dC, dI) sk sv (TY tc) yX11_mark (.code yX11_mark cX11_mark 7 (some .int)) rm0 mc ms [.ref b, .int x1, .int x2, .int x3] (w0 ++ wO tc ao o) (PNc tc ao o PI) (PXc tc ao o PE)) : CZ l (dC, dI) sk sv (TY tc) yL_mark (.codeWith yL_mark cL_mark 6 (some .int) [(0, 12, 15, 24)]) (rmW mc ms) mc ms [.ref b, .int x1, .int x2, .int x3, .ref ao] (w0 ++ wO tc ao o) (PNW tc ao PI PE (fun _ => 1)) (fun _ _ => False) := by
  refine ofCZH (by decide) (Nat.le_of_ble_eq_true rfl) ?_
  intro pr e s m args below meth c A Q ls H locs X hr hlk hT hQ hD hP hS hl
  have hl : lv_has ls 6 [(0, .ref b), (1, .int x1), (2, .int x2), (3, .int x3), (4, .ref ao)] := hl
  refine lv_aload X.1 X.2.1 dL_mark_0 (lv_at hl 4 rfl) ?_
  refine lv_iconst (v := 0) X.1 X.2.1 dL_mark_2 (by decide) ?_
  refine lv_aload_n X.1 X.2.1 dL_mark_3 rfl (lv_at hl 0 rfl) ?_
  refine lv_iload_n X.1 X.2.1 dL_mark_4 rfl (lv_at hl 1 rfl) ?_
  refine lv_iload_n X.1 X.2.1 dL_mark_5 rfl (lv_at hl 2 rfl) ?_
  refine lv_iload_n X.1 X.2.1 dL_mark_6 rfl (lv_at hl 3 rfl) ?_
  refine callZ (As := [.int x1, .int x2, .int x3]) (rest := [.int 0, .ref ao]) X hM mw_5_126 mw_5_127 mw_5_128 mw_1_1 mw_5_129 dc_X11_mark ⟨Nat.succ_le_succ hrm.1, by have := hrm.2.1; show 8 + (7 + 11) + rm0.locals ≤ 5100; omega⟩ hrm.2.2.1 hrm.2.2.2 ⟨by rw [Nat.zero_add]; exact Nat.le_refl _, by rw [Nat.zero_add]; exact Nat.le_refl _⟩ hP hD hS he rfl rfl hl.1 (Nat.le_of_ble_eq_true rfl) dL_mark_7 (fun v w' H locs hn hP hD hS => ?_) (fun E q ce w' H locs hx hP hD hS y1 y2 y3 => ?_)
  · obtain ⟨r, w1, rfl, rfl, hI⟩ := hn
    refine W.eq (g2 := F0 m 10 ls [.int r, .int 0, .ref ao]) rfl ?_
    refine lv_i2l X.1 X.2.1 dL_mark_10 rfl ?_
    refine va_last X.1 X.2.1 X.2.2.2.2.2.2.1 hP hD hS w1.length 2 (o_at tc ao o w1) rfl (by unfold vp_in; decide) dL_mark_11 (fun H locs hP hD hS => ?_)
    rw [o_set] at hP hD
    refine lv_goto (tgt := 19) X.1 X.2.1 dL_mark_12 (by decide) ?_
    refine lv_iconst (v := 0) X.1 X.2.1 dL_mark_19 (by decide) ?_
    exact retZ_i X.1 X.2.1 hr hlk hQ ⟨0, _, w1, rfl, rfl, Or.inl ⟨rfl, r, rfl, hI⟩⟩ hP hD hS (by rw [Nat.zero_add]; exact Nat.le_refl _) (by rw [Nat.zero_add]; exact Nat.le_refl _) dL_mark_20
  · obtain ⟨k, w1, rfl, rfl, hE⟩ := hx
    obtain rfl := hPE k w1 hE
    · refine vx_catch (name := "java/lang/IndexOutOfBoundsException") (E := exn 0) X.2.2.2.1 [] ⟨0, 12, 15, 24⟩ [] hT (fun z hz => absurd hz List.not_mem_nil) (by decide) (by decide) (X.2.2.2.2.1 _ mw_4_204) (va_Nw.use (nw_tab (nwTab_ok _ (List.mem_of_getElem? (i := 13) rfl))) (X.2.2.2.2.2.2.2.2.2.2.2.2.1 _ (List.mem_of_getElem? (i := 13) rfl))) y1 y2 y3 ?_
      refine lv_astore (lv' := [(5, .ref q), (0, .ref b), (1, .int x1), (2, .int x2), (3, .int x3), (4, .ref ao)]) X.1 X.2.1 dL_mark_15 hl (by decide) rfl (fun ls hl => ?_)
      refine lv_iconst (v := 1) X.1 X.2.1 dL_mark_17 (by decide) ?_
      exact retZ_i X.1 X.2.1 hr hlk hQ ⟨1, o, w1, rfl, rfl, Or.inr ⟨0, rfl, hE⟩⟩ hP hD hS (by rw [Nat.zero_add]; exact Nat.le_refl _) (by rw [Nat.zero_add]; exact Nat.le_refl _) dL_mark_18

theorem mwc_alike : Cond.codeWith yL_alike cL_alike 5 (some .int) [(0, 10, 13, 24)] ∈ WG := wg_t (List.mem_append_right _ (List.mem_append_right _ (List.mem_append_right _ (List.mem_append_right _ (List.mem_append_left _ (List.mem_of_getElem? (i := 132) rfl)))))) rfl
theorem dcl_alike : yL_alike.cls ≠ "java/lang/invoke/MethodHandle" ∧ yL_alike.cls ≠ "java/lang/invoke/VarHandle" ∧ (parseMethodDescriptor yL_alike.desc).map (fun d => d.parameters.length) = some 4 := by decide +kernel
set_option maxHeartbeats 1000000 in
theorem w_alike (l : Launch) (dC : Nat → ClassId) (dI : Nat → Nat → Nat) (sk sv : Nat → Nat) (tc : Nat → ClassId) (b ao : Nat) (o : Nat → Int64) (x1 : Int32) (x2 : Int32) (w0 : va_W) {fs : List Value} {rm0 : Room} {mc ms : Nat} {PI : Int32 → va_W → Prop} {PE : Nat → va_W → Prop} (hrm : rm0.frames ≤ 100 ∧ rm0.locals ≤ 5000 ∧ rm0.cells = mc ∧ rm0.slots = ms) (he : (b, .inr (11, fs)) ∈ w0 ++ wO tc ao o) (hPE : ∀ k w1, PE k w1 → k = 0) (hM : CZ l (dC, dI) sk sv (TY tc) yX11_alike (.code yX11_alike cX11_alike 3 (some .int)) rm0 mc ms [.ref b, .int x1, .int x2] (w0 ++ wO tc ao o) (PNc tc ao o PI) (PXc tc ao o PE)) : CZ l (dC, dI) sk sv (TY tc) yL_alike (.codeWith yL_alike cL_alike 5 (some .int) [(0, 10, 13, 24)]) (rmW mc ms) mc ms [.ref b, .int x1, .int x2, .ref ao] (w0 ++ wO tc ao o) (PNW tc ao PI PE (fun _ => 1)) (fun _ _ => False) := by
  refine ofCZH (by decide) (Nat.le_of_ble_eq_true rfl) ?_
  intro pr e s m args below meth c A Q ls H locs X hr hlk hT hQ hD hP hS hl
  have hl : lv_has ls 5 [(0, .ref b), (1, .int x1), (2, .int x2), (3, .ref ao)] := hl
  refine lv_aload_n X.1 X.2.1 dL_alike_0 rfl (lv_at hl 3 rfl) ?_
  refine lv_iconst (v := 0) X.1 X.2.1 dL_alike_1 (by decide) ?_
  refine lv_aload_n X.1 X.2.1 dL_alike_2 rfl (lv_at hl 0 rfl) ?_
  refine lv_iload_n X.1 X.2.1 dL_alike_3 rfl (lv_at hl 1 rfl) ?_
  refine lv_iload_n X.1 X.2.1 dL_alike_4 rfl (lv_at hl 2 rfl) ?_
  refine callZ (As := [.int x1, .int x2]) (rest := [.int 0, .ref ao]) X hM mw_5_133 mw_5_134 mw_5_135 mw_1_1 mw_5_136 dc_X11_alike ⟨Nat.succ_le_succ hrm.1, by have := hrm.2.1; show 8 + (3 + 11) + rm0.locals ≤ 5100; omega⟩ hrm.2.2.1 hrm.2.2.2 ⟨by rw [Nat.zero_add]; exact Nat.le_refl _, by rw [Nat.zero_add]; exact Nat.le_refl _⟩ hP hD hS he rfl rfl hl.1 (Nat.le_of_ble_eq_true rfl) dL_alike_5 (fun v w' H locs hn hP hD hS => ?_) (fun E q ce w' H locs hx hP hD hS y1 y2 y3 => ?_)
  · obtain ⟨r, w1, rfl, rfl, hI⟩ := hn
    refine W.eq (g2 := F0 m 8 ls [.int r, .int 0, .ref ao]) rfl ?_
    refine lv_i2l X.1 X.2.1 dL_alike_8 rfl ?_
    refine va_last X.1 X.2.1 X.2.2.2.2.2.2.1 hP hD hS w1.length 2 (o_at tc ao o w1) rfl (by unfold vp_in; decide) dL_alike_9 (fun H locs hP hD hS => ?_)
    rw [o_set] at hP hD
    refine lv_goto (tgt := 17) X.1 X.2.1 dL_alike_10 (by decide) ?_
    refine lv_iconst (v := 0) X.1 X.2.1 dL_alike_17 (by decide) ?_
    exact retZ_i X.1 X.2.1 hr hlk hQ ⟨0, _, w1, rfl, rfl, Or.inl ⟨rfl, r, rfl, hI⟩⟩ hP hD hS (by rw [Nat.zero_add]; exact Nat.le_refl _) (by rw [Nat.zero_add]; exact Nat.le_refl _) dL_alike_18
  · obtain ⟨k, w1, rfl, rfl, hE⟩ := hx
    obtain rfl := hPE k w1 hE
    · refine vx_catch (name := "java/lang/IndexOutOfBoundsException") (E := exn 0) X.2.2.2.1 [] ⟨0, 10, 13, 24⟩ [] hT (fun z hz => absurd hz List.not_mem_nil) (by decide) (by decide) (X.2.2.2.2.1 _ mw_4_204) (va_Nw.use (nw_tab (nwTab_ok _ (List.mem_of_getElem? (i := 13) rfl))) (X.2.2.2.2.2.2.2.2.2.2.2.2.1 _ (List.mem_of_getElem? (i := 13) rfl))) y1 y2 y3 ?_
      refine lv_astore (lv' := [(4, .ref q), (0, .ref b), (1, .int x1), (2, .int x2), (3, .ref ao)]) X.1 X.2.1 dL_alike_13 hl (by decide) rfl (fun ls hl => ?_)
      refine lv_iconst (v := 1) X.1 X.2.1 dL_alike_15 (by decide) ?_
      exact retZ_i X.1 X.2.1 hr hlk hQ ⟨1, o, w1, rfl, rfl, Or.inr ⟨0, rfl, hE⟩⟩ hP hD hS (by rw [Nat.zero_add]; exact Nat.le_refl _) (by rw [Nat.zero_add]; exact Nat.le_refl _) dL_alike_16

theorem mwc_reads : Cond.codeWith yL_reads cL_reads 5 (some .int) [(0, 10, 13, 24)] ∈ WG := wg_t (List.mem_append_right _ (List.mem_append_right _ (List.mem_append_right _ (List.mem_append_right _ (List.mem_append_left _ (List.mem_of_getElem? (i := 140) rfl)))))) rfl
theorem dcl_reads : yL_reads.cls ≠ "java/lang/invoke/MethodHandle" ∧ yL_reads.cls ≠ "java/lang/invoke/VarHandle" ∧ (parseMethodDescriptor yL_reads.desc).map (fun d => d.parameters.length) = some 4 := by decide +kernel
set_option maxHeartbeats 1000000 in
theorem w_reads (l : Launch) (dC : Nat → ClassId) (dI : Nat → Nat → Nat) (sk sv : Nat → Nat) (tc : Nat → ClassId) (b ao : Nat) (o : Nat → Int64) (x1 : Int32) (x2 : Int32) (w0 : va_W) {fs : List Value} {rm0 : Room} {mc ms : Nat} {PI : Int32 → va_W → Prop} {PE : Nat → va_W → Prop} (hrm : rm0.frames ≤ 100 ∧ rm0.locals ≤ 5000 ∧ rm0.cells = mc ∧ rm0.slots = ms) (he : (b, .inr (11, fs)) ∈ w0 ++ wO tc ao o) (hPE : ∀ k w1, PE k w1 → k = 0) (hM : CZ l (dC, dI) sk sv (TY tc) yX11_reads (.code yX11_reads cX11_reads 3 (some .int)) rm0 mc ms [.ref b, .int x1, .int x2] (w0 ++ wO tc ao o) (PNc tc ao o PI) (PXc tc ao o PE)) : CZ l (dC, dI) sk sv (TY tc) yL_reads (.codeWith yL_reads cL_reads 5 (some .int) [(0, 10, 13, 24)]) (rmW mc ms) mc ms [.ref b, .int x1, .int x2, .ref ao] (w0 ++ wO tc ao o) (PNW tc ao PI PE (fun _ => 1)) (fun _ _ => False) := by
  refine ofCZH (by decide) (Nat.le_of_ble_eq_true rfl) ?_
  intro pr e s m args below meth c A Q ls H locs X hr hlk hT hQ hD hP hS hl
  have hl : lv_has ls 5 [(0, .ref b), (1, .int x1), (2, .int x2), (3, .ref ao)] := hl
  refine lv_aload_n X.1 X.2.1 dL_reads_0 rfl (lv_at hl 3 rfl) ?_
  refine lv_iconst (v := 0) X.1 X.2.1 dL_reads_1 (by decide) ?_
  refine lv_aload_n X.1 X.2.1 dL_reads_2 rfl (lv_at hl 0 rfl) ?_
  refine lv_iload_n X.1 X.2.1 dL_reads_3 rfl (lv_at hl 1 rfl) ?_
  refine lv_iload_n X.1 X.2.1 dL_reads_4 rfl (lv_at hl 2 rfl) ?_
  refine callZ (As := [.int x1, .int x2]) (rest := [.int 0, .ref ao]) X hM mw_5_141 mw_5_142 mw_5_143 mw_1_1 mw_5_144 dc_X11_reads ⟨Nat.succ_le_succ hrm.1, by have := hrm.2.1; show 8 + (3 + 11) + rm0.locals ≤ 5100; omega⟩ hrm.2.2.1 hrm.2.2.2 ⟨by rw [Nat.zero_add]; exact Nat.le_refl _, by rw [Nat.zero_add]; exact Nat.le_refl _⟩ hP hD hS he rfl rfl hl.1 (Nat.le_of_ble_eq_true rfl) dL_reads_5 (fun v w' H locs hn hP hD hS => ?_) (fun E q ce w' H locs hx hP hD hS y1 y2 y3 => ?_)
  · obtain ⟨r, w1, rfl, rfl, hI⟩ := hn
    refine W.eq (g2 := F0 m 8 ls [.int r, .int 0, .ref ao]) rfl ?_
    refine lv_i2l X.1 X.2.1 dL_reads_8 rfl ?_
    refine va_last X.1 X.2.1 X.2.2.2.2.2.2.1 hP hD hS w1.length 2 (o_at tc ao o w1) rfl (by unfold vp_in; decide) dL_reads_9 (fun H locs hP hD hS => ?_)
    rw [o_set] at hP hD
    refine lv_goto (tgt := 17) X.1 X.2.1 dL_reads_10 (by decide) ?_
    refine lv_iconst (v := 0) X.1 X.2.1 dL_reads_17 (by decide) ?_
    exact retZ_i X.1 X.2.1 hr hlk hQ ⟨0, _, w1, rfl, rfl, Or.inl ⟨rfl, r, rfl, hI⟩⟩ hP hD hS (by rw [Nat.zero_add]; exact Nat.le_refl _) (by rw [Nat.zero_add]; exact Nat.le_refl _) dL_reads_18
  · obtain ⟨k, w1, rfl, rfl, hE⟩ := hx
    obtain rfl := hPE k w1 hE
    · refine vx_catch (name := "java/lang/IndexOutOfBoundsException") (E := exn 0) X.2.2.2.1 [] ⟨0, 10, 13, 24⟩ [] hT (fun z hz => absurd hz List.not_mem_nil) (by decide) (by decide) (X.2.2.2.2.1 _ mw_4_204) (va_Nw.use (nw_tab (nwTab_ok _ (List.mem_of_getElem? (i := 13) rfl))) (X.2.2.2.2.2.2.2.2.2.2.2.2.1 _ (List.mem_of_getElem? (i := 13) rfl))) y1 y2 y3 ?_
      refine lv_astore (lv' := [(4, .ref q), (0, .ref b), (1, .int x1), (2, .int x2), (3, .ref ao)]) X.1 X.2.1 dL_reads_13 hl (by decide) rfl (fun ls hl => ?_)
      refine lv_iconst (v := 1) X.1 X.2.1 dL_reads_15 (by decide) ?_
      exact retZ_i X.1 X.2.1 hr hlk hQ ⟨1, o, w1, rfl, rfl, Or.inr ⟨0, rfl, hE⟩⟩ hP hD hS (by rw [Nat.zero_add]; exact Nat.le_refl _) (by rw [Nat.zero_add]; exact Nat.le_refl _) dL_reads_16

theorem mwc_keepsUp : Cond.codeWith yL_keepsUp cL_keepsUp 5 (some .int) [(0, 17, 20, 24)] ∈ WG := wg_t (List.mem_append_right _ (List.mem_append_right _ (List.mem_append_right _ (List.mem_append_right _ (List.mem_append_left _ (List.mem_of_getElem? (i := 148) rfl)))))) rfl
theorem dcl_keepsUp : yL_keepsUp.cls ≠ "java/lang/invoke/MethodHandle" ∧ yL_keepsUp.cls ≠ "java/lang/invoke/VarHandle" ∧ (parseMethodDescriptor yL_keepsUp.desc).map (fun d => d.parameters.length) = some 4 := by decide +kernel
set_option maxHeartbeats 1000000 in
theorem w_keepsUp (l : Launch) (dC : Nat → ClassId) (dI : Nat → Nat → Nat) (sk sv : Nat → Nat) (tc : Nat → ClassId) (b ao : Nat) (o : Nat → Int64) (x1 : Int32) (x2 : Int32) (w0 : va_W) {fs : List Value} {rm0 : Room} {mc ms : Nat} {PI : Int32 → va_W → Prop} {PE : Nat → va_W → Prop} (hrm : rm0.frames ≤ 100 ∧ rm0.locals ≤ 5000 ∧ rm0.cells = mc ∧ rm0.slots = ms) (he : (b, .inr (11, fs)) ∈ w0 ++ wO tc ao o) (hPE : ∀ k w1, PE k w1 → k = 0) (hZ : ∀ r w1, PI r w1 → r = 0 ∨ r = 1) (hM : CZ l (dC, dI) sk sv (TY tc) yX11_keepsUp (.code yX11_keepsUp cX11_keepsUp 3 (some .boolean)) rm0 mc ms [.ref b, .int x1, .int x2] (w0 ++ wO tc ao o) (PNc tc ao o PI) (PXc tc ao o PE)) : CZ l (dC, dI) sk sv (TY tc) yL_keepsUp (.codeWith yL_keepsUp cL_keepsUp 5 (some .int) [(0, 17, 20, 24)]) (rmW mc ms) mc ms [.ref b, .int x1, .int x2, .ref ao] (w0 ++ wO tc ao o) (PNW tc ao PI PE (fun _ => 1)) (fun _ _ => False) := by
  refine ofCZH (by decide) (Nat.le_of_ble_eq_true rfl) ?_
  intro pr e s m args below meth c A Q ls H locs X hr hlk hT hQ hD hP hS hl
  have hl : lv_has ls 5 [(0, .ref b), (1, .int x1), (2, .int x2), (3, .ref ao)] := hl
  refine lv_aload_n X.1 X.2.1 dL_keepsUp_0 rfl (lv_at hl 3 rfl) ?_
  refine lv_iconst (v := 0) X.1 X.2.1 dL_keepsUp_1 (by decide) ?_
  refine lv_aload_n X.1 X.2.1 dL_keepsUp_2 rfl (lv_at hl 0 rfl) ?_
  refine lv_iload_n X.1 X.2.1 dL_keepsUp_3 rfl (lv_at hl 1 rfl) ?_
  refine lv_iload_n X.1 X.2.1 dL_keepsUp_4 rfl (lv_at hl 2 rfl) ?_
  refine callZ (As := [.int x1, .int x2]) (rest := [.int 0, .ref ao]) X hM mw_5_149 mw_5_150 mw_5_151 mw_1_1 mw_5_152 dc_X11_keepsUp ⟨Nat.succ_le_succ hrm.1, by have := hrm.2.1; show 8 + (3 + 11) + rm0.locals ≤ 5100; omega⟩ hrm.2.2.1 hrm.2.2.2 ⟨by rw [Nat.zero_add]; exact Nat.le_refl _, by rw [Nat.zero_add]; exact Nat.le_refl _⟩ hP hD hS he rfl rfl hl.1 (Nat.le_of_ble_eq_true rfl) dL_keepsUp_5 (fun v w' H locs hn hP hD hS => ?_) (fun E q ce w' H locs hx hP hD hS y1 y2 y3 => ?_)
  · obtain ⟨r, w1, rfl, rfl, hI⟩ := hn
    refine W.eq (g2 := F0 m 8 ls [.int r, .int 0, .ref ao]) rfl ?_
    obtain rfl | rfl := hZ r w1 hI
    · refine lv_if_eq (tgt := 15) X.1 X.2.1 dL_keepsUp_8 (by decide) (fun _ => ?_) (fun hc => absurd rfl hc)
      refine lv_lconst (v := 0) X.1 X.2.1 dL_keepsUp_15 rfl ?_
      refine va_last X.1 X.2.1 X.2.2.2.2.2.2.1 hP hD hS w1.length 2 (o_at tc ao o w1) rfl (by unfold vp_in; decide) dL_keepsUp_16 (fun H locs hP hD hS => ?_)
      rw [o_set] at hP hD
      refine lv_goto (tgt := 24) X.1 X.2.1 dL_keepsUp_17 (by decide) ?_
      refine lv_iconst (v := 0) X.1 X.2.1 dL_keepsUp_24 (by decide) ?_
      exact retZ_i X.1 X.2.1 hr hlk hQ ⟨0, _, w1, rfl, rfl, Or.inl ⟨rfl, 0, l_00, hI⟩⟩ hP hD hS (by rw [Nat.zero_add]; exact Nat.le_refl _) (by rw [Nat.zero_add]; exact Nat.le_refl _) dL_keepsUp_25
    · refine lv_if_eq (tgt := 15) X.1 X.2.1 dL_keepsUp_8 (by decide) (fun hc => absurd hc (by decide)) (fun _ => ?_)
      refine lv_lconst (v := 1) X.1 X.2.1 dL_keepsUp_11 rfl ?_
      refine lv_goto (tgt := 16) X.1 X.2.1 dL_keepsUp_12 (by decide) ?_
      refine va_last X.1 X.2.1 X.2.2.2.2.2.2.1 hP hD hS w1.length 2 (o_at tc ao o w1) rfl (by unfold vp_in; decide) dL_keepsUp_16 (fun H locs hP hD hS => ?_)
      rw [o_set] at hP hD
      refine lv_goto (tgt := 24) X.1 X.2.1 dL_keepsUp_17 (by decide) ?_
      refine lv_iconst (v := 0) X.1 X.2.1 dL_keepsUp_24 (by decide) ?_
      exact retZ_i X.1 X.2.1 hr hlk hQ ⟨0, _, w1, rfl, rfl, Or.inl ⟨rfl, 1, l_10, hI⟩⟩ hP hD hS (by rw [Nat.zero_add]; exact Nat.le_refl _) (by rw [Nat.zero_add]; exact Nat.le_refl _) dL_keepsUp_25
  · obtain ⟨k, w1, rfl, rfl, hE⟩ := hx
    obtain rfl := hPE k w1 hE
    · refine vx_catch (name := "java/lang/IndexOutOfBoundsException") (E := exn 0) X.2.2.2.1 [] ⟨0, 17, 20, 24⟩ [] hT (fun z hz => absurd hz List.not_mem_nil) (by decide) (by decide) (X.2.2.2.2.1 _ mw_4_204) (va_Nw.use (nw_tab (nwTab_ok _ (List.mem_of_getElem? (i := 13) rfl))) (X.2.2.2.2.2.2.2.2.2.2.2.2.1 _ (List.mem_of_getElem? (i := 13) rfl))) y1 y2 y3 ?_
      refine lv_astore (lv' := [(4, .ref q), (0, .ref b), (1, .int x1), (2, .int x2), (3, .ref ao)]) X.1 X.2.1 dL_keepsUp_20 hl (by decide) rfl (fun ls hl => ?_)
      refine lv_iconst (v := 1) X.1 X.2.1 dL_keepsUp_22 (by decide) ?_
      exact retZ_i X.1 X.2.1 hr hlk hQ ⟨1, o, w1, rfl, rfl, Or.inr ⟨0, rfl, hE⟩⟩ hP hD hS (by rw [Nat.zero_add]; exact Nat.le_refl _) (by rw [Nat.zero_add]; exact Nat.le_refl _) dL_keepsUp_23

theorem mwc_slips : Cond.codeWith yL_slips cL_slips 5 (some .int) [(0, 10, 13, 24)] ∈ WG := wg_t (List.mem_append_right _ (List.mem_append_right _ (List.mem_append_right _ (List.mem_append_right _ (List.mem_append_left _ (List.mem_of_getElem? (i := 165) rfl)))))) rfl
theorem dcl_slips : yL_slips.cls ≠ "java/lang/invoke/MethodHandle" ∧ yL_slips.cls ≠ "java/lang/invoke/VarHandle" ∧ (parseMethodDescriptor yL_slips.desc).map (fun d => d.parameters.length) = some 4 := by decide +kernel
set_option maxHeartbeats 1000000 in
theorem w_slips (l : Launch) (dC : Nat → ClassId) (dI : Nat → Nat → Nat) (sk sv : Nat → Nat) (tc : Nat → ClassId) (b ao : Nat) (o : Nat → Int64) (x1 : Int32) (x2 : Int32) (w0 : va_W) {fs : List Value} {rm0 : Room} {mc ms : Nat} {PI : Int32 → va_W → Prop} {PE : Nat → va_W → Prop} (hrm : rm0.frames ≤ 100 ∧ rm0.locals ≤ 5000 ∧ rm0.cells = mc ∧ rm0.slots = ms) (he : (b, .inr (11, fs)) ∈ w0 ++ wO tc ao o) (hPE : ∀ k w1, PE k w1 → k = 0) (hM : CZ l (dC, dI) sk sv (TY tc) yX11_slips (.code yX11_slips cX11_slips 3 (some .int)) rm0 mc ms [.ref b, .int x1, .int x2] (w0 ++ wO tc ao o) (PNc tc ao o PI) (PXc tc ao o PE)) : CZ l (dC, dI) sk sv (TY tc) yL_slips (.codeWith yL_slips cL_slips 5 (some .int) [(0, 10, 13, 24)]) (rmW mc ms) mc ms [.ref b, .int x1, .int x2, .ref ao] (w0 ++ wO tc ao o) (PNW tc ao PI PE (fun _ => 1)) (fun _ _ => False) := by
  refine ofCZH (by decide) (Nat.le_of_ble_eq_true rfl) ?_
  intro pr e s m args below meth c A Q ls H locs X hr hlk hT hQ hD hP hS hl
  have hl : lv_has ls 5 [(0, .ref b), (1, .int x1), (2, .int x2), (3, .ref ao)] := hl
  refine lv_aload_n X.1 X.2.1 dL_slips_0 rfl (lv_at hl 3 rfl) ?_
  refine lv_iconst (v := 0) X.1 X.2.1 dL_slips_1 (by decide) ?_
  refine lv_aload_n X.1 X.2.1 dL_slips_2 rfl (lv_at hl 0 rfl) ?_
  refine lv_iload_n X.1 X.2.1 dL_slips_3 rfl (lv_at hl 1 rfl) ?_
  refine lv_iload_n X.1 X.2.1 dL_slips_4 rfl (lv_at hl 2 rfl) ?_
  refine callZ (As := [.int x1, .int x2]) (rest := [.int 0, .ref ao]) X hM mw_5_166 mw_5_167 mw_5_168 mw_1_1 mw_5_169 dc_X11_slips ⟨Nat.succ_le_succ hrm.1, by have := hrm.2.1; show 8 + (3 + 11) + rm0.locals ≤ 5100; omega⟩ hrm.2.2.1 hrm.2.2.2 ⟨by rw [Nat.zero_add]; exact Nat.le_refl _, by rw [Nat.zero_add]; exact Nat.le_refl _⟩ hP hD hS he rfl rfl hl.1 (Nat.le_of_ble_eq_true rfl) dL_slips_5 (fun v w' H locs hn hP hD hS => ?_) (fun E q ce w' H locs hx hP hD hS y1 y2 y3 => ?_)
  · obtain ⟨r, w1, rfl, rfl, hI⟩ := hn
    refine W.eq (g2 := F0 m 8 ls [.int r, .int 0, .ref ao]) rfl ?_
    refine lv_i2l X.1 X.2.1 dL_slips_8 rfl ?_
    refine va_last X.1 X.2.1 X.2.2.2.2.2.2.1 hP hD hS w1.length 2 (o_at tc ao o w1) rfl (by unfold vp_in; decide) dL_slips_9 (fun H locs hP hD hS => ?_)
    rw [o_set] at hP hD
    refine lv_goto (tgt := 17) X.1 X.2.1 dL_slips_10 (by decide) ?_
    refine lv_iconst (v := 0) X.1 X.2.1 dL_slips_17 (by decide) ?_
    exact retZ_i X.1 X.2.1 hr hlk hQ ⟨0, _, w1, rfl, rfl, Or.inl ⟨rfl, r, rfl, hI⟩⟩ hP hD hS (by rw [Nat.zero_add]; exact Nat.le_refl _) (by rw [Nat.zero_add]; exact Nat.le_refl _) dL_slips_18
  · obtain ⟨k, w1, rfl, rfl, hE⟩ := hx
    obtain rfl := hPE k w1 hE
    · refine vx_catch (name := "java/lang/IndexOutOfBoundsException") (E := exn 0) X.2.2.2.1 [] ⟨0, 10, 13, 24⟩ [] hT (fun z hz => absurd hz List.not_mem_nil) (by decide) (by decide) (X.2.2.2.2.1 _ mw_4_204) (va_Nw.use (nw_tab (nwTab_ok _ (List.mem_of_getElem? (i := 13) rfl))) (X.2.2.2.2.2.2.2.2.2.2.2.2.1 _ (List.mem_of_getElem? (i := 13) rfl))) y1 y2 y3 ?_
      refine lv_astore (lv' := [(4, .ref q), (0, .ref b), (1, .int x1), (2, .int x2), (3, .ref ao)]) X.1 X.2.1 dL_slips_13 hl (by decide) rfl (fun ls hl => ?_)
      refine lv_iconst (v := 1) X.1 X.2.1 dL_slips_15 (by decide) ?_
      exact retZ_i X.1 X.2.1 hr hlk hQ ⟨1, o, w1, rfl, rfl, Or.inr ⟨0, rfl, hE⟩⟩ hP hD hS (by rw [Nat.zero_add]; exact Nat.le_refl _) (by rw [Nat.zero_add]; exact Nat.le_refl _) dL_slips_16

theorem mwc_minutes : Cond.codeWith yL_minutes cL_minutes 4 (some .int) [(0, 9, 12, 13)] ∈ WG := wg_t (List.mem_append_right _ (List.mem_append_right _ (List.mem_append_right _ (List.mem_append_right _ (List.mem_append_left _ (List.mem_of_getElem? (i := 194) rfl)))))) rfl
theorem dcl_minutes : yL_minutes.cls ≠ "java/lang/invoke/MethodHandle" ∧ yL_minutes.cls ≠ "java/lang/invoke/VarHandle" ∧ (parseMethodDescriptor yL_minutes.desc).map (fun d => d.parameters.length) = some 3 := by decide +kernel
set_option maxHeartbeats 1000000 in
theorem w_minutes (l : Launch) (dC : Nat → ClassId) (dI : Nat → Nat → Nat) (sk sv : Nat → Nat) (tc : Nat → ClassId) (b ao : Nat) (o : Nat → Int64) (x1 : Int32) (w0 : va_W) {fs : List Value} {rm0 : Room} {mc ms : Nat} {PI : Int32 → va_W → Prop} {PE : Nat → va_W → Prop} (hrm : rm0.frames ≤ 100 ∧ rm0.locals ≤ 5000 ∧ rm0.cells = mc ∧ rm0.slots = ms) (he : (b, .inr (11, fs)) ∈ w0 ++ wO tc ao o) (hPE : ∀ k w1, PE k w1 → k = 1) (hM : CZ l (dC, dI) sk sv (TY tc) yX11_minutes (.code yX11_minutes cX11_minutes 2 (some .int)) rm0 mc ms [.ref b, .int x1] (w0 ++ wO tc ao o) (PNc tc ao o PI) (PXc tc ao o PE)) : CZ l (dC, dI) sk sv (TY tc) yL_minutes (.codeWith yL_minutes cL_minutes 4 (some .int) [(0, 9, 12, 13)]) (rmW mc ms) mc ms [.ref b, .int x1, .ref ao] (w0 ++ wO tc ao o) (PNW tc ao PI PE (fun _ => 1)) (fun _ _ => False) := by
  refine ofCZH (by decide) (Nat.le_of_ble_eq_true rfl) ?_
  intro pr e s m args below meth c A Q ls H locs X hr hlk hT hQ hD hP hS hl
  have hl : lv_has ls 4 [(0, .ref b), (1, .int x1), (2, .ref ao)] := hl
  refine lv_aload_n X.1 X.2.1 dL_minutes_0 rfl (lv_at hl 2 rfl) ?_
  refine lv_iconst (v := 0) X.1 X.2.1 dL_minutes_1 (by decide) ?_
  refine lv_aload_n X.1 X.2.1 dL_minutes_2 rfl (lv_at hl 0 rfl) ?_
  refine lv_iload_n X.1 X.2.1 dL_minutes_3 rfl (lv_at hl 1 rfl) ?_
  refine callZ (As := [.int x1]) (rest := [.int 0, .ref ao]) X hM mw_5_195 mw_5_196 mw_5_197 mw_1_1 mw_5_198 dc_X11_minutes ⟨Nat.succ_le_succ hrm.1, by have := hrm.2.1; show 8 + (2 + 11) + rm0.locals ≤ 5100; omega⟩ hrm.2.2.1 hrm.2.2.2 ⟨by rw [Nat.zero_add]; exact Nat.le_refl _, by rw [Nat.zero_add]; exact Nat.le_refl _⟩ hP hD hS he rfl rfl hl.1 (Nat.le_of_ble_eq_true rfl) dL_minutes_4 (fun v w' H locs hn hP hD hS => ?_) (fun E q ce w' H locs hx hP hD hS y1 y2 y3 => ?_)
  · obtain ⟨r, w1, rfl, rfl, hI⟩ := hn
    refine W.eq (g2 := F0 m 7 ls [.int r, .int 0, .ref ao]) rfl ?_
    refine lv_i2l X.1 X.2.1 dL_minutes_7 rfl ?_
    refine va_last X.1 X.2.1 X.2.2.2.2.2.2.1 hP hD hS w1.length 2 (o_at tc ao o w1) rfl (by unfold vp_in; decide) dL_minutes_8 (fun H locs hP hD hS => ?_)
    rw [o_set] at hP hD
    refine lv_goto (tgt := 15) X.1 X.2.1 dL_minutes_9 (by decide) ?_
    refine lv_iconst (v := 0) X.1 X.2.1 dL_minutes_15 (by decide) ?_
    exact retZ_i X.1 X.2.1 hr hlk hQ ⟨0, _, w1, rfl, rfl, Or.inl ⟨rfl, r, rfl, hI⟩⟩ hP hD hS (by rw [Nat.zero_add]; exact Nat.le_refl _) (by rw [Nat.zero_add]; exact Nat.le_refl _) dL_minutes_16
  · obtain ⟨k, w1, rfl, rfl, hE⟩ := hx
    obtain rfl := hPE k w1 hE
    · refine vx_catch (name := "java/lang/IllegalArgumentException") (E := exn 1) X.2.2.2.1 [] ⟨0, 9, 12, 13⟩ [] hT (fun z hz => absurd hz List.not_mem_nil) (by decide) (by decide) (X.2.2.2.2.1 _ mw_3_114) (va_Nw.use (nw_tab (nwTab_ok _ (List.mem_of_getElem? (i := 4) rfl))) (X.2.2.2.2.2.2.2.2.2.2.2.2.1 _ (List.mem_of_getElem? (i := 4) rfl))) y1 y2 y3 ?_
      refine lv_astore_n (lv' := [(3, .ref q), (0, .ref b), (1, .int x1), (2, .ref ao)]) X.1 X.2.1 dL_minutes_12 rfl hl (by decide) rfl (fun ls hl => ?_)
      refine lv_iconst (v := 1) X.1 X.2.1 dL_minutes_13 (by decide) ?_
      exact retZ_i X.1 X.2.1 hr hlk hQ ⟨1, o, w1, rfl, rfl, Or.inr ⟨1, rfl, hE⟩⟩ hP hD hS (by rw [Nat.zero_add]; exact Nat.le_refl _) (by rw [Nat.zero_add]; exact Nat.le_refl _) dL_minutes_14

theorem mwc_speak : Cond.codeWith yL_speak cL_speak 4 (some .int) [(0, 9, 12, 24), (0, 9, 15, 64)] ∈ WG := wg_t (List.mem_append_right _ (List.mem_append_right _ (List.mem_append_right _ (List.mem_append_right _ (List.mem_append_left _ (List.mem_of_getElem? (i := 239) rfl)))))) rfl
theorem dcl_speak : yL_speak.cls ≠ "java/lang/invoke/MethodHandle" ∧ yL_speak.cls ≠ "java/lang/invoke/VarHandle" ∧ (parseMethodDescriptor yL_speak.desc).map (fun d => d.parameters.length) = some 3 := by decide +kernel
set_option maxHeartbeats 1000000 in
theorem w_speak (l : Launch) (dC : Nat → ClassId) (dI : Nat → Nat → Nat) (sk sv : Nat → Nat) (tc : Nat → ClassId) (b ao : Nat) (o : Nat → Int64) (x1 : Int32) (w0 : va_W) {fs : List Value} {rm0 : Room} {mc ms : Nat} {PI : Int32 → va_W → Prop} {PE : Nat → va_W → Prop} (hrm : rm0.frames ≤ 100 ∧ rm0.locals ≤ 5000 ∧ rm0.cells = mc ∧ rm0.slots = ms) (he : (b, .inr (11, fs)) ∈ w0 ++ wO tc ao o) (hPE : ∀ k w1, PE k w1 → k = 0 ∨ k = 3) (hM : CZ l (dC, dI) sk sv (TY tc) yX11_speak (.code yX11_speak cX11_speak 2 (some .int)) rm0 mc ms [.ref b, .int x1] (w0 ++ wO tc ao o) (PNc tc ao o PI) (PXc tc ao o PE)) : CZ l (dC, dI) sk sv (TY tc) yL_speak (.codeWith yL_speak cL_speak 4 (some .int) [(0, 9, 12, 24), (0, 9, 15, 64)]) (rmW mc ms) mc ms [.ref b, .int x1, .ref ao] (w0 ++ wO tc ao o) (PNW tc ao PI PE (fun k => if k = 0 then 1 else 2)) (fun _ _ => False) := by
  refine ofCZH (by decide) (Nat.le_of_ble_eq_true rfl) ?_
  intro pr e s m args below meth c A Q ls H locs X hr hlk hT hQ hD hP hS hl
  have hl : lv_has ls 4 [(0, .ref b), (1, .int x1), (2, .ref ao)] := hl
  refine lv_aload_n X.1 X.2.1 dL_speak_0 rfl (lv_at hl 2 rfl) ?_
  refine lv_iconst (v := 0) X.1 X.2.1 dL_speak_1 (by decide) ?_
  refine lv_aload_n X.1 X.2.1 dL_speak_2 rfl (lv_at hl 0 rfl) ?_
  refine lv_iload_n X.1 X.2.1 dL_speak_3 rfl (lv_at hl 1 rfl) ?_
  refine callZ (As := [.int x1]) (rest := [.int 0, .ref ao]) X hM mw_6_1 mw_6_2 mw_6_3 mw_1_1 mw_6_4 dc_X11_speak ⟨Nat.succ_le_succ hrm.1, by have := hrm.2.1; show 8 + (2 + 11) + rm0.locals ≤ 5100; omega⟩ hrm.2.2.1 hrm.2.2.2 ⟨by rw [Nat.zero_add]; exact Nat.le_refl _, by rw [Nat.zero_add]; exact Nat.le_refl _⟩ hP hD hS he rfl rfl hl.1 (Nat.le_of_ble_eq_true rfl) dL_speak_4 (fun v w' H locs hn hP hD hS => ?_) (fun E q ce w' H locs hx hP hD hS y1 y2 y3 => ?_)
  · obtain ⟨r, w1, rfl, rfl, hI⟩ := hn
    refine W.eq (g2 := F0 m 7 ls [.int r, .int 0, .ref ao]) rfl ?_
    refine lv_i2l X.1 X.2.1 dL_speak_7 rfl ?_
    refine va_last X.1 X.2.1 X.2.2.2.2.2.2.1 hP hD hS w1.length 2 (o_at tc ao o w1) rfl (by unfold vp_in; decide) dL_speak_8 (fun H locs hP hD hS => ?_)
    rw [o_set] at hP hD
    refine lv_goto (tgt := 18) X.1 X.2.1 dL_speak_9 (by decide) ?_
    refine lv_iconst (v := 0) X.1 X.2.1 dL_speak_18 (by decide) ?_
    exact retZ_i X.1 X.2.1 hr hlk hQ ⟨0, _, w1, rfl, rfl, Or.inl ⟨rfl, r, rfl, hI⟩⟩ hP hD hS (by rw [Nat.zero_add]; exact Nat.le_refl _) (by rw [Nat.zero_add]; exact Nat.le_refl _) dL_speak_19
  · obtain ⟨k, w1, rfl, rfl, hE⟩ := hx
    obtain rfl | rfl := hPE k w1 hE
    · refine vx_catch (name := "java/lang/IndexOutOfBoundsException") (E := exn 0) X.2.2.2.1 [] ⟨0, 9, 12, 24⟩ [⟨0, 9, 15, 64⟩] hT (fun z hz => absurd hz List.not_mem_nil) (by decide) (by decide) (X.2.2.2.2.1 _ mw_4_204) (va_Nw.use (nw_tab (nwTab_ok _ (List.mem_of_getElem? (i := 13) rfl))) (X.2.2.2.2.2.2.2.2.2.2.2.2.1 _ (List.mem_of_getElem? (i := 13) rfl))) y1 y2 y3 ?_
      refine lv_astore_n (lv' := [(3, .ref q), (0, .ref b), (1, .int x1), (2, .ref ao)]) X.1 X.2.1 dL_speak_12 rfl hl (by decide) rfl (fun ls hl => ?_)
      refine lv_iconst (v := 1) X.1 X.2.1 dL_speak_13 (by decide) ?_
      exact retZ_i X.1 X.2.1 hr hlk hQ ⟨1, o, w1, rfl, rfl, Or.inr ⟨0, rfl, hE⟩⟩ hP hD hS (by rw [Nat.zero_add]; exact Nat.le_refl _) (by rw [Nat.zero_add]; exact Nat.le_refl _) dL_speak_14
    · refine vx_catch (name := "java/lang/IllegalStateException") (E := exn 3) X.2.2.2.1 [⟨0, 9, 12, 24⟩] ⟨0, 9, 15, 64⟩ [] hT (fun z hz => by rw [List.mem_singleton.mp hz]; exact Or.inr ⟨by decide, "java/lang/IndexOutOfBoundsException", X.2.2.2.2.1 _ mw_4_204, X.2.2.2.2.2.2.2.2.2.2.2.2.2.1 _ (List.mem_of_getElem? (i := 11) rfl)⟩) (by decide) (by decide) (X.2.2.2.2.1 _ mw_6_0) (va_Nw.use (nw_tab (nwTab_ok _ (List.mem_of_getElem? (i := 15) rfl))) (X.2.2.2.2.2.2.2.2.2.2.2.2.1 _ (List.mem_of_getElem? (i := 15) rfl))) y1 y2 y3 ?_
      refine lv_astore_n (lv' := [(3, .ref q), (0, .ref b), (1, .int x1), (2, .ref ao)]) X.1 X.2.1 dL_speak_15 rfl hl (by decide) rfl (fun ls hl => ?_)
      refine lv_iconst (v := 2) X.1 X.2.1 dL_speak_16 (by decide) ?_
      exact retZ_i X.1 X.2.1 hr hlk hQ ⟨2, o, w1, rfl, rfl, Or.inr ⟨3, rfl, hE⟩⟩ hP hD hS (by rw [Nat.zero_add]; exact Nat.le_refl _) (by rw [Nat.zero_add]; exact Nat.le_refl _) dL_speak_17

theorem mwc_leave : Cond.codeWith yL_leave cL_leave 6 (some .int) [(0, 19, 22, 24)] ∈ WG := wg_t (List.mem_append_right _ (List.mem_append_right _ (List.mem_append_right _ (List.mem_append_right _ (List.mem_append_right _ (List.mem_append_left _ (List.mem_of_getElem? (i := 23) rfl))))))) rfl
theorem dcl_leave : yL_leave.cls ≠ "java/lang/invoke/MethodHandle" ∧ yL_leave.cls ≠ "java/lang/invoke/VarHandle" ∧ (parseMethodDescriptor yL_leave.desc).map (fun d => d.parameters.length) = some 5 := by decide +kernel
set_option maxHeartbeats 1000000 in
theorem w_leave (l : Launch) (dC : Nat → ClassId) (dI : Nat → Nat → Nat) (sk sv : Nat → Nat) (tc : Nat → ClassId) (b ao : Nat) (o : Nat → Int64) (x1 : Int32) (x2 : Int32) (x3 : Int32) (w0 : va_W) {fs : List Value} {rm0 : Room} {mc ms : Nat} {PI : Int32 → va_W → Prop} {PE : Nat → va_W → Prop} (hrm : rm0.frames ≤ 100 ∧ rm0.locals ≤ 5000 ∧ rm0.cells = mc ∧ rm0.slots = ms) (he : (b, .inr (11, fs)) ∈ w0 ++ wO tc ao o) (hPE : ∀ k w1, PE k w1 → k = 0) (hZ : ∀ r w1, PI r w1 → r = 0 ∨ r = 1) (hM : CZ l (dC, dI) sk sv (TY tc) yX11_leave (.code yX11_leave cX11_leave 5 (some .boolean)) rm0 mc ms [.ref b, .int x1, .int x2, .int x3] (w0 ++ wO tc ao o) (PNc tc ao o PI) (PXc tc ao o PE)) : CZ l (dC, dI) sk sv (TY tc) yL_leave (.codeWith yL_leave cL_leave 6 (some .int) [(0, 19, 22, 24)]) (rmW mc ms) mc ms [.ref b, .int x1, .int x2, .int x3, .ref ao] (w0 ++ wO tc ao o) (PNW tc ao PI PE (fun _ => 1)) (fun _ _ => False) := by
  refine ofCZH (by decide) (Nat.le_of_ble_eq_true rfl) ?_
  intro pr e s m args below meth c A Q ls H locs X hr hlk hT hQ hD hP hS hl
  have hl : lv_has ls 6 [(0, .ref b), (1, .int x1), (2, .int x2), (3, .int x3), (4, .ref ao)] := hl
  refine lv_aload X.1 X.2.1 dL_leave_0 (lv_at hl 4 rfl) ?_
  refine lv_iconst (v := 0) X.1 X.2.1 dL_leave_2 (by decide) ?_
  refine lv_aload_n X.1 X.2.1 dL_leave_3 rfl (lv_at hl 0 rfl) ?_
  refine lv_iload_n X.1 X.2.1 dL_leave_4 rfl (lv_at hl 1 rfl) ?_
  refine lv_iload_n X.1 X.2.1 dL_leave_5 rfl (lv_at hl 2 rfl) ?_
  refine lv_iload_n X.1 X.2.1 dL_leave_6 rfl (lv_at hl 3 rfl) ?_
  refine callZ (As := [.int x1, .int x2, .int x3]) (rest := [.int 0, .ref ao]) X hM mw_6_24 mw_6_25 mw_6_26 mw_1_1 mw_6_27 dc_X11_leave ⟨Nat.succ_le_succ hrm.1, by have := hrm.2.1; show 8 + (5 + 11) + rm0.locals ≤ 5100; omega⟩ hrm.2.2.1 hrm.2.2.2 ⟨by rw [Nat.zero_add]; exact Nat.le_refl _, by rw [Nat.zero_add]; exact Nat.le_refl _⟩ hP hD hS he rfl rfl hl.1 (Nat.le_of_ble_eq_true rfl) dL_leave_7 (fun v w' H locs hn hP hD hS => ?_) (fun E q ce w' H locs hx hP hD hS y1 y2 y3 => ?_)
  · obtain ⟨r, w1, rfl, rfl, hI⟩ := hn
    refine W.eq (g2 := F0 m 10 ls [.int r, .int 0, .ref ao]) rfl ?_
    obtain rfl | rfl := hZ r w1 hI
    · refine lv_if_eq (tgt := 17) X.1 X.2.1 dL_leave_10 (by decide) (fun _ => ?_) (fun hc => absurd rfl hc)
      refine lv_lconst (v := 0) X.1 X.2.1 dL_leave_17 rfl ?_
      refine va_last X.1 X.2.1 X.2.2.2.2.2.2.1 hP hD hS w1.length 2 (o_at tc ao o w1) rfl (by unfold vp_in; decide) dL_leave_18 (fun H locs hP hD hS => ?_)
      rw [o_set] at hP hD
      refine lv_goto (tgt := 26) X.1 X.2.1 dL_leave_19 (by decide) ?_
      refine lv_iconst (v := 0) X.1 X.2.1 dL_leave_26 (by decide) ?_
      exact retZ_i X.1 X.2.1 hr hlk hQ ⟨0, _, w1, rfl, rfl, Or.inl ⟨rfl, 0, l_00, hI⟩⟩ hP hD hS (by rw [Nat.zero_add]; exact Nat.le_refl _) (by rw [Nat.zero_add]; exact Nat.le_refl _) dL_leave_27
    · refine lv_if_eq (tgt := 17) X.1 X.2.1 dL_leave_10 (by decide) (fun hc => absurd hc (by decide)) (fun _ => ?_)
      refine lv_lconst (v := 1) X.1 X.2.1 dL_leave_13 rfl ?_
      refine lv_goto (tgt := 18) X.1 X.2.1 dL_leave_14 (by decide) ?_
      refine va_last X.1 X.2.1 X.2.2.2.2.2.2.1 hP hD hS w1.length 2 (o_at tc ao o w1) rfl (by unfold vp_in; decide) dL_leave_18 (fun H locs hP hD hS => ?_)
      rw [o_set] at hP hD
      refine lv_goto (tgt := 26) X.1 X.2.1 dL_leave_19 (by decide) ?_
      refine lv_iconst (v := 0) X.1 X.2.1 dL_leave_26 (by decide) ?_
      exact retZ_i X.1 X.2.1 hr hlk hQ ⟨0, _, w1, rfl, rfl, Or.inl ⟨rfl, 1, l_10, hI⟩⟩ hP hD hS (by rw [Nat.zero_add]; exact Nat.le_refl _) (by rw [Nat.zero_add]; exact Nat.le_refl _) dL_leave_27
  · obtain ⟨k, w1, rfl, rfl, hE⟩ := hx
    obtain rfl := hPE k w1 hE
    · refine vx_catch (name := "java/lang/IndexOutOfBoundsException") (E := exn 0) X.2.2.2.1 [] ⟨0, 19, 22, 24⟩ [] hT (fun z hz => absurd hz List.not_mem_nil) (by decide) (by decide) (X.2.2.2.2.1 _ mw_4_204) (va_Nw.use (nw_tab (nwTab_ok _ (List.mem_of_getElem? (i := 13) rfl))) (X.2.2.2.2.2.2.2.2.2.2.2.2.1 _ (List.mem_of_getElem? (i := 13) rfl))) y1 y2 y3 ?_
      refine lv_astore (lv' := [(5, .ref q), (0, .ref b), (1, .int x1), (2, .int x2), (3, .int x3), (4, .ref ao)]) X.1 X.2.1 dL_leave_22 hl (by decide) rfl (fun ls hl => ?_)
      refine lv_iconst (v := 1) X.1 X.2.1 dL_leave_24 (by decide) ?_
      exact retZ_i X.1 X.2.1 hr hlk hQ ⟨1, o, w1, rfl, rfl, Or.inr ⟨0, rfl, hE⟩⟩ hP hD hS (by rw [Nat.zero_add]; exact Nat.le_refl _) (by rw [Nat.zero_add]; exact Nat.le_refl _) dL_leave_25

theorem mwc_learn : Cond.codeWith yL_learn cL_learn 4 (some .int) [(0, 9, 12, 24)] ∈ WG := wg_t (List.mem_append_right _ (List.mem_append_right _ (List.mem_append_right _ (List.mem_append_right _ (List.mem_append_right _ (List.mem_append_left _ (List.mem_of_getElem? (i := 35) rfl))))))) rfl
theorem dcl_learn : yL_learn.cls ≠ "java/lang/invoke/MethodHandle" ∧ yL_learn.cls ≠ "java/lang/invoke/VarHandle" ∧ (parseMethodDescriptor yL_learn.desc).map (fun d => d.parameters.length) = some 3 := by decide +kernel
set_option maxHeartbeats 1000000 in
theorem w_learn (l : Launch) (dC : Nat → ClassId) (dI : Nat → Nat → Nat) (sk sv : Nat → Nat) (tc : Nat → ClassId) (b ao : Nat) (o : Nat → Int64) (x1 : Int32) (w0 : va_W) {fs : List Value} {rm0 : Room} {mc ms : Nat} {PI : Int32 → va_W → Prop} {PE : Nat → va_W → Prop} (hrm : rm0.frames ≤ 100 ∧ rm0.locals ≤ 5000 ∧ rm0.cells = mc ∧ rm0.slots = ms) (he : (b, .inr (11, fs)) ∈ w0 ++ wO tc ao o) (hPE : ∀ k w1, PE k w1 → k = 0) (hM : CZ l (dC, dI) sk sv (TY tc) yX11_learn (.code yX11_learn cX11_learn 2 (some .int)) rm0 mc ms [.ref b, .int x1] (w0 ++ wO tc ao o) (PNc tc ao o PI) (PXc tc ao o PE)) : CZ l (dC, dI) sk sv (TY tc) yL_learn (.codeWith yL_learn cL_learn 4 (some .int) [(0, 9, 12, 24)]) (rmW mc ms) mc ms [.ref b, .int x1, .ref ao] (w0 ++ wO tc ao o) (PNW tc ao PI PE (fun _ => 1)) (fun _ _ => False) := by
  refine ofCZH (by decide) (Nat.le_of_ble_eq_true rfl) ?_
  intro pr e s m args below meth c A Q ls H locs X hr hlk hT hQ hD hP hS hl
  have hl : lv_has ls 4 [(0, .ref b), (1, .int x1), (2, .ref ao)] := hl
  refine lv_aload_n X.1 X.2.1 dL_learn_0 rfl (lv_at hl 2 rfl) ?_
  refine lv_iconst (v := 0) X.1 X.2.1 dL_learn_1 (by decide) ?_
  refine lv_aload_n X.1 X.2.1 dL_learn_2 rfl (lv_at hl 0 rfl) ?_
  refine lv_iload_n X.1 X.2.1 dL_learn_3 rfl (lv_at hl 1 rfl) ?_
  refine callZ (As := [.int x1]) (rest := [.int 0, .ref ao]) X hM mw_6_36 mw_6_37 mw_6_38 mw_1_1 mw_6_39 dc_X11_learn ⟨Nat.succ_le_succ hrm.1, by have := hrm.2.1; show 8 + (2 + 11) + rm0.locals ≤ 5100; omega⟩ hrm.2.2.1 hrm.2.2.2 ⟨by rw [Nat.zero_add]; exact Nat.le_refl _, by rw [Nat.zero_add]; exact Nat.le_refl _⟩ hP hD hS he rfl rfl hl.1 (Nat.le_of_ble_eq_true rfl) dL_learn_4 (fun v w' H locs hn hP hD hS => ?_) (fun E q ce w' H locs hx hP hD hS y1 y2 y3 => ?_)
  · obtain ⟨r, w1, rfl, rfl, hI⟩ := hn
    refine W.eq (g2 := F0 m 7 ls [.int r, .int 0, .ref ao]) rfl ?_
    refine lv_i2l X.1 X.2.1 dL_learn_7 rfl ?_
    refine va_last X.1 X.2.1 X.2.2.2.2.2.2.1 hP hD hS w1.length 2 (o_at tc ao o w1) rfl (by unfold vp_in; decide) dL_learn_8 (fun H locs hP hD hS => ?_)
    rw [o_set] at hP hD
    refine lv_goto (tgt := 15) X.1 X.2.1 dL_learn_9 (by decide) ?_
    refine lv_iconst (v := 0) X.1 X.2.1 dL_learn_15 (by decide) ?_
    exact retZ_i X.1 X.2.1 hr hlk hQ ⟨0, _, w1, rfl, rfl, Or.inl ⟨rfl, r, rfl, hI⟩⟩ hP hD hS (by rw [Nat.zero_add]; exact Nat.le_refl _) (by rw [Nat.zero_add]; exact Nat.le_refl _) dL_learn_16
  · obtain ⟨k, w1, rfl, rfl, hE⟩ := hx
    obtain rfl := hPE k w1 hE
    · refine vx_catch (name := "java/lang/IndexOutOfBoundsException") (E := exn 0) X.2.2.2.1 [] ⟨0, 9, 12, 24⟩ [] hT (fun z hz => absurd hz List.not_mem_nil) (by decide) (by decide) (X.2.2.2.2.1 _ mw_4_204) (va_Nw.use (nw_tab (nwTab_ok _ (List.mem_of_getElem? (i := 13) rfl))) (X.2.2.2.2.2.2.2.2.2.2.2.2.1 _ (List.mem_of_getElem? (i := 13) rfl))) y1 y2 y3 ?_
      refine lv_astore_n (lv' := [(3, .ref q), (0, .ref b), (1, .int x1), (2, .ref ao)]) X.1 X.2.1 dL_learn_12 rfl hl (by decide) rfl (fun ls hl => ?_)
      refine lv_iconst (v := 1) X.1 X.2.1 dL_learn_13 (by decide) ?_
      exact retZ_i X.1 X.2.1 hr hlk hQ ⟨1, o, w1, rfl, rfl, Or.inr ⟨0, rfl, hE⟩⟩ hP hD hS (by rw [Nat.zero_add]; exact Nat.le_refl _) (by rw [Nat.zero_add]; exact Nat.le_refl _) dL_learn_14

theorem mwc_rest : Cond.codeWith yL_rest cL_rest 4 (some .int) [(0, 9, 12, 24)] ∈ WG := wg_t (List.mem_append_right _ (List.mem_append_right _ (List.mem_append_right _ (List.mem_append_right _ (List.mem_append_right _ (List.mem_append_left _ (List.mem_of_getElem? (i := 43) rfl))))))) rfl
theorem dcl_rest : yL_rest.cls ≠ "java/lang/invoke/MethodHandle" ∧ yL_rest.cls ≠ "java/lang/invoke/VarHandle" ∧ (parseMethodDescriptor yL_rest.desc).map (fun d => d.parameters.length) = some 3 := by decide +kernel
set_option maxHeartbeats 1000000 in
theorem w_rest (l : Launch) (dC : Nat → ClassId) (dI : Nat → Nat → Nat) (sk sv : Nat → Nat) (tc : Nat → ClassId) (b ao : Nat) (o : Nat → Int64) (x1 : Int32) (w0 : va_W) {fs : List Value} {rm0 : Room} {mc ms : Nat} {PI : Int32 → va_W → Prop} {PE : Nat → va_W → Prop} (hrm : rm0.frames ≤ 100 ∧ rm0.locals ≤ 5000 ∧ rm0.cells = mc ∧ rm0.slots = ms) (he : (b, .inr (11, fs)) ∈ w0 ++ wO tc ao o) (hPE : ∀ k w1, PE k w1 → k = 0) (hM : CZ l (dC, dI) sk sv (TY tc) yX11_rest (.code yX11_rest cX11_rest 3 (some .int)) rm0 mc ms [.ref b, .int x1] (w0 ++ wO tc ao o) (PNc tc ao o PI) (PXc tc ao o PE)) : CZ l (dC, dI) sk sv (TY tc) yL_rest (.codeWith yL_rest cL_rest 4 (some .int) [(0, 9, 12, 24)]) (rmW mc ms) mc ms [.ref b, .int x1, .ref ao] (w0 ++ wO tc ao o) (PNW tc ao PI PE (fun _ => 1)) (fun _ _ => False) := by
  refine ofCZH (by decide) (Nat.le_of_ble_eq_true rfl) ?_
  intro pr e s m args below meth c A Q ls H locs X hr hlk hT hQ hD hP hS hl
  have hl : lv_has ls 4 [(0, .ref b), (1, .int x1), (2, .ref ao)] := hl
  refine lv_aload_n X.1 X.2.1 dL_rest_0 rfl (lv_at hl 2 rfl) ?_
  refine lv_iconst (v := 0) X.1 X.2.1 dL_rest_1 (by decide) ?_
  refine lv_aload_n X.1 X.2.1 dL_rest_2 rfl (lv_at hl 0 rfl) ?_
  refine lv_iload_n X.1 X.2.1 dL_rest_3 rfl (lv_at hl 1 rfl) ?_
  refine callZ (As := [.int x1]) (rest := [.int 0, .ref ao]) X hM mw_6_44 mw_6_45 mw_6_46 mw_1_1 mw_6_47 dc_X11_rest ⟨Nat.succ_le_succ hrm.1, by have := hrm.2.1; show 8 + (3 + 11) + rm0.locals ≤ 5100; omega⟩ hrm.2.2.1 hrm.2.2.2 ⟨by rw [Nat.zero_add]; exact Nat.le_refl _, by rw [Nat.zero_add]; exact Nat.le_refl _⟩ hP hD hS he rfl rfl hl.1 (Nat.le_of_ble_eq_true rfl) dL_rest_4 (fun v w' H locs hn hP hD hS => ?_) (fun E q ce w' H locs hx hP hD hS y1 y2 y3 => ?_)
  · obtain ⟨r, w1, rfl, rfl, hI⟩ := hn
    refine W.eq (g2 := F0 m 7 ls [.int r, .int 0, .ref ao]) rfl ?_
    refine lv_i2l X.1 X.2.1 dL_rest_7 rfl ?_
    refine va_last X.1 X.2.1 X.2.2.2.2.2.2.1 hP hD hS w1.length 2 (o_at tc ao o w1) rfl (by unfold vp_in; decide) dL_rest_8 (fun H locs hP hD hS => ?_)
    rw [o_set] at hP hD
    refine lv_goto (tgt := 15) X.1 X.2.1 dL_rest_9 (by decide) ?_
    refine lv_iconst (v := 0) X.1 X.2.1 dL_rest_15 (by decide) ?_
    exact retZ_i X.1 X.2.1 hr hlk hQ ⟨0, _, w1, rfl, rfl, Or.inl ⟨rfl, r, rfl, hI⟩⟩ hP hD hS (by rw [Nat.zero_add]; exact Nat.le_refl _) (by rw [Nat.zero_add]; exact Nat.le_refl _) dL_rest_16
  · obtain ⟨k, w1, rfl, rfl, hE⟩ := hx
    obtain rfl := hPE k w1 hE
    · refine vx_catch (name := "java/lang/IndexOutOfBoundsException") (E := exn 0) X.2.2.2.1 [] ⟨0, 9, 12, 24⟩ [] hT (fun z hz => absurd hz List.not_mem_nil) (by decide) (by decide) (X.2.2.2.2.1 _ mw_4_204) (va_Nw.use (nw_tab (nwTab_ok _ (List.mem_of_getElem? (i := 13) rfl))) (X.2.2.2.2.2.2.2.2.2.2.2.2.1 _ (List.mem_of_getElem? (i := 13) rfl))) y1 y2 y3 ?_
      refine lv_astore_n (lv' := [(3, .ref q), (0, .ref b), (1, .int x1), (2, .ref ao)]) X.1 X.2.1 dL_rest_12 rfl hl (by decide) rfl (fun ls hl => ?_)
      refine lv_iconst (v := 1) X.1 X.2.1 dL_rest_13 (by decide) ?_
      exact retZ_i X.1 X.2.1 hr hlk hQ ⟨1, o, w1, rfl, rfl, Or.inr ⟨0, rfl, hE⟩⟩ hP hD hS (by rw [Nat.zero_add]; exact Nat.le_refl _) (by rw [Nat.zero_add]; exact Nat.le_refl _) dL_rest_14

theorem mwc_often : Cond.codeWith yL_often cL_often 5 (some .int) [(0, 10, 13, 24), (0, 10, 17, 13)] ∈ WG := wg_t (List.mem_append_right _ (List.mem_append_right _ (List.mem_append_right _ (List.mem_append_right _ (List.mem_append_right _ (List.mem_append_left _ (List.mem_of_getElem? (i := 50) rfl))))))) rfl
theorem dcl_often : yL_often.cls ≠ "java/lang/invoke/MethodHandle" ∧ yL_often.cls ≠ "java/lang/invoke/VarHandle" ∧ (parseMethodDescriptor yL_often.desc).map (fun d => d.parameters.length) = some 4 := by decide +kernel
set_option maxHeartbeats 1000000 in
theorem w_often (l : Launch) (dC : Nat → ClassId) (dI : Nat → Nat → Nat) (sk sv : Nat → Nat) (tc : Nat → ClassId) (b ao : Nat) (o : Nat → Int64) (x1 : Int32) (x2 : Int32) (w0 : va_W) {fs : List Value} {rm0 : Room} {mc ms : Nat} {PI : Int32 → va_W → Prop} {PE : Nat → va_W → Prop} (hrm : rm0.frames ≤ 100 ∧ rm0.locals ≤ 5000 ∧ rm0.cells = mc ∧ rm0.slots = ms) (he : (b, .inr (11, fs)) ∈ w0 ++ wO tc ao o) (hPE : ∀ k w1, PE k w1 → k = 0 ∨ k = 1) (hM : CZ l (dC, dI) sk sv (TY tc) yX11_often (.code yX11_often cX11_often 4 (some .int)) rm0 mc ms [.ref b, .int x1, .int x2] (w0 ++ wO tc ao o) (PNc tc ao o PI) (PXc tc ao o PE)) : CZ l (dC, dI) sk sv (TY tc) yL_often (.codeWith yL_often cL_often 5 (some .int) [(0, 10, 13, 24), (0, 10, 17, 13)]) (rmW mc ms) mc ms [.ref b, .int x1, .int x2, .ref ao] (w0 ++ wO tc ao o) (PNW tc ao PI PE (fun k => if k = 0 then 1 else 2)) (fun _ _ => False) := by
  refine ofCZH (by decide) (Nat.le_of_ble_eq_true rfl) ?_
  intro pr e s m args below meth c A Q ls H locs X hr hlk hT hQ hD hP hS hl
  have hl : lv_has ls 5 [(0, .ref b), (1, .int x1), (2, .int x2), (3, .ref ao)] := hl
  refine lv_aload_n X.1 X.2.1 dL_often_0 rfl (lv_at hl 3 rfl) ?_
  refine lv_iconst (v := 0) X.1 X.2.1 dL_often_1 (by decide) ?_
  refine lv_aload_n X.1 X.2.1 dL_often_2 rfl (lv_at hl 0 rfl) ?_
  refine lv_iload_n X.1 X.2.1 dL_often_3 rfl (lv_at hl 1 rfl) ?_
  refine lv_iload_n X.1 X.2.1 dL_often_4 rfl (lv_at hl 2 rfl) ?_
  refine callZ (As := [.int x1, .int x2]) (rest := [.int 0, .ref ao]) X hM mw_6_51 mw_6_52 mw_6_53 mw_1_1 mw_6_54 dc_X11_often ⟨Nat.succ_le_succ hrm.1, by have := hrm.2.1; show 8 + (4 + 11) + rm0.locals ≤ 5100; omega⟩ hrm.2.2.1 hrm.2.2.2 ⟨by rw [Nat.zero_add]; exact Nat.le_refl _, by rw [Nat.zero_add]; exact Nat.le_refl _⟩ hP hD hS he rfl rfl hl.1 (Nat.le_of_ble_eq_true rfl) dL_often_5 (fun v w' H locs hn hP hD hS => ?_) (fun E q ce w' H locs hx hP hD hS y1 y2 y3 => ?_)
  · obtain ⟨r, w1, rfl, rfl, hI⟩ := hn
    refine W.eq (g2 := F0 m 8 ls [.int r, .int 0, .ref ao]) rfl ?_
    refine lv_i2l X.1 X.2.1 dL_often_8 rfl ?_
    refine va_last X.1 X.2.1 X.2.2.2.2.2.2.1 hP hD hS w1.length 2 (o_at tc ao o w1) rfl (by unfold vp_in; decide) dL_often_9 (fun H locs hP hD hS => ?_)
    rw [o_set] at hP hD
    refine lv_goto (tgt := 21) X.1 X.2.1 dL_often_10 (by decide) ?_
    refine lv_iconst (v := 0) X.1 X.2.1 dL_often_21 (by decide) ?_
    exact retZ_i X.1 X.2.1 hr hlk hQ ⟨0, _, w1, rfl, rfl, Or.inl ⟨rfl, r, rfl, hI⟩⟩ hP hD hS (by rw [Nat.zero_add]; exact Nat.le_refl _) (by rw [Nat.zero_add]; exact Nat.le_refl _) dL_often_22
  · obtain ⟨k, w1, rfl, rfl, hE⟩ := hx
    obtain rfl | rfl := hPE k w1 hE
    · refine vx_catch (name := "java/lang/IndexOutOfBoundsException") (E := exn 0) X.2.2.2.1 [] ⟨0, 10, 13, 24⟩ [⟨0, 10, 17, 13⟩] hT (fun z hz => absurd hz List.not_mem_nil) (by decide) (by decide) (X.2.2.2.2.1 _ mw_4_204) (va_Nw.use (nw_tab (nwTab_ok _ (List.mem_of_getElem? (i := 13) rfl))) (X.2.2.2.2.2.2.2.2.2.2.2.2.1 _ (List.mem_of_getElem? (i := 13) rfl))) y1 y2 y3 ?_
      refine lv_astore (lv' := [(4, .ref q), (0, .ref b), (1, .int x1), (2, .int x2), (3, .ref ao)]) X.1 X.2.1 dL_often_13 hl (by decide) rfl (fun ls hl => ?_)
      refine lv_iconst (v := 1) X.1 X.2.1 dL_often_15 (by decide) ?_
      exact retZ_i X.1 X.2.1 hr hlk hQ ⟨1, o, w1, rfl, rfl, Or.inr ⟨0, rfl, hE⟩⟩ hP hD hS (by rw [Nat.zero_add]; exact Nat.le_refl _) (by rw [Nat.zero_add]; exact Nat.le_refl _) dL_often_16
    · refine vx_catch (name := "java/lang/IllegalArgumentException") (E := exn 1) X.2.2.2.1 [⟨0, 10, 13, 24⟩] ⟨0, 10, 17, 13⟩ [] hT (fun z hz => by rw [List.mem_singleton.mp hz]; exact Or.inr ⟨by decide, "java/lang/IndexOutOfBoundsException", X.2.2.2.2.1 _ mw_4_204, X.2.2.2.2.2.2.2.2.2.2.2.2.2.1 _ (List.mem_of_getElem? (i := 8) rfl)⟩) (by decide) (by decide) (X.2.2.2.2.1 _ mw_3_114) (va_Nw.use (nw_tab (nwTab_ok _ (List.mem_of_getElem? (i := 4) rfl))) (X.2.2.2.2.2.2.2.2.2.2.2.2.1 _ (List.mem_of_getElem? (i := 4) rfl))) y1 y2 y3 ?_
      refine lv_astore (lv' := [(4, .ref q), (0, .ref b), (1, .int x1), (2, .int x2), (3, .ref ao)]) X.1 X.2.1 dL_often_17 hl (by decide) rfl (fun ls hl => ?_)
      refine lv_iconst (v := 2) X.1 X.2.1 dL_often_19 (by decide) ?_
      exact retZ_i X.1 X.2.1 hr hlk hQ ⟨2, o, w1, rfl, rfl, Or.inr ⟨1, rfl, hE⟩⟩ hP hD hS (by rw [Nat.zero_add]; exact Nat.le_refl _) (by rw [Nat.zero_add]; exact Nat.le_refl _) dL_often_20

theorem mwc_tempo : Cond.codeWith yL_tempo cL_tempo 4 (some .int) [(0, 9, 12, 13)] ∈ WG := wg_t (List.mem_append_right _ (List.mem_append_right _ (List.mem_append_right _ (List.mem_append_right _ (List.mem_append_right _ (List.mem_append_left _ (List.mem_of_getElem? (i := 57) rfl))))))) rfl
theorem dcl_tempo : yL_tempo.cls ≠ "java/lang/invoke/MethodHandle" ∧ yL_tempo.cls ≠ "java/lang/invoke/VarHandle" ∧ (parseMethodDescriptor yL_tempo.desc).map (fun d => d.parameters.length) = some 3 := by decide +kernel
set_option maxHeartbeats 1000000 in
theorem w_tempo (l : Launch) (dC : Nat → ClassId) (dI : Nat → Nat → Nat) (sk sv : Nat → Nat) (tc : Nat → ClassId) (b ao : Nat) (o : Nat → Int64) (x1 : Int32) (w0 : va_W) {fs : List Value} {rm0 : Room} {mc ms : Nat} {PI : Int32 → va_W → Prop} {PE : Nat → va_W → Prop} (hrm : rm0.frames ≤ 100 ∧ rm0.locals ≤ 5000 ∧ rm0.cells = mc ∧ rm0.slots = ms) (he : (b, .inr (11, fs)) ∈ w0 ++ wO tc ao o) (hPE : ∀ k w1, PE k w1 → k = 1) (hM : CZ l (dC, dI) sk sv (TY tc) yX11_tempo (.code yX11_tempo cX11_tempo 3 (some .int)) rm0 mc ms [.ref b, .int x1] (w0 ++ wO tc ao o) (PNc tc ao o PI) (PXc tc ao o PE)) : CZ l (dC, dI) sk sv (TY tc) yL_tempo (.codeWith yL_tempo cL_tempo 4 (some .int) [(0, 9, 12, 13)]) (rmW mc ms) mc ms [.ref b, .int x1, .ref ao] (w0 ++ wO tc ao o) (PNW tc ao PI PE (fun _ => 1)) (fun _ _ => False) := by
  refine ofCZH (by decide) (Nat.le_of_ble_eq_true rfl) ?_
  intro pr e s m args below meth c A Q ls H locs X hr hlk hT hQ hD hP hS hl
  have hl : lv_has ls 4 [(0, .ref b), (1, .int x1), (2, .ref ao)] := hl
  refine lv_aload_n X.1 X.2.1 dL_tempo_0 rfl (lv_at hl 2 rfl) ?_
  refine lv_iconst (v := 0) X.1 X.2.1 dL_tempo_1 (by decide) ?_
  refine lv_aload_n X.1 X.2.1 dL_tempo_2 rfl (lv_at hl 0 rfl) ?_
  refine lv_iload_n X.1 X.2.1 dL_tempo_3 rfl (lv_at hl 1 rfl) ?_
  refine callZ (As := [.int x1]) (rest := [.int 0, .ref ao]) X hM mw_6_58 mw_6_59 mw_6_60 mw_1_1 mw_6_61 dc_X11_tempo ⟨Nat.succ_le_succ hrm.1, by have := hrm.2.1; show 8 + (3 + 11) + rm0.locals ≤ 5100; omega⟩ hrm.2.2.1 hrm.2.2.2 ⟨by rw [Nat.zero_add]; exact Nat.le_refl _, by rw [Nat.zero_add]; exact Nat.le_refl _⟩ hP hD hS he rfl rfl hl.1 (Nat.le_of_ble_eq_true rfl) dL_tempo_4 (fun v w' H locs hn hP hD hS => ?_) (fun E q ce w' H locs hx hP hD hS y1 y2 y3 => ?_)
  · obtain ⟨r, w1, rfl, rfl, hI⟩ := hn
    refine W.eq (g2 := F0 m 7 ls [.int r, .int 0, .ref ao]) rfl ?_
    refine lv_i2l X.1 X.2.1 dL_tempo_7 rfl ?_
    refine va_last X.1 X.2.1 X.2.2.2.2.2.2.1 hP hD hS w1.length 2 (o_at tc ao o w1) rfl (by unfold vp_in; decide) dL_tempo_8 (fun H locs hP hD hS => ?_)
    rw [o_set] at hP hD
    refine lv_goto (tgt := 15) X.1 X.2.1 dL_tempo_9 (by decide) ?_
    refine lv_iconst (v := 0) X.1 X.2.1 dL_tempo_15 (by decide) ?_
    exact retZ_i X.1 X.2.1 hr hlk hQ ⟨0, _, w1, rfl, rfl, Or.inl ⟨rfl, r, rfl, hI⟩⟩ hP hD hS (by rw [Nat.zero_add]; exact Nat.le_refl _) (by rw [Nat.zero_add]; exact Nat.le_refl _) dL_tempo_16
  · obtain ⟨k, w1, rfl, rfl, hE⟩ := hx
    obtain rfl := hPE k w1 hE
    · refine vx_catch (name := "java/lang/IllegalArgumentException") (E := exn 1) X.2.2.2.1 [] ⟨0, 9, 12, 13⟩ [] hT (fun z hz => absurd hz List.not_mem_nil) (by decide) (by decide) (X.2.2.2.2.1 _ mw_3_114) (va_Nw.use (nw_tab (nwTab_ok _ (List.mem_of_getElem? (i := 4) rfl))) (X.2.2.2.2.2.2.2.2.2.2.2.2.1 _ (List.mem_of_getElem? (i := 4) rfl))) y1 y2 y3 ?_
      refine lv_astore_n (lv' := [(3, .ref q), (0, .ref b), (1, .int x1), (2, .ref ao)]) X.1 X.2.1 dL_tempo_12 rfl hl (by decide) rfl (fun ls hl => ?_)
      refine lv_iconst (v := 1) X.1 X.2.1 dL_tempo_13 (by decide) ?_
      exact retZ_i X.1 X.2.1 hr hlk hQ ⟨1, o, w1, rfl, rfl, Or.inr ⟨1, rfl, hE⟩⟩ hP hD hS (by rw [Nat.zero_add]; exact Nat.le_refl _) (by rw [Nat.zero_add]; exact Nat.le_refl _) dL_tempo_14

theorem mwc_speed : Cond.codeWith yL_speed cL_speed 5 (some .int) [(0, 10, 13, 24), (0, 10, 17, 13)] ∈ WG := wg_t (List.mem_append_right _ (List.mem_append_right _ (List.mem_append_right _ (List.mem_append_right _ (List.mem_append_right _ (List.mem_append_left _ (List.mem_of_getElem? (i := 64) rfl))))))) rfl
theorem dcl_speed : yL_speed.cls ≠ "java/lang/invoke/MethodHandle" ∧ yL_speed.cls ≠ "java/lang/invoke/VarHandle" ∧ (parseMethodDescriptor yL_speed.desc).map (fun d => d.parameters.length) = some 4 := by decide +kernel
set_option maxHeartbeats 1000000 in
theorem w_speed (l : Launch) (dC : Nat → ClassId) (dI : Nat → Nat → Nat) (sk sv : Nat → Nat) (tc : Nat → ClassId) (b ao : Nat) (o : Nat → Int64) (x1 : Int32) (x2 : Int32) (w0 : va_W) {fs : List Value} {rm0 : Room} {mc ms : Nat} {PI : Int32 → va_W → Prop} {PE : Nat → va_W → Prop} (hrm : rm0.frames ≤ 100 ∧ rm0.locals ≤ 5000 ∧ rm0.cells = mc ∧ rm0.slots = ms) (he : (b, .inr (11, fs)) ∈ w0 ++ wO tc ao o) (hPE : ∀ k w1, PE k w1 → k = 0 ∨ k = 1) (hM : CZ l (dC, dI) sk sv (TY tc) yX11_speed (.code yX11_speed cX11_speed 4 (some .int)) rm0 mc ms [.ref b, .int x1, .int x2] (w0 ++ wO tc ao o) (PNc tc ao o PI) (PXc tc ao o PE)) : CZ l (dC, dI) sk sv (TY tc) yL_speed (.codeWith yL_speed cL_speed 5 (some .int) [(0, 10, 13, 24), (0, 10, 17, 13)]) (rmW mc ms) mc ms [.ref b, .int x1, .int x2, .ref ao] (w0 ++ wO tc ao o) (PNW tc ao PI PE (fun k => if k = 0 then 1 else 2)) (fun _ _ => False) := by
  refine ofCZH (by decide) (Nat.le_of_ble_eq_true rfl) ?_
  intro pr e s m args below meth c A Q ls H locs X hr hlk hT hQ hD hP hS hl
  have hl : lv_has ls 5 [(0, .ref b), (1, .int x1), (2, .int x2), (3, .ref ao)] := hl
  refine lv_aload_n X.1 X.2.1 dL_speed_0 rfl (lv_at hl 3 rfl) ?_
  refine lv_iconst (v := 0) X.1 X.2.1 dL_speed_1 (by decide) ?_
  refine lv_aload_n X.1 X.2.1 dL_speed_2 rfl (lv_at hl 0 rfl) ?_
  refine lv_iload_n X.1 X.2.1 dL_speed_3 rfl (lv_at hl 1 rfl) ?_
  refine lv_iload_n X.1 X.2.1 dL_speed_4 rfl (lv_at hl 2 rfl) ?_
  refine callZ (As := [.int x1, .int x2]) (rest := [.int 0, .ref ao]) X hM mw_6_65 mw_6_66 mw_6_67 mw_1_1 mw_6_68 dc_X11_speed ⟨Nat.succ_le_succ hrm.1, by have := hrm.2.1; show 8 + (4 + 11) + rm0.locals ≤ 5100; omega⟩ hrm.2.2.1 hrm.2.2.2 ⟨by rw [Nat.zero_add]; exact Nat.le_refl _, by rw [Nat.zero_add]; exact Nat.le_refl _⟩ hP hD hS he rfl rfl hl.1 (Nat.le_of_ble_eq_true rfl) dL_speed_5 (fun v w' H locs hn hP hD hS => ?_) (fun E q ce w' H locs hx hP hD hS y1 y2 y3 => ?_)
  · obtain ⟨r, w1, rfl, rfl, hI⟩ := hn
    refine W.eq (g2 := F0 m 8 ls [.int r, .int 0, .ref ao]) rfl ?_
    refine lv_i2l X.1 X.2.1 dL_speed_8 rfl ?_
    refine va_last X.1 X.2.1 X.2.2.2.2.2.2.1 hP hD hS w1.length 2 (o_at tc ao o w1) rfl (by unfold vp_in; decide) dL_speed_9 (fun H locs hP hD hS => ?_)
    rw [o_set] at hP hD
    refine lv_goto (tgt := 21) X.1 X.2.1 dL_speed_10 (by decide) ?_
    refine lv_iconst (v := 0) X.1 X.2.1 dL_speed_21 (by decide) ?_
    exact retZ_i X.1 X.2.1 hr hlk hQ ⟨0, _, w1, rfl, rfl, Or.inl ⟨rfl, r, rfl, hI⟩⟩ hP hD hS (by rw [Nat.zero_add]; exact Nat.le_refl _) (by rw [Nat.zero_add]; exact Nat.le_refl _) dL_speed_22
  · obtain ⟨k, w1, rfl, rfl, hE⟩ := hx
    obtain rfl | rfl := hPE k w1 hE
    · refine vx_catch (name := "java/lang/IndexOutOfBoundsException") (E := exn 0) X.2.2.2.1 [] ⟨0, 10, 13, 24⟩ [⟨0, 10, 17, 13⟩] hT (fun z hz => absurd hz List.not_mem_nil) (by decide) (by decide) (X.2.2.2.2.1 _ mw_4_204) (va_Nw.use (nw_tab (nwTab_ok _ (List.mem_of_getElem? (i := 13) rfl))) (X.2.2.2.2.2.2.2.2.2.2.2.2.1 _ (List.mem_of_getElem? (i := 13) rfl))) y1 y2 y3 ?_
      refine lv_astore (lv' := [(4, .ref q), (0, .ref b), (1, .int x1), (2, .int x2), (3, .ref ao)]) X.1 X.2.1 dL_speed_13 hl (by decide) rfl (fun ls hl => ?_)
      refine lv_iconst (v := 1) X.1 X.2.1 dL_speed_15 (by decide) ?_
      exact retZ_i X.1 X.2.1 hr hlk hQ ⟨1, o, w1, rfl, rfl, Or.inr ⟨0, rfl, hE⟩⟩ hP hD hS (by rw [Nat.zero_add]; exact Nat.le_refl _) (by rw [Nat.zero_add]; exact Nat.le_refl _) dL_speed_16
    · refine vx_catch (name := "java/lang/IllegalArgumentException") (E := exn 1) X.2.2.2.1 [⟨0, 10, 13, 24⟩] ⟨0, 10, 17, 13⟩ [] hT (fun z hz => by rw [List.mem_singleton.mp hz]; exact Or.inr ⟨by decide, "java/lang/IndexOutOfBoundsException", X.2.2.2.2.1 _ mw_4_204, X.2.2.2.2.2.2.2.2.2.2.2.2.2.1 _ (List.mem_of_getElem? (i := 8) rfl)⟩) (by decide) (by decide) (X.2.2.2.2.1 _ mw_3_114) (va_Nw.use (nw_tab (nwTab_ok _ (List.mem_of_getElem? (i := 4) rfl))) (X.2.2.2.2.2.2.2.2.2.2.2.2.1 _ (List.mem_of_getElem? (i := 4) rfl))) y1 y2 y3 ?_
      refine lv_astore (lv' := [(4, .ref q), (0, .ref b), (1, .int x1), (2, .int x2), (3, .ref ao)]) X.1 X.2.1 dL_speed_17 hl (by decide) rfl (fun ls hl => ?_)
      refine lv_iconst (v := 2) X.1 X.2.1 dL_speed_19 (by decide) ?_
      exact retZ_i X.1 X.2.1 hr hlk hQ ⟨2, o, w1, rfl, rfl, Or.inr ⟨1, rfl, hE⟩⟩ hP hD hS (by rw [Nat.zero_add]; exact Nat.le_refl _) (by rw [Nat.zero_add]; exact Nat.le_refl _) dL_speed_20

theorem mwc_leaves : Cond.codeWith yL_leaves cL_leaves 5 (some .int) [(0, 10, 13, 13)] ∈ WG := wg_t (List.mem_append_right _ (List.mem_append_right _ (List.mem_append_right _ (List.mem_append_right _ (List.mem_append_right _ (List.mem_append_left _ (List.mem_of_getElem? (i := 71) rfl))))))) rfl
theorem dcl_leaves : yL_leaves.cls ≠ "java/lang/invoke/MethodHandle" ∧ yL_leaves.cls ≠ "java/lang/invoke/VarHandle" ∧ (parseMethodDescriptor yL_leaves.desc).map (fun d => d.parameters.length) = some 4 := by decide +kernel
set_option maxHeartbeats 1000000 in
theorem w_leaves (l : Launch) (dC : Nat → ClassId) (dI : Nat → Nat → Nat) (sk sv : Nat → Nat) (tc : Nat → ClassId) (b ao : Nat) (o : Nat → Int64) (x1 : Int32) (x2 : Int32) (w0 : va_W) {fs : List Value} {rm0 : Room} {mc ms : Nat} {PI : Int32 → va_W → Prop} {PE : Nat → va_W → Prop} (hrm : rm0.frames ≤ 100 ∧ rm0.locals ≤ 5000 ∧ rm0.cells = mc ∧ rm0.slots = ms) (he : (b, .inr (11, fs)) ∈ w0 ++ wO tc ao o) (hPE : ∀ k w1, PE k w1 → k = 1) (hM : CZ l (dC, dI) sk sv (TY tc) yX11_leaves (.code yX11_leaves cX11_leaves 6 (some .int)) rm0 mc ms [.ref b, .int x1, .int x2] (w0 ++ wO tc ao o) (PNc tc ao o PI) (PXc tc ao o PE)) : CZ l (dC, dI) sk sv (TY tc) yL_leaves (.codeWith yL_leaves cL_leaves 5 (some .int) [(0, 10, 13, 13)]) (rmW mc ms) mc ms [.ref b, .int x1, .int x2, .ref ao] (w0 ++ wO tc ao o) (PNW tc ao PI PE (fun _ => 1)) (fun _ _ => False) := by
  refine ofCZH (by decide) (Nat.le_of_ble_eq_true rfl) ?_
  intro pr e s m args below meth c A Q ls H locs X hr hlk hT hQ hD hP hS hl
  have hl : lv_has ls 5 [(0, .ref b), (1, .int x1), (2, .int x2), (3, .ref ao)] := hl
  refine lv_aload_n X.1 X.2.1 dL_leaves_0 rfl (lv_at hl 3 rfl) ?_
  refine lv_iconst (v := 0) X.1 X.2.1 dL_leaves_1 (by decide) ?_
  refine lv_aload_n X.1 X.2.1 dL_leaves_2 rfl (lv_at hl 0 rfl) ?_
  refine lv_iload_n X.1 X.2.1 dL_leaves_3 rfl (lv_at hl 1 rfl) ?_
  refine lv_iload_n X.1 X.2.1 dL_leaves_4 rfl (lv_at hl 2 rfl) ?_
  refine callZ (As := [.int x1, .int x2]) (rest := [.int 0, .ref ao]) X hM mw_6_72 mw_6_73 mw_6_74 mw_1_1 mw_6_75 dc_X11_leaves ⟨Nat.succ_le_succ hrm.1, by have := hrm.2.1; show 8 + (6 + 11) + rm0.locals ≤ 5100; omega⟩ hrm.2.2.1 hrm.2.2.2 ⟨by rw [Nat.zero_add]; exact Nat.le_refl _, by rw [Nat.zero_add]; exact Nat.le_refl _⟩ hP hD hS he rfl rfl hl.1 (Nat.le_of_ble_eq_true rfl) dL_leaves_5 (fun v w' H locs hn hP hD hS => ?_) (fun E q ce w' H locs hx hP hD hS y1 y2 y3 => ?_)
  · obtain ⟨r, w1, rfl, rfl, hI⟩ := hn
    refine W.eq (g2 := F0 m 8 ls [.int r, .int 0, .ref ao]) rfl ?_
    refine lv_i2l X.1 X.2.1 dL_leaves_8 rfl ?_
    refine va_last X.1 X.2.1 X.2.2.2.2.2.2.1 hP hD hS w1.length 2 (o_at tc ao o w1) rfl (by unfold vp_in; decide) dL_leaves_9 (fun H locs hP hD hS => ?_)
    rw [o_set] at hP hD
    refine lv_goto (tgt := 17) X.1 X.2.1 dL_leaves_10 (by decide) ?_
    refine lv_iconst (v := 0) X.1 X.2.1 dL_leaves_17 (by decide) ?_
    exact retZ_i X.1 X.2.1 hr hlk hQ ⟨0, _, w1, rfl, rfl, Or.inl ⟨rfl, r, rfl, hI⟩⟩ hP hD hS (by rw [Nat.zero_add]; exact Nat.le_refl _) (by rw [Nat.zero_add]; exact Nat.le_refl _) dL_leaves_18
  · obtain ⟨k, w1, rfl, rfl, hE⟩ := hx
    obtain rfl := hPE k w1 hE
    · refine vx_catch (name := "java/lang/IllegalArgumentException") (E := exn 1) X.2.2.2.1 [] ⟨0, 10, 13, 13⟩ [] hT (fun z hz => absurd hz List.not_mem_nil) (by decide) (by decide) (X.2.2.2.2.1 _ mw_3_114) (va_Nw.use (nw_tab (nwTab_ok _ (List.mem_of_getElem? (i := 4) rfl))) (X.2.2.2.2.2.2.2.2.2.2.2.2.1 _ (List.mem_of_getElem? (i := 4) rfl))) y1 y2 y3 ?_
      refine lv_astore (lv' := [(4, .ref q), (0, .ref b), (1, .int x1), (2, .int x2), (3, .ref ao)]) X.1 X.2.1 dL_leaves_13 hl (by decide) rfl (fun ls hl => ?_)
      refine lv_iconst (v := 1) X.1 X.2.1 dL_leaves_15 (by decide) ?_
      exact retZ_i X.1 X.2.1 hr hlk hQ ⟨1, o, w1, rfl, rfl, Or.inr ⟨1, rfl, hE⟩⟩ hP hD hS (by rw [Nat.zero_add]; exact Nat.le_refl _) (by rw [Nat.zero_add]; exact Nat.le_refl _) dL_leaves_16

theorem mwc_heard : Cond.codeWith yL_heard cL_heard 3 (some .int) [(0, 8, 11, 13)] ∈ WG := wg_t (List.mem_append_right _ (List.mem_append_right _ (List.mem_append_right _ (List.mem_append_right _ (List.mem_append_right _ (List.mem_append_left _ (List.mem_of_getElem? (i := 78) rfl))))))) rfl
theorem dcl_heard : yL_heard.cls ≠ "java/lang/invoke/MethodHandle" ∧ yL_heard.cls ≠ "java/lang/invoke/VarHandle" ∧ (parseMethodDescriptor yL_heard.desc).map (fun d => d.parameters.length) = some 2 := by decide +kernel
set_option maxHeartbeats 1000000 in
theorem w_heard (l : Launch) (dC : Nat → ClassId) (dI : Nat → Nat → Nat) (sk sv : Nat → Nat) (tc : Nat → ClassId) (b ao : Nat) (o : Nat → Int64) (w0 : va_W) {fs : List Value} {rm0 : Room} {mc ms : Nat} {PI : Int32 → va_W → Prop} {PE : Nat → va_W → Prop} (hrm : rm0.frames ≤ 100 ∧ rm0.locals ≤ 5000 ∧ rm0.cells = mc ∧ rm0.slots = ms) (he : (b, .inr (11, fs)) ∈ w0 ++ wO tc ao o) (hPE : ∀ k w1, PE k w1 → k = 1) (hM : CZ l (dC, dI) sk sv (TY tc) yX11_heard (.code yX11_heard cX11_heard 1 (some .int)) rm0 mc ms [.ref b] (w0 ++ wO tc ao o) (PNc tc ao o PI) (PXc tc ao o PE)) : CZ l (dC, dI) sk sv (TY tc) yL_heard (.codeWith yL_heard cL_heard 3 (some .int) [(0, 8, 11, 13)]) (rmW mc ms) mc ms [.ref b, .ref ao] (w0 ++ wO tc ao o) (PNW tc ao PI PE (fun _ => 1)) (fun _ _ => False) := by
  refine ofCZH (by decide) (Nat.le_of_ble_eq_true rfl) ?_
  intro pr e s m args below meth c A Q ls H locs X hr hlk hT hQ hD hP hS hl
  have hl : lv_has ls 3 [(0, .ref b), (1, .ref ao)] := hl
  refine lv_aload_n X.1 X.2.1 dL_heard_0 rfl (lv_at hl 1 rfl) ?_
  refine lv_iconst (v := 0) X.1 X.2.1 dL_heard_1 (by decide) ?_
  refine lv_aload_n X.1 X.2.1 dL_heard_2 rfl (lv_at hl 0 rfl) ?_
  refine callZ (As := []) (rest := [.int 0, .ref ao]) X hM mw_6_79 mw_6_80 mw_6_81 mw_1_1 mw_6_82 dc_X11_heard ⟨Nat.succ_le_succ hrm.1, by have := hrm.2.1; show 8 + (1 + 11) + rm0.locals ≤ 5100; omega⟩ hrm.2.2.1 hrm.2.2.2 ⟨by rw [Nat.zero_add]; exact Nat.le_refl _, by rw [Nat.zero_add]; exact Nat.le_refl _⟩ hP hD hS he rfl rfl hl.1 (Nat.le_of_ble_eq_true rfl) dL_heard_3 (fun v w' H locs hn hP hD hS => ?_) (fun E q ce w' H locs hx hP hD hS y1 y2 y3 => ?_)
  · obtain ⟨r, w1, rfl, rfl, hI⟩ := hn
    refine W.eq (g2 := F0 m 6 ls [.int r, .int 0, .ref ao]) rfl ?_
    refine lv_i2l X.1 X.2.1 dL_heard_6 rfl ?_
    refine va_last X.1 X.2.1 X.2.2.2.2.2.2.1 hP hD hS w1.length 2 (o_at tc ao o w1) rfl (by unfold vp_in; decide) dL_heard_7 (fun H locs hP hD hS => ?_)
    rw [o_set] at hP hD
    refine lv_goto (tgt := 14) X.1 X.2.1 dL_heard_8 (by decide) ?_
    refine lv_iconst (v := 0) X.1 X.2.1 dL_heard_14 (by decide) ?_
    exact retZ_i X.1 X.2.1 hr hlk hQ ⟨0, _, w1, rfl, rfl, Or.inl ⟨rfl, r, rfl, hI⟩⟩ hP hD hS (by rw [Nat.zero_add]; exact Nat.le_refl _) (by rw [Nat.zero_add]; exact Nat.le_refl _) dL_heard_15
  · obtain ⟨k, w1, rfl, rfl, hE⟩ := hx
    obtain rfl := hPE k w1 hE
    · refine vx_catch (name := "java/lang/IllegalArgumentException") (E := exn 1) X.2.2.2.1 [] ⟨0, 8, 11, 13⟩ [] hT (fun z hz => absurd hz List.not_mem_nil) (by decide) (by decide) (X.2.2.2.2.1 _ mw_3_114) (va_Nw.use (nw_tab (nwTab_ok _ (List.mem_of_getElem? (i := 4) rfl))) (X.2.2.2.2.2.2.2.2.2.2.2.2.1 _ (List.mem_of_getElem? (i := 4) rfl))) y1 y2 y3 ?_
      refine lv_astore_n (lv' := [(2, .ref q), (0, .ref b), (1, .ref ao)]) X.1 X.2.1 dL_heard_11 rfl hl (by decide) rfl (fun ls hl => ?_)
      refine lv_iconst (v := 1) X.1 X.2.1 dL_heard_12 (by decide) ?_
      exact retZ_i X.1 X.2.1 hr hlk hQ ⟨1, o, w1, rfl, rfl, Or.inr ⟨1, rfl, hE⟩⟩ hP hD hS (by rw [Nat.zero_add]; exact Nat.le_refl _) (by rw [Nat.zero_add]; exact Nat.le_refl _) dL_heard_13

theorem mwc_likely : Cond.codeWith yL_likely cL_likely 3 (some .int) [(0, 8, 11, 13)] ∈ WG := wg_t (List.mem_append_right _ (List.mem_append_right _ (List.mem_append_right _ (List.mem_append_right _ (List.mem_append_right _ (List.mem_append_left _ (List.mem_of_getElem? (i := 115) rfl))))))) rfl
theorem dcl_likely : yL_likely.cls ≠ "java/lang/invoke/MethodHandle" ∧ yL_likely.cls ≠ "java/lang/invoke/VarHandle" ∧ (parseMethodDescriptor yL_likely.desc).map (fun d => d.parameters.length) = some 2 := by decide +kernel
set_option maxHeartbeats 1000000 in
theorem w_likely (l : Launch) (dC : Nat → ClassId) (dI : Nat → Nat → Nat) (sk sv : Nat → Nat) (tc : Nat → ClassId) (b ao : Nat) (o : Nat → Int64) (w0 : va_W) {fs : List Value} {rm0 : Room} {mc ms : Nat} {PI : Int32 → va_W → Prop} {PE : Nat → va_W → Prop} (hrm : rm0.frames ≤ 100 ∧ rm0.locals ≤ 5000 ∧ rm0.cells = mc ∧ rm0.slots = ms) (he : (b, .inr (11, fs)) ∈ w0 ++ wO tc ao o) (hPE : ∀ k w1, PE k w1 → k = 1) (hM : CZ l (dC, dI) sk sv (TY tc) yX11_likely (.code yX11_likely cX11_likely 1 (some .int)) rm0 mc ms [.ref b] (w0 ++ wO tc ao o) (PNc tc ao o PI) (PXc tc ao o PE)) : CZ l (dC, dI) sk sv (TY tc) yL_likely (.codeWith yL_likely cL_likely 3 (some .int) [(0, 8, 11, 13)]) (rmW mc ms) mc ms [.ref b, .ref ao] (w0 ++ wO tc ao o) (PNW tc ao PI PE (fun _ => 1)) (fun _ _ => False) := by
  refine ofCZH (by decide) (Nat.le_of_ble_eq_true rfl) ?_
  intro pr e s m args below meth c A Q ls H locs X hr hlk hT hQ hD hP hS hl
  have hl : lv_has ls 3 [(0, .ref b), (1, .ref ao)] := hl
  refine lv_aload_n X.1 X.2.1 dL_likely_0 rfl (lv_at hl 1 rfl) ?_
  refine lv_iconst (v := 0) X.1 X.2.1 dL_likely_1 (by decide) ?_
  refine lv_aload_n X.1 X.2.1 dL_likely_2 rfl (lv_at hl 0 rfl) ?_
  refine callZ (As := []) (rest := [.int 0, .ref ao]) X hM mw_6_116 mw_6_117 mw_6_118 mw_1_1 mw_6_119 dc_X11_likely ⟨Nat.succ_le_succ hrm.1, by have := hrm.2.1; show 8 + (1 + 11) + rm0.locals ≤ 5100; omega⟩ hrm.2.2.1 hrm.2.2.2 ⟨by rw [Nat.zero_add]; exact Nat.le_refl _, by rw [Nat.zero_add]; exact Nat.le_refl _⟩ hP hD hS he rfl rfl hl.1 (Nat.le_of_ble_eq_true rfl) dL_likely_3 (fun v w' H locs hn hP hD hS => ?_) (fun E q ce w' H locs hx hP hD hS y1 y2 y3 => ?_)
  · obtain ⟨r, w1, rfl, rfl, hI⟩ := hn
    refine W.eq (g2 := F0 m 6 ls [.int r, .int 0, .ref ao]) rfl ?_
    refine lv_i2l X.1 X.2.1 dL_likely_6 rfl ?_
    refine va_last X.1 X.2.1 X.2.2.2.2.2.2.1 hP hD hS w1.length 2 (o_at tc ao o w1) rfl (by unfold vp_in; decide) dL_likely_7 (fun H locs hP hD hS => ?_)
    rw [o_set] at hP hD
    refine lv_goto (tgt := 14) X.1 X.2.1 dL_likely_8 (by decide) ?_
    refine lv_iconst (v := 0) X.1 X.2.1 dL_likely_14 (by decide) ?_
    exact retZ_i X.1 X.2.1 hr hlk hQ ⟨0, _, w1, rfl, rfl, Or.inl ⟨rfl, r, rfl, hI⟩⟩ hP hD hS (by rw [Nat.zero_add]; exact Nat.le_refl _) (by rw [Nat.zero_add]; exact Nat.le_refl _) dL_likely_15
  · obtain ⟨k, w1, rfl, rfl, hE⟩ := hx
    obtain rfl := hPE k w1 hE
    · refine vx_catch (name := "java/lang/IllegalArgumentException") (E := exn 1) X.2.2.2.1 [] ⟨0, 8, 11, 13⟩ [] hT (fun z hz => absurd hz List.not_mem_nil) (by decide) (by decide) (X.2.2.2.2.1 _ mw_3_114) (va_Nw.use (nw_tab (nwTab_ok _ (List.mem_of_getElem? (i := 4) rfl))) (X.2.2.2.2.2.2.2.2.2.2.2.2.1 _ (List.mem_of_getElem? (i := 4) rfl))) y1 y2 y3 ?_
      refine lv_astore_n (lv' := [(2, .ref q), (0, .ref b), (1, .ref ao)]) X.1 X.2.1 dL_likely_11 rfl hl (by decide) rfl (fun ls hl => ?_)
      refine lv_iconst (v := 1) X.1 X.2.1 dL_likely_12 (by decide) ?_
      exact retZ_i X.1 X.2.1 hr hlk hQ ⟨1, o, w1, rfl, rfl, Or.inr ⟨1, rfl, hE⟩⟩ hP hD hS (by rw [Nat.zero_add]; exact Nat.le_refl _) (by rw [Nat.zero_add]; exact Nat.le_refl _) dL_likely_13

theorem mwc_look : Cond.codeWith yL_look cL_look 3 (some .int) [(0, 8, 11, 13)] ∈ WG := wg_t (List.mem_append_right _ (List.mem_append_right _ (List.mem_append_right _ (List.mem_append_right _ (List.mem_append_right _ (List.mem_append_left _ (List.mem_of_getElem? (i := 126) rfl))))))) rfl
theorem dcl_look : yL_look.cls ≠ "java/lang/invoke/MethodHandle" ∧ yL_look.cls ≠ "java/lang/invoke/VarHandle" ∧ (parseMethodDescriptor yL_look.desc).map (fun d => d.parameters.length) = some 2 := by decide +kernel
set_option maxHeartbeats 1000000 in
theorem w_look (l : Launch) (dC : Nat → ClassId) (dI : Nat → Nat → Nat) (sk sv : Nat → Nat) (tc : Nat → ClassId) (b ao : Nat) (o : Nat → Int64) (w0 : va_W) {fs : List Value} {rm0 : Room} {mc ms : Nat} {PI : Int32 → va_W → Prop} {PE : Nat → va_W → Prop} (hrm : rm0.frames ≤ 100 ∧ rm0.locals ≤ 5000 ∧ rm0.cells = mc ∧ rm0.slots = ms) (he : (b, .inr (11, fs)) ∈ w0 ++ wO tc ao o) (hPE : ∀ k w1, PE k w1 → k = 1) (hM : CZ l (dC, dI) sk sv (TY tc) yX11_look (.code yX11_look cX11_look 1 (some .int)) rm0 mc ms [.ref b] (w0 ++ wO tc ao o) (PNc tc ao o PI) (PXc tc ao o PE)) : CZ l (dC, dI) sk sv (TY tc) yL_look (.codeWith yL_look cL_look 3 (some .int) [(0, 8, 11, 13)]) (rmW mc ms) mc ms [.ref b, .ref ao] (w0 ++ wO tc ao o) (PNW tc ao PI PE (fun _ => 1)) (fun _ _ => False) := by
  refine ofCZH (by decide) (Nat.le_of_ble_eq_true rfl) ?_
  intro pr e s m args below meth c A Q ls H locs X hr hlk hT hQ hD hP hS hl
  have hl : lv_has ls 3 [(0, .ref b), (1, .ref ao)] := hl
  refine lv_aload_n X.1 X.2.1 dL_look_0 rfl (lv_at hl 1 rfl) ?_
  refine lv_iconst (v := 0) X.1 X.2.1 dL_look_1 (by decide) ?_
  refine lv_aload_n X.1 X.2.1 dL_look_2 rfl (lv_at hl 0 rfl) ?_
  refine callZ (As := []) (rest := [.int 0, .ref ao]) X hM mw_6_127 mw_6_128 mw_6_129 mw_1_1 mw_6_130 dc_X11_look ⟨Nat.succ_le_succ hrm.1, by have := hrm.2.1; show 8 + (1 + 11) + rm0.locals ≤ 5100; omega⟩ hrm.2.2.1 hrm.2.2.2 ⟨by rw [Nat.zero_add]; exact Nat.le_refl _, by rw [Nat.zero_add]; exact Nat.le_refl _⟩ hP hD hS he rfl rfl hl.1 (Nat.le_of_ble_eq_true rfl) dL_look_3 (fun v w' H locs hn hP hD hS => ?_) (fun E q ce w' H locs hx hP hD hS y1 y2 y3 => ?_)
  · obtain ⟨r, w1, rfl, rfl, hI⟩ := hn
    refine W.eq (g2 := F0 m 6 ls [.int r, .int 0, .ref ao]) rfl ?_
    refine lv_i2l X.1 X.2.1 dL_look_6 rfl ?_
    refine va_last X.1 X.2.1 X.2.2.2.2.2.2.1 hP hD hS w1.length 2 (o_at tc ao o w1) rfl (by unfold vp_in; decide) dL_look_7 (fun H locs hP hD hS => ?_)
    rw [o_set] at hP hD
    refine lv_goto (tgt := 14) X.1 X.2.1 dL_look_8 (by decide) ?_
    refine lv_iconst (v := 0) X.1 X.2.1 dL_look_14 (by decide) ?_
    exact retZ_i X.1 X.2.1 hr hlk hQ ⟨0, _, w1, rfl, rfl, Or.inl ⟨rfl, r, rfl, hI⟩⟩ hP hD hS (by rw [Nat.zero_add]; exact Nat.le_refl _) (by rw [Nat.zero_add]; exact Nat.le_refl _) dL_look_15
  · obtain ⟨k, w1, rfl, rfl, hE⟩ := hx
    obtain rfl := hPE k w1 hE
    · refine vx_catch (name := "java/lang/IllegalArgumentException") (E := exn 1) X.2.2.2.1 [] ⟨0, 8, 11, 13⟩ [] hT (fun z hz => absurd hz List.not_mem_nil) (by decide) (by decide) (X.2.2.2.2.1 _ mw_3_114) (va_Nw.use (nw_tab (nwTab_ok _ (List.mem_of_getElem? (i := 4) rfl))) (X.2.2.2.2.2.2.2.2.2.2.2.2.1 _ (List.mem_of_getElem? (i := 4) rfl))) y1 y2 y3 ?_
      refine lv_astore_n (lv' := [(2, .ref q), (0, .ref b), (1, .ref ao)]) X.1 X.2.1 dL_look_11 rfl hl (by decide) rfl (fun ls hl => ?_)
      refine lv_iconst (v := 1) X.1 X.2.1 dL_look_12 (by decide) ?_
      exact retZ_i X.1 X.2.1 hr hlk hQ ⟨1, o, w1, rfl, rfl, Or.inr ⟨1, rfl, hE⟩⟩ hP hD hS (by rw [Nat.zero_add]; exact Nat.le_refl _) (by rw [Nat.zero_add]; exact Nat.le_refl _) dL_look_13

theorem mwc_hand : Cond.codeWith yL_hand cL_hand 4 (some .int) [(0, 9, 12, 13)] ∈ WG := wg_t (List.mem_append_right _ (List.mem_append_right _ (List.mem_append_right _ (List.mem_append_right _ (List.mem_append_right _ (List.mem_append_left _ (List.mem_of_getElem? (i := 147) rfl))))))) rfl
theorem dcl_hand : yL_hand.cls ≠ "java/lang/invoke/MethodHandle" ∧ yL_hand.cls ≠ "java/lang/invoke/VarHandle" ∧ (parseMethodDescriptor yL_hand.desc).map (fun d => d.parameters.length) = some 3 := by decide +kernel
set_option maxHeartbeats 1000000 in
theorem w_hand (l : Launch) (dC : Nat → ClassId) (dI : Nat → Nat → Nat) (sk sv : Nat → Nat) (tc : Nat → ClassId) (b ao : Nat) (o : Nat → Int64) (x1 : Int32) (w0 : va_W) {fs : List Value} {rm0 : Room} {mc ms : Nat} {PI : Int32 → va_W → Prop} {PE : Nat → va_W → Prop} (hrm : rm0.frames ≤ 100 ∧ rm0.locals ≤ 5000 ∧ rm0.cells = mc ∧ rm0.slots = ms) (he : (b, .inr (11, fs)) ∈ w0 ++ wO tc ao o) (hPE : ∀ k w1, PE k w1 → k = 1) (hM : CZ l (dC, dI) sk sv (TY tc) yX11_hand (.code yX11_hand cX11_hand 3 (some .int)) rm0 mc ms [.ref b, .int x1] (w0 ++ wO tc ao o) (PNc tc ao o PI) (PXc tc ao o PE)) : CZ l (dC, dI) sk sv (TY tc) yL_hand (.codeWith yL_hand cL_hand 4 (some .int) [(0, 9, 12, 13)]) (rmW mc ms) mc ms [.ref b, .int x1, .ref ao] (w0 ++ wO tc ao o) (PNW tc ao PI PE (fun _ => 1)) (fun _ _ => False) := by
  refine ofCZH (by decide) (Nat.le_of_ble_eq_true rfl) ?_
  intro pr e s m args below meth c A Q ls H locs X hr hlk hT hQ hD hP hS hl
  have hl : lv_has ls 4 [(0, .ref b), (1, .int x1), (2, .ref ao)] := hl
  refine lv_aload_n X.1 X.2.1 dL_hand_0 rfl (lv_at hl 2 rfl) ?_
  refine lv_iconst (v := 0) X.1 X.2.1 dL_hand_1 (by decide) ?_
  refine lv_aload_n X.1 X.2.1 dL_hand_2 rfl (lv_at hl 0 rfl) ?_
  refine lv_iload_n X.1 X.2.1 dL_hand_3 rfl (lv_at hl 1 rfl) ?_
  refine callZ (As := [.int x1]) (rest := [.int 0, .ref ao]) X hM mw_6_148 mw_6_149 mw_6_150 mw_1_1 mw_6_151 dc_X11_hand ⟨Nat.succ_le_succ hrm.1, by have := hrm.2.1; show 8 + (3 + 11) + rm0.locals ≤ 5100; omega⟩ hrm.2.2.1 hrm.2.2.2 ⟨by rw [Nat.zero_add]; exact Nat.le_refl _, by rw [Nat.zero_add]; exact Nat.le_refl _⟩ hP hD hS he rfl rfl hl.1 (Nat.le_of_ble_eq_true rfl) dL_hand_4 (fun v w' H locs hn hP hD hS => ?_) (fun E q ce w' H locs hx hP hD hS y1 y2 y3 => ?_)
  · obtain ⟨r, w1, rfl, rfl, hI⟩ := hn
    refine W.eq (g2 := F0 m 7 ls [.int r, .int 0, .ref ao]) rfl ?_
    refine lv_i2l X.1 X.2.1 dL_hand_7 rfl ?_
    refine va_last X.1 X.2.1 X.2.2.2.2.2.2.1 hP hD hS w1.length 2 (o_at tc ao o w1) rfl (by unfold vp_in; decide) dL_hand_8 (fun H locs hP hD hS => ?_)
    rw [o_set] at hP hD
    refine lv_goto (tgt := 15) X.1 X.2.1 dL_hand_9 (by decide) ?_
    refine lv_iconst (v := 0) X.1 X.2.1 dL_hand_15 (by decide) ?_
    exact retZ_i X.1 X.2.1 hr hlk hQ ⟨0, _, w1, rfl, rfl, Or.inl ⟨rfl, r, rfl, hI⟩⟩ hP hD hS (by rw [Nat.zero_add]; exact Nat.le_refl _) (by rw [Nat.zero_add]; exact Nat.le_refl _) dL_hand_16
  · obtain ⟨k, w1, rfl, rfl, hE⟩ := hx
    obtain rfl := hPE k w1 hE
    · refine vx_catch (name := "java/lang/IllegalArgumentException") (E := exn 1) X.2.2.2.1 [] ⟨0, 9, 12, 13⟩ [] hT (fun z hz => absurd hz List.not_mem_nil) (by decide) (by decide) (X.2.2.2.2.1 _ mw_3_114) (va_Nw.use (nw_tab (nwTab_ok _ (List.mem_of_getElem? (i := 4) rfl))) (X.2.2.2.2.2.2.2.2.2.2.2.2.1 _ (List.mem_of_getElem? (i := 4) rfl))) y1 y2 y3 ?_
      refine lv_astore_n (lv' := [(3, .ref q), (0, .ref b), (1, .int x1), (2, .ref ao)]) X.1 X.2.1 dL_hand_12 rfl hl (by decide) rfl (fun ls hl => ?_)
      refine lv_iconst (v := 1) X.1 X.2.1 dL_hand_13 (by decide) ?_
      exact retZ_i X.1 X.2.1 hr hlk hQ ⟨1, o, w1, rfl, rfl, Or.inr ⟨1, rfl, hE⟩⟩ hP hD hS (by rw [Nat.zero_add]; exact Nat.le_refl _) (by rw [Nat.zero_add]; exact Nat.le_refl _) dL_hand_14

theorem mwc_ask : Cond.codeWith yL_ask cL_ask 3 (some .int) [(0, 8, 11, 13)] ∈ WG := wg_t (List.mem_append_right _ (List.mem_append_right _ (List.mem_append_right _ (List.mem_append_right _ (List.mem_append_right _ (List.mem_append_left _ (List.mem_of_getElem? (i := 171) rfl))))))) rfl
theorem dcl_ask : yL_ask.cls ≠ "java/lang/invoke/MethodHandle" ∧ yL_ask.cls ≠ "java/lang/invoke/VarHandle" ∧ (parseMethodDescriptor yL_ask.desc).map (fun d => d.parameters.length) = some 2 := by decide +kernel
set_option maxHeartbeats 1000000 in
theorem w_ask (l : Launch) (dC : Nat → ClassId) (dI : Nat → Nat → Nat) (sk sv : Nat → Nat) (tc : Nat → ClassId) (b ao : Nat) (o : Nat → Int64) (w0 : va_W) {fs : List Value} {rm0 : Room} {mc ms : Nat} {PI : Int32 → va_W → Prop} {PE : Nat → va_W → Prop} (hrm : rm0.frames ≤ 100 ∧ rm0.locals ≤ 5000 ∧ rm0.cells = mc ∧ rm0.slots = ms) (he : (b, .inr (11, fs)) ∈ w0 ++ wO tc ao o) (hPE : ∀ k w1, PE k w1 → k = 1) (hM : CZ l (dC, dI) sk sv (TY tc) yX11_ask (.code yX11_ask cX11_ask 1 (some .int)) rm0 mc ms [.ref b] (w0 ++ wO tc ao o) (PNc tc ao o PI) (PXc tc ao o PE)) : CZ l (dC, dI) sk sv (TY tc) yL_ask (.codeWith yL_ask cL_ask 3 (some .int) [(0, 8, 11, 13)]) (rmW mc ms) mc ms [.ref b, .ref ao] (w0 ++ wO tc ao o) (PNW tc ao PI PE (fun _ => 1)) (fun _ _ => False) := by
  refine ofCZH (by decide) (Nat.le_of_ble_eq_true rfl) ?_
  intro pr e s m args below meth c A Q ls H locs X hr hlk hT hQ hD hP hS hl
  have hl : lv_has ls 3 [(0, .ref b), (1, .ref ao)] := hl
  refine lv_aload_n X.1 X.2.1 dL_ask_0 rfl (lv_at hl 1 rfl) ?_
  refine lv_iconst (v := 0) X.1 X.2.1 dL_ask_1 (by decide) ?_
  refine lv_aload_n X.1 X.2.1 dL_ask_2 rfl (lv_at hl 0 rfl) ?_
  refine callZ (As := []) (rest := [.int 0, .ref ao]) X hM mw_6_172 mw_6_173 mw_6_174 mw_1_1 mw_6_175 dc_X11_ask ⟨Nat.succ_le_succ hrm.1, by have := hrm.2.1; show 8 + (1 + 11) + rm0.locals ≤ 5100; omega⟩ hrm.2.2.1 hrm.2.2.2 ⟨by rw [Nat.zero_add]; exact Nat.le_refl _, by rw [Nat.zero_add]; exact Nat.le_refl _⟩ hP hD hS he rfl rfl hl.1 (Nat.le_of_ble_eq_true rfl) dL_ask_3 (fun v w' H locs hn hP hD hS => ?_) (fun E q ce w' H locs hx hP hD hS y1 y2 y3 => ?_)
  · obtain ⟨r, w1, rfl, rfl, hI⟩ := hn
    refine W.eq (g2 := F0 m 6 ls [.int r, .int 0, .ref ao]) rfl ?_
    refine lv_i2l X.1 X.2.1 dL_ask_6 rfl ?_
    refine va_last X.1 X.2.1 X.2.2.2.2.2.2.1 hP hD hS w1.length 2 (o_at tc ao o w1) rfl (by unfold vp_in; decide) dL_ask_7 (fun H locs hP hD hS => ?_)
    rw [o_set] at hP hD
    refine lv_goto (tgt := 14) X.1 X.2.1 dL_ask_8 (by decide) ?_
    refine lv_iconst (v := 0) X.1 X.2.1 dL_ask_14 (by decide) ?_
    exact retZ_i X.1 X.2.1 hr hlk hQ ⟨0, _, w1, rfl, rfl, Or.inl ⟨rfl, r, rfl, hI⟩⟩ hP hD hS (by rw [Nat.zero_add]; exact Nat.le_refl _) (by rw [Nat.zero_add]; exact Nat.le_refl _) dL_ask_15
  · obtain ⟨k, w1, rfl, rfl, hE⟩ := hx
    obtain rfl := hPE k w1 hE
    · refine vx_catch (name := "java/lang/IllegalArgumentException") (E := exn 1) X.2.2.2.1 [] ⟨0, 8, 11, 13⟩ [] hT (fun z hz => absurd hz List.not_mem_nil) (by decide) (by decide) (X.2.2.2.2.1 _ mw_3_114) (va_Nw.use (nw_tab (nwTab_ok _ (List.mem_of_getElem? (i := 4) rfl))) (X.2.2.2.2.2.2.2.2.2.2.2.2.1 _ (List.mem_of_getElem? (i := 4) rfl))) y1 y2 y3 ?_
      refine lv_astore_n (lv' := [(2, .ref q), (0, .ref b), (1, .ref ao)]) X.1 X.2.1 dL_ask_11 rfl hl (by decide) rfl (fun ls hl => ?_)
      refine lv_iconst (v := 1) X.1 X.2.1 dL_ask_12 (by decide) ?_
      exact retZ_i X.1 X.2.1 hr hlk hQ ⟨1, o, w1, rfl, rfl, Or.inr ⟨1, rfl, hE⟩⟩ hP hD hS (by rw [Nat.zero_add]; exact Nat.le_refl _) (by rw [Nat.zero_add]; exact Nat.le_refl _) dL_ask_13

theorem mwc_whose : Cond.codeWith yL_whose cL_whose 3 (some .int) [(0, 8, 11, 13)] ∈ WG := wg_t (List.mem_append_right _ (List.mem_append_right _ (List.mem_append_right _ (List.mem_append_right _ (List.mem_append_right _ (List.mem_append_left _ (List.mem_of_getElem? (i := 186) rfl))))))) rfl
theorem dcl_whose : yL_whose.cls ≠ "java/lang/invoke/MethodHandle" ∧ yL_whose.cls ≠ "java/lang/invoke/VarHandle" ∧ (parseMethodDescriptor yL_whose.desc).map (fun d => d.parameters.length) = some 2 := by decide +kernel
set_option maxHeartbeats 1000000 in
theorem w_whose (l : Launch) (dC : Nat → ClassId) (dI : Nat → Nat → Nat) (sk sv : Nat → Nat) (tc : Nat → ClassId) (b ao : Nat) (o : Nat → Int64) (w0 : va_W) {fs : List Value} {rm0 : Room} {mc ms : Nat} {PI : Int32 → va_W → Prop} {PE : Nat → va_W → Prop} (hrm : rm0.frames ≤ 100 ∧ rm0.locals ≤ 5000 ∧ rm0.cells = mc ∧ rm0.slots = ms) (he : (b, .inr (11, fs)) ∈ w0 ++ wO tc ao o) (hPE : ∀ k w1, PE k w1 → k = 1) (hM : CZ l (dC, dI) sk sv (TY tc) yX11_whose (.code yX11_whose cX11_whose 1 (some .int)) rm0 mc ms [.ref b] (w0 ++ wO tc ao o) (PNc tc ao o PI) (PXc tc ao o PE)) : CZ l (dC, dI) sk sv (TY tc) yL_whose (.codeWith yL_whose cL_whose 3 (some .int) [(0, 8, 11, 13)]) (rmW mc ms) mc ms [.ref b, .ref ao] (w0 ++ wO tc ao o) (PNW tc ao PI PE (fun _ => 1)) (fun _ _ => False) := by
  refine ofCZH (by decide) (Nat.le_of_ble_eq_true rfl) ?_
  intro pr e s m args below meth c A Q ls H locs X hr hlk hT hQ hD hP hS hl
  have hl : lv_has ls 3 [(0, .ref b), (1, .ref ao)] := hl
  refine lv_aload_n X.1 X.2.1 dL_whose_0 rfl (lv_at hl 1 rfl) ?_
  refine lv_iconst (v := 0) X.1 X.2.1 dL_whose_1 (by decide) ?_
  refine lv_aload_n X.1 X.2.1 dL_whose_2 rfl (lv_at hl 0 rfl) ?_
  refine callZ (As := []) (rest := [.int 0, .ref ao]) X hM mw_6_187 mw_6_188 mw_6_189 mw_1_1 mw_6_190 dc_X11_whose ⟨Nat.succ_le_succ hrm.1, by have := hrm.2.1; show 8 + (1 + 11) + rm0.locals ≤ 5100; omega⟩ hrm.2.2.1 hrm.2.2.2 ⟨by rw [Nat.zero_add]; exact Nat.le_refl _, by rw [Nat.zero_add]; exact Nat.le_refl _⟩ hP hD hS he rfl rfl hl.1 (Nat.le_of_ble_eq_true rfl) dL_whose_3 (fun v w' H locs hn hP hD hS => ?_) (fun E q ce w' H locs hx hP hD hS y1 y2 y3 => ?_)
  · obtain ⟨r, w1, rfl, rfl, hI⟩ := hn
    refine W.eq (g2 := F0 m 6 ls [.int r, .int 0, .ref ao]) rfl ?_
    refine lv_i2l X.1 X.2.1 dL_whose_6 rfl ?_
    refine va_last X.1 X.2.1 X.2.2.2.2.2.2.1 hP hD hS w1.length 2 (o_at tc ao o w1) rfl (by unfold vp_in; decide) dL_whose_7 (fun H locs hP hD hS => ?_)
    rw [o_set] at hP hD
    refine lv_goto (tgt := 14) X.1 X.2.1 dL_whose_8 (by decide) ?_
    refine lv_iconst (v := 0) X.1 X.2.1 dL_whose_14 (by decide) ?_
    exact retZ_i X.1 X.2.1 hr hlk hQ ⟨0, _, w1, rfl, rfl, Or.inl ⟨rfl, r, rfl, hI⟩⟩ hP hD hS (by rw [Nat.zero_add]; exact Nat.le_refl _) (by rw [Nat.zero_add]; exact Nat.le_refl _) dL_whose_15
  · obtain ⟨k, w1, rfl, rfl, hE⟩ := hx
    obtain rfl := hPE k w1 hE
    · refine vx_catch (name := "java/lang/IllegalArgumentException") (E := exn 1) X.2.2.2.1 [] ⟨0, 8, 11, 13⟩ [] hT (fun z hz => absurd hz List.not_mem_nil) (by decide) (by decide) (X.2.2.2.2.1 _ mw_3_114) (va_Nw.use (nw_tab (nwTab_ok _ (List.mem_of_getElem? (i := 4) rfl))) (X.2.2.2.2.2.2.2.2.2.2.2.2.1 _ (List.mem_of_getElem? (i := 4) rfl))) y1 y2 y3 ?_
      refine lv_astore_n (lv' := [(2, .ref q), (0, .ref b), (1, .ref ao)]) X.1 X.2.1 dL_whose_11 rfl hl (by decide) rfl (fun ls hl => ?_)
      refine lv_iconst (v := 1) X.1 X.2.1 dL_whose_12 (by decide) ?_
      exact retZ_i X.1 X.2.1 hr hlk hQ ⟨1, o, w1, rfl, rfl, Or.inr ⟨1, rfl, hE⟩⟩ hP hD hS (by rw [Nat.zero_add]; exact Nat.le_refl _) (by rw [Nat.zero_add]; exact Nat.le_refl _) dL_whose_13

theorem mwc_better : Cond.codeWith yL_better cL_better 5 (some .int) [(0, 17, 20, 24), (0, 17, 24, 13)] ∈ WG := wg_t (List.mem_append_right _ (List.mem_append_right _ (List.mem_append_right _ (List.mem_append_right _ (List.mem_append_right _ (List.mem_append_left _ (List.mem_of_getElem? (i := 197) rfl))))))) rfl
theorem dcl_better : yL_better.cls ≠ "java/lang/invoke/MethodHandle" ∧ yL_better.cls ≠ "java/lang/invoke/VarHandle" ∧ (parseMethodDescriptor yL_better.desc).map (fun d => d.parameters.length) = some 4 := by decide +kernel
set_option maxHeartbeats 1000000 in
theorem w_better (l : Launch) (dC : Nat → ClassId) (dI : Nat → Nat → Nat) (sk sv : Nat → Nat) (tc : Nat → ClassId) (b ao : Nat) (o : Nat → Int64) (x1 : Int32) (x2 : Int32) (w0 : va_W) {fs : List Value} {rm0 : Room} {mc ms : Nat} {PI : Int32 → va_W → Prop} {PE : Nat → va_W → Prop} (hrm : rm0.frames ≤ 100 ∧ rm0.locals ≤ 5000 ∧ rm0.cells = mc ∧ rm0.slots = ms) (he : (b, .inr (11, fs)) ∈ w0 ++ wO tc ao o) (hPE : ∀ k w1, PE k w1 → k = 0 ∨ k = 1) (hZ : ∀ r w1, PI r w1 → r = 0 ∨ r = 1) (hM : CZ l (dC, dI) sk sv (TY tc) yX11_better (.code yX11_better cX11_better 3 (some .boolean)) rm0 mc ms [.ref b, .int x1, .int x2] (w0 ++ wO tc ao o) (PNc tc ao o PI) (PXc tc ao o PE)) : CZ l (dC, dI) sk sv (TY tc) yL_better (.codeWith yL_better cL_better 5 (some .int) [(0, 17, 20, 24), (0, 17, 24, 13)]) (rmW mc ms) mc ms [.ref b, .int x1, .int x2, .ref ao] (w0 ++ wO tc ao o) (PNW tc ao PI PE (fun k => if k = 0 then 1 else 2)) (fun _ _ => False) := by
  refine ofCZH (by decide) (Nat.le_of_ble_eq_true rfl) ?_
  intro pr e s m args below meth c A Q ls H locs X hr hlk hT hQ hD hP hS hl
  have hl : lv_has ls 5 [(0, .ref b), (1, .int x1), (2, .int x2), (3, .ref ao)] := hl
  refine lv_aload_n X.1 X.2.1 dL_better_0 rfl (lv_at hl 3 rfl) ?_
  refine lv_iconst (v := 0) X.1 X.2.1 dL_better_1 (by decide) ?_
  refine lv_aload_n X.1 X.2.1 dL_better_2 rfl (lv_at hl 0 rfl) ?_
  refine lv_iload_n X.1 X.2.1 dL_better_3 rfl (lv_at hl 1 rfl) ?_
  refine lv_iload_n X.1 X.2.1 dL_better_4 rfl (lv_at hl 2 rfl) ?_
  refine callZ (As := [.int x1, .int x2]) (rest := [.int 0, .ref ao]) X hM mw_6_198 mw_6_199 mw_6_200 mw_1_1 mw_6_201 dc_X11_better ⟨Nat.succ_le_succ hrm.1, by have := hrm.2.1; show 8 + (3 + 11) + rm0.locals ≤ 5100; omega⟩ hrm.2.2.1 hrm.2.2.2 ⟨by rw [Nat.zero_add]; exact Nat.le_refl _, by rw [Nat.zero_add]; exact Nat.le_refl _⟩ hP hD hS he rfl rfl hl.1 (Nat.le_of_ble_eq_true rfl) dL_better_5 (fun v w' H locs hn hP hD hS => ?_) (fun E q ce w' H locs hx hP hD hS y1 y2 y3 => ?_)
  · obtain ⟨r, w1, rfl, rfl, hI⟩ := hn
    refine W.eq (g2 := F0 m 8 ls [.int r, .int 0, .ref ao]) rfl ?_
    obtain rfl | rfl := hZ r w1 hI
    · refine lv_if_eq (tgt := 15) X.1 X.2.1 dL_better_8 (by decide) (fun _ => ?_) (fun hc => absurd rfl hc)
      refine lv_lconst (v := 0) X.1 X.2.1 dL_better_15 rfl ?_
      refine va_last X.1 X.2.1 X.2.2.2.2.2.2.1 hP hD hS w1.length 2 (o_at tc ao o w1) rfl (by unfold vp_in; decide) dL_better_16 (fun H locs hP hD hS => ?_)
      rw [o_set] at hP hD
      refine lv_goto (tgt := 28) X.1 X.2.1 dL_better_17 (by decide) ?_
      refine lv_iconst (v := 0) X.1 X.2.1 dL_better_28 (by decide) ?_
      exact retZ_i X.1 X.2.1 hr hlk hQ ⟨0, _, w1, rfl, rfl, Or.inl ⟨rfl, 0, l_00, hI⟩⟩ hP hD hS (by rw [Nat.zero_add]; exact Nat.le_refl _) (by rw [Nat.zero_add]; exact Nat.le_refl _) dL_better_29
    · refine lv_if_eq (tgt := 15) X.1 X.2.1 dL_better_8 (by decide) (fun hc => absurd hc (by decide)) (fun _ => ?_)
      refine lv_lconst (v := 1) X.1 X.2.1 dL_better_11 rfl ?_
      refine lv_goto (tgt := 16) X.1 X.2.1 dL_better_12 (by decide) ?_
      refine va_last X.1 X.2.1 X.2.2.2.2.2.2.1 hP hD hS w1.length 2 (o_at tc ao o w1) rfl (by unfold vp_in; decide) dL_better_16 (fun H locs hP hD hS => ?_)
      rw [o_set] at hP hD
      refine lv_goto (tgt := 28) X.1 X.2.1 dL_better_17 (by decide) ?_
      refine lv_iconst (v := 0) X.1 X.2.1 dL_better_28 (by decide) ?_
      exact retZ_i X.1 X.2.1 hr hlk hQ ⟨0, _, w1, rfl, rfl, Or.inl ⟨rfl, 1, l_10, hI⟩⟩ hP hD hS (by rw [Nat.zero_add]; exact Nat.le_refl _) (by rw [Nat.zero_add]; exact Nat.le_refl _) dL_better_29
  · obtain ⟨k, w1, rfl, rfl, hE⟩ := hx
    obtain rfl | rfl := hPE k w1 hE
    · refine vx_catch (name := "java/lang/IndexOutOfBoundsException") (E := exn 0) X.2.2.2.1 [] ⟨0, 17, 20, 24⟩ [⟨0, 17, 24, 13⟩] hT (fun z hz => absurd hz List.not_mem_nil) (by decide) (by decide) (X.2.2.2.2.1 _ mw_4_204) (va_Nw.use (nw_tab (nwTab_ok _ (List.mem_of_getElem? (i := 13) rfl))) (X.2.2.2.2.2.2.2.2.2.2.2.2.1 _ (List.mem_of_getElem? (i := 13) rfl))) y1 y2 y3 ?_
      refine lv_astore (lv' := [(4, .ref q), (0, .ref b), (1, .int x1), (2, .int x2), (3, .ref ao)]) X.1 X.2.1 dL_better_20 hl (by decide) rfl (fun ls hl => ?_)
      refine lv_iconst (v := 1) X.1 X.2.1 dL_better_22 (by decide) ?_
      exact retZ_i X.1 X.2.1 hr hlk hQ ⟨1, o, w1, rfl, rfl, Or.inr ⟨0, rfl, hE⟩⟩ hP hD hS (by rw [Nat.zero_add]; exact Nat.le_refl _) (by rw [Nat.zero_add]; exact Nat.le_refl _) dL_better_23
    · refine vx_catch (name := "java/lang/IllegalArgumentException") (E := exn 1) X.2.2.2.1 [⟨0, 17, 20, 24⟩] ⟨0, 17, 24, 13⟩ [] hT (fun z hz => by rw [List.mem_singleton.mp hz]; exact Or.inr ⟨by decide, "java/lang/IndexOutOfBoundsException", X.2.2.2.2.1 _ mw_4_204, X.2.2.2.2.2.2.2.2.2.2.2.2.2.1 _ (List.mem_of_getElem? (i := 8) rfl)⟩) (by decide) (by decide) (X.2.2.2.2.1 _ mw_3_114) (va_Nw.use (nw_tab (nwTab_ok _ (List.mem_of_getElem? (i := 4) rfl))) (X.2.2.2.2.2.2.2.2.2.2.2.2.1 _ (List.mem_of_getElem? (i := 4) rfl))) y1 y2 y3 ?_
      refine lv_astore (lv' := [(4, .ref q), (0, .ref b), (1, .int x1), (2, .int x2), (3, .ref ao)]) X.1 X.2.1 dL_better_24 hl (by decide) rfl (fun ls hl => ?_)
      refine lv_iconst (v := 2) X.1 X.2.1 dL_better_26 (by decide) ?_
      exact retZ_i X.1 X.2.1 hr hlk hQ ⟨2, o, w1, rfl, rfl, Or.inr ⟨1, rfl, hE⟩⟩ hP hD hS (by rw [Nat.zero_add]; exact Nat.le_refl _) (by rw [Nat.zero_add]; exact Nat.le_refl _) dL_better_27

theorem mwc_change : Cond.codeWith yL_change cL_change 5 (some .int) [(0, 10, 13, 24)] ∈ WG := wg_t (List.mem_append_right _ (List.mem_append_right _ (List.mem_append_right _ (List.mem_append_right _ (List.mem_append_right _ (List.mem_append_left _ (List.mem_of_getElem? (i := 205) rfl))))))) rfl
theorem dcl_change : yL_change.cls ≠ "java/lang/invoke/MethodHandle" ∧ yL_change.cls ≠ "java/lang/invoke/VarHandle" ∧ (parseMethodDescriptor yL_change.desc).map (fun d => d.parameters.length) = some 4 := by decide +kernel
set_option maxHeartbeats 1000000 in
theorem w_change (l : Launch) (dC : Nat → ClassId) (dI : Nat → Nat → Nat) (sk sv : Nat → Nat) (tc : Nat → ClassId) (b ao : Nat) (o : Nat → Int64) (x1 : Int32) (x2 : Int32) (w0 : va_W) {fs : List Value} {rm0 : Room} {mc ms : Nat} {PI : Int32 → va_W → Prop} {PE : Nat → va_W → Prop} (hrm : rm0.frames ≤ 100 ∧ rm0.locals ≤ 5000 ∧ rm0.cells = mc ∧ rm0.slots = ms) (he : (b, .inr (11, fs)) ∈ w0 ++ wO tc ao o) (hPE : ∀ k w1, PE k w1 → k = 0) (hM : CZ l (dC, dI) sk sv (TY tc) yX11_change (.code yX11_change cX11_change 3 (some .int)) rm0 mc ms [.ref b, .int x1, .int x2] (w0 ++ wO tc ao o) (PNc tc ao o PI) (PXc tc ao o PE)) : CZ l (dC, dI) sk sv (TY tc) yL_change (.codeWith yL_change cL_change 5 (some .int) [(0, 10, 13, 24)]) (rmW mc ms) mc ms [.ref b, .int x1, .int x2, .ref ao] (w0 ++ wO tc ao o) (PNW tc ao PI PE (fun _ => 1)) (fun _ _ => False) := by
  refine ofCZH (by decide) (Nat.le_of_ble_eq_true rfl) ?_
  intro pr e s m args below meth c A Q ls H locs X hr hlk hT hQ hD hP hS hl
  have hl : lv_has ls 5 [(0, .ref b), (1, .int x1), (2, .int x2), (3, .ref ao)] := hl
  refine lv_aload_n X.1 X.2.1 dL_change_0 rfl (lv_at hl 3 rfl) ?_
  refine lv_iconst (v := 0) X.1 X.2.1 dL_change_1 (by decide) ?_
  refine lv_aload_n X.1 X.2.1 dL_change_2 rfl (lv_at hl 0 rfl) ?_
  refine lv_iload_n X.1 X.2.1 dL_change_3 rfl (lv_at hl 1 rfl) ?_
  refine lv_iload_n X.1 X.2.1 dL_change_4 rfl (lv_at hl 2 rfl) ?_
  refine callZ (As := [.int x1, .int x2]) (rest := [.int 0, .ref ao]) X hM mw_6_206 mw_6_207 mw_6_208 mw_1_1 mw_6_209 dc_X11_change ⟨Nat.succ_le_succ hrm.1, by have := hrm.2.1; show 8 + (3 + 11) + rm0.locals ≤ 5100; omega⟩ hrm.2.2.1 hrm.2.2.2 ⟨by rw [Nat.zero_add]; exact Nat.le_refl _, by rw [Nat.zero_add]; exact Nat.le_refl _⟩ hP hD hS he rfl rfl hl.1 (Nat.le_of_ble_eq_true rfl) dL_change_5 (fun v w' H locs hn hP hD hS => ?_) (fun E q ce w' H locs hx hP hD hS y1 y2 y3 => ?_)
  · obtain ⟨r, w1, rfl, rfl, hI⟩ := hn
    refine W.eq (g2 := F0 m 8 ls [.int r, .int 0, .ref ao]) rfl ?_
    refine lv_i2l X.1 X.2.1 dL_change_8 rfl ?_
    refine va_last X.1 X.2.1 X.2.2.2.2.2.2.1 hP hD hS w1.length 2 (o_at tc ao o w1) rfl (by unfold vp_in; decide) dL_change_9 (fun H locs hP hD hS => ?_)
    rw [o_set] at hP hD
    refine lv_goto (tgt := 17) X.1 X.2.1 dL_change_10 (by decide) ?_
    refine lv_iconst (v := 0) X.1 X.2.1 dL_change_17 (by decide) ?_
    exact retZ_i X.1 X.2.1 hr hlk hQ ⟨0, _, w1, rfl, rfl, Or.inl ⟨rfl, r, rfl, hI⟩⟩ hP hD hS (by rw [Nat.zero_add]; exact Nat.le_refl _) (by rw [Nat.zero_add]; exact Nat.le_refl _) dL_change_18
  · obtain ⟨k, w1, rfl, rfl, hE⟩ := hx
    obtain rfl := hPE k w1 hE
    · refine vx_catch (name := "java/lang/IndexOutOfBoundsException") (E := exn 0) X.2.2.2.1 [] ⟨0, 10, 13, 24⟩ [] hT (fun z hz => absurd hz List.not_mem_nil) (by decide) (by decide) (X.2.2.2.2.1 _ mw_4_204) (va_Nw.use (nw_tab (nwTab_ok _ (List.mem_of_getElem? (i := 13) rfl))) (X.2.2.2.2.2.2.2.2.2.2.2.2.1 _ (List.mem_of_getElem? (i := 13) rfl))) y1 y2 y3 ?_
      refine lv_astore (lv' := [(4, .ref q), (0, .ref b), (1, .int x1), (2, .int x2), (3, .ref ao)]) X.1 X.2.1 dL_change_13 hl (by decide) rfl (fun ls hl => ?_)
      refine lv_iconst (v := 1) X.1 X.2.1 dL_change_15 (by decide) ?_
      exact retZ_i X.1 X.2.1 hr hlk hQ ⟨1, o, w1, rfl, rfl, Or.inr ⟨0, rfl, hE⟩⟩ hP hD hS (by rw [Nat.zero_add]; exact Nat.le_refl _) (by rw [Nat.zero_add]; exact Nat.le_refl _) dL_change_16

theorem mwc_chain : Cond.codeWith yL_chain cL_chain 5 (some .int) [(0, 10, 13, 24)] ∈ WG := wg_t (List.mem_append_right _ (List.mem_append_right _ (List.mem_append_right _ (List.mem_append_right _ (List.mem_append_right _ (List.mem_append_left _ (List.mem_of_getElem? (i := 213) rfl))))))) rfl
theorem dcl_chain : yL_chain.cls ≠ "java/lang/invoke/MethodHandle" ∧ yL_chain.cls ≠ "java/lang/invoke/VarHandle" ∧ (parseMethodDescriptor yL_chain.desc).map (fun d => d.parameters.length) = some 4 := by decide +kernel
set_option maxHeartbeats 1000000 in
theorem w_chain (l : Launch) (dC : Nat → ClassId) (dI : Nat → Nat → Nat) (sk sv : Nat → Nat) (tc : Nat → ClassId) (b ao : Nat) (o : Nat → Int64) (x1 : Int32) (x2 : Int32) (w0 : va_W) {fs : List Value} {rm0 : Room} {mc ms : Nat} {PI : Int32 → va_W → Prop} {PE : Nat → va_W → Prop} (hrm : rm0.frames ≤ 100 ∧ rm0.locals ≤ 5000 ∧ rm0.cells = mc ∧ rm0.slots = ms) (he : (b, .inr (11, fs)) ∈ w0 ++ wO tc ao o) (hPE : ∀ k w1, PE k w1 → k = 0) (hM : CZ l (dC, dI) sk sv (TY tc) yX11_chain (.code yX11_chain cX11_chain 3 (some .int)) rm0 mc ms [.ref b, .int x1, .int x2] (w0 ++ wO tc ao o) (PNc tc ao o PI) (PXc tc ao o PE)) : CZ l (dC, dI) sk sv (TY tc) yL_chain (.codeWith yL_chain cL_chain 5 (some .int) [(0, 10, 13, 24)]) (rmW mc ms) mc ms [.ref b, .int x1, .int x2, .ref ao] (w0 ++ wO tc ao o) (PNW tc ao PI PE (fun _ => 1)) (fun _ _ => False) := by
  refine ofCZH (by decide) (Nat.le_of_ble_eq_true rfl) ?_
  intro pr e s m args below meth c A Q ls H locs X hr hlk hT hQ hD hP hS hl
  have hl : lv_has ls 5 [(0, .ref b), (1, .int x1), (2, .int x2), (3, .ref ao)] := hl
  refine lv_aload_n X.1 X.2.1 dL_chain_0 rfl (lv_at hl 3 rfl) ?_
  refine lv_iconst (v := 0) X.1 X.2.1 dL_chain_1 (by decide) ?_
  refine lv_aload_n X.1 X.2.1 dL_chain_2 rfl (lv_at hl 0 rfl) ?_
  refine lv_iload_n X.1 X.2.1 dL_chain_3 rfl (lv_at hl 1 rfl) ?_
  refine lv_iload_n X.1 X.2.1 dL_chain_4 rfl (lv_at hl 2 rfl) ?_
  refine callZ (As := [.int x1, .int x2]) (rest := [.int 0, .ref ao]) X hM mw_6_214 mw_6_215 mw_6_216 mw_1_1 mw_6_217 dc_X11_chain ⟨Nat.succ_le_succ hrm.1, by have := hrm.2.1; show 8 + (3 + 11) + rm0.locals ≤ 5100; omega⟩ hrm.2.2.1 hrm.2.2.2 ⟨by rw [Nat.zero_add]; exact Nat.le_refl _, by rw [Nat.zero_add]; exact Nat.le_refl _⟩ hP hD hS he rfl rfl hl.1 (Nat.le_of_ble_eq_true rfl) dL_chain_5 (fun v w' H locs hn hP hD hS => ?_) (fun E q ce w' H locs hx hP hD hS y1 y2 y3 => ?_)
  · obtain ⟨r, w1, rfl, rfl, hI⟩ := hn
    refine W.eq (g2 := F0 m 8 ls [.int r, .int 0, .ref ao]) rfl ?_
    refine lv_i2l X.1 X.2.1 dL_chain_8 rfl ?_
    refine va_last X.1 X.2.1 X.2.2.2.2.2.2.1 hP hD hS w1.length 2 (o_at tc ao o w1) rfl (by unfold vp_in; decide) dL_chain_9 (fun H locs hP hD hS => ?_)
    rw [o_set] at hP hD
    refine lv_goto (tgt := 17) X.1 X.2.1 dL_chain_10 (by decide) ?_
    refine lv_iconst (v := 0) X.1 X.2.1 dL_chain_17 (by decide) ?_
    exact retZ_i X.1 X.2.1 hr hlk hQ ⟨0, _, w1, rfl, rfl, Or.inl ⟨rfl, r, rfl, hI⟩⟩ hP hD hS (by rw [Nat.zero_add]; exact Nat.le_refl _) (by rw [Nat.zero_add]; exact Nat.le_refl _) dL_chain_18
  · obtain ⟨k, w1, rfl, rfl, hE⟩ := hx
    obtain rfl := hPE k w1 hE
    · refine vx_catch (name := "java/lang/IndexOutOfBoundsException") (E := exn 0) X.2.2.2.1 [] ⟨0, 10, 13, 24⟩ [] hT (fun z hz => absurd hz List.not_mem_nil) (by decide) (by decide) (X.2.2.2.2.1 _ mw_4_204) (va_Nw.use (nw_tab (nwTab_ok _ (List.mem_of_getElem? (i := 13) rfl))) (X.2.2.2.2.2.2.2.2.2.2.2.2.1 _ (List.mem_of_getElem? (i := 13) rfl))) y1 y2 y3 ?_
      refine lv_astore (lv' := [(4, .ref q), (0, .ref b), (1, .int x1), (2, .int x2), (3, .ref ao)]) X.1 X.2.1 dL_chain_13 hl (by decide) rfl (fun ls hl => ?_)
      refine lv_iconst (v := 1) X.1 X.2.1 dL_chain_15 (by decide) ?_
      exact retZ_i X.1 X.2.1 hr hlk hQ ⟨1, o, w1, rfl, rfl, Or.inr ⟨0, rfl, hE⟩⟩ hP hD hS (by rw [Nat.zero_add]; exact Nat.le_refl _) (by rw [Nat.zero_add]; exact Nat.le_refl _) dL_chain_16

theorem mwc_pages : Cond.codeWith yL_pages cL_pages 5 (some .int) [(0, 10, 13, 24), (0, 10, 17, 13)] ∈ WG := wg_t (List.mem_append_right _ (List.mem_append_right _ (List.mem_append_right _ (List.mem_append_right _ (List.mem_append_right _ (List.mem_append_left _ (List.mem_of_getElem? (i := 228) rfl))))))) rfl
theorem dcl_pages : yL_pages.cls ≠ "java/lang/invoke/MethodHandle" ∧ yL_pages.cls ≠ "java/lang/invoke/VarHandle" ∧ (parseMethodDescriptor yL_pages.desc).map (fun d => d.parameters.length) = some 4 := by decide +kernel
set_option maxHeartbeats 1000000 in
theorem w_pages (l : Launch) (dC : Nat → ClassId) (dI : Nat → Nat → Nat) (sk sv : Nat → Nat) (tc : Nat → ClassId) (b ao : Nat) (o : Nat → Int64) (x1 : Int32) (x2 : Int32) (w0 : va_W) {fs : List Value} {rm0 : Room} {mc ms : Nat} {PI : Int32 → va_W → Prop} {PE : Nat → va_W → Prop} (hrm : rm0.frames ≤ 100 ∧ rm0.locals ≤ 5000 ∧ rm0.cells = mc ∧ rm0.slots = ms) (he : (b, .inr (11, fs)) ∈ w0 ++ wO tc ao o) (hPE : ∀ k w1, PE k w1 → k = 0 ∨ k = 1) (hM : CZ l (dC, dI) sk sv (TY tc) yX11_pages (.code yX11_pages cX11_pages 3 (some .int)) rm0 mc ms [.ref b, .int x1, .int x2] (w0 ++ wO tc ao o) (PNc tc ao o PI) (PXc tc ao o PE)) : CZ l (dC, dI) sk sv (TY tc) yL_pages (.codeWith yL_pages cL_pages 5 (some .int) [(0, 10, 13, 24), (0, 10, 17, 13)]) (rmW mc ms) mc ms [.ref b, .int x1, .int x2, .ref ao] (w0 ++ wO tc ao o) (PNW tc ao PI PE (fun k => if k = 0 then 1 else 2)) (fun _ _ => False) := by
  refine ofCZH (by decide) (Nat.le_of_ble_eq_true rfl) ?_
  intro pr e s m args below meth c A Q ls H locs X hr hlk hT hQ hD hP hS hl
  have hl : lv_has ls 5 [(0, .ref b), (1, .int x1), (2, .int x2), (3, .ref ao)] := hl
  refine lv_aload_n X.1 X.2.1 dL_pages_0 rfl (lv_at hl 3 rfl) ?_
  refine lv_iconst (v := 0) X.1 X.2.1 dL_pages_1 (by decide) ?_
  refine lv_aload_n X.1 X.2.1 dL_pages_2 rfl (lv_at hl 0 rfl) ?_
  refine lv_iload_n X.1 X.2.1 dL_pages_3 rfl (lv_at hl 1 rfl) ?_
  refine lv_iload_n X.1 X.2.1 dL_pages_4 rfl (lv_at hl 2 rfl) ?_
  refine callZ (As := [.int x1, .int x2]) (rest := [.int 0, .ref ao]) X hM mw_6_229 mw_6_230 mw_6_231 mw_1_1 mw_6_232 dc_X11_pages ⟨Nat.succ_le_succ hrm.1, by have := hrm.2.1; show 8 + (3 + 11) + rm0.locals ≤ 5100; omega⟩ hrm.2.2.1 hrm.2.2.2 ⟨by rw [Nat.zero_add]; exact Nat.le_refl _, by rw [Nat.zero_add]; exact Nat.le_refl _⟩ hP hD hS he rfl rfl hl.1 (Nat.le_of_ble_eq_true rfl) dL_pages_5 (fun v w' H locs hn hP hD hS => ?_) (fun E q ce w' H locs hx hP hD hS y1 y2 y3 => ?_)
  · obtain ⟨r, w1, rfl, rfl, hI⟩ := hn
    refine W.eq (g2 := F0 m 8 ls [.int r, .int 0, .ref ao]) rfl ?_
    refine lv_i2l X.1 X.2.1 dL_pages_8 rfl ?_
    refine va_last X.1 X.2.1 X.2.2.2.2.2.2.1 hP hD hS w1.length 2 (o_at tc ao o w1) rfl (by unfold vp_in; decide) dL_pages_9 (fun H locs hP hD hS => ?_)
    rw [o_set] at hP hD
    refine lv_goto (tgt := 21) X.1 X.2.1 dL_pages_10 (by decide) ?_
    refine lv_iconst (v := 0) X.1 X.2.1 dL_pages_21 (by decide) ?_
    exact retZ_i X.1 X.2.1 hr hlk hQ ⟨0, _, w1, rfl, rfl, Or.inl ⟨rfl, r, rfl, hI⟩⟩ hP hD hS (by rw [Nat.zero_add]; exact Nat.le_refl _) (by rw [Nat.zero_add]; exact Nat.le_refl _) dL_pages_22
  · obtain ⟨k, w1, rfl, rfl, hE⟩ := hx
    obtain rfl | rfl := hPE k w1 hE
    · refine vx_catch (name := "java/lang/IndexOutOfBoundsException") (E := exn 0) X.2.2.2.1 [] ⟨0, 10, 13, 24⟩ [⟨0, 10, 17, 13⟩] hT (fun z hz => absurd hz List.not_mem_nil) (by decide) (by decide) (X.2.2.2.2.1 _ mw_4_204) (va_Nw.use (nw_tab (nwTab_ok _ (List.mem_of_getElem? (i := 13) rfl))) (X.2.2.2.2.2.2.2.2.2.2.2.2.1 _ (List.mem_of_getElem? (i := 13) rfl))) y1 y2 y3 ?_
      refine lv_astore (lv' := [(4, .ref q), (0, .ref b), (1, .int x1), (2, .int x2), (3, .ref ao)]) X.1 X.2.1 dL_pages_13 hl (by decide) rfl (fun ls hl => ?_)
      refine lv_iconst (v := 1) X.1 X.2.1 dL_pages_15 (by decide) ?_
      exact retZ_i X.1 X.2.1 hr hlk hQ ⟨1, o, w1, rfl, rfl, Or.inr ⟨0, rfl, hE⟩⟩ hP hD hS (by rw [Nat.zero_add]; exact Nat.le_refl _) (by rw [Nat.zero_add]; exact Nat.le_refl _) dL_pages_16
    · refine vx_catch (name := "java/lang/IllegalArgumentException") (E := exn 1) X.2.2.2.1 [⟨0, 10, 13, 24⟩] ⟨0, 10, 17, 13⟩ [] hT (fun z hz => by rw [List.mem_singleton.mp hz]; exact Or.inr ⟨by decide, "java/lang/IndexOutOfBoundsException", X.2.2.2.2.1 _ mw_4_204, X.2.2.2.2.2.2.2.2.2.2.2.2.2.1 _ (List.mem_of_getElem? (i := 8) rfl)⟩) (by decide) (by decide) (X.2.2.2.2.1 _ mw_3_114) (va_Nw.use (nw_tab (nwTab_ok _ (List.mem_of_getElem? (i := 4) rfl))) (X.2.2.2.2.2.2.2.2.2.2.2.2.1 _ (List.mem_of_getElem? (i := 4) rfl))) y1 y2 y3 ?_
      refine lv_astore (lv' := [(4, .ref q), (0, .ref b), (1, .int x1), (2, .int x2), (3, .ref ao)]) X.1 X.2.1 dL_pages_17 hl (by decide) rfl (fun ls hl => ?_)
      refine lv_iconst (v := 2) X.1 X.2.1 dL_pages_19 (by decide) ?_
      exact retZ_i X.1 X.2.1 hr hlk hQ ⟨2, o, w1, rfl, rfl, Or.inr ⟨1, rfl, hE⟩⟩ hP hD hS (by rw [Nat.zero_add]; exact Nat.le_refl _) (by rw [Nat.zero_add]; exact Nat.le_refl _) dL_pages_20

theorem mwc_pairs : Cond.codeWith yL_pairs cL_pairs 4 (some .int) [(0, 9, 12, 24)] ∈ WG := wg_t (List.mem_append_right _ (List.mem_append_right _ (List.mem_append_right _ (List.mem_append_right _ (List.mem_append_right _ (List.mem_append_right _ (List.mem_append_left _ (List.mem_of_getElem? (i := 4) rfl)))))))) rfl
theorem dcl_pairs : yL_pairs.cls ≠ "java/lang/invoke/MethodHandle" ∧ yL_pairs.cls ≠ "java/lang/invoke/VarHandle" ∧ (parseMethodDescriptor yL_pairs.desc).map (fun d => d.parameters.length) = some 3 := by decide +kernel
set_option maxHeartbeats 1000000 in
theorem w_pairs (l : Launch) (dC : Nat → ClassId) (dI : Nat → Nat → Nat) (sk sv : Nat → Nat) (tc : Nat → ClassId) (b ao : Nat) (o : Nat → Int64) (x1 : Int32) (w0 : va_W) {fs : List Value} {rm0 : Room} {mc ms : Nat} {PI : Int32 → va_W → Prop} {PE : Nat → va_W → Prop} (hrm : rm0.frames ≤ 100 ∧ rm0.locals ≤ 5000 ∧ rm0.cells = mc ∧ rm0.slots = ms) (he : (b, .inr (11, fs)) ∈ w0 ++ wO tc ao o) (hPE : ∀ k w1, PE k w1 → k = 0) (hM : CZ l (dC, dI) sk sv (TY tc) yX11_pairs (.code yX11_pairs cX11_pairs 3 (some .int)) rm0 mc ms [.ref b, .int x1] (w0 ++ wO tc ao o) (PNc tc ao o PI) (PXc tc ao o PE)) : CZ l (dC, dI) sk sv (TY tc) yL_pairs (.codeWith yL_pairs cL_pairs 4 (some .int) [(0, 9, 12, 24)]) (rmW mc ms) mc ms [.ref b, .int x1, .ref ao] (w0 ++ wO tc ao o) (PNW tc ao PI PE (fun _ => 1)) (fun _ _ => False) := by
  refine ofCZH (by decide) (Nat.le_of_ble_eq_true rfl) ?_
  intro pr e s m args below meth c A Q ls H locs X hr hlk hT hQ hD hP hS hl
  have hl : lv_has ls 4 [(0, .ref b), (1, .int x1), (2, .ref ao)] := hl
  refine lv_aload_n X.1 X.2.1 dL_pairs_0 rfl (lv_at hl 2 rfl) ?_
  refine lv_iconst (v := 0) X.1 X.2.1 dL_pairs_1 (by decide) ?_
  refine lv_aload_n X.1 X.2.1 dL_pairs_2 rfl (lv_at hl 0 rfl) ?_
  refine lv_iload_n X.1 X.2.1 dL_pairs_3 rfl (lv_at hl 1 rfl) ?_
  refine callZ (As := [.int x1]) (rest := [.int 0, .ref ao]) X hM mw_7_5 mw_7_6 mw_7_7 mw_1_1 mw_7_8 dc_X11_pairs ⟨Nat.succ_le_succ hrm.1, by have := hrm.2.1; show 8 + (3 + 11) + rm0.locals ≤ 5100; omega⟩ hrm.2.2.1 hrm.2.2.2 ⟨by rw [Nat.zero_add]; exact Nat.le_refl _, by rw [Nat.zero_add]; exact Nat.le_refl _⟩ hP hD hS he rfl rfl hl.1 (Nat.le_of_ble_eq_true rfl) dL_pairs_4 (fun v w' H locs hn hP hD hS => ?_) (fun E q ce w' H locs hx hP hD hS y1 y2 y3 => ?_)
  · obtain ⟨r, w1, rfl, rfl, hI⟩ := hn
    refine W.eq (g2 := F0 m 7 ls [.int r, .int 0, .ref ao]) rfl ?_
    refine lv_i2l X.1 X.2.1 dL_pairs_7 rfl ?_
    refine va_last X.1 X.2.1 X.2.2.2.2.2.2.1 hP hD hS w1.length 2 (o_at tc ao o w1) rfl (by unfold vp_in; decide) dL_pairs_8 (fun H locs hP hD hS => ?_)
    rw [o_set] at hP hD
    refine lv_goto (tgt := 15) X.1 X.2.1 dL_pairs_9 (by decide) ?_
    refine lv_iconst (v := 0) X.1 X.2.1 dL_pairs_15 (by decide) ?_
    exact retZ_i X.1 X.2.1 hr hlk hQ ⟨0, _, w1, rfl, rfl, Or.inl ⟨rfl, r, rfl, hI⟩⟩ hP hD hS (by rw [Nat.zero_add]; exact Nat.le_refl _) (by rw [Nat.zero_add]; exact Nat.le_refl _) dL_pairs_16
  · obtain ⟨k, w1, rfl, rfl, hE⟩ := hx
    obtain rfl := hPE k w1 hE
    · refine vx_catch (name := "java/lang/IndexOutOfBoundsException") (E := exn 0) X.2.2.2.1 [] ⟨0, 9, 12, 24⟩ [] hT (fun z hz => absurd hz List.not_mem_nil) (by decide) (by decide) (X.2.2.2.2.1 _ mw_4_204) (va_Nw.use (nw_tab (nwTab_ok _ (List.mem_of_getElem? (i := 13) rfl))) (X.2.2.2.2.2.2.2.2.2.2.2.2.1 _ (List.mem_of_getElem? (i := 13) rfl))) y1 y2 y3 ?_
      refine lv_astore_n (lv' := [(3, .ref q), (0, .ref b), (1, .int x1), (2, .ref ao)]) X.1 X.2.1 dL_pairs_12 rfl hl (by decide) rfl (fun ls hl => ?_)
      refine lv_iconst (v := 1) X.1 X.2.1 dL_pairs_13 (by decide) ?_
      exact retZ_i X.1 X.2.1 hr hlk hQ ⟨1, o, w1, rfl, rfl, Or.inr ⟨0, rfl, hE⟩⟩ hP hD hS (by rw [Nat.zero_add]; exact Nat.le_refl _) (by rw [Nat.zero_add]; exact Nat.le_refl _) dL_pairs_14

theorem mwc_rests : Cond.codeWith yL_rests cL_rests 4 (some .int) [(0, 9, 12, 24)] ∈ WG := wg_t (List.mem_append_right _ (List.mem_append_right _ (List.mem_append_right _ (List.mem_append_right _ (List.mem_append_right _ (List.mem_append_right _ (List.mem_append_left _ (List.mem_of_getElem? (i := 32) rfl)))))))) rfl
theorem dcl_rests : yL_rests.cls ≠ "java/lang/invoke/MethodHandle" ∧ yL_rests.cls ≠ "java/lang/invoke/VarHandle" ∧ (parseMethodDescriptor yL_rests.desc).map (fun d => d.parameters.length) = some 3 := by decide +kernel
set_option maxHeartbeats 1000000 in
theorem w_rests (l : Launch) (dC : Nat → ClassId) (dI : Nat → Nat → Nat) (sk sv : Nat → Nat) (tc : Nat → ClassId) (b ao : Nat) (o : Nat → Int64) (x1 : Int32) (w0 : va_W) {fs : List Value} {rm0 : Room} {mc ms : Nat} {PI : Int32 → va_W → Prop} {PE : Nat → va_W → Prop} (hrm : rm0.frames ≤ 100 ∧ rm0.locals ≤ 5000 ∧ rm0.cells = mc ∧ rm0.slots = ms) (he : (b, .inr (11, fs)) ∈ w0 ++ wO tc ao o) (hPE : ∀ k w1, PE k w1 → k = 0) (hM : CZ l (dC, dI) sk sv (TY tc) yX11_rests (.code yX11_rests cX11_rests 2 (some .int)) rm0 mc ms [.ref b, .int x1] (w0 ++ wO tc ao o) (PNc tc ao o PI) (PXc tc ao o PE)) : CZ l (dC, dI) sk sv (TY tc) yL_rests (.codeWith yL_rests cL_rests 4 (some .int) [(0, 9, 12, 24)]) (rmW mc ms) mc ms [.ref b, .int x1, .ref ao] (w0 ++ wO tc ao o) (PNW tc ao PI PE (fun _ => 1)) (fun _ _ => False) := by
  refine ofCZH (by decide) (Nat.le_of_ble_eq_true rfl) ?_
  intro pr e s m args below meth c A Q ls H locs X hr hlk hT hQ hD hP hS hl
  have hl : lv_has ls 4 [(0, .ref b), (1, .int x1), (2, .ref ao)] := hl
  refine lv_aload_n X.1 X.2.1 dL_rests_0 rfl (lv_at hl 2 rfl) ?_
  refine lv_iconst (v := 0) X.1 X.2.1 dL_rests_1 (by decide) ?_
  refine lv_aload_n X.1 X.2.1 dL_rests_2 rfl (lv_at hl 0 rfl) ?_
  refine lv_iload_n X.1 X.2.1 dL_rests_3 rfl (lv_at hl 1 rfl) ?_
  refine callZ (As := [.int x1]) (rest := [.int 0, .ref ao]) X hM mw_7_33 mw_7_34 mw_7_35 mw_1_1 mw_7_36 dc_X11_rests ⟨Nat.succ_le_succ hrm.1, by have := hrm.2.1; show 8 + (2 + 11) + rm0.locals ≤ 5100; omega⟩ hrm.2.2.1 hrm.2.2.2 ⟨by rw [Nat.zero_add]; exact Nat.le_refl _, by rw [Nat.zero_add]; exact Nat.le_refl _⟩ hP hD hS he rfl rfl hl.1 (Nat.le_of_ble_eq_true rfl) dL_rests_4 (fun v w' H locs hn hP hD hS => ?_) (fun E q ce w' H locs hx hP hD hS y1 y2 y3 => ?_)
  · obtain ⟨r, w1, rfl, rfl, hI⟩ := hn
    refine W.eq (g2 := F0 m 7 ls [.int r, .int 0, .ref ao]) rfl ?_
    refine lv_i2l X.1 X.2.1 dL_rests_7 rfl ?_
    refine va_last X.1 X.2.1 X.2.2.2.2.2.2.1 hP hD hS w1.length 2 (o_at tc ao o w1) rfl (by unfold vp_in; decide) dL_rests_8 (fun H locs hP hD hS => ?_)
    rw [o_set] at hP hD
    refine lv_goto (tgt := 15) X.1 X.2.1 dL_rests_9 (by decide) ?_
    refine lv_iconst (v := 0) X.1 X.2.1 dL_rests_15 (by decide) ?_
    exact retZ_i X.1 X.2.1 hr hlk hQ ⟨0, _, w1, rfl, rfl, Or.inl ⟨rfl, r, rfl, hI⟩⟩ hP hD hS (by rw [Nat.zero_add]; exact Nat.le_refl _) (by rw [Nat.zero_add]; exact Nat.le_refl _) dL_rests_16
  · obtain ⟨k, w1, rfl, rfl, hE⟩ := hx
    obtain rfl := hPE k w1 hE
    · refine vx_catch (name := "java/lang/IndexOutOfBoundsException") (E := exn 0) X.2.2.2.1 [] ⟨0, 9, 12, 24⟩ [] hT (fun z hz => absurd hz List.not_mem_nil) (by decide) (by decide) (X.2.2.2.2.1 _ mw_4_204) (va_Nw.use (nw_tab (nwTab_ok _ (List.mem_of_getElem? (i := 13) rfl))) (X.2.2.2.2.2.2.2.2.2.2.2.2.1 _ (List.mem_of_getElem? (i := 13) rfl))) y1 y2 y3 ?_
      refine lv_astore_n (lv' := [(3, .ref q), (0, .ref b), (1, .int x1), (2, .ref ao)]) X.1 X.2.1 dL_rests_12 rfl hl (by decide) rfl (fun ls hl => ?_)
      refine lv_iconst (v := 1) X.1 X.2.1 dL_rests_13 (by decide) ?_
      exact retZ_i X.1 X.2.1 hr hlk hQ ⟨1, o, w1, rfl, rfl, Or.inr ⟨0, rfl, hE⟩⟩ hP hD hS (by rw [Nat.zero_add]; exact Nat.le_refl _) (by rw [Nat.zero_add]; exact Nat.le_refl _) dL_rests_14

theorem mwc_odds : Cond.codeWith yL_odds cL_odds 6 (some .int) [(0, 12, 15, 24), (0, 12, 19, 13)] ∈ WG := wg_t (List.mem_append_right _ (List.mem_append_right _ (List.mem_append_right _ (List.mem_append_right _ (List.mem_append_right _ (List.mem_append_right _ (List.mem_append_left _ (List.mem_of_getElem? (i := 51) rfl)))))))) rfl
theorem dcl_odds : yL_odds.cls ≠ "java/lang/invoke/MethodHandle" ∧ yL_odds.cls ≠ "java/lang/invoke/VarHandle" ∧ (parseMethodDescriptor yL_odds.desc).map (fun d => d.parameters.length) = some 5 := by decide +kernel
set_option maxHeartbeats 1000000 in
theorem w_odds (l : Launch) (dC : Nat → ClassId) (dI : Nat → Nat → Nat) (sk sv : Nat → Nat) (tc : Nat → ClassId) (b ao : Nat) (o : Nat → Int64) (x1 : Int32) (x2 : Int32) (x3 : Int32) (w0 : va_W) {fs : List Value} {rm0 : Room} {mc ms : Nat} {PI : Int32 → va_W → Prop} {PE : Nat → va_W → Prop} (hrm : rm0.frames ≤ 100 ∧ rm0.locals ≤ 5000 ∧ rm0.cells = mc ∧ rm0.slots = ms) (he : (b, .inr (11, fs)) ∈ w0 ++ wO tc ao o) (hPE : ∀ k w1, PE k w1 → k = 0 ∨ k = 1) (hM : CZ l (dC, dI) sk sv (TY tc) yX11_odds (.code yX11_odds cX11_odds 7 (some .int)) rm0 mc ms [.ref b, .int x1, .int x2, .int x3] (w0 ++ wO tc ao o) (PNc tc ao o PI) (PXc tc ao o PE)) : CZ l (dC, dI) sk sv (TY tc) yL_odds (.codeWith yL_odds cL_odds 6 (some .int) [(0, 12, 15, 24), (0, 12, 19, 13)]) (rmW mc ms) mc ms [.ref b, .int x1, .int x2, .int x3, .ref ao] (w0 ++ wO tc ao o) (PNW tc ao PI PE (fun k => if k = 0 then 1 else 2)) (fun _ _ => False) := by
  refine ofCZH (by decide) (Nat.le_of_ble_eq_true rfl) ?_
  intro pr e s m args below meth c A Q ls H locs X hr hlk hT hQ hD hP hS hl
  have hl : lv_has ls 6 [(0, .ref b), (1, .int x1), (2, .int x2), (3, .int x3), (4, .ref ao)] := hl
  refine lv_aload X.1 X.2.1 dL_odds_0 (lv_at hl 4 rfl) ?_
  refine lv_iconst (v := 0) X.1 X.2.1 dL_odds_2 (by decide) ?_
  refine lv_aload_n X.1 X.2.1 dL_odds_3 rfl (lv_at hl 0 rfl) ?_
  refine lv_iload_n X.1 X.2.1 dL_odds_4 rfl (lv_at hl 1 rfl) ?_
  refine lv_iload_n X.1 X.2.1 dL_odds_5 rfl (lv_at hl 2 rfl) ?_
  refine lv_iload_n X.1 X.2.1 dL_odds_6 rfl (lv_at hl 3 rfl) ?_
  refine callZ (As := [.int x1, .int x2, .int x3]) (rest := [.int 0, .ref ao]) X hM mw_7_52 mw_7_53 mw_7_54 mw_1_1 mw_7_55 dc_X11_odds ⟨Nat.succ_le_succ hrm.1, by have := hrm.2.1; show 8 + (7 + 11) + rm0.locals ≤ 5100; omega⟩ hrm.2.2.1 hrm.2.2.2 ⟨by rw [Nat.zero_add]; exact Nat.le_refl _, by rw [Nat.zero_add]; exact Nat.le_refl _⟩ hP hD hS he rfl rfl hl.1 (Nat.le_of_ble_eq_true rfl) dL_odds_7 (fun v w' H locs hn hP hD hS => ?_) (fun E q ce w' H locs hx hP hD hS y1 y2 y3 => ?_)
  · obtain ⟨r, w1, rfl, rfl, hI⟩ := hn
    refine W.eq (g2 := F0 m 10 ls [.int r, .int 0, .ref ao]) rfl ?_
    refine lv_i2l X.1 X.2.1 dL_odds_10 rfl ?_
    refine va_last X.1 X.2.1 X.2.2.2.2.2.2.1 hP hD hS w1.length 2 (o_at tc ao o w1) rfl (by unfold vp_in; decide) dL_odds_11 (fun H locs hP hD hS => ?_)
    rw [o_set] at hP hD
    refine lv_goto (tgt := 23) X.1 X.2.1 dL_odds_12 (by decide) ?_
    refine lv_iconst (v := 0) X.1 X.2.1 dL_odds_23 (by decide) ?_
    exact retZ_i X.1 X.2.1 hr hlk hQ ⟨0, _, w1, rfl, rfl, Or.inl ⟨rfl, r, rfl, hI⟩⟩ hP hD hS (by rw [Nat.zero_add]; exact Nat.le_refl _) (by rw [Nat.zero_add]; exact Nat.le_refl _) dL_odds_24
  · obtain ⟨k, w1, rfl, rfl, hE⟩ := hx
    obtain rfl | rfl := hPE k w1 hE
    · refine vx_catch (name := "java/lang/IndexOutOfBoundsException") (E := exn 0) X.2.2.2.1 [] ⟨0, 12, 15, 24⟩ [⟨0, 12, 19, 13⟩] hT (fun z hz => absurd hz List.not_mem_nil) (by decide) (by decide) (X.2.2.2.2.1 _ mw_4_204) (va_Nw.use (nw_tab (nwTab_ok _ (List.mem_of_getElem? (i := 13) rfl))) (X.2.2.2.2.2.2.2.2.2.2.2.2.1 _ (List.mem_of_getElem? (i := 13) rfl))) y1 y2 y3 ?_
      refine lv_astore (lv' := [(5, .ref q), (0, .ref b), (1, .int x1), (2, .int x2), (3, .int x3), (4, .ref ao)]) X.1 X.2.1 dL_odds_15 hl (by decide) rfl (fun ls hl => ?_)
      refine lv_iconst (v := 1) X.1 X.2.1 dL_odds_17 (by decide) ?_
      exact retZ_i X.1 X.2.1 hr hlk hQ ⟨1, o, w1, rfl, rfl, Or.inr ⟨0, rfl, hE⟩⟩ hP hD hS (by rw [Nat.zero_add]; exact Nat.le_refl _) (by rw [Nat.zero_add]; exact Nat.le_refl _) dL_odds_18
    · refine vx_catch (name := "java/lang/IllegalArgumentException") (E := exn 1) X.2.2.2.1 [⟨0, 12, 15, 24⟩] ⟨0, 12, 19, 13⟩ [] hT (fun z hz => by rw [List.mem_singleton.mp hz]; exact Or.inr ⟨by decide, "java/lang/IndexOutOfBoundsException", X.2.2.2.2.1 _ mw_4_204, X.2.2.2.2.2.2.2.2.2.2.2.2.2.1 _ (List.mem_of_getElem? (i := 8) rfl)⟩) (by decide) (by decide) (X.2.2.2.2.1 _ mw_3_114) (va_Nw.use (nw_tab (nwTab_ok _ (List.mem_of_getElem? (i := 4) rfl))) (X.2.2.2.2.2.2.2.2.2.2.2.2.1 _ (List.mem_of_getElem? (i := 4) rfl))) y1 y2 y3 ?_
      refine lv_astore (lv' := [(5, .ref q), (0, .ref b), (1, .int x1), (2, .int x2), (3, .int x3), (4, .ref ao)]) X.1 X.2.1 dL_odds_19 hl (by decide) rfl (fun ls hl => ?_)
      refine lv_iconst (v := 2) X.1 X.2.1 dL_odds_21 (by decide) ?_
      exact retZ_i X.1 X.2.1 hr hlk hQ ⟨2, o, w1, rfl, rfl, Or.inr ⟨1, rfl, hE⟩⟩ hP hD hS (by rw [Nat.zero_add]; exact Nat.le_refl _) (by rw [Nat.zero_add]; exact Nat.le_refl _) dL_odds_22

theorem mwc_uses : Cond.codeWith yL_uses cL_uses 4 (some .int) [(0, 9, 12, 24)] ∈ WG := wg_t (List.mem_append_right _ (List.mem_append_right _ (List.mem_append_right _ (List.mem_append_right _ (List.mem_append_right _ (List.mem_append_right _ (List.mem_append_left _ (List.mem_of_getElem? (i := 58) rfl)))))))) rfl
theorem dcl_uses : yL_uses.cls ≠ "java/lang/invoke/MethodHandle" ∧ yL_uses.cls ≠ "java/lang/invoke/VarHandle" ∧ (parseMethodDescriptor yL_uses.desc).map (fun d => d.parameters.length) = some 3 := by decide +kernel
set_option maxHeartbeats 1000000 in
theorem w_uses (l : Launch) (dC : Nat → ClassId) (dI : Nat → Nat → Nat) (sk sv : Nat → Nat) (tc : Nat → ClassId) (b ao : Nat) (o : Nat → Int64) (x1 : Int32) (w0 : va_W) {fs : List Value} {rm0 : Room} {mc ms : Nat} {PI : Int32 → va_W → Prop} {PE : Nat → va_W → Prop} (hrm : rm0.frames ≤ 100 ∧ rm0.locals ≤ 5000 ∧ rm0.cells = mc ∧ rm0.slots = ms) (he : (b, .inr (11, fs)) ∈ w0 ++ wO tc ao o) (hPE : ∀ k w1, PE k w1 → k = 0) (hM : CZ l (dC, dI) sk sv (TY tc) yX11_uses (.code yX11_uses cX11_uses 2 (some .int)) rm0 mc ms [.ref b, .int x1] (w0 ++ wO tc ao o) (PNc tc ao o PI) (PXc tc ao o PE)) : CZ l (dC, dI) sk sv (TY tc) yL_uses (.codeWith yL_uses cL_uses 4 (some .int) [(0, 9, 12, 24)]) (rmW mc ms) mc ms [.ref b, .int x1, .ref ao] (w0 ++ wO tc ao o) (PNW tc ao PI PE (fun _ => 1)) (fun _ _ => False) := by
  refine ofCZH (by decide) (Nat.le_of_ble_eq_true rfl) ?_
  intro pr e s m args below meth c A Q ls H locs X hr hlk hT hQ hD hP hS hl
  have hl : lv_has ls 4 [(0, .ref b), (1, .int x1), (2, .ref ao)] := hl
  refine lv_aload_n X.1 X.2.1 dL_uses_0 rfl (lv_at hl 2 rfl) ?_
  refine lv_iconst (v := 0) X.1 X.2.1 dL_uses_1 (by decide) ?_
  refine lv_aload_n X.1 X.2.1 dL_uses_2 rfl (lv_at hl 0 rfl) ?_
  refine lv_iload_n X.1 X.2.1 dL_uses_3 rfl (lv_at hl 1 rfl) ?_
  refine callZ (As := [.int x1]) (rest := [.int 0, .ref ao]) X hM mw_7_59 mw_7_60 mw_7_61 mw_1_1 mw_7_62 dc_X11_uses ⟨Nat.succ_le_succ hrm.1, by have := hrm.2.1; show 8 + (2 + 11) + rm0.locals ≤ 5100; omega⟩ hrm.2.2.1 hrm.2.2.2 ⟨by rw [Nat.zero_add]; exact Nat.le_refl _, by rw [Nat.zero_add]; exact Nat.le_refl _⟩ hP hD hS he rfl rfl hl.1 (Nat.le_of_ble_eq_true rfl) dL_uses_4 (fun v w' H locs hn hP hD hS => ?_) (fun E q ce w' H locs hx hP hD hS y1 y2 y3 => ?_)
  · obtain ⟨r, w1, rfl, rfl, hI⟩ := hn
    refine W.eq (g2 := F0 m 7 ls [.int r, .int 0, .ref ao]) rfl ?_
    refine lv_i2l X.1 X.2.1 dL_uses_7 rfl ?_
    refine va_last X.1 X.2.1 X.2.2.2.2.2.2.1 hP hD hS w1.length 2 (o_at tc ao o w1) rfl (by unfold vp_in; decide) dL_uses_8 (fun H locs hP hD hS => ?_)
    rw [o_set] at hP hD
    refine lv_goto (tgt := 15) X.1 X.2.1 dL_uses_9 (by decide) ?_
    refine lv_iconst (v := 0) X.1 X.2.1 dL_uses_15 (by decide) ?_
    exact retZ_i X.1 X.2.1 hr hlk hQ ⟨0, _, w1, rfl, rfl, Or.inl ⟨rfl, r, rfl, hI⟩⟩ hP hD hS (by rw [Nat.zero_add]; exact Nat.le_refl _) (by rw [Nat.zero_add]; exact Nat.le_refl _) dL_uses_16
  · obtain ⟨k, w1, rfl, rfl, hE⟩ := hx
    obtain rfl := hPE k w1 hE
    · refine vx_catch (name := "java/lang/IndexOutOfBoundsException") (E := exn 0) X.2.2.2.1 [] ⟨0, 9, 12, 24⟩ [] hT (fun z hz => absurd hz List.not_mem_nil) (by decide) (by decide) (X.2.2.2.2.1 _ mw_4_204) (va_Nw.use (nw_tab (nwTab_ok _ (List.mem_of_getElem? (i := 13) rfl))) (X.2.2.2.2.2.2.2.2.2.2.2.2.1 _ (List.mem_of_getElem? (i := 13) rfl))) y1 y2 y3 ?_
      refine lv_astore_n (lv' := [(3, .ref q), (0, .ref b), (1, .int x1), (2, .ref ao)]) X.1 X.2.1 dL_uses_12 rfl hl (by decide) rfl (fun ls hl => ?_)
      refine lv_iconst (v := 1) X.1 X.2.1 dL_uses_13 (by decide) ?_
      exact retZ_i X.1 X.2.1 hr hlk hQ ⟨1, o, w1, rfl, rfl, Or.inr ⟨0, rfl, hE⟩⟩ hP hD hS (by rw [Nat.zero_add]; exact Nat.le_refl _) (by rw [Nat.zero_add]; exact Nat.le_refl _) dL_uses_14

theorem mwc_ahead : Cond.codeWith yL_ahead cL_ahead 5 (some .int) [(0, 10, 13, 24), (0, 10, 17, 13)] ∈ WG := wg_t (List.mem_append_right _ (List.mem_append_right _ (List.mem_append_right _ (List.mem_append_right _ (List.mem_append_right _ (List.mem_append_right _ (List.mem_append_left _ (List.mem_of_getElem? (i := 65) rfl)))))))) rfl
theorem dcl_ahead : yL_ahead.cls ≠ "java/lang/invoke/MethodHandle" ∧ yL_ahead.cls ≠ "java/lang/invoke/VarHandle" ∧ (parseMethodDescriptor yL_ahead.desc).map (fun d => d.parameters.length) = some 4 := by decide +kernel
set_option maxHeartbeats 1000000 in
theorem w_ahead (l : Launch) (dC : Nat → ClassId) (dI : Nat → Nat → Nat) (sk sv : Nat → Nat) (tc : Nat → ClassId) (b ao : Nat) (o : Nat → Int64) (x1 : Int32) (x2 : Int32) (w0 : va_W) {fs : List Value} {rm0 : Room} {mc ms : Nat} {PI : Int32 → va_W → Prop} {PE : Nat → va_W → Prop} (hrm : rm0.frames ≤ 100 ∧ rm0.locals ≤ 5000 ∧ rm0.cells = mc ∧ rm0.slots = ms) (he : (b, .inr (11, fs)) ∈ w0 ++ wO tc ao o) (hPE : ∀ k w1, PE k w1 → k = 0 ∨ k = 1) (hM : CZ l (dC, dI) sk sv (TY tc) yX11_ahead (.code yX11_ahead cX11_ahead 3 (some .int)) rm0 mc ms [.ref b, .int x1, .int x2] (w0 ++ wO tc ao o) (PNc tc ao o PI) (PXc tc ao o PE)) : CZ l (dC, dI) sk sv (TY tc) yL_ahead (.codeWith yL_ahead cL_ahead 5 (some .int) [(0, 10, 13, 24), (0, 10, 17, 13)]) (rmW mc ms) mc ms [.ref b, .int x1, .int x2, .ref ao] (w0 ++ wO tc ao o) (PNW tc ao PI PE (fun k => if k = 0 then 1 else 2)) (fun _ _ => False) := by
  refine ofCZH (by decide) (Nat.le_of_ble_eq_true rfl) ?_
  intro pr e s m args below meth c A Q ls H locs X hr hlk hT hQ hD hP hS hl
  have hl : lv_has ls 5 [(0, .ref b), (1, .int x1), (2, .int x2), (3, .ref ao)] := hl
  refine lv_aload_n X.1 X.2.1 dL_ahead_0 rfl (lv_at hl 3 rfl) ?_
  refine lv_iconst (v := 0) X.1 X.2.1 dL_ahead_1 (by decide) ?_
  refine lv_aload_n X.1 X.2.1 dL_ahead_2 rfl (lv_at hl 0 rfl) ?_
  refine lv_iload_n X.1 X.2.1 dL_ahead_3 rfl (lv_at hl 1 rfl) ?_
  refine lv_iload_n X.1 X.2.1 dL_ahead_4 rfl (lv_at hl 2 rfl) ?_
  refine callZ (As := [.int x1, .int x2]) (rest := [.int 0, .ref ao]) X hM mw_7_66 mw_7_67 mw_7_68 mw_1_1 mw_7_69 dc_X11_ahead ⟨Nat.succ_le_succ hrm.1, by have := hrm.2.1; show 8 + (3 + 11) + rm0.locals ≤ 5100; omega⟩ hrm.2.2.1 hrm.2.2.2 ⟨by rw [Nat.zero_add]; exact Nat.le_refl _, by rw [Nat.zero_add]; exact Nat.le_refl _⟩ hP hD hS he rfl rfl hl.1 (Nat.le_of_ble_eq_true rfl) dL_ahead_5 (fun v w' H locs hn hP hD hS => ?_) (fun E q ce w' H locs hx hP hD hS y1 y2 y3 => ?_)
  · obtain ⟨r, w1, rfl, rfl, hI⟩ := hn
    refine W.eq (g2 := F0 m 8 ls [.int r, .int 0, .ref ao]) rfl ?_
    refine lv_i2l X.1 X.2.1 dL_ahead_8 rfl ?_
    refine va_last X.1 X.2.1 X.2.2.2.2.2.2.1 hP hD hS w1.length 2 (o_at tc ao o w1) rfl (by unfold vp_in; decide) dL_ahead_9 (fun H locs hP hD hS => ?_)
    rw [o_set] at hP hD
    refine lv_goto (tgt := 21) X.1 X.2.1 dL_ahead_10 (by decide) ?_
    refine lv_iconst (v := 0) X.1 X.2.1 dL_ahead_21 (by decide) ?_
    exact retZ_i X.1 X.2.1 hr hlk hQ ⟨0, _, w1, rfl, rfl, Or.inl ⟨rfl, r, rfl, hI⟩⟩ hP hD hS (by rw [Nat.zero_add]; exact Nat.le_refl _) (by rw [Nat.zero_add]; exact Nat.le_refl _) dL_ahead_22
  · obtain ⟨k, w1, rfl, rfl, hE⟩ := hx
    obtain rfl | rfl := hPE k w1 hE
    · refine vx_catch (name := "java/lang/IndexOutOfBoundsException") (E := exn 0) X.2.2.2.1 [] ⟨0, 10, 13, 24⟩ [⟨0, 10, 17, 13⟩] hT (fun z hz => absurd hz List.not_mem_nil) (by decide) (by decide) (X.2.2.2.2.1 _ mw_4_204) (va_Nw.use (nw_tab (nwTab_ok _ (List.mem_of_getElem? (i := 13) rfl))) (X.2.2.2.2.2.2.2.2.2.2.2.2.1 _ (List.mem_of_getElem? (i := 13) rfl))) y1 y2 y3 ?_
      refine lv_astore (lv' := [(4, .ref q), (0, .ref b), (1, .int x1), (2, .int x2), (3, .ref ao)]) X.1 X.2.1 dL_ahead_13 hl (by decide) rfl (fun ls hl => ?_)
      refine lv_iconst (v := 1) X.1 X.2.1 dL_ahead_15 (by decide) ?_
      exact retZ_i X.1 X.2.1 hr hlk hQ ⟨1, o, w1, rfl, rfl, Or.inr ⟨0, rfl, hE⟩⟩ hP hD hS (by rw [Nat.zero_add]; exact Nat.le_refl _) (by rw [Nat.zero_add]; exact Nat.le_refl _) dL_ahead_16
    · refine vx_catch (name := "java/lang/IllegalArgumentException") (E := exn 1) X.2.2.2.1 [⟨0, 10, 13, 24⟩] ⟨0, 10, 17, 13⟩ [] hT (fun z hz => by rw [List.mem_singleton.mp hz]; exact Or.inr ⟨by decide, "java/lang/IndexOutOfBoundsException", X.2.2.2.2.1 _ mw_4_204, X.2.2.2.2.2.2.2.2.2.2.2.2.2.1 _ (List.mem_of_getElem? (i := 8) rfl)⟩) (by decide) (by decide) (X.2.2.2.2.1 _ mw_3_114) (va_Nw.use (nw_tab (nwTab_ok _ (List.mem_of_getElem? (i := 4) rfl))) (X.2.2.2.2.2.2.2.2.2.2.2.2.1 _ (List.mem_of_getElem? (i := 4) rfl))) y1 y2 y3 ?_
      refine lv_astore (lv' := [(4, .ref q), (0, .ref b), (1, .int x1), (2, .int x2), (3, .ref ao)]) X.1 X.2.1 dL_ahead_17 hl (by decide) rfl (fun ls hl => ?_)
      refine lv_iconst (v := 2) X.1 X.2.1 dL_ahead_19 (by decide) ?_
      exact retZ_i X.1 X.2.1 hr hlk hQ ⟨2, o, w1, rfl, rfl, Or.inr ⟨1, rfl, hE⟩⟩ hP hD hS (by rw [Nat.zero_add]; exact Nat.le_refl _) (by rw [Nat.zero_add]; exact Nat.le_refl _) dL_ahead_20

theorem mwc_trial : Cond.codeWith yL_trial cL_trial 5 (some .int) [(0, 10, 13, 13)] ∈ WG := wg_t (List.mem_append_right _ (List.mem_append_right _ (List.mem_append_right _ (List.mem_append_right _ (List.mem_append_right _ (List.mem_append_right _ (List.mem_append_left _ (List.mem_of_getElem? (i := 72) rfl)))))))) rfl
theorem dcl_trial : yL_trial.cls ≠ "java/lang/invoke/MethodHandle" ∧ yL_trial.cls ≠ "java/lang/invoke/VarHandle" ∧ (parseMethodDescriptor yL_trial.desc).map (fun d => d.parameters.length) = some 4 := by decide +kernel
set_option maxHeartbeats 1000000 in
theorem w_trial (l : Launch) (dC : Nat → ClassId) (dI : Nat → Nat → Nat) (sk sv : Nat → Nat) (tc : Nat → ClassId) (b ao : Nat) (o : Nat → Int64) (x1 : Int32) (x2 : Int32) (w0 : va_W) {fs : List Value} {rm0 : Room} {mc ms : Nat} {PI : Int32 → va_W → Prop} {PE : Nat → va_W → Prop} (hrm : rm0.frames ≤ 100 ∧ rm0.locals ≤ 5000 ∧ rm0.cells = mc ∧ rm0.slots = ms) (he : (b, .inr (11, fs)) ∈ w0 ++ wO tc ao o) (hPE : ∀ k w1, PE k w1 → k = 1) (hM : CZ l (dC, dI) sk sv (TY tc) yX11_trial (.code yX11_trial cX11_trial 3 (some .int)) rm0 mc ms [.ref b, .int x1, .int x2] (w0 ++ wO tc ao o) (PNc tc ao o PI) (PXc tc ao o PE)) : CZ l (dC, dI) sk sv (TY tc) yL_trial (.codeWith yL_trial cL_trial 5 (some .int) [(0, 10, 13, 13)]) (rmW mc ms) mc ms [.ref b, .int x1, .int x2, .ref ao] (w0 ++ wO tc ao o) (PNW tc ao PI PE (fun _ => 1)) (fun _ _ => False) := by
  refine ofCZH (by decide) (Nat.le_of_ble_eq_true rfl) ?_
  intro pr e s m args below meth c A Q ls H locs X hr hlk hT hQ hD hP hS hl
  have hl : lv_has ls 5 [(0, .ref b), (1, .int x1), (2, .int x2), (3, .ref ao)] := hl
  refine lv_aload_n X.1 X.2.1 dL_trial_0 rfl (lv_at hl 3 rfl) ?_
  refine lv_iconst (v := 0) X.1 X.2.1 dL_trial_1 (by decide) ?_
  refine lv_aload_n X.1 X.2.1 dL_trial_2 rfl (lv_at hl 0 rfl) ?_
  refine lv_iload_n X.1 X.2.1 dL_trial_3 rfl (lv_at hl 1 rfl) ?_
  refine lv_iload_n X.1 X.2.1 dL_trial_4 rfl (lv_at hl 2 rfl) ?_
  refine callZ (As := [.int x1, .int x2]) (rest := [.int 0, .ref ao]) X hM mw_7_73 mw_7_74 mw_7_75 mw_1_1 mw_7_76 dc_X11_trial ⟨Nat.succ_le_succ hrm.1, by have := hrm.2.1; show 8 + (3 + 11) + rm0.locals ≤ 5100; omega⟩ hrm.2.2.1 hrm.2.2.2 ⟨by rw [Nat.zero_add]; exact Nat.le_refl _, by rw [Nat.zero_add]; exact Nat.le_refl _⟩ hP hD hS he rfl rfl hl.1 (Nat.le_of_ble_eq_true rfl) dL_trial_5 (fun v w' H locs hn hP hD hS => ?_) (fun E q ce w' H locs hx hP hD hS y1 y2 y3 => ?_)
  · obtain ⟨r, w1, rfl, rfl, hI⟩ := hn
    refine W.eq (g2 := F0 m 8 ls [.int r, .int 0, .ref ao]) rfl ?_
    refine lv_i2l X.1 X.2.1 dL_trial_8 rfl ?_
    refine va_last X.1 X.2.1 X.2.2.2.2.2.2.1 hP hD hS w1.length 2 (o_at tc ao o w1) rfl (by unfold vp_in; decide) dL_trial_9 (fun H locs hP hD hS => ?_)
    rw [o_set] at hP hD
    refine lv_goto (tgt := 17) X.1 X.2.1 dL_trial_10 (by decide) ?_
    refine lv_iconst (v := 0) X.1 X.2.1 dL_trial_17 (by decide) ?_
    exact retZ_i X.1 X.2.1 hr hlk hQ ⟨0, _, w1, rfl, rfl, Or.inl ⟨rfl, r, rfl, hI⟩⟩ hP hD hS (by rw [Nat.zero_add]; exact Nat.le_refl _) (by rw [Nat.zero_add]; exact Nat.le_refl _) dL_trial_18
  · obtain ⟨k, w1, rfl, rfl, hE⟩ := hx
    obtain rfl := hPE k w1 hE
    · refine vx_catch (name := "java/lang/IllegalArgumentException") (E := exn 1) X.2.2.2.1 [] ⟨0, 10, 13, 13⟩ [] hT (fun z hz => absurd hz List.not_mem_nil) (by decide) (by decide) (X.2.2.2.2.1 _ mw_3_114) (va_Nw.use (nw_tab (nwTab_ok _ (List.mem_of_getElem? (i := 4) rfl))) (X.2.2.2.2.2.2.2.2.2.2.2.2.1 _ (List.mem_of_getElem? (i := 4) rfl))) y1 y2 y3 ?_
      refine lv_astore (lv' := [(4, .ref q), (0, .ref b), (1, .int x1), (2, .int x2), (3, .ref ao)]) X.1 X.2.1 dL_trial_13 hl (by decide) rfl (fun ls hl => ?_)
      refine lv_iconst (v := 1) X.1 X.2.1 dL_trial_15 (by decide) ?_
      exact retZ_i X.1 X.2.1 hr hlk hQ ⟨1, o, w1, rfl, rfl, Or.inr ⟨1, rfl, hE⟩⟩ hP hD hS (by rw [Nat.zero_add]; exact Nat.le_refl _) (by rw [Nat.zero_add]; exact Nat.le_refl _) dL_trial_16

theorem mwc_span : Cond.codeWith yL_span cL_span 5 (some .int) [(0, 10, 13, 13)] ∈ WG := wg_t (List.mem_append_right _ (List.mem_append_right _ (List.mem_append_right _ (List.mem_append_right _ (List.mem_append_right _ (List.mem_append_right _ (List.mem_append_left _ (List.mem_of_getElem? (i := 80) rfl)))))))) rfl
theorem dcl_span : yL_span.cls ≠ "java/lang/invoke/MethodHandle" ∧ yL_span.cls ≠ "java/lang/invoke/VarHandle" ∧ (parseMethodDescriptor yL_span.desc).map (fun d => d.parameters.length) = some 4 := by decide +kernel
set_option maxHeartbeats 1000000 in
theorem w_span (l : Launch) (dC : Nat → ClassId) (dI : Nat → Nat → Nat) (sk sv : Nat → Nat) (tc : Nat → ClassId) (b ao : Nat) (o : Nat → Int64) (x1 : Int32) (x2 : Int32) (w0 : va_W) {fs : List Value} {rm0 : Room} {mc ms : Nat} {PI : Int32 → va_W → Prop} {PE : Nat → va_W → Prop} (hrm : rm0.frames ≤ 100 ∧ rm0.locals ≤ 5000 ∧ rm0.cells = mc ∧ rm0.slots = ms) (he : (b, .inr (11, fs)) ∈ w0 ++ wO tc ao o) (hPE : ∀ k w1, PE k w1 → k = 1) (hM : CZ l (dC, dI) sk sv (TY tc) yX11_span (.code yX11_span cX11_span 7 (some .int)) rm0 mc ms [.ref b, .int x1, .int x2] (w0 ++ wO tc ao o) (PNc tc ao o PI) (PXc tc ao o PE)) : CZ l (dC, dI) sk sv (TY tc) yL_span (.codeWith yL_span cL_span 5 (some .int) [(0, 10, 13, 13)]) (rmW mc ms) mc ms [.ref b, .int x1, .int x2, .ref ao] (w0 ++ wO tc ao o) (PNW tc ao PI PE (fun _ => 1)) (fun _ _ => False) := by
  refine ofCZH (by decide) (Nat.le_of_ble_eq_true rfl) ?_
  intro pr e s m args below meth c A Q ls H locs X hr hlk hT hQ hD hP hS hl
  have hl : lv_has ls 5 [(0, .ref b), (1, .int x1), (2, .int x2), (3, .ref ao)] := hl
  refine lv_aload_n X.1 X.2.1 dL_span_0 rfl (lv_at hl 3 rfl) ?_
  refine lv_iconst (v := 0) X.1 X.2.1 dL_span_1 (by decide) ?_
  refine lv_aload_n X.1 X.2.1 dL_span_2 rfl (lv_at hl 0 rfl) ?_
  refine lv_iload_n X.1 X.2.1 dL_span_3 rfl (lv_at hl 1 rfl) ?_
  refine lv_iload_n X.1 X.2.1 dL_span_4 rfl (lv_at hl 2 rfl) ?_
  refine callZ (As := [.int x1, .int x2]) (rest := [.int 0, .ref ao]) X hM mw_7_81 mw_7_82 mw_7_83 mw_1_1 mw_7_84 dc_X11_span ⟨Nat.succ_le_succ hrm.1, by have := hrm.2.1; show 8 + (7 + 11) + rm0.locals ≤ 5100; omega⟩ hrm.2.2.1 hrm.2.2.2 ⟨by rw [Nat.zero_add]; exact Nat.le_refl _, by rw [Nat.zero_add]; exact Nat.le_refl _⟩ hP hD hS he rfl rfl hl.1 (Nat.le_of_ble_eq_true rfl) dL_span_5 (fun v w' H locs hn hP hD hS => ?_) (fun E q ce w' H locs hx hP hD hS y1 y2 y3 => ?_)
  · obtain ⟨r, w1, rfl, rfl, hI⟩ := hn
    refine W.eq (g2 := F0 m 8 ls [.int r, .int 0, .ref ao]) rfl ?_
    refine lv_i2l X.1 X.2.1 dL_span_8 rfl ?_
    refine va_last X.1 X.2.1 X.2.2.2.2.2.2.1 hP hD hS w1.length 2 (o_at tc ao o w1) rfl (by unfold vp_in; decide) dL_span_9 (fun H locs hP hD hS => ?_)
    rw [o_set] at hP hD
    refine lv_goto (tgt := 17) X.1 X.2.1 dL_span_10 (by decide) ?_
    refine lv_iconst (v := 0) X.1 X.2.1 dL_span_17 (by decide) ?_
    exact retZ_i X.1 X.2.1 hr hlk hQ ⟨0, _, w1, rfl, rfl, Or.inl ⟨rfl, r, rfl, hI⟩⟩ hP hD hS (by rw [Nat.zero_add]; exact Nat.le_refl _) (by rw [Nat.zero_add]; exact Nat.le_refl _) dL_span_18
  · obtain ⟨k, w1, rfl, rfl, hE⟩ := hx
    obtain rfl := hPE k w1 hE
    · refine vx_catch (name := "java/lang/IllegalArgumentException") (E := exn 1) X.2.2.2.1 [] ⟨0, 10, 13, 13⟩ [] hT (fun z hz => absurd hz List.not_mem_nil) (by decide) (by decide) (X.2.2.2.2.1 _ mw_3_114) (va_Nw.use (nw_tab (nwTab_ok _ (List.mem_of_getElem? (i := 4) rfl))) (X.2.2.2.2.2.2.2.2.2.2.2.2.1 _ (List.mem_of_getElem? (i := 4) rfl))) y1 y2 y3 ?_
      refine lv_astore (lv' := [(4, .ref q), (0, .ref b), (1, .int x1), (2, .int x2), (3, .ref ao)]) X.1 X.2.1 dL_span_13 hl (by decide) rfl (fun ls hl => ?_)
      refine lv_iconst (v := 1) X.1 X.2.1 dL_span_15 (by decide) ?_
      exact retZ_i X.1 X.2.1 hr hlk hQ ⟨1, o, w1, rfl, rfl, Or.inr ⟨1, rfl, hE⟩⟩ hP hD hS (by rw [Nat.zero_add]; exact Nat.le_refl _) (by rw [Nat.zero_add]; exact Nat.le_refl _) dL_span_16

theorem mwc_led : Cond.codeWith yL_led cL_led 5 (some .int) [(0, 10, 13, 24)] ∈ WG := wg_t (List.mem_append_right _ (List.mem_append_right _ (List.mem_append_right _ (List.mem_append_right _ (List.mem_append_right _ (List.mem_append_right _ (List.mem_append_left _ (List.mem_of_getElem? (i := 88) rfl)))))))) rfl
theorem dcl_led : yL_led.cls ≠ "java/lang/invoke/MethodHandle" ∧ yL_led.cls ≠ "java/lang/invoke/VarHandle" ∧ (parseMethodDescriptor yL_led.desc).map (fun d => d.parameters.length) = some 4 := by decide +kernel
set_option maxHeartbeats 1000000 in
theorem w_led (l : Launch) (dC : Nat → ClassId) (dI : Nat → Nat → Nat) (sk sv : Nat → Nat) (tc : Nat → ClassId) (b ao : Nat) (o : Nat → Int64) (x1 : Int32) (x2 : Int32) (w0 : va_W) {fs : List Value} {rm0 : Room} {mc ms : Nat} {PI : Int32 → va_W → Prop} {PE : Nat → va_W → Prop} (hrm : rm0.frames ≤ 100 ∧ rm0.locals ≤ 5000 ∧ rm0.cells = mc ∧ rm0.slots = ms) (he : (b, .inr (11, fs)) ∈ w0 ++ wO tc ao o) (hPE : ∀ k w1, PE k w1 → k = 0) (hM : CZ l (dC, dI) sk sv (TY tc) yX11_led (.code yX11_led cX11_led 3 (some .int)) rm0 mc ms [.ref b, .int x1, .int x2] (w0 ++ wO tc ao o) (PNc tc ao o PI) (PXc tc ao o PE)) : CZ l (dC, dI) sk sv (TY tc) yL_led (.codeWith yL_led cL_led 5 (some .int) [(0, 10, 13, 24)]) (rmW mc ms) mc ms [.ref b, .int x1, .int x2, .ref ao] (w0 ++ wO tc ao o) (PNW tc ao PI PE (fun _ => 1)) (fun _ _ => False) := by
  refine ofCZH (by decide) (Nat.le_of_ble_eq_true rfl) ?_
  intro pr e s m args below meth c A Q ls H locs X hr hlk hT hQ hD hP hS hl
  have hl : lv_has ls 5 [(0, .ref b), (1, .int x1), (2, .int x2), (3, .ref ao)] := hl
  refine lv_aload_n X.1 X.2.1 dL_led_0 rfl (lv_at hl 3 rfl) ?_
  refine lv_iconst (v := 0) X.1 X.2.1 dL_led_1 (by decide) ?_
  refine lv_aload_n X.1 X.2.1 dL_led_2 rfl (lv_at hl 0 rfl) ?_
  refine lv_iload_n X.1 X.2.1 dL_led_3 rfl (lv_at hl 1 rfl) ?_
  refine lv_iload_n X.1 X.2.1 dL_led_4 rfl (lv_at hl 2 rfl) ?_
  refine callZ (As := [.int x1, .int x2]) (rest := [.int 0, .ref ao]) X hM mw_7_89 mw_7_90 mw_7_91 mw_1_1 mw_7_92 dc_X11_led ⟨Nat.succ_le_succ hrm.1, by have := hrm.2.1; show 8 + (3 + 11) + rm0.locals ≤ 5100; omega⟩ hrm.2.2.1 hrm.2.2.2 ⟨by rw [Nat.zero_add]; exact Nat.le_refl _, by rw [Nat.zero_add]; exact Nat.le_refl _⟩ hP hD hS he rfl rfl hl.1 (Nat.le_of_ble_eq_true rfl) dL_led_5 (fun v w' H locs hn hP hD hS => ?_) (fun E q ce w' H locs hx hP hD hS y1 y2 y3 => ?_)
  · obtain ⟨r, w1, rfl, rfl, hI⟩ := hn
    refine W.eq (g2 := F0 m 8 ls [.int r, .int 0, .ref ao]) rfl ?_
    refine lv_i2l X.1 X.2.1 dL_led_8 rfl ?_
    refine va_last X.1 X.2.1 X.2.2.2.2.2.2.1 hP hD hS w1.length 2 (o_at tc ao o w1) rfl (by unfold vp_in; decide) dL_led_9 (fun H locs hP hD hS => ?_)
    rw [o_set] at hP hD
    refine lv_goto (tgt := 17) X.1 X.2.1 dL_led_10 (by decide) ?_
    refine lv_iconst (v := 0) X.1 X.2.1 dL_led_17 (by decide) ?_
    exact retZ_i X.1 X.2.1 hr hlk hQ ⟨0, _, w1, rfl, rfl, Or.inl ⟨rfl, r, rfl, hI⟩⟩ hP hD hS (by rw [Nat.zero_add]; exact Nat.le_refl _) (by rw [Nat.zero_add]; exact Nat.le_refl _) dL_led_18
  · obtain ⟨k, w1, rfl, rfl, hE⟩ := hx
    obtain rfl := hPE k w1 hE
    · refine vx_catch (name := "java/lang/IndexOutOfBoundsException") (E := exn 0) X.2.2.2.1 [] ⟨0, 10, 13, 24⟩ [] hT (fun z hz => absurd hz List.not_mem_nil) (by decide) (by decide) (X.2.2.2.2.1 _ mw_4_204) (va_Nw.use (nw_tab (nwTab_ok _ (List.mem_of_getElem? (i := 13) rfl))) (X.2.2.2.2.2.2.2.2.2.2.2.2.1 _ (List.mem_of_getElem? (i := 13) rfl))) y1 y2 y3 ?_
      refine lv_astore (lv' := [(4, .ref q), (0, .ref b), (1, .int x1), (2, .int x2), (3, .ref ao)]) X.1 X.2.1 dL_led_13 hl (by decide) rfl (fun ls hl => ?_)
      refine lv_iconst (v := 1) X.1 X.2.1 dL_led_15 (by decide) ?_
      exact retZ_i X.1 X.2.1 hr hlk hQ ⟨1, o, w1, rfl, rfl, Or.inr ⟨0, rfl, hE⟩⟩ hP hD hS (by rw [Nat.zero_add]; exact Nat.le_refl _) (by rw [Nat.zero_add]; exact Nat.le_refl _) dL_led_16

theorem mwc_log : Cond.codeWith yL_log cL_log 5 (some .int) [(0, 10, 13, 26)] ∈ WG := wg_t (List.mem_append_right _ (List.mem_append_right _ (List.mem_append_right _ (List.mem_append_right _ (List.mem_append_right _ (List.mem_append_right _ (List.mem_append_left _ (List.mem_of_getElem? (i := 107) rfl)))))))) rfl
theorem dcl_log : yL_log.cls ≠ "java/lang/invoke/MethodHandle" ∧ yL_log.cls ≠ "java/lang/invoke/VarHandle" ∧ (parseMethodDescriptor yL_log.desc).map (fun d => d.parameters.length) = some 4 := by decide +kernel
set_option maxHeartbeats 1000000 in
theorem w_log (l : Launch) (dC : Nat → ClassId) (dI : Nat → Nat → Nat) (sk sv : Nat → Nat) (tc : Nat → ClassId) (b ao : Nat) (o : Nat → Int64) (x1 : Int32) (x2 : Int32) (w0 : va_W) {fs : List Value} {rm0 : Room} {mc ms : Nat} {PI : Int32 → va_W → Prop} {PE : Nat → va_W → Prop} (hrm : rm0.frames ≤ 100 ∧ rm0.locals ≤ 5000 ∧ rm0.cells = mc ∧ rm0.slots = ms) (he : (b, .inr (11, fs)) ∈ w0 ++ wO tc ao o) (hPE : ∀ k w1, PE k w1 → k = 2) (hM : CZ l (dC, dI) sk sv (TY tc) yX11_log (.code yX11_log cX11_log 3 (some .int)) rm0 mc ms [.ref b, .int x1, .int x2] (w0 ++ wO tc ao o) (PNc tc ao o PI) (PXc tc ao o PE)) : CZ l (dC, dI) sk sv (TY tc) yL_log (.codeWith yL_log cL_log 5 (some .int) [(0, 10, 13, 26)]) (rmW mc ms) mc ms [.ref b, .int x1, .int x2, .ref ao] (w0 ++ wO tc ao o) (PNW tc ao PI PE (fun _ => 1)) (fun _ _ => False) := by
  refine ofCZH (by decide) (Nat.le_of_ble_eq_true rfl) ?_
  intro pr e s m args below meth c A Q ls H locs X hr hlk hT hQ hD hP hS hl
  have hl : lv_has ls 5 [(0, .ref b), (1, .int x1), (2, .int x2), (3, .ref ao)] := hl
  refine lv_aload_n X.1 X.2.1 dL_log_0 rfl (lv_at hl 3 rfl) ?_
  refine lv_iconst (v := 0) X.1 X.2.1 dL_log_1 (by decide) ?_
  refine lv_aload_n X.1 X.2.1 dL_log_2 rfl (lv_at hl 0 rfl) ?_
  refine lv_iload_n X.1 X.2.1 dL_log_3 rfl (lv_at hl 1 rfl) ?_
  refine lv_iload_n X.1 X.2.1 dL_log_4 rfl (lv_at hl 2 rfl) ?_
  refine callZ (As := [.int x1, .int x2]) (rest := [.int 0, .ref ao]) X hM mw_7_108 mw_7_109 mw_7_110 mw_1_1 mw_7_111 dc_X11_log ⟨Nat.succ_le_succ hrm.1, by have := hrm.2.1; show 8 + (3 + 11) + rm0.locals ≤ 5100; omega⟩ hrm.2.2.1 hrm.2.2.2 ⟨by rw [Nat.zero_add]; exact Nat.le_refl _, by rw [Nat.zero_add]; exact Nat.le_refl _⟩ hP hD hS he rfl rfl hl.1 (Nat.le_of_ble_eq_true rfl) dL_log_5 (fun v w' H locs hn hP hD hS => ?_) (fun E q ce w' H locs hx hP hD hS y1 y2 y3 => ?_)
  · obtain ⟨r, w1, rfl, rfl, hI⟩ := hn
    refine W.eq (g2 := F0 m 8 ls [.int r, .int 0, .ref ao]) rfl ?_
    refine lv_i2l X.1 X.2.1 dL_log_8 rfl ?_
    refine va_last X.1 X.2.1 X.2.2.2.2.2.2.1 hP hD hS w1.length 2 (o_at tc ao o w1) rfl (by unfold vp_in; decide) dL_log_9 (fun H locs hP hD hS => ?_)
    rw [o_set] at hP hD
    refine lv_goto (tgt := 17) X.1 X.2.1 dL_log_10 (by decide) ?_
    refine lv_iconst (v := 0) X.1 X.2.1 dL_log_17 (by decide) ?_
    exact retZ_i X.1 X.2.1 hr hlk hQ ⟨0, _, w1, rfl, rfl, Or.inl ⟨rfl, r, rfl, hI⟩⟩ hP hD hS (by rw [Nat.zero_add]; exact Nat.le_refl _) (by rw [Nat.zero_add]; exact Nat.le_refl _) dL_log_18
  · obtain ⟨k, w1, rfl, rfl, hE⟩ := hx
    obtain rfl := hPE k w1 hE
    · refine vx_catch (name := "java/util/NoSuchElementException") (E := exn 2) X.2.2.2.1 [] ⟨0, 10, 13, 26⟩ [] hT (fun z hz => absurd hz List.not_mem_nil) (by decide) (by decide) (X.2.2.2.2.1 _ mw_4_205) (va_Nw.use (nw_tab (nwTab_ok _ (List.mem_of_getElem? (i := 14) rfl))) (X.2.2.2.2.2.2.2.2.2.2.2.2.1 _ (List.mem_of_getElem? (i := 14) rfl))) y1 y2 y3 ?_
      refine lv_astore (lv' := [(4, .ref q), (0, .ref b), (1, .int x1), (2, .int x2), (3, .ref ao)]) X.1 X.2.1 dL_log_13 hl (by decide) rfl (fun ls hl => ?_)
      refine lv_iconst (v := 1) X.1 X.2.1 dL_log_15 (by decide) ?_
      exact retZ_i X.1 X.2.1 hr hlk hQ ⟨1, o, w1, rfl, rfl, Or.inr ⟨2, rfl, hE⟩⟩ hP hD hS (by rw [Nat.zero_add]; exact Nat.le_refl _) (by rw [Nat.zero_add]; exact Nat.le_refl _) dL_log_16
