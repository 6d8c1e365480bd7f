/-! Arrays.copyOf of a row of ints -/
theorem mw_4_173 : (Jvm.Cond.sameMethod "[I" "java/lang/Object" "clone" "()Ljava/lang/Object;") ∈ WG := wg_t (List.mem_append_right _ (List.mem_append_right _ (List.mem_append_right _ (List.mem_append_left _ (List.mem_of_getElem? (i := 173) rfl))))) rfl
def cpOf (f : Nat → Int32) (N : Nat) (ni : Int32) : Nat → Int32 := if ni = Int32.ofNat N then f else va_cpy f (fun _ => 0) 0 0 (if ni < Int32.ofNat N then ni else Int32.ofNat N).toNatClampNeg
abbrev rm_cp (M : Nat) : Room := { frames := 1, cells := 1, slots := M, locals := 60 }
theorem i32_nn {z : Int32} (hz : ¬ z < 0) : z.toInt = (z.toNatClampNeg : Int) := by
  have h0 : (0 : Int) ≤ z.toInt := by
    have h1 := Int32.le_iff_toInt_le.mp (Int32.not_lt.mp hz)
    simpa using h1
  show z.toInt = ((z.toInt.toNat : Nat) : Int)
  omega
set_option maxHeartbeats 4000000 in
theorem n_copyOf (l : Launch) (dC : Nat → ClassId) (dI : Nat → Nat → Nat) (sk sv : Nat → Nat) (tc : Nat → ClassId) (b N : Nat) (f : Nat → Int32) (ni : Int32) (M : Nat) (hNi : (Int32.ofNat N).toInt = (N : Int)) (h0 : ¬ ni < 0) (hM : ni.toNatClampNeg ≤ M) (hM0 : M ≤ 1000) :
    CR l (dC, dI) sk sv (TY tc) yJ7_copyOf_59c91 cJ7_copyOf_59c91 3 (some (.array .int)) (rm_cp M) 1 M [.ref b, .int ni] [(b, .inl (tc 0, N, .inl f))] (fun q : Nat => some (.ref q)) (fun q : Nat => [(b, .inl (tc 0, N, .inl f)), (q, .inl (tc 0, ni.toNatClampNeg, .inl (cpOf f N ni)))]) := by
  have hn := i32_nn h0
  refine ofCR (by decide) (Nat.le_of_ble_eq_true rfl) ?_
  intro pr e s m args below meth c A Q ls H locs X hin hQ hD hP hS hl
  have hl : lv_has ls 3 [(0, .ref b), (1, .int ni)] := hl
  have ok : ∀ w ∈ WG, w.before args s = true := fun w h => X.2.2.2.2.2.1 w (List.mem_cons_of_mem _ h)
  refine lv_iload_n X.1 X.2.1 dJ7_copyOf_59c91_0 rfl (lv_at hl 1 rfl) ?_
  refine lv_aload_n X.1 X.2.1 dJ7_copyOf_59c91_1 rfl (lv_at hl 0 rfl) ?_
  refine r_alen (v := Int32.ofNat N) X hP 0 0 rfl rfl rfl dJ7_copyOf_59c91_2 ?_
  refine lv_icmp_ne (tgt := 14) X.1 X.2.1 dJ7_copyOf_59c91_3 (by decide) (fun hc => ?_) (fun hc => ?_)
  · refine lv_iload_n X.1 X.2.1 dJ7_copyOf_59c91_14 rfl (lv_at hl 1 rfl) ?_
    refine r_newi (c0 := tc 0) (N := ni.toNatClampNeg) X mw_1_78 rfl ⟨h0, rfl, by omega⟩ hP hD hS (Nat.le_of_ble_eq_true rfl) (by show 0 + ni.toNatClampNeg ≤ M; omega) dJ7_copyOf_59c91_15 (fun q H hP hD hS => ?_)
    refine lv_astore_n (lv' := [(2, .ref q), (0, .ref b), (1, .int ni)]) X.1 X.2.1 dJ7_copyOf_59c91_17 rfl hl (by decide) rfl (fun ls hl => ?_)
    refine lv_aload_n X.1 X.2.1 dJ7_copyOf_59c91_18 rfl (lv_at hl 1 rfl) ?_
    refine lv_iconst (v := 0) X.1 X.2.1 dJ7_copyOf_59c91_19 (by decide) ?_
    refine lv_aload_n X.1 X.2.1 dJ7_copyOf_59c91_20 rfl (lv_at hl 0 rfl) ?_
    refine lv_iconst (v := 0) X.1 X.2.1 dJ7_copyOf_59c91_21 (by decide) ?_
    refine lv_aload_n X.1 X.2.1 dJ7_copyOf_59c91_22 rfl (lv_at hl 1 rfl) ?_
    refine r_alen (v := Int32.ofNat N) X hP 0 0 rfl rfl rfl dJ7_copyOf_59c91_23 ?_
    refine lv_iload_n X.1 X.2.1 dJ7_copyOf_59c91_24 rfl (lv_at hl 2 rfl) ?_
    refine r_min X mw_4_179 mw_3_9 mw_1_25 mw_3_10 hl.1 (Nat.le_of_ble_eq_true rfl) (Nat.le_of_ble_eq_true rfl) ⟨Nat.le_of_ble_eq_true rfl, by show 0 + ni.toNatClampNeg ≤ M; omega⟩ dJ7_copyOf_59c91_25 ?_
    have hm : ¬ (if ni < Int32.ofNat N then ni else Int32.ofNat N) < 0 ∧ (if ni < Int32.ofNat N then ni else Int32.ofNat N).toNatClampNeg ≤ N ∧ (if ni < Int32.ofNat N then ni else Int32.ofNat N).toNatClampNeg ≤ ni.toNatClampNeg := by
      have hN0 : ¬ Int32.ofNat N < 0 := fun h9 => by
        have h8 := Int32.lt_iff_toInt_lt.mp h9
        rw [hNi] at h8
        have h7 : (0 : Int32).toInt = 0 := by decide
        omega
      have hN1 := i32_nn hN0
      by_cases h9 : ni < Int32.ofNat N
      · rw [if_pos h9]
        have h8 := Int32.lt_iff_toInt_lt.mp h9
        exact ⟨h0, by omega, Nat.le_refl _⟩
      · rw [if_neg h9]
        have h8 := Int32.le_iff_toInt_le.mp (Int32.not_lt.mp h9)
        exact ⟨hN0, by omega, by omega⟩
    have z0 : (0 : Int32).toNatClampNeg = 0 := by decide
    refine va_copyi (ws := [(b, .inl (tc 0, N, .inl f)), (q, .inl (tc 0, ni.toNatClampNeg, .inl (fun _ => 0)))]) (sp := 0) (dp := 0) (n := if ni < Int32.ofNat N then ni else Int32.ofNat N) X.1 X.2.1 (X.2.2.2.1.trans hl.1.symm) X.2.2.2.2.1 (ok _ mw_4_180) (ok _ mw_3_85) (ok _ mw_3_84) (ok _ mw_1_13) X.2.2.2.2.2.2.2.2.1 hP hD hS 0 1 0 0 rfl rfl rfl rfl rfl (by decide) (by decide) hm.1 (by rw [z0, Nat.zero_add]; exact hm.2.1) (by rw [z0, Nat.zero_add]; exact hm.2.2) (fun _ _ => rfl) (Nat.le_of_ble_eq_true rfl) (Nat.le_of_ble_eq_true rfl) dJ7_copyOf_59c91_28 (fun H locs hP hD hS => ?_)
    rw [z0] at hP hD
    have e2 : cpOf f N ni = va_cpy f (fun _ => 0) 0 0 (if ni < Int32.ofNat N then ni else Int32.ofNat N).toNatClampNeg := if_neg hc
    refine lv_aload_n X.1 X.2.1 dJ7_copyOf_59c91_31 rfl (lv_at hl 0 rfl) ?_
    exact ret_Na q (Or.inr ⟨.int, rfl⟩) rfl X hQ (by rw [e2]; exact hP) (by rw [e2]; exact hD) hS (Nat.le_of_ble_eq_true rfl) (by show 0 + ni.toNatClampNeg ≤ M; omega) dJ7_copyOf_59c91_32
  · have e1 : ni.toNatClampNeg = N := by
      rw [hc, hNi] at hn
      rw [hc]
      omega
    have e2 : cpOf f N ni = f := if_pos hc
    have hnm : s.vm.findClass "[I" = some (tc 0) := by
      have e : "[" ++ FieldType.int.toString = "[I" := by decide +kernel
      rw [← e]
      exact (X.2.2.2.2.2.2.2.2.1.2 0 _ rfl).2
    refine lv_aload_n X.1 X.2.1 dJ7_copyOf_59c91_6 rfl (lv_at hl 0 rfl) ?_
    refine va_clone (ad := "[I") (x := (N, .inl f)) (ty := .int) X.1 X.2.1 (X.2.2.2.1.trans hl.1.symm) X.2.2.2.2.1 (ok _ mw_4_172) (ok _ mw_4_173) (ok _ mw_4_174) (ok _ mw_4_175) (ok _ mw_4_176) (X.2.2.2.2.2.2.2.2.2.2.2.2.2.2.1 _ (List.mem_of_getElem? (i := 12) rfl)) X.2.2.2.2.2.2.2.2.1 hP hD hS X.2.2.2.2.2.2.2.1 0 0 rfl rfl hnm (va_fit (fun _ _ => rfl)) (Nat.le_of_ble_eq_true rfl) (Nat.le_of_ble_eq_true rfl) (Nat.le_of_ble_eq_true rfl) (by show 0 + N ≤ M; omega) dJ7_copyOf_59c91_7 (fun q H hK1 hP hD hS => ?_)
    refine va_castA (nm := "[I") X.1 X.2.1 X.2.2.2.2.1 (ok _ mw_4_178) hP 1 rfl hnm dJ7_copyOf_59c91_10 ?_
    exact ret_Na q (Or.inr ⟨.int, rfl⟩) rfl X hQ (by rw [e1, e2]; exact hP) (by rw [e1, e2]; exact hD) hS (Nat.le_of_ble_eq_true rfl) (by show 0 + N ≤ M; omega) dJ7_copyOf_59c91_13
