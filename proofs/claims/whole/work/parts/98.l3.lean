/-! the law's loop -/
theorem and63 (y : Int32) : ∃ b, b ≤ 63 ∧ (y &&& 63) = nI b := by
  refine ⟨(y.toBitVec &&& 63#32).toNat, ?_, ?_⟩
  · rw [BitVec.toNat_and]; exact Nat.and_le_right
  · apply Int32.toBitVec_inj.mp
    rw [Int32.toBitVec_and]
    show _ = BitVec.ofNat 32 _
    rw [BitVec.ofNat_toNat, BitVec.setWidth_eq]
    rfl
theorem less6 {L i : Nat} (hL : L ≤ 3072) (hi : i ≤ 513) (h : L < 6 * i + 6) : Int32.ofNat L - 6 < nI (6 * i) := by
  show nI L - nI 6 < nI (6 * i)
  by_cases z : 6 ≤ L
  · rw [nI_sub z]
    exact (nI_ltI (by omega) (by omega)).mpr (by omega)
  · have a := nI_neg (a := L) (b := 6) (by omega) (by omega)
    have b := nI_pos (n := 6 * i) (by omega)
    rw [Int32.lt_iff_toInt_lt] at a b ⊢
    omega
theorem law_next {pr : Program} {l : Launch} {e : Env} {s : State} {m : MethodId} {below : List Frame} {meth : Method} {c : Code} {dC : Nat → ClassId} {dI : Nat → Nat → Nat} {sk sv : Nat → Nat} {tc : Nat → ClassId} {b L ax am ao : Nat} {xs : Nat → Int32} {i : Nat} (C : CC pr l s m meth c dC dI sk sv tc b L xs) (hn : GO pr l e s m below meth c dC dI tc b ax am ao (i + 1) (i + 1) 23) : GO pr l e s m below meth c dC dI tc b ax am ao i (i + 1) 3264 := by
  obtain ⟨X, hr, hlk, hX, hbl, hL, hst⟩ := id C
  intro w t o H locs cells slots ls hT hP hD hS hl hc hs
  refine lv_iinc (v := nI (6 * (i + 1))) (lv' := [(4, .int (nI (6 * (i + 1)))), (0, .ref b), (1, .ref ax), (2, .ref am), (3, .ref ao)]) X.1 X.2.1 dL_law__3264 hl (k := 4) rfl (show nI (6 * i) + nI 6 = _ by rw [nI_add]; exact congrArg nI (by omega)) (by decide) rfl (fun ls hl => ?_)
  refine lv_goto (tgt := 23) X.1 X.2.1 dL_law__3267 (by decide) ?_
  exact hn w t o H locs cells slots ls hT hP hD hS (lv_sub hl [1, 2, 3, 4, 0] rfl) hc hs
theorem law_loop {pr : Program} {l : Launch} {e : Env} {s : State} {m : MethodId} {below : List Frame} {meth : Method} {c : Code} {dC : Nat → ClassId} {dI : Nat → Nat → Nat} {sk sv : Nat → Nat} {tc : Nat → ClassId} {b L ax am ao : Nat} {xs : Nat → Int32} (C : CC pr l s m meth c dC dI sk sv tc b L xs) : ∀ k i, i + k = 513 → GO pr l e s m below meth c dC dI tc b ax am ao i i 23 := by
  obtain ⟨X, hr, hlk, hX, hbl, hL, hst⟩ := id C
  intro k
  induction k with
  | zero =>
    intro i hi w t o H locs cells slots ls hT hP hD hS hl hc hs
    refine lv_iload X.1 X.2.1 dL_law__23 (lv_at hl 4 rfl) ?_
    refine lv_aload_n X.1 X.2.1 dL_law__25 rfl (lv_at hl 0 rfl) ?_
    refine va_slen X.1 X.2.1 hX hbl (Nat.not_le.mpr hbl) hS dL_law__26 ?_
    refine lv_bipush (v := 6) X.1 X.2.1 dL_law__27 (by decide) ?_
    refine lv_isub X.1 X.2.1 dL_law__29 ?_
    refine lv_icmp_gt (tgt := 3270) X.1 X.2.1 dL_law__30 (by decide) (fun z => ?_) (fun z => absurd (less6 hL (by omega) (by omega)) z)
    refine lv_iconst (v := 1) X.1 X.2.1 dL_law__3270 (by decide) ?_
    refine va_forget (fun q hq => hS.2.2 q hq) ?_
    refine W.widen (k := 601024) (n := 7293034) (by omega) (by omega) ?_
    exact lw_ret X.1 X.2.1 hr hlk dL_law__3271
  | succ k ih =>
    intro i hi w t o H locs cells slots ls hT hP hD hS hl hc hs
    refine lv_iload X.1 X.2.1 dL_law__23 (lv_at hl 4 rfl) ?_
    refine lv_aload_n X.1 X.2.1 dL_law__25 rfl (lv_at hl 0 rfl) ?_
    refine va_slen X.1 X.2.1 hX hbl (Nat.not_le.mpr hbl) hS dL_law__26 ?_
    refine lv_bipush (v := 6) X.1 X.2.1 dL_law__27 (by decide) ?_
    refine lv_isub X.1 X.2.1 dL_law__29 ?_
    refine lv_icmp_gt (tgt := 3270) X.1 X.2.1 dL_law__30 (by decide) (fun z => ?_) (fun z => ?_)
    · refine lv_iconst (v := 1) X.1 X.2.1 dL_law__3270 (by decide) ?_
      refine va_forget (fun q hq => hS.2.2 q hq) ?_
      refine W.widen (k := 601024) (n := 7293034) (by omega) (by omega) ?_
      exact lw_ret X.1 X.2.1 hr hlk dL_law__3271
    · have h : 6 * i + 6 ≤ L := by
        rcases Nat.lt_or_ge L (6 * i + 6) with q | q
        · exact absurd (less6 hL (by omega) q) z
        · exact q
      have hn := law_next (i := i) C (ih (i + 1) (by omega))
      refine lv_aload_n X.1 X.2.1 dL_law__33 rfl (lv_at hl 0 rfl) ?_
      refine lv_iload X.1 X.2.1 dL_law__34 (lv_at hl 4 rfl) ?_
      refine va_sld X.1 X.2.1 hX hbl (Nat.not_le.mpr hbl) hS (nI_in (by omega) (by omega)) dL_law__36 ?_
      refine lv_bipush (v := 63) X.1 X.2.1 dL_law__37 (by decide) ?_
      refine lv_iand X.1 X.2.1 dL_law__39 ?_
      obtain ⟨x, x63, ex⟩ := and63 (xs (nI (6 * i)).toNatClampNeg)
      rw [ex]
      obtain rfl | rfl | rfl | rfl | rfl | rfl | rfl | rfl | rfl | rfl | rfl | rfl | rfl | rfl | rfl | rfl | rfl | rfl | rfl | rfl | rfl | rfl | rfl | rfl | rfl | rfl | rfl | rfl | rfl | rfl | rfl | rfl | rfl | rfl | rfl | rfl | rfl | rfl | rfl | rfl | rfl | rfl | rfl | rfl | rfl | rfl | rfl | rfl | rfl | rfl | rfl | rfl | rfl | rfl | rfl | rfl | rfl | rfl | rfl | rfl | rfl | rfl | rfl | rfl : x = 0 ∨ x = 1 ∨ x = 2 ∨ x = 3 ∨ x = 4 ∨ x = 5 ∨ x = 6 ∨ x = 7 ∨ x = 8 ∨ x = 9 ∨ x = 10 ∨ x = 11 ∨ x = 12 ∨ x = 13 ∨ x = 14 ∨ x = 15 ∨ x = 16 ∨ x = 17 ∨ x = 18 ∨ x = 19 ∨ x = 20 ∨ x = 21 ∨ x = 22 ∨ x = 23 ∨ x = 24 ∨ x = 25 ∨ x = 26 ∨ x = 27 ∨ x = 28 ∨ x = 29 ∨ x = 30 ∨ x = 31 ∨ x = 32 ∨ x = 33 ∨ x = 34 ∨ x = 35 ∨ x = 36 ∨ x = 37 ∨ x = 38 ∨ x = 39 ∨ x = 40 ∨ x = 41 ∨ x = 42 ∨ x = 43 ∨ x = 44 ∨ x = 45 ∨ x = 46 ∨ x = 47 ∨ x = 48 ∨ x = 49 ∨ x = 50 ∨ x = 51 ∨ x = 52 ∨ x = 53 ∨ x = 54 ∨ x = 55 ∨ x = 56 ∨ x = 57 ∨ x = 58 ∨ x = 59 ∨ x = 60 ∨ x = 61 ∨ x = 62 ∨ x = 63 := by omega
      · exact lv_tableIn (tgt := 284) X.1 X.2.1 dL_law__40 (by decide) (by decide) rfl (by decide) (case_0 C h hn w t o H locs cells slots ls hT hP hD hS hl hc hs)
      · exact lv_tableIn (tgt := 357) X.1 X.2.1 dL_law__40 (by decide) (by decide) rfl (by decide) (case_1 C h hn w t o H locs cells slots ls hT hP hD hS hl hc hs)
      · exact lv_tableIn (tgt := 382) X.1 X.2.1 dL_law__40 (by decide) (by decide) rfl (by decide) (case_2 C h hn w t o H locs cells slots ls hT hP hD hS hl hc hs)
      · exact lv_tableIn (tgt := 426) X.1 X.2.1 dL_law__40 (by decide) (by decide) rfl (by decide) (case_3 C h hn w t o H locs cells slots ls hT hP hD hS hl hc hs)
      · exact lv_tableIn (tgt := 470) X.1 X.2.1 dL_law__40 (by decide) (by decide) rfl (by decide) (case_4 C h hn w t o H locs cells slots ls hT hP hD hS hl hc hs)
      · exact lv_tableIn (tgt := 483) X.1 X.2.1 dL_law__40 (by decide) (by decide) rfl (by decide) (case_5 C h hn w t o H locs cells slots ls hT hP hD hS hl hc hs)
      · exact lv_tableIn (tgt := 551) X.1 X.2.1 dL_law__40 (by decide) (by decide) rfl (by decide) (case_6 C h hn w t o H locs cells slots ls hT hP hD hS hl hc hs)
      · exact lv_tableIn (tgt := 619) X.1 X.2.1 dL_law__40 (by decide) (by decide) rfl (by decide) (case_7 C h hn w t o H locs cells slots ls hT hP hD hS hl hc hs)
      · exact lv_tableIn (tgt := 687) X.1 X.2.1 dL_law__40 (by decide) (by decide) rfl (by decide) (case_8 C h hn w t o H locs cells slots ls hT hP hD hS hl hc hs)
      · exact lv_tableIn (tgt := 712) X.1 X.2.1 dL_law__40 (by decide) (by decide) rfl (by decide) (case_9 C h hn w t o H locs cells slots ls hT hP hD hS hl hc hs)
      · exact lv_tableIn (tgt := 780) X.1 X.2.1 dL_law__40 (by decide) (by decide) rfl (by decide) (case_10 C h hn w t o H locs cells slots ls hT hP hD hS hl hc hs)
      · exact lv_tableIn (tgt := 848) X.1 X.2.1 dL_law__40 (by decide) (by decide) rfl (by decide) (case_11 C h hn w t o H locs cells slots ls hT hP hD hS hl hc hs)
      · exact lv_tableIn (tgt := 928) X.1 X.2.1 dL_law__40 (by decide) (by decide) rfl (by decide) (case_12 C h hn w t o H locs cells slots ls hT hP hD hS hl hc hs)
      · exact lv_tableIn (tgt := 996) X.1 X.2.1 dL_law__40 (by decide) (by decide) rfl (by decide) (case_13 C h hn w t o H locs cells slots ls hT hP hD hS hl hc hs)
      · exact lv_tableIn (tgt := 1064) X.1 X.2.1 dL_law__40 (by decide) (by decide) rfl (by decide) (case_14 C h hn w t o H locs cells slots ls hT hP hD hS hl hc hs)
      · exact lv_tableIn (tgt := 1139) X.1 X.2.1 dL_law__40 (by decide) (by decide) rfl (by decide) (case_15 C h hn w t o H locs cells slots ls hT hP hD hS hl hc hs)
      · exact lv_tableIn (tgt := 1207) X.1 X.2.1 dL_law__40 (by decide) (by decide) rfl (by decide) (case_16 C h hn w t o H locs cells slots ls hT hP hD hS hl hc hs)
      · exact lv_tableIn (tgt := 1263) X.1 X.2.1 dL_law__40 (by decide) (by decide) rfl (by decide) (case_17 C h hn w t o H locs cells slots ls hT hP hD hS hl hc hs)
      · exact lv_tableIn (tgt := 1319) X.1 X.2.1 dL_law__40 (by decide) (by decide) rfl (by decide) (case_18 C h hn w t o H locs cells slots ls hT hP hD hS hl hc hs)
      · exact lv_tableIn (tgt := 1422) X.1 X.2.1 dL_law__40 (by decide) (by decide) rfl (by decide) (case_19 C h hn w t o H locs cells slots ls hT hP hD hS hl hc hs)
      · exact lv_tableIn (tgt := 1478) X.1 X.2.1 dL_law__40 (by decide) (by decide) rfl (by decide) (case_20 C h hn w t o H locs cells slots ls hT hP hD hS hl hc hs)
      · exact lv_tableIn (tgt := 1534) X.1 X.2.1 dL_law__40 (by decide) (by decide) rfl (by decide) (case_21 C h hn w t o H locs cells slots ls hT hP hD hS hl hc hs)
      · exact lv_tableIn (tgt := 1602) X.1 X.2.1 dL_law__40 (by decide) (by decide) rfl (by decide) (case_22 C h hn w t o H locs cells slots ls hT hP hD hS hl hc hs)
      · exact lv_tableIn (tgt := 1658) X.1 X.2.1 dL_law__40 (by decide) (by decide) rfl (by decide) (case_23 C h hn w t o H locs cells slots ls hT hP hD hS hl hc hs)
      · exact lv_tableIn (tgt := 1726) X.1 X.2.1 dL_law__40 (by decide) (by decide) rfl (by decide) (case_24 C h hn w t o H locs cells slots ls hT hP hD hS hl hc hs)
      · exact lv_tableIn (tgt := 1739) X.1 X.2.1 dL_law__40 (by decide) (by decide) rfl (by decide) (case_25 C h hn w t o H locs cells slots ls hT hP hD hS hl hc hs)
      · exact lv_tableIn (tgt := 1823) X.1 X.2.1 dL_law__40 (by decide) (by decide) rfl (by decide) (case_26 C h hn w t o H locs cells slots ls hT hP hD hS hl hc hs)
      · exact lv_tableIn (tgt := 1836) X.1 X.2.1 dL_law__40 (by decide) (by decide) rfl (by decide) (case_27 C h hn w t o H locs cells slots ls hT hP hD hS hl hc hs)
      · exact lv_tableIn (tgt := 1880) X.1 X.2.1 dL_law__40 (by decide) (by decide) rfl (by decide) (case_28 C h hn w t o H locs cells slots ls hT hP hD hS hl hc hs)
      · exact lv_tableIn (tgt := 1924) X.1 X.2.1 dL_law__40 (by decide) (by decide) rfl (by decide) (case_29 C h hn w t o H locs cells slots ls hT hP hD hS hl hc hs)
      · exact lv_tableIn (tgt := 1968) X.1 X.2.1 dL_law__40 (by decide) (by decide) rfl (by decide) (case_30 C h hn w t o H locs cells slots ls hT hP hD hS hl hc hs)
      · exact lv_tableIn (tgt := 2040) X.1 X.2.1 dL_law__40 (by decide) (by decide) rfl (by decide) (case_31 C h hn w t o H locs cells slots ls hT hP hD hS hl hc hs)
      · exact lv_tableIn (tgt := 2084) X.1 X.2.1 dL_law__40 (by decide) (by decide) rfl (by decide) (case_32 C h hn w t o H locs cells slots ls hT hP hD hS hl hc hs)
      · exact lv_tableIn (tgt := 2128) X.1 X.2.1 dL_law__40 (by decide) (by decide) rfl (by decide) (case_33 C h hn w t o H locs cells slots ls hT hP hD hS hl hc hs)
      · exact lv_tableIn (tgt := 2141) X.1 X.2.1 dL_law__40 (by decide) (by decide) rfl (by decide) (case_34 C h hn w t o H locs cells slots ls hT hP hD hS hl hc hs)
      · exact lv_tableIn (tgt := 2216) X.1 X.2.1 dL_law__40 (by decide) (by decide) rfl (by decide) (case_35 C h hn w t o H locs cells slots ls hT hP hD hS hl hc hs)
      · exact lv_tableIn (tgt := 2284) X.1 X.2.1 dL_law__40 (by decide) (by decide) rfl (by decide) (case_36 C h hn w t o H locs cells slots ls hT hP hD hS hl hc hs)
      · exact lv_tableIn (tgt := 2352) X.1 X.2.1 dL_law__40 (by decide) (by decide) rfl (by decide) (case_37 C h hn w t o H locs cells slots ls hT hP hD hS hl hc hs)
      · exact lv_tableIn (tgt := 2365) X.1 X.2.1 dL_law__40 (by decide) (by decide) rfl (by decide) (case_38 C h hn w t o H locs cells slots ls hT hP hD hS hl hc hs)
      · exact lv_tableIn (tgt := 2433) X.1 X.2.1 dL_law__40 (by decide) (by decide) rfl (by decide) (case_39 C h hn w t o H locs cells slots ls hT hP hD hS hl hc hs)
      · exact lv_tableIn (tgt := 2489) X.1 X.2.1 dL_law__40 (by decide) (by decide) rfl (by decide) (case_40 C h hn w t o H locs cells slots ls hT hP hD hS hl hc hs)
      · exact lv_tableIn (tgt := 2545) X.1 X.2.1 dL_law__40 (by decide) (by decide) rfl (by decide) (case_41 C h hn w t o H locs cells slots ls hT hP hD hS hl hc hs)
      · exact lv_tableIn (tgt := 2625) X.1 X.2.1 dL_law__40 (by decide) (by decide) rfl (by decide) (case_42 C h hn w t o H locs cells slots ls hT hP hD hS hl hc hs)
      · exact lv_tableIn (tgt := 2666) X.1 X.2.1 dL_law__40 (by decide) (by decide) rfl (by decide) (case_43 C h hn w t o H locs cells slots ls hT hP hD hS hl hc hs)
      · exact lv_tableIn (tgt := 2707) X.1 X.2.1 dL_law__40 (by decide) (by decide) rfl (by decide) (case_44 C h hn w t o H locs cells slots ls hT hP hD hS hl hc hs)
      · exact lv_tableIn (tgt := 2720) X.1 X.2.1 dL_law__40 (by decide) (by decide) rfl (by decide) (case_45 C h hn w t o H locs cells slots ls hT hP hD hS hl hc hs)
      · exact lv_tableIn (tgt := 2776) X.1 X.2.1 dL_law__40 (by decide) (by decide) rfl (by decide) (case_46 C h hn w t o H locs cells slots ls hT hP hD hS hl hc hs)
      · exact lv_tableIn (tgt := 2789) X.1 X.2.1 dL_law__40 (by decide) (by decide) rfl (by decide) (case_47 C h hn w t o H locs cells slots ls hT hP hD hS hl hc hs)
      · exact lv_tableIn (tgt := 2857) X.1 X.2.1 dL_law__40 (by decide) (by decide) rfl (by decide) (case_48 C h hn w t o H locs cells slots ls hT hP hD hS hl hc hs)
      · exact lv_tableIn (tgt := 2941) X.1 X.2.1 dL_law__40 (by decide) (by decide) rfl (by decide) (case_49 C h hn w t o H locs cells slots ls hT hP hD hS hl hc hs)
      · exact lv_tableIn (tgt := 3025) X.1 X.2.1 dL_law__40 (by decide) (by decide) rfl (by decide) (case_50 C h hn w t o H locs cells slots ls hT hP hD hS hl hc hs)
      · exact lv_tableIn (tgt := 3109) X.1 X.2.1 dL_law__40 (by decide) (by decide) rfl (by decide) (case_51 C h hn w t o H locs cells slots ls hT hP hD hS hl hc hs)
      · exact lv_tableIn (tgt := 3177) X.1 X.2.1 dL_law__40 (by decide) (by decide) rfl (by decide) (case_52 C h hn w t o H locs cells slots ls hT hP hD hS hl hc hs)
      · exact lv_tableIn (tgt := 3202) X.1 X.2.1 dL_law__40 (by decide) (by decide) rfl (by decide) (case_53 C h hn w t o H locs cells slots ls hT hP hD hS hl hc hs)
      · exact lv_tableIn (tgt := 3215) X.1 X.2.1 dL_law__40 (by decide) (by decide) rfl (by decide) (case_54 C h hn w t o H locs cells slots ls hT hP hD hS hl hc hs)
      · exact lv_tableIn (tgt := 3226) X.1 X.2.1 dL_law__40 (by decide) (by decide) rfl (by decide) (case_55 C h hn w t o H locs cells slots ls hT hP hD hS hl hc hs)
      · exact lv_tableIn (tgt := 3239) X.1 X.2.1 dL_law__40 (by decide) (by decide) rfl (by decide) (case_56 C h hn w t o H locs cells slots ls hT hP hD hS hl hc hs)
      · exact lv_tableOut (tgt := 3264) X.1 X.2.1 dL_law__40 (by decide) (by decide) (hn w t o H locs cells slots ls hT hP hD hS hl (by omega) (by omega))
      · exact lv_tableOut (tgt := 3264) X.1 X.2.1 dL_law__40 (by decide) (by decide) (hn w t o H locs cells slots ls hT hP hD hS hl (by omega) (by omega))
      · exact lv_tableOut (tgt := 3264) X.1 X.2.1 dL_law__40 (by decide) (by decide) (hn w t o H locs cells slots ls hT hP hD hS hl (by omega) (by omega))
      · exact lv_tableOut (tgt := 3264) X.1 X.2.1 dL_law__40 (by decide) (by decide) (hn w t o H locs cells slots ls hT hP hD hS hl (by omega) (by omega))
      · exact lv_tableOut (tgt := 3264) X.1 X.2.1 dL_law__40 (by decide) (by decide) (hn w t o H locs cells slots ls hT hP hD hS hl (by omega) (by omega))
      · exact lv_tableOut (tgt := 3264) X.1 X.2.1 dL_law__40 (by decide) (by decide) (hn w t o H locs cells slots ls hT hP hD hS hl (by omega) (by omega))
      · exact lv_tableOut (tgt := 3264) X.1 X.2.1 dL_law__40 (by decide) (by decide) (hn w t o H locs cells slots ls hT hP hD hS hl (by omega) (by omega))
