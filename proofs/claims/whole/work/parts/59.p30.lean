/-! the law's text: a part of a sum; codes and their value -/
def jnv (x a b : Int32) : Int32 := if x = 2001 then a &&& b else if x = 2002 then a ||| b else if x = 2003 then (if b ≤ a then 0 else 1) else if x = 2004 then (if a ≤ b then 0 else 1) else a + b
def vl (fa : Nat → Int32) (x : Int32) : Int32 := if 1000 ≤ x then fa (tn (x - 1000)) else x
def stp (fa : Nat → Int32) (x : Int32) (st : List Int32) : Option (List Int32) :=
  if 2000 ≤ x then (if x = 2000 then (match st with | a :: t => some ((1 - a) :: t) | [] => none) else (match st with | b :: a :: t => some (jnv x a b :: t) | _ => none))
  else if st.length < 32 ∧ x < 1009 then some (vl fa x :: st) else none
def run (fa : Nat → Int32) : List Int32 → List Int32 → Option (List Int32)
  | [], st => some st
  | x :: l, st => (stp fa x st).bind (run fa l)
theorem run_app (fa : Nat → Int32) (l k st : List Int32) : run fa (l ++ k) st = (run fa l st).bind (run fa k) := by
  induction l generalizing st with
  | nil => rfl
  | cons x l ih =>
    show (stp fa x st).bind (run fa (l ++ k)) = ((stp fa x st).bind (run fa l)).bind (run fa k)
    cases stp fa x st with
    | none => rfl
    | some y => exact ih y
/-- these codes lay the value r on the stack; they need d places -/
def RV (fa : Nat → Int32) (d : Nat) (cs : List Int32) (r : Int32) : Prop := ∀ st : List Int32, st.length + d ≤ 32 → run fa cs st = some (r :: st)
theorem RV.mono {fa : Nat → Int32} {d e : Nat} {cs : List Int32} {r : Int32} (h : RV fa d cs r) (l : d ≤ e) : RV fa e cs r := fun st hs => h st (by omega)
theorem l9_20 {x : Int32} (h : x < 1009) : ¬ 2000 ≤ x := fun k => by
  rw [Int32.lt_iff_toInt_lt] at h
  rw [Int32.le_iff_toInt_le] at k
  have h : x.toInt < 1009 := h
  have k : 2000 ≤ x.toInt := k
  omega
theorem RV.push {fa : Nat → Int32} {x : Int32} (h : x < 1009) : RV fa 1 [x] (vl fa x) := fun st hs => by
  show (stp fa x st).bind _ = _
  unfold stp
  rw [if_neg (l9_20 h), if_pos ⟨by omega, h⟩]
  rfl
theorem RV.not {fa : Nat → Int32} {d : Nat} {cs : List Int32} {r : Int32} (h : RV fa d cs r) : RV fa d (cs ++ [2000]) (1 - r) := fun st hs => by
  rw [run_app, h st hs]
  show (stp fa 2000 (r :: st)).bind _ = _
  unfold stp
  rw [if_pos (by decide), if_pos rfl]
  rfl
theorem RV.bin {fa : Nat → Int32} {d e f : Nat} {cs ds : List Int32} {r t x : Int32} (h : RV fa d cs r) (k : RV fa e ds t) (hx : 2000 ≤ x) (h0 : ¬ x = 2000) (l1 : d ≤ f) (l2 : e + 1 ≤ f) : RV fa f (cs ++ (ds ++ [x])) (jnv x r t) := fun st hs => by
  rw [run_app, h st (by omega)]
  show run fa (ds ++ [x]) (r :: st) = _
  rw [run_app, k (r :: st) (by show st.length + 1 + e ≤ 32; omega)]
  show (stp fa x (t :: r :: st)).bind _ = _
  unfold stp
  rw [if_pos hx, if_neg h0]
  rfl
/-- what the class has put -/
def EM (g g' : Pic) (z : Nat) (cs : List Int32) : Prop := g' 6 0 = nI (z + cs.length) ∧ (∀ i, i < cs.length → g' 4 (z + i) = cs.getD i 0) ∧ (∀ p, p < z → g' 4 p = g 4 p) ∧ ∀ k, k ≠ 4 → k ≠ 6 → g' k = g k
theorem EM.rf {g : Pic} {z : Nat} (h : g 6 0 = nI z) : EM g g z [] := ⟨h, fun i hi => absurd hi (Nat.not_lt_zero i), fun _ _ => rfl, fun _ _ _ => rfl⟩
theorem EM.tr {a b d : Pic} {z : Nat} {cs ds : List Int32} (h : EM a b z cs) (k : EM b d (z + cs.length) ds) : EM a d z (cs ++ ds) := by
  refine ⟨by rw [List.length_append, ← Nat.add_assoc]; exact k.1, fun i hi => ?_, fun p hp => (k.2.2.1 p (by omega)).trans (h.2.2.1 p hp), fun i h4 h6 => (k.2.2.2 i h4 h6).trans (h.2.2.2 i h4 h6)⟩
  rw [List.length_append] at hi
  by_cases y : i < cs.length
  · rw [k.2.2.1 (z + i) (by omega), h.2.1 i y, List.getD_eq_getElem?_getD, List.getD_eq_getElem?_getD, List.getElem?_append_left y]
  · have := k.2.1 (i - cs.length) (by omega)
    rw [show z + cs.length + (i - cs.length) = z + i by omega] at this
    rw [this, List.getD_eq_getElem?_getD, List.getD_eq_getElem?_getD, List.getElem?_append_right (by omega)]
theorem k_put {g : Pic} {z : Nat} (h : g 6 0 = nI z) (hz : z < 400) (gT : Pic) (x : Int32) : ∃ g', f_X5_put g gT x = some (1, g') ∧ EM g g' z [x] := by
  refine ⟨pu (pu g 4 z x) 6 0 (nI z + 1), ?_, ?_, fun i hi => ?_, fun p hp => ?_, fun k h4 h6 => ?_⟩
  · unfold f_X5_put
    have nz : ¬ 400 ≤ z := by omega
    have e6 : (pu g 4 z x) 6 0 = nI z := h
    simp (disch := omega) only [bd_s, bd2_s, bd3_s, bd4_s, bd5_s, bd6_s, bd7_s, bd8_s, lr_l, lr_r, nm_s, jn_s, gdb_0, gdb_1, h, li_400, nI_leI, nz, if_false, gdi_n, nI_clamp, e6]
  · rw [pu_s, if_pos rfl, nI_1]; rfl
  · have : i = 0 := by have : i < 1 := hi; omega
    subst this
    rw [pu_o (by decide), pu_s, if_pos (by omega)]; rfl
  · rw [pu_o (by decide), pu_s, if_neg (by omega)]
  · rw [pu_o h6, pu_o h4]
def fa_ (g : Pic) (i : Nat) : Int32 := if i < 7 then g 14 i else if i = 7 then g 15 0 else g 16 0
theorem fa_c {g g' : Pic} (h4 : g' 14 = g 14) (h5 : g' 15 = g 15) (h6 : g' 16 = g 16) : fa_ g' = fa_ g := by
  funext i
  unfold fa_
  rw [h4, h5, h6]
section K30
variable {g g0 gT gD gE gL gS : Pic} {c : Nat → Nat} {n q s : Nat}
theorem PR.dig (h : PR g gT c n s) : (gT 3 0 = 2 ∧ s < n ∧ f_X12_byteAt g (nI s) = some (nI (c s)) ∧ f_X12_isIn (nI (c s)) 48 57 = some 1) ∨ (¬ gT 3 0 = 2 ∧ (n ≤ s ∨ (s < n ∧ f_X12_byteAt g (nI s) = some (nI (c s)) ∧ f_X12_isIn (nI (c s)) 48 57 = some 0))) := by
  have hB := h.1
  have n4 := h.n4
  have key : ∀ z : s < n, isD (c s) = false → f_X12_isIn (nI (c s)) 48 57 = some 0 := fun z hd => by
    have c8 := hB.2.2.2 s z
    have nb := of_decide_eq_false hd
    rw [q_isIn, if_neg (fun z => nb ⟨(nI_leI (a := 48) (by omega) (by omega)).mp z.1, (nI_leI (b := 57) (by omega) (by omega)).mp z.2⟩)]
  rcases h.2.2.2.1.2.2.2.2.2 with ⟨z, k3, -⟩ | ⟨z, hl, k3, -⟩ | ⟨z, hd, k3, -⟩ | ⟨z, -, hd, k3, -⟩
  · exact Or.inr ⟨by rw [k3]; decide, Or.inl (by omega)⟩
  · exact Or.inr ⟨by rw [k3]; decide, Or.inr ⟨z, q_byte hB z, key z (decide_eq_false (fun y => by have := of_decide_eq_true hl; omega))⟩⟩
  · refine Or.inl ⟨k3, z, q_byte hB z, ?_⟩
    have c8 := hB.2.2.2 s z
    have nb := of_decide_eq_true hd
    rw [q_isIn, if_pos ⟨nI_le (a := 48) (by omega) (by omega), nI_le (b := 57) (by omega) (by omega)⟩]
  · exact Or.inr ⟨by rw [k3]; decide, Or.inr ⟨z, q_byte hB z, key z hd⟩⟩
def PRes (g gT g5 : Pic) (c : Nat → Nat) (n s : Nat) (X : Option (Int32 × Pic)) : Prop :=
  (∃ v x g' gT' s', X = some (v, g') ∧ E11 g g' ∧ f_X5_partHere g5 gT = some x ∧ ¬ x = -1 ∧ x < 1009 ∧ vl (fa_ g) x = v ∧ f_X10_step gT = some gT' ∧ PR g' gT' c n s' ∧ s < s' ∧ gT' 1 = gT 1) ∨
  (∃ v g', X = some (v, g') ∧ E12 g g' ∧ f_X5_partHere g5 gT = some (-1) ∧ f_X10_refuse gT = some (0, pu gT 7 0 (nI s)) ∧ FL g' (pu gT 7 0 (nI s)) n)
theorem PR.part (h : PR g gT c n s) (g5 : Pic) : PRes g gT g5 c n s (f_X12_part g) := by
  have h12 := h.2.2.1
  have n4 := h.n4
  have sn := h.sn
  obtain ⟨ga, a1, a2, a3, a4⟩ := h.skip
  have h10 : ga 10 0 = nI n := a4.1.2.1
  rcases a4.dig with ⟨k3, z, d1, d2⟩ | ⟨k3, D⟩
  · have nz : ¬ n ≤ s := by omega
    have P : f_X12_part g = bd2 (f_X12_figures ga 0 (nI 999)) (fun r_13 g0_13 => some (r_13, g0_13)) := by
      unfold f_X12_part
      rw [if_pos h12, a1, bd_s, jn_s, h10, a3, if_neg (nI_ge z (by omega)), d1, bd_s, d2, bd_s, if_neg (by decide)]
      rfl
    have H : f_X5_partHere g5 gT = some (gT 6 0) := by
      unfold f_X5_partHere
      rw [if_pos k3]
    rw [P]
    rcases a4.num (lo := 0) (hi := nI 999) (by decide) with ⟨v, g', gT', v9, e1, e2, e3, e4, e5, -, -, e6, -, e8⟩ | ⟨v, g', e1, e2, e3, e4, -⟩
    · have T : f_X10_takeNumber gT 0 (nI 999) = bd (f_X10_step gT) (fun g => some (nI v, g)) := by
        unfold f_X10_takeNumber
        simp (disch := omega) only [bd_s, bd2_s, bd3_s, bd4_s, bd5_s, bd6_s, bd7_s, bd8_s, lr_l, lr_r, nm_s, jn_s, gdb_0, gdb_1, k3, if_true, e8, nI_leI, v9, nI_lt0, if_false]
      rw [T] at e4
      cases hs : f_X10_step gT with
      | none => rw [hs] at e4; cases e4
      | some gT2 =>
        rw [hs, bd_s] at e4
        have : gT2 = gT' := by injection e4 with e4; injection e4
        subst this
        refine Or.inl ⟨nI v, nI v, g', gT2, _, by rw [e2]; rfl, a2.tr e3, by rw [H, e8], by rw [nI_m1 (by omega)]; exact id, ?_, ?_, hs, e5, ?_, e6⟩
        · exact (nI_ltI (b := 1009) (by omega) (by omega)).mpr (by omega)
        · unfold vl
          exact if_neg (nI_ge (a := v) (b := 1000) (by omega) (by omega))
        · exact Nat.lt_of_lt_of_le e1 sc_ge
    · refine Or.inr ⟨v, g', by rw [e1]; rfl, a2.to.tr e2, ?_, k_refuse h.2.2.2.2 h.2.2.2.1.2.2.2.1, e4⟩
      rw [H]
      rcases h.2.2.2.1.2.2.2.2.2 with ⟨_, y, _⟩ | ⟨_, _, y, _⟩ | ⟨_, hd, y, _, t6⟩ | ⟨_, _, _, y, _⟩
      · rw [k3] at y; cases y
      · rw [k3] at y; cases y
      · by_cases l3 : sc isD c n s - s ≤ 3
        · exfalso
          rw [if_pos l3] at t6
          have dl := (dv_le (c := c) (s := s) (i := sc isD c n s - s) (by omega) (fun k hk => (sc_in (p := isD) (c := c) (n := n) (q := s) (i := s + k) (by omega) (by omega)).2)).2 l3
          have T : f_X10_takeNumber gT 0 (nI 999) = bd (f_X10_step gT) (fun g => some (nI (dv c s (sc isD c n s - s)), g)) := by
            unfold f_X10_takeNumber
            simp (disch := omega) only [bd_s, bd2_s, bd3_s, bd4_s, bd5_s, bd6_s, bd7_s, bd8_s, lr_l, lr_r, nm_s, jn_s, gdb_0, gdb_1, k3, if_true, t6, nI_leI, dl, nI_lt0, if_false]
          rw [T] at e3
          cases hs : f_X10_step gT with
          | none => rw [hs] at e3; cases e3
          | some gT2 =>
            rw [hs, bd_s] at e3
            have e : nI (dv c s (sc isD c n s - s)) = -1 := by injection e3 with e3; injection e3
            rw [nI_m1 (by omega)] at e
            exact e
        · rw [t6, if_neg l3]
      · rw [k3] at y; cases y
  · have P : f_X12_part g = bd2 (f_X12_has 2 ga) (fun r_2 g0_2 => jn (fun (s0_J145 : Int32) (g0_J145 : Pic) => (if s0_J145 = (-1) then bd (f_X12_wrong g0_J145 (g0_J145 11 0)) (fun g0_4 => some (0, g0_4)) else gdi s0_J145 7 (some ((g0_J145 14 (s0_J145.toNatClampNeg)), g0_J145)))) (fun J145 => (if r_2 = 0 then bd2 (f_X12_has 0 g0_2) (fun r_5 g0_5 => (if r_5 = 0 then bd2 (f_X12_has 19 g0_5) (fun r_6 g0_6 => (if r_6 = 0 then bd2 (f_X12_has 20 g0_6) (fun r_7 g0_7 => (if r_7 = 0 then bd2 (f_X12_has 3 g0_7) (fun r_8 g0_8 => (if r_8 = 0 then bd2 (f_X12_has 4 g0_8) (fun r_9 g0_9 => (if r_9 = 0 then bd2 (f_X12_has 5 g0_9) (fun r_10 g0_10 => (if r_10 = 0 then J145 (-1) g0_10 else J145 6 g0_10)) else J145 5 g0_9)) else J145 4 g0_8)) else J145 3 g0_7)) else J145 2 g0_6)) else J145 1 g0_5)) else J145 0 g0_2))) := by
      unfold f_X12_part
      rw [if_pos h12, a1, bd_s, jn_s, h10, a3]
      rcases D with y | ⟨y, d1, d2⟩
      · rw [if_pos (nI_le y (by omega))]
      · rw [if_neg (nI_ge y (by omega)), d1, bd_s, d2, bd_s, if_pos rfl]
    rw [P]
    have fin : ∀ i g', i < 7 → E11 g g' → vl (fa_ g) (1000 + nI i) = g' 14 i := fun i g' hi e => by
      have e14 : g' 14 = g 14 := e 14 (by decide)
      rw [e14]
      have : i = 0 ∨ i = 1 ∨ i = 2 ∨ i = 3 ∨ i = 4 ∨ i = 5 ∨ i = 6 := by omega
      rcases this with rfl | rfl | rfl | rfl | rfl | rfl | rfl <;> rfl
    rcases a4.take (k := 2) (strOk_all 2 (by decide) (by decide)) with ⟨-, gb, b1, b2, b3, b4, b5, -⟩ | ⟨-, gb, tb, b1, b2, b3, b4, b5, b6, -, b8⟩
    · rcases b4.take (k := 0) (strOk_all 0 (by decide) (by decide)) with ⟨-, gc, c1, c2, c3, c4, c5, -⟩ | ⟨-, gc, tc, c1, c2, c3, c4, c5, c6, -, c8⟩
      · rcases c4.take (k := 19) (strOk_all 19 (by decide) (by decide)) with ⟨-, gd, d1, d2, d3, d4, d5, -⟩ | ⟨-, gd, td, d1, d2, d3, d4, d5, d6, -, d8⟩
        · rcases d4.take (k := 20) (strOk_all 20 (by decide) (by decide)) with ⟨-, ge, e1, e2, e3, e4, e5, -⟩ | ⟨-, ge, te, e1, e2, e3, e4, e5, e6, -, e8⟩
          · rcases e4.take (k := 3) (strOk_all 3 (by decide) (by decide)) with ⟨-, gf, f1, f2, f3, f4, f5, -⟩ | ⟨-, gf, tf, f1, f2, f3, f4, f5, f6, -, f8⟩
            · rcases f4.take (k := 4) (strOk_all 4 (by decide) (by decide)) with ⟨-, gu, u1, u2, u3, u4, u5, -⟩ | ⟨-, gu, tu, u1, u2, u3, u4, u5, u6, -, u8⟩
              · rcases u4.take (k := 5) (strOk_all 5 (by decide) (by decide)) with ⟨-, gw, w1, w2, w3, w4, w5, -⟩ | ⟨-, gw, tw, w1, w2, w3, w4, w5, w6, -, w8⟩
                · obtain ⟨y1, y2, y3⟩ := w4.wrong
                  refine Or.inr ⟨0, pu gw 12 0 (nI s), ?_, (((((((a2.tr b2).tr c2).tr d2).tr e2).tr f2).tr u2).tr w2).to.pu12, ?_, y1, y3⟩
                  · simp only [bd_s, bd2_s, jn_s, if_true, w3, y2, b1, c1, d1, e1, f1, u1, w1]
                  · unfold f_X5_partHere
                    simp only [bd_s, jn_s, if_neg k3, if_true, b5, c5, d5, e5, f5, u5, w5]
                · refine Or.inl ⟨gw 14 6, 1006, gw, tw, _, ?_, (((((((a2.tr b2).tr c2).tr d2).tr e2).tr f2).tr u2).tr w2), ?_, by decide, by decide, fin 6 gw (by decide) (((((((a2.tr b2).tr c2).tr d2).tr e2).tr f2).tr u2).tr w2), w6, w3, Nat.lt_of_lt_of_le w4 sc_ge, w8⟩
                  · simp only [bd2_s, jn_s, i10, if_false, if_true, b1, c1, d1, e1, f1, u1, w1]
                    rfl
                  · unfold f_X5_partHere
                    simp only [bd_s, jn_s, if_neg k3, i10, if_false, if_true, b5, c5, d5, e5, f5, u5, w5]
              · refine Or.inl ⟨gu 14 5, 1005, gu, tu, _, ?_, ((((((a2.tr b2).tr c2).tr d2).tr e2).tr f2).tr u2), ?_, by decide, by decide, fin 5 gu (by decide) ((((((a2.tr b2).tr c2).tr d2).tr e2).tr f2).tr u2), u6, u3, Nat.lt_of_lt_of_le u4 sc_ge, u8⟩
                · simp only [bd2_s, jn_s, i10, if_false, if_true, b1, c1, d1, e1, f1, u1]
                  rfl
                · unfold f_X5_partHere
                  simp only [bd_s, jn_s, if_neg k3, i10, if_false, if_true, b5, c5, d5, e5, f5, u5]
            · refine Or.inl ⟨gf 14 4, 1004, gf, tf, _, ?_, (((((a2.tr b2).tr c2).tr d2).tr e2).tr f2), ?_, by decide, by decide, fin 4 gf (by decide) (((((a2.tr b2).tr c2).tr d2).tr e2).tr f2), f6, f3, Nat.lt_of_lt_of_le f4 sc_ge, f8⟩
              · simp only [bd2_s, jn_s, i10, if_false, if_true, b1, c1, d1, e1, f1]
                rfl
              · unfold f_X5_partHere
                simp only [bd_s, jn_s, if_neg k3, i10, if_false, if_true, b5, c5, d5, e5, f5]
          · refine Or.inl ⟨ge 14 3, 1003, ge, te, _, ?_, ((((a2.tr b2).tr c2).tr d2).tr e2), ?_, by decide, by decide, fin 3 ge (by decide) ((((a2.tr b2).tr c2).tr d2).tr e2), e6, e3, Nat.lt_of_lt_of_le e4 sc_ge, e8⟩
            · simp only [bd2_s, jn_s, i10, if_false, if_true, b1, c1, d1, e1]
              rfl
            · unfold f_X5_partHere
              simp only [bd_s, jn_s, if_neg k3, i10, if_false, if_true, b5, c5, d5, e5]
        · refine Or.inl ⟨gd 14 2, 1002, gd, td, _, ?_, (((a2.tr b2).tr c2).tr d2), ?_, by decide, by decide, fin 2 gd (by decide) (((a2.tr b2).tr c2).tr d2), d6, d3, Nat.lt_of_lt_of_le d4 sc_ge, d8⟩
          · simp only [bd2_s, jn_s, i10, if_false, if_true, b1, c1, d1]
            rfl
          · unfold f_X5_partHere
            simp only [bd_s, jn_s, if_neg k3, i10, if_false, if_true, b5, c5, d5]
      · refine Or.inl ⟨gc 14 1, 1001, gc, tc, _, ?_, ((a2.tr b2).tr c2), ?_, by decide, by decide, fin 1 gc (by decide) ((a2.tr b2).tr c2), c6, c3, Nat.lt_of_lt_of_le c4 sc_ge, c8⟩
        · simp only [bd2_s, jn_s, i10, if_false, if_true, b1, c1]
          rfl
        · unfold f_X5_partHere
          simp only [bd_s, jn_s, if_neg k3, i10, if_false, if_true, b5, c5]
    · refine Or.inl ⟨gb 14 0, 1000, gb, tb, _, ?_, (a2.tr b2), ?_, by decide, by decide, fin 0 gb (by decide) (a2.tr b2), b6, b3, Nat.lt_of_lt_of_le b4 sc_ge, b8⟩
      · simp only [bd2_s, jn_s, i10, if_false, if_true, b1]
        rfl
      · unfold f_X5_partHere
        simp only [bd_s, jn_s, if_neg k3, i10, if_false, if_true, b5]
end K30
