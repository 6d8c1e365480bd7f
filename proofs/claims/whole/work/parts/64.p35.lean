/-! the class's codes, run -/
def SK (g : Pic) : List Int32 → Prop
  | [] => True
  | a :: t => g 5 t.length = a ∧ SK g t
theorem SK.c {g g' : Pic} : ∀ {st : List Int32}, SK g st → (∀ k, k < st.length → g' 5 k = g 5 k) → SK g' st
  | [], _, _ => trivial
  | a :: t, h, e => ⟨(e t.length (by rw [List.length_cons]; omega)).trans h.1, SK.c h.2 (fun k hk => e k (by rw [List.length_cons]; omega))⟩
theorem k_join (ln : Nat → Nat) (g : Pic) (x a b : Int32) : f_X4_join ln g x a b = some (jnv x a b) := by
  unfold f_X4_join jnv
  by_cases h1 : x = 2001
  · rw [if_pos h1, if_pos h1]
  rw [if_neg h1, if_neg h1]
  by_cases h2 : x = 2002
  · rw [if_pos h2, if_pos h2]
  rw [if_neg h2, if_neg h2]
  by_cases h3 : x = 2003
  · rw [if_pos h3, if_pos h3, jn_s]
    split <;> rfl
  rw [if_neg h3, if_neg h3]
  by_cases h4 : x = 2004
  · rw [if_pos h4, if_pos h4, jn_s]
    split <;> rfl
  rw [if_neg h4, if_neg h4]
theorem lp_go2 {α γ : Type} {F : (α → Option γ) → α → Option γ} {a a' : α} (h : ∀ r, F r a = r a') (f : Nat) : lp F (f + 1) a = lp F f a' := h (lp F f)
theorem nI_p1 (k : Nat) : nI (k + 1) + (-1) = nI k := by
  rw [← Int32.sub_eq_add_neg]
  exact nI_pred k
section K35
variable {g g0 gF : Pic} {ln : Nat → Nat} {fa : Nat → Int32} {i e z : Nat}
theorem k_stp (hF : ∀ k, k < 9 → gF 0 k = fa k) (h3 : i + 1 < ln 3) (h3' : ln 3 < 2 ^ 31) (h4 : z < ln 4) (h4' : ln 4 < 2 ^ 31) (hze : z < e) (he : e < 2 ^ 31) (g3 : g 3 (i + 1) = nI e) {x : Int32} (hx : g 4 z = x) {st st1 : List Int32} (hk : SK g st) (hl : st.length ≤ 32) (hs : stp fa x st = some st1) :
    ∃ g1, (∀ f, f_X4_holds_L10 ln (nI i) gF (f + 1) (nI st.length, nI z, g) = f_X4_holds_L10 ln (nI i) gF f (nI st1.length, nI (z + 1), g1)) ∧ SK g1 st1 ∧ st1.length ≤ 32 ∧ ∀ k, k ≠ 5 → g1 k = g k := by
  unfold stp at hs
  have nz : ¬ e ≤ z := by omega
  by_cases h2 : 2000 ≤ x
  · rw [if_pos h2] at hs
    by_cases h0 : x = 2000
    · rw [if_pos h0] at hs
      cases st with
      | nil => cases hs
      | cons a t =>
        have hs : some ((1 - a) :: t) = some st1 := hs
        injection hs with hs
        subst hs
        have l1 : (a :: t).length = t.length + 1 := rfl
        have l2 : ((1 - a) :: t).length = t.length + 1 := rfl
        rw [l1] at hl
        have g5 : g 5 t.length = a := hk.1
        have e1 : nI (t.length + 1) - 1 = nI t.length := nI_pred _
        have c1 : 1 ≤ nI (t.length + 1) := nI_le (a := 1) (by omega) (by omega)
        have h22 : (2000 : Int32) ≤ 2000 := Int32.le_refl _
        refine ⟨pu g 5 t.length (1 - a), fun f => lp_go2 (fun r => ?_) f, ⟨by rw [pu_s, if_pos rfl], hk.2.c (fun k hk => by rw [pu_s, if_neg (by omega)])⟩, hl, fun k hk => pu_o hk⟩
        rw [l1, l2]
        simp (disch := omega) only [bd_s, bd2_s, bd3_s, bd4_s, bd5_s, bd6_s, bd7_s, bd8_s, lr_l, lr_r, nm_s, jn_s, gdb_0, gdb_1, nI_1, gdi_n, nI_clamp, g3, nI_leI, nz, if_false, hx, h22, if_true, h0, c1, e1, g5]
    · rw [if_neg h0] at hs
      match st, hs, hk, hl with
      | [], hs, _, _ => cases hs
      | [_], hs, _, _ => cases hs
      | b :: a :: t, hs, hk, hl =>
        have hs : some (jnv x a b :: t) = some st1 := hs
        injection hs with hs
        subst hs
        have l1 : (b :: a :: t).length = t.length + 1 + 1 := rfl
        have l2 : (jnv x a b :: t).length = t.length + 1 := rfl
        rw [l1] at hl
        have g5b : g 5 (t.length + 1) = b := hk.1
        have g5a : g 5 t.length = a := hk.2.1
        have e1 : nI (t.length + 1 + 1) - 1 = nI (t.length + 1) := nI_pred _
        have e2 : nI (t.length + 1 + 1) - 2 = nI t.length := nI_sub (a := t.length + 1 + 1) (b := 2) (by omega)
        have e3 := nI_p1 (t.length + 1)
        have c1 : 2 ≤ nI (t.length + 1 + 1) := nI_le (a := 2) (by omega) (by omega)
        refine ⟨pu g 5 t.length (jnv x a b), fun f => lp_go2 (fun r => ?_) f, ⟨by rw [pu_s, if_pos rfl], hk.2.2.c (fun k hk => by rw [pu_s, if_neg (by omega)])⟩, by rw [l2]; omega, fun k hk => pu_o hk⟩
        rw [l1, l2]
        simp (disch := omega) only [bd_s, bd2_s, bd3_s, bd4_s, bd5_s, bd6_s, bd7_s, bd8_s, lr_l, lr_r, nm_s, jn_s, gdb_0, gdb_1, nI_1, gdi_n, nI_clamp, g3, nI_leI, nz, if_false, hx, h2, if_true, h0, c1, e1, e2, e3, g5a, g5b, k_join]
  · rw [if_neg h2] at hs
    by_cases hc : st.length < 32 ∧ x < 1009
    · rw [if_pos hc] at hs
      injection hs with hs
      subst hs
      have l2 : (vl fa x :: st).length = st.length + 1 := rfl
      have c1 : nI st.length < 32 := (nI_ltI (b := 32) (by omega) (by omega)).mpr hc.1
      have c32 : st.length < 32 := hc.1
      refine ⟨pu g 5 st.length (vl fa x), fun f => lp_go2 (fun r => ?_) f, ⟨by rw [pu_s, if_pos rfl], hk.c (fun k hk => by rw [pu_s, if_neg (by omega)])⟩, by rw [l2]; omega, fun k hk => pu_o hk⟩
      rw [l2]
      by_cases h1 : 1000 ≤ x
      · obtain ⟨k, k9, rfl⟩ : ∃ k, k < 9 ∧ x = nI (1000 + k) := by
          rcases among (x := x) (lo := 1000) (hi := 1008) (by omega) (by omega) with ⟨y, y1, y2, y3⟩ | y | y
          · exact ⟨y - 1000, by omega, by rw [y3, show 1000 + (y - 1000) = y by omega]⟩
          · exfalso
            have h1 : nI 1000 ≤ x := h1
            rw [Int32.le_iff_toInt_le] at h1
            rw [Int32.lt_iff_toInt_lt] at y
            omega
          · exfalso
            have h9 : x < nI 1009 := hc.2
            rw [Int32.lt_iff_toInt_lt] at h9
            rw [Int32.le_iff_toInt_le, nI_toInt (by omega)] at y
            rw [nI_toInt (by omega)] at h9
            omega
        have e1 : nI (1000 + k) - 1000 = nI k := by
          have := nI_sub (a := 1000 + k) (b := 1000) (by omega)
          rw [show 1000 + k - 1000 = k by omega] at this
          exact this
        have ev : vl fa (nI (1000 + k)) = fa k := by
          unfold vl
          rw [if_pos h1, e1, tn_n (by omega)]
        have hFk := hF k k9
        simp (disch := omega) only [bd_s, bd2_s, bd3_s, bd4_s, bd5_s, bd6_s, bd7_s, bd8_s, lr_l, lr_r, nm_s, jn_s, gdb_0, gdb_1, nI_1, gdi_n, nI_clamp, g3, nI_leI, nz, if_false, hx, h2, c1, if_true, h1, e1, ev, hFk]
      · have ev : vl fa x = x := if_neg h1
        simp (disch := omega) only [bd_s, bd2_s, bd3_s, bd4_s, bd5_s, bd6_s, bd7_s, bd8_s, lr_l, lr_r, nm_s, jn_s, gdb_0, gdb_1, nI_1, gdi_n, nI_clamp, g3, nI_leI, nz, if_false, hx, h2, c1, if_true, h1, ev]
    · rw [if_neg hc] at hs
      cases hs
theorem k_run (hF : ∀ k, k < 9 → gF 0 k = fa k) (h3 : i + 1 < ln 3) (h3' : ln 3 < 2 ^ 31) (h4 : e ≤ ln 4) (h4' : ln 4 < 2 ^ 31) : ∀ (cs : List Int32) (z : Nat) (st st' : List Int32) (g : Pic) (f : Nat), cs.length < f → z + cs.length = e → (∀ k, k < cs.length → g 4 (z + k) = cs.getD k 0) → g 3 (i + 1) = nI e → SK g st → st.length ≤ 32 → run fa cs st = some st' →
    ∃ g', f_X4_holds_L10 ln (nI i) gF f (nI st.length, nI z, g) = some (.inr (nI st'.length, g')) ∧ SK g' st' ∧ st'.length ≤ 32 ∧ ∀ k, k ≠ 5 → g' k = g k := by
  intro cs
  induction cs with
  | nil =>
    intro z st st' g f hf hz hc h g3 hl hr
    obtain ⟨f, rfl⟩ : ∃ m, f = m + 1 := ⟨f - 1, by have : 0 < f := hf; omega⟩
    injection hr with hr
    subst hr
    have hz : z = e := hz
    subst hz
    refine ⟨g, ?_, g3, hl, fun _ _ => rfl⟩
    show (gdi (nI i + 1) (ln 3) (if g 3 ((nI i + 1).toNatClampNeg) ≤ nI z then _ else _)) = _
    rw [nI_1, gdi_n h3 h3', nI_clamp (by omega), h, if_pos (Int32.le_refl _)]
  | cons x l ih =>
    intro z st st' g f hf hz hc h hk hl hr
    rw [List.length_cons] at hf hz hc
    obtain ⟨f, rfl⟩ : ∃ m, f = m + 1 := ⟨f - 1, by omega⟩
    have hr : (stp fa x st).bind (run fa l) = some st' := hr
    cases hs : stp fa x st with
    | none => rw [hs] at hr; cases hr
    | some st1 =>
      rw [hs] at hr
      have hr : run fa l st1 = some st' := hr
      have hx : g 4 z = x := hc 0 (by omega)
      obtain ⟨g1, a1, a2, a3, a4⟩ := k_stp (i := i) (e := e) (z := z) hF h3 h3' (by omega) h4' (by omega) (by omega) h hx hk hl hs
      obtain ⟨g', b1, b2, b3, b4⟩ := ih (z + 1) st1 st' g1 f (by omega) (by omega) (fun k hk => by
        rw [a4 4 (by decide), show z + 1 + k = z + (k + 1) by omega, hc (k + 1) (by omega)]
        rfl) (by rw [a4 3 (by decide)]; exact h) a2 a3 hr
      exact ⟨g', (a1 f).trans b1, b2, b3, fun k hk => (b4 k hk).trans (a4 k hk)⟩
/-- a line of the law as it is kept: its codes -/
def LC (ln : Nat → Nat) (g : Pic) (i z : Nat) (cs : List Int32) : Prop := g 3 i = nI z ∧ g 3 (i + 1) = nI (z + cs.length) ∧ i + 1 < ln 3 ∧ ln 3 < 2 ^ 31 ∧ z + cs.length ≤ ln 4 ∧ ln 4 ≤ 400 ∧ ∀ k, k < cs.length → g 4 (z + k) = cs.getD k 0
theorem k_holds (hF : ∀ k, k < 9 → gF 0 k = fa k) {cs : List Int32} (h : LC ln g i z cs) {d : Nat} {r : Int32} (hd : d ≤ 32) (hr : (cs = [] ∧ r = 1) ∨ (RV fa d cs r ∧ (r = 0 ∨ r = 1))) : ∃ g', f_X4_holds ln g gF (nI i) = some (r, g') ∧ ∀ k, k ≠ 5 → g' k = g k := by
  obtain ⟨h1, h2, h3, h4, h5, h6, h7⟩ := h
  have run' : ∃ st', run fa cs [] = some st' ∧ ((st' = [] ∧ r = 1) ∨ (st' = [r] ∧ (r = 0 ∨ r = 1))) := by
    rcases hr with ⟨rfl, e⟩ | ⟨h, e⟩
    · exact ⟨[], rfl, Or.inl ⟨rfl, e⟩⟩
    · exact ⟨[r], h [] (by show 0 + d ≤ 32; omega), Or.inr ⟨rfl, e⟩⟩
  obtain ⟨st', r1, r2⟩ := run'
  obtain ⟨g', a1, a2, a3, a4⟩ := k_run (i := i) (e := z + cs.length) hF h3 h4 h5 (by omega) cs z [] st' g fu (by have := fu_big; omega) rfl h7 h2 trivial (Nat.zero_le _) r1
  refine ⟨g', ?_, a4⟩
  have a1 : f_X4_holds_L10 ln (nI i) gF fu (0, nI z, g) = some (.inr (nI st'.length, g')) := a1
  unfold f_X4_holds
  rw [gdi_n (by omega) h4, nI_clamp (by omega), h1, nm_s, a1, lr_r]
  rcases r2 with ⟨rfl, rfl⟩ | ⟨rfl, e⟩
  · rfl
  · have g5 : g' 5 0 = r := a2.1
    have e1 : nI 1 - 1 = nI 0 := nI_pred _
    have ne : ¬ nI [r].length = 0 := by
      show ¬ nI 1 = 0
      decide
    simp only [jn_s, ne, if_false]
    show gdi (nI 1 - 1) 32 (if g' 5 ((nI 1 - 1).toNatClampNeg) = 1 then _ else _) = _
    rw [e1, gdi_n (by omega) (by omega), nI_clamp (by omega), g5]
    rcases e with rfl | rfl <;> rfl
end K35
