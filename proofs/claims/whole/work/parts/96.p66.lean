/-! acts remembered -/
theorem nI_mod12 {a : Nat} (ha : a < 2 ^ 31) : nI a - nI a / 12 * 12 = nI (a % 12) := by
  rw [show (12 : Int32) = nI 12 from rfl, nI_div ha (by omega), nI_mul, nI_sub (Nat.div_mul_le_self a 12)]
  congr 1
  omega
section K66
variable {m : Nat → Int32} {g g' gP gS gL gT gD gE : Pic} {k o : Nat} {lo ko : Option LawT} {sh : Bool} {hs : Nat → Bool} {SG SK : Nat → Pic} {SQ : Nat → Option Nat}
theorem q_remA (h6 : g 6 0 = nI k) (hk : k < 12) : ∃ g', f_X12_remembers_L52 fu (0, g) = some g' ∧ (∀ i, i ≠ 5 → g' i = g i) ∧ ∀ p, g' 5 p = if 456 * k ≤ p ∧ p < 456 * k + 456 then g 1 (p - 456 * k) else g 5 p := by
  refine lp_inv (fun x s => ∃ y : Pic, s = (nI x, y) ∧ (∀ i, i ≠ 5 → y i = g i) ∧ ∀ p, y 5 p = if 456 * k ≤ p ∧ p < 456 * k + x then g 1 (p - 456 * k) else g 5 p) 456 (fun g' : Pic => (∀ i, i ≠ 5 → g' i = g i) ∧ ∀ p, g' 5 p = if 456 * k ≤ p ∧ p < 456 * k + 456 then g 1 (p - 456 * k) else g 5 p) ?_ ?_ (by have := fu_big; omega) ⟨g, rfl, fun _ _ => rfl, fun p => by rw [if_neg (by omega)]⟩
  · rintro x hx _ ⟨y, rfl, y1, y2⟩
    have e6 : y 6 0 = nI k := by rw [y1 6 (by omega)]; exact h6
    have e : (456 : Int32) * y 6 0 + nI x = nI (456 * k + x) := by rw [e6, li_456, nI_mul, nI_add]
    refine Or.inl ⟨(nI (x + 1), pu y 5 (456 * k + x) (y 1 x)), ⟨_, rfl, fun i hi => by rw [pu_row, if_neg hi]; exact y1 i hi, fun p => ?_⟩, fun r => ?_⟩
    · rw [pu_s, y2 p, y1 1 (by omega)]
      by_cases z : p = 456 * k + x
      · rw [if_pos z, if_pos (by omega), z]; congr 1; omega
      · rw [if_neg z]
        by_cases w : 456 * k ≤ p ∧ p < 456 * k + x
        · rw [if_pos w, if_pos (by omega)]
        · rw [if_neg w, if_neg (by omega)]
    · show (if (456 : Int32) ≤ nI x then _ else _) = _
      rw [if_neg (by rw [li_456, nI_leI (by omega) (by omega)]; omega), gdi_n (by omega) (by omega), e, gdi_n (by omega) (by omega), nI_clamp (by omega), nI_clamp (by omega), nm_s, nm_s, nI_1]
  · rintro _ ⟨y, rfl, y1, y2⟩
    refine ⟨y, ⟨y1, y2⟩, fun r => ?_⟩
    show (if (456 : Int32) ≤ nI 456 then _ else _) = _
    rw [if_pos (by decide)]
theorem q_remB (g : Pic) : ∃ g', f_X12_remembers_L11 fu (0, g) = some g' ∧ (∀ i, i ≠ 5 → g' i = g i) ∧ ∀ p, g' 5 p = if p < 5016 then g 5 (p + 456) else g 5 p := by
  refine lp_inv (fun x s => ∃ y : Pic, s = (nI x, y) ∧ (∀ i, i ≠ 5 → y i = g i) ∧ ∀ p, y 5 p = if p < x then g 5 (p + 456) else g 5 p) 5016 (fun g' : Pic => (∀ i, i ≠ 5 → g' i = g i) ∧ ∀ p, g' 5 p = if p < 5016 then g 5 (p + 456) else g 5 p) ?_ ?_ (by have := fu_big; omega) ⟨g, rfl, fun _ _ => rfl, fun p => by rw [if_neg (by omega)]⟩
  · rintro x hx _ ⟨y, rfl, y1, y2⟩
    have e : nI x + 456 = nI (x + 456) := by rw [li_456, nI_add]
    refine Or.inl ⟨(nI (x + 1), pu y 5 x (y 5 (x + 456))), ⟨_, rfl, fun i hi => by rw [pu_row, if_neg hi]; exact y1 i hi, fun p => ?_⟩, fun r => ?_⟩
    · rw [pu_s, y2 p, y2 (x + 456), if_neg (show ¬ x + 456 < x by omega)]
      by_cases z : p = x
      · rw [if_pos z, if_pos (by omega), z]
      · rw [if_neg z]
        by_cases w : p < x
        · rw [if_pos w, if_pos (by omega)]
        · rw [if_neg w, if_neg (by omega)]
    · show (if (5016 : Int32) ≤ nI x then _ else _) = _
      rw [if_neg (by rw [li_5016, nI_leI (by omega) (by omega)]; omega), e, gdi_n (by omega) (by omega), gdi_n (by omega) (by omega), nI_clamp (by omega), nI_clamp (by omega), nm_s, nm_s, nI_1]
  · rintro _ ⟨y, rfl, y1, y2⟩
    refine ⟨y, ⟨y1, y2⟩, fun r => ?_⟩
    show (if (5016 : Int32) ≤ nI 5016 then _ else _) = _
    rw [if_pos (by decide)]
theorem q_rem (h6 : g 6 0 = nI k) (hk : k ≤ 12) : ∃ g', f_X12_remembers g = some g' ∧ (∀ i, i ≠ 5 → i ≠ 6 → g' i = g i) ∧ (k < 12 → g' 6 0 = nI (k + 1) ∧ ∀ p, p < 456 → (∀ j, j < k → arow g' j p = arow g j p) ∧ arow g' k p = g 1 p) ∧ (k = 12 → g' 6 0 = nI 12 ∧ ∀ p, p < 456 → (∀ j, j < 11 → arow g' j p = arow g (j + 1) p) ∧ arow g' 11 p = g 1 p) := by
  by_cases z : k = 12
  · subst z
    obtain ⟨g1, a1, a2, a3⟩ := q_remB g
    have e6 : (pu g1 6 0 (g1 6 0 - 1)) 6 0 = nI 11 := by show g1 6 0 - 1 = _; rw [a2 6 (by omega), h6]; rfl
    obtain ⟨g2, b1, b2, b3⟩ := q_remA e6 (by omega)
    have key : f_X12_remembers g = some (pu g2 6 0 (g2 6 0 + 1)) := by
      unfold f_X12_remembers
      rw [jn_s, h6, if_pos (show nI 12 = 12 from rfl), a1, bd_s, nm_s]
      show bd (f_X12_remembers_L52 fu (0, pu g1 6 0 (g1 6 0 - 1))) _ = _
      rw [b1, bd_s, nm_s]
    refine ⟨_, key, fun i h5 h6 => ?_, fun h => absurd h (by omega), fun _ => ⟨?_, fun p hp => ⟨fun j hj => ?_, ?_⟩⟩⟩
    · rw [pu_row, if_neg h6, b2 i h5, pu_row, if_neg h6, a2 i h5]
    · show g2 6 0 + 1 = _
      rw [b2 6 (by omega), e6, nI_1]
    · show g2 5 (456 * j + p) = g 5 (456 * (j + 1) + p)
      rw [b3, if_neg (by omega)]
      show g1 5 (456 * j + p) = _
      rw [a3, if_pos (by omega)]
      exact congrArg (g 5) (by omega)
    · show g2 5 (456 * 11 + p) = g 1 p
      rw [b3, if_pos (by omega)]
      show g1 1 _ = _
      rw [a2 1 (by omega)]
      exact congrArg (g 1) (by omega)
  · obtain ⟨g2, b1, b2, b3⟩ := q_remA h6 (by omega)
    have key : f_X12_remembers g = some (pu g2 6 0 (g2 6 0 + 1)) := by
      unfold f_X12_remembers
      rw [jn_s, h6, if_neg (show ¬ nI k = 12 from fun q => z ((nI_eq (b := 12) (by omega) (by omega)).mp q))]
      show bd (f_X12_remembers_L52 fu (0, g)) _ = _
      rw [b1, bd_s, nm_s]
    refine ⟨_, key, fun i h5 h6 => ?_, fun _ => ⟨?_, fun p hp => ⟨fun j hj => ?_, ?_⟩⟩, fun h => absurd h z⟩
    · rw [pu_row, if_neg h6, b2 i h5]
    · show g2 6 0 + 1 = _
      rw [b2 6 (by omega), h6, nI_1]
    · show g2 5 (456 * j + p) = g 5 (456 * j + p)
      rw [b3, if_neg (by omega)]
    · show g2 5 (456 * k + p) = g 1 p
      rw [b3, if_pos (by omega)]
      congr 1
      omega
/-- the class's ring takes one act more -/
theorem ActI.rem (h : ActI g gP lo hs SG SK SQ) (hO : Ok (g 1)) : ∃ g' j, f_X12_remembers (pu g 0 0 0) = some g' ∧ (∀ i, i ≠ 5 → i ≠ 6 → g' i = (pu g 0 0 0) i) ∧ j < 12 ∧ fRemS (fRem1 gP) = nI j ∧ f_X11_rem gP = some (fRem2 (fRem1 gP)) ∧ ∀ G4 G5, RS G4 G5 (g 1) → ActI g' (fRem2 (fRem1 gP)) lo (va_up hs j true) (va_up SG j G4) (va_up SK j G5) (va_up SQ j (lref lo)) := by
  obtain ⟨o, k, h1, h2, h3, h4, h5, h6⟩ := h
  obtain ⟨g', a1, a2, a3, a4⟩ := q_rem (g := pu g 0 0 0) (k := k) h5 h2
  have g1 : g' 1 = g 1 := a2 1 (by omega) (by omega)
  by_cases z : k < 12
  · have e1 : fRem1 gP = gP := by unfold fRem1; rw [h4, if_pos (show nI k < 12 from (nI_ltI (b := 12) (by omega) (by omega)).mpr z)]
    have e2 : fRemS gP = nI ((o + k) % 12) := by
      unfold fRemS
      rw [h3, h4, nI_add, nI_mod12 (by omega)]
    have hj : (o + k) % 12 < 12 := Nat.mod_lt _ (by omega)
    obtain ⟨b1, b2⟩ := a3 z
    refine ⟨g', (o + k) % 12, a1, a2, hj, by rw [e1, e2], by unfold f_X11_rem; rw [e1, e2, gdi_n hj (by omega)], fun G4 G5 hR => ?_⟩
    rw [e1]
    refine ⟨o, k + 1, h1, by omega, h3, by show gP 12 0 + 1 = _; rw [h4, nI_1], b1, fun i hi => ?_⟩
    rcases Nat.lt_succ_iff_lt_or_eq.mp hi with q | q
    · have ne : (o + i) % 12 ≠ (o + k) % 12 := by omega
      obtain ⟨c1, c2, c3, c4, c5, c6⟩ := h6 i q
      have er : ∀ p, p < 456 → arow g' i p = arow g i p := fun p hp => (b2 p hp).1 i q
      rw [va_up_ne _ _ ne, va_up_ne _ _ ne, va_up_ne _ _ ne, va_up_ne _ _ ne]
      exact ⟨c1, c2, c3.cong er, c4.cong c3 er, by rw [er 1 (by omega), g1]; exact c5, by rw [er 2 (by omega), g1]; exact c6⟩
    · subst q
      have er : ∀ p, p < 456 → arow g' i p = g 1 p := fun p hp => (b2 p hp).2
      rw [va_up_self, va_up_self, va_up_self, va_up_self]
      exact ⟨rfl, rfl, hO.cong er, hR.cong hO er, by rw [er 1 (by omega), g1], by rw [er 2 (by omega), g1]⟩
  · obtain rfl : k = 12 := by omega
    have n12 : ¬ gP 12 0 < 12 := by rw [h4]; decide
    have e0 : nI o + 1 - (nI o + 1) / 12 * 12 = nI ((o + 1) % 12) := by rw [nI_1, nI_mod12 (by omega)]
    have e1 : fRem1 gP = pu (pu gP 11 0 (nI ((o + 1) % 12))) 12 0 11 := by unfold fRem1; rw [if_neg n12, h3, e0]
    have e2 : fRemS (fRem1 gP) = nI o := by
      rw [e1]
      show (nI ((o + 1) % 12) + nI 11) - (nI ((o + 1) % 12) + nI 11) / 12 * 12 = nI o
      rw [nI_add, nI_mod12 (by omega)]
      congr 1
      omega
    obtain ⟨b1, b2⟩ := a4 rfl
    refine ⟨g', o, a1, a2, h1, e2, by unfold f_X11_rem; rw [e2, gdi_n h1 (by omega)], fun G4 G5 hR => ?_⟩
    rw [e1]
    refine ⟨(o + 1) % 12, 12, by omega, by omega, rfl, rfl, b1, fun i hi => ?_⟩
    by_cases q : i = 11
    · subst q
      have ei : ((o + 1) % 12 + 11) % 12 = o := by omega
      have er : ∀ p, p < 456 → arow g' 11 p = g 1 p := fun p hp => (b2 p hp).2
      rw [ei, va_up_self, va_up_self, va_up_self, va_up_self]
      exact ⟨rfl, rfl, hO.cong er, hR.cong hO er, by rw [er 1 (by omega), g1], by rw [er 2 (by omega), g1]⟩
    · have ei : ((o + 1) % 12 + i) % 12 = (o + (i + 1)) % 12 := by omega
      have ne : (o + (i + 1)) % 12 ≠ o := by omega
      obtain ⟨c1, c2, c3, c4, c5, c6⟩ := h6 (i + 1) (by omega)
      have er : ∀ p, p < 456 → arow g' i p = arow g (i + 1) p := fun p hp => (b2 p hp).1 i (by omega)
      rw [ei, va_up_ne _ _ ne, va_up_ne _ _ ne, va_up_ne _ _ ne, va_up_ne _ _ ne]
      exact ⟨c1, c2, c3.cong er, c4.cong c3 er, by rw [er 1 (by omega), g1]; exact c5, by rw [er 2 (by omega), g1]; exact c6⟩
/-- only the row of now changes, and not its law -/
theorem ActI.m1 {lo' : Option LawT} (h : ActI g gP lo hs SG SK SQ) (e5 : g' 5 = g 5) (e6 : g' 6 0 = g 6 0) (e1 : g' 1 1 = g 1 1) (e2 : g' 1 2 = g 1 2) (el : lref lo' = lref lo) : ActI g' gP lo' hs SG SK SQ := by
  obtain ⟨o, k, h1, h2, h3, h4, h5, h6⟩ := h
  have er : ∀ j, arow g' j = arow g j := fun j => by unfold arow; rw [e5]
  refine ⟨o, k, h1, h2, h3, h4, by rw [e6, h5], fun j hj => ?_⟩
  rw [er, e1, e2, el]
  exact h6 j hj
theorem KeptI.m1 {lo' : Option LawT} (h : KeptI g lo ko sh hs SG SK SQ) (e2 : g' 2 = g 2) (e3 : g' 3 0 = g 3 0) (e11 : g' 1 1 = g 1 1) (e12 : g' 1 2 = g 1 2) (e4 : ∀ p, 456 ≤ p → g' 1 p = g 1 p) (el : lref lo' = lref lo) : KeptI g' lo' ko sh hs SG SK SQ := by
  refine ⟨fun z => by rw [e3]; exact h.1 z, fun z => ?_⟩
  obtain ⟨a1, a2, a3, a4, a5⟩ := h.2 z
  rw [e2, e3]
  exact ⟨a1, a2, a3, fun y => by
    obtain ⟨b1, b2, b3, b4⟩ := a4 y
    exact ⟨by rw [el]; exact b1, by rw [e11]; exact b2, by rw [e12]; exact b3, fun p hp h8 => by rw [e4 p hp]; exact b4 p hp h8⟩, a5⟩
theorem KeptI.up {j : Nat} (hj : j < 12) (h : KeptI g lo ko sh hs SG SK SQ) (b : Bool) (x y : Pic) (q : Option Nat) : KeptI g lo ko sh (va_up hs j b) (va_up SG j x) (va_up SK j y) (va_up SQ j q) := by
  have ne : (12 : Nat) ≠ j := by omega
  unfold KeptI
  rw [va_up_ne _ _ ne, va_up_ne _ _ ne, va_up_ne _ _ ne, va_up_ne _ _ ne]
  exact h
/-- what an act leaves -/
theorem INV.act {rm gS' gL' : Pic} {lo' : Option LawT} {j : Nat} {G4 G5 : Pic} (h : INV g gP gT gS gL lo ko sh hs SG SK SQ) (r1 : ∀ i, i ≠ 5 → i ≠ 6 → rm i = (pu g 0 0 0) i) (hj : j < 12) (hA : ActI rm (fRem2 (fRem1 gP)) lo (va_up hs j true) (va_up SG j G4) (va_up SK j G5) (va_up SQ j (lref lo)))
    (e1 : ∀ i, i ≠ 1 → (i < 9 ∨ 20 ≤ i) → g' i = rm i) (e12 : g' 12 0 = rm 12 0) (e11 : g' 1 1 = g 1 1) (e2 : g' 1 2 = g 1 2) (e4 : ∀ p, 456 ≤ p → g' 1 p = g 1 p) (hO : Ok (g' 1)) (hR : RS gS' gL' (g' 1)) (hL : LwO (g' 1) lo') (el : lref lo' = lref lo) :
    INV g' (fRem2 (fRem1 gP)) gT gS' gL' lo' ko sh (va_up hs j true) (va_up SG j G4) (va_up SK j G5) (va_up SQ j (lref lo)) := by
  have m1 : rm 1 = g 1 := r1 1 (by omega) (by omega)
  obtain ⟨q1, q2, q3, ⟨c, n, t1, t2, t3, t4⟩, q5, q6, q7⟩ := h
  have e14 : (fRem2 (fRem1 gP)) 14 0 = gP 14 0 := by
    show (fRem1 gP) 14 0 = _
    unfold fRem1
    split <;> rfl
  refine ⟨hO, hR, hL, ⟨c, n, ?_, t2, t3, fun i hi => ?_⟩, ?_, hA.m1 (e1 5 (by omega) (by omega)) (by rw [e1 6 (by omega) (by omega)]) (by rw [e11, m1]) (by rw [e2, m1]) el, ?_⟩
  · rw [e1 8 (by omega) (by omega), r1 8 (by omega) (by omega)]; exact t1
  · rw [e1 7 (by omega) (by omega), r1 7 (by omega) (by omega)]; exact t4 i hi
  · rw [e14, e12, r1 12 (by omega) (by omega)]; exact q5
  · refine KeptI.up hj ?_ _ _ _ _
    exact q7.m1 (by rw [e1 2 (by omega) (by omega), r1 2 (by omega) (by omega)]; rfl) (by rw [e1 3 (by omega) (by omega), r1 3 (by omega) (by omega)]; rfl) e11 e2 e4 el
end K66
