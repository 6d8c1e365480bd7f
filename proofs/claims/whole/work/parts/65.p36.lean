/-! a line of the law -/
def qJ93 (kd r_2 s0_J93 : Int32) (g0_J93 : Pic) : Option Pic := jn (fun (_ : Unit) => some g0_J93) (fun J106 => (if (g0_J93 12 0) = (-1) then (if s0_J93 = 0 then J106 () else jn (fun (s1_J121 : Int32) (s2_J121 : Int32) => nm (pu g0_J93 17 0 (s1_J121 + s2_J121)) (fun g0_4 => jn (fun (s1_J140 : Int32) (s2_J140 : Int32) => nm (pu g0_4 18 0 (s1_J140 + s2_J140)) (fun g0_5 => jn (fun (s1_J159 : Int32) (s2_J159 : Int32) => nm (pu g0_5 19 0 (s1_J159 + s2_J159)) (fun g0_6 => some g0_6)) (fun J159 => (if kd = 2 then J159 (g0_5 19 0) r_2 else J159 (g0_5 19 0) 0)))) (fun J140 => (if kd = 1 then J140 (g0_4 18 0) r_2 else J140 (g0_4 18 0) 0)))) (fun J121 => (if kd = 0 then J121 (g0_J93 17 0) r_2 else J121 (g0_J93 17 0) 0))) else J106 ()))
def qJ40 (kd : Int32) (g0_J40 : Pic) : Option Pic := (if kd = (-1) then bd (f_X12_wrong g0_J40 (g0_J40 11 0)) (fun g0_8 => some g0_8) else bd2 (f_X12_figures g0_J40 0 99) (fun r_2 g0_2 => (if (g0_2 12 0) = (-1) then bd2 (f_X12_has 15 g0_2) (fun r_3 g0_3 => jn (fun (s0_J93 : Int32) (g0_J93 : Pic) => qJ93 kd r_2 s0_J93 g0_J93) (fun J93 => jn (fun (g0_J88 : Pic) => J93 1 g0_J88) (fun J88 => (if r_3 = 0 then J88 g0_3 else bd2 (f_X12_cond g0_3) (fun r_7 g0_7 => (if r_7 = 0 then J93 0 g0_7 else J88 g0_7)))))) else some g0_2)))
theorem q_lawLine (g : Pic) : f_X12_lawLine g = bd2 (f_X12_has 13 g) (fun r_1 g0_1 => (if r_1 = 0 then bd2 (f_X12_has 14 g0_1) (fun r_9 g0_9 => (if r_9 = 0 then bd2 (f_X12_has 9 g0_9) (fun r_10 g0_10 => (if r_10 = 0 then qJ40 (-1) g0_10 else qJ40 2 g0_10)) else qJ40 1 g0_9)) else qJ40 0 g0_1)) := by
  unfold f_X12_lawLine
  simp only [jn_s, qJ40, qJ93]
def E19 (g g' : Pic) : Prop := ∀ k, k ≠ 11 → k ≠ 12 → k ≠ 13 → k ≠ 17 → k ≠ 18 → k ≠ 19 → g' k = g k
theorem E13.t19 {a b : Pic} (h : E13 a b) : E19 a b := fun k h1 h2 h3 _ _ _ => h k h1 h2 h3
theorem E19.tr {a b d : Pic} (h : E19 a b) (k : E19 b d) : E19 a d := fun i h1 h2 h3 h4 h5 h6 => (k i h1 h2 h3 h4 h5 h6).trans (h i h1 h2 h3 h4 h5 h6)
theorem E19.rf (g : Pic) : E19 g g := fun _ _ _ _ _ _ _ => rfl
theorem E19.fa {g g' : Pic} (h : E19 g g') : fa_ g' = fa_ g := fa_c (h 14 (by decide) (by decide) (by decide) (by decide) (by decide) (by decide)) (h 15 (by decide) (by decide) (by decide) (by decide) (by decide) (by decide)) (h 16 (by decide) (by decide) (by decide) (by decide) (by decide) (by decide))
theorem q_fin {g : Pic} {kd : Nat} (hk : kd < 3) {r : Int32} (hr : r = 0 ∨ r = 1) (am : Int32) (h12 : g 12 0 = -1) : ∃ g', qJ93 (nI kd) am r g = some g' ∧ (∀ k, k ≠ 17 → k ≠ 18 → k ≠ 19 → g' k = g k) ∧ ∀ x, x < 3 → g' (17 + x) 0 = g (17 + x) 0 + (if kd = x ∧ r = 1 then am else 0) := by
  unfold qJ93
  rcases hr with rfl | rfl
  · refine ⟨g, ?_, fun _ _ _ _ => rfl, fun x _ => ?_⟩
    · simp only [jn_s, h12, if_true]
    · rw [if_neg (fun y => by cases y.2), Int32.add_zero]
  · have : kd = 0 ∨ kd = 1 ∨ kd = 2 := by omega
    rcases this with rfl | rfl | rfl
    · refine ⟨pu (pu (pu g 17 0 (g 17 0 + am)) 18 0 (g 18 0 + 0)) 19 0 (g 19 0 + 0), ?_, fun k h1 h2 h3 => by rw [pu_o h3, pu_o h2, pu_o h1], fun x hx => ?_⟩
      · rw [jn_s, if_pos h12, if_neg (by decide)]; rfl
      · have : x = 0 ∨ x = 1 ∨ x = 2 := by omega
        rcases this with rfl | rfl | rfl <;> rfl
    · refine ⟨pu (pu (pu g 17 0 (g 17 0 + 0)) 18 0 (g 18 0 + am)) 19 0 (g 19 0 + 0), ?_, fun k h1 h2 h3 => by rw [pu_o h3, pu_o h2, pu_o h1], fun x hx => ?_⟩
      · rw [jn_s, if_pos h12, if_neg (by decide)]; rfl
      · have : x = 0 ∨ x = 1 ∨ x = 2 := by omega
        rcases this with rfl | rfl | rfl <;> rfl
    · refine ⟨pu (pu (pu g 17 0 (g 17 0 + 0)) 18 0 (g 18 0 + 0)) 19 0 (g 19 0 + am), ?_, fun k h1 h2 h3 => by rw [pu_o h3, pu_o h2, pu_o h1], fun x hx => ?_⟩
      · rw [jn_s, if_pos h12, if_neg (by decide)]; rfl
      · have : x = 0 ∨ x = 1 ∨ x = 2 := by omega
        rcases this with rfl | rfl | rfl <;> rfl
/-- the class's lines, and what they give under the facts fa -/
def LN (fa : Nat → Int32) (g5 : Pic) : Nat → Nat → (Nat → Int32) → Prop
  | 0, z, t => z = 0 ∧ ∀ x, t x = 0
  | k + 1, z, t => ∃ z0 t', LN fa g5 k z0 t' ∧ ∃ (cs : List Int32) (kd am : Nat) (r : Int32), z = z0 + cs.length ∧ g5 3 (k + 1) = nI z ∧ g5 1 k = nI kd ∧ kd < 3 ∧ g5 2 k = nI am ∧ am ≤ 99 ∧ (∀ j, j < cs.length → g5 4 (z0 + j) = cs.getD j 0) ∧ ((cs = [] ∧ r = 1) ∨ (RV fa 17 cs r ∧ (r = 0 ∨ r = 1))) ∧ ∀ x, t x = t' x + (if kd = x ∧ r = 1 then nI am else 0)
theorem LN.c {fa : Nat → Int32} {g g' : Pic} : ∀ {k z : Nat} {t : Nat → Int32}, LN fa g k z t → (∀ i, i < k → g' 1 i = g 1 i) → (∀ i, i < k → g' 2 i = g 2 i) → (∀ i, i ≤ k → g' 3 i = g 3 i) → (∀ p, p < z → g' 4 p = g 4 p) → LN fa g' k z t
  | 0, _, _, h, _, _, _, _ => h
  | k + 1, z, t, ⟨z0, t', h, cs, kd, am, r, e1, e2, e3, e4, e5, e6, e7, e8, e9⟩, h1, h2, h3, h4 =>
    ⟨z0, t', LN.c h (fun i hi => h1 i (by omega)) (fun i hi => h2 i (by omega)) (fun i hi => h3 i (by omega)) (fun p hp => h4 p (by omega)), cs, kd, am, r, e1, (h3 (k + 1) (by omega)).trans e2, (h1 k (by omega)).trans e3, e4, (h2 k (by omega)).trans e5, e6, fun j hj => (h4 (z0 + j) (by omega)).trans (e7 j hj), e8, e9⟩
section K36
variable {g g0 gT gD gE gL gS g5 : Pic} {c : Nat → Nat} {n q s z k : Nat} {t B : Nat → Int32}
/-- both readers before a line of the law -/
def LL (B : Nat → Int32) (g gT g5 : Pic) (c : Nat → Nat) (n s k z : Nat) (t : Nat → Int32) : Prop := PR g gT c n s ∧ hb g ∧ g 13 0 = 0 ∧ g5 5 0 = nI k ∧ g5 6 0 = nI z ∧ z ≤ s ∧ g5 3 0 = 0 ∧ LN (fa_ g) g5 k z t ∧ ∀ x, x < 3 → g (17 + x) 0 = B x + t x
def NRes (B : Nat → Int32) (g gT : Pic) (c : Nat → Nat) (n k : Nat) (X : Option Pic) (Y : Option (Int32 × Pic × Pic)) : Prop :=
  (∃ g' gT' g5' s' z' t', X = some g' ∧ Y = some (1, g5', gT') ∧ LL B g' gT' g5' c n s' (k + 1) z' t' ∧ E19 g g' ∧ gT' 1 = gT 1) ∨
  (∃ g' gT' g5', X = some g' ∧ Y = some (0, g5', gT') ∧ FLk g' gT' n 7 ∧ E19 g g' ∧ gT' 1 = gT 1)
def kJ67 (kd am : Int32) (g0_J67 : Pic) (g1_J67 : Pic) : Option (Int32 × Pic × Pic) := gdi (g0_J67 5 0) 12 (nm (pu g0_J67 1 ((g0_J67 5 0).toNatClampNeg) kd) (fun g0_7 => gdi (g0_7 5 0) 12 (nm (pu g0_7 2 ((g0_7 5 0).toNatClampNeg) am) (fun g0_9 => nm (pu g0_9 5 0 ((g0_9 5 0) + 1)) (fun g0_10 => gdi (g0_10 5 0) 13 (nm (pu g0_10 3 ((g0_10 5 0).toNatClampNeg) (g0_10 6 0)) (fun g0_12 => some (1, g0_12, g1_J67))))))))
/-- a line that was read well goes into both -/
theorem e_lineEnd (h : LL B g gT g5 c n s k z t) (hk : k < 12) {g3 gT3 g53 : Pic} {s3 : Nat} {cs : List Int32} {r : Int32} {kd am : Nat} (p : PR g3 gT3 c n s3) (E : E13 g g3) (e13 : g3 13 0 = 0) (em : EM g5 g53 z cs) (sl : s + cs.length ≤ s3) (hr : (cs = [] ∧ r = 1) ∨ (RV (fa_ g) 17 cs r ∧ (r = 0 ∨ r = 1))) (hkd : kd < 3) (ham : am ≤ 99) (t1 : gT3 1 = gT 1) : NRes B g gT c n k (qJ93 (nI kd) (nI am) r g3) (kJ67 (nI kd) (nI am) g53 gT3) := by
  obtain ⟨h1, h2, h3, h4, h5, h6, h7, h8, h9⟩ := h
  have rb : r = 0 ∨ r = 1 := by
    rcases hr with ⟨-, y⟩ | ⟨-, y⟩
    · exact Or.inr y
    · exact y
  obtain ⟨g4, f1, f2, f3⟩ := q_fin hkd rb (nI am) p.2.2.1
  have k5 : g53 5 0 = nI k := by rw [em.2.2.2 5 (by decide) (by decide)]; exact h4
  have E4 : E19 g g4 := fun i x1 x2 x3 x4 x5 x6 => (f2 i x4 x5 x6).trans (E i x1 x2 x3)
  refine Or.inl ⟨g4, gT3, pu (pu (pu (pu g53 1 k (nI kd)) 2 k (nI am)) 5 0 (nI (k + 1))) 3 (k + 1) (nI (z + cs.length)), s3, z + cs.length, fun x => t x + (if kd = x ∧ r = 1 then nI am else 0), f1, ?_, ⟨?_, ?_, ?_, ?_, ?_, by omega, ?_, ?_, ?_⟩, E4, t1⟩
  · unfold kJ67
    have x1 : (pu g53 1 k (nI kd)) 5 0 = nI k := k5
    have x2 : (pu (pu g53 1 k (nI kd)) 2 k (nI am)) 5 0 = nI k := k5
    have x3 : (pu (pu (pu g53 1 k (nI kd)) 2 k (nI am)) 5 0 (nI (k + 1))) 5 0 = nI (k + 1) := rfl
    have x4 : (pu (pu (pu g53 1 k (nI kd)) 2 k (nI am)) 5 0 (nI (k + 1))) 6 0 = nI (z + cs.length) := em.1
    simp (disch := omega) only [nm_s, k5, gdi_n, nI_clamp, x1, x2, nI_1, x3, x4]
  · obtain ⟨q1, q2, q3, q4⟩ := p
    refine ⟨q1.of (f2 9 (by decide) (by decide) (by decide)) (f2 7 (by decide) (by decide) (by decide)) (fun p _ => by rw [f2 1 (by decide) (by decide) (by decide)]) (f2 10 (by decide) (by decide) (by decide)), ?_, by rw [f2 12 (by decide) (by decide) (by decide)]; exact q3, q4⟩
    rw [f2 11 (by decide) (by decide) (by decide)]
    exact q2
  · unfold hb
    rw [E4 15 (by decide) (by decide) (by decide) (by decide) (by decide) (by decide), E4 16 (by decide) (by decide) (by decide) (by decide) (by decide) (by decide)]
    exact h2
  · rw [f2 13 (by decide) (by decide) (by decide)]; exact e13
  · rfl
  · exact em.1
  · rw [pu_s, if_neg (by omega), pu_o (by decide), pu_o (by decide), pu_o (by decide), em.2.2.2 3 (by decide) (by decide)]
    exact h7
  · rw [E4.fa]
    refine ⟨z, t, LN.c h8 (fun i hi => ?_) (fun i hi => ?_) (fun i hi => ?_) (fun p hp => ?_), cs, kd, am, r, rfl, ?_, ?_, hkd, ?_, ham, fun j hj => ?_, hr, fun x => rfl⟩
    · rw [pu_o (by decide), pu_o (by decide), pu_o (by decide), pu_s, if_neg (by omega), em.2.2.2 1 (by decide) (by decide)]
    · rw [pu_o (by decide), pu_o (by decide), pu_s, if_neg (by omega), pu_o (by decide), em.2.2.2 2 (by decide) (by decide)]
    · rw [pu_s, if_neg (by omega), pu_o (by decide), pu_o (by decide), pu_o (by decide), em.2.2.2 3 (by decide) (by decide)]
    · rw [pu_o (by decide), pu_o (by decide), pu_o (by decide), pu_o (by decide)]
      exact em.2.2.1 p hp
    · rw [pu_s, if_pos rfl]
    · rw [pu_o (by decide), pu_o (by decide), pu_o (by decide), pu_s, if_pos rfl]
    · rw [pu_o (by decide), pu_o (by decide), pu_s, if_pos rfl]
    · rw [pu_o (by decide), pu_o (by decide), pu_o (by decide), pu_o (by decide)]
      exact em.2.1 j hj
  · intro x hx
    have e17 : g3 (17 + x) = g (17 + x) := E (17 + x) (by omega) (by omega) (by omega)
    rw [f3 x hx, e17, h9 x hx, Int32.add_assoc]
end K36
