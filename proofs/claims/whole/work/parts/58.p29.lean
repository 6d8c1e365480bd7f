/-! the evening, whole -/
def TP (g gT : Pic) (c : Nat → Nat) (n : Nat) : Prop := g 8 0 = nI n ∧ gT 1 0 = nI n ∧ n ≤ 400 ∧ ∀ k, k < n → g 7 k = nI (c k) ∧ gT 0 k = nI (c k) ∧ c k ≤ 255
def bgn (g : Pic) : Pic := pu (pu (pu (pu (pu (pu g 12 0 (-1)) 9 0 (-1)) 10 0 (g 8 0)) 8 0 0) 11 0 0) 13 0 0
theorem q_begins (g : Pic) : f_X12_begins g = some (bgn g) := by
  unfold f_X12_begins
  simp only [nm_s]
  rfl
theorem bgn_o {g : Pic} {k : Nat} (h8 : k ≠ 8) (h9 : k ≠ 9) (h10 : k ≠ 10) (h11 : k ≠ 11) (h12 : k ≠ 12) (h13 : k ≠ 13) : bgn g k = g k := by
  unfold bgn
  rw [pu_o h13, pu_o h11, pu_o h8, pu_o h10, pu_o h9, pu_o h12]
section K29
variable {g g0 gT gD gE gL gS : Pic} {c : Nat → Nat} {n q s : Nat}
theorem k_open (h : TP g gT c n) : ∃ gT', f_X10_open gT = some gT' ∧ TK gT' c n (sc isB c n 0) ∧ gT' 7 0 = -1 ∧ gT' 1 0 = 0 := by
  obtain ⟨-, h1, n4, hb⟩ := h
  obtain ⟨gT', a1, a2, a3, a4⟩ := k_step (gT := pu (pu (pu (pu gT 2 0 (gT 1 0)) 1 0 0) 5 0 0) 7 0 (-1)) (c := c) (n := n) (q := 0) h1 n4 (fun k hk => ⟨(hb k hk).2.1, (hb k hk).2.2⟩) rfl (Nat.zero_le _)
  refine ⟨gT', ?_, a2, by rw [a3]; rfl, by rw [a4]; rfl⟩
  unfold f_X10_open
  simp only [nm_s]
  rw [a1]
  rfl
theorem TP.begin (h : TP g gT c n) : ∃ gT', f_X10_open gT = some gT' ∧ gT' 1 0 = 0 ∧ PR (bgn g) gT' c n (sc isB c n 0) := by
  obtain ⟨gT', a1, a2, a3, a4⟩ := k_open h
  obtain ⟨h8, h1, n4, hb⟩ := h
  refine ⟨gT', a1, a4, ⟨Or.inl ⟨rfl, fun k hk => (hb k hk).1⟩, h8, n4, fun k hk => (hb k hk).2.2⟩, ⟨0, Nat.zero_le _, rfl, rfl⟩, rfl, a2, a3⟩
/-- the evening's text, as both read it -/
theorem e_reads (hO : Ok (g 1)) (hR : RS gD gL (g 1)) (hT : TP g gT c n) (gV : Pic) : ∃ v k g' gT' gD', f_X12_read (bgn g) 0 = some (k, g') ∧ f_X2_readsText gV gT gD = some (v, gT', gD') ∧ gT' 1 0 = 0 ∧ FR (bgn g) g' ∧ gT' 7 0 = g' 12 0 ∧ ((v = 1 ∧ g' 12 0 = -1 ∧ Ok (g' 1) ∧ RS gD' gL (g' 1)) ∨ (v = 0 ∧ ¬ g' 12 0 = -1)) := by
  obtain ⟨gT0, a1, a2, a3⟩ := hT.begin
  obtain ⟨g1, b1, b2, b3, b4⟩ := a3.skip
  have n4 := a3.n4
  have sn := a3.sn
  have m1 : g1 1 = g 1 := b2 1 (by decide)
  have h10 : g1 10 0 = nI n := b4.1.2.1
  unfold f_X12_read f_X2_readsText
  rw [a1, b1]
  simp only [bd_s, bd2_s, bd3_s, bd4_s, bd5_s, bd6_s, bd7_s, bd8_s, lr_l, lr_r, nm_s, jn_s, gdb_0, gdb_1, h10, b3]
  by_cases z : sc isB c n 0 = n
  · have k0 : gT0 3 0 = 0 := by rw [a3.end_]; exact z
    have le : nI n ≤ nI (sc isB c n 0) := by rw [z]; exact Int32.le_refl _
    have L : f_X12_read_L23 0 fu (0, 0, g1) = some (0, g1) := by
      obtain ⟨f, hf⟩ : ∃ f, fu = f + 1 := ⟨fu - 1, by have := fu_big; omega⟩
      rw [hf]; rfl
    refine ⟨1, 0, g1, gT0, gD, by rw [if_pos le, L]; rfl, by rw [if_pos k0], a2, b2.to.fr, ?_, Or.inl ⟨rfl, b4.2.2.1, by rw [m1]; exact hO, by rw [m1]; exact hR⟩⟩
    rw [a3.2.2.2.2, b4.2.2.1]
  · have k0 : ¬ gT0 3 0 = 0 := by rw [a3.end_]; exact z
    have le : ¬ nI n ≤ nI (sc isB c n 0) := nI_ge (by omega) (by omega)
    rw [if_neg le, if_neg k0]
    obtain ⟨x, d, l1, l2, l3⟩ := e_text (gD := gD) (gL := gL) ⟨b4, by rw [m1]; exact hO, by rw [m1]; exact hR⟩ (by omega) b3 gV
    rw [l1, l2]
    rcases l3 with ⟨k, g', gT', gD', rfl, rfl, e1, e2, e3, e4, e5, e6⟩ | ⟨k, g', gT', gD', rfl, rfl, e1, e2, e3⟩ | ⟨k, g', gT', gD', s', rfl, rfl, e0, e1, e2, e3⟩
    · exact ⟨1, k, g', gT', gD', rfl, rfl, by rw [e6]; exact a2, b2.to.fr.tr e5, by rw [e1, e2], Or.inl ⟨rfl, e1, e3, e4⟩⟩
    · have ne := e1.ne n4
      refine ⟨0, k, g', gT', gD', rfl, rfl, by rw [e3]; exact a2, b2.to.fr.tr e2, ?_, Or.inr ⟨rfl, ne⟩⟩
      obtain ⟨e, -, x1, x2, -⟩ := e1
      rw [x1, x2]
    · have ne := e1.ne n4
      refine ⟨0, k, g', pu gT' 7 0 (nI s'), gD', rfl, ?_, by rw [pu_o (by decide), e3]; exact a2, b2.to.fr.tr e2, ?_, Or.inr ⟨rfl, ne⟩⟩
      · simp only [bd_s, bd2_s, bd3_s, bd4_s, bd5_s, bd6_s, bd7_s, bd8_s, lr_l, lr_r, nm_s, jn_s, gdb_0, gdb_1, e0]
      · obtain ⟨e, -, x1, x2, -⟩ := e1
        rw [x1, x2]
def evF (g3 : Pic) (y : Int32) : Option (Int32 × Pic) := if (pu g3 0 0 y) 0 0 ≤ 0 then some ((pu (pu (pu g3 0 0 y) 1 0 ((pu g3 0 0 y) 1 0 + 1)) 6 0 0) 1 0, pu (pu (pu g3 0 0 y) 1 0 ((pu g3 0 0 y) 1 0 + 1)) 6 0 0) else bd (f_X12_comesBack (pu g3 0 0 y)) (fun g => some (0, g))
theorem ev_q {g ga gb g3 : Pic} {k : Int32} (h1 : f_X12_putsAside g = some ga) (h2 : f_X12_begins ga = some gb) (h3 : f_X12_read gb 0 = some (k, g3)) : f_X12_evening g = if g3 12 0 = -1 then if g3 1 0 = 12 then evF g3 2 else evF g3 0 else evF g3 1 := by
  unfold f_X12_evening
  rw [h1, bd_s, h2, bd_s, h3, bd2_s]
  simp only [jn_s, nm_s, evF]
theorem ev_k {gP gT gS gL gD gE gV gD0 gE0 gT' gD' : Pic} {v : Int32} (h1 : f_X9_copyFrom gD gS gE gL = some (gD0, gE0)) (h2 : f_X2_readsText gV gT gD0 = some (v, gT', gD')) : f_X11_evening gP gT gS gL gD gE gV = if v = 0 then some (.inl (1, (pu gP 14 0 (gT' 7 0), gT', gS, gL, gD', gE0))) else if gS 17 0 < 12 then bd2 (f_X9_copyFrom gS gD' gL gE0) (fun a b => some (.inr ((pu a 17 0 (a 17 0 + 1)) 17 0, (pu (pu gP 14 0 (gT' 7 0)) 12 0 0, gT', pu a 17 0 (a 17 0 + 1), b, gD', gE0)))) else some (.inl (4, (pu gP 14 0 (gT' 7 0), gT', gS, gL, gD', gE0))) := by
  unfold f_X11_evening
  rw [h1, bd2_s, h2, bd3_s]
  simp only [nm_s, f_X11_forgetActs, bd_s]
/-- rows that a text read leaves as they were -/
def Fe (g g' : Pic) : Prop := (∀ k, k ≠ 0 → k ≠ 1 → k ≠ 4 → k ≠ 6 → k ≠ 8 → k ≠ 9 → k ≠ 10 → k ≠ 11 → k ≠ 12 → k ≠ 13 → g' k = g k) ∧ g' 1 1 = g 1 1 ∧ g' 1 2 = g 1 2 ∧ ∀ p, 456 ≤ p → g' 1 p = g 1 p
theorem t_evening (hO : Ok (g 1)) (hR : RS gS gL (g 1)) (hT : TP g gT c n) (gP gD gE gV : Pic) : ∃ v g' res, f_X12_evening g = some (v, g') ∧ f_X11_evening gP gT gS gL gD gE gV = some res ∧ Fe g g' ∧ g' 8 0 = 0 ∧
    ((∃ gT' gS' gL' gD' gE', res = .inr (v, (pu (pu gP 14 0 (g' 12 0)) 12 0 0, gT', gS', gL', gD', gE')) ∧ gT' 1 0 = 0 ∧ g' 0 0 = 0 ∧ g' 6 0 = 0 ∧ Ok (g' 1) ∧ RS gS' gL' (g' 1)) ∨
     (∃ gT' gD' gE' x, res = .inl (x, (pu gP 14 0 (g' 12 0), gT', gS, gL, gD', gE')) ∧ gT' 1 0 = 0 ∧ ((x = 1 ∧ g' 0 0 = 1) ∨ (x = 4 ∧ g' 0 0 = 2)) ∧ v = 0 ∧ g' 6 = g 6 ∧ g' 1 = g 1)) := by
  obtain ⟨ga, a1, a2, a3, a4⟩ := q_aside g
  have m1 : ga 1 = g 1 := a4 1 (by decide)
  obtain ⟨gD0, gE0, b1, b2⟩ := k_copy hO hR gD gE
  have hT' : TP ga gT c n := by
    obtain ⟨h8, h1, n4, hb⟩ := hT
    exact ⟨by rw [a4 8 (by decide)]; exact h8, h1, n4, fun k hk => by rw [a4 7 (by decide)]; exact hb k hk⟩
  obtain ⟨v, k, g3, gT', gD', r1, r2, r3, r4, r5, r6⟩ := e_reads (g := ga) (gD := gD0) (gL := gE0) (by rw [m1]; exact hO) (by rw [m1]; exact b2) hT' gV
  have fo : ∀ k, k ≠ 1 → k ≠ 4 → k ≠ 8 → k ≠ 9 → k ≠ 10 → k ≠ 11 → k ≠ 12 → k ≠ 13 → g3 k = g k := fun k z1 z4 z8 z9 z10 z11 z12 z13 => by
    rw [r4.1 k z1 z11 z12, bgn_o z8 z9 z10 z11 z12 z13, a4 k z4]
  have f4 : g3 4 = ga 4 := by rw [r4.1 4 (by decide) (by decide) (by decide), bgn_o (by decide) (by decide) (by decide) (by decide) (by decide) (by decide)]
  have b1' : bgn ga 1 = g 1 := by rw [bgn_o (by decide) (by decide) (by decide) (by decide) (by decide) (by decide), m1]
  have lo : ∀ p, p ≤ 2 → g3 1 p = g 1 p := fun p hp => by rw [r4.2.1 p hp, b1']
  have hi : ∀ p, 456 ≤ p → g3 1 p = g 1 p := fun p hp => by rw [r4.2.2.2 p hp, b1']
  have t8 : g3 8 0 = 0 := by rw [r4.1 8 (by decide) (by decide) (by decide)]; rfl
  obtain ⟨x, x1, x2, -, x3⟩ := hO.texts.ex
  have s17 : gS 17 0 = nI x := by rw [hR.texts, x1]
  have t0 : g3 1 0 = nI x := by rw [lo 0 (by omega), x1]
  -- the way back
  have back : ∀ y, ∃ g', f_X12_comesBack (pu g3 0 0 y) = some g' ∧ g' 1 = g 1 ∧ ∀ k, k ≠ 1 → g' k = pu g3 0 0 y k := by
    intro y
    obtain ⟨g', w1, w2, w3, w4⟩ := q_back4 (pu g3 0 0 y)
    refine ⟨g', w1, ?_, w2⟩
    funext p
    by_cases z : p < 456
    · rw [w3 p z, pu_o (by decide), f4, a3 p z]
    · rw [w4 p (by omega), pu_o (by decide), hi p (by omega)]
  have Q := ev_q a1 (q_begins ga) r1
  have K := ev_k (gP := gP) b1 r2
  clear r1 r2 a1 b1
  rcases r6 with ⟨rfl, c1, c2, c3⟩ | ⟨rfl, c1⟩
  · rw [if_pos c1, t0] at Q
    rw [if_neg (by decide : ¬ (1 : Int32) = 0), s17] at K
    by_cases z : x = 12
    · subst z
      obtain ⟨g', w1, w2, w3⟩ := back 2
      refine ⟨0, g', .inl (4, (pu gP 14 0 (gT' 7 0), gT', gS, gL, gD', gE0)), ?_, ?_, ⟨?_, by rw [w2], by rw [w2], fun p _ => by rw [w2]⟩, by rw [w3 8 (by decide), pu_o (by decide)]; exact t8, Or.inr ⟨gT', gD', gE0, 4, ?_, r3, Or.inr ⟨rfl, by rw [w3 0 (by decide)]; rfl⟩, rfl, ?_, w2⟩⟩
      · rw [Q, if_pos (show nI 12 = 12 from rfl)]; unfold evF; rw [if_neg (show ¬ (pu g3 0 0 2) 0 0 ≤ 0 from by rw [pu_s, if_pos rfl]; decide), w1]; rfl
      · rw [K, if_neg (show ¬ nI 12 < 12 from by decide)]
      · intro k z0 z1 z4 z6 z8 z9 z10 z11 z12 z13
        rw [w3 k z1, pu_o z0, fo k z1 z4 z8 z9 z10 z11 z12 z13]
      · rw [w3 12 (by decide), pu_o (by decide), r5]
      · rw [w3 6 (by decide), pu_o (by decide), fo 6 (by decide) (by decide) (by decide) (by decide) (by decide) (by decide) (by decide) (by decide)]
    · obtain ⟨gS', gL', d1, d2⟩ := k_copy c2 c3 gS gL
      have e17 : gS' 17 0 = nI x := by rw [d2.texts, t0]
      refine ⟨nI (x + 1), pu (pu (pu g3 0 0 0) 1 0 (nI x + 1)) 6 0 0, .inr (nI (x + 1), (pu (pu gP 14 0 (gT' 7 0)) 12 0 0, gT', pu gS' 17 0 (nI x + 1), gL', gD', gE0)), ?_, ?_, ⟨?_, ?_, ?_, ?_⟩, ?_, Or.inl ⟨gT', pu gS' 17 0 (nI x + 1), gL', gD', gE0, ?_, r3, rfl, rfl, ?_, ?_⟩⟩
      · rw [Q, if_neg (show ¬ nI x = 12 from fun y => z ((nI_eq (b := 12) (by omega) (by omega)).mp y))]
        unfold evF
        rw [if_pos (show (pu g3 0 0 0) 0 0 ≤ 0 from by rw [pu_s, if_pos rfl]; decide)]
        rw [show (pu g3 0 0 0) 1 0 = nI x from t0, ← nI_1]
        rfl
      · rw [K, if_pos (show nI x < 12 from (nI_ltI (b := 12) (by omega) (by omega)).mpr (by omega)), d1]
        rw [bd2_s, e17, ← nI_1]
        rfl
      · intro k z0 z1 z4 z6 z8 z9 z10 z11 z12 z13
        rw [pu_o z6, pu_o z1, pu_o z0, fo k z1 z4 z8 z9 z10 z11 z12 z13]
      · rw [pu_o (by decide), pu_s, if_neg (by decide), pu_o (by decide)]; exact lo 1 (by omega)
      · rw [pu_o (by decide), pu_s, if_neg (by decide), pu_o (by decide)]; exact lo 2 (by omega)
      · intro p hp
        rw [pu_o (by decide), pu_s, if_neg (by omega), pu_o (by decide)]; exact hi p hp
      · rw [pu_o (by decide), pu_o (by decide), pu_o (by decide)]; exact t8
      · rw [pu_o (by decide), pu_o (by decide), pu_o (by decide), r5]
      · rw [pu_o (by decide), pu_row, pu_o (by decide), nI_1]
        exact c2.sc (Or.inl rfl) (fun _ => Bn.mk (by omega) (by omega) (by omega)) (fun y => by omega) (fun y => by omega) (fun y => by omega)
      · rw [pu_o (by decide), pu_row, pu_o (by decide)]
        exact d2.sc c2 (Or.inl ⟨rfl, rfl⟩)
  · rw [if_neg c1] at Q
    rw [if_pos rfl] at K
    obtain ⟨g', w1, w2, w3⟩ := back 1
    refine ⟨0, g', .inl (1, (pu gP 14 0 (gT' 7 0), gT', gS, gL, gD', gE0)), ?_, ?_, ⟨?_, by rw [w2], by rw [w2], fun p _ => by rw [w2]⟩, by rw [w3 8 (by decide), pu_o (by decide)]; exact t8, Or.inr ⟨gT', gD', gE0, 1, ?_, r3, Or.inl ⟨rfl, by rw [w3 0 (by decide)]; rfl⟩, rfl, ?_, w2⟩⟩
    · rw [Q]; unfold evF; rw [if_neg (show ¬ (pu g3 0 0 1) 0 0 ≤ 0 from by rw [pu_s, if_pos rfl]; decide), w1]; rfl
    · exact K
    · intro k z0 z1 z4 z6 z8 z9 z10 z11 z12 z13
      rw [w3 k z1, pu_o z0, fo k z1 z4 z8 z9 z10 z11 z12 z13]
    · rw [w3 12 (by decide), pu_o (by decide), r5]
    · rw [w3 6 (by decide), pu_o (by decide), fo 6 (by decide) (by decide) (by decide) (by decide) (by decide) (by decide) (by decide) (by decide)]
end K29
