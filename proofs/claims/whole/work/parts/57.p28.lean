/-! a line, and all lines of an evening -/
def En {α γ : Type} (F : (α → Option γ) → α → Option γ) (a : α) (x : γ) : Prop := (∀ r, F r a = some x) ∨ ∃ a', (∀ r, F r a = r a') ∧ ∀ r, F r a' = some x
theorem En_lp {α γ : Type} {F : (α → Option γ) → α → Option γ} {a : α} {x : γ} (h : En F a x) (n : Nat) : lp F (n + 2) a = some x := by
  rcases h with h | ⟨a', h1, h2⟩
  · exact h _
  · exact (h1 (lp F (n + 1))).trans (h2 _)
theorem lp_two3 {α β γ δ : Type} {F : (α → Option γ) → α → Option γ} {G : (β → Option δ) → β → Option δ} (J : Nat → α → β → Prop) (L : Nat) (P : γ → δ → Prop)
    (hs : ∀ k, k < L → ∀ a b, J k a b → (∃ a' b', J (k + 1) a' b' ∧ (∀ r, F r a = r a') ∧ ∀ r, G r b = r b') ∨ (∃ c d, P c d ∧ En F a c ∧ En G b d)) (he : ∀ a b, J L a b → ∃ c d, P c d ∧ En F a c ∧ En G b d) {N M : Nat} (hN : L + 1 < N) (hM : L + 1 < M) {a : α} {b : β} (h0 : J 0 a b) : ∃ c d, lp F N a = some c ∧ lp G M b = some d ∧ P c d := by
  have A : ∀ j k, j + k = L → ∀ N, j + 1 < N → ∀ M, j + 1 < M → ∀ a b, J k a b → ∃ c d, lp F N a = some c ∧ lp G M b = some d ∧ P c d := by
    intro j
    induction j with
    | zero =>
      intro k hk N hN M hM a b hJ
      obtain ⟨n, rfl⟩ : ∃ n, N = n + 2 := ⟨N - 2, by omega⟩
      obtain ⟨m, rfl⟩ : ∃ n, M = n + 2 := ⟨M - 2, by omega⟩
      have : k = L := by omega
      subst this
      obtain ⟨c, d, h1, h2, h3⟩ := he a b hJ
      exact ⟨c, d, En_lp h2 n, En_lp h3 m, h1⟩
    | succ j ih =>
      intro k hk N hN M hM a b hJ
      obtain ⟨n, rfl⟩ : ∃ n, N = n + 2 := ⟨N - 2, by omega⟩
      obtain ⟨m, rfl⟩ : ∃ n, M = n + 2 := ⟨M - 2, by omega⟩
      rcases hs k (by omega) a b hJ with ⟨a', b', h1, h2, h3⟩ | ⟨c, d, h1, h2, h3⟩
      · obtain ⟨c, d, q1, q2, q3⟩ := ih (k + 1) (by omega) (n + 1) (by omega) (m + 1) (by omega) a' b' h1
        exact ⟨c, d, (h2 (lp F (n + 1))).trans q1, (h3 (lp G (m + 1))).trans q2, q3⟩
      · exact ⟨c, d, En_lp h2 n, En_lp h3 m, h1⟩
  exact A L 0 (by omega) N hN M hM a b h0
section K28
variable {m : Nat → Int32} {g g0 g1 gT gT0 gT1 gD gL gS gS' : Pic} {c : Nat → Nat} {n q s s0 : Nat}
theorem LRes.pre {X : Option Pic} {Y : Option (Int32 × Pic × Pic)} (h : LRes g1 gT1 gL c n X Y) (e : E11 g g1) (t : gT1 1 = gT 1) : LRes g gT gL c n X Y := by
  rcases h with ⟨g', gT', gD', s', a, b, d, f, k⟩ | ⟨g', gT', gD', a, b, d, f, k⟩
  · exact Or.inl ⟨g', gT', gD', s', a, b, d, FR.tr e.to.fr f, k.trans t⟩
  · exact Or.inr ⟨g', gT', gD', a, b, d, FR.tr e.to.fr f, k.trans t⟩
theorem EV.e11 (h : EV g gT gD gL c n s) (e : E11 g g1) (hp : PR g1 gT1 c n s0) : EV g1 gT1 gD gL c n s0 := by
  have m1 : g1 1 = g 1 := e 1 (by decide)
  exact ⟨hp, by rw [m1]; exact h.2.1, by rw [m1]; exact h.2.2⟩
/-- from one answer of a line to that of its callers -/
theorem LRes.map {X X' : Option Pic} {Y Y' : Option (Int32 × Pic × Pic)} (h : LRes g gT gL c n X Y) (hX : ∀ g', X = some g' → X' = some g') (hY : ∀ b t d, Y = some (b, t, d) → (b = 0 ∨ b = 1) → Y' = some (b, t, d)) : LRes g gT gL c n X' Y' := by
  rcases h with ⟨g', gT', gD', s', a, b, d, f, k⟩ | ⟨g', gT', gD', a, b, d, f, k⟩
  · exact Or.inl ⟨g', gT', gD', s', hX g' a, hY _ _ _ b (Or.inr rfl), d, f, k⟩
  · exact Or.inr ⟨g', gT', gD', hX g' a, hY _ _ _ b (Or.inl rfl), d, f, k⟩
theorem e_line (h : EV g gT gD gL c n s) (gE : Pic) : LRes g gT gL c n (f_X12_eveningLine g) (f_X2_readsLine gE gT gD) := by
  obtain ⟨ga, a1, a2, a3, a4⟩ := h.1.skip
  have hh : f_X12_here g = some (nI s, ga) := by unfold f_X12_here; rw [a1]; simp only [bd_s, a3]
  have ha := h.e11 a2 a4
  unfold f_X12_eveningLine f_X2_readsLine
  rw [hh, bd2_s]
  rcases a4.take (k := 0) (strOk_all 0 (by decide) (by decide)) with ⟨-, gb, b1, b2, b3, b4, b5, b6⟩ | ⟨-, gb, tb, b1, b2, b3, -, b5, b6, -, b8⟩
  · rw [b1, b5, bd2_s, bd_s]
    simp only [jn_s, if_true]
    have hb := ha.e11 b2 b4
    rcases b4.take (k := 2) (strOk_all 2 (by decide) (by decide)) with ⟨-, gc, c1, c2, c3, c4, c5, c6⟩ | ⟨-, gc, tc, c1, c2, c3, -, c5, c6, -, c8⟩
    · rw [c1, c5, bd2_s, bd_s]
      simp only [if_true]
      have hc := hb.e11 c2 c4
      rcases c4.take (k := 7) (strOk_all 7 (by decide) (by decide)) with ⟨-, gd', d1, d2, d3, d4, d5, d6⟩ | ⟨-, gd', td, d1, d2, d3, -, d5, -, d7, d8⟩
      · rw [d1, d6, bd2_s, bd2_s]
        simp only [if_true]
        have hd := hc.e11 d2 d4
        rcases d4.take (k := 8) (strOk_all 8 (by decide) (by decide)) with ⟨-, ge, e1, e2, e3, e4, e5, e6⟩ | ⟨-, ge, te, e1, e2, e3, -, e5, -, e7, e8⟩
        · rw [e1, e6, bd2_s, bd2_s]
          simp only [if_true]
          have he := hd.e11 e2 e4
          rcases e4.take (k := 9) (strOk_all 9 (by decide) (by decide)) with ⟨-, gf, f1, f2, f3, f4, f5, f6⟩ | ⟨-, gf, tf, f1, f2, f3, -, f5, -, f7, f8⟩
          · rw [f1, f6, bd2_s, bd2_s]
            simp only [if_true]
            have hf := he.e11 f2 f4
            rcases f4.take (k := 10) (strOk_all 10 (by decide) (by decide)) with ⟨-, gg, q1, q2, q3, q4, q5, q6⟩ | ⟨-, gg, tg, q1, q2, q3, -, q5, -, q7, q8⟩
            · rw [q1, q6, bd2_s, bd2_s]
              simp only [if_true]
              obtain ⟨w1, w2, w3⟩ := q4.wrong
              refine Or.inr ⟨pu gg 12 0 (nI s), pu gT 7 0 (nI s), gD, ?_, ?_, w3, (((((((a2.tr b2).tr c2).tr d2).tr e2).tr f2).tr q2).to.pu12).fr, by rw [pu_o (by decide)]⟩
              · rw [q3, w2]; rfl
              · rw [w1]; rfl
            · rw [q1, q7, bd2_s, bd2_s]
              simp only [i10, if_false]
              refine LRes.pre (LRes.map (e_tells (hf.e11 q2 q3) (P := 9) (K := 15) (lo := 0) (hi := 999) (by omega)) (fun g' hx => ?_) (fun b t d hy hb => ?_)) ((((((a2.tr b2).tr c2).tr d2).tr e2).tr f2).tr q2) q8
              · rw [show f_X12_tells gg 9 0 999 = some g' from hx]; rfl
              · exact hy
          · rw [f1, f7, bd2_s, bd2_s]
            simp only [i10, if_false]
            refine LRes.pre (LRes.map (e_tells (he.e11 f2 f3) (P := 8) (K := 14) (lo := 0) (hi := 100) (by omega)) (fun g' hx => ?_) (fun b t d hy hb => ?_)) (((((a2.tr b2).tr c2).tr d2).tr e2).tr f2) f8
            · rw [show f_X12_tells gf 8 0 100 = some g' from hx]; rfl
            · exact hy
        · rw [e1, e7, bd2_s, bd2_s]
          simp only [i10, if_false]
          refine LRes.pre (LRes.map (e_tells (hd.e11 e2 e3) (P := 7) (K := 13) (lo := 1) (hi := 9) (by omega)) (fun g' hx => ?_) (fun b t d hy hb => ?_)) ((((a2.tr b2).tr c2).tr d2).tr e2) e8
          · rw [show f_X12_tells ge 7 1 9 = some g' from hx]; rfl
          · exact hy
      · rw [d1, d7, bd2_s, bd2_s]
        simp only [i10, if_false]
        refine LRes.pre (LRes.map (e_speech (hc.e11 d2 d3) gE) (fun g' hx => ?_) (fun b t d hy hb => ?_)) (((a2.tr b2).tr c2).tr d2) d8
        · rw [hx]; rfl
        · rw [hy]
          rcases hb with rfl | rfl <;> rfl
    · rw [c1, c5, bd2_s, bd_s]
      simp only [i10, if_false]
      refine LRes.pre (LRes.map (e_writer_line b4 c6 c2 c8 (hb.e11 c2 c3) gE) (fun g' hx => ?_) (fun b t d hy hb => ?_)) (a2.tr b2) rfl
      · rw [hx]; rfl
      · rw [hy]
        rcases hb with rfl | rfl <;> rfl
  · rw [b1, b5, bd2_s, bd_s]
    simp only [jn_s, i10, if_false]
    refine LRes.pre (LRes.map (e_word_line a4 b6 b2 b8 (ha.e11 b2 b3) gE) (fun g' hx => ?_) (fun b t d hy hb => ?_)) a2 rfl
    · rw [hx]; rfl
    · rw [hy]
      rcases hb with rfl | rfl <;> rfl
/-- the whole text -/
theorem q_skipF (hB : RB g c n) (h : ∃ q, q ≤ n + 1 ∧ g 11 0 = nI q) : ∃ g', f_X12_skip g = some g' ∧ E11 g g' ∧ ∃ q, q ≤ n + 1 ∧ g' 11 0 = nI q := by
  obtain ⟨q, q1, q2⟩ := h
  have n4 := hB.2.2.1
  obtain ⟨g', a, b, d⟩ := q_skip hB q2 (by omega)
  refine ⟨g', a, b, sc isB c n q, ?_, d⟩
  by_cases z : q ≤ n
  · have := sc_le (p := isB) (c := c) z; omega
  · rw [sc_stop (fun y => by omega)]; exact q1
theorem e_text (h : EV g gT gD gL c n s) (hs : s < n) (h11 : g 11 0 = nI s) (gE : Pic) : ∃ x d, f_X12_read_L23 0 fu (1, 0, g) = some x ∧ f_X2_readsText_L21 gE fu (0, gT, gD) = some d ∧
    ((∃ k g' gT' gD', x = (k, g') ∧ d = .inl (1, gT', gD') ∧ g' 12 0 = -1 ∧ gT' 7 0 = -1 ∧ Ok (g' 1) ∧ RS gD' gL (g' 1) ∧ FR g g' ∧ gT' 1 = gT 1) ∨
     (∃ k g' gT' gD', x = (k, g') ∧ d = .inl (0, gT', gD') ∧ FL g' gT' n ∧ FR g g' ∧ gT' 1 = gT 1) ∨
     (∃ k g' gT' gD' s', x = (k, g') ∧ d = .inr (gT', gD') ∧ f_X10_refuse gT' = some (0, pu gT' 7 0 (nI s')) ∧ FL g' (pu gT' 7 0 (nI s')) n ∧ FR g g' ∧ gT' 1 = gT 1)) := by
  have n4 := h.1.n4
  refine lp_two3 (fun k a b => ∃ (g' gT' gD' : Pic) (s' : Nat), a = (1, nI k, g') ∧ b = (nI k, gT', gD') ∧ EV g' gT' gD' gL c n s' ∧ FR g g' ∧ gT' 1 = gT 1) 14 (fun (x : Int32 × Pic) (d : (Int32 × Pic × Pic) ⊕ (Pic × Pic)) =>
    ((∃ k g' gT' gD', x = (k, g') ∧ d = .inl (1, gT', gD') ∧ g' 12 0 = -1 ∧ gT' 7 0 = -1 ∧ Ok (g' 1) ∧ RS gD' gL (g' 1) ∧ FR g g' ∧ gT' 1 = gT 1) ∨
     (∃ k g' gT' gD', x = (k, g') ∧ d = .inl (0, gT', gD') ∧ FL g' gT' n ∧ FR g g' ∧ gT' 1 = gT 1) ∨
     (∃ k g' gT' gD' s', x = (k, g') ∧ d = .inr (gT', gD') ∧ f_X10_refuse gT' = some (0, pu gT' 7 0 (nI s')) ∧ FL g' (pu gT' 7 0 (nI s')) n ∧ FR g g' ∧ gT' 1 = gT 1))) ?_ ?_ (by have := fu_big; omega) (by have := fu_big; omega) ⟨g, gT, gD, s, rfl, rfl, h, FR.rf g, rfl⟩
  · rintro k hk _ _ ⟨g1, gT1, gD1, s1, rfl, rfl, hE, hF, ht⟩
    have e12 := hE.1.2.2.1
    obtain ⟨g2, a1, a2, a3, a4⟩ := hE.1.skip
    have nk : ¬ nI k = 14 := fun z => by have := (nI_eq (b := 14) (by omega) (by omega)).mp z; omega
    have nk2 : ¬ (14 : Int32) ≤ nI k := nI_ge (b := 14) (by omega) (by omega)
    have hE2 := hE.e11 a2 a4
    rcases e_line hE2 gE with ⟨g3, gT3, gD3, s3, l1, l2, l3, l4, l5⟩ | ⟨g3, gT3, gD3, l1, l2, l3, l4, l5⟩
    · -- the class read the line from the same place
      have l2' : f_X2_readsLine gE gT1 gD1 = some (1, gT3, gD3) := l2
      obtain ⟨g4, b1, b2, b3, b4⟩ := l3.1.skip
      have f12 : g4 12 0 = -1 := b4.2.2.1
      have h10 : g4 10 0 = nI n := b4.1.2.1
      have F4 : FR g g4 := (hF.tr a2.to.fr).tr (l4.tr b2.to.fr)
      have m4 : g4 1 = g3 1 := b2 1 (by decide)
      by_cases z : s3 = n
      · have k0 : gT3 3 0 = 0 := by rw [l3.1.end_]; exact z
        have e11 : g4 11 0 = g4 10 0 := by rw [b3, h10, z]
        refine Or.inr ⟨(nI (k + 1), g4), .inl (1, gT3, gD3), Or.inl ⟨_, g4, gT3, gD3, rfl, rfl, f12, l3.1.2.2.2.2, by rw [m4]; exact l3.2.1, by rw [m4]; exact l3.2.2, F4, l5.trans ht⟩, Or.inr ⟨(0, nI (k + 1), g4), fun r => ?_, fun r => ?_⟩, Or.inl (fun r => ?_)⟩
        · simp only [bd_s, bd2_s, bd3_s, bd4_s, bd5_s, bd6_s, bd7_s, bd8_s, lr_l, lr_r, nm_s, jn_s, gdb_0, gdb_1, i10, if_false, e12, if_true, a1, nk, l1, nI_1, b1, f12, e11]
        · simp only [if_true]
        · simp only [bd_s, bd2_s, bd3_s, bd4_s, bd5_s, bd6_s, bd7_s, bd8_s, lr_l, lr_r, nm_s, jn_s, gdb_0, gdb_1, nk2, if_false, l2', i10, k0, if_true]
      · have k0 : ¬ gT3 3 0 = 0 := by rw [l3.1.end_]; exact z
        have sn := l3.1.sn
        have e11 : ¬ g4 11 0 = g4 10 0 := by rw [b3, h10]; exact fun y => z ((nI_eq (by omega) (by omega)).mp y)
        obtain ⟨g5, c1, c2, c3, ⟨c4, -, c6, -⟩ | ⟨c4, c5, c6, -, gT5, c8, c9, c10, c11⟩⟩ := b4.sign (x := 59) (by decide) (by decide) (by decide)
        · have c4 : f_X12_isSign g4 59 = some (0, g5) := c4
          have c6 : f_X10_takesSign gT3 59 = some (0, gT3) := c6
          obtain ⟨w1, w2, w3⟩ := c3.wrong
          have ne := w3.ne n4
          refine Or.inr ⟨(nI (k + 1), pu g5 12 0 (nI s3)), .inl (0, pu gT3 7 0 (nI s3), gD3), Or.inr (Or.inl ⟨_, _, _, _, rfl, rfl, w3, F4.tr c1.to.pu12.fr, by rw [pu_o (by decide)]; exact l5.trans ht⟩), Or.inr ⟨(1, nI (k + 1), pu g5 12 0 (nI s3)), fun r => ?_, fun r => ?_⟩, Or.inl (fun r => ?_)⟩
          · simp only [bd_s, bd2_s, bd3_s, bd4_s, bd5_s, bd6_s, bd7_s, bd8_s, lr_l, lr_r, nm_s, jn_s, gdb_0, gdb_1, i10, if_false, e12, if_true, a1, nk, l1, nI_1, b1, f12, e11, c4, c2, w2]
          · simp only [bd_s, bd2_s, bd3_s, bd4_s, bd5_s, bd6_s, bd7_s, bd8_s, lr_l, lr_r, nm_s, jn_s, gdb_0, gdb_1, i10, if_false, ne]
          · simp only [bd_s, bd2_s, bd3_s, bd4_s, bd5_s, bd6_s, bd7_s, bd8_s, lr_l, lr_r, nm_s, jn_s, gdb_0, gdb_1, nk2, if_false, l2', i10, k0, c6, if_true, w1]
        · have c6 : f_X12_isSign g4 59 = some (1, g5) := c6
          have c9 : f_X10_takesSign gT3 59 = some (1, gT5) := c9
          have E5 : E11 g4 (pu g5 11 0 (nI s3 + 1)) := c1.pu
          refine Or.inl ⟨(1, nI (k + 1), pu g5 11 0 (nI s3 + 1)), (nI (k + 1), gT5, gD3), ⟨_, gT5, gD3, _, rfl, rfl, (l3.e11 (b2.tr E5) c10), F4.tr E5.to.fr, c11.trans (l5.trans ht)⟩, fun r => ?_, fun r => ?_⟩
          · simp only [bd_s, bd2_s, bd3_s, bd4_s, bd5_s, bd6_s, bd7_s, bd8_s, lr_l, lr_r, nm_s, jn_s, gdb_0, gdb_1, i10, if_false, e12, if_true, a1, nk, l1, nI_1, b1, f12, e11, c6, c2]
          · simp only [bd_s, bd2_s, bd3_s, bd4_s, bd5_s, bd6_s, bd7_s, bd8_s, lr_l, lr_r, nm_s, jn_s, gdb_0, gdb_1, nk2, if_false, l2', i10, k0, c9, nI_1]
    · have l2' : f_X2_readsLine gE gT1 gD1 = some (0, gT3, gD3) := l2
      have ne := l3.ne n4
      obtain ⟨g4, b1, b2, b3⟩ := q_skipF (g := g3) ((hE2.1.1).of (l4.1 9 (by decide) (by decide) (by decide)) (l4.1 7 (by decide) (by decide) (by decide)) (fun p hp => l4.2.2.2 p hp) (l4.1 10 (by decide) (by decide) (by decide))) (by obtain ⟨_, _, _, _, q⟩ := l3; exact q)
      have ne4 : ¬ g4 12 0 = -1 := by rw [b2 12 (by decide)]; exact ne
      have fl4 : FL g4 gT3 n := by
        obtain ⟨e, x1, x2, x3, -⟩ := l3
        exact ⟨e, x1, by rw [b2 12 (by decide)]; exact x2, x3, b3⟩
      refine Or.inr ⟨(nI (k + 1), g4), .inl (0, gT3, gD3), Or.inr (Or.inl ⟨_, _, _, _, rfl, rfl, fl4, (hF.tr a2.to.fr).tr (l4.tr b2.to.fr), l5.trans ht⟩), Or.inr ⟨(0, nI (k + 1), g4), fun r => ?_, fun r => ?_⟩, Or.inl (fun r => ?_)⟩
      · simp only [bd_s, bd2_s, bd3_s, bd4_s, bd5_s, bd6_s, bd7_s, bd8_s, lr_l, lr_r, nm_s, jn_s, gdb_0, gdb_1, i10, if_false, e12, if_true, a1, nk, l1, nI_1, b1, ne4]
      · simp only [if_true]
      · simp only [bd_s, bd2_s, bd3_s, bd4_s, bd5_s, bd6_s, bd7_s, bd8_s, lr_l, lr_r, nm_s, jn_s, gdb_0, gdb_1, nk2, if_false, l2', if_true]
  · rintro _ _ ⟨g1, gT1, gD1, s1, rfl, rfl, hE, hF, ht⟩
    have e12 := hE.1.2.2.1
    obtain ⟨g2, a1, a2, a3, a4⟩ := hE.1.skip
    obtain ⟨w1, w2, w3⟩ := a4.wrong
    have ne := w3.ne n4
    have n14 : (nI 14 = 14) = True := eq_true rfl
    obtain ⟨g4, b1, b2, b3⟩ := q_skipF (g := pu g2 12 0 (nI s1)) (a4.1.of rfl rfl (fun _ _ => rfl) rfl) (by obtain ⟨_, _, _, _, q⟩ := w3; exact q)
    have ne4 : ¬ g4 12 0 = -1 := by rw [b2 12 (by decide)]; exact ne
    have fl4 : FL g4 (pu gT1 7 0 (nI s1)) n := by
      obtain ⟨e, x1, x2, x3, -⟩ := w3
      exact ⟨e, x1, by rw [b2 12 (by decide)]; exact x2, x3, b3⟩
    refine ⟨(nI (14 + 1), g4), .inr (gT1, gD1), Or.inr (Or.inr ⟨_, g4, gT1, gD1, s1, rfl, rfl, w1, fl4, (hF.tr a2.to.pu12.fr).tr b2.to.fr, ht⟩), Or.inr ⟨(0, nI (14 + 1), g4), fun r => ?_, fun r => ?_⟩, Or.inl (fun r => if_pos (show (14 : Int32) ≤ nI 14 from Int32.le_refl _))⟩
    · simp only [bd_s, bd2_s, bd3_s, bd4_s, bd5_s, bd6_s, bd7_s, bd8_s, lr_l, lr_r, nm_s, jn_s, gdb_0, gdb_1, i10, if_false, e12, if_true, a1, n14, a3, w2, nI_1, b1, ne4]
    · simp only [if_true]
end K28
