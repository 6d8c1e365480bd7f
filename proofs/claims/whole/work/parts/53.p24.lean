/-! a line of the speech, a word, a writer -/
section K24
variable {m : Nat → Int32} {g gT gD gL gS gS' : Pic} {c : Nat → Nat} {n q s : Nat}
theorem FL.ne (h : FL g gT n) (n4 : n ≤ 400) : ¬ g 12 0 = -1 := by
  obtain ⟨e, e1, e2, -⟩ := h
  rw [e2, nI_m1 (by omega)]; exact id
/-- whether a number stands next -/
theorem PR.fig (h : PR g gT c n s) : ∃ g' b, f_X12_isFigure g = some (b, g') ∧ E11 g g' ∧ g' 11 0 = nI s ∧ PR g' gT c n s ∧ ((b = 1 ∧ gT 3 0 = 2) ∨ (b = 0 ∧ ¬ gT 3 0 = 2)) := by
  obtain ⟨g1, a1, a2, a3, a4⟩ := h.skip
  have hB := h.1.e11 a2
  have n4 := h.n4
  have sn := h.sn
  have h10 : g1 10 0 = nI n := hB.2.1
  have TKv := h.2.2.2.1
  have key : ∀ z : s < n, isD (c s) = false → f_X12_isFigure g = some (0, g1) := fun z hd => by
    have qb := q_byte hB z
    have c8 := hB.2.2.2 s z
    have nb := of_decide_eq_false hd
    have qi : f_X12_isIn (nI (c s)) 48 57 = some 0 := by
      rw [q_isIn, if_neg (fun z => nb ⟨(nI_leI (a := 48) (by omega) (by omega)).mp z.1, (nI_leI (b := 57) (by omega) (by omega)).mp z.2⟩)]
    have nz : ¬ n ≤ s := by omega
    unfold f_X12_isFigure
    simp (disch := omega) only [bd_s, bd2_s, bd3_s, bd4_s, bd5_s, bd6_s, bd7_s, bd8_s, lr_l, lr_r, nm_s, jn_s, gdb_0, gdb_1, a1, h10, a3, nI_leI, nz, if_false, qb, qi, if_true]
  rcases TKv.2.2.2.2.2 with ⟨z, k3, -⟩ | ⟨z, hl, k3, -⟩ | ⟨z, hd, k3, -⟩ | ⟨z, -, hd, k3, -⟩
  · refine ⟨g1, 0, ?_, a2, a3, a4, Or.inr ⟨rfl, by rw [k3]; decide⟩⟩
    have nz : n ≤ s := by omega
    unfold f_X12_isFigure
    simp (disch := omega) only [bd_s, bd2_s, bd3_s, bd4_s, bd5_s, bd6_s, bd7_s, bd8_s, lr_l, lr_r, nm_s, jn_s, gdb_0, gdb_1, a1, h10, a3, nI_leI, nz, if_true]
  · exact ⟨g1, 0, key z (decide_eq_false (fun y => by have := of_decide_eq_true hl; omega)), a2, a3, a4, Or.inr ⟨rfl, by rw [k3]; decide⟩⟩
  · refine ⟨g1, 1, ?_, a2, a3, a4, Or.inl ⟨rfl, k3⟩⟩
    have qb := q_byte hB z
    have c8 := hB.2.2.2 s z
    have nb := of_decide_eq_true hd
    have qi : f_X12_isIn (nI (c s)) 48 57 = some 1 := by
      rw [q_isIn, if_pos ⟨nI_le (a := 48) (by omega) (by omega), nI_le (b := 57) (by omega) (by omega)⟩]
    have nz : ¬ n ≤ s := by omega
    unfold f_X12_isFigure
    simp (disch := omega) only [bd_s, bd2_s, bd3_s, bd4_s, bd5_s, bd6_s, bd7_s, bd8_s, lr_l, lr_r, nm_s, jn_s, gdb_0, gdb_1, a1, h10, a3, nI_leI, nz, if_false, qb, qi, i10]
  · exact ⟨g1, 0, key z hd, a2, a3, a4, Or.inr ⟨rfl, by rw [k3]; decide⟩⟩
theorem e_speech (h : EV g gT gD gL c n s) (gE : Pic) : LRes g gT gL c n (f_X12_speechLine g) (f_X2_readsSpeech gE gT gD) := by
  have n4 := h.1.n4
  -- the reference's turn k: its number and whether more comes; the class's turn k
  have H : ∃ x d, f_X12_speechLine_L4 fu (0, 1, g) = some x ∧ f_X2_readsSpeech_L2 gE fu (0, gT, gD) = some d ∧
      ((∃ g' gT' gD' s', x = .inr g' ∧ d = .inl (1, gT', gD') ∧ EV g' gT' gD' gL c n s' ∧ FR g g' ∧ gT' 1 = gT 1) ∨
       (∃ g' gT' gD' s', x = .inr g' ∧ d = .inr (gT', gD') ∧ ¬ gT' 3 0 = 2 ∧ EV g' gT' gD' gL c n s' ∧ FR g g' ∧ gT' 1 = gT 1) ∨
       (∃ g' gT' gD', x = .inl g' ∧ d = .inl (0, gT', gD') ∧ FL g' gT' n ∧ FR g g' ∧ gT' 1 = gT 1) ∨
       (∃ g' gT' gD' s', x = .inl g' ∧ d = .inr (gT', gD') ∧ gT' 3 0 = 2 ∧ f_X10_refuse gT' = some (0, pu gT' 7 0 (nI s')) ∧ FL g' (pu gT' 7 0 (nI s')) n ∧ FR g g' ∧ gT' 1 = gT 1)) := by
    refine lp_two (fun k a b => ∃ (g' gT' gD' : Pic) (s' : Nat) (f : Int32), a = (nI k, f, g') ∧ b = (nI k, gT', gD') ∧ EV g' gT' gD' gL c n s' ∧ FR g g' ∧ gT' 1 = gT 1 ∧ ((f = 1 ∧ (0 < k → gT' 3 0 = 2)) ∨ (f = 0 ∧ 0 < k ∧ ¬ gT' 3 0 = 2))) 6 (fun (x : Pic ⊕ Pic) (d : (Int32 × Pic × Pic) ⊕ (Pic × Pic)) =>
      ((∃ g' gT' gD' s', x = .inr g' ∧ d = .inl (1, gT', gD') ∧ EV g' gT' gD' gL c n s' ∧ FR g g' ∧ gT' 1 = gT 1) ∨
       (∃ g' gT' gD' s', x = .inr g' ∧ d = .inr (gT', gD') ∧ ¬ gT' 3 0 = 2 ∧ EV g' gT' gD' gL c n s' ∧ FR g g' ∧ gT' 1 = gT 1) ∨
       (∃ g' gT' gD', x = .inl g' ∧ d = .inl (0, gT', gD') ∧ FL g' gT' n ∧ FR g g' ∧ gT' 1 = gT 1) ∨
       (∃ g' gT' gD' s', x = .inl g' ∧ d = .inr (gT', gD') ∧ gT' 3 0 = 2 ∧ f_X10_refuse gT' = some (0, pu gT' 7 0 (nI s')) ∧ FL g' (pu gT' 7 0 (nI s')) n ∧ FR g g' ∧ gT' 1 = gT 1))) ?_ ?_ (by have := fu_big; omega) (by have := fu_big; omega) ⟨g, gT, gD, s, 1, rfl, rfl, h, FR.rf g, rfl, Or.inl ⟨rfl, fun z => absurd z (Nat.not_lt_zero 0)⟩⟩
    · rintro k hk _ _ ⟨g1, gT1, gD1, s1, f, rfl, rfl, ⟨hp, hO, hR⟩, hF, ht1, hf⟩
      have e12 := hp.2.2.1
      have nk : ¬ 6 ≤ k := by omega
      rcases hf with ⟨rfl, hk2⟩ | ⟨rfl, k0, kn⟩
      · -- a number must come
        obtain ⟨S, hS, tS, -, s20⟩ := hO.S.ex
        obtain ⟨W, hW, tW, -, w8⟩ := hO.W.ex
        have gs := hR.S.trans hS
        have gw := hR.W.trans hW
        obtain ⟨g2, a1, a2, a3, a4⟩ := hp.skip
        have hh : f_X12_here g1 = some (nI s1, g2) := by unfold f_X12_here; rw [a1]; simp only [bd_s, a3]
        have m2 : g2 1 = g1 1 := a2 1 (by decide)
        have nk6 : ¬ nI k = 6 := fun z => by have := (nI_eq (b := 6) (by omega) (by omega)).mp z; omega
        have cls : ∀ (r : Int32 × Pic × Pic → Option ((Int32 × Pic × Pic) ⊕ (Pic × Pic))) (X : Option ((Int32 × Pic × Pic) ⊕ (Pic × Pic))), (if nI k ≤ 0 then X else if gT1 3 0 = 2 then X else some (.inl (1, gT1, gD1))) = X := fun r X => by
          by_cases z : 0 < k
          · rw [if_neg (by rw [nI_le0 (by omega)]; omega), if_pos (hk2 z)]
          · rw [if_pos (by rw [nI_le0 (by omega)]; omega)]
        by_cases hs20 : S = 20
        · -- the speech is full
          obtain ⟨w1, w2, w3⟩ := a4.wrong
          have ff : ∀ lo hi, f_X12_figures (pu g2 12 0 (nI s1)) lo hi = some (0, pu g2 12 0 (nI s1)) := fun lo hi => by
            unfold f_X12_figures
            rw [if_neg (show ¬ (pu g2 12 0 (nI s1)) 12 0 = -1 by have := hp.sn; rw [pu_s, if_pos rfl, nI_m1 (by omega)]; exact id)]
          have ne := w3.ne n4
          have s20' : (g2 1 5 = 20) = True := eq_true (by rw [m2, hS, hs20]; rfl)
          refine Or.inr ⟨.inl (pu g2 12 0 (nI s1)), .inl (0, pu gT1 7 0 (nI s1), gD1), Or.inr (Or.inr (Or.inl ⟨_, _, _, rfl, rfl, w3, hF.tr a2.to.pu12.fr, by rw [pu_o (by decide)]; exact ht1⟩)), fun r => ?_, fun r => ?_⟩
          · simp only [bd_s, bd2_s, bd3_s, bd4_s, bd5_s, bd6_s, bd7_s, bd8_s, lr_l, lr_r, nm_s, jn_s, gdb_0, gdb_1, e12, if_true, i10, if_false, hh, nk6, s20', w2, ff, ne]
          · have ns : ¬ S < 20 := by omega
            simp (disch := omega) only [bd_s, bd2_s, bd3_s, bd4_s, bd5_s, bd6_s, bd7_s, bd8_s, lr_l, lr_r, nm_s, jn_s, gdb_0, gdb_1, li_6, li_20, nI_leI, nk, if_false, gs, nI_ltI, ns, w1]
            exact cls r _
        · have s20' : (g2 1 5 = 20) = False := eq_false (fun z => by rw [m2, hS] at z; have := (nI_eq (b := 20) (by omega) (by omega)).mp z; omega)
          have sl : S < 20 := by omega
          rcases a4.num (lo := 0) (hi := nI W - 1) (by decide) with ⟨v, g3, gT3, v9, -, b1, b2, b3, b4, b5, b6, b7, -⟩ | ⟨v, g3, b1, b2, b3, b4, -⟩
          · have m3 : g3 1 = g1 1 := (b2 1 (by decide)).trans m2
            have e12' := b4.2.2.1
            have vW : v < W := by
              rcases below (x := nI v) (W := W) (by omega) with ⟨j, j1, j2⟩ | z
              · rw [(nI_eq (by omega) (by omega)).mp j2]; exact j1
              · exact absurd ⟨nI_pos' (by omega), b6⟩ (pred_out (by omega) z)
            have P5 : PR (pu (pu g3 1 (76 + S) (nI v)) 1 5 (nI (S + 1))) gT3 c n _ := b4.row1 (fun k hk => by rw [pu_o hk, pu_o hk]) (fun p hp => by rw [pu_s, if_neg (by omega), pu_s, if_neg (by omega)])
            obtain ⟨g4, bb, f1, f2, f3, f4, f5⟩ := P5.fig
            have row : g4 1 = adS (g1 1) S v := by
              rw [f2 1 (by decide)]
              funext p
              unfold adS
              rw [pu_s, pu_s, m3]
            have hO4 : Ok (g4 1) := by rw [row]; exact ok_adS hO hS sl (by omega)
            have hR4 : RS (pu (pu gD1 5 S (nI v)) 4 0 (nI (S + 1))) gL (g4 1) := by rw [row]; exact rs_adS hR hO hS sl
            have fr4 : FR g g4 := hF.tr ⟨fun k h1 h2 h3 => by rw [f2 k h2, pu_o h1, pu_o h1, b2 k h2]; exact a2 k h2, fun p hp => by rw [row]; exact adS_o (by omega) (by omega), by rw [row]; exact adS_o (by omega) (by omega), fun p hp => by rw [row]; exact adS_o (by omega) (by omega)⟩
            have nv : ¬ nI v = -1 := by rw [nI_m1 (by omega)]; exact id
            refine Or.inl ⟨(nI (k + 1), bb, g4), (nI (k + 1), gT3, pu (pu gD1 5 S (nI v)) 4 0 (nI (S + 1))), ⟨g4, gT3, _, _, bb, rfl, rfl, ⟨f4, hO4, hR4⟩, fr4, b7.trans ht1, ?_⟩, fun r => ?_, fun r => ?_⟩
            · rcases f5 with ⟨z1, z2⟩ | ⟨z1, z2⟩
              · exact Or.inl ⟨z1, fun _ => z2⟩
              · exact Or.inr ⟨z1, by omega, z2⟩
            · have q5 : g2 1 3 = nI W := by rw [m2]; exact hW
              have q6 : g3 1 5 = nI S := by rw [m3]; exact hS
              have q7 : (pu g3 1 (76 + S) (nI v)) 1 5 = nI S := by rw [pu_s, if_neg (by omega)]; exact q6
              simp (disch := omega) only [bd_s, bd2_s, bd3_s, bd4_s, bd5_s, bd6_s, bd7_s, bd8_s, lr_l, lr_r, nm_s, jn_s, gdb_0, gdb_1, e12, if_true, i10, if_false, hh, nk6, s20', q5, b1, e12', q6, li_76, nI_add, gdi_n, nI_clamp, q7, nI_1, f1]
            · have q7 : (pu gD1 5 S (nI v)) 4 0 = nI S := gs
              simp (disch := omega) only [bd_s, bd2_s, bd3_s, bd4_s, bd5_s, bd6_s, bd7_s, bd8_s, lr_l, lr_r, nm_s, jn_s, gdb_0, gdb_1, li_6, li_20, nI_leI, nk, if_false, gs, nI_ltI, sl, if_true, gw, b3, nv, gdi_n, nI_clamp, q7, nI_1]
              exact cls r _
          · have ne := b4.ne n4
            refine Or.inr ⟨.inl g3, .inl (0, pu gT1 7 0 (nI s1), gD1), Or.inr (Or.inr (Or.inl ⟨_, _, _, rfl, rfl, b4, hF.tr (a2.to.tr b2).fr, by rw [pu_o (by decide)]; exact ht1⟩)), fun r => ?_, fun r => ?_⟩
            · have q5 : g2 1 3 = nI W := by rw [m2]; exact hW
              simp (disch := omega) only [bd_s, bd2_s, bd3_s, bd4_s, bd5_s, bd6_s, bd7_s, bd8_s, lr_l, lr_r, nm_s, jn_s, gdb_0, gdb_1, e12, if_true, i10, if_false, hh, nk6, s20', q5, b1, ne]
            · simp (disch := omega) only [bd_s, bd2_s, bd3_s, bd4_s, bd5_s, bd6_s, bd7_s, bd8_s, lr_l, lr_r, nm_s, jn_s, gdb_0, gdb_1, li_6, li_20, nI_leI, nk, if_false, gs, nI_ltI, sl, if_true, gw, b3]
              exact cls r _
      · have kk : ¬ nI k ≤ 0 := by rw [nI_le0 (by omega)]; omega
        refine Or.inr ⟨.inr g1, .inl (1, gT1, gD1), Or.inl ⟨_, _, _, s1, rfl, rfl, ⟨hp, hO, hR⟩, hF, ht1⟩, fun r => ?_, fun r => ?_⟩
        · simp only [bd_s, bd2_s, bd3_s, bd4_s, bd5_s, bd6_s, bd7_s, bd8_s, lr_l, lr_r, nm_s, jn_s, gdb_0, gdb_1, e12, if_true]
        · simp (disch := omega) only [bd_s, bd2_s, bd3_s, bd4_s, bd5_s, bd6_s, bd7_s, bd8_s, lr_l, lr_r, nm_s, jn_s, gdb_0, gdb_1, li_6, nI_leI, nk, if_false, kk, kn]
    · rintro _ _ ⟨g1, gT1, gD1, s1, f, rfl, rfl, ⟨hp, hO, hR⟩, hF, ht1, hf⟩
      have e12 := hp.2.2.1
      rcases hf with ⟨rfl, hk2⟩ | ⟨rfl, k0, kn⟩
      · obtain ⟨g2, a1, a2, a3, a4⟩ := hp.skip
        have hh : f_X12_here g1 = some (nI s1, g2) := by unfold f_X12_here; rw [a1]; simp only [bd_s, a3]
        obtain ⟨w1, w2, w3⟩ := a4.wrong
        have ff : ∀ lo hi, f_X12_figures (pu g2 12 0 (nI s1)) lo hi = some (0, pu g2 12 0 (nI s1)) := fun lo hi => by
          unfold f_X12_figures
          rw [if_neg (show ¬ (pu g2 12 0 (nI s1)) 12 0 = -1 by have := hp.sn; rw [pu_s, if_pos rfl, nI_m1 (by omega)]; exact id)]
        have ne := w3.ne n4
        have n66 : (nI 6 = 6) = True := eq_true rfl
        refine ⟨.inl (pu g2 12 0 (nI s1)), .inr (gT1, gD1), Or.inr (Or.inr (Or.inr ⟨_, gT1, gD1, s1, rfl, rfl, hk2 (by omega), w1, w3, hF.tr a2.to.pu12.fr, ht1⟩)), fun r => ?_, fun r => ?_⟩
        · simp only [bd_s, bd2_s, bd3_s, bd4_s, bd5_s, bd6_s, bd7_s, bd8_s, lr_l, lr_r, nm_s, jn_s, gdb_0, gdb_1, e12, if_true, i10, if_false, hh, n66, w2, ff, ne]
        · exact if_pos (show (6 : Int32) ≤ nI 6 from Int32.le_refl _)
      · refine ⟨.inr g1, .inr (gT1, gD1), Or.inr (Or.inl ⟨_, _, _, s1, rfl, rfl, kn, ⟨hp, hO, hR⟩, hF, ht1⟩), fun r => ?_, fun r => ?_⟩
        · simp only [bd_s, bd2_s, bd3_s, bd4_s, bd5_s, bd6_s, bd7_s, bd8_s, lr_l, lr_r, nm_s, jn_s, gdb_0, gdb_1, e12, if_true]
        · exact if_pos (show (6 : Int32) ≤ nI 6 from Int32.le_refl _)
  obtain ⟨x, d, h1, h2, hc⟩ := H
  unfold f_X12_speechLine f_X2_readsSpeech
  rw [h1, h2]
  rcases hc with ⟨g', gT', gD', s', rfl, rfl, hE, hF, ht⟩ | ⟨g', gT', gD', s', rfl, rfl, kn, hE, hF, ht⟩ | ⟨g', gT', gD', rfl, rfl, hE, hF, ht⟩ | ⟨g', gT', gD', s', rfl, rfl, k2, hr, hE, hF, ht⟩
  · exact Or.inl ⟨g', gT', gD', s', rfl, rfl, hE, hF, ht⟩
  · refine Or.inl ⟨g', gT', gD', s', rfl, ?_, hE, hF, ht⟩
    simp only [bd_s, bd2_s, bd3_s, bd4_s, bd5_s, bd6_s, bd7_s, bd8_s, lr_l, lr_r, nm_s, jn_s, gdb_0, gdb_1, kn, if_false]
  · exact Or.inr ⟨g', gT', gD', rfl, rfl, hE, hF, ht⟩
  · refine Or.inr ⟨g', _, gD', rfl, ?_, hE, hF, by rw [pu_o (by decide)]; exact ht⟩
    simp only [bd_s, bd2_s, bd3_s, bd4_s, bd5_s, bd6_s, bd7_s, bd8_s, lr_l, lr_r, nm_s, jn_s, gdb_0, gdb_1, k2, if_true, hr]
end K24
