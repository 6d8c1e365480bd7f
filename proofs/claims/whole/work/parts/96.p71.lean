/-! an evening and a law, read -/
section K71
variable {m m' : Nat → Int32} {g g' gP gS gL gT gR gV rm gD gE : Pic} {k o n : Nat} {c : Nat → Nat} {ln : Nat → Nat} {lo ko : Option LawT} {sh : Bool} {hs : Nat → Bool} {SG SK : Nat → Pic} {SQ : Nat → Option Nat}
theorem Ok.c12 (h : Ok m) (e : ∀ p, p < 456 → p ≠ 1 → p ≠ 2 → m' p = m p) : Ok m' := by
  refine ⟨by rw [e 0 (by omega) (by omega) (by omega)]; exact h.texts, by rw [e 3 (by omega) (by omega) (by omega)]; exact h.W, by rw [e 4 (by omega) (by omega) (by omega)]; exact h.U, by rw [e 5 (by omega) (by omega) (by omega)]; exact h.S, by rw [e 6 (by omega) (by omega) (by omega), e 5 (by omega) (by omega) (by omega)]; exact h.D, by rw [e 7 (by omega) (by omega) (by omega)]; exact h.T, by rw [e 8 (by omega) (by omega) (by omega)]; exact h.slip, by rw [e 9 (by omega) (by omega) (by omega)]; exact h.minute, by rw [e 10 (by omega) (by omega) (by omega)]; exact h.G, h.w_.c h.W.2.2 (e 3 (by omega) (by omega) (by omega)) (fun p a b => e p (by omega) (by omega) (by omega)), h.p_.c h.S.2.2 (e 3 (by omega) (by omega) (by omega)) (e 5 (by omega) (by omega) (by omega)) (fun p a b => e p (by omega) (by omega) (by omega)), h.u_.c h.U.2.2 (e 4 (by omega) (by omega) (by omega)) (fun p a b => e p (by omega) (by omega) (by omega))⟩
theorem RS.c12 (h : RS gS gL m) (hO : Ok m) (e : ∀ p, p < 456 → p ≠ 1 → p ≠ 2 → m' p = m p) : RS gS gL m' := by
  refine ⟨by rw [e 3 (by omega) (by omega) (by omega)]; exact h.W, by rw [e 5 (by omega) (by omega) (by omega)]; exact h.S, by rw [e 6 (by omega) (by omega) (by omega)]; exact h.D, by rw [e 4 (by omega) (by omega) (by omega)]; exact h.U, by rw [e 7 (by omega) (by omega) (by omega)]; exact h.T, by rw [e 8 (by omega) (by omega) (by omega)]; exact h.slip, by rw [e 9 (by omega) (by omega) (by omega)]; exact h.minute, by rw [e 11 (by omega) (by omega) (by omega)]; exact h.seed, by rw [e 0 (by omega) (by omega) (by omega)]; exact h.texts, h.w_.c hO (e 3 (by omega) (by omega) (by omega)) (fun p a b => e p (by omega) (by omega) (by omega)) rfl rfl rfl, h.p_.c hO.S.2.2 (e 5 (by omega) (by omega) (by omega)) (fun p a b => e p (by omega) (by omega) (by omega)) rfl, h.u_.c hO.U.2.2 (e 4 (by omega) (by omega) (by omega)) (fun p a b => e p (by omega) (by omega) (by omega)) rfl rfl rfl rfl rfl, h.l_.c hO.G.2.2 (e 10 (by omega) (by omega) (by omega)) (fun p a b => e p (by omega) (by omega) (by omega))⟩
theorem INV.evOk {gT' gS' gL' : Pic} (h : INV g gP gT gS gL lo ko sh hs SG SK SQ) (f : Fe g g') (e8 : g' 8 0 = 0) (t1 : gT' 1 0 = 0) (e6 : g' 6 0 = 0) (hO : Ok (g' 1)) (hR : RS gS' gL' (g' 1)) : INV g' (pu (pu gP 14 0 (g' 12 0)) 12 0 0) gT' gS' gL' lo ko sh hs SG SK SQ := by
  obtain ⟨q1, q2, q3, q4, q5, ⟨o, k, h1, h2, h3, h4, h5, h6⟩, q7⟩ := h
  obtain ⟨f1, f2, f3, f4⟩ := f
  refine ⟨hO, hR, q3.c f2 f3 (fun p hp _ => f4 p hp), ⟨fun _ => 0, 0, e8, t1, by omega, fun i hi => absurd hi (Nat.not_lt_zero i)⟩, rfl, ⟨o, 0, h1, by omega, h3, rfl, e6, fun j hj => absurd hj (Nat.not_lt_zero j)⟩, q7.m1 (f1 2 (by omega) (by omega) (by omega) (by omega) (by omega) (by omega) (by omega) (by omega) (by omega) (by omega)) (by rw [f1 3 (by omega) (by omega) (by omega) (by omega) (by omega) (by omega) (by omega) (by omega) (by omega) (by omega)]) f2 f3 f4 rfl⟩
theorem INV.evNo {gT' : Pic} (h : INV g gP gT gS gL lo ko sh hs SG SK SQ) (e2 : g' 2 = g 2) (e3 : g' 3 0 = g 3 0) (e5 : g' 5 = g 5) (e8 : g' 8 0 = 0) (t1 : gT' 1 0 = 0) (e6 : g' 6 0 = g 6 0) (e1 : g' 1 = g 1) : INV g' (pu gP 14 0 (g' 12 0)) gT' gS gL lo ko sh hs SG SK SQ := by
  obtain ⟨q1, q2, q3, q4, q5, ⟨o, k, h1, h2, h3, h4, h5, h6⟩, q7⟩ := h
  refine ⟨by rw [e1]; exact q1, by rw [e1]; exact q2, by rw [e1]; exact q3, ⟨fun _ => 0, 0, e8, t1, by omega, fun i hi => absurd hi (Nat.not_lt_zero i)⟩, rfl, ⟨o, k, h1, h2, h3, h4, by rw [e6]; exact h5, fun j hj => ?_⟩, q7.m1 e2 e3 (by rw [e1]) (by rw [e1]) (fun p _ => by rw [e1]) rfl⟩
  rw [show arow g' j = arow g j by unfold arow; rw [e5], e1]
  exact h6 j hj
theorem q_lawL (h10 : g 10 0 = nI n) (hn : n ≤ 400) (x1 : Int32) : ∃ g', f_X12_law_L55 x1 fu (0, g) = some g' ∧ (∀ i, i ≠ 1 → g' i = g i) ∧ ∀ p, g' 1 p = if 456 ≤ p ∧ p < 456 + n then g 7 (p - 456) else g 1 p := by
  refine lp_inv (fun x s => ∃ y : Pic, s = (nI x, y) ∧ (∀ i, i ≠ 1 → y i = g i) ∧ ∀ p, y 1 p = if 456 ≤ p ∧ p < 456 + x then g 7 (p - 456) else g 1 p) n (fun g' : Pic => (∀ i, i ≠ 1 → g' i = g i) ∧ ∀ p, g' 1 p = if 456 ≤ p ∧ p < 456 + n then g 7 (p - 456) else g 1 p) ?_ ?_ (by have := fu_big; omega) ⟨g, rfl, fun _ _ => rfl, fun p => by rw [if_neg (by omega)]⟩
  · rintro x hx _ ⟨y, rfl, y1, y2⟩
    have e10 : y 10 0 = nI n := by rw [y1 10 (by omega)]; exact h10
    have e : (456 : Int32) + nI x = nI (456 + x) := by rw [li_456, nI_add]
    refine Or.inl ⟨(nI (x + 1), pu y 1 (456 + x) (y 7 x)), ⟨_, rfl, fun i hi => by rw [pu_row, if_neg hi]; exact y1 i hi, fun p => ?_⟩, fun r => ?_⟩
    · rw [pu_s, y2 p, y1 7 (by omega)]
      by_cases z : p = 456 + x
      · rw [if_pos z, if_pos (by omega), z]; exact congrArg (g 7) (by omega)
      · rw [if_neg z]
        by_cases w : 456 ≤ p ∧ p < 456 + x
        · rw [if_pos w, if_pos (by omega)]
        · rw [if_neg w, if_neg (by omega)]
    · show (if y 10 0 ≤ nI x then _ else _) = _
      rw [e10, if_neg (by rw [nI_leI (by omega) (by omega)]; omega), gdi_n (by omega) (by omega), e, gdi_n (by omega) (by omega), nI_clamp (by omega), nI_clamp (by omega), nm_s, nm_s, nI_1]
  · rintro _ ⟨y, rfl, y1, y2⟩
    refine ⟨y, ⟨y1, y2⟩, fun r => ?_⟩
    show (if y 10 0 ≤ nI n then _ else _) = _
    rw [y1 10 (by omega), h10, if_pos (Int32.le_refl _)]
theorem cpOf_at {f : Nat → Int32} {N k i : Nat} (hk : k ≤ N) (hN : N < 2 ^ 31) (hi : i < k) : cpOf f N (nI k) i = f i := by
  unfold cpOf
  by_cases z : nI k = Int32.ofNat N
  · rw [if_pos z]
  · rw [if_neg z]
    have kl : k < N := by
      rcases Nat.lt_or_eq_of_le hk with q | q
      · exact q
      · exact absurd (by rw [q]; rfl) z
    rw [if_pos (show nI k < Int32.ofNat N from (nI_ltI (by omega) (by omega)).mpr kl), nI_clamp (by omega)]
    unfold va_cpy
    rw [if_pos (by omega)]
    exact congrArg f (by omega)
theorem LN.last {fa : Nat → Int32} {g5 : Pic} : ∀ {K z : Nat} {t : Nat → Int32}, LN fa g5 K z t → g5 3 0 = 0 → g5 3 K = nI z
  | 0, _, _, h, e => by rw [e, h.1]; rfl
  | _ + 1, _, _, ⟨_, _, _, _, _, _, _, _, e2, _⟩, _ => e2
theorem t_law (hI : INV g gP gT gS gL lo ko sh hs SG SK SQ) (hB : hb g) (h30 : gR 3 0 = 0) : ∃ r G7 G1 v g', f_X5_readsText gR gT = some (r, G7, G1) ∧ f_X12_law g = some (v, g') ∧ G7 3 0 = 0 ∧ ((¬ r = 0 → (¬ (G7 5 0) < 0 ∧ (G7 5 0).toNatClampNeg ≤ 12) ∧ (¬ (G7 5 0) + 1 < 0 ∧ ((G7 5 0) + 1).toNatClampNeg ≤ 13) ∧ (¬ G7 3 (G7 5 0).toNatClampNeg < 0 ∧ (G7 3 (G7 5 0).toNatClampNeg).toNatClampNeg ≤ 400))) ∧
    (¬ r = 0 → v = G7 5 0 ∧ g' 0 0 = 0 ∧ ∀ (u : Nat → Nat) ko', (sh = true → ko' = lo) → (sh = false → ko' = ko) → INV g' (pu (pu gP 14 0 (G1 7 0)) 12 0 0) G1 gS gL (some (u, gLaw (G7 5 0) (G7 1) (G7 2) (G7 3) (G7 4), lnLaw (G7 5 0) (G7 3))) ko' false hs SG SK SQ) ∧ (r = 0 → g' 0 0 = 1 ∧ INV g' (pu gP 14 0 (G1 7 0)) G1 gS gL lo ko sh hs SG SK SQ) := by
  obtain ⟨c, n, hT⟩ := hI.tp
  obtain ⟨t1, t2, t3, t4⟩ := hT
  have hT : TP g gT c n := ⟨t1, t2, t3, t4⟩
  obtain ⟨gT1, o1, o2, o3⟩ := hT.begin
  obtain ⟨r, y, g2, G1, G7, a1, a2, a3, a4, a5, a6⟩ := e_lawReads (g5 := gR) o1 o3 hB rfl h30
  have z7 : G7 3 0 = 0 := Z_f_X5_readsText gR gT h30 _ a2
  have k8 : G1 1 0 = 0 := by rw [a3]; exact o2
  have E : ∀ i, i ≠ 8 → i ≠ 9 → i ≠ 10 → i ≠ 11 → i ≠ 12 → i ≠ 13 → i ≠ 17 → i ≠ 18 → i ≠ 19 → g2 i = g i := fun i h8 h9 h10 h11 h12 h13 h17 h18 h19 => by
    rw [a4 i h11 h12 h13 h17 h18 h19]
    unfold bgn
    rw [pu_o h13, pu_o h11, pu_o h8, pu_o h10, pu_o h9, pu_o h12]
  have e8 : g2 8 0 = 0 := by rw [a4 8 (by omega) (by omega) (by omega) (by omega) (by omega) (by omega)]; rfl
  have e10 : g2 10 0 = nI n := by rw [a4 10 (by omega) (by omega) (by omega) (by omega) (by omega) (by omega)]; exact t1
  rcases a6 with ⟨rfl, K, rfl, l1, l2, l3, l4, l5, z, t, l6, l7, l8, l9⟩ | ⟨rfl, l1⟩
  · have l8' := l8.last z7
    obtain ⟨y, f1, f2, f3⟩ := q_lawL (g := pu (pu (pu g2 0 0 0) 1 1 (nI K)) 1 2 (nI n)) (n := n) (by rw [pu_o (by omega), pu_o (by omega), pu_o (by omega)]; exact e10) t3 (nI K)
    have key : f_X12_law g = some (nI K, pu y 6 0 0) := by
      unfold f_X12_law
      have e10' : (pu (pu g2 0 0 0) 1 1 (nI K)) 10 0 = nI n := by rw [pu_o (by omega), pu_o (by omega)]; exact e10
      rw [q_begins, bd_s, a1, bd2_s, jn_s, if_pos l2]
      show nm (pu g2 0 0 0) _ = _
      rw [nm_s, pz_v, if_pos (show (0 : Int32) ≤ 0 by decide), nm_s, nm_s, e10', f1, bd_s, nm_s]
    have E2 : ∀ i, i ≠ 0 → i ≠ 1 → i ≠ 6 → (pu y 6 0 0) i = g2 i := fun i h0 h1 h6 => by rw [pu_o h6, f2 i h1, pu_o h1, pu_o h1, pu_o h0]
    have r1 : ∀ p, (pu y 6 0 0) 1 p = if 456 ≤ p ∧ p < 456 + n then g 7 (p - 456) else if p = 2 then nI n else if p = 1 then nI K else g 1 p := fun p => by
      rw [pu_o (by omega), f3, pu_o (by omega), pu_o (by omega), pu_o (by omega), E 7 (by omega) (by omega) (by omega) (by omega) (by omega) (by omega) (by omega) (by omega) (by omega)]
      rw [pu_s, pu_s, pu_o (by omega), E 1 (by omega) (by omega) (by omega) (by omega) (by omega) (by omega) (by omega) (by omega) (by omega)]
    have rl : ∀ p, p < 456 → p ≠ 1 → p ≠ 2 → (pu y 6 0 0) 1 p = g 1 p := fun p h h1 h2 => by rw [r1, if_neg (by omega), if_neg h2, if_neg h1]
    refine ⟨1, G7, G1, nI K, pu y 6 0 0, a2, key, z7, fun _ => ?_, fun _ => ⟨l4.symm, by rw [pu_o (by omega), f2 0 (by omega)]; rfl, fun u ko' s1 s2 => ?_⟩, fun q => absurd q (by decide)⟩
    · rw [l4, nI_1, nI_clamp (by omega), nI_clamp (by omega), l8', nI_clamp (by omega)]
      exact ⟨⟨nI_pos (by omega), l1⟩, ⟨nI_pos (by omega), by omega⟩, nI_pos (by omega), l6⟩
    · obtain ⟨q1, q2, q3, q4, q5, ⟨o, k, h1, h2, h3, h4, h5, h6⟩, q7⟩ := hI
      have lw : LW ((pu y 6 0 0) 1) (lnLaw (G7 5 0) (G7 3)) (gLaw (G7 5 0) (G7 1) (G7 2) (G7 3) (G7 4)) := by
        have n1 : lnLaw (G7 5 0) (G7 3) 1 = K := by show (G7 5 0).toNatClampNeg = K; rw [l4, nI_clamp (by omega)]
        have n2 : lnLaw (G7 5 0) (G7 3) 2 = K := by show (G7 5 0).toNatClampNeg = K; rw [l4, nI_clamp (by omega)]
        have n3 : lnLaw (G7 5 0) (G7 3) 3 = K + 1 := by show ((G7 5 0) + 1).toNatClampNeg = _; rw [l4, nI_1, nI_clamp (by omega)]
        have n4 : lnLaw (G7 5 0) (G7 3) 4 = z := by show (G7 3 (G7 5 0).toNatClampNeg).toNatClampNeg = _; rw [l4, nI_clamp (by omega), l8', nI_clamp (by omega)]
        refine ⟨c, n, K, z, gT, gT1, gR, G7, G1, by rw [r1, if_neg (by omega), if_neg (by omega), if_pos rfl], by rw [r1, if_neg (by omega), if_pos rfl], t3, fun k hk => ⟨by rw [r1, if_pos (by omega), show 456 + k - 456 = k by omega]; exact (t4 k hk).1, (t4 k hk).2.2⟩, l1, l6, o1, o3.2.2.2.1, o3.2.2.2.2, h30, z7, a2, l4, l7, l4, fun i hi => ?_, fun i hi => ?_, fun i hi => ?_, fun p hp => ?_, by rw [n1]; exact Nat.le_refl _, by rw [n2]; exact Nat.le_refl _, by rw [n3]; exact Nat.lt_succ_self _, by rw [n4]; exact Nat.le_refl _, by rw [n1]; omega, by rw [n2]; omega, by rw [n3]; omega, by rw [n4]; exact l6⟩
        · show cpOf (G7 1) 12 (G7 5 0) i = _
          rw [l4]; exact cpOf_at l1 (by omega) hi
        · show cpOf (G7 2) 12 (G7 5 0) i = _
          rw [l4]; exact cpOf_at l1 (by omega) hi
        · show cpOf (G7 3) 13 (G7 5 0 + 1) i = _
          rw [l4, nI_1]; exact cpOf_at (by omega) (by omega) (by omega)
        · show cpOf (G7 4) 400 (G7 3 (G7 5 0).toNatClampNeg) p = _
          rw [l4, nI_clamp (by omega), l8']; exact cpOf_at l6 (by omega) hp
      refine ⟨q1.c12 rl, q2.c12 q1 rl, lw, ⟨fun _ => 0, 0, by rw [E2 8 (by omega) (by omega) (by omega)]; exact e8, k8, by omega, fun i hi => absurd hi (Nat.not_lt_zero i)⟩, ?_, ⟨o, 0, h1, by omega, h3, rfl, rfl, fun j hj => absurd hj (Nat.not_lt_zero j)⟩, ?_⟩
      · show G1 7 0 = _
        rw [E2 12 (by omega) (by omega) (by omega)]; exact a5
      · have g22 : (pu y 6 0 0) 2 = g 2 := by rw [E2 2 (by omega) (by omega) (by omega)]; exact E 2 (by omega) (by omega) (by omega) (by omega) (by omega) (by omega) (by omega) (by omega) (by omega)
        have g33 : (pu y 6 0 0) 3 0 = g 3 0 := by rw [E2 3 (by omega) (by omega) (by omega), E 3 (by omega) (by omega) (by omega) (by omega) (by omega) (by omega) (by omega) (by omega) (by omega)]
        refine ⟨fun w => by rw [g33]; exact q7.1 w, fun w => ?_⟩
        obtain ⟨b1, b2, b3, b4, b5⟩ := q7.2 w
        rw [g22, g33]
        refine ⟨b1, b2, b3, ⟨fun x => absurd x (by decide), fun _ => ?_⟩⟩
        cases sh with
        | true =>
          obtain ⟨d1, d2, d3, d4⟩ := b4 rfl
          rw [s1 rfl]
          exact ⟨d1, q3.c d2 d3 d4⟩
        | false =>
          rw [s2 rfl]
          exact b5 rfl
  · refine ⟨0, G7, G1, 0, pu g2 0 0 1, a2, ?_, z7, fun q => absurd rfl q, fun q => absurd rfl q, fun _ => ⟨rfl, ?_⟩⟩
    · unfold f_X12_law
      rw [q_begins, bd_s, a1, bd2_s, jn_s, if_neg l1]
      show nm (pu g2 0 0 1) _ = _
      rw [nm_s, pz_v, if_neg (show ¬ (1 : Int32) ≤ 0 by decide)]
    · rw [a5]
      have E2 : ∀ i, i ≠ 0 → i ≠ 8 → i ≠ 9 → i ≠ 10 → i ≠ 11 → i ≠ 12 → i ≠ 13 → i ≠ 17 → i ≠ 18 → i ≠ 19 → (pu g2 0 0 1) i = g i := fun i h0 h8 h9 h10 h11 h12 h13 h17 h18 h19 => by rw [pu_o h0]; exact E i h8 h9 h10 h11 h12 h13 h17 h18 h19
      exact hI.evNo (g' := pu g2 0 0 1) (E2 2 (by omega) (by omega) (by omega) (by omega) (by omega) (by omega) (by omega) (by omega) (by omega) (by omega)) (by rw [E2 3 (by omega) (by omega) (by omega) (by omega) (by omega) (by omega) (by omega) (by omega) (by omega) (by omega)]) (E2 5 (by omega) (by omega) (by omega) (by omega) (by omega) (by omega) (by omega) (by omega) (by omega) (by omega)) (by rw [pu_o (by omega)]; exact e8) k8 (by rw [E2 6 (by omega) (by omega) (by omega) (by omega) (by omega) (by omega) (by omega) (by omega) (by omega) (by omega)]) (E2 1 (by omega) (by omega) (by omega) (by omega) (by omega) (by omega) (by omega) (by omega) (by omega) (by omega))
end K71
