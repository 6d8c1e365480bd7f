/-! rows on the tape -/
/-- an answer, with what holds of the pictures behind it -/
def AnP {α : Type} (ks : List Nat) (cd : Nat → Int32) (P : α → Prop) (res : (Nat × α) ⊕ (Int32 × α)) (v t : Int32) : Prop := (∃ u, res = .inr (v, u) ∧ P u ∧ t = 0) ∨ ∃ k u, res = .inl (k, u) ∧ k ∈ ks ∧ P u ∧ t = cd k
theorem An.p {α : Type} {ks : List Nat} {cd : Nat → Int32} {res : (Nat × α) ⊕ (Int32 × α)} {v t : Int32} (h : An ks cd res v t) : AnP ks cd (fun _ => True) res v t := by
  rcases h with ⟨u, h1, h2⟩ | ⟨k, u, h1, h2, h3⟩
  · exact Or.inl ⟨u, h1, trivial, h2⟩
  · exact Or.inr ⟨k, u, h1, h2, trivial, h3⟩
/-- the tape is empty now -/
def Ez (g g' : Pic) : Prop := Eq_ g g' ∧ g' 8 0 = 0
theorem Ez.of {g g' : Pic} {v : Int32} (h : Er (pu (pu g 8 0 0) 0 0 v) g') : Ez g g' := ⟨h.1, h.2.2⟩
section K62
variable {m : Nat → Int32} {g gP gS gL gT gK : Pic}
theorem k_heard1 (hT : RT gT g) (z : rk 6 8 (g 7) (tn (g 8 0))) (gK gS : Pic) : f_X1_takeHeard gK gT gS = some (1, pu gK 5 0 (nI (tn (g 8 0) / 2)), pu gT 1 0 0) := by
  unfold f_X1_takeHeard
  rw [show f_X1_takeRows gK gT gS 6 8 = _ from (k_rows hT (A := 6) (B := 8) (by omega) (by omega) gK gS).1 z]
  rfl
theorem k_heard0 (hT : RT gT g) (z : ¬ rk 6 8 (g 7) (tn (g 8 0))) (gK gS : Pic) : f_X1_takeHeard gK gT gS = some (0, pu gK 5 0 (nI (tn (g 8 0) / 2)), pu gT 1 0 0) := by
  unfold f_X1_takeHeard
  rw [show f_X1_takeRows gK gT gS 6 8 = _ from (k_rows hT (A := 6) (B := 8) (by omega) (by omega) gK gS).2 z]
  rfl
theorem k_hand1 (hO : Ok (g 1)) (hR : RS gS gL (g 1)) (hT : RT gT g) (z : rk (tn (g 1 3)) 7 (g 7) (tn (g 8 0))) (gK : Pic) : f_X1_takeHand gK gT gS = some (1, pu gK 5 0 (nI (tn (g 8 0) / 2)), pu gT 1 0 0) := by
  obtain ⟨W, hW, tW, -, w8⟩ := hO.W.ex
  rw [tW] at z
  unfold f_X1_takeHand
  rw [hR.W, hW, show f_X1_takeRows gK gT gS (nI W) 7 = _ from (k_rows hT (A := W) (B := 7) w8 (by omega) gK gS).1 z]
  rfl
theorem k_hand0 (hO : Ok (g 1)) (hR : RS gS gL (g 1)) (hT : RT gT g) (z : ¬ rk (tn (g 1 3)) 7 (g 7) (tn (g 8 0))) (gK : Pic) : f_X1_takeHand gK gT gS = some (0, pu gK 5 0 (nI (tn (g 8 0) / 2)), pu gT 1 0 0) := by
  obtain ⟨W, hW, tW, -, w8⟩ := hO.W.ex
  rw [tW] at z
  unfold f_X1_takeHand
  rw [hR.W, hW, show f_X1_takeRows gK gT gS (nI W) 7 = _ from (k_rows hT (A := W) (B := 7) w8 (by omega) gK gS).2 z]
  rfl
theorem q_stroke (hO : Ok (g 1)) (hT : RT gT g) : (rk (tn (g 1 3)) 7 (g 7) (tn (g 8 0)) → f_X12_strokeRows g = some (g 8 0, pu (pu g 8 0 0) 0 0 0)) ∧ (¬ rk (tn (g 1 3)) 7 (g 7) (tn (g 8 0)) → f_X12_strokeRows g = some (g 8 0, pu (pu g 8 0 0) 0 0 1)) := by
  obtain ⟨h8, h1, hb⟩ := hT
  obtain ⟨n, hn, t8, -, n4⟩ := h8.ex
  obtain ⟨W, hW, tW, -, w8⟩ := hO.W.ex
  rw [t8] at hb ⊢
  rw [tW]
  unfold f_X12_strokeRows
  by_cases c1 : n % 2 = 0 ∧ n ≤ 40
  · have c2 : ¬ 40 < n := by omega
    have qr := q_rowsB (g := pu g 8 0 0) (W := W) hW w8 c1.1 c1.2 (fun k hk => (hb k hk).2)
    rw [show (pu g 8 0 0) 7 = g 7 from rfl] at qr
    by_cases q : rk W 7 (g 7) n
    · refine ⟨fun _ => ?_, fun z => absurd q z⟩
      simp (disch := omega) only [bd_s, bd2_s, bd3_s, bd4_s, bd5_s, bd6_s, bd7_s, bd8_s, lr_l, lr_r, nm_s, jn_s, gdb_0, gdb_1, li_40, hn, nI_mod2, nI_ltI, c2, if_false, c1.1, nI_0, if_true, qr.1 q, i10]
    · refine ⟨fun z => absurd z q, fun _ => ?_⟩
      simp (disch := omega) only [bd_s, bd2_s, bd3_s, bd4_s, bd5_s, bd6_s, bd7_s, bd8_s, lr_l, lr_r, nm_s, jn_s, gdb_0, gdb_1, li_40, hn, nI_mod2, nI_ltI, c2, if_false, c1.1, nI_0, if_true, qr.2 q]
  · have nr : ¬ rk W 7 (g 7) n := fun z => c1 ⟨z.1, z.2.1⟩
    refine ⟨fun z => absurd z nr, fun _ => ?_⟩
    have L0 : f_X12_strokeRows_L30 (nI n) (pu g 8 0 0) fu (0, 0) = some 0 := by
      refine lp_seq (fun _ => (0, 0)) 0 _ (fun k hk => absurd hk (Nat.not_lt_zero k)) (fun r => ?_) (by have := fu_big; omega) rfl
      simp only [if_true]
      split <;> rfl
    by_cases c2 : n % 2 = 0
    · have c3 : 40 < n := by omega
      simp (disch := omega) only [bd_s, bd2_s, bd3_s, bd4_s, bd5_s, bd6_s, bd7_s, bd8_s, lr_l, lr_r, nm_s, jn_s, gdb_0, gdb_1, li_40, hn, nI_mod2, nI_ltI, c3, if_false, c2, nI_0, if_true, L0]
    · have z : ¬ nI (n % 2) = 0 := by rw [nI_eq0 (by omega)]; exact c2
      simp (disch := omega) only [bd_s, bd2_s, bd3_s, bd4_s, bd5_s, bd6_s, bd7_s, bd8_s, lr_l, lr_r, nm_s, jn_s, gdb_0, gdb_1, hn, nI_mod2, z, if_false, if_true, L0]
theorem need1 (gP : Pic) : f_X11_needRows gP 1 = some (.inr ()) := rfl
theorem need0 (gP : Pic) : f_X11_needRows gP 0 = some (.inl (1, ())) := rfl
theorem t_heard (hO : Ok (g 1)) (hR : RS gS gL (g 1)) (hT : RT gT g) (gP gK : Pic) : ∃ v g' res, f_X12_heard g = some (v, g') ∧ f_X11_heard gP gT gS gK = some res ∧ Ez g g' ∧ AnP [1] (fun _ => 1) (fun u => u.1 1 0 = 0) res v (g' 0 0) := by
  by_cases z : rk 6 8 (g 7) (tn (g 8 0))
  · obtain ⟨g', a1, a2, -⟩ := (q_hears hO hT).1 z
    have c1 := k_fit hO hR (CK.of (gK := gK) hT rfl z)
    have e0 : g' 0 0 = 0 := by rw [a2.z]; rfl
    refine ⟨nI (fwS (g 1) (g 7) (tn (g 8 0)) (tn (g 1 3))), g', .inr (nI (fwS (g 1) (g 7) (tn (g 8 0)) (tn (g 1 3))), (pu gT 1 0 0, pu gK 5 0 (nI (tn (g 8 0) / 2)))), ?_, ?_, Ez.of a2.er, Or.inl ⟨_, rfl, rfl, e0⟩⟩
    · unfold f_X12_heard; rw [a1, bd2_s, e0, jn_s, if_pos (by decide)]
    · unfold f_X11_heard; rw [k_heard1 hT z, bd3_s, need1, lr_r, c1, bd_s]
  · have a1 := (q_hears hO hT).2 z
    refine ⟨0, pu (pu g 8 0 0) 0 0 1, .inl (1, (pu gT 1 0 0, pu gK 5 0 (nI (tn (g 8 0) / 2)))), ?_, ?_, Ez.of (Er.rf _), Or.inr ⟨1, _, rfl, by decide, rfl, rfl⟩⟩
    · unfold f_X12_heard; rw [a1, bd2_s, pz_v, jn_s, if_neg (by decide)]
    · unfold f_X11_heard; rw [k_heard0 hT z, bd3_s, need0, lr_l]
theorem t_likely (hO : Ok (g 1)) (hR : RS gS gL (g 1)) (hT : RT gT g) (gP gK : Pic) : ∃ v g' res, f_X12_likely g = some (v, g') ∧ f_X11_likely gP gT gS gK = some res ∧ Ez g g' ∧ AnP [1] (fun _ => 1) (fun u => u.1 1 0 = 0) res v (g' 0 0) := by
  by_cases z : rk 6 8 (g 7) (tn (g 8 0))
  · obtain ⟨g', a1, a2, a3⟩ := (q_hears hO hT).1 z
    obtain ⟨v, b1, b2⟩ := e_likely (g := g') (m := g 1) a2.m hO hR (CK.of (gK := gK) hT rfl z) a3
    have e0 : g' 0 0 = 0 := by rw [a2.z]; rfl
    refine ⟨v, g', .inr (v, (pu gT 1 0 0, pu gK 5 0 (nI (tn (g 8 0) / 2)))), ?_, ?_, Ez.of a2.er, Or.inl ⟨_, rfl, rfl, e0⟩⟩
    · unfold f_X12_likely; rw [a1, bd2_s, e0, if_pos (by decide), b1, bd_s]
    · unfold f_X11_likely; rw [k_heard1 hT z, bd3_s, need1, lr_r, b2, bd_s]
  · have a1 := (q_hears hO hT).2 z
    refine ⟨0, pu (pu g 8 0 0) 0 0 1, .inl (1, (pu gT 1 0 0, pu gK 5 0 (nI (tn (g 8 0) / 2)))), ?_, ?_, Ez.of (Er.rf _), Or.inr ⟨1, _, rfl, by decide, rfl, rfl⟩⟩
    · unfold f_X12_likely; rw [a1, bd2_s, pz_v, if_neg (by decide)]
    · unfold f_X11_likely; rw [k_heard0 hT z, bd3_s, need0, lr_l]
theorem t_look (hO : Ok (g 1)) (hR : RS gS gL (g 1)) (hT : RT gT g) (gP gK : Pic) : ∃ v g' res, f_X12_look g = some (v, g') ∧ f_X11_look gP gT gS gK = some res ∧ Ez g g' ∧ AnP [1] (fun _ => 1) (fun u => u.1 1 0 = 0) res v (g' 0 0) := by
  by_cases z : rk 6 8 (g 7) (tn (g 8 0))
  · obtain ⟨g', a1, a2, a3⟩ := (q_hears hO hT).1 z
    obtain ⟨v, g2, k', b1, b2, b3⟩ := e_look (g := g') (m := g 1) a2.m hO hR (CK.of (gK := gK) hT rfl z)
    have e0 : g' 0 0 = 0 := by rw [a2.z]; rfl
    refine ⟨v, g2, .inr (v, (pu gT 1 0 0, k')), ?_, ?_, Ez.of (a2.tr b2).er, Or.inl ⟨_, rfl, rfl, by rw [b2.z]; exact e0⟩⟩
    · unfold f_X12_look; rw [a1, bd2_s, e0, if_pos (by decide), b1, bd_s]
    · unfold f_X11_look; rw [k_heard1 hT z, bd3_s, need1, lr_r, b3, bd2_s]
  · have a1 := (q_hears hO hT).2 z
    refine ⟨0, pu (pu g 8 0 0) 0 0 1, .inl (1, (pu gT 1 0 0, pu gK 5 0 (nI (tn (g 8 0) / 2)))), ?_, ?_, Ez.of (Er.rf _), Or.inr ⟨1, _, rfl, by decide, rfl, rfl⟩⟩
    · unfold f_X12_look; rw [a1, bd2_s, pz_v, if_neg (by decide)]
    · unfold f_X11_look; rw [k_heard0 hT z, bd3_s, need0, lr_l]
theorem QK.of {n B : Nat} (hT : RT gT g) (hn : tn (g 8 0) = n) (hr : rk (tn (m 3)) B (g 7) n) : QK g m (n / 2) ∧ g 8 0 = nI (2 * (n / 2)) := by
  obtain ⟨h8, h1, hb⟩ := hT
  obtain ⟨r1, r2, r3⟩ := hr
  refine ⟨⟨by omega, fun j hj => ⟨(hb _ (by omega)).2, (hb _ (by omega)).2, (r3 j (by omega)).1⟩⟩, ?_⟩
  obtain ⟨n', hn', t8, -, n4⟩ := h8.ex
  rw [hn']
  congr 1
  omega
theorem t_hand (hO : Ok (g 1)) (hR : RS gS gL (g 1)) (hT : RT gT g) (gP gK : Pic) (x1 : Int32) : ∃ v g' res, f_X12_hand g x1 = some (v, g') ∧ f_X11_hand gP gT gS gK x1 = some res ∧ Ez g g' ∧ AnP [1] (fun _ => 1) (fun u => u.1 1 0 = 0) res v (g' 0 0) := by
  by_cases z : rk (tn (g 1 3)) 7 (g 7) (tn (g 8 0))
  · have a1 := (q_stroke hO hT).1 z
    obtain ⟨hQ, h8⟩ := QK.of (m := g 1) hT rfl z
    obtain ⟨g2, b1, b2, b3⟩ := q_hands (g := pu (pu g 8 0 0) 0 0 0) (m := g 1) rfl hO hQ
    rw [← h8] at b1
    have b1 : f_X12_hands (pu (pu g 8 0 0) 0 0 0) (g 8 0) = some (nI (cnS (g 1) (g 7) (tn (g 8 0) / 2) 256), g2) := b1
    obtain ⟨k', c1, c2, c3, c4⟩ := k_sets hO hR (CK.of (gK := gK) hT rfl z)
    have e0 : g2 0 0 = 0 := by rw [b2.z]; rfl
    obtain ⟨v, d1, d2⟩ := e_least (g := g2) (m := g 1) (t := g 7) b3 c2 c4 (pu gT 1 0 0) gS
    by_cases y : x1 = 0
    · refine ⟨nI (cnS (g 1) (g 7) (tn (g 8 0) / 2) 256), g2, .inr (nI (cnS (g 1) (g 7) (tn (g 8 0) / 2) 256), (pu gT 1 0 0, k')), ?_, ?_, Ez.of b2.er, Or.inl ⟨_, rfl, rfl, e0⟩⟩
      · unfold f_X12_hand; rw [a1, bd2_s, pz_v, if_pos (by decide), b1, bd2_s, if_pos y]
      · unfold f_X11_hand; rw [k_hand1 hO hR hT z, bd3_s, need1, lr_r, c1, bd2_s, jn_s, if_pos y]
    · refine ⟨v, g2, .inr (v, (pu gT 1 0 0, k')), ?_, ?_, Ez.of b2.er, Or.inl ⟨_, rfl, rfl, e0⟩⟩
      · unfold f_X12_hand; rw [a1, bd2_s, pz_v, if_pos (by decide), b1, bd2_s, if_neg y, d1]
      · unfold f_X11_hand; rw [k_hand1 hO hR hT z, bd3_s, need1, lr_r, c1, bd2_s, jn_s, if_neg y, d2, bd_s]
  · have a1 := (q_stroke hO hT).2 z
    refine ⟨0, pu (pu g 8 0 0) 0 0 1, .inl (1, (pu gT 1 0 0, pu gK 5 0 (nI (tn (g 8 0) / 2)))), ?_, ?_, Ez.of (Er.rf _), Or.inr ⟨1, _, rfl, by decide, rfl, rfl⟩⟩
    · unfold f_X12_hand; rw [a1, bd2_s, pz_v, if_neg (by decide)]
    · unfold f_X11_hand; rw [k_hand0 hO hR hT z, bd3_s, need0, lr_l]
theorem t_ask (hO : Ok (g 1)) (hR : RS gS gL (g 1)) (hT : RT gT g) (gP gK : Pic) : ∃ v g' res, f_X12_ask g = some (v, g') ∧ f_X11_ask gP gT gS gK = some res ∧ Ez g g' ∧ AnP [1] (fun _ => 1) (fun u => u.1 1 0 = 0) res v (g' 0 0) := by
  by_cases z : rk (tn (g 1 3)) 7 (g 7) (tn (g 8 0))
  · have a1 := (q_stroke hO hT).1 z
    obtain ⟨hQ, h8⟩ := QK.of (m := g 1) hT rfl z
    obtain ⟨g2, b1, b2, b3⟩ := q_hands (g := pu (pu g 8 0 0) 0 0 0) (m := g 1) rfl hO hQ
    rw [← h8] at b1
    have b1 : f_X12_hands (pu (pu g 8 0 0) 0 0 0) (g 8 0) = some (nI (cnS (g 1) (g 7) (tn (g 8 0) / 2) 256), g2) := b1
    obtain ⟨k', c1, c2, c3, c4⟩ := k_sets hO hR (CK.of (gK := gK) hT rfl z)
    obtain ⟨v, g3, k2, d1, d2, d3⟩ := e_ask (g := g2) (m := g 1) (t := g 7) b2.m hO hR b3 c2 c4 (pu gT 1 0 0)
    have e0 : g3 0 0 = 0 := by rw [d2.z, b2.z]; rfl
    refine ⟨v, g3, .inr (v, (pu gT 1 0 0, k2)), ?_, ?_, Ez.of (b2.tr d2).er, Or.inl ⟨_, rfl, rfl, e0⟩⟩
    · unfold f_X12_ask; rw [a1, bd2_s, pz_v, if_pos (by decide), b1, bd2_s]
      rw [d1, bd_s]
    · unfold f_X11_ask; rw [k_hand1 hO hR hT z, bd3_s, need1, lr_r, c1, bd2_s, d3, bd2_s]
  · have a1 := (q_stroke hO hT).2 z
    refine ⟨0, pu (pu g 8 0 0) 0 0 1, .inl (1, (pu gT 1 0 0, pu gK 5 0 (nI (tn (g 8 0) / 2)))), ?_, ?_, Ez.of (Er.rf _), Or.inr ⟨1, _, rfl, by decide, rfl, rfl⟩⟩
    · unfold f_X12_ask; rw [a1, bd2_s, pz_v, if_neg (by decide)]
    · unfold f_X11_ask; rw [k_hand0 hO hR hT z, bd3_s, need0, lr_l]
theorem t_whose (hO : Ok (g 1)) (hR : RS gS gL (g 1)) (hT : RT gT g) (gP gK : Pic) : ∃ v g' res, f_X12_whose g = some (v, g') ∧ f_X11_whose gP gT gS gK = some res ∧ Ez g g' ∧ AnP [1] (fun _ => 1) (fun u => u.1 1 0 = 0) res v (g' 0 0) := by
  by_cases z : rk (tn (g 1 3)) 7 (g 7) (tn (g 8 0))
  · have a1 := (q_stroke hO hT).1 z
    obtain ⟨hQ, h8⟩ := QK.of (m := g 1) hT rfl z
    obtain ⟨v, d1, d2⟩ := e_whose (g := pu (pu g 8 0 0) 0 0 0) (m := g 1) rfl hO hR hQ (CK.of (g := g) (gK := gK) hT rfl z)
    rw [← h8] at d1
    refine ⟨v, pu (pu g 8 0 0) 0 0 0, .inr (v, (pu gT 1 0 0, pu gK 5 0 (nI (tn (g 8 0) / 2)))), ?_, ?_, Ez.of (Er.rf _), Or.inl ⟨_, rfl, rfl, rfl⟩⟩
    · unfold f_X12_whose; rw [a1, bd2_s, pz_v, if_pos (by decide), d1, bd_s]
    · unfold f_X11_whose; rw [k_hand1 hO hR hT z, bd3_s, need1, lr_r, d2, bd_s]
  · have a1 := (q_stroke hO hT).2 z
    refine ⟨0, pu (pu g 8 0 0) 0 0 1, .inl (1, (pu gT 1 0 0, pu gK 5 0 (nI (tn (g 8 0) / 2)))), ?_, ?_, Ez.of (Er.rf _), Or.inr ⟨1, _, rfl, by decide, rfl, rfl⟩⟩
    · unfold f_X12_whose; rw [a1, bd2_s, pz_v, if_neg (by decide)]
    · unfold f_X11_whose; rw [k_hand0 hO hR hT z, bd3_s, need0, lr_l]
end K62
