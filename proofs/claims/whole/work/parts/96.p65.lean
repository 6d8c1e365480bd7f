/-! minutes ahead, trials, spans: the row put aside and brought back -/
def AS (g y : Pic) : Prop := (∀ p, p < 456 → y 4 p = g 1 p) ∧ y 1 = g 1 ∧ (∀ k, k ≠ 1 → k ≠ 4 → (k < 9 ∨ 20 ≤ k) → y k = g k) ∧ y 12 0 = g 12 0
theorem AS.er {g y : Pic} (h : AS g y) : Er g y := ⟨⟨h.2.1, h.2.2.1 2 (by omega) (by omega) (by omega), by rw [h.2.2.1 3 (by omega) (by omega) (by omega)], h.2.2.1 5 (by omega) (by omega) (by omega), by rw [h.2.2.1 6 (by omega) (by omega) (by omega)], h.2.2.2⟩, h.2.2.1 7 (by omega) (by omega) (by omega), by rw [h.2.2.1 8 (by omega) (by omega) (by omega)]⟩
theorem AS.z {g y : Pic} (h : AS g y) : y 0 0 = g 0 0 := by rw [h.2.2.1 0 (by omega) (by omega) (by omega)]
theorem as_in (g : Pic) : ∃ y, f_X12_putsAside g = some y ∧ AS g y := by
  obtain ⟨y, a1, a2, a3, a4⟩ := q_aside g
  exact ⟨y, a1, a3, a4 1 (by omega), fun k _ h4 _ => a4 k h4, by rw [a4 12 (by omega)]⟩
theorem as_out {g y y1 z : Pic} (h : AS g y) (e1 : ∀ k, k ≠ 1 → y1 k = y k) (e2 : ∀ p, 456 ≤ p → y1 1 p = y 1 p) (hp : Ep y1 z) : ∃ z', f_X12_comesBack z = some z' ∧ AS g z' := by
  obtain ⟨z', b1, b2, b3, b4⟩ := q_back4 z
  have k4 : z 4 = y 4 := (hp.1 4 (by omega) (by omega)).trans (e1 4 (by omega))
  refine ⟨z', b1, fun p hq => ?_, funext fun p => ?_, fun k h1 h4 hk => ?_, ?_⟩
  · rw [b2 4 (by omega), k4]; exact h.1 p hq
  · by_cases c : p < 456
    · rw [b3 p c, k4]; exact h.1 p c
    · rw [b4 p (by omega), hp.2.2 p (by omega), e2 p (by omega), h.2.1]
  · rw [b2 k h1, hp.1 k h1 hk, e1 k h1]; exact h.2.2.1 k h1 h4 hk
  · rw [b2 12 (by omega), hp.2.1, e1 12 (by omega)]; exact h.2.2.2
section K65
variable {m : Nat → Int32} {g gP gS gL gD gE gH gK gF gl : Pic} {ln : Nat → Nat}
theorem t_aheadN (hO : Ok (g 1)) (hR : RS gS gL (g 1)) (h1 : ¬ 1 ≤ g 1 1) (gP gD gE gH gK gF : Pic) (x1 x2 : Int32) : ∃ v g' res, f_X12_ahead g x1 x2 = some (v, g') ∧ f_X11_ahead_n gP gS gL gD gE gH gK gF x1 x2 = some res ∧ Er g g' ∧ AnP [0, 1] (fun k => if k = 0 then 1 else 2) (fun _ => True) res v (g' 0 0) := by
  rcases e_writer (gP := gP) hO hR x1 with ⟨u, hu, rfl, a1, a2⟩ | ⟨a1, a2⟩
  · rcases e_num (gP := gP) x2 (lo := 0) (hi := 60) (by omega) (by omega) with ⟨n, -, n4, rfl, c1, c2⟩ | ⟨c1, c2⟩
    · have c1 : f_X12_isIn (nI n) 0 60 = some 1 := c1
      have c2 : f_X11_needNumber gP (nI n) 0 60 = some (.inr ()) := c2
      have u5 := hO.u5 hu
      obtain ⟨y, d1, aS⟩ := as_in (pu g 0 0 0)
      obtain ⟨a, b, k1, k2⟩ := k_copy hO hR gD gE
      obtain ⟨v, z, gF', gH', gS', gL', b1, b2, b3, b4, b5⟩ := e_goesZ (g := y) (gS := a) (gL := b) (by rw [aS.2.1]; exact hO) (by rw [aS.2.1]; exact k2) (by rw [aS.2.1]; exact h1) n4 0 gK gF gH
      obtain ⟨z', f1, f2⟩ := as_out aS (fun _ _ => rfl) (fun _ _ => rfl) b3
      have u4 : z 1 4 = g 1 4 := by rw [b3.2.2 4 (by omega), aS.2.1]; rfl
      have q3 : f_X12_of z (nI u) 3 = some (wr (z 1) u 3) := q_of u5 (by omega : 3 < 4)
      refine ⟨wr (z 1) u 3, z', .inr (_, (gS', gL', gH', gF')), ?_, ?_, (Er.z g 0).tr f2.er, Or.inl ⟨_, rfl, trivial, by rw [f2.z]; rfl⟩⟩
      · unfold f_X12_ahead; rw [a1]; simp only [bd_s, bd2_s, bd3_s, bd4_s, bd5_s, bd6_s, bd7_s, lr_l, lr_r, nm_s, jn_s, gdb_0, gdb_1, pz_v, if_true, if_false, eq_self, i10, i01, i20, l10, l00, l20, c1]; rw [d1, bd_s, b1, bd2_s, q3, bd_s, f1, bd_s]
      · unfold f_X11_ahead_n; rw [a2, c2]; simp only [bd_s, bd2_s, bd3_s, bd4_s, bd5_s, bd6_s, bd7_s, lr_l, lr_r, nm_s, jn_s, gdb_0, gdb_1, pz_v, if_true, if_false, eq_self, i10, i01, i20, l10, l00, l20, k1]; rw [b2, bd5_s, gdi_n u5 (by omega), nI_clamp (by omega), b5.tired (by rw [u4]; exact hu)]
    · have c1 : f_X12_isIn x2 0 60 = some 0 := c1
      have c2 : f_X11_needNumber gP x2 0 60 = some (.inl (1, ())) := c2
      refine ⟨0, pu g 0 0 2, .inl (1, (gD, gE, gH, gF)), ?_, ?_, Er.z g 2, Or.inr ⟨1, _, rfl, by decide, trivial, rfl⟩⟩
      · unfold f_X12_ahead; rw [a1]; simp only [bd_s, bd2_s, bd3_s, bd4_s, bd5_s, bd6_s, bd7_s, lr_l, lr_r, nm_s, jn_s, gdb_0, gdb_1, pz_v, if_true, if_false, eq_self, i10, i01, i20, l10, l00, l20, c1]
      · unfold f_X11_ahead_n; rw [a2, c2]; simp only [bd_s, bd2_s, bd3_s, bd4_s, bd5_s, bd6_s, bd7_s, lr_l, lr_r, nm_s, jn_s, gdb_0, gdb_1, pz_v, if_true, if_false, eq_self, i10, i01, i20, l10, l00, l20]
  · refine ⟨0, pu g 0 0 1, .inl (0, (gD, gE, gH, gF)), ?_, ?_, Er.z g 1, Or.inr ⟨0, _, rfl, by decide, trivial, rfl⟩⟩
    · unfold f_X12_ahead; rw [a1]; simp only [bd_s, bd2_s, bd3_s, bd4_s, bd5_s, bd6_s, bd7_s, lr_l, lr_r, nm_s, jn_s, gdb_0, gdb_1, pz_v, if_true, if_false, eq_self, i10, i01, i20, l10, l00, l20]
    · unfold f_X11_ahead_n; rw [a2]; simp only [bd_s, bd2_s, bd3_s, bd4_s, bd5_s, bd6_s, bd7_s, lr_l, lr_r, nm_s, jn_s, gdb_0, gdb_1, pz_v, if_true, if_false, eq_self, i10, i01, i20, l10, l00, l20]
theorem t_trialN (hO : Ok (g 1)) (hR : RS gS gL (g 1)) (h1 : ¬ 1 ≤ g 1 1) (gP gD gE gH gK gF : Pic) (x1 x2 : Int32) : ∃ v g' res, f_X12_trial g x1 x2 = some (v, g') ∧ f_X11_trial_n gP gS gL gD gE gH gK gF x1 x2 = some res ∧ Er g g' ∧ AnP [1] (fun _ => 1) (fun _ => True) res v (g' 0 0) := by
  rcases e_num (gP := gP) x1 (lo := 0) (hi := 60) (by omega) (by omega) with ⟨n, -, n4, rfl, c1, c2⟩ | ⟨c1, c2⟩
  · have c1 : f_X12_isIn (nI n) 0 60 = some 1 := c1
    have c2 : f_X11_needNumber gP (nI n) 0 60 = some (.inr ()) := c2
    obtain ⟨y, d1, aS⟩ := as_in (pu g 0 0 0)
    obtain ⟨a, b, k1, k2⟩ := k_copy hO hR gD gE
    obtain ⟨v, z, gF', gH', gS', gL', b1, b2, b3, b4, b5⟩ := e_goesZ (g := y) (gS := a) (gL := b) (by rw [aS.2.1]; exact hO) (by rw [aS.2.1]; exact k2) (by rw [aS.2.1]; exact h1) n4 1 gK gF gH
    obtain ⟨z', f1, f2⟩ := as_out aS (fun _ _ => rfl) (fun _ _ => rfl) b3
    by_cases e : x2 = 0
    · obtain ⟨r, -, r1, r2⟩ := e_pagedAll (g := z) b4 b5 1
      refine ⟨nI r, z', .inr (_, (gS', gL', gH', gF')), ?_, ?_, (Er.z g 0).tr f2.er, Or.inl ⟨_, rfl, trivial, by rw [f2.z]; rfl⟩⟩
      · unfold f_X12_trial; rw [c1]; simp only [bd_s, bd2_s, bd3_s, bd4_s, bd5_s, bd6_s, bd7_s, lr_l, lr_r, nm_s, jn_s, gdb_0, gdb_1, pz_v, if_true, if_false, eq_self, i10, i01, i20, l10, l00, l20]; rw [d1, bd_s, b1, bd2_s, if_pos e, r1, bd_s, f1, bd_s]
      · unfold f_X11_trial_n; rw [c2]; simp only [bd_s, bd2_s, bd3_s, bd4_s, bd5_s, bd6_s, bd7_s, lr_l, lr_r, nm_s, jn_s, gdb_0, gdb_1, pz_v, if_true, if_false, eq_self, i10, i01, i20, l10, l00, l20, k1]; rw [b2, bd5_s, if_pos e, r2, bd_s]
    · obtain ⟨r, r1, r2⟩ := e_tiredAll (g := z) b4 b5
      refine ⟨r, z', .inr (_, (gS', gL', gH', gF')), ?_, ?_, (Er.z g 0).tr f2.er, Or.inl ⟨_, rfl, trivial, by rw [f2.z]; rfl⟩⟩
      · unfold f_X12_trial; rw [c1]; simp only [bd_s, bd2_s, bd3_s, bd4_s, bd5_s, bd6_s, bd7_s, lr_l, lr_r, nm_s, jn_s, gdb_0, gdb_1, pz_v, if_true, if_false, eq_self, i10, i01, i20, l10, l00, l20]; rw [d1, bd_s, b1, bd2_s, if_neg e, r1, bd_s, f1, bd_s]
      · unfold f_X11_trial_n; rw [c2]; simp only [bd_s, bd2_s, bd3_s, bd4_s, bd5_s, bd6_s, bd7_s, lr_l, lr_r, nm_s, jn_s, gdb_0, gdb_1, pz_v, if_true, if_false, eq_self, i10, i01, i20, l10, l00, l20, k1]; rw [b2, bd5_s, if_neg e, r2, bd_s]
  · have c1 : f_X12_isIn x1 0 60 = some 0 := c1
    have c2 : f_X11_needNumber gP x1 0 60 = some (.inl (1, ())) := c2
    refine ⟨0, pu g 0 0 1, .inl (1, (gD, gE, gH, gF)), ?_, ?_, Er.z g 1, Or.inr ⟨1, _, rfl, by decide, trivial, rfl⟩⟩
    · unfold f_X12_trial; rw [c1]; simp only [bd_s, bd2_s, bd3_s, bd4_s, bd5_s, bd6_s, bd7_s, lr_l, lr_r, nm_s, jn_s, gdb_0, gdb_1, pz_v, if_true, if_false, eq_self, i10, i01, i20, l10, l00, l20]
    · unfold f_X11_trial_n; rw [c2]; simp only [bd_s, bd2_s, bd3_s, bd4_s, bd5_s, bd6_s, bd7_s, lr_l, lr_r, nm_s, jn_s, gdb_0, gdb_1, pz_v, if_true, if_false, eq_self, i10, i01, i20, l10, l00, l20]
theorem e_spanN (hO : Ok (g 1)) (hR : RS gS gL (g 1)) (h1 : ¬ 1 ≤ g 1 1) {n : Nat} (hn : n ≤ 60) (gP gD gE gH gK gF : Pic) (x2 : Int32) {y0 : Pic} (h0 : AS (pu g 0 0 0) y0) : ∃ (r : Int32) (z : Pic) (lo hi : Int32) (p : Pic × Pic × Pic × Pic), f_X12_span_L37 (nI n) x2 fu (-1, 1, y0) = some (r, z) ∧ f_X11_span_n_L17 (nI n) x2 gP gS gL gK fu (100, 0, 1, gD, gE, gH, gF) = some (lo, hi, p) ∧ AS (pu g 0 0 0) z ∧ r = (if x2 = 0 then lo else hi) := by
  obtain ⟨a, b, w1, w2, r, z, lo, hi, p, rfl, rfl, w3⟩ : ∃ a b, f_X12_span_L37 (nI n) x2 fu (-1, 1, y0) = some a ∧ f_X11_span_n_L17 (nI n) x2 gP gS gL gK fu (100, 0, 1, gD, gE, gH, gF) = some b ∧ ∃ (r : Int32) (z : Pic) (lo hi : Int32) (p : Pic × Pic × Pic × Pic), a = (r, z) ∧ b = (lo, hi, p) ∧ AS (pu g 0 0 0) z ∧ r = (if x2 = 0 then lo else hi) := by
    refine lp_two (fun k a b => ∃ (L H : Nat) (y gD' gE' gH' gF' : Pic), a = ((if k = 0 then -1 else if x2 = 0 then nI L else nI H), nI (1 + k), y) ∧ b = (nI L, nI H, nI (1 + k), gD', gE', gH', gF') ∧ L ≤ 100 ∧ H ≤ 100 ∧ (k = 0 → L = 100 ∧ H = 0) ∧ AS (pu g 0 0 0) y) 6 (fun (a : Int32 × Pic) (b : Int32 × Int32 × Pic × Pic × Pic × Pic) => ∃ (r : Int32) (z : Pic) (lo hi : Int32) (p : Pic × Pic × Pic × Pic), a = (r, z) ∧ b = (lo, hi, p) ∧ AS (pu g 0 0 0) z ∧ r = (if x2 = 0 then lo else hi)) ?_ ?_ (by have := fu_big; omega) (by have := fu_big; omega) ⟨100, 0, y0, gD, gE, gH, gF, rfl, rfl, by omega, by omega, fun _ => ⟨rfl, rfl⟩, h0⟩
    · rintro k hk _ _ ⟨L, H, y, gD', gE', gH', gF', rfl, rfl, l1, l2, l3, aS⟩
      have m1 : (pu y 1 11 (nI (1 + k))) 1 = upd (g 1) 11 (nI (1 + k)) := by show upd (y 1) 11 _ = _; rw [aS.2.1]; rfl
      obtain ⟨a, b, k1, k2⟩ := k_copy hO hR gD' gE'
      have o1 : Ok (upd (g 1) 11 (nI (1 + k))) := hO.sc (by omega) (fun z => absurd z (by omega)) (fun z => absurd z (by omega)) (fun z => absurd z (by omega)) (fun z => absurd z (by omega))
      have r1 := k2.sc (P := 11) (K := 16) (v := nI (1 + k)) hO (by omega)
      obtain ⟨v, z, gF2, gH2, gS2, gL2, b1, b2, b3, b4, b5⟩ := e_goesZ (g := (pu y 1 11 (nI (1 + k)))) (gS := pu a 16 0 (nI (1 + k))) (gL := b) (by rw [m1]; exact o1) (by rw [m1]; exact r1) (by rw [m1]; show ¬ 1 ≤ (upd (g 1) 11 (nI (1 + k))) 1; exact h1) hn 1 gK gF' gH'
      obtain ⟨z', f1, f2⟩ := as_out (y1 := (pu y 1 11 (nI (1 + k)))) aS (fun j hj => by rw [pu_row, if_neg hj]) (fun p hp => by show (if p = 11 then _ else _) = _; rw [if_neg (by omega)]) b3
      obtain ⟨r, r100, p1, p2⟩ := e_pagedAll (g := z) b4 b5 2
      have nk : ¬ (6 : Int32) < nI (1 + k) := by rw [li_6, nI_ltI (by omega) (by omega)]; omega
      have s1 : (if nI r < nI L then nI r else nI L) = nI (if r < L then r else L) := by
        by_cases q : r < L
        · rw [if_pos q, if_pos ((nI_ltI (by omega) (by omega)).mpr q)]
        · rw [if_neg q, if_neg (fun t => q ((nI_ltI (by omega) (by omega)).mp t))]
      have s2 : (if nI H < nI r then nI r else nI H) = nI (if H < r then r else H) := by
        by_cases q : H < r
        · rw [if_pos q, if_pos ((nI_ltI (by omega) (by omega)).mpr q)]
        · rw [if_neg q, if_neg (fun t => q ((nI_ltI (by omega) (by omega)).mp t))]
      have s3 : (if nI r ≤ nI L then nI r else nI L) = nI (if r < L then r else L) := by
        by_cases q : r ≤ L
        · rw [if_pos ((nI_leI (by omega) (by omega)).mpr q)]
          exact congrArg nI (by split <;> omega)
        · rw [if_neg (fun t => q ((nI_leI (by omega) (by omega)).mp t)), if_neg (by omega)]
      have s4 : (if nI H ≤ nI r then nI r else nI H) = nI (if H < r then r else H) := by
        by_cases q : H ≤ r
        · rw [if_pos ((nI_leI (by omega) (by omega)).mpr q)]
          exact congrArg nI (by split <;> omega)
        · rw [if_neg (fun t => q ((nI_leI (by omega) (by omega)).mp t)), if_neg (by omega)]
      refine Or.inl ⟨_, _, ⟨if r < L then r else L, if H < r then r else H, z', gS2, gL2, gH2, gF2, rfl, rfl, by split <;> omega, by split <;> omega, fun z => absurd z (by omega), f2⟩, fun q => ?_, fun q => ?_⟩
      · show (if (6 : Int32) < nI (1 + k) then _ else _) = _
        rw [if_neg nk, nm_s, b1, bd2_s, p1, bd_s, f1, bd_s, jn_s, if_neg (show ¬ k + 1 = 0 by omega)]
        by_cases k0 : k = 0
        · obtain ⟨rfl, rfl⟩ := l3 k0
          rw [if_pos k0, if_pos rfl]
          simp only [nm_s, nI_1]
          have t1 : (if r < 100 then r else 100) = r := by split <;> omega
          have t2 : (if 0 < r then r else 0) = r := by split <;> omega
          rw [t1, t2]
          by_cases e : x2 = 0
          · rw [if_pos e]
            rfl
          · rw [if_neg e]
            rfl
        · rw [if_neg k0]
          by_cases e : x2 = 0
          · rw [if_pos e, if_pos e, if_neg (by rw [nI_m1 (by omega)]; exact id), if_pos e, q_lesser, bd_s, s3]
            simp only [nm_s, nI_1]
            rfl
          · rw [if_neg e, if_neg e, if_neg (by rw [nI_m1 (by omega)]; exact id), if_neg e, q_greater, bd_s, s4]
            simp only [nm_s, nI_1]
            rfl
      · show (if (6 : Int32) < nI (1 + k) then _ else _) = _
        rw [if_neg nk, k1, bd2_s, nm_s, b2, bd5_s, p2, bd_s, nm_s, nm_s, nm_s, nI_1, s1, s2]
        rfl
    · rintro _ _ ⟨L, H, y, gD', gE', gH', gF', rfl, rfl, l1, l2, l3, aS⟩
      refine ⟨_, _, ⟨_, y, nI L, nI H, (gD', gE', gH', gF'), rfl, rfl, aS, rfl⟩, fun q => ?_, fun q => ?_⟩
      · show (if (6 : Int32) < nI (1 + 6) then _ else _) = _
        rw [if_pos (by decide), if_neg (show ¬ (6 : Nat) = 0 by decide)]
      · show (if (6 : Int32) < nI (1 + 6) then _ else _) = _
        rw [if_pos (by decide)]
  exact ⟨r, z, lo, hi, p, w1, w2, w3⟩
theorem t_spanN (hO : Ok (g 1)) (hR : RS gS gL (g 1)) (h1 : ¬ 1 ≤ g 1 1) (gP gD gE gH gK gF : Pic) (x1 x2 : Int32) : ∃ v g' res, f_X12_span g x1 x2 = some (v, g') ∧ f_X11_span_n gP gS gL gD gE gH gK gF x1 x2 = some res ∧ Er g g' ∧ AnP [1] (fun _ => 1) (fun _ => True) res v (g' 0 0) := by
  rcases e_num (gP := gP) x1 (lo := 0) (hi := 60) (by omega) (by omega) with ⟨n, -, n4, rfl, c1, c2⟩ | ⟨c1, c2⟩
  · have c1 : f_X12_isIn (nI n) 0 60 = some 1 := c1
    have c2 : f_X11_needNumber gP (nI n) 0 60 = some (.inr ()) := c2
    obtain ⟨y, d1, aS⟩ := as_in (pu g 0 0 0)
    obtain ⟨r, z, lo, hi, p, b1, b2, b3, b4⟩ := e_spanN hO hR h1 n4 gP gD gE gH gK gF x2 aS
    refine ⟨r, z, .inr (r, p), ?_, ?_, (Er.z g 0).tr b3.er, Or.inl ⟨p, rfl, trivial, by rw [b3.z]; rfl⟩⟩
    · unfold f_X12_span; rw [c1]; simp only [bd_s, bd2_s, bd3_s, bd4_s, bd5_s, bd6_s, bd7_s, lr_l, lr_r, nm_s, jn_s, gdb_0, gdb_1, pz_v, if_true, if_false, eq_self, i10, i01, i20, l10, l00, l20]; rw [d1, bd_s, b1, bd_s]
    · unfold f_X11_span_n
      rw [c2, lr_r, b2, bd_s]
      show jn _ _ = _
      rw [jn_s, b4]
      by_cases e : x2 = 0
      · rw [if_pos e, if_pos e]
      · rw [if_neg e, if_neg e]
  · have c1 : f_X12_isIn x1 0 60 = some 0 := c1
    have c2 : f_X11_needNumber gP x1 0 60 = some (.inl (1, ())) := c2
    refine ⟨0, pu g 0 0 1, .inl (1, (gD, gE, gH, gF)), ?_, ?_, Er.z g 1, Or.inr ⟨1, _, rfl, by decide, trivial, rfl⟩⟩
    · unfold f_X12_span; rw [c1]; simp only [bd_s, bd2_s, bd3_s, bd4_s, bd5_s, bd6_s, bd7_s, lr_l, lr_r, nm_s, jn_s, gdb_0, gdb_1, pz_v, if_true, if_false, eq_self, i10, i01, i20, l10, l00, l20]
    · unfold f_X11_span_n; rw [c2]; simp only [bd_s, bd2_s, bd3_s, bd4_s, bd5_s, bd6_s, bd7_s, lr_l, lr_r, nm_s, jn_s, gdb_0, gdb_1, pz_v, if_true, if_false, eq_self, i10, i01, i20, l10, l00, l20]
theorem t_aheadL (hO : Ok (g 1)) (hR : RS gS gL (g 1)) (hW : LW (g 1) ln gl) (gP gD gE gH gK gF : Pic) (x1 x2 : Int32) : ∃ v g' res, f_X12_ahead g x1 x2 = some (v, g') ∧ f_X11_ahead_l ln gP gS gL gD gE gH gK gF gl x1 x2 = some res ∧ Er g g' ∧ AnP [0, 1] (fun k => if k = 0 then 1 else 2) (fun u => LW (g 1) ln u.2.2.2.2) res v (g' 0 0) := by
  rcases e_writer (gP := gP) hO hR x1 with ⟨u, hu, rfl, a1, a2⟩ | ⟨a1, a2⟩
  · rcases e_num (gP := gP) x2 (lo := 0) (hi := 60) (by omega) (by omega) with ⟨n, -, n4, rfl, c1, c2⟩ | ⟨c1, c2⟩
    · have c1 : f_X12_isIn (nI n) 0 60 = some 1 := c1
      have c2 : f_X11_needNumber gP (nI n) 0 60 = some (.inr ()) := c2
      have u5 := hO.u5 hu
      obtain ⟨y, d1, aS⟩ := as_in (pu g 0 0 0)
      obtain ⟨a, b, k1, k2⟩ := k_copy hO hR gD gE
      obtain ⟨v, z, gl', gF', gH', gS', gL', b1, b2, b3, b4, b5, b6⟩ := e_goesL (g := y) (gS := a) (gL := b) (by rw [aS.2.1]; exact hO) (by rw [aS.2.1]; exact k2) (by rw [aS.2.1]; exact hW) n4 0 gK gF gH
      obtain ⟨z', f1, f2⟩ := as_out aS (fun _ _ => rfl) (fun _ _ => rfl) b3
      have u4 : z 1 4 = g 1 4 := by rw [b3.2.2 4 (by omega), aS.2.1]; rfl
      have q3 : f_X12_of z (nI u) 3 = some (wr (z 1) u 3) := q_of u5 (by omega : 3 < 4)
      refine ⟨wr (z 1) u 3, z', .inr (_, (gS', gL', gH', gF', gl')), ?_, ?_, (Er.z g 0).tr f2.er, Or.inl ⟨_, rfl, (LW.c b6 (by rw [b3.2.2 1 (by omega), aS.2.1]; rfl) (by rw [b3.2.2 2 (by omega), aS.2.1]; rfl) (fun p hp => by rw [b3.2.2 p (by omega), aS.2.1]; rfl)), by rw [f2.z]; rfl⟩⟩
      · unfold f_X12_ahead; rw [a1]; simp only [bd_s, bd2_s, bd3_s, bd4_s, bd5_s, bd6_s, bd7_s, lr_l, lr_r, nm_s, jn_s, gdb_0, gdb_1, pz_v, if_true, if_false, eq_self, i10, i01, i20, l10, l00, l20, c1]; rw [d1, bd_s, b1, bd2_s, q3, bd_s, f1, bd_s]
      · unfold f_X11_ahead_l; rw [a2, c2]; simp only [bd_s, bd2_s, bd3_s, bd4_s, bd5_s, bd6_s, bd7_s, lr_l, lr_r, nm_s, jn_s, gdb_0, gdb_1, pz_v, if_true, if_false, eq_self, i10, i01, i20, l10, l00, l20, k1]; rw [b2, bd6_s, gdi_n u5 (by omega), nI_clamp (by omega), b5.tired (by rw [u4]; exact hu)]
    · have c1 : f_X12_isIn x2 0 60 = some 0 := c1
      have c2 : f_X11_needNumber gP x2 0 60 = some (.inl (1, ())) := c2
      refine ⟨0, pu g 0 0 2, .inl (1, (gD, gE, gH, gF, gl)), ?_, ?_, Er.z g 2, Or.inr ⟨1, _, rfl, by decide, hW, rfl⟩⟩
      · unfold f_X12_ahead; rw [a1]; simp only [bd_s, bd2_s, bd3_s, bd4_s, bd5_s, bd6_s, bd7_s, lr_l, lr_r, nm_s, jn_s, gdb_0, gdb_1, pz_v, if_true, if_false, eq_self, i10, i01, i20, l10, l00, l20, c1]
      · unfold f_X11_ahead_l; rw [a2, c2]; simp only [bd_s, bd2_s, bd3_s, bd4_s, bd5_s, bd6_s, bd7_s, lr_l, lr_r, nm_s, jn_s, gdb_0, gdb_1, pz_v, if_true, if_false, eq_self, i10, i01, i20, l10, l00, l20]
  · refine ⟨0, pu g 0 0 1, .inl (0, (gD, gE, gH, gF, gl)), ?_, ?_, Er.z g 1, Or.inr ⟨0, _, rfl, by decide, hW, rfl⟩⟩
    · unfold f_X12_ahead; rw [a1]; simp only [bd_s, bd2_s, bd3_s, bd4_s, bd5_s, bd6_s, bd7_s, lr_l, lr_r, nm_s, jn_s, gdb_0, gdb_1, pz_v, if_true, if_false, eq_self, i10, i01, i20, l10, l00, l20]
    · unfold f_X11_ahead_l; rw [a2]; simp only [bd_s, bd2_s, bd3_s, bd4_s, bd5_s, bd6_s, bd7_s, lr_l, lr_r, nm_s, jn_s, gdb_0, gdb_1, pz_v, if_true, if_false, eq_self, i10, i01, i20, l10, l00, l20]
theorem t_trialL (hO : Ok (g 1)) (hR : RS gS gL (g 1)) (hW : LW (g 1) ln gl) (gP gD gE gH gK gF : Pic) (x1 x2 : Int32) : ∃ v g' res, f_X12_trial g x1 x2 = some (v, g') ∧ f_X11_trial_l ln gP gS gL gD gE gH gK gF gl x1 x2 = some res ∧ Er g g' ∧ AnP [1] (fun _ => 1) (fun u => LW (g 1) ln u.2.2.2.2) res v (g' 0 0) := by
  rcases e_num (gP := gP) x1 (lo := 0) (hi := 60) (by omega) (by omega) with ⟨n, -, n4, rfl, c1, c2⟩ | ⟨c1, c2⟩
  · have c1 : f_X12_isIn (nI n) 0 60 = some 1 := c1
    have c2 : f_X11_needNumber gP (nI n) 0 60 = some (.inr ()) := c2
    obtain ⟨y, d1, aS⟩ := as_in (pu g 0 0 0)
    obtain ⟨a, b, k1, k2⟩ := k_copy hO hR gD gE
    obtain ⟨v, z, gl', gF', gH', gS', gL', b1, b2, b3, b4, b5, b6⟩ := e_goesL (g := y) (gS := a) (gL := b) (by rw [aS.2.1]; exact hO) (by rw [aS.2.1]; exact k2) (by rw [aS.2.1]; exact hW) n4 1 gK gF gH
    obtain ⟨z', f1, f2⟩ := as_out aS (fun _ _ => rfl) (fun _ _ => rfl) b3
    by_cases e : x2 = 0
    · obtain ⟨r, -, r1, r2⟩ := e_pagedAll (g := z) b4 b5 1
      refine ⟨nI r, z', .inr (_, (gS', gL', gH', gF', gl')), ?_, ?_, (Er.z g 0).tr f2.er, Or.inl ⟨_, rfl, (LW.c b6 (by rw [b3.2.2 1 (by omega), aS.2.1]; rfl) (by rw [b3.2.2 2 (by omega), aS.2.1]; rfl) (fun p hp => by rw [b3.2.2 p (by omega), aS.2.1]; rfl)), by rw [f2.z]; rfl⟩⟩
      · unfold f_X12_trial; rw [c1]; simp only [bd_s, bd2_s, bd3_s, bd4_s, bd5_s, bd6_s, bd7_s, lr_l, lr_r, nm_s, jn_s, gdb_0, gdb_1, pz_v, if_true, if_false, eq_self, i10, i01, i20, l10, l00, l20]; rw [d1, bd_s, b1, bd2_s, if_pos e, r1, bd_s, f1, bd_s]
      · unfold f_X11_trial_l; rw [c2]; simp only [bd_s, bd2_s, bd3_s, bd4_s, bd5_s, bd6_s, bd7_s, lr_l, lr_r, nm_s, jn_s, gdb_0, gdb_1, pz_v, if_true, if_false, eq_self, i10, i01, i20, l10, l00, l20, k1]; rw [b2, bd6_s, if_pos e, r2, bd_s]
    · obtain ⟨r, r1, r2⟩ := e_tiredAll (g := z) b4 b5
      refine ⟨r, z', .inr (_, (gS', gL', gH', gF', gl')), ?_, ?_, (Er.z g 0).tr f2.er, Or.inl ⟨_, rfl, (LW.c b6 (by rw [b3.2.2 1 (by omega), aS.2.1]; rfl) (by rw [b3.2.2 2 (by omega), aS.2.1]; rfl) (fun p hp => by rw [b3.2.2 p (by omega), aS.2.1]; rfl)), by rw [f2.z]; rfl⟩⟩
      · unfold f_X12_trial; rw [c1]; simp only [bd_s, bd2_s, bd3_s, bd4_s, bd5_s, bd6_s, bd7_s, lr_l, lr_r, nm_s, jn_s, gdb_0, gdb_1, pz_v, if_true, if_false, eq_self, i10, i01, i20, l10, l00, l20]; rw [d1, bd_s, b1, bd2_s, if_neg e, r1, bd_s, f1, bd_s]
      · unfold f_X11_trial_l; rw [c2]; simp only [bd_s, bd2_s, bd3_s, bd4_s, bd5_s, bd6_s, bd7_s, lr_l, lr_r, nm_s, jn_s, gdb_0, gdb_1, pz_v, if_true, if_false, eq_self, i10, i01, i20, l10, l00, l20, k1]; rw [b2, bd6_s, if_neg e, r2, bd_s]
  · have c1 : f_X12_isIn x1 0 60 = some 0 := c1
    have c2 : f_X11_needNumber gP x1 0 60 = some (.inl (1, ())) := c2
    refine ⟨0, pu g 0 0 1, .inl (1, (gD, gE, gH, gF, gl)), ?_, ?_, Er.z g 1, Or.inr ⟨1, _, rfl, by decide, hW, rfl⟩⟩
    · unfold f_X12_trial; rw [c1]; simp only [bd_s, bd2_s, bd3_s, bd4_s, bd5_s, bd6_s, bd7_s, lr_l, lr_r, nm_s, jn_s, gdb_0, gdb_1, pz_v, if_true, if_false, eq_self, i10, i01, i20, l10, l00, l20]
    · unfold f_X11_trial_l; rw [c2]; simp only [bd_s, bd2_s, bd3_s, bd4_s, bd5_s, bd6_s, bd7_s, lr_l, lr_r, nm_s, jn_s, gdb_0, gdb_1, pz_v, if_true, if_false, eq_self, i10, i01, i20, l10, l00, l20]
theorem e_spanL (hO : Ok (g 1)) (hR : RS gS gL (g 1)) (hW : LW (g 1) ln gl) {n : Nat} (hn : n ≤ 60) (gP gD gE gH gK gF : Pic) (x2 : Int32) {y0 : Pic} (h0 : AS (pu g 0 0 0) y0) : ∃ (r : Int32) (z : Pic) (lo hi : Int32) (p : Pic × Pic × Pic × Pic × Pic), f_X12_span_L37 (nI n) x2 fu (-1, 1, y0) = some (r, z) ∧ f_X11_span_l_L17 ln (nI n) x2 gP gS gL gK fu (100, 0, 1, gD, gE, gH, gF, gl) = some (lo, hi, p) ∧ AS (pu g 0 0 0) z ∧ r = (if x2 = 0 then lo else hi) ∧ LW (g 1) ln p.2.2.2.2 := by
  obtain ⟨a, b, w1, w2, r, z, lo, hi, p, rfl, rfl, w3⟩ : ∃ a b, f_X12_span_L37 (nI n) x2 fu (-1, 1, y0) = some a ∧ f_X11_span_l_L17 ln (nI n) x2 gP gS gL gK fu (100, 0, 1, gD, gE, gH, gF, gl) = some b ∧ ∃ (r : Int32) (z : Pic) (lo hi : Int32) (p : Pic × Pic × Pic × Pic × Pic), a = (r, z) ∧ b = (lo, hi, p) ∧ AS (pu g 0 0 0) z ∧ r = (if x2 = 0 then lo else hi) ∧ LW (g 1) ln p.2.2.2.2 := by
    refine lp_two (fun k a b => ∃ (L H : Nat) (y gD' gE' gH' gF' gl' : Pic), a = ((if k = 0 then -1 else if x2 = 0 then nI L else nI H), nI (1 + k), y) ∧ b = (nI L, nI H, nI (1 + k), gD', gE', gH', gF', gl') ∧ L ≤ 100 ∧ H ≤ 100 ∧ (k = 0 → L = 100 ∧ H = 0) ∧ AS (pu g 0 0 0) y ∧ LW (g 1) ln gl') 6 (fun (a : Int32 × Pic) (b : Int32 × Int32 × Pic × Pic × Pic × Pic × Pic) => ∃ (r : Int32) (z : Pic) (lo hi : Int32) (p : Pic × Pic × Pic × Pic × Pic), a = (r, z) ∧ b = (lo, hi, p) ∧ AS (pu g 0 0 0) z ∧ r = (if x2 = 0 then lo else hi) ∧ LW (g 1) ln p.2.2.2.2) ?_ ?_ (by have := fu_big; omega) (by have := fu_big; omega) ⟨100, 0, y0, gD, gE, gH, gF, gl, rfl, rfl, by omega, by omega, fun _ => ⟨rfl, rfl⟩, h0, hW⟩
    · rintro k hk _ _ ⟨L, H, y, gD', gE', gH', gF', gl', rfl, rfl, l1, l2, l3, aS, jW⟩
      have m1 : (pu y 1 11 (nI (1 + k))) 1 = upd (g 1) 11 (nI (1 + k)) := by show upd (y 1) 11 _ = _; rw [aS.2.1]; rfl
      obtain ⟨a, b, k1, k2⟩ := k_copy hO hR gD' gE'
      have o1 : Ok (upd (g 1) 11 (nI (1 + k))) := hO.sc (by omega) (fun z => absurd z (by omega)) (fun z => absurd z (by omega)) (fun z => absurd z (by omega)) (fun z => absurd z (by omega))
      have r1 := k2.sc (P := 11) (K := 16) (v := nI (1 + k)) hO (by omega)
      obtain ⟨v, z, gl2, gF2, gH2, gS2, gL2, b1, b2, b3, b4, b5, b6⟩ := e_goesL (g := (pu y 1 11 (nI (1 + k)))) (gS := pu a 16 0 (nI (1 + k))) (gL := b) (by rw [m1]; exact o1) (by rw [m1]; exact r1) (by rw [m1]; exact LW.c jW rfl rfl (fun p hp => by show (if p = 11 then _ else _) = _; rw [if_neg (by omega)])) hn 1 gK gF' gH'
      obtain ⟨z', f1, f2⟩ := as_out (y1 := (pu y 1 11 (nI (1 + k)))) aS (fun j hj => by rw [pu_row, if_neg hj]) (fun p hp => by show (if p = 11 then _ else _) = _; rw [if_neg (by omega)]) b3
      obtain ⟨r, r100, p1, p2⟩ := e_pagedAll (g := z) b4 b5 2
      have nk : ¬ (6 : Int32) < nI (1 + k) := by rw [li_6, nI_ltI (by omega) (by omega)]; omega
      have s1 : (if nI r < nI L then nI r else nI L) = nI (if r < L then r else L) := by
        by_cases q : r < L
        · rw [if_pos q, if_pos ((nI_ltI (by omega) (by omega)).mpr q)]
        · rw [if_neg q, if_neg (fun t => q ((nI_ltI (by omega) (by omega)).mp t))]
      have s2 : (if nI H < nI r then nI r else nI H) = nI (if H < r then r else H) := by
        by_cases q : H < r
        · rw [if_pos q, if_pos ((nI_ltI (by omega) (by omega)).mpr q)]
        · rw [if_neg q, if_neg (fun t => q ((nI_ltI (by omega) (by omega)).mp t))]
      have s3 : (if nI r ≤ nI L then nI r else nI L) = nI (if r < L then r else L) := by
        by_cases q : r ≤ L
        · rw [if_pos ((nI_leI (by omega) (by omega)).mpr q)]
          exact congrArg nI (by split <;> omega)
        · rw [if_neg (fun t => q ((nI_leI (by omega) (by omega)).mp t)), if_neg (by omega)]
      have s4 : (if nI H ≤ nI r then nI r else nI H) = nI (if H < r then r else H) := by
        by_cases q : H ≤ r
        · rw [if_pos ((nI_leI (by omega) (by omega)).mpr q)]
          exact congrArg nI (by split <;> omega)
        · rw [if_neg (fun t => q ((nI_leI (by omega) (by omega)).mp t)), if_neg (by omega)]
      refine Or.inl ⟨_, _, ⟨if r < L then r else L, if H < r then r else H, z', gS2, gL2, gH2, gF2, gl2, rfl, rfl, by split <;> omega, by split <;> omega, fun z => absurd z (by omega), f2, LW.c b6 (by rw [b3.2.2 1 (by omega), m1]; rfl) (by rw [b3.2.2 2 (by omega), m1]; rfl) (fun p hp => by rw [b3.2.2 p (by omega), m1]; show _ = (if p = 11 then _ else _); rw [if_neg (by omega)])⟩, fun q => ?_, fun q => ?_⟩
      · show (if (6 : Int32) < nI (1 + k) then _ else _) = _
        rw [if_neg nk, nm_s, b1, bd2_s, p1, bd_s, f1, bd_s, jn_s, if_neg (show ¬ k + 1 = 0 by omega)]
        by_cases k0 : k = 0
        · obtain ⟨rfl, rfl⟩ := l3 k0
          rw [if_pos k0, if_pos rfl]
          simp only [nm_s, nI_1]
          have t1 : (if r < 100 then r else 100) = r := by split <;> omega
          have t2 : (if 0 < r then r else 0) = r := by split <;> omega
          rw [t1, t2]
          by_cases e : x2 = 0
          · rw [if_pos e]
            rfl
          · rw [if_neg e]
            rfl
        · rw [if_neg k0]
          by_cases e : x2 = 0
          · rw [if_pos e, if_pos e, if_neg (by rw [nI_m1 (by omega)]; exact id), if_pos e, q_lesser, bd_s, s3]
            simp only [nm_s, nI_1]
            rfl
          · rw [if_neg e, if_neg e, if_neg (by rw [nI_m1 (by omega)]; exact id), if_neg e, q_greater, bd_s, s4]
            simp only [nm_s, nI_1]
            rfl
      · show (if (6 : Int32) < nI (1 + k) then _ else _) = _
        rw [if_neg nk, k1, bd2_s, nm_s, b2, bd6_s, p2, bd_s, nm_s, nm_s, nm_s, nI_1, s1, s2]
        rfl
    · rintro _ _ ⟨L, H, y, gD', gE', gH', gF', gl', rfl, rfl, l1, l2, l3, aS, jW⟩
      refine ⟨_, _, ⟨_, y, nI L, nI H, (gD', gE', gH', gF', gl'), rfl, rfl, aS, rfl, jW⟩, fun q => ?_, fun q => ?_⟩
      · show (if (6 : Int32) < nI (1 + 6) then _ else _) = _
        rw [if_pos (by decide), if_neg (show ¬ (6 : Nat) = 0 by decide)]
      · show (if (6 : Int32) < nI (1 + 6) then _ else _) = _
        rw [if_pos (by decide)]
  exact ⟨r, z, lo, hi, p, w1, w2, w3⟩
theorem t_spanL (hO : Ok (g 1)) (hR : RS gS gL (g 1)) (hW : LW (g 1) ln gl) (gP gD gE gH gK gF : Pic) (x1 x2 : Int32) : ∃ v g' res, f_X12_span g x1 x2 = some (v, g') ∧ f_X11_span_l ln gP gS gL gD gE gH gK gF gl x1 x2 = some res ∧ Er g g' ∧ AnP [1] (fun _ => 1) (fun u => LW (g 1) ln u.2.2.2.2) res v (g' 0 0) := by
  rcases e_num (gP := gP) x1 (lo := 0) (hi := 60) (by omega) (by omega) with ⟨n, -, n4, rfl, c1, c2⟩ | ⟨c1, c2⟩
  · have c1 : f_X12_isIn (nI n) 0 60 = some 1 := c1
    have c2 : f_X11_needNumber gP (nI n) 0 60 = some (.inr ()) := c2
    obtain ⟨y, d1, aS⟩ := as_in (pu g 0 0 0)
    obtain ⟨r, z, lo, hi, p, b1, b2, b3, b4, b5⟩ := e_spanL hO hR hW n4 gP gD gE gH gK gF x2 aS
    refine ⟨r, z, .inr (r, p), ?_, ?_, (Er.z g 0).tr b3.er, Or.inl ⟨p, rfl, b5, by rw [b3.z]; rfl⟩⟩
    · unfold f_X12_span; rw [c1]; simp only [bd_s, bd2_s, bd3_s, bd4_s, bd5_s, bd6_s, bd7_s, lr_l, lr_r, nm_s, jn_s, gdb_0, gdb_1, pz_v, if_true, if_false, eq_self, i10, i01, i20, l10, l00, l20]; rw [d1, bd_s, b1, bd_s]
    · unfold f_X11_span_l
      rw [c2, lr_r, b2, bd_s]
      show jn _ _ = _
      rw [jn_s, b4]
      by_cases e : x2 = 0
      · rw [if_pos e, if_pos e]
      · rw [if_neg e, if_neg e]
  · have c1 : f_X12_isIn x1 0 60 = some 0 := c1
    have c2 : f_X11_needNumber gP x1 0 60 = some (.inl (1, ())) := c2
    refine ⟨0, pu g 0 0 1, .inl (1, (gD, gE, gH, gF, gl)), ?_, ?_, Er.z g 1, Or.inr ⟨1, _, rfl, by decide, hW, rfl⟩⟩
    · unfold f_X12_span; rw [c1]; simp only [bd_s, bd2_s, bd3_s, bd4_s, bd5_s, bd6_s, bd7_s, lr_l, lr_r, nm_s, jn_s, gdb_0, gdb_1, pz_v, if_true, if_false, eq_self, i10, i01, i20, l10, l00, l20]
    · unfold f_X11_span_l; rw [c2]; simp only [bd_s, bd2_s, bd3_s, bd4_s, bd5_s, bd6_s, bd7_s, lr_l, lr_r, nm_s, jn_s, gdb_0, gdb_1, pz_v, if_true, if_false, eq_self, i10, i01, i20, l10, l00, l20]
end K65
