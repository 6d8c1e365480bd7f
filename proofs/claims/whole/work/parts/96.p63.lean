/-! pairs, the log, numbers told, the tape fed -/
section K63
variable {m : Nat → Int32} {g gP gS gL gT gK gH gC : Pic}
theorem pw_g : ∀ U, U < 6 → ((1 : Int32) <<< (nI U &&& 31)) - 1 = nI (2 ^ U - 1) := by decide +kernel
theorem t_pairs (hO : Ok (g 1)) (hR : RS gS gL (g 1)) (gP gH gC : Pic) (x1 : Int32) : ∃ v g' res, f_X12_pairs g x1 = some (v, g') ∧ f_X11_pairs gP gS gH gC x1 = some res ∧ Er g g' ∧ An [0] (fun _ => 1) res v (g' 0 0) := by
  obtain ⟨U, hU, tU, -, u5⟩ := hO.U.ex
  obtain ⟨p1, p2, p3⟩ := pw_f U (by omega)
  have p4 := pw_g U (by omega)
  obtain ⟨g', x', a1, a2, a3, a4⟩ := e_best (g := pu g 0 0 0) (m := g 1) rfl hO hR gC gH
  rw [tU] at a3 a4
  have hm : g' 1 4 = nI U := by rw [a2.m]; exact hU
  have e0 : g' 0 0 = 0 := by rw [a2.z]; rfl
  by_cases y : x1 = -1
  · subst y
    obtain ⟨v, v1, v2, v3⟩ := a3 (2 ^ U - 1) (by omega)
    refine ⟨nI v, g', .inr (nI v, x'), ?_, ?_, (Er.z g 0).tr a2.er, Or.inl ⟨_, rfl, e0⟩⟩
    · unfold f_X12_pairs
      simp only [bd_s, bd2_s, bd3_s, bd4_s, bd5_s, bd6_s, bd7_s, lr_l, lr_r, nm_s, jn_s, gdb_0, gdb_1, pz_v, if_true, if_false, eq_self, i10, i01, i20, l10, l00, l20]
      rw [a1, bd_s, hm, p4, gdi_n (by omega) (by omega), nI_clamp (by omega), v2]
    · unfold f_X11_pairs
      simp only [bd_s, bd2_s, bd3_s, bd4_s, bd5_s, bd6_s, bd7_s, lr_l, lr_r, nm_s, jn_s, gdb_0, gdb_1, pz_v, if_true, if_false, eq_self, i10, i01, i20, l10, l00, l20]
      rw [a4, bd2_s, v3]
  · rcases e_writer (gP := gP) hO hR x1 with ⟨u, hu, rfl, b1, b2⟩ | ⟨b1, b2⟩
    · rw [tU] at hu
      have hT : ∀ t, t < 2 ^ U → g' 23 t = nI (tn (g' 23 t)) ∧ tn (g' 23 t) ≤ 8 * t ∧ x' 3 t = nI (tn (g' 23 t)) := fun t ht => by
        obtain ⟨v, v1, v2, v3⟩ := a3 t ht
        rw [v2, tn_n (by omega)]
        exact ⟨rfl, v1, v3⟩
      obtain ⟨x2, c1, -, c3⟩ := e_part (g := g') (m := g 1) a2.m hO hR (T := fun t => tn (g' 23 t)) hU u5 (fun t ht => (hT t ht).1) (fun t ht => (hT t ht).2.1) gH hu (nI u) U 0 (2 ^ U - 1) (pr_ x' 4 (fl 5 (-1) (x' 4))) (by omega) (by omega) (fun i hi => absurd hi (Nat.not_lt_zero i)) (fun t ht => (hT t ht).2.2) fu (by have := fu_big; omega) fu (by have := fu_big; omega)
      have c3 := c3 (full_f U (by omega) u (by omega) hu) (by show fl 5 (-1) (x' 4) u = -1; unfold fl; rw [if_pos (by omega)])
      refine ⟨x2 4 u, g', .inr (x2 4 u, x2), ?_, ?_, (Er.z g 0).tr a2.er, Or.inl ⟨_, rfl, e0⟩⟩
      · unfold f_X12_pairs
        rw [b1]
        simp only [bd_s, bd2_s, bd3_s, bd4_s, bd5_s, bd6_s, bd7_s, lr_l, lr_r, nm_s, jn_s, gdb_0, gdb_1, pz_v, if_true, if_false, eq_self, i10, i01, i20, l10, l00, l20, y]
        rw [a1, bd_s, hm, p4, c3, lr_l]
      · unfold f_X11_pairs
        rw [b2]
        simp only [bd_s, bd2_s, bd3_s, bd4_s, bd5_s, bd6_s, bd7_s, lr_l, lr_r, nm_s, jn_s, gdb_0, gdb_1, pz_v, if_true, if_false, eq_self, i10, i01, i20, l10, l00, l20, y]
        rw [a4, bd2_s]
        unfold f_X8_partnerOf
        rw [nm_s, nm_s, hR.U, hU, p4, show f_X8_partnerOf_L22 (nI u) gH gS fu (nI (2 ^ U - 1), 0, _) = _ from c1, bd_s, gdi_n (by omega) (by omega), nI_clamp (by omega), bd2_s]
    · refine ⟨0, pu g 0 0 1, .inl (0, gC), ?_, ?_, Er.z g 1, Or.inr ⟨0, _, rfl, by decide, rfl⟩⟩
      · unfold f_X12_pairs; rw [b1]; simp only [bd_s, bd2_s, bd3_s, bd4_s, bd5_s, bd6_s, bd7_s, lr_l, lr_r, nm_s, jn_s, gdb_0, gdb_1, pz_v, if_true, if_false, eq_self, i10, i01, i20, l10, l00, l20, y]
      · unfold f_X11_pairs; rw [b2]; simp only [bd_s, bd2_s, bd3_s, bd4_s, bd5_s, bd6_s, bd7_s, lr_l, lr_r, nm_s, jn_s, gdb_0, gdb_1, pz_v, if_true, if_false, eq_self, i10, i01, i20, l10, l00, l20, y]
/-! the log -/
theorem q_logged {a c : Nat} (ha : a < 60) (hc : c < 4) : f_X12_logged g (nI a) (nI c) = some (g 1 (216 + 4 * a + c)) := by
  unfold f_X12_logged
  rw [show (216 + 4 * nI a) + nI c = nI (216 + 4 * a + c) from by rw [li_216, li_4, nI_mul, nI_add, nI_add], gdi_n (by omega) (by omega), nI_clamp (by omega)]
def ldU (m : Nat → Int32) (x : Int32) : Nat → Nat
  | 0 => 0
  | k + 1 => ldU m x k + (if m (216 + 4 * k + 1) = x then 1 else 0)
def ldD (m : Nat → Int32) (x : Int32) (G : Nat) : Nat → Nat
  | 0 => 0
  | j + 1 => ldD m x G j + (if m (216 + 4 * (G - (j + 1)) + 1) = x then 1 else 0)
def ldL (m : Nat → Int32) (x : Int32) (G : Nat) : Nat → Int32
  | 0 => -1
  | j + 1 => if m (216 + 4 * (G - (j + 1)) + 1) = x then m (216 + 4 * (G - (j + 1))) else ldL m x G j
theorem ldU_s (m : Nat → Int32) (x : Int32) (k : Nat) : ldU m x (k + 1) = ldU m x k + (if m (216 + 4 * k + 1) = x then 1 else 0) := rfl
theorem ldD_s (m : Nat → Int32) (x : Int32) (G j : Nat) : ldD m x G (j + 1) = ldD m x G j + (if m (216 + 4 * (G - (j + 1)) + 1) = x then 1 else 0) := rfl
theorem ldL_s (m : Nat → Int32) (x : Int32) (G j : Nat) : ldL m x G (j + 1) = if m (216 + 4 * (G - (j + 1)) + 1) = x then m (216 + 4 * (G - (j + 1))) else ldL m x G j := rfl
theorem ld_le (m : Nat → Int32) (x : Int32) (k : Nat) : ldU m x k ≤ k := by
  induction k with
  | zero => exact Nat.le_refl _
  | succ k ih => unfold ldU; split <;> omega
theorem ld_leD (m : Nat → Int32) (x : Int32) (G k : Nat) : ldD m x G k ≤ k := by
  induction k with
  | zero => exact Nat.le_refl _
  | succ k ih => unfold ldD; split <;> omega
theorem ld_eq (m : Nat → Int32) (x : Int32) (G j : Nat) (h : j ≤ G) : ldU m x (G - j) + ldD m x G j = ldU m x G := by
  induction j with
  | zero => rfl
  | succ j ih =>
    have e : G - j = (G - (j + 1)) + 1 := by omega
    have h1 := ih (by omega)
    rw [e] at h1
    unfold ldD
    rw [← h1]
    show _ = ldU m x (G - (j + 1)) + (if m (216 + 4 * (G - (j + 1)) + 1) = x then 1 else 0) + ldD m x G j
    omega
theorem q_ledL {G : Nat} (hG : G ≤ 60) (x1 x2 : Int32) : f_X12_led_L42 x1 x2 g fu (0, -1, nI G - 1) = some (nI (ldD (g 1) x1 G G), ldL (g 1) x1 G G) := by
  refine lp_seq (fun j => (nI (ldD (g 1) x1 G j), ldL (g 1) x1 G j, nI (G - j) - 1)) G _ (fun k hk r => ?_) (fun r => ?_) (by have := fu_big; omega) rfl
  · have e1 : nI (G - k) - 1 = nI (G - (k + 1)) := by rw [show (1 : Int32) = nI 1 from rfl, nI_sub (by omega)]; congr 1
    have e2 : nI (G - (k + 1)) + -1 = nI (G - (k + 1)) - 1 := (Int32.sub_eq_add_neg _ _).symm
    have l1 : f_X12_logged g (nI (G - (k + 1))) 1 = some (g 1 (216 + 4 * (G - (k + 1)) + 1)) := q_logged (c := 1) (by omega) (by omega)
    have l0 : f_X12_logged g (nI (G - (k + 1))) 0 = some (g 1 (216 + 4 * (G - (k + 1)) + 0)) := q_logged (c := 0) (by omega) (by omega)
    show (if (nI (G - k) - 1) < 0 then _ else _) = _
    rw [e1, if_neg (nI_pos (by omega)), l1, bd_s, jn_s]
    by_cases c : g 1 (216 + 4 * (G - (k + 1)) + 1) = x1
    · rw [if_pos c, nm_s, l0, bd_s]
      simp only [nm_s, e2, nI_1]
      rw [ldD_s, ldL_s, if_pos c, if_pos c]
      rfl
    · rw [if_neg c]
      simp only [nm_s, e2]
      rw [ldD_s, ldL_s, if_neg c, if_neg c]
      rfl
  · show (if (nI (G - G) - 1) < 0 then _ else _) = _
    rw [Nat.sub_self, if_pos (by decide)]
theorem k_rowsOf (hO : Ok m) (hR : RS gS gL m) {G : Nat} (hG : m 10 = nI G) (h60 : G ≤ 60) (x : Int32) : f_X7_rowsOf gL x = some (nI (ldU m x G)) := by
  unfold f_X7_rowsOf
  rw [show f_X7_rowsOf_L4 x gL fu (0, 0) = some (nI (ldU m x G)) from ?_, bd_s]
  have tG : tn (m 10) = G := by rw [hG, tn_n (by omega)]
  refine lp_seq (fun k => (nI (ldU m x k), nI k)) G _ (fun k hk r => ?_) (fun r => ?_) (by have := fu_big; omega) rfl
  · have t1 : f_X7_tell gL (nI k) 1 = some (m (216 + 4 * k + 1)) := k_tell hO hR (c := 1) (by omega) (by omega)
    show (if gL 1 0 ≤ nI k then _ else _) = _
    rw [hR.G, hG, if_neg (by rw [nI_leI (by omega) (by omega)]; omega), t1, bd_s, jn_s]
    by_cases c : m (216 + 4 * k + 1) = x
    · rw [if_pos c]
      simp only [nm_s, nI_1]
      rw [ldU_s, if_pos c]
    · rw [if_neg c]
      simp only [nm_s, nI_1]
      rw [ldU_s, if_neg c]
      rfl
  · show (if gL 1 0 ≤ nI G then _ else _) = _
    rw [hR.G, hG, if_pos (Int32.le_refl _)]
theorem k_latest (hO : Ok m) (hR : RS gS gL m) {G : Nat} (hG : m 10 = nI G) (h60 : G ≤ 60) (x : Int32) : f_X7_latestOf gL x = some (ldL m x G G) := by
  have tG : tn (m 10) = G := by rw [hG, tn_n (by omega)]
  have H : ∃ c, f_X7_latestOf_L2 x gL fu 0 = some c ∧ (c = .inl (ldL m x G G) ∨ (c = .inr () ∧ ldL m x G G = -1)) := by
    refine lp_inv (fun k (s : Int32) => s = nI k ∧ ldL m x G G = ldL m x G (G - k)) G (fun c : Int32 ⊕ Unit => c = .inl (ldL m x G G) ∨ (c = .inr () ∧ ldL m x G G = -1)) ?_ ?_ (by have := fu_big; omega) ⟨rfl, rfl⟩
    · rintro k hk _ ⟨rfl, e⟩
      have t1 : f_X7_tell gL (nI k) 1 = some (m (216 + 4 * k + 1)) := k_tell hO hR (c := 1) (by omega) (by omega)
      have t0 : f_X7_tell gL (nI k) 0 = some (m (216 + 4 * k + 0)) := k_tell hO hR (c := 0) (by omega) (by omega)
      have e1 : G - k = (G - (k + 1)) + 1 := by omega
      have e2 : G - (G - (k + 1) + 1) = k := by omega
      rw [e1] at e
      unfold ldL at e
      rw [e2] at e
      by_cases c : m (216 + 4 * k + 1) = x
      · rw [if_pos c] at e
        refine Or.inr ⟨.inl (ldL m x G G), Or.inl rfl, fun r => ?_⟩
        show (if gL 1 0 ≤ nI k then _ else _) = _
        rw [hR.G, hG, if_neg (by rw [nI_leI (by omega) (by omega)]; omega), t1, bd_s, if_pos c, t0, bd_s]
        show some (Sum.inl (m (216 + 4 * k))) = _
        rw [← e]
        conv => rhs; unfold ldL
      · rw [if_neg c] at e
        refine Or.inl ⟨nI (k + 1), ⟨rfl, ?_⟩, fun r => ?_⟩
        · rw [← e]
          conv => lhs; unfold ldL
        · show (if gL 1 0 ≤ nI k then _ else _) = _
          rw [hR.G, hG, if_neg (by rw [nI_leI (by omega) (by omega)]; omega), t1, bd_s, if_neg c, nm_s, nI_1]
    · rintro _ ⟨rfl, e⟩
      rw [Nat.sub_self] at e
      refine ⟨.inr (), Or.inr ⟨rfl, e⟩, fun r => ?_⟩
      show (if gL 1 0 ≤ nI G then _ else _) = _
      rw [hR.G, hG, if_pos (Int32.le_refl _)]
  obtain ⟨c, h1, h2⟩ := H
  unfold f_X7_latestOf
  rw [h1]
  rcases h2 with rfl | ⟨rfl, h⟩
  · rfl
  · rw [h]; rfl
theorem t_led (hO : Ok (g 1)) (hR : RS gS gL (g 1)) (gP : Pic) (x1 x2 : Int32) : ∃ v g' res, f_X12_led g x1 x2 = some (v, g') ∧ f_X11_led gP gS gL x1 x2 = some res ∧ Er g g' ∧ An [0] (fun _ => 1) res v (g' 0 0) := by
  obtain ⟨G, hG, tG, -, g60⟩ := hO.G.ex
  rcases e_writer (gP := gP) hO hR x1 with ⟨u, hu, rfl, a1, a2⟩ | ⟨a1, a2⟩
  · have q := q_ledL (g := pu g 0 0 0) g60 (nI u) x2
    have hG' : (pu g 0 0 0) 1 10 = nI G := hG
    have e := ld_eq (g 1) (nI u) G G (Nat.le_refl _)
    rw [Nat.sub_self] at e
    have e : ldD (g 1) (nI u) G G = ldU (g 1) (nI u) G := by rw [← e]; show _ = 0 + _; omega
    have k1 := k_rowsOf hO hR hG g60 (nI u)
    have k2 := k_latest hO hR hG g60 (nI u)
    by_cases z : x2 = 0
    · subst z
      refine ⟨nI (ldU (g 1) (nI u) G), pu g 0 0 0, .inr (nI (ldU (g 1) (nI u) G), ()), ?_, ?_, Er.z g 0, Or.inl ⟨(), rfl, rfl⟩⟩
      · unfold f_X12_led; rw [a1]; simp only [bd_s, bd2_s, bd3_s, bd4_s, bd5_s, bd6_s, bd7_s, lr_l, lr_r, nm_s, jn_s, gdb_0, gdb_1, pz_v, if_true, if_false, eq_self, i10, i01, i20, l10, l00, l20]; rw [hG', q, bd_s, ← e]; rfl
      · unfold f_X11_led; rw [a2]; simp only [bd_s, bd2_s, bd3_s, bd4_s, bd5_s, bd6_s, bd7_s, lr_l, lr_r, nm_s, jn_s, gdb_0, gdb_1, pz_v, if_true, if_false, eq_self, i10, i01, i20, l10, l00, l20, k1]
    · refine ⟨ldL (g 1) (nI u) G G, pu g 0 0 0, .inr (ldL (g 1) (nI u) G G, ()), ?_, ?_, Er.z g 0, Or.inl ⟨(), rfl, rfl⟩⟩
      · unfold f_X12_led; rw [a1]; simp only [bd_s, bd2_s, bd3_s, bd4_s, bd5_s, bd6_s, bd7_s, lr_l, lr_r, nm_s, jn_s, gdb_0, gdb_1, pz_v, if_true, if_false, eq_self, i10, i01, i20, l10, l00, l20, z]; rw [hG', q, bd_s]; rfl
      · unfold f_X11_led; rw [a2]; simp only [bd_s, bd2_s, bd3_s, bd4_s, bd5_s, bd6_s, bd7_s, lr_l, lr_r, nm_s, jn_s, gdb_0, gdb_1, pz_v, if_true, if_false, eq_self, i10, i01, i20, l10, l00, l20, z, k2]
  · refine ⟨0, pu g 0 0 1, .inl (0, ()), ?_, ?_, Er.z g 1, Or.inr ⟨0, (), rfl, by decide, rfl⟩⟩
    · unfold f_X12_led; rw [a1]; simp only [bd_s, bd2_s, bd3_s, bd4_s, bd5_s, bd6_s, bd7_s, lr_l, lr_r, nm_s, jn_s, gdb_0, gdb_1, pz_v, if_true, if_false, eq_self, i10, i01, i20, l10, l00, l20]
    · unfold f_X11_led; rw [a2]; simp only [bd_s, bd2_s, bd3_s, bd4_s, bd5_s, bd6_s, bd7_s, lr_l, lr_r, nm_s, jn_s, gdb_0, gdb_1, pz_v, if_true, if_false, eq_self, i10, i01, i20, l10, l00, l20]
theorem t_log (hO : Ok (g 1)) (hR : RS gS gL (g 1)) (gP : Pic) (x1 x2 : Int32) : ∃ v g' res, f_X12_log g x1 x2 = some (v, g') ∧ f_X11_log gP gS gL x1 x2 = some res ∧ Er g g' ∧ An [2] (fun _ => 1) res v (g' 0 0) := by
  obtain ⟨G, hG, tG, -, g60⟩ := hO.G.ex
  have hG' : (pu g 0 0 0) 1 10 = nI G := hG
  rcases below (x := x2) (W := 4) (by omega) with ⟨c, hc, rfl⟩ | q
  · have c1 : f_X12_isIn (nI c) 0 3 = some 1 := in_1 (W := 4) (by omega) hc
    have c2 : ¬ nI c < 0 := nI_pos (by omega)
    have c3 : nI c < 4 := nI_lt (b := 4) hc (by omega)
    rcases below (x := x1) (W := G) (by omega) with ⟨a, ha, rfl⟩ | q
    · refine ⟨g 1 (216 + 4 * a + c), pu g 0 0 0, .inr (_, ()), ?_, ?_, Er.z g 0, Or.inl ⟨(), rfl, rfl⟩⟩
      · unfold f_X12_log; rw [c1]; simp only [bd_s, bd2_s, bd3_s, bd4_s, bd5_s, bd6_s, bd7_s, lr_l, lr_r, nm_s, jn_s, gdb_0, gdb_1, pz_v, if_true, if_false, eq_self, i10, i01, i20, l10, l00, l20]; rw [hG', in_1 (by omega) ha, bd_s, if_neg (show ¬ (1 : Int32) = 0 by decide), q_logged (by omega) hc]; rfl
      · unfold f_X11_log; simp only [bd_s, bd2_s, bd3_s, bd4_s, bd5_s, bd6_s, bd7_s, lr_l, lr_r, nm_s, jn_s, gdb_0, gdb_1, pz_v, if_true, if_false, eq_self, i10, i01, i20, l10, l00, l20, c2, c3]; rw [k_tell hO hR (by omega) hc]; rfl
    · refine ⟨-1, pu g 0 0 0, .inr (_, ()), ?_, ?_, Er.z g 0, Or.inl ⟨(), rfl, rfl⟩⟩
      · unfold f_X12_log; rw [c1]; simp only [bd_s, bd2_s, bd3_s, bd4_s, bd5_s, bd6_s, bd7_s, lr_l, lr_r, nm_s, jn_s, gdb_0, gdb_1, pz_v, if_true, if_false, eq_self, i10, i01, i20, l10, l00, l20]; rw [hG', in_0 (by omega) q, bd_s, if_pos rfl]
      · unfold f_X11_log; simp only [bd_s, bd2_s, bd3_s, bd4_s, bd5_s, bd6_s, bd7_s, lr_l, lr_r, nm_s, jn_s, gdb_0, gdb_1, pz_v, if_true, if_false, eq_self, i10, i01, i20, l10, l00, l20, c2, c3]
        unfold f_X7_tell
        rw [jn_s, jn_s, hR.G, hG]
        by_cases z : x1 < 0
        · rw [if_pos z]; rfl
        · rw [if_neg z, if_neg (q.resolve_left z)]; rfl
  · have c1 : f_X12_isIn x2 0 3 = some 0 := in_0 (W := 4) (by omega) q
    refine ⟨0, pu g 0 0 1, .inl (2, ()), ?_, ?_, Er.z g 1, Or.inr ⟨2, (), rfl, by decide, rfl⟩⟩
    · unfold f_X12_log; rw [c1]; simp only [bd_s, bd2_s, bd3_s, bd4_s, bd5_s, bd6_s, bd7_s, lr_l, lr_r, nm_s, jn_s, gdb_0, gdb_1, pz_v, if_true, if_false, eq_self, i10, i01, i20, l10, l00, l20]
    · unfold f_X11_log
      rw [jn_s]
      by_cases z : x2 < 0
      · rw [if_pos z]
      · rw [if_neg z, if_neg (show ¬ x2 < 4 from q.resolve_left z)]
theorem t_seed (hO : Ok (g 1)) (hR : RS gS gL (g 1)) (gP : Pic) (x1 : Int32) : f_X12_seed g x1 = some (g 1 11, pu (pu g 0 0 0) 1 11 x1) ∧ f_X11_seed gP gS x1 = some (g 1 11, pu gS 16 0 x1) := ⟨rfl, by unfold f_X11_seed; rw [nm_s, nm_s, hR.seed]⟩
end K63
