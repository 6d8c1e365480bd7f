/-! the acts one by one -/
def AC (g rm gL g' gS' : Pic) : Prop := (∀ i, i ≠ 1 → g' i = rm i) ∧ Ok (g' 1) ∧ RS gS' gL (g' 1) ∧ g' 1 1 = g 1 1 ∧ g' 1 2 = g 1 2 ∧ ∀ p, 456 ≤ p → g' 1 p = g 1 p
/-- how an act ends -/
def AE (ks : List Nat) (cd : Nat → Int32) (g rm gP gS gL : Pic) (v : Int32) (g' : Pic) (res : (Nat × (Pic × Pic)) ⊕ (Int32 × (Pic × Pic))) : Prop := (∃ gS', res = .inr (v, (fRem2 (fRem1 gP), gS')) ∧ g' 0 0 = 0 ∧ AC g rm gL g' gS') ∨ ∃ k, k ∈ ks ∧ res = .inl (k, (gP, gS)) ∧ g' = pu g 0 0 (cd k)
section K67
variable {m : Nat → Int32} {g g' gP gS gL gT rm : Pic} {w u : Nat} {v : Int32}
theorem Ok.of_ (h : Ok m) (hw : w < tn (m 3)) (hv : Bn v 1 99) : Ok (upd m (12 + 8 * w + 7) v) := by
  have w8 := h.W.2.2
  have u5 := h.U.2.2
  have s20 := h.S.2.2
  refine ⟨by rw [upd_o (by omega)]; exact h.texts, by rw [upd_o (by omega)]; exact h.W, by rw [upd_o (by omega)]; exact h.U, by rw [upd_o (by omega)]; exact h.S, by rw [upd_o (by omega), upd_o (by omega)]; exact h.D, by rw [upd_o (by omega)]; exact h.T, by rw [upd_o (by omega)]; exact h.slip, by rw [upd_o (by omega)]; exact h.minute, by rw [upd_o (by omega)]; exact h.G, ?_, h.p_.c s20 (upd_o (by omega)) (upd_o (by omega)) (fun p a b => upd_o (by omega)), h.u_.c u5 (upd_o (by omega)) (fun p a b => upd_o (by omega))⟩
  intro w' hw'
  rw [upd_o (by omega)] at hw'
  obtain ⟨q1, q2, q3, q4⟩ := h.w_ w' hw'
  have e : ∀ k, k < 7 → wd (upd m (12 + 8 * w + 7) v) w' k = wd m w' k := fun k hk => by unfold wd; exact upd_o (by omega)
  have t6 := q1.2.2
  rw [e 6 (by omega)]
  refine ⟨q1, ?_, fun k hk => by rw [e k (by omega)]; exact q3 k hk, fun k h1 h2 => by rw [e k (by omega)]; exact q4 k h1 h2⟩
  unfold wd
  by_cases z : 12 + 8 * w' + 7 = 12 + 8 * w + 7
  · rw [z, upd_s]; exact hv
  · rw [upd_o z]; exact q2
theorem RS.of_ (h : RS gS gL m) (hO : Ok m) (hw : w < tn (m 3)) (v : Int32) : RS (pu gS 3 w v) gL (upd m (12 + 8 * w + 7) v) := by
  have w8 := hO.W.2.2
  have u5 := hO.U.2.2
  have s20 := hO.S.2.2
  have g60 := hO.G.2.2
  refine ⟨by rw [pu_o (by omega), upd_o (by omega)]; exact h.W, by rw [pu_o (by omega), upd_o (by omega)]; exact h.S, by rw [pu_o (by omega), upd_o (by omega)]; exact h.D, by rw [pu_o (by omega), upd_o (by omega)]; exact h.U, by rw [pu_o (by omega), upd_o (by omega)]; exact h.T, by rw [pu_o (by omega), upd_o (by omega)]; exact h.slip, by rw [pu_o (by omega), upd_o (by omega)]; exact h.minute, by rw [pu_o (by omega), upd_o (by omega)]; exact h.seed, by rw [pu_o (by omega), upd_o (by omega)]; exact h.texts, ?_, h.p_.c s20 (upd_o (by omega)) (fun p a b => upd_o (by omega)) (pu_o (by omega)), h.u_.c u5 (upd_o (by omega)) (fun p a b => upd_o (by omega)) (pu_o (by omega)) (pu_o (by omega)) (pu_o (by omega)) (pu_o (by omega)) (pu_o (by omega)), h.l_.c g60 (upd_o (by omega)) (fun p a b => upd_o (by omega))⟩
  intro w' hw'
  rw [upd_o (by omega)] at hw'
  obtain ⟨q1, q2, q3⟩ := h.w_ w' hw'
  have t6 := (hO.len hw').2.2
  have e : ∀ k, k < 7 → wd (upd m (12 + 8 * w + 7) v) w' k = wd m w' k := fun k hk => by unfold wd; exact upd_o (by omega)
  rw [e 6 (by omega)]
  refine ⟨by rw [pu_o (by omega)]; exact q1, ?_, fun k hk => by rw [pu_o (by omega), e k (by omega)]; exact q3 k hk⟩
  rw [pu_s]
  unfold wd
  by_cases z : w' = w
  · rw [z, if_pos rfl, upd_s]
  · rw [if_neg z, upd_o (by omega)]; exact q2
theorem q_sets (hr : f_X12_remembers (pu g 0 0 0) = some rm) (r1 : ∀ i, i ≠ 5 → i ≠ 6 → rm i = (pu g 0 0 0) i) {P : Nat} (hP : P < 856) (v : Int32) : f_X12_sets (pu g 0 0 0) (nI P) v = some (g 1 P, pu rm 1 P v) := by
  unfold f_X12_sets
  rw [hr, bd_s, gdi_n hP (by omega), nm_s, gdi_n hP (by omega), nm_s, nI_clamp (by omega), r1 1 (by omega) (by omega)]
  rfl
theorem AC.of1 (r1 : ∀ i, i ≠ 5 → i ≠ 6 → rm i = (pu g 0 0 0) i) {P : Nat} (hP : P < 456) (p1 : P ≠ 1) (p2 : P ≠ 2) {gS' : Pic} (hO : Ok (upd (g 1) P v)) (hR : RS gS' gL (upd (g 1) P v)) : AC g rm gL (pu rm 1 P v) gS' := by
  have e : (pu rm 1 P v) 1 = upd (g 1) P v := by show upd (rm 1) P v = _; rw [r1 1 (by omega) (by omega)]; rfl
  refine ⟨fun i hi => pu_o hi, by rw [e]; exact hO, by rw [e]; exact hR, by rw [e, upd_o (by omega)], by rw [e, upd_o (by omega)], fun p hp => by rw [e, upd_o (by omega)]⟩
theorem rmz0 (r1 : ∀ i, i ≠ 5 → i ≠ 6 → rm i = (pu g 0 0 0) i) (P : Nat) (v : Int32) : (pu rm 1 P v) 0 0 = 0 := by rw [pu_o (by omega), r1 0 (by omega) (by omega)]; rfl
section K67b
variable (hO : Ok (g 1)) (hR : RS gS gL (g 1)) (hr : f_X12_remembers (pu g 0 0 0) = some rm) (r1 : ∀ i, i ≠ 5 → i ≠ 6 → rm i = (pu g 0 0 0) i) (hq : f_X11_rem gP = some (fRem2 (fRem1 gP)))
theorem t_tempo (hO : Ok (g 1)) (hR : RS gS gL (g 1)) (hr : f_X12_remembers (pu g 0 0 0) = some rm) (r1 : ∀ i, i ≠ 5 → i ≠ 6 → rm i = (pu g 0 0 0) i) (hq : f_X11_rem gP = some (fRem2 (fRem1 gP))) (x1 : Int32) : ∃ v g' res, f_X12_tempo g x1 = some (v, g') ∧ f_X11_tempo gP gS gL x1 = some res ∧ AE [1] (fun _ => 1) g rm gP gS gL v g' res := by
  rcases e_num (gP := gP) x1 (lo := 1) (hi := 9) (by omega) (by omega) with ⟨j, j1, j2, rfl, b1, b2⟩ | ⟨b1, b2⟩
  · have b1 : f_X12_isIn (nI j) 1 9 = some 1 := b1
    have b2 : f_X11_needNumber gP (nI j) 1 9 = some (.inr ()) := b2
    have s : f_X12_sets (pu g 0 0 0) 7 (nI j) = some (g 1 7, pu rm 1 7 (nI j)) := q_sets hr r1 (P := 7) (by omega) (nI j)
    refine ⟨g 1 7, pu rm 1 7 (nI j), .inr (g 1 7, (fRem2 (fRem1 gP), pu gS 13 0 (nI j))), ?_, ?_, Or.inl ⟨_, rfl, rmz0 r1 7 _, AC.of1 r1 (by omega) (by omega) (by omega) (hO.sc (by omega) (fun z => absurd z (by omega)) (fun _ => Bn.mk (by omega) (by omega) (by omega)) (fun z => absurd z (by omega)) (fun z => absurd z (by omega))) (hR.sc (P := 7) (K := 13) hO (by omega))⟩⟩
    · unfold f_X12_tempo; rw [b1]; simp only [bd_s, bd2_s, bd3_s, bd4_s, bd5_s, bd6_s, bd7_s, lr_l, lr_r, nm_s, jn_s, gdb_0, gdb_1, pz_v, if_true, if_false, eq_self, i10, i01, i20, l10, l00, l20]; rw [s]; rfl
    · unfold f_X11_tempo; rw [b2]; simp only [bd_s, bd2_s, bd3_s, bd4_s, bd5_s, bd6_s, bd7_s, lr_l, lr_r, nm_s, jn_s, gdb_0, gdb_1, pz_v, if_true, if_false, eq_self, i10, i01, i20, l10, l00, l20, hq]; rw [hR.T]
  · have b1 : f_X12_isIn x1 1 9 = some 0 := b1
    have b2 : f_X11_needNumber gP x1 1 9 = some (.inl (1, ())) := b2
    refine ⟨0, pu g 0 0 1, .inl (1, (gP, gS)), ?_, ?_, Or.inr ⟨1, by decide, rfl, rfl⟩⟩
    · unfold f_X12_tempo; rw [b1]; simp only [bd_s, bd2_s, bd3_s, bd4_s, bd5_s, bd6_s, bd7_s, lr_l, lr_r, nm_s, jn_s, gdb_0, gdb_1, pz_v, if_true, if_false, eq_self, i10, i01, i20, l10, l00, l20]
    · unfold f_X11_tempo; rw [b2]; simp only [bd_s, bd2_s, bd3_s, bd4_s, bd5_s, bd6_s, bd7_s, lr_l, lr_r, nm_s, jn_s, gdb_0, gdb_1, pz_v, if_true, if_false, eq_self, i10, i01, i20, l10, l00, l20]
theorem t_rest (hO : Ok (g 1)) (hR : RS gS gL (g 1)) (hr : f_X12_remembers (pu g 0 0 0) = some rm) (r1 : ∀ i, i ≠ 5 → i ≠ 6 → rm i = (pu g 0 0 0) i) (hq : f_X11_rem gP = some (fRem2 (fRem1 gP))) (x1 : Int32) : ∃ v g' res, f_X12_rest g x1 = some (v, g') ∧ f_X11_rest gP gS gL x1 = some res ∧ AE [0] (fun _ => 1) g rm gP gS gL v g' res := by
  rcases e_writer (gP := gP) hO hR x1 with ⟨u, hu, rfl, a1, a2⟩ | ⟨a1, a2⟩
  · have u5 := hO.u5 hu
    have s : f_X12_sets (pu g 0 0 0) ((96 + 4 * nI u) + 3) 0 = some (wr (g 1) u 3, pu rm 1 (96 + 4 * u + 3) 0) := by rw [show (96 + 4 * nI u) + 3 = nI (96 + 4 * u + 3) by rw [li_96, li_4, li_3, nI_mul, nI_add, nI_add]]; exact q_sets hr r1 (by omega) 0
    refine ⟨wr (g 1) u 3, pu rm 1 (96 + 4 * u + 3) 0, .inr (wr (g 1) u 3, (fRem2 (fRem1 gP), pu gS 11 u 0)), ?_, ?_, Or.inl ⟨_, rfl, rmz0 r1 _ _, AC.of1 r1 (by omega) (by omega) (by omega) (hO.wr_ hu (k := 3) (by omega) (fun z => absurd z (by omega)) (fun z => absurd z (by omega)) (fun z => absurd z (by omega)) (fun _ => Bn.mk (n := 0) (by omega) (by omega) (by omega))) (hR.wr_ hO hu (k := 3) (by omega) 0)⟩⟩
    · unfold f_X12_rest; rw [a1]; simp only [bd_s, bd2_s, bd3_s, bd4_s, bd5_s, bd6_s, bd7_s, lr_l, lr_r, nm_s, jn_s, gdb_0, gdb_1, pz_v, if_true, if_false, eq_self, i10, i01, i20, l10, l00, l20]; rw [s]; rfl
    · unfold f_X11_rest; rw [a2]; simp only [bd_s, bd2_s, bd3_s, bd4_s, bd5_s, bd6_s, bd7_s, lr_l, lr_r, nm_s, jn_s, gdb_0, gdb_1, pz_v, if_true, if_false, eq_self, i10, i01, i20, l10, l00, l20, hq]; rw [gdi_n u5 (by omega), gdi_n u5 (by omega), nI_clamp (by omega), hR.tired hu]
  · refine ⟨0, pu g 0 0 1, .inl (0, (gP, gS)), ?_, ?_, Or.inr ⟨0, by decide, rfl, rfl⟩⟩
    · unfold f_X12_rest; rw [a1]; simp only [bd_s, bd2_s, bd3_s, bd4_s, bd5_s, bd6_s, bd7_s, lr_l, lr_r, nm_s, jn_s, gdb_0, gdb_1, pz_v, if_true, if_false, eq_self, i10, i01, i20, l10, l00, l20]
    · unfold f_X11_rest; rw [a2]; simp only [bd_s, bd2_s, bd3_s, bd4_s, bd5_s, bd6_s, bd7_s, lr_l, lr_r, nm_s, jn_s, gdb_0, gdb_1, pz_v, if_true, if_false, eq_self, i10, i01, i20, l10, l00, l20]
theorem t_learn (hO : Ok (g 1)) (hR : RS gS gL (g 1)) (hr : f_X12_remembers (pu g 0 0 0) = some rm) (r1 : ∀ i, i ≠ 5 → i ≠ 6 → rm i = (pu g 0 0 0) i) (hq : f_X11_rem gP = some (fRem2 (fRem1 gP))) (x1 : Int32) : ∃ v g' res, f_X12_learn g x1 = some (v, g') ∧ f_X11_learn gP gS gL x1 = some res ∧ AE [0] (fun _ => 1) g rm gP gS gL v g' res := by
  rcases e_writer (gP := gP) hO hR x1 with ⟨u, hu, rfl, a1, a2⟩ | ⟨a1, a2⟩
  · have u5 := hO.u5 hu
    obtain ⟨k, hk, -, -, k9⟩ := (hO.skill hu).ex
    have hv : ∃ n, n ≤ 9 ∧ (if nI k + 1 ≤ 9 then nI k + 1 else 9) = nI n ∧ (if (9 : Int32) < nI k + 1 then 9 else nI k + 1) = nI n := by
      by_cases z : k + 1 ≤ 9
      · exact ⟨k + 1, z, by rw [nI_1, if_pos (show nI (k + 1) ≤ 9 from (nI_leI (b := 9) (by omega) (by omega)).mpr z)], by rw [nI_1, if_neg (show ¬ (9 : Int32) < nI (k + 1) from fun q => absurd ((nI_ltI (a := 9) (by omega) (by omega)).mp q) (by omega))]⟩
      · exact ⟨9, by omega, by rw [nI_1, if_neg (show ¬ nI (k + 1) ≤ 9 from fun q => z ((nI_leI (b := 9) (by omega) (by omega)).mp q))]; rfl, by rw [nI_1, if_pos (show (9 : Int32) < nI (k + 1) from (nI_ltI (a := 9) (by omega) (by omega)).mpr (by omega))]; rfl⟩
    obtain ⟨n, n9, v1, v2⟩ := hv
    have s : f_X12_sets (pu g 0 0 0) ((96 + 4 * nI u) + 2) (nI n) = some (wr (g 1) u 2, pu rm 1 (96 + 4 * u + 2) (nI n)) := by rw [show (96 + 4 * nI u) + 2 = nI (96 + 4 * u + 2) by rw [li_96, li_4, li_2, nI_mul, nI_add, nI_add]]; exact q_sets hr r1 (by omega) (nI n)
    have q0 : f_X12_of (pu g 0 0 0) (nI u) 2 = some (wr (g 1) u 2) := q_of (g := pu g 0 0 0) u5 (by omega : 2 < 4)
    have q1 : f_X12_of (pu rm 1 (96 + 4 * u + 2) (nI n)) (nI u) 2 = some (nI n) := by
      rw [show f_X12_of (pu rm 1 (96 + 4 * u + 2) (nI n)) (nI u) 2 = _ from q_of u5 (by omega : 2 < 4)]
      show some ((upd (rm 1) (96 + 4 * u + 2) (nI n)) (96 + 4 * u + 2)) = _
      rw [upd_s]
    refine ⟨nI n, pu rm 1 (96 + 4 * u + 2) (nI n), .inr (nI n, (fRem2 (fRem1 gP), pu gS 10 u (nI n))), ?_, ?_, Or.inl ⟨_, rfl, rmz0 r1 _ _, AC.of1 r1 (by omega) (by omega) (by omega) (hO.wr_ hu (k := 2) (by omega) (fun z => absurd z (by omega)) (fun z => absurd z (by omega)) (fun _ => Bn.mk (by omega) (by omega) (by omega)) (fun z => absurd z (by omega))) (hR.wr_ hO hu (k := 2) (by omega) (nI n))⟩⟩
    · unfold f_X12_learn; rw [a1]; simp only [bd_s, bd2_s, bd3_s, bd4_s, bd5_s, bd6_s, bd7_s, lr_l, lr_r, nm_s, jn_s, gdb_0, gdb_1, pz_v, if_true, if_false, eq_self, i10, i01, i20, l10, l00, l20]; rw [q0, bd_s, q_lesser, bd_s, hk, v1, s, bd2_s, q1, bd_s]
    · unfold f_X11_learn; rw [a2]; simp only [bd_s, bd2_s, bd3_s, bd4_s, bd5_s, bd6_s, bd7_s, lr_l, lr_r, nm_s, jn_s, gdb_0, gdb_1, pz_v, if_true, if_false, eq_self, i10, i01, i20, l10, l00, l20, hq]; rw [gdi_n u5 (by omega), gdi_n u5 (by omega), gdi_n u5 (by omega), nI_clamp (by omega), hR.skill hu, hk, v2, pu_s, if_pos rfl]
  · refine ⟨0, pu g 0 0 1, .inl (0, (gP, gS)), ?_, ?_, Or.inr ⟨0, by decide, rfl, rfl⟩⟩
    · unfold f_X12_learn; rw [a1]; simp only [bd_s, bd2_s, bd3_s, bd4_s, bd5_s, bd6_s, bd7_s, lr_l, lr_r, nm_s, jn_s, gdb_0, gdb_1, pz_v, if_true, if_false, eq_self, i10, i01, i20, l10, l00, l20]
    · unfold f_X11_learn; rw [a2]; simp only [bd_s, bd2_s, bd3_s, bd4_s, bd5_s, bd6_s, bd7_s, lr_l, lr_r, nm_s, jn_s, gdb_0, gdb_1, pz_v, if_true, if_false, eq_self, i10, i01, i20, l10, l00, l20]
theorem t_speed (hO : Ok (g 1)) (hR : RS gS gL (g 1)) (hr : f_X12_remembers (pu g 0 0 0) = some rm) (r1 : ∀ i, i ≠ 5 → i ≠ 6 → rm i = (pu g 0 0 0) i) (hq : f_X11_rem gP = some (fRem2 (fRem1 gP))) (x1 x2 : Int32) : ∃ v g' res, f_X12_speed g x1 x2 = some (v, g') ∧ f_X11_speed gP gS gL x1 x2 = some res ∧ AE [0, 1] (fun k => if k = 0 then 1 else 2) g rm gP gS gL v g' res := by
  rcases e_writer (gP := gP) hO hR x1 with ⟨u, hu, rfl, a1, a2⟩ | ⟨a1, a2⟩
  · rcases e_num (gP := gP) x2 (lo := 1) (hi := 9) (by omega) (by omega) with ⟨n, n1, n9, rfl, b1, b2⟩ | ⟨b1, b2⟩
    · have b1 : f_X12_isIn (nI n) 1 9 = some 1 := b1
      have b2 : f_X11_needNumber gP (nI n) 1 9 = some (.inr ()) := b2
      have u5 := hO.u5 hu
      have s : f_X12_sets (pu g 0 0 0) ((96 + 4 * nI u) + 1) (nI n) = some (wr (g 1) u 1, pu rm 1 (96 + 4 * u + 1) (nI n)) := by rw [show (96 + 4 * nI u) + 1 = nI (96 + 4 * u + 1) by rw [li_96, li_4, nI_mul, nI_add, nI_1]]; exact q_sets hr r1 (by omega) (nI n)
      refine ⟨wr (g 1) u 1, pu rm 1 (96 + 4 * u + 1) (nI n), .inr (wr (g 1) u 1, (fRem2 (fRem1 gP), pu gS 9 u (nI n))), ?_, ?_, Or.inl ⟨_, rfl, rmz0 r1 _ _, AC.of1 r1 (by omega) (by omega) (by omega) (hO.wr_ hu (k := 1) (by omega) (fun z => absurd z (by omega)) (fun _ => Bn.mk (by omega) (by omega) (by omega)) (fun z => absurd z (by omega)) (fun z => absurd z (by omega))) (hR.wr_ hO hu (k := 1) (by omega) (nI n))⟩⟩
      · unfold f_X12_speed; rw [a1]; simp only [bd_s, bd2_s, bd3_s, bd4_s, bd5_s, bd6_s, bd7_s, lr_l, lr_r, nm_s, jn_s, gdb_0, gdb_1, pz_v, if_true, if_false, eq_self, i10, i01, i20, l10, l00, l20, b1]; rw [s]; rfl
      · unfold f_X11_speed; rw [a2, b2]; simp only [bd_s, bd2_s, bd3_s, bd4_s, bd5_s, bd6_s, bd7_s, lr_l, lr_r, nm_s, jn_s, gdb_0, gdb_1, pz_v, if_true, if_false, eq_self, i10, i01, i20, l10, l00, l20, hq]; rw [gdi_n u5 (by omega), gdi_n u5 (by omega), nI_clamp (by omega), hR.speed hu]
    · have b1 : f_X12_isIn x2 1 9 = some 0 := b1
      have b2 : f_X11_needNumber gP x2 1 9 = some (.inl (1, ())) := b2
      refine ⟨0, pu g 0 0 2, .inl (1, (gP, gS)), ?_, ?_, Or.inr ⟨1, by decide, rfl, rfl⟩⟩
      · unfold f_X12_speed; rw [a1]; simp only [bd_s, bd2_s, bd3_s, bd4_s, bd5_s, bd6_s, bd7_s, lr_l, lr_r, nm_s, jn_s, gdb_0, gdb_1, pz_v, if_true, if_false, eq_self, i10, i01, i20, l10, l00, l20, b1]
      · unfold f_X11_speed; rw [a2, b2]; simp only [bd_s, bd2_s, bd3_s, bd4_s, bd5_s, bd6_s, bd7_s, lr_l, lr_r, nm_s, jn_s, gdb_0, gdb_1, pz_v, if_true, if_false, eq_self, i10, i01, i20, l10, l00, l20]
  · refine ⟨0, pu g 0 0 1, .inl (0, (gP, gS)), ?_, ?_, Or.inr ⟨0, by decide, rfl, rfl⟩⟩
    · unfold f_X12_speed; rw [a1]; simp only [bd_s, bd2_s, bd3_s, bd4_s, bd5_s, bd6_s, bd7_s, lr_l, lr_r, nm_s, jn_s, gdb_0, gdb_1, pz_v, if_true, if_false, eq_self, i10, i01, i20, l10, l00, l20]
    · unfold f_X11_speed; rw [a2]; simp only [bd_s, bd2_s, bd3_s, bd4_s, bd5_s, bd6_s, bd7_s, lr_l, lr_r, nm_s, jn_s, gdb_0, gdb_1, pz_v, if_true, if_false, eq_self, i10, i01, i20, l10, l00, l20]
theorem t_often (hO : Ok (g 1)) (hR : RS gS gL (g 1)) (hr : f_X12_remembers (pu g 0 0 0) = some rm) (r1 : ∀ i, i ≠ 5 → i ≠ 6 → rm i = (pu g 0 0 0) i) (hq : f_X11_rem gP = some (fRem2 (fRem1 gP))) (x1 x2 : Int32) : ∃ v g' res, f_X12_often g x1 x2 = some (v, g') ∧ f_X11_often gP gS gL x1 x2 = some res ∧ AE [0, 1] (fun k => if k = 0 then 1 else 2) g rm gP gS gL v g' res := by
  rcases e_word (gP := gP) hO hR x1 with ⟨w, hw, rfl, a1, a2⟩ | ⟨a1, a2⟩
  · rcases e_num (gP := gP) x2 (lo := 1) (hi := 99) (by omega) (by omega) with ⟨n, n1, n9, rfl, b1, b2⟩ | ⟨b1, b2⟩
    · have b1 : f_X12_isIn (nI n) 1 99 = some 1 := b1
      have b2 : f_X11_needNumber gP (nI n) 1 99 = some (.inr ()) := b2
      have w8 : w < 8 := Nat.lt_of_lt_of_le hw hO.W.2.2
      have s : f_X12_sets (pu g 0 0 0) ((12 + 8 * nI w) + 7) (nI n) = some (wd (g 1) w 7, pu rm 1 (12 + 8 * w + 7) (nI n)) := by rw [show (12 + 8 * nI w) + 7 = nI (12 + 8 * w + 7) by rw [li_12, li_8, li_7, nI_mul, nI_add, nI_add]]; exact q_sets hr r1 (by omega) (nI n)
      refine ⟨wd (g 1) w 7, pu rm 1 (12 + 8 * w + 7) (nI n), .inr (wd (g 1) w 7, (fRem2 (fRem1 gP), pu gS 3 w (nI n))), ?_, ?_, Or.inl ⟨_, rfl, rmz0 r1 _ _, AC.of1 r1 (by omega) (by omega) (by omega) (hO.of_ hw (Bn.mk (by omega) (by omega) (by omega))) (hR.of_ hO hw (nI n))⟩⟩
      · unfold f_X12_often; rw [a1]; simp only [bd_s, bd2_s, bd3_s, bd4_s, bd5_s, bd6_s, bd7_s, lr_l, lr_r, nm_s, jn_s, gdb_0, gdb_1, pz_v, if_true, if_false, eq_self, i10, i01, i20, l10, l00, l20, b1]; rw [s]; rfl
      · unfold f_X11_often; rw [a2, b2]; simp only [bd_s, bd2_s, bd3_s, bd4_s, bd5_s, bd6_s, bd7_s, lr_l, lr_r, nm_s, jn_s, gdb_0, gdb_1, pz_v, if_true, if_false, eq_self, i10, i01, i20, l10, l00, l20, hq]; rw [gdi_n w8 (by omega), gdi_n w8 (by omega), nI_clamp (by omega), hR.often hw]
    · have b1 : f_X12_isIn x2 1 99 = some 0 := b1
      have b2 : f_X11_needNumber gP x2 1 99 = some (.inl (1, ())) := b2
      refine ⟨0, pu g 0 0 2, .inl (1, (gP, gS)), ?_, ?_, Or.inr ⟨1, by decide, rfl, rfl⟩⟩
      · unfold f_X12_often; rw [a1]; simp only [bd_s, bd2_s, bd3_s, bd4_s, bd5_s, bd6_s, bd7_s, lr_l, lr_r, nm_s, jn_s, gdb_0, gdb_1, pz_v, if_true, if_false, eq_self, i10, i01, i20, l10, l00, l20, b1]
      · unfold f_X11_often; rw [a2, b2]; simp only [bd_s, bd2_s, bd3_s, bd4_s, bd5_s, bd6_s, bd7_s, lr_l, lr_r, nm_s, jn_s, gdb_0, gdb_1, pz_v, if_true, if_false, eq_self, i10, i01, i20, l10, l00, l20]
  · refine ⟨0, pu g 0 0 1, .inl (0, (gP, gS)), ?_, ?_, Or.inr ⟨0, by decide, rfl, rfl⟩⟩
    · unfold f_X12_often; rw [a1]; simp only [bd_s, bd2_s, bd3_s, bd4_s, bd5_s, bd6_s, bd7_s, lr_l, lr_r, nm_s, jn_s, gdb_0, gdb_1, pz_v, if_true, if_false, eq_self, i10, i01, i20, l10, l00, l20]
    · unfold f_X11_often; rw [a2]; simp only [bd_s, bd2_s, bd3_s, bd4_s, bd5_s, bd6_s, bd7_s, lr_l, lr_r, nm_s, jn_s, gdb_0, gdb_1, pz_v, if_true, if_false, eq_self, i10, i01, i20, l10, l00, l20]
theorem t_speak (hO : Ok (g 1)) (hR : RS gS gL (g 1)) (hr : f_X12_remembers (pu g 0 0 0) = some rm) (r1 : ∀ i, i ≠ 5 → i ≠ 6 → rm i = (pu g 0 0 0) i) (hq : f_X11_rem gP = some (fRem2 (fRem1 gP))) (x1 : Int32) : ∃ v g' res, f_X12_speak g x1 = some (v, g') ∧ f_X11_speak gP gS gL x1 = some res ∧ AE [0, 3] (fun k => if k = 0 then 1 else 2) g rm gP gS gL v g' res := by
  obtain ⟨S, hS, tS, -, s20⟩ := hO.S.ex
  rcases e_word (gP := gP) hO hR x1 with ⟨w, hw, rfl, a1, a2⟩ | ⟨a1, a2⟩
  · by_cases z : S = 20
    · subst z
      refine ⟨0, pu g 0 0 2, .inl (3, (gP, gS)), ?_, ?_, Or.inr ⟨3, by decide, rfl, rfl⟩⟩
      · unfold f_X12_speak; rw [a1]; simp only [bd_s, bd2_s, bd3_s, bd4_s, bd5_s, bd6_s, bd7_s, lr_l, lr_r, nm_s, jn_s, gdb_0, gdb_1, pz_v, if_true, if_false, eq_self, i10, i01, i20, l10, l00, l20]; rw [hS, if_pos (show nI 20 = 20 from rfl)]
      · unfold f_X11_speak; rw [a2, lr_r, hR.S, hS, if_neg (show ¬ nI 20 < 20 by decide)]
    · have s19 : S < 20 := by omega
      have s : f_X12_sets (pu g 0 0 0) (76 + (pu g 0 0 0) 1 5) (nI w) = some (g 1 (76 + S), pu rm 1 (76 + S) (nI w)) := by rw [show 76 + (pu g 0 0 0) 1 5 = nI (76 + S) by rw [show (pu g 0 0 0) 1 5 = nI S from hS, li_76, nI_add]]; exact q_sets hr r1 (by omega) (nI w)
      have m1 : rm 1 = g 1 := r1 1 (by omega) (by omega)
      have e5 : (pu rm 1 (76 + S) (nI w)) 1 5 = nI S := by show (upd (rm 1) (76 + S) (nI w)) 5 = _; rw [upd_o (by omega), m1, hS]
      have er : (pu (pu rm 1 (76 + S) (nI w)) 1 5 (nI (S + 1))) 1 = adS (g 1) S w := by
        show upd (upd (rm 1) (76 + S) (nI w)) 5 (nI (S + 1)) = _
        rw [m1]
        rfl
      refine ⟨nI (S + 1), pu (pu rm 1 (76 + S) (nI w)) 1 5 (nI (S + 1)), .inr (nI (S + 1), (fRem2 (fRem1 gP), pu (pu gS 5 S (nI w)) 4 0 (nI (S + 1)))), ?_, ?_, Or.inl ⟨_, rfl, by rw [pu_o (by omega)]; exact rmz0 r1 _ _, fun i hi => by rw [pu_o hi, pu_o hi], ?_, ?_, ?_, ?_, fun p hp => ?_⟩⟩
      · unfold f_X12_speak; rw [a1]; simp only [bd_s, bd2_s, bd3_s, bd4_s, bd5_s, bd6_s, bd7_s, lr_l, lr_r, nm_s, jn_s, gdb_0, gdb_1, pz_v, if_true, if_false, eq_self, i10, i01, i20, l10, l00, l20]; rw [hS, if_neg (show ¬ nI S = 20 from fun q => z ((nI_eq (b := 20) (by omega) (by omega)).mp q)), s, bd2_s, e5, nI_1]; rfl
      · unfold f_X11_speak; rw [a2, lr_r, hR.S, hS, if_pos (show nI S < 20 from (nI_ltI (b := 20) (by omega) (by omega)).mpr s19), hq, bd_s, gdi_n s19 (by omega), nm_s, nm_s, nI_clamp (by omega), show (pu gS 5 S (nI w)) 4 0 = nI S by rw [pu_o (by omega), hR.S, hS], nI_1]; rfl
      · rw [er]; exact ok_adS hO hS s19 hw
      · rw [er]; exact rs_adS hR hO hS s19
      · rw [er, adS_o (by omega) (by omega)]
      · rw [er, adS_o (by omega) (by omega)]
      · rw [er, adS_o (by omega) (by omega)]
  · refine ⟨0, pu g 0 0 1, .inl (0, (gP, gS)), ?_, ?_, Or.inr ⟨0, by decide, rfl, rfl⟩⟩
    · unfold f_X12_speak; rw [a1]; simp only [bd_s, bd2_s, bd3_s, bd4_s, bd5_s, bd6_s, bd7_s, lr_l, lr_r, nm_s, jn_s, gdb_0, gdb_1, pz_v, if_true, if_false, eq_self, i10, i01, i20, l10, l00, l20]
    · unfold f_X11_speak; rw [a2]; simp only [bd_s, bd2_s, bd3_s, bd4_s, bd5_s, bd6_s, bd7_s, lr_l, lr_r, nm_s, jn_s, gdb_0, gdb_1, pz_v, if_true, if_false, eq_self, i10, i01, i20, l10, l00, l20]
theorem lv_f : ∀ r, r < 256 → ∀ l, l < 8 → (((nI r >>> (nI l &&& 31)) &&& 1 = 1 → nI r ||| ((1 : Int32) <<< (nI l &&& 31)) = nI r ∧ nI r &&& (((1 : Int32) <<< (nI l &&& 31)) ^^^ (-1)) = nI r ^^^ ((1 : Int32) <<< (nI l &&& 31))) ∧ (¬ (nI r >>> (nI l &&& 31)) &&& 1 = 1 → nI r ||| ((1 : Int32) <<< (nI l &&& 31)) = nI r ^^^ ((1 : Int32) <<< (nI l &&& 31)) ∧ nI r &&& (((1 : Int32) <<< (nI l &&& 31)) ^^^ (-1)) = nI r) ∧ ¬ nI r = nI r ^^^ ((1 : Int32) <<< (nI l &&& 31)) ∧ nI r ^^^ ((1 : Int32) <<< (nI l &&& 31)) = nI (r ^^^ 2 ^ l) ∧ r ^^^ 2 ^ l ≤ 255) := by decide +kernel
end K67b
end K67
