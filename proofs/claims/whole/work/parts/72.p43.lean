/-! one cell of a writer, one place of a page -/
section K43
variable {m : Nat → Int32} {gS gL : Pic} {u k : Nat} {v : Int32}
theorem Ok.wr_ (h : Ok m) (hu : u < tn (m 4)) (hk : k < 4) (h0 : k = 0 → Bn v 0 255) (h1 : k = 1 → Bn v 1 9) (h2 : k = 2 → Bn v 0 9) (h3 : k = 3 → Bn v 0 99) : Ok (upd m (96 + 4 * u + k) v) := by
  have u5 := h.U.2.2
  refine ⟨by rw [upd_o (by omega)]; exact h.texts, by rw [upd_o (by omega)]; exact h.W, by rw [upd_o (by omega)]; exact h.U, by rw [upd_o (by omega)]; exact h.S, by rw [upd_o (by omega), upd_o (by omega)]; exact h.D, by rw [upd_o (by omega)]; exact h.T, by rw [upd_o (by omega)]; exact h.slip, by rw [upd_o (by omega)]; exact h.minute, by rw [upd_o (by omega)]; exact h.G, h.w_.c h.W.2.2 (upd_o (by omega)) (fun p a b => upd_o (by omega)), h.p_.c h.S.2.2 (upd_o (by omega)) (upd_o (by omega)) (fun p a b => upd_o (by omega)), ?_⟩
  intro u' hu'
  rw [upd_o (by omega)] at hu'
  have one : ∀ k', k' < 4 → ∀ lo hi, (k' = k → Bn v lo hi) → Bn (wr m u' k') lo hi → Bn (wr (upd m (96 + 4 * u + k) v) u' k') lo hi := by
    intro k' hk' lo hi a b
    unfold wr
    by_cases z : 96 + 4 * u' + k' = 96 + 4 * u + k
    · rw [z, upd_s]; exact a (by omega)
    · rw [upd_o z]; exact b
  obtain ⟨q1, q2, q3, q4, q5⟩ := h.u_ u' hu'
  refine ⟨one 0 (by decide) _ _ (fun y => h0 y.symm) q1, one 1 (by decide) _ _ (fun y => h1 y.symm) q2, one 2 (by decide) _ _ (fun y => h2 y.symm) q3, one 3 (by decide) _ _ (fun y => h3 y.symm) q4, fun k' hk' => ?_⟩
  unfold pg
  rw [upd_o (by omega)]
  exact q5 k' hk'
theorem RS.wr_ (h : RS gS gL m) (hO : Ok m) (hu : u < tn (m 4)) (hk : k < 4) (v : Int32) : RS (pu gS (8 + k) u v) gL (upd m (96 + 4 * u + k) v) := by
  have u5 := hO.U.2.2
  refine ⟨by rw [pu_o (by omega), upd_o (by omega)]; exact h.W, by rw [pu_o (by omega), upd_o (by omega)]; exact h.S, by rw [pu_o (by omega), upd_o (by omega)]; exact h.D, by rw [pu_o (by omega), upd_o (by omega)]; exact h.U, by rw [pu_o (by omega), upd_o (by omega)]; exact h.T, by rw [pu_o (by omega), upd_o (by omega)]; exact h.slip, by rw [pu_o (by omega), upd_o (by omega)]; exact h.minute, by rw [pu_o (by omega), upd_o (by omega)]; exact h.seed, by rw [pu_o (by omega), upd_o (by omega)]; exact h.texts, h.w_.c hO (upd_o (by omega)) (fun p a b => upd_o (by omega)) (pu_o (by omega)) (pu_o (by omega)) (pu_o (by omega)), h.p_.c hO.S.2.2 (upd_o (by omega)) (fun p a b => upd_o (by omega)) (pu_o (by omega)), ?_, h.l_.c hO.G.2.2 (upd_o (by omega)) (fun p a b => upd_o (by omega))⟩
  intro u' hu'
  rw [upd_o (by omega)] at hu'
  have one : ∀ k', k' < 4 → gS (8 + k') u' = wr m u' k' → (pu gS (8 + k) u v) (8 + k') u' = wr (upd m (96 + 4 * u + k) v) u' k' := by
    intro k' hk' b
    unfold wr
    by_cases z : 96 + 4 * u' + k' = 96 + 4 * u + k
    · have e1 : k' = k := by omega
      have e2 : u' = u := by omega
      rw [z, upd_s, e1, e2, pu_s, if_pos rfl]
    · rw [upd_o z]
      by_cases y : k' = k
      · subst y
        rw [pu_s, if_neg (by omega)]; exact b
      · rw [pu_o (by omega)]; exact b
  obtain ⟨q1, q2, q3, q4, q5⟩ := h.u_ u' hu'
  refine ⟨one 0 (by decide) q1, one 1 (by decide) q2, one 2 (by decide) q3, one 3 (by decide) q4, fun k' hk' => ?_⟩
  unfold pg
  rw [upd_o (by omega), pu_o (by omega)]
  exact q5 k' hk'
theorem Ok.pg_ (h : Ok m) (hu : u < tn (m 4)) (hk : k < 20) (hv : Bn v 0 2) : Ok (upd m (116 + 20 * u + k) v) := by
  have u5 := h.U.2.2
  refine ⟨by rw [upd_o (by omega)]; exact h.texts, by rw [upd_o (by omega)]; exact h.W, by rw [upd_o (by omega)]; exact h.U, by rw [upd_o (by omega)]; exact h.S, by rw [upd_o (by omega), upd_o (by omega)]; exact h.D, by rw [upd_o (by omega)]; exact h.T, by rw [upd_o (by omega)]; exact h.slip, by rw [upd_o (by omega)]; exact h.minute, by rw [upd_o (by omega)]; exact h.G, h.w_.c h.W.2.2 (upd_o (by omega)) (fun p a b => upd_o (by omega)), h.p_.c h.S.2.2 (upd_o (by omega)) (upd_o (by omega)) (fun p a b => upd_o (by omega)), ?_⟩
  intro u' hu'
  rw [upd_o (by omega)] at hu'
  obtain ⟨q1, q2, q3, q4, q5⟩ := h.u_ u' hu'
  unfold wr pg
  rw [upd_o (by omega), upd_o (by omega), upd_o (by omega), upd_o (by omega)]
  refine ⟨q1, q2, q3, q4, fun k' hk' => ?_⟩
  by_cases z : 116 + 20 * u' + k' = 116 + 20 * u + k
  · rw [z, upd_s]; exact hv
  · rw [upd_o z]; exact q5 k' hk'
theorem RS.pg_ (h : RS gS gL m) (hO : Ok m) (hu : u < tn (m 4)) (hk : k < 20) (v : Int32) : RS (pu gS 12 (u * 20 + k) v) gL (upd m (116 + 20 * u + k) v) := by
  have u5 := hO.U.2.2
  refine ⟨by rw [pu_o (by omega), upd_o (by omega)]; exact h.W, by rw [pu_o (by omega), upd_o (by omega)]; exact h.S, by rw [pu_o (by omega), upd_o (by omega)]; exact h.D, by rw [pu_o (by omega), upd_o (by omega)]; exact h.U, by rw [pu_o (by omega), upd_o (by omega)]; exact h.T, by rw [pu_o (by omega), upd_o (by omega)]; exact h.slip, by rw [pu_o (by omega), upd_o (by omega)]; exact h.minute, by rw [pu_o (by omega), upd_o (by omega)]; exact h.seed, by rw [pu_o (by omega), upd_o (by omega)]; exact h.texts, h.w_.c hO (upd_o (by omega)) (fun p a b => upd_o (by omega)) (pu_o (by omega)) (pu_o (by omega)) (pu_o (by omega)), h.p_.c hO.S.2.2 (upd_o (by omega)) (fun p a b => upd_o (by omega)) (pu_o (by omega)), ?_, h.l_.c hO.G.2.2 (upd_o (by omega)) (fun p a b => upd_o (by omega))⟩
  intro u' hu'
  rw [upd_o (by omega)] at hu'
  obtain ⟨q1, q2, q3, q4, q5⟩ := h.u_ u' hu'
  unfold wr pg
  rw [upd_o (by omega), upd_o (by omega), upd_o (by omega), upd_o (by omega), pu_o (by decide), pu_o (by decide), pu_o (by decide), pu_o (by decide)]
  refine ⟨q1, q2, q3, q4, fun k' hk' => ?_⟩
  by_cases z : 116 + 20 * u' + k' = 116 + 20 * u + k
  · have e1 : k' = k := by omega
    have e2 : u' = u := by omega
    rw [z, upd_s, e1, e2, pu_s, if_pos rfl]
  · rw [upd_o z, pu_s, if_neg (by omega)]; exact q5 k' hk'
end K43
