/-! a word said; a minute gone -/
section K52
variable {m : Nat → Int32} {gS gL : Pic}
theorem st_said (hO : Ok m) (hR : RS gS gL m) (hD : tn (m 6) < tn (m 5)) : Ok (upd m 6 (nI (tn (m 6) + 1))) ∧ RS (pu gS 6 0 (nI (tn (m 6) + 1))) gL (upd m 6 (nI (tn (m 6) + 1))) := by
  have s20 := hO.S.2.2
  refine ⟨⟨by rw [upd_o (by omega)]; exact hO.texts, by rw [upd_o (by omega)]; exact hO.W, by rw [upd_o (by omega)]; exact hO.U, by rw [upd_o (by omega)]; exact hO.S, by rw [upd_s, upd_o (by omega)]; exact Bn.mk (by omega) (by omega) (by omega), by rw [upd_o (by omega)]; exact hO.T, by rw [upd_o (by omega)]; exact hO.slip, by rw [upd_o (by omega)]; exact hO.minute, by rw [upd_o (by omega)]; exact hO.G, hO.w_.c hO.W.2.2 (upd_o (by omega)) (fun p a b => upd_o (by omega)), hO.p_.c hO.S.2.2 (upd_o (by omega)) (upd_o (by omega)) (fun p a b => upd_o (by omega)), hO.u_.c hO.U.2.2 (upd_o (by omega)) (fun p a b => upd_o (by omega))⟩, ?_⟩
  exact ⟨by rw [pu_o (by omega), upd_o (by omega)]; exact hR.W, by rw [pu_o (by omega), upd_o (by omega)]; exact hR.S, by rw [pu_s, if_pos rfl, upd_s], by rw [pu_o (by omega), upd_o (by omega)]; exact hR.U, by rw [pu_o (by omega), upd_o (by omega)]; exact hR.T, by rw [pu_o (by omega), upd_o (by omega)]; exact hR.slip, by rw [pu_o (by omega), upd_o (by omega)]; exact hR.minute, by rw [pu_o (by omega), upd_o (by omega)]; exact hR.seed, by rw [pu_o (by omega), upd_o (by omega)]; exact hR.texts, hR.w_.c hO (upd_o (by omega)) (fun p a b => upd_o (by omega)) (pu_o (by omega)) (pu_o (by omega)) (pu_o (by omega)), hR.p_.c hO.S.2.2 (upd_o (by omega)) (fun p a b => upd_o (by omega)) (pu_o (by omega)), hR.u_.c hO.U.2.2 (upd_o (by omega)) (fun p a b => upd_o (by omega)) (pu_o (by omega)) (pu_o (by omega)) (pu_o (by omega)) (pu_o (by omega)) (pu_o (by omega)), hR.l_.c hO.G.2.2 (upd_o (by omega)) (fun p a b => upd_o (by omega))⟩
def mnV (x : Int32) : Int32 := if 9999 < x + 1 then 9999 else x + 1
theorem mnV_q (x : Int32) : f_X12_lesser 9999 (x + 1) = some (mnV x) := by
  rw [q_lesser]
  unfold mnV
  by_cases h : 9999 < x + 1
  · rw [if_pos h, if_neg (Int32.not_le.mpr h)]
  · rw [if_neg h, if_pos (Int32.not_lt.mp h)]
theorem st_min (hO : Ok m) (hR : RS gS gL m) : Ok (upd m 9 (mnV (m 9))) ∧ RS (pu gS 15 0 (mnV (m 9))) gL (upd m 9 (mnV (m 9))) := by
  refine ⟨hO.sc (by omega) (fun y => by omega) (fun y => by omega) (fun y => by omega) (fun _ => ?_), hR.sc hO (by omega)⟩
  obtain ⟨M, e1, -, -, e2⟩ := hO.minute.ex
  rw [e1]
  unfold mnV
  rw [nI_1]
  by_cases h : 9999 < M + 1
  · rw [if_pos (show 9999 < nI (M + 1) from (nI_ltI (a := 9999) (by omega) (by omega)).mpr h)]
    exact Bn.mk (n := 9999) (by omega) (by omega) (by omega)
  · rw [if_neg (show ¬ 9999 < nI (M + 1) from fun y => h ((nI_ltI (a := 9999) (by omega) (by omega)).mp y))]
    exact Bn.mk (by omega) (by omega) (by omega)
end K52
