/-! a minute: keeping up, the draw, the log -/
section K46
variable {m : Nat → Int32} {g gS gL gF gH : Pic} {u w : Nat}
def kpB (m : Nat → Int32) (u w : Nat) : Int32 := if ((wr m u 1 * m 7) - (wr m u 3 / 10)) < nI (kl m w (wr m u 0)).length then 0 else 1
theorem kpB_b (m : Nat → Int32) (u w : Nat) : kpB m u w = 0 ∨ kpB m u w = 1 := by
  unfold kpB
  split
  · exact Or.inl rfl
  · exact Or.inr rfl
theorem q_keep (hO : Ok (g 1)) (hu : u < tn (g 1 4)) (hw : w < tn (g 1 3)) : f_X12_doesKeep g (nI u) (nI w) = some (kpB (g 1) u w) := by
  have u5 := hO.U.2.2
  have o0 : f_X12_of g (nI u) 0 = some (wr (g 1) u 0) := q_of (k := 0) (by omega) (by decide)
  have o1 : f_X12_of g (nI u) 1 = some (wr (g 1) u 1) := q_of (k := 1) (by omega) (by decide)
  have o3 : f_X12_of g (nI u) 3 = some (wr (g 1) u 3) := q_of (k := 3) (by omega) (by decide)
  have st := q_strokes hO hw (wr (g 1) u 0)
  unfold f_X12_doesKeep kpB
  rw [o0, bd_s, st, bd_s, o1, bd_s, o3, bd_s, jn_s]
  split <;> rfl
theorem k_keep (hR : RS gS gL m) (hF : ∀ k, k < 9 → gF 0 k = fsv (fsW m u w) k) (g0 gH : Pic) : f_X0_isKeepingUp_n g0 gF gH gS gL = some (kpB m u w) := by
  have f4 : gF 0 4 = wr m u 1 := hF 4 (by decide)
  have f6 : gF 0 6 = wr m u 3 := hF 6 (by decide)
  have f2 : gF 0 2 = nI (kl m w (wr m u 0)).length := hF 2 (by decide)
  unfold f_X0_isKeepingUp_n kpB
  rw [jn_s, f4, f6, f2, hR.T]
  split <;> rfl
theorem keep_ln (ln : Nat → Nat) (g0 g1 g2 g3 g4 g5 : Pic) : f_X0_isKeepingUp_l ln g0 g1 g2 g3 g4 g5 = f_X0_isKeepingUp_n g0 g2 g3 g4 g5 := rfl
/-- the log takes a row more -/
theorem ok_log (h : Ok m) (u w o : Int32) : Ok (lgM m u w o) := by
  obtain ⟨G, hG, tG, -, g60⟩ := h.G.ex
  have o_ : ∀ p, p ≠ 10 → p < 216 → lgM m u w o p = m p := fun p h1 h2 => by
    unfold lgM
    rw [if_neg h1, if_neg (by omega), if_neg (by omega), if_neg (by omega), if_neg (by omega), if_neg (by omega)]
  have e10 : Bn (lgM m u w o 10) 0 60 := by
    show Bn (if m 10 + 1 ≤ 60 then m 10 + 1 else 60) 0 60
    rw [hG, nI_1]
    by_cases z : G + 1 ≤ 60
    · rw [if_pos (show nI (G + 1) ≤ 60 from nI_le (b := 60) z (by omega))]; exact Bn.mk (by omega) z (by omega)
    · rw [if_neg (show ¬ nI (G + 1) ≤ 60 from nI_ge (b := G + 1) (a := 60) (by omega) (by omega))]; exact Bn.mk (n := 60) (by omega) (by omega) (by omega)
  exact ⟨by rw [o_ 0 (by decide) (by decide)]; exact h.texts, by rw [o_ 3 (by decide) (by decide)]; exact h.W, by rw [o_ 4 (by decide) (by decide)]; exact h.U, by rw [o_ 5 (by decide) (by decide)]; exact h.S, by rw [o_ 6 (by decide) (by decide), o_ 5 (by decide) (by decide)]; exact h.D, by rw [o_ 7 (by decide) (by decide)]; exact h.T, by rw [o_ 8 (by decide) (by decide)]; exact h.slip, by rw [o_ 9 (by decide) (by decide)]; exact h.minute, e10, h.w_.c h.W.2.2 (o_ 3 (by decide) (by decide)) (fun p a b => o_ p (by omega) (by omega)), h.p_.c h.S.2.2 (o_ 3 (by decide) (by decide)) (o_ 5 (by decide) (by decide)) (fun p a b => o_ p (by omega) (by omega)), h.u_.c h.U.2.2 (o_ 4 (by decide) (by decide)) (fun p a b => o_ p (by omega) (by omega))⟩
theorem rs_log (h : RS gS gL m) (hO : Ok m) (u w o : Int32) : ∃ gL', f_X7_add gL (gS 15 0) u w o = some gL' ∧ RS gS gL' (lgM m u w o) := by
  obtain ⟨gL', a1, a2, a3⟩ := k_add hO h u w o
  have o_ : ∀ p, p ≠ 10 → p < 216 → lgM m u w o p = m p := fun p h1 h2 => by
    unfold lgM
    rw [if_neg h1, if_neg (by omega), if_neg (by omega), if_neg (by omega), if_neg (by omega), if_neg (by omega)]
  exact ⟨gL', by rw [h.minute]; exact a1, by rw [o_ 3 (by decide) (by decide)]; exact h.W, by rw [o_ 5 (by decide) (by decide)]; exact h.S, by rw [o_ 6 (by decide) (by decide)]; exact h.D, by rw [o_ 4 (by decide) (by decide)]; exact h.U, by rw [o_ 7 (by decide) (by decide)]; exact h.T, by rw [o_ 8 (by decide) (by decide)]; exact h.slip, by rw [o_ 9 (by decide) (by decide)]; exact h.minute, by rw [o_ 11 (by decide) (by decide)]; exact h.seed, by rw [o_ 0 (by decide) (by decide)]; exact h.texts, h.w_.c hO (o_ 3 (by decide) (by decide)) (fun p a b => o_ p (by omega) (by omega)) rfl rfl rfl, h.p_.c hO.S.2.2 (o_ 5 (by decide) (by decide)) (fun p a b => o_ p (by omega) (by omega)) rfl, h.u_.c hO.U.2.2 (o_ 4 (by decide) (by decide)) (fun p a b => o_ p (by omega) (by omega)) rfl rfl rfl rfl rfl, a2, a3⟩
/-- how slips are told -/
def spV (x : Int32) : Int32 := if 0 < (if 100 < x then 100 else x) then (if 100 < x then 100 else x) else 0
theorem spV_q (x : Int32) : bd (f_X12_lesser 100 x) (fun r => f_X12_greater 0 r) = some (spV x) := by
  rw [q_lesser, bd_s, q_greater]
  unfold spV
  have e : (if x ≤ 100 then x else 100) = (if 100 < x then 100 else x) := by
    by_cases h : 100 < x
    · rw [if_pos h, if_neg (Int32.not_le.mpr h)]
    · rw [if_neg h, if_pos (Int32.not_lt.mp h)]
  rw [e]
  generalize (if (100 : Int32) < x then (100 : Int32) else x) = y
  by_cases h : 0 < y
  · rw [if_pos h, if_pos (Int32.le_of_lt h)]
  · rw [if_neg h]
    by_cases k : 0 ≤ y
    · rw [if_pos k]
      have := Int32.le_antisymm (Int32.not_lt.mp h) k
      rw [this]
    · rw [if_neg k]
/-- how tired one is after writing -/
def tV (T s a : Int32) : Int32 := if 99 < T + s + a then 99 else T + s + a
theorem tV_q (T s a : Int32) : f_X12_lesser 99 (T + (s + a)) = some (tV T s a) := by
  rw [q_lesser, ← Int32.add_assoc]
  unfold tV
  by_cases h : 99 < T + s + a
  · rw [if_pos h, if_neg (Int32.not_le.mpr h)]
  · rw [if_neg h, if_pos (Int32.not_lt.mp h)]
theorem tV_b {T s a : Nat} (hT : T ≤ 99) (hs : s ≤ 6) (ha : a ≤ 1188) : Bn (tV (nI T) (nI s) (nI a)) 0 99 := by
  unfold tV
  rw [nI_add, nI_add]
  by_cases h : 99 < T + s + a
  · rw [if_pos (show 99 < nI (T + s + a) from (nI_ltI (a := 99) (by omega) (by omega)).mpr h)]
    exact Bn.mk (n := 99) (by omega) (by omega) (by omega)
  · rw [if_neg (show ¬ 99 < nI (T + s + a) from fun y => h ((nI_ltI (a := 99) (by omega) (by omega)).mp y))]
    exact Bn.mk (by omega) (by omega) (by omega)
end K46
