/-! what is asked of the law: the facts, on both sides -/
def fsv (v : List Int32) (i : Nat) : Int32 := v.getD i 0
def b2i (p : Bool) : Int32 := if p then 1 else 0
/-- the facts for writer u and word w -/
def fsW (m : Nat → Int32) (u w : Nat) : List Int32 := [nI u, nI w, nI (kl m w (wr m u 0)).length, wd m w 6, wr m u 1, wr m u 2, wr m u 3, (if nI (kl m w (wr m u 0)).length = wd m w 6 then 1 else 0), (if lk m w (wr m u 0) = (1 : Int32) <<< (nI w &&& 31) then 1 else 0)]
/-- and for no word -/
def fsN (m : Nat → Int32) (u : Nat) : List Int32 := [nI u, 8, 0, 0, wr m u 1, wr m u 2, wr m u 3, 0, 0]
theorem obs_ln (ln : Nat → Nat) (g0 g1 g2 g3 g4 g5 : Pic) (x2 x3 : Int32) : f_X0_observe_l ln g0 g1 g2 g3 g4 g5 x2 x3 = f_X0_observe_n g0 g2 g3 g4 g5 x2 x3 := rfl
section K40
variable {m : Nat → Int32} {g gS gL : Pic} {u w : Nat}
theorem k_obsN (hO : Ok m) (hR : RS gS gL m) (hu : u < tn (m 4)) (g0 gF gH : Pic) : ∃ gF', f_X0_observe_n g0 gF gH gS gL (nI u) 8 = some (gF', gH) ∧ ∀ k, k < 9 → gF' 0 k = fsv (fsN m u) k := by
  have u5 := hO.U.2.2
  have w8 := hO.W.2.2
  have eW : gS 0 0 = nI (tn (m 3)) := by rw [hR.W]; exact hO.W.1
  have le : gS 0 0 ≤ 8 := by rw [eW]; exact nI_le (b := 8) (by omega) (by omega)
  have s1 := hR.speed hu
  have s2 := hR.skill hu
  have s3 := hR.tired hu
  refine ⟨pu (pu (pu (pu (pu (pu (pu (pu (pu gF 0 0 (nI u)) 0 1 8) 0 2 0) 0 3 0) 0 4 (wr m u 1)) 0 5 (wr m u 2)) 0 6 (wr m u 3)) 0 7 0) 0 8 0, ?_, fun k hk => ?_⟩
  · unfold f_X0_observe_n
    simp (disch := omega) only [nm_s, jn_s, gdi_n, nI_clamp, s1, s2, s3, le, if_true]
  · have : k = 0 ∨ k = 1 ∨ k = 2 ∨ k = 3 ∨ k = 4 ∨ k = 5 ∨ k = 6 ∨ k = 7 ∨ k = 8 := by omega
    rcases this with rfl | rfl | rfl | rfl | rfl | rfl | rfl | rfl | rfl <;> rfl
theorem k_obsW (hO : Ok m) (hR : RS gS gL m) (hu : u < tn (m 4)) (hw : w < tn (m 3)) (g0 gF gH : Pic) : ∃ gF' gH', f_X0_observe_n g0 gF gH gS gL (nI u) (nI w) = some (gF', gH') ∧ ∀ k, k < 9 → gF' 0 k = fsv (fsW m u w) k := by
  have u5 := hO.U.2.2
  have w8 := hO.W.2.2
  have eW : gS 0 0 = nI (tn (m 3)) := by rw [hR.W]; exact hO.W.1
  have le : ¬ gS 0 0 ≤ nI w := by rw [eW]; exact nI_ge (by omega) (by omega)
  have s0 := hR.leaves hu
  have s1 := hR.speed hu
  have s2 := hR.skill hu
  have s3 := hR.tired hu
  have sl := hR.len hw
  obtain ⟨gH', t1, t2⟩ := k_take hO hR gH (wr m u 0)
  have h1 := (t2.2 w hw).2.1
  have lk' := k_like hO t2 hw
  refine ⟨pu (pu (pu (pu (pu (pu (pu (pu (pu (pu (pu (pu (pu gF 0 0 (nI u)) 0 1 (nI w)) 0 2 0) 0 3 0) 0 4 (wr m u 1)) 0 5 (wr m u 2)) 0 6 (wr m u 3)) 0 7 0) 0 8 0) 0 2 (nI (kl m w (wr m u 0)).length)) 0 3 (wd m w 6)) 0 7 (if nI (kl m w (wr m u 0)).length = wd m w 6 then 1 else 0)) 0 8 (if lk m w (wr m u 0) = (1 : Int32) <<< (nI w &&& 31) then 1 else 0), gH', ?_, fun k hk => ?_⟩
  · unfold f_X0_observe_n
    simp (disch := omega) only [nm_s, bd_s, jn_s, gdi_n, nI_clamp, s0, s1, s2, s3, le, if_false, t1, h1, sl, lk']
    by_cases a : nI (kl m w (wr m u 0)).length = wd m w 6
    · rw [if_pos a, if_pos a]
      by_cases b : lk m w (wr m u 0) = (1 : Int32) <<< (nI w &&& 31)
      · rw [if_pos b, if_pos b]; rfl
      · rw [if_neg b, if_neg b]; rfl
    · rw [if_neg a, if_neg a]
      by_cases b : lk m w (wr m u 0) = (1 : Int32) <<< (nI w &&& 31)
      · rw [if_pos b, if_pos b]; rfl
      · rw [if_neg b, if_neg b]; rfl
  · have : k = 0 ∨ k = 1 ∨ k = 2 ∨ k = 3 ∨ k = 4 ∨ k = 5 ∨ k = 6 ∨ k = 7 ∨ k = 8 := by omega
    rcases this with rfl | rfl | rfl | rfl | rfl | rfl | rfl | rfl | rfl <;> rfl
end K40
