/-! a writer's turn under a law -/
def lT {α : Type} (ln : Nat → Nat) (x4 x3 : Int32) (g0 g2 g3 g5 : Pic) (X : Pic → Pic → Pic → Option α) (s : Int32) (g1 g4 : Pic) : Option α := gdi x4 5 (bd2 (f_X0_lawOf_l ln g0 g1 g2 g3 g4 g5 0) (fun r_11 g1_11 => nm ((((g4 11 (x4.toNatClampNeg)) + (g2 0 2)) + r_11)) (fun x7_12 => gdi x4 5 (nm (pu g4 11 (x4.toNatClampNeg) (if 99 < x7_12 then 99 else x7_12)) (fun g4_14 => nB x4 x3 g5 (X g1_11) s g4_14)))))
def lTurn {α : Type} (ln : Nat → Nat) (g0 : Pic) (x2 x3 x4 : Int32) (g1 g2 g3 g4 g5 : Pic) (X : Pic → Pic → Pic → Pic → Pic → Option α) : Option α := bd2 (f_X0_observe_l ln g0 g1 g2 g3 g4 g5 x4 x3) (fun g2_3 g3_3 => bd (f_X0_isKeepingUp_l ln g0 g1 g2_3 g3_3 g4 g5) (fun r_4 => if r_4 = 0 then bd2 (f_X0_restOne_l ln g0 g1 g2_3 g3_3 g4 g5 x4) (fun g1_9 g4_9 => nB x4 x3 g5 (fun a b => X g1_9 g2_3 g3_3 a b) 0 g4_9) else if x2 = 0 then lT ln x4 x3 g0 g2_3 g3_3 g5 (fun l a b => X l g2_3 g3_3 a b) 1 g1 g4 else bd2 (f_X9_draw g4) (fun r_15 g4_15 => bd2 (f_X0_slipsOf_l ln g0 g1 g2_3 g3_3 g4_15 g5) (fun r_16 g1_16 => if r_16 ≤ (r_15 - r_15 / 100 * 100) then lT ln x4 x3 g0 g2_3 g3_3 g5 (fun l a b => X l g2_3 g3_3 a b) 1 g1_16 g4_15 else lT ln x4 x3 g0 g2_3 g3_3 g5 (fun l a b => X l g2_3 g3_3 a b) 2 g1_16 g4_15))))
section K49
variable {g g1 gS gL gF gH gl : Pic} {u w : Nat} {ln : Nat → Nat} {v : List Int32} {t : Nat → Int32}
theorem e_tireL (hO : Ok (g 1)) (hR : RS gS gL (g 1)) (hu : u < tn (g 1 4)) (hD : tn (g 1 6) < tn (g 1 5)) (w : Int32) {o S A : Nat} (ho : o ≤ 2) (hS : S ≤ 6) (hA : A ≤ 1188) (tA : t 0 = nI A) (h17 : g 17 0 = nI S + t 0) (f2 : gF 0 2 = nI S) (hF : ∀ k, k < 9 → gF 0 k = fsv v k) (hG : GL ln gl v t) {gl' : Pic} (e : ∀ j, j ≠ 5 → gl' j = gl j) (g0 gH : Pic) : ∃ g' gS' gL' gl'', qT g (nI u) w (nI o) = some g' ∧ Et g g' ∧ Ok (g' 1) ∧ RS gS' gL' (g' 1) ∧ (∀ j, j ≠ 5 → gl'' j = gl' j) ∧ ∀ {α : Type} (X : Pic → Pic → Pic → Option α), lT ln (nI u) w g0 gF gH gL X (nI o) gl' gS = X gl'' gS' gL' := by
  have u5 := hO.U.2.2
  have o3 : f_X12_of g (nI u) 3 = some (wr (g 1) u 3) := q_of (k := 3) (by omega) (by decide)
  have s3 := hR.tired hu
  obtain ⟨T, e1, -, -, e2⟩ := (hO.tired hu).ex
  have b := tV_b e2 hS hA
  rw [← e1, ← tA] at b
  obtain ⟨gl'', n1, n2⟩ := hG gF hF gl' e 0 (by decide)
  have n1 : f_X4_sumOf ln gl' gF 0 = some (t 0, gl'') := n1
  have O1 := hO.wr_ (k := 3) (v := tV (wr (g 1) u 3) (nI S) (t 0)) hu (by decide) (fun y => by omega) (fun y => by omega) (fun y => by omega) (fun _ => b)
  have R1 := hR.wr_ (k := 3) hO hu (by decide) (tV (wr (g 1) u 3) (nI S) (t 0))
  have r1 : (pu g 1 (96 + 4 * u + 3) (tV (wr (g 1) u 3) (nI S) (t 0))) 1 = upd (g 1) (96 + 4 * u + 3) (tV (wr (g 1) u 3) (nI S) (t 0)) := by rw [pu_row, if_pos rfl]
  obtain ⟨g', gS', gL', a1, a2, a3, a4, a5⟩ := e_turnEnd (g := pu g 1 (96 + 4 * u + 3) (tV (wr (g 1) u 3) (nI S) (t 0))) (gS := pu gS 11 u (tV (wr (g 1) u 3) (nI S) (t 0))) (gL := gL) (u := u) (by rw [r1]; exact O1) (by rw [r1]; exact R1) (by rw [r1, upd_o (by omega)]; exact hu) (by rw [r1, upd_o (by omega), upd_o (by omega)]; exact hD) w ho
  refine ⟨g', gS', gL', gl'', ?_, Et.tr ⟨fun k h1 _ => pu_o h1, by rw [pu_o (by decide)], fun p hp => by rw [r1, upd_o (by omega)]⟩ a2, a3, a4, n2, fun X => ?_⟩
  · unfold qT
    rw [o3, bd_s, h17, tV_q, bd_s]
    have l3 : f_X12_lays g (nI u) 3 (tV (wr (g 1) u 3) (nI S) (t 0)) = some (pu g 1 (96 + 4 * u + 3) (tV (wr (g 1) u 3) (nI S) (t 0))) := q_lays (k := 3) (by omega) (by decide) _
    rw [l3, bd_s]
    exact a1
  · unfold lT f_X0_lawOf_l
    rw [gdi_n (by omega) (by omega), n1, bd2_s, bd2_s, nm_s, nI_clamp (by omega), gdi_n (by omega) (by omega), nm_s, s3, f2]
    exact a5 (X gl'')
theorem e_turnL (hO : Ok (g 1)) (hR : RS gS gL (g 1)) (hu : u < tn (g 1 4)) (hw : w < tn (g 1 3)) (hD : tn (g 1 6) < tn (g 1 5)) (hW : LW (g 1) ln gl) (x2 : Int32) (g0 gF gH : Pic) : ∃ g' gl' gF' gH' gS' gL', f_X12_writes g (nI u) (nI w) x2 = some g' ∧ Et g g' ∧ Ok (g' 1) ∧ RS gS' gL' (g' 1) ∧ LW (g' 1) ln gl' ∧ ∀ {α : Type} (X : Pic → Pic → Pic → Pic → Pic → Option α), lTurn ln g0 x2 (nI w) (nI u) gl gF gH gS gL X = X gl' gF' gH' gS' gL' := by
  obtain ⟨gF2, gH2, o1, o2⟩ := k_obsW hO hR hu hw g0 gF gH
  have kk := k_keep hR o2 g0 gH2
  have qk := q_keep hO hu hw
  have hA := q_asksW hO hu hw
  have lw : ∀ {g' gl' : Pic}, Et g g' → (∀ j, j ≠ 5 → gl' j = gl j) → LW (g' 1) ln gl' := fun h e => (hW.c (h.2.2 1 (by omega)) (h.2.2 2 (by omega)) (fun p hp => h.2.2 p (by omega))).g e
  rw [q_writes, qk, bd_s]
  unfold lTurn
  simp only [obs_ln, keep_ln, o1, bd2_s, kk, bd_s]
  rcases kpB_b (g 1) u w with kb | kb
  · obtain ⟨g2, gS2, gl2, e1, e2, e3, e4, e5, e6⟩ := e_restL hO hR hu hA (bv_W _ _ _) hW o2 g0 gH2
    have c4 : g2 1 4 = g 1 4 := e2.2.2 4 (by omega)
    have c5 : g2 1 5 = g 1 5 := e2.2.2 5 (by omega)
    have c6 : g2 1 6 = g 1 6 := e2.2.2 6 (by omega)
    obtain ⟨g', gS', gL', a1, a2, a3, a4, a5⟩ := e_turnEnd (u := u) e4 e5 (by rw [c4]; exact hu) (by rw [c5, c6]; exact hD) (nI w) (o := 0) (by omega)
    refine ⟨g', gl2, gF2, gH2, gS', gL', ?_, e2.et.tr a2, a3, a4, e6.c (a2.2.2 1 (by omega)) (a2.2.2 2 (by omega)) (fun p hp => a2.2.2 p (by omega)), fun X => ?_⟩
    · rw [if_pos kb, e1, bd_s]; exact a1
    · rw [if_pos kb, e3, bd2_s]; exact a5 (fun a b => X gl2 gF2 gH2 a b)
  · have nk : ¬ kpB (g 1) u w = 0 := by rw [kb]; decide
    obtain ⟨g1, t, a1, a2, a3, -, a5, a6, a7⟩ := q_asksL hA (bv_W _ _ _) hW
    obtain ⟨A, hA1, hA2⟩ := a6 0
    have m1 : g1 1 = g 1 := a2.1 1 (by omega)
    have sl := q_slips hO hu a1 a2 (a := t 2) a5
    have S6 := kl_6 hO hw (wr (g 1) u 0)
    have f2 : gF2 0 2 = nI (kl (g 1) w (wr (g 1) u 0)).length := o2 2 (by decide)
    have h17 : g1 17 0 = nI (kl (g 1) w (wr (g 1) u 0)).length + t 0 := a3
    simp only [if_neg nk, sl, bd2_s]
    by_cases z : x2 = 0
    · obtain ⟨g', gS', gL', gl2, b1, b2, b3, b4, b6, b5⟩ := e_tireL (g := g1) (gS := gS) (gL := gL) (u := u) (by rw [m1]; exact hO) (by rw [m1]; exact hR) (by rw [m1]; exact hu) (by rw [m1]; exact hD) (nI w) (o := 1) (by omega) S6 hA1 hA2 h17 f2 o2 a7 (fun _ _ => rfl) g0 gH2
      refine ⟨g', gl2, gF2, gH2, gS', gL', ?_, a2.et.tr b2, b3, b4, lw (a2.et.tr b2) b6, fun X => ?_⟩
      · rw [if_pos z]; exact b1
      · rw [if_pos z]; exact b5 (fun l a b => X l gF2 gH2 a b)
    · obtain ⟨O2, R2⟩ := st_draw hO hR
      have r2 : (pu g1 1 11 (drS (g1 1 11))) 1 = upd (g 1) 11 (drS (g 1 11)) := by rw [pu_row, if_pos rfl, m1]
      obtain ⟨gl3, ks, ks2⟩ := k_slipsL (gL := gL) (u := u) (m := g 1) (gS := pu gS 16 0 (drS (gS 16 0))) (gF := gF2) (by rw [pu_o (by decide)]; exact hR.slip) o2 rfl a7 (gl' := gl) (fun _ _ => rfl) g0 gH2
      have tire : ∀ o, o ≤ 2 → ∃ g' gS' gL' gl2, qT (pu g1 1 11 (drS (g1 1 11))) (nI u) (nI w) (nI o) = some g' ∧ Et (pu g1 1 11 (drS (g1 1 11))) g' ∧ Ok (g' 1) ∧ RS gS' gL' (g' 1) ∧ (∀ j, j ≠ 5 → gl2 j = gl3 j) ∧ ∀ {α : Type} (X : Pic → Pic → Pic → Option α), lT ln (nI u) (nI w) g0 gF2 gH2 gL X (nI o) gl3 (pu gS 16 0 (drS (gS 16 0))) = X gl2 gS' gL' := fun o ho =>
        e_tireL (u := u) (by rw [r2]; exact O2) (by rw [r2]; exact R2) (by rw [r2, upd_o (by omega)]; exact hu) (by rw [r2, upd_o (by omega), upd_o (by omega)]; exact hD) (nI w) ho S6 hA1 hA2 (by rw [pu_o (by decide)]; exact h17) f2 o2 a7 ks2 g0 gH2
      have et : Et g (pu g1 1 11 (drS (g1 1 11))) := a2.et.tr ⟨fun k h1 _ => pu_o h1, by rw [pu_o (by decide)], fun p hp => by rw [pu_s, if_neg (by omega)]⟩
      have se : gS 16 0 = g1 1 11 := by rw [m1]; exact hR.seed
      by_cases c : spV ((g 1 8 + t 2) - 5 * wr (g 1) u 2) ≤ drV (g1 1 11) - drV (g1 1 11) / 100 * 100
      · obtain ⟨g', gS', gL', gl2, b1, b2, b3, b4, b6, b5⟩ := tire 1 (by omega)
        refine ⟨g', gl2, gF2, gH2, gS', gL', ?_, et.tr b2, b3, b4, lw (et.tr b2) (fun j hj => (b6 j hj).trans (ks2 j hj)), fun X => ?_⟩
        · rw [if_neg z, q_draw, bd2_s, if_pos c]; exact b1
        · rw [if_neg z, k_draw, bd2_s, ks, bd2_s, if_pos (by rw [se]; exact c)]; exact b5 (fun l a b => X l gF2 gH2 a b)
      · obtain ⟨g', gS', gL', gl2, b1, b2, b3, b4, b6, b5⟩ := tire 2 (by omega)
        refine ⟨g', gl2, gF2, gH2, gS', gL', ?_, et.tr b2, b3, b4, lw (et.tr b2) (fun j hj => (b6 j hj).trans (ks2 j hj)), fun X => ?_⟩
        · rw [if_neg z, q_draw, bd2_s, if_neg c]; exact b1
        · rw [if_neg z, k_draw, bd2_s, ks, bd2_s, if_neg (by rw [se]; exact c)]; exact b5 (fun l a b => X l gF2 gH2 a b)
end K49
