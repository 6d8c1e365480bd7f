/-! a writer's turn, no law -/
def qB (g : Pic) (x1 x2 o : Int32) : Option Pic := gdi ((116 + (20 * x1)) + (g 1 6)) 856 (nm (pu g 1 (((116 + (20 * x1)) + (g 1 6)).toNatClampNeg) o) (fun g0_3 => bd (f_X12_logs g0_3 x1 x2 o) (fun g0_4 => some g0_4)))
def qT (g : Pic) (x1 x2 o : Int32) : Option Pic := bd (f_X12_of g x1 3) (fun r_7 => bd (f_X12_lesser 99 (r_7 + (g 17 0))) (fun r_8 => bd (f_X12_lays g x1 3 r_8) (fun g0_9 => qB g0_9 x1 x2 o)))
theorem q_writes (g : Pic) (x1 x2 x3 : Int32) : f_X12_writes g x1 x2 x3 = bd (f_X12_doesKeep g x1 x2) (fun r_1 => if r_1 = 0 then bd (f_X12_easesOff g x1 x2) (fun g0_5 => qB g0_5 x1 x2 0) else bd2 (f_X12_slipsOf g x1 x2) (fun r_6 g0_6 => if x3 = 0 then qT g0_6 x1 x2 1 else bd2 (f_X12_draw g0_6 100) (fun r_10 g0_10 => if r_6 ≤ r_10 then qT g0_10 x1 x2 1 else qT g0_10 x1 x2 2))) := by
  unfold f_X12_writes qT qB
  simp only [jn_s]
def nB {α : Type} (x4 x3 : Int32) (g4 : Pic) (X : Pic → Pic → Option α) (x5 : Int32) (g3 : Pic) : Option α := gdi ((x4 * 20) + (g3 6 0)) 100 (nm (pu g3 12 (((x4 * 20) + (g3 6 0)).toNatClampNeg) x5) (fun g3_6 => bd (f_X7_add g4 (g3_6 15 0) x4 x3 x5) (fun g4_7 => X g3_6 g4_7)))
def nT {α : Type} (x4 x3 : Int32) (g0 g1 g2 g4 : Pic) (X : Pic → Pic → Option α) (s : Int32) (g3 : Pic) : Option α := gdi x4 5 (bd (f_X0_lawOf_n g0 g1 g2 g3 g4 0) (fun r_11 => nm ((((g3 11 (x4.toNatClampNeg)) + (g1 0 2)) + r_11)) (fun x7_12 => gdi x4 5 (nm (pu g3 11 (x4.toNatClampNeg) (if 99 < x7_12 then 99 else x7_12)) (fun g3_14 => nB x4 x3 g4 X s g3_14)))))
def nTurn {α : Type} (g0 : Pic) (x2 x3 x4 : Int32) (g1 g2 g3 g4 : Pic) (X : Pic → Pic → Pic → Pic → Option α) : Option α := bd2 (f_X0_observe_n g0 g1 g2 g3 g4 x4 x3) (fun g1_3 g2_3 => bd (f_X0_isKeepingUp_n g0 g1_3 g2_3 g3 g4) (fun r_4 => if r_4 = 0 then bd (f_X0_restOne_n g0 g1_3 g2_3 g3 g4 x4) (fun g3_9 => nB x4 x3 g4 (X g1_3 g2_3) 0 g3_9) else if x2 = 0 then nT x4 x3 g0 g1_3 g2_3 g4 (X g1_3 g2_3) 1 g3 else bd2 (f_X9_draw g3) (fun r_15 g3_15 => bd (f_X0_slipsOf_n g0 g1_3 g2_3 g3_15 g4) (fun r_16 => if r_16 ≤ (r_15 - r_15 / 100 * 100) then nT x4 x3 g0 g1_3 g2_3 g4 (X g1_3 g2_3) 1 g3_15 else nT x4 x3 g0 g1_3 g2_3 g4 (X g1_3 g2_3) 2 g3_15))))
section K48
variable {g g1 gS gL gF gH gl : Pic} {u w : Nat}
theorem e_tireN (hO : Ok (g 1)) (hR : RS gS gL (g 1)) (hu : u < tn (g 1 4)) (hD : tn (g 1 6) < tn (g 1 5)) (w : Int32) {o S : Nat} (ho : o ≤ 2) (hS : S ≤ 6) (h17 : g 17 0 = nI S) (f2 : gF 0 2 = nI S) (g0 gH : Pic) : ∃ g' gS' gL', qT g (nI u) w (nI o) = some g' ∧ Et g g' ∧ Ok (g' 1) ∧ RS gS' gL' (g' 1) ∧ ∀ {α : Type} (X : Pic → Pic → Option α), nT (nI u) w g0 gF gH gL X (nI o) gS = X gS' gL' := by
  have u5 := hO.U.2.2
  have o3 : f_X12_of g (nI u) 3 = some (wr (g 1) u 3) := q_of (k := 3) (by omega) (by decide)
  have s3 := hR.tired hu
  obtain ⟨T, e1, -, -, e2⟩ := (hO.tired hu).ex
  have b := tV_b e2 hS (a := 0) (by omega)
  rw [← e1] at b
  have O1 := hO.wr_ (k := 3) (v := tV (wr (g 1) u 3) (nI S) (nI 0)) hu (by decide) (fun y => by omega) (fun y => by omega) (fun y => by omega) (fun _ => b)
  have R1 := hR.wr_ (k := 3) hO hu (by decide) (tV (wr (g 1) u 3) (nI S) (nI 0))
  have r1 : (pu g 1 (96 + 4 * u + 3) (tV (wr (g 1) u 3) (nI S) (nI 0))) 1 = upd (g 1) (96 + 4 * u + 3) (tV (wr (g 1) u 3) (nI S) (nI 0)) := by rw [pu_row, if_pos rfl]
  obtain ⟨g', gS', gL', a1, a2, a3, a4, a5⟩ := e_turnEnd (g := pu g 1 (96 + 4 * u + 3) (tV (wr (g 1) u 3) (nI S) (nI 0))) (gS := pu gS 11 u (tV (wr (g 1) u 3) (nI S) (nI 0))) (gL := gL) (u := u) (by rw [r1]; exact O1) (by rw [r1]; exact R1) (by rw [r1, upd_o (by omega)]; exact hu) (by rw [r1, upd_o (by omega), upd_o (by omega)]; exact hD) w ho
  refine ⟨g', gS', gL', ?_, Et.tr ⟨fun k h1 _ => pu_o h1, by rw [pu_o (by decide)], fun p hp => by rw [r1, upd_o (by omega)]⟩ a2, a3, a4, fun X => ?_⟩
  · unfold qT
    rw [o3, bd_s, h17]
    have q := tV_q (wr (g 1) u 3) (nI S) (nI 0)
    rw [show nI S + nI 0 = nI S from nI_add S 0] at q
    rw [q, bd_s]
    have l3 : f_X12_lays g (nI u) 3 (tV (wr (g 1) u 3) (nI S) (nI 0)) = some (pu g 1 (96 + 4 * u + 3) (tV (wr (g 1) u 3) (nI S) (nI 0))) := q_lays (k := 3) (by omega) (by decide) _
    rw [l3, bd_s]
    exact a1
  · unfold nT f_X0_lawOf_n
    rw [gdi_n (by omega) (by omega), bd_s, nm_s, nI_clamp (by omega), gdi_n (by omega) (by omega), nm_s, s3, f2]
    exact a5 X
theorem kl_6 {m : Nat → Int32} (hO : Ok m) (hw : w < tn (m 3)) (x : Int32) : (kl m w x).length ≤ 6 := by
  have a := kls_len m w x (tn (wd m w 6))
  have b := (hO.len hw).2.2
  unfold kl
  omega
/-- the whole turn -/
theorem e_turnN (hO : Ok (g 1)) (hR : RS gS gL (g 1)) (hu : u < tn (g 1 4)) (hw : w < tn (g 1 3)) (hD : tn (g 1 6) < tn (g 1 5)) (h1 : g 1 1 = 0) (x2 : Int32) (g0 gF gH : Pic) : ∃ g' gF' gH' gS' gL', f_X12_writes g (nI u) (nI w) x2 = some g' ∧ Et g g' ∧ Ok (g' 1) ∧ RS gS' gL' (g' 1) ∧ ∀ {α : Type} (X : Pic → Pic → Pic → Pic → Option α), nTurn g0 x2 (nI w) (nI u) gF gH gS gL X = X gF' gH' gS' gL' := by
  obtain ⟨gF2, gH2, o1, o2⟩ := k_obsW hO hR hu hw g0 gF gH
  have kk := k_keep hR o2 g0 gH2
  have qk := q_keep hO hu hw
  have hA := q_asksW hO hu hw
  rw [q_writes, qk, bd_s]
  unfold nTurn
  simp only [o1, bd2_s, kk, bd_s]
  rcases kpB_b (g 1) u w with kb | kb
  · obtain ⟨g2, gS2, e1, e2, e3, e4, e5⟩ := e_restN hO hR hu hA h1 g0 gF2 gH2
    have c4 : g2 1 4 = g 1 4 := e2.2.2 4 (by omega)
    have c5 : g2 1 5 = g 1 5 := e2.2.2 5 (by omega)
    have c6 : g2 1 6 = g 1 6 := e2.2.2 6 (by omega)
    obtain ⟨g', gS', gL', a1, a2, a3, a4, a5⟩ := e_turnEnd (u := u) e4 e5 (by rw [c4]; exact hu) (by rw [c5, c6]; exact hD) (nI w) (o := 0) (by omega)
    refine ⟨g', gF2, gH2, gS', gL', ?_, e2.et.tr a2, a3, a4, fun X => ?_⟩
    · rw [if_pos kb, e1, bd_s]; exact a1
    · rw [if_pos kb, e3, bd_s]; exact a5 (X gF2 gH2)
  · have nk : ¬ kpB (g 1) u w = 0 := by rw [kb]; decide
    obtain ⟨g1, a1, a2, a3, -, a5⟩ := q_asksO hA h1
    have m1 : g1 1 = g 1 := a2.1 1 (by omega)
    have sl := q_slips hO hu a1 a2 (a := 0) (by rw [a5, Int32.add_zero])
    have S6 := kl_6 hO hw (wr (g 1) u 0)
    have f2 : gF2 0 2 = nI (kl (g 1) w (wr (g 1) u 0)).length := o2 2 (by decide)
    have f5 : gF2 0 5 = wr (g 1) u 2 := o2 5 (by decide)
    have h17 : g1 17 0 = nI (kl (g 1) w (wr (g 1) u 0)).length := a3
    simp only [if_neg nk, sl, bd2_s]
    by_cases z : x2 = 0
    · obtain ⟨g', gS', gL', b1, b2, b3, b4, b5⟩ := e_tireN (g := g1) (gS := gS) (gL := gL) (u := u) (by rw [m1]; exact hO) (by rw [m1]; exact hR) (by rw [m1]; exact hu) (by rw [m1]; exact hD) (nI w) (o := 1) (by omega) S6 h17 f2 g0 gH2
      refine ⟨g', gF2, gH2, gS', gL', ?_, a2.et.tr b2, b3, b4, fun X => ?_⟩
      · rw [if_pos z]; exact b1
      · rw [if_pos z]; exact b5 (X gF2 gH2)
    · obtain ⟨O2, R2⟩ := st_draw hO hR
      have r2 : (pu g1 1 11 (drS (g1 1 11))) 1 = upd (g 1) 11 (drS (g 1 11)) := by rw [pu_row, if_pos rfl, m1]
      have ks := k_slipsN (gL := gL) (u := u) (m := g 1) (gS := pu gS 16 0 (drS (gS 16 0))) (gF := gF2) (by rw [pu_o (by decide)]; exact hR.slip) f5 g0 gH2
      have tire : ∀ o, o ≤ 2 → ∃ g' gS' gL', qT (pu g1 1 11 (drS (g1 1 11))) (nI u) (nI w) (nI o) = some g' ∧ Et (pu g1 1 11 (drS (g1 1 11))) g' ∧ Ok (g' 1) ∧ RS gS' gL' (g' 1) ∧ ∀ {α : Type} (X : Pic → Pic → Option α), nT (nI u) (nI w) g0 gF2 gH2 gL X (nI o) (pu gS 16 0 (drS (gS 16 0))) = X gS' gL' := fun o ho =>
        e_tireN (u := u) (by rw [r2]; exact O2) (by rw [r2]; exact R2) (by rw [r2, upd_o (by omega)]; exact hu) (by rw [r2, upd_o (by omega), upd_o (by omega)]; exact hD) (nI w) ho S6 (by rw [pu_o (by decide)]; exact h17) f2 g0 gH2
      have et : Et g (pu g1 1 11 (drS (g1 1 11))) := a2.et.tr ⟨fun k h1 _ => pu_o h1, by rw [pu_o (by decide)], fun p hp => by rw [pu_s, if_neg (by omega)]⟩
      have se : gS 16 0 = g1 1 11 := by rw [m1]; exact hR.seed
      by_cases c : spV ((g 1 8 + 0) - 5 * wr (g 1) u 2) ≤ drV (g1 1 11) - drV (g1 1 11) / 100 * 100
      · obtain ⟨g', gS', gL', b1, b2, b3, b4, b5⟩ := tire 1 (by omega)
        refine ⟨g', gF2, gH2, gS', gL', ?_, et.tr b2, b3, b4, fun X => ?_⟩
        · rw [if_neg z, q_draw, bd2_s, if_pos c]; exact b1
        · rw [if_neg z, k_draw, bd2_s, ks, bd_s, if_pos (by rw [se]; exact c)]; exact b5 (X gF2 gH2)
      · obtain ⟨g', gS', gL', b1, b2, b3, b4, b5⟩ := tire 2 (by omega)
        refine ⟨g', gF2, gH2, gS', gL', ?_, et.tr b2, b3, b4, fun X => ?_⟩
        · rw [if_neg z, q_draw, bd2_s, if_neg c]; exact b1
        · rw [if_neg z, k_draw, bd2_s, ks, bd_s, if_neg (by rw [se]; exact c)]; exact b5 (X gF2 gH2)
end K48
