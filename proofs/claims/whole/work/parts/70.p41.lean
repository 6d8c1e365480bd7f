/-! what is asked of the law: the reference -/
def qAsk (g0_19 : Pic) : Option Pic := nm ((g0_19 12 0)) (fun x5_20 => nm (pu g0_19 12 0 (-1)) (fun g0_21 => nm (pu g0_21 9 0 456) (fun g0_22 => jn (fun (s1_J236 : Int32) => nm (pu g0_22 10 0 s1_J236) (fun g0_23 => nm (pu g0_23 11 0 0) (fun g0_24 => nm (pu g0_24 13 0 0) (fun g0_25 => bd2 (f_X12_read g0_25 1) (fun r_26 g0_26 => nm (pu g0_26 12 0 x5_20) (fun g0_27 => some g0_27)))))) (fun J236 => (if 1 ≤ (g0_22 1 1) then J236 (g0_22 1 2) else J236 0)))))
theorem q_ask (g : Pic) : qAsk g = bd2 (f_X12_read (rrd g (if 1 ≤ g 1 1 then g 1 2 else 0)) 1) (fun r_26 g0_26 => some (pu g0_26 12 0 (g 12 0))) := by
  unfold qAsk rrd
  simp only [nm_s, jn_s]
  have e1 : (pu (pu g 12 0 (-1)) 9 0 456) 1 1 = g 1 1 := rfl
  have e2 : (pu (pu g 12 0 (-1)) 9 0 456) 1 2 = g 1 2 := rfl
  rw [e1, e2]
  by_cases h : 1 ≤ g 1 1
  · rw [if_pos h, if_pos h]
  · rw [if_neg h, if_neg h]
/-- the facts laid down -/
def aF (g : Pic) (v : List Int32) : Pic := pu (pu (pu (pu (pu (pu (pu (pu (pu (pu (pu (pu g 17 0 (fsv v 2)) 18 0 2) 19 0 (g 1 8)) 14 0 (fsv v 0)) 14 1 (fsv v 1)) 14 2 (fsv v 2)) 14 3 (fsv v 3)) 14 4 (fsv v 4)) 14 5 (fsv v 5)) 14 6 (fsv v 6)) 15 0 (fsv v 7)) 16 0 (fsv v 8)
theorem aF_o {g : Pic} {v : List Int32} {k : Nat} (h4 : k ≠ 14) (h5 : k ≠ 15) (h6 : k ≠ 16) (h7 : k ≠ 17) (h8 : k ≠ 18) (h9 : k ≠ 19) : aF g v k = g k := by
  unfold aF
  rw [pu_o h6, pu_o h5, pu_o h4, pu_o h4, pu_o h4, pu_o h4, pu_o h4, pu_o h4, pu_o h4, pu_o h9, pu_o h8, pu_o h7]
theorem aF_fa (g : Pic) (v : List Int32) {i : Nat} (h : i < 9) : fa_ (aF g v) i = fsv v i := by
  have : i = 0 ∨ i = 1 ∨ i = 2 ∨ i = 3 ∨ i = 4 ∨ i = 5 ∨ i = 6 ∨ i = 7 ∨ i = 8 := by omega
  rcases this with rfl | rfl | rfl | rfl | rfl | rfl | rfl | rfl | rfl <;> rfl
theorem gd_17 {α : Type} (x : Option α) : gdi (1 : Int32) 7 x = x := gdi_n (c := 1) (by omega) (by omega)
theorem gd_37 {α : Type} (x : Option α) : gdi (3 : Int32) 7 x = x := gdi_n (c := 3) (by omega) (by omega)
section K41
variable {g : Pic} {u w : Nat}
theorem q_asksW (hO : Ok (g 1)) (hu : u < tn (g 1 4)) (hw : w < tn (g 1 3)) : f_X12_asks g (nI u) (nI w) = qAsk (aF g (fsW (g 1) u w)) := by
  have u5 := hO.U.2.2
  have w8 := hO.W.2.2
  have nm1 : ¬ nI w = -1 := by rw [nI_m1 (by omega)]; exact id
  have o0 : f_X12_of g (nI u) 0 = some (wr (g 1) u 0) := q_of (k := 0) (by omega) (by decide)
  have st := q_strokes hO hw (wr (g 1) u 0)
  have e8 : ∀ s : Int32, (pu (pu g 17 0 s) 18 0 2) 1 8 = g 1 8 := fun _ => rfl
  have t1 : (1 : Int32).toNatClampNeg = 1 := rfl
  have t3 : (3 : Int32).toNatClampNeg = 3 := rfl
  have ow : f_X12_ofWord (pu (pu (pu (pu (pu (pu g 17 0 (nI (kl (g 1) w (wr (g 1) u 0)).length)) 18 0 2) 19 0 (g 1 8)) 14 0 (nI u)) 14 1 (nI w)) 14 2 (nI (kl (g 1) w (wr (g 1) u 0)).length)) (nI w) 6 = some (wd (g 1) w 6) := q_ofWord (k := 6) (by omega) (by decide)
  have o1 : f_X12_of (pu (pu (pu (pu (pu (pu (pu g 17 0 (nI (kl (g 1) w (wr (g 1) u 0)).length)) 18 0 2) 19 0 (g 1 8)) 14 0 (nI u)) 14 1 (nI w)) 14 2 (nI (kl (g 1) w (wr (g 1) u 0)).length)) 14 3 (wd (g 1) w 6)) (nI u) 1 = some (wr (g 1) u 1) := q_of (k := 1) (by omega) (by decide)
  have o2 : f_X12_of (pu (pu (pu (pu (pu (pu (pu (pu g 17 0 (nI (kl (g 1) w (wr (g 1) u 0)).length)) 18 0 2) 19 0 (g 1 8)) 14 0 (nI u)) 14 1 (nI w)) 14 2 (nI (kl (g 1) w (wr (g 1) u 0)).length)) 14 3 (wd (g 1) w 6)) 14 4 (wr (g 1) u 1)) (nI u) 2 = some (wr (g 1) u 2) := q_of (k := 2) (by omega) (by decide)
  have o3 : f_X12_of (pu (pu (pu (pu (pu (pu (pu (pu (pu g 17 0 (nI (kl (g 1) w (wr (g 1) u 0)).length)) 18 0 2) 19 0 (g 1 8)) 14 0 (nI u)) 14 1 (nI w)) 14 2 (nI (kl (g 1) w (wr (g 1) u 0)).length)) 14 3 (wd (g 1) w 6)) 14 4 (wr (g 1) u 1)) 14 5 (wr (g 1) u 2)) (nI u) 3 = some (wr (g 1) u 3) := q_of (k := 3) (by omega) (by decide)
  have e3 : (pu (pu (pu (pu (pu (pu (pu (pu (pu (pu g 17 0 (nI (kl (g 1) w (wr (g 1) u 0)).length)) 18 0 2) 19 0 (g 1 8)) 14 0 (nI u)) 14 1 (nI w)) 14 2 (nI (kl (g 1) w (wr (g 1) u 0)).length)) 14 3 (wd (g 1) w 6)) 14 4 (wr (g 1) u 1)) 14 5 (wr (g 1) u 2)) 14 6 (wr (g 1) u 3)) 14 3 = (wd (g 1) w 6) := rfl
  have o17 : ∀ p : Int32, f_X12_of (pu (pu (pu (pu (pu (pu (pu (pu (pu (pu (pu g 17 0 (nI (kl (g 1) w (wr (g 1) u 0)).length)) 18 0 2) 19 0 (g 1 8)) 14 0 (nI u)) 14 1 (nI w)) 14 2 (nI (kl (g 1) w (wr (g 1) u 0)).length)) 14 3 (wd (g 1) w 6)) 14 4 (wr (g 1) u 1)) 14 5 (wr (g 1) u 2)) 14 6 (wr (g 1) u 3)) 15 0 p) (nI u) 0 = some (wr (g 1) u 0) := fun p => q_of (k := 0) (by omega) (by decide)
  have l17 : ∀ p : Int32, f_X12_likeBy (pu (pu (pu (pu (pu (pu (pu (pu (pu (pu (pu g 17 0 (nI (kl (g 1) w (wr (g 1) u 0)).length)) 18 0 2) 19 0 (g 1 8)) 14 0 (nI u)) 14 1 (nI w)) 14 2 (nI (kl (g 1) w (wr (g 1) u 0)).length)) 14 3 (wd (g 1) w 6)) 14 4 (wr (g 1) u 1)) 14 5 (wr (g 1) u 2)) 14 6 (wr (g 1) u 3)) 15 0 p) (nI w) (wr (g 1) u 0) = some (lk (g 1) w (wr (g 1) u 0)) := fun p => q_like (g := pu (pu (pu (pu (pu (pu (pu (pu (pu (pu (pu g 17 0 (nI (kl (g 1) w (wr (g 1) u 0)).length)) 18 0 2) 19 0 (g 1 8)) 14 0 (nI u)) 14 1 (nI w)) 14 2 (nI (kl (g 1) w (wr (g 1) u 0)).length)) 14 3 (wd (g 1) w 6)) 14 4 (wr (g 1) u 1)) 14 5 (wr (g 1) u 2)) 14 6 (wr (g 1) u 3)) 15 0 p) hO hw (wr (g 1) u 0)
  unfold f_X12_asks qAsk aF
  simp only [fsv, fsW, List.getD_cons_zero, List.getD_cons_succ]
  by_cases a : (nI (kl (g 1) w (wr (g 1) u 0)).length) = (wd (g 1) w 6)
  · have a := eq_true a
    by_cases b : lk (g 1) w (wr (g 1) u 0) = (1 : Int32) <<< (nI w &&& 31)
    · have b := eq_true b
      simp only [nm_s, bd_s, jn_s, nm1, if_false, if_true, o0, st, e8, gd_17, t1, gd_37, t3, ow, o1, o2, o3, e3, a, b, gdb_0, gdb_1, o17, l17]
    · simp only [nm_s, bd_s, jn_s, nm1, if_false, if_true, o0, st, e8, gd_17, t1, gd_37, t3, ow, o1, o2, o3, e3, a, b, gdb_0, gdb_1, o17, l17]
  · by_cases b : lk (g 1) w (wr (g 1) u 0) = (1 : Int32) <<< (nI w &&& 31)
    · simp only [nm_s, bd_s, jn_s, nm1, if_false, if_true, o0, st, e8, gd_17, t1, gd_37, t3, ow, o1, o2, o3, e3, a, b, gdb_0, gdb_1, o17, l17]
    · simp only [nm_s, bd_s, jn_s, nm1, if_false, if_true, o0, st, e8, gd_17, t1, gd_37, t3, ow, o1, o2, o3, e3, a, b, gdb_0, gdb_1, o17, l17]
theorem q_asksN (hO : Ok (g 1)) (hu : u < tn (g 1 4)) : f_X12_asks g (nI u) (-1) = qAsk (aF g (fsN (g 1) u)) := by
  have u5 := hO.U.2.2
  have e8 : ∀ s : Int32, (pu (pu g 17 0 s) 18 0 2) 1 8 = g 1 8 := fun _ => rfl
  have t1 : (1 : Int32).toNatClampNeg = 1 := rfl
  have t3 : (3 : Int32).toNatClampNeg = 3 := rfl
  have o1 : f_X12_of (pu (pu (pu (pu (pu (pu (pu g 17 0 0) 18 0 2) 19 0 (g 1 8)) 14 0 (nI u)) 14 1 8) 14 2 0) 14 3 0) (nI u) 1 = some (wr (g 1) u 1) := q_of (k := 1) (by omega) (by decide)
  have o2 : f_X12_of (pu (pu (pu (pu (pu (pu (pu (pu g 17 0 0) 18 0 2) 19 0 (g 1 8)) 14 0 (nI u)) 14 1 8) 14 2 0) 14 3 0) 14 4 (wr (g 1) u 1)) (nI u) 2 = some (wr (g 1) u 2) := q_of (k := 2) (by omega) (by decide)
  have o3 : f_X12_of (pu (pu (pu (pu (pu (pu (pu (pu (pu g 17 0 0) 18 0 2) 19 0 (g 1 8)) 14 0 (nI u)) 14 1 8) 14 2 0) 14 3 0) 14 4 (wr (g 1) u 1)) 14 5 (wr (g 1) u 2)) (nI u) 3 = some (wr (g 1) u 3) := q_of (k := 3) (by omega) (by decide)
  unfold f_X12_asks qAsk aF
  simp only [fsv, fsN, List.getD_cons_zero, List.getD_cons_succ]
  simp only [nm_s, bd_s, jn_s, i10, if_false, if_true, e8, gd_17, t1, gd_37, t3, o1, o2, o3, gdb_0]
end K41
