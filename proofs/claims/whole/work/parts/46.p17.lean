/-! sets of letters that fit -/
def ftB (m t : Nat → Int32) (R : Nat) (x : Int32) : Bool := decide (∀ j, j < R → (kl m (tn (t (2 * j))) x).length = tn (t (2 * j + 1)))
def cnS (m t : Nat → Int32) (R : Nat) : Nat → Nat := itr (fun s c => if ftB m t R (nI s) then c + 1 else c) 0
theorem cnS_s (m t : Nat → Int32) (R s : Nat) : cnS m t R (s + 1) = if ftB m t R (nI s) then cnS m t R s + 1 else cnS m t R s := rfl
theorem cnS_le (m t : Nat → Int32) (R s : Nat) : cnS m t R s ≤ s := by
  induction s with
  | zero => exact Nat.le_refl 0
  | succ n ih => rw [cnS_s]; split <;> omega
theorem cnS_mono (m t : Nat → Int32) (R : Nat) {s s' : Nat} (h : s ≤ s') : cnS m t R s ≤ cnS m t R s' := by
  induction s' with
  | zero => rw [show s = 0 by omega]; exact Nat.le_refl _
  | succ n ih =>
    rcases Nat.lt_or_ge n s with z | z
    · rw [show s = n + 1 by omega]; exact Nat.le_refl _
    · have := ih z
      rw [cnS_s]; split <;> omega
theorem cnS_next (m t : Nat → Int32) (R : Nat) {k : Nat} (h : k < cnS m t R 256) : ∃ j, j < 256 ∧ ftB m t R (nI j) = true ∧ cnS m t R j = k := by
  obtain ⟨s, s1, s2, s3⟩ := least_ex (p := fun s => k < cnS m t R s) 257 ⟨256, by omega, h⟩
  cases s with
  | zero => exact absurd s2 (Nat.not_lt_zero _)
  | succ j =>
    have := s3 j (by omega)
    rw [cnS_s] at s2
    cases b : ftB m t R (nI j) with
    | false => rw [b] at s2; exact absurd s2 this
    | true =>
      rw [b, if_pos rfl] at s2
      exact ⟨j, by omega, b, by omega⟩
/-- parts of those that fit, by strokes of a word, and the greatest -/
def PT (m t : Nat → Int32) (R w : Nat) : Nat → (Nat → Nat) × Nat := itr (fun s q => if ftB m t R (nI s) then ((fun c => if c = (kl m w (nI s)).length then q.1 c + 1 else q.1 c), max q.2 (q.1 (kl m w (nI s)).length + 1)) else q) (fun _ => 0, 0)
theorem PT_t {m t : Nat → Int32} {R w s : Nat} (h : ftB m t R (nI s) = true) : PT m t R w (s + 1) = ((fun c => if c = (kl m w (nI s)).length then (PT m t R w s).1 c + 1 else (PT m t R w s).1 c), max (PT m t R w s).2 ((PT m t R w s).1 (kl m w (nI s)).length + 1)) := by
  show (if ftB m t R (nI s) then _ else _) = _
  rw [h]; rfl
theorem PT_f {m t : Nat → Int32} {R w s : Nat} (h : ftB m t R (nI s) = false) : PT m t R w (s + 1) = PT m t R w s := by
  show (if ftB m t R (nI s) then _ else _) = _
  rw [h]; rfl
theorem PT_le (m t : Nat → Int32) (R w s : Nat) : (∀ c, (PT m t R w s).1 c ≤ s) ∧ (PT m t R w s).2 ≤ s := by
  induction s with
  | zero => exact ⟨fun _ => Nat.le_refl 0, Nat.le_refl 0⟩
  | succ n ih =>
    cases b : ftB m t R (nI n) with
    | false => rw [PT_f b]; exact ⟨fun c => by have := ih.1 c; omega, by have := ih.2; omega⟩
    | true =>
      rw [PT_t b]
      refine ⟨fun c => ?_, ?_⟩
      · have := ih.1 c
        dsimp only
        split <;> omega
      · have := ih.1 (kl m w (nI n)).length
        have := ih.2
        dsimp only
        omega
theorem PT_eq {m t : Nat → Int32} {R w s s' : Nat} (h : s ≤ s') (e : cnS m t R s = cnS m t R s') : PT m t R w s' = PT m t R w s := by
  induction s' with
  | zero => rw [show s = 0 by omega]
  | succ n ih =>
    rcases Nat.lt_or_ge n s with z | z
    · rw [show s = n + 1 by omega]
    · have a := cnS_mono m t R z
      rw [cnS_s] at e
      cases b : ftB m t R (nI n) with
      | false => rw [PT_f b]; rw [b] at e; exact ih z e
      | true => rw [b, if_pos rfl] at e; omega
theorem PT_eq' {m t : Nat → Int32} {R w s s' : Nat} (e : cnS m t R s = cnS m t R s') : PT m t R w s' = PT m t R w s := by
  rcases Nat.le_total s s' with z | z
  · exact PT_eq z e
  · exact (PT_eq z e.symm).symm
section K17
variable {m t : Nat → Int32} {g gS gL gH gC gP gT gK h x : Pic} {R A : Nat}
/-- the rows as the reference has them -/
def QK (g : Pic) (m : Nat → Int32) (R : Nat) : Prop := R ≤ 20 ∧ ∀ j, j < R → Bn (g 7 (2 * j)) 0 255 ∧ Bn (g 7 (2 * j + 1)) 0 255 ∧ tn (g 7 (2 * j)) < tn (m 3)
theorem q_by (hg : g 1 = m) (hO : Ok m) (hQ : QK g m R) (x : Int32) : f_X12_isByHand g x (nI (2 * R)) = some (if ftB m (g 7) R x then 1 else 0) := by
  obtain ⟨r20, hq⟩ := hQ
  have H : ∃ c, f_X12_isByHand_L5 x (nI (2 * R)) g fu (1, 0) = some c ∧ c = if ftB m (g 7) R x then 1 else 0 := by
    have nf : ∀ j, j < R → ¬ (kl m (tn (g 7 (2 * j))) x).length = tn (g 7 (2 * j + 1)) → ftB m (g 7) R x = false := fun j hj hn => decide_eq_false (fun z => hn (z j hj))
    refine lp_inv (fun j s => (s = (1, nI (2 * j)) ∧ ∀ i, i < j → (kl m (tn (g 7 (2 * i))) x).length = tn (g 7 (2 * i + 1))) ∨ (s = (0, nI (2 * j)) ∧ ftB m (g 7) R x = false)) R (fun c : Int32 => c = if ftB m (g 7) R x then 1 else 0) ?_ ?_ (by have := fu_big; omega) (Or.inl ⟨rfl, fun w hw => absurd hw (Nat.not_lt_zero w)⟩)
    · rintro j hj _ (⟨rfl, hp⟩ | ⟨rfl, hp⟩)
      · have nk : ¬ 2 * R ≤ 2 * j := by omega
        obtain ⟨b1, b2, lw⟩ := hq j hj
        obtain ⟨a, ha, ta, -, a9⟩ := b1.ex
        obtain ⟨b, hb, tb, -, b9⟩ := b2.ex
        rw [ta] at lw
        have e2 : 2 * j + 2 = 2 * (j + 1) := by omega
        have st := q_strokes (g := g) (by rw [hg]; exact hO) (by rw [hg]; exact lw) x
        rw [hg] at st
        have ll := kl_len hO lw x
        by_cases e : (kl m a x).length = b
        · refine Or.inl ⟨(1, nI (2 * (j + 1))), Or.inl ⟨rfl, fun i hi => ?_⟩, fun r => ?_⟩
          · rcases Nat.lt_succ_iff_lt_or_eq.mp hi with z | z
            · exact hp i z
            · rw [z, ta, tb]; exact e
          · simp (disch := omega) only [bd_s, bd2_s, bd3_s, bd4_s, bd5_s, bd6_s, bd7_s, bd8_s, lr_l, lr_r, nm_s, jn_s, gdb_0, gdb_1, li_2, li_3, li_4, li_5, li_6, li_7, li_8, li_9, li_10, li_11, li_12, li_13, li_14, li_15, li_16, li_20, li_24, li_32, li_40, li_41, li_43, li_48, li_57, li_59, li_60, li_62, li_63, li_76, li_96, li_97, li_99, li_100, li_104, li_116, li_122, li_128, li_129, li_216, li_217, li_218, li_219, li_239, li_240, li_255, li_256, li_257, li_400, li_456, li_856, li_999, li_1000, li_1001, li_1002, li_1003, li_1004, li_1005, li_1006, li_1007, li_1008, li_1161, li_2000, li_2001, li_2002, li_2003, li_2004, li_2005, li_5016, li_5472, li_9999, li_10000, li_32767, li_1000000, li_2000000000, nI_add, nI_mul, nI_sub, nI_clamp, nI_leI, nI_ltI, nI_eq, gdi_n, nI_1, nI_eq0, nI_eq1, nI_le0, nI_le1, nI_0le, nI_lt0, nI_0lt, nI_m1, Int32.add_zero, Nat.le_refl, if_true, if_false, Bool.false_eq_true, Bool.true_eq_false, i10, i01, im0, im1, i0m, i1m, l10, l00, l01, t10, t00, nk, ha, hb, st, e, e2]
        · refine Or.inl ⟨(0, nI (2 * (j + 1))), Or.inr ⟨rfl, nf j hj (by rw [ta, tb]; exact e)⟩, fun r => ?_⟩
          simp (disch := omega) only [bd_s, bd2_s, bd3_s, bd4_s, bd5_s, bd6_s, bd7_s, bd8_s, lr_l, lr_r, nm_s, jn_s, gdb_0, gdb_1, li_2, li_3, li_4, li_5, li_6, li_7, li_8, li_9, li_10, li_11, li_12, li_13, li_14, li_15, li_16, li_20, li_24, li_32, li_40, li_41, li_43, li_48, li_57, li_59, li_60, li_62, li_63, li_76, li_96, li_97, li_99, li_100, li_104, li_116, li_122, li_128, li_129, li_216, li_217, li_218, li_219, li_239, li_240, li_255, li_256, li_257, li_400, li_456, li_856, li_999, li_1000, li_1001, li_1002, li_1003, li_1004, li_1005, li_1006, li_1007, li_1008, li_1161, li_2000, li_2001, li_2002, li_2003, li_2004, li_2005, li_5016, li_5472, li_9999, li_10000, li_32767, li_1000000, li_2000000000, nI_add, nI_mul, nI_sub, nI_clamp, nI_leI, nI_ltI, nI_eq, gdi_n, nI_1, nI_eq0, nI_eq1, nI_le0, nI_le1, nI_0le, nI_lt0, nI_0lt, nI_m1, Int32.add_zero, Nat.le_refl, if_true, if_false, Bool.false_eq_true, Bool.true_eq_false, i10, i01, im0, im1, i0m, i1m, l10, l00, l01, t10, t00, nk, ha, hb, st, e, e2]
      · have nk : ¬ 2 * R ≤ 2 * j := by omega
        refine Or.inr ⟨0, by rw [hp]; rfl, fun r => ?_⟩
        simp (disch := omega) only [bd_s, bd2_s, bd3_s, bd4_s, bd5_s, bd6_s, bd7_s, bd8_s, lr_l, lr_r, nm_s, jn_s, gdb_0, gdb_1, li_2, li_3, li_4, li_5, li_6, li_7, li_8, li_9, li_10, li_11, li_12, li_13, li_14, li_15, li_16, li_20, li_24, li_32, li_40, li_41, li_43, li_48, li_57, li_59, li_60, li_62, li_63, li_76, li_96, li_97, li_99, li_100, li_104, li_116, li_122, li_128, li_129, li_216, li_217, li_218, li_219, li_239, li_240, li_255, li_256, li_257, li_400, li_456, li_856, li_999, li_1000, li_1001, li_1002, li_1003, li_1004, li_1005, li_1006, li_1007, li_1008, li_1161, li_2000, li_2001, li_2002, li_2003, li_2004, li_2005, li_5016, li_5472, li_9999, li_10000, li_32767, li_1000000, li_2000000000, nI_add, nI_mul, nI_sub, nI_clamp, nI_leI, nI_ltI, nI_eq, gdi_n, nI_1, nI_eq0, nI_eq1, nI_le0, nI_le1, nI_0le, nI_lt0, nI_0lt, nI_m1, Int32.add_zero, Nat.le_refl, if_true, if_false, Bool.false_eq_true, Bool.true_eq_false, i10, i01, im0, im1, i0m, i1m, l10, l00, l01, t10, t00, nk]
    · rintro _ (⟨rfl, hp⟩ | ⟨rfl, hp⟩)
      · refine ⟨1, by rw [show ftB m (g 7) R x = true from decide_eq_true hp]; rfl, fun r => ?_⟩
        simp (disch := omega) only [bd_s, bd2_s, bd3_s, bd4_s, bd5_s, bd6_s, bd7_s, bd8_s, lr_l, lr_r, nm_s, jn_s, gdb_0, gdb_1, li_2, li_3, li_4, li_5, li_6, li_7, li_8, li_9, li_10, li_11, li_12, li_13, li_14, li_15, li_16, li_20, li_24, li_32, li_40, li_41, li_43, li_48, li_57, li_59, li_60, li_62, li_63, li_76, li_96, li_97, li_99, li_100, li_104, li_116, li_122, li_128, li_129, li_216, li_217, li_218, li_219, li_239, li_240, li_255, li_256, li_257, li_400, li_456, li_856, li_999, li_1000, li_1001, li_1002, li_1003, li_1004, li_1005, li_1006, li_1007, li_1008, li_1161, li_2000, li_2001, li_2002, li_2003, li_2004, li_2005, li_5016, li_5472, li_9999, li_10000, li_32767, li_1000000, li_2000000000, nI_add, nI_mul, nI_sub, nI_clamp, nI_leI, nI_ltI, nI_eq, gdi_n, nI_1, nI_eq0, nI_eq1, nI_le0, nI_le1, nI_0le, nI_lt0, nI_0lt, nI_m1, Int32.add_zero, Nat.le_refl, if_true, if_false, Bool.false_eq_true, Bool.true_eq_false, i10, i01, im0, im1, i0m, i1m, l10, l00, l01, t10, t00]
        done
      · refine ⟨0, by rw [hp]; rfl, fun r => ?_⟩
        simp (disch := omega) only [bd_s, bd2_s, bd3_s, bd4_s, bd5_s, bd6_s, bd7_s, bd8_s, lr_l, lr_r, nm_s, jn_s, gdb_0, gdb_1, li_2, li_3, li_4, li_5, li_6, li_7, li_8, li_9, li_10, li_11, li_12, li_13, li_14, li_15, li_16, li_20, li_24, li_32, li_40, li_41, li_43, li_48, li_57, li_59, li_60, li_62, li_63, li_76, li_96, li_97, li_99, li_100, li_104, li_116, li_122, li_128, li_129, li_216, li_217, li_218, li_219, li_239, li_240, li_255, li_256, li_257, li_400, li_456, li_856, li_999, li_1000, li_1001, li_1002, li_1003, li_1004, li_1005, li_1006, li_1007, li_1008, li_1161, li_2000, li_2001, li_2002, li_2003, li_2004, li_2005, li_5016, li_5472, li_9999, li_10000, li_32767, li_1000000, li_2000000000, nI_add, nI_mul, nI_sub, nI_clamp, nI_leI, nI_ltI, nI_eq, gdi_n, nI_1, nI_eq0, nI_eq1, nI_le0, nI_le1, nI_0le, nI_lt0, nI_0lt, nI_m1, Int32.add_zero, Nat.le_refl, if_true, if_false, Bool.false_eq_true, Bool.true_eq_false, i10, i01, im0, im1, i0m, i1m, l10, l00, l01, t10, t00]
        done
  obtain ⟨c, h1, rfl⟩ := H
  unfold f_X12_isByHand
  rw [h1, bd_s]
  cases ftB m (g 7) R x <;> rfl
theorem k_by (hO : Ok m) (hR : RS gS gL m) (hC : CK gK gT t R (tn (m 3))) (x : Int32) : f_X1_fitsSet gK gT gS x = some (if ftB m t R x then 1 else 0) := by
  obtain ⟨h5, r20, hc⟩ := hC
  have H : ∃ c, f_X1_fitsSet_L2 x gK gT gS fu 0 = some c ∧ c = if ftB m t R x then .inr () else .inl 0 := by
    refine lp_inv (fun j s => s = nI j ∧ ∀ i, i < j → (kl m (tn (t (2 * i))) x).length = tn (t (2 * i + 1))) R (fun c : Int32 ⊕ Unit => c = if ftB m t R x then .inr () else .inl 0) ?_ ?_ (by have := fu_big; omega) ⟨rfl, fun w hw => absurd hw (Nat.not_lt_zero w)⟩
    · rintro j hj _ ⟨rfl, hp⟩
      have nk : ¬ R ≤ j := by omega
      obtain ⟨e1, e2, b1, b2, l6⟩ := hc j hj
      obtain ⟨a, ha, ta, -, -⟩ := b1.ex
      obtain ⟨b, hb, tb, -, b9⟩ := b2.ex
      obtain ⟨f1, f2⟩ := k_first1 (j := j) (by omega) gK gT gS
      rw [e1, ha] at f1
      rw [e2, hb] at f2
      rw [ta] at l6
      have st := k_strokes hO hR l6 x
      have ll := kl_len hO l6 x
      by_cases e : (kl m a x).length = b
      · refine Or.inl ⟨nI (j + 1), ⟨rfl, fun i hi => ?_⟩, fun r => ?_⟩
        · rcases Nat.lt_succ_iff_lt_or_eq.mp hi with z | z
          · exact hp i z
          · rw [z, ta, tb]; exact e
        · simp (disch := omega) only [bd_s, bd2_s, bd3_s, bd4_s, bd5_s, bd6_s, bd7_s, bd8_s, lr_l, lr_r, nm_s, jn_s, gdb_0, gdb_1, li_2, li_3, li_4, li_5, li_6, li_7, li_8, li_9, li_10, li_11, li_12, li_13, li_14, li_15, li_16, li_20, li_24, li_32, li_40, li_41, li_43, li_48, li_57, li_59, li_60, li_62, li_63, li_76, li_96, li_97, li_99, li_100, li_104, li_116, li_122, li_128, li_129, li_216, li_217, li_218, li_219, li_239, li_240, li_255, li_256, li_257, li_400, li_456, li_856, li_999, li_1000, li_1001, li_1002, li_1003, li_1004, li_1005, li_1006, li_1007, li_1008, li_1161, li_2000, li_2001, li_2002, li_2003, li_2004, li_2005, li_5016, li_5472, li_9999, li_10000, li_32767, li_1000000, li_2000000000, nI_add, nI_mul, nI_sub, nI_clamp, nI_leI, nI_ltI, nI_eq, gdi_n, nI_1, nI_eq0, nI_eq1, nI_le0, nI_le1, nI_0le, nI_lt0, nI_0lt, nI_m1, Int32.add_zero, Nat.le_refl, if_true, if_false, Bool.false_eq_true, Bool.true_eq_false, i10, i01, im0, im1, i0m, i1m, l10, l00, l01, t10, t00, h5, nk, f1, f2, st, e]
      · refine Or.inr ⟨.inl 0, by rw [show ftB m t R x = false from decide_eq_false (fun z => e (by have := z j hj; rwa [ta, tb] at this))]; rfl, fun r => ?_⟩
        simp (disch := omega) only [bd_s, bd2_s, bd3_s, bd4_s, bd5_s, bd6_s, bd7_s, bd8_s, lr_l, lr_r, nm_s, jn_s, gdb_0, gdb_1, li_2, li_3, li_4, li_5, li_6, li_7, li_8, li_9, li_10, li_11, li_12, li_13, li_14, li_15, li_16, li_20, li_24, li_32, li_40, li_41, li_43, li_48, li_57, li_59, li_60, li_62, li_63, li_76, li_96, li_97, li_99, li_100, li_104, li_116, li_122, li_128, li_129, li_216, li_217, li_218, li_219, li_239, li_240, li_255, li_256, li_257, li_400, li_456, li_856, li_999, li_1000, li_1001, li_1002, li_1003, li_1004, li_1005, li_1006, li_1007, li_1008, li_1161, li_2000, li_2001, li_2002, li_2003, li_2004, li_2005, li_5016, li_5472, li_9999, li_10000, li_32767, li_1000000, li_2000000000, nI_add, nI_mul, nI_sub, nI_clamp, nI_leI, nI_ltI, nI_eq, gdi_n, nI_1, nI_eq0, nI_eq1, nI_le0, nI_le1, nI_0le, nI_lt0, nI_0lt, nI_m1, Int32.add_zero, Nat.le_refl, if_true, if_false, Bool.false_eq_true, Bool.true_eq_false, i10, i01, im0, im1, i0m, i1m, l10, l00, l01, t10, t00, h5, nk, f1, f2, st, e]
    · rintro _ ⟨rfl, hp⟩
      refine ⟨.inr (), by rw [show ftB m t R x = true from decide_eq_true hp]; rfl, fun r => ?_⟩
      simp (disch := omega) only [bd_s, bd2_s, bd3_s, bd4_s, bd5_s, bd6_s, bd7_s, bd8_s, lr_l, lr_r, nm_s, jn_s, gdb_0, gdb_1, li_2, li_3, li_4, li_5, li_6, li_7, li_8, li_9, li_10, li_11, li_12, li_13, li_14, li_15, li_16, li_20, li_24, li_32, li_40, li_41, li_43, li_48, li_57, li_59, li_60, li_62, li_63, li_76, li_96, li_97, li_99, li_100, li_104, li_116, li_122, li_128, li_129, li_216, li_217, li_218, li_219, li_239, li_240, li_255, li_256, li_257, li_400, li_456, li_856, li_999, li_1000, li_1001, li_1002, li_1003, li_1004, li_1005, li_1006, li_1007, li_1008, li_1161, li_2000, li_2001, li_2002, li_2003, li_2004, li_2005, li_5016, li_5472, li_9999, li_10000, li_32767, li_1000000, li_2000000000, nI_add, nI_mul, nI_sub, nI_clamp, nI_leI, nI_ltI, nI_eq, gdi_n, nI_1, nI_eq0, nI_eq1, nI_le0, nI_le1, nI_0le, nI_lt0, nI_0lt, nI_m1, Int32.add_zero, Nat.le_refl, if_true, if_false, Bool.false_eq_true, Bool.true_eq_false, i10, i01, im0, im1, i0m, i1m, l10, l00, l01, t10, t00, h5]
      done
  obtain ⟨c, h1, rfl⟩ := H
  unfold f_X1_fitsSet
  rw [h1]
  cases ftB m t R x <;> rfl
theorem q_hands (hg : g 1 = m) (hO : Ok m) (hQ : QK g m R) : ∃ g', f_X12_hands g (nI (2 * R)) = some (nI (cnS m (g 7) R 256), g') ∧ Es g g' ∧ ∀ s, s < 256 → g' 27 s = if ftB m (g 7) R (nI s) then 1 else 0 := by
  have H : ∃ c, f_X12_hands_L4 (nI (2 * R)) fu (0, 0, g) = some c ∧ ∃ g', c = (nI (cnS m (g 7) R 256), g') ∧ Es g g' ∧ ∀ s, s < 256 → g' 27 s = if ftB m (g 7) R (nI s) then 1 else 0 := by
    refine lp_inv (fun k a => ∃ y : Pic, a = (nI (cnS m (g 7) R k), nI k, y) ∧ Es g y ∧ ∀ s, s < k → y 27 s = if ftB m (g 7) R (nI s) then 1 else 0) 256 (fun c : Int32 × Pic => ∃ g', c = (nI (cnS m (g 7) R 256), g') ∧ Es g g' ∧ ∀ s, s < 256 → g' 27 s = if ftB m (g 7) R (nI s) then 1 else 0) ?_ ?_ (by have := fu_big; omega) ⟨g, rfl, Es.rf g, fun s hs => absurd hs (Nat.not_lt_zero s)⟩
    · rintro k hk _ ⟨y, rfl, hE, hy⟩
      have nk : ¬ 256 ≤ k := by omega
      have h7 : y 7 = g 7 := hE.2.2.2.2.2.1
      have q := q_by (hE.m.trans hg) hO (show QK y m R by unfold QK; rw [h7]; exact hQ) (nI k)
      rw [h7] at q
      refine Or.inl ⟨(nI (cnS m (g 7) R (k + 1)), nI (k + 1), pu y 27 k (if ftB m (g 7) R (nI k) then 1 else 0)), ⟨_, rfl, hE.pu (by decide), fun s hs => ?_⟩, fun r => ?_⟩
      · rw [pu_s]
        split
        · rename_i e; rw [e]
        · exact hy s (by omega)
      · rw [cnS_s]
        cases b : ftB m (g 7) R (nI k) with
        | false =>
          rw [b] at q
          have q : f_X12_isByHand y (nI k) (nI (2 * R)) = some 0 := q
          simp (disch := omega) only [bd_s, bd2_s, bd3_s, bd4_s, bd5_s, bd6_s, bd7_s, bd8_s, lr_l, lr_r, nm_s, jn_s, gdb_0, gdb_1, li_2, li_3, li_4, li_5, li_6, li_7, li_8, li_9, li_10, li_11, li_12, li_13, li_14, li_15, li_16, li_20, li_24, li_32, li_40, li_41, li_43, li_48, li_57, li_59, li_60, li_62, li_63, li_76, li_96, li_97, li_99, li_100, li_104, li_116, li_122, li_128, li_129, li_216, li_217, li_218, li_219, li_239, li_240, li_255, li_256, li_257, li_400, li_456, li_856, li_999, li_1000, li_1001, li_1002, li_1003, li_1004, li_1005, li_1006, li_1007, li_1008, li_1161, li_2000, li_2001, li_2002, li_2003, li_2004, li_2005, li_5016, li_5472, li_9999, li_10000, li_32767, li_1000000, li_2000000000, nI_add, nI_mul, nI_sub, nI_clamp, nI_leI, nI_ltI, nI_eq, gdi_n, nI_1, nI_eq0, nI_eq1, nI_le0, nI_le1, nI_0le, nI_lt0, nI_0lt, nI_m1, Int32.add_zero, Nat.le_refl, if_true, if_false, Bool.false_eq_true, Bool.true_eq_false, i10, i01, im0, im1, i0m, i1m, l10, l00, l01, t10, t00, nk, q, pu_s]
        | true =>
          rw [b] at q
          have q : f_X12_isByHand y (nI k) (nI (2 * R)) = some 1 := q
          simp (disch := omega) only [bd_s, bd2_s, bd3_s, bd4_s, bd5_s, bd6_s, bd7_s, bd8_s, lr_l, lr_r, nm_s, jn_s, gdb_0, gdb_1, li_2, li_3, li_4, li_5, li_6, li_7, li_8, li_9, li_10, li_11, li_12, li_13, li_14, li_15, li_16, li_20, li_24, li_32, li_40, li_41, li_43, li_48, li_57, li_59, li_60, li_62, li_63, li_76, li_96, li_97, li_99, li_100, li_104, li_116, li_122, li_128, li_129, li_216, li_217, li_218, li_219, li_239, li_240, li_255, li_256, li_257, li_400, li_456, li_856, li_999, li_1000, li_1001, li_1002, li_1003, li_1004, li_1005, li_1006, li_1007, li_1008, li_1161, li_2000, li_2001, li_2002, li_2003, li_2004, li_2005, li_5016, li_5472, li_9999, li_10000, li_32767, li_1000000, li_2000000000, nI_add, nI_mul, nI_sub, nI_clamp, nI_leI, nI_ltI, nI_eq, gdi_n, nI_1, nI_eq0, nI_eq1, nI_le0, nI_le1, nI_0le, nI_lt0, nI_0lt, nI_m1, Int32.add_zero, Nat.le_refl, if_true, if_false, Bool.false_eq_true, Bool.true_eq_false, i10, i01, im0, im1, i0m, i1m, l10, l00, l01, t10, t00, nk, q, pu_s]
    · rintro _ ⟨y, rfl, hE, hy⟩
      exact ⟨_, ⟨y, rfl, hE, hy⟩, fun r => if_pos (show (256 : Int32) ≤ nI 256 from Int32.le_refl _)⟩
  obtain ⟨c, h1, g', rfl, h2, h3⟩ := H
  exact ⟨g', by unfold f_X12_hands; rw [h1]; rfl, h2, h3⟩
theorem CK.mono {gK' : Pic} (h : CK gK gT t R A) (e : gK' 5 0 = gK 5 0) : CK gK' gT t R A := ⟨e.trans h.1, h.2⟩
theorem k_sets (hO : Ok m) (hR : RS gS gL m) (hC : CK gK gT t R (tn (m 3))) : ∃ k', f_X1_findSets gK gT gS = some (nI (cnS m t R 256), k') ∧ k' 4 0 = nI (cnS m t R 256) ∧ k' 5 0 = gK 5 0 ∧ ∀ s, s < 256 → ftB m t R (nI s) = true → k' 2 (cnS m t R s) = nI s := by
  have H : ∃ c, f_X1_findSets_L7 gT gS fu (0, pu gK 4 0 0) = some c ∧ c 4 0 = nI (cnS m t R 256) ∧ c 5 0 = gK 5 0 ∧ ∀ s, s < 256 → ftB m t R (nI s) = true → c 2 (cnS m t R s) = nI s := by
    refine lp_inv (fun k a => ∃ y : Pic, a = (nI k, y) ∧ y 4 0 = nI (cnS m t R k) ∧ y 5 0 = gK 5 0 ∧ ∀ s, s < k → ftB m t R (nI s) = true → y 2 (cnS m t R s) = nI s) 256 (fun c : Pic => c 4 0 = nI (cnS m t R 256) ∧ c 5 0 = gK 5 0 ∧ ∀ s, s < 256 → ftB m t R (nI s) = true → c 2 (cnS m t R s) = nI s) ?_ ?_ (by have := fu_big; omega) ⟨pu gK 4 0 0, rfl, rfl, rfl, fun s hs => absurd hs (Nat.not_lt_zero s)⟩
    · rintro k hk _ ⟨y, rfl, y4, y5, hy⟩
      have nk : ¬ 256 ≤ k := by omega
      have q := k_by hO hR (hC.mono y5) (nI k)
      have cl := cnS_le m t R k
      cases b : ftB m t R (nI k) with
      | false =>
        rw [b] at q
        have q : f_X1_fitsSet y gT gS (nI k) = some 0 := q
        refine Or.inl ⟨(nI (k + 1), y), ⟨y, rfl, by rw [cnS_s, b]; exact y4, y5, fun s hs hf => ?_⟩, fun r => ?_⟩
        · rcases Nat.lt_succ_iff_lt_or_eq.mp hs with z | z
          · exact hy s z hf
          · rw [z, b] at hf; cases hf
        · simp (disch := omega) only [bd_s, bd2_s, bd3_s, bd4_s, bd5_s, bd6_s, bd7_s, bd8_s, lr_l, lr_r, nm_s, jn_s, gdb_0, gdb_1, li_2, li_3, li_4, li_5, li_6, li_7, li_8, li_9, li_10, li_11, li_12, li_13, li_14, li_15, li_16, li_20, li_24, li_32, li_40, li_41, li_43, li_48, li_57, li_59, li_60, li_62, li_63, li_76, li_96, li_97, li_99, li_100, li_104, li_116, li_122, li_128, li_129, li_216, li_217, li_218, li_219, li_239, li_240, li_255, li_256, li_257, li_400, li_456, li_856, li_999, li_1000, li_1001, li_1002, li_1003, li_1004, li_1005, li_1006, li_1007, li_1008, li_1161, li_2000, li_2001, li_2002, li_2003, li_2004, li_2005, li_5016, li_5472, li_9999, li_10000, li_32767, li_1000000, li_2000000000, nI_add, nI_mul, nI_sub, nI_clamp, nI_leI, nI_ltI, nI_eq, gdi_n, nI_1, nI_eq0, nI_eq1, nI_le0, nI_le1, nI_0le, nI_lt0, nI_0lt, nI_m1, Int32.add_zero, Nat.le_refl, if_true, if_false, Bool.false_eq_true, Bool.true_eq_false, i10, i01, im0, im1, i0m, i1m, l10, l00, l01, t10, t00, nk, q]
      | true =>
        rw [b] at q
        have q : f_X1_fitsSet y gT gS (nI k) = some 1 := q
        refine Or.inl ⟨(nI (k + 1), pu (pu y 2 (cnS m t R k) (nI k)) 4 0 (nI (cnS m t R k + 1))), ⟨_, rfl, by rw [cnS_s, b, pu_s, if_pos rfl, if_pos rfl], by rw [pu_o (by decide), pu_o (by decide)]; exact y5, fun s hs hf => ?_⟩, fun r => ?_⟩
        · rw [pu_o (by decide), pu_s]
          rcases Nat.lt_succ_iff_lt_or_eq.mp hs with z | z
          · have a := cnS_mono m t R (show s + 1 ≤ k by omega)
            rw [cnS_s, hf, if_pos rfl] at a
            rw [if_neg (by omega)]
            exact hy s z hf
          · rw [z, if_pos rfl]
        · simp (disch := omega) only [bd_s, bd2_s, bd3_s, bd4_s, bd5_s, bd6_s, bd7_s, bd8_s, lr_l, lr_r, nm_s, jn_s, gdb_0, gdb_1, li_2, li_3, li_4, li_5, li_6, li_7, li_8, li_9, li_10, li_11, li_12, li_13, li_14, li_15, li_16, li_20, li_24, li_32, li_40, li_41, li_43, li_48, li_57, li_59, li_60, li_62, li_63, li_76, li_96, li_97, li_99, li_100, li_104, li_116, li_122, li_128, li_129, li_216, li_217, li_218, li_219, li_239, li_240, li_255, li_256, li_257, li_400, li_456, li_856, li_999, li_1000, li_1001, li_1002, li_1003, li_1004, li_1005, li_1006, li_1007, li_1008, li_1161, li_2000, li_2001, li_2002, li_2003, li_2004, li_2005, li_5016, li_5472, li_9999, li_10000, li_32767, li_1000000, li_2000000000, nI_add, nI_mul, nI_sub, nI_clamp, nI_leI, nI_ltI, nI_eq, gdi_n, nI_1, nI_eq0, nI_eq1, nI_le0, nI_le1, nI_0le, nI_lt0, nI_0lt, nI_m1, Int32.add_zero, Nat.le_refl, if_true, if_false, Bool.false_eq_true, Bool.true_eq_false, i10, i01, im0, im1, i0m, i1m, l10, l00, l01, t10, t00, nk, q, y4, pu_o (show (4 : Nat) ≠ 2 by decide)]
    · rintro _ ⟨y, rfl, y4, y5, hy⟩
      exact ⟨y, ⟨y4, y5, hy⟩, fun r => if_pos (show (256 : Int32) ≤ nI 256 from Int32.le_refl _)⟩
  obtain ⟨c, h1, h4, h5, h2⟩ := H
  exact ⟨c, by unfold f_X1_findSets; simp only [nm_s, h1, bd_s, h4], h4, h5, h2⟩
theorem e_least (hx : ∀ s, s < 256 → g 27 s = if ftB m t R (nI s) then 1 else 0) (k4 : gK 4 0 = nI (cnS m t R 256)) (k2 : ∀ s, s < 256 → ftB m t R (nI s) = true → gK 2 (cnS m t R s) = nI s) (gT gS : Pic) : ∃ v, lr (f_X12_hand_L29 g fu 0) (fun a => a) (fun _ => some ((-1), g)) = some (v, g) ∧ f_X1_leastSet gK gT gS = some v := by
  have cl := cnS_le m t R 256
  have H : ∃ c, f_X12_hand_L29 g fu 0 = some c ∧ ((c = .inr () ∧ ∀ s, s < 256 → ftB m t R (nI s) = false) ∨ ∃ s, s < 256 ∧ c = .inl (nI s, g) ∧ ftB m t R (nI s) = true ∧ ∀ s', s' < s → ftB m t R (nI s') = false) := by
    refine lp_inv (fun k a => a = nI k ∧ ∀ s', s' < k → ftB m t R (nI s') = false) 256 (fun c : (Int32 × Pic) ⊕ Unit => (c = .inr () ∧ ∀ s, s < 256 → ftB m t R (nI s) = false) ∨ ∃ s, s < 256 ∧ c = .inl (nI s, g) ∧ ftB m t R (nI s) = true ∧ ∀ s', s' < s → ftB m t R (nI s') = false) ?_ ?_ (by have := fu_big; omega) ⟨rfl, fun s hs => absurd hs (Nat.not_lt_zero s)⟩
    · rintro k hk _ ⟨rfl, hp⟩
      have nk : ¬ 256 ≤ k := by omega
      have e := hx k hk
      cases b : ftB m t R (nI k) with
      | false =>
        rw [b] at e
        have e : g 27 k = 0 := e
        refine Or.inl ⟨nI (k + 1), ⟨rfl, fun s hs => ?_⟩, fun r => ?_⟩
        · rcases Nat.lt_succ_iff_lt_or_eq.mp hs with z | z
          · exact hp s z
          · rw [z]; exact b
        · simp (disch := omega) only [bd_s, bd2_s, bd3_s, bd4_s, bd5_s, bd6_s, bd7_s, bd8_s, lr_l, lr_r, nm_s, jn_s, gdb_0, gdb_1, li_2, li_3, li_4, li_5, li_6, li_7, li_8, li_9, li_10, li_11, li_12, li_13, li_14, li_15, li_16, li_20, li_24, li_32, li_40, li_41, li_43, li_48, li_57, li_59, li_60, li_62, li_63, li_76, li_96, li_97, li_99, li_100, li_104, li_116, li_122, li_128, li_129, li_216, li_217, li_218, li_219, li_239, li_240, li_255, li_256, li_257, li_400, li_456, li_856, li_999, li_1000, li_1001, li_1002, li_1003, li_1004, li_1005, li_1006, li_1007, li_1008, li_1161, li_2000, li_2001, li_2002, li_2003, li_2004, li_2005, li_5016, li_5472, li_9999, li_10000, li_32767, li_1000000, li_2000000000, nI_add, nI_mul, nI_sub, nI_clamp, nI_leI, nI_ltI, nI_eq, gdi_n, nI_1, nI_eq0, nI_eq1, nI_le0, nI_le1, nI_0le, nI_lt0, nI_0lt, nI_m1, Int32.add_zero, Nat.le_refl, if_true, if_false, Bool.false_eq_true, Bool.true_eq_false, i10, i01, im0, im1, i0m, i1m, l10, l00, l01, t10, t00, nk, e]
      | true =>
        rw [b] at e
        have e : g 27 k = 1 := e
        refine Or.inr ⟨.inl (nI k, g), Or.inr ⟨k, hk, rfl, b, hp⟩, fun r => ?_⟩
        simp (disch := omega) only [bd_s, bd2_s, bd3_s, bd4_s, bd5_s, bd6_s, bd7_s, bd8_s, lr_l, lr_r, nm_s, jn_s, gdb_0, gdb_1, li_2, li_3, li_4, li_5, li_6, li_7, li_8, li_9, li_10, li_11, li_12, li_13, li_14, li_15, li_16, li_20, li_24, li_32, li_40, li_41, li_43, li_48, li_57, li_59, li_60, li_62, li_63, li_76, li_96, li_97, li_99, li_100, li_104, li_116, li_122, li_128, li_129, li_216, li_217, li_218, li_219, li_239, li_240, li_255, li_256, li_257, li_400, li_456, li_856, li_999, li_1000, li_1001, li_1002, li_1003, li_1004, li_1005, li_1006, li_1007, li_1008, li_1161, li_2000, li_2001, li_2002, li_2003, li_2004, li_2005, li_5016, li_5472, li_9999, li_10000, li_32767, li_1000000, li_2000000000, nI_add, nI_mul, nI_sub, nI_clamp, nI_leI, nI_ltI, nI_eq, gdi_n, nI_1, nI_eq0, nI_eq1, nI_le0, nI_le1, nI_0le, nI_lt0, nI_0lt, nI_m1, Int32.add_zero, Nat.le_refl, if_true, if_false, Bool.false_eq_true, Bool.true_eq_false, i10, i01, im0, im1, i0m, i1m, l10, l00, l01, t10, t00, nk, e]
    · rintro _ ⟨rfl, hp⟩
      exact ⟨.inr (), Or.inl ⟨rfl, hp⟩, fun r => if_pos (show (256 : Int32) ≤ nI 256 from Int32.le_refl _)⟩
  have zero : ∀ s, (∀ s', s' < s → ftB m t R (nI s') = false) → cnS m t R s = 0 := by
    intro s
    induction s with
    | zero => intro _; rfl
    | succ n ih => intro h; rw [cnS_s, h n (by omega)]; exact ih (fun s' h' => h s' (by omega))
  obtain ⟨c, h1, ⟨rfl, h2⟩ | ⟨s, hs, rfl, h3, h4⟩⟩ := H
  · refine ⟨-1, by rw [h1]; rfl, ?_⟩
    unfold f_X1_leastSet
    rw [k4, zero 256 h2]
    rfl
  · refine ⟨nI s, by rw [h1]; rfl, ?_⟩
    have a := cnS_mono m t R (show s + 1 ≤ 256 by omega)
    rw [cnS_s, h3, if_pos rfl] at a
    have z := zero s h4
    have k := k2 s hs h3
    rw [z] at k
    have np : ¬ cnS m t R 256 ≤ 0 := by omega
    unfold f_X1_leastSet
    simp (disch := omega) only [bd_s, bd2_s, bd3_s, bd4_s, bd5_s, bd6_s, bd7_s, bd8_s, lr_l, lr_r, nm_s, jn_s, gdb_0, gdb_1, li_2, li_3, li_4, li_5, li_6, li_7, li_8, li_9, li_10, li_11, li_12, li_13, li_14, li_15, li_16, li_20, li_24, li_32, li_40, li_41, li_43, li_48, li_57, li_59, li_60, li_62, li_63, li_76, li_96, li_97, li_99, li_100, li_104, li_116, li_122, li_128, li_129, li_216, li_217, li_218, li_219, li_239, li_240, li_255, li_256, li_257, li_400, li_456, li_856, li_999, li_1000, li_1001, li_1002, li_1003, li_1004, li_1005, li_1006, li_1007, li_1008, li_1161, li_2000, li_2001, li_2002, li_2003, li_2004, li_2005, li_5016, li_5472, li_9999, li_10000, li_32767, li_1000000, li_2000000000, nI_add, nI_mul, nI_sub, nI_clamp, nI_leI, nI_ltI, nI_eq, gdi_n, nI_1, nI_eq0, nI_eq1, nI_le0, nI_le1, nI_0le, nI_lt0, nI_0lt, nI_m1, Int32.add_zero, Nat.le_refl, if_true, if_false, Bool.false_eq_true, Bool.true_eq_false, i10, i01, im0, im1, i0m, i1m, l10, l00, l01, t10, t00, k4, np, k]
/-! which word to ask for -/
theorem e_partOf (hg : g 1 = m) (hO : Ok m) (hR : RS gS gL m) {w : Nat} (hw : w < tn (m 3)) (hx : ∀ s, s < 256 → g 27 s = if ftB m t R (nI s) then 1 else 0) (hz : ∀ c, c < 9 → g 26 c = nI 0) (k4 : gK 4 0 = nI (cnS m t R 256)) (k2 : ∀ s, s < 256 → ftB m t R (nI s) = true → gK 2 (cnS m t R s) = nI s) (p1 p2 p3 : Int32) (gT : Pic) : ∃ v g' k', v ≤ 256 ∧ f_X12_ask_L76 p1 p2 p3 (nI w) fu (0, 0, g) = some (nI v, g') ∧ Es g g' ∧ g' 27 = g 27 ∧ f_X1_greatestPartOf gK gT gS (nI w) = some (nI v, k') ∧ k' 4 = gK 4 ∧ k' 2 = gK 2 := by
  have cl := cnS_le m t R 256
  have A : ∃ c, f_X12_ask_L76 p1 p2 p3 (nI w) fu (0, 0, g) = some c ∧ ∃ g', c = (nI (PT m t R w 256).2, g') ∧ Es g g' ∧ g' 27 = g 27 := by
    refine lp_inv (fun s a => ∃ y : Pic, a = (nI (PT m t R w s).2, nI s, y) ∧ Es g y ∧ y 27 = g 27 ∧ ∀ c, c < 9 → y 26 c = nI ((PT m t R w s).1 c)) 256 (fun c : Int32 × Pic => ∃ g', c = (nI (PT m t R w 256).2, g') ∧ Es g g' ∧ g' 27 = g 27) ?_ ?_ (by have := fu_big; omega) ⟨g, rfl, Es.rf g, rfl, hz⟩
    · rintro s hs _ ⟨y, rfl, hE, y27, hy⟩
      have ns : ¬ 256 ≤ s := by omega
      have e := hx s hs
      rw [← y27] at e
      have pl := PT_le m t R w s
      cases b : ftB m t R (nI s) with
      | false =>
        rw [b] at e
        have e : y 27 s = 0 := e
        refine Or.inl ⟨(nI (PT m t R w (s + 1)).2, nI (s + 1), y), ⟨y, rfl, hE, y27, by rw [PT_f b]; exact hy⟩, fun r => ?_⟩
        rw [PT_f b]
        simp (disch := omega) only [bd_s, bd2_s, bd3_s, bd4_s, bd5_s, bd6_s, bd7_s, bd8_s, lr_l, lr_r, nm_s, jn_s, gdb_0, gdb_1, li_2, li_3, li_4, li_5, li_6, li_7, li_8, li_9, li_10, li_11, li_12, li_13, li_14, li_15, li_16, li_20, li_24, li_32, li_40, li_41, li_43, li_48, li_57, li_59, li_60, li_62, li_63, li_76, li_96, li_97, li_99, li_100, li_104, li_116, li_122, li_128, li_129, li_216, li_217, li_218, li_219, li_239, li_240, li_255, li_256, li_257, li_400, li_456, li_856, li_999, li_1000, li_1001, li_1002, li_1003, li_1004, li_1005, li_1006, li_1007, li_1008, li_1161, li_2000, li_2001, li_2002, li_2003, li_2004, li_2005, li_5016, li_5472, li_9999, li_10000, li_32767, li_1000000, li_2000000000, nI_add, nI_mul, nI_sub, nI_clamp, nI_leI, nI_ltI, nI_eq, gdi_n, nI_1, nI_eq0, nI_eq1, nI_le0, nI_le1, nI_0le, nI_lt0, nI_0lt, nI_m1, Int32.add_zero, Nat.le_refl, if_true, if_false, Bool.false_eq_true, Bool.true_eq_false, i10, i01, im0, im1, i0m, i1m, l10, l00, l01, t10, t00, ns, e]
      | true =>
        rw [b] at e
        have e : y 27 s = 1 := e
        have hm := hE.m.trans hg
        have st := q_strokes (g := y) (by rw [hm]; exact hO) (by rw [hm]; exact hw) (nI s)
        rw [hm] at st
        have l6 := kl_len hO hw (nI s)
        have p1' := pl.1 (kl m w (nI s)).length
        have yk := hy (kl m w (nI s)).length (by omega)
        have pt := PT_t (w := w) b
        refine Or.inl ⟨(nI (PT m t R w (s + 1)).2, nI (s + 1), pu y 26 (kl m w (nI s)).length (nI ((PT m t R w s).1 (kl m w (nI s)).length + 1))), ⟨_, rfl, hE.pu (by decide), by rw [pu_o (by decide)]; exact y27, fun c hc => ?_⟩, fun r => ?_⟩
        · rw [pt, pu_s]
          dsimp only
          split
          · rename_i z; rw [z]
          · exact hy c hc
        · rw [pt]
          have := pl.2
          simp (disch := omega) only [bd_s, bd2_s, bd3_s, bd4_s, bd5_s, bd6_s, bd7_s, bd8_s, lr_l, lr_r, nm_s, jn_s, gdb_0, gdb_1, li_2, li_3, li_4, li_5, li_6, li_7, li_8, li_9, li_10, li_11, li_12, li_13, li_14, li_15, li_16, li_20, li_24, li_32, li_40, li_41, li_43, li_48, li_57, li_59, li_60, li_62, li_63, li_76, li_96, li_97, li_99, li_100, li_104, li_116, li_122, li_128, li_129, li_216, li_217, li_218, li_219, li_239, li_240, li_255, li_256, li_257, li_400, li_456, li_856, li_999, li_1000, li_1001, li_1002, li_1003, li_1004, li_1005, li_1006, li_1007, li_1008, li_1161, li_2000, li_2001, li_2002, li_2003, li_2004, li_2005, li_5016, li_5472, li_9999, li_10000, li_32767, li_1000000, li_2000000000, nI_add, nI_mul, nI_sub, nI_clamp, nI_leI, nI_ltI, nI_eq, gdi_n, nI_1, nI_eq0, nI_eq1, nI_le0, nI_le1, nI_0le, nI_lt0, nI_0lt, nI_m1, Int32.add_zero, Nat.le_refl, if_true, if_false, Bool.false_eq_true, Bool.true_eq_false, i10, i01, im0, im1, i0m, i1m, l10, l00, l01, t10, t00, ns, e, st, yk, pu_s, q_greater, mx_eq, mx_n]
    · rintro _ ⟨y, rfl, hE, y27, hy⟩
      exact ⟨_, ⟨y, rfl, hE, y27⟩, fun r => if_pos (show (256 : Int32) ≤ nI 256 from Int32.le_refl _)⟩
  obtain ⟨c, A1, g', rfl, A2, A3⟩ := A
  have B : ∃ c, f_X1_greatestPartOf_L12 (nI w) gT gS fu (0, 0, pr_ gK 3 (fl 9 0 (gK 3))) = some c ∧ ∃ k', c = (nI (PT m t R w 256).2, k') ∧ k' 4 = gK 4 ∧ k' 2 = gK 2 := by
    refine lp_inv (fun k a => ∃ (s : Nat) (y : Pic), s ≤ 256 ∧ cnS m t R s = k ∧ a = (nI (PT m t R w s).2, nI k, y) ∧ y 4 = gK 4 ∧ y 2 = gK 2 ∧ ∀ c, c < 9 → y 3 c = nI ((PT m t R w s).1 c)) (cnS m t R 256) (fun c : Int32 × Pic => ∃ k', c = (nI (PT m t R w 256).2, k') ∧ k' 4 = gK 4 ∧ k' 2 = gK 2) ?_ ?_ (by have := fu_big; omega) ⟨0, pr_ gK 3 (fl 9 0 (gK 3)), by omega, rfl, rfl, rfl, rfl, fun c hc => ?_⟩
    · rintro k hk _ ⟨s, y, s256, hs, rfl, y4, y2, hy⟩
      obtain ⟨j, j256, bj, cj⟩ := cnS_next m t R hk
      have ep : PT m t R w s = PT m t R w j := PT_eq' (cj.trans hs.symm)
      rw [ep] at hy ⊢
      have nk : ¬ cnS m t R 256 ≤ k := by omega
      have g4 : y 4 0 = nI (cnS m t R 256) := by rw [y4]; exact k4
      have g2 : y 2 k = nI j := by rw [y2, ← cj]; exact k2 j j256 bj
      have st := k_strokes hO hR hw (nI j)
      have l6 := kl_len hO hw (nI j)
      have pl := PT_le m t R w j
      have p1' := pl.1 (kl m w (nI j)).length
      have yk := hy (kl m w (nI j)).length (by omega)
      have pt := PT_t (w := w) bj
      refine Or.inl ⟨(nI (PT m t R w (j + 1)).2, nI (k + 1), pu y 3 (kl m w (nI j)).length (nI ((PT m t R w j).1 (kl m w (nI j)).length + 1))), ⟨j + 1, _, by omega, by rw [cnS_s, bj, if_pos rfl, cj], rfl, by rw [pu_o (by decide)]; exact y4, by rw [pu_o (by decide)]; exact y2, fun c hc => ?_⟩, fun r => ?_⟩
      · rw [pt, pu_s]
        dsimp only
        split
        · rename_i z; rw [z]
        · exact hy c hc
      · rw [pt]
        have := pl.2
        simp (disch := omega) only [bd_s, bd2_s, bd3_s, bd4_s, bd5_s, bd6_s, bd7_s, bd8_s, lr_l, lr_r, nm_s, jn_s, gdb_0, gdb_1, li_2, li_3, li_4, li_5, li_6, li_7, li_8, li_9, li_10, li_11, li_12, li_13, li_14, li_15, li_16, li_20, li_24, li_32, li_40, li_41, li_43, li_48, li_57, li_59, li_60, li_62, li_63, li_76, li_96, li_97, li_99, li_100, li_104, li_116, li_122, li_128, li_129, li_216, li_217, li_218, li_219, li_239, li_240, li_255, li_256, li_257, li_400, li_456, li_856, li_999, li_1000, li_1001, li_1002, li_1003, li_1004, li_1005, li_1006, li_1007, li_1008, li_1161, li_2000, li_2001, li_2002, li_2003, li_2004, li_2005, li_5016, li_5472, li_9999, li_10000, li_32767, li_1000000, li_2000000000, nI_add, nI_mul, nI_sub, nI_clamp, nI_leI, nI_ltI, nI_eq, gdi_n, nI_1, nI_eq0, nI_eq1, nI_le0, nI_le1, nI_0le, nI_lt0, nI_0lt, nI_m1, Int32.add_zero, Nat.le_refl, if_true, if_false, Bool.false_eq_true, Bool.true_eq_false, i10, i01, im0, im1, i0m, i1m, l10, l00, l01, t10, t00, g4, nk, g2, st, yk, pu_s, mx_n]
    · rintro _ ⟨s, y, s256, hs, rfl, y4, y2, hy⟩
      have g4 : y 4 0 = nI (cnS m t R 256) := by rw [y4]; exact k4
      rw [PT_eq' (w := w) hs.symm]
      refine ⟨_, ⟨y, rfl, y4, y2⟩, fun r => ?_⟩
      simp (disch := omega) only [bd_s, bd2_s, bd3_s, bd4_s, bd5_s, bd6_s, bd7_s, bd8_s, lr_l, lr_r, nm_s, jn_s, gdb_0, gdb_1, li_2, li_3, li_4, li_5, li_6, li_7, li_8, li_9, li_10, li_11, li_12, li_13, li_14, li_15, li_16, li_20, li_24, li_32, li_40, li_41, li_43, li_48, li_57, li_59, li_60, li_62, li_63, li_76, li_96, li_97, li_99, li_100, li_104, li_116, li_122, li_128, li_129, li_216, li_217, li_218, li_219, li_239, li_240, li_255, li_256, li_257, li_400, li_456, li_856, li_999, li_1000, li_1001, li_1002, li_1003, li_1004, li_1005, li_1006, li_1007, li_1008, li_1161, li_2000, li_2001, li_2002, li_2003, li_2004, li_2005, li_5016, li_5472, li_9999, li_10000, li_32767, li_1000000, li_2000000000, nI_add, nI_mul, nI_sub, nI_clamp, nI_leI, nI_ltI, nI_eq, gdi_n, nI_1, nI_eq0, nI_eq1, nI_le0, nI_le1, nI_0le, nI_lt0, nI_0lt, nI_m1, Int32.add_zero, Nat.le_refl, if_true, if_false, Bool.false_eq_true, Bool.true_eq_false, i10, i01, im0, im1, i0m, i1m, l10, l00, l01, t10, t00, g4]
      done
    · show fl 9 0 (gK 3) c = nI 0
      unfold fl
      rw [if_pos hc]
      rfl
  obtain ⟨c, B1, k', rfl, B2, B3⟩ := B
  exact ⟨(PT m t R w 256).2, g', k', (PT_le m t R w 256).2, A1, A2, A3, by unfold f_X1_greatestPartOf; simp only [nm_s, B1, bd_s], B2, B3⟩
theorem e_ask (hg : g 1 = m) (hO : Ok m) (hR : RS gS gL m) (hx : ∀ s, s < 256 → g 27 s = if ftB m t R (nI s) then 1 else 0) (k4 : gK 4 0 = nI (cnS m t R 256)) (k2 : ∀ s, s < 256 → ftB m t R (nI s) = true → gK 2 (cnS m t R s) = nI s) (gT : Pic) : ∃ v g' k', f_X12_ask_L30 (nI (cnS m t R 256)) fu (-1, 2000000000, 0, g) = some (v, g') ∧ Es g g' ∧ f_X1_wordToAsk gK gT gS = some (v, k') := by
  obtain ⟨W, hW, tW, -, w8⟩ := hO.W.ex
  have gw := hR.W.trans hW
  have cl := cnS_le m t R 256
  by_cases c1 : 2 ≤ cnS m t R 256
  · have c2 : ¬ cnS m t R 256 ≤ 1 := by omega
    have H : ∃ c d, f_X12_ask_L30 (nI (cnS m t R 256)) fu (-1, 2000000000, 0, g) = some c ∧ f_X1_wordToAsk_L18 gT gS fu (-1, 257, 0, gK) = some d ∧ ∃ v g' k', c = (v, g') ∧ d = (v, k') ∧ Es g g' := by
      refine lp_two (fun k a b => ∃ (v : Int32) (x y : Nat) (g' h : Pic), a = (v, nI x, nI k, g') ∧ b = (v, nI y, nI k, h) ∧ Es g g' ∧ g' 27 = g 27 ∧ h 4 = gK 4 ∧ h 2 = gK 2 ∧ ((x = 2000000000 ∧ y = 257) ∨ (x = y ∧ x ≤ 256))) W (fun (c d : Int32 × Pic) => ∃ v g' k', c = (v, g') ∧ d = (v, k') ∧ Es g g') ?_ ?_ (by have := fu_big; omega) (by have := fu_big; omega) ⟨-1, 2000000000, 257, g, gK, rfl, rfl, Es.rf g, rfl, rfl, rfl, Or.inl ⟨rfl, rfl⟩⟩
      · rintro k hk _ _ ⟨v, x, y, g', h, rfl, rfl, hE, g27, h4, h2, hxy⟩
        have nk : ¬ W ≤ k := by omega
        have hm := hE.m.trans hg
        obtain ⟨g2, z1, z2, z3, z4⟩ := q_zero26a (g := g') (nI (cnS m t R 256)) v (nI x) (nI k)
        obtain ⟨u, g3, k3, u8, a1, a2, a3, a4, a5, a6⟩ := e_partOf (g := g2) (gK := h) (t := t) (R := R) (z2.m.trans hm) hO hR (show k < tn (m 3) by omega) (by rw [z4, g27]; exact hx) z3 (by rw [h4]; exact k4) (by rw [h2]; exact k2) (nI (cnS m t R 256)) v (nI x) gT
        by_cases c : u < x
        · have cy : ¬ y ≤ u := by omega
          refine Or.inl ⟨(nI k, nI u, nI (k + 1), g3), (nI k, nI u, nI (k + 1), k3), ⟨nI k, u, u, g3, k3, rfl, rfl, (hE.tr z2).tr a2, by rw [a3, z4, g27], a5.trans h4, a6.trans h2, Or.inr ⟨rfl, u8⟩⟩, fun r => ?_, fun r => ?_⟩
          · simp (disch := omega) only [bd_s, bd2_s, bd3_s, bd4_s, bd5_s, bd6_s, bd7_s, bd8_s, lr_l, lr_r, nm_s, jn_s, gdb_0, gdb_1, hm, hW, nI_leI, nI_le1, nk, if_false, c2, z1, a1, nI_ltI, c, if_true, nI_1]
          · simp (disch := omega) only [bd_s, bd2_s, bd3_s, bd4_s, bd5_s, bd6_s, bd7_s, bd8_s, lr_l, lr_r, nm_s, jn_s, gdb_0, gdb_1, li_2, li_3, li_4, li_5, li_6, li_7, li_8, li_9, li_10, li_11, li_12, li_13, li_14, li_15, li_16, li_20, li_24, li_32, li_40, li_41, li_43, li_48, li_57, li_59, li_60, li_62, li_63, li_76, li_96, li_97, li_99, li_100, li_104, li_116, li_122, li_128, li_129, li_216, li_217, li_218, li_219, li_239, li_240, li_255, li_256, li_257, li_400, li_456, li_856, li_999, li_1000, li_1001, li_1002, li_1003, li_1004, li_1005, li_1006, li_1007, li_1008, li_1161, li_2000, li_2001, li_2002, li_2003, li_2004, li_2005, li_5016, li_5472, li_9999, li_10000, li_32767, li_1000000, li_2000000000, nI_add, nI_mul, nI_sub, nI_clamp, nI_leI, nI_ltI, nI_eq, gdi_n, nI_1, nI_eq0, nI_eq1, nI_le0, nI_le1, nI_0le, nI_lt0, nI_0lt, nI_m1, Int32.add_zero, Nat.le_refl, if_true, if_false, Bool.false_eq_true, Bool.true_eq_false, i10, i01, im0, im1, i0m, i1m, l10, l00, l01, t10, t00, gw, nk, a4, cy]
        · have cy : y ≤ u := by omega
          refine Or.inl ⟨(v, nI x, nI (k + 1), g3), (v, nI y, nI (k + 1), k3), ⟨v, x, y, g3, k3, rfl, rfl, (hE.tr z2).tr a2, by rw [a3, z4, g27], a5.trans h4, a6.trans h2, hxy⟩, fun r => ?_, fun r => ?_⟩
          · simp (disch := omega) only [bd_s, bd2_s, bd3_s, bd4_s, bd5_s, bd6_s, bd7_s, bd8_s, lr_l, lr_r, nm_s, jn_s, gdb_0, gdb_1, hm, hW, nI_leI, nI_le1, nk, if_false, c2, z1, a1, nI_ltI, c, if_true, nI_1]
          · simp (disch := omega) only [bd_s, bd2_s, bd3_s, bd4_s, bd5_s, bd6_s, bd7_s, bd8_s, lr_l, lr_r, nm_s, jn_s, gdb_0, gdb_1, li_2, li_3, li_4, li_5, li_6, li_7, li_8, li_9, li_10, li_11, li_12, li_13, li_14, li_15, li_16, li_20, li_24, li_32, li_40, li_41, li_43, li_48, li_57, li_59, li_60, li_62, li_63, li_76, li_96, li_97, li_99, li_100, li_104, li_116, li_122, li_128, li_129, li_216, li_217, li_218, li_219, li_239, li_240, li_255, li_256, li_257, li_400, li_456, li_856, li_999, li_1000, li_1001, li_1002, li_1003, li_1004, li_1005, li_1006, li_1007, li_1008, li_1161, li_2000, li_2001, li_2002, li_2003, li_2004, li_2005, li_5016, li_5472, li_9999, li_10000, li_32767, li_1000000, li_2000000000, nI_add, nI_mul, nI_sub, nI_clamp, nI_leI, nI_ltI, nI_eq, gdi_n, nI_1, nI_eq0, nI_eq1, nI_le0, nI_le1, nI_0le, nI_lt0, nI_0lt, nI_m1, Int32.add_zero, Nat.le_refl, if_true, if_false, Bool.false_eq_true, Bool.true_eq_false, i10, i01, im0, im1, i0m, i1m, l10, l00, l01, t10, t00, gw, nk, a4, cy]
      · rintro _ _ ⟨v, x, y, g', h, rfl, rfl, hE, g27, h4, h2, hxy⟩
        have hm := hE.m.trans hg
        refine ⟨(v, g'), (v, h), ⟨v, g', h, rfl, rfl, hE⟩, fun r => if_pos (show g' 1 3 ≤ nI W by rw [hm, hW]; exact Int32.le_refl _), fun r => if_pos (show gS 0 0 ≤ nI W by rw [gw]; exact Int32.le_refl _)⟩
    obtain ⟨c, d, q1, q2, v, g', k', rfl, rfl, hE⟩ := H
    refine ⟨v, g', k', q1, hE, ?_⟩
    unfold f_X1_wordToAsk
    rw [k4, if_pos (show (2 : Int32) ≤ nI (cnS m t R 256) from nI_le c1 (by omega)), q2]
    rfl
  · refine ⟨-1, g, gK, ?_, Es.rf g, ?_⟩
    · refine lp_seq (fun _ => (-1, 2000000000, 0, g)) 0 _ (fun k hk => absurd hk (Nat.not_lt_zero k)) (fun r => ?_) (by have := fu_big; omega) rfl
      show (if g 1 3 ≤ 0 then some ((-1 : Int32), g) else if nI (cnS m t R 256) ≤ 1 then some ((-1 : Int32), g) else _) = some ((-1 : Int32), g)
      rw [if_pos (show nI (cnS m t R 256) ≤ 1 from nI_le (b := 1) (by omega) (by omega))]
      split <;> rfl
    · unfold f_X1_wordToAsk
      rw [k4, if_neg (show ¬ (2 : Int32) ≤ nI (cnS m t R 256) from nI_ge (b := 2) (by omega) (by omega))]
theorem e_whose (hg : g 1 = m) (hO : Ok m) (hR : RS gS gL m) (hQ : QK g m R) (hC : CK gK gT (g 7) R (tn (m 3))) : ∃ v, f_X12_whose_L18 (nI (2 * R)) g fu (0, 0) = some v ∧ f_X1_fittingWriters gK gT gS = some v := by
  obtain ⟨U, hU, tU, -, u5⟩ := hO.U.ex
  have gu := hR.U.trans hU
  have H : ∃ c d, f_X12_whose_L18 (nI (2 * R)) g fu (0, 0) = some c ∧ f_X1_fittingWriters_L4 gK gT gS fu (0, 0) = some d ∧ c = d := by
    refine lp_two (fun k a b => ∃ v : Int32, a = (v, nI k) ∧ b = (v, nI k)) U (fun c d => c = d) ?_ ?_ (by have := fu_big; omega) (by have := fu_big; omega) ⟨0, rfl, rfl⟩
    · rintro k hk _ _ ⟨v, rfl, rfl⟩
      have nk : ¬ U ≤ k := by omega
      have hk' : k < tn (m 4) := by omega
      have q := q_by hg hO hQ (wr m k 0)
      have q2 := k_by hO hR hC (wr m k 0)
      have qo : f_X12_of g (nI k) 0 = some (wr (g 1) k 0) := q_of (g := g) (k := 0) (show k < 5 by omega) (by omega)
      rw [hg] at qo
      have gl := hR.leaves hk'
      cases b : ftB m (g 7) R (wr m k 0) with
      | false =>
        rw [b] at q q2
        have q : f_X12_isByHand g (wr m k 0) (nI (2 * R)) = some 0 := q
        have q2 : f_X1_fitsSet gK gT gS (wr m k 0) = some 0 := q2
        refine Or.inl ⟨(v, nI (k + 1)), (v, nI (k + 1)), ⟨_, rfl, rfl⟩, fun r => ?_, fun r => ?_⟩
        · simp (disch := omega) only [bd_s, bd2_s, bd3_s, bd4_s, bd5_s, bd6_s, bd7_s, bd8_s, lr_l, lr_r, nm_s, jn_s, gdb_0, gdb_1, li_2, li_3, li_4, li_5, li_6, li_7, li_8, li_9, li_10, li_11, li_12, li_13, li_14, li_15, li_16, li_20, li_24, li_32, li_40, li_41, li_43, li_48, li_57, li_59, li_60, li_62, li_63, li_76, li_96, li_97, li_99, li_100, li_104, li_116, li_122, li_128, li_129, li_216, li_217, li_218, li_219, li_239, li_240, li_255, li_256, li_257, li_400, li_456, li_856, li_999, li_1000, li_1001, li_1002, li_1003, li_1004, li_1005, li_1006, li_1007, li_1008, li_1161, li_2000, li_2001, li_2002, li_2003, li_2004, li_2005, li_5016, li_5472, li_9999, li_10000, li_32767, li_1000000, li_2000000000, nI_add, nI_mul, nI_sub, nI_clamp, nI_leI, nI_ltI, nI_eq, gdi_n, nI_1, nI_eq0, nI_eq1, nI_le0, nI_le1, nI_0le, nI_lt0, nI_0lt, nI_m1, Int32.add_zero, Nat.le_refl, if_true, if_false, Bool.false_eq_true, Bool.true_eq_false, i10, i01, im0, im1, i0m, i1m, l10, l00, l01, t10, t00, hg, hU, nk, qo, q, Int32.or_zero]
        · simp (disch := omega) only [bd_s, bd2_s, bd3_s, bd4_s, bd5_s, bd6_s, bd7_s, bd8_s, lr_l, lr_r, nm_s, jn_s, gdb_0, gdb_1, li_2, li_3, li_4, li_5, li_6, li_7, li_8, li_9, li_10, li_11, li_12, li_13, li_14, li_15, li_16, li_20, li_24, li_32, li_40, li_41, li_43, li_48, li_57, li_59, li_60, li_62, li_63, li_76, li_96, li_97, li_99, li_100, li_104, li_116, li_122, li_128, li_129, li_216, li_217, li_218, li_219, li_239, li_240, li_255, li_256, li_257, li_400, li_456, li_856, li_999, li_1000, li_1001, li_1002, li_1003, li_1004, li_1005, li_1006, li_1007, li_1008, li_1161, li_2000, li_2001, li_2002, li_2003, li_2004, li_2005, li_5016, li_5472, li_9999, li_10000, li_32767, li_1000000, li_2000000000, nI_add, nI_mul, nI_sub, nI_clamp, nI_leI, nI_ltI, nI_eq, gdi_n, nI_1, nI_eq0, nI_eq1, nI_le0, nI_le1, nI_0le, nI_lt0, nI_0lt, nI_m1, Int32.add_zero, Nat.le_refl, if_true, if_false, Bool.false_eq_true, Bool.true_eq_false, i10, i01, im0, im1, i0m, i1m, l10, l00, l01, t10, t00, gu, nk, gl, q2]
      | true =>
        rw [b] at q q2
        have q : f_X12_isByHand g (wr m k 0) (nI (2 * R)) = some 1 := q
        have q2 : f_X1_fitsSet gK gT gS (wr m k 0) = some 1 := q2
        refine Or.inl ⟨(v ||| ((1 : Int32) <<< (nI k &&& 31)), nI (k + 1)), (v ||| ((1 : Int32) <<< (nI k &&& 31)), nI (k + 1)), ⟨_, rfl, rfl⟩, fun r => ?_, fun r => ?_⟩
        · simp (disch := omega) only [bd_s, bd2_s, bd3_s, bd4_s, bd5_s, bd6_s, bd7_s, bd8_s, lr_l, lr_r, nm_s, jn_s, gdb_0, gdb_1, li_2, li_3, li_4, li_5, li_6, li_7, li_8, li_9, li_10, li_11, li_12, li_13, li_14, li_15, li_16, li_20, li_24, li_32, li_40, li_41, li_43, li_48, li_57, li_59, li_60, li_62, li_63, li_76, li_96, li_97, li_99, li_100, li_104, li_116, li_122, li_128, li_129, li_216, li_217, li_218, li_219, li_239, li_240, li_255, li_256, li_257, li_400, li_456, li_856, li_999, li_1000, li_1001, li_1002, li_1003, li_1004, li_1005, li_1006, li_1007, li_1008, li_1161, li_2000, li_2001, li_2002, li_2003, li_2004, li_2005, li_5016, li_5472, li_9999, li_10000, li_32767, li_1000000, li_2000000000, nI_add, nI_mul, nI_sub, nI_clamp, nI_leI, nI_ltI, nI_eq, gdi_n, nI_1, nI_eq0, nI_eq1, nI_le0, nI_le1, nI_0le, nI_lt0, nI_0lt, nI_m1, Int32.add_zero, Nat.le_refl, if_true, if_false, Bool.false_eq_true, Bool.true_eq_false, i10, i01, im0, im1, i0m, i1m, l10, l00, l01, t10, t00, hg, hU, nk, qo, q]
        · simp (disch := omega) only [bd_s, bd2_s, bd3_s, bd4_s, bd5_s, bd6_s, bd7_s, bd8_s, lr_l, lr_r, nm_s, jn_s, gdb_0, gdb_1, li_2, li_3, li_4, li_5, li_6, li_7, li_8, li_9, li_10, li_11, li_12, li_13, li_14, li_15, li_16, li_20, li_24, li_32, li_40, li_41, li_43, li_48, li_57, li_59, li_60, li_62, li_63, li_76, li_96, li_97, li_99, li_100, li_104, li_116, li_122, li_128, li_129, li_216, li_217, li_218, li_219, li_239, li_240, li_255, li_256, li_257, li_400, li_456, li_856, li_999, li_1000, li_1001, li_1002, li_1003, li_1004, li_1005, li_1006, li_1007, li_1008, li_1161, li_2000, li_2001, li_2002, li_2003, li_2004, li_2005, li_5016, li_5472, li_9999, li_10000, li_32767, li_1000000, li_2000000000, nI_add, nI_mul, nI_sub, nI_clamp, nI_leI, nI_ltI, nI_eq, gdi_n, nI_1, nI_eq0, nI_eq1, nI_le0, nI_le1, nI_0le, nI_lt0, nI_0lt, nI_m1, Int32.add_zero, Nat.le_refl, if_true, if_false, Bool.false_eq_true, Bool.true_eq_false, i10, i01, im0, im1, i0m, i1m, l10, l00, l01, t10, t00, gu, nk, gl, q2]
    · rintro _ _ ⟨v, rfl, rfl⟩
      refine ⟨v, v, rfl, fun r => ?_, fun r => ?_⟩
      · simp (disch := omega) only [bd_s, bd2_s, bd3_s, bd4_s, bd5_s, bd6_s, bd7_s, bd8_s, lr_l, lr_r, nm_s, jn_s, gdb_0, gdb_1, li_2, li_3, li_4, li_5, li_6, li_7, li_8, li_9, li_10, li_11, li_12, li_13, li_14, li_15, li_16, li_20, li_24, li_32, li_40, li_41, li_43, li_48, li_57, li_59, li_60, li_62, li_63, li_76, li_96, li_97, li_99, li_100, li_104, li_116, li_122, li_128, li_129, li_216, li_217, li_218, li_219, li_239, li_240, li_255, li_256, li_257, li_400, li_456, li_856, li_999, li_1000, li_1001, li_1002, li_1003, li_1004, li_1005, li_1006, li_1007, li_1008, li_1161, li_2000, li_2001, li_2002, li_2003, li_2004, li_2005, li_5016, li_5472, li_9999, li_10000, li_32767, li_1000000, li_2000000000, nI_add, nI_mul, nI_sub, nI_clamp, nI_leI, nI_ltI, nI_eq, gdi_n, nI_1, nI_eq0, nI_eq1, nI_le0, nI_le1, nI_0le, nI_lt0, nI_0lt, nI_m1, Int32.add_zero, Nat.le_refl, if_true, if_false, Bool.false_eq_true, Bool.true_eq_false, i10, i01, im0, im1, i0m, i1m, l10, l00, l01, t10, t00, hg, hU]
        done
      · simp (disch := omega) only [bd_s, bd2_s, bd3_s, bd4_s, bd5_s, bd6_s, bd7_s, bd8_s, lr_l, lr_r, nm_s, jn_s, gdb_0, gdb_1, li_2, li_3, li_4, li_5, li_6, li_7, li_8, li_9, li_10, li_11, li_12, li_13, li_14, li_15, li_16, li_20, li_24, li_32, li_40, li_41, li_43, li_48, li_57, li_59, li_60, li_62, li_63, li_76, li_96, li_97, li_99, li_100, li_104, li_116, li_122, li_128, li_129, li_216, li_217, li_218, li_219, li_239, li_240, li_255, li_256, li_257, li_400, li_456, li_856, li_999, li_1000, li_1001, li_1002, li_1003, li_1004, li_1005, li_1006, li_1007, li_1008, li_1161, li_2000, li_2001, li_2002, li_2003, li_2004, li_2005, li_5016, li_5472, li_9999, li_10000, li_32767, li_1000000, li_2000000000, nI_add, nI_mul, nI_sub, nI_clamp, nI_leI, nI_ltI, nI_eq, gdi_n, nI_1, nI_eq0, nI_eq1, nI_le0, nI_le1, nI_0le, nI_lt0, nI_0lt, nI_m1, Int32.add_zero, Nat.le_refl, if_true, if_false, Bool.false_eq_true, Bool.true_eq_false, i10, i01, im0, im1, i0m, i1m, l10, l00, l01, t10, t00, gu]
        done
  obtain ⟨c, d, q1, q2, rfl⟩ := H
  exact ⟨c, q1, by unfold f_X1_fittingWriters; rw [q2]; rfl⟩
end K17
