/-! the start: both objects made, the law's own row, the loop -/
theorem m0_e {p : Nat} (h1 : p ≠ 1) (h7 : p ≠ 7) (h11 : p ≠ 11) : g0M 1 p = 0 := by
  show upd (upd (upd (fun _ => 0) 1 (-1)) 7 3) 11 1 p = 0
  rw [upd_o h11, upd_o h7, upd_o h1]
theorem bn_0 {hi : Nat} : Bn 0 0 hi := ⟨by decide, Nat.zero_le _, Nat.le_trans (show tn 0 ≤ 0 by decide) (Nat.zero_le _)⟩
theorem t_00 : tn 0 = 0 := by decide
theorem ok_0 : Ok (g0M 1) := by
  have e3 : g0M 1 3 = 0 := m0_e (by omega) (by omega) (by omega)
  have e4 : g0M 1 4 = 0 := m0_e (by omega) (by omega) (by omega)
  have e5 : g0M 1 5 = 0 := m0_e (by omega) (by omega) (by omega)
  refine ⟨by rw [m0_e (by omega) (by omega) (by omega)]; exact bn_0, by rw [e3]; exact bn_0, by rw [e4]; exact bn_0, by rw [e5]; exact bn_0, by rw [m0_e (p := 6) (by omega) (by omega) (by omega)]; exact bn_0, show Bn 3 1 9 from ⟨by decide, by decide, by decide⟩, by rw [m0_e (by omega) (by omega) (by omega)]; exact bn_0, by rw [m0_e (by omega) (by omega) (by omega)]; exact bn_0, by rw [m0_e (by omega) (by omega) (by omega)]; exact bn_0, fun w hw => ?_, fun k hk => ?_, fun u hu => ?_⟩
  · rw [e3, t_00] at hw; exact absurd hw (Nat.not_lt_zero w)
  · rw [e5, t_00] at hk; exact absurd hk (Nat.not_lt_zero k)
  · rw [e4, t_00] at hu; exact absurd hu (Nat.not_lt_zero u)
theorem rs_0 : RS g0St gz (g0M 1) := by
  have e3 : g0M 1 3 = 0 := m0_e (by omega) (by omega) (by omega)
  have e4 : g0M 1 4 = 0 := m0_e (by omega) (by omega) (by omega)
  have e5 : g0M 1 5 = 0 := m0_e (by omega) (by omega) (by omega)
  have e10 : g0M 1 10 = 0 := m0_e (by omega) (by omega) (by omega)
  refine ⟨by rw [e3]; rfl, by rw [e5]; rfl, by rw [m0_e (p := 6) (by omega) (by omega) (by omega)]; rfl, by rw [e4]; rfl, rfl, by rw [m0_e (p := 8) (by omega) (by omega) (by omega)]; rfl, by rw [m0_e (p := 9) (by omega) (by omega) (by omega)]; rfl, rfl, by rw [m0_e (p := 0) (by omega) (by omega) (by omega)]; rfl, fun w hw => ?_, fun k hk => ?_, fun u hu => ?_, by rw [e10]; rfl, 0, by omega, rfl, fun a c ha _ => ?_⟩
  · rw [e3, t_00] at hw; exact absurd hw (Nat.not_lt_zero w)
  · rw [e5, t_00] at hk; exact absurd hk (Nat.not_lt_zero k)
  · rw [e4, t_00] at hu; exact absurd hu (Nat.not_lt_zero u)
  · rw [e10, t_00] at ha; exact absurd ha (Nat.not_lt_zero a)
theorem inv_0 (SG SK : Nat → Pic) (SQ : Nat → Option Nat) : INV g0M g0PU g0Tp g0St gz none none true (fun _ => false) SG SK SQ :=
  ⟨ok_0, rs_0, rfl, ⟨fun _ => 0, 0, rfl, rfl, by omega, fun i hi => absurd hi (Nat.not_lt_zero i)⟩, rfl, ⟨0, 0, by omega, by omega, rfl, rfl, rfl, fun j hj => absurd hj (Nat.not_lt_zero j)⟩, fun _ => rfl, fun z => by cases z⟩
def wP0 (tc : Nat → ClassId) (h : Nat) (u : Nat → Nat → Nat) : va_W := wPU tc (fun _ => h) g0PU (u 1 0) (u 2 0) (u 4 0) (u 6 0) (u 7 0) (u 8 0) (u 9 0) (u 11 0) (u 12 0) (u 13 0) (u 14 0) none ++ (wTp tc (u 1) g0Tp ++ (wSt tc (u 2) g0St none (u 3 0) ++ (wLg tc (u 3) gz ++ (wSt tc (u 4) g0St none (u 5 0) ++ (wLg tc (u 5) gz ++ (wEv tc (u 6) gz (u 1 0) (u 4 0) ++ (wLR tc (u 7) gz (u 1 0) ++ (wHd tc (u 8) gz ++ (wCk tc (u 9) gz (u 8 0) (u 10 0) ++ (wFa tc (u 10) gz ++ (wLx tc (u 11) gz (u 2 0) ++ (wCl tc (u 12) gz (u 1 0) (u 2 0) ++ (wSc tc (u 13) gz (u 2 0) (u 8 0) ++ wMm tc (u 14 0) (fun _ => none))))))))))))))
theorem mrw_0 (SA : Nat → Nat → Nat) : mrw (fun _ => false) SA = fun _ => none := by
  funext k
  unfold mrw mrow
  by_cases z : k < 12
  · rw [if_pos z, if_neg (show ¬ (false = true) by decide)]
  · rw [if_neg z]
theorem top_0 (tc : Nat → ClassId) (h : Nat) (u : Nat → Nat → Nat) (a : Nat → Nat) : ∃ w, List.Perm (wP0 tc h u ++ wM tc a g0M) w ∧ Top tc h (a 0) 0 w := by
  let A : Nat → Nat → Nat := fun k => if k = 0 then (fun _ => h) else if k = 16 then a else u k
  let G : Nat → Pic := fun k => if k = 0 then g0PU else if k = 1 then g0Tp else if k = 2 then g0St else if k = 4 then g0St else if k = 16 then g0M else gz
  refine ⟨flB (blk tc A G none none none (fun _ => false) u u (fun _ => gz) (fun _ => gz) (fun _ => none) []) allB, List.Perm.of_eq ?_, A, G, none, none, none, true, fun _ => false, u, u, fun _ => gz, fun _ => gz, fun _ => none, [], rfl, rfl, rfl, inv_0 _ _ _, ⟨Or.inl rfl, Or.inl rfl⟩, rfl, rfl⟩
  unfold wP0
  rw [← mrw_0 u]
  simp only [List.append_assoc]
  rfl
section SS
variable {pr : Program} {l : Launch} {e : Env} {R : Room} {D : va_G} {sk sv : Nat → Nat} {tys : List (ClassId × FieldType)} {own : String} {cc : ByteArray} {n : Nat} {s : State} {m : MethodId} {args : Array Value} {below : List Frame} {meth : Method} {c : Code} {A : Nat → Prop} {H : Heap} {locs : List Loc} {cells slots : Nat} {Q : State → Prop} {pc : Nat} {ls : Array Slot} {rest : List Value}
theorem callY_I {y' : MethodName} {cc' : ByteArray} {n' : Nat} {rm' : Room} {mc' ms' b index : Nat} {As : List Value} {ws wc wr : va_W} {υ : Type} {wf : υ → va_W} (isC isR : List Nat) (X : CY pr D sk sv tys own cc n s m args c A) (hM : CN l D sk sv tys y' cc' n' rm' mc' ms' (.ref b :: As) wc wf)
    (m1 : Cond.methodLink own index y' ∈ WG) (m2 : Cond.instanceMethod y' ∈ WG) (m4 : Cond.initialized y'.cls ∈ WG) (m5 : Cond.code y' cc' n' none ∈ WG) (hd : y'.cls ≠ "java/lang/invoke/MethodHandle" ∧ y'.cls ≠ "java/lang/invoke/VarHandle" ∧ (parseMethodDescriptor y'.desc).map (fun d => d.parameters.length) = some As.length) (hy1 : y'.name = "<init>") (hR : rm'.frames + 1 ≤ R.frames ∧ 8 + (n' + 11) + rm'.locals ≤ R.locals) (hrc : rm'.cells = mc') (hrs : rm'.slots = ms') (hcs : cells + mc' ≤ R.cells ∧ slots + ms' ≤ R.slots)
    (hpl : isC.map (fun i => ws[i]?) = wc.map some ∧ isR.map (fun i => ws[i]?) = wr.map some ∧ va_nd isC = true ∧ va_nd isR = true ∧ ∀ i ∈ isR, i ∉ isC) (hP : va_P D vwCl ws H) (hD : va_D A ws) (hS : va_S A s.heap H locs) (hsize : ls.size = n) (hrest : (rest.map fun v => v.category).sum ≤ 8) (hdg : decode cc pc = .ok (.invokespecial index, 3))
    (kk : ∀ (u : υ) (H1 : Heap) (locs1 : List Loc), va_P D vwCl (wr ++ wf u) H1 → va_D A (wr ++ wf u) → va_S A s.heap H1 locs1 → W pr l e R s m args below meth c H1 locs1 (cells + mc') (slots + ms') Q (F0 m (pc + 3) ls rest)) : W pr l e R s m args below meth c H locs cells slots Q (F0 m pc ls (As.reverse ++ .ref b :: rest)) := by
  obtain ⟨hx, hb, hml, hown, hts, hA, hK, hE⟩ := X
  have hcw : CallB R s args own index y' cc' n' none (wsG y' cc' n' none) rm' mc' ms' As.length ∧ y'.name = "<init>" ∧ (Cond.instanceMethod y').before args s = true := ⟨callB_of As.length hts (wg_goodW (fun w h => (List.mem_cons.mp h).elim (fun e => by rw [e]; exact m5) (fun h => h))) rfl hrc hrs (hts _ m4) (hts _ m1) hd hR, hy1, hts _ m2⟩
  exact goN (isC := isC) (isR := isR) (va_runI (As := As) (rest := rest) (nL := n) (Ts := WG) (own := own) ⟨hx, hb, hml, hown, hts⟩ (hM H.size) hcw (preN hK hE hA hS hP hD hpl.1 hpl.2.2.1) rfl rfl hsize rfl (lv_room hrest) hdg hcs) hA hpl.1 hpl.2.1 hpl.2.2.2.1 hpl.2.2.2.2 hS hP hD kk
end SS
