/-! the calls that change: over all blocks -/
section T5
variable {l : Launch} {dC : Nat → ClassId} {dI : Nat → Nat → Nat} {sk sv : Nat → Nat} {tc : Nat → ClassId} {A : Nat → Nat → Nat} {G G' : Nat → Pic} {q1 q1' : Option Nat} {lo lo' ko ko' : Option LawT} {sh : Bool} {hs : Nat → Bool} {SA SL : Nat → Nat → Nat} {SG SK : Nat → Pic} {SQ : Nat → Option Nat} {Z Z' : va_W} {y : MethodName} {cc : ByteArray} {n : Nat} {rt : Option FieldType} {av : List Value}
theorem sCP {D : va_G} {f : Nat → va_W} {is : List Nat} {wc zr : va_W} {rm : Room} {mc ms : Nat} {PN PI : Option Value → va_W → Prop} {PX : String → va_W → Prop} {PE : Nat → va_W → Prop} (hC : CZ l D sk sv (TY tc) y (.code y cc n rt) rm mc ms av wc PN PX) (hp : List.Perm (flB f is) (wc ++ zr)) (hn : is.Nodup) (h33 : ∀ i ∈ is, i < 33) (hrm : rmOk rm mc ms) (hN : ∀ v w', PN v w' → ∃ f', List.Perm (w' ++ zr) (flB f' is) ∧ (∀ i, i ∉ is → f' i = f i) ∧ PI v (flB f' allB)) (hX : ∀ E w', PX E w' → ∃ k f', E = exn k ∧ List.Perm (w' ++ zr) (flB f' is) ∧ (∀ i, i ∉ is → f' i = f i) ∧ PE k (flB f' allB)) : SC l D sk sv tc y cc n rt av (flB f allB) PI PE := by
  refine sC (PN := fun v w'' => ∃ f', w'' = flB f' is ∧ (∀ i, i ∉ is → f' i = f i) ∧ PI v (flB f' allB)) (PX := fun E w'' => ∃ k f', E = exn k ∧ w'' = flB f' is ∧ (∀ i, i ∉ is → f' i = f i) ∧ PE k (flB f' allB)) (CZ.fr hC hp (fun v w' h => ?_) (fun E w' h => ?_)) hn h33 hrm (fun _ _ h => h) (fun _ _ h => h)
  · obtain ⟨f', a, b, c⟩ := hN v w' h
    exact ⟨flB f' is, a, f', rfl, b, c⟩
  · obtain ⟨k, f', a, b, c, d⟩ := hX E w' h
    exact ⟨flB f' is, b, k, f', a, rfl, c, d⟩
theorem mrow12 {j : Nat} (hj : j < 12) (u : Nat → Nat) : mrow (va_up hs j true) (va_up SA j u) 12 = mrow hs SA 12 := by
  unfold mrow
  rw [va_up_ne _ _ (show (12 : Nat) ≠ j by omega), va_up_ne _ _ (show (12 : Nat) ≠ j by omega)]
theorem slB_t {j : Nat} (h : hs j = true) : slB tc hs SA SL SG SK SQ j = wSt tc (SA j) (SG j) (SQ j) (SL j 0) ++ wLg tc (SL j) (SK j) := by
  unfold slB
  rw [if_pos h]
theorem slB_f {j : Nat} (h : hs j = false) : slB tc hs SA SL SG SK SQ j = [] := by
  unfold slB
  rw [if_neg (by rw [h]; decide)]
theorem blk_A {j : Nat} {u1 u2 : Nat → Nat} {x y : Pic} {q : Option Nat} {b : Bool} {i : Nat} (h0 : i ≠ 0) (h14 : i ≠ 14) (hi : i ≠ j + 20) (hG : G' i = G i) (h15 : i = 15 → lo' = lo) (hl : lref lo' = lref lo) (h18 : i = 18 → ko' = ko) (h17 : i = 17 → Z' = Z) : blk tc A G' q1 lo' ko' (va_up hs j b) (va_up SA j u1) (va_up SL j u2) (va_up SG j x) (va_up SK j y) (va_up SQ j q) Z' i = blk tc A G q1 lo ko hs SA SL SG SK SQ Z i := by
  unfold blk
  split <;> first | rfl | (rw [hG]; done) | (rw [hG, hl]; done) | (rw [h15 rfl]; done) | (rw [h18 rfl]; done) | (rw [h17 rfl]; done) | exact absurd rfl h0 | exact absurd rfl h14 | exact slB_o (fun z => hi (by rw [z])) _ _ _ _ _ _
theorem blk_S {j : Nat} : blk tc A G q1 lo ko hs SA SL SG SK SQ Z (j + 20) = slB tc hs SA SL SG SK SQ j := rfl
theorem blk_L {i : Nat} (hG : G' i = G i) (h2 : i ≠ 2) (h15 : i ≠ 15) (h17 : i ≠ 17) (h18 : i ≠ 18) : blk tc A G' q1 lo' ko' hs SA SL SG SK SQ Z' i = blk tc A G q1 lo ko hs SA SL SG SK SQ Z i := by
  unfold blk
  split <;> first | rfl | (rw [hG]; done) | exact absurd rfl h2 | exact absurd rfl h15 | exact absurd rfl h17 | exact absurd rfl h18
/-- the slot that an act writes -/
theorem slz {j : Nat} (hj : j < 12) {g2 g3 : Pic} {m : Nat → Int32} (hO : Ok m) (hR : RS g2 g3 m) : ∃ G4 G5, SlZ tc (mrw hs SA) j (slB tc hs SA SL SG SK SQ j) g2 g3 G4 G5 ∧ RS G4 G5 m := by
  cases h : hs j with
  | false =>
    obtain ⟨a, b, k1, k2⟩ := k_copy hO hR g0St gz
    exact ⟨a, b, Or.inl ⟨by rw [mrw_j hj]; unfold mrow; rw [if_neg (by rw [h]; decide)], slB_f h, k1⟩, k2⟩
  | true =>
    obtain ⟨a, b, k1, k2⟩ := k_copy hO hR (SG j) (SK j)
    exact ⟨a, b, Or.inr ⟨SA j, SL j, SG j, SK j, SQ j, by rw [mrw_j hj]; unfold mrow; rw [if_pos h], slB_t h, k1⟩, k2⟩
theorem nd5 {j : Nat} : [0, 14, 2, 3, j + 20].Nodup := by
  first | (simp; done) | (simp; omega)
theorem lt5 {j : Nat} (hj : j < 12) : ∀ i ∈ [0, 14, 2, 3, j + 20], i < 33 := by
  intro i hi
  simp only [List.mem_cons, List.not_mem_nil, or_false] at hi
  omega
theorem nd9 {j : Nat} : [0, 14, 2, 3, 8, 9, 10, 15, j + 20].Nodup := by
  first | (simp; done) | (simp; omega)
theorem lt9 {j : Nat} (hj : j < 12) : ∀ i ∈ [0, 14, 2, 3, 8, 9, 10, 15, j + 20], i < 33 := by
  intro i hi
  simp only [List.mem_cons, List.not_mem_nil, or_false] at hi
  omega
theorem nd8 {j : Nat} : [0, 14, 2, 3, 8, 9, 10, j + 20].Nodup := by
  first | (simp; done) | (simp; omega)
theorem lt8 {j : Nat} (hj : j < 12) : ∀ i ∈ [0, 14, 2, 3, 8, 9, 10, j + 20], i < 33 := by
  intro i hi
  simp only [List.mem_cons, List.not_mem_nil, or_false] at hi
  omega
theorem t_faultE {g gP : Pic} (h : gP 14 0 = g 12 0) : ∃ v g', f_X12_fault g = some (v, g') ∧ f_X11_fault gP = some v ∧ Er g g' := ⟨_, _, (t_fault h).1, (t_fault h).2, Er.z g 0⟩
theorem INV.seed {g gP gT gS gL : Pic} (h : INV g gP gT gS gL lo ko sh hs SG SK SQ) (v : Int32) : INV (pu (pu g 0 0 0) 1 11 v) gP gT (pu gS 16 0 v) gL lo ko sh hs SG SK SQ := by
  obtain ⟨h1, h2, h3, ⟨c, n, t1, t2, t3, t4⟩, h5, h6, h7⟩ := h
  have e : ∀ p, p ≠ 11 → (pu (pu g 0 0 0) 1 11 v) 1 p = g 1 p := fun p hp => by rw [pu_s, if_neg hp]; rfl
  exact ⟨h1.sc (P := 11) (by omega) (fun z => absurd z (by omega)) (fun z => absurd z (by omega)) (fun z => absurd z (by omega)) (fun z => absurd z (by omega)), h2.sc (P := 11) (K := 16) h1 (by omega), h3.c (e 1 (by omega)) (e 2 (by omega)) (fun p hp _ => e p (by omega)), ⟨c, n, t1, t2, t3, t4⟩, h5, h6.m1 rfl rfl (e 1 (by omega)) (e 2 (by omega)) rfl, h7.m1 rfl rfl (e 1 (by omega)) (e 2 (by omega)) (fun p hp => e p (by omega)) rfl⟩
end T5

theorem top_fault (l : Launch) (hst : l.stackTraces = false) (dC : Nat → ClassId) (dI : Nat → Nat → Nat) (sk sv : Nat → Nat) (tc : Nat → ClassId) (ax am : Nat) {t : Int32} {w : va_W} (hT : Top tc ax am t w) : SC l (dC, dI) sk sv tc yX11_fault cX11_fault 1 (some .int) [.ref ax] w (PIa l (dC, dI) sk sv tc yX12_fault cX12_fault 1 (some .int) ax am [.ref am]) (fun _ _ => False) := by
  obtain ⟨A, G, q1, lo, ko, sh, hs, SA, SL, SG, SK, SQ, Z, rfl, rfl, rfl, hI, hB, h7, rfl⟩ := hT
  obtain ⟨v, g', e1, e2, e3⟩ : ∃ v g', f_X12_fault (G 16) = some (v, g') ∧ f_X11_fault (G 0) = some v ∧ _ := t_faultE hI.fault
  have hB' : hb g' := K_f_X12_fault _ hB _ e1
  refine sC (f := blk tc A G q1 lo ko hs SA SL SG SK SQ Z) (is := [0]) (CT.z (c_X11_fault l dC dI sk sv tc (A 0) (A 1 0) (A 2 0) (A 4 0) (A 6 0) (A 7 0) (A 8 0) (A 9 0) (A 11 0) (A 12 0) (A 13 0) (A 14 0) (mrow hs SA 12) (G 0) e2) rfl) (by decide) (by decide) ⟨by decide, by decide, rfl, rfl, by decide, by decide⟩ (fun v9 w' h => ?_) (fun E w' h => h.elim)
  obtain ⟨rfl, rfl⟩ := h
  exact ⟨blk tc A G q1 lo ko hs SA SL SG SK SQ Z, rfl, fun i hi => blk_N rfl (fun _ => rfl) (fun _ => rfl) rfl (fun _ => rfl) (fun _ => rfl), ⟨v, rfl⟩, mRA (c_X12_fault l dC dI sk sv tc (A 16) (G 16) e1) (hI.er e3) hB' h7 ⟨by decide, by decide, rfl, rfl, by decide, by decide⟩⟩
theorem top_feed (l : Launch) (hst : l.stackTraces = false) (dC : Nat → ClassId) (dI : Nat → Nat → Nat) (sk sv : Nat → Nat) (tc : Nat → ClassId) (ax am : Nat) {t : Int32} {w : va_W} (x1 x2 x3 x4 x5 : Int32) (hT : Top tc ax am t w) : SC l (dC, dI) sk sv tc yX11_feed cX11_feed 6 (some .int) [.ref ax, .int x1, .int x2, .int x3, .int x4, .int x5] w (PIa l (dC, dI) sk sv tc yX12_feed cX12_feed 8 (some .int) ax am [.ref am, .int x1, .int x2, .int x3, .int x4, .int x5]) (fun _ _ => False) := by
  obtain ⟨A, G, q1, lo, ko, sh, hs, SA, SL, SG, SK, SQ, Z, rfl, rfl, rfl, hI, hB, h7, rfl⟩ := hT
  obtain ⟨c, n, hT⟩ := hI.tp
  obtain ⟨v, g', gT', c', n', e1, e2, e3, e4⟩ := t_feed hT (G 0) x1 x2 x3 x4 x5
  have hB' : hb g' := K_f_X12_feed _ _ _ _ _ _ hB _ e1
  refine sC (f := blk tc A G q1 lo ko hs SA SL SG SK SQ Z) (is := [0, 1]) (CT.z (c_X11_feed l dC dI sk sv tc (A 0) (A 2 0) (A 4 0) (A 6 0) (A 7 0) (A 8 0) (A 9 0) (A 11 0) (A 12 0) (A 13 0) (A 14 0) (mrow hs SA 12) (A 1) (G 0) (G 1) x1 x2 x3 x4 x5 e2) rfl) (by decide) (by decide) ⟨by decide, by decide, rfl, rfl, by decide, by decide⟩ (fun v9 w' h => ?_) (fun E w' h => h.elim)
  obtain ⟨rfl, rfl⟩ := h
  exact ⟨blk tc A (va_up G 1 gT') q1 lo ko hs SA SL SG SK SQ Z, rfl, fun i hi => blk_N (va_up_ne _ _ (fun z => hi (by rw [z]; decide))) (fun _ => rfl) (fun _ => rfl) rfl (fun _ => rfl) (fun _ => rfl), ⟨v, rfl⟩, mRA (c_X12_feed l dC dI sk sv tc (A 16) (G 16) x1 x2 x3 x4 x5 e1) (hI.tape e3 e4) hB' h7 ⟨by decide, by decide, rfl, rfl, by decide, by decide⟩⟩
theorem top_end (l : Launch) (hst : l.stackTraces = false) (dC : Nat → ClassId) (dI : Nat → Nat → Nat) (sk sv : Nat → Nat) (tc : Nat → ClassId) (ax am : Nat) {t : Int32} {w : va_W} (x1 : Int32) (hT : Top tc ax am t w) : SC l (dC, dI) sk sv tc yX11_end cX11_end 2 (some .boolean) [.ref ax, .int x1] w (PIa l (dC, dI) sk sv tc yX12_end cX12_end 2 (some .boolean) ax am [.ref am, .int x1]) (fun _ _ => False) := by
  obtain ⟨A, G, q1, lo, ko, sh, hs, SA, SL, SG, SK, SQ, Z, rfl, rfl, rfl, hI, hB, h7, rfl⟩ := hT
  obtain ⟨c, n, hT⟩ := hI.tp
  obtain ⟨v, g', gT', c', n', e1, e2, e3, e4, -⟩ := t_end hT (G 0) x1
  have hB' : hb g' := K_f_X12_end _ _ hB _ e1
  refine sC (f := blk tc A G q1 lo ko hs SA SL SG SK SQ Z) (is := [0, 1]) (CT.z (c_X11_end l dC dI sk sv tc (A 0) (A 2 0) (A 4 0) (A 6 0) (A 7 0) (A 8 0) (A 9 0) (A 11 0) (A 12 0) (A 13 0) (A 14 0) (mrow hs SA 12) (A 1) (G 0) (G 1) x1 e2) rfl) (by decide) (by decide) ⟨by decide, by decide, rfl, rfl, by decide, by decide⟩ (fun v9 w' h => ?_) (fun E w' h => h.elim)
  obtain ⟨rfl, rfl⟩ := h
  exact ⟨blk tc A (va_up G 1 gT') q1 lo ko hs SA SL SG SK SQ Z, rfl, fun i hi => blk_N (va_up_ne _ _ (fun z => hi (by rw [z]; decide))) (fun _ => rfl) (fun _ => rfl) rfl (fun _ => rfl) (fun _ => rfl), ⟨v, rfl⟩, mRA (c_X12_end l dC dI sk sv tc (A 16) (G 16) x1 e1) (hI.tape e3 e4) hB' h7 ⟨by decide, by decide, rfl, rfl, by decide, by decide⟩⟩
theorem top_seed (l : Launch) (hst : l.stackTraces = false) (dC : Nat → ClassId) (dI : Nat → Nat → Nat) (sk sv : Nat → Nat) (tc : Nat → ClassId) (ax am : Nat) {t : Int32} {w : va_W} (x1 : Int32) (hT : Top tc ax am t w) : SC l (dC, dI) sk sv tc yX11_seed cX11_seed 3 (some .int) [.ref ax, .int x1] w (PIa l (dC, dI) sk sv tc yX12_seed cX12_seed 3 (some .int) ax am [.ref am, .int x1]) (fun _ _ => False) := by
  obtain ⟨A, G, q1, lo, ko, sh, hs, SA, SL, SG, SK, SQ, Z, rfl, rfl, rfl, hI, hB, h7, rfl⟩ := hT
  obtain ⟨e1, e2⟩ := t_seed hI.ok hI.rs (G 0) x1
  have hB' := K_f_X12_seed _ _ hB _ e1
  refine sC (f := blk tc A G q1 lo ko hs SA SL SG SK SQ Z) (is := [0, 2]) (CT.z (c_X11_seed l dC dI sk sv tc (A 0) (A 1 0) (A 4 0) (A 6 0) (A 7 0) (A 8 0) (A 9 0) (A 11 0) (A 12 0) (A 13 0) (A 14 0) (mrow hs SA 12) (A 2) (lref lo) (A 3 0) (G 0) (G 2) x1 e2) rfl) (by decide) (by decide) ⟨by decide, by decide, rfl, rfl, by decide, by decide⟩ (fun v9 w' h => ?_) (fun E w' h => h.elim)
  obtain ⟨rfl, rfl⟩ := h
  exact ⟨blk tc A (va_up G 2 (pu (G 2) 16 0 x1)) q1 lo ko hs SA SL SG SK SQ Z, rfl, fun i hi => blk_N (va_up_ne _ _ (fun z => hi (by rw [z]; decide))) (fun _ => rfl) (fun _ => rfl) rfl (fun _ => rfl) (fun _ => rfl), ⟨_, rfl⟩, mRA (c_X12_seed l dC dI sk sv tc (A 16) (G 16) x1 e1) (hI.seed x1) hB' h7 ⟨by decide, by decide, rfl, rfl, by decide, by decide⟩⟩
theorem top_evening (l : Launch) (hst : l.stackTraces = false) (dC : Nat → ClassId) (dI : Nat → Nat → Nat) (sk sv : Nat → Nat) (tc : Nat → ClassId) (ax am : Nat) {t : Int32} {w : va_W} (hT : Top tc ax am t w) : SC l (dC, dI) sk sv tc yX11_evening cX11_evening 2 (some .int) [.ref ax] w (PIr l (dC, dI) sk sv tc yX12_evening cX12_evening 2 (some .int) ax am [.ref am]) (PEr [1, 4] (fun k => if k = 1 then 1 else 2) l (dC, dI) sk sv tc yX12_evening cX12_evening 2 (some .int) ax am [.ref am]) := by
  obtain ⟨A, G, q1, lo, ko, sh, hs, SA, SL, SG, SK, SQ, Z, rfl, rfl, rfl, hI, hB, h7, rfl⟩ := hT
  obtain ⟨c, n, hT⟩ := hI.tp
  obtain ⟨v, g', res, e1, e2, e3, e4, e5⟩ := t_evening hI.ok hI.rs hT (G 0) (G 4) (G 5) (G 6)
  have hB' : hb g' := K_f_X12_evening _ hB _ e1
  refine sC (f := blk tc A G q1 lo ko hs SA SL SG SK SQ Z) (is := [0, 1, 2, 3, 4, 5, 6]) (CU.z (c_X11_evening l hst dC dI sk sv tc (A 0) (A 7 0) (A 8 0) (A 9 0) (A 11 0) (A 12 0) (A 13 0) (A 14 0) (mrow hs SA 12) (A 1) (A 2) (lref lo) (A 3) (A 4) q1 (A 5) (A 6) (G 0) (G 1) (G 2) (G 3) (G 4) (G 5) (G 6) e2) (fun _ _ => rfl)) (by decide) (by decide) ⟨by decide, by decide, rfl, rfl, by decide, by decide⟩ (fun v9 w' h => ?_) (fun E w' h => ?_)
  · obtain ⟨r, u, q, hr, rfl, rfl⟩ := h
    rcases e5 with ⟨gT', gS', gL', gD', gE', rfl, t1, h0, h6, f1, f2⟩ | ⟨gT', gD', gE', x, rfl, -⟩
    · cases hr
      exact ⟨blk tc A (va_up (va_up (va_up (va_up (va_up (va_up G 0 (pu (pu (G 0) 14 0 (g' 12 0)) 12 0 0)) 1 gT') 2 gS') 3 gL') 4 gD') 5 gE') q lo ko hs SA SL SG SK SQ Z, rfl, fun i hi => blk_N ((((((va_up_ne _ _ (fun z => hi (by rw [z]; decide))).trans (va_up_ne _ _ (fun z => hi (by rw [z]; decide)))).trans (va_up_ne _ _ (fun z => hi (by rw [z]; decide)))).trans (va_up_ne _ _ (fun z => hi (by rw [z]; decide)))).trans (va_up_ne _ _ (fun z => hi (by rw [z]; decide)))).trans (va_up_ne _ _ (fun z => hi (by rw [z]; decide)))) (fun z => absurd (by rw [z]; decide) hi) (fun _ => rfl) rfl (fun _ => rfl) (fun _ => rfl), ⟨v, rfl⟩, mR (c_X12_evening l dC dI sk sv tc (A 16) (G 16) e1) (hI.evOk e3 e4 t1 h6 f1 f2) hB' h7 h0 ⟨by decide, by decide, rfl, rfl, by decide, by decide⟩⟩
    · cases hr
  · obtain ⟨k, u, q, hr, rfl, rfl⟩ := h
    rcases e5 with ⟨gT', gS', gL', gD', gE', rfl, -⟩ | ⟨gT', gD', gE', x, rfl, t1, hx, -, h6, h1⟩
    · cases hr
    · cases hr
      have inv := hI.evNo (g' := g') (gT' := gT') (e3.1 2 (by omega) (by omega) (by omega) (by omega) (by omega) (by omega) (by omega) (by omega) (by omega) (by omega)) (by rw [e3.1 3 (by omega) (by omega) (by omega) (by omega) (by omega) (by omega) (by omega) (by omega) (by omega) (by omega)]) (e3.1 5 (by omega) (by omega) (by omega) (by omega) (by omega) (by omega) (by omega) (by omega) (by omega) (by omega)) e4 t1 (by rw [h6]) h1
      refine ⟨k, blk tc A (va_up (va_up (va_up (va_up (va_up (va_up G 0 (pu (G 0) 14 0 (g' 12 0))) 1 gT') 2 (G 2)) 3 (G 3)) 4 gD') 5 gE') q lo ko hs SA SL SG SK SQ Z, rfl, rfl, fun i hi => blk_N ((((((va_up_ne _ _ (fun z => hi (by rw [z]; decide))).trans (va_up_ne _ _ (fun z => hi (by rw [z]; decide)))).trans (va_up_ne _ _ (fun z => hi (by rw [z]; decide)))).trans (va_up_ne _ _ (fun z => hi (by rw [z]; decide)))).trans (va_up_ne _ _ (fun z => hi (by rw [z]; decide)))).trans (va_up_ne _ _ (fun z => hi (by rw [z]; decide)))) (fun z => absurd (by rw [z]; decide) hi) (fun _ => rfl) rfl (fun _ => rfl) (fun _ => rfl), ?_, mRE (c_X12_evening l dC dI sk sv tc (A 16) (G 16) e1) inv hB' h7 ?_ ⟨by decide, by decide, rfl, rfl, by decide, by decide⟩⟩
      · rcases hx with ⟨rfl, -⟩ | ⟨rfl, -⟩ <;> decide
      · rcases hx with ⟨rfl, h0⟩ | ⟨rfl, h0⟩ <;> exact h0
set_option maxHeartbeats 2000000 in
theorem top_law (l : Launch) (hst : l.stackTraces = false) (dC : Nat → ClassId) (dI : Nat → Nat → Nat) (sk sv : Nat → Nat) (tc : Nat → ClassId) (ax am : Nat) {t : Int32} {w : va_W} (hT : Top tc ax am t w) : SC l (dC, dI) sk sv tc yX11_law cX11_law 3 (some .int) [.ref ax] w (PIr l (dC, dI) sk sv tc yX12_law cX12_law 3 (some .int) ax am [.ref am]) (PEr [1] (fun _ => 1) l (dC, dI) sk sv tc yX12_law cX12_law 3 (some .int) ax am [.ref am]) := by
  obtain ⟨A, G, q1, lo, ko, sh, hs, SA, SL, SG, SK, SQ, Z, rfl, rfl, rfl, hI, hB, h7, rfl⟩ := hT
  obtain ⟨r, G7, G1, v, g', e2, e1, z7, hb3, hok, hno⟩ := t_law (gR := G 7) hI hB h7
  have hB' : hb g' := K_f_X12_law _ hB _ e1
  refine sCP (f := blk tc A G q1 lo ko hs SA SL SG SK SQ Z) (is := [0, 1, 2, 7, 15, 17, 18]) (zr := lawB tc lo ++ (Z ++ lawB tc ko)) (c_X11_law l hst dC dI sk sv tc (A 0) (A 1) (A 2) (A 7) (A 4 0) (A 6 0) (A 8 0) (A 9 0) (A 11 0) (A 12 0) (A 13 0) (A 14 0) (A 3 0) (mrow hs SA 12) (lref lo) (G 0) (G 1) (G 2) (G 7) e2 hb3) (List.Perm.of_eq ?_) (by decide) (by decide) ⟨by decide, by decide, rfl, rfl, by decide, by decide⟩ (fun v9 w' h => ?_) (fun E w' h => ?_)
  · show blk tc A G q1 lo ko hs SA SL SG SK SQ Z 0 ++ (blk tc A G q1 lo ko hs SA SL SG SK SQ Z 1 ++ (blk tc A G q1 lo ko hs SA SL SG SK SQ Z 2 ++ (blk tc A G q1 lo ko hs SA SL SG SK SQ Z 7 ++ (lawB tc lo ++ (Z ++ lawB tc ko))))) = _
    simp only [List.append_assoc]
    rfl
  · obtain ⟨h0, u, rfl, rfl⟩ := h
    obtain ⟨rfl, k0, inv⟩ := hok h0
    cases sh with
    | true =>
      refine ⟨blk tc A (va_up (va_up (va_up G 0 (pu (pu (G 0) 14 0 (G1 7 0)) 12 0 0)) 1 G1) 7 G7) q1 (some (u, gLaw (G7 5 0) (G7 1) (G7 2) (G7 3) (G7 4), lnLaw (G7 5 0) (G7 3))) lo hs SA SL SG SK SQ (Z ++ lawB tc ko), ?_, fun i hi => ?_, ⟨_, rfl⟩, mR (c_X12_law l dC dI sk sv tc (A 16) (G 16) e1) (inv u lo (fun _ => rfl) (fun z => absurd z (by decide))) hB' z7 k0 ⟨by decide, by decide, rfl, rfl, by decide, by decide⟩⟩
      · show List.Perm _ (wPU tc (A 0) (pu (pu (G 0) 14 0 (G1 7 0)) 12 0 0) (A 1 0) (A 2 0) (A 4 0) (A 6 0) (A 7 0) (A 8 0) (A 9 0) (A 11 0) (A 12 0) (A 13 0) (A 14 0) (mrow hs SA 12) ++ (wTp tc (A 1) G1 ++ (wSt tc (A 2) (G 2) (some (u 0)) (A 3 0) ++ (wLR tc (A 7) G7 (A 1 0) ++ (wLw tc u (gLaw (G7 5 0) (G7 1) (G7 2) (G7 3) (G7 4)) (lnLaw (G7 5 0) (G7 3)) ++ ((Z ++ lawB tc ko) ++ lawB tc lo))))))
        simp only [List.append_assoc]
        refine List.Perm.append_left _ (List.Perm.append_left _ (List.Perm.append_left _ (List.Perm.append_left _ (List.Perm.append_left _ ?_))))
        have p := List.perm_append_comm (l₁ := lawB tc lo) (l₂ := Z ++ lawB tc ko)
        simp only [List.append_assoc] at p
        exact p
      · exact blk_L (((va_up_ne _ _ (fun z => hi (by rw [z]; decide))).trans (va_up_ne _ _ (fun z => hi (by rw [z]; decide)))).trans (va_up_ne _ _ (fun z => hi (by rw [z]; decide)))) (fun z => hi (by rw [z]; decide)) (fun z => hi (by rw [z]; decide)) (fun z => hi (by rw [z]; decide)) (fun z => hi (by rw [z]; decide))
    | false =>
      refine ⟨blk tc A (va_up (va_up (va_up G 0 (pu (pu (G 0) 14 0 (G1 7 0)) 12 0 0)) 1 G1) 7 G7) q1 (some (u, gLaw (G7 5 0) (G7 1) (G7 2) (G7 3) (G7 4), lnLaw (G7 5 0) (G7 3))) ko hs SA SL SG SK SQ (lawB tc lo ++ Z), ?_, fun i hi => ?_, ⟨_, rfl⟩, mR (c_X12_law l dC dI sk sv tc (A 16) (G 16) e1) (inv u ko (fun z => absurd z (by decide)) (fun _ => rfl)) hB' z7 k0 ⟨by decide, by decide, rfl, rfl, by decide, by decide⟩⟩
      · show List.Perm _ (wPU tc (A 0) (pu (pu (G 0) 14 0 (G1 7 0)) 12 0 0) (A 1 0) (A 2 0) (A 4 0) (A 6 0) (A 7 0) (A 8 0) (A 9 0) (A 11 0) (A 12 0) (A 13 0) (A 14 0) (mrow hs SA 12) ++ (wTp tc (A 1) G1 ++ (wSt tc (A 2) (G 2) (some (u 0)) (A 3 0) ++ (wLR tc (A 7) G7 (A 1 0) ++ (wLw tc u (gLaw (G7 5 0) (G7 1) (G7 2) (G7 3) (G7 4)) (lnLaw (G7 5 0) (G7 3)) ++ ((lawB tc lo ++ Z) ++ lawB tc ko))))))
        simp only [List.append_assoc]
        exact List.Perm.refl _
      · exact blk_L (((va_up_ne _ _ (fun z => hi (by rw [z]; decide))).trans (va_up_ne _ _ (fun z => hi (by rw [z]; decide)))).trans (va_up_ne _ _ (fun z => hi (by rw [z]; decide)))) (fun z => hi (by rw [z]; decide)) (fun z => hi (by rw [z]; decide)) (fun z => hi (by rw [z]; decide)) (fun z => hi (by rw [z]; decide))
  · obtain ⟨h0, rfl, rfl⟩ := h
    obtain ⟨k0, inv⟩ := hno h0
    refine ⟨1, blk tc A (va_up (va_up (va_up G 0 (pu (G 0) 14 0 (G1 7 0))) 1 G1) 7 G7) q1 lo ko hs SA SL SG SK SQ Z, rfl, List.Perm.of_eq ?_, fun i hi => blk_N (((va_up_ne _ _ (fun z => hi (by rw [z]; decide))).trans (va_up_ne _ _ (fun z => hi (by rw [z]; decide)))).trans (va_up_ne _ _ (fun z => hi (by rw [z]; decide)))) (fun _ => rfl) (fun _ => rfl) rfl (fun _ => rfl) (fun _ => rfl), by decide, mRE (c_X12_law l dC dI sk sv tc (A 16) (G 16) e1) inv hB' z7 k0 ⟨by decide, by decide, rfl, rfl, by decide, by decide⟩⟩
    simp only [List.append_assoc]
    rfl
