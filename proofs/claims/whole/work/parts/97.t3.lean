/-! the top: a call of the class, then the reference's -/
def Top (tc : Nat → ClassId) (ax am : Nat) (t : Int32) (w : va_W) : Prop := ∃ (A : Nat → Nat → Nat) (G : Nat → Pic) (q1 : Option Nat) (lo ko : Option LawT) (sh : Bool) (hs : Nat → Bool) (SA SL : Nat → Nat → Nat) (SG SK : Nat → Pic) (SQ : Nat → Option Nat) (Z : va_W), A 0 0 = ax ∧ A 16 0 = am ∧ w = flB (blk tc A G q1 lo ko hs SA SL SG SK SQ Z) allB ∧ INV (G 16) (G 0) (G 1) (G 2) (G 3) lo ko sh hs SG SK SQ ∧ hb (G 16) ∧ G 7 3 0 = 0 ∧ G 16 0 0 = t
def rmOk (rm : Room) (mc ms : Nat) : Prop := rm.frames ≤ 100 ∧ rm.locals ≤ 5000 ∧ rm.cells = mc ∧ rm.slots = ms ∧ mc ≤ 20 ∧ ms ≤ 600
/-- the reference's call, yet to come -/
def MR (l : Launch) (D : va_G) (sk sv : Nat → Nat) (tc : Nat → ClassId) (y : MethodName) (cc : ByteArray) (n : Nat) (rt : Option FieldType) (am : Nat) (av : List Value) (w1 : va_W) (P : Option Value → va_W → Prop) : Prop := (∃ fs, (am, .inr (12, fs)) ∈ w1) ∧ ∃ rm : Room, rmOk rm 0 0 ∧ ∀ (ao : Nat) (o : Nat → Int64), CZ l D sk sv (TY tc) y (.code y cc n rt) rm 0 0 av (w1 ++ wO tc ao o) (fun v w' => ∃ w2, w' = w2 ++ wO tc ao o ∧ P v w2) (fun _ _ => False)
/-- the class's call -/
def SC (l : Launch) (D : va_G) (sk sv : Nat → Nat) (tc : Nat → ClassId) (y : MethodName) (cc : ByteArray) (n : Nat) (rt : Option FieldType) (av : List Value) (w : va_W) (PI : Option Value → va_W → Prop) (PE : Nat → va_W → Prop) : Prop := ∃ (rm : Room) (mc ms : Nat), rmOk rm mc ms ∧ ∀ (ao : Nat) (o : Nat → Int64), CZ l D sk sv (TY tc) y (.code y cc n rt) rm mc ms av (w ++ wO tc ao o) (fun v w' => ∃ w1, w' = w1 ++ wO tc ao o ∧ PI v w1) (PXc tc ao o PE)
section T4
variable {l : Launch} {dC : Nat → ClassId} {dI : Nat → Nat → Nat} {sk sv : Nat → Nat} {tc : Nat → ClassId} {A : Nat → Nat → Nat} {G G' : Nat → Pic} {q1 q1' : Option Nat} {lo lo' ko ko' : Option LawT} {sh : Bool} {hs : Nat → Bool} {SA SL : Nat → Nat → Nat} {SG SK : Nat → Pic} {SQ : Nat → Option Nat} {Z Z' : va_W} {y : MethodName} {cc : ByteArray} {n : Nat} {rt : Option FieldType} {av : List Value}
theorem blk_N {i : Nat} (hG : G' i = G i) (h4 : i = 4 → q1' = q1) (h15 : i = 15 → lo' = lo) (hl : lref lo' = lref lo) (h18 : i = 18 → ko' = ko) (h17 : i = 17 → Z' = Z) : blk tc A G' q1' lo' ko' hs SA SL SG SK SQ Z' i = blk tc A G q1 lo ko hs SA SL SG SK SQ Z i := by
  unfold blk
  split <;> first | rfl | (rw [hG]; done) | (rw [hG, hl]; done) | (rw [hG, h4 rfl]; done) | (rw [h15 rfl]; done) | (rw [h18 rfl]; done) | (rw [h17 rfl]; done)
theorem mem16 : ∃ fs, (A 16 0, .inr (12, fs)) ∈ flB (blk tc A G q1 lo ko hs SA SL SG SK SQ Z) allB := ⟨_, mem_all _ (i := 16) (by omega) (show _ ∈ wM tc (A 16) (G 16) from List.mem_cons_self)⟩
theorem mem0 : ∃ fs, (A 0 0, .inr (11, fs)) ∈ flB (blk tc A G q1 lo ko hs SA SL SG SK SQ Z) allB := ⟨_, mem_all _ (i := 0) (by omega) (show _ ∈ wPU tc (A 0) (G 0) _ _ _ _ _ _ _ _ _ _ _ _ from List.mem_cons_self)⟩
theorem mR {rm : Room} {v : Option Value} {t : Int32} {g' : Pic} (hc : CT l (dC, dI) sk sv (TY tc) y cc n rt rm av (wM tc (A 16) (G 16)) v (wM tc (A 16) g')) (hI : INV g' (G 0) (G 1) (G 2) (G 3) lo ko sh hs SG SK SQ) (hB : hb g') (h7 : G 7 3 0 = 0) (ht : g' 0 0 = t) (hrm : rmOk rm 0 0) : MR l (dC, dI) sk sv tc y cc n rt (A 16 0) av (flB (blk tc A G q1 lo ko hs SA SL SG SK SQ Z) allB) (fun b w2 => b = v ∧ Top tc (A 0 0) (A 16 0) t w2) := by
  refine ⟨mem16, rm, hrm, fun ao o => ?_⟩
  refine CZ.all (f := blk tc A G q1 lo ko hs SA SL SG SK SQ Z) (is := [16]) (CT.z hc rfl) (by decide) (by decide) (fun v9 w' h => ?_) (fun _ _ h => h.elim)
  obtain ⟨h1, h2⟩ := h
  exact ⟨blk tc A (va_up G 16 g') q1 lo ko hs SA SL SG SK SQ Z, h2, fun i hi => blk_N (va_up_ne _ _ (fun z => hi (by rw [z]; decide))) (fun _ => rfl) (fun _ => rfl) rfl (fun _ => rfl) (fun _ => rfl), _, rfl, h1, A, va_up G 16 g', q1, lo, ko, sh, hs, SA, SL, SG, SK, SQ, Z, rfl, rfl, rfl, hI, hB, h7, ht⟩
theorem MR.imp {D : va_G} {am : Nat} {w1 : va_W} {P P' : Option Value → va_W → Prop} (h : MR l D sk sv tc y cc n rt am av w1 P) (k : ∀ v w, P v w → P' v w) : MR l D sk sv tc y cc n rt am av w1 P' := by
  obtain ⟨h1, rm, h2, h3⟩ := h
  exact ⟨h1, rm, h2, fun ao o => (h3 ao o).imp (fun v w' => by rintro ⟨w2, a, b⟩; exact ⟨w2, a, k v w2 b⟩) (fun _ _ h => h)⟩
theorem mRE {rm : Room} {v t : Int32} {g' : Pic} (hc : CT l (dC, dI) sk sv (TY tc) y cc n rt rm av (wM tc (A 16) (G 16)) (some (.int v)) (wM tc (A 16) g')) (hI : INV g' (G 0) (G 1) (G 2) (G 3) lo ko sh hs SG SK SQ) (hB : hb g') (h7 : G 7 3 0 = 0) (ht : g' 0 0 = t) (hrm : rmOk rm 0 0) : MR l (dC, dI) sk sv tc y cc n rt (A 16 0) av (flB (blk tc A G q1 lo ko hs SA SL SG SK SQ Z) allB) (fun b w2 => (∃ r : Int32, b = some (.int r)) ∧ Top tc (A 0 0) (A 16 0) t w2) := (mR (G := G) hc hI hB h7 ht hrm).imp (fun _ _ h => ⟨⟨v, h.1⟩, h.2⟩)
theorem mRA {rm : Room} {v : Option Value} {g' : Pic} (hc : CT l (dC, dI) sk sv (TY tc) y cc n rt rm av (wM tc (A 16) (G 16)) v (wM tc (A 16) g')) (hI : INV g' (G 0) (G 1) (G 2) (G 3) lo ko sh hs SG SK SQ) (hB : hb g') (h7 : G 7 3 0 = 0) (hrm : rmOk rm 0 0) : MR l (dC, dI) sk sv tc y cc n rt (A 16 0) av (flB (blk tc A G q1 lo ko hs SA SL SG SK SQ Z) allB) (fun b w2 => b = v ∧ ∃ t, Top tc (A 0 0) (A 16 0) t w2) := (mR (G := G) hc hI hB h7 rfl hrm).imp (fun _ _ h => ⟨h.1, _, h.2⟩)
theorem sC {D : va_G} {f : Nat → va_W} {is : List Nat} {rm : Room} {mc ms : Nat} {PN PI : Option Value → va_W → Prop} {PX : String → va_W → Prop} {PE : Nat → va_W → Prop} (hC : CZ l D sk sv (TY tc) y (.code y cc n rt) rm mc ms av (flB f is) PN PX) (hn : is.Nodup) (h33 : ∀ i ∈ is, i < 33) (hrm : rmOk rm mc ms) (hN : ∀ v w', PN v w' → ∃ f', w' = flB f' is ∧ (∀ i, i ∉ is → f' i = f i) ∧ PI v (flB f' allB)) (hX : ∀ E w', PX E w' → ∃ k f', E = exn k ∧ w' = flB f' is ∧ (∀ i, i ∉ is → f' i = f i) ∧ PE k (flB f' allB)) : SC l D sk sv tc y cc n rt av (flB f allB) PI PE := by
  refine ⟨rm, mc, ms, hrm, fun ao o => CZ.all hC hn h33 (fun v w' h => ?_) (fun E w' h => ?_)⟩
  · obtain ⟨f', a, b, c⟩ := hN v w' h
    exact ⟨f', a, b, _, rfl, c⟩
  · obtain ⟨k, f', a, b, c, d⟩ := hX E w' h
    exact ⟨f', b, c, k, _, a, rfl, d⟩
/-- what is due behind the class's call: the reference answers the same, thrown the same -/
def PIr (l : Launch) (D : va_G) (sk sv : Nat → Nat) (tc : Nat → ClassId) (y : MethodName) (cc : ByteArray) (n : Nat) (rt : Option FieldType) (ax am : Nat) (av : List Value) : Option Value → va_W → Prop := fun v w1 => (∃ r : Int32, v = some (.int r)) ∧ MR l D sk sv tc y cc n rt am av w1 (fun b w2 => b = v ∧ Top tc ax am 0 w2)
def PIz (l : Launch) (D : va_G) (sk sv : Nat → Nat) (tc : Nat → ClassId) (y : MethodName) (cc : ByteArray) (n : Nat) (rt : Option FieldType) (ax am : Nat) (av : List Value) : Option Value → va_W → Prop := fun v w1 => (v = some (.int 0) ∨ v = some (.int 1)) ∧ MR l D sk sv tc y cc n rt am av w1 (fun b w2 => b = v ∧ Top tc ax am 0 w2)
/-- where the class's call doesn't throw, and thrown() isn't asked -/
def PIa (l : Launch) (D : va_G) (sk sv : Nat → Nat) (tc : Nat → ClassId) (y : MethodName) (cc : ByteArray) (n : Nat) (rt : Option FieldType) (ax am : Nat) (av : List Value) : Option Value → va_W → Prop := fun v w1 => (∃ r : Int32, v = some (.int r)) ∧ MR l D sk sv tc y cc n rt am av w1 (fun b w2 => b = v ∧ ∃ t, Top tc ax am t w2)
def PEr (ks : List Nat) (cd : Nat → Int32) (l : Launch) (D : va_G) (sk sv : Nat → Nat) (tc : Nat → ClassId) (y : MethodName) (cc : ByteArray) (n : Nat) (rt : Option FieldType) (ax am : Nat) (av : List Value) : Nat → va_W → Prop := fun k w1 => k ∈ ks ∧ MR l D sk sv tc y cc n rt am av w1 (fun b w2 => (∃ r : Int32, b = some (.int r)) ∧ Top tc ax am (cd k) w2)
theorem INV.ez {g g' gP gT gT' gS gL : Pic} (h : INV g gP gT gS gL lo ko sh hs SG SK SQ) (e : Ez g g') (t : gT' 1 0 = 0) : INV g' gP gT' gS gL lo ko sh hs SG SK SQ := by
  obtain ⟨h1, h2, h3, h4, h5, h6, h7⟩ := h
  exact ⟨by rw [e.1.1]; exact h1, by rw [e.1.1]; exact h2, by rw [e.1.1]; exact h3, ⟨fun _ => 0, 0, e.2, t, by omega, fun i hi => absurd hi (Nat.not_lt_zero i)⟩, by rw [e.1.2.2.2.2.2]; exact h5, h6.eq e.1 rfl rfl, h7.eq e.1⟩
/-- the tape alone -/
theorem INV.tape {g g' gP gT gT' gS gL : Pic} {c : Nat → Nat} {n : Nat} (h : INV g gP gT gS gL lo ko sh hs SG SK SQ) (e : Eq_ g g') (t : TP g' gT' c n) : INV g' gP gT' gS gL lo ko sh hs SG SK SQ := by
  obtain ⟨h1, h2, h3, h4, h5, h6, h7⟩ := h
  exact ⟨by rw [e.1]; exact h1, by rw [e.1]; exact h2, by rw [e.1]; exact h3, ⟨c, n, t⟩, by rw [e.2.2.2.2.2]; exact h5, h6.eq e rfl rfl, h7.eq e⟩
/-- another picture of the same law -/
theorem INV.lawp {g gP gT gS gL p : Pic} {L : LawT} (h : INV g gP gT gS gL (some L) ko sh hs SG SK SQ) (e : LW (g 1) L.2.2 p) : INV g gP gT gS gL (some (L.1, p, L.2.2)) ko sh hs SG SK SQ := by
  obtain ⟨h1, h2, h3, h4, h5, h6, h7⟩ := h
  exact ⟨h1, h2, e, h4, h5, h6.m1 rfl rfl rfl rfl rfl, h7.m1 rfl rfl rfl rfl (fun _ _ => rfl) rfl⟩
theorem INV.no1 {g gP gT gS gL : Pic} (h : INV g gP gT gS gL none ko sh hs SG SK SQ) : ¬ 1 ≤ g 1 1 := by
  rw [show g 1 1 = -1 from h.lw]
  decide
theorem INV.six {g gP gT gS gL : Pic} (h : INV g gP gT gS gL lo ko sh hs SG SK SQ) : gP 12 0 = g 6 0 := by
  obtain ⟨o, k, h1, h2, h3, h4, h5, h6⟩ := h.acts
  rw [h4, h5]
end T4
