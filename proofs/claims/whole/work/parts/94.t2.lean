/-! what the class and the reference hold alike -/
def LwO (m : Nat → Int32) : Option LawT → Prop
  | none => m 1 = -1
  | some L => LW m L.2.2 L.2.1
def arow (g : Pic) (j : Nat) : Nat → Int32 := fun p => g 5 (456 * j + p)
/-- the acts that may be undone: the class's ring, the reference's rows -/
def ActI (g gP : Pic) (lo : Option LawT) (hs : Nat → Bool) (SG SK : Nat → Pic) (SQ : Nat → Option Nat) : Prop :=
  ∃ o k, o < 12 ∧ k ≤ 12 ∧ gP 11 0 = nI o ∧ gP 12 0 = nI k ∧ g 6 0 = nI k ∧ ∀ j, j < k → hs ((o + j) % 12) = true ∧ SQ ((o + j) % 12) = lref lo ∧ Ok (arow g j) ∧ RS (SG ((o + j) % 12)) (SK ((o + j) % 12)) (arow g j) ∧ arow g j 1 = g 1 1 ∧ arow g j 2 = g 1 2
/-- the image -/
def KeptI (g : Pic) (lo ko : Option LawT) (sh : Bool) (hs : Nat → Bool) (SG SK : Nat → Pic) (SQ : Nat → Option Nat) : Prop :=
  (hs 12 = false → g 3 0 = 0) ∧ (hs 12 = true → g 3 0 = 1 ∧ Ok (g 2) ∧ RS (SG 12) (SK 12) (g 2) ∧ (sh = true → SQ 12 = lref lo ∧ g 2 1 = g 1 1 ∧ g 2 2 = g 1 2 ∧ ∀ p, 456 ≤ p → p < 856 → g 2 p = g 1 p) ∧ (sh = false → SQ 12 = lref ko ∧ LwO (g 2) ko))
def INV (g gP gT gS gL : Pic) (lo ko : Option LawT) (sh : Bool) (hs : Nat → Bool) (SG SK : Nat → Pic) (SQ : Nat → Option Nat) : Prop :=
  Ok (g 1) ∧ RS gS gL (g 1) ∧ LwO (g 1) lo ∧ (∃ c n, TP g gT c n) ∧ gP 14 0 = g 12 0 ∧ ActI g gP lo hs SG SK SQ ∧ KeptI g lo ko sh hs SG SK SQ
section T2
variable {g g' gP gT gS gL : Pic} {lo ko : Option LawT} {sh : Bool} {hs : Nat → Bool} {SG SK : Nat → Pic} {SQ : Nat → Option Nat}
theorem INV.ok (h : INV g gP gT gS gL lo ko sh hs SG SK SQ) : Ok (g 1) := h.1
theorem INV.rs (h : INV g gP gT gS gL lo ko sh hs SG SK SQ) : RS gS gL (g 1) := h.2.1
theorem INV.lw (h : INV g gP gT gS gL lo ko sh hs SG SK SQ) : LwO (g 1) lo := h.2.2.1
theorem INV.tp (h : INV g gP gT gS gL lo ko sh hs SG SK SQ) : ∃ c n, TP g gT c n := h.2.2.2.1
theorem INV.fault (h : INV g gP gT gS gL lo ko sh hs SG SK SQ) : gP 14 0 = g 12 0 := h.2.2.2.2.1
theorem INV.acts (h : INV g gP gT gS gL lo ko sh hs SG SK SQ) : ActI g gP lo hs SG SK SQ := h.2.2.2.2.2.1
theorem INV.kept (h : INV g gP gT gS gL lo ko sh hs SG SK SQ) : KeptI g lo ko sh hs SG SK SQ := h.2.2.2.2.2.2
/-- all of the reference that lasts but its tape -/
def Eq_ (g g' : Pic) : Prop := g' 1 = g 1 ∧ g' 2 = g 2 ∧ g' 3 0 = g 3 0 ∧ g' 5 = g 5 ∧ g' 6 0 = g 6 0 ∧ g' 12 0 = g 12 0
/-- and its tape -/
def Er (g g' : Pic) : Prop := Eq_ g g' ∧ g' 7 = g 7 ∧ g' 8 0 = g 8 0
theorem Er.rf (g : Pic) : Er g g := ⟨⟨rfl, rfl, rfl, rfl, rfl, rfl⟩, rfl, rfl⟩
theorem Er.tr {a b d : Pic} (h : Er a b) (k : Er b d) : Er a d := ⟨⟨k.1.1.trans h.1.1, k.1.2.1.trans h.1.2.1, k.1.2.2.1.trans h.1.2.2.1, k.1.2.2.2.1.trans h.1.2.2.2.1, k.1.2.2.2.2.1.trans h.1.2.2.2.2.1, k.1.2.2.2.2.2.trans h.1.2.2.2.2.2⟩, k.2.1.trans h.2.1, k.2.2.trans h.2.2⟩
theorem Er.z (g : Pic) (v : Int32) : Er g (pu g 0 0 v) := ⟨⟨rfl, rfl, rfl, rfl, rfl, rfl⟩, rfl, rfl⟩
theorem Es.er {a b : Pic} (h : Es a b) : Er a b := ⟨⟨h.1, h.2.1, by rw [h.2.2.1], h.2.2.2.1, by rw [h.2.2.2.2.1], by rw [h.2.2.2.2.2.2.2.1]⟩, h.2.2.2.2.2.1, by rw [h.2.2.2.2.2.2.1]⟩
theorem Ea.er {a b : Pic} (h : Ea a b) : Er a b := ⟨⟨h.1 1 (by omega), h.1 2 (by omega), by rw [h.1 3 (by omega)], h.1 5 (by omega), by rw [h.1 6 (by omega)], h.2⟩, h.1 7 (by omega), by rw [h.1 8 (by omega)]⟩
theorem ActI.eq {gP' : Pic} (e : Eq_ g g') (e1 : gP' 11 0 = gP 11 0) (e2 : gP' 12 0 = gP 12 0) (h : ActI g gP lo hs SG SK SQ) : ActI g' gP' lo hs SG SK SQ := by
  obtain ⟨o, k, h1, h2, h3, h4, h5, h6⟩ := h
  have er : ∀ j, arow g' j = arow g j := fun j => by unfold arow; rw [e.2.2.2.1]
  refine ⟨o, k, h1, h2, by rw [e1, h3], by rw [e2, h4], by rw [e.2.2.2.2.1, h5], fun j hj => ?_⟩
  rw [er, e.1]
  exact h6 j hj
theorem KeptI.eq (e : Eq_ g g') (h : KeptI g lo ko sh hs SG SK SQ) : KeptI g' lo ko sh hs SG SK SQ := by
  unfold KeptI at h ⊢
  rw [e.1, e.2.1, e.2.2.1]
  exact h
/-- the reference has only answered, the class only counted -/
theorem INV.er (e : Er g g') (h : INV g gP gT gS gL lo ko sh hs SG SK SQ) : INV g' gP gT gS gL lo ko sh hs SG SK SQ := by
  obtain ⟨h1, h2, h3, ⟨c, n, t1, t2, t3, t4⟩, h5, h6, h7⟩ := h
  refine ⟨by rw [e.1.1]; exact h1, by rw [e.1.1]; exact h2, by rw [e.1.1]; exact h3, ⟨c, n, by rw [e.2.2]; exact t1, t2, t3, fun k hk => by rw [e.2.1]; exact t4 k hk⟩, by rw [e.1.2.2.2.2.2]; exact h5, h6.eq e.1 rfl rfl, h7.eq e.1⟩
theorem INV.rt (h : INV g gP gT gS gL lo ko sh hs SG SK SQ) : RT gT g := by
  obtain ⟨c, n, t1, t2, t3, t4⟩ := h.tp
  refine ⟨by rw [t1]; exact Bn.mk (by omega) (by omega) (by omega), by rw [t2, t1], fun k hk => ?_⟩
  rw [t1, tn_n (by omega)] at hk
  obtain ⟨a, b, d⟩ := t4 k hk
  exact ⟨by rw [a, b], by rw [a]; exact Bn.mk (by omega) (by omega) (by omega)⟩
def An {α : Type} (ks : List Nat) (cd : Nat → Int32) (res : (Nat × α) ⊕ (Int32 × α)) (v t : Int32) : Prop := (∃ u, res = .inr (v, u) ∧ t = 0) ∨ ∃ k u, res = .inl (k, u) ∧ k ∈ ks ∧ t = cd k
end T2
def TopT (tc : Nat → ClassId) (ax am : Nat) (t : Int32) (w : va_W) : Prop := ∃ (A : Nat → Nat → Nat) (G : Nat → Pic) (q1 : Option Nat) (lo ko : Option LawT) (sh : Bool) (hs : Nat → Bool) (SA SL : Nat → Nat → Nat) (SG SK : Nat → Pic) (SQ : Nat → Option Nat) (Z : va_W), A 0 0 = ax ∧ A 16 0 = am ∧ w = flB (blk tc A G q1 lo ko hs SA SL SG SK SQ Z) allB ∧ INV (G 16) (G 0) (G 1) (G 2) (G 3) lo ko sh hs SG SK SQ ∧ G 16 0 0 = t
/-- the reference's call -/
def MB (l : Launch) (D : va_G) (sk sv : Nat → Nat) (tc : Nat → ClassId) (y : MethodName) (cc : ByteArray) (n : Nat) (rt : Option FieldType) (rm : Room) (av : List Value) (w1 : va_W) (P : Int32 → va_W → Prop) : Prop := ∀ (ao : Nat) (o : Nat → Int64), CZ l D sk sv (TY tc) y (.code y cc n rt) rm 0 0 av (w1 ++ wO tc ao o) (PNc tc ao o P) (fun _ _ => False)
/-- the class's call -/
def SB (l : Launch) (D : va_G) (sk sv : Nat → Nat) (tc : Nat → ClassId) (y : MethodName) (cc : ByteArray) (n : Nat) (rt : Option FieldType) (av : List Value) (w : va_W) (PI : Int32 → va_W → Prop) (PE : Nat → va_W → Prop) : Prop := ∀ (ao : Nat) (o : Nat → Int64), ∃ (rm : Room) (mc ms : Nat), (rm.frames ≤ 100 ∧ rm.locals ≤ 5000 ∧ rm.cells = mc ∧ rm.slots = ms ∧ mc ≤ 20 ∧ ms ≤ 600) ∧ CZ l D sk sv (TY tc) y (.code y cc n rt) rm mc ms av (w ++ wO tc ao o) (PNc tc ao o PI) (PXc tc ao o PE)
section T3
variable {l : Launch} {dC : Nat → ClassId} {dI : Nat → Nat → Nat} {sk sv : Nat → Nat} {tc : Nat → ClassId} {A : Nat → Nat → Nat} {G : Nat → Pic} {q1 : Option Nat} {lo ko : Option LawT} {sh : Bool} {hs : Nat → Bool} {SA SL : Nat → Nat → Nat} {SG SK : Nat → Pic} {SQ : Nat → Option Nat} {Z : va_W}
theorem MB.imp {D : va_G} {y : MethodName} {cc : ByteArray} {n : Nat} {rt : Option FieldType} {rm : Room} {av : List Value} {w1 : va_W} {P P' : Int32 → va_W → Prop} (h : MB l D sk sv tc y cc n rt rm av w1 P) (k : ∀ r w, P r w → P' r w) : MB l D sk sv tc y cc n rt rm av w1 P' := fun ao o => (h ao o).imp (fun v w' => by rintro ⟨r, w2, h1, h2, h3⟩; exact ⟨r, w2, h1, h2, k r w2 h3⟩) (fun _ _ h => h)
theorem up_o {α : Type} {f : Nat → α} {k j : Nat} {v : α} (h : j ≠ k) : va_up f k v j = f j := va_up_ne _ _ h
/-- the reference's call over all -/
theorem mM {y : MethodName} {cc : ByteArray} {n : Nat} {rt : Option FieldType} {rm : Room} {av : List Value} {v t : Int32} {g' : Pic} (hc : CT l (dC, dI) sk sv (TY tc) y cc n rt rm av (wM tc (A 16) (G 16)) (some (.int v)) (wM tc (A 16) g')) (hI : INV g' (G 0) (G 1) (G 2) (G 3) lo ko sh hs SG SK SQ) (ht : g' 0 0 = t) (hrc : rm.cells = 0) : MB l (dC, dI) sk sv tc y cc n rt rm av (flB (blk tc A G q1 lo ko hs SA SL SG SK SQ Z) allB) (fun b w2 => b = v ∧ TopT tc (A 0 0) (A 16 0) t w2) := by
  intro ao o
  refine CZ.all (f := blk tc A G q1 lo ko hs SA SL SG SK SQ Z) (is := [16]) (CT.z hc rfl) (by decide) (by decide) (fun v9 w' h => ?_) (fun _ _ h => h.elim)
  obtain ⟨h1, h2⟩ := h
  refine ⟨blk tc A (va_up G 16 g') q1 lo ko hs SA SL SG SK SQ Z, h2, fun i hi => blk_G (up_o (fun z => hi (by rw [z]; decide))) (Or.inr rfl), v, _, h1, rfl, rfl, A, va_up G 16 g', q1, lo, ko, sh, hs, SA, SL, SG, SK, SQ, Z, rfl, rfl, rfl, hI, ht⟩
end T3
