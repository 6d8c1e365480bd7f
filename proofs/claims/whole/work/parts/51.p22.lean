/-! parts of Ok and RS that stay when other cells change -/
def OkW (m : Nat → Int32) : Prop := ∀ w, w < tn (m 3) → Bn (wd m w 6) 1 6 ∧ Bn (wd m w 7) 1 99 ∧ (∀ k, k < tn (wd m w 6) → Bn (wd m w k) 0 7) ∧ ∀ k, tn (wd m w 6) ≤ k → k < 6 → wd m w k = -1
def OkP (m : Nat → Int32) : Prop := ∀ k, k < tn (m 5) → Bn (m (76 + k)) 0 7 ∧ tn (m (76 + k)) < tn (m 3)
def OkU (m : Nat → Int32) : Prop := ∀ u, u < tn (m 4) → Bn (wr m u 0) 0 255 ∧ Bn (wr m u 1) 1 9 ∧ Bn (wr m u 2) 0 9 ∧ Bn (wr m u 3) 0 99 ∧ ∀ k, k < 20 → Bn (pg m u k) 0 2
def RSw (gS : Pic) (m : Nat → Int32) : Prop := ∀ w, w < tn (m 3) → gS 2 w = wd m w 6 ∧ gS 3 w = wd m w 7 ∧ ∀ k, k < tn (wd m w 6) → gS 1 (w * 6 + k) = wd m w k
def RSp (gS : Pic) (m : Nat → Int32) : Prop := ∀ k, k < tn (m 5) → gS 5 k = m (76 + k)
def RSu (gS : Pic) (m : Nat → Int32) : Prop := ∀ u, u < tn (m 4) → gS 8 u = wr m u 0 ∧ gS 9 u = wr m u 1 ∧ gS 10 u = wr m u 2 ∧ gS 11 u = wr m u 3 ∧ ∀ k, k < 20 → gS 12 (u * 20 + k) = pg m u k
def RSl (gL : Pic) (m : Nat → Int32) : Prop := gL 1 0 = m 10 ∧ ∃ nx, nx < 60 ∧ gL 2 0 = nI nx ∧ ∀ a c, a < tn (m 10) → c < 4 → gL 0 ((nx + 60 - 1 - a) % 60 * 4 + c) = m (216 + 4 * a + c)
section K22
variable {m m' : Nat → Int32} {gS gS' gL gL' : Pic}
theorem Ok.w_ (h : Ok m) : OkW m := h.2.2.2.2.2.2.2.2.2.1
theorem Ok.p_ (h : Ok m) : OkP m := h.2.2.2.2.2.2.2.2.2.2.1
theorem Ok.u_ (h : Ok m) : OkU m := h.2.2.2.2.2.2.2.2.2.2.2
theorem RS.w_ (h : RS gS gL m) : RSw gS m := h.2.2.2.2.2.2.2.2.2.1
theorem RS.p_ (h : RS gS gL m) : RSp gS m := h.2.2.2.2.2.2.2.2.2.2.1
theorem RS.u_ (h : RS gS gL m) : RSu gS m := h.2.2.2.2.2.2.2.2.2.2.2.1
theorem RS.l_ (h : RS gS gL m) : RSl gL m := h.2.2.2.2.2.2.2.2.2.2.2.2
theorem OkW.c (h : OkW m) (w8 : tn (m 3) ≤ 8) (e3 : m' 3 = m 3) (e : ∀ p, 12 ≤ p → p < 76 → m' p = m p) : OkW m' := by
  intro w hw
  rw [e3] at hw
  have a : ∀ k, k < 8 → wd m' w k = wd m w k := fun k hk => e _ (by omega) (by omega)
  obtain ⟨q1, q2, q3, q4⟩ := h w hw
  rw [a 6 (by decide), a 7 (by decide)]
  have := q1.2.2
  exact ⟨q1, q2, fun k hk => by rw [a k (by omega)]; exact q3 k hk, fun k h1 h2 => by rw [a k (by omega)]; exact q4 k h1 h2⟩
theorem OkP.c (h : OkP m) (s20 : tn (m 5) ≤ 20) (e3 : m' 3 = m 3) (e5 : m' 5 = m 5) (e : ∀ p, 76 ≤ p → p < 96 → m' p = m p) : OkP m' := by
  intro k hk
  rw [e5] at hk
  rw [e _ (by omega) (by omega), e3]
  exact h k hk
theorem OkU.c (h : OkU m) (u5 : tn (m 4) ≤ 5) (e4 : m' 4 = m 4) (e : ∀ p, 96 ≤ p → p < 216 → m' p = m p) : OkU m' := by
  intro u hu
  rw [e4] at hu
  have a : ∀ k, k < 4 → wr m' u k = wr m u k := fun k hk => e _ (by omega) (by omega)
  obtain ⟨q1, q2, q3, q4, q5⟩ := h u hu
  rw [a 0 (by decide), a 1 (by decide), a 2 (by decide), a 3 (by decide)]
  exact ⟨q1, q2, q3, q4, fun k hk => by rw [show pg m' u k = pg m u k from e _ (by omega) (by omega)]; exact q5 k hk⟩
theorem RSw.c (h : RSw gS m) (hO : Ok m) (e3 : m' 3 = m 3) (e : ∀ p, 12 ≤ p → p < 76 → m' p = m p) (g1 : gS' 1 = gS 1) (g2 : gS' 2 = gS 2) (g3 : gS' 3 = gS 3) : RSw gS' m' := by
  intro w hw
  rw [e3] at hw
  have w8 := hO.W.2.2
  have a : ∀ k, k < 8 → wd m' w k = wd m w k := fun k hk => e _ (by omega) (by omega)
  obtain ⟨q1, q2, q3⟩ := h w hw
  have := (hO.len hw).2.2
  rw [a 6 (by decide), a 7 (by decide), g2, g3]
  exact ⟨q1, q2, fun k hk => by rw [a k (by omega), g1]; exact q3 k hk⟩
theorem RSp.c (h : RSp gS m) (s20 : tn (m 5) ≤ 20) (e5 : m' 5 = m 5) (e : ∀ p, 76 ≤ p → p < 96 → m' p = m p) (g5 : gS' 5 = gS 5) : RSp gS' m' := by
  intro k hk
  rw [e5] at hk
  rw [e _ (by omega) (by omega), g5]
  exact h k hk
theorem RSu.c (h : RSu gS m) (u5 : tn (m 4) ≤ 5) (e4 : m' 4 = m 4) (e : ∀ p, 96 ≤ p → p < 216 → m' p = m p) (g8 : gS' 8 = gS 8) (g9 : gS' 9 = gS 9) (g10 : gS' 10 = gS 10) (g11 : gS' 11 = gS 11) (g12 : gS' 12 = gS 12) : RSu gS' m' := by
  intro u hu
  rw [e4] at hu
  have a : ∀ k, k < 4 → wr m' u k = wr m u k := fun k hk => e _ (by omega) (by omega)
  obtain ⟨q1, q2, q3, q4, q5⟩ := h u hu
  rw [a 0 (by decide), a 1 (by decide), a 2 (by decide), a 3 (by decide), g8, g9, g10, g11, g12]
  exact ⟨q1, q2, q3, q4, fun k hk => by rw [show pg m' u k = pg m u k from e _ (by omega) (by omega)]; exact q5 k hk⟩
theorem RSl.c (h : RSl gL m) (g60 : tn (m 10) ≤ 60) (e10 : m' 10 = m 10) (e : ∀ p, 216 ≤ p → p < 456 → m' p = m p) : RSl gL m' := by
  obtain ⟨h1, nx, h2, h3, h4⟩ := h
  unfold RSl
  rw [e10]
  exact ⟨h1, nx, h2, h3, fun a c ha hc => by rw [e _ (by omega) (by omega)]; exact h4 a c ha hc⟩
theorem upd_o {f : Nat → Int32} {k : Nat} {x : Int32} {j : Nat} (h : j ≠ k) : upd f k x j = f j := if_neg h
theorem upd_s (f : Nat → Int32) (k : Nat) (x : Int32) : upd f k x k = x := if_pos rfl
/-- a number of the whole: tempo, slip, minute, seed, texts -/
theorem Ok.sc {P : Nat} {v : Int32} (h : Ok m) (hP : P = 0 ∨ P = 7 ∨ P = 8 ∨ P = 9 ∨ P = 11) (h0 : P = 0 → Bn v 0 12) (h7 : P = 7 → Bn v 1 9) (h8 : P = 8 → Bn v 0 100) (h9 : P = 9 → Bn v 0 9999) : Ok (upd m P v) := by
  refine ⟨?_, by rw [upd_o (by omega)]; exact h.W, by rw [upd_o (by omega)]; exact h.U, by rw [upd_o (by omega)]; exact h.S, by rw [upd_o (by omega), upd_o (by omega)]; exact h.D, ?_, ?_, ?_, by rw [upd_o (by omega)]; exact h.G, h.w_.c h.W.2.2 (upd_o (by omega)) (fun p a b => upd_o (by omega)), h.p_.c h.S.2.2 (upd_o (by omega)) (upd_o (by omega)) (fun p a b => upd_o (by omega)), h.u_.c h.U.2.2 (upd_o (by omega)) (fun p a b => upd_o (by omega))⟩
  · by_cases z : P = 0
    · subst z; exact h0 rfl
    · rw [upd_o (by omega)]; exact h.texts
  · by_cases z : P = 7
    · subst z; exact h7 rfl
    · rw [upd_o (by omega)]; exact h.T
  · by_cases z : P = 8
    · subst z; exact h8 rfl
    · rw [upd_o (by omega)]; exact h.slip
  · by_cases z : P = 9
    · subst z; exact h9 rfl
    · rw [upd_o (by omega)]; exact h.minute
theorem RS.sc {P K : Nat} {v : Int32} (h : RS gS gL m) (hO : Ok m) (hP : (P = 0 ∧ K = 17) ∨ (P = 7 ∧ K = 13) ∨ (P = 8 ∧ K = 14) ∨ (P = 9 ∧ K = 15) ∨ (P = 11 ∧ K = 16)) : RS (pu gS K 0 v) gL (upd m P v) := by
  have one : ∀ P' K', ((P' = 0 ∧ K' = 17) ∨ (P' = 7 ∧ K' = 13) ∨ (P' = 8 ∧ K' = 14) ∨ (P' = 9 ∧ K' = 15) ∨ (P' = 11 ∧ K' = 16)) → gS K' 0 = m P' → (pu gS K 0 v) K' 0 = upd m P v P' := by
    intro P' K' h' e
    by_cases z : P' = P
    · have : K' = K := by omega
      subst z
      subst this
      rw [upd_s, pu_s, if_pos rfl]
    · rw [upd_o z, pu_o (by omega)]; exact e
  refine ⟨by rw [pu_o (by omega), upd_o (by omega)]; exact h.W, by rw [pu_o (by omega), upd_o (by omega)]; exact h.S, by rw [pu_o (by omega), upd_o (by omega)]; exact h.D, by rw [pu_o (by omega), upd_o (by omega)]; exact h.U, one 7 13 (by omega) h.T, one 8 14 (by omega) h.slip, one 9 15 (by omega) h.minute, one 11 16 (by omega) h.seed, one 0 17 (by omega) h.texts, h.w_.c hO (upd_o (by omega)) (fun p a b => upd_o (by omega)) (pu_o (by omega)) (pu_o (by omega)) (pu_o (by omega)), h.p_.c hO.S.2.2 (upd_o (by omega)) (fun p a b => upd_o (by omega)) (pu_o (by omega)), h.u_.c hO.U.2.2 (upd_o (by omega)) (fun p a b => upd_o (by omega)) (pu_o (by omega)) (pu_o (by omega)) (pu_o (by omega)) (pu_o (by omega)) (pu_o (by omega)), h.l_.c hO.G.2.2 (upd_o (by omega)) (fun p a b => upd_o (by omega))⟩
/-- a word more -/
def adW (m : Nat → Int32) (W L o : Nat) (f : Nat → Nat) : Nat → Int32 := fun p => if p = 3 then nI (W + 1) else if p = 12 + 8 * W + 7 then nI o else if p = 12 + 8 * W + 6 then nI L else if 12 + 8 * W ≤ p ∧ p < 12 + 8 * W + 6 then (if p - (12 + 8 * W) < L then nI (f (p - (12 + 8 * W))) else -1) else m p
section AW
variable {W L o : Nat} {f : Nat → Nat}
theorem adW_o {p : Nat} (h3 : p ≠ 3) (h : p < 12 + 8 * W ∨ 12 + 8 * W + 8 ≤ p) : adW m W L o f p = m p := by
  unfold adW
  rw [if_neg h3, if_neg (by omega), if_neg (by omega), if_neg (by omega)]
theorem adW_3 : adW m W L o f 3 = nI (W + 1) := rfl
theorem adW_w {w k : Nat} (hw : w < W) (hk : k < 8) : wd (adW m W L o f) w k = wd m w k := adW_o (by omega) (by omega)
theorem adW_7 : wd (adW m W L o f) W 7 = nI o := by
  show adW m W L o f (12 + 8 * W + 7) = _
  unfold adW
  rw [if_neg (by omega), if_pos rfl]
theorem adW_6 : wd (adW m W L o f) W 6 = nI L := by
  show adW m W L o f (12 + 8 * W + 6) = _
  unfold adW
  rw [if_neg (by omega), if_neg (by omega), if_pos rfl]
theorem adW_k {k : Nat} (hk : k < 6) : wd (adW m W L o f) W k = if k < L then nI (f k) else -1 := by
  show adW m W L o f (12 + 8 * W + k) = _
  unfold adW
  rw [if_neg (by omega), if_neg (by omega), if_neg (by omega), if_pos (by omega), show 12 + 8 * W + k - (12 + 8 * W) = k by omega]
theorem ok_adW (h : Ok m) (hW : m 3 = nI W) (w7 : W < 8) (l1 : 1 ≤ L) (l6 : L ≤ 6) (o1 : 1 ≤ o) (o9 : o ≤ 99) (hf : ∀ k, k < L → f k ≤ 7) : Ok (adW m W L o f) := by
  have tW : tn (m 3) = W := by rw [hW]; exact tn_n (by omega)
  have t3 : tn (adW m W L o f 3) = W + 1 := by rw [adW_3]; exact tn_n (by omega)
  refine ⟨by rw [adW_o (by omega) (by omega)]; exact h.texts, by rw [adW_3]; exact Bn.mk (by omega) (by omega) (by omega), by rw [adW_o (by omega) (by omega)]; exact h.U, by rw [adW_o (by omega) (by omega)]; exact h.S, by rw [adW_o (by omega) (by omega), adW_o (by omega) (by omega)]; exact h.D, by rw [adW_o (by omega) (by omega)]; exact h.T, by rw [adW_o (by omega) (by omega)]; exact h.slip, by rw [adW_o (by omega) (by omega)]; exact h.minute, by rw [adW_o (by omega) (by omega)]; exact h.G, ?_, ?_, h.u_.c h.U.2.2 (adW_o (by omega) (by omega)) (fun p a b => adW_o (by omega) (by omega))⟩
  · rw [t3]
    intro w hw
    by_cases z : w = W
    · subst z
      rw [adW_6, adW_7, tn_n (by omega)]
      refine ⟨Bn.mk l1 l6 (by omega), Bn.mk o1 o9 (by omega), fun k hk => ?_, fun k h1 h2 => ?_⟩
      · rw [adW_k (by omega), if_pos hk]; exact Bn.mk (by omega) (hf k hk) (by omega)
      · rw [adW_k h2, if_neg (by omega)]
    · have hw' : w < tn (m 3) := by omega
      have l := (h.len hw').2.2
      rw [adW_w (by omega) (by omega), adW_w (by omega) (by omega)]
      exact ⟨h.len hw', h.often hw', fun k hk => by rw [adW_w (by omega) (by omega)]; exact h.let_ hw' hk, fun k h1 h2 => by rw [adW_w (by omega) (by omega)]; exact h.no hw' h1 h2⟩
  · rw [t3, adW_o (by omega) (by omega)]
    intro k hk
    have s20 := h.S.2.2
    rw [adW_o (by omega) (by omega)]
    have := h.sp hk
    exact ⟨this.1, by omega⟩
end AW
/-- a writer more -/
def adU (m : Nat → Int32) (U a b e d : Nat) : Nat → Int32 := fun p => if p = 4 then nI (U + 1) else if p = 96 + 4 * U then nI a else if p = 96 + 4 * U + 1 then nI b else if p = 96 + 4 * U + 2 then nI e else if p = 96 + 4 * U + 3 then nI d else if 116 + 20 * U ≤ p ∧ p < 136 + 20 * U then nI 0 else m p
section AU
variable {U a b e d : Nat}
theorem adU_o {p : Nat} (u5 : U < 5) (h4 : p ≠ 4) (h : p < 96 + 4 * U ∨ 96 + 4 * U + 4 ≤ p) (h2 : p < 116 + 20 * U ∨ 136 + 20 * U ≤ p) : adU m U a b e d p = m p := by
  unfold adU
  rw [if_neg h4, if_neg (by omega), if_neg (by omega), if_neg (by omega), if_neg (by omega), if_neg (by omega)]
theorem adU_w {u k : Nat} (u5 : U < 5) (hu : u < U) (hk : k < 4) : wr (adU m U a b e d) u k = wr m u k := adU_o u5 (by omega) (by omega) (by omega)
theorem adU_p {u k : Nat} (u5 : U < 5) (hu : u < U) (hk : k < 20) : pg (adU m U a b e d) u k = pg m u k := adU_o u5 (by omega) (by omega) (by omega)
theorem adU_0 : wr (adU m U a b e d) U 0 = nI a ∧ wr (adU m U a b e d) U 1 = nI b ∧ wr (adU m U a b e d) U 2 = nI e ∧ wr (adU m U a b e d) U 3 = nI d := by
  unfold wr adU
  refine ⟨?_, ?_, ?_, ?_⟩
  · rw [if_neg (by omega), if_pos (by omega)]
  · rw [if_neg (by omega), if_neg (by omega), if_pos (by omega)]
  · rw [if_neg (by omega), if_neg (by omega), if_neg (by omega), if_pos (by omega)]
  · rw [if_neg (by omega), if_neg (by omega), if_neg (by omega), if_neg (by omega), if_pos (by omega)]
theorem adU_pg {k : Nat} (u5 : U < 5) (hk : k < 20) : pg (adU m U a b e d) U k = nI 0 := by
  unfold pg adU
  rw [if_neg (by omega), if_neg (by omega), if_neg (by omega), if_neg (by omega), if_neg (by omega), if_pos (by omega)]
theorem ok_adU (h : Ok m) (hU : m 4 = nI U) (u5 : U < 5) (a9 : a ≤ 255) (b1 : 1 ≤ b) (b9 : b ≤ 9) (e9 : e ≤ 9) (d9 : d ≤ 99) : Ok (adU m U a b e d) := by
  have tU : tn (m 4) = U := by rw [hU]; exact tn_n (by omega)
  have t4 : tn (adU m U a b e d 4) = U + 1 := tn_n (by omega)
  refine ⟨by rw [adU_o u5 (by omega) (by omega) (by omega)]; exact h.texts, by rw [adU_o u5 (by omega) (by omega) (by omega)]; exact h.W, show Bn (nI (U + 1)) 0 5 from Bn.mk (by omega) (by omega) (by omega), by rw [adU_o u5 (by omega) (by omega) (by omega)]; exact h.S, by rw [adU_o u5 (by omega) (by omega) (by omega), adU_o u5 (by omega) (by omega) (by omega)]; exact h.D, by rw [adU_o u5 (by omega) (by omega) (by omega)]; exact h.T, by rw [adU_o u5 (by omega) (by omega) (by omega)]; exact h.slip, by rw [adU_o u5 (by omega) (by omega) (by omega)]; exact h.minute, by rw [adU_o u5 (by omega) (by omega) (by omega)]; exact h.G, h.w_.c h.W.2.2 (adU_o u5 (by omega) (by omega) (by omega)) (fun p a b => adU_o u5 (by omega) (by omega) (by omega)), h.p_.c h.S.2.2 (adU_o u5 (by omega) (by omega) (by omega)) (adU_o u5 (by omega) (by omega) (by omega)) (fun p a b => adU_o u5 (by omega) (by omega) (by omega)), ?_⟩
  rw [t4]
  intro u hu
  by_cases z : u = U
  · subst z
    obtain ⟨q0, q1, q2, q3⟩ := adU_0 (m := m) (U := u) (a := a) (b := b) (e := e) (d := d)
    rw [q0, q1, q2, q3]
    exact ⟨Bn.mk (by omega) a9 (by omega), Bn.mk b1 b9 (by omega), Bn.mk (by omega) e9 (by omega), Bn.mk (by omega) d9 (by omega), fun k hk => by rw [adU_pg u5 hk]; exact Bn.mk (by omega) (by omega) (by omega)⟩
  · have hu' : u < tn (m 4) := by omega
    rw [adU_w u5 (by omega) (by omega), adU_w u5 (by omega) (by omega), adU_w u5 (by omega) (by omega), adU_w u5 (by omega) (by omega)]
    exact ⟨h.leaves hu', h.speed hu', h.skill hu', h.tired hu', fun k hk => by rw [adU_p u5 (by omega) hk]; exact h.page hu' hk⟩
end AU
/-- a word more of the speech -/
def adS (m : Nat → Int32) (S w : Nat) : Nat → Int32 := fun p => if p = 5 then nI (S + 1) else if p = 76 + S then nI w else m p
section AS
variable {S w : Nat}
theorem adS_o {p : Nat} (h5 : p ≠ 5) (h : p ≠ 76 + S) : adS m S w p = m p := by
  unfold adS
  rw [if_neg h5, if_neg h]
theorem ok_adS (h : Ok m) (hS : m 5 = nI S) (s19 : S < 20) (hw : w < tn (m 3)) : Ok (adS m S w) := by
  have w8 := h.W.2.2
  have tS : tn (m 5) = S := by rw [hS]; exact tn_n (by omega)
  have t5 : tn (adS m S w 5) = S + 1 := tn_n (by omega)
  have eD : adS m S w 6 = m 6 := adS_o (by omega) (by omega)
  refine ⟨by rw [adS_o (by omega) (by omega)]; exact h.texts, by rw [adS_o (by omega) (by omega)]; exact h.W, by rw [adS_o (by omega) (by omega)]; exact h.U, show Bn (nI (S + 1)) 0 20 from Bn.mk (by omega) (by omega) (by omega), ?_, by rw [adS_o (by omega) (by omega)]; exact h.T, by rw [adS_o (by omega) (by omega)]; exact h.slip, by rw [adS_o (by omega) (by omega)]; exact h.minute, by rw [adS_o (by omega) (by omega)]; exact h.G, h.w_.c h.W.2.2 (adS_o (by omega) (by omega)) (fun p a b => adS_o (by omega) (by omega)), ?_, h.u_.c h.U.2.2 (adS_o (by omega) (by omega)) (fun p a b => adS_o (by omega) (by omega))⟩
  · rw [eD, t5]
    have := h.D
    exact ⟨this.1, this.2.1, by have := this.2.2; omega⟩
  · rw [t5, adS_o (p := 3) (by omega) (by omega)]
    intro k hk
    by_cases z : k = S
    · subst z
      have e : adS m k w (76 + k) = nI w := by
        unfold adS
        rw [if_neg (by omega), if_pos rfl]
      rw [e, tn_n (by omega)]
      exact ⟨Bn.mk (by omega) (by omega) (by omega), hw⟩
    · rw [adS_o (by omega) (by omega)]
      exact h.sp (by omega)
theorem rs_adS (h : RS gS gL m) (hO : Ok m) (hS : m 5 = nI S) (s19 : S < 20) : RS (pu (pu gS 5 S (nI w)) 4 0 (nI (S + 1))) gL (adS m S w) := by
  have tS : tn (m 5) = S := by rw [hS]; exact tn_n (by omega)
  have t5 : tn (adS m S w 5) = S + 1 := tn_n (by omega)
  have o : ∀ p, p ≠ 5 → p ≠ 76 + S → adS m S w p = m p := fun p a b => adS_o a b
  refine ⟨by rw [o 3 (by omega) (by omega)]; exact h.W, rfl, by rw [o 6 (by omega) (by omega)]; exact h.D, by rw [o 4 (by omega) (by omega)]; exact h.U, by rw [o 7 (by omega) (by omega)]; exact h.T, by rw [o 8 (by omega) (by omega)]; exact h.slip, by rw [o 9 (by omega) (by omega)]; exact h.minute, by rw [o 11 (by omega) (by omega)]; exact h.seed, by rw [o 0 (by omega) (by omega)]; exact h.texts, h.w_.c hO (o 3 (by omega) (by omega)) (fun p a b => o p (by omega) (by omega)) rfl rfl rfl, ?_, h.u_.c hO.U.2.2 (o 4 (by omega) (by omega)) (fun p a b => o p (by omega) (by omega)) rfl rfl rfl rfl rfl, h.l_.c hO.G.2.2 (o 10 (by omega) (by omega)) (fun p a b => o p (by omega) (by omega))⟩
  rw [t5]
  intro k hk
  rw [pu_o (by decide), pu_s]
  by_cases z : k = S
  · subst z
    rw [if_pos rfl]
    show _ = (if 76 + k = 5 then nI (k + 1) else if 76 + k = 76 + k then nI w else m (76 + k))
    rw [if_neg (by omega), if_pos rfl]
  · rw [if_neg z, o _ (by omega) (by omega)]
    exact h.sp (by omega)
end AS
end K22
