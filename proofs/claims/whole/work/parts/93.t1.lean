/-! the whole world, by blocks -/
abbrev LawT : Type := (Nat → Nat) × Pic × (Nat → Nat)
def lawB (tc : Nat → ClassId) : Option LawT → va_W
  | none => []
  | some L => wLw tc L.1 L.2.1 L.2.2
def lref : Option LawT → Option Nat
  | none => none
  | some L => some (L.1 0)
def mrow (hs : Nat → Bool) (SA : Nat → Nat → Nat) : Nat → Option Nat := fun j => if hs j = true then some (SA j 0) else none
/-- the row of acts has 12 places -/
def mrw (hs : Nat → Bool) (SA : Nat → Nat → Nat) : Nat → Option Nat := fun j => if j < 12 then mrow hs SA j else none
def slB (tc : Nat → ClassId) (hs : Nat → Bool) (SA SL : Nat → Nat → Nat) (SG SK : Nat → Pic) (SQ : Nat → Option Nat) (j : Nat) : va_W := if hs j = true then wSt tc (SA j) (SG j) (SQ j) (SL j 0) ++ wLg tc (SL j) (SK j) else []
def blk (tc : Nat → ClassId) (A : Nat → Nat → Nat) (G : Nat → Pic) (q1 : Option Nat) (lo ko : Option LawT) (hs : Nat → Bool) (SA SL : Nat → Nat → Nat) (SG SK : Nat → Pic) (SQ : Nat → Option Nat) (Z : va_W) : Nat → va_W
  | 0 => wPU tc (A 0) (G 0) (A 1 0) (A 2 0) (A 4 0) (A 6 0) (A 7 0) (A 8 0) (A 9 0) (A 11 0) (A 12 0) (A 13 0) (A 14 0) (mrow hs SA 12)
  | 1 => wTp tc (A 1) (G 1)
  | 2 => wSt tc (A 2) (G 2) (lref lo) (A 3 0)
  | 3 => wLg tc (A 3) (G 3)
  | 4 => wSt tc (A 4) (G 4) q1 (A 5 0)
  | 5 => wLg tc (A 5) (G 5)
  | 6 => wEv tc (A 6) (G 6) (A 1 0) (A 4 0)
  | 7 => wLR tc (A 7) (G 7) (A 1 0)
  | 8 => wHd tc (A 8) (G 8)
  | 9 => wCk tc (A 9) (G 9) (A 8 0) (A 10 0)
  | 10 => wFa tc (A 10) (G 10)
  | 11 => wLx tc (A 11) (G 11) (A 2 0)
  | 12 => wCl tc (A 12) (G 12) (A 1 0) (A 2 0)
  | 13 => wSc tc (A 13) (G 13) (A 2 0) (A 8 0)
  | 14 => wMm tc (A 14 0) (mrw hs SA)
  | 15 => lawB tc lo
  | 16 => wM tc (A 16) (G 16)
  | 17 => Z
  | 18 => lawB tc ko
  | 19 => []
  | k + 20 => slB tc hs SA SL SG SK SQ k
section T1
variable {tc : Nat → ClassId} {A : Nat → Nat → Nat} {G G' : Nat → Pic} {q1 q1' : Option Nat} {lo lo' ko ko' : Option LawT} {hs hs' : Nat → Bool} {SA SA' SL SL' : Nat → Nat → Nat} {SG SG' SK SK' : Nat → Pic} {SQ SQ' : Nat → Option Nat} {Z Z' : va_W}
theorem mrow_up (hs : Nat → Bool) (SA : Nat → Nat → Nat) (j : Nat) (u : Nat → Nat) : va_up (mrow hs SA) j (some (u 0)) = mrow (va_up hs j true) (va_up SA j u) := by
  funext k
  unfold mrow
  by_cases z : k = j
  · subst z; rw [va_up_self, va_up_self, va_up_self, if_pos rfl]
  · rw [va_up_ne _ _ z, va_up_ne _ _ z, va_up_ne _ _ z]
theorem mrw_up {j : Nat} (hj : j < 12) (hs : Nat → Bool) (SA : Nat → Nat → Nat) (u : Nat → Nat) : va_up (mrw hs SA) j (some (u 0)) = mrw (va_up hs j true) (va_up SA j u) := by
  funext k
  by_cases z : k = j
  · subst z; rw [va_up_self]; unfold mrw mrow; rw [if_pos hj, va_up_self, va_up_self, if_pos rfl]
  · rw [va_up_ne _ _ z]; unfold mrw mrow; rw [va_up_ne _ _ z, va_up_ne _ _ z]
theorem mrw_12 (hs : Nat → Bool) (SA : Nat → Nat → Nat) (b : Bool) (u : Nat → Nat) : mrw (va_up hs 12 b) (va_up SA 12 u) = mrw hs SA := by
  funext k
  unfold mrw mrow
  by_cases z : k < 12
  · rw [if_pos z, if_pos z, va_up_ne _ _ (show k ≠ 12 by omega), va_up_ne _ _ (show k ≠ 12 by omega)]
  · rw [if_neg z, if_neg z]
theorem mrw_j {j : Nat} (hj : j < 12) (hs : Nat → Bool) (SA : Nat → Nat → Nat) : mrw hs SA j = mrow hs SA j := if_pos hj
theorem slB_o {j k : Nat} (h : k ≠ j) (b : Bool) (u1 u2 : Nat → Nat) (x y : Pic) (q : Option Nat) : slB tc (va_up hs j b) (va_up SA j u1) (va_up SL j u2) (va_up SG j x) (va_up SK j y) (va_up SQ j q) k = slB tc hs SA SL SG SK SQ k := by
  unfold slB
  rw [va_up_ne _ _ h, va_up_ne _ _ h, va_up_ne _ _ h, va_up_ne _ _ h, va_up_ne _ _ h, va_up_ne _ _ h]
theorem slB_s {j : Nat} (u1 u2 : Nat → Nat) (x y : Pic) (q : Option Nat) : slB tc (va_up hs j true) (va_up SA j u1) (va_up SL j u2) (va_up SG j x) (va_up SK j y) (va_up SQ j q) j = wSt tc u1 x q (u2 0) ++ wLg tc u2 y := by
  unfold slB
  rw [va_up_self, va_up_self, va_up_self, va_up_self, va_up_self, va_up_self, if_pos rfl]
/-- a block changes with its own picture alone -/
theorem blk_G {i : Nat} (h : G' i = G i) (h4 : i ≠ 4 ∨ q1' = q1) : blk tc A G' q1' lo ko hs SA SL SG SK SQ Z i = blk tc A G q1 lo ko hs SA SL SG SK SQ Z i := by
  unfold blk
  split <;> first | rfl | (rw [h]; done) | (rw [h]; rcases h4 with h4 | h4; exact absurd rfl h4; rw [h4])
abbrev allB : List Nat := List.range 33
theorem fm_cong {f f' : Nat → va_W} : ∀ {is : List Nat}, (∀ i ∈ is, f i = f' i) → is.flatMap f = is.flatMap f'
  | [], _ => rfl
  | i :: is, h => by
    rw [List.flatMap_cons, List.flatMap_cons, h i List.mem_cons_self, fm_cong (fun j hj => h j (List.mem_cons_of_mem _ hj))]
def zB (f : Nat → va_W) (is : List Nat) : va_W := flB f (allB.filter (fun i => decide (i ∉ is)))
theorem prm_all (is : List Nat) (hn : is.Nodup) (hs : ∀ i ∈ is, i < 33) : List.Perm allB (is ++ allB.filter (fun i => decide (i ∉ is))) := by
  refine (List.perm_ext_iff_of_nodup List.nodup_range ?_).mpr (fun i => ?_)
  · refine List.nodup_append.mpr ⟨hn, List.Nodup.sublist List.filter_sublist List.nodup_range, fun a ha b hb e => ?_⟩
    have h1 := (List.mem_filter.mp hb).2
    rw [decide_eq_true_eq] at h1
    exact h1 (e ▸ ha)
  · rw [List.mem_append, List.mem_filter, List.mem_range, decide_eq_true_eq]
    constructor
    · intro h
      by_cases z : i ∈ is
      · exact Or.inl z
      · exact Or.inr ⟨h, z⟩
    · rintro (h | h)
      · exact hs i h
      · exact h.1
/-- the frame, by blocks -/
theorem frB1 (f : Nat → va_W) (is : List Nat) (hn : is.Nodup) (hs : ∀ i ∈ is, i < 33) : List.Perm (flB f allB) (flB f is ++ zB f is) := (flB_perm f (prm_all is hn hs)).trans (flB_app f is _)
theorem frB2 (f f' : Nat → va_W) (is : List Nat) (hn : is.Nodup) (hs : ∀ i ∈ is, i < 33) (he : ∀ i, i ∉ is → f' i = f i) : List.Perm (flB f' is ++ zB f is) (flB f' allB) := by
  have hz : zB f is = zB f' is := by
    unfold zB
    rw [flB_eq, flB_eq]
    refine fm_cong (fun i hi => ?_)
    have h1 := (List.mem_filter.mp hi).2
    rw [decide_eq_true_eq] at h1
    exact (he i h1).symm
  rw [hz]
  exact (frB1 f' is hn hs).symm
theorem mem_all (f : Nat → va_W) {i : Nat} (hi : i < 33) {c : Nat × va_E} (h : c ∈ f i) : c ∈ flB f allB := by
  rw [flB_eq]
  exact List.mem_flatMap.mpr ⟨i, List.mem_range.mpr hi, h⟩
/-- a contract over some blocks, over all of them and the law's own row -/
theorem CZ.all {l : Launch} {D : va_G} {sk sv : Nat → Nat} {tys : List (ClassId × FieldType)} {y : MethodName} {hd : Cond} {rm : Room} {mc ms : Nat} {av : List Value} {PN PN' : Option Value → va_W → Prop} {PX PX' : String → va_W → Prop} {f : Nat → va_W} {is : List Nat} {ao : Nat} {o : Nat → Int64} (hM : CZ l D sk sv tys y hd rm mc ms av (flB f is) PN PX) (hn : is.Nodup) (hs : ∀ i ∈ is, i < 33)
    (hN : ∀ v w', PN v w' → ∃ f', w' = flB f' is ∧ (∀ i, i ∉ is → f' i = f i) ∧ PN' v (flB f' allB ++ wO tc ao o)) (hX : ∀ E w', PX E w' → ∃ f', w' = flB f' is ∧ (∀ i, i ∉ is → f' i = f i) ∧ PX' E (flB f' allB ++ wO tc ao o)) : CZ l D sk sv tys y hd rm mc ms av (flB f allB ++ wO tc ao o) PN' PX' := by
  have hb : ∀ f', (∀ i, i ∉ is → f' i = f i) → List.Perm (flB f' is ++ (zB f is ++ wO tc ao o)) (flB f' allB ++ wO tc ao o) := by
    intro f' he
    rw [← List.append_assoc]
    exact (frB2 f f' is hn hs he).append_right _
  refine CZ.fr (zr := zB f is ++ wO tc ao o) hM ?_ (fun v w' h => ?_) (fun E w' h => ?_)
  · rw [← List.append_assoc]; exact (frB1 f is hn hs).append_right _
  · obtain ⟨f', h1, h2, h3⟩ := hN v w' h
    subst h1
    exact ⟨_, hb f' h2, h3⟩
  · obtain ⟨f', h1, h2, h3⟩ := hX E w' h
    subst h1
    exact ⟨_, hb f' h2, h3⟩
end T1
