/-! The words of all methods: the tables' good words, one list for every contract -/
def WG : List Cond := lw_tbl.filter goodWord
theorem wg_in : ∀ w ∈ WG, w ∈ lw_tbl := fun _ h => (List.mem_filter.mp h).1
theorem wg_t {w : Cond} (h : w ∈ tables_1) (g : goodWord w = true) : w ∈ WG := List.mem_filter.mpr ⟨List.mem_append_right _ h, g⟩
theorem wg_s {w : Cond} (h : w ∈ k2_sels lw_privs) (g : goodWord w = true) : w ∈ WG := List.mem_filter.mpr ⟨List.mem_append_left _ h, g⟩
abbrev wsG (y : MethodName) (cc : ByteArray) (n : Nat) (rt : Option FieldType) : List Cond := .code y cc n rt :: WG
theorem wg_good {c0 : Cond} {ws : List Cond} (h : ∀ w ∈ ws, w ∈ WG) : GoodIn (c0 :: WG) ws := fun w hw => ⟨List.mem_cons_of_mem _ (h w hw), good_of_word (List.mem_filter.mp (h w hw)).2⟩
/-! pictures: field (or row) k, place i -/
abbrev Pic : Type := Nat → Nat → Int32
def pu (g : Pic) (k i : Nat) (v : Int32) : Pic := fun k' => bif Nat.beq k' k then upd (g k) i v else g k'
def pr_ (g : Pic) (k : Nat) (f : Nat → Int32) : Pic := fun k' => bif Nat.beq k' k then f else g k'
def nm {α β : Type} (e : α) (f : α → β) : β := f e
theorem nm_el {α β : Type} {e : α} {f : α → Option β} {r : β} (h : nm e f = some r) : ∃ x, x = e ∧ f x = some r := ⟨e, rfl, h⟩
def jn {α β : Type} (J : α) (k : α → β) : β := k J
theorem jn_el {α β : Type} {J : α} {k : α → Option β} {r : β} (h : jn J k = some r) : ∃ x, x = J ∧ k x = some r := ⟨J, rfl, h⟩
def bd {α β : Type} (x : Option α) (f : α → Option β) : Option β := match x with
  | none => none
  | some a => f a
theorem bd_el {α β : Type} {x : Option α} {f : α → Option β} {r : β} (h : bd x f = some r) : ∃ a, x = some a ∧ f a = some r := by
  cases x with
  | none => cases h
  | some a => exact ⟨a, rfl, h⟩
def lr {ρ τ β : Type} (x : Option (ρ ⊕ τ)) (j : ρ → β) (f : τ → Option β) : Option β := match x with
  | none => none
  | some (.inl a) => some (j a)
  | some (.inr b) => f b
theorem lr_el {ρ τ β : Type} {x : Option (ρ ⊕ τ)} {j : ρ → β} {f : τ → Option β} {r : β} (h : lr x j f = some r) : ∃ ex, x = some ex ∧ (∀ a, ex = .inl a → j a = r) ∧ ∀ b, ex = .inr b → f b = some r := by
  cases x with
  | none => cases h
  | some ex =>
    refine ⟨ex, rfl, fun a ha => ?_, fun b hb => ?_⟩
    · subst ha; exact Option.some.inj h
    · subst hb; exact h
def gdi {α : Type} (i : Int32) (n : Nat) (x : Option α) : Option α := if i < 0 ∨ n ≤ i.toNatClampNeg then none else x
theorem gdi_el {α : Type} {i : Int32} {n : Nat} {x : Option α} {r : α} (h : gdi i n x = some r) : vp_in i n ∧ x = some r := by
  unfold gdi at h
  by_cases c : i < 0 ∨ n ≤ i.toNatClampNeg
  · rw [if_pos c] at h; cases h
  · rw [if_neg c] at h; exact ⟨c, h⟩
def gdz {α : Type} (y : Int32) (x : Option α) : Option α := if y = 0 then none else x
theorem gdz_el {α : Type} {y : Int32} {x : Option α} {r : α} (h : gdz y x = some r) : ¬ y = 0 ∧ x = some r := by
  unfold gdz at h
  by_cases c : y = 0
  · rw [if_pos c] at h; cases h
  · rw [if_neg c] at h; exact ⟨c, h⟩
def gdb {α : Type} (y : Int32) (x : Option α) : Option α := if y = 0 ∨ y = 1 then x else none
theorem gdb_el {α : Type} {y : Int32} {x : Option α} {r : α} (h : gdb y x = some r) : (y = 0 ∨ y = 1) ∧ x = some r := by
  unfold gdb at h
  by_cases c : y = 0 ∨ y = 1
  · rw [if_pos c] at h; exact ⟨c, h⟩
  · rw [if_neg c] at h; cases h
theorem nz_bool {y : Int32} (h : y = 0 ∨ y = 1) : narrow .boolean (.int y) = .int y ∧ fits .boolean (.int y) = true := by
  rcases h with rfl | rfl <;> exact ⟨by decide, by decide⟩
theorem it_t {α : Type} {c : Prop} [Decidable c] {a b : Option α} {r : α} (hc : c) (h : (if c then a else b) = some r) : a = some r := by rw [if_pos hc] at h; exact h
theorem it_f {α : Type} {c : Prop} [Decidable c] {a b : Option α} {r : α} (hc : ¬ c) (h : (if c then a else b) = some r) : b = some r := by rw [if_neg hc] at h; exact h
theorem nn_el {α : Type} {x : α} {C : Prop} (h : (none : Option α) = some x) : C := by cases h
def bd2 {α β γ : Type} (x : Option (α × β)) (f : α → β → Option γ) : Option γ := match x with
  | none => none
  | some a => f a.1 a.2
theorem bd2_el {α β γ : Type} {x : Option (α × β)} {f : α → β → Option γ} {r : γ} (h : bd2 x f = some r) : ∃ a b, x = some (a, b) ∧ f a b = some r := by
  cases x with
  | none => cases h
  | some a => exact ⟨a.1, a.2, rfl, h⟩
def bd3 {α β γ δ : Type} (x : Option (α × β × γ)) (f : α → β → γ → Option δ) : Option δ := match x with
  | none => none
  | some a => f a.1 a.2.1 a.2.2
theorem bd3_el {α β γ δ : Type} {x : Option (α × β × γ)} {f : α → β → γ → Option δ} {r : δ} (h : bd3 x f = some r) : ∃ a b c, x = some (a, b, c) ∧ f a b c = some r := by
  cases x with
  | none => cases h
  | some a => exact ⟨a.1, a.2.1, a.2.2, rfl, h⟩
def bd4 {α β γ δ ε : Type} (x : Option (α × β × γ × δ)) (f : α → β → γ → δ → Option ε) : Option ε := match x with
  | none => none
  | some a => f a.1 a.2.1 a.2.2.1 a.2.2.2
theorem bd4_el {α β γ δ ε : Type} {x : Option (α × β × γ × δ)} {f : α → β → γ → δ → Option ε} {r : ε} (h : bd4 x f = some r) : ∃ a b c d, x = some (a, b, c, d) ∧ f a b c d = some r := by
  cases x with
  | none => cases h
  | some a => exact ⟨a.1, a.2.1, a.2.2.1, a.2.2.2, rfl, h⟩
def bd5 {α0 α1 α2 α3 α4 ω : Type} (x : Option (α0 × α1 × α2 × α3 × α4)) (f : α0 → α1 → α2 → α3 → α4 → Option ω) : Option ω := match x with
  | none => none
  | some a => f a.1 a.2.1 a.2.2.1 a.2.2.2.1 a.2.2.2.2
theorem bd5_el {α0 α1 α2 α3 α4 ω : Type} {x : Option (α0 × α1 × α2 × α3 × α4)} {f : α0 → α1 → α2 → α3 → α4 → Option ω} {r : ω} (h : bd5 x f = some r) : ∃ a0 a1 a2 a3 a4, x = some (a0, a1, a2, a3, a4) ∧ f a0 a1 a2 a3 a4 = some r := by
  cases x with
  | none => cases h
  | some a => exact ⟨a.1, a.2.1, a.2.2.1, a.2.2.2.1, a.2.2.2.2, rfl, h⟩
def bd6 {α0 α1 α2 α3 α4 α5 ω : Type} (x : Option (α0 × α1 × α2 × α3 × α4 × α5)) (f : α0 → α1 → α2 → α3 → α4 → α5 → Option ω) : Option ω := match x with
  | none => none
  | some a => f a.1 a.2.1 a.2.2.1 a.2.2.2.1 a.2.2.2.2.1 a.2.2.2.2.2
theorem bd6_el {α0 α1 α2 α3 α4 α5 ω : Type} {x : Option (α0 × α1 × α2 × α3 × α4 × α5)} {f : α0 → α1 → α2 → α3 → α4 → α5 → Option ω} {r : ω} (h : bd6 x f = some r) : ∃ a0 a1 a2 a3 a4 a5, x = some (a0, a1, a2, a3, a4, a5) ∧ f a0 a1 a2 a3 a4 a5 = some r := by
  cases x with
  | none => cases h
  | some a => exact ⟨a.1, a.2.1, a.2.2.1, a.2.2.2.1, a.2.2.2.2.1, a.2.2.2.2.2, rfl, h⟩
def bd7 {α0 α1 α2 α3 α4 α5 α6 ω : Type} (x : Option (α0 × α1 × α2 × α3 × α4 × α5 × α6)) (f : α0 → α1 → α2 → α3 → α4 → α5 → α6 → Option ω) : Option ω := match x with
  | none => none
  | some a => f a.1 a.2.1 a.2.2.1 a.2.2.2.1 a.2.2.2.2.1 a.2.2.2.2.2.1 a.2.2.2.2.2.2
theorem bd7_el {α0 α1 α2 α3 α4 α5 α6 ω : Type} {x : Option (α0 × α1 × α2 × α3 × α4 × α5 × α6)} {f : α0 → α1 → α2 → α3 → α4 → α5 → α6 → Option ω} {r : ω} (h : bd7 x f = some r) : ∃ a0 a1 a2 a3 a4 a5 a6, x = some (a0, a1, a2, a3, a4, a5, a6) ∧ f a0 a1 a2 a3 a4 a5 a6 = some r := by
  cases x with
  | none => cases h
  | some a => exact ⟨a.1, a.2.1, a.2.2.1, a.2.2.2.1, a.2.2.2.2.1, a.2.2.2.2.2.1, a.2.2.2.2.2.2, rfl, h⟩
def bd8 {α0 α1 α2 α3 α4 α5 α6 α7 ω : Type} (x : Option (α0 × α1 × α2 × α3 × α4 × α5 × α6 × α7)) (f : α0 → α1 → α2 → α3 → α4 → α5 → α6 → α7 → Option ω) : Option ω := match x with
  | none => none
  | some a => f a.1 a.2.1 a.2.2.1 a.2.2.2.1 a.2.2.2.2.1 a.2.2.2.2.2.1 a.2.2.2.2.2.2.1 a.2.2.2.2.2.2.2
theorem bd8_el {α0 α1 α2 α3 α4 α5 α6 α7 ω : Type} {x : Option (α0 × α1 × α2 × α3 × α4 × α5 × α6 × α7)} {f : α0 → α1 → α2 → α3 → α4 → α5 → α6 → α7 → Option ω} {r : ω} (h : bd8 x f = some r) : ∃ a0 a1 a2 a3 a4 a5 a6 a7, x = some (a0, a1, a2, a3, a4, a5, a6, a7) ∧ f a0 a1 a2 a3 a4 a5 a6 a7 = some r := by
  cases x with
  | none => cases h
  | some a => exact ⟨a.1, a.2.1, a.2.2.1, a.2.2.2.1, a.2.2.2.2.1, a.2.2.2.2.2.1, a.2.2.2.2.2.2.1, a.2.2.2.2.2.2.2, rfl, h⟩
/-- a loop: at most so many rounds -/
def lp {α β : Type} (F : (α → Option β) → α → Option β) : Nat → α → Option β
  | 0, _ => none
  | n + 1, a => F (lp F n) a
theorem lp_s {α β : Type} {F : (α → Option β) → α → Option β} {n : Nat} {a : α} {r : β} (h : lp F (n + 1) a = some r) : F (lp F n) a = some r := h
theorem lp_z {α β : Type} {F : (α → Option β) → α → Option β} {a : α} {r : β} {C : Prop} (h : lp F 0 a = some r) : C := by cases h
/-- how often a loop may go round: more than any run needs -/
def fu : Nat := 1000000
/-! the world's addresses never change -/
theorem D_fst {A : Nat → Prop} {ws ws' : va_W} (h : ws'.map Prod.fst = ws.map Prod.fst) (hD : va_D A ws) : va_D A ws' := by
  have tr : ∀ (k : Nat) (q : Nat × va_E), ws'[k]? = some q → ∃ q2, ws[k]? = some q2 ∧ q2.1 = q.1 := by
    intro k q hq
    have h1 : (ws'.map Prod.fst)[k]? = some q.1 := by rw [List.getElem?_map, hq]; rfl
    rw [h, List.getElem?_map] at h1
    cases hk : ws[k]? with
    | none => rw [hk] at h1; cases h1
    | some q2 => rw [hk] at h1; exact ⟨q2, rfl, Option.some.inj h1⟩
  refine ⟨fun i j p q hp hq e => ?_, fun k q hq => ?_⟩
  · obtain ⟨p2, a1, a2⟩ := tr i p hp
    obtain ⟨q2, b1, b2⟩ := tr j q hq
    exact hD.1 i j p2 q2 a1 b1 (by rw [a2, b2, e])
  · obtain ⟨q2, b1, b2⟩ := tr k q hq
    rw [← b2]
    exact hD.2 k q2 b1
def strT : List (List Int32) := [[119, 111, 114, 100], [111, 102, 116, 101, 110], [119, 114, 105, 116, 101, 114], [115, 112, 101, 101, 100], [115, 107, 105, 108, 108], [116, 105, 114, 101, 100], [108, 101, 97, 118, 101, 115], [115, 112, 101, 101, 99, 104], [116, 101, 109, 112, 111], [115, 108, 105, 112], [109, 105, 110, 117, 116, 101], [116, 104, 101, 32, 116, 101, 120, 116, 32, 105, 115, 32, 119, 114, 111, 110, 103], [116, 104, 101, 114, 101, 32, 97, 114, 101, 32, 49, 50, 32, 116, 101, 120, 116, 115], [116, 105, 114, 101], [114, 101, 115, 116], [105, 102], [110, 111, 116], [107, 101, 112, 116], [115, 117, 114, 101], [115, 116, 114, 111, 107, 101, 115], [108, 101, 116, 116, 101, 114, 115], [97, 110, 100], [111, 114], [110, 111, 32, 115, 117, 99, 104, 32, 119, 111, 114, 100], [110, 111, 32, 115, 117, 99, 104, 32, 116, 104, 105, 110, 103, 32, 111, 102, 32, 97, 32, 119, 111, 114, 100], [110, 111, 32, 115, 117, 99, 104, 32, 119, 114, 105, 116, 101, 114], [110, 111, 32, 115, 117, 99, 104, 32, 116, 104, 105, 110, 103, 32, 111, 102, 32, 97, 32, 119, 114, 105, 116, 101, 114], [116, 104, 101, 32, 110, 117, 109, 98, 101, 114, 32, 105, 115, 32, 110, 111, 110, 101], [116, 104, 101, 32, 115, 112, 101, 101, 99, 104, 32, 104, 97, 115, 32, 50, 48, 32, 119, 111, 114, 100, 115], [110, 111, 32, 115, 117, 99, 104, 32, 108, 101, 116, 116, 101, 114], [116, 104, 101, 32, 116, 97, 112, 101, 32, 105, 115, 32, 110, 111, 116, 32, 116, 104, 97, 116], [98, 111, 116, 104, 32, 97, 114, 101, 32, 111, 110, 101], [110, 111, 32, 115, 117, 99, 104, 32, 116, 104, 105, 110, 103, 32, 111, 102, 32, 97, 32, 114, 111, 119]]
def strTab : List (String × Nat × String × Nat) := [("PencilUp$EveningReader", 39, "word", 0), ("PencilUp$EveningReader", 102, "often", 1), ("PencilUp$EveningReader", 48, "writer", 2), ("PencilUp$EveningReader", 109, "speed", 3), ("PencilUp$EveningReader", 111, "skill", 4), ("PencilUp$EveningReader", 113, "tired", 5), ("PencilUp$EveningReader", 115, "leaves", 6), ("PencilUp$EveningReader", 53, "speech", 7), ("PencilUp$EveningReader", 61, "tempo", 8), ("PencilUp$EveningReader", 71, "slip", 9), ("PencilUp$EveningReader", 75, "minute", 10), ("PencilUp", 112, "the text is wrong", 11), ("PencilUp", 122, "there are 12 texts", 12), ("PencilUp$LawReader", 77, "tire", 13), ("PencilUp$LawReader", 79, "rest", 14), ("PencilUp$LawReader", 81, "slip", 9), ("PencilUp$LawReader", 67, "if", 15), ("PencilUp$LawReader", 93, "not", 16), ("PencilUp$LawReader", 104, "kept", 17), ("PencilUp$LawReader", 106, "sure", 18), ("PencilUp$LawReader", 120, "writer", 2), ("PencilUp$LawReader", 122, "word", 0), ("PencilUp$LawReader", 124, "strokes", 19), ("PencilUp$LawReader", 126, "letters", 20), ("PencilUp$LawReader", 128, "speed", 3), ("PencilUp$LawReader", 130, "skill", 4), ("PencilUp$LawReader", 132, "tired", 5), ("PencilUp$LawReader", 86, "and", 21), ("PencilUp$LawReader", 91, "or", 22), ("PencilUp", 414, "no such word", 23), ("PencilUp", 161, "no such thing of a word", 24), ("PencilUp", 417, "no such writer", 25), ("PencilUp", 221, "no such thing of a writer", 26), ("PencilUp", 421, "the number is none", 27), ("PencilUp", 269, "the speech has 20 words", 28), ("PencilUp", 419, "no such letter", 29), ("PencilUp", 423, "the tape is not that", 30), ("PencilUp", 329, "both are one", 31), ("PencilUp", 389, "no such thing of a row", 32), ("PencilUpModel", 231, "tire", 13), ("PencilUpModel", 233, "rest", 14), ("PencilUpModel", 160, "slip", 9), ("PencilUpModel", 235, "if", 15), ("PencilUpModel", 213, "not", 16), ("PencilUpModel", 200, "kept", 17), ("PencilUpModel", 205, "sure", 18), ("PencilUpModel", 145, "writer", 2), ("PencilUpModel", 140, "word", 0), ("PencilUpModel", 193, "strokes", 19), ("PencilUpModel", 195, "letters", 20), ("PencilUpModel", 121, "speed", 3), ("PencilUpModel", 123, "skill", 4), ("PencilUpModel", 125, "tired", 5), ("PencilUpModel", 224, "and", 21), ("PencilUpModel", 229, "or", 22), ("PencilUpModel", 115, "often", 1), ("PencilUpModel", 127, "leaves", 6), ("PencilUpModel", 150, "speech", 7), ("PencilUpModel", 155, "tempo", 8), ("PencilUpModel", 162, "minute", 10)]
def nwTab : List Cond := [(Jvm.Cond.methodLinkNest "PencilUp" (9 : Nat) ({ cls := "PencilUp$Tape", name := "<init>", desc := "()V" } : Jvm.MethodName) "PencilUp"), (Jvm.Cond.methodLinkNest "PencilUp" (18 : Nat) ({ cls := "PencilUp$State", name := "<init>", desc := "()V" } : Jvm.MethodName) "PencilUp"), (Jvm.Cond.methodLinkNest "PencilUp$State" (48 : Nat) ({ cls := "PencilUp$Log", name := "<init>", desc := "()V" } : Jvm.MethodName) "PencilUp"), (Jvm.Cond.methodLinkNest "PencilUp" (46 : Nat) ({ cls := "PencilUp$Hand", name := "<init>", desc := "()V" } : Jvm.MethodName) "PencilUp"), (Jvm.Cond.castable "java/lang/IllegalArgumentException" "java/lang/IllegalArgumentException"), (Jvm.Cond.declares ({ cls := "java/lang/RuntimeException", name := "<init>", desc := "()V" } : Jvm.MethodName)), (Jvm.Cond.declares ({ cls := "java/lang/RuntimeException", name := "<init>", desc := "(Ljava/lang/String;)V" } : Jvm.MethodName)), (Jvm.Cond.declares ({ cls := "java/lang/Exception", name := "<init>", desc := "()V" } : Jvm.MethodName)), (Jvm.Cond.declares ({ cls := "java/lang/Exception", name := "<init>", desc := "(Ljava/lang/String;)V" } : Jvm.MethodName)), (Jvm.Cond.declares ({ cls := "java/lang/Throwable", name := "<init>", desc := "()V" } : Jvm.MethodName)), (Jvm.Cond.declares ({ cls := "java/lang/Throwable", name := "<init>", desc := "(Ljava/lang/String;)V" } : Jvm.MethodName)), (Jvm.Cond.castable "java/lang/UnsupportedOperationException" "java/lang/UnsupportedOperationException"), (Jvm.Cond.castable "[I" "java/lang/Cloneable"), (Jvm.Cond.castable "java/lang/IndexOutOfBoundsException" "java/lang/IndexOutOfBoundsException"), (Jvm.Cond.castable "java/util/NoSuchElementException" "java/util/NoSuchElementException"), (Jvm.Cond.castable "java/lang/IllegalStateException" "java/lang/IllegalStateException"), (Jvm.Cond.castable "PencilUp" "java/lang/Object"), (Jvm.Cond.castable "PencilUp$Tape" "java/lang/Object"), (Jvm.Cond.castable "PencilUp$State" "java/lang/Object"), (Jvm.Cond.castable "PencilUp$Log" "java/lang/Object"), (Jvm.Cond.castable "PencilUp$EveningReader" "java/lang/Object"), (Jvm.Cond.castable "PencilUp$LawReader" "java/lang/Object"), (Jvm.Cond.castable "PencilUp$Hand" "java/lang/Object"), (Jvm.Cond.castable "PencilUp$Clock" "java/lang/Object"), (Jvm.Cond.castable "PencilUp$Lexicon" "java/lang/Object"), (Jvm.Cond.castable "PencilUp$Clues" "java/lang/Object"), (Jvm.Cond.castable "PencilUp$Scores" "java/lang/Object"), (Jvm.Cond.castable "PencilUpModel" "java/lang/Object"), (Jvm.Cond.castable "java/lang/IllegalArgumentException" "java/lang/Object"), (Jvm.Cond.castable "java/lang/UnsupportedOperationException" "java/lang/Object"), (Jvm.Cond.castable "PencilUp$Law" "java/lang/Object"), (Jvm.Cond.castable "java/lang/IndexOutOfBoundsException" "java/lang/Object"), (Jvm.Cond.castable "java/util/NoSuchElementException" "java/lang/Object"), (Jvm.Cond.castable "java/lang/IllegalStateException" "java/lang/Object"), (Jvm.Cond.castable "java/lang/Throwable" "java/lang/Object"), (Jvm.Cond.castable "java/lang/String" "java/lang/Object")]
def ncTab : List (String × String) := [("java/lang/UnsupportedOperationException", "java/lang/IllegalArgumentException"), ("java/lang/IndexOutOfBoundsException", "java/lang/IllegalArgumentException"), ("java/util/NoSuchElementException", "java/lang/IllegalArgumentException"), ("java/lang/IllegalStateException", "java/lang/IllegalArgumentException"), ("java/lang/IllegalArgumentException", "java/lang/UnsupportedOperationException"), ("java/lang/IndexOutOfBoundsException", "java/lang/UnsupportedOperationException"), ("java/util/NoSuchElementException", "java/lang/UnsupportedOperationException"), ("java/lang/IllegalStateException", "java/lang/UnsupportedOperationException"), ("java/lang/IllegalArgumentException", "java/lang/IndexOutOfBoundsException"), ("java/lang/UnsupportedOperationException", "java/lang/IndexOutOfBoundsException"), ("java/util/NoSuchElementException", "java/lang/IndexOutOfBoundsException"), ("java/lang/IllegalStateException", "java/lang/IndexOutOfBoundsException"), ("java/lang/IllegalArgumentException", "java/util/NoSuchElementException"), ("java/lang/UnsupportedOperationException", "java/util/NoSuchElementException"), ("java/lang/IndexOutOfBoundsException", "java/util/NoSuchElementException"), ("java/lang/IllegalStateException", "java/util/NoSuchElementException"), ("java/lang/IllegalArgumentException", "java/lang/IllegalStateException"), ("java/lang/UnsupportedOperationException", "java/lang/IllegalStateException"), ("java/lang/IndexOutOfBoundsException", "java/lang/IllegalStateException"), ("java/util/NoSuchElementException", "java/lang/IllegalStateException")]
/-! what stands around every method: the texts, two statics of String and Preconditions, two of Throwable, words that the machine's own warming keeps -/
def nwK : Cond → Bool
  | .castable _ _ => true
  | .declares _ => true
  | .methodLinkNest _ _ _ _ => true
  | _ => false
theorem nw_tab {w : Cond} (h : nwK w = true) : w.onTables = true := by
  cases w <;> first | rfl | cases h
theorem nw_warm {w : Cond} {s U : State} (h : nwK w = true) (hW : s.WarmedH U.vm) (hz : va_Nw w s) : va_Nw w U := by
  cases w <;> first | exact va_Nw.warmC hW hz | exact va_Nw.warmD hW hz | exact va_Nw.warmM hW hz | cases h
def EN (sk sv : Nat → Nat) (A : Nat → Prop) (U : State) (H : Heap) : Prop :=
  (∀ i, i < strT.length → va_O "java/lang/String" (sk i) A U H ∧ va_OF "java/lang/String" "coder" "B" (.int 0) (sk i) A U H ∧ va_OF "java/lang/String" "value" "[B" (.ref (sv i)) (sk i) A U H ∧ va_T .byte (sv i) (strT.getD i []).length (fun j => .int ((strT.getD i []).getD j 0)) A U H) ∧
  va_Z "java/lang/String" "COMPACT_STRINGS" "Z" (.int 1) A U H ∧ va_Zq "jdk/internal/util/Preconditions" "SIOOBE_FORMATTER" "Ljava/util/function/BiFunction;" A U H ∧
  (vx_Zq Bundle.tN "UNASSIGNED_STACK" Bundle.steD A U H ∧ vx_Zq Bundle.tN "SUPPRESSED_SENTINEL" Bundle.listD A U H) ∧ (∀ q ∈ strTab, vk_R q.1 q.2.1 q.2.2.1 (sk q.2.2.2) U) ∧
  (∀ w ∈ nwTab, va_Nw w U) ∧ (∀ q ∈ ncTab, va_Nc q.1 q.2 U) ∧ va_AO "PencilUp$State" U
theorem nwTab_ok : ∀ w ∈ nwTab, nwK w = true := by decide
theorem EN.kept {sk sv : Nat → Nat} {A : Nat → Prop} {U : State} {H H1 : Heap} (h : EN sk sv A U H) (hq : ∀ a : Nat, a < H.size → ¬ A a → H1[a]? = H[a]?) : EN sk sv A U H1 :=
  ⟨fun i hi => ⟨(h.1 i hi).1.kept hq, (h.1 i hi).2.1.kept hq, (h.1 i hi).2.2.1.kept hq, (h.1 i hi).2.2.2.kept hq⟩, h.2.1.kept hq, h.2.2.1.kept hq, ⟨h.2.2.2.1.1.kept hq, h.2.2.2.1.2.kept hq⟩, h.2.2.2.2⟩
theorem EN.narrow {sk sv : Nat → Nat} {A B : Nat → Prop} {U : State} {H : Heap} (h : EN sk sv A U H) (hAB : ∀ q, B q → A q) : EN sk sv B U H :=
  ⟨fun i hi => ⟨(h.1 i hi).1.narrow hAB, (h.1 i hi).2.1.narrow hAB, (h.1 i hi).2.2.1.narrow hAB, (h.1 i hi).2.2.2.narrow hAB⟩, h.2.1.narrow hAB, h.2.2.1.narrow hAB, ⟨h.2.2.2.1.1.narrow hAB, h.2.2.2.1.2.narrow hAB⟩, h.2.2.2.2⟩
theorem EN.warm {sk sv : Nat → Nat} {A : Nat → Prop} {u U : State} {H : Heap} (hW : u.WarmedH U.vm) (h : EN sk sv A u H) : EN sk sv A U H :=
  ⟨fun i hi => ⟨va_O.moved hW.alike (h.1 i hi).1, va_OF.moved hW.alike (h.1 i hi).2.1, va_OF.moved hW.alike (h.1 i hi).2.2.1, va_T.moved hW.alike (h.1 i hi).2.2.2⟩, va_Z.moved hW.alike h.2.1, va_Zq.moved hW.alike h.2.2.1, ⟨vx_Zq.moved hW.alike h.2.2.2.1.1, vx_Zq.moved hW.alike h.2.2.2.1.2⟩, fun q hq => (h.2.2.2.2.1 q hq).warm hW, fun w hw => nw_warm (nwTab_ok w hw) hW (h.2.2.2.2.2.1 w hw), fun q hq => (h.2.2.2.2.2.2.1 q hq).moved hW.alike, va_AO.moved hW.alike h.2.2.2.2.2.2.2⟩
theorem EN.same {sk sv : Nat → Nat} {A : Nat → Prop} {u U : State} {H : Heap} (hv : U.vm = u.vm) (h : EN sk sv A u H) : EN sk sv A U H :=
  have hW : u.vm.Alike U.vm := by rw [hv]; exact Vm.Alike.refl _
  ⟨fun i hi => ⟨va_O.moved hW (h.1 i hi).1, va_OF.moved hW (h.1 i hi).2.1, va_OF.moved hW (h.1 i hi).2.2.1, va_T.moved hW (h.1 i hi).2.2.2⟩, va_Z.moved hW h.2.1, va_Zq.moved hW h.2.2.1, ⟨vx_Zq.moved hW h.2.2.2.1.1, vx_Zq.moved hW h.2.2.2.1.2⟩, fun q hq => (h.2.2.2.2.1 q hq).same hv, fun w hw => va_Nw.same (nw_tab (nwTab_ok w hw)) hv.symm (h.2.2.2.2.2.1 w hw), fun q hq => (h.2.2.2.2.2.2.1 q hq).moved hW, va_AO.moved hW h.2.2.2.2.2.2.2⟩
/-- a contract: from the world w the method returns v, and leaves the world w'; no cell is made -/
def CT (l : Launch) (D : va_G) (sk sv : Nat → Nat) (tys : List (ClassId × FieldType)) (y : MethodName) (cc : ByteArray) (n : Nat) (rt : Option FieldType) (rm : Room) (av : List Value) (w : va_W) (v : Option Value) (w' : va_W) : Prop :=
  ∀ sz : Nat, Met l y (wsG y cc n rt) rm (va_Pc av (fun U => U.heap.size = sz ∧ va_P D vwCl w U.heap ∧ va_K D vwCl tys U ∧ va_D (fun _ => True) w ∧ EN sk sv (va_A w sz) U U.heap)) (fun _ st oc t => oc = .returned v ∧ va_P D vwCl w' t.heap ∧ va_F (va_A w sz) st t) 0 0 (va_A w sz)
def QT (D : va_G) (A : Nat → Prop) (v : Option Value) (w' : va_W) : Array Value → State → Outcome → State → Prop := fun _ st oc t => oc = .returned v ∧ va_P D vwCl w' t.heap ∧ va_F A st t
/-- what holds in a method's body -/
def CX (pr : Program) (D : va_G) (sk sv : Nat → Nat) (tys : List (ClassId × FieldType)) (y : MethodName) (cc : ByteArray) (n : Nat) (rt : Option FieldType) (s : State) (m : MethodId) (args : Array Value) (meth : Method) (c : Code) (A : Nat → Prop) : Prop :=
  pr.tables.exec = Jvm.exec ∧ c.code = cc ∧ meth.sig.returnType = rt ∧ c.maxLocals = n ∧ s.vm.findClass y.cls = some m.cls ∧ (∀ w ∈ wsG y cc n rt, w.before args s = true) ∧ meth.locks = false ∧ (∀ q : Nat, s.heap.size ≤ q → A q) ∧ va_K D vwCl tys s ∧ EN sk sv A s s.heap
theorem ofCT {l : Launch} {D : va_G} {sk sv : Nat → Nat} {tys : List (ClassId × FieldType)} {y : MethodName} {cc : ByteArray} {n : Nat} {rt : Option FieldType} {rm : Room} {av : List Value} {w : va_W} {v : Option Value} {w' : va_W} (hy : plainName y.cls = true) (hlen : (lg_sl av).length ≤ n)
    (body : ∀ (pr : Program) (e : Env) (s : State) (m : MethodId) (args : Array Value) (below : List Frame) (meth : Method) (c : Code) (A : Nat → Prop) (Q : State → Prop) (ls : Array Slot) (H : Heap) (locs : List Loc), CX pr D sk sv tys y cc n rt s m args meth c A → MQ below (QT D A v w') args s 0 0 A = Q → va_D A w → va_P D vwCl w H → va_S A s.heap H locs → lv_has ls n (lv_args 0 av) →
      W pr l e rm s m args below meth c H locs 0 0 Q (F0 m 0 ls [])) : CT l D sk sv tys y cc n rt rm av w v w' := by
  intro sz
  refine Met.ofW (cc := cc) (maxL := n) (ret := rt) hy rfl ?_
  intro pr e s m args below meth c s₁ B hml hv
  obtain ⟨rfl, hsz, hP, hK, hD0, hE⟩ := hv
  have hts := atoms_spec (ws := wsG y cc n rt) B.pre
  have hown : s.vm.findClass y.cls = some m.cls := findClass_of_methodNamed B.named
  subst hsz
  have hD := hD0.self (sz := s.heap.size)
  have hl := lv_entry av (n := n) hlen
  rw [lg_entry_eq]
  exact body pr e s m av.toArray below meth c (va_A w s.heap.size) _ _ s.heap [] ⟨B.exec, B.bytes, B.returns, hml, hown, hts, B.notSynchronized, fun q h => Or.inr h, hK, hE⟩ rfl hD hP va_S.rf hl
section RET
variable {pr : Program} {l : Launch} {e : Env} {R : Room} {D : va_G} {sk sv : Nat → Nat} {tys : List (ClassId × FieldType)} {y : MethodName} {cc : ByteArray} {n : Nat} {rt : Option FieldType} {s : State} {m : MethodId} {args : Array Value} {below : List Frame} {meth : Method} {c : Code} {A : Nat → Prop} {H : Heap} {locs : List Loc} {cells slots : Nat} {Q : State → Prop} {pc : Nat} {ls : Array Slot} {rest : List Value}
theorem ret_i {α : Type} (wf : α → va_W) {v : Int32} {x : α} {res : Int32 × α} (hv : (v, x) = res) (X : CX pr D sk sv tys y cc n (some .int) s m args meth c A) (hQ : MQ below (QT D A (some (.int res.1)) (wf res.2)) args s 0 0 A = Q) (hP : va_P D vwCl (wf x) H) (hS : va_S A s.heap H locs) (hd : decode cc pc = .ok (.ireturn, 1)) :
    W pr l e R s m args below meth c H locs 0 0 Q (F0 m pc ls [.int v]) := by
  subst hv
  subst hQ
  obtain ⟨hx, hb, hr, hml, hown, hts, hlocks, hA, hK, hE⟩ := X
  exact W.iret (v := v) hx hb hr (fun t ht hW => ⟨rfl, by rw [ht]; exact hP, hS.F ht⟩) hS.2.2 hd
theorem ret_z {α : Type} (wf : α → va_W) {v : Int32} {x : α} {res : Int32 × α} (hz : v = 0 ∨ v = 1) (hv : (v, x) = res) (X : CX pr D sk sv tys y cc n (some .boolean) s m args meth c A) (hQ : MQ below (QT D A (some (.int res.1)) (wf res.2)) args s 0 0 A = Q) (hP : va_P D vwCl (wf x) H) (hS : va_S A s.heap H locs) (hd : decode cc pc = .ok (.ireturn, 1)) :
    W pr l e R s m args below meth c H locs 0 0 Q (F0 m pc ls [.int v]) := by
  subst hv
  subst hQ
  obtain ⟨hx, hb, hr, hml, hown, hts, hlocks, hA, hK, hE⟩ := X
  exact W.zret (v := v) (ty := .boolean) hx hb hr (nz_bool hz).1 (fun t ht hW => ⟨rfl, by rw [ht]; exact hP, hS.F ht⟩) hS.2.2 hd
theorem ret_v {α : Type} (wf : α → va_W) {x : α} {res : α} (hv : x = res) (X : CX pr D sk sv tys y cc n none s m args meth c A) (hQ : MQ below (QT D A none (wf res)) args s 0 0 A = Q) (hP : va_P D vwCl (wf x) H) (hS : va_S A s.heap H locs) (hd : decode cc pc = .ok (.return_, 1)) :
    W pr l e R s m args below meth c H locs 0 0 Q (F0 m pc ls []) := by
  subst hv
  subst hQ
  obtain ⟨hx, hb, hr, hml, hown, hts, hlocks, hA, hK, hE⟩ := X
  exact W.vret hx hb hr (fun t ht hW => ⟨rfl, by rw [ht]; exact hP, hS.F ht⟩) hS.2.2 hd
/-- a callee's world among the caller's: before it x, behind it z -/
theorem P_mid {ws x wc z : va_W} (h : va_P D vwCl (x ++ (wc ++ z)) H) : va_P D vwCl wc H := fun k q hk => by
  refine h (x.length + k) q ?_
  rw [List.getElem?_append_right (by omega), show x.length + k - x.length = k by omega, List.getElem?_append_left (List.getElem?_eq_some_iff.mp hk).1]
  exact hk
theorem D_mid {x wc z : va_W} (h : va_D A (x ++ (wc ++ z))) : va_D A wc := by
  have tr : ∀ (k : Nat) (q : Nat × va_E), wc[k]? = some q → (x ++ (wc ++ z))[x.length + k]? = some q := fun k q hk => by
    rw [List.getElem?_append_right (by omega), show x.length + k - x.length = k by omega, List.getElem?_append_left (List.getElem?_eq_some_iff.mp hk).1]
    exact hk
  refine ⟨fun i j p q hp hq e => ?_, fun k q hq => h.2 _ q (tr k q hq)⟩
  have := h.1 _ _ p q (tr i p hp) (tr j q hq) e
  omega
theorem P_back {x wc wc' z : va_W} {H1 : Heap} (h : va_P D vwCl (x ++ (wc ++ z)) H) (hD : va_D A (x ++ (wc ++ z))) (h1 : va_P D vwCl wc' H1) (hk : ∀ q : Nat, q < H.size → ¬ va_A wc H.size q → H1[q]? = H[q]?) : va_P D vwCl (x ++ (wc' ++ z)) H1 := by
  have key : ∀ (i : Nat) (q : Nat × va_E), (x ++ (wc ++ z))[i]? = some q → (i < x.length ∨ x.length + wc.length ≤ i) → va_at D vwCl q H1 := by
    intro i q hq ho
    have hl := (h i q hq).lt
    refine (h i q hq).kept (hk q.1 hl (fun hA => ?_))
    rcases hA with ⟨k, e, he⟩ | hA
    · have hkl := (List.getElem?_eq_some_iff.mp he).1
      have h2 : (x ++ (wc ++ z))[x.length + k]? = some (q.1, e) := by
        rw [List.getElem?_append_right (by omega), show x.length + k - x.length = k by omega, List.getElem?_append_left hkl]
        exact he
      have := hD.1 i (x.length + k) q (q.1, e) hq h2 rfl
      omega
    · omega
  refine va_P.app (fun i q hq => key i q ?_ (Or.inl (List.getElem?_eq_some_iff.mp hq).1)) (va_P.app h1 (fun i q hq => key (x.length + (wc.length + i)) q ?_ (Or.inr (by omega))))
  · rw [List.getElem?_append_left (List.getElem?_eq_some_iff.mp hq).1]; exact hq
  · rw [List.getElem?_append_right (by omega), show x.length + (wc.length + i) - x.length = wc.length + i by omega, List.getElem?_append_right (by omega), show wc.length + i - wc.length = i by omega]
    exact hq
theorem E_at {x wc z : va_W} (hE : EN sk sv A s s.heap) (hS : va_S A s.heap H locs) (hA : ∀ q : Nat, s.heap.size ≤ q → A q) (hD : va_D A (x ++ (wc ++ z))) {U : State} (hU : U.heap = H) (hW : s.WarmedH U.vm) : EN sk sv (va_A wc U.heap.size) U U.heap := by
  rw [hU]
  refine ((hE.kept (fun a h1 h2 => hS.2.1 a h1 h2)).narrow (fun q hq => ?_)).warm hW
  rcases hq with ⟨k, e, h⟩ | h
  · exact (D_mid hD).2 k (q, e) h
  · exact hA q (Nat.le_trans hS.1 h)
theorem F_at {x wc z : va_W} (hS : va_S A s.heap H locs) (hA : ∀ q : Nat, s.heap.size ≤ q → A q) (hD : va_D A (x ++ (wc ++ z))) : ∀ q, va_A wc H.size q → A q := by
  intro q hq
  rcases hq with ⟨k, e, h⟩ | h
  · exact (D_mid hD).2 k (q, e) h
  · exact hA q (Nat.le_trans hS.1 h)
/-- a call's run, taken on -/
theorem call_go {wc wc' x z : va_W} {v : Option Value} {st0 : List Value} {a : Array Value} (hr : va_Run pr l e R s m args below meth c H locs cells slots 0 0 (F0 m pc ls st0) rest (QT D (va_A wc H.size) v wc' a) (va_A wc H.size)) (hA : ∀ q : Nat, s.heap.size ≤ q → A q) (hS : va_S A s.heap H locs) (hP : va_P D vwCl (x ++ (wc ++ z)) H) (hD : va_D A (x ++ (wc ++ z)))
    (kk : ∀ (H1 : Heap) (locs1 : List Loc), va_P D vwCl (x ++ (wc' ++ z)) H1 → va_S A s.heap H1 locs1 → W pr l e R s m args below meth c H1 locs1 cells slots Q (F0 m (pc + 3) ls (v.toList ++ rest))) : W pr l e R s m args below meth c H locs cells slots Q (F0 m pc ls st0) := by
  intro T hT X
  have hF := F_at hS hA hD
  obtain ⟨v0, st₀, t, T', L, h0, X', hL, e1, e2, ⟨hv, hp1, hz, hk⟩, st⟩ := hr T hT X
  cases hv
  rw [h0] at hz hk
  obtain ⟨t2, a1, b1⟩ := kk T'.heap (locs ++ L) (by rw [e1]; exact P_back hP hD hp1 hk)
    ⟨Nat.le_trans hS.1 (by rw [e1]; exact hz), fun q h1 h2 => by rw [e1, hk q (Nat.lt_of_lt_of_le h1 hS.1) (fun z => h2 (hF q z))]; exact hS.2.1 q h1 h2, fun q hq => by
      rcases List.mem_append.mp hq with h | h
      · exact hS.2.2 q h
      · exact hF _ (hL q h)⟩ T' rfl X'
  exact ⟨t2, st t2 a1, b1⟩
/-- a call of an instance method: by its contract -/
theorem call_V {y' : MethodName} {cc' : ByteArray} {n' : Nat} {rt' : Option FieldType} {rm' : Room} {b ci index : Nat} {fs As : List Value} {cq : vw_C} {wc wc' x z : va_W} {v : Option Value} (X : CX pr D sk sv tys y cc n rt s m args meth c A) (hM : CT l D sk sv tys y' cc' n' rt' rm' (.ref b :: As) wc v wc')
    (m1 : Cond.methodLink y.cls index y' ∈ WG) (m2 : Cond.instanceMethod y' ∈ WG) (m3 : Cond.selects y'.cls y' y' ∈ WG) (m4 : Cond.initialized y'.cls ∈ WG) (m5 : Cond.code y' cc' n' rt' ∈ WG)
    (hd : y'.cls ≠ "java/lang/invoke/MethodHandle" ∧ y'.cls ≠ "java/lang/invoke/VarHandle" ∧ (parseMethodDescriptor y'.desc).map (fun d => d.parameters.length) = some As.length) (hR : rm'.frames + 1 ≤ R.frames ∧ 8 + (n' + 11) + rm'.locals ≤ R.locals) (hrc : rm'.cells = 0) (hrs : rm'.slots = 0) (hcs : cells ≤ R.cells ∧ slots ≤ R.slots)
    (hP : va_P D vwCl (x ++ (wc ++ z)) H) (hD : va_D A (x ++ (wc ++ z))) (hS : va_S A s.heap H locs) (q0 : Nat) (he : wc[q0]? = some (b, .inr (ci, fs))) (hc : vwCl[ci]? = some cq) (hcq : cq.1 = y'.cls) (hsize : ls.size = n) (hrest : (rest.map fun v => v.category).sum ≤ 8) (hdg : decode cc pc = .ok (.invokevirtual index, 3))
    (kk : ∀ (H1 : Heap) (locs1 : List Loc), va_P D vwCl (x ++ (wc' ++ z)) H1 → va_S A s.heap H1 locs1 → W pr l e R s m args below meth c H1 locs1 cells slots Q (F0 m (pc + 3) ls (v.toList ++ rest))) : W pr l e R s m args below meth c H locs cells slots Q (F0 m pc ls (As.reverse ++ .ref b :: rest)) := by
  obtain ⟨hx, hb, hr, hml, hown, hts, hlocks, hA, hK, hE⟩ := X
  have ok : ∀ w ∈ WG, w.before args s = true := fun w h => hts w (List.mem_cons_of_mem _ h)
  have hcw : CallW R s args y.cls y'.cls index y' cc' n' rt' (wsG y' cc' n' rt') rm' 0 0 As.length := ⟨callB_of As.length hts (wg_good (fun w h => (List.mem_cons.mp h).elim (fun e => by rw [e]; exact m5) (fun h => h))) rfl hrc hrs (ok _ m4) (ok _ m1) hd hR, ok _ m2, ok _ m3⟩
  refine call_go (va_runV (As := As) (rest := rest) (nL := n) (Ts := wsG y cc n rt) (own := y.cls) (C := y'.cls) ⟨hx, hb, hml, hown, hts⟩ (hM H.size) hcw ⟨fun a U g mk q => ?_, ?_, fun U hU hW => ?_⟩ rfl rfl hsize rfl (lv_room hrest) hdg ⟨hcs.1, hcs.2⟩) hA hS hP hD kk
  · obtain ⟨q0, q1, qP, qK, qD, qE⟩ := q
    exact ⟨q0, q1, qP, va_K.moved (u := U) (U := U.calling g mk a) (Vm.Alike.refl U.vm) qK, qD, EN.same (u := U) (U := U.calling g mk a) rfl qE⟩
  · obtain ⟨cell, r1, r2, r3⟩ := va_recv hK (P_mid (ws := []) hP) hc he
    exact ⟨cell, r1, r2, by rw [← hcq]; exact r3⟩
  · exact ⟨rfl, by rw [hU], by rw [hU]; exact P_mid (ws := []) hP, va_K.moved hW.alike hK, (D_mid hD).weaken (fun _ _ _ _ => trivial), by rw [← hU]; exact E_at hE hS hA hD hU hW⟩
/-- a call of a static method: by its contract -/
theorem call_S {y' : MethodName} {cc' : ByteArray} {n' : Nat} {rt' : Option FieldType} {rm' : Room} {index : Nat} {As : List Value} {wc wc' x z : va_W} {v : Option Value} (X : CX pr D sk sv tys y cc n rt s m args meth c A) (hM : CT l D sk sv tys y' cc' n' rt' rm' As wc v wc')
    (m1 : Cond.methodLink y.cls index y' ∈ WG) (m2 : Cond.static y' ∈ WG) (m4 : Cond.initialized y'.cls ∈ WG) (m5 : Cond.code y' cc' n' rt' ∈ WG)
    (hd : y'.cls ≠ "java/lang/invoke/MethodHandle" ∧ y'.cls ≠ "java/lang/invoke/VarHandle" ∧ (parseMethodDescriptor y'.desc).map (fun d => d.parameters.length) = some As.length) (hR : rm'.frames + 1 ≤ R.frames ∧ 8 + (n' + 11) + rm'.locals ≤ R.locals) (hrc : rm'.cells = 0) (hrs : rm'.slots = 0) (hcs : cells ≤ R.cells ∧ slots ≤ R.slots)
    (hP : va_P D vwCl (x ++ (wc ++ z)) H) (hD : va_D A (x ++ (wc ++ z))) (hS : va_S A s.heap H locs) (hsize : ls.size = n) (hrest : (rest.map fun v => v.category).sum ≤ 8) (hdg : decode cc pc = .ok (.invokestatic index, 3))
    (kk : ∀ (H1 : Heap) (locs1 : List Loc), va_P D vwCl (x ++ (wc' ++ z)) H1 → va_S A s.heap H1 locs1 → W pr l e R s m args below meth c H1 locs1 cells slots Q (F0 m (pc + 3) ls (v.toList ++ rest))) : W pr l e R s m args below meth c H locs cells slots Q (F0 m pc ls (As.reverse ++ rest)) := by
  obtain ⟨hx, hb, hr, hml, hown, hts, hlocks, hA, hK, hE⟩ := X
  have ok : ∀ w ∈ WG, w.before args s = true := fun w h => hts w (List.mem_cons_of_mem _ h)
  have hcw : CallB R s args y.cls index y' cc' n' rt' (wsG y' cc' n' rt') rm' 0 0 As.length ∧ (Cond.static y').before args s = true := ⟨callB_of As.length hts (wg_good (fun w h => (List.mem_cons.mp h).elim (fun e => by rw [e]; exact m5) (fun h => h))) rfl hrc hrs (ok _ m4) (ok _ m1) hd hR, ok _ m2⟩
  refine call_go (va_runS (As := As) (rest := rest) (nL := n) (Ts := wsG y cc n rt) (own := y.cls) ⟨hx, hb, hml, hown, hts⟩ (hM H.size) hcw ⟨fun a U g mk q => ?_, fun U hU hW => ?_⟩ rfl rfl hsize rfl (lv_room hrest) hdg ⟨hcs.1, hcs.2⟩) hA hS hP hD kk
  · obtain ⟨q0, q1, qP, qK, qD, qE⟩ := q
    exact ⟨q0, q1, qP, va_K.moved (u := U) (U := U.calling g mk a) (Vm.Alike.refl U.vm) qK, qD, EN.same (u := U) (U := U.calling g mk a) rfl qE⟩
  · exact ⟨rfl, by rw [hU], by rw [hU]; exact P_mid (ws := []) hP, va_K.moved hW.alike hK, (D_mid hD).weaken (fun _ _ _ _ => trivial), by rw [← hU]; exact E_at hE hS hA hD hU hW⟩
/-- fields and rows -/
theorem r_get {C : String} {T : u_T} {N ci index a : Nat} {ws : va_W} (X : CX pr D sk sv tys y cc n rt s m args meth c A) (hin : ∀ w ∈ u_ws C T N, w ∈ WG) (hP : va_P D vwCl ws H) (q0 : Nat) {fs : List Value} (he : ws[q0]? = some (a, .inr (ci, fs))) (hc : vwCl[ci]? = some (C, T, N)) (k : Nat) (hk : Nat.ble (k + 1) N = true) (hl : Cond.fieldLink y.cls index (T k).1 (T k).2.1 (T k).2.2.1 ∈ WG) {v : Value} (hv : fs[k]? = some v) (hdg : decode cc pc = .ok (.getfield index, 3))
    (kk : W pr l e R s m args below meth c H locs cells slots Q (F0 m (pc + 3) ls (v :: rest))) : W pr l e R s m args below meth c H locs cells slots Q (F0 m pc ls (.ref a :: rest)) :=
  va_get (D := D) (ci := ci) (C := C) (T := T) (N := N) X.1 X.2.1 X.2.2.2.2.2.1 (fun w h => List.mem_cons_of_mem _ (hin w h)) X.2.2.2.2.1 X.2.2.2.2.2.2.2.2.1 hP q0 he hc k (Nat.le_of_ble_eq_true hk) (X.2.2.2.2.2.1 _ (List.mem_cons_of_mem _ hl)) (fun _ h9 => h9) hv hdg kk
theorem r_put {C : String} {T : u_T} {N ci index a : Nat} {ws : va_W} (ty0 : Nat → FieldType) (hty : ∀ k, k < N → parseFieldDescriptor (T k).2.2.1 = some (ty0 k)) (hnm : ∀ a, a < N → ∀ b, b < N → a ≠ b → (T a).2.1 ≠ (T b).2.1) (X : CX pr D sk sv tys y cc n rt s m args meth c A) (hin : ∀ w ∈ u_ws C T N, w ∈ WG) (hP : va_P D vwCl ws H) (hD : va_D A ws) (hS : va_S A s.heap H locs) (q0 : Nat) {fs : List Value} (he : ws[q0]? = some (a, .inr (ci, fs))) (hc : vwCl[ci]? = some (C, T, N)) (k : Nat) (hk : Nat.ble (k + 1) N = true) (hl : Cond.fieldLink y.cls index (T k).1 (T k).2.1 (T k).2.2.1 ∈ WG) (hfin : (T k).2.2.2 = false) {v : Value} (hn : narrow (ty0 k) v = v) (hfit : fits (ty0 k) v = true) (hlen : Nat.ble (k + 1) fs.length = true) (hdg : decode cc pc = .ok (.putfield index, 3))
    (ws' : va_W) (hw : ws.set q0 (a, .inr (ci, fs.set k v)) = ws')
    (kk : ∀ (H1 : Heap) (locs1 : List Loc), va_P D vwCl ws' H1 → va_S A s.heap H1 locs1 → W pr l e R s m args below meth c H1 locs1 cells slots Q (F0 m (pc + 3) ls rest)) : W pr l e R s m args below meth c H locs cells slots Q (F0 m pc ls (v :: .ref a :: rest)) := by
  subst hw
  exact va_put (D := D) (ci := ci) (C := C) (T := T) (N := N) (ty := ty0 k) X.1 X.2.1 X.2.2.2.2.2.1 (fun w h => List.mem_cons_of_mem _ (hin w h)) ty0 hty hnm X.2.2.2.2.1 X.2.2.2.2.2.2.2.2.1 hP hD hS q0 he hc k (Nat.le_of_ble_eq_true hk) (X.2.2.2.2.2.1 _ (List.mem_cons_of_mem _ hl)) (fun _ h9 => h9) hfin (hty k (Nat.le_of_ble_eq_true hk)) hn hfit (Nat.le_of_ble_eq_true hlen) hdg (fun H1 locs1 h1 _ h3 => kk H1 locs1 h1 h3)
theorem r_iald {a : Nat} {ws : va_W} (X : CX pr D sk sv tys y cc n rt s m args meth c A) (hP : va_P D vwCl ws H) (q0 t0 : Nat) {cA : ClassId} {n1 : Nat} {f : Nat → Int32} (ha : ws[q0]? = some (a, .inl (cA, n1, .inl f))) (ht : tys[t0]? = some (cA, .int)) {i : Int32} {j : Nat} (hin : vp_in i n1) (hj : i.toNatClampNeg = j) (hdg : decode cc pc = .ok (.iaload, 1))
    (kk : W pr l e R s m args below meth c H locs cells slots Q (F0 m (pc + 1) ls (.int (f j) :: rest))) : W pr l e R s m args below meth c H locs cells slots Q (F0 m pc ls (.int i :: .ref a :: rest)) := by
  subst hj
  exact va_iald X.1 X.2.1 X.2.2.2.2.2.2.2.2.1 hP q0 t0 ha ht hin hdg kk
theorem r_iast {a : Nat} {ws : va_W} (X : CX pr D sk sv tys y cc n rt s m args meth c A) (hP : va_P D vwCl ws H) (hD : va_D A ws) (hS : va_S A s.heap H locs) (q0 t0 : Nat) {cA : ClassId} {n1 : Nat} {f : Nat → Int32} (ha : ws[q0]? = some (a, .inl (cA, n1, .inl f))) (ht : tys[t0]? = some (cA, .int)) {i x : Int32} {j : Nat} (hin : vp_in i n1) (hj : i.toNatClampNeg = j) (hdg : decode cc pc = .ok (.iastore, 1))
    (ws' : va_W) (hw : ws.set q0 (a, .inl (cA, n1, .inl (upd f j x))) = ws')
    (kk : ∀ (H1 : Heap) (locs1 : List Loc), va_P D vwCl ws' H1 → va_S A s.heap H1 locs1 → W pr l e R s m args below meth c H1 locs1 cells slots Q (F0 m (pc + 1) ls rest)) : W pr l e R s m args below meth c H locs cells slots Q (F0 m pc ls (.int x :: .int i :: .ref a :: rest)) := by
  subst hj
  subst hw
  exact va_iast X.1 X.2.1 X.2.2.2.2.2.2.2.2.1 hP hD hS q0 t0 ha ht hin hdg (fun H1 locs1 h1 _ h3 => kk H1 locs1 h1 h3)
/-- the caller's whole world is the callee's -/
theorem call_V1 {y' : MethodName} {cc' : ByteArray} {n' : Nat} {rt' : Option FieldType} {rm' : Room} {b ci index : Nat} {fs As : List Value} {cq : vw_C} {wc wc' : va_W} {v : Option Value} (X : CX pr D sk sv tys y cc n rt s m args meth c A) (hM : CT l D sk sv tys y' cc' n' rt' rm' (.ref b :: As) wc v wc')
    (m1 : Cond.methodLink y.cls index y' ∈ WG) (m2 : Cond.instanceMethod y' ∈ WG) (m3 : Cond.selects y'.cls y' y' ∈ WG) (m4 : Cond.initialized y'.cls ∈ WG) (m5 : Cond.code y' cc' n' rt' ∈ WG)
    (hd : y'.cls ≠ "java/lang/invoke/MethodHandle" ∧ y'.cls ≠ "java/lang/invoke/VarHandle" ∧ (parseMethodDescriptor y'.desc).map (fun d => d.parameters.length) = some As.length) (hR : rm'.frames + 1 ≤ R.frames ∧ 8 + (n' + 11) + rm'.locals ≤ R.locals) (hrc : rm'.cells = 0) (hrs : rm'.slots = 0) (hcs : cells ≤ R.cells ∧ slots ≤ R.slots)
    (hP : va_P D vwCl wc H) (hD : va_D A wc) (hS : va_S A s.heap H locs) (q0 : Nat) (he : wc[q0]? = some (b, .inr (ci, fs))) (hc : vwCl[ci]? = some cq) (hcq : cq.1 = y'.cls) (hsize : ls.size = n) (hrest : (rest.map fun v => v.category).sum ≤ 8) (hdg : decode cc pc = .ok (.invokevirtual index, 3))
    (kk : ∀ (H1 : Heap) (locs1 : List Loc), va_P D vwCl wc' H1 → va_S A s.heap H1 locs1 → W pr l e R s m args below meth c H1 locs1 cells slots Q (F0 m (pc + 3) ls (v.toList ++ rest))) : W pr l e R s m args below meth c H locs cells slots Q (F0 m pc ls (As.reverse ++ .ref b :: rest)) :=
  call_V (x := []) (z := []) X hM m1 m2 m3 m4 m5 hd hR hrc hrs hcs (by rw [List.nil_append, List.append_nil]; exact hP) (by rw [List.nil_append, List.append_nil]; exact hD) hS q0 he hc hcq hsize hrest hdg (fun H1 locs1 h1 h2 => kk H1 locs1 (by rw [List.nil_append, List.append_nil] at h1; exact h1) h2)
theorem call_V1i {y' : MethodName} {cc' : ByteArray} {n' : Nat} {rt' : Option FieldType} {rm' : Room} {b ci index : Nat} {fs As : List Value} {cq : vw_C} {wc wc' : va_W} {r : Int32} (X : CX pr D sk sv tys y cc n rt s m args meth c A) (hM : CT l D sk sv tys y' cc' n' rt' rm' (.ref b :: As) wc (some (.int r)) wc')
    (m1 : Cond.methodLink y.cls index y' ∈ WG) (m2 : Cond.instanceMethod y' ∈ WG) (m3 : Cond.selects y'.cls y' y' ∈ WG) (m4 : Cond.initialized y'.cls ∈ WG) (m5 : Cond.code y' cc' n' rt' ∈ WG)
    (hd : y'.cls ≠ "java/lang/invoke/MethodHandle" ∧ y'.cls ≠ "java/lang/invoke/VarHandle" ∧ (parseMethodDescriptor y'.desc).map (fun d => d.parameters.length) = some As.length) (hR : rm'.frames + 1 ≤ R.frames ∧ 8 + (n' + 11) + rm'.locals ≤ R.locals) (hrc : rm'.cells = 0) (hrs : rm'.slots = 0) (hcs : cells ≤ R.cells ∧ slots ≤ R.slots)
    (hP : va_P D vwCl wc H) (hD : va_D A wc) (hS : va_S A s.heap H locs) (q0 : Nat) (he : wc[q0]? = some (b, .inr (ci, fs))) (hc : vwCl[ci]? = some cq) (hcq : cq.1 = y'.cls) (hsize : ls.size = n) (hrest : (rest.map fun v => v.category).sum ≤ 8) (hdg : decode cc pc = .ok (.invokevirtual index, 3))
    (kk : ∀ (H1 : Heap) (locs1 : List Loc), va_P D vwCl wc' H1 → va_S A s.heap H1 locs1 → W pr l e R s m args below meth c H1 locs1 cells slots Q (F0 m (pc + 3) ls (.int r :: rest))) : W pr l e R s m args below meth c H locs cells slots Q (F0 m pc ls (As.reverse ++ .ref b :: rest)) :=
  call_V1 X hM m1 m2 m3 m4 m5 hd hR hrc hrs hcs hP hD hS q0 he hc hcq hsize hrest hdg kk
theorem call_V1v {y' : MethodName} {cc' : ByteArray} {n' : Nat} {rt' : Option FieldType} {rm' : Room} {b ci index : Nat} {fs As : List Value} {cq : vw_C} {wc wc' : va_W} (X : CX pr D sk sv tys y cc n rt s m args meth c A) (hM : CT l D sk sv tys y' cc' n' rt' rm' (.ref b :: As) wc none wc')
    (m1 : Cond.methodLink y.cls index y' ∈ WG) (m2 : Cond.instanceMethod y' ∈ WG) (m3 : Cond.selects y'.cls y' y' ∈ WG) (m4 : Cond.initialized y'.cls ∈ WG) (m5 : Cond.code y' cc' n' rt' ∈ WG)
    (hd : y'.cls ≠ "java/lang/invoke/MethodHandle" ∧ y'.cls ≠ "java/lang/invoke/VarHandle" ∧ (parseMethodDescriptor y'.desc).map (fun d => d.parameters.length) = some As.length) (hR : rm'.frames + 1 ≤ R.frames ∧ 8 + (n' + 11) + rm'.locals ≤ R.locals) (hrc : rm'.cells = 0) (hrs : rm'.slots = 0) (hcs : cells ≤ R.cells ∧ slots ≤ R.slots)
    (hP : va_P D vwCl wc H) (hD : va_D A wc) (hS : va_S A s.heap H locs) (q0 : Nat) (he : wc[q0]? = some (b, .inr (ci, fs))) (hc : vwCl[ci]? = some cq) (hcq : cq.1 = y'.cls) (hsize : ls.size = n) (hrest : (rest.map fun v => v.category).sum ≤ 8) (hdg : decode cc pc = .ok (.invokevirtual index, 3))
    (kk : ∀ (H1 : Heap) (locs1 : List Loc), va_P D vwCl wc' H1 → va_S A s.heap H1 locs1 → W pr l e R s m args below meth c H1 locs1 cells slots Q (F0 m (pc + 3) ls rest)) : W pr l e R s m args below meth c H locs cells slots Q (F0 m pc ls (As.reverse ++ .ref b :: rest)) :=
  call_V1 X hM m1 m2 m3 m4 m5 hd hR hrc hrs hcs hP hD hS q0 he hc hcq hsize hrest hdg kk
/-- the callee has no world -/
theorem call_S0 {y' : MethodName} {cc' : ByteArray} {n' : Nat} {rt' : Option FieldType} {rm' : Room} {index : Nat} {As : List Value} {w : va_W} {v : Option Value} (X : CX pr D sk sv tys y cc n rt s m args meth c A) (hM : CT l D sk sv tys y' cc' n' rt' rm' As [] v [])
    (m1 : Cond.methodLink y.cls index y' ∈ WG) (m2 : Cond.static y' ∈ WG) (m4 : Cond.initialized y'.cls ∈ WG) (m5 : Cond.code y' cc' n' rt' ∈ WG)
    (hd : y'.cls ≠ "java/lang/invoke/MethodHandle" ∧ y'.cls ≠ "java/lang/invoke/VarHandle" ∧ (parseMethodDescriptor y'.desc).map (fun d => d.parameters.length) = some As.length) (hR : rm'.frames + 1 ≤ R.frames ∧ 8 + (n' + 11) + rm'.locals ≤ R.locals) (hrc : rm'.cells = 0) (hrs : rm'.slots = 0) (hcs : cells ≤ R.cells ∧ slots ≤ R.slots)
    (hP : va_P D vwCl w H) (hD : va_D A w) (hS : va_S A s.heap H locs) (hsize : ls.size = n) (hrest : (rest.map fun v => v.category).sum ≤ 8) (hdg : decode cc pc = .ok (.invokestatic index, 3))
    (kk : ∀ (H1 : Heap) (locs1 : List Loc), va_P D vwCl w H1 → va_S A s.heap H1 locs1 → W pr l e R s m args below meth c H1 locs1 cells slots Q (F0 m (pc + 3) ls (v.toList ++ rest))) : W pr l e R s m args below meth c H locs cells slots Q (F0 m pc ls (As.reverse ++ rest)) :=
  call_S (x := []) (wc := []) (wc' := []) (z := w) X hM m1 m2 m4 m5 hd hR hrc hrs hcs hP hD hS hsize hrest hdg kk
theorem call_S0i {y' : MethodName} {cc' : ByteArray} {n' : Nat} {rt' : Option FieldType} {rm' : Room} {index : Nat} {As : List Value} {w : va_W} {r : Int32} (X : CX pr D sk sv tys y cc n rt s m args meth c A) (hM : CT l D sk sv tys y' cc' n' rt' rm' As [] (some (.int r)) [])
    (m1 : Cond.methodLink y.cls index y' ∈ WG) (m2 : Cond.static y' ∈ WG) (m4 : Cond.initialized y'.cls ∈ WG) (m5 : Cond.code y' cc' n' rt' ∈ WG)
    (hd : y'.cls ≠ "java/lang/invoke/MethodHandle" ∧ y'.cls ≠ "java/lang/invoke/VarHandle" ∧ (parseMethodDescriptor y'.desc).map (fun d => d.parameters.length) = some As.length) (hR : rm'.frames + 1 ≤ R.frames ∧ 8 + (n' + 11) + rm'.locals ≤ R.locals) (hrc : rm'.cells = 0) (hrs : rm'.slots = 0) (hcs : cells ≤ R.cells ∧ slots ≤ R.slots)
    (hP : va_P D vwCl w H) (hD : va_D A w) (hS : va_S A s.heap H locs) (hsize : ls.size = n) (hrest : (rest.map fun v => v.category).sum ≤ 8) (hdg : decode cc pc = .ok (.invokestatic index, 3))
    (kk : ∀ (H1 : Heap) (locs1 : List Loc), va_P D vwCl w H1 → va_S A s.heap H1 locs1 → W pr l e R s m args below meth c H1 locs1 cells slots Q (F0 m (pc + 3) ls (.int r :: rest))) : W pr l e R s m args below meth c H locs cells slots Q (F0 m pc ls (As.reverse ++ rest)) :=
  call_S0 X hM m1 m2 m4 m5 hd hR hrc hrs hcs hP hD hS hsize hrest hdg kk
theorem tp_i {x x' : Int32} (h : x = x') (k : W pr l e R s m args below meth c H locs cells slots Q (F0 m pc ls (.int x :: rest))) : W pr l e R s m args below meth c H locs cells slots Q (F0 m pc ls (.int x' :: rest)) := by
  subst h
  exact k
theorem r_zald {a : Nat} {ws : va_W} (X : CX pr D sk sv tys y cc n rt s m args meth c A) (hP : va_P D vwCl ws H) (q0 t0 : Nat) {cA : ClassId} {n1 : Nat} {f : Nat → Int32} (ha : ws[q0]? = some (a, .inl (cA, n1, .inl f))) (ht : tys[t0]? = some (cA, .boolean)) {i : Int32} {j : Nat} (hin : vp_in i n1) (hj : i.toNatClampNeg = j) (hdg : decode cc pc = .ok (.baload, 1))
    (kk : W pr l e R s m args below meth c H locs cells slots Q (F0 m (pc + 1) ls (.int (f j) :: rest))) : W pr l e R s m args below meth c H locs cells slots Q (F0 m pc ls (.int i :: .ref a :: rest)) := by
  subst hj
  exact va_zald X.1 X.2.1 X.2.2.2.2.2.2.2.2.1 hP q0 t0 ha ht hin hdg kk
theorem r_zast {a : Nat} {ws : va_W} (X : CX pr D sk sv tys y cc n rt s m args meth c A) (hP : va_P D vwCl ws H) (hD : va_D A ws) (hS : va_S A s.heap H locs) (q0 t0 : Nat) {cA : ClassId} {n1 : Nat} {f : Nat → Int32} (ha : ws[q0]? = some (a, .inl (cA, n1, .inl f))) (ht : tys[t0]? = some (cA, .boolean)) {i x : Int32} {j : Nat} (hz : x = 0 ∨ x = 1) (hin : vp_in i n1) (hj : i.toNatClampNeg = j) (hdg : decode cc pc = .ok (.bastore, 1))
    (ws' : va_W) (hw : ws.set q0 (a, .inl (cA, n1, .inl (upd f j x))) = ws')
    (kk : ∀ (H1 : Heap) (locs1 : List Loc), va_P D vwCl ws' H1 → va_S A s.heap H1 locs1 → W pr l e R s m args below meth c H1 locs1 cells slots Q (F0 m (pc + 1) ls rest)) : W pr l e R s m args below meth c H locs cells slots Q (F0 m pc ls (.int x :: .int i :: .ref a :: rest)) := by
  subst hj
  subst hw
  have e : vp_nar .boolean x = x := by rcases hz with rfl | rfl <;> decide
  refine va_zast X.1 X.2.1 X.2.2.2.2.2.2.2.2.1 hP hD hS q0 t0 ha ht hin hdg (fun H1 locs1 h1 _ h3 => ?_)
  rw [e] at h1
  exact kk H1 locs1 h1 h3
theorem r_alen {a : Nat} {ws : va_W} (X : CX pr D sk sv tys y cc n rt s m args meth c A) (hP : va_P D vwCl ws H) (q0 t0 : Nat) {cA : ClassId} {u : vp_A} (ha : ws[q0]? = some (a, .inl (cA, u))) {ty : FieldType} (ht : tys[t0]? = some (cA, ty)) {v : Int32} (hv : Int32.ofNat u.1 = v) (hdg : decode cc pc = .ok (.arraylength, 1))
    (kk : W pr l e R s m args below meth c H locs cells slots Q (F0 m (pc + 1) ls (.int v :: rest))) : W pr l e R s m args below meth c H locs cells slots Q (F0 m pc ls (.ref a :: rest)) :=
  va_alen X.1 X.2.1 X.2.2.2.2.2.2.2.2.1 hP q0 t0 ha ht hv hdg kk
/-- a call whose world is a part of the caller's -/
theorem call_Vs {y' : MethodName} {cc' : ByteArray} {n' : Nat} {rt' : Option FieldType} {rm' : Room} {b ci index : Nat} {fs As : List Value} {cq : vw_C} {ws ws' wc wc' : va_W} {v : Option Value} (x z : va_W) (X : CX pr D sk sv tys y cc n rt s m args meth c A) (hM : CT l D sk sv tys y' cc' n' rt' rm' (.ref b :: As) wc v wc')
    (m1 : Cond.methodLink y.cls index y' ∈ WG) (m2 : Cond.instanceMethod y' ∈ WG) (m3 : Cond.selects y'.cls y' y' ∈ WG) (m4 : Cond.initialized y'.cls ∈ WG) (m5 : Cond.code y' cc' n' rt' ∈ WG)
    (hd : y'.cls ≠ "java/lang/invoke/MethodHandle" ∧ y'.cls ≠ "java/lang/invoke/VarHandle" ∧ (parseMethodDescriptor y'.desc).map (fun d => d.parameters.length) = some As.length) (hR : rm'.frames + 1 ≤ R.frames ∧ 8 + (n' + 11) + rm'.locals ≤ R.locals) (hrc : rm'.cells = 0) (hrs : rm'.slots = 0) (hcs : cells ≤ R.cells ∧ slots ≤ R.slots)
    (hw : ws = x ++ (wc ++ z)) (hw' : x ++ (wc' ++ z) = ws') (hP : va_P D vwCl ws H) (hD : va_D A ws) (hS : va_S A s.heap H locs) (q0 : Nat) (he : wc[q0]? = some (b, .inr (ci, fs))) (hc : vwCl[ci]? = some cq) (hcq : cq.1 = y'.cls) (hsize : ls.size = n) (hrest : (rest.map fun v => v.category).sum ≤ 8) (hdg : decode cc pc = .ok (.invokevirtual index, 3))
    (kk : ∀ (H1 : Heap) (locs1 : List Loc), va_P D vwCl ws' H1 → va_S A s.heap H1 locs1 → W pr l e R s m args below meth c H1 locs1 cells slots Q (F0 m (pc + 3) ls (v.toList ++ rest))) : W pr l e R s m args below meth c H locs cells slots Q (F0 m pc ls (As.reverse ++ .ref b :: rest)) := by
  subst hw
  subst hw'
  exact call_V (x := x) (z := z) X hM m1 m2 m3 m4 m5 hd hR hrc hrs hcs hP hD hS q0 he hc hcq hsize hrest hdg kk
theorem call_Vsi {y' : MethodName} {cc' : ByteArray} {n' : Nat} {rt' : Option FieldType} {rm' : Room} {b ci index : Nat} {fs As : List Value} {cq : vw_C} {ws ws' wc wc' : va_W} {r : Int32} (x z : va_W) (X : CX pr D sk sv tys y cc n rt s m args meth c A) (hM : CT l D sk sv tys y' cc' n' rt' rm' (.ref b :: As) wc (some (.int r)) wc')
    (m1 : Cond.methodLink y.cls index y' ∈ WG) (m2 : Cond.instanceMethod y' ∈ WG) (m3 : Cond.selects y'.cls y' y' ∈ WG) (m4 : Cond.initialized y'.cls ∈ WG) (m5 : Cond.code y' cc' n' rt' ∈ WG)
    (hd : y'.cls ≠ "java/lang/invoke/MethodHandle" ∧ y'.cls ≠ "java/lang/invoke/VarHandle" ∧ (parseMethodDescriptor y'.desc).map (fun d => d.parameters.length) = some As.length) (hR : rm'.frames + 1 ≤ R.frames ∧ 8 + (n' + 11) + rm'.locals ≤ R.locals) (hrc : rm'.cells = 0) (hrs : rm'.slots = 0) (hcs : cells ≤ R.cells ∧ slots ≤ R.slots)
    (hw : ws = x ++ (wc ++ z)) (hw' : x ++ (wc' ++ z) = ws') (hP : va_P D vwCl ws H) (hD : va_D A ws) (hS : va_S A s.heap H locs) (q0 : Nat) (he : wc[q0]? = some (b, .inr (ci, fs))) (hc : vwCl[ci]? = some cq) (hcq : cq.1 = y'.cls) (hsize : ls.size = n) (hrest : (rest.map fun v => v.category).sum ≤ 8) (hdg : decode cc pc = .ok (.invokevirtual index, 3))
    (kk : ∀ (H1 : Heap) (locs1 : List Loc), va_P D vwCl ws' H1 → va_S A s.heap H1 locs1 → W pr l e R s m args below meth c H1 locs1 cells slots Q (F0 m (pc + 3) ls (.int r :: rest))) : W pr l e R s m args below meth c H locs cells slots Q (F0 m pc ls (As.reverse ++ .ref b :: rest)) :=
  call_Vs x z X hM m1 m2 m3 m4 m5 hd hR hrc hrs hcs hw hw' hP hD hS q0 he hc hcq hsize hrest hdg kk
theorem call_Vsv {y' : MethodName} {cc' : ByteArray} {n' : Nat} {rt' : Option FieldType} {rm' : Room} {b ci index : Nat} {fs As : List Value} {cq : vw_C} {ws ws' wc wc' : va_W} (x z : va_W) (X : CX pr D sk sv tys y cc n rt s m args meth c A) (hM : CT l D sk sv tys y' cc' n' rt' rm' (.ref b :: As) wc none wc')
    (m1 : Cond.methodLink y.cls index y' ∈ WG) (m2 : Cond.instanceMethod y' ∈ WG) (m3 : Cond.selects y'.cls y' y' ∈ WG) (m4 : Cond.initialized y'.cls ∈ WG) (m5 : Cond.code y' cc' n' rt' ∈ WG)
    (hd : y'.cls ≠ "java/lang/invoke/MethodHandle" ∧ y'.cls ≠ "java/lang/invoke/VarHandle" ∧ (parseMethodDescriptor y'.desc).map (fun d => d.parameters.length) = some As.length) (hR : rm'.frames + 1 ≤ R.frames ∧ 8 + (n' + 11) + rm'.locals ≤ R.locals) (hrc : rm'.cells = 0) (hrs : rm'.slots = 0) (hcs : cells ≤ R.cells ∧ slots ≤ R.slots)
    (hw : ws = x ++ (wc ++ z)) (hw' : x ++ (wc' ++ z) = ws') (hP : va_P D vwCl ws H) (hD : va_D A ws) (hS : va_S A s.heap H locs) (q0 : Nat) (he : wc[q0]? = some (b, .inr (ci, fs))) (hc : vwCl[ci]? = some cq) (hcq : cq.1 = y'.cls) (hsize : ls.size = n) (hrest : (rest.map fun v => v.category).sum ≤ 8) (hdg : decode cc pc = .ok (.invokevirtual index, 3))
    (kk : ∀ (H1 : Heap) (locs1 : List Loc), va_P D vwCl ws' H1 → va_S A s.heap H1 locs1 → W pr l e R s m args below meth c H1 locs1 cells slots Q (F0 m (pc + 3) ls rest)) : W pr l e R s m args below meth c H locs cells slots Q (F0 m pc ls (As.reverse ++ .ref b :: rest)) :=
  call_Vs x z X hM m1 m2 m3 m4 m5 hd hR hrc hrs hcs hw hw' hP hD hS q0 he hc hcq hsize hrest hdg kk
/-- a static call that has one cell of the caller's world -/
theorem call_cell {y' : MethodName} {cc' : ByteArray} {n' : Nat} {rt' : Option FieldType} {rm' : Room} {index : Nat} {As : List Value} {ws ws' : va_W} {cl cl' : Nat × va_E} (X : CX pr D sk sv tys y cc n rt s m args meth c A) (hM : CT l D sk sv tys y' cc' n' rt' rm' As [cl] none [cl'])
    (m1 : Cond.methodLink y.cls index y' ∈ WG) (m2 : Cond.static y' ∈ WG) (m4 : Cond.initialized y'.cls ∈ WG) (m5 : Cond.code y' cc' n' rt' ∈ WG)
    (hd : y'.cls ≠ "java/lang/invoke/MethodHandle" ∧ y'.cls ≠ "java/lang/invoke/VarHandle" ∧ (parseMethodDescriptor y'.desc).map (fun d => d.parameters.length) = some As.length) (hR : rm'.frames + 1 ≤ R.frames ∧ 8 + (n' + 11) + rm'.locals ≤ R.locals) (hrc : rm'.cells = 0) (hrs : rm'.slots = 0) (hcs : cells ≤ R.cells ∧ slots ≤ R.slots)
    (hP : va_P D vwCl ws H) (hD : va_D A ws) (hS : va_S A s.heap H locs) (q0 : Nat) (he : ws[q0]? = some cl) (hw' : ws.set q0 cl' = ws') (hsize : ls.size = n) (hrest : (rest.map fun v => v.category).sum ≤ 8) (hdg : decode cc pc = .ok (.invokestatic index, 3))
    (kk : ∀ (H1 : Heap) (locs1 : List Loc), va_P D vwCl ws' H1 → va_S A s.heap H1 locs1 → W pr l e R s m args below meth c H1 locs1 cells slots Q (F0 m (pc + 3) ls rest)) : W pr l e R s m args below meth c H locs cells slots Q (F0 m pc ls (As.reverse ++ rest)) := by
  subst hw'
  have hlt := (List.getElem?_eq_some_iff.mp he).1
  have e1 : ws = ws.take q0 ++ ([cl] ++ ws.drop (q0 + 1)) := by
    have h1 : ws[q0] = cl := (List.getElem?_eq_some_iff.mp he).2
    rw [← h1, List.singleton_append, List.getElem_cons_drop, List.take_append_drop]
  have e2 : ws.set q0 cl' = ws.take q0 ++ ([cl'] ++ ws.drop (q0 + 1)) := by
    rw [List.set_eq_take_append_cons_drop, if_pos hlt]; rfl
  rw [e1] at hP hD
  exact call_S (x := ws.take q0) (z := ws.drop (q0 + 1)) X hM m1 m2 m4 m5 hd hR hrc hrs hcs hP hD hS hsize hrest hdg (fun H1 locs1 h1 h2 => kk H1 locs1 (by rw [e2]; exact h1) h2)
theorem r_max {index : Nat} {a b : Int32} (X : CX pr D sk sv tys y cc n rt s m args meth c A) (m1 : Cond.methodLink y.cls index Lib.Math.max.name ∈ WG) (m2 : Cond.static Lib.Math.max.name ∈ WG) (m4 : Cond.initialized "java/lang/Math" ∈ WG) (m5 : Cond.code Lib.Math.max.name Lib.Math.max.code 2 (some .int) ∈ WG) (hsize : ls.size = n) (h1 : 1 ≤ R.frames) (h2 : (rest.map fun v => v.category).sum + 13 ≤ R.locals) (hcs : cells ≤ R.cells ∧ slots ≤ R.slots) (hdg : decode cc pc = .ok (.invokestatic index, 3))
    (kk : W pr l e R s m args below meth c H locs cells slots Q (F0 m (pc + 3) ls (.int (if a < b then b else a) :: rest))) : W pr l e R s m args below meth c H locs cells slots Q (F0 m pc ls (.int b :: .int a :: rest)) :=
  have ok : ∀ w ∈ WG, w.before args s = true := fun w h => X.2.2.2.2.2.1 w (List.mem_cons_of_mem _ h)
  va_mmax X.1 X.2.1 (X.2.2.2.1.trans hsize.symm) X.2.2.2.2.1 (ok _ m1) (ok _ m2) (ok _ m4) (ok _ m5) h1 h2 hcs.1 hcs.2 hdg kk
theorem r_min {index : Nat} {a b : Int32} (X : CX pr D sk sv tys y cc n rt s m args meth c A) (m1 : Cond.methodLink y.cls index Lib.Math.min.name ∈ WG) (m2 : Cond.static Lib.Math.min.name ∈ WG) (m4 : Cond.initialized "java/lang/Math" ∈ WG) (m5 : Cond.code Lib.Math.min.name Lib.Math.min.code 2 (some .int) ∈ WG) (hsize : ls.size = n) (h1 : 1 ≤ R.frames) (h2 : (rest.map fun v => v.category).sum + 13 ≤ R.locals) (hcs : cells ≤ R.cells ∧ slots ≤ R.slots) (hdg : decode cc pc = .ok (.invokestatic index, 3))
    (kk : W pr l e R s m args below meth c H locs cells slots Q (F0 m (pc + 3) ls (.int (if b < a then b else a) :: rest))) : W pr l e R s m args below meth c H locs cells slots Q (F0 m pc ls (.int b :: .int a :: rest)) :=
  have ok : ∀ w ∈ WG, w.before args s = true := fun w h => X.2.2.2.2.2.1 w (List.mem_cons_of_mem _ h)
  va_mmin X.1 X.2.1 (X.2.2.2.1.trans hsize.symm) X.2.2.2.2.1 (ok _ m1) (ok _ m2) (ok _ m4) (ok _ m5) h1 h2 hcs.1 hcs.2 hdg kk
/-- a whole row copied into another one -/
theorem r_copy {index a a0 : Nat} {ws : va_W} {N : Nat} {Ni : Int32} {c0 c1 : ClassId} {f f1 : Nat → Int32} (X : CX pr D sk sv tys y cc n rt s m args meth c A) (m1 : Cond.methodLink y.cls index arraycopyName ∈ WG) (m2 : Cond.native arraycopyName ∈ WG) (m3 : Cond.static arraycopyName ∈ WG) (m4 : Cond.initialized "java/lang/System" ∈ WG) (hsize : ls.size = n) (hN : ¬ Ni < 0 ∧ Ni.toNatClampNeg = N)
    (hP : va_P D vwCl ws H) (hD : va_D A ws) (hS : va_S A s.heap H locs) (q0 q1 : Nat) (ha0 : ws[q0]? = some (a0, .inl (c0, N, .inl f))) (ha1 : ws[q1]? = some (a, .inl (c1, N, .inl f1))) (ht0 : tys[0]? = some (c0, .int)) (ht1 : tys[0]? = some (c1, .int))
    (h1 : 1 ≤ R.frames) (h2 : (rest.map fun v => v.category).sum + (nativeFrameWords "java/lang/System" "arraycopy" 5 + 11) ≤ R.locals) (hdg : decode cc pc = .ok (.invokestatic index, 3)) (ws' : va_W) (hw : ws.set q1 (a, .inl (c1, N, .inl (va_cpy f f1 0 0 N))) = ws')
    (kk : ∀ (H1 : Heap) (locs1 : List Loc), va_P D vwCl ws' H1 → va_S A s.heap H1 locs1 → W pr l e R s m args below meth c H1 locs1 cells slots Q (F0 m (pc + 3) ls rest)) : W pr l e R s m args below meth c H locs cells slots Q (F0 m pc ls (.int Ni :: .int 0 :: .ref a :: .int 0 :: .ref a0 :: rest)) := by
  subst hw
  have ok : ∀ w ∈ WG, w.before args s = true := fun w h => X.2.2.2.2.2.1 w (List.mem_cons_of_mem _ h)
  have z0 : (0 : Int32).toNatClampNeg = 0 := by decide
  refine va_copyi (sp := 0) (dp := 0) (n := Ni) X.1 X.2.1 (X.2.2.2.1.trans hsize.symm) X.2.2.2.2.1 (ok _ m1) (ok _ m2) (ok _ m3) (ok _ m4) X.2.2.2.2.2.2.2.2.1 hP hD hS q0 q1 0 0 ha0 ha1 ht0 ht1 rfl (by decide) (by decide) hN.1 (by rw [hN.2, z0, Nat.zero_add]; exact Nat.le_refl _) (by rw [hN.2, z0, Nat.zero_add]; exact Nat.le_refl _) (fun _ _ => rfl) h1 h2 hdg (fun H1 locs1 p1 _ p3 => ?_)
  rw [hN.2, z0] at p1
  exact kk H1 locs1 p1 p3
theorem ret_i0 {v r : Int32} {w : va_W} (hv : v = r) (X : CX pr D sk sv tys y cc n (some .int) s m args meth c A) (hQ : MQ below (QT D A (some (.int r)) w) args s 0 0 A = Q) (hP : va_P D vwCl w H) (hS : va_S A s.heap H locs) (hd : decode cc pc = .ok (.ireturn, 1)) :
    W pr l e R s m args below meth c H locs 0 0 Q (F0 m pc ls [.int v]) := ret_i (fun _ => w) (x := ()) (res := (r, ())) (by rw [hv]) X hQ hP hS hd
theorem ret_z0 {v r : Int32} {w : va_W} (hz : v = 0 ∨ v = 1) (hv : v = r) (X : CX pr D sk sv tys y cc n (some .boolean) s m args meth c A) (hQ : MQ below (QT D A (some (.int r)) w) args s 0 0 A = Q) (hP : va_P D vwCl w H) (hS : va_S A s.heap H locs) (hd : decode cc pc = .ok (.ireturn, 1)) :
    W pr l e R s m args below meth c H locs 0 0 Q (F0 m pc ls [.int v]) := ret_z (fun _ => w) (x := ()) (res := (r, ())) hz (by rw [hv]) X hQ hP hS hd
theorem ret_v0 {w : va_W} (X : CX pr D sk sv tys y cc n none s m args meth c A) (hQ : MQ below (QT D A none w) args s 0 0 A = Q) (hP : va_P D vwCl w H) (hS : va_S A s.heap H locs) (hd : decode cc pc = .ok (.return_, 1)) :
    W pr l e R s m args below meth c H locs 0 0 Q (F0 m pc ls []) := ret_v (fun _ => w) (x := ()) (res := ()) rfl X hQ hP hS hd
end RET
theorem nq (C : String) (q : Option Nat) : narrow (.object C) (va_rf q) = va_rf q ∧ fits (.object C) (va_rf q) = true := by
  cases q with
  | none => exact ⟨rfl, rfl⟩
  | some a => exact ⟨rfl, rfl⟩
abbrev TY (tc : Nat → ClassId) : List (ClassId × FieldType) := [(tc 0, .int), (tc 1, .boolean), (tc 2, .long), (tc 3, .object "PencilUp$State")]
