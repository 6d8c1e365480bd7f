/-! PURE SIDE: tools -/
theorem bd_s {α β : Type} (a : α) (f : α → Option β) : bd (some a) f = f a := rfl
theorem bd2_s {α β γ : Type} (a : α) (b : β) (f : α → β → Option γ) : bd2 (some (a, b)) f = f a b := rfl
theorem bd3_s {α β γ δ : Type} (a : α) (b : β) (c : γ) (f : α → β → γ → Option δ) : bd3 (some (a, b, c)) f = f a b c := rfl
theorem bd4_s {α β γ δ ε : Type} (a : α) (b : β) (c : γ) (d : δ) (f : α → β → γ → δ → Option ε) : bd4 (some (a, b, c, d)) f = f a b c d := rfl
theorem bd5_s {α β γ δ ε ω : Type} (a : α) (b : β) (c : γ) (d : δ) (e : ε) (f : α → β → γ → δ → ε → Option ω) : bd5 (some (a, b, c, d, e)) f = f a b c d e := rfl
theorem bd6_s {α β γ δ ε ζ ω : Type} (a : α) (b : β) (c : γ) (d : δ) (e : ε) (z : ζ) (f : α → β → γ → δ → ε → ζ → Option ω) : bd6 (some (a, b, c, d, e, z)) f = f a b c d e z := rfl
theorem bd7_s {α β γ δ ε ζ η ω : Type} (a : α) (b : β) (c : γ) (d : δ) (e : ε) (z : ζ) (y : η) (f : α → β → γ → δ → ε → ζ → η → Option ω) : bd7 (some (a, b, c, d, e, z, y)) f = f a b c d e z y := rfl
theorem bd8_s {α β γ δ ε ζ η θ ω : Type} (a : α) (b : β) (c : γ) (d : δ) (e : ε) (z : ζ) (y : η) (x : θ) (f : α → β → γ → δ → ε → ζ → η → θ → Option ω) : bd8 (some (a, b, c, d, e, z, y, x)) f = f a b c d e z y x := rfl
theorem lr_l {ρ τ β : Type} (a : ρ) (j : ρ → β) (f : τ → Option β) : lr (some (.inl a)) j f = some (j a) := rfl
theorem lr_r {ρ τ β : Type} (b : τ) (j : ρ → β) (f : τ → Option β) : lr (some (.inr b)) j f = f b := rfl
theorem nm_s {α β : Type} (e : α) (f : α → β) : nm e f = f e := rfl
theorem jn_s {α β : Type} (J : α) (k : α → β) : jn J k = k J := rfl
theorem gdi_n {α : Type} {c N : Nat} {x : Option α} (h : c < N) (hN : N < 2 ^ 31) : gdi (nI c) N x = x := if_neg (nI_in h hN)
theorem gdb_0 {α : Type} (x : Option α) : gdb 0 x = x := rfl
theorem gdb_1 {α : Type} (x : Option α) : gdb 1 x = x := rfl
theorem gdb_n0 {α : Type} (x : Option α) : gdb (nI 0) x = x := rfl
theorem gdb_n1 {α : Type} (x : Option α) : gdb (nI 1) x = x := rfl
theorem gdz_n {α : Type} {c : Nat} {x : Option α} (h : 0 < c) (hN : c < 2 ^ 31) : gdz (nI c) x = x := if_neg (nI_ne0 h hN)
theorem pu_row (g : Pic) (k i : Nat) (v : Int32) (k' : Nat) : pu g k i v k' = if k' = k then upd (g k) i v else g k' := by
  unfold pu
  by_cases h : k' = k
  · subst h; rw [if_pos rfl, Nat.beq_refl]; rfl
  · rw [if_neg h]
    have : Nat.beq k' k = false := by
      cases hb : Nat.beq k' k with
      | false => rfl
      | true => exact absurd (Nat.eq_of_beq_eq_true hb) h
    rw [this]; rfl
theorem upd_ap (f : Nat → Int32) (k : Nat) (x : Int32) (j : Nat) : upd f k x j = if j = k then x else f j := rfl
theorem nI_mul (a b : Nat) : nI a * nI b = nI (a * b) := (Int32.ofNat_mul a b).symm
theorem nI_sub {a b : Nat} (h : b ≤ a) : nI a - nI b = nI (a - b) := (Int32.ofNat_sub a b h).symm
theorem i10 : ((1 : Int32) = 0) = False := by decide
theorem i01 : ((0 : Int32) = 1) = False := by decide
theorem im0 : ((-1 : Int32) = 0) = False := by decide
theorem im1 : ((-1 : Int32) = 1) = False := by decide
theorem i0m : ((0 : Int32) = -1) = False := by decide
theorem i1m : ((1 : Int32) = -1) = False := by decide
theorem l10 : ((1 : Int32) ≤ 0) = False := by decide
theorem l00 : ((0 : Int32) ≤ 0) = True := by decide
theorem l01 : ((0 : Int32) ≤ 1) = True := by decide
theorem t10 : ((0 : Int32) < 1) = True := by decide
theorem t00 : ((0 : Int32) < 0) = False := by decide
theorem fu_big : 999999 < fu := Nat.le_of_ble_eq_true rfl
theorem li_0 : (0 : Int32) = nI 0 := rfl
theorem li_1 : (1 : Int32) = nI 1 := rfl
theorem li_2 : (2 : Int32) = nI 2 := rfl
theorem li_3 : (3 : Int32) = nI 3 := rfl
theorem li_4 : (4 : Int32) = nI 4 := rfl
theorem li_5 : (5 : Int32) = nI 5 := rfl
theorem li_6 : (6 : Int32) = nI 6 := rfl
theorem li_7 : (7 : Int32) = nI 7 := rfl
theorem li_8 : (8 : Int32) = nI 8 := rfl
theorem li_9 : (9 : Int32) = nI 9 := rfl
theorem li_10 : (10 : Int32) = nI 10 := rfl
theorem li_11 : (11 : Int32) = nI 11 := rfl
theorem li_12 : (12 : Int32) = nI 12 := rfl
theorem li_13 : (13 : Int32) = nI 13 := rfl
theorem li_14 : (14 : Int32) = nI 14 := rfl
theorem li_15 : (15 : Int32) = nI 15 := rfl
theorem li_16 : (16 : Int32) = nI 16 := rfl
theorem li_20 : (20 : Int32) = nI 20 := rfl
theorem li_24 : (24 : Int32) = nI 24 := rfl
theorem li_31 : (31 : Int32) = nI 31 := rfl
theorem li_32 : (32 : Int32) = nI 32 := rfl
theorem li_40 : (40 : Int32) = nI 40 := rfl
theorem li_41 : (41 : Int32) = nI 41 := rfl
theorem li_43 : (43 : Int32) = nI 43 := rfl
theorem li_48 : (48 : Int32) = nI 48 := rfl
theorem li_57 : (57 : Int32) = nI 57 := rfl
theorem li_59 : (59 : Int32) = nI 59 := rfl
theorem li_60 : (60 : Int32) = nI 60 := rfl
theorem li_62 : (62 : Int32) = nI 62 := rfl
theorem li_63 : (63 : Int32) = nI 63 := rfl
theorem li_76 : (76 : Int32) = nI 76 := rfl
theorem li_96 : (96 : Int32) = nI 96 := rfl
theorem li_97 : (97 : Int32) = nI 97 := rfl
theorem li_99 : (99 : Int32) = nI 99 := rfl
theorem li_100 : (100 : Int32) = nI 100 := rfl
theorem li_104 : (104 : Int32) = nI 104 := rfl
theorem li_116 : (116 : Int32) = nI 116 := rfl
theorem li_122 : (122 : Int32) = nI 122 := rfl
theorem li_128 : (128 : Int32) = nI 128 := rfl
theorem li_129 : (129 : Int32) = nI 129 := rfl
theorem li_216 : (216 : Int32) = nI 216 := rfl
theorem li_217 : (217 : Int32) = nI 217 := rfl
theorem li_218 : (218 : Int32) = nI 218 := rfl
theorem li_219 : (219 : Int32) = nI 219 := rfl
theorem li_239 : (239 : Int32) = nI 239 := rfl
theorem li_240 : (240 : Int32) = nI 240 := rfl
theorem li_255 : (255 : Int32) = nI 255 := rfl
theorem li_256 : (256 : Int32) = nI 256 := rfl
theorem li_257 : (257 : Int32) = nI 257 := rfl
theorem li_400 : (400 : Int32) = nI 400 := rfl
theorem li_456 : (456 : Int32) = nI 456 := rfl
theorem li_856 : (856 : Int32) = nI 856 := rfl
theorem li_999 : (999 : Int32) = nI 999 := rfl
theorem li_1000 : (1000 : Int32) = nI 1000 := rfl
theorem li_1001 : (1001 : Int32) = nI 1001 := rfl
theorem li_1002 : (1002 : Int32) = nI 1002 := rfl
theorem li_1003 : (1003 : Int32) = nI 1003 := rfl
theorem li_1004 : (1004 : Int32) = nI 1004 := rfl
theorem li_1005 : (1005 : Int32) = nI 1005 := rfl
theorem li_1006 : (1006 : Int32) = nI 1006 := rfl
theorem li_1007 : (1007 : Int32) = nI 1007 := rfl
theorem li_1008 : (1008 : Int32) = nI 1008 := rfl
theorem li_1161 : (1161 : Int32) = nI 1161 := rfl
theorem li_2000 : (2000 : Int32) = nI 2000 := rfl
theorem li_2001 : (2001 : Int32) = nI 2001 := rfl
theorem li_2002 : (2002 : Int32) = nI 2002 := rfl
theorem li_2003 : (2003 : Int32) = nI 2003 := rfl
theorem li_2004 : (2004 : Int32) = nI 2004 := rfl
theorem li_2005 : (2005 : Int32) = nI 2005 := rfl
theorem li_5016 : (5016 : Int32) = nI 5016 := rfl
theorem li_5472 : (5472 : Int32) = nI 5472 := rfl
theorem li_9999 : (9999 : Int32) = nI 9999 := rfl
theorem li_10000 : (10000 : Int32) = nI 10000 := rfl
theorem li_32767 : (32767 : Int32) = nI 32767 := rfl
theorem li_1000000 : (1000000 : Int32) = nI 1000000 := rfl
theorem li_2000000000 : (2000000000 : Int32) = nI 2000000000 := rfl
/-! loops -/
def itr {α : Type} (f : Nat → α → α) (a : α) : Nat → α
  | 0 => a
  | k + 1 => f k (itr f a k)
theorem itr_s {α : Type} (f : Nat → α → α) (a : α) (k : Nat) : itr f a (k + 1) = f k (itr f a k) := rfl
theorem itr_z {α : Type} (f : Nat → α → α) (a : α) : itr f a 0 = a := rfl
theorem itr_cong {α : Type} {f g : Nat → α → α} {a : α} {L : Nat} (h : ∀ k, k < L → ∀ x, f k x = g k x) : itr f a L = itr g a L := by
  induction L with
  | zero => rfl
  | succ n ih => rw [itr_s, itr_s, ih (fun k hk x => h k (Nat.lt_succ_of_lt hk) x), h n (Nat.lt_succ_self n)]
theorem lp_inv {α β : Type} {F : (α → Option β) → α → Option β} (J : Nat → α → Prop) (L : Nat) (P : β → Prop)
    (hs : ∀ k, k < L → ∀ a, J k a → (∃ a', J (k + 1) a' ∧ ∀ r, F r a = r a') ∨ (∃ c, P c ∧ ∀ r, F r a = some c)) (he : ∀ a, J L a → ∃ c, P c ∧ ∀ r, F r a = some c) {N : Nat} (hN : L < N) {a : α} (h0 : J 0 a) : ∃ c, lp F N a = some c ∧ P c := by
  have A : ∀ j k, j + k = L → ∀ N, j < N → ∀ a, J k a → ∃ c, lp F N a = some c ∧ P c := by
    intro j
    induction j with
    | zero =>
      intro k hk N hN a hJ
      obtain ⟨n, rfl⟩ : ∃ n, N = n + 1 := ⟨N - 1, by omega⟩
      have : k = L := by omega
      subst this
      obtain ⟨c, h1, h2⟩ := he a hJ
      exact ⟨c, h2 _, h1⟩
    | succ j ih =>
      intro k hk N hN a hJ
      obtain ⟨n, rfl⟩ : ∃ n, N = n + 1 := ⟨N - 1, by omega⟩
      rcases hs k (by omega) a hJ with ⟨a', h1, h2⟩ | ⟨c, h1, h2⟩
      · obtain ⟨c, q1, q2⟩ := ih (k + 1) (by omega) n (by omega) a' h1
        exact ⟨c, (h2 (lp F n)).trans q1, q2⟩
      · exact ⟨c, h2 _, h1⟩
  exact A L 0 (by omega) N hN a h0
theorem lp_seq {α β : Type} {F : (α → Option β) → α → Option β} (st : Nat → α) (L : Nat) (res : β) (hs : ∀ k, k < L → ∀ r, F r (st k) = r (st (k + 1))) (he : ∀ r, F r (st L) = some res) {N : Nat} (hN : L < N) {a : α} (h0 : st 0 = a) : lp F N a = some res := by
  obtain ⟨c, h1, h2⟩ := lp_inv (F := F) (fun k a => a = st k) L (fun c => c = res) (fun k hk a ha => Or.inl ⟨st (k + 1), rfl, fun r => by rw [ha]; exact hs k hk r⟩) (fun a ha => ⟨res, rfl, fun r => by rw [ha]; exact he r⟩) hN (a := a) h0.symm
  rw [h1, h2]
theorem lp_two {α β γ δ : Type} {F : (α → Option γ) → α → Option γ} {G : (β → Option δ) → β → Option δ} (J : Nat → α → β → Prop) (L : Nat) (P : γ → δ → Prop)
    (hs : ∀ k, k < L → ∀ a b, J k a b → (∃ a' b', J (k + 1) a' b' ∧ (∀ r, F r a = r a') ∧ ∀ r, G r b = r b') ∨ (∃ c d, P c d ∧ (∀ r, F r a = some c) ∧ ∀ r, G r b = some d)) (he : ∀ a b, J L a b → ∃ c d, P c d ∧ (∀ r, F r a = some c) ∧ ∀ r, G r b = some d) {N M : Nat} (hN : L < N) (hM : L < M) {a : α} {b : β} (h0 : J 0 a b) : ∃ c d, lp F N a = some c ∧ lp G M b = some d ∧ P c d := by
  have A : ∀ j k, j + k = L → ∀ N, j < N → ∀ M, j < M → ∀ a b, J k a b → ∃ c d, lp F N a = some c ∧ lp G M b = some d ∧ P c d := by
    intro j
    induction j with
    | zero =>
      intro k hk N hN M hM a b hJ
      obtain ⟨n, rfl⟩ : ∃ n, N = n + 1 := ⟨N - 1, by omega⟩
      obtain ⟨m, rfl⟩ : ∃ n, M = n + 1 := ⟨M - 1, by omega⟩
      have : k = L := by omega
      subst this
      obtain ⟨c, d, h1, h2, h3⟩ := he a b hJ
      exact ⟨c, d, h2 _, h3 _, h1⟩
    | succ j ih =>
      intro k hk N hN M hM a b hJ
      obtain ⟨n, rfl⟩ : ∃ n, N = n + 1 := ⟨N - 1, by omega⟩
      obtain ⟨m, rfl⟩ : ∃ n, M = n + 1 := ⟨M - 1, by omega⟩
      rcases hs k (by omega) a b hJ with ⟨a', b', h1, h2, h3⟩ | ⟨c, d, h1, h2, h3⟩
      · obtain ⟨c, d, q1, q2, q3⟩ := ih (k + 1) (by omega) n (by omega) m (by omega) a' b' h1
        exact ⟨c, d, (h2 (lp F n)).trans q1, (h3 (lp G m)).trans q2, q3⟩
      · exact ⟨c, d, h2 _, h3 _, h1⟩
  exact A L 0 (by omega) N hN M hM a b h0
/-! bits (the first rows out of kit/laws/BITS.to-paste) -/
def bt (x : Int32) (i : Nat) : Bool := x.toBitVec.getLsbD i
theorem b_ext {x y : Int32} (h : ∀ i, i < 32 → bt x i = bt y i) : x = y := Int32.toBitVec_inj.mp (BitVec.eq_of_getLsbD_eq (fun i hi => h i hi))
theorem b_or (x y : Int32) (i : Nat) : bt (x ||| y) i = (bt x i || bt y i) := by unfold bt; rw [Int32.toBitVec_or, BitVec.getLsbD_or]
theorem b_and (x y : Int32) (i : Nat) : bt (x &&& y) i = (bt x i && bt y i) := by unfold bt; rw [Int32.toBitVec_and, BitVec.getLsbD_and]
theorem b_xor (x y : Int32) (i : Nat) : bt (x ^^^ y) i = (bt x i ^^ bt y i) := by unfold bt; rw [Int32.toBitVec_xor, BitVec.getLsbD_xor]
theorem b_big {x : Int32} {i : Nat} (h : 32 ≤ i) : bt x i = false := BitVec.getLsbD_of_ge _ _ h
theorem b_255 (i : Nat) : bt 255 i = decide (i < 8) := by
  rcases Nat.lt_or_ge i 32 with h | h
  · exact (by decide +kernel : ∀ i, i < 32 → bt 255 i = decide (i < 8)) i h
  · rw [b_big h, decide_eq_false (by omega)]
theorem b_65535 (i : Nat) : bt 65535 i = decide (i < 16) := by
  rcases Nat.lt_or_ge i 32 with h | h
  · exact (by decide +kernel : ∀ i, i < 32 → bt 65535 i = decide (i < 16)) i h
  · rw [b_big h, decide_eq_false (by omega)]
theorem b_m1 : ∀ i, i < 32 → bt (-1) i = true := by decide +kernel
theorem b_0 (i : Nat) : bt 0 i = false := BitVec.getLsbD_zero
theorem s_l : ∀ n, n < 32 → ((nI n &&& 31).toBitVec.smod 32).toNat = n := by decide +kernel
theorem s_u : ∀ n, n < 32 → (((nI n).toUInt32 &&& Int32.toUInt32 31).toBitVec % 32).toNat = n := by decide +kernel
theorem b_shl (n : Nat) (hn : n < 32) (x : Int32) {i : Nat} (hi : i < 32) : bt (x <<< (nI n &&& 31)) i = (decide (n ≤ i) && bt x (i - n)) := by
  unfold bt
  rw [Int32.toBitVec_shiftLeft]
  show (x.toBitVec <<< ((nI n &&& 31).toBitVec.smod 32).toNat).getLsbD i = _
  rw [s_l n hn, BitVec.getLsbD_shiftLeft]
  rcases Nat.lt_or_ge i n with h | h
  · simp [h, Nat.not_le.mpr h]
  · simp [hi, h, Nat.not_lt.mpr h]
theorem b_ushr (n : Nat) (hn : n < 32) (x : Int32) (i : Nat) : bt ((x.toUInt32 >>> ((nI n).toUInt32 &&& Int32.toUInt32 31)).toInt32) i = bt x (n + i) := by
  show (x.toUInt32 >>> ((nI n).toUInt32 &&& Int32.toUInt32 31)).toBitVec.getLsbD i = x.toUInt32.toBitVec.getLsbD (n + i)
  rw [UInt32.toBitVec_shiftRight]
  show (x.toUInt32.toBitVec >>> (((nI n).toUInt32 &&& Int32.toUInt32 31).toBitVec % 32).toNat).getLsbD i = _
  rw [s_u n hn, BitVec.getLsbD_ushiftRight]
theorem b_sshr (n : Nat) (hn : n < 32) (x : Int32) {i : Nat} (hi : i < 32) : bt (x >>> (nI n &&& 31)) i = if n + i < 32 then bt x (n + i) else bt x 31 := by
  unfold bt
  rw [Int32.toBitVec_shiftRight]
  show (x.toBitVec.sshiftRight ((nI n &&& 31).toBitVec.smod 32).toNat).getLsbD i = _
  rw [s_l n hn, BitVec.getLsbD_sshiftRight, BitVec.msb_eq_getLsbD_last]
  simp [hi]
theorem nx_and (a b : Nat) : nI a &&& nI b = nI (a &&& b) := by
  apply Int32.toBitVec_inj.1
  show BitVec.ofNat 32 a &&& BitVec.ofNat 32 b = BitVec.ofNat 32 (a &&& b)
  apply BitVec.eq_of_getLsbD_eq
  intro i hi
  simp [hi]
theorem nx_or (a b : Nat) : nI a ||| nI b = nI (a ||| b) := by
  apply Int32.toBitVec_inj.1
  show BitVec.ofNat 32 a ||| BitVec.ofNat 32 b = BitVec.ofNat 32 (a ||| b)
  apply BitVec.eq_of_getLsbD_eq
  intro i hi
  simp [hi]
theorem nx_xor (a b : Nat) : nI a ^^^ nI b = nI (a ^^^ b) := by
  apply Int32.toBitVec_inj.1
  show BitVec.ofNat 32 a ^^^ BitVec.ofNat 32 b = BitVec.ofNat 32 (a ^^^ b)
  apply BitVec.eq_of_getLsbD_eq
  intro i hi
  simp [hi]
theorem nx_shl {a n : Nat} (hn : n < 32) : nI a <<< (nI n &&& 31) = nI (a * 2 ^ n) := by
  apply Int32.toBitVec_inj.1
  rw [Int32.toBitVec_shiftLeft]
  show BitVec.ofNat 32 a <<< ((nI n &&& 31).toBitVec.smod 32).toNat = BitVec.ofNat 32 (a * 2 ^ n)
  rw [s_l n hn]
  apply BitVec.eq_of_toNat_eq
  rw [BitVec.toNat_shiftLeft, BitVec.toNat_ofNat, BitVec.toNat_ofNat, Nat.shiftLeft_eq, Nat.mod_mul_mod]
theorem an1 (x : Int32) : x &&& 1 = 0 ∨ x &&& 1 = 1 := by
  have h : (x &&& 1).toBitVec = BitVec.setWidth 32 (BitVec.ofBool (x.toBitVec.getLsbD 0)) := BitVec.and_one_eq_setWidth_ofBool_getLsbD
  cases hb : x.toBitVec.getLsbD 0 with
  | false => exact Or.inl (Int32.toBitVec_inj.mp (by rw [h, hb]; rfl))
  | true => exact Or.inr (Int32.toBitVec_inj.mp (by rw [h, hb]; rfl))
theorem an1b (x : Int32) : x &&& 1 = if bt x 0 then 1 else 0 := by
  have h : (x &&& 1).toBitVec = BitVec.setWidth 32 (BitVec.ofBool (x.toBitVec.getLsbD 0)) := BitVec.and_one_eq_setWidth_ofBool_getLsbD
  unfold bt
  cases hb : x.toBitVec.getLsbD 0 with
  | false => exact Int32.toBitVec_inj.mp (by rw [h, hb]; rfl)
  | true => exact Int32.toBitVec_inj.mp (by rw [h, hb]; rfl)
theorem bt_v {x : Int32} {k : Nat} (hk : k < 32) : (x >>> (nI k &&& 31)) &&& 1 = if bt x k then 1 else 0 := by
  rw [an1b, b_sshr k hk x (by omega), if_pos (show k + 0 < 32 by omega)]
  rfl
theorem bt_1 {x : Int32} {k : Nat} (hk : k < 32) : ((x >>> (nI k &&& 31)) &&& 1 = 1) = (bt x k = true) := by
  rw [bt_v hk]; cases bt x k <;> decide
theorem bt_0 {x : Int32} {k : Nat} (hk : k < 32) : ((x >>> (nI k &&& 31)) &&& 1 = 0) = (bt x k = false) := by
  rw [bt_v hk]; cases bt x k <;> decide
theorem bt_sh {k i : Nat} (hk : k < 32) (hi : i < 32) : bt ((1 : Int32) <<< (nI k &&& 31)) i = decide (i = k) := by
  exact (by decide +kernel : ∀ k, k < 32 → ∀ i, i < 32 → bt ((1 : Int32) <<< (nI k &&& 31)) i = decide (i = k)) k hk i hi
theorem nI_eq0 {n : Nat} (h : n < 2 ^ 31) : (nI n = 0) = (n = 0) := propext (nI_eq (b := 0) h (by decide))
theorem nI_eq1 {n : Nat} (h : n < 2 ^ 31) : (nI n = 1) = (n = 1) := propext (nI_eq (b := 1) h (by decide))
theorem nI_le0 {n : Nat} (h : n < 2 ^ 31) : (nI n ≤ 0) = (n ≤ 0) := propext (nI_leI (b := 0) h (by decide))
theorem nI_le1 {n : Nat} (h : n < 2 ^ 31) : (nI n ≤ 1) = (n ≤ 1) := propext (nI_leI (b := 1) h (by decide))
theorem nI_0le {n : Nat} (h : n < 2 ^ 31) : (0 ≤ nI n) = True := eq_true (nI_pos' h)
theorem nI_lt0 {n : Nat} (h : n < 2 ^ 31) : (nI n < 0) = False := eq_false (nI_pos h)
theorem nI_0lt {n : Nat} (h : n < 2 ^ 31) : (0 < nI n) = (0 < n) := propext (nI_ltI (a := 0) (by decide) h)
theorem nI_m1 {n : Nat} (h : n < 2 ^ 31) : (nI n = -1) = False := eq_false (fun q => by
  have a := nI_toInt h
  rw [q] at a
  have b : (-1 : Int32).toInt = -1 := by decide
  omega)
/-! small methods of the reference -/
theorem q_isIn {x a b : Int32} : f_X12_isIn x a b = some (if a ≤ x ∧ x ≤ b then 1 else 0) := by
  unfold f_X12_isIn
  simp only [jn_s, gdb_0, gdb_1]
  by_cases h1 : x < a
  · have h2 : ¬ a ≤ x := by rw [Int32.lt_iff_toInt_lt] at h1; rw [Int32.le_iff_toInt_le]; omega
    rw [if_pos h1, if_neg (fun h => h2 h.1)]
  · have h2 : a ≤ x := by rw [Int32.lt_iff_toInt_lt] at h1; rw [Int32.le_iff_toInt_le]; omega
    rw [if_neg h1]
    by_cases h3 : b < x
    · have h4 : ¬ x ≤ b := by rw [Int32.lt_iff_toInt_lt] at h3; rw [Int32.le_iff_toInt_le]; omega
      rw [if_pos h3, if_neg (fun h => h4 h.2)]
    · have h4 : x ≤ b := by rw [Int32.lt_iff_toInt_lt] at h3; rw [Int32.le_iff_toInt_le]; omega
      rw [if_neg h3, if_pos ⟨h2, h4⟩]
theorem q_lesser (a b : Int32) : f_X12_lesser a b = some (if b ≤ a then b else a) := by
  unfold f_X12_lesser
  simp only [jn_s]
  split <;> rfl
theorem q_greater (a b : Int32) : f_X12_greater a b = some (if a ≤ b then b else a) := by
  unfold f_X12_greater
  simp only [jn_s]
  split <;> rfl
theorem q_isOf {x : Int32} {k : Nat} (hk : k < 32) : f_X12_isOf x (nI k) = some (if bt x k then 1 else 0) := by
  unfold f_X12_isOf
  simp only [jn_s, gdb_0, gdb_1, bt_1 hk]
  cases bt x k <;> rfl
/-! the row's parts -/
def tn (x : Int32) : Nat := x.toNatClampNeg
def wd (m : Nat → Int32) (w k : Nat) : Int32 := m (12 + 8 * w + k)
def wr (m : Nat → Int32) (u k : Nat) : Int32 := m (96 + 4 * u + k)
def pg (m : Nat → Int32) (u k : Nat) : Int32 := m (116 + 20 * u + k)
theorem q_ofWord {g : Pic} {w k : Nat} (hw : w < 8) (hk : k < 8) : f_X12_ofWord g (nI w) (nI k) = some (wd (g 1) w k) := by
  unfold f_X12_ofWord wd
  simp (disch := omega) only [bd_s, bd2_s, bd3_s, bd4_s, bd5_s, bd6_s, bd7_s, bd8_s, lr_l, lr_r, nm_s, jn_s, gdb_0, gdb_1, li_2, li_3, li_4, li_5, li_6, li_7, li_8, li_9, li_10, li_11, li_12, li_13, li_14, li_15, li_16, li_20, li_24, li_32, li_40, li_41, li_43, li_48, li_57, li_59, li_60, li_62, li_63, li_76, li_96, li_97, li_99, li_100, li_104, li_116, li_122, li_128, li_129, li_216, li_217, li_218, li_219, li_239, li_240, li_255, li_256, li_257, li_400, li_456, li_856, li_999, li_1000, li_1001, li_1002, li_1003, li_1004, li_1005, li_1006, li_1007, li_1008, li_1161, li_2000, li_2001, li_2002, li_2003, li_2004, li_2005, li_5016, li_5472, li_9999, li_10000, li_32767, li_1000000, li_2000000000, nI_add, nI_mul, nI_sub, nI_clamp, nI_leI, nI_ltI, nI_eq, gdi_n, nI_1, nI_eq0, nI_eq1, nI_le0, nI_le1, nI_0le, nI_lt0, nI_0lt, nI_m1, Int32.add_zero, Nat.le_refl, if_true, if_false, Bool.false_eq_true, Bool.true_eq_false, i10, i01, im0, im1, i0m, i1m, l10, l00, l01, t10, t00]
theorem q_of {g : Pic} {w k : Nat} (hw : w < 5) (hk : k < 4) : f_X12_of g (nI w) (nI k) = some (wr (g 1) w k) := by
  unfold f_X12_of wr
  simp (disch := omega) only [bd_s, bd2_s, bd3_s, bd4_s, bd5_s, bd6_s, bd7_s, bd8_s, lr_l, lr_r, nm_s, jn_s, gdb_0, gdb_1, li_2, li_3, li_4, li_5, li_6, li_7, li_8, li_9, li_10, li_11, li_12, li_13, li_14, li_15, li_16, li_20, li_24, li_32, li_40, li_41, li_43, li_48, li_57, li_59, li_60, li_62, li_63, li_76, li_96, li_97, li_99, li_100, li_104, li_116, li_122, li_128, li_129, li_216, li_217, li_218, li_219, li_239, li_240, li_255, li_256, li_257, li_400, li_456, li_856, li_999, li_1000, li_1001, li_1002, li_1003, li_1004, li_1005, li_1006, li_1007, li_1008, li_1161, li_2000, li_2001, li_2002, li_2003, li_2004, li_2005, li_5016, li_5472, li_9999, li_10000, li_32767, li_1000000, li_2000000000, nI_add, nI_mul, nI_sub, nI_clamp, nI_leI, nI_ltI, nI_eq, gdi_n, nI_1, nI_eq0, nI_eq1, nI_le0, nI_le1, nI_0le, nI_lt0, nI_0lt, nI_m1, Int32.add_zero, Nat.le_refl, if_true, if_false, Bool.false_eq_true, Bool.true_eq_false, i10, i01, im0, im1, i0m, i1m, l10, l00, l01, t10, t00]
theorem q_onPage {g : Pic} {w k : Nat} (hw : w < 5) (hk : k < 20) : f_X12_onPage g (nI w) (nI k) = some (pg (g 1) w k) := by
  unfold f_X12_onPage pg
  simp (disch := omega) only [bd_s, bd2_s, bd3_s, bd4_s, bd5_s, bd6_s, bd7_s, bd8_s, lr_l, lr_r, nm_s, jn_s, gdb_0, gdb_1, li_2, li_3, li_4, li_5, li_6, li_7, li_8, li_9, li_10, li_11, li_12, li_13, li_14, li_15, li_16, li_20, li_24, li_32, li_40, li_41, li_43, li_48, li_57, li_59, li_60, li_62, li_63, li_76, li_96, li_97, li_99, li_100, li_104, li_116, li_122, li_128, li_129, li_216, li_217, li_218, li_219, li_239, li_240, li_255, li_256, li_257, li_400, li_456, li_856, li_999, li_1000, li_1001, li_1002, li_1003, li_1004, li_1005, li_1006, li_1007, li_1008, li_1161, li_2000, li_2001, li_2002, li_2003, li_2004, li_2005, li_5016, li_5472, li_9999, li_10000, li_32767, li_1000000, li_2000000000, nI_add, nI_mul, nI_sub, nI_clamp, nI_leI, nI_ltI, nI_eq, gdi_n, nI_1, nI_eq0, nI_eq1, nI_le0, nI_le1, nI_0le, nI_lt0, nI_0lt, nI_m1, Int32.add_zero, Nat.le_refl, if_true, if_false, Bool.false_eq_true, Bool.true_eq_false, i10, i01, im0, im1, i0m, i1m, l10, l00, l01, t10, t00]
/-- a number within bounds -/
def Bn (x : Int32) (lo hi : Nat) : Prop := x = nI (tn x) ∧ lo ≤ tn x ∧ tn x ≤ hi
theorem Bn.mk {n lo hi : Nat} (h1 : lo ≤ n) (h2 : n ≤ hi) (h3 : hi < 2 ^ 31) : Bn (nI n) lo hi := by
  have e : tn (nI n) = n := nI_clamp (by omega)
  exact ⟨by rw [e], by omega, by omega⟩
theorem tn_n {n : Nat} (h : n < 2 ^ 31) : tn (nI n) = n := nI_clamp h
/-- what always holds of the reference's row -/
def Ok (m : Nat → Int32) : Prop :=
  Bn (m 0) 0 12 ∧ Bn (m 3) 0 8 ∧ Bn (m 4) 0 5 ∧ Bn (m 5) 0 20 ∧ Bn (m 6) 0 (tn (m 5)) ∧ Bn (m 7) 1 9 ∧ Bn (m 8) 0 100 ∧ Bn (m 9) 0 9999 ∧ Bn (m 10) 0 60 ∧
  (∀ w, w < tn (m 3) → Bn (wd m w 6) 1 6 ∧ Bn (wd m w 7) 1 99 ∧ (∀ k, k < tn (wd m w 6) → Bn (wd m w k) 0 7) ∧ ∀ k, tn (wd m w 6) ≤ k → k < 6 → wd m w k = -1) ∧
  (∀ k, k < tn (m 5) → Bn (m (76 + k)) 0 7 ∧ tn (m (76 + k)) < tn (m 3)) ∧
  (∀ u, u < tn (m 4) → Bn (wr m u 0) 0 255 ∧ Bn (wr m u 1) 1 9 ∧ Bn (wr m u 2) 0 9 ∧ Bn (wr m u 3) 0 99 ∧ ∀ k, k < 20 → Bn (pg m u k) 0 2)
theorem Ok.texts {m : Nat → Int32} (h : Ok m) : Bn (m 0) 0 12 := h.1
theorem Ok.W {m : Nat → Int32} (h : Ok m) : Bn (m 3) 0 8 := h.2.1
theorem Ok.U {m : Nat → Int32} (h : Ok m) : Bn (m 4) 0 5 := h.2.2.1
theorem Ok.S {m : Nat → Int32} (h : Ok m) : Bn (m 5) 0 20 := h.2.2.2.1
theorem Ok.D {m : Nat → Int32} (h : Ok m) : Bn (m 6) 0 (tn (m 5)) := h.2.2.2.2.1
theorem Ok.T {m : Nat → Int32} (h : Ok m) : Bn (m 7) 1 9 := h.2.2.2.2.2.1
theorem Ok.slip {m : Nat → Int32} (h : Ok m) : Bn (m 8) 0 100 := h.2.2.2.2.2.2.1
theorem Ok.minute {m : Nat → Int32} (h : Ok m) : Bn (m 9) 0 9999 := h.2.2.2.2.2.2.2.1
theorem Ok.G {m : Nat → Int32} (h : Ok m) : Bn (m 10) 0 60 := h.2.2.2.2.2.2.2.2.1
theorem Ok.len {m : Nat → Int32} (h : Ok m) {w : Nat} (hw : w < tn (m 3)) : Bn (wd m w 6) 1 6 := (h.2.2.2.2.2.2.2.2.2.1 w hw).1
theorem Ok.often {m : Nat → Int32} (h : Ok m) {w : Nat} (hw : w < tn (m 3)) : Bn (wd m w 7) 1 99 := (h.2.2.2.2.2.2.2.2.2.1 w hw).2.1
theorem Ok.let_ {m : Nat → Int32} (h : Ok m) {w k : Nat} (hw : w < tn (m 3)) (hk : k < tn (wd m w 6)) : Bn (wd m w k) 0 7 := (h.2.2.2.2.2.2.2.2.2.1 w hw).2.2.1 k hk
theorem Ok.no {m : Nat → Int32} (h : Ok m) {w k : Nat} (hw : w < tn (m 3)) (hk : tn (wd m w 6) ≤ k) (h6 : k < 6) : wd m w k = -1 := (h.2.2.2.2.2.2.2.2.2.1 w hw).2.2.2 k hk h6
theorem Ok.sp {m : Nat → Int32} (h : Ok m) {k : Nat} (hk : k < tn (m 5)) : Bn (m (76 + k)) 0 7 ∧ tn (m (76 + k)) < tn (m 3) := h.2.2.2.2.2.2.2.2.2.2.1 k hk
theorem Ok.leaves {m : Nat → Int32} (h : Ok m) {u : Nat} (hu : u < tn (m 4)) : Bn (wr m u 0) 0 255 := (h.2.2.2.2.2.2.2.2.2.2.2 u hu).1
theorem Ok.speed {m : Nat → Int32} (h : Ok m) {u : Nat} (hu : u < tn (m 4)) : Bn (wr m u 1) 1 9 := (h.2.2.2.2.2.2.2.2.2.2.2 u hu).2.1
theorem Ok.skill {m : Nat → Int32} (h : Ok m) {u : Nat} (hu : u < tn (m 4)) : Bn (wr m u 2) 0 9 := (h.2.2.2.2.2.2.2.2.2.2.2 u hu).2.2.1
theorem Ok.tired {m : Nat → Int32} (h : Ok m) {u : Nat} (hu : u < tn (m 4)) : Bn (wr m u 3) 0 99 := (h.2.2.2.2.2.2.2.2.2.2.2 u hu).2.2.2.1
theorem Ok.page {m : Nat → Int32} (h : Ok m) {u k : Nat} (hu : u < tn (m 4)) (hk : k < 20) : Bn (pg m u k) 0 2 := (h.2.2.2.2.2.2.2.2.2.2.2 u hu).2.2.2.2 k hk
/-- the class's state and log (pictures gS, gL) hold what the reference's row holds -/
def RS (gS gL : Pic) (m : Nat → Int32) : Prop :=
  gS 0 0 = m 3 ∧ gS 4 0 = m 5 ∧ gS 6 0 = m 6 ∧ gS 7 0 = m 4 ∧ gS 13 0 = m 7 ∧ gS 14 0 = m 8 ∧ gS 15 0 = m 9 ∧ gS 16 0 = m 11 ∧ gS 17 0 = m 0 ∧
  (∀ w, w < tn (m 3) → gS 2 w = wd m w 6 ∧ gS 3 w = wd m w 7 ∧ ∀ k, k < tn (wd m w 6) → gS 1 (w * 6 + k) = wd m w k) ∧
  (∀ k, k < tn (m 5) → gS 5 k = m (76 + k)) ∧
  (∀ u, u < tn (m 4) → gS 8 u = wr m u 0 ∧ gS 9 u = wr m u 1 ∧ gS 10 u = wr m u 2 ∧ gS 11 u = wr m u 3 ∧ ∀ k, k < 20 → gS 12 (u * 20 + k) = pg m u k) ∧
  (gL 1 0 = m 10 ∧ ∃ nx, nx < 60 ∧ gL 2 0 = nI nx ∧ ∀ a c, a < tn (m 10) → c < 4 → gL 0 ((nx + 60 - 1 - a) % 60 * 4 + c) = m (216 + 4 * a + c))
section RSA
variable {gS gL : Pic} {m : Nat → Int32}
theorem RS.W (h : RS gS gL m) : gS 0 0 = m 3 := h.1
theorem RS.S (h : RS gS gL m) : gS 4 0 = m 5 := h.2.1
theorem RS.D (h : RS gS gL m) : gS 6 0 = m 6 := h.2.2.1
theorem RS.U (h : RS gS gL m) : gS 7 0 = m 4 := h.2.2.2.1
theorem RS.T (h : RS gS gL m) : gS 13 0 = m 7 := h.2.2.2.2.1
theorem RS.slip (h : RS gS gL m) : gS 14 0 = m 8 := h.2.2.2.2.2.1
theorem RS.minute (h : RS gS gL m) : gS 15 0 = m 9 := h.2.2.2.2.2.2.1
theorem RS.seed (h : RS gS gL m) : gS 16 0 = m 11 := h.2.2.2.2.2.2.2.1
theorem RS.texts (h : RS gS gL m) : gS 17 0 = m 0 := h.2.2.2.2.2.2.2.2.1
theorem RS.len (h : RS gS gL m) {w : Nat} (hw : w < tn (m 3)) : gS 2 w = wd m w 6 := (h.2.2.2.2.2.2.2.2.2.1 w hw).1
theorem RS.often (h : RS gS gL m) {w : Nat} (hw : w < tn (m 3)) : gS 3 w = wd m w 7 := (h.2.2.2.2.2.2.2.2.2.1 w hw).2.1
theorem RS.let_ (h : RS gS gL m) {w k : Nat} (hw : w < tn (m 3)) (hk : k < tn (wd m w 6)) : gS 1 (w * 6 + k) = wd m w k := (h.2.2.2.2.2.2.2.2.2.1 w hw).2.2 k hk
theorem RS.sp (h : RS gS gL m) {k : Nat} (hk : k < tn (m 5)) : gS 5 k = m (76 + k) := h.2.2.2.2.2.2.2.2.2.2.1 k hk
theorem RS.leaves (h : RS gS gL m) {u : Nat} (hu : u < tn (m 4)) : gS 8 u = wr m u 0 := (h.2.2.2.2.2.2.2.2.2.2.2.1 u hu).1
theorem RS.speed (h : RS gS gL m) {u : Nat} (hu : u < tn (m 4)) : gS 9 u = wr m u 1 := (h.2.2.2.2.2.2.2.2.2.2.2.1 u hu).2.1
theorem RS.skill (h : RS gS gL m) {u : Nat} (hu : u < tn (m 4)) : gS 10 u = wr m u 2 := (h.2.2.2.2.2.2.2.2.2.2.2.1 u hu).2.2.1
theorem RS.tired (h : RS gS gL m) {u : Nat} (hu : u < tn (m 4)) : gS 11 u = wr m u 3 := (h.2.2.2.2.2.2.2.2.2.2.2.1 u hu).2.2.2.1
theorem RS.page (h : RS gS gL m) {u k : Nat} (hu : u < tn (m 4)) (hk : k < 20) : gS 12 (u * 20 + k) = pg m u k := (h.2.2.2.2.2.2.2.2.2.2.2.1 u hu).2.2.2.2 k hk
theorem RS.G (h : RS gS gL m) : gL 1 0 = m 10 := h.2.2.2.2.2.2.2.2.2.2.2.2.1
theorem RS.log (h : RS gS gL m) : ∃ nx, nx < 60 ∧ gL 2 0 = nI nx ∧ ∀ a c, a < tn (m 10) → c < 4 → gL 0 ((nx + 60 - 1 - a) % 60 * 4 + c) = m (216 + 4 * a + c) := h.2.2.2.2.2.2.2.2.2.2.2.2.2
end RSA
theorem Bn.ex {x : Int32} {lo hi : Nat} (h : Bn x lo hi) : ∃ n, x = nI n ∧ tn x = n ∧ lo ≤ n ∧ n ≤ hi := ⟨tn x, h.1, rfl, h.2.1, h.2.2⟩
/-! strokes and marks: the letters that are kept, the last one first, each by one more -/
def kls (m : Nat → Int32) (w : Nat) (x : Int32) : Nat → List Nat := itr (fun k l => if bt x (tn (wd m w k)) then l else (tn (wd m w k) + 1) :: l) []
def enc (b : Nat) : List Nat → Nat
  | [] => 0
  | d :: l => b * enc b l + d
def kl (m : Nat → Int32) (w : Nat) (x : Int32) : List Nat := kls m w x (tn (wd m w 6))
theorem kls_s (m : Nat → Int32) (w : Nat) (x : Int32) (k : Nat) : kls m w x (k + 1) = if bt x (tn (wd m w k)) then kls m w x k else (tn (wd m w k) + 1) :: kls m w x k := rfl
theorem kls_len (m : Nat → Int32) (w : Nat) (x : Int32) (k : Nat) : (kls m w x k).length ≤ k := by
  induction k with
  | zero => exact Nat.le_refl 0
  | succ n ih =>
    rw [kls_s]
    split
    · omega
    · rw [List.length_cons]; omega
theorem kls_dig {m : Nat → Int32} (hO : Ok m) {w : Nat} (hw : w < tn (m 3)) (x : Int32) {k : Nat} (hk : k ≤ tn (wd m w 6)) : ∀ d ∈ kls m w x k, 1 ≤ d ∧ d ≤ 8 := by
  induction k with
  | zero => intro d hd; exact absurd hd List.not_mem_nil
  | succ n ih =>
    have hb := hO.let_ hw (show n < tn (wd m w 6) by omega)
    rw [kls_s]
    split
    · exact ih (by omega)
    · intro d hd
      rcases List.mem_cons.mp hd with h | h
      · rw [h]; have := hb.2.2; omega
      · exact ih (by omega) d h
theorem enc_lt {b : Nat} {l : List Nat} (h : ∀ d ∈ l, d < b) : enc b l < b ^ l.length := by
  induction l with
  | nil => exact Nat.one_pos
  | cons d l ih =>
    have h1 := ih (fun q hq => h q (List.mem_cons_of_mem _ hq))
    have h2 := h d List.mem_cons_self
    show b * enc b l + d < b ^ (l.length + 1)
    rw [Nat.pow_succ, Nat.mul_comm (b ^ l.length)]
    have h3 : b * (enc b l + 1) ≤ b * b ^ l.length := Nat.mul_le_mul_left b h1
    rw [Nat.mul_add] at h3
    omega
theorem enc_b16 {l : List Nat} (h : ∀ d ∈ l, 1 ≤ d ∧ d ≤ 8) (h6 : l.length ≤ 6) : enc 16 l < 16777216 :=
  Nat.lt_of_lt_of_le (enc_lt (fun d hd => by have := h d hd; omega)) (Nat.pow_le_pow_right (by decide) h6)
theorem enc_b9 {l : List Nat} (h : ∀ d ∈ l, 1 ≤ d ∧ d ≤ 8) (h6 : l.length ≤ 6) : enc 9 l < 531441 :=
  Nat.lt_of_lt_of_le (enc_lt (fun d hd => by have := h d hd; omega)) (Nat.pow_le_pow_right (by decide) h6)
theorem enc_i16 {l l' : List Nat} (h : ∀ d ∈ l, 1 ≤ d ∧ d ≤ 8) (h' : ∀ d ∈ l', 1 ≤ d ∧ d ≤ 8) (e : enc 16 l = enc 16 l') : l = l' := by
  induction l generalizing l' with
  | nil =>
    cases l' with
    | nil => rfl
    | cons d l' =>
      have := h' d List.mem_cons_self
      have e : 0 = 16 * enc 16 l' + d := e
      omega
  | cons d l ih =>
    have a := h d List.mem_cons_self
    cases l' with
    | nil =>
      have e : 16 * enc 16 l + d = 0 := e
      omega
    | cons d' l' =>
      have b := h' d' List.mem_cons_self
      have e : 16 * enc 16 l + d = 16 * enc 16 l' + d' := e
      rw [ih (fun q hq => h q (List.mem_cons_of_mem _ hq)) (fun q hq => h' q (List.mem_cons_of_mem _ hq)) (by omega), show d = d' by omega]
theorem enc_i9 {l l' : List Nat} (h : ∀ d ∈ l, 1 ≤ d ∧ d ≤ 8) (h' : ∀ d ∈ l', 1 ≤ d ∧ d ≤ 8) (e : enc 9 l = enc 9 l') : l = l' := by
  induction l generalizing l' with
  | nil =>
    cases l' with
    | nil => rfl
    | cons d l' =>
      have := h' d List.mem_cons_self
      have e : 0 = 9 * enc 9 l' + d := e
      omega
  | cons d l ih =>
    have a := h d List.mem_cons_self
    cases l' with
    | nil =>
      have e : 9 * enc 9 l + d = 0 := e
      omega
    | cons d' l' =>
      have b := h' d' List.mem_cons_self
      have e : 9 * enc 9 l + d = 9 * enc 9 l' + d' := e
      rw [ih (fun q hq => h q (List.mem_cons_of_mem _ hq)) (fun q hq => h' q (List.mem_cons_of_mem _ hq)) (by omega), show d = d' by omega]
section K1
variable {m : Nat → Int32} {g gS gL : Pic}
theorem Ok.w8 (hO : Ok m) {w : Nat} (hw : w < tn (m 3)) : w < 8 := Nat.lt_of_lt_of_le hw hO.W.2.2
theorem Ok.u5 (hO : Ok m) {u : Nat} (hu : u < tn (m 4)) : u < 5 := Nat.lt_of_lt_of_le hu hO.U.2.2
theorem kl_dig (hO : Ok m) {w : Nat} (hw : w < tn (m 3)) (x : Int32) : ∀ d ∈ kl m w x, 1 ≤ d ∧ d ≤ 8 := kls_dig hO hw x (Nat.le_refl _)
theorem kl_len (hO : Ok m) {w : Nat} (hw : w < tn (m 3)) (x : Int32) : (kl m w x).length ≤ 6 := Nat.le_trans (kls_len m w x _) (hO.len hw).2.2
theorem kl_lenL (m : Nat → Int32) (w : Nat) (x : Int32) : (kl m w x).length ≤ tn (wd m w 6) := kls_len m w x _
theorem m16 (hO : Ok m) {w o : Nat} (hw : w < tn (m 3)) (ho : o < tn (m 3)) (x : Int32) : (nI (enc 16 (kl m o x)) = nI (enc 16 (kl m w x))) = (kl m o x = kl m w x) := by
  have a := enc_b16 (kl_dig hO hw x) (kl_len hO hw x)
  have b := enc_b16 (kl_dig hO ho x) (kl_len hO ho x)
  rw [nI_eq (by omega) (by omega)]
  exact propext ⟨enc_i16 (kl_dig hO ho x) (kl_dig hO hw x), fun h => by rw [h]⟩
theorem m9 (hO : Ok m) {w o : Nat} (hw : w < tn (m 3)) (ho : o < tn (m 3)) (x : Int32) : (nI (enc 9 (kl m o x)) = nI (enc 9 (kl m w x))) = (kl m o x = kl m w x) := by
  have a := enc_b9 (kl_dig hO hw x) (kl_len hO hw x)
  have b := enc_b9 (kl_dig hO ho x) (kl_len hO ho x)
  rw [nI_eq (by omega) (by omega)]
  exact propext ⟨enc_i9 (kl_dig hO ho x) (kl_dig hO hw x), fun h => by rw [h]⟩
theorem q_strokes (hO : Ok (g 1)) {w : Nat} (hw : w < tn (g 1 3)) (x : Int32) : f_X12_strokesBy g (nI w) x = some (nI (kl (g 1) w x).length) := by
  have h8 := hO.w8 hw
  obtain ⟨L, hL, tL, l1, l6⟩ := (hO.len hw).ex
  have H : f_X12_strokesBy_L5 (nI w) x g fu (0, 0) = some (nI (kls (g 1) w x L).length) := by
    refine lp_seq (fun k => (nI (kls (g 1) w x k).length, nI k)) L _ (fun k hk r => ?_) (fun r => ?_) (by have := fu_big; omega) rfl
    · obtain ⟨c, hc, tc, -, c7⟩ := (hO.let_ hw (by rw [tL]; exact hk)).ex
      have nk : ¬ L ≤ k := by omega
      rw [kls_s, tc]
      simp (disch := omega) only [bd_s, bd2_s, bd3_s, bd4_s, bd5_s, bd6_s, bd7_s, bd8_s, lr_l, lr_r, nm_s, jn_s, gdb_0, gdb_1, li_2, li_3, li_4, li_5, li_6, li_7, li_8, li_9, li_10, li_11, li_12, li_13, li_14, li_15, li_16, li_20, li_24, li_32, li_40, li_41, li_43, li_48, li_57, li_59, li_60, li_62, li_63, li_76, li_96, li_97, li_99, li_100, li_104, li_116, li_122, li_128, li_129, li_216, li_217, li_218, li_219, li_239, li_240, li_255, li_256, li_257, li_400, li_456, li_856, li_999, li_1000, li_1001, li_1002, li_1003, li_1004, li_1005, li_1006, li_1007, li_1008, li_1161, li_2000, li_2001, li_2002, li_2003, li_2004, li_2005, li_5016, li_5472, li_9999, li_10000, li_32767, li_1000000, li_2000000000, nI_add, nI_mul, nI_sub, nI_clamp, nI_leI, nI_ltI, nI_eq, gdi_n, nI_1, nI_eq0, nI_eq1, nI_le0, nI_le1, nI_0le, nI_lt0, nI_0lt, nI_m1, Int32.add_zero, Nat.le_refl, if_true, if_false, Bool.false_eq_true, Bool.true_eq_false, i10, i01, im0, im1, i0m, i1m, l10, l00, l01, t10, t00, q_ofWord, q_isOf, hL, hc, nk]
      cases hb : bt x c <;> simp (disch := omega) only [bd_s, bd2_s, bd3_s, bd4_s, bd5_s, bd6_s, bd7_s, bd8_s, lr_l, lr_r, nm_s, jn_s, gdb_0, gdb_1, li_2, li_3, li_4, li_5, li_6, li_7, li_8, li_9, li_10, li_11, li_12, li_13, li_14, li_15, li_16, li_20, li_24, li_32, li_40, li_41, li_43, li_48, li_57, li_59, li_60, li_62, li_63, li_76, li_96, li_97, li_99, li_100, li_104, li_116, li_122, li_128, li_129, li_216, li_217, li_218, li_219, li_239, li_240, li_255, li_256, li_257, li_400, li_456, li_856, li_999, li_1000, li_1001, li_1002, li_1003, li_1004, li_1005, li_1006, li_1007, li_1008, li_1161, li_2000, li_2001, li_2002, li_2003, li_2004, li_2005, li_5016, li_5472, li_9999, li_10000, li_32767, li_1000000, li_2000000000, nI_add, nI_mul, nI_sub, nI_clamp, nI_leI, nI_ltI, nI_eq, gdi_n, nI_1, nI_eq0, nI_eq1, nI_le0, nI_le1, nI_0le, nI_lt0, nI_0lt, nI_m1, Int32.add_zero, Nat.le_refl, if_true, if_false, Bool.false_eq_true, Bool.true_eq_false, i10, i01, im0, im1, i0m, i1m, l10, l00, l01, t10, t00, hb, List.length_cons]
      all_goals rfl
    · simp (disch := omega) only [bd_s, bd2_s, bd3_s, bd4_s, bd5_s, bd6_s, bd7_s, bd8_s, lr_l, lr_r, nm_s, jn_s, gdb_0, gdb_1, li_2, li_3, li_4, li_5, li_6, li_7, li_8, li_9, li_10, li_11, li_12, li_13, li_14, li_15, li_16, li_20, li_24, li_32, li_40, li_41, li_43, li_48, li_57, li_59, li_60, li_62, li_63, li_76, li_96, li_97, li_99, li_100, li_104, li_116, li_122, li_128, li_129, li_216, li_217, li_218, li_219, li_239, li_240, li_255, li_256, li_257, li_400, li_456, li_856, li_999, li_1000, li_1001, li_1002, li_1003, li_1004, li_1005, li_1006, li_1007, li_1008, li_1161, li_2000, li_2001, li_2002, li_2003, li_2004, li_2005, li_5016, li_5472, li_9999, li_10000, li_32767, li_1000000, li_2000000000, nI_add, nI_mul, nI_sub, nI_clamp, nI_leI, nI_ltI, nI_eq, gdi_n, nI_1, nI_eq0, nI_eq1, nI_le0, nI_le1, nI_0le, nI_lt0, nI_0lt, nI_m1, Int32.add_zero, Nat.le_refl, if_true, if_false, Bool.false_eq_true, Bool.true_eq_false, i10, i01, im0, im1, i0m, i1m, l10, l00, l01, t10, t00, q_ofWord, hL]
      done
  unfold f_X12_strokesBy kl
  rw [H, tL]
  rfl
theorem k_strokes (hO : Ok m) (hR : RS gS gL m) {w : Nat} (hw : w < tn (m 3)) (x : Int32) : f_X9_strokesOf gS (nI w) x = some (nI (kl m w x).length) := by
  have h8 := hO.w8 hw
  obtain ⟨L, hL, tL, l1, l6⟩ := (hO.len hw).ex
  have gl := (hR.len hw).trans hL
  have H : f_X9_strokesOf_L5 (nI w) x gS fu (0, 0) = some (nI (kls m w x L).length) := by
    refine lp_seq (fun k => (nI (kls m w x k).length, nI k)) L _ (fun k hk r => ?_) (fun r => ?_) (by have := fu_big; omega) rfl
    · obtain ⟨c, hc, tc, -, c7⟩ := (hO.let_ hw (by rw [tL]; exact hk)).ex
      have e1 : gS 1 (w * 6 + k) = nI c := (hR.let_ hw (by rw [tL]; exact hk)).trans hc
      have nk : ¬ L ≤ k := by omega
      rw [kls_s, tc]
      simp (disch := omega) only [bd_s, bd2_s, bd3_s, bd4_s, bd5_s, bd6_s, bd7_s, bd8_s, lr_l, lr_r, nm_s, jn_s, gdb_0, gdb_1, li_2, li_3, li_4, li_5, li_6, li_7, li_8, li_9, li_10, li_11, li_12, li_13, li_14, li_15, li_16, li_20, li_24, li_32, li_40, li_41, li_43, li_48, li_57, li_59, li_60, li_62, li_63, li_76, li_96, li_97, li_99, li_100, li_104, li_116, li_122, li_128, li_129, li_216, li_217, li_218, li_219, li_239, li_240, li_255, li_256, li_257, li_400, li_456, li_856, li_999, li_1000, li_1001, li_1002, li_1003, li_1004, li_1005, li_1006, li_1007, li_1008, li_1161, li_2000, li_2001, li_2002, li_2003, li_2004, li_2005, li_5016, li_5472, li_9999, li_10000, li_32767, li_1000000, li_2000000000, nI_add, nI_mul, nI_sub, nI_clamp, nI_leI, nI_ltI, nI_eq, gdi_n, nI_1, nI_eq0, nI_eq1, nI_le0, nI_le1, nI_0le, nI_lt0, nI_0lt, nI_m1, Int32.add_zero, Nat.le_refl, if_true, if_false, Bool.false_eq_true, Bool.true_eq_false, i10, i01, im0, im1, i0m, i1m, l10, l00, l01, t10, t00, gl, e1, nk, bt_0]
      cases hb : bt x c <;> simp (disch := omega) only [bd_s, bd2_s, bd3_s, bd4_s, bd5_s, bd6_s, bd7_s, bd8_s, lr_l, lr_r, nm_s, jn_s, gdb_0, gdb_1, li_2, li_3, li_4, li_5, li_6, li_7, li_8, li_9, li_10, li_11, li_12, li_13, li_14, li_15, li_16, li_20, li_24, li_32, li_40, li_41, li_43, li_48, li_57, li_59, li_60, li_62, li_63, li_76, li_96, li_97, li_99, li_100, li_104, li_116, li_122, li_128, li_129, li_216, li_217, li_218, li_219, li_239, li_240, li_255, li_256, li_257, li_400, li_456, li_856, li_999, li_1000, li_1001, li_1002, li_1003, li_1004, li_1005, li_1006, li_1007, li_1008, li_1161, li_2000, li_2001, li_2002, li_2003, li_2004, li_2005, li_5016, li_5472, li_9999, li_10000, li_32767, li_1000000, li_2000000000, nI_add, nI_mul, nI_sub, nI_clamp, nI_leI, nI_ltI, nI_eq, gdi_n, nI_1, nI_eq0, nI_eq1, nI_le0, nI_le1, nI_0le, nI_lt0, nI_0lt, nI_m1, Int32.add_zero, Nat.le_refl, if_true, if_false, Bool.false_eq_true, Bool.true_eq_false, i10, i01, im0, im1, i0m, i1m, l10, l00, l01, t10, t00, hb, List.length_cons]
      all_goals rfl
    · simp (disch := omega) only [bd_s, bd2_s, bd3_s, bd4_s, bd5_s, bd6_s, bd7_s, bd8_s, lr_l, lr_r, nm_s, jn_s, gdb_0, gdb_1, li_2, li_3, li_4, li_5, li_6, li_7, li_8, li_9, li_10, li_11, li_12, li_13, li_14, li_15, li_16, li_20, li_24, li_32, li_40, li_41, li_43, li_48, li_57, li_59, li_60, li_62, li_63, li_76, li_96, li_97, li_99, li_100, li_104, li_116, li_122, li_128, li_129, li_216, li_217, li_218, li_219, li_239, li_240, li_255, li_256, li_257, li_400, li_456, li_856, li_999, li_1000, li_1001, li_1002, li_1003, li_1004, li_1005, li_1006, li_1007, li_1008, li_1161, li_2000, li_2001, li_2002, li_2003, li_2004, li_2005, li_5016, li_5472, li_9999, li_10000, li_32767, li_1000000, li_2000000000, nI_add, nI_mul, nI_sub, nI_clamp, nI_leI, nI_ltI, nI_eq, gdi_n, nI_1, nI_eq0, nI_eq1, nI_le0, nI_le1, nI_0le, nI_lt0, nI_0lt, nI_m1, Int32.add_zero, Nat.le_refl, if_true, if_false, Bool.false_eq_true, Bool.true_eq_false, i10, i01, im0, im1, i0m, i1m, l10, l00, l01, t10, t00, gl]
      done
  unfold f_X9_strokesOf kl
  rw [H, tL]
  rfl
theorem q_mark (hO : Ok (g 1)) {w : Nat} (hw : w < tn (g 1 3)) (x : Int32) : f_X12_markBy g (nI w) x = some (nI (enc 9 (kl (g 1) w x))) := by
  have h8 := hO.w8 hw
  obtain ⟨L, hL, tL, l1, l6⟩ := (hO.len hw).ex
  have H : f_X12_markBy_L5 (nI w) x g fu (0, 0) = some (nI (enc 9 (kls (g 1) w x L))) := by
    refine lp_seq (fun k => (nI (enc 9 (kls (g 1) w x k)), nI k)) L _ (fun k hk r => ?_) (fun r => ?_) (by have := fu_big; omega) rfl
    · obtain ⟨c, hc, tc, -, c7⟩ := (hO.let_ hw (by rw [tL]; exact hk)).ex
      have nk : ¬ L ≤ k := by omega
      rw [kls_s, tc]
      simp (disch := omega) only [bd_s, bd2_s, bd3_s, bd4_s, bd5_s, bd6_s, bd7_s, bd8_s, lr_l, lr_r, nm_s, jn_s, gdb_0, gdb_1, li_2, li_3, li_4, li_5, li_6, li_7, li_8, li_9, li_10, li_11, li_12, li_13, li_14, li_15, li_16, li_20, li_24, li_32, li_40, li_41, li_43, li_48, li_57, li_59, li_60, li_62, li_63, li_76, li_96, li_97, li_99, li_100, li_104, li_116, li_122, li_128, li_129, li_216, li_217, li_218, li_219, li_239, li_240, li_255, li_256, li_257, li_400, li_456, li_856, li_999, li_1000, li_1001, li_1002, li_1003, li_1004, li_1005, li_1006, li_1007, li_1008, li_1161, li_2000, li_2001, li_2002, li_2003, li_2004, li_2005, li_5016, li_5472, li_9999, li_10000, li_32767, li_1000000, li_2000000000, nI_add, nI_mul, nI_sub, nI_clamp, nI_leI, nI_ltI, nI_eq, gdi_n, nI_1, nI_eq0, nI_eq1, nI_le0, nI_le1, nI_0le, nI_lt0, nI_0lt, nI_m1, Int32.add_zero, Nat.le_refl, if_true, if_false, Bool.false_eq_true, Bool.true_eq_false, i10, i01, im0, im1, i0m, i1m, l10, l00, l01, t10, t00, q_ofWord, q_isOf, hL, hc, nk]
      cases hb : bt x c <;> simp (disch := omega) only [bd_s, bd2_s, bd3_s, bd4_s, bd5_s, bd6_s, bd7_s, bd8_s, lr_l, lr_r, nm_s, jn_s, gdb_0, gdb_1, li_2, li_3, li_4, li_5, li_6, li_7, li_8, li_9, li_10, li_11, li_12, li_13, li_14, li_15, li_16, li_20, li_24, li_32, li_40, li_41, li_43, li_48, li_57, li_59, li_60, li_62, li_63, li_76, li_96, li_97, li_99, li_100, li_104, li_116, li_122, li_128, li_129, li_216, li_217, li_218, li_219, li_239, li_240, li_255, li_256, li_257, li_400, li_456, li_856, li_999, li_1000, li_1001, li_1002, li_1003, li_1004, li_1005, li_1006, li_1007, li_1008, li_1161, li_2000, li_2001, li_2002, li_2003, li_2004, li_2005, li_5016, li_5472, li_9999, li_10000, li_32767, li_1000000, li_2000000000, nI_add, nI_mul, nI_sub, nI_clamp, nI_leI, nI_ltI, nI_eq, gdi_n, nI_1, nI_eq0, nI_eq1, nI_le0, nI_le1, nI_0le, nI_lt0, nI_0lt, nI_m1, Int32.add_zero, Nat.le_refl, if_true, if_false, Bool.false_eq_true, Bool.true_eq_false, i10, i01, im0, im1, i0m, i1m, l10, l00, l01, t10, t00, hb, enc]
      all_goals rfl
    · simp (disch := omega) only [bd_s, bd2_s, bd3_s, bd4_s, bd5_s, bd6_s, bd7_s, bd8_s, lr_l, lr_r, nm_s, jn_s, gdb_0, gdb_1, li_2, li_3, li_4, li_5, li_6, li_7, li_8, li_9, li_10, li_11, li_12, li_13, li_14, li_15, li_16, li_20, li_24, li_32, li_40, li_41, li_43, li_48, li_57, li_59, li_60, li_62, li_63, li_76, li_96, li_97, li_99, li_100, li_104, li_116, li_122, li_128, li_129, li_216, li_217, li_218, li_219, li_239, li_240, li_255, li_256, li_257, li_400, li_456, li_856, li_999, li_1000, li_1001, li_1002, li_1003, li_1004, li_1005, li_1006, li_1007, li_1008, li_1161, li_2000, li_2001, li_2002, li_2003, li_2004, li_2005, li_5016, li_5472, li_9999, li_10000, li_32767, li_1000000, li_2000000000, nI_add, nI_mul, nI_sub, nI_clamp, nI_leI, nI_ltI, nI_eq, gdi_n, nI_1, nI_eq0, nI_eq1, nI_le0, nI_le1, nI_0le, nI_lt0, nI_0lt, nI_m1, Int32.add_zero, Nat.le_refl, if_true, if_false, Bool.false_eq_true, Bool.true_eq_false, i10, i01, im0, im1, i0m, i1m, l10, l00, l01, t10, t00, q_ofWord, hL]
      done
  unfold f_X12_markBy kl
  rw [H, tL]
  rfl
end K1
