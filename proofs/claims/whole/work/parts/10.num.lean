/-! numbers -/
theorem li (n : Nat) : (OfNat.ofNat n : Int32) = nI n := rfl
def Eqx (S : List Nat) (f g : Nat → Nat → Int32) : Prop := ∀ a k, a ∉ S → g a k = f a k
theorem Eqx.rf {S : List Nat} {f : Nat → Nat → Int32} : Eqx S f f := fun _ _ _ => rfl
theorem Eqx.tr {S : List Nat} {f g h : Nat → Nat → Int32} (h1 : Eqx S f g) (h2 : Eqx S g h) : Eqx S f h := fun a k ha => (h2 a k ha).trans (h1 a k ha)
theorem Eqx.up {S : List Nat} {f g : Nat → Nat → Int32} {a k : Nat} {v : Int32} (h : Eqx S f g) (ha : a ∈ S) : Eqx S f (up2 g a k v) := fun b j hb => by
  unfold up2
  have hn : ¬ (b = a ∧ j = k) := fun z => hb (by rw [z.1]; exact ha)
  rw [if_neg hn]
  exact h b j hb
theorem Eqx.mono {S T : List Nat} {f g : Nat → Nat → Int32} (h : Eqx S f g) (hs : ∀ a ∈ S, a ∈ T) : Eqx T f g := fun a k ha => h a k (fun z => ha (hs a z))
theorem up2_eq {α : Type} (f : Nat → Nat → α) (a k : Nat) (v : α) : up2 f a k v a k = v := by simp [up2]
theorem up2_ne {α : Type} {f : Nat → Nat → α} {a k b j : Nat} {v : α} (h : ¬ (b = a ∧ j = k)) : up2 f a k v b j = f b j := by unfold up2; rw [if_neg h]
theorem inx_nI {k n : Nat} (h : k < n) (hn : n < 2 ^ 31) : inx (nI k) n := by
  unfold inx
  rw [nI_toInt (by omega)]
  omega
theorem inx_iff {k n : Nat} (h : k < 2 ^ 31) : inx (nI k) n ↔ k < n := by
  unfold inx
  rw [nI_toInt h]
  omega
theorem sh_l : ∀ n, n < 32 → ((nI n &&& nI 31).toBitVec.smod 32).toNat = n := by decide +kernel
theorem nI_shl {a k : Nat} (h : k < 32) (h2 : a * 2 ^ k < 2 ^ 32) : nI a <<< (nI k &&& nI 31) = nI (a * 2 ^ k) := pk_shlN _ k (sh_l k h) h2
theorem nI_1shl {k : Nat} (h : k < 31) : nI 1 <<< (nI k &&& nI 31) = nI (2 ^ k) := by
  have h2 : (2 : Nat) ^ k < 2 ^ 31 := Nat.pow_lt_pow_right (by decide) h
  rw [nI_shl (by omega) (by omega), Nat.one_mul]
theorem nI_shr {a k : Nat} (h : k < 32) (h2 : a < 2 ^ 31) : nI a >>> (nI k &&& nI 31) = nI (a / 2 ^ k) := pk_shrN h2 _ k (sh_l k h)
theorem nI_and1 (a : Nat) : nI a &&& nI 1 = nI (a % 2) := by
  rw [fa_and, Nat.and_one_is_mod]
theorem nI_bit {a k : Nat} (h : k < 32) (h2 : a < 2 ^ 31) : nI a >>> (nI k &&& nI 31) &&& nI 1 = nI (a.testBit k).toNat := by
  rw [nI_shr h h2, nI_and1, Nat.testBit_eq_decide_div_mod_eq]
  have : a / 2 ^ k % 2 = 0 ∨ a / 2 ^ k % 2 = 1 := by omega
  rcases this with e | e <;> rw [e] <;> rfl
theorem tb1 (b : Bool) : nI b.toNat = nI 1 ↔ b = true := by cases b <;> decide
theorem tb0 (b : Bool) : nI b.toNat = nI 0 ↔ b = false := by cases b <;> decide
theorem nI_xor (a b : Nat) : nI a ^^^ nI b = nI (a ^^^ b) := by
  apply Int32.toBitVec_inj.1
  show BitVec.ofNat 32 a ^^^ BitVec.ofNat 32 b = BitVec.ofNat 32 (a ^^^ b)
  apply BitVec.eq_of_getLsbD_eq
  intro i hi
  simp [hi, Nat.testBit_xor]
/-- a without b -/
def anot (a b : Nat) : Nat := a ^^^ (a &&& b)
theorem anot_bit (a b i : Nat) : (anot a b).testBit i = (a.testBit i && !b.testBit i) := by
  unfold anot
  rw [Nat.testBit_xor, Nat.testBit_and]
  cases a.testBit i <;> cases b.testBit i <;> rfl
theorem anot_le (a b : Nat) : anot a b ≤ a := by
  have e : anot a b = a &&& anot a b := Nat.eq_of_testBit_eq fun i => by
    rw [Nat.testBit_and, anot_bit]
    cases a.testBit i <;> rfl
  rw [e]
  exact Nat.and_le_left
theorem nI_anot (a b : Nat) : nI a &&& (nI b ^^^ -nI 1) = nI (anot a b) := by
  apply Int32.toBitVec_inj.1
  show BitVec.ofNat 32 a &&& (BitVec.ofNat 32 b ^^^ (-nI 1).toBitVec) = BitVec.ofNat 32 (anot a b)
  rw [show (-nI 1).toBitVec = BitVec.allOnes 32 by decide +kernel]
  apply BitVec.eq_of_getLsbD_eq
  intro i hi
  simp only [BitVec.getLsbD_and, BitVec.getLsbD_xor, BitVec.getLsbD_ofNat, BitVec.getLsbD_allOnes, hi, decide_true, Bool.true_and, anot_bit, Bool.xor_true]
theorem p2_lt {k n : Nat} (h : k < n) (hn : n ≤ 31) : 2 ^ k < 2 ^ 31 := Nat.pow_lt_pow_right (by decide) (by omega)
theorem p2_le10 {k : Nat} (h : k < 10) : 2 ^ k ≤ 512 := by
  have : 2 ^ k ≤ 2 ^ 9 := Nat.pow_le_pow_right (by decide) (by omega)
  exact this
theorem inx_0 (n : Nat) : inx 0 n ↔ 0 < n := inx_iff (k := 0) (by decide)
theorem inx_1 (n : Nat) : inx 1 n ↔ 1 < n := inx_iff (k := 1) (by decide)
theorem inx_2 (n : Nat) : inx 2 n ↔ 2 < n := inx_iff (k := 2) (by decide)
theorem inx_3 (n : Nat) : inx 3 n ↔ 3 < n := inx_iff (k := 3) (by decide)
theorem inx_4 (n : Nat) : inx 4 n ↔ 4 < n := inx_iff (k := 4) (by decide)
theorem inx_5 (n : Nat) : inx 5 n ↔ 5 < n := inx_iff (k := 5) (by decide)
def bI (b : Bool) : Int32 := if b then 1 else 0
theorem bI_ok (b : Bool) : bI b = 0 ∨ bI b = 1 := by cases b <;> simp [bI]
theorem bI_0 (b : Bool) : bI b = 0 ↔ b = false := by cases b <;> simp [bI]
theorem bI_1 (b : Bool) : bI b = 1 ↔ b = true := by cases b <;> simp [bI]
theorem fin3 : ((3 : Fin 4) : Nat) = 3 := rfl
theorem nI_not (a b : Nat) : nI a &&& ~~~nI b = nI (anot a b) := by
  rw [← nI_anot]
  congr 1
  apply Int32.toBitVec_inj.1
  show ~~~(nI b).toBitVec = (nI b).toBitVec ^^^ (-nI 1).toBitVec
  rw [show (-nI 1).toBitVec = BitVec.allOnes 32 by decide +kernel, BitVec.xor_allOnes]
theorem a31 {k : Nat} (h : k < 32) : k &&& 31 = k := by
  have : k &&& (2 ^ 5 - 1) = k := by rw [Nat.and_two_pow_sub_one_eq_mod]; omega
  exact this
theorem sh_k : ∀ n, n < 32 → ((nI n).toBitVec.smod 32).toNat = n := by decide +kernel
theorem nI_shl' {a k : Nat} (h : k < 32) (h2 : a * 2 ^ k < 2 ^ 32) : nI a <<< nI k = nI (a * 2 ^ k) := pk_shlN _ k (sh_k k h) h2
theorem nI_1shl' {k : Nat} (h : k < 31) : nI 1 <<< nI k = nI (2 ^ k) := by
  have h2 : (2 : Nat) ^ k < 2 ^ 31 := Nat.pow_lt_pow_right (by decide) h
  rw [nI_shl' (by omega) (by omega), Nat.one_mul]
theorem nI_shr' {a k : Nat} (h : k < 32) (h2 : a < 2 ^ 31) : nI a >>> nI k = nI (a / 2 ^ k) := pk_shrN h2 _ k (sh_k k h)
theorem div_bit (a k : Nat) : a / 2 ^ k &&& 1 = (a.testBit k).toNat := by
  rw [Nat.and_one_is_mod, Nat.testBit_eq_decide_div_mod_eq]
  have : a / 2 ^ k % 2 = 0 ∨ a / 2 ^ k % 2 = 1 := by omega
  rcases this with e | e <;> rw [e] <;> rfl
