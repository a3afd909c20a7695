/-! numbers -/
theorem li (n : Nat) : (OfNat.ofNat n : Int32) = nI n := rfl
def Eqx (S : List Nat) (f g : Nat → Nat → Int32) : Prop := ∀ a k, a ∉ S → g a k = f a k
theorem Eqx.rf {S : List Nat} {f : Nat → Nat → Int32} : Eqx S f f := fun _ _ _ => rfl
theorem Eqx.tr {S : List Nat} {f g h : Nat → Nat → Int32} (h1 : Eqx S f g) (h2 : Eqx S g h) : Eqx S f h := fun a k ha => (h2 a k ha).trans (h1 a k ha)
theorem Eqx.up {S : List Nat} {f g : Nat → Nat → Int32} {a k : Nat} {v : Int32} (h : Eqx S f g) (ha : a ∈ S) : Eqx S f (up2 g a k v) := fun b j hb => by
  unfold up2
  rw [if_neg (fun z => hb (z.1 ▸ ha))]
  exact h b j hb
theorem Eqx.mono {S T : List Nat} {f g : Nat → Nat → Int32} (h : Eqx S f g) (hs : ∀ a ∈ S, a ∈ T) : Eqx T f g := fun a k ha => h a k (fun z => ha (hs a z))
theorem up2_eq {α : Type} (f : Nat → Nat → α) (a k : Nat) (v : α) : up2 f a k v a k = v := by simp [up2]
theorem up2_ne {α : Type} {f : Nat → Nat → α} {a k b j : Nat} {v : α} (h : ¬ (b = a ∧ j = k)) : up2 f a k v b j = f b j := by unfold up2; rw [if_neg h]
theorem inx_nI {k n : Nat} (h : k < n) (hn : n < 2 ^ 31) : inx (nI k) n := by
  unfold inx
  rw [nI_toInt (by omega)]
  omega
