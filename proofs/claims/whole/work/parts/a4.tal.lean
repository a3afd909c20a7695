/-! the tallies as they are kept -/
def tlG (A : DD) (sp : Bool) : Nat → Nat → Nat := gX (faX sp (A 0 3) (A 2) (A 5) (A 6) (A 0 2)) (A 0 0)
def tlV (A : DD) (sp : Bool) : Nat → Nat := pshC (A 0 0) (tlG A sp)
def tlB (A : DD) (sp : Bool) : Nat → Nat := bkC (A 0 0) (tlV A sp) (tlG A sp)
def tlA (A : DD) (sp : Bool) (o q : Nat) : Nat := ahT (A 0 0) (tlV A sp) (tlG A sp) (tlB A sp) o q
def TlR (mI : Nat → Nat → Int32) (mL : Nat → Nat → Int64) (T : Nat) (A : DD) (sp : Bool) : Prop := mI T 8 = nI 1 ∧ TaM mI mL T (A 0 0) (paX (A 5) (A 6) (A 0 2)) (faX sp (A 0 3) (A 2) (A 5) (A 6) (A 0 2)) ∧ ∀ t, t < 2 ^ A 0 0 → mL (T + 3) t = lN (tlV A sp t) ∧ tlV A sp t < 2 ^ 63
def TlC (mI : Nat → Nat → Int32) (mL : Nat → Nat → Int64) (T : Nat) (A : DD) (sp : Bool) : Prop := mI T 9 = nI 1 ∧ ∀ o q, o < A 0 0 → q < A 0 0 → mL (T + 5) (10 * o + q) = lN (tlA A sp o q)
def TlI (mI : Nat → Nat → Int32) (mL : Nat → Nat → Int64) (T : Nat) (A : DD) (sp : Bool) : Prop := mI T 0 = nI sp.toNat ∧ (mI T 8 = nI 0 ∨ (TlR mI mL T A sp ∧ (mI T 9 = nI 0 ∨ TlC mI mL T A sp)))
theorem TaM.fr {mI mI' : Nat → Nat → Int32} {mL mL' : Nat → Nat → Int64} {T np : Nat} {pa : Nat → Nat} {fx : Nat → Nat → Nat} (h : TaM mI mL T np pa fx) (h1 : mI' T 6 = mI T 6) (h2 : mI' T 7 = mI T 7) (h3 : ∀ k, mI' (T + 2) k = mI (T + 2) k) (h4 : ∀ k, mL' (T + 1) k = mL (T + 1) k) : TaM mI' mL' T np pa fx := by
  obtain ⟨a1, a2, a3, a4, a5, a6⟩ := h
  exact ⟨h1.trans a1, a2, h2.trans a3, fun p hp => ⟨(h3 p).trans (a4 p hp).1, (a4 p hp).2⟩, fun a b ha hb => (h4 _).trans (a5 a b ha hb), a6⟩
theorem TlI.fr {mI mI' : Nat → Nat → Int32} {mL mL' : Nat → Nat → Int64} {T : Nat} {A : DD} {sp : Bool} (h : TlI mI mL T A sp) (hi : ∀ a k, T ≤ a → a ≤ T + 5 → mI' a k = mI a k) (hl : ∀ a k, T ≤ a → a ≤ T + 5 → mL' a k = mL a k) : TlI mI' mL' T A sp := by
  refine ⟨(hi _ _ (by omega) (by omega)).trans h.1, ?_⟩
  rcases h.2 with z | ⟨⟨r1, r2, r3⟩, z⟩
  · exact Or.inl ((hi _ _ (by omega) (by omega)).trans z)
  · refine Or.inr ⟨⟨(hi _ _ (by omega) (by omega)).trans r1, r2.fr (hi _ _ (by omega) (by omega)) (hi _ _ (by omega) (by omega)) (fun k => hi _ _ (by omega) (by omega)) (fun k => hl _ _ (by omega) (by omega)), fun t ht => ⟨(hl _ _ (by omega) (by omega)).trans (r3 t ht).1, (r3 t ht).2⟩⟩, ?_⟩
    rcases z with z | ⟨z1, z2⟩
    · exact Or.inl ((hi _ _ (by omega) (by omega)).trans z)
    · exact Or.inr ⟨(hi _ _ (by omega) (by omega)).trans z1, fun o q ho hq => (hl _ _ (by omega) (by omega)).trans (z2 o q ho hq)⟩
theorem c7_now (l : Launch) (X : Cx) (d : Nat) (sh : Nat → Option Sh) (mI : Nat → Nat → Int32) (mL : Nat → Nat → Int64) (mR : Nat → Nat → Option Nat) (n : Nat) (hB : BL sh mR) (C : Nat) (A : DD) (hV : AsV A) (hS : ShA sh mI mR n 20 C A) (T : Nat) (sp : Bool) (hT : T = 37 ∨ T = 43) (hO : OL sh mR T 7 ob7) (hI : TlI mI mL T A sp) (hl : ∀ t, t < 2 ^ A 0 0 → tlV A sp t < 2 ^ 63) (hd : 2 ≤ d) : Cn l X yX7_weigh cX7_weigh 4 none d [.ref T, .ref 20] (sh, mI, mL, mR, n) (fun r M' => r = none ∧ ∃ mI' mL', M' = (sh, mI', mL', mR, n) ∧ (∀ a k, ¬ (T ≤ a ∧ a ≤ T + 5) → mI' a k = mI a k) ∧ (∀ a k, ¬ (T ≤ a ∧ a ≤ T + 5) → mL' a k = mL a k) ∧ TlR mI' mL' T A sp ∧ TlI mI' mL' T A sp) 0 0 := by
  have o6 := hB.2.2.2.1.2
  obtain ⟨z1, -, -, z4, z5, -⟩ := hS.s hV
  have cr := hS.2.1.c
  rcases hI.2 with h | h
  · refine (c7_weigh l X d sh mI mL mR n T 20 C hO o6 hS.1 hS.2.1.1 (by omega) (by omega) sp hI.1 (A 0 0) z1 (A 0 3) (A 2) z5 (A 0 2) (A 5) (A 6) (A 7) z4 (fun k hk => (hV.say k hk).1) (fun k hk => (hV.say k hk).2.2) (tlV A sp) (pshC_ok _ _) hl h hd).weak ?_
    rintro r M' ⟨rfl, mI', mL', rfl, f1, f2, f3, f4, f5, f6, f7⟩
    have R : TlR mI' mL' T A sp := ⟨f6, f4, fun t ht => ⟨f5 t ht, hl t ht⟩⟩
    exact ⟨rfl, mI', mL', rfl, fun a k z => f1 a k (by omega) (by omega), fun a k z => f2 a k (by omega) (by omega), R, f3, Or.inr ⟨R, Or.inl f7⟩⟩
  · refine (c7_weighR l X d sh mI mL mR n T 20 hO h.1.1).weak ?_
    rintro r M' ⟨rfl, rfl⟩
    exact ⟨rfl, mI, mL, rfl, fun _ _ _ => rfl, fun _ _ _ => rfl, h.1, hI⟩
theorem c7_cmp (l : Launch) (X : Cx) (d : Nat) (sh : Nat → Option Sh) (mI : Nat → Nat → Int32) (mL : Nat → Nat → Int64) (mR : Nat → Nat → Option Nat) (n : Nat) (A : DD) (T : Nat) (sp : Bool) (hO : OL sh mR T 7 ob7) (hI : TlI mI mL T A sp) (hR : TlR mI mL T A sp) (hd : 1 ≤ d) : Cn l X yX7_compare cX7_compare 5 none d [.ref T] (sh, mI, mL, mR, n) (fun r M' => r = none ∧ ∃ mI' mL', M' = (sh, mI', mL', mR, n) ∧ (∀ a k, ¬ (T ≤ a ∧ a ≤ T + 5) → mI' a k = mI a k) ∧ (∀ a k, ¬ (T ≤ a ∧ a ≤ T + 5) → mL' a k = mL a k) ∧ TlR mI' mL' T A sp ∧ TlC mI' mL' T A sp ∧ TlI mI' mL' T A sp) 0 0 := by
  rcases hI.2 with h | ⟨-, h⟩
  · exact absurd (h.symm.trans hR.1) (by decide)
  · rcases h with h | h
    · refine (c7_compare l X d sh mI mL mR n T hO (A 0 0) _ _ hR.2.1 (tlV A sp) hR.2.2 (tlB A sp) (bkC_ok _ _ _) h hd).weak ?_
      rintro r M' ⟨rfl, mL', rfl, f1, f2⟩
      have e : ∀ a k, ¬ (a = T ∧ k = 9) → up2 mI T 9 (nI 1) a k = mI a k := fun a k z => up2_ne z
      have R : TlR (up2 mI T 9 (nI 1)) mL' T A sp := ⟨(e _ _ (fun z => absurd z.2 (by decide))).trans hR.1, hR.2.1.fr (e _ _ (fun z => absurd z.2 (by decide))) (e _ _ (fun z => absurd z.2 (by decide))) (fun k => e _ _ (by omega)) (fun k => f1 _ _ (by omega) (by omega)), fun t ht => ⟨(f1 _ _ (by omega) (by omega)).trans (hR.2.2 t ht).1, (hR.2.2 t ht).2⟩⟩
      have Cc : TlC (up2 mI T 9 (nI 1)) mL' T A sp := ⟨up2_eq .., f2⟩
      exact ⟨rfl, _, mL', rfl, fun a k z => e a k (by omega), fun a k z => f1 a k (by omega) (by omega), R, Cc, (e _ _ (fun z => absurd z.2 (by decide))).trans hI.1, Or.inr ⟨R, Or.inr Cc⟩⟩
    · refine (c7_compareR l X d sh mI mL mR n T hO h.1).weak ?_
      rintro r M' ⟨rfl, rfl⟩
      exact ⟨rfl, mI, mL, rfl, fun _ _ _ => rfl, fun _ _ _ => rfl, hR, h, hI⟩
theorem tlF_63 {A : DD} (hV : AsV A) : ∀ t, t < 2 ^ A 0 0 → tlV A false t < 2 ^ 63 := fun t ht => Nat.lt_of_le_of_lt (tlF_lt hV.1.1 hV.say (pshC_ok _ _) t ht) (by decide)
set_option maxHeartbeats 800000 in
set_option maxRecDepth 100000 in
theorem c11_orders (l : Launch) (X : Cx) (d : Nat) (sh : Nat → Option Sh) (mI : Nat → Nat → Int32) (mL : Nat → Nat → Int64) (mR : Nat → Nat → Option Nat) (n : Nat) (hB : BL sh mR) (C : Nat) (A : DD) (hV : AsV A) (hS : ShA sh mI mR n 20 C A) (hI : TlI mI mL 37 A false) (hd : 3 ≤ d) : Cn l X yX11_orders cX11_orders 1 (some .int) d [.ref 0] (sh, mI, mL, mR, n) (fun r M' => r = some (.int (nI (ordN (A 0 0) (A 0 2) (A 5) (A 6)))) ∧ ∃ mI' mL', M' = (sh, mI', mL', mR, n) ∧ (∀ a k, ¬ (37 ≤ a ∧ a ≤ 42) → mI' a k = mI a k) ∧ (∀ a k, ¬ (37 ≤ a ∧ a ≤ 42) → mL' a k = mL a k) ∧ TlI mI' mL' 37 A false) 0 0 := by
  refine Cn.run 11 false (by decide) rfl (by decide) (by simp [entA, Value.category]) ?_
  intro P G hP hG
  have q0 := hB.1
  have b3 := hB.2.2.2.1.1
  have b6 := hB.2.2.2.2.2.2.1.1
  have o7 := hB.2.2.2.2.2.2.1.2
  have s7 := o7.1
  have hnp := hV.1.1
  refine hG.run [] 20 ?_
  simp [wp, stepI, ln, jmp, cmpI, Value.category, rd, tyF, va_rf, st1, st2, clr, isLg, CB, inx_0, inx_1, inx_2, inx_3, inx_4, inx_5, bI_0, bI_1, bI_ok, fin3, tyX11, entL, q0, b3, b6, dX11_orders_0, dX11_orders_1, fT_11_43, dX11_orders_4, dX11_orders_5, fT_11_23, dX11_orders_8, dX11_orders_11, dX11_orders_12, dX11_orders_15, dX11_orders_18, dX11_orders_19]
  refine hG.callV dX11_orders_8 mv_11_143 [.ref 20] [] (c7_now l X (d - 1) sh mI mL mR n hB C A hV hS 37 false (Or.inl rfl) o7 hI (tlF_63 hV) (by omega)) ⟨_, rfl, rfl⟩ s7 (by omega) rfl (by decide) (by simp [Value.category]) rfl ?_
  rintro r M' ⟨rfl, mI1, mL1, rfl, f1, f2, R1, I1⟩
  have q := hP _ _ ⟨rfl, mI1, mL1, rfl, f1, f2, I1⟩
  have e : ordN (A 0 0) (A 0 2) (A 5) (A 6) = tlV A false (2 ^ A 0 0 - 1) := (tl_ord hV.say (pshC_ok _ _)).symm
  rw [e] at q
  have p2 : 0 < 2 ^ A 0 0 := Nat.two_pow_pos _
  refine hG.run [] 20 ?_
  simp [wp, stepI, ln, jmp, cmpI, Value.category, rd, tyF, va_rf, st1, st2, clr, isLg, CB, inx_0, inx_1, inx_2, inx_3, inx_4, inx_5, bI_0, bI_1, bI_ok, fin3, tyX11, entL, q0, b6, dX11_orders_0, dX11_orders_1, fT_11_43, dX11_orders_4, dX11_orders_5, fT_11_23, dX11_orders_8, dX11_orders_11, dX11_orders_12, dX11_orders_15, dX11_orders_18, dX11_orders_19]
  refine hG.callV dX11_orders_15 mv_11_146 [] [] (c7_all l X (d - 1) sh mI1 mL1 mR n 37 o7 (A 0 0) R1.2.1.2.2.1 hnp _ (R1.2.2 _ (by omega)).1) ⟨_, rfl, rfl⟩ s7 (by omega) rfl (by decide) (by simp [Value.category]) rfl ?_
  rintro r M' ⟨rfl, rfl⟩
  refine hG.run [] 20 ?_
  simp [wp, stepI, ln, jmp, cmpI, Value.category, rd, tyF, va_rf, st1, st2, clr, isLg, CB, inx_0, inx_1, inx_2, inx_3, inx_4, inx_5, bI_0, bI_1, bI_ok, fin3, tyX11, entL, q0, dX11_orders_0, dX11_orders_1, fT_11_43, dX11_orders_4, dX11_orders_5, fT_11_23, dX11_orders_8, dX11_orders_11, dX11_orders_12, dX11_orders_15, dX11_orders_18, dX11_orders_19]
  rw [lN_i]
  exact q
