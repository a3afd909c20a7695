/-! what a call changes: say, unsay -/
def setA (A : DD) (a : Nat) (f : Nat → Nat) : DD := fun b => if b = a then f else A b
theorem setA_eq (A : DD) (a : Nat) (f : Nat → Nat) : setA A a f a = f := if_pos rfl
theorem setA_ne {A : DD} {a : Nat} {f : Nat → Nat} {b : Nat} (h : b ≠ a) : setA A a f b = A b := if_neg h
theorem ScA.fr2 {sh sh' : Nat → Option Sh} {mI mI' : Nat → Nat → Int32} {mR mR' : Nat → Nat → Option Nat} {n n' C : Nat} {A : DD} (h : ScA sh mI mR n C A) (hn : n ≤ n') (hs : ∀ a, a < n → sh' a = sh a) (hr : ∀ a k, ((21 ≤ a ∧ a ≤ 26) ∨ 171 ≤ a) → a < n → mR' a k = mR a k) (hi : ∀ a k, ((21 ≤ a ∧ a ≤ 26) ∨ 171 ≤ a) → a < n → mI' a k = mI a k) : ScA sh' mI' mR' n' C A := by
  have kc := h.c
  have kw := fun Wc => h.w (Wc := Wc)
  have k3 : C + 5 < n := h.2.2.1
  have gr : ∀ j, mR' C j = mR C j := fun j => hr C j (by clear h kw; omega) (by clear h kw; omega)
  have gi : ∀ b, b ≤ 5 → ∀ j, mI' (C + b) j = mI (C + b) j := fun b hb j => hi (C + b) j (by clear h kw; omega) (by clear h kw; omega)
  obtain ⟨k1, k2, -, k4, k5, k6, k7, Wc, u, w1, w2, w3, w4, w5, w6, w7⟩ := h
  have kw := kw Wc w1 w4
  refine ⟨⟨(hs C (by omega)).trans k1.1, k1.2.1, fun x hx => ?_⟩, ?_, Nat.lt_of_lt_of_le k3 hn, ⟨(gi 0 (by decide) _).trans k4.1, (gi 0 (by decide) _).trans k4.2.1, (gi 0 (by decide) _).trans k4.2.2⟩, fun p hp => ⟨(gi 1 (by decide) _).trans (k5 p hp).1, (gi 2 (by decide) _).trans (k5 p hp).2⟩, fun k hk => (gi 3 (by decide) _).trans (k6 k hk), fun i hi2 => (gi 4 (by decide) _).trans (k7 i hi2), Wc, u, (gr _).trans w1, (hs _ w5).trans w2, w3, w4, Nat.lt_of_lt_of_le w5 hn, fun i hi2 => (hi _ _ (by clear w7 k2; omega) w5).trans (w6 i hi2), w7⟩
  · have hb : x.2.1 ≤ 4 := (by decide : ∀ x ∈ ob4, x.2.1 ≤ 4) x hx
    exact ⟨(gr _).trans (k1.2.2 x hx).1, (hs _ (by clear w7 k2; omega)).trans (k1.2.2 x hx).2⟩
  · rcases k2 with z | z
    · exact Or.inl ⟨z.1, (gr _).trans z.2⟩
    · exact Or.inr z
/-- of a sheet: its school, and its own cells -/
theorem ShA.mk2 {sh : Nat → Option Sh} {mI : Nat → Nat → Int32} {mR : Nat → Nat → Option Nat} {n S C : Nat} {A : DD} (h1 : mR S 0 = some C) (h2 : ScA sh mI mR n C A) (h3 : mI S 4 = nI (A 0 2)) (h4 : ∀ k, k < A 0 2 → mI (S + 7) k = nI (A 5 k) ∧ mI (S + 8) k = nI (A 6 k) ∧ mI (S + 9) k = nI (A 7 k)) (h5 : ∀ p, p < A 0 0 → mI (S + 10) p = nI (A 11 p) - nI 1 ∧ mI (S + 11) p = nI (A 12 p) - nI 1) : ShA sh mI mR n S C A := ⟨h1, h2, h3, h4, h5⟩
def aSay (A : DD) (p q w : Nat) : DD := setA (setA (setA (setA A 0 (upN (A 0) 2 (A 0 2 + 1))) 5 (upN (A 5) (A 0 2) p)) 6 (upN (A 6) (A 0 2) q)) 7 (upN (A 7) (A 0 2) w)
def aUns (A : DD) : DD := setA A 0 (upN (A 0) 2 (A 0 2 - 1))
theorem aSay_V {A : DD} (h : AsV A) {p q w : Nat} (hp : p < A 0 0) (hq : q < A 0 0) (hpq : p ≠ q) (hw : w < 2) (hc : A 0 2 ≠ 40) : AsV (aSay A p q w) := by
  obtain ⟨⟨v1, v2, v3, v4, v5⟩, w1, w2, w3, w4, w5, w6, w7⟩ := h
  refine ⟨⟨v1, v2, (show A 0 2 + 1 ≤ 40 by omega), v4, v5⟩, w1, w2, fun k hk => ?_, w4, w5, w6, w7⟩
  have hk' : k < A 0 2 + 1 := hk
  show upN (A 5) (A 0 2) p k < A 0 0 ∧ upN (A 6) (A 0 2) q k < A 0 0 ∧ upN (A 5) (A 0 2) p k ≠ upN (A 6) (A 0 2) q k ∧ upN (A 7) (A 0 2) w k < 2
  by_cases e : k = A 0 2
  · subst e
    rw [upN_eq, upN_eq, upN_eq]
    exact ⟨hp, hq, hpq, hw⟩
  · rw [upN_ne e, upN_ne e, upN_ne e]
    exact w3 k (by omega)
theorem aUns_V {A : DD} (h : AsV A) : AsV (aUns A) := by
  obtain ⟨⟨v1, v2, v3, v4, v5⟩, w1, w2, w3, w4, w5, w6, w7⟩ := h
  refine ⟨⟨v1, v2, (show A 0 2 - 1 ≤ 40 by omega), v4, v5⟩, w1, w2, fun k hk => ?_, w4, w5, w6, w7⟩
  have hk' : k < A 0 2 - 1 := hk
  exact w3 k (by omega)
theorem ScA_say {sh : Nat → Option Sh} {mI : Nat → Nat → Int32} {mR : Nat → Nat → Option Nat} {n C : Nat} {A : DD} {p q w : Nat} (h : ScA sh mI mR n C A) : ScA sh mI mR n C (aSay A p q w) := h
theorem ScA_uns {sh : Nat → Option Sh} {mI : Nat → Nat → Int32} {mR : Nat → Nat → Option Nat} {n C : Nat} {A : DD} (h : ScA sh mI mR n C A) : ScA sh mI mR n C (aUns A) := h
def saB (A : DD) (x y w : Int32) : Bool := a2 A x y && wth w (nI 0) (nI 1) && decide (A 0 2 ≠ 40)
set_option maxHeartbeats 800000 in
set_option maxRecDepth 100000 in
theorem c11_say (l : Launch) (X : Cx) (d : Nat) (sh : Nat → Option Sh) (mI : Nat → Nat → Int32) (mL : Nat → Nat → Int64) (mR : Nat → Nat → Option Nat) (n : Nat) (hB : BL sh mR) (C : Nat) (A : DD) (hV : AsV A) (hS : ShA sh mI mR n 20 C A) (x y w : Int32) (hd : 2 ≤ d) : Cn l X yX11_say cX11_say 5 (some .int) d [.ref 0, .int x, .int y, .int w] (sh, mI, mL, mR, n) (fun r M' => (saB A x y w = true → r = some (.int (nI (A 0 2 + 1))) ∧ ∃ mI', M' = (sh, fgI mI', mL, mR, n) ∧ (∀ a k, a ≠ 27 → a ≠ 28 → a ≠ 29 → ¬ (a = 20 ∧ k = 4) → mI' a k = mI a k) ∧ ShA sh mI' mR n 20 C (aSay A x.toNatClampNeg y.toNatClampNeg w.toNatClampNeg)) ∧ (saB A x y w = false → r = some (.int (-nI 1)) ∧ M' = (sh, mI, mL, mR, n))) 0 0 := by
  refine Cn.run 11 false (by decide) rfl (by decide) (by simp [entA, Value.category]) ?_
  intro P G hP hG
  have q0 := hB.1
  have b3 := hB.2.2.2.1.1
  have o6 := hB.2.2.2.1.2
  have s6 := o6.1
  have cs := hS.2.2.1
  have c40 := hV.1.2.2.1
  have hnp := hV.1.1
  have bad : saB A x y w = false → P (some (.int (-1))) (sh, mI, mL, mR, n) := fun z => hP _ _ ⟨fun z2 => absurd (z.symm.trans z2) (by decide), fun _ => ⟨rfl, rfl⟩⟩
  have no : saB A x y w = false → G 25 [some (.ref 0), some (.int x), some (.int y), some (.int w), some (.int 0)] [] (sh, mI, mL, mR, n) := fun z => by
    have q := bad z
    refine hG.run [] 20 ?_
    simp [wp, stepI, ln, jmp, cmpI, Value.category, rd, tyF, va_rf, st1, st2, clr, isLg, CB, inx_0, inx_1, inx_2, inx_3, inx_4, inx_5, bI_0, bI_1, bI_ok, fin3, tyX11, entL, q0, dX11_say_0, dX11_say_1, dX11_say_2, dX11_say_3, dX11_say_6, dX11_say_9, dX11_say_10, dX11_say_13, dX11_say_14, dX11_say_15, dX11_say_18, dX11_say_19, dX11_say_22, dX11_say_23, dX11_say_25, dX11_say_27, dX11_say_30, dX11_say_31, fT_11_23, dX11_say_34, fT_11_127, dX11_say_37, dX11_say_39, dX11_say_42, dX11_say_43, dX11_say_44, dX11_say_45, dX11_say_48, dX11_say_49, dX11_say_50, dX11_say_51, dX11_say_54, dX11_say_55, dX11_say_58, dX11_say_59, dX11_say_62, dX11_say_65]
    exact q
  refine hG.run [] 20 ?_
  simp [wp, stepI, ln, jmp, cmpI, Value.category, rd, tyF, va_rf, st1, st2, clr, isLg, CB, inx_0, inx_1, inx_2, inx_3, inx_4, inx_5, bI_0, bI_1, bI_ok, fin3, tyX11, entL, q0, dX11_say_0, dX11_say_1, dX11_say_2, dX11_say_3, dX11_say_6, dX11_say_9, dX11_say_10, dX11_say_13, dX11_say_14, dX11_say_15, dX11_say_18, dX11_say_19, dX11_say_22, dX11_say_23, dX11_say_25, dX11_say_27, dX11_say_30, dX11_say_31, fT_11_23, dX11_say_34, fT_11_127, dX11_say_37, dX11_say_39, dX11_say_42, dX11_say_43, dX11_say_44, dX11_say_45, dX11_say_48, dX11_say_49, dX11_say_50, dX11_say_51, dX11_say_54, dX11_say_55, dX11_say_58, dX11_say_59, dX11_say_62, dX11_say_65]
  refine hG.callV dX11_say_3 mv_11_123 [.int x, .int y] [] (c11_areTwo l X (d - 1) sh mI mL mR n hB C A hS x y (by omega)) ⟨_, rfl, rfl⟩ q0 (by omega) rfl (by decide) (by simp [Value.category]) rfl ?_
  rintro r M' ⟨rfl, rfl⟩
  cases h2 : a2 A x y with
  | false =>
    have q := no (by unfold saB; rw [h2]; rfl)
    refine hG.run [25] 20 ?_
    simp [wp, stepI, ln, jmp, cmpI, Value.category, rd, tyF, va_rf, st1, st2, clr, isLg, CB, inx_0, inx_1, inx_2, inx_3, inx_4, inx_5, bI_0, bI_1, bI_ok, fin3, tyX11, entL, q0, dX11_say_0, dX11_say_1, dX11_say_2, dX11_say_3, dX11_say_6, dX11_say_9, dX11_say_10, dX11_say_13, dX11_say_14, dX11_say_15, dX11_say_18, dX11_say_19, dX11_say_22, dX11_say_23, dX11_say_25, dX11_say_27, dX11_say_30, dX11_say_31, fT_11_23, dX11_say_34, fT_11_127, dX11_say_37, dX11_say_39, dX11_say_42, dX11_say_43, dX11_say_44, dX11_say_45, dX11_say_48, dX11_say_49, dX11_say_50, dX11_say_51, dX11_say_54, dX11_say_55, dX11_say_58, dX11_say_59, dX11_say_62, dX11_say_65]
    exact q
  | true =>
    cases hw : wth w (nI 0) (nI 1) with
    | false =>
      have q := no (by unfold saB; rw [h2, hw]; rfl)
      have hw' := of_decide_eq_false hw
      refine hG.run [25] 20 ?_
      simp [wp, stepI, ln, jmp, cmpI, Value.category, rd, tyF, va_rf, st1, st2, clr, isLg, CB, inx_0, inx_1, inx_2, inx_3, inx_4, inx_5, bI_0, bI_1, bI_ok, fin3, tyX11, entL, q0, dX11_say_0, dX11_say_1, dX11_say_2, dX11_say_3, dX11_say_6, dX11_say_9, dX11_say_10, dX11_say_13, dX11_say_14, dX11_say_15, dX11_say_18, dX11_say_19, dX11_say_22, dX11_say_23, dX11_say_25, dX11_say_27, dX11_say_30, dX11_say_31, fT_11_23, dX11_say_34, fT_11_127, dX11_say_37, dX11_say_39, dX11_say_42, dX11_say_43, dX11_say_44, dX11_say_45, dX11_say_48, dX11_say_49, dX11_say_50, dX11_say_51, dX11_say_54, dX11_say_55, dX11_say_58, dX11_say_59, dX11_say_62, dX11_say_65]
      refine ⟨fun _ => q, fun z => ⟨fun _ => q, fun z2 => absurd ⟨z, ?_⟩ hw'⟩⟩
      have a1 := Int32.lt_iff_toInt_lt.mp z2
      refine Int32.le_iff_toInt_le.mpr ?_
      have : (nI 1).toInt = 1 := rfl
      have : (2 : Int32).toInt = 2 := rfl
      omega
    | true =>
      obtain ⟨p, q, hp, hq, hpq, rfl, rfl⟩ := a2_i hV h2
      obtain ⟨j, hj, rfl⟩ := wth_i hw (by decide)
      have go : G 25 [some (.ref 0), some (.int (nI p)), some (.int (nI q)), some (.int (nI j)), some (.int 1)] [] (sh, mI, mL, mR, n) := by
        by_cases hc : A 0 2 = 40
        · have q := bad (by unfold saB; rw [decide_eq_false (fun z => z hc), Bool.and_false])
          refine hG.run [44] 20 ?_
          simp [wp, stepI, ln, jmp, cmpI, Value.category, rd, tyF, va_rf, st1, st2, clr, isLg, CB, inx_0, inx_1, inx_2, inx_3, inx_4, inx_5, bI_0, bI_1, bI_ok, fin3, tyX11, entL, q0, b3, s6, cs, tyX6, dX11_say_0, dX11_say_1, dX11_say_2, dX11_say_3, dX11_say_6, dX11_say_9, dX11_say_10, dX11_say_13, dX11_say_14, dX11_say_15, dX11_say_18, dX11_say_19, dX11_say_22, dX11_say_23, dX11_say_25, dX11_say_27, dX11_say_30, dX11_say_31, fT_11_23, dX11_say_34, fT_11_127, dX11_say_37, dX11_say_39, dX11_say_42, dX11_say_43, dX11_say_44, dX11_say_45, dX11_say_48, dX11_say_49, dX11_say_50, dX11_say_51, dX11_say_54, dX11_say_55, dX11_say_58, dX11_say_59, dX11_say_62, dX11_say_65]
          simp (disch := omega) only [li, nI_add, nI_clamp, nI_ltI, nI_leI, nI_eq, inx_iff, a31, nI_1shl', nI_shr', div_bit, tb1, tb0, fa_or, fa_and, nI_not, pk_sub, nI_dec]
          exact ⟨fun z => by omega, fun _ => q⟩
        · have yes : saB A (nI p) (nI q) (nI j) = true := by unfold saB; rw [h2, hw, decide_eq_true hc]; rfl
          obtain ⟨z1, z2, z3, z4, -⟩ := hS.s hV
          have mid : G 44 [some (.ref 0), some (.int (nI p)), some (.int (nI q)), some (.int (nI j)), some (.int 1)] [] (sh, mI, mL, mR, n) := by
            refine hG.run [] 20 ?_
            simp [wp, stepI, ln, jmp, cmpI, Value.category, rd, tyF, va_rf, st1, st2, clr, isLg, CB, inx_0, inx_1, inx_2, inx_3, inx_4, inx_5, bI_0, bI_1, bI_ok, fin3, tyX11, entL, q0, b3, dX11_say_0, dX11_say_1, dX11_say_2, dX11_say_3, dX11_say_6, dX11_say_9, dX11_say_10, dX11_say_13, dX11_say_14, dX11_say_15, dX11_say_18, dX11_say_19, dX11_say_22, dX11_say_23, dX11_say_25, dX11_say_27, dX11_say_30, dX11_say_31, fT_11_23, dX11_say_34, fT_11_127, dX11_say_37, dX11_say_39, dX11_say_42, dX11_say_43, dX11_say_44, dX11_say_45, dX11_say_48, dX11_say_49, dX11_say_50, dX11_say_51, dX11_say_54, dX11_say_55, dX11_say_58, dX11_say_59, dX11_say_62, dX11_say_65]
            refine hG.callV dX11_say_51 mv_11_130 [.int (nI p), .int (nI q), .int (nI j)] [] (c6_addSaying l X (d - 1) sh mI mL mR n 20 o6 (A 0 2) (A 5) (A 6) (A 7) z4 p q j (by omega) (by omega) (by omega) (by omega)) ⟨_, rfl, rfl⟩ s6 (by omega) rfl (by decide) (by simp [Value.category]) rfl ?_
            rintro r M' ⟨rfl, mI1, rfl, f1, S1⟩
            have e1 : heC (A 0 2) = A 0 2 + 1 := if_neg hc
            have e2 : ∀ f x, heF (A 0 2) f x = upN f (A 0 2) x := fun f x => if_neg hc
            rw [e1, e2, e2, e2] at S1
            have SA : ShA sh mI1 mR n 20 C (aSay A p q j) := ShA.mk2 hS.1 (ScA_say (hS.2.1.fr2 (Nat.le_refl _) (fun _ _ => rfl) (fun _ _ _ _ => rfl) (fun a k h _ => f1 a k (by omega) (by omega) (by omega) (by omega)))) S1.1 (fun k hk => ⟨(S1.2.2 k hk).1, (S1.2.2 k hk).2.1, (S1.2.2 k hk).2.2.1⟩) (fun p hp => ⟨(f1 _ _ (by decide) (by decide) (by decide) (by omega)).trans (hS.2.2.2.2 p hp).1, (f1 _ _ (by decide) (by decide) (by decide) (by omega)).trans (hS.2.2.2.2 p hp).2⟩)
            refine hG.run [] 20 ?_
            simp [wp, stepI, ln, jmp, cmpI, Value.category, rd, tyF, va_rf, st1, st2, clr, isLg, CB, inx_0, inx_1, inx_2, inx_3, inx_4, inx_5, bI_0, bI_1, bI_ok, fin3, tyX11, entL, q0, dX11_say_0, dX11_say_1, dX11_say_2, dX11_say_3, dX11_say_6, dX11_say_9, dX11_say_10, dX11_say_13, dX11_say_14, dX11_say_15, dX11_say_18, dX11_say_19, dX11_say_22, dX11_say_23, dX11_say_25, dX11_say_27, dX11_say_30, dX11_say_31, fT_11_23, dX11_say_34, fT_11_127, dX11_say_37, dX11_say_39, dX11_say_42, dX11_say_43, dX11_say_44, dX11_say_45, dX11_say_48, dX11_say_49, dX11_say_50, dX11_say_51, dX11_say_54, dX11_say_55, dX11_say_58, dX11_say_59, dX11_say_62, dX11_say_65]
            refine hG.callV dX11_say_55 mv_11_97 [] [] (c11_forgetStudies l X (d - 1) sh mI1 mL mR n hB (by omega)) ⟨_, rfl, rfl⟩ q0 (by omega) rfl (by decide) (by simp [Value.category]) rfl ?_
            rintro r M' ⟨rfl, rfl⟩
            have cs2 : fgI mI1 20 4 = nI (A 0 2 + 1) := S1.1
            have qq := hP (some (.int (nI (A 0 2 + 1)))) (sh, fgI mI1, mL, mR, n) ⟨fun _ => ⟨rfl, mI1, rfl, f1, by rw [nI_clamp (by omega), nI_clamp (by omega), nI_clamp (by omega)]; exact SA⟩, fun z => absurd (yes.symm.trans z) (by decide)⟩
            refine hG.run [] 20 ?_
            simp [wp, stepI, ln, jmp, cmpI, Value.category, rd, tyF, va_rf, st1, st2, clr, isLg, CB, inx_0, inx_1, inx_2, inx_3, inx_4, inx_5, bI_0, bI_1, bI_ok, fin3, tyX11, entL, q0, b3, s6, cs2, tyX6, dX11_say_0, dX11_say_1, dX11_say_2, dX11_say_3, dX11_say_6, dX11_say_9, dX11_say_10, dX11_say_13, dX11_say_14, dX11_say_15, dX11_say_18, dX11_say_19, dX11_say_22, dX11_say_23, dX11_say_25, dX11_say_27, dX11_say_30, dX11_say_31, fT_11_23, dX11_say_34, fT_11_127, dX11_say_37, dX11_say_39, dX11_say_42, dX11_say_43, dX11_say_44, dX11_say_45, dX11_say_48, dX11_say_49, dX11_say_50, dX11_say_51, dX11_say_54, dX11_say_55, dX11_say_58, dX11_say_59, dX11_say_62, dX11_say_65]
            exact qq
          refine hG.run [44] 20 ?_
          simp [wp, stepI, ln, jmp, cmpI, Value.category, rd, tyF, va_rf, st1, st2, clr, isLg, CB, inx_0, inx_1, inx_2, inx_3, inx_4, inx_5, bI_0, bI_1, bI_ok, fin3, tyX11, entL, q0, b3, s6, cs, tyX6, dX11_say_0, dX11_say_1, dX11_say_2, dX11_say_3, dX11_say_6, dX11_say_9, dX11_say_10, dX11_say_13, dX11_say_14, dX11_say_15, dX11_say_18, dX11_say_19, dX11_say_22, dX11_say_23, dX11_say_25, dX11_say_27, dX11_say_30, dX11_say_31, fT_11_23, dX11_say_34, fT_11_127, dX11_say_37, dX11_say_39, dX11_say_42, dX11_say_43, dX11_say_44, dX11_say_45, dX11_say_48, dX11_say_49, dX11_say_50, dX11_say_51, dX11_say_54, dX11_say_55, dX11_say_58, dX11_say_59, dX11_say_62, dX11_say_65]
          simp (disch := omega) only [li, nI_add, nI_clamp, nI_ltI, nI_leI, nI_eq, inx_iff, a31, nI_1shl', nI_shr', div_bit, tb1, tb0, fa_or, fa_and, nI_not, pk_sub, nI_dec]
          exact ⟨fun _ => mid, fun z => by omega⟩
      have hw' := of_decide_eq_true hw
      refine hG.run [25] 20 ?_
      simp [wp, stepI, ln, jmp, cmpI, Value.category, rd, tyF, va_rf, st1, st2, clr, isLg, CB, inx_0, inx_1, inx_2, inx_3, inx_4, inx_5, bI_0, bI_1, bI_ok, fin3, tyX11, entL, q0, dX11_say_0, dX11_say_1, dX11_say_2, dX11_say_3, dX11_say_6, dX11_say_9, dX11_say_10, dX11_say_13, dX11_say_14, dX11_say_15, dX11_say_18, dX11_say_19, dX11_say_22, dX11_say_23, dX11_say_25, dX11_say_27, dX11_say_30, dX11_say_31, fT_11_23, dX11_say_34, fT_11_127, dX11_say_37, dX11_say_39, dX11_say_42, dX11_say_43, dX11_say_44, dX11_say_45, dX11_say_48, dX11_say_49, dX11_say_50, dX11_say_51, dX11_say_54, dX11_say_55, dX11_say_58, dX11_say_59, dX11_say_62, dX11_say_65]
      simp (disch := omega) only [li, nI_add, nI_clamp, nI_ltI, nI_leI, nI_eq, inx_iff, a31, nI_1shl', nI_shr', div_bit, tb1, tb0, fa_or, fa_and, nI_not, pk_sub, nI_dec]
      refine ⟨fun z => by omega, fun _ => ⟨fun z => by omega, fun _ => go⟩⟩
set_option maxHeartbeats 800000 in
set_option maxRecDepth 100000 in
theorem c11_unsay (l : Launch) (X : Cx) (d : Nat) (sh : Nat → Option Sh) (mI : Nat → Nat → Int32) (mL : Nat → Nat → Int64) (mR : Nat → Nat → Option Nat) (n : Nat) (hB : BL sh mR) (C : Nat) (A : DD) (hV : AsV A) (hS : ShA sh mI mR n 20 C A) (hd : 2 ≤ d) : Cn l X yX11_unsay cX11_unsay 1 (some .boolean) d [.ref 0] (sh, mI, mL, mR, n) (fun r M' => r = some (.int (bI (decide (A 0 2 ≠ 0)))) ∧ (A 0 2 ≠ 0 → ∃ mI', M' = (sh, fgI mI', mL, mR, n) ∧ (∀ a k, ¬ (a = 20 ∧ k = 4) → mI' a k = mI a k) ∧ ShA sh mI' mR n 20 C (aUns A)) ∧ (A 0 2 = 0 → M' = (sh, mI, mL, mR, n))) 0 0 := by
  refine Cn.run 11 false (by decide) rfl (by decide) (by simp [entA, Value.category]) ?_
  intro P G hP hG
  have q0 := hB.1
  have b3 := hB.2.2.2.1.1
  have o6 := hB.2.2.2.1.2
  have s6 := o6.1
  have cs := hS.2.2.1
  have c40 := hV.1.2.2.1
  by_cases hc : A 0 2 = 0
  · have q := hP (some (.int 0)) _ ⟨by rw [decide_eq_false (fun z => z hc)]; rfl, fun z => absurd hc z, fun _ => rfl⟩
    refine hG.run [12] 20 ?_
    simp [wp, stepI, ln, jmp, cmpI, Value.category, rd, tyF, va_rf, st1, st2, clr, isLg, CB, inx_0, inx_1, inx_2, inx_3, inx_4, inx_5, bI_0, bI_1, bI_ok, fin3, tyX11, entL, q0, b3, s6, cs, tyX6, dX11_unsay_0, dX11_unsay_1, fT_11_23, dX11_unsay_4, fT_11_127, dX11_unsay_7, dX11_unsay_10, dX11_unsay_11, dX11_unsay_12, dX11_unsay_13, dX11_unsay_16, dX11_unsay_17, dX11_unsay_20, dX11_unsay_21, dX11_unsay_22, dX11_unsay_25, dX11_unsay_26, dX11_unsay_29, dX11_unsay_30]
    simp (disch := omega) only [li, nI_add, nI_clamp, nI_ltI, nI_leI, nI_eq, inx_iff, a31, nI_1shl', nI_shr', div_bit, tb1, tb0, fa_or, fa_and, nI_not, pk_sub, nI_dec]
    exact ⟨fun z => absurd hc z, fun _ => q⟩
  · have mid : G 12 [some (.ref 0)] [] (sh, mI, mL, mR, n) := by
      refine hG.run [25] 20 ?_
      simp [wp, stepI, ln, jmp, cmpI, Value.category, rd, tyF, va_rf, st1, st2, clr, isLg, CB, inx_0, inx_1, inx_2, inx_3, inx_4, inx_5, bI_0, bI_1, bI_ok, fin3, tyX11, entL, q0, b3, s6, cs, tyX6, okv, wr, finF, clT, TX6, dX11_unsay_0, dX11_unsay_1, fT_11_23, dX11_unsay_4, fT_11_127, dX11_unsay_7, dX11_unsay_10, dX11_unsay_11, dX11_unsay_12, dX11_unsay_13, dX11_unsay_16, dX11_unsay_17, dX11_unsay_20, dX11_unsay_21, dX11_unsay_22, dX11_unsay_25, dX11_unsay_26, dX11_unsay_29, dX11_unsay_30]
      simp (disch := omega) only [li, nI_add, nI_clamp, nI_ltI, nI_leI, nI_eq, inx_iff, a31, nI_1shl', nI_shr', div_bit, tb1, tb0, fa_or, fa_and, nI_not, pk_sub, nI_dec]
      have f1 : ∀ a k, ¬ (a = 20 ∧ k = 4) → up2 mI 20 4 (nI (A 0 2 - 1)) a k = mI a k := fun a k h => up2_ne h
      have S1 : up2 mI 20 4 (nI (A 0 2 - 1)) 20 4 = nI (A 0 2 - 1) := up2_eq ..
      generalize up2 mI 20 4 (nI (A 0 2 - 1)) = mI1 at f1 S1 ⊢
      have SA : ShA sh mI1 mR n 20 C (aUns A) := ShA.mk2 hS.1 (ScA_uns (hS.2.1.fr2 (Nat.le_refl _) (fun _ _ => rfl) (fun _ _ _ _ => rfl) (fun a k h _ => f1 a k (by omega)))) S1 (fun k hk => by
        have hk' : k < A 0 2 - 1 := hk
        have z := hS.2.2.2.1 k (by omega)
        exact ⟨(f1 _ _ (by omega)).trans z.1, (f1 _ _ (by omega)).trans z.2.1, (f1 _ _ (by omega)).trans z.2.2⟩) (fun p hp => ⟨(f1 _ _ (by omega)).trans (hS.2.2.2.2 p hp).1, (f1 _ _ (by omega)).trans (hS.2.2.2.2 p hp).2⟩)
      refine hG.run [] 20 ?_
      simp [wp, stepI, ln, jmp, cmpI, Value.category, rd, tyF, va_rf, st1, st2, clr, isLg, CB, inx_0, inx_1, inx_2, inx_3, inx_4, inx_5, bI_0, bI_1, bI_ok, fin3, tyX11, entL, q0, dX11_unsay_0, dX11_unsay_1, fT_11_23, dX11_unsay_4, fT_11_127, dX11_unsay_7, dX11_unsay_10, dX11_unsay_11, dX11_unsay_12, dX11_unsay_13, dX11_unsay_16, dX11_unsay_17, dX11_unsay_20, dX11_unsay_21, dX11_unsay_22, dX11_unsay_25, dX11_unsay_26, dX11_unsay_29, dX11_unsay_30]
      refine hG.callV dX11_unsay_26 mv_11_97 [] [] (c11_forgetStudies l X (d - 1) sh mI1 mL mR n hB (by omega)) ⟨_, rfl, rfl⟩ q0 (by omega) rfl (by decide) (by simp [Value.category]) rfl ?_
      rintro r M' ⟨rfl, rfl⟩
      have qq := hP (some (.int 1)) (sh, fgI mI1, mL, mR, n) ⟨by rw [decide_eq_true hc]; rfl, fun _ => ⟨mI1, rfl, f1, SA⟩, fun z => absurd z hc⟩
      refine hG.run [] 20 ?_
      simp [wp, stepI, ln, jmp, cmpI, Value.category, rd, tyF, va_rf, st1, st2, clr, isLg, CB, inx_0, inx_1, inx_2, inx_3, inx_4, inx_5, bI_0, bI_1, bI_ok, fin3, tyX11, entL, q0, dX11_unsay_0, dX11_unsay_1, fT_11_23, dX11_unsay_4, fT_11_127, dX11_unsay_7, dX11_unsay_10, dX11_unsay_11, dX11_unsay_12, dX11_unsay_13, dX11_unsay_16, dX11_unsay_17, dX11_unsay_20, dX11_unsay_21, dX11_unsay_22, dX11_unsay_25, dX11_unsay_26, dX11_unsay_29, dX11_unsay_30]
      exact qq
    refine hG.run [12] 20 ?_
    simp [wp, stepI, ln, jmp, cmpI, Value.category, rd, tyF, va_rf, st1, st2, clr, isLg, CB, inx_0, inx_1, inx_2, inx_3, inx_4, inx_5, bI_0, bI_1, bI_ok, fin3, tyX11, entL, q0, b3, s6, cs, tyX6, dX11_unsay_0, dX11_unsay_1, fT_11_23, dX11_unsay_4, fT_11_127, dX11_unsay_7, dX11_unsay_10, dX11_unsay_11, dX11_unsay_12, dX11_unsay_13, dX11_unsay_16, dX11_unsay_17, dX11_unsay_20, dX11_unsay_21, dX11_unsay_22, dX11_unsay_25, dX11_unsay_26, dX11_unsay_29, dX11_unsay_30]
    simp (disch := omega) only [li, nI_add, nI_clamp, nI_ltI, nI_leI, nI_eq, inx_iff, a31, nI_1shl', nI_shr', div_bit, tb1, tb0, fa_or, fa_and, nI_not, pk_sub, nI_dec]
    exact ⟨fun _ => mid, fun z => absurd z hc⟩
