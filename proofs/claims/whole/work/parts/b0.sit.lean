/-! sit, plan -/
def kS (k : Int32) : Nat := (k + nI 1).toNatClampNeg
theorem kS_ok : ∀ s, s ≤ 12 → kS (nI s - nI 1) = s ∧ nI 1 + (nI s - nI 1) = nI s := by decide +kernel
theorem aS_i {A : DD} {k : Int32} (hV : AsV A) (h : aS A k = true) : ∃ s, s ≤ 2 * A 0 1 ∧ k = nI s - nI 1 := by
  have h6 := hV.1.2.1
  have h' : -nI 1 ≤ k ∧ k < nI (2 * A 0 1) := of_decide_eq_true h
  by_cases e : k = -nI 1
  · exact ⟨0, Nat.zero_le _, e⟩
  · have a1 := Int32.le_iff_toInt_le.mp h'.1
    have e2 : k.toInt ≠ (-nI 1).toInt := fun z => e (Int32.toInt_inj.mp z)
    have e3 : (-nI 1).toInt = -1 := rfl
    obtain ⟨s, hs, rfl⟩ := nI_of (x := k) (by
      intro z
      have := Int32.lt_iff_toInt_lt.mp z
      have e4 : (0 : Int32).toInt = 0 := rfl
      have e5 : (nI 0).toInt = 0 := rfl
      omega)
    have hs2 : s < 2 * A 0 1 := (nI_ltI hs (by omega)).mp h'.2
    refine ⟨s + 1, by omega, ?_⟩
    exact (by decide +kernel : ∀ s, s < 12 → nI s = nI (s + 1) - nI 1) s (by omega)
def siB (A : DD) (x k : Int32) : Bool := aP A x && aS A k && !decide (nI (A 11 x.toNatClampNeg) - nI 1 = k) && (decide (k = -nI 1) || decide (¬ sitF (A 0 0) (A 11) k < A 0 0))
def aSit (A : DD) (p s : Nat) : DD := setA A 11 (upN (A 11) p s)
def aPln (A : DD) (p s : Nat) : DD := setA A 12 (upN (A 12) p s)
theorem ScA_sit {sh : Nat → Option Sh} {mI : Nat → Nat → Int32} {mR : Nat → Nat → Option Nat} {n C : Nat} {A : DD} {p s : Nat} (h : ScA sh mI mR n C A) : ScA sh mI mR n C (aSit A p s) := h
theorem ScA_pln {sh : Nat → Option Sh} {mI : Nat → Nat → Int32} {mR : Nat → Nat → Option Nat} {n C : Nat} {A : DD} {p s : Nat} (h : ScA sh mI mR n C A) : ScA sh mI mR n C (aPln A p s) := h
theorem nI_s1 {a b : Nat} (ha : a ≤ 12) (hb : b ≤ 12) : nI a - nI 1 = nI b - nI 1 ↔ a = b := (by decide +kernel : ∀ a, a ≤ 12 → ∀ b, b ≤ 12 → (nI a - nI 1 = nI b - nI 1 ↔ a = b)) a ha b hb
theorem nI_s0 {a : Nat} (ha : a ≤ 12) : nI a - nI 1 = -nI 1 ↔ a = 0 := (by decide +kernel : ∀ a, a ≤ 12 → (nI a - nI 1 = -nI 1 ↔ a = 0)) a ha
theorem aSit_V {A : DD} (h : AsV A) {p s : Nat} (hs : s ≤ 2 * A 0 1) (hf : s = 0 ∨ ¬ sitF (A 0 0) (A 11) (nI s - nI 1) < A 0 0) : AsV (aSit A p s) := by
  obtain ⟨⟨v1, v2, v3, v4, v5⟩, w1, w2, w3, w4, w5, w6, w7⟩ := h
  have hno : ∀ q, q < A 0 0 → s ≠ 0 → A 11 q ≠ s := fun q hq h0 e => by
    rcases hf with z | z
    · exact h0 z
    · have le := fa_first_le (fun p => decide (nI (A 11 p) - nI 1 = nI s - nI 1)) (A 0 0)
      have := fa_first_no (fun p => decide (nI (A 11 p) - nI 1 = nI s - nI 1)) (A 0 0) q (by unfold sitF at z; omega)
      exact (of_decide_eq_false this) (by rw [e])
  refine ⟨⟨v1, v2, v3, v4, v5⟩, w1, w2, w3, w4, w5, fun q hq => ?_, fun q r hq hr hqr => ⟨?_, (w7 q r hq hr hqr).2⟩⟩
  · refine ⟨?_, (w6 q hq).2⟩
    show upN (A 11) p s q ≤ 2 * A 0 1
    by_cases e : q = p
    · subst e; rw [upN_eq]; exact hs
    · rw [upN_ne e]; exact (w6 q hq).1
  · show upN (A 11) p s q ≠ 0 → upN (A 11) p s q ≠ upN (A 11) p s r
    have hq' : q < A 0 0 := hq
    have hr' : r < A 0 0 := hr
    by_cases e : q = p
    · subst e
      rw [upN_eq, upN_ne (fun z => hqr z.symm)]
      exact fun z y => hno r hr' z y.symm
    · rw [upN_ne e]
      by_cases e2 : r = p
      · subst e2
        rw [upN_eq]
        exact fun z y => hno q hq' (y ▸ z) y
      · rw [upN_ne e2]
        exact (w7 q r hq' hr' hqr).1
set_option maxHeartbeats 800000 in
set_option maxRecDepth 100000 in
theorem c11_sit (l : Launch) (X : Cx) (d : Nat) (sh : Nat → Option Sh) (mI : Nat → Nat → Int32) (mL : Nat → Nat → Int64) (mR : Nat → Nat → Option Nat) (n : Nat) (hB : BL sh mR) (C : Nat) (A : DD) (hV : AsV A) (hS : ShA sh mI mR n 20 C A) (x k : Int32) (hd : 2 ≤ d) : Cn l X yX11_sit cX11_sit 3 (some .boolean) d [.ref 0, .int x, .int k] (sh, mI, mL, mR, n) (fun r M' => r = some (.int (bI (siB A x k))) ∧ (siB A x k = true → ∃ mI', M' = (sh, mI', mL, mR, n) ∧ (∀ a k, a ≠ 30 → mI' a k = mI a k) ∧ ShA sh mI' mR n 20 C (aSit A x.toNatClampNeg (kS k))) ∧ (siB A x k = false → M' = (sh, mI, mL, mR, n))) 0 0 := by
  refine Cn.run 11 false (by decide) rfl (by decide) (by simp [entA, Value.category]) ?_
  intro P G hP hG
  have q0 := hB.1
  have b3 := hB.2.2.2.1.1
  have o6 := hB.2.2.2.1.2
  have s6 := o6.1
  have hnp := hV.1.1
  have hb6 := hV.1.2.1
  have ks := o6.2.2 (5, 10, .int, 10) (by decide)
  dsimp only at ks
  obtain ⟨z1, z2, z3, z4, -⟩ := hS.s hV
  have no : siB A x k = false → P (some (.int 0)) (sh, mI, mL, mR, n) := fun z => hP _ _ ⟨by rw [z]; rfl, fun z2 => absurd (z.symm.trans z2) (by decide), fun _ => rfl⟩
  have no29 : siB A x k = false → G 29 [some (.ref 0), some (.int x), some (.int k)] [] (sh, mI, mL, mR, n) := fun z => by
    have q := no z
    refine hG.run [] 20 ?_
    simp [wp, stepI, ln, jmp, cmpI, Value.category, rd, tyF, va_rf, st1, st2, clr, isLg, CB, inx_0, inx_1, inx_2, inx_3, inx_4, inx_5, bI_0, bI_1, bI_ok, fin3, tyX11, entL, q0, dX11_sit_0, dX11_sit_1, dX11_sit_2, dX11_sit_5, dX11_sit_8, dX11_sit_9, dX11_sit_10, dX11_sit_13, dX11_sit_16, dX11_sit_17, fT_11_23, dX11_sit_20, fT_11_117, dX11_sit_23, dX11_sit_24, dX11_sit_25, dX11_sit_26, dX11_sit_29, dX11_sit_30, dX11_sit_31, dX11_sit_32, dX11_sit_33, dX11_sit_36, dX11_sit_37, dX11_sit_40, dX11_sit_41, dX11_sit_44, dX11_sit_45, dX11_sit_48, dX11_sit_49, dX11_sit_50, dX11_sit_51, dX11_sit_54, dX11_sit_57, dX11_sit_58, dX11_sit_59, dX11_sit_60, dX11_sit_61]
    exact q
  refine hG.run [] 20 ?_
  simp [wp, stepI, ln, jmp, cmpI, Value.category, rd, tyF, va_rf, st1, st2, clr, isLg, CB, inx_0, inx_1, inx_2, inx_3, inx_4, inx_5, bI_0, bI_1, bI_ok, fin3, tyX11, entL, q0, dX11_sit_0, dX11_sit_1, dX11_sit_2, dX11_sit_5, dX11_sit_8, dX11_sit_9, dX11_sit_10, dX11_sit_13, dX11_sit_16, dX11_sit_17, fT_11_23, dX11_sit_20, fT_11_117, dX11_sit_23, dX11_sit_24, dX11_sit_25, dX11_sit_26, dX11_sit_29, dX11_sit_30, dX11_sit_31, dX11_sit_32, dX11_sit_33, dX11_sit_36, dX11_sit_37, dX11_sit_40, dX11_sit_41, dX11_sit_44, dX11_sit_45, dX11_sit_48, dX11_sit_49, dX11_sit_50, dX11_sit_51, dX11_sit_54, dX11_sit_57, dX11_sit_58, dX11_sit_59, dX11_sit_60, dX11_sit_61]
  refine hG.callV dX11_sit_2 mv_11_100 [.int x] [] (c11_isPupil l X (d - 1) sh mI mL mR n hB C A hS x) ⟨_, rfl, rfl⟩ q0 (by omega) rfl (by decide) (by simp [Value.category]) rfl ?_
  rintro r M' ⟨rfl, rfl⟩
  cases h1 : aP A x with
  | false =>
    have q := no29 (by unfold siB; rw [h1]; rfl)
    refine hG.run [29, 8] 20 ?_
    simp [wp, stepI, ln, jmp, cmpI, Value.category, rd, tyF, va_rf, st1, st2, clr, isLg, CB, inx_0, inx_1, inx_2, inx_3, inx_4, inx_5, bI_0, bI_1, bI_ok, fin3, tyX11, entL, q0, dX11_sit_0, dX11_sit_1, dX11_sit_2, dX11_sit_5, dX11_sit_8, dX11_sit_9, dX11_sit_10, dX11_sit_13, dX11_sit_16, dX11_sit_17, fT_11_23, dX11_sit_20, fT_11_117, dX11_sit_23, dX11_sit_24, dX11_sit_25, dX11_sit_26, dX11_sit_29, dX11_sit_30, dX11_sit_31, dX11_sit_32, dX11_sit_33, dX11_sit_36, dX11_sit_37, dX11_sit_40, dX11_sit_41, dX11_sit_44, dX11_sit_45, dX11_sit_48, dX11_sit_49, dX11_sit_50, dX11_sit_51, dX11_sit_54, dX11_sit_57, dX11_sit_58, dX11_sit_59, dX11_sit_60, dX11_sit_61]
    exact q
  | true =>
    obtain ⟨p, hp, rfl⟩ := aP_i hV h1
    refine hG.run [29, 10] 20 ?_
    simp [wp, stepI, ln, jmp, cmpI, Value.category, rd, tyF, va_rf, st1, st2, clr, isLg, CB, inx_0, inx_1, inx_2, inx_3, inx_4, inx_5, bI_0, bI_1, bI_ok, fin3, tyX11, entL, q0, dX11_sit_0, dX11_sit_1, dX11_sit_2, dX11_sit_5, dX11_sit_8, dX11_sit_9, dX11_sit_10, dX11_sit_13, dX11_sit_16, dX11_sit_17, fT_11_23, dX11_sit_20, fT_11_117, dX11_sit_23, dX11_sit_24, dX11_sit_25, dX11_sit_26, dX11_sit_29, dX11_sit_30, dX11_sit_31, dX11_sit_32, dX11_sit_33, dX11_sit_36, dX11_sit_37, dX11_sit_40, dX11_sit_41, dX11_sit_44, dX11_sit_45, dX11_sit_48, dX11_sit_49, dX11_sit_50, dX11_sit_51, dX11_sit_54, dX11_sit_57, dX11_sit_58, dX11_sit_59, dX11_sit_60, dX11_sit_61]
    refine hG.callV dX11_sit_10 mv_11_210 [.int k] [] (c11_isSeatOrNone l X (d - 1) sh mI mL mR n hB C A hS k) ⟨_, rfl, rfl⟩ q0 (by omega) rfl (by decide) (by simp [Value.category]) rfl ?_
    rintro r M' ⟨rfl, rfl⟩
    cases h2 : aS A k with
    | false =>
      have q := no29 (by unfold siB; rw [h2, Bool.and_false]; rfl)
      refine hG.run [29, 16] 20 ?_
      simp [wp, stepI, ln, jmp, cmpI, Value.category, rd, tyF, va_rf, st1, st2, clr, isLg, CB, inx_0, inx_1, inx_2, inx_3, inx_4, inx_5, bI_0, bI_1, bI_ok, fin3, tyX11, entL, q0, dX11_sit_0, dX11_sit_1, dX11_sit_2, dX11_sit_5, dX11_sit_8, dX11_sit_9, dX11_sit_10, dX11_sit_13, dX11_sit_16, dX11_sit_17, fT_11_23, dX11_sit_20, fT_11_117, dX11_sit_23, dX11_sit_24, dX11_sit_25, dX11_sit_26, dX11_sit_29, dX11_sit_30, dX11_sit_31, dX11_sit_32, dX11_sit_33, dX11_sit_36, dX11_sit_37, dX11_sit_40, dX11_sit_41, dX11_sit_44, dX11_sit_45, dX11_sit_48, dX11_sit_49, dX11_sit_50, dX11_sit_51, dX11_sit_54, dX11_sit_57, dX11_sit_58, dX11_sit_59, dX11_sit_60, dX11_sit_61]
      exact q
    | true =>
      obtain ⟨s, hs, rfl⟩ := aS_i hV h2
      have hs12 : s ≤ 12 := by omega
      obtain ⟨k1, k2⟩ := kS_ok s hs12
      have vp := (hS.2.2.2.2 p hp).1
      have st12 := (z2 p hp).2
      have w0 : siB A (nI p) (nI s - nI 1) = (!decide (A 11 p = s) && (decide (s = 0) || decide (¬ sitF (A 0 0) (A 11) (nI s - nI 1) < A 0 0))) := by
        unfold siB
        rw [h1, h2, nI_clamp (by omega), Bool.true_and, Bool.true_and]
        have a1 : decide (nI (A 11 p) - nI 1 = nI s - nI 1) = decide (A 11 p = s) := decide_eq_decide.mpr (nI_s1 st12 hs12)
        have a2 : decide (nI s - nI 1 = -nI 1) = decide (s = 0) := decide_eq_decide.mpr (nI_s0 hs12)
        rw [a1, a2]
      have last : siB A (nI p) (nI s - nI 1) = true → G 50 [some (.ref 0), some (.int (nI p)), some (.int (nI s - nI 1))] [] (sh, mI, mL, mR, n) := fun z => by
        have f1 : ∀ a k, a ≠ 30 → up2 mI 30 p (nI s - nI 1) a k = mI a k := fun a k h => up2_ne (fun z => h z.1)
        have f2 : ∀ k, up2 mI 30 p (nI s - nI 1) 30 k = if k = p then nI s - nI 1 else mI 30 k := fun k => by
          by_cases e : k = p
          · subst e; rw [up2_eq, if_pos rfl]
          · rw [up2_ne (fun z => e z.2), if_neg e]
        have SA : ShA sh (up2 mI 30 p (nI s - nI 1)) mR n 20 C (aSit A p s) := ShA.mk2 hS.1 (ScA_sit (hS.2.1.fr2 (Nat.le_refl _) (fun _ _ => rfl) (fun _ _ _ _ => rfl) (fun a k h _ => f1 a k (by omega)))) ((f1 _ _ (by decide)).trans hS.2.2.1) (fun k hk => ⟨(f1 _ _ (by decide)).trans (hS.2.2.2.1 k hk).1, (f1 _ _ (by decide)).trans (hS.2.2.2.1 k hk).2.1, (f1 _ _ (by decide)).trans (hS.2.2.2.1 k hk).2.2⟩) (fun q hq => by
          refine ⟨?_, (f1 _ _ (by decide)).trans (hS.2.2.2.2 q hq).2⟩
          show up2 mI 30 p (nI s - nI 1) 30 q = nI (upN (A 11) p s q) - nI 1
          rw [f2]
          by_cases e : q = p
          · rw [if_pos e, e, upN_eq]
          · rw [if_neg e, upN_ne e]; exact (hS.2.2.2.2 q hq).1)
        have qq := hP (some (.int 1)) (sh, up2 mI 30 p (nI s - nI 1), mL, mR, n) ⟨by rw [z]; rfl, fun _ => ⟨_, rfl, f1, by rw [nI_clamp (by omega), k1]; exact SA⟩, fun y => absurd (z.symm.trans y) (by decide)⟩
        refine hG.run [] 20 ?_
        simp [wp, stepI, ln, jmp, cmpI, Value.category, rd, tyF, va_rf, st1, st2, clr, isLg, CB, inx_0, inx_1, inx_2, inx_3, inx_4, inx_5, bI_0, bI_1, bI_ok, fin3, tyX11, entL, q0, b3, s6, ks, tyX6, okT, dX11_sit_0, dX11_sit_1, dX11_sit_2, dX11_sit_5, dX11_sit_8, dX11_sit_9, dX11_sit_10, dX11_sit_13, dX11_sit_16, dX11_sit_17, fT_11_23, dX11_sit_20, fT_11_117, dX11_sit_23, dX11_sit_24, dX11_sit_25, dX11_sit_26, dX11_sit_29, dX11_sit_30, dX11_sit_31, dX11_sit_32, dX11_sit_33, dX11_sit_36, dX11_sit_37, dX11_sit_40, dX11_sit_41, dX11_sit_44, dX11_sit_45, dX11_sit_48, dX11_sit_49, dX11_sit_50, dX11_sit_51, dX11_sit_54, dX11_sit_57, dX11_sit_58, dX11_sit_59, dX11_sit_60, dX11_sit_61]
        simp (disch := omega) only [li, nI_add, nI_clamp, nI_ltI, nI_leI, nI_eq, inx_iff, a31, nI_1shl', nI_shr', div_bit, tb1, tb0, fa_or, fa_and, nI_not, pk_sub, nI_dec]
        exact ⟨by omega, qq⟩
      have mid : ¬ A 11 p = s → G 31 [some (.ref 0), some (.int (nI p)), some (.int (nI s - nI 1))] [] (sh, mI, mL, mR, n) := fun hne => by
        have e3 := @nI_s0 s hs12
        by_cases h0 : s = 0
        · have q := last (by rw [w0, decide_eq_false hne, decide_eq_true h0]; rfl)
          have h0' : nI s - nI 1 = -1 := e3.mpr h0
          refine hG.run [36, 50] 20 ?_
          simp [wp, stepI, ln, jmp, cmpI, Value.category, rd, tyF, va_rf, st1, st2, clr, isLg, CB, inx_0, inx_1, inx_2, inx_3, inx_4, inx_5, bI_0, bI_1, bI_ok, fin3, tyX11, entL, q0, dX11_sit_0, dX11_sit_1, dX11_sit_2, dX11_sit_5, dX11_sit_8, dX11_sit_9, dX11_sit_10, dX11_sit_13, dX11_sit_16, dX11_sit_17, fT_11_23, dX11_sit_20, fT_11_117, dX11_sit_23, dX11_sit_24, dX11_sit_25, dX11_sit_26, dX11_sit_29, dX11_sit_30, dX11_sit_31, dX11_sit_32, dX11_sit_33, dX11_sit_36, dX11_sit_37, dX11_sit_40, dX11_sit_41, dX11_sit_44, dX11_sit_45, dX11_sit_48, dX11_sit_49, dX11_sit_50, dX11_sit_51, dX11_sit_54, dX11_sit_57, dX11_sit_58, dX11_sit_59, dX11_sit_60, dX11_sit_61]
          exact ⟨fun _ => q, fun z => absurd h0' z⟩
        · have h0' : ¬ nI s - nI 1 = -1 := fun z => h0 (e3.mp z)
          refine hG.run [36, 50] 20 ?_
          simp [wp, stepI, ln, jmp, cmpI, Value.category, rd, tyF, va_rf, st1, st2, clr, isLg, CB, inx_0, inx_1, inx_2, inx_3, inx_4, inx_5, bI_0, bI_1, bI_ok, fin3, tyX11, entL, q0, dX11_sit_0, dX11_sit_1, dX11_sit_2, dX11_sit_5, dX11_sit_8, dX11_sit_9, dX11_sit_10, dX11_sit_13, dX11_sit_16, dX11_sit_17, fT_11_23, dX11_sit_20, fT_11_117, dX11_sit_23, dX11_sit_24, dX11_sit_25, dX11_sit_26, dX11_sit_29, dX11_sit_30, dX11_sit_31, dX11_sit_32, dX11_sit_33, dX11_sit_36, dX11_sit_37, dX11_sit_40, dX11_sit_41, dX11_sit_44, dX11_sit_45, dX11_sit_48, dX11_sit_49, dX11_sit_50, dX11_sit_51, dX11_sit_54, dX11_sit_57, dX11_sit_58, dX11_sit_59, dX11_sit_60, dX11_sit_61]
          refine ⟨fun z => absurd z h0', fun _ => ?_⟩
          refine hG.run [] 20 ?_
          simp [wp, stepI, ln, jmp, cmpI, Value.category, rd, tyF, va_rf, st1, st2, clr, isLg, CB, inx_0, inx_1, inx_2, inx_3, inx_4, inx_5, bI_0, bI_1, bI_ok, fin3, tyX11, entL, q0, b3, dX11_sit_0, dX11_sit_1, dX11_sit_2, dX11_sit_5, dX11_sit_8, dX11_sit_9, dX11_sit_10, dX11_sit_13, dX11_sit_16, dX11_sit_17, fT_11_23, dX11_sit_20, fT_11_117, dX11_sit_23, dX11_sit_24, dX11_sit_25, dX11_sit_26, dX11_sit_29, dX11_sit_30, dX11_sit_31, dX11_sit_32, dX11_sit_33, dX11_sit_36, dX11_sit_37, dX11_sit_40, dX11_sit_41, dX11_sit_44, dX11_sit_45, dX11_sit_48, dX11_sit_49, dX11_sit_50, dX11_sit_51, dX11_sit_54, dX11_sit_57, dX11_sit_58, dX11_sit_59, dX11_sit_60, dX11_sit_61]
          refine hG.callV dX11_sit_41 mv_11_213 [.int (nI s - nI 1)] [] (c6_sitterOn l X (d - 1) sh mI mL mR n 20 C o6 hS.1 hS.2.1.1.1 (A 0 0) z1 (A 11) z2 (nI s - nI 1)) ⟨_, rfl, rfl⟩ s6 (by omega) rfl (by decide) (by simp [Value.category]) rfl ?_
          rintro r M' ⟨rfl, rfl⟩
          by_cases hf : sitF (A 0 0) (A 11) (nI s - nI 1) < A 0 0
          · rw [if_pos hf]
            have q := no (by rw [w0, decide_eq_false h0, decide_eq_false (show ¬ ¬ sitF (A 0 0) (A 11) (nI s - nI 1) < A 0 0 from fun z => z hf), Bool.or_false, Bool.and_false])
            have e4 : ¬ nI (sitF (A 0 0) (A 11) (nI s - nI 1)) = -1 := fun z => (by decide +kernel : ∀ v, v < 10 → ¬ nI v = -nI 1) _ (by omega) z
            refine hG.run [50] 20 ?_
            simp [wp, stepI, ln, jmp, cmpI, Value.category, rd, tyF, va_rf, st1, st2, clr, isLg, CB, inx_0, inx_1, inx_2, inx_3, inx_4, inx_5, bI_0, bI_1, bI_ok, fin3, tyX11, entL, q0, dX11_sit_0, dX11_sit_1, dX11_sit_2, dX11_sit_5, dX11_sit_8, dX11_sit_9, dX11_sit_10, dX11_sit_13, dX11_sit_16, dX11_sit_17, fT_11_23, dX11_sit_20, fT_11_117, dX11_sit_23, dX11_sit_24, dX11_sit_25, dX11_sit_26, dX11_sit_29, dX11_sit_30, dX11_sit_31, dX11_sit_32, dX11_sit_33, dX11_sit_36, dX11_sit_37, dX11_sit_40, dX11_sit_41, dX11_sit_44, dX11_sit_45, dX11_sit_48, dX11_sit_49, dX11_sit_50, dX11_sit_51, dX11_sit_54, dX11_sit_57, dX11_sit_58, dX11_sit_59, dX11_sit_60, dX11_sit_61]
            exact ⟨fun z => absurd z e4, fun _ => q⟩
          · rw [if_neg hf]
            have q := last (by rw [w0, decide_eq_false hne, decide_eq_false h0, decide_eq_true hf]; rfl)
            refine hG.run [50] 20 ?_
            simp [wp, stepI, ln, jmp, cmpI, Value.category, rd, tyF, va_rf, st1, st2, clr, isLg, CB, inx_0, inx_1, inx_2, inx_3, inx_4, inx_5, bI_0, bI_1, bI_ok, fin3, tyX11, entL, q0, dX11_sit_0, dX11_sit_1, dX11_sit_2, dX11_sit_5, dX11_sit_8, dX11_sit_9, dX11_sit_10, dX11_sit_13, dX11_sit_16, dX11_sit_17, fT_11_23, dX11_sit_20, fT_11_117, dX11_sit_23, dX11_sit_24, dX11_sit_25, dX11_sit_26, dX11_sit_29, dX11_sit_30, dX11_sit_31, dX11_sit_32, dX11_sit_33, dX11_sit_36, dX11_sit_37, dX11_sit_40, dX11_sit_41, dX11_sit_44, dX11_sit_45, dX11_sit_48, dX11_sit_49, dX11_sit_50, dX11_sit_51, dX11_sit_54, dX11_sit_57, dX11_sit_58, dX11_sit_59, dX11_sit_60, dX11_sit_61]
            exact ⟨fun _ => q, fun z => absurd rfl z⟩
      have e5 := nI_s1 st12 hs12
      refine hG.run [29, 31] 20 ?_
      simp [wp, stepI, ln, jmp, cmpI, Value.category, rd, tyF, va_rf, st1, st2, clr, isLg, CB, inx_0, inx_1, inx_2, inx_3, inx_4, inx_5, bI_0, bI_1, bI_ok, fin3, tyX11, entL, q0, b3, s6, ks, tyX6, okT, dX11_sit_0, dX11_sit_1, dX11_sit_2, dX11_sit_5, dX11_sit_8, dX11_sit_9, dX11_sit_10, dX11_sit_13, dX11_sit_16, dX11_sit_17, fT_11_23, dX11_sit_20, fT_11_117, dX11_sit_23, dX11_sit_24, dX11_sit_25, dX11_sit_26, dX11_sit_29, dX11_sit_30, dX11_sit_31, dX11_sit_32, dX11_sit_33, dX11_sit_36, dX11_sit_37, dX11_sit_40, dX11_sit_41, dX11_sit_44, dX11_sit_45, dX11_sit_48, dX11_sit_49, dX11_sit_50, dX11_sit_51, dX11_sit_54, dX11_sit_57, dX11_sit_58, dX11_sit_59, dX11_sit_60, dX11_sit_61]
      simp (disch := omega) only [li, nI_add, nI_clamp, nI_ltI, nI_leI, nI_eq, inx_iff, a31, nI_1shl', nI_shr', div_bit, tb1, tb0, fa_or, fa_and, nI_not, pk_sub, nI_dec, vp]
      refine ⟨by omega, fun z => mid (fun y => z (e5.mpr y)), fun z => no29 (by rw [w0, decide_eq_true (e5.mp z)]; rfl)⟩
def plF (np : Nat) (pl : Nat → Nat) (a : Nat) (k : Int32) : Nat := fa_first (fun p => decide (p ≠ a) && decide (nI (pl p) - nI 1 = k)) np
def piB (A : DD) (x k : Int32) : Bool := aP A x && aS A k && (decide (k = -nI 1) || decide (¬ plF (A 0 0) (A 12) x.toNatClampNeg k < A 0 0))
theorem aPln_V {A : DD} (h : AsV A) {p s : Nat} (hs : s ≤ 2 * A 0 1) (hf : s = 0 ∨ ¬ plF (A 0 0) (A 12) p (nI s - nI 1) < A 0 0) : AsV (aPln A p s) := by
  obtain ⟨⟨v1, v2, v3, v4, v5⟩, w1, w2, w3, w4, w5, w6, w7⟩ := h
  have hno : ∀ q, q < A 0 0 → q ≠ p → s ≠ 0 → A 12 q ≠ s := fun q hq hqp h0 e => by
    rcases hf with z | z
    · exact h0 z
    · have le := fa_first_le (fun q => decide (q ≠ p) && decide (nI (A 12 q) - nI 1 = nI s - nI 1)) (A 0 0)
      have := fa_first_no (fun q => decide (q ≠ p) && decide (nI (A 12 q) - nI 1 = nI s - nI 1)) (A 0 0) q (by unfold plF at z; omega)
      rw [decide_eq_true hqp, Bool.true_and] at this
      exact (of_decide_eq_false this) (by rw [e])
  refine ⟨⟨v1, v2, v3, v4, v5⟩, w1, w2, w3, w4, w5, fun q hq => ?_, fun q r hq hr hqr => ⟨(w7 q r hq hr hqr).1, ?_⟩⟩
  · refine ⟨(w6 q hq).1, ?_⟩
    show upN (A 12) p s q ≤ 2 * A 0 1
    by_cases e : q = p
    · subst e; rw [upN_eq]; exact hs
    · rw [upN_ne e]; exact (w6 q hq).2
  · show upN (A 12) p s q ≠ 0 → upN (A 12) p s q ≠ upN (A 12) p s r
    have hq' : q < A 0 0 := hq
    have hr' : r < A 0 0 := hr
    by_cases e : q = p
    · subst e
      rw [upN_eq, upN_ne (fun z => hqr z.symm)]
      exact fun z y => hno r hr' (fun w => hqr w.symm) z y.symm
    · rw [upN_ne e]
      by_cases e2 : r = p
      · subst e2
        rw [upN_eq]
        exact fun z y => hno q hq' hqr (y ▸ z) y
      · rw [upN_ne e2]
        exact (w7 q r hq' hr' hqr).2
set_option maxHeartbeats 800000 in
set_option maxRecDepth 100000 in
theorem c11_plan (l : Launch) (X : Cx) (d : Nat) (sh : Nat → Option Sh) (mI : Nat → Nat → Int32) (mL : Nat → Nat → Int64) (mR : Nat → Nat → Option Nat) (n : Nat) (hB : BL sh mR) (C : Nat) (A : DD) (hV : AsV A) (hS : ShA sh mI mR n 20 C A) (x k : Int32) (hd : 2 ≤ d) : Cn l X yX11_plan cX11_plan 4 (some .boolean) d [.ref 0, .int x, .int k] (sh, mI, mL, mR, n) (fun r M' => r = some (.int (bI (piB A x k))) ∧ (piB A x k = true → ∃ mI', M' = (sh, mI', mL, mR, n) ∧ (∀ a k, a ≠ 31 → mI' a k = mI a k) ∧ ShA sh mI' mR n 20 C (aPln A x.toNatClampNeg (kS k))) ∧ (piB A x k = false → M' = (sh, mI, mL, mR, n))) 0 0 := by
  refine Cn.run 11 false (by decide) rfl (by decide) (by simp [entA, Value.category]) ?_
  intro P G hP hG
  have q0 := hB.1
  have b3 := hB.2.2.2.1.1
  have o6 := hB.2.2.2.1.2
  have s6 := o6.1
  have sc := hS.1
  have c4 := hS.2.1.1.1
  have cp := hS.2.1.2.2.2.1.1
  have hnp := hV.1.1
  have hb6 := hV.1.2.1
  have kp := o6.2.2 (6, 11, .int, 10) (by decide)
  dsimp only at kp
  obtain ⟨z1, z2, z3, z4, -⟩ := hS.s hV
  have no : piB A x k = false → P (some (.int 0)) (sh, mI, mL, mR, n) := fun z => hP _ _ ⟨by rw [z]; rfl, fun z2 => absurd (z.symm.trans z2) (by decide), fun _ => rfl⟩
  have no16 : piB A x k = false → G 16 [some (.ref 0), some (.int x), some (.int k), none] [] (sh, mI, mL, mR, n) := fun z => by
    have q := no z
    refine hG.run [] 20 ?_
    simp [wp, stepI, ln, jmp, cmpI, Value.category, rd, tyF, va_rf, st1, st2, clr, isLg, CB, inx_0, inx_1, inx_2, inx_3, inx_4, inx_5, bI_0, bI_1, bI_ok, fin3, tyX11, entL, q0, dX11_plan_0, dX11_plan_1, dX11_plan_2, dX11_plan_5, dX11_plan_8, dX11_plan_9, dX11_plan_10, dX11_plan_13, dX11_plan_16, dX11_plan_17, dX11_plan_18, dX11_plan_19, dX11_plan_20, dX11_plan_21, dX11_plan_22, fT_11_23, dX11_plan_25, fT_11_104, dX11_plan_28, fT_11_180, dX11_plan_31, dX11_plan_34, dX11_plan_35, dX11_plan_36, dX11_plan_39, dX11_plan_40, dX11_plan_41, dX11_plan_44, dX11_plan_45, dX11_plan_48, fT_11_120, dX11_plan_51, dX11_plan_52, dX11_plan_53, dX11_plan_54, dX11_plan_57, dX11_plan_58, dX11_plan_59, dX11_plan_62, dX11_plan_65, dX11_plan_66, dX11_plan_69, dX11_plan_72, dX11_plan_73, dX11_plan_74, dX11_plan_75, dX11_plan_76]
    exact q
  refine hG.run [] 20 ?_
  simp [wp, stepI, ln, jmp, cmpI, Value.category, rd, tyF, va_rf, st1, st2, clr, isLg, CB, inx_0, inx_1, inx_2, inx_3, inx_4, inx_5, bI_0, bI_1, bI_ok, fin3, tyX11, entL, q0, dX11_plan_0, dX11_plan_1, dX11_plan_2, dX11_plan_5, dX11_plan_8, dX11_plan_9, dX11_plan_10, dX11_plan_13, dX11_plan_16, dX11_plan_17, dX11_plan_18, dX11_plan_19, dX11_plan_20, dX11_plan_21, dX11_plan_22, fT_11_23, dX11_plan_25, fT_11_104, dX11_plan_28, fT_11_180, dX11_plan_31, dX11_plan_34, dX11_plan_35, dX11_plan_36, dX11_plan_39, dX11_plan_40, dX11_plan_41, dX11_plan_44, dX11_plan_45, dX11_plan_48, fT_11_120, dX11_plan_51, dX11_plan_52, dX11_plan_53, dX11_plan_54, dX11_plan_57, dX11_plan_58, dX11_plan_59, dX11_plan_62, dX11_plan_65, dX11_plan_66, dX11_plan_69, dX11_plan_72, dX11_plan_73, dX11_plan_74, dX11_plan_75, dX11_plan_76]
  refine hG.callV dX11_plan_2 mv_11_100 [.int x] [] (c11_isPupil l X (d - 1) sh mI mL mR n hB C A hS x) ⟨_, rfl, rfl⟩ q0 (by omega) rfl (by decide) (by simp [Value.category]) rfl ?_
  rintro r M' ⟨rfl, rfl⟩
  cases h1 : aP A x with
  | false =>
    have q := no16 (by unfold piB; rw [h1]; rfl)
    refine hG.run [16, 8] 20 ?_
    simp [wp, stepI, ln, jmp, cmpI, Value.category, rd, tyF, va_rf, st1, st2, clr, isLg, CB, inx_0, inx_1, inx_2, inx_3, inx_4, inx_5, bI_0, bI_1, bI_ok, fin3, tyX11, entL, q0, dX11_plan_0, dX11_plan_1, dX11_plan_2, dX11_plan_5, dX11_plan_8, dX11_plan_9, dX11_plan_10, dX11_plan_13, dX11_plan_16, dX11_plan_17, dX11_plan_18, dX11_plan_19, dX11_plan_20, dX11_plan_21, dX11_plan_22, fT_11_23, dX11_plan_25, fT_11_104, dX11_plan_28, fT_11_180, dX11_plan_31, dX11_plan_34, dX11_plan_35, dX11_plan_36, dX11_plan_39, dX11_plan_40, dX11_plan_41, dX11_plan_44, dX11_plan_45, dX11_plan_48, fT_11_120, dX11_plan_51, dX11_plan_52, dX11_plan_53, dX11_plan_54, dX11_plan_57, dX11_plan_58, dX11_plan_59, dX11_plan_62, dX11_plan_65, dX11_plan_66, dX11_plan_69, dX11_plan_72, dX11_plan_73, dX11_plan_74, dX11_plan_75, dX11_plan_76]
    exact q
  | true =>
    obtain ⟨p, hp, rfl⟩ := aP_i hV h1
    refine hG.run [16, 10] 20 ?_
    simp [wp, stepI, ln, jmp, cmpI, Value.category, rd, tyF, va_rf, st1, st2, clr, isLg, CB, inx_0, inx_1, inx_2, inx_3, inx_4, inx_5, bI_0, bI_1, bI_ok, fin3, tyX11, entL, q0, dX11_plan_0, dX11_plan_1, dX11_plan_2, dX11_plan_5, dX11_plan_8, dX11_plan_9, dX11_plan_10, dX11_plan_13, dX11_plan_16, dX11_plan_17, dX11_plan_18, dX11_plan_19, dX11_plan_20, dX11_plan_21, dX11_plan_22, fT_11_23, dX11_plan_25, fT_11_104, dX11_plan_28, fT_11_180, dX11_plan_31, dX11_plan_34, dX11_plan_35, dX11_plan_36, dX11_plan_39, dX11_plan_40, dX11_plan_41, dX11_plan_44, dX11_plan_45, dX11_plan_48, fT_11_120, dX11_plan_51, dX11_plan_52, dX11_plan_53, dX11_plan_54, dX11_plan_57, dX11_plan_58, dX11_plan_59, dX11_plan_62, dX11_plan_65, dX11_plan_66, dX11_plan_69, dX11_plan_72, dX11_plan_73, dX11_plan_74, dX11_plan_75, dX11_plan_76]
    refine hG.callV dX11_plan_10 mv_11_210 [.int k] [] (c11_isSeatOrNone l X (d - 1) sh mI mL mR n hB C A hS k) ⟨_, rfl, rfl⟩ q0 (by omega) rfl (by decide) (by simp [Value.category]) rfl ?_
    rintro r M' ⟨rfl, rfl⟩
    cases h2 : aS A k with
    | false =>
      have q := no16 (by unfold piB; rw [h2, Bool.and_false]; rfl)
      refine hG.run [16, 18] 20 ?_
      simp [wp, stepI, ln, jmp, cmpI, Value.category, rd, tyF, va_rf, st1, st2, clr, isLg, CB, inx_0, inx_1, inx_2, inx_3, inx_4, inx_5, bI_0, bI_1, bI_ok, fin3, tyX11, entL, q0, dX11_plan_0, dX11_plan_1, dX11_plan_2, dX11_plan_5, dX11_plan_8, dX11_plan_9, dX11_plan_10, dX11_plan_13, dX11_plan_16, dX11_plan_17, dX11_plan_18, dX11_plan_19, dX11_plan_20, dX11_plan_21, dX11_plan_22, fT_11_23, dX11_plan_25, fT_11_104, dX11_plan_28, fT_11_180, dX11_plan_31, dX11_plan_34, dX11_plan_35, dX11_plan_36, dX11_plan_39, dX11_plan_40, dX11_plan_41, dX11_plan_44, dX11_plan_45, dX11_plan_48, fT_11_120, dX11_plan_51, dX11_plan_52, dX11_plan_53, dX11_plan_54, dX11_plan_57, dX11_plan_58, dX11_plan_59, dX11_plan_62, dX11_plan_65, dX11_plan_66, dX11_plan_69, dX11_plan_72, dX11_plan_73, dX11_plan_74, dX11_plan_75, dX11_plan_76]
      exact q
    | true =>
      obtain ⟨s, hs, rfl⟩ := aS_i hV h2
      have hs12 : s ≤ 12 := by omega
      obtain ⟨k1, k2⟩ := kS_ok s hs12
      have e3 := @nI_s0 s hs12
      have w0 : piB A (nI p) (nI s - nI 1) = (decide (s = 0) || decide (¬ plF (A 0 0) (A 12) p (nI s - nI 1) < A 0 0)) := by
        unfold piB
        rw [h1, h2, nI_clamp (by omega), Bool.true_and, Bool.true_and]
        have a2 : decide (nI s - nI 1 = -nI 1) = decide (s = 0) := decide_eq_decide.mpr (nI_s0 hs12)
        rw [a2]
      have last : ∀ v, piB A (nI p) (nI s - nI 1) = true → G 65 [some (.ref 0), some (.int (nI p)), some (.int (nI s - nI 1)), v] [] (sh, mI, mL, mR, n) := fun v z => by
        have f1 : ∀ a k, a ≠ 31 → up2 mI 31 p (nI s - nI 1) a k = mI a k := fun a k h => up2_ne (fun z => h z.1)
        have f2 : ∀ k, up2 mI 31 p (nI s - nI 1) 31 k = if k = p then nI s - nI 1 else mI 31 k := fun k => by
          by_cases e : k = p
          · subst e; rw [up2_eq, if_pos rfl]
          · rw [up2_ne (fun z => e z.2), if_neg e]
        have SA : ShA sh (up2 mI 31 p (nI s - nI 1)) mR n 20 C (aPln A p s) := ShA.mk2 hS.1 (ScA_pln (hS.2.1.fr2 (Nat.le_refl _) (fun _ _ => rfl) (fun _ _ _ _ => rfl) (fun a k h _ => f1 a k (by omega)))) ((f1 _ _ (by decide)).trans hS.2.2.1) (fun k hk => ⟨(f1 _ _ (by decide)).trans (hS.2.2.2.1 k hk).1, (f1 _ _ (by decide)).trans (hS.2.2.2.1 k hk).2.1, (f1 _ _ (by decide)).trans (hS.2.2.2.1 k hk).2.2⟩) (fun q hq => by
          refine ⟨(f1 _ _ (by decide)).trans (hS.2.2.2.2 q hq).1, ?_⟩
          show up2 mI 31 p (nI s - nI 1) 31 q = nI (upN (A 12) p s q) - nI 1
          rw [f2]
          by_cases e : q = p
          · rw [if_pos e, e, upN_eq]
          · rw [if_neg e, upN_ne e]; exact (hS.2.2.2.2 q hq).2)
        have qq := hP (some (.int 1)) (sh, up2 mI 31 p (nI s - nI 1), mL, mR, n) ⟨by rw [z]; rfl, fun _ => ⟨_, rfl, f1, by rw [nI_clamp (by omega), k1]; exact SA⟩, fun y => absurd (z.symm.trans y) (by decide)⟩
        refine hG.run [] 20 ?_
        simp [wp, stepI, ln, jmp, cmpI, Value.category, rd, tyF, va_rf, st1, st2, clr, isLg, CB, inx_0, inx_1, inx_2, inx_3, inx_4, inx_5, bI_0, bI_1, bI_ok, fin3, tyX11, entL, q0, b3, s6, kp, tyX6, okT, dX11_plan_0, dX11_plan_1, dX11_plan_2, dX11_plan_5, dX11_plan_8, dX11_plan_9, dX11_plan_10, dX11_plan_13, dX11_plan_16, dX11_plan_17, dX11_plan_18, dX11_plan_19, dX11_plan_20, dX11_plan_21, dX11_plan_22, fT_11_23, dX11_plan_25, fT_11_104, dX11_plan_28, fT_11_180, dX11_plan_31, dX11_plan_34, dX11_plan_35, dX11_plan_36, dX11_plan_39, dX11_plan_40, dX11_plan_41, dX11_plan_44, dX11_plan_45, dX11_plan_48, fT_11_120, dX11_plan_51, dX11_plan_52, dX11_plan_53, dX11_plan_54, dX11_plan_57, dX11_plan_58, dX11_plan_59, dX11_plan_62, dX11_plan_65, dX11_plan_66, dX11_plan_69, dX11_plan_72, dX11_plan_73, dX11_plan_74, dX11_plan_75, dX11_plan_76]
        simp (disch := omega) only [li, nI_add, nI_clamp, nI_ltI, nI_leI, nI_eq, inx_iff, a31, nI_1shl', nI_shr', div_bit, tb1, tb0, fa_or, fa_and, nI_not, pk_sub, nI_dec]
        exact ⟨by omega, qq⟩
      have fle := fa_first_le (fun q => decide (q ≠ p) && decide (nI (A 12 q) - nI 1 = nI s - nI 1)) (A 0 0)
      have loop : ∀ f i, A 0 0 - i < f → i ≤ A 0 0 → (s ≠ 0 → i ≤ plF (A 0 0) (A 12) p (nI s - nI 1)) → G 20 [some (.ref 0), some (.int (nI p)), some (.int (nI s - nI 1)), some (.int (nI i))] [] (sh, mI, mL, mR, n) := by
        intro f
        induction f with
        | zero => intro i h; omega
        | succ f ih =>
          intro i hf hi hi2
          have e4 : nI s - nI 1 = -1 ↔ s = 0 := e3
          refine hG.run [20, 65] 30 ?_
          simp [wp, stepI, ln, jmp, cmpI, Value.category, rd, tyF, va_rf, st1, st2, clr, isLg, CB, inx_0, inx_1, inx_2, inx_3, inx_4, inx_5, bI_0, bI_1, bI_ok, fin3, tyX11, entL, q0, b3, s6, kp, tyX6, okT, sc, c4, cp, tyX4, e4, dX11_plan_0, dX11_plan_1, dX11_plan_2, dX11_plan_5, dX11_plan_8, dX11_plan_9, dX11_plan_10, dX11_plan_13, dX11_plan_16, dX11_plan_17, dX11_plan_18, dX11_plan_19, dX11_plan_20, dX11_plan_21, dX11_plan_22, fT_11_23, dX11_plan_25, fT_11_104, dX11_plan_28, fT_11_180, dX11_plan_31, dX11_plan_34, dX11_plan_35, dX11_plan_36, dX11_plan_39, dX11_plan_40, dX11_plan_41, dX11_plan_44, dX11_plan_45, dX11_plan_48, fT_11_120, dX11_plan_51, dX11_plan_52, dX11_plan_53, dX11_plan_54, dX11_plan_57, dX11_plan_58, dX11_plan_59, dX11_plan_62, dX11_plan_65, dX11_plan_66, dX11_plan_69, dX11_plan_72, dX11_plan_73, dX11_plan_74, dX11_plan_75, dX11_plan_76]
          simp (disch := omega) only [li, nI_add, nI_clamp, nI_ltI, nI_leI, nI_eq, inx_iff, a31, nI_1shl', nI_shr', div_bit, tb1, tb0, fa_or, fa_and, nI_not, pk_sub, nI_dec]
          refine ⟨fun z => last _ ?_, fun z => ⟨fun y => ih (i + 1) (by omega) (by omega) (fun w => absurd y w), fun y => ⟨fun w => ih (i + 1) (by omega) (by omega) (fun _ => ?_), fun w => ⟨by omega, fun v => ih (i + 1) (by omega) (by omega) (fun _ => ?_), fun v => no ?_⟩⟩⟩⟩
          · rw [w0]
            by_cases h0 : s = 0
            · rw [decide_eq_true h0]; rfl
            · have := hi2 h0
              rw [decide_eq_true (show ¬ plF (A 0 0) (A 12) p (nI s - nI 1) < A 0 0 by omega), Bool.or_true]
          · have h5 := hi2 y
            rcases Nat.lt_or_ge i (plF (A 0 0) (A 12) p (nI s - nI 1)) with u | u
            · omega
            · have e : fa_first (fun q => decide (q ≠ p) && decide (nI (A 12 q) - nI 1 = nI s - nI 1)) (A 0 0) = i := by unfold plF at u h5; omega
              have := fa_first_yes (fun q => decide (q ≠ p) && decide (nI (A 12 q) - nI 1 = nI s - nI 1)) (A 0 0) (by omega)
              rw [e, decide_eq_false (fun z => z w), Bool.false_and] at this
              exact absurd this (by decide)
          · have h5 := hi2 y
            rw [(hS.2.2.2.2 i z).2] at v
            rcases Nat.lt_or_ge i (plF (A 0 0) (A 12) p (nI s - nI 1)) with u | u
            · omega
            · have e : fa_first (fun q => decide (q ≠ p) && decide (nI (A 12 q) - nI 1 = nI s - nI 1)) (A 0 0) = i := by unfold plF at u h5; omega
              have := fa_first_yes (fun q => decide (q ≠ p) && decide (nI (A 12 q) - nI 1 = nI s - nI 1)) (A 0 0) (by omega)
              rw [e, decide_eq_false v, Bool.and_false] at this
              exact absurd this (by decide)
          · have h5 := hi2 y
            rw [(hS.2.2.2.2 i z).2] at v
            have e : plF (A 0 0) (A 12) p (nI s - nI 1) = i := lx_first hi (fun j hj => fa_first_no (fun q => decide (q ≠ p) && decide (nI (A 12 q) - nI 1 = nI s - nI 1)) (A 0 0) j (by unfold plF at h5; omega)) (fun _ => by rw [decide_eq_true w, decide_eq_true v]; rfl)
            rw [w0, e, decide_eq_false y, decide_eq_false (fun u => u z)]; rfl
      have q := loop (A 0 0 + 1) 0 (by omega) (Nat.zero_le _) (fun _ => Nat.zero_le _)
      refine hG.run [16, 20] 20 ?_
      simp [wp, stepI, ln, jmp, cmpI, Value.category, rd, tyF, va_rf, st1, st2, clr, isLg, CB, inx_0, inx_1, inx_2, inx_3, inx_4, inx_5, bI_0, bI_1, bI_ok, fin3, tyX11, entL, q0, dX11_plan_0, dX11_plan_1, dX11_plan_2, dX11_plan_5, dX11_plan_8, dX11_plan_9, dX11_plan_10, dX11_plan_13, dX11_plan_16, dX11_plan_17, dX11_plan_18, dX11_plan_19, dX11_plan_20, dX11_plan_21, dX11_plan_22, fT_11_23, dX11_plan_25, fT_11_104, dX11_plan_28, fT_11_180, dX11_plan_31, dX11_plan_34, dX11_plan_35, dX11_plan_36, dX11_plan_39, dX11_plan_40, dX11_plan_41, dX11_plan_44, dX11_plan_45, dX11_plan_48, fT_11_120, dX11_plan_51, dX11_plan_52, dX11_plan_53, dX11_plan_54, dX11_plan_57, dX11_plan_58, dX11_plan_59, dX11_plan_62, dX11_plan_65, dX11_plan_66, dX11_plan_69, dX11_plan_72, dX11_plan_73, dX11_plan_74, dX11_plan_75, dX11_plan_76]
      exact q
