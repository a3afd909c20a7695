/-! the ladder as it is kept -/
def LdR (mI : Nat → Nat → Int32) (A : DD) : Prop := mI 33 5 = nI 1 ∧ LaM mI 33 (A 0 0) (ahA (A 5) (A 6) (A 0 2)) ∧ LaA mI 33 (A 0 0) (decide (0 < ordN (A 0 0) (A 0 2) (A 5) (A 6))) (abv (A 0 0) (A 0 2) (A 5) (A 6))
def LdI (mI : Nat → Nat → Int32) (A : DD) : Prop := (∃ A' : Nat → Nat, ∀ p, p < 10 → mI 35 p = nI (A' p) ∧ A' p < 1024) ∧ (mI 33 5 = nI 0 ∨ LdR mI A)
theorem LdR.fr {mI mI' : Nat → Nat → Int32} {A : DD} (h : LdR mI A) (he : ∀ a k, 33 ≤ a → a ≤ 36 → a ≠ 36 → mI' a k = mI a k) : LdR mI' A := by
  obtain ⟨h1, ⟨h2, h3, h4, h5⟩, h6, h7⟩ := h
  exact ⟨(he _ _ (by decide) (by decide) (by decide)).trans h1, ⟨(he _ _ (by decide) (by decide) (by decide)).trans h2, h3, (he _ _ (by decide) (by decide) (by decide)).trans h4, fun p hp => ⟨(he _ _ (by decide) (by decide) (by decide)).trans (h5 p hp).1, (h5 p hp).2⟩⟩, (he _ _ (by decide) (by decide) (by decide)).trans h6, fun z p hp => ⟨(he _ _ (by decide) (by decide) (by decide)).trans (h7 z p hp).1, (h7 z p hp).2⟩⟩
theorem LdI.fr {mI mI' : Nat → Nat → Int32} {A : DD} (h : LdI mI A) (he : ∀ a k, 33 ≤ a → a ≤ 36 → a ≠ 36 → mI' a k = mI a k) : LdI mI' A := by
  obtain ⟨⟨A', h1⟩, h2⟩ := h
  refine ⟨⟨A', fun p hp => ⟨(he _ _ (by decide) (by decide) (by decide)).trans (h1 p hp).1, (h1 p hp).2⟩⟩, ?_⟩
  rcases h2 with h2 | h2
  · exact Or.inl ((he _ _ (by decide) (by decide) (by decide)).trans h2)
  · exact Or.inr (h2.fr he)
theorem AsV.say {A : DD} (h : AsV A) : SayV (A 0 0) (A 0 2) (A 5) (A 6) := fun k hk => ⟨(h.2.2.2.1 k hk).1, (h.2.2.2.1 k hk).2.1, (h.2.2.2.1 k hk).2.2.1⟩
theorem ScA.c {sh : Nat → Option Sh} {mI : Nat → Nat → Int32} {mR : Nat → Nat → Option Nat} {n C : Nat} {A : DD} (h : ScA sh mI mR n C A) : C = 21 ∨ 171 ≤ C := h.2.1.elim (fun z => Or.inl z.1) Or.inr
theorem ScA.w {sh : Nat → Option Sh} {mI : Nat → Nat → Int32} {mR : Nat → Nat → Option Nat} {n C Wc : Nat} {A : DD} (h : ScA sh mI mR n C A) (hw : mR C 7 = some Wc) (hc : C + 5 ≤ Wc) : Wc = 26 ∨ 171 ≤ Wc := by
  rcases h.2.1 with z | z
  · rw [z.2] at hw
    exact Or.inl (Option.some.inj hw).symm
  · exact Or.inr (by omega)
theorem c2_now (l : Launch) (X : Cx) (d : Nat) (sh : Nat → Option Sh) (mI : Nat → Nat → Int32) (mL : Nat → Nat → Int64) (mR : Nat → Nat → Option Nat) (n : Nat) (hB : BL sh mR) (C : Nat) (A : DD) (hV : AsV A) (hS : ShA sh mI mR n 20 C A) (hI : LdI mI A) (hd : 2 ≤ d) : Cn l X yX2_study cX2_study 2 none d [.ref 33, .ref 20] (sh, mI, mL, mR, n) (fun r M' => r = none ∧ ∃ mI', M' = (sh, mI', mL, mR, n) ∧ (∀ a k, ¬ (33 ≤ a ∧ a ≤ 36) → mI' a k = mI a k) ∧ LdR mI' A ∧ LdI mI' A) 0 0 := by
  have o2 := hB.2.2.2.2.2.1.2
  have o6 := hB.2.2.2.1.2
  obtain ⟨z1, -, -, z4, -⟩ := hS.s hV
  have hnp := hV.1.1
  have cr := hS.2.1.c
  obtain ⟨⟨A', hA'⟩, hr⟩ := hI
  rcases hr with hr | hr
  · refine (c2_study l X d sh mI mL mR n 33 20 C o2 o6 hS.1 hS.2.1.1 (by omega) (by omega) (A 0 0) z1 (A 0 2) (A 5) (A 6) (A 7) z4 A' hA' hr hd).weak ?_
    rintro r M' ⟨rfl, mI', rfl, f1, f2, f3, f4, f5⟩
    have k1 : LdR mI' A := by
      refine ⟨f4, f2, ?_, fun z p hp => ?_⟩
      · rw [f3.1, plA_ord hnp]
        congr 1
        by_cases ho : ordN (A 0 0) (A 0 2) (A 5) (A 6) = 0
        · rw [if_pos ho, ho]; rfl
        · rw [if_neg ho, decide_eq_true (show 0 < ordN (A 0 0) (A 0 2) (A 5) (A 6) by omega)]
          split <;> rfl
      · have ho : 0 < ordN (A 0 0) (A 0 2) (A 5) (A 6) := of_decide_eq_true z
        have := f3.2 (by
          rw [plA_ord hnp, if_neg (by omega)]
          split <;> decide) p (by omega)
        rw [clI_abv hnp hV.say ho p hp] at this
        exact this
    exact ⟨rfl, mI', rfl, fun a k h => f1 a k (by omega) (by omega) (by omega) (by omega), k1, ⟨f5, Or.inr k1⟩⟩
  · refine (c2_studyR l X d sh mI mL mR n 33 20 o2 hr.1).weak ?_
    rintro r M' ⟨rfl, rfl⟩
    exact ⟨rfl, mI, rfl, fun _ _ _ => rfl, hr, ⟨⟨A', hA'⟩, Or.inr hr⟩⟩
/-- a sheet stays where its cells stay -/
theorem ShA.fr {sh : Nat → Option Sh} {mI mI' : Nat → Nat → Int32} {mR : Nat → Nat → Option Nat} {n C : Nat} {A : DD} (h : ShA sh mI mR n 20 C A) (he : ∀ a k, ¬ (33 ≤ a ∧ a ≤ 80) → mI' a k = mI a k) : ShA sh mI' mR n 20 C A := by
  have kc := h.2.1.c
  have kw := fun Wc => h.2.1.w (Wc := Wc)
  obtain ⟨h1, ⟨k1, k2, k3, k4, k5, k6, k7, Wc, u, w1, w2, w3, w4, w5, w6, w7⟩, h3, h4, h5⟩ := h
  have kw := kw Wc w1 w4
  exact ⟨h1, ⟨k1, k2, k3, ⟨(he _ _ (by omega)).trans k4.1, (he _ _ (by omega)).trans k4.2.1, (he _ _ (by omega)).trans k4.2.2⟩, fun p hp => ⟨(he _ _ (by omega)).trans (k5 p hp).1, (he _ _ (by omega)).trans (k5 p hp).2⟩, fun k hk => (he _ _ (by omega)).trans (k6 k hk), fun i hi => (he _ _ (by omega)).trans (k7 i hi), Wc, u, w1, w2, w3, w4, w5, fun i hi => (he _ _ (by omega)).trans (w6 i hi), w7⟩, (he _ _ (by omega)).trans h3, fun k hk => ⟨(he _ _ (by omega)).trans (h4 k hk).1, (he _ _ (by omega)).trans (h4 k hk).2.1, (he _ _ (by omega)).trans (h4 k hk).2.2⟩, fun p hp => ⟨(he _ _ (by omega)).trans (h5 p hp).1, (he _ _ (by omega)).trans (h5 p hp).2⟩⟩
/-- what is surely so, of the numbers alone -/
def aSur (A : DD) (x y : Int32) : Int32 := if a2 A x y && decide (0 < ordN (A 0 0) (A 0 2) (A 5) (A 6)) then (if (abv (A 0 0) (A 0 2) (A 5) (A 6) y.toNatClampNeg).testBit x.toNatClampNeg then 1 else if (abv (A 0 0) (A 0 2) (A 5) (A 6) x.toNatClampNeg).testBit y.toNatClampNeg then 2 else 0) else -1
theorem a2_i {A : DD} {x y : Int32} (hV : AsV A) (h : a2 A x y = true) : ∃ p q, p < A 0 0 ∧ q < A 0 0 ∧ p ≠ q ∧ x = nI p ∧ y = nI q := by
  unfold a2 at h
  rw [Bool.and_eq_true, Bool.and_eq_true] at h
  obtain ⟨p, hp, rfl⟩ := aP_i hV h.1.1
  obtain ⟨q, hq, rfl⟩ := aP_i hV h.1.2
  exact ⟨p, q, hp, hq, fun z => (of_decide_eq_true h.2) (by rw [z]), rfl, rfl⟩
set_option maxHeartbeats 800000 in
set_option maxRecDepth 100000 in
theorem c11_sure (l : Launch) (X : Cx) (d : Nat) (sh : Nat → Option Sh) (mI : Nat → Nat → Int32) (mL : Nat → Nat → Int64) (mR : Nat → Nat → Option Nat) (n : Nat) (hB : BL sh mR) (C : Nat) (A : DD) (hV : AsV A) (hS : ShA sh mI mR n 20 C A) (hI : LdI mI A) (x y : Int32) (hd : 3 ≤ d) : Cn l X yX11_sure cX11_sure 3 (some .int) d [.ref 0, .int x, .int y] (sh, mI, mL, mR, n) (fun r M' => r = some (.int (aSur A x y)) ∧ ∃ mI', M' = (sh, mI', mL, mR, n) ∧ (∀ a k, ¬ (33 ≤ a ∧ a ≤ 36) → mI' a k = mI a k) ∧ LdI mI' A) 0 0 := by
  refine Cn.run 11 false (by decide) rfl (by decide) (by simp [entA, Value.category]) ?_
  intro P G hP hG
  have q0 := hB.1
  have b3 := hB.2.2.2.1.1
  have b5 := hB.2.2.2.2.2.1.1
  have o2 := hB.2.2.2.2.2.1.2
  have s2 := o2.1
  have hnp := hV.1.1
  refine hG.run [] 20 ?_
  simp [wp, stepI, ln, jmp, cmpI, Value.category, rd, tyF, va_rf, st1, st2, clr, isLg, CB, inx_0, inx_1, inx_2, inx_3, inx_4, inx_5, bI_0, bI_1, bI_ok, fin3, tyX11, entL, q0, b3, b5, dX11_sure_0, dX11_sure_1, fT_11_34, dX11_sure_4, dX11_sure_5, fT_11_23, dX11_sure_8, dX11_sure_11, dX11_sure_12, dX11_sure_13, dX11_sure_14, dX11_sure_17, dX11_sure_20, dX11_sure_21, dX11_sure_24, fT_11_153, dX11_sure_27, dX11_sure_30, dX11_sure_31, dX11_sure_32, dX11_sure_33, dX11_sure_36, dX11_sure_37, dX11_sure_38, dX11_sure_41, dX11_sure_44, dX11_sure_45, dX11_sure_46, dX11_sure_47, dX11_sure_50, dX11_sure_51, dX11_sure_52, dX11_sure_55, dX11_sure_58, dX11_sure_59, dX11_sure_62, dX11_sure_63]
  refine hG.callV dX11_sure_8 mv_11_150 [.ref 20] [] (c2_now l X (d - 1) sh mI mL mR n hB C A hV hS hI (by omega)) ⟨_, rfl, rfl⟩ s2 (by omega) rfl (by decide) (by simp [Value.category]) rfl ?_
  rintro r M' ⟨rfl, mI1, rfl, f1, R1, I1⟩
  have S1 := hS.fr (fun a k h => f1 a k (by omega))
  have fin : ∀ v, v = aSur A x y → P (some (.int v)) (sh, mI1, mL, mR, n) := fun v hv => by rw [hv]; exact hP _ _ ⟨rfl, mI1, rfl, f1, I1⟩
  refine hG.run [] 20 ?_
  simp [wp, stepI, ln, jmp, cmpI, Value.category, rd, tyF, va_rf, st1, st2, clr, isLg, CB, inx_0, inx_1, inx_2, inx_3, inx_4, inx_5, bI_0, bI_1, bI_ok, fin3, tyX11, entL, q0, dX11_sure_0, dX11_sure_1, fT_11_34, dX11_sure_4, dX11_sure_5, fT_11_23, dX11_sure_8, dX11_sure_11, dX11_sure_12, dX11_sure_13, dX11_sure_14, dX11_sure_17, dX11_sure_20, dX11_sure_21, dX11_sure_24, fT_11_153, dX11_sure_27, dX11_sure_30, dX11_sure_31, dX11_sure_32, dX11_sure_33, dX11_sure_36, dX11_sure_37, dX11_sure_38, dX11_sure_41, dX11_sure_44, dX11_sure_45, dX11_sure_46, dX11_sure_47, dX11_sure_50, dX11_sure_51, dX11_sure_52, dX11_sure_55, dX11_sure_58, dX11_sure_59, dX11_sure_62, dX11_sure_63]
  refine hG.callV dX11_sure_14 mv_11_123 [.int x, .int y] [] (c11_areTwo l X (d - 1) sh mI1 mL mR n hB C A S1 x y (by omega)) ⟨_, rfl, rfl⟩ q0 (by omega) rfl (by decide) (by simp [Value.category]) rfl ?_
  rintro r M' ⟨rfl, rfl⟩
  have ff := R1.2.2.1
  cases h2 : a2 A x y with
  | false =>
    have q := fin (-1) (by unfold aSur; rw [h2]; rfl)
    refine hG.run [20] 20 ?_
    simp [wp, stepI, ln, jmp, cmpI, Value.category, rd, tyF, va_rf, st1, st2, clr, isLg, CB, inx_0, inx_1, inx_2, inx_3, inx_4, inx_5, bI_0, bI_1, bI_ok, fin3, tyX11, entL, q0, dX11_sure_0, dX11_sure_1, fT_11_34, dX11_sure_4, dX11_sure_5, fT_11_23, dX11_sure_8, dX11_sure_11, dX11_sure_12, dX11_sure_13, dX11_sure_14, dX11_sure_17, dX11_sure_20, dX11_sure_21, dX11_sure_24, fT_11_153, dX11_sure_27, dX11_sure_30, dX11_sure_31, dX11_sure_32, dX11_sure_33, dX11_sure_36, dX11_sure_37, dX11_sure_38, dX11_sure_41, dX11_sure_44, dX11_sure_45, dX11_sure_46, dX11_sure_47, dX11_sure_50, dX11_sure_51, dX11_sure_52, dX11_sure_55, dX11_sure_58, dX11_sure_59, dX11_sure_62, dX11_sure_63]
    exact q
  | true =>
    obtain ⟨p, q, hp, hq, hpq, rfl, rfl⟩ := a2_i hV h2
    cases ho : decide (0 < ordN (A 0 0) (A 0 2) (A 5) (A 6)) with
    | false =>
      have q := fin (-1) (by unfold aSur; rw [h2, ho]; rfl)
      rw [ho] at ff
      have ff' : mI1 33 6 = 0 := ff
      refine hG.run [32] 20 ?_
      simp [wp, stepI, ln, jmp, cmpI, Value.category, rd, tyF, va_rf, st1, st2, clr, isLg, CB, inx_0, inx_1, inx_2, inx_3, inx_4, inx_5, bI_0, bI_1, bI_ok, fin3, tyX11, entL, q0, b5, s2, tyX2, ff', dX11_sure_0, dX11_sure_1, fT_11_34, dX11_sure_4, dX11_sure_5, fT_11_23, dX11_sure_8, dX11_sure_11, dX11_sure_12, dX11_sure_13, dX11_sure_14, dX11_sure_17, dX11_sure_20, dX11_sure_21, dX11_sure_24, fT_11_153, dX11_sure_27, dX11_sure_30, dX11_sure_31, dX11_sure_32, dX11_sure_33, dX11_sure_36, dX11_sure_37, dX11_sure_38, dX11_sure_41, dX11_sure_44, dX11_sure_45, dX11_sure_46, dX11_sure_47, dX11_sure_50, dX11_sure_51, dX11_sure_52, dX11_sure_55, dX11_sure_58, dX11_sure_59, dX11_sure_62, dX11_sure_63]
      exact q
    | true =>
      rw [ho] at ff
      have ff' : ¬ mI1 33 6 = 0 := by rw [ff]; decide
      refine hG.run [32] 20 ?_
      simp [wp, stepI, ln, jmp, cmpI, Value.category, rd, tyF, va_rf, st1, st2, clr, isLg, CB, inx_0, inx_1, inx_2, inx_3, inx_4, inx_5, bI_0, bI_1, bI_ok, fin3, tyX11, entL, q0, b5, s2, tyX2, ff', dX11_sure_0, dX11_sure_1, fT_11_34, dX11_sure_4, dX11_sure_5, fT_11_23, dX11_sure_8, dX11_sure_11, dX11_sure_12, dX11_sure_13, dX11_sure_14, dX11_sure_17, dX11_sure_20, dX11_sure_21, dX11_sure_24, fT_11_153, dX11_sure_27, dX11_sure_30, dX11_sure_31, dX11_sure_32, dX11_sure_33, dX11_sure_36, dX11_sure_37, dX11_sure_38, dX11_sure_41, dX11_sure_44, dX11_sure_45, dX11_sure_46, dX11_sure_47, dX11_sure_50, dX11_sure_51, dX11_sure_52, dX11_sure_55, dX11_sure_58, dX11_sure_59, dX11_sure_62, dX11_sure_63]
      have LA := R1.2.2
      have ev : ∀ v, v = (if (abv (A 0 0) (A 0 2) (A 5) (A 6) q).testBit p then 1 else if (abv (A 0 0) (A 0 2) (A 5) (A 6) p).testBit q then 2 else 0 : Int32) → v = aSur A (nI p) (nI q) := fun v hv => by
        rw [hv]
        unfold aSur
        rw [h2, ho, nI_clamp (by omega), nI_clamp (by omega)]; rfl
      refine hG.run [] 20 ?_
      simp [wp, stepI, ln, jmp, cmpI, Value.category, rd, tyF, va_rf, st1, st2, clr, isLg, CB, inx_0, inx_1, inx_2, inx_3, inx_4, inx_5, bI_0, bI_1, bI_ok, fin3, tyX11, entL, q0, b5, dX11_sure_0, dX11_sure_1, fT_11_34, dX11_sure_4, dX11_sure_5, fT_11_23, dX11_sure_8, dX11_sure_11, dX11_sure_12, dX11_sure_13, dX11_sure_14, dX11_sure_17, dX11_sure_20, dX11_sure_21, dX11_sure_24, fT_11_153, dX11_sure_27, dX11_sure_30, dX11_sure_31, dX11_sure_32, dX11_sure_33, dX11_sure_36, dX11_sure_37, dX11_sure_38, dX11_sure_41, dX11_sure_44, dX11_sure_45, dX11_sure_46, dX11_sure_47, dX11_sure_50, dX11_sure_51, dX11_sure_52, dX11_sure_55, dX11_sure_58, dX11_sure_59, dX11_sure_62, dX11_sure_63]
      refine hG.callV dX11_sure_38 mv_11_157 [.int (nI p), .int (nI q)] [] (c2_isAbove l X (d - 1) sh mI1 mL mR n 33 o2 _ LA.1 _ (A 0 0) hnp LA.2 p q hp hq) ⟨_, rfl, rfl⟩ s2 (by omega) rfl (by decide) (by simp [Value.category]) rfl ?_
      rintro r M' ⟨rfl, rfl⟩
      rw [ho, Bool.true_and]
      cases t1 : (abv (A 0 0) (A 0 2) (A 5) (A 6) q).testBit p with
      | true =>
        have q := fin 1 (ev 1 (by rw [t1]; rfl))
        refine hG.run [46] 20 ?_
        simp [wp, stepI, ln, jmp, cmpI, Value.category, rd, tyF, va_rf, st1, st2, clr, isLg, CB, inx_0, inx_1, inx_2, inx_3, inx_4, inx_5, bI_0, bI_1, bI_ok, fin3, tyX11, entL, q0, dX11_sure_0, dX11_sure_1, fT_11_34, dX11_sure_4, dX11_sure_5, fT_11_23, dX11_sure_8, dX11_sure_11, dX11_sure_12, dX11_sure_13, dX11_sure_14, dX11_sure_17, dX11_sure_20, dX11_sure_21, dX11_sure_24, fT_11_153, dX11_sure_27, dX11_sure_30, dX11_sure_31, dX11_sure_32, dX11_sure_33, dX11_sure_36, dX11_sure_37, dX11_sure_38, dX11_sure_41, dX11_sure_44, dX11_sure_45, dX11_sure_46, dX11_sure_47, dX11_sure_50, dX11_sure_51, dX11_sure_52, dX11_sure_55, dX11_sure_58, dX11_sure_59, dX11_sure_62, dX11_sure_63]
        exact q
      | false =>
        refine hG.run [52] 20 ?_
        simp [wp, stepI, ln, jmp, cmpI, Value.category, rd, tyF, va_rf, st1, st2, clr, isLg, CB, inx_0, inx_1, inx_2, inx_3, inx_4, inx_5, bI_0, bI_1, bI_ok, fin3, tyX11, entL, q0, b5, dX11_sure_0, dX11_sure_1, fT_11_34, dX11_sure_4, dX11_sure_5, fT_11_23, dX11_sure_8, dX11_sure_11, dX11_sure_12, dX11_sure_13, dX11_sure_14, dX11_sure_17, dX11_sure_20, dX11_sure_21, dX11_sure_24, fT_11_153, dX11_sure_27, dX11_sure_30, dX11_sure_31, dX11_sure_32, dX11_sure_33, dX11_sure_36, dX11_sure_37, dX11_sure_38, dX11_sure_41, dX11_sure_44, dX11_sure_45, dX11_sure_46, dX11_sure_47, dX11_sure_50, dX11_sure_51, dX11_sure_52, dX11_sure_55, dX11_sure_58, dX11_sure_59, dX11_sure_62, dX11_sure_63]
        refine hG.callV dX11_sure_52 mv_11_157 [.int (nI q), .int (nI p)] [] (c2_isAbove l X (d - 1) sh mI1 mL mR n 33 o2 _ LA.1 _ (A 0 0) hnp LA.2 q p hq hp) ⟨_, rfl, rfl⟩ s2 (by omega) rfl (by decide) (by simp [Value.category]) rfl ?_
        rintro r M' ⟨rfl, rfl⟩
        rw [ho, Bool.true_and]
        cases t2 : (abv (A 0 0) (A 0 2) (A 5) (A 6) p).testBit q with
        | true =>
          have q := fin 2 (ev 2 (by rw [t1, t2]; rfl))
          refine hG.run [] 20 ?_
          simp [wp, stepI, ln, jmp, cmpI, Value.category, rd, tyF, va_rf, st1, st2, clr, isLg, CB, inx_0, inx_1, inx_2, inx_3, inx_4, inx_5, bI_0, bI_1, bI_ok, fin3, tyX11, entL, q0, dX11_sure_0, dX11_sure_1, fT_11_34, dX11_sure_4, dX11_sure_5, fT_11_23, dX11_sure_8, dX11_sure_11, dX11_sure_12, dX11_sure_13, dX11_sure_14, dX11_sure_17, dX11_sure_20, dX11_sure_21, dX11_sure_24, fT_11_153, dX11_sure_27, dX11_sure_30, dX11_sure_31, dX11_sure_32, dX11_sure_33, dX11_sure_36, dX11_sure_37, dX11_sure_38, dX11_sure_41, dX11_sure_44, dX11_sure_45, dX11_sure_46, dX11_sure_47, dX11_sure_50, dX11_sure_51, dX11_sure_52, dX11_sure_55, dX11_sure_58, dX11_sure_59, dX11_sure_62, dX11_sure_63]
          exact q
        | false =>
          have q := fin 0 (ev 0 (by rw [t1, t2]; rfl))
          refine hG.run [] 20 ?_
          simp [wp, stepI, ln, jmp, cmpI, Value.category, rd, tyF, va_rf, st1, st2, clr, isLg, CB, inx_0, inx_1, inx_2, inx_3, inx_4, inx_5, bI_0, bI_1, bI_ok, fin3, tyX11, entL, q0, dX11_sure_0, dX11_sure_1, fT_11_34, dX11_sure_4, dX11_sure_5, fT_11_23, dX11_sure_8, dX11_sure_11, dX11_sure_12, dX11_sure_13, dX11_sure_14, dX11_sure_17, dX11_sure_20, dX11_sure_21, dX11_sure_24, fT_11_153, dX11_sure_27, dX11_sure_30, dX11_sure_31, dX11_sure_32, dX11_sure_33, dX11_sure_36, dX11_sure_37, dX11_sure_38, dX11_sure_41, dX11_sure_44, dX11_sure_45, dX11_sure_46, dX11_sure_47, dX11_sure_50, dX11_sure_51, dX11_sure_52, dX11_sure_55, dX11_sure_58, dX11_sure_59, dX11_sure_62, dX11_sure_63]
          exact q
set_option maxHeartbeats 800000 in
set_option maxRecDepth 100000 in
theorem c11_helped (l : Launch) (X : Cx) (d : Nat) (sh : Nat → Option Sh) (mI : Nat → Nat → Int32) (mL : Nat → Nat → Int64) (mR : Nat → Nat → Option Nat) (n : Nat) (hB : BL sh mR) (C : Nat) (A : DD) (hV : AsV A) (hS : ShA sh mI mR n 20 C A) (hI : LdI mI A) (hd : 3 ≤ d) : Cn l X yX11_helped cX11_helped 1 (some .int) d [.ref 0] (sh, mI, mL, mR, n) (fun r M' => r = some (.int (nI (helpA (A 0 0) (A 0 2) (A 5) (A 6)))) ∧ ∃ mI', M' = (sh, mI', mL, mR, n) ∧ (∀ a k, ¬ (33 ≤ a ∧ a ≤ 36) → mI' a k = mI a k) ∧ LdI mI' A) 0 0 := by
  refine Cn.run 11 false (by decide) rfl (by decide) (by simp [entA, Value.category]) ?_
  intro P G hP hG
  have q0 := hB.1
  have b3 := hB.2.2.2.1.1
  have b5 := hB.2.2.2.2.2.1.1
  have o2 := hB.2.2.2.2.2.1.2
  have s2 := o2.1
  have hnp := hV.1.1
  refine hG.run [] 20 ?_
  simp [wp, stepI, ln, jmp, cmpI, Value.category, rd, tyF, va_rf, st1, st2, clr, isLg, CB, inx_0, inx_1, inx_2, inx_3, inx_4, inx_5, bI_0, bI_1, bI_ok, fin3, tyX11, entL, q0, b3, b5, dX11_helped_0, dX11_helped_1, fT_11_34, dX11_helped_4, dX11_helped_5, fT_11_23, dX11_helped_8, dX11_helped_11, dX11_helped_12, dX11_helped_15, fT_11_153, dX11_helped_18, dX11_helped_21, dX11_helped_22, dX11_helped_25, dX11_helped_26, dX11_helped_29, dX11_helped_32]
  refine hG.callV dX11_helped_8 mv_11_150 [.ref 20] [] (c2_now l X (d - 1) sh mI mL mR n hB C A hV hS hI (by omega)) ⟨_, rfl, rfl⟩ s2 (by omega) rfl (by decide) (by simp [Value.category]) rfl ?_
  rintro r M' ⟨rfl, mI1, rfl, f1, R1, I1⟩
  have ff := R1.2.2.1
  cases ho : decide (0 < ordN (A 0 0) (A 0 2) (A 5) (A 6)) with
  | true =>
    rw [ho] at ff
    have ff' : ¬ mI1 33 6 = 0 := by rw [ff]; decide
    have q := hP _ _ ⟨rfl, mI1, rfl, f1, I1⟩
    have e : helpA (A 0 0) (A 0 2) (A 5) (A 6) = 0 := by unfold helpA; rw [if_pos (of_decide_eq_true ho)]
    rw [e] at q
    refine hG.run [] 20 ?_
    simp [wp, stepI, ln, jmp, cmpI, Value.category, rd, tyF, va_rf, st1, st2, clr, isLg, CB, inx_0, inx_1, inx_2, inx_3, inx_4, inx_5, bI_0, bI_1, bI_ok, fin3, tyX11, entL, q0, b5, s2, tyX2, ff', dX11_helped_0, dX11_helped_1, fT_11_34, dX11_helped_4, dX11_helped_5, fT_11_23, dX11_helped_8, dX11_helped_11, dX11_helped_12, dX11_helped_15, fT_11_153, dX11_helped_18, dX11_helped_21, dX11_helped_22, dX11_helped_25, dX11_helped_26, dX11_helped_29, dX11_helped_32]
    exact q
  | false =>
    rw [ho] at ff
    have ff' : mI1 33 6 = 0 := ff
    refine hG.run [29] 20 ?_
    simp [wp, stepI, ln, jmp, cmpI, Value.category, rd, tyF, va_rf, st1, st2, clr, isLg, CB, inx_0, inx_1, inx_2, inx_3, inx_4, inx_5, bI_0, bI_1, bI_ok, fin3, tyX11, entL, q0, b5, s2, tyX2, ff', dX11_helped_0, dX11_helped_1, fT_11_34, dX11_helped_4, dX11_helped_5, fT_11_23, dX11_helped_8, dX11_helped_11, dX11_helped_12, dX11_helped_15, fT_11_153, dX11_helped_18, dX11_helped_21, dX11_helped_22, dX11_helped_25, dX11_helped_26, dX11_helped_29, dX11_helped_32]
    refine hG.callV dX11_helped_29 mv_11_177 [] [] (c2_untangling l X (d - 1) sh mI1 mL mR n 33 o2 (A 0 0) _ R1.2.1 (by omega)) ⟨_, rfl, rfl⟩ s2 (by omega) rfl (by decide) (by simp [Value.category]) rfl ?_
    rintro r M' ⟨rfl, mI2, rfl, f2⟩
    have e : helpA (A 0 0) (A 0 2) (A 5) (A 6) = setN (fun p => !decide (plA (A 0 0) (ahA (A 5) (A 6) (A 0 2)) 10 (anot (2 ^ A 0 0 - 1) (2 ^ p)) 1 = 0)) (A 0 0) := by unfold helpA; rw [if_neg (of_decide_eq_false ho), hlp_set hnp]
    have q := hP _ _ ⟨rfl, mI2, rfl, fun a k h => (f2 a k (by omega)).trans (f1 a k h), I1.fr (fun a k _ _ h => f2 a k h)⟩
    rw [e] at q
    refine hG.run [] 20 ?_
    simp [wp, stepI, ln, jmp, cmpI, Value.category, rd, tyF, va_rf, st1, st2, clr, isLg, CB, inx_0, inx_1, inx_2, inx_3, inx_4, inx_5, bI_0, bI_1, bI_ok, fin3, tyX11, entL, q0, dX11_helped_0, dX11_helped_1, fT_11_34, dX11_helped_4, dX11_helped_5, fT_11_23, dX11_helped_8, dX11_helped_11, dX11_helped_12, dX11_helped_15, fT_11_153, dX11_helped_18, dX11_helped_21, dX11_helped_22, dX11_helped_25, dX11_helped_26, dX11_helped_29, dX11_helped_32]
    exact q
