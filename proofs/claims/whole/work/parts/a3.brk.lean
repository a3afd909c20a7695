/-! the breaks as they are kept -/
def BrR (mI : Nat → Nat → Int32) (A : DD) (w : Int32) : Prop := mI 49 6 = nI 1 ∧ mI 49 7 = w ∧ mI 52 0 = nI (fewC (A 0 0) (A 0 2) (A 5) (A 6) (A 7) w 0) ∧ ∀ i, i < A 0 0 → mI 53 i = nI (nxP (A 0 0) (A 0 2) (A 5) (A 6) (A 7) w (fewC (A 0 0) (A 0 2) (A 5) (A 6) (A 7) w) (rwT (A 0 0) (A 0 2) (A 5) (A 6) (A 7) w (fewC (A 0 0) (A 0 2) (A 5) (A 6) (A 7) w) i))
def BrI (mI : Nat → Nat → Int32) (A : DD) : Prop := mI 49 6 = nI 0 ∨ ∃ w, BrR mI A w
theorem BrI.fr {mI mI' : Nat → Nat → Int32} {A : DD} (h : BrI mI A) (he : ∀ a k, 49 ≤ a → a ≤ 53 → mI' a k = mI a k) : BrI mI' A := by
  rcases h with h | ⟨w, h1, h2, h3, h4⟩
  · exact Or.inl ((he _ _ (by decide) (by decide)).trans h)
  · exact Or.inr ⟨w, (he _ _ (by decide) (by decide)).trans h1, (he _ _ (by decide) (by decide)).trans h2, (he _ _ (by decide) (by decide)).trans h3, fun i hi => (he _ _ (by decide) (by decide)).trans (h4 i hi)⟩
theorem c1_now (l : Launch) (X : Cx) (d : Nat) (sh : Nat → Option Sh) (mI : Nat → Nat → Int32) (mL : Nat → Nat → Int64) (mR : Nat → Nat → Option Nat) (n : Nat) (hB : BL sh mR) (C : Nat) (A : DD) (hV : AsV A) (hS : ShA sh mI mR n 20 C A) (hI : BrI mI A) (w : Int32) (hw : w = -nI 1 ∨ nI 0 ≤ w) (hd : 2 ≤ d) : Cn l X yX1_study cX1_study 5 none d [.ref 49, .ref 20, .int w] (sh, mI, mL, mR, n) (fun r M' => r = none ∧ ∃ mI' mL', M' = (sh, mI', mL', mR, n) ∧ (∀ a k, ¬ (49 ≤ a ∧ a ≤ 53) → mI' a k = mI a k) ∧ (∀ a k, ¬ (49 ≤ a ∧ a ≤ 53) → mL' a k = mL a k) ∧ BrR mI' A w) 0 0 := by
  have o1 := hB.2.2.2.2.2.2.2.2.1.2
  have o6 := hB.2.2.2.1.2
  obtain ⟨z1, -, -, z4, -⟩ := hS.s hV
  have cr := hS.2.1.c
  have go : ¬ (¬ mI 49 6 = 0 ∧ mI 49 7 = w) → Cn l X yX1_study cX1_study 5 none d [.ref 49, .ref 20, .int w] (sh, mI, mL, mR, n) (fun r M' => r = none ∧ ∃ mI' mL', M' = (sh, mI', mL', mR, n) ∧ (∀ a k, ¬ (49 ≤ a ∧ a ≤ 53) → mI' a k = mI a k) ∧ (∀ a k, ¬ (49 ≤ a ∧ a ≤ 53) → mL' a k = mL a k) ∧ BrR mI' A w) 0 0 := fun hnr => by
    refine (c1_study l X d sh mI mL mR n 49 20 C o1 o6 hS.1 hS.2.1.1 (by omega) (by omega) (A 0 0) z1 (A 0 2) (A 5) (A 6) (A 7) z4 w hw hnr hd).weak ?_
    rintro r M' ⟨rfl, mI', mL', rfl, f1, f2, f3, f4, f5, f6⟩
    exact ⟨rfl, mI', mL', rfl, fun a k h => f1 a k (by omega) (by omega) (by omega), fun a k h => f2 a k (by omega) (by omega), f5, f6, f3, f4⟩
  rcases hI with h | ⟨w', h⟩
  · exact go (fun z => z.1 h)
  · by_cases e : w' = w
    · subst e
      refine (c1_studyR l X d sh mI mL mR n 49 20 o1 w' h.1 h.2.1).weak ?_
      rintro r M' ⟨rfl, rfl⟩
      exact ⟨rfl, mI, mL, rfl, fun _ _ _ => rfl, fun _ _ _ => rfl, h⟩
    · exact go (fun z => e (h.2.1.symm.trans z.2))
set_option maxHeartbeats 800000 in
set_option maxRecDepth 100000 in
theorem c11_dropped (l : Launch) (X : Cx) (d : Nat) (sh : Nat → Option Sh) (mI : Nat → Nat → Int32) (mL : Nat → Nat → Int64) (mR : Nat → Nat → Option Nat) (n : Nat) (hB : BL sh mR) (C : Nat) (A : DD) (hV : AsV A) (hS : ShA sh mI mR n 20 C A) (hI : BrI mI A) (w : Int32) (hd : 3 ≤ d) : Cn l X yX11_dropped cX11_dropped 2 (some .int) d [.ref 0, .int w] (sh, mI, mL, mR, n) (fun r M' => r = some (.int (dropA (A 0 0) (A 0 2) (A 5) (A 6) (A 7) w)) ∧ ∃ mI' mL', M' = (sh, mI', mL', mR, n) ∧ (∀ a k, ¬ (49 ≤ a ∧ a ≤ 53) → mI' a k = mI a k) ∧ (∀ a k, ¬ (49 ≤ a ∧ a ≤ 53) → mL' a k = mL a k) ∧ BrI mI' A) 0 0 := by
  refine Cn.run 11 false (by decide) rfl (by decide) (by simp [entA, Value.category]) ?_
  intro P G hP hG
  have q0 := hB.1
  have b3 := hB.2.2.2.1.1
  have b8 := hB.2.2.2.2.2.2.2.2.1.1
  have o1 := hB.2.2.2.2.2.2.2.2.1.2
  have s1 := o1.1
  by_cases hw : -nI 1 ≤ w ∧ w ≤ nI 1
  · have h2 : w < 2 := by
      have a1 := Int32.le_iff_toInt_le.mp hw.2
      refine Int32.lt_iff_toInt_lt.mpr ?_
      have : (nI 1).toInt = 1 := rfl
      have : (2 : Int32).toInt = 2 := rfl
      omega
    have h1 : -1 ≤ w := hw.1
    have hw' : w = -nI 1 ∨ nI 0 ≤ w := by
      have a1 := Int32.le_iff_toInt_le.mp hw.1
      by_cases e : w = -nI 1
      · exact Or.inl e
      · refine Or.inr (Int32.le_iff_toInt_le.mpr ?_)
        have e2 : w.toInt ≠ (-nI 1).toInt := fun z => e (Int32.toInt_inj.mp z)
        have : (-nI 1).toInt = -1 := rfl
        have : (nI 0).toInt = 0 := rfl
        omega
    refine hG.run [22] 20 ?_
    simp [wp, stepI, ln, jmp, cmpI, Value.category, rd, tyF, va_rf, st1, st2, clr, isLg, CB, inx_0, inx_1, inx_2, inx_3, inx_4, inx_5, bI_0, bI_1, bI_ok, fin3, tyX11, entL, q0, b3, b8, dX11_dropped_0, dX11_dropped_1, dX11_dropped_2, dX11_dropped_5, dX11_dropped_6, dX11_dropped_7, dX11_dropped_10, dX11_dropped_12, dX11_dropped_13, dX11_dropped_14, fT_11_53, dX11_dropped_17, dX11_dropped_18, fT_11_23, dX11_dropped_21, dX11_dropped_22, dX11_dropped_25, dX11_dropped_26, dX11_dropped_29, dX11_dropped_32]
    refine ⟨fun z => absurd h1 (Int32.not_le.mpr z), fun _ => ⟨fun _ => ?_, fun z => absurd h2 (Int32.not_lt.mpr z)⟩⟩
    refine hG.callV dX11_dropped_22 mv_11_167 [.ref 20, .int w] [] (c1_now l X (d - 1) sh mI mL mR n hB C A hV hS hI w hw' (by omega)) ⟨_, rfl, rfl⟩ s1 (by omega) rfl (by decide) (by simp [Value.category]) rfl ?_
    rintro r M' ⟨rfl, mI1, mL1, rfl, f1, f2, R1⟩
    have q := hP _ _ ⟨rfl, mI1, mL1, rfl, f1, f2, Or.inr ⟨w, R1⟩⟩
    have e : dropA (A 0 0) (A 0 2) (A 5) (A 6) (A 7) w = mI1 52 0 := by
      unfold dropA
      rw [show wth w (-nI 1) (nI 1) = true from decide_eq_true hw, if_pos rfl, R1.2.2.1]
    rw [e] at q
    refine hG.run [] 20 ?_
    simp [wp, stepI, ln, jmp, cmpI, Value.category, rd, tyF, va_rf, st1, st2, clr, isLg, CB, inx_0, inx_1, inx_2, inx_3, inx_4, inx_5, bI_0, bI_1, bI_ok, fin3, tyX11, entL, q0, b8, dX11_dropped_0, dX11_dropped_1, dX11_dropped_2, dX11_dropped_5, dX11_dropped_6, dX11_dropped_7, dX11_dropped_10, dX11_dropped_12, dX11_dropped_13, dX11_dropped_14, fT_11_53, dX11_dropped_17, dX11_dropped_18, fT_11_23, dX11_dropped_21, dX11_dropped_22, dX11_dropped_25, dX11_dropped_26, dX11_dropped_29, dX11_dropped_32]
    refine hG.callV dX11_dropped_29 mv_11_170 [] [] (c1_fewest l X (d - 1) sh mI1 mL1 mR n 49 o1) ⟨_, rfl, rfl⟩ s1 (by omega) rfl (by decide) (by simp [Value.category]) rfl ?_
    rintro r M' ⟨rfl, rfl⟩
    refine hG.run [] 20 ?_
    simp [wp, stepI, ln, jmp, cmpI, Value.category, rd, tyF, va_rf, st1, st2, clr, isLg, CB, inx_0, inx_1, inx_2, inx_3, inx_4, inx_5, bI_0, bI_1, bI_ok, fin3, tyX11, entL, q0, dX11_dropped_0, dX11_dropped_1, dX11_dropped_2, dX11_dropped_5, dX11_dropped_6, dX11_dropped_7, dX11_dropped_10, dX11_dropped_12, dX11_dropped_13, dX11_dropped_14, fT_11_53, dX11_dropped_17, dX11_dropped_18, fT_11_23, dX11_dropped_21, dX11_dropped_22, dX11_dropped_25, dX11_dropped_26, dX11_dropped_29, dX11_dropped_32]
    exact q
  · have q := hP _ _ ⟨rfl, mI, mL, rfl, fun _ _ _ => rfl, fun _ _ _ => rfl, hI⟩
    have e : dropA (A 0 0) (A 0 2) (A 5) (A 6) (A 7) w = -2 := by
      unfold dropA
      rw [show wth w (-nI 1) (nI 1) = false from decide_eq_false hw]; rfl
    rw [e] at q
    refine hG.run [22] 20 ?_
    simp [wp, stepI, ln, jmp, cmpI, Value.category, rd, tyF, va_rf, st1, st2, clr, isLg, CB, inx_0, inx_1, inx_2, inx_3, inx_4, inx_5, bI_0, bI_1, bI_ok, fin3, tyX11, entL, q0, b3, b8, dX11_dropped_0, dX11_dropped_1, dX11_dropped_2, dX11_dropped_5, dX11_dropped_6, dX11_dropped_7, dX11_dropped_10, dX11_dropped_12, dX11_dropped_13, dX11_dropped_14, fT_11_53, dX11_dropped_17, dX11_dropped_18, fT_11_23, dX11_dropped_21, dX11_dropped_22, dX11_dropped_25, dX11_dropped_26, dX11_dropped_29, dX11_dropped_32]
    refine ⟨fun _ => q, fun z => ⟨fun z2 => absurd ⟨z, ?_⟩ hw, fun _ => q⟩⟩
    have a1 := Int32.lt_iff_toInt_lt.mp z2
    refine Int32.le_iff_toInt_le.mpr ?_
    have : (nI 1).toInt = 1 := rfl
    have : (2 : Int32).toInt = 2 := rfl
    omega
def aRow (A : DD) (x : Int32) : Int32 := if aP A x then nI (rowN (A 0 0) (A 0 2) (A 5) (A 6) (A 7) x.toNatClampNeg) else -nI 1
set_option maxHeartbeats 800000 in
set_option maxRecDepth 100000 in
theorem c11_row (l : Launch) (X : Cx) (d : Nat) (sh : Nat → Option Sh) (mI : Nat → Nat → Int32) (mL : Nat → Nat → Int64) (mR : Nat → Nat → Option Nat) (n : Nat) (hB : BL sh mR) (C : Nat) (A : DD) (hV : AsV A) (hS : ShA sh mI mR n 20 C A) (hI : BrI mI A) (x : Int32) (hd : 3 ≤ d) : Cn l X yX11_row cX11_row 2 (some .int) d [.ref 0, .int x] (sh, mI, mL, mR, n) (fun r M' => r = some (.int (aRow A x)) ∧ ∃ mI' mL', M' = (sh, mI', mL', mR, n) ∧ (∀ a k, ¬ (49 ≤ a ∧ a ≤ 53) → mI' a k = mI a k) ∧ (∀ a k, ¬ (49 ≤ a ∧ a ≤ 53) → mL' a k = mL a k) ∧ BrI mI' A) 0 0 := by
  refine Cn.run 11 false (by decide) rfl (by decide) (by simp [entA, Value.category]) ?_
  intro P G hP hG
  have q0 := hB.1
  have b3 := hB.2.2.2.1.1
  have b8 := hB.2.2.2.2.2.2.2.2.1.1
  have o1 := hB.2.2.2.2.2.2.2.2.1.2
  have s1 := o1.1
  have k4 := o1.2.2 (3, 4, .int, 10) (by decide)
  dsimp only at k4
  have hnp := hV.1.1
  refine hG.run [] 20 ?_
  simp [wp, stepI, ln, jmp, cmpI, Value.category, rd, tyF, va_rf, st1, st2, clr, isLg, CB, inx_0, inx_1, inx_2, inx_3, inx_4, inx_5, bI_0, bI_1, bI_ok, fin3, tyX11, entL, q0, dX11_row_0, dX11_row_1, dX11_row_2, dX11_row_5, dX11_row_8, dX11_row_9, dX11_row_10, dX11_row_11, fT_11_53, dX11_row_14, dX11_row_15, fT_11_23, dX11_row_18, dX11_row_19, dX11_row_22, dX11_row_23, dX11_row_26, fT_11_174, dX11_row_29, dX11_row_30, dX11_row_31]
  refine hG.callV dX11_row_2 mv_11_100 [.int x] [] (c11_isPupil l X (d - 1) sh mI mL mR n hB C A hS x) ⟨_, rfl, rfl⟩ q0 (by omega) rfl (by decide) (by simp [Value.category]) rfl ?_
  rintro r M' ⟨rfl, rfl⟩
  cases hx : aP A x with
  | false =>
    have q := hP _ _ ⟨rfl, mI, mL, rfl, fun _ _ _ => rfl, fun _ _ _ => rfl, hI⟩
    have e : aRow A x = -1 := by unfold aRow; rw [hx]; rfl
    rw [e] at q
    refine hG.run [10] 20 ?_
    simp [wp, stepI, ln, jmp, cmpI, Value.category, rd, tyF, va_rf, st1, st2, clr, isLg, CB, inx_0, inx_1, inx_2, inx_3, inx_4, inx_5, bI_0, bI_1, bI_ok, fin3, tyX11, entL, q0, dX11_row_0, dX11_row_1, dX11_row_2, dX11_row_5, dX11_row_8, dX11_row_9, dX11_row_10, dX11_row_11, fT_11_53, dX11_row_14, dX11_row_15, fT_11_23, dX11_row_18, dX11_row_19, dX11_row_22, dX11_row_23, dX11_row_26, fT_11_174, dX11_row_29, dX11_row_30, dX11_row_31]
    exact q
  | true =>
    obtain ⟨p, hp, rfl⟩ := aP_i hV hx
    refine hG.run [19] 20 ?_
    simp [wp, stepI, ln, jmp, cmpI, Value.category, rd, tyF, va_rf, st1, st2, clr, isLg, CB, inx_0, inx_1, inx_2, inx_3, inx_4, inx_5, bI_0, bI_1, bI_ok, fin3, tyX11, entL, q0, b3, b8, dX11_row_0, dX11_row_1, dX11_row_2, dX11_row_5, dX11_row_8, dX11_row_9, dX11_row_10, dX11_row_11, fT_11_53, dX11_row_14, dX11_row_15, fT_11_23, dX11_row_18, dX11_row_19, dX11_row_22, dX11_row_23, dX11_row_26, fT_11_174, dX11_row_29, dX11_row_30, dX11_row_31]
    refine hG.callV dX11_row_19 mv_11_167 [.ref 20, .int (-1)] [] (c1_now l X (d - 1) sh mI mL mR n hB C A hV hS hI (-1) (Or.inl rfl) (by omega)) ⟨_, rfl, rfl⟩ s1 (by omega) rfl (by decide) (by simp [Value.category]) rfl ?_
    rintro r M' ⟨rfl, mI1, mL1, rfl, f1, f2, R1⟩
    have q := hP _ _ ⟨rfl, mI1, mL1, rfl, f1, f2, Or.inr ⟨_, R1⟩⟩
    have e : aRow A (nI p) = mI1 53 p := by
      unfold aRow
      rw [hx, if_pos rfl, R1.2.2.2 p hp, nI_clamp (by omega)]; rfl
    rw [e] at q
    refine hG.run [] 20 ?_
    simp [wp, stepI, ln, jmp, cmpI, Value.category, rd, tyF, va_rf, st1, st2, clr, isLg, CB, inx_0, inx_1, inx_2, inx_3, inx_4, inx_5, bI_0, bI_1, bI_ok, fin3, tyX11, entL, q0, b8, s1, k4, tyX1, okT, dX11_row_0, dX11_row_1, dX11_row_2, dX11_row_5, dX11_row_8, dX11_row_9, dX11_row_10, dX11_row_11, fT_11_53, dX11_row_14, dX11_row_15, fT_11_23, dX11_row_18, dX11_row_19, dX11_row_22, dX11_row_23, dX11_row_26, fT_11_174, dX11_row_29, dX11_row_30, dX11_row_31]
    simp (disch := omega) only [li, nI_add, nI_clamp, nI_ltI, nI_leI, nI_eq, inx_iff, a31, nI_1shl', nI_shr', div_bit, tb1, tb0, fa_or, fa_and, nI_not, pk_sub, nI_dec]
    exact ⟨by omega, q⟩
