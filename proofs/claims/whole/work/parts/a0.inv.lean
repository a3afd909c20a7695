/-! BenchOrder itself, at 0: its layout, and a sheet as a table of numbers -/
def BL (sh : Nat → Option Sh) (mR : Nat → Nat → Option Nat) : Prop := sh 0 = some (.inl 11) ∧ (mR 0 0 = some 1 ∧ sh 1 = some (.inr (.byte, 1000))) ∧ (mR 0 2 = some 2 ∧ RdB sh mR 2) ∧ (mR 0 3 = some 20 ∧ OL sh mR 20 6 ob6) ∧ (mR 0 4 = some 32 ∧ sh 32 = some (.inr (.object RX6, 4)) ∧ ∀ m, m < 4 → mR 32 m = some (81 + 12 * m) ∧ OL sh mR (81 + 12 * m) 6 ob6) ∧ (mR 0 5 = some 33 ∧ OL sh mR 33 2 ob2) ∧ (mR 0 6 = some 37 ∧ OL sh mR 37 7 ob7) ∧ (mR 0 7 = some 43 ∧ OL sh mR 43 7 ob7) ∧ (mR 0 8 = some 49 ∧ OL sh mR 49 1 ob1) ∧ (mR 0 9 = some 54 ∧ OL sh mR 54 0 ob0) ∧ (mR 0 10 = some 58 ∧ OL sh mR 58 9 ob9) ∧ (mR 0 11 = some 63 ∧ SnL sh mR 63)
/-- a school as numbers: 0 0 pupils, 0 1 benches, 0 2 sayings, 0 3 slip, 0 6 codes; 2 kinds, 3 tall, 4 rows, 5 6 7 sayings, 8 likings, 10 codes, 11 seats, 12 plans (0: none) -/
def ScA (sh : Nat → Option Sh) (mI : Nat → Nat → Int32) (mR : Nat → Nat → Option Nat) (n C : Nat) (A : DD) : Prop := OL sh mR C 4 ob4 ∧ ((C = 21 ∧ mR C 7 = some 26) ∨ 171 ≤ C) ∧ C + 5 < n ∧ (mI C 4 = nI (A 0 0) ∧ mI C 5 = nI (A 0 1) ∧ mI C 6 = nI (A 0 3)) ∧ (∀ p, p < A 0 0 → mI (C + 1) p = nI (A 2 p) ∧ mI (C + 2) p = nI (A 3 p)) ∧ (∀ k, k < A 0 1 → mI (C + 3) k = nI (A 4 k)) ∧ (∀ i, i < 100 → mI (C + 4) i = nI (A 8 i)) ∧ WiR sh mI mR C n (A 0 6) (A 10)
def ShA (sh : Nat → Option Sh) (mI : Nat → Nat → Int32) (mR : Nat → Nat → Option Nat) (n S C : Nat) (A : DD) : Prop := mR S 0 = some C ∧ ScA sh mI mR n C A ∧ mI S 4 = nI (A 0 2) ∧ (∀ k, k < A 0 2 → mI (S + 7) k = nI (A 5 k) ∧ mI (S + 8) k = nI (A 6 k) ∧ mI (S + 9) k = nI (A 7 k)) ∧ ∀ p, p < A 0 0 → mI (S + 10) p = nI (A 11 p) - nI 1 ∧ mI (S + 11) p = nI (A 12 p) - nI 1
def AsV (A : DD) : Prop := (A 0 0 ≤ 10 ∧ A 0 1 ≤ 6 ∧ A 0 2 ≤ 40 ∧ A 0 3 ≤ 3 ∧ A 0 6 ≤ 1000) ∧ (∀ p, p < A 0 0 → A 2 p < 5 ∧ A 3 p ≤ 99) ∧ (∀ k, k < 6 → A 4 k ≤ 9) ∧ (∀ k, k < A 0 2 → A 5 k < A 0 0 ∧ A 6 k < A 0 0 ∧ A 5 k ≠ A 6 k ∧ A 7 k < 2) ∧ (∀ i, i < 100 → A 8 i ≤ 99) ∧ (∀ i, i < A 0 6 → A 10 i ≤ 10099) ∧ (∀ p, p < A 0 0 → A 11 p ≤ 2 * A 0 1 ∧ A 12 p ≤ 2 * A 0 1) ∧ ∀ p q, p < A 0 0 → q < A 0 0 → p ≠ q → (A 11 p ≠ 0 → A 11 p ≠ A 11 q) ∧ (A 12 p ≠ 0 → A 12 p ≠ A 12 q)
def aP (A : DD) (x : Int32) : Bool := isP (fun _ _ => nI (A 0 0)) x
def a2 (A : DD) (x y : Int32) : Bool := aP A x && aP A y && decide (x ≠ y)
def aS (A : DD) (k : Int32) : Bool := decide (-nI 1 ≤ k ∧ k < nI (2 * A 0 1))
theorem aP_i {A : DD} {x : Int32} (hV : AsV A) (h : aP A x = true) : ∃ p, p < A 0 0 ∧ x = nI p := isP_nat ⟨rfl, hV.1.1⟩ h
theorem aP_nI {A : DD} (hV : AsV A) {p : Nat} (h : p < A 0 0) : aP A (nI p) = true := isP_nI ⟨rfl, hV.1.1⟩ h
set_option maxHeartbeats 800000 in
set_option maxRecDepth 100000 in
theorem c11_isPupil (l : Launch) (X : Cx) (d : Nat) (sh : Nat → Option Sh) (mI : Nat → Nat → Int32) (mL : Nat → Nat → Int64) (mR : Nat → Nat → Option Nat) (n : Nat) (hB : BL sh mR) (C : Nat) (A : DD) (hS : ShA sh mI mR n 20 C A) (x : Int32) : Cn l X yX11_isPupil cX11_isPupil 2 (some .boolean) d [.ref 0, .int x] (sh, mI, mL, mR, n) (fun r M' => M' = (sh, mI, mL, mR, n) ∧ r = some (.int (bI (aP A x)))) 0 0 := by
  refine Cn.run 11 false (by decide) rfl (by decide) (by simp [entA, Value.category]) ?_
  intro P G hP hG
  have q0 := hB.1
  have b3 := hB.2.2.2.1
  have s6 := b3.2.1
  have sc := hS.1
  have c4 := hS.2.1.1.1
  have cp := hS.2.1.2.2.2.1.1
  refine hG.run [] 60 ?_
  simp [wp, stepI, ln, jmp, cmpI, Value.category, rd, tyF, va_rf, st1, st2, clr, isLg, CB, inx_0, inx_1, inx_2, inx_3, inx_4, inx_5, bI_0, bI_1, bI_ok, fin3, tyX11, entL, q0, b3, s6, sc, c4, cp, tyX6, tyX4, dX11_isPupil_0, dX11_isPupil_1, dX11_isPupil_4, dX11_isPupil_5, dX11_isPupil_6, fT_11_23, dX11_isPupil_9, fT_11_104, dX11_isPupil_12, fT_11_180, dX11_isPupil_15, dX11_isPupil_18, dX11_isPupil_19, dX11_isPupil_22, dX11_isPupil_23]
  refine ⟨fun h => hP _ _ ⟨rfl, ?_⟩, fun h => ⟨fun h2 => hP _ _ ⟨rfl, ?_⟩, fun h2 => hP _ _ ⟨rfl, ?_⟩⟩⟩
  · simp [bI, aP, isP, Int32.not_le.mpr h]
  · simp [bI, aP, isP, h, Int32.not_lt.mpr h2]
  · simp [bI, aP, isP, h, h2]
set_option maxHeartbeats 800000 in
set_option maxRecDepth 100000 in
theorem c11_areTwo (l : Launch) (X : Cx) (d : Nat) (sh : Nat → Option Sh) (mI : Nat → Nat → Int32) (mL : Nat → Nat → Int64) (mR : Nat → Nat → Option Nat) (n : Nat) (hB : BL sh mR) (C : Nat) (A : DD) (hS : ShA sh mI mR n 20 C A) (x y : Int32) (hd : 1 ≤ d) : Cn l X yX11_areTwo cX11_areTwo 3 (some .boolean) d [.ref 0, .int x, .int y] (sh, mI, mL, mR, n) (fun r M' => M' = (sh, mI, mL, mR, n) ∧ r = some (.int (bI (a2 A x y)))) 0 0 := by
  refine Cn.run 11 false (by decide) rfl (by decide) (by simp [entA, Value.category]) ?_
  intro P G hP hG
  have q0 := hB.1
  have b3 := hB.2.2.2.1
  have s6 := b3.2.1
  have sc := hS.1
  have c4 := hS.2.1.1.1
  refine hG.run [] 20 ?_
  simp [wp, stepI, ln, jmp, cmpI, Value.category, rd, tyF, va_rf, st1, st2, clr, isLg, CB, inx_0, inx_1, inx_2, inx_3, inx_4, inx_5, bI_0, bI_1, bI_ok, fin3, tyX11, entL, q0, dX11_areTwo_0, dX11_areTwo_1, dX11_areTwo_2, dX11_areTwo_5, dX11_areTwo_8, dX11_areTwo_9, dX11_areTwo_10, dX11_areTwo_13, dX11_areTwo_16, dX11_areTwo_17, dX11_areTwo_18, dX11_areTwo_21, dX11_areTwo_22, dX11_areTwo_25, dX11_areTwo_26]
  refine hG.callV dX11_areTwo_2 mv_11_100 [.int x] [] (c11_isPupil l X (d - 1) sh mI mL mR n hB C A hS x) ⟨_, rfl, rfl⟩ q0 (by omega) rfl (by decide) (by simp [Value.category]) rfl ?_
  rintro r M' ⟨rfl, rfl⟩
  refine hG.run [] 20 ?_
  simp [wp, stepI, ln, jmp, cmpI, Value.category, rd, tyF, va_rf, st1, st2, clr, isLg, CB, inx_0, inx_1, inx_2, inx_3, inx_4, inx_5, bI_0, bI_1, bI_ok, fin3, tyX11, entL, q0, dX11_areTwo_0, dX11_areTwo_1, dX11_areTwo_2, dX11_areTwo_5, dX11_areTwo_8, dX11_areTwo_9, dX11_areTwo_10, dX11_areTwo_13, dX11_areTwo_16, dX11_areTwo_17, dX11_areTwo_18, dX11_areTwo_21, dX11_areTwo_22, dX11_areTwo_25, dX11_areTwo_26]
  refine ⟨fun h => hP _ _ ⟨rfl, by simp [bI, a2, h]⟩, fun h => ?_⟩
  refine hG.callV dX11_areTwo_10 mv_11_100 [.int y] [] (c11_isPupil l X (d - 1) sh mI mL mR n hB C A hS y) ⟨_, rfl, rfl⟩ q0 (by omega) rfl (by decide) (by simp [Value.category]) rfl ?_
  rintro r M' ⟨rfl, rfl⟩
  refine hG.run [] 20 ?_
  simp [wp, stepI, ln, jmp, cmpI, Value.category, rd, tyF, va_rf, st1, st2, clr, isLg, CB, inx_0, inx_1, inx_2, inx_3, inx_4, inx_5, bI_0, bI_1, bI_ok, fin3, tyX11, entL, q0, dX11_areTwo_0, dX11_areTwo_1, dX11_areTwo_2, dX11_areTwo_5, dX11_areTwo_8, dX11_areTwo_9, dX11_areTwo_10, dX11_areTwo_13, dX11_areTwo_16, dX11_areTwo_17, dX11_areTwo_18, dX11_areTwo_21, dX11_areTwo_22, dX11_areTwo_25, dX11_areTwo_26]
  refine ⟨fun h2 => hP _ _ ⟨rfl, by simp [bI, a2, h2]⟩, fun h2 => ⟨fun h3 => hP _ _ ⟨rfl, by simp [bI, a2, h3]⟩, fun h3 => hP _ _ ⟨rfl, by simp [bI, a2, h, h2, h3]⟩⟩⟩
set_option maxHeartbeats 800000 in
set_option maxRecDepth 100000 in
theorem c11_isSeatOrNone (l : Launch) (X : Cx) (d : Nat) (sh : Nat → Option Sh) (mI : Nat → Nat → Int32) (mL : Nat → Nat → Int64) (mR : Nat → Nat → Option Nat) (n : Nat) (hB : BL sh mR) (C : Nat) (A : DD) (hS : ShA sh mI mR n 20 C A) (x : Int32) : Cn l X yX11_isSeatOrNone cX11_isSeatOrNone 2 (some .boolean) d [.ref 0, .int x] (sh, mI, mL, mR, n) (fun r M' => M' = (sh, mI, mL, mR, n) ∧ r = some (.int (bI (aS A x)))) 0 0 := by
  refine Cn.run 11 false (by decide) rfl (by decide) (by simp [entA, Value.category]) ?_
  intro P G hP hG
  have q0 := hB.1
  have b3 := hB.2.2.2.1
  have s6 := b3.2.1
  have sc := hS.1
  have c4 := hS.2.1.1.1
  have cb := hS.2.1.2.2.2.1.2.1
  refine hG.run [] 60 ?_
  simp [wp, stepI, ln, jmp, cmpI, Value.category, rd, tyF, va_rf, st1, st2, clr, isLg, CB, inx_0, inx_1, inx_2, inx_3, inx_4, inx_5, bI_0, bI_1, bI_ok, fin3, tyX11, entL, q0, b3, s6, sc, c4, cb, tyX6, tyX4, dX11_isSeatOrNone_0, dX11_isSeatOrNone_1, dX11_isSeatOrNone_2, dX11_isSeatOrNone_5, dX11_isSeatOrNone_6, dX11_isSeatOrNone_7, dX11_isSeatOrNone_8, fT_11_23, dX11_isSeatOrNone_11, fT_11_104, dX11_isSeatOrNone_14, fT_11_264, dX11_isSeatOrNone_17, dX11_isSeatOrNone_18, dX11_isSeatOrNone_21, dX11_isSeatOrNone_22, dX11_isSeatOrNone_25, dX11_isSeatOrNone_26]
  have e : 2 * nI (A 0 1) = nI (2 * A 0 1) := by rw [show (2 : Int32) = nI 2 from rfl, nI_mul]
  rw [e]
  refine ⟨fun h => hP _ _ ⟨rfl, ?_⟩, fun h => ⟨fun h2 => hP _ _ ⟨rfl, ?_⟩, fun h2 => hP _ _ ⟨rfl, ?_⟩⟩⟩
  · have h' : x < -nI 1 := h
    simp [bI, aS, Int32.not_le.mpr h']
  · simp [bI, aS, Int32.not_lt.mpr h2]
  · have h' : -nI 1 ≤ x := h
    simp [bI, aS, h', h2]
/-- what is forgotten -/
def fgI (mI : Nat → Nat → Int32) : Nat → Nat → Int32 := up2 (up2 (up2 (up2 (up2 (up2 (up2 mI 33 5 0) 37 8 0) 37 9 0) 43 8 0) 43 9 0) 49 6 0) 58 5 0
set_option maxHeartbeats 800000 in
set_option maxRecDepth 100000 in
theorem c11_forgetStudies (l : Launch) (X : Cx) (d : Nat) (sh : Nat → Option Sh) (mI : Nat → Nat → Int32) (mL : Nat → Nat → Int64) (mR : Nat → Nat → Option Nat) (n : Nat) (hB : BL sh mR) (hd : 1 ≤ d) : Cn l X yX11_forgetStudies cX11_forgetStudies 1 none d [.ref 0] (sh, mI, mL, mR, n) (fun r M' => r = none ∧ M' = (sh, fgI mI, mL, mR, n)) 0 0 := by
  refine Cn.run 11 false (by decide) rfl (by decide) (by simp [entA, Value.category]) ?_
  intro P G hP hG
  obtain ⟨q0, -, -, -, -, l5, l6, l7, l8, -, l10, -⟩ := hB
  have k5 := l5.2.1
  have k6 := l6.2.1
  have k7 := l7.2.1
  have k8 := l8.2.1
  have k10 := l10.2.1
  refine hG.run [] 20 ?_
  simp [wp, stepI, ln, jmp, cmpI, Value.category, rd, tyF, va_rf, st1, st2, clr, isLg, CB, inx_0, inx_1, inx_2, inx_3, inx_4, inx_5, bI_0, bI_1, bI_ok, fin3, tyX11, entL, q0, l5.1, dX11_forgetStudies_0, dX11_forgetStudies_1, fT_11_34, dX11_forgetStudies_4, dX11_forgetStudies_7, dX11_forgetStudies_8, fT_11_43, dX11_forgetStudies_11, dX11_forgetStudies_14, dX11_forgetStudies_15, fT_11_47, dX11_forgetStudies_18, dX11_forgetStudies_21, dX11_forgetStudies_22, fT_11_53, dX11_forgetStudies_25, dX11_forgetStudies_28, dX11_forgetStudies_29, fT_11_67, dX11_forgetStudies_32, dX11_forgetStudies_35]
  refine hG.callV dX11_forgetStudies_4 mv_11_275 [] [] (c2_forget l X (d - 1) sh mI mL mR n 33 l5.2) ⟨_, rfl, rfl⟩ k5 (by omega) rfl (by decide) (by simp) rfl ?_
  rintro r M' ⟨rfl, rfl⟩
  refine hG.run [] 20 ?_
  simp [wp, stepI, ln, jmp, cmpI, Value.category, rd, tyF, va_rf, st1, st2, clr, isLg, CB, inx_0, inx_1, inx_2, inx_3, inx_4, inx_5, bI_0, bI_1, bI_ok, fin3, tyX11, entL, q0, l6.1, dX11_forgetStudies_0, dX11_forgetStudies_1, fT_11_34, dX11_forgetStudies_4, dX11_forgetStudies_7, dX11_forgetStudies_8, fT_11_43, dX11_forgetStudies_11, dX11_forgetStudies_14, dX11_forgetStudies_15, fT_11_47, dX11_forgetStudies_18, dX11_forgetStudies_21, dX11_forgetStudies_22, fT_11_53, dX11_forgetStudies_25, dX11_forgetStudies_28, dX11_forgetStudies_29, fT_11_67, dX11_forgetStudies_32, dX11_forgetStudies_35]
  refine hG.callV dX11_forgetStudies_11 mv_11_276 [] [] (c7_forget l X (d - 1) sh _ mL mR n 37 l6.2) ⟨_, rfl, rfl⟩ k6 (by omega) rfl (by decide) (by simp) rfl ?_
  rintro r M' ⟨rfl, rfl⟩
  refine hG.run [] 20 ?_
  simp [wp, stepI, ln, jmp, cmpI, Value.category, rd, tyF, va_rf, st1, st2, clr, isLg, CB, inx_0, inx_1, inx_2, inx_3, inx_4, inx_5, bI_0, bI_1, bI_ok, fin3, tyX11, entL, q0, l7.1, dX11_forgetStudies_0, dX11_forgetStudies_1, fT_11_34, dX11_forgetStudies_4, dX11_forgetStudies_7, dX11_forgetStudies_8, fT_11_43, dX11_forgetStudies_11, dX11_forgetStudies_14, dX11_forgetStudies_15, fT_11_47, dX11_forgetStudies_18, dX11_forgetStudies_21, dX11_forgetStudies_22, fT_11_53, dX11_forgetStudies_25, dX11_forgetStudies_28, dX11_forgetStudies_29, fT_11_67, dX11_forgetStudies_32, dX11_forgetStudies_35]
  refine hG.callV dX11_forgetStudies_18 mv_11_276 [] [] (c7_forget l X (d - 1) sh _ mL mR n 43 l7.2) ⟨_, rfl, rfl⟩ k7 (by omega) rfl (by decide) (by simp) rfl ?_
  rintro r M' ⟨rfl, rfl⟩
  refine hG.run [] 20 ?_
  simp [wp, stepI, ln, jmp, cmpI, Value.category, rd, tyF, va_rf, st1, st2, clr, isLg, CB, inx_0, inx_1, inx_2, inx_3, inx_4, inx_5, bI_0, bI_1, bI_ok, fin3, tyX11, entL, q0, l8.1, dX11_forgetStudies_0, dX11_forgetStudies_1, fT_11_34, dX11_forgetStudies_4, dX11_forgetStudies_7, dX11_forgetStudies_8, fT_11_43, dX11_forgetStudies_11, dX11_forgetStudies_14, dX11_forgetStudies_15, fT_11_47, dX11_forgetStudies_18, dX11_forgetStudies_21, dX11_forgetStudies_22, fT_11_53, dX11_forgetStudies_25, dX11_forgetStudies_28, dX11_forgetStudies_29, fT_11_67, dX11_forgetStudies_32, dX11_forgetStudies_35]
  refine hG.callV dX11_forgetStudies_25 mv_11_255 [] [] (c1_forget l X (d - 1) sh _ mL mR n 49 l8.2) ⟨_, rfl, rfl⟩ k8 (by omega) rfl (by decide) (by simp) rfl ?_
  rintro r M' ⟨rfl, rfl⟩
  refine hG.run [] 20 ?_
  simp [wp, stepI, ln, jmp, cmpI, Value.category, rd, tyF, va_rf, st1, st2, clr, isLg, CB, inx_0, inx_1, inx_2, inx_3, inx_4, inx_5, bI_0, bI_1, bI_ok, fin3, tyX11, entL, q0, l10.1, dX11_forgetStudies_0, dX11_forgetStudies_1, fT_11_34, dX11_forgetStudies_4, dX11_forgetStudies_7, dX11_forgetStudies_8, fT_11_43, dX11_forgetStudies_11, dX11_forgetStudies_14, dX11_forgetStudies_15, fT_11_47, dX11_forgetStudies_18, dX11_forgetStudies_21, dX11_forgetStudies_22, fT_11_53, dX11_forgetStudies_25, dX11_forgetStudies_28, dX11_forgetStudies_29, fT_11_67, dX11_forgetStudies_32, dX11_forgetStudies_35]
  refine hG.callV dX11_forgetStudies_32 mv_11_277 [] [] (c9_forget l X (d - 1) sh _ mL mR n 58 l10.2) ⟨_, rfl, rfl⟩ k10 (by omega) rfl (by decide) (by simp) rfl ?_
  rintro r M' ⟨rfl, rfl⟩
  refine hG.run [] 20 ?_
  simp [wp, stepI, ln, jmp, cmpI, Value.category, rd, tyF, va_rf, st1, st2, clr, isLg, CB, inx_0, inx_1, inx_2, inx_3, inx_4, inx_5, bI_0, bI_1, bI_ok, fin3, tyX11, entL, q0, dX11_forgetStudies_0, dX11_forgetStudies_1, fT_11_34, dX11_forgetStudies_4, dX11_forgetStudies_7, dX11_forgetStudies_8, fT_11_43, dX11_forgetStudies_11, dX11_forgetStudies_14, dX11_forgetStudies_15, fT_11_47, dX11_forgetStudies_18, dX11_forgetStudies_21, dX11_forgetStudies_22, fT_11_53, dX11_forgetStudies_25, dX11_forgetStudies_28, dX11_forgetStudies_29, fT_11_67, dX11_forgetStudies_32, dX11_forgetStudies_35]
  exact hP _ _ ⟨rfl, rfl⟩
