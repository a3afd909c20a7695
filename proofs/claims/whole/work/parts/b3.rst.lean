/-! rests, rest -/
set_option maxHeartbeats 800000 in
set_option maxRecDepth 100000 in
theorem c11_rests (l : Launch) (X : Cx) (d : Nat) (sh : Nat → Option Sh) (mI : Nat → Nat → Int32) (mL : Nat → Nat → Int64) (mR : Nat → Nat → Option Nat) (n : Nat) (hn : n ≤ 1000000000) (hB : BL sh mR) (C : Nat) (A : DD) (hV : AsV A) (hS : ShA sh mI mR n 20 C A) (hI : LdI mI A) (hW : WsI mI mL A) (hd : 13 ≤ d) : Cn l X yX11_rests cX11_rests 1 (some .int) d [.ref 0] (sh, mI, mL, mR, n) (fun r M' => r = some (.int (if okR (A 0 0) then nI (rtsA (A 0 0) (aV A)) else -nI 1)) ∧ ∃ mI' mL', M' = (sh, mI', mL', mR, n) ∧ (∀ a k, ¬ (33 ≤ a ∧ a ≤ 36) → ¬ (58 ≤ a ∧ a ≤ 61) → mI' a k = mI a k) ∧ (∀ a k, a ≠ 62 → mL' a k = mL a k) ∧ LdI mI' A ∧ WsI mI' mL' A) 0 0 := by
  refine Cn.run 11 false (by decide) rfl (by decide) (by simp [entA, Value.category]) ?_
  intro P G hP hG
  have q0 := hB.1
  have b10 := hB.2.2.2.2.2.2.2.2.2.2.1.1
  have o9 := hB.2.2.2.2.2.2.2.2.2.2.1.2
  have s9 := o9.1
  refine hG.run [] 20 ?_
  simp [wp, stepI, ln, jmp, cmpI, Value.category, rd, tyF, va_rf, st1, st2, clr, isLg, CB, inx_0, inx_1, inx_2, inx_3, inx_4, inx_5, bI_0, bI_1, bI_ok, fin3, tyX11, entL, q0, dX11_rests_0, dX11_rests_1, dX11_rests_4, dX11_rests_7, dX11_rests_8, fT_11_67, dX11_rests_11, fT_11_237, dX11_rests_14, dX11_rests_17, dX11_rests_18]
  refine hG.callV dX11_rests_1 mv_11_233 [] [] (c11_findRests l X (d - 1) sh mI mL mR n hn hB C A hV hS hI hW (by omega)) ⟨_, rfl, rfl⟩ q0 (by omega) rfl (by decide) (by simp [Value.category]) rfl ?_
  rintro r M' ⟨rfl, mI1, mL1, rfl, f1, f2, I1, W1, R1⟩
  have q := hP _ _ ⟨rfl, mI1, mL1, rfl, f1, f2, I1, W1⟩
  cases h : okR (A 0 0) with
  | false =>
    rw [h] at q
    refine hG.run [] 20 ?_
    simp [wp, stepI, ln, jmp, cmpI, Value.category, rd, tyF, va_rf, st1, st2, clr, isLg, CB, inx_0, inx_1, inx_2, inx_3, inx_4, inx_5, bI_0, bI_1, bI_ok, fin3, tyX11, entL, q0, dX11_rests_0, dX11_rests_1, dX11_rests_4, dX11_rests_7, dX11_rests_8, fT_11_67, dX11_rests_11, fT_11_237, dX11_rests_14, dX11_rests_17, dX11_rests_18]
    exact q
  | true =>
    rw [h] at q
    have zz := h
    unfold okR at zz
    rw [Bool.and_eq_true, Bool.and_eq_true] at zz
    have ev : A 0 0 % 2 = 0 := of_decide_eq_true zz.1.2
    have n8 : A 0 0 ≤ 8 := of_decide_eq_true zz.2
    have fo : mI1 58 6 = nI (rtsA (A 0 0) (aV A)) := by
      rw [(R1 h).2.1, (kpA_rst n8 ev (aV A) (-nI 1) (fun _ => nI 0)).1]; rfl
    refine hG.run [] 20 ?_
    simp [wp, stepI, ln, jmp, cmpI, Value.category, rd, tyF, va_rf, st1, st2, clr, isLg, CB, inx_0, inx_1, inx_2, inx_3, inx_4, inx_5, bI_0, bI_1, bI_ok, fin3, tyX11, entL, q0, b10, s9, tyX9, fo, dX11_rests_0, dX11_rests_1, dX11_rests_4, dX11_rests_7, dX11_rests_8, fT_11_67, dX11_rests_11, fT_11_237, dX11_rests_14, dX11_rests_17, dX11_rests_18]
    exact q
noncomputable def aRst (A : DD) (i y : Int32) : Int32 := if (decide (nI 0 ≤ i) && aP A y && okR (A 0 0) && decide (i < nI (rstS (A 0 0) (aV A) i (fun _ => nI 0)).2.1)) = true then (rstS (A 0 0) (aV A) i (fun _ => nI 0)).2.2 y.toNatClampNeg else -nI 1
set_option maxHeartbeats 800000 in
set_option maxRecDepth 100000 in
theorem c11_rest (l : Launch) (X : Cx) (d : Nat) (sh : Nat → Option Sh) (mI : Nat → Nat → Int32) (mL : Nat → Nat → Int64) (mR : Nat → Nat → Option Nat) (n : Nat) (hn : n ≤ 1000000000) (hB : BL sh mR) (C : Nat) (A : DD) (hV : AsV A) (hS : ShA sh mI mR n 20 C A) (hI : LdI mI A) (hW : WsI mI mL A) (x y : Int32) (hd : 13 ≤ d) : Cn l X yX11_rest cX11_rest 3 (some .int) d [.ref 0, .int x, .int y] (sh, mI, mL, mR, n) (fun r M' => r = some (.int (aRst A x y)) ∧ ∃ mI' mL', M' = (sh, mI', mL', mR, n) ∧ (∀ a k, ¬ (33 ≤ a ∧ a ≤ 36) → ¬ (58 ≤ a ∧ a ≤ 61) → mI' a k = mI a k) ∧ (∀ a k, a ≠ 62 → mL' a k = mL a k) ∧ LdI mI' A ∧ WsI mI' mL' A) 0 0 := by
  refine Cn.run 11 false (by decide) rfl (by decide) (by simp [entA, Value.category]) ?_
  intro P G hP hG
  have q0 := hB.1
  have b10 := hB.2.2.2.2.2.2.2.2.2.2.1.1
  have o9 := hB.2.2.2.2.2.2.2.2.2.2.1.2
  have s9 := o9.1
  have hnp := hV.1.1
  have bad : ∀ mI1 mL1, (∀ a k, ¬ (33 ≤ a ∧ a ≤ 36) → ¬ (58 ≤ a ∧ a ≤ 61) → mI1 a k = mI a k) → (∀ a k, a ≠ 62 → mL1 a k = mL a k) → LdI mI1 A → WsI mI1 mL1 A → aRst A x y = -nI 1 → P (some (.int (-1))) (sh, mI1, mL1, mR, n) := fun mI1 mL1 f1 f2 I1 W1 e => by
    have q := hP _ _ ⟨rfl, mI1, mL1, rfl, f1, f2, I1, W1⟩
    rw [e] at q
    exact q
  have bad0 : aRst A x y = -nI 1 → P (some (.int (-1))) (sh, mI, mL, mR, n) := bad mI mL (fun _ _ _ _ => rfl) (fun _ _ _ => rfl) hI hW
  have no : ∀ b : Bool, b = false → (decide (nI 0 ≤ x) && aP A y && okR (A 0 0) && decide (x < nI (rstS (A 0 0) (aV A) x (fun _ => nI 0)).2.1)) = b → aRst A x y = -nI 1 := fun b hb z => by
    unfold aRst
    rw [z, hb]; rfl
  refine hG.run [] 20 ?_
  simp [wp, stepI, ln, jmp, cmpI, Value.category, rd, tyF, va_rf, st1, st2, clr, isLg, CB, inx_0, inx_1, inx_2, inx_3, inx_4, inx_5, bI_0, bI_1, bI_ok, fin3, tyX11, entL, q0, dX11_rest_0, dX11_rest_1, dX11_rest_2, dX11_rest_5, dX11_rest_8, dX11_rest_9, dX11_rest_12, dX11_rest_13, dX11_rest_16, dX11_rest_19, dX11_rest_20, dX11_rest_21, fT_11_67, dX11_rest_24, fT_11_237, dX11_rest_27, dX11_rest_30, dX11_rest_31, dX11_rest_32, dX11_rest_33, dX11_rest_36, dX11_rest_37, dX11_rest_38, dX11_rest_41]
  refine hG.callV dX11_rest_2 mv_11_100 [.int y] [] (c11_isPupil l X (d - 1) sh mI mL mR n hB C A hS y) ⟨_, rfl, rfl⟩ q0 (by omega) rfl (by decide) (by simp [Value.category]) rfl ?_
  rintro r M' ⟨rfl, rfl⟩
  cases h1 : aP A y with
  | false =>
    have q := bad0 (no _ rfl (by rw [h1, Bool.and_false]; rfl))
    refine hG.run [32] 20 ?_
    simp [wp, stepI, ln, jmp, cmpI, Value.category, rd, tyF, va_rf, st1, st2, clr, isLg, CB, inx_0, inx_1, inx_2, inx_3, inx_4, inx_5, bI_0, bI_1, bI_ok, fin3, tyX11, entL, q0, dX11_rest_0, dX11_rest_1, dX11_rest_2, dX11_rest_5, dX11_rest_8, dX11_rest_9, dX11_rest_12, dX11_rest_13, dX11_rest_16, dX11_rest_19, dX11_rest_20, dX11_rest_21, fT_11_67, dX11_rest_24, fT_11_237, dX11_rest_27, dX11_rest_30, dX11_rest_31, dX11_rest_32, dX11_rest_33, dX11_rest_36, dX11_rest_37, dX11_rest_38, dX11_rest_41]
    exact q
  | true =>
    obtain ⟨p, hp, rfl⟩ := aP_i hV h1
    by_cases h2 : nI 0 ≤ x
    · have h2' : ¬ x < 0 := Int32.not_lt.mpr h2
      have mid : G 12 [some (.ref 0), some (.int x), some (.int (nI p))] [] (sh, mI, mL, mR, n) := by
        refine hG.run [] 20 ?_
        simp [wp, stepI, ln, jmp, cmpI, Value.category, rd, tyF, va_rf, st1, st2, clr, isLg, CB, inx_0, inx_1, inx_2, inx_3, inx_4, inx_5, bI_0, bI_1, bI_ok, fin3, tyX11, entL, q0, dX11_rest_0, dX11_rest_1, dX11_rest_2, dX11_rest_5, dX11_rest_8, dX11_rest_9, dX11_rest_12, dX11_rest_13, dX11_rest_16, dX11_rest_19, dX11_rest_20, dX11_rest_21, fT_11_67, dX11_rest_24, fT_11_237, dX11_rest_27, dX11_rest_30, dX11_rest_31, dX11_rest_32, dX11_rest_33, dX11_rest_36, dX11_rest_37, dX11_rest_38, dX11_rest_41]
        refine hG.callV dX11_rest_13 mv_11_233 [] [] (c11_findRests l X (d - 1) sh mI mL mR n hn hB C A hV hS hI hW (by omega)) ⟨_, rfl, rfl⟩ q0 (by omega) rfl (by decide) (by simp [Value.category]) rfl ?_
        rintro r M' ⟨rfl, mI1, mL1, rfl, f1, f2, I1, W1, R1⟩
        cases h : okR (A 0 0) with
        | false =>
          have q := bad mI1 mL1 f1 f2 I1 W1 (no _ rfl (by rw [h, Bool.and_false, Bool.false_and]))
          refine hG.run [32] 20 ?_
          simp [wp, stepI, ln, jmp, cmpI, Value.category, rd, tyF, va_rf, st1, st2, clr, isLg, CB, inx_0, inx_1, inx_2, inx_3, inx_4, inx_5, bI_0, bI_1, bI_ok, fin3, tyX11, entL, q0, dX11_rest_0, dX11_rest_1, dX11_rest_2, dX11_rest_5, dX11_rest_8, dX11_rest_9, dX11_rest_12, dX11_rest_13, dX11_rest_16, dX11_rest_19, dX11_rest_20, dX11_rest_21, fT_11_67, dX11_rest_24, fT_11_237, dX11_rest_27, dX11_rest_30, dX11_rest_31, dX11_rest_32, dX11_rest_33, dX11_rest_36, dX11_rest_37, dX11_rest_38, dX11_rest_41]
          exact q
        | true =>
          have zz := h
          unfold okR at zz
          rw [Bool.and_eq_true, Bool.and_eq_true] at zz
          have ev : A 0 0 % 2 = 0 := of_decide_eq_true zz.1.2
          have n8 : A 0 0 ≤ 8 := of_decide_eq_true zz.2
          have rl := kpA_rst n8 ev (aV A) x (fun _ => nI 0)
          have fo : mI1 58 6 = nI (rstS (A 0 0) (aV A) x (fun _ => nI 0)).2.1 := by
            rw [(R1 h).2.1, rl.1]
          have l105 := kpA_105 n8 ev (aV A)
          rw [rl.1] at l105
          by_cases h3 : x < nI (rstS (A 0 0) (aV A) x (fun _ => nI 0)).2.1
          · obtain ⟨k, hk, rfl⟩ := nI_of (x := x) h2'
            have h4 : k < (rstS (A 0 0) (aV A) (nI k) (fun _ => nI 0)).2.1 := (nI_ltI hk (by omega)).mp h3
            have h5 : k < (kpA (A 0 0) (aV A)).1 := by rw [rl.1]; exact h4
            have val : aRst A (nI k) (nI p) = nI ((kpA (A 0 0) (aV A)).2 k / 16 ^ p % 16) := by
              unfold aRst
              rw [h1, h, decide_eq_true h2, decide_eq_true h3, nI_clamp (by omega), ← rl.2 k h5 rfl p hp]; rfl
            have q := hP _ _ ⟨rfl, mI1, mL1, rfl, f1, f2, I1, W1⟩
            rw [val] at q
            have go : G 32 [some (.ref 0), some (.int (nI k)), some (.int (nI p))] [] (sh, mI1, mL1, mR, n) := by
              refine hG.run [] 20 ?_
              simp [wp, stepI, ln, jmp, cmpI, Value.category, rd, tyF, va_rf, st1, st2, clr, isLg, CB, inx_0, inx_1, inx_2, inx_3, inx_4, inx_5, bI_0, bI_1, bI_ok, fin3, tyX11, entL, q0, b10, dX11_rest_0, dX11_rest_1, dX11_rest_2, dX11_rest_5, dX11_rest_8, dX11_rest_9, dX11_rest_12, dX11_rest_13, dX11_rest_16, dX11_rest_19, dX11_rest_20, dX11_rest_21, fT_11_67, dX11_rest_24, fT_11_237, dX11_rest_27, dX11_rest_30, dX11_rest_31, dX11_rest_32, dX11_rest_33, dX11_rest_36, dX11_rest_37, dX11_rest_38, dX11_rest_41]
              refine hG.callV dX11_rest_38 mv_11_240 [.int (nI k), .int (nI p)] [] (c9_mateIn l X (d - 1) sh mI1 mL1 mR n 58 o9 k p ((kpA (A 0 0) (aV A)).2 k) (by omega) (by omega) ((R1 h).2.2.2 k h5) (kpA_lt n8 _ k h5)) ⟨_, rfl, rfl⟩ s9 (by omega) rfl (by decide) (by simp [Value.category]) rfl ?_
              rintro r M' ⟨rfl, rfl⟩
              refine hG.run [] 20 ?_
              simp [wp, stepI, ln, jmp, cmpI, Value.category, rd, tyF, va_rf, st1, st2, clr, isLg, CB, inx_0, inx_1, inx_2, inx_3, inx_4, inx_5, bI_0, bI_1, bI_ok, fin3, tyX11, entL, q0, dX11_rest_0, dX11_rest_1, dX11_rest_2, dX11_rest_5, dX11_rest_8, dX11_rest_9, dX11_rest_12, dX11_rest_13, dX11_rest_16, dX11_rest_19, dX11_rest_20, dX11_rest_21, fT_11_67, dX11_rest_24, fT_11_237, dX11_rest_27, dX11_rest_30, dX11_rest_31, dX11_rest_32, dX11_rest_33, dX11_rest_36, dX11_rest_37, dX11_rest_38, dX11_rest_41]
              exact q
            refine hG.run [32] 20 ?_
            simp [wp, stepI, ln, jmp, cmpI, Value.category, rd, tyF, va_rf, st1, st2, clr, isLg, CB, inx_0, inx_1, inx_2, inx_3, inx_4, inx_5, bI_0, bI_1, bI_ok, fin3, tyX11, entL, q0, b10, s9, tyX9, fo, dX11_rest_0, dX11_rest_1, dX11_rest_2, dX11_rest_5, dX11_rest_8, dX11_rest_9, dX11_rest_12, dX11_rest_13, dX11_rest_16, dX11_rest_19, dX11_rest_20, dX11_rest_21, fT_11_67, dX11_rest_24, fT_11_237, dX11_rest_27, dX11_rest_30, dX11_rest_31, dX11_rest_32, dX11_rest_33, dX11_rest_36, dX11_rest_37, dX11_rest_38, dX11_rest_41]
            exact ⟨fun _ => go, fun z => absurd h3 (Int32.not_lt.mpr z)⟩
          · have q := bad mI1 mL1 f1 f2 I1 W1 (no _ rfl (by rw [decide_eq_false h3, Bool.and_false]))
            refine hG.run [32] 20 ?_
            simp [wp, stepI, ln, jmp, cmpI, Value.category, rd, tyF, va_rf, st1, st2, clr, isLg, CB, inx_0, inx_1, inx_2, inx_3, inx_4, inx_5, bI_0, bI_1, bI_ok, fin3, tyX11, entL, q0, b10, s9, tyX9, fo, dX11_rest_0, dX11_rest_1, dX11_rest_2, dX11_rest_5, dX11_rest_8, dX11_rest_9, dX11_rest_12, dX11_rest_13, dX11_rest_16, dX11_rest_19, dX11_rest_20, dX11_rest_21, fT_11_67, dX11_rest_24, fT_11_237, dX11_rest_27, dX11_rest_30, dX11_rest_31, dX11_rest_32, dX11_rest_33, dX11_rest_36, dX11_rest_37, dX11_rest_38, dX11_rest_41]
            exact ⟨fun z => absurd z h3, fun _ => q⟩
      refine hG.run [12, 30] 20 ?_
      simp [wp, stepI, ln, jmp, cmpI, Value.category, rd, tyF, va_rf, st1, st2, clr, isLg, CB, inx_0, inx_1, inx_2, inx_3, inx_4, inx_5, bI_0, bI_1, bI_ok, fin3, tyX11, entL, q0, dX11_rest_0, dX11_rest_1, dX11_rest_2, dX11_rest_5, dX11_rest_8, dX11_rest_9, dX11_rest_12, dX11_rest_13, dX11_rest_16, dX11_rest_19, dX11_rest_20, dX11_rest_21, fT_11_67, dX11_rest_24, fT_11_237, dX11_rest_27, dX11_rest_30, dX11_rest_31, dX11_rest_32, dX11_rest_33, dX11_rest_36, dX11_rest_37, dX11_rest_38, dX11_rest_41]
      exact ⟨fun z => absurd z h2', fun _ => mid⟩
    · have q := bad0 (no _ rfl (by rw [decide_eq_false h2]; rfl))
      have h2' : x < 0 := Int32.not_le.mp h2
      refine hG.run [12] 20 ?_
      simp [wp, stepI, ln, jmp, cmpI, Value.category, rd, tyF, va_rf, st1, st2, clr, isLg, CB, inx_0, inx_1, inx_2, inx_3, inx_4, inx_5, bI_0, bI_1, bI_ok, fin3, tyX11, entL, q0, dX11_rest_0, dX11_rest_1, dX11_rest_2, dX11_rest_5, dX11_rest_8, dX11_rest_9, dX11_rest_12, dX11_rest_13, dX11_rest_16, dX11_rest_19, dX11_rest_20, dX11_rest_21, fT_11_67, dX11_rest_24, fT_11_237, dX11_rest_27, dX11_rest_30, dX11_rest_31, dX11_rest_32, dX11_rest_33, dX11_rest_36, dX11_rest_37, dX11_rest_38, dX11_rest_41]
      exact ⟨fun _ => q, fun z => absurd h2' (Int32.not_lt.mpr z)⟩
