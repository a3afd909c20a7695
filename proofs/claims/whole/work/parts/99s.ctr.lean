/-! constructors -/
def rV4 : RM := (rmI (rmA (rmA (rmA (rmA (rmA (rmN 4) 0 .int 10) 1 .int 10) 2 .int 6) 3 .int 100) 7 .int 1) 5 0 (-1))
set_option maxHeartbeats 1000000 in
set_option maxRecDepth 100000 in
theorem c4_init (l : Launch) (X : Cx) (d : Nat) (sh : Nat → Option Sh) (mI : Nat → Nat → Int32) (mL : Nat → Nat → Int64) (mR : Nat → Nat → Option Nat) (n : Nat) (S : Nat) (h : Kt (sh, mI, mL, mR, n) S (rmN 4) (sh, mI, mL, mR, n)) (hS : S < 50000000) (hd : 1 ≤ d) : Cn l X yX4_init cX4_init 1 none d [.ref S] (sh, mI, mL, mR, n) (fun r M' => r = none ∧ Kt (sh, mI, mL, mR, n) S rV4 M') 5 127 := by
  refine Cn.runA 4 true (by decide) rfl (fun _ => rfl) (by simp [entA, Value.category]) ?_
  intro P G hP hG
  have xS : S < 1000000000 := by omega
  have hn0 : n = S + 1 := h.1
  have q0 : sh S = some (.inl 4) := h.s (by decide) rfl
  refine hG.run [1] 20 ?_
  simp [wp, stepI, ln, jmp, cmpI, Value.category, rd, tyF, va_rf, st1, st2, clr, isLg, CB, inx_0, inx_1, inx_2, inx_3, inx_4, inx_5, bI_0, bI_1, bI_ok, fin3, tyX4, entL, q0, dX4_init_0, dX4_init_1, dX4_init_4, dX4_init_5, dX4_init_7, dX4_init_9, fT_4_9, dX4_init_12, dX4_init_13, dX4_init_15, dX4_init_17, fT_4_15, dX4_init_20, dX4_init_21, dX4_init_23, dX4_init_25, fT_4_18, dX4_init_28, dX4_init_29, dX4_init_31, dX4_init_33, fT_4_21, dX4_init_36, dX4_init_37, dX4_init_38, dX4_init_40, dX4_init_41, dX4_init_42, dX4_init_43, dX4_init_44, fT_4_24, dX4_init_47]
  refine hG.objI dX4_init_1 ml_4_3 w_oi.1 w_oi.2 (by omega) (by simp [Value.category]) ?_
  refine hG.run [7] 20 ?_
  simp [wp, stepI, ln, jmp, cmpI, Value.category, rd, tyF, va_rf, st1, st2, clr, isLg, CB, inx_0, inx_1, inx_2, inx_3, inx_4, inx_5, bI_0, bI_1, bI_ok, fin3, tyX4, entL, q0, q0, okv, wr, finF, clT, TX4, xS, dX4_init_0, dX4_init_1, dX4_init_4, dX4_init_5, dX4_init_7, dX4_init_9, fT_4_9, dX4_init_12, dX4_init_13, dX4_init_15, dX4_init_17, fT_4_15, dX4_init_20, dX4_init_21, dX4_init_23, dX4_init_25, fT_4_18, dX4_init_28, dX4_init_29, dX4_init_31, dX4_init_33, fT_4_21, dX4_init_36, dX4_init_37, dX4_init_38, dX4_init_40, dX4_init_41, dX4_init_42, dX4_init_43, dX4_init_44, fT_4_24, dX4_init_47]
  refine hG.newa dX4_init_7 rfl (Or.inl rfl) wa_int (N := 10) (by decide) (by decide) (by decide) (by show n < 1000000000; omega) ?_
  show G _ _ 9 _ _ (upS sh n (.inr (.int, 10)), up0 mI n 0, up0 mL n 0, up0 mR n none, n + 1)
  have B1 := h.arr (by decide) 0 .int 10
  have q1 : upS sh n (.inr (.int, 10)) S = some (.inl 4) := B1.s (by decide) rfl
  refine hG.run [12] 20 ?_
  simp [wp, stepI, ln, jmp, cmpI, Value.category, rd, tyF, va_rf, st1, st2, clr, isLg, CB, inx_0, inx_1, inx_2, inx_3, inx_4, inx_5, bI_0, bI_1, bI_ok, fin3, tyX4, entL, q0, q1, okv, wr, finF, clT, TX4, xS, dX4_init_0, dX4_init_1, dX4_init_4, dX4_init_5, dX4_init_7, dX4_init_9, fT_4_9, dX4_init_12, dX4_init_13, dX4_init_15, dX4_init_17, fT_4_15, dX4_init_20, dX4_init_21, dX4_init_23, dX4_init_25, fT_4_18, dX4_init_28, dX4_init_29, dX4_init_31, dX4_init_33, fT_4_21, dX4_init_36, dX4_init_37, dX4_init_38, dX4_init_40, dX4_init_41, dX4_init_42, dX4_init_43, dX4_init_44, fT_4_24, dX4_init_47]
  generalize up0 mI n 0 = mI1 at B1 ⊢
  generalize upS sh n (.inr (.int, 10)) = sh1 at B1 q1 ⊢
  generalize up0 mL n 0 = mL1 at B1 ⊢
  generalize up2 (up0 mR n none) S 0 (some n) = mR1 at B1 ⊢
  have hn1 : n + 1 = S + 2 := B1.1
  generalize n + 1 = n1 at B1 hn1 ⊢
  refine hG.run [15] 20 ?_
  simp [wp, stepI, ln, jmp, cmpI, Value.category, rd, tyF, va_rf, st1, st2, clr, isLg, CB, inx_0, inx_1, inx_2, inx_3, inx_4, inx_5, bI_0, bI_1, bI_ok, fin3, tyX4, entL, q0, q1, okv, wr, finF, clT, TX4, xS, dX4_init_0, dX4_init_1, dX4_init_4, dX4_init_5, dX4_init_7, dX4_init_9, fT_4_9, dX4_init_12, dX4_init_13, dX4_init_15, dX4_init_17, fT_4_15, dX4_init_20, dX4_init_21, dX4_init_23, dX4_init_25, fT_4_18, dX4_init_28, dX4_init_29, dX4_init_31, dX4_init_33, fT_4_21, dX4_init_36, dX4_init_37, dX4_init_38, dX4_init_40, dX4_init_41, dX4_init_42, dX4_init_43, dX4_init_44, fT_4_24, dX4_init_47]
  refine hG.newa dX4_init_15 rfl (Or.inl rfl) wa_int (N := 10) (by decide) (by decide) (by decide) (by show n1 < 1000000000; omega) ?_
  show G _ _ 17 _ _ (upS sh1 n1 (.inr (.int, 10)), up0 mI1 n1 0, up0 mL1 n1 0, up0 mR1 n1 none, n1 + 1)
  have B2 := B1.arr (by decide) 1 .int 10
  have q2 : upS sh1 n1 (.inr (.int, 10)) S = some (.inl 4) := B2.s (by decide) rfl
  refine hG.run [20] 20 ?_
  simp [wp, stepI, ln, jmp, cmpI, Value.category, rd, tyF, va_rf, st1, st2, clr, isLg, CB, inx_0, inx_1, inx_2, inx_3, inx_4, inx_5, bI_0, bI_1, bI_ok, fin3, tyX4, entL, q0, q2, okv, wr, finF, clT, TX4, xS, dX4_init_0, dX4_init_1, dX4_init_4, dX4_init_5, dX4_init_7, dX4_init_9, fT_4_9, dX4_init_12, dX4_init_13, dX4_init_15, dX4_init_17, fT_4_15, dX4_init_20, dX4_init_21, dX4_init_23, dX4_init_25, fT_4_18, dX4_init_28, dX4_init_29, dX4_init_31, dX4_init_33, fT_4_21, dX4_init_36, dX4_init_37, dX4_init_38, dX4_init_40, dX4_init_41, dX4_init_42, dX4_init_43, dX4_init_44, fT_4_24, dX4_init_47]
  generalize up0 mI1 n1 0 = mI2 at B2 ⊢
  generalize upS sh1 n1 (.inr (.int, 10)) = sh2 at B2 q2 ⊢
  generalize up0 mL1 n1 0 = mL2 at B2 ⊢
  generalize up2 (up0 mR1 n1 none) S 1 (some n1) = mR2 at B2 ⊢
  have hn2 : n1 + 1 = S + 3 := B2.1
  generalize n1 + 1 = n2 at B2 hn2 ⊢
  refine hG.run [23] 20 ?_
  simp [wp, stepI, ln, jmp, cmpI, Value.category, rd, tyF, va_rf, st1, st2, clr, isLg, CB, inx_0, inx_1, inx_2, inx_3, inx_4, inx_5, bI_0, bI_1, bI_ok, fin3, tyX4, entL, q0, q2, okv, wr, finF, clT, TX4, xS, dX4_init_0, dX4_init_1, dX4_init_4, dX4_init_5, dX4_init_7, dX4_init_9, fT_4_9, dX4_init_12, dX4_init_13, dX4_init_15, dX4_init_17, fT_4_15, dX4_init_20, dX4_init_21, dX4_init_23, dX4_init_25, fT_4_18, dX4_init_28, dX4_init_29, dX4_init_31, dX4_init_33, fT_4_21, dX4_init_36, dX4_init_37, dX4_init_38, dX4_init_40, dX4_init_41, dX4_init_42, dX4_init_43, dX4_init_44, fT_4_24, dX4_init_47]
  refine hG.newa dX4_init_23 rfl (Or.inl rfl) wa_int (N := 6) (by decide) (by decide) (by decide) (by show n2 < 1000000000; omega) ?_
  show G _ _ 25 _ _ (upS sh2 n2 (.inr (.int, 6)), up0 mI2 n2 0, up0 mL2 n2 0, up0 mR2 n2 none, n2 + 1)
  have B3 := B2.arr (by decide) 2 .int 6
  have q3 : upS sh2 n2 (.inr (.int, 6)) S = some (.inl 4) := B3.s (by decide) rfl
  refine hG.run [28] 20 ?_
  simp [wp, stepI, ln, jmp, cmpI, Value.category, rd, tyF, va_rf, st1, st2, clr, isLg, CB, inx_0, inx_1, inx_2, inx_3, inx_4, inx_5, bI_0, bI_1, bI_ok, fin3, tyX4, entL, q0, q3, okv, wr, finF, clT, TX4, xS, dX4_init_0, dX4_init_1, dX4_init_4, dX4_init_5, dX4_init_7, dX4_init_9, fT_4_9, dX4_init_12, dX4_init_13, dX4_init_15, dX4_init_17, fT_4_15, dX4_init_20, dX4_init_21, dX4_init_23, dX4_init_25, fT_4_18, dX4_init_28, dX4_init_29, dX4_init_31, dX4_init_33, fT_4_21, dX4_init_36, dX4_init_37, dX4_init_38, dX4_init_40, dX4_init_41, dX4_init_42, dX4_init_43, dX4_init_44, fT_4_24, dX4_init_47]
  generalize up0 mI2 n2 0 = mI3 at B3 ⊢
  generalize upS sh2 n2 (.inr (.int, 6)) = sh3 at B3 q3 ⊢
  generalize up0 mL2 n2 0 = mL3 at B3 ⊢
  generalize up2 (up0 mR2 n2 none) S 2 (some n2) = mR3 at B3 ⊢
  have hn3 : n2 + 1 = S + 4 := B3.1
  generalize n2 + 1 = n3 at B3 hn3 ⊢
  refine hG.run [31] 20 ?_
  simp [wp, stepI, ln, jmp, cmpI, Value.category, rd, tyF, va_rf, st1, st2, clr, isLg, CB, inx_0, inx_1, inx_2, inx_3, inx_4, inx_5, bI_0, bI_1, bI_ok, fin3, tyX4, entL, q0, q3, okv, wr, finF, clT, TX4, xS, dX4_init_0, dX4_init_1, dX4_init_4, dX4_init_5, dX4_init_7, dX4_init_9, fT_4_9, dX4_init_12, dX4_init_13, dX4_init_15, dX4_init_17, fT_4_15, dX4_init_20, dX4_init_21, dX4_init_23, dX4_init_25, fT_4_18, dX4_init_28, dX4_init_29, dX4_init_31, dX4_init_33, fT_4_21, dX4_init_36, dX4_init_37, dX4_init_38, dX4_init_40, dX4_init_41, dX4_init_42, dX4_init_43, dX4_init_44, fT_4_24, dX4_init_47]
  refine hG.newa dX4_init_31 rfl (Or.inl rfl) wa_int (N := 100) (by decide) (by decide) (by decide) (by show n3 < 1000000000; omega) ?_
  show G _ _ 33 _ _ (upS sh3 n3 (.inr (.int, 100)), up0 mI3 n3 0, up0 mL3 n3 0, up0 mR3 n3 none, n3 + 1)
  have B4 := B3.arr (by decide) 3 .int 100
  have q4 : upS sh3 n3 (.inr (.int, 100)) S = some (.inl 4) := B4.s (by decide) rfl
  refine hG.run [36] 20 ?_
  simp [wp, stepI, ln, jmp, cmpI, Value.category, rd, tyF, va_rf, st1, st2, clr, isLg, CB, inx_0, inx_1, inx_2, inx_3, inx_4, inx_5, bI_0, bI_1, bI_ok, fin3, tyX4, entL, q0, q4, okv, wr, finF, clT, TX4, xS, dX4_init_0, dX4_init_1, dX4_init_4, dX4_init_5, dX4_init_7, dX4_init_9, fT_4_9, dX4_init_12, dX4_init_13, dX4_init_15, dX4_init_17, fT_4_15, dX4_init_20, dX4_init_21, dX4_init_23, dX4_init_25, fT_4_18, dX4_init_28, dX4_init_29, dX4_init_31, dX4_init_33, fT_4_21, dX4_init_36, dX4_init_37, dX4_init_38, dX4_init_40, dX4_init_41, dX4_init_42, dX4_init_43, dX4_init_44, fT_4_24, dX4_init_47]
  generalize up0 mI3 n3 0 = mI4 at B4 ⊢
  generalize upS sh3 n3 (.inr (.int, 100)) = sh4 at B4 q4 ⊢
  generalize up0 mL3 n3 0 = mL4 at B4 ⊢
  generalize up2 (up0 mR3 n3 none) S 3 (some n3) = mR4 at B4 ⊢
  have hn4 : n3 + 1 = S + 5 := B4.1
  generalize n3 + 1 = n4 at B4 hn4 ⊢
  refine hG.run [38] 20 ?_
  simp [wp, stepI, ln, jmp, cmpI, Value.category, rd, tyF, va_rf, st1, st2, clr, isLg, CB, inx_0, inx_1, inx_2, inx_3, inx_4, inx_5, bI_0, bI_1, bI_ok, fin3, tyX4, entL, q0, q4, okv, wr, finF, clT, TX4, xS, dX4_init_0, dX4_init_1, dX4_init_4, dX4_init_5, dX4_init_7, dX4_init_9, fT_4_9, dX4_init_12, dX4_init_13, dX4_init_15, dX4_init_17, fT_4_15, dX4_init_20, dX4_init_21, dX4_init_23, dX4_init_25, fT_4_18, dX4_init_28, dX4_init_29, dX4_init_31, dX4_init_33, fT_4_21, dX4_init_36, dX4_init_37, dX4_init_38, dX4_init_40, dX4_init_41, dX4_init_42, dX4_init_43, dX4_init_44, fT_4_24, dX4_init_47]
  refine hG.newa dX4_init_38 rfl (Or.inl rfl) wa_int (N := 1) (by decide) (by decide) (by decide) (by show n4 < 1000000000; omega) ?_
  show G _ _ 40 _ _ (upS sh4 n4 (.inr (.int, 1)), up0 mI4 n4 0, up0 mL4 n4 0, up0 mR4 n4 none, n4 + 1)
  have B5 := B4.arr (by decide) 7 .int 1
  have q5 : upS sh4 n4 (.inr (.int, 1)) S = some (.inl 4) := B5.s (by decide) rfl
  have qa : upS sh4 n4 (.inr (.int, 1)) n4 = some (.inr (.int, 1)) := by unfold upS; rw [if_pos rfl]
  have xn : n4 < 1000000000 := by omega
  have x21 : ¬ n4 = 1000000021 := by omega
  refine hG.run [47] 20 ?_
  simp [wp, stepI, ln, jmp, cmpI, Value.category, rd, tyF, va_rf, st1, st2, clr, isLg, CB, inx_0, inx_1, inx_2, inx_3, inx_4, inx_5, bI_0, bI_1, bI_ok, fin3, tyX4, entL, q0, q5, qa, xn, x21, okT, okv, wr, finF, clT, TX4, xS, dX4_init_0, dX4_init_1, dX4_init_4, dX4_init_5, dX4_init_7, dX4_init_9, fT_4_9, dX4_init_12, dX4_init_13, dX4_init_15, dX4_init_17, fT_4_15, dX4_init_20, dX4_init_21, dX4_init_23, dX4_init_25, fT_4_18, dX4_init_28, dX4_init_29, dX4_init_31, dX4_init_33, fT_4_21, dX4_init_36, dX4_init_37, dX4_init_38, dX4_init_40, dX4_init_41, dX4_init_42, dX4_init_43, dX4_init_44, fT_4_24, dX4_init_47]
  have B5 := B5.int 5 0 (-1)
  rw [show S + 5 = n4 by omega] at B5
  generalize up2 (up0 mI4 n4 0) n4 0 (-1) = mI5 at B5 ⊢
  generalize upS sh4 n4 (.inr (.int, 1)) = sh5 at B5 q5 ⊢
  generalize up0 mL4 n4 0 = mL5 at B5 ⊢
  generalize up2 (up0 mR4 n4 none) S 7 (some n4) = mR5 at B5 ⊢
  have hn5 : n4 + 1 = S + 6 := B5.1
  generalize n4 + 1 = n5 at B5 hn5 ⊢
  refine hG.run [] 20 ?_
  simp [wp, stepI, ln, jmp, cmpI, Value.category, rd, tyF, va_rf, st1, st2, clr, isLg, CB, inx_0, inx_1, inx_2, inx_3, inx_4, inx_5, bI_0, bI_1, bI_ok, fin3, tyX4, entL, q0, dX4_init_0, dX4_init_1, dX4_init_4, dX4_init_5, dX4_init_7, dX4_init_9, fT_4_9, dX4_init_12, dX4_init_13, dX4_init_15, dX4_init_17, fT_4_15, dX4_init_20, dX4_init_21, dX4_init_23, dX4_init_25, fT_4_18, dX4_init_28, dX4_init_29, dX4_init_31, dX4_init_33, fT_4_21, dX4_init_36, dX4_init_37, dX4_init_38, dX4_init_40, dX4_init_41, dX4_init_42, dX4_init_43, dX4_init_44, fT_4_24, dX4_init_47]
  exact hP _ _ ⟨rfl, B5⟩
def rV8 : RM := (rmA (rmN 8) 0 .byte 0)
set_option maxHeartbeats 1000000 in
set_option maxRecDepth 100000 in
theorem c8_init (l : Launch) (X : Cx) (d : Nat) (sh : Nat → Option Sh) (mI : Nat → Nat → Int32) (mL : Nat → Nat → Int64) (mR : Nat → Nat → Option Nat) (n : Nat) (S : Nat) (h : Kt (sh, mI, mL, mR, n) S (rmN 8) (sh, mI, mL, mR, n)) (hS : S < 50000000) (hd : 1 ≤ d) : Cn l X yX8_init cX8_init 1 none d [.ref S] (sh, mI, mL, mR, n) (fun r M' => r = none ∧ Kt (sh, mI, mL, mR, n) S rV8 M') 1 0 := by
  refine Cn.runA 8 true (by decide) rfl (fun _ => rfl) (by simp [entA, Value.category]) ?_
  intro P G hP hG
  have xS : S < 1000000000 := by omega
  have hn0 : n = S + 1 := h.1
  have q0 : sh S = some (.inl 8) := h.s (by decide) rfl
  refine hG.run [1] 20 ?_
  simp [wp, stepI, ln, jmp, cmpI, Value.category, rd, tyF, va_rf, st1, st2, clr, isLg, CB, inx_0, inx_1, inx_2, inx_3, inx_4, inx_5, bI_0, bI_1, bI_ok, fin3, tyX8, entL, q0, dX8_init_0, dX8_init_1, dX8_init_4, dX8_init_5, dX8_init_6, dX8_init_8, fT_8_9, dX8_init_11]
  refine hG.objI dX8_init_1 ml_8_3 w_oi.1 w_oi.2 (by omega) (by simp [Value.category]) ?_
  refine hG.run [6] 20 ?_
  simp [wp, stepI, ln, jmp, cmpI, Value.category, rd, tyF, va_rf, st1, st2, clr, isLg, CB, inx_0, inx_1, inx_2, inx_3, inx_4, inx_5, bI_0, bI_1, bI_ok, fin3, tyX8, entL, q0, q0, okv, wr, finF, clT, TX8, xS, dX8_init_0, dX8_init_1, dX8_init_4, dX8_init_5, dX8_init_6, dX8_init_8, fT_8_9, dX8_init_11]
  refine hG.newa dX8_init_6 rfl (Or.inr (Or.inr (Or.inl rfl))) wa_byte (N := 0) (by decide) (by decide) (by decide) (by show n < 1000000000; omega) ?_
  show G _ _ 8 _ _ (upS sh n (.inr (.byte, 0)), up0 mI n 0, up0 mL n 0, up0 mR n none, n + 1)
  have B1 := h.arr (by decide) 0 .byte 0
  have q1 : upS sh n (.inr (.byte, 0)) S = some (.inl 8) := B1.s (by decide) rfl
  refine hG.run [11] 20 ?_
  simp [wp, stepI, ln, jmp, cmpI, Value.category, rd, tyF, va_rf, st1, st2, clr, isLg, CB, inx_0, inx_1, inx_2, inx_3, inx_4, inx_5, bI_0, bI_1, bI_ok, fin3, tyX8, entL, q0, q1, okv, wr, finF, clT, TX8, xS, dX8_init_0, dX8_init_1, dX8_init_4, dX8_init_5, dX8_init_6, dX8_init_8, fT_8_9, dX8_init_11]
  generalize up0 mI n 0 = mI1 at B1 ⊢
  generalize upS sh n (.inr (.byte, 0)) = sh1 at B1 q1 ⊢
  generalize up0 mL n 0 = mL1 at B1 ⊢
  generalize up2 (up0 mR n none) S 0 (some n) = mR1 at B1 ⊢
  have hn1 : n + 1 = S + 2 := B1.1
  generalize n + 1 = n1 at B1 hn1 ⊢
  refine hG.run [] 20 ?_
  simp [wp, stepI, ln, jmp, cmpI, Value.category, rd, tyF, va_rf, st1, st2, clr, isLg, CB, inx_0, inx_1, inx_2, inx_3, inx_4, inx_5, bI_0, bI_1, bI_ok, fin3, tyX8, entL, q0, dX8_init_0, dX8_init_1, dX8_init_4, dX8_init_5, dX8_init_6, dX8_init_8, fT_8_9, dX8_init_11]
  exact hP _ _ ⟨rfl, B1⟩
def rV2 : RM := (rmA (rmA (rmA (rmN 2) 0 .int 10) 1 .int 10) 2 .int 10)
set_option maxHeartbeats 1000000 in
set_option maxRecDepth 100000 in
theorem c2_init (l : Launch) (X : Cx) (d : Nat) (sh : Nat → Option Sh) (mI : Nat → Nat → Int32) (mL : Nat → Nat → Int64) (mR : Nat → Nat → Option Nat) (n : Nat) (S : Nat) (h : Kt (sh, mI, mL, mR, n) S (rmN 2) (sh, mI, mL, mR, n)) (hS : S < 50000000) (hd : 1 ≤ d) : Cn l X yX2_init cX2_init 1 none d [.ref S] (sh, mI, mL, mR, n) (fun r M' => r = none ∧ Kt (sh, mI, mL, mR, n) S rV2 M') 3 30 := by
  refine Cn.runA 2 true (by decide) rfl (fun _ => rfl) (by simp [entA, Value.category]) ?_
  intro P G hP hG
  have xS : S < 1000000000 := by omega
  have hn0 : n = S + 1 := h.1
  have q0 : sh S = some (.inl 2) := h.s (by decide) rfl
  refine hG.run [1] 20 ?_
  simp [wp, stepI, ln, jmp, cmpI, Value.category, rd, tyF, va_rf, st1, st2, clr, isLg, CB, inx_0, inx_1, inx_2, inx_3, inx_4, inx_5, bI_0, bI_1, bI_ok, fin3, tyX2, entL, q0, dX2_init_0, dX2_init_1, dX2_init_4, dX2_init_5, dX2_init_7, dX2_init_9, fT_2_9, dX2_init_12, dX2_init_13, dX2_init_15, dX2_init_17, fT_2_15, dX2_init_20, dX2_init_21, dX2_init_23, dX2_init_25, fT_2_18, dX2_init_28]
  refine hG.objI dX2_init_1 ml_2_3 w_oi.1 w_oi.2 (by omega) (by simp [Value.category]) ?_
  refine hG.run [7] 20 ?_
  simp [wp, stepI, ln, jmp, cmpI, Value.category, rd, tyF, va_rf, st1, st2, clr, isLg, CB, inx_0, inx_1, inx_2, inx_3, inx_4, inx_5, bI_0, bI_1, bI_ok, fin3, tyX2, entL, q0, q0, okv, wr, finF, clT, TX2, xS, dX2_init_0, dX2_init_1, dX2_init_4, dX2_init_5, dX2_init_7, dX2_init_9, fT_2_9, dX2_init_12, dX2_init_13, dX2_init_15, dX2_init_17, fT_2_15, dX2_init_20, dX2_init_21, dX2_init_23, dX2_init_25, fT_2_18, dX2_init_28]
  refine hG.newa dX2_init_7 rfl (Or.inl rfl) wa_int (N := 10) (by decide) (by decide) (by decide) (by show n < 1000000000; omega) ?_
  show G _ _ 9 _ _ (upS sh n (.inr (.int, 10)), up0 mI n 0, up0 mL n 0, up0 mR n none, n + 1)
  have B1 := h.arr (by decide) 0 .int 10
  have q1 : upS sh n (.inr (.int, 10)) S = some (.inl 2) := B1.s (by decide) rfl
  refine hG.run [12] 20 ?_
  simp [wp, stepI, ln, jmp, cmpI, Value.category, rd, tyF, va_rf, st1, st2, clr, isLg, CB, inx_0, inx_1, inx_2, inx_3, inx_4, inx_5, bI_0, bI_1, bI_ok, fin3, tyX2, entL, q0, q1, okv, wr, finF, clT, TX2, xS, dX2_init_0, dX2_init_1, dX2_init_4, dX2_init_5, dX2_init_7, dX2_init_9, fT_2_9, dX2_init_12, dX2_init_13, dX2_init_15, dX2_init_17, fT_2_15, dX2_init_20, dX2_init_21, dX2_init_23, dX2_init_25, fT_2_18, dX2_init_28]
  generalize up0 mI n 0 = mI1 at B1 ⊢
  generalize upS sh n (.inr (.int, 10)) = sh1 at B1 q1 ⊢
  generalize up0 mL n 0 = mL1 at B1 ⊢
  generalize up2 (up0 mR n none) S 0 (some n) = mR1 at B1 ⊢
  have hn1 : n + 1 = S + 2 := B1.1
  generalize n + 1 = n1 at B1 hn1 ⊢
  refine hG.run [15] 20 ?_
  simp [wp, stepI, ln, jmp, cmpI, Value.category, rd, tyF, va_rf, st1, st2, clr, isLg, CB, inx_0, inx_1, inx_2, inx_3, inx_4, inx_5, bI_0, bI_1, bI_ok, fin3, tyX2, entL, q0, q1, okv, wr, finF, clT, TX2, xS, dX2_init_0, dX2_init_1, dX2_init_4, dX2_init_5, dX2_init_7, dX2_init_9, fT_2_9, dX2_init_12, dX2_init_13, dX2_init_15, dX2_init_17, fT_2_15, dX2_init_20, dX2_init_21, dX2_init_23, dX2_init_25, fT_2_18, dX2_init_28]
  refine hG.newa dX2_init_15 rfl (Or.inl rfl) wa_int (N := 10) (by decide) (by decide) (by decide) (by show n1 < 1000000000; omega) ?_
  show G _ _ 17 _ _ (upS sh1 n1 (.inr (.int, 10)), up0 mI1 n1 0, up0 mL1 n1 0, up0 mR1 n1 none, n1 + 1)
  have B2 := B1.arr (by decide) 1 .int 10
  have q2 : upS sh1 n1 (.inr (.int, 10)) S = some (.inl 2) := B2.s (by decide) rfl
  refine hG.run [20] 20 ?_
  simp [wp, stepI, ln, jmp, cmpI, Value.category, rd, tyF, va_rf, st1, st2, clr, isLg, CB, inx_0, inx_1, inx_2, inx_3, inx_4, inx_5, bI_0, bI_1, bI_ok, fin3, tyX2, entL, q0, q2, okv, wr, finF, clT, TX2, xS, dX2_init_0, dX2_init_1, dX2_init_4, dX2_init_5, dX2_init_7, dX2_init_9, fT_2_9, dX2_init_12, dX2_init_13, dX2_init_15, dX2_init_17, fT_2_15, dX2_init_20, dX2_init_21, dX2_init_23, dX2_init_25, fT_2_18, dX2_init_28]
  generalize up0 mI1 n1 0 = mI2 at B2 ⊢
  generalize upS sh1 n1 (.inr (.int, 10)) = sh2 at B2 q2 ⊢
  generalize up0 mL1 n1 0 = mL2 at B2 ⊢
  generalize up2 (up0 mR1 n1 none) S 1 (some n1) = mR2 at B2 ⊢
  have hn2 : n1 + 1 = S + 3 := B2.1
  generalize n1 + 1 = n2 at B2 hn2 ⊢
  refine hG.run [23] 20 ?_
  simp [wp, stepI, ln, jmp, cmpI, Value.category, rd, tyF, va_rf, st1, st2, clr, isLg, CB, inx_0, inx_1, inx_2, inx_3, inx_4, inx_5, bI_0, bI_1, bI_ok, fin3, tyX2, entL, q0, q2, okv, wr, finF, clT, TX2, xS, dX2_init_0, dX2_init_1, dX2_init_4, dX2_init_5, dX2_init_7, dX2_init_9, fT_2_9, dX2_init_12, dX2_init_13, dX2_init_15, dX2_init_17, fT_2_15, dX2_init_20, dX2_init_21, dX2_init_23, dX2_init_25, fT_2_18, dX2_init_28]
  refine hG.newa dX2_init_23 rfl (Or.inl rfl) wa_int (N := 10) (by decide) (by decide) (by decide) (by show n2 < 1000000000; omega) ?_
  show G _ _ 25 _ _ (upS sh2 n2 (.inr (.int, 10)), up0 mI2 n2 0, up0 mL2 n2 0, up0 mR2 n2 none, n2 + 1)
  have B3 := B2.arr (by decide) 2 .int 10
  have q3 : upS sh2 n2 (.inr (.int, 10)) S = some (.inl 2) := B3.s (by decide) rfl
  refine hG.run [28] 20 ?_
  simp [wp, stepI, ln, jmp, cmpI, Value.category, rd, tyF, va_rf, st1, st2, clr, isLg, CB, inx_0, inx_1, inx_2, inx_3, inx_4, inx_5, bI_0, bI_1, bI_ok, fin3, tyX2, entL, q0, q3, okv, wr, finF, clT, TX2, xS, dX2_init_0, dX2_init_1, dX2_init_4, dX2_init_5, dX2_init_7, dX2_init_9, fT_2_9, dX2_init_12, dX2_init_13, dX2_init_15, dX2_init_17, fT_2_15, dX2_init_20, dX2_init_21, dX2_init_23, dX2_init_25, fT_2_18, dX2_init_28]
  generalize up0 mI2 n2 0 = mI3 at B3 ⊢
  generalize upS sh2 n2 (.inr (.int, 10)) = sh3 at B3 q3 ⊢
  generalize up0 mL2 n2 0 = mL3 at B3 ⊢
  generalize up2 (up0 mR2 n2 none) S 2 (some n2) = mR3 at B3 ⊢
  have hn3 : n2 + 1 = S + 4 := B3.1
  generalize n2 + 1 = n3 at B3 hn3 ⊢
  refine hG.run [] 20 ?_
  simp [wp, stepI, ln, jmp, cmpI, Value.category, rd, tyF, va_rf, st1, st2, clr, isLg, CB, inx_0, inx_1, inx_2, inx_3, inx_4, inx_5, bI_0, bI_1, bI_ok, fin3, tyX2, entL, q0, dX2_init_0, dX2_init_1, dX2_init_4, dX2_init_5, dX2_init_7, dX2_init_9, fT_2_9, dX2_init_12, dX2_init_13, dX2_init_15, dX2_init_17, fT_2_15, dX2_init_20, dX2_init_21, dX2_init_23, dX2_init_25, fT_2_18, dX2_init_28]
  exact hP _ _ ⟨rfl, B3⟩
def rV7 (b : Nat) : RM := (rmI (rmA (rmA (rmA (rmA (rmA (rmN 7) 1 .long 100) 2 .int 10) 3 .long 1024) 4 .long 1024) 5 .long 100) 0 0 (nI b))
set_option maxHeartbeats 1000000 in
set_option maxRecDepth 100000 in
theorem c7_init (l : Launch) (X : Cx) (d : Nat) (sh : Nat → Option Sh) (mI : Nat → Nat → Int32) (mL : Nat → Nat → Int64) (mR : Nat → Nat → Option Nat) (n : Nat) (S : Nat) (h : Kt (sh, mI, mL, mR, n) S (rmN 7) (sh, mI, mL, mR, n)) (hS : S < 50000000) (hd : 1 ≤ d) (b : Nat) (hb : b < 2) : Cn l X yX7_init cX7_init 2 none d [.ref S, .int (nI b)] (sh, mI, mL, mR, n) (fun r M' => r = none ∧ Kt (sh, mI, mL, mR, n) S (rV7 b) M') 5 2258 := by
  refine Cn.runA 7 true (by decide) rfl (fun _ => rfl) (by simp [entA, Value.category]) ?_
  intro P G hP hG
  have xS : S < 1000000000 := by omega
  have hn0 : n = S + 1 := h.1
  have q0 : sh S = some (.inl 7) := h.s (by decide) rfl
  have hb1 : nI b = 0 ∨ nI b = 1 := by
    have : b = 0 ∨ b = 1 := by omega
    rcases this with rfl | rfl
    · exact Or.inl rfl
    · exact Or.inr rfl
  refine hG.run [1] 20 ?_
  simp [wp, stepI, ln, jmp, cmpI, Value.category, rd, tyF, va_rf, st1, st2, clr, isLg, CB, inx_0, inx_1, inx_2, inx_3, inx_4, inx_5, bI_0, bI_1, bI_ok, fin3, tyX7, entL, q0, dX7_init_0, dX7_init_1, dX7_init_4, dX7_init_5, dX7_init_7, dX7_init_9, fT_7_9, dX7_init_12, dX7_init_13, dX7_init_15, dX7_init_17, fT_7_15, dX7_init_20, dX7_init_21, dX7_init_24, dX7_init_26, fT_7_19, dX7_init_29, dX7_init_30, dX7_init_33, dX7_init_35, fT_7_22, dX7_init_38, dX7_init_39, dX7_init_41, dX7_init_43, fT_7_25, dX7_init_46, dX7_init_47, dX7_init_48, fT_7_28, dX7_init_51]
  refine hG.objI dX7_init_1 ml_7_3 w_oi.1 w_oi.2 (by omega) (by simp [Value.category]) ?_
  refine hG.run [7] 20 ?_
  simp [wp, stepI, ln, jmp, cmpI, Value.category, rd, tyF, va_rf, st1, st2, clr, isLg, CB, inx_0, inx_1, inx_2, inx_3, inx_4, inx_5, bI_0, bI_1, bI_ok, fin3, tyX7, entL, q0, q0, okv, wr, finF, clT, TX7, xS, dX7_init_0, dX7_init_1, dX7_init_4, dX7_init_5, dX7_init_7, dX7_init_9, fT_7_9, dX7_init_12, dX7_init_13, dX7_init_15, dX7_init_17, fT_7_15, dX7_init_20, dX7_init_21, dX7_init_24, dX7_init_26, fT_7_19, dX7_init_29, dX7_init_30, dX7_init_33, dX7_init_35, fT_7_22, dX7_init_38, dX7_init_39, dX7_init_41, dX7_init_43, fT_7_25, dX7_init_46, dX7_init_47, dX7_init_48, fT_7_28, dX7_init_51]
  refine hG.newa dX7_init_7 rfl (Or.inr (Or.inl rfl)) wa_long (N := 100) (by decide) (by decide) (by decide) (by show n < 1000000000; omega) ?_
  show G _ _ 9 _ _ (upS sh n (.inr (.long, 100)), up0 mI n 0, up0 mL n 0, up0 mR n none, n + 1)
  have B1 := h.arr (by decide) 1 .long 100
  have q1 : upS sh n (.inr (.long, 100)) S = some (.inl 7) := B1.s (by decide) rfl
  refine hG.run [12] 20 ?_
  simp [wp, stepI, ln, jmp, cmpI, Value.category, rd, tyF, va_rf, st1, st2, clr, isLg, CB, inx_0, inx_1, inx_2, inx_3, inx_4, inx_5, bI_0, bI_1, bI_ok, fin3, tyX7, entL, q0, q1, okv, wr, finF, clT, TX7, xS, dX7_init_0, dX7_init_1, dX7_init_4, dX7_init_5, dX7_init_7, dX7_init_9, fT_7_9, dX7_init_12, dX7_init_13, dX7_init_15, dX7_init_17, fT_7_15, dX7_init_20, dX7_init_21, dX7_init_24, dX7_init_26, fT_7_19, dX7_init_29, dX7_init_30, dX7_init_33, dX7_init_35, fT_7_22, dX7_init_38, dX7_init_39, dX7_init_41, dX7_init_43, fT_7_25, dX7_init_46, dX7_init_47, dX7_init_48, fT_7_28, dX7_init_51]
  generalize up0 mI n 0 = mI1 at B1 ⊢
  generalize upS sh n (.inr (.long, 100)) = sh1 at B1 q1 ⊢
  generalize up0 mL n 0 = mL1 at B1 ⊢
  generalize up2 (up0 mR n none) S 1 (some n) = mR1 at B1 ⊢
  have hn1 : n + 1 = S + 2 := B1.1
  generalize n + 1 = n1 at B1 hn1 ⊢
  refine hG.run [15] 20 ?_
  simp [wp, stepI, ln, jmp, cmpI, Value.category, rd, tyF, va_rf, st1, st2, clr, isLg, CB, inx_0, inx_1, inx_2, inx_3, inx_4, inx_5, bI_0, bI_1, bI_ok, fin3, tyX7, entL, q0, q1, okv, wr, finF, clT, TX7, xS, dX7_init_0, dX7_init_1, dX7_init_4, dX7_init_5, dX7_init_7, dX7_init_9, fT_7_9, dX7_init_12, dX7_init_13, dX7_init_15, dX7_init_17, fT_7_15, dX7_init_20, dX7_init_21, dX7_init_24, dX7_init_26, fT_7_19, dX7_init_29, dX7_init_30, dX7_init_33, dX7_init_35, fT_7_22, dX7_init_38, dX7_init_39, dX7_init_41, dX7_init_43, fT_7_25, dX7_init_46, dX7_init_47, dX7_init_48, fT_7_28, dX7_init_51]
  refine hG.newa dX7_init_15 rfl (Or.inl rfl) wa_int (N := 10) (by decide) (by decide) (by decide) (by show n1 < 1000000000; omega) ?_
  show G _ _ 17 _ _ (upS sh1 n1 (.inr (.int, 10)), up0 mI1 n1 0, up0 mL1 n1 0, up0 mR1 n1 none, n1 + 1)
  have B2 := B1.arr (by decide) 2 .int 10
  have q2 : upS sh1 n1 (.inr (.int, 10)) S = some (.inl 7) := B2.s (by decide) rfl
  refine hG.run [20] 20 ?_
  simp [wp, stepI, ln, jmp, cmpI, Value.category, rd, tyF, va_rf, st1, st2, clr, isLg, CB, inx_0, inx_1, inx_2, inx_3, inx_4, inx_5, bI_0, bI_1, bI_ok, fin3, tyX7, entL, q0, q2, okv, wr, finF, clT, TX7, xS, dX7_init_0, dX7_init_1, dX7_init_4, dX7_init_5, dX7_init_7, dX7_init_9, fT_7_9, dX7_init_12, dX7_init_13, dX7_init_15, dX7_init_17, fT_7_15, dX7_init_20, dX7_init_21, dX7_init_24, dX7_init_26, fT_7_19, dX7_init_29, dX7_init_30, dX7_init_33, dX7_init_35, fT_7_22, dX7_init_38, dX7_init_39, dX7_init_41, dX7_init_43, fT_7_25, dX7_init_46, dX7_init_47, dX7_init_48, fT_7_28, dX7_init_51]
  generalize up0 mI1 n1 0 = mI2 at B2 ⊢
  generalize upS sh1 n1 (.inr (.int, 10)) = sh2 at B2 q2 ⊢
  generalize up0 mL1 n1 0 = mL2 at B2 ⊢
  generalize up2 (up0 mR1 n1 none) S 2 (some n1) = mR2 at B2 ⊢
  have hn2 : n1 + 1 = S + 3 := B2.1
  generalize n1 + 1 = n2 at B2 hn2 ⊢
  refine hG.run [24] 20 ?_
  simp [wp, stepI, ln, jmp, cmpI, Value.category, rd, tyF, va_rf, st1, st2, clr, isLg, CB, inx_0, inx_1, inx_2, inx_3, inx_4, inx_5, bI_0, bI_1, bI_ok, fin3, tyX7, entL, q0, q2, okv, wr, finF, clT, TX7, xS, dX7_init_0, dX7_init_1, dX7_init_4, dX7_init_5, dX7_init_7, dX7_init_9, fT_7_9, dX7_init_12, dX7_init_13, dX7_init_15, dX7_init_17, fT_7_15, dX7_init_20, dX7_init_21, dX7_init_24, dX7_init_26, fT_7_19, dX7_init_29, dX7_init_30, dX7_init_33, dX7_init_35, fT_7_22, dX7_init_38, dX7_init_39, dX7_init_41, dX7_init_43, fT_7_25, dX7_init_46, dX7_init_47, dX7_init_48, fT_7_28, dX7_init_51]
  refine hG.newa dX7_init_24 rfl (Or.inr (Or.inl rfl)) wa_long (N := 1024) (by decide) (by decide) (by decide) (by show n2 < 1000000000; omega) ?_
  show G _ _ 26 _ _ (upS sh2 n2 (.inr (.long, 1024)), up0 mI2 n2 0, up0 mL2 n2 0, up0 mR2 n2 none, n2 + 1)
  have B3 := B2.arr (by decide) 3 .long 1024
  have q3 : upS sh2 n2 (.inr (.long, 1024)) S = some (.inl 7) := B3.s (by decide) rfl
  refine hG.run [29] 20 ?_
  simp [wp, stepI, ln, jmp, cmpI, Value.category, rd, tyF, va_rf, st1, st2, clr, isLg, CB, inx_0, inx_1, inx_2, inx_3, inx_4, inx_5, bI_0, bI_1, bI_ok, fin3, tyX7, entL, q0, q3, okv, wr, finF, clT, TX7, xS, dX7_init_0, dX7_init_1, dX7_init_4, dX7_init_5, dX7_init_7, dX7_init_9, fT_7_9, dX7_init_12, dX7_init_13, dX7_init_15, dX7_init_17, fT_7_15, dX7_init_20, dX7_init_21, dX7_init_24, dX7_init_26, fT_7_19, dX7_init_29, dX7_init_30, dX7_init_33, dX7_init_35, fT_7_22, dX7_init_38, dX7_init_39, dX7_init_41, dX7_init_43, fT_7_25, dX7_init_46, dX7_init_47, dX7_init_48, fT_7_28, dX7_init_51]
  generalize up0 mI2 n2 0 = mI3 at B3 ⊢
  generalize upS sh2 n2 (.inr (.long, 1024)) = sh3 at B3 q3 ⊢
  generalize up0 mL2 n2 0 = mL3 at B3 ⊢
  generalize up2 (up0 mR2 n2 none) S 3 (some n2) = mR3 at B3 ⊢
  have hn3 : n2 + 1 = S + 4 := B3.1
  generalize n2 + 1 = n3 at B3 hn3 ⊢
  refine hG.run [33] 20 ?_
  simp [wp, stepI, ln, jmp, cmpI, Value.category, rd, tyF, va_rf, st1, st2, clr, isLg, CB, inx_0, inx_1, inx_2, inx_3, inx_4, inx_5, bI_0, bI_1, bI_ok, fin3, tyX7, entL, q0, q3, okv, wr, finF, clT, TX7, xS, dX7_init_0, dX7_init_1, dX7_init_4, dX7_init_5, dX7_init_7, dX7_init_9, fT_7_9, dX7_init_12, dX7_init_13, dX7_init_15, dX7_init_17, fT_7_15, dX7_init_20, dX7_init_21, dX7_init_24, dX7_init_26, fT_7_19, dX7_init_29, dX7_init_30, dX7_init_33, dX7_init_35, fT_7_22, dX7_init_38, dX7_init_39, dX7_init_41, dX7_init_43, fT_7_25, dX7_init_46, dX7_init_47, dX7_init_48, fT_7_28, dX7_init_51]
  refine hG.newa dX7_init_33 rfl (Or.inr (Or.inl rfl)) wa_long (N := 1024) (by decide) (by decide) (by decide) (by show n3 < 1000000000; omega) ?_
  show G _ _ 35 _ _ (upS sh3 n3 (.inr (.long, 1024)), up0 mI3 n3 0, up0 mL3 n3 0, up0 mR3 n3 none, n3 + 1)
  have B4 := B3.arr (by decide) 4 .long 1024
  have q4 : upS sh3 n3 (.inr (.long, 1024)) S = some (.inl 7) := B4.s (by decide) rfl
  refine hG.run [38] 20 ?_
  simp [wp, stepI, ln, jmp, cmpI, Value.category, rd, tyF, va_rf, st1, st2, clr, isLg, CB, inx_0, inx_1, inx_2, inx_3, inx_4, inx_5, bI_0, bI_1, bI_ok, fin3, tyX7, entL, q0, q4, okv, wr, finF, clT, TX7, xS, dX7_init_0, dX7_init_1, dX7_init_4, dX7_init_5, dX7_init_7, dX7_init_9, fT_7_9, dX7_init_12, dX7_init_13, dX7_init_15, dX7_init_17, fT_7_15, dX7_init_20, dX7_init_21, dX7_init_24, dX7_init_26, fT_7_19, dX7_init_29, dX7_init_30, dX7_init_33, dX7_init_35, fT_7_22, dX7_init_38, dX7_init_39, dX7_init_41, dX7_init_43, fT_7_25, dX7_init_46, dX7_init_47, dX7_init_48, fT_7_28, dX7_init_51]
  generalize up0 mI3 n3 0 = mI4 at B4 ⊢
  generalize upS sh3 n3 (.inr (.long, 1024)) = sh4 at B4 q4 ⊢
  generalize up0 mL3 n3 0 = mL4 at B4 ⊢
  generalize up2 (up0 mR3 n3 none) S 4 (some n3) = mR4 at B4 ⊢
  have hn4 : n3 + 1 = S + 5 := B4.1
  generalize n3 + 1 = n4 at B4 hn4 ⊢
  refine hG.run [41] 20 ?_
  simp [wp, stepI, ln, jmp, cmpI, Value.category, rd, tyF, va_rf, st1, st2, clr, isLg, CB, inx_0, inx_1, inx_2, inx_3, inx_4, inx_5, bI_0, bI_1, bI_ok, fin3, tyX7, entL, q0, q4, okv, wr, finF, clT, TX7, xS, dX7_init_0, dX7_init_1, dX7_init_4, dX7_init_5, dX7_init_7, dX7_init_9, fT_7_9, dX7_init_12, dX7_init_13, dX7_init_15, dX7_init_17, fT_7_15, dX7_init_20, dX7_init_21, dX7_init_24, dX7_init_26, fT_7_19, dX7_init_29, dX7_init_30, dX7_init_33, dX7_init_35, fT_7_22, dX7_init_38, dX7_init_39, dX7_init_41, dX7_init_43, fT_7_25, dX7_init_46, dX7_init_47, dX7_init_48, fT_7_28, dX7_init_51]
  refine hG.newa dX7_init_41 rfl (Or.inr (Or.inl rfl)) wa_long (N := 100) (by decide) (by decide) (by decide) (by show n4 < 1000000000; omega) ?_
  show G _ _ 43 _ _ (upS sh4 n4 (.inr (.long, 100)), up0 mI4 n4 0, up0 mL4 n4 0, up0 mR4 n4 none, n4 + 1)
  have B5 := B4.arr (by decide) 5 .long 100
  have q5 : upS sh4 n4 (.inr (.long, 100)) S = some (.inl 7) := B5.s (by decide) rfl
  refine hG.run [46] 20 ?_
  simp [wp, stepI, ln, jmp, cmpI, Value.category, rd, tyF, va_rf, st1, st2, clr, isLg, CB, inx_0, inx_1, inx_2, inx_3, inx_4, inx_5, bI_0, bI_1, bI_ok, fin3, tyX7, entL, q0, q5, okv, wr, finF, clT, TX7, xS, dX7_init_0, dX7_init_1, dX7_init_4, dX7_init_5, dX7_init_7, dX7_init_9, fT_7_9, dX7_init_12, dX7_init_13, dX7_init_15, dX7_init_17, fT_7_15, dX7_init_20, dX7_init_21, dX7_init_24, dX7_init_26, fT_7_19, dX7_init_29, dX7_init_30, dX7_init_33, dX7_init_35, fT_7_22, dX7_init_38, dX7_init_39, dX7_init_41, dX7_init_43, fT_7_25, dX7_init_46, dX7_init_47, dX7_init_48, fT_7_28, dX7_init_51]
  generalize up0 mI4 n4 0 = mI5 at B5 ⊢
  generalize upS sh4 n4 (.inr (.long, 100)) = sh5 at B5 q5 ⊢
  generalize up0 mL4 n4 0 = mL5 at B5 ⊢
  generalize up2 (up0 mR4 n4 none) S 5 (some n4) = mR5 at B5 ⊢
  have hn5 : n4 + 1 = S + 6 := B5.1
  generalize n4 + 1 = n5 at B5 hn5 ⊢
  refine hG.run [51] 20 ?_
  simp [wp, stepI, ln, jmp, cmpI, Value.category, rd, tyF, va_rf, st1, st2, clr, isLg, CB, inx_0, inx_1, inx_2, inx_3, inx_4, inx_5, bI_0, bI_1, bI_ok, fin3, tyX7, entL, q0, q5, bI_ok, hb1, okv, wr, finF, clT, TX7, xS, dX7_init_0, dX7_init_1, dX7_init_4, dX7_init_5, dX7_init_7, dX7_init_9, fT_7_9, dX7_init_12, dX7_init_13, dX7_init_15, dX7_init_17, fT_7_15, dX7_init_20, dX7_init_21, dX7_init_24, dX7_init_26, fT_7_19, dX7_init_29, dX7_init_30, dX7_init_33, dX7_init_35, fT_7_22, dX7_init_38, dX7_init_39, dX7_init_41, dX7_init_43, fT_7_25, dX7_init_46, dX7_init_47, dX7_init_48, fT_7_28, dX7_init_51]
  have B6 := B5.int 0 0 (nI b)
  rw [Nat.add_zero] at B6
  generalize up2 mI5 S 0 (nI b) = mI6 at B6 ⊢
  refine hG.run [] 20 ?_
  simp [wp, stepI, ln, jmp, cmpI, Value.category, rd, tyF, va_rf, st1, st2, clr, isLg, CB, inx_0, inx_1, inx_2, inx_3, inx_4, inx_5, bI_0, bI_1, bI_ok, fin3, tyX7, entL, q0, dX7_init_0, dX7_init_1, dX7_init_4, dX7_init_5, dX7_init_7, dX7_init_9, fT_7_9, dX7_init_12, dX7_init_13, dX7_init_15, dX7_init_17, fT_7_15, dX7_init_20, dX7_init_21, dX7_init_24, dX7_init_26, fT_7_19, dX7_init_29, dX7_init_30, dX7_init_33, dX7_init_35, fT_7_22, dX7_init_38, dX7_init_39, dX7_init_41, dX7_init_43, fT_7_25, dX7_init_46, dX7_init_47, dX7_init_48, fT_7_28, dX7_init_51]
  exact hP _ _ ⟨rfl, B6⟩
def rV1 : RM := (rmA (rmA (rmA (rmA (rmN 1) 0 .long 10) 1 .long 1024) 2 .int 1024) 3 .int 10)
set_option maxHeartbeats 1000000 in
set_option maxRecDepth 100000 in
theorem c1_init (l : Launch) (X : Cx) (d : Nat) (sh : Nat → Option Sh) (mI : Nat → Nat → Int32) (mL : Nat → Nat → Int64) (mR : Nat → Nat → Option Nat) (n : Nat) (S : Nat) (h : Kt (sh, mI, mL, mR, n) S (rmN 1) (sh, mI, mL, mR, n)) (hS : S < 50000000) (hd : 1 ≤ d) : Cn l X yX1_init cX1_init 1 none d [.ref S] (sh, mI, mL, mR, n) (fun r M' => r = none ∧ Kt (sh, mI, mL, mR, n) S rV1 M') 4 2068 := by
  refine Cn.runA 1 true (by decide) rfl (fun _ => rfl) (by simp [entA, Value.category]) ?_
  intro P G hP hG
  have xS : S < 1000000000 := by omega
  have hn0 : n = S + 1 := h.1
  have q0 : sh S = some (.inl 1) := h.s (by decide) rfl
  refine hG.run [1] 20 ?_
  simp [wp, stepI, ln, jmp, cmpI, Value.category, rd, tyF, va_rf, st1, st2, clr, isLg, CB, inx_0, inx_1, inx_2, inx_3, inx_4, inx_5, bI_0, bI_1, bI_ok, fin3, tyX1, entL, q0, dX1_init_0, dX1_init_1, dX1_init_4, dX1_init_5, dX1_init_7, dX1_init_9, fT_1_9, dX1_init_12, dX1_init_13, dX1_init_16, dX1_init_18, fT_1_15, dX1_init_21, dX1_init_22, dX1_init_25, dX1_init_27, fT_1_18, dX1_init_30, dX1_init_31, dX1_init_33, dX1_init_35, fT_1_22, dX1_init_38]
  refine hG.objI dX1_init_1 ml_1_3 w_oi.1 w_oi.2 (by omega) (by simp [Value.category]) ?_
  refine hG.run [7] 20 ?_
  simp [wp, stepI, ln, jmp, cmpI, Value.category, rd, tyF, va_rf, st1, st2, clr, isLg, CB, inx_0, inx_1, inx_2, inx_3, inx_4, inx_5, bI_0, bI_1, bI_ok, fin3, tyX1, entL, q0, q0, okv, wr, finF, clT, TX1, xS, dX1_init_0, dX1_init_1, dX1_init_4, dX1_init_5, dX1_init_7, dX1_init_9, fT_1_9, dX1_init_12, dX1_init_13, dX1_init_16, dX1_init_18, fT_1_15, dX1_init_21, dX1_init_22, dX1_init_25, dX1_init_27, fT_1_18, dX1_init_30, dX1_init_31, dX1_init_33, dX1_init_35, fT_1_22, dX1_init_38]
  refine hG.newa dX1_init_7 rfl (Or.inr (Or.inl rfl)) wa_long (N := 10) (by decide) (by decide) (by decide) (by show n < 1000000000; omega) ?_
  show G _ _ 9 _ _ (upS sh n (.inr (.long, 10)), up0 mI n 0, up0 mL n 0, up0 mR n none, n + 1)
  have B1 := h.arr (by decide) 0 .long 10
  have q1 : upS sh n (.inr (.long, 10)) S = some (.inl 1) := B1.s (by decide) rfl
  refine hG.run [12] 20 ?_
  simp [wp, stepI, ln, jmp, cmpI, Value.category, rd, tyF, va_rf, st1, st2, clr, isLg, CB, inx_0, inx_1, inx_2, inx_3, inx_4, inx_5, bI_0, bI_1, bI_ok, fin3, tyX1, entL, q0, q1, okv, wr, finF, clT, TX1, xS, dX1_init_0, dX1_init_1, dX1_init_4, dX1_init_5, dX1_init_7, dX1_init_9, fT_1_9, dX1_init_12, dX1_init_13, dX1_init_16, dX1_init_18, fT_1_15, dX1_init_21, dX1_init_22, dX1_init_25, dX1_init_27, fT_1_18, dX1_init_30, dX1_init_31, dX1_init_33, dX1_init_35, fT_1_22, dX1_init_38]
  generalize up0 mI n 0 = mI1 at B1 ⊢
  generalize upS sh n (.inr (.long, 10)) = sh1 at B1 q1 ⊢
  generalize up0 mL n 0 = mL1 at B1 ⊢
  generalize up2 (up0 mR n none) S 0 (some n) = mR1 at B1 ⊢
  have hn1 : n + 1 = S + 2 := B1.1
  generalize n + 1 = n1 at B1 hn1 ⊢
  refine hG.run [16] 20 ?_
  simp [wp, stepI, ln, jmp, cmpI, Value.category, rd, tyF, va_rf, st1, st2, clr, isLg, CB, inx_0, inx_1, inx_2, inx_3, inx_4, inx_5, bI_0, bI_1, bI_ok, fin3, tyX1, entL, q0, q1, okv, wr, finF, clT, TX1, xS, dX1_init_0, dX1_init_1, dX1_init_4, dX1_init_5, dX1_init_7, dX1_init_9, fT_1_9, dX1_init_12, dX1_init_13, dX1_init_16, dX1_init_18, fT_1_15, dX1_init_21, dX1_init_22, dX1_init_25, dX1_init_27, fT_1_18, dX1_init_30, dX1_init_31, dX1_init_33, dX1_init_35, fT_1_22, dX1_init_38]
  refine hG.newa dX1_init_16 rfl (Or.inr (Or.inl rfl)) wa_long (N := 1024) (by decide) (by decide) (by decide) (by show n1 < 1000000000; omega) ?_
  show G _ _ 18 _ _ (upS sh1 n1 (.inr (.long, 1024)), up0 mI1 n1 0, up0 mL1 n1 0, up0 mR1 n1 none, n1 + 1)
  have B2 := B1.arr (by decide) 1 .long 1024
  have q2 : upS sh1 n1 (.inr (.long, 1024)) S = some (.inl 1) := B2.s (by decide) rfl
  refine hG.run [21] 20 ?_
  simp [wp, stepI, ln, jmp, cmpI, Value.category, rd, tyF, va_rf, st1, st2, clr, isLg, CB, inx_0, inx_1, inx_2, inx_3, inx_4, inx_5, bI_0, bI_1, bI_ok, fin3, tyX1, entL, q0, q2, okv, wr, finF, clT, TX1, xS, dX1_init_0, dX1_init_1, dX1_init_4, dX1_init_5, dX1_init_7, dX1_init_9, fT_1_9, dX1_init_12, dX1_init_13, dX1_init_16, dX1_init_18, fT_1_15, dX1_init_21, dX1_init_22, dX1_init_25, dX1_init_27, fT_1_18, dX1_init_30, dX1_init_31, dX1_init_33, dX1_init_35, fT_1_22, dX1_init_38]
  generalize up0 mI1 n1 0 = mI2 at B2 ⊢
  generalize upS sh1 n1 (.inr (.long, 1024)) = sh2 at B2 q2 ⊢
  generalize up0 mL1 n1 0 = mL2 at B2 ⊢
  generalize up2 (up0 mR1 n1 none) S 1 (some n1) = mR2 at B2 ⊢
  have hn2 : n1 + 1 = S + 3 := B2.1
  generalize n1 + 1 = n2 at B2 hn2 ⊢
  refine hG.run [25] 20 ?_
  simp [wp, stepI, ln, jmp, cmpI, Value.category, rd, tyF, va_rf, st1, st2, clr, isLg, CB, inx_0, inx_1, inx_2, inx_3, inx_4, inx_5, bI_0, bI_1, bI_ok, fin3, tyX1, entL, q0, q2, okv, wr, finF, clT, TX1, xS, dX1_init_0, dX1_init_1, dX1_init_4, dX1_init_5, dX1_init_7, dX1_init_9, fT_1_9, dX1_init_12, dX1_init_13, dX1_init_16, dX1_init_18, fT_1_15, dX1_init_21, dX1_init_22, dX1_init_25, dX1_init_27, fT_1_18, dX1_init_30, dX1_init_31, dX1_init_33, dX1_init_35, fT_1_22, dX1_init_38]
  refine hG.newa dX1_init_25 rfl (Or.inl rfl) wa_int (N := 1024) (by decide) (by decide) (by decide) (by show n2 < 1000000000; omega) ?_
  show G _ _ 27 _ _ (upS sh2 n2 (.inr (.int, 1024)), up0 mI2 n2 0, up0 mL2 n2 0, up0 mR2 n2 none, n2 + 1)
  have B3 := B2.arr (by decide) 2 .int 1024
  have q3 : upS sh2 n2 (.inr (.int, 1024)) S = some (.inl 1) := B3.s (by decide) rfl
  refine hG.run [30] 20 ?_
  simp [wp, stepI, ln, jmp, cmpI, Value.category, rd, tyF, va_rf, st1, st2, clr, isLg, CB, inx_0, inx_1, inx_2, inx_3, inx_4, inx_5, bI_0, bI_1, bI_ok, fin3, tyX1, entL, q0, q3, okv, wr, finF, clT, TX1, xS, dX1_init_0, dX1_init_1, dX1_init_4, dX1_init_5, dX1_init_7, dX1_init_9, fT_1_9, dX1_init_12, dX1_init_13, dX1_init_16, dX1_init_18, fT_1_15, dX1_init_21, dX1_init_22, dX1_init_25, dX1_init_27, fT_1_18, dX1_init_30, dX1_init_31, dX1_init_33, dX1_init_35, fT_1_22, dX1_init_38]
  generalize up0 mI2 n2 0 = mI3 at B3 ⊢
  generalize upS sh2 n2 (.inr (.int, 1024)) = sh3 at B3 q3 ⊢
  generalize up0 mL2 n2 0 = mL3 at B3 ⊢
  generalize up2 (up0 mR2 n2 none) S 2 (some n2) = mR3 at B3 ⊢
  have hn3 : n2 + 1 = S + 4 := B3.1
  generalize n2 + 1 = n3 at B3 hn3 ⊢
  refine hG.run [33] 20 ?_
  simp [wp, stepI, ln, jmp, cmpI, Value.category, rd, tyF, va_rf, st1, st2, clr, isLg, CB, inx_0, inx_1, inx_2, inx_3, inx_4, inx_5, bI_0, bI_1, bI_ok, fin3, tyX1, entL, q0, q3, okv, wr, finF, clT, TX1, xS, dX1_init_0, dX1_init_1, dX1_init_4, dX1_init_5, dX1_init_7, dX1_init_9, fT_1_9, dX1_init_12, dX1_init_13, dX1_init_16, dX1_init_18, fT_1_15, dX1_init_21, dX1_init_22, dX1_init_25, dX1_init_27, fT_1_18, dX1_init_30, dX1_init_31, dX1_init_33, dX1_init_35, fT_1_22, dX1_init_38]
  refine hG.newa dX1_init_33 rfl (Or.inl rfl) wa_int (N := 10) (by decide) (by decide) (by decide) (by show n3 < 1000000000; omega) ?_
  show G _ _ 35 _ _ (upS sh3 n3 (.inr (.int, 10)), up0 mI3 n3 0, up0 mL3 n3 0, up0 mR3 n3 none, n3 + 1)
  have B4 := B3.arr (by decide) 3 .int 10
  have q4 : upS sh3 n3 (.inr (.int, 10)) S = some (.inl 1) := B4.s (by decide) rfl
  refine hG.run [38] 20 ?_
  simp [wp, stepI, ln, jmp, cmpI, Value.category, rd, tyF, va_rf, st1, st2, clr, isLg, CB, inx_0, inx_1, inx_2, inx_3, inx_4, inx_5, bI_0, bI_1, bI_ok, fin3, tyX1, entL, q0, q4, okv, wr, finF, clT, TX1, xS, dX1_init_0, dX1_init_1, dX1_init_4, dX1_init_5, dX1_init_7, dX1_init_9, fT_1_9, dX1_init_12, dX1_init_13, dX1_init_16, dX1_init_18, fT_1_15, dX1_init_21, dX1_init_22, dX1_init_25, dX1_init_27, fT_1_18, dX1_init_30, dX1_init_31, dX1_init_33, dX1_init_35, fT_1_22, dX1_init_38]
  generalize up0 mI3 n3 0 = mI4 at B4 ⊢
  generalize upS sh3 n3 (.inr (.int, 10)) = sh4 at B4 q4 ⊢
  generalize up0 mL3 n3 0 = mL4 at B4 ⊢
  generalize up2 (up0 mR3 n3 none) S 3 (some n3) = mR4 at B4 ⊢
  have hn4 : n3 + 1 = S + 5 := B4.1
  generalize n3 + 1 = n4 at B4 hn4 ⊢
  refine hG.run [] 20 ?_
  simp [wp, stepI, ln, jmp, cmpI, Value.category, rd, tyF, va_rf, st1, st2, clr, isLg, CB, inx_0, inx_1, inx_2, inx_3, inx_4, inx_5, bI_0, bI_1, bI_ok, fin3, tyX1, entL, q0, dX1_init_0, dX1_init_1, dX1_init_4, dX1_init_5, dX1_init_7, dX1_init_9, fT_1_9, dX1_init_12, dX1_init_13, dX1_init_16, dX1_init_18, fT_1_15, dX1_init_21, dX1_init_22, dX1_init_25, dX1_init_27, fT_1_18, dX1_init_30, dX1_init_31, dX1_init_33, dX1_init_35, fT_1_22, dX1_init_38]
  exact hP _ _ ⟨rfl, B4⟩
def rV0 : RM := (rmA (rmA (rmA (rmN 0) 0 .long 25) 1 .long 25) 2 .int 5)
set_option maxHeartbeats 1000000 in
set_option maxRecDepth 100000 in
theorem c0_init (l : Launch) (X : Cx) (d : Nat) (sh : Nat → Option Sh) (mI : Nat → Nat → Int32) (mL : Nat → Nat → Int64) (mR : Nat → Nat → Option Nat) (n : Nat) (S : Nat) (h : Kt (sh, mI, mL, mR, n) S (rmN 0) (sh, mI, mL, mR, n)) (hS : S < 50000000) (hd : 1 ≤ d) : Cn l X yX0_init cX0_init 1 none d [.ref S] (sh, mI, mL, mR, n) (fun r M' => r = none ∧ Kt (sh, mI, mL, mR, n) S rV0 M') 3 55 := by
  refine Cn.runA 0 true (by decide) rfl (fun _ => rfl) (by simp [entA, Value.category]) ?_
  intro P G hP hG
  have xS : S < 1000000000 := by omega
  have hn0 : n = S + 1 := h.1
  have q0 : sh S = some (.inl 0) := h.s (by decide) rfl
  refine hG.run [1] 20 ?_
  simp [wp, stepI, ln, jmp, cmpI, Value.category, rd, tyF, va_rf, st1, st2, clr, isLg, CB, inx_0, inx_1, inx_2, inx_3, inx_4, inx_5, bI_0, bI_1, bI_ok, fin3, tyX0, entL, q0, dX0_init_0, dX0_init_1, dX0_init_4, dX0_init_5, dX0_init_7, dX0_init_9, fT_0_9, dX0_init_12, dX0_init_13, dX0_init_15, dX0_init_17, fT_0_15, dX0_init_20, dX0_init_21, dX0_init_22, dX0_init_24, fT_0_18, dX0_init_27]
  refine hG.objI dX0_init_1 ml_0_3 w_oi.1 w_oi.2 (by omega) (by simp [Value.category]) ?_
  refine hG.run [7] 20 ?_
  simp [wp, stepI, ln, jmp, cmpI, Value.category, rd, tyF, va_rf, st1, st2, clr, isLg, CB, inx_0, inx_1, inx_2, inx_3, inx_4, inx_5, bI_0, bI_1, bI_ok, fin3, tyX0, entL, q0, q0, okv, wr, finF, clT, TX0, xS, dX0_init_0, dX0_init_1, dX0_init_4, dX0_init_5, dX0_init_7, dX0_init_9, fT_0_9, dX0_init_12, dX0_init_13, dX0_init_15, dX0_init_17, fT_0_15, dX0_init_20, dX0_init_21, dX0_init_22, dX0_init_24, fT_0_18, dX0_init_27]
  refine hG.newa dX0_init_7 rfl (Or.inr (Or.inl rfl)) wa_long (N := 25) (by decide) (by decide) (by decide) (by show n < 1000000000; omega) ?_
  show G _ _ 9 _ _ (upS sh n (.inr (.long, 25)), up0 mI n 0, up0 mL n 0, up0 mR n none, n + 1)
  have B1 := h.arr (by decide) 0 .long 25
  have q1 : upS sh n (.inr (.long, 25)) S = some (.inl 0) := B1.s (by decide) rfl
  refine hG.run [12] 20 ?_
  simp [wp, stepI, ln, jmp, cmpI, Value.category, rd, tyF, va_rf, st1, st2, clr, isLg, CB, inx_0, inx_1, inx_2, inx_3, inx_4, inx_5, bI_0, bI_1, bI_ok, fin3, tyX0, entL, q0, q1, okv, wr, finF, clT, TX0, xS, dX0_init_0, dX0_init_1, dX0_init_4, dX0_init_5, dX0_init_7, dX0_init_9, fT_0_9, dX0_init_12, dX0_init_13, dX0_init_15, dX0_init_17, fT_0_15, dX0_init_20, dX0_init_21, dX0_init_22, dX0_init_24, fT_0_18, dX0_init_27]
  generalize up0 mI n 0 = mI1 at B1 ⊢
  generalize upS sh n (.inr (.long, 25)) = sh1 at B1 q1 ⊢
  generalize up0 mL n 0 = mL1 at B1 ⊢
  generalize up2 (up0 mR n none) S 0 (some n) = mR1 at B1 ⊢
  have hn1 : n + 1 = S + 2 := B1.1
  generalize n + 1 = n1 at B1 hn1 ⊢
  refine hG.run [15] 20 ?_
  simp [wp, stepI, ln, jmp, cmpI, Value.category, rd, tyF, va_rf, st1, st2, clr, isLg, CB, inx_0, inx_1, inx_2, inx_3, inx_4, inx_5, bI_0, bI_1, bI_ok, fin3, tyX0, entL, q0, q1, okv, wr, finF, clT, TX0, xS, dX0_init_0, dX0_init_1, dX0_init_4, dX0_init_5, dX0_init_7, dX0_init_9, fT_0_9, dX0_init_12, dX0_init_13, dX0_init_15, dX0_init_17, fT_0_15, dX0_init_20, dX0_init_21, dX0_init_22, dX0_init_24, fT_0_18, dX0_init_27]
  refine hG.newa dX0_init_15 rfl (Or.inr (Or.inl rfl)) wa_long (N := 25) (by decide) (by decide) (by decide) (by show n1 < 1000000000; omega) ?_
  show G _ _ 17 _ _ (upS sh1 n1 (.inr (.long, 25)), up0 mI1 n1 0, up0 mL1 n1 0, up0 mR1 n1 none, n1 + 1)
  have B2 := B1.arr (by decide) 1 .long 25
  have q2 : upS sh1 n1 (.inr (.long, 25)) S = some (.inl 0) := B2.s (by decide) rfl
  refine hG.run [20] 20 ?_
  simp [wp, stepI, ln, jmp, cmpI, Value.category, rd, tyF, va_rf, st1, st2, clr, isLg, CB, inx_0, inx_1, inx_2, inx_3, inx_4, inx_5, bI_0, bI_1, bI_ok, fin3, tyX0, entL, q0, q2, okv, wr, finF, clT, TX0, xS, dX0_init_0, dX0_init_1, dX0_init_4, dX0_init_5, dX0_init_7, dX0_init_9, fT_0_9, dX0_init_12, dX0_init_13, dX0_init_15, dX0_init_17, fT_0_15, dX0_init_20, dX0_init_21, dX0_init_22, dX0_init_24, fT_0_18, dX0_init_27]
  generalize up0 mI1 n1 0 = mI2 at B2 ⊢
  generalize upS sh1 n1 (.inr (.long, 25)) = sh2 at B2 q2 ⊢
  generalize up0 mL1 n1 0 = mL2 at B2 ⊢
  generalize up2 (up0 mR1 n1 none) S 1 (some n1) = mR2 at B2 ⊢
  have hn2 : n1 + 1 = S + 3 := B2.1
  generalize n1 + 1 = n2 at B2 hn2 ⊢
  refine hG.run [22] 20 ?_
  simp [wp, stepI, ln, jmp, cmpI, Value.category, rd, tyF, va_rf, st1, st2, clr, isLg, CB, inx_0, inx_1, inx_2, inx_3, inx_4, inx_5, bI_0, bI_1, bI_ok, fin3, tyX0, entL, q0, q2, okv, wr, finF, clT, TX0, xS, dX0_init_0, dX0_init_1, dX0_init_4, dX0_init_5, dX0_init_7, dX0_init_9, fT_0_9, dX0_init_12, dX0_init_13, dX0_init_15, dX0_init_17, fT_0_15, dX0_init_20, dX0_init_21, dX0_init_22, dX0_init_24, fT_0_18, dX0_init_27]
  refine hG.newa dX0_init_22 rfl (Or.inl rfl) wa_int (N := 5) (by decide) (by decide) (by decide) (by show n2 < 1000000000; omega) ?_
  show G _ _ 24 _ _ (upS sh2 n2 (.inr (.int, 5)), up0 mI2 n2 0, up0 mL2 n2 0, up0 mR2 n2 none, n2 + 1)
  have B3 := B2.arr (by decide) 2 .int 5
  have q3 : upS sh2 n2 (.inr (.int, 5)) S = some (.inl 0) := B3.s (by decide) rfl
  refine hG.run [27] 20 ?_
  simp [wp, stepI, ln, jmp, cmpI, Value.category, rd, tyF, va_rf, st1, st2, clr, isLg, CB, inx_0, inx_1, inx_2, inx_3, inx_4, inx_5, bI_0, bI_1, bI_ok, fin3, tyX0, entL, q0, q3, okv, wr, finF, clT, TX0, xS, dX0_init_0, dX0_init_1, dX0_init_4, dX0_init_5, dX0_init_7, dX0_init_9, fT_0_9, dX0_init_12, dX0_init_13, dX0_init_15, dX0_init_17, fT_0_15, dX0_init_20, dX0_init_21, dX0_init_22, dX0_init_24, fT_0_18, dX0_init_27]
  generalize up0 mI2 n2 0 = mI3 at B3 ⊢
  generalize upS sh2 n2 (.inr (.int, 5)) = sh3 at B3 q3 ⊢
  generalize up0 mL2 n2 0 = mL3 at B3 ⊢
  generalize up2 (up0 mR2 n2 none) S 2 (some n2) = mR3 at B3 ⊢
  have hn3 : n2 + 1 = S + 4 := B3.1
  generalize n2 + 1 = n3 at B3 hn3 ⊢
  refine hG.run [] 20 ?_
  simp [wp, stepI, ln, jmp, cmpI, Value.category, rd, tyF, va_rf, st1, st2, clr, isLg, CB, inx_0, inx_1, inx_2, inx_3, inx_4, inx_5, bI_0, bI_1, bI_ok, fin3, tyX0, entL, q0, dX0_init_0, dX0_init_1, dX0_init_4, dX0_init_5, dX0_init_7, dX0_init_9, fT_0_9, dX0_init_12, dX0_init_13, dX0_init_15, dX0_init_17, fT_0_15, dX0_init_20, dX0_init_21, dX0_init_22, dX0_init_24, fT_0_18, dX0_init_27]
  exact hP _ _ ⟨rfl, B3⟩
def rV9 : RM := (rmA (rmA (rmA (rmA (rmN 9) 0 .int 40) 1 .int 64) 2 .int 8) 3 .long 105)
set_option maxHeartbeats 1000000 in
set_option maxRecDepth 100000 in
theorem c9_init (l : Launch) (X : Cx) (d : Nat) (sh : Nat → Option Sh) (mI : Nat → Nat → Int32) (mL : Nat → Nat → Int64) (mR : Nat → Nat → Option Nat) (n : Nat) (S : Nat) (h : Kt (sh, mI, mL, mR, n) S (rmN 9) (sh, mI, mL, mR, n)) (hS : S < 50000000) (hd : 1 ≤ d) : Cn l X yX9_init cX9_init 1 none d [.ref S] (sh, mI, mL, mR, n) (fun r M' => r = none ∧ Kt (sh, mI, mL, mR, n) S rV9 M') 4 217 := by
  refine Cn.runA 9 true (by decide) rfl (fun _ => rfl) (by simp [entA, Value.category]) ?_
  intro P G hP hG
  have xS : S < 1000000000 := by omega
  have hn0 : n = S + 1 := h.1
  have q0 : sh S = some (.inl 9) := h.s (by decide) rfl
  refine hG.run [1] 20 ?_
  simp [wp, stepI, ln, jmp, cmpI, Value.category, rd, tyF, va_rf, st1, st2, clr, isLg, CB, inx_0, inx_1, inx_2, inx_3, inx_4, inx_5, bI_0, bI_1, bI_ok, fin3, tyX9, entL, q0, dX9_init_0, dX9_init_1, dX9_init_4, dX9_init_5, dX9_init_7, dX9_init_9, fT_9_9, dX9_init_12, dX9_init_13, dX9_init_15, dX9_init_17, fT_9_15, dX9_init_20, dX9_init_21, dX9_init_23, dX9_init_25, fT_9_18, dX9_init_28, dX9_init_29, dX9_init_31, dX9_init_33, fT_9_21, dX9_init_36]
  refine hG.objI dX9_init_1 ml_9_3 w_oi.1 w_oi.2 (by omega) (by simp [Value.category]) ?_
  refine hG.run [7] 20 ?_
  simp [wp, stepI, ln, jmp, cmpI, Value.category, rd, tyF, va_rf, st1, st2, clr, isLg, CB, inx_0, inx_1, inx_2, inx_3, inx_4, inx_5, bI_0, bI_1, bI_ok, fin3, tyX9, entL, q0, q0, okv, wr, finF, clT, TX9, xS, dX9_init_0, dX9_init_1, dX9_init_4, dX9_init_5, dX9_init_7, dX9_init_9, fT_9_9, dX9_init_12, dX9_init_13, dX9_init_15, dX9_init_17, fT_9_15, dX9_init_20, dX9_init_21, dX9_init_23, dX9_init_25, fT_9_18, dX9_init_28, dX9_init_29, dX9_init_31, dX9_init_33, fT_9_21, dX9_init_36]
  refine hG.newa dX9_init_7 rfl (Or.inl rfl) wa_int (N := 40) (by decide) (by decide) (by decide) (by show n < 1000000000; omega) ?_
  show G _ _ 9 _ _ (upS sh n (.inr (.int, 40)), up0 mI n 0, up0 mL n 0, up0 mR n none, n + 1)
  have B1 := h.arr (by decide) 0 .int 40
  have q1 : upS sh n (.inr (.int, 40)) S = some (.inl 9) := B1.s (by decide) rfl
  refine hG.run [12] 20 ?_
  simp [wp, stepI, ln, jmp, cmpI, Value.category, rd, tyF, va_rf, st1, st2, clr, isLg, CB, inx_0, inx_1, inx_2, inx_3, inx_4, inx_5, bI_0, bI_1, bI_ok, fin3, tyX9, entL, q0, q1, okv, wr, finF, clT, TX9, xS, dX9_init_0, dX9_init_1, dX9_init_4, dX9_init_5, dX9_init_7, dX9_init_9, fT_9_9, dX9_init_12, dX9_init_13, dX9_init_15, dX9_init_17, fT_9_15, dX9_init_20, dX9_init_21, dX9_init_23, dX9_init_25, fT_9_18, dX9_init_28, dX9_init_29, dX9_init_31, dX9_init_33, fT_9_21, dX9_init_36]
  generalize up0 mI n 0 = mI1 at B1 ⊢
  generalize upS sh n (.inr (.int, 40)) = sh1 at B1 q1 ⊢
  generalize up0 mL n 0 = mL1 at B1 ⊢
  generalize up2 (up0 mR n none) S 0 (some n) = mR1 at B1 ⊢
  have hn1 : n + 1 = S + 2 := B1.1
  generalize n + 1 = n1 at B1 hn1 ⊢
  refine hG.run [15] 20 ?_
  simp [wp, stepI, ln, jmp, cmpI, Value.category, rd, tyF, va_rf, st1, st2, clr, isLg, CB, inx_0, inx_1, inx_2, inx_3, inx_4, inx_5, bI_0, bI_1, bI_ok, fin3, tyX9, entL, q0, q1, okv, wr, finF, clT, TX9, xS, dX9_init_0, dX9_init_1, dX9_init_4, dX9_init_5, dX9_init_7, dX9_init_9, fT_9_9, dX9_init_12, dX9_init_13, dX9_init_15, dX9_init_17, fT_9_15, dX9_init_20, dX9_init_21, dX9_init_23, dX9_init_25, fT_9_18, dX9_init_28, dX9_init_29, dX9_init_31, dX9_init_33, fT_9_21, dX9_init_36]
  refine hG.newa dX9_init_15 rfl (Or.inl rfl) wa_int (N := 64) (by decide) (by decide) (by decide) (by show n1 < 1000000000; omega) ?_
  show G _ _ 17 _ _ (upS sh1 n1 (.inr (.int, 64)), up0 mI1 n1 0, up0 mL1 n1 0, up0 mR1 n1 none, n1 + 1)
  have B2 := B1.arr (by decide) 1 .int 64
  have q2 : upS sh1 n1 (.inr (.int, 64)) S = some (.inl 9) := B2.s (by decide) rfl
  refine hG.run [20] 20 ?_
  simp [wp, stepI, ln, jmp, cmpI, Value.category, rd, tyF, va_rf, st1, st2, clr, isLg, CB, inx_0, inx_1, inx_2, inx_3, inx_4, inx_5, bI_0, bI_1, bI_ok, fin3, tyX9, entL, q0, q2, okv, wr, finF, clT, TX9, xS, dX9_init_0, dX9_init_1, dX9_init_4, dX9_init_5, dX9_init_7, dX9_init_9, fT_9_9, dX9_init_12, dX9_init_13, dX9_init_15, dX9_init_17, fT_9_15, dX9_init_20, dX9_init_21, dX9_init_23, dX9_init_25, fT_9_18, dX9_init_28, dX9_init_29, dX9_init_31, dX9_init_33, fT_9_21, dX9_init_36]
  generalize up0 mI1 n1 0 = mI2 at B2 ⊢
  generalize upS sh1 n1 (.inr (.int, 64)) = sh2 at B2 q2 ⊢
  generalize up0 mL1 n1 0 = mL2 at B2 ⊢
  generalize up2 (up0 mR1 n1 none) S 1 (some n1) = mR2 at B2 ⊢
  have hn2 : n1 + 1 = S + 3 := B2.1
  generalize n1 + 1 = n2 at B2 hn2 ⊢
  refine hG.run [23] 20 ?_
  simp [wp, stepI, ln, jmp, cmpI, Value.category, rd, tyF, va_rf, st1, st2, clr, isLg, CB, inx_0, inx_1, inx_2, inx_3, inx_4, inx_5, bI_0, bI_1, bI_ok, fin3, tyX9, entL, q0, q2, okv, wr, finF, clT, TX9, xS, dX9_init_0, dX9_init_1, dX9_init_4, dX9_init_5, dX9_init_7, dX9_init_9, fT_9_9, dX9_init_12, dX9_init_13, dX9_init_15, dX9_init_17, fT_9_15, dX9_init_20, dX9_init_21, dX9_init_23, dX9_init_25, fT_9_18, dX9_init_28, dX9_init_29, dX9_init_31, dX9_init_33, fT_9_21, dX9_init_36]
  refine hG.newa dX9_init_23 rfl (Or.inl rfl) wa_int (N := 8) (by decide) (by decide) (by decide) (by show n2 < 1000000000; omega) ?_
  show G _ _ 25 _ _ (upS sh2 n2 (.inr (.int, 8)), up0 mI2 n2 0, up0 mL2 n2 0, up0 mR2 n2 none, n2 + 1)
  have B3 := B2.arr (by decide) 2 .int 8
  have q3 : upS sh2 n2 (.inr (.int, 8)) S = some (.inl 9) := B3.s (by decide) rfl
  refine hG.run [28] 20 ?_
  simp [wp, stepI, ln, jmp, cmpI, Value.category, rd, tyF, va_rf, st1, st2, clr, isLg, CB, inx_0, inx_1, inx_2, inx_3, inx_4, inx_5, bI_0, bI_1, bI_ok, fin3, tyX9, entL, q0, q3, okv, wr, finF, clT, TX9, xS, dX9_init_0, dX9_init_1, dX9_init_4, dX9_init_5, dX9_init_7, dX9_init_9, fT_9_9, dX9_init_12, dX9_init_13, dX9_init_15, dX9_init_17, fT_9_15, dX9_init_20, dX9_init_21, dX9_init_23, dX9_init_25, fT_9_18, dX9_init_28, dX9_init_29, dX9_init_31, dX9_init_33, fT_9_21, dX9_init_36]
  generalize up0 mI2 n2 0 = mI3 at B3 ⊢
  generalize upS sh2 n2 (.inr (.int, 8)) = sh3 at B3 q3 ⊢
  generalize up0 mL2 n2 0 = mL3 at B3 ⊢
  generalize up2 (up0 mR2 n2 none) S 2 (some n2) = mR3 at B3 ⊢
  have hn3 : n2 + 1 = S + 4 := B3.1
  generalize n2 + 1 = n3 at B3 hn3 ⊢
  refine hG.run [31] 20 ?_
  simp [wp, stepI, ln, jmp, cmpI, Value.category, rd, tyF, va_rf, st1, st2, clr, isLg, CB, inx_0, inx_1, inx_2, inx_3, inx_4, inx_5, bI_0, bI_1, bI_ok, fin3, tyX9, entL, q0, q3, okv, wr, finF, clT, TX9, xS, dX9_init_0, dX9_init_1, dX9_init_4, dX9_init_5, dX9_init_7, dX9_init_9, fT_9_9, dX9_init_12, dX9_init_13, dX9_init_15, dX9_init_17, fT_9_15, dX9_init_20, dX9_init_21, dX9_init_23, dX9_init_25, fT_9_18, dX9_init_28, dX9_init_29, dX9_init_31, dX9_init_33, fT_9_21, dX9_init_36]
  refine hG.newa dX9_init_31 rfl (Or.inr (Or.inl rfl)) wa_long (N := 105) (by decide) (by decide) (by decide) (by show n3 < 1000000000; omega) ?_
  show G _ _ 33 _ _ (upS sh3 n3 (.inr (.long, 105)), up0 mI3 n3 0, up0 mL3 n3 0, up0 mR3 n3 none, n3 + 1)
  have B4 := B3.arr (by decide) 3 .long 105
  have q4 : upS sh3 n3 (.inr (.long, 105)) S = some (.inl 9) := B4.s (by decide) rfl
  refine hG.run [36] 20 ?_
  simp [wp, stepI, ln, jmp, cmpI, Value.category, rd, tyF, va_rf, st1, st2, clr, isLg, CB, inx_0, inx_1, inx_2, inx_3, inx_4, inx_5, bI_0, bI_1, bI_ok, fin3, tyX9, entL, q0, q4, okv, wr, finF, clT, TX9, xS, dX9_init_0, dX9_init_1, dX9_init_4, dX9_init_5, dX9_init_7, dX9_init_9, fT_9_9, dX9_init_12, dX9_init_13, dX9_init_15, dX9_init_17, fT_9_15, dX9_init_20, dX9_init_21, dX9_init_23, dX9_init_25, fT_9_18, dX9_init_28, dX9_init_29, dX9_init_31, dX9_init_33, fT_9_21, dX9_init_36]
  generalize up0 mI3 n3 0 = mI4 at B4 ⊢
  generalize upS sh3 n3 (.inr (.long, 105)) = sh4 at B4 q4 ⊢
  generalize up0 mL3 n3 0 = mL4 at B4 ⊢
  generalize up2 (up0 mR3 n3 none) S 3 (some n3) = mR4 at B4 ⊢
  have hn4 : n3 + 1 = S + 5 := B4.1
  generalize n3 + 1 = n4 at B4 hn4 ⊢
  refine hG.run [] 20 ?_
  simp [wp, stepI, ln, jmp, cmpI, Value.category, rd, tyF, va_rf, st1, st2, clr, isLg, CB, inx_0, inx_1, inx_2, inx_3, inx_4, inx_5, bI_0, bI_1, bI_ok, fin3, tyX9, entL, q0, dX9_init_0, dX9_init_1, dX9_init_4, dX9_init_5, dX9_init_7, dX9_init_9, fT_9_9, dX9_init_12, dX9_init_13, dX9_init_15, dX9_init_17, fT_9_15, dX9_init_20, dX9_init_21, dX9_init_23, dX9_init_25, fT_9_18, dX9_init_28, dX9_init_29, dX9_init_31, dX9_init_33, fT_9_21, dX9_init_36]
  exact hP _ _ ⟨rfl, B4⟩
