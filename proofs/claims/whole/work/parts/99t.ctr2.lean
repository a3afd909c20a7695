/-! constructors of what holds others -/
def rV6 : RM := (rmF (rmF (rmA (rmA (rmA (rmA (rmA (rmO (rmN 6) 0 rV4) 1 .int 40) 2 .int 40) 3 .int 40) 5 .int 10) 6 .int 10) 10 10 (-1)) 11 10 (-1))
set_option maxHeartbeats 1000000 in
set_option maxRecDepth 100000 in
theorem c6_init (l : Launch) (X : Cx) (d : Nat) (sh : Nat → Option Sh) (mI : Nat → Nat → Int32) (mL : Nat → Nat → Int64) (mR : Nat → Nat → Option Nat) (n : Nat) (S : Nat) (h : Kt (sh, mI, mL, mR, n) S (rmN 6) (sh, mI, mL, mR, n)) (hS : S < 40000000) (hd : 2 ≤ d) : Cn l X yX6_init cX6_init 1 none d [.ref S] (sh, mI, mL, mR, n) (fun r M' => r = none ∧ Kt (sh, mI, mL, mR, n) S rV6 M') 11 275 := by
  refine Cn.runA 6 true (by decide) rfl (fun _ => rfl) (by simp [entA, Value.category]) ?_
  intro P G hP hG
  have xS : S < 1000000000 := by omega
  have hn0 : n = S + 1 := h.1
  have q0 : sh S = some (.inl 6) := h.s (by decide) rfl
  refine hG.run [1] 20 ?_
  simp [wp, stepI, ln, jmp, cmpI, Value.category, rd, tyF, va_rf, st1, st2, clr, isLg, CB, inx_0, inx_1, inx_2, inx_3, inx_4, inx_5, bI_0, bI_1, bI_ok, fin3, tyX6, entL, q0, dX6_init_0, dX6_init_1, dX6_init_4, dX6_init_5, dX6_init_8, dX6_init_9, dX6_init_12, fT_6_12, dX6_init_15, dX6_init_16, dX6_init_18, dX6_init_20, fT_6_18, dX6_init_23, dX6_init_24, dX6_init_26, dX6_init_28, fT_6_22, dX6_init_31, dX6_init_32, dX6_init_34, dX6_init_36, fT_6_25, dX6_init_39, dX6_init_40, dX6_init_42, dX6_init_44, fT_6_28, dX6_init_47, dX6_init_48, dX6_init_50, dX6_init_52, fT_6_31, dX6_init_55, dX6_init_56, dX6_init_59, dX6_init_60, dX6_init_63, dX6_init_64, dX6_init_67, dX6_init_68, dX6_init_71]
  refine hG.objI dX6_init_1 ml_6_3 w_oi.1 w_oi.2 (by omega) (by simp [Value.category]) ?_
  refine hG.run [5] 20 ?_
  simp [wp, stepI, ln, jmp, cmpI, Value.category, rd, tyF, va_rf, st1, st2, clr, isLg, CB, inx_0, inx_1, inx_2, inx_3, inx_4, inx_5, bI_0, bI_1, bI_ok, fin3, tyX6, entL, q0, q0, okv, wr, finF, clT, TX6, xS, dX6_init_0, dX6_init_1, dX6_init_4, dX6_init_5, dX6_init_8, dX6_init_9, dX6_init_12, fT_6_12, dX6_init_15, dX6_init_16, dX6_init_18, dX6_init_20, fT_6_18, dX6_init_23, dX6_init_24, dX6_init_26, dX6_init_28, fT_6_22, dX6_init_31, dX6_init_32, dX6_init_34, dX6_init_36, fT_6_25, dX6_init_39, dX6_init_40, dX6_init_42, dX6_init_44, fT_6_28, dX6_init_47, dX6_init_48, dX6_init_50, dX6_init_52, fT_6_31, dX6_init_55, dX6_init_56, dX6_init_59, dX6_init_60, dX6_init_63, dX6_init_64, dX6_init_67, dX6_init_68, dX6_init_71]
  refine hG.new dX6_init_5 (ci := 4) rfl (by decide) wk_6_9 wn_4 wi_4 (by show n < 1000000000; omega) ?_
  have N0 := Kt.new (sh, mI, mL, mR, n) 4
  have w0 : mkM (sh, mI, mL, mR, n) (.inl 4) = (upS sh n (.inl 4), up0 mI n 0, up0 mL n 0, up0 mR n none, n + 1) := rfl
  rw [w0] at N0 ⊢
  generalize upS sh n (.inl 4) = sa0 at N0 ⊢
  generalize up0 mI n 0 = sb0 at N0 ⊢
  generalize up0 mL n 0 = sc0 at N0 ⊢
  generalize up0 mR n none = sd0 at N0 ⊢
  refine hG.run [9] 20 ?_
  simp [wp, stepI, ln, jmp, cmpI, Value.category, rd, tyF, va_rf, st1, st2, clr, isLg, CB, inx_0, inx_1, inx_2, inx_3, inx_4, inx_5, bI_0, bI_1, bI_ok, fin3, tyX6, entL, q0, q0, okv, wr, finF, clT, TX6, xS, dX6_init_0, dX6_init_1, dX6_init_4, dX6_init_5, dX6_init_8, dX6_init_9, dX6_init_12, fT_6_12, dX6_init_15, dX6_init_16, dX6_init_18, dX6_init_20, fT_6_18, dX6_init_23, dX6_init_24, dX6_init_26, dX6_init_28, fT_6_22, dX6_init_31, dX6_init_32, dX6_init_34, dX6_init_36, fT_6_25, dX6_init_39, dX6_init_40, dX6_init_42, dX6_init_44, fT_6_28, dX6_init_47, dX6_init_48, dX6_init_50, dX6_init_52, fT_6_31, dX6_init_55, dX6_init_56, dX6_init_59, dX6_init_60, dX6_init_63, dX6_init_64, dX6_init_67, dX6_init_68, dX6_init_71]
  refine hG.callI dX6_init_9 mi_6_11 [] [.ref n, .ref S] (c4_init l X (d - 1) sa0 sb0 sc0 sd0 (n + 1) n N0.self (by omega) (by omega)) (by omega) rfl (by decide) (by simp [Value.category]) rfl ?_
  rintro r M' ⟨rfl, K0⟩
  obtain ⟨sh1, mI1, mL1, mU1, n1⟩ := M'
  have K0 := K0.base (fun a ha => N0.2.1 a ha) (fun a k ha => N0.2.2.1 a k ha)
  have B1 := h.obj (by decide) K0 0
  have q1 : sh1 S = some (.inl 6) := B1.s (by decide) rfl
  refine hG.run [15] 20 ?_
  simp [wp, stepI, ln, jmp, cmpI, Value.category, rd, tyF, va_rf, st1, st2, clr, isLg, CB, inx_0, inx_1, inx_2, inx_3, inx_4, inx_5, bI_0, bI_1, bI_ok, fin3, tyX6, entL, q0, q1, okv, wr, finF, clT, TX6, xS, dX6_init_0, dX6_init_1, dX6_init_4, dX6_init_5, dX6_init_8, dX6_init_9, dX6_init_12, fT_6_12, dX6_init_15, dX6_init_16, dX6_init_18, dX6_init_20, fT_6_18, dX6_init_23, dX6_init_24, dX6_init_26, dX6_init_28, fT_6_22, dX6_init_31, dX6_init_32, dX6_init_34, dX6_init_36, fT_6_25, dX6_init_39, dX6_init_40, dX6_init_42, dX6_init_44, fT_6_28, dX6_init_47, dX6_init_48, dX6_init_50, dX6_init_52, fT_6_31, dX6_init_55, dX6_init_56, dX6_init_59, dX6_init_60, dX6_init_63, dX6_init_64, dX6_init_67, dX6_init_68, dX6_init_71]
  generalize up2 mU1 S 0 (some n) = mR1 at B1 ⊢
  have hn1 : n1 = S + 7 := B1.1
  refine hG.run [18] 20 ?_
  simp [wp, stepI, ln, jmp, cmpI, Value.category, rd, tyF, va_rf, st1, st2, clr, isLg, CB, inx_0, inx_1, inx_2, inx_3, inx_4, inx_5, bI_0, bI_1, bI_ok, fin3, tyX6, entL, q0, q1, okv, wr, finF, clT, TX6, xS, dX6_init_0, dX6_init_1, dX6_init_4, dX6_init_5, dX6_init_8, dX6_init_9, dX6_init_12, fT_6_12, dX6_init_15, dX6_init_16, dX6_init_18, dX6_init_20, fT_6_18, dX6_init_23, dX6_init_24, dX6_init_26, dX6_init_28, fT_6_22, dX6_init_31, dX6_init_32, dX6_init_34, dX6_init_36, fT_6_25, dX6_init_39, dX6_init_40, dX6_init_42, dX6_init_44, fT_6_28, dX6_init_47, dX6_init_48, dX6_init_50, dX6_init_52, fT_6_31, dX6_init_55, dX6_init_56, dX6_init_59, dX6_init_60, dX6_init_63, dX6_init_64, dX6_init_67, dX6_init_68, dX6_init_71]
  refine hG.newa dX6_init_18 rfl (Or.inl rfl) wa_int (N := 40) (by decide) (by decide) (by decide) (by show n1 < 1000000000; omega) ?_
  show G _ _ 20 _ _ (upS sh1 n1 (.inr (.int, 40)), up0 mI1 n1 0, up0 mL1 n1 0, up0 mR1 n1 none, n1 + 1)
  have B2 := B1.arr (by decide) 1 .int 40
  have q2 : upS sh1 n1 (.inr (.int, 40)) S = some (.inl 6) := B2.s (by decide) rfl
  refine hG.run [23] 20 ?_
  simp [wp, stepI, ln, jmp, cmpI, Value.category, rd, tyF, va_rf, st1, st2, clr, isLg, CB, inx_0, inx_1, inx_2, inx_3, inx_4, inx_5, bI_0, bI_1, bI_ok, fin3, tyX6, entL, q0, q2, okv, wr, finF, clT, TX6, xS, dX6_init_0, dX6_init_1, dX6_init_4, dX6_init_5, dX6_init_8, dX6_init_9, dX6_init_12, fT_6_12, dX6_init_15, dX6_init_16, dX6_init_18, dX6_init_20, fT_6_18, dX6_init_23, dX6_init_24, dX6_init_26, dX6_init_28, fT_6_22, dX6_init_31, dX6_init_32, dX6_init_34, dX6_init_36, fT_6_25, dX6_init_39, dX6_init_40, dX6_init_42, dX6_init_44, fT_6_28, dX6_init_47, dX6_init_48, dX6_init_50, dX6_init_52, fT_6_31, dX6_init_55, dX6_init_56, dX6_init_59, dX6_init_60, dX6_init_63, dX6_init_64, dX6_init_67, dX6_init_68, dX6_init_71]
  generalize up0 mI1 n1 0 = mI2 at B2 ⊢
  generalize upS sh1 n1 (.inr (.int, 40)) = sh2 at B2 q2 ⊢
  generalize up0 mL1 n1 0 = mL2 at B2 ⊢
  generalize up2 (up0 mR1 n1 none) S 1 (some n1) = mR2 at B2 ⊢
  have hn2 : n1 + 1 = S + 8 := B2.1
  generalize n1 + 1 = n2 at B2 hn2 ⊢
  refine hG.run [26] 20 ?_
  simp [wp, stepI, ln, jmp, cmpI, Value.category, rd, tyF, va_rf, st1, st2, clr, isLg, CB, inx_0, inx_1, inx_2, inx_3, inx_4, inx_5, bI_0, bI_1, bI_ok, fin3, tyX6, entL, q0, q2, okv, wr, finF, clT, TX6, xS, dX6_init_0, dX6_init_1, dX6_init_4, dX6_init_5, dX6_init_8, dX6_init_9, dX6_init_12, fT_6_12, dX6_init_15, dX6_init_16, dX6_init_18, dX6_init_20, fT_6_18, dX6_init_23, dX6_init_24, dX6_init_26, dX6_init_28, fT_6_22, dX6_init_31, dX6_init_32, dX6_init_34, dX6_init_36, fT_6_25, dX6_init_39, dX6_init_40, dX6_init_42, dX6_init_44, fT_6_28, dX6_init_47, dX6_init_48, dX6_init_50, dX6_init_52, fT_6_31, dX6_init_55, dX6_init_56, dX6_init_59, dX6_init_60, dX6_init_63, dX6_init_64, dX6_init_67, dX6_init_68, dX6_init_71]
  refine hG.newa dX6_init_26 rfl (Or.inl rfl) wa_int (N := 40) (by decide) (by decide) (by decide) (by show n2 < 1000000000; omega) ?_
  show G _ _ 28 _ _ (upS sh2 n2 (.inr (.int, 40)), up0 mI2 n2 0, up0 mL2 n2 0, up0 mR2 n2 none, n2 + 1)
  have B3 := B2.arr (by decide) 2 .int 40
  have q3 : upS sh2 n2 (.inr (.int, 40)) S = some (.inl 6) := B3.s (by decide) rfl
  refine hG.run [31] 20 ?_
  simp [wp, stepI, ln, jmp, cmpI, Value.category, rd, tyF, va_rf, st1, st2, clr, isLg, CB, inx_0, inx_1, inx_2, inx_3, inx_4, inx_5, bI_0, bI_1, bI_ok, fin3, tyX6, entL, q0, q3, okv, wr, finF, clT, TX6, xS, dX6_init_0, dX6_init_1, dX6_init_4, dX6_init_5, dX6_init_8, dX6_init_9, dX6_init_12, fT_6_12, dX6_init_15, dX6_init_16, dX6_init_18, dX6_init_20, fT_6_18, dX6_init_23, dX6_init_24, dX6_init_26, dX6_init_28, fT_6_22, dX6_init_31, dX6_init_32, dX6_init_34, dX6_init_36, fT_6_25, dX6_init_39, dX6_init_40, dX6_init_42, dX6_init_44, fT_6_28, dX6_init_47, dX6_init_48, dX6_init_50, dX6_init_52, fT_6_31, dX6_init_55, dX6_init_56, dX6_init_59, dX6_init_60, dX6_init_63, dX6_init_64, dX6_init_67, dX6_init_68, dX6_init_71]
  generalize up0 mI2 n2 0 = mI3 at B3 ⊢
  generalize upS sh2 n2 (.inr (.int, 40)) = sh3 at B3 q3 ⊢
  generalize up0 mL2 n2 0 = mL3 at B3 ⊢
  generalize up2 (up0 mR2 n2 none) S 2 (some n2) = mR3 at B3 ⊢
  have hn3 : n2 + 1 = S + 9 := B3.1
  generalize n2 + 1 = n3 at B3 hn3 ⊢
  refine hG.run [34] 20 ?_
  simp [wp, stepI, ln, jmp, cmpI, Value.category, rd, tyF, va_rf, st1, st2, clr, isLg, CB, inx_0, inx_1, inx_2, inx_3, inx_4, inx_5, bI_0, bI_1, bI_ok, fin3, tyX6, entL, q0, q3, okv, wr, finF, clT, TX6, xS, dX6_init_0, dX6_init_1, dX6_init_4, dX6_init_5, dX6_init_8, dX6_init_9, dX6_init_12, fT_6_12, dX6_init_15, dX6_init_16, dX6_init_18, dX6_init_20, fT_6_18, dX6_init_23, dX6_init_24, dX6_init_26, dX6_init_28, fT_6_22, dX6_init_31, dX6_init_32, dX6_init_34, dX6_init_36, fT_6_25, dX6_init_39, dX6_init_40, dX6_init_42, dX6_init_44, fT_6_28, dX6_init_47, dX6_init_48, dX6_init_50, dX6_init_52, fT_6_31, dX6_init_55, dX6_init_56, dX6_init_59, dX6_init_60, dX6_init_63, dX6_init_64, dX6_init_67, dX6_init_68, dX6_init_71]
  refine hG.newa dX6_init_34 rfl (Or.inl rfl) wa_int (N := 40) (by decide) (by decide) (by decide) (by show n3 < 1000000000; omega) ?_
  show G _ _ 36 _ _ (upS sh3 n3 (.inr (.int, 40)), up0 mI3 n3 0, up0 mL3 n3 0, up0 mR3 n3 none, n3 + 1)
  have B4 := B3.arr (by decide) 3 .int 40
  have q4 : upS sh3 n3 (.inr (.int, 40)) S = some (.inl 6) := B4.s (by decide) rfl
  refine hG.run [39] 20 ?_
  simp [wp, stepI, ln, jmp, cmpI, Value.category, rd, tyF, va_rf, st1, st2, clr, isLg, CB, inx_0, inx_1, inx_2, inx_3, inx_4, inx_5, bI_0, bI_1, bI_ok, fin3, tyX6, entL, q0, q4, okv, wr, finF, clT, TX6, xS, dX6_init_0, dX6_init_1, dX6_init_4, dX6_init_5, dX6_init_8, dX6_init_9, dX6_init_12, fT_6_12, dX6_init_15, dX6_init_16, dX6_init_18, dX6_init_20, fT_6_18, dX6_init_23, dX6_init_24, dX6_init_26, dX6_init_28, fT_6_22, dX6_init_31, dX6_init_32, dX6_init_34, dX6_init_36, fT_6_25, dX6_init_39, dX6_init_40, dX6_init_42, dX6_init_44, fT_6_28, dX6_init_47, dX6_init_48, dX6_init_50, dX6_init_52, fT_6_31, dX6_init_55, dX6_init_56, dX6_init_59, dX6_init_60, dX6_init_63, dX6_init_64, dX6_init_67, dX6_init_68, dX6_init_71]
  generalize up0 mI3 n3 0 = mI4 at B4 ⊢
  generalize upS sh3 n3 (.inr (.int, 40)) = sh4 at B4 q4 ⊢
  generalize up0 mL3 n3 0 = mL4 at B4 ⊢
  generalize up2 (up0 mR3 n3 none) S 3 (some n3) = mR4 at B4 ⊢
  have hn4 : n3 + 1 = S + 10 := B4.1
  generalize n3 + 1 = n4 at B4 hn4 ⊢
  refine hG.run [42] 20 ?_
  simp [wp, stepI, ln, jmp, cmpI, Value.category, rd, tyF, va_rf, st1, st2, clr, isLg, CB, inx_0, inx_1, inx_2, inx_3, inx_4, inx_5, bI_0, bI_1, bI_ok, fin3, tyX6, entL, q0, q4, okv, wr, finF, clT, TX6, xS, dX6_init_0, dX6_init_1, dX6_init_4, dX6_init_5, dX6_init_8, dX6_init_9, dX6_init_12, fT_6_12, dX6_init_15, dX6_init_16, dX6_init_18, dX6_init_20, fT_6_18, dX6_init_23, dX6_init_24, dX6_init_26, dX6_init_28, fT_6_22, dX6_init_31, dX6_init_32, dX6_init_34, dX6_init_36, fT_6_25, dX6_init_39, dX6_init_40, dX6_init_42, dX6_init_44, fT_6_28, dX6_init_47, dX6_init_48, dX6_init_50, dX6_init_52, fT_6_31, dX6_init_55, dX6_init_56, dX6_init_59, dX6_init_60, dX6_init_63, dX6_init_64, dX6_init_67, dX6_init_68, dX6_init_71]
  refine hG.newa dX6_init_42 rfl (Or.inl rfl) wa_int (N := 10) (by decide) (by decide) (by decide) (by show n4 < 1000000000; omega) ?_
  show G _ _ 44 _ _ (upS sh4 n4 (.inr (.int, 10)), up0 mI4 n4 0, up0 mL4 n4 0, up0 mR4 n4 none, n4 + 1)
  have B5 := B4.arr (by decide) 5 .int 10
  have q5 : upS sh4 n4 (.inr (.int, 10)) S = some (.inl 6) := B5.s (by decide) rfl
  refine hG.run [47] 20 ?_
  simp [wp, stepI, ln, jmp, cmpI, Value.category, rd, tyF, va_rf, st1, st2, clr, isLg, CB, inx_0, inx_1, inx_2, inx_3, inx_4, inx_5, bI_0, bI_1, bI_ok, fin3, tyX6, entL, q0, q5, okv, wr, finF, clT, TX6, xS, dX6_init_0, dX6_init_1, dX6_init_4, dX6_init_5, dX6_init_8, dX6_init_9, dX6_init_12, fT_6_12, dX6_init_15, dX6_init_16, dX6_init_18, dX6_init_20, fT_6_18, dX6_init_23, dX6_init_24, dX6_init_26, dX6_init_28, fT_6_22, dX6_init_31, dX6_init_32, dX6_init_34, dX6_init_36, fT_6_25, dX6_init_39, dX6_init_40, dX6_init_42, dX6_init_44, fT_6_28, dX6_init_47, dX6_init_48, dX6_init_50, dX6_init_52, fT_6_31, dX6_init_55, dX6_init_56, dX6_init_59, dX6_init_60, dX6_init_63, dX6_init_64, dX6_init_67, dX6_init_68, dX6_init_71]
  generalize up0 mI4 n4 0 = mI5 at B5 ⊢
  generalize upS sh4 n4 (.inr (.int, 10)) = sh5 at B5 q5 ⊢
  generalize up0 mL4 n4 0 = mL5 at B5 ⊢
  generalize up2 (up0 mR4 n4 none) S 5 (some n4) = mR5 at B5 ⊢
  have hn5 : n4 + 1 = S + 11 := B5.1
  generalize n4 + 1 = n5 at B5 hn5 ⊢
  refine hG.run [50] 20 ?_
  simp [wp, stepI, ln, jmp, cmpI, Value.category, rd, tyF, va_rf, st1, st2, clr, isLg, CB, inx_0, inx_1, inx_2, inx_3, inx_4, inx_5, bI_0, bI_1, bI_ok, fin3, tyX6, entL, q0, q5, okv, wr, finF, clT, TX6, xS, dX6_init_0, dX6_init_1, dX6_init_4, dX6_init_5, dX6_init_8, dX6_init_9, dX6_init_12, fT_6_12, dX6_init_15, dX6_init_16, dX6_init_18, dX6_init_20, fT_6_18, dX6_init_23, dX6_init_24, dX6_init_26, dX6_init_28, fT_6_22, dX6_init_31, dX6_init_32, dX6_init_34, dX6_init_36, fT_6_25, dX6_init_39, dX6_init_40, dX6_init_42, dX6_init_44, fT_6_28, dX6_init_47, dX6_init_48, dX6_init_50, dX6_init_52, fT_6_31, dX6_init_55, dX6_init_56, dX6_init_59, dX6_init_60, dX6_init_63, dX6_init_64, dX6_init_67, dX6_init_68, dX6_init_71]
  refine hG.newa dX6_init_50 rfl (Or.inl rfl) wa_int (N := 10) (by decide) (by decide) (by decide) (by show n5 < 1000000000; omega) ?_
  show G _ _ 52 _ _ (upS sh5 n5 (.inr (.int, 10)), up0 mI5 n5 0, up0 mL5 n5 0, up0 mR5 n5 none, n5 + 1)
  have B6 := B5.arr (by decide) 6 .int 10
  have q6 : upS sh5 n5 (.inr (.int, 10)) S = some (.inl 6) := B6.s (by decide) rfl
  refine hG.run [55] 20 ?_
  simp [wp, stepI, ln, jmp, cmpI, Value.category, rd, tyF, va_rf, st1, st2, clr, isLg, CB, inx_0, inx_1, inx_2, inx_3, inx_4, inx_5, bI_0, bI_1, bI_ok, fin3, tyX6, entL, q0, q6, okv, wr, finF, clT, TX6, xS, dX6_init_0, dX6_init_1, dX6_init_4, dX6_init_5, dX6_init_8, dX6_init_9, dX6_init_12, fT_6_12, dX6_init_15, dX6_init_16, dX6_init_18, dX6_init_20, fT_6_18, dX6_init_23, dX6_init_24, dX6_init_26, dX6_init_28, fT_6_22, dX6_init_31, dX6_init_32, dX6_init_34, dX6_init_36, fT_6_25, dX6_init_39, dX6_init_40, dX6_init_42, dX6_init_44, fT_6_28, dX6_init_47, dX6_init_48, dX6_init_50, dX6_init_52, fT_6_31, dX6_init_55, dX6_init_56, dX6_init_59, dX6_init_60, dX6_init_63, dX6_init_64, dX6_init_67, dX6_init_68, dX6_init_71]
  generalize up0 mI5 n5 0 = mI6 at B6 ⊢
  generalize upS sh5 n5 (.inr (.int, 10)) = sh6 at B6 q6 ⊢
  generalize up0 mL5 n5 0 = mL6 at B6 ⊢
  generalize up2 (up0 mR5 n5 none) S 6 (some n5) = mR6 at B6 ⊢
  have hn6 : n5 + 1 = S + 12 := B6.1
  generalize n5 + 1 = n6 at B6 hn6 ⊢
  have rs0 : mR6 S 5 = some (S + 10) := by have := ((B6.2.2.2 0 (by decide)).2 5).2.2; rw [Nat.add_zero] at this; exact this
  have sa0 : sh6 (S + 10) = some (.inr (.int, 10)) := (B6.2.2.2 10 (by decide)).1
  refine hG.run [60] 20 ?_
  simp [wp, stepI, ln, jmp, cmpI, Value.category, rd, tyF, va_rf, st1, st2, clr, isLg, CB, inx_0, inx_1, inx_2, inx_3, inx_4, inx_5, bI_0, bI_1, bI_ok, fin3, tyX6, entL, q0, q6, rs0, okv, wr, finF, clT, TX6, xS, dX6_init_0, dX6_init_1, dX6_init_4, dX6_init_5, dX6_init_8, dX6_init_9, dX6_init_12, fT_6_12, dX6_init_15, dX6_init_16, dX6_init_18, dX6_init_20, fT_6_18, dX6_init_23, dX6_init_24, dX6_init_26, dX6_init_28, fT_6_22, dX6_init_31, dX6_init_32, dX6_init_34, dX6_init_36, fT_6_25, dX6_init_39, dX6_init_40, dX6_init_42, dX6_init_44, fT_6_28, dX6_init_47, dX6_init_48, dX6_init_50, dX6_init_52, fT_6_31, dX6_init_55, dX6_init_56, dX6_init_59, dX6_init_60, dX6_init_63, dX6_init_64, dX6_init_67, dX6_init_68, dX6_init_71]
  refine hG.callS dX6_init_60 ms_6_34 [.ref (S + 10), .int (-1)] [] (cJ_fillI l X (d - 1) sh6 mI6 mL6 mR6 n6 (S + 10) 10 sa0 (by omega) (by omega) (-1)) (by omega) rfl (by decide) (by simp [Value.category]) rfl ?_
  rintro r M' ⟨rfl, rfl⟩
  have B7 := B6.fil 10 10 (-1)
  have q7 := q6
  generalize flM mI6 (S + 10) 10 (-1) = mI7 at B7 ⊢
  have rs1 : mR6 S 6 = some (S + 11) := by have := ((B7.2.2.2 0 (by decide)).2 6).2.2; rw [Nat.add_zero] at this; exact this
  have sa1 : sh6 (S + 11) = some (.inr (.int, 10)) := (B7.2.2.2 11 (by decide)).1
  refine hG.run [68] 20 ?_
  simp [wp, stepI, ln, jmp, cmpI, Value.category, rd, tyF, va_rf, st1, st2, clr, isLg, CB, inx_0, inx_1, inx_2, inx_3, inx_4, inx_5, bI_0, bI_1, bI_ok, fin3, tyX6, entL, q0, q7, rs1, okv, wr, finF, clT, TX6, xS, dX6_init_0, dX6_init_1, dX6_init_4, dX6_init_5, dX6_init_8, dX6_init_9, dX6_init_12, fT_6_12, dX6_init_15, dX6_init_16, dX6_init_18, dX6_init_20, fT_6_18, dX6_init_23, dX6_init_24, dX6_init_26, dX6_init_28, fT_6_22, dX6_init_31, dX6_init_32, dX6_init_34, dX6_init_36, fT_6_25, dX6_init_39, dX6_init_40, dX6_init_42, dX6_init_44, fT_6_28, dX6_init_47, dX6_init_48, dX6_init_50, dX6_init_52, fT_6_31, dX6_init_55, dX6_init_56, dX6_init_59, dX6_init_60, dX6_init_63, dX6_init_64, dX6_init_67, dX6_init_68, dX6_init_71]
  refine hG.callS dX6_init_68 ms_6_34 [.ref (S + 11), .int (-1)] [] (cJ_fillI l X (d - 1) sh6 mI7 mL6 mR6 n6 (S + 11) 10 sa1 (by omega) (by omega) (-1)) (by omega) rfl (by decide) (by simp [Value.category]) rfl ?_
  rintro r M' ⟨rfl, rfl⟩
  have B8 := B7.fil 11 10 (-1)
  have q8 := q7
  generalize flM mI7 (S + 11) 10 (-1) = mI8 at B8 ⊢
  refine hG.run [] 20 ?_
  simp [wp, stepI, ln, jmp, cmpI, Value.category, rd, tyF, va_rf, st1, st2, clr, isLg, CB, inx_0, inx_1, inx_2, inx_3, inx_4, inx_5, bI_0, bI_1, bI_ok, fin3, tyX6, entL, q0, dX6_init_0, dX6_init_1, dX6_init_4, dX6_init_5, dX6_init_8, dX6_init_9, dX6_init_12, fT_6_12, dX6_init_15, dX6_init_16, dX6_init_18, dX6_init_20, fT_6_18, dX6_init_23, dX6_init_24, dX6_init_26, dX6_init_28, fT_6_22, dX6_init_31, dX6_init_32, dX6_init_34, dX6_init_36, fT_6_25, dX6_init_39, dX6_init_40, dX6_init_42, dX6_init_44, fT_6_28, dX6_init_47, dX6_init_48, dX6_init_50, dX6_init_52, fT_6_31, dX6_init_55, dX6_init_56, dX6_init_59, dX6_init_60, dX6_init_63, dX6_init_64, dX6_init_67, dX6_init_68, dX6_init_71]
  exact hP _ _ ⟨rfl, B8⟩
def rV3 : RM := (rmA (rmA (rmA (rmO (rmO (rmN 3) 0 rV6) 1 rV8) 2 .long 10) 3 .int 10) 4 .int 1000)
set_option maxHeartbeats 1000000 in
set_option maxRecDepth 100000 in
theorem c3_init (l : Launch) (X : Cx) (d : Nat) (sh : Nat → Option Sh) (mI : Nat → Nat → Int32) (mL : Nat → Nat → Int64) (mR : Nat → Nat → Option Nat) (n : Nat) (S : Nat) (h : Kt (sh, mI, mL, mR, n) S (rmN 3) (sh, mI, mL, mR, n)) (hS : S < 30000000) (hd : 3 ≤ d) : Cn l X yX3_init cX3_init 1 none d [.ref S] (sh, mI, mL, mR, n) (fun r M' => r = none ∧ Kt (sh, mI, mL, mR, n) S rV3 M') 17 1311 := by
  refine Cn.runA 3 true (by decide) rfl (fun _ => rfl) (by simp [entA, Value.category]) ?_
  intro P G hP hG
  have xS : S < 1000000000 := by omega
  have hn0 : n = S + 1 := h.1
  have q0 : sh S = some (.inl 3) := h.s (by decide) rfl
  refine hG.run [1] 20 ?_
  simp [wp, stepI, ln, jmp, cmpI, Value.category, rd, tyF, va_rf, st1, st2, clr, isLg, CB, inx_0, inx_1, inx_2, inx_3, inx_4, inx_5, bI_0, bI_1, bI_ok, fin3, tyX3, entL, q0, dX3_init_0, dX3_init_1, dX3_init_4, dX3_init_5, dX3_init_8, dX3_init_9, dX3_init_12, fT_3_12, dX3_init_15, dX3_init_16, dX3_init_19, dX3_init_20, dX3_init_23, fT_3_21, dX3_init_26, dX3_init_27, dX3_init_29, dX3_init_31, fT_3_25, dX3_init_34, dX3_init_35, dX3_init_37, dX3_init_39, fT_3_29, dX3_init_42, dX3_init_43, dX3_init_46, dX3_init_48, fT_3_33, dX3_init_51]
  refine hG.objI dX3_init_1 ml_3_3 w_oi.1 w_oi.2 (by omega) (by simp [Value.category]) ?_
  refine hG.run [5] 20 ?_
  simp [wp, stepI, ln, jmp, cmpI, Value.category, rd, tyF, va_rf, st1, st2, clr, isLg, CB, inx_0, inx_1, inx_2, inx_3, inx_4, inx_5, bI_0, bI_1, bI_ok, fin3, tyX3, entL, q0, q0, okv, wr, finF, clT, TX3, xS, dX3_init_0, dX3_init_1, dX3_init_4, dX3_init_5, dX3_init_8, dX3_init_9, dX3_init_12, fT_3_12, dX3_init_15, dX3_init_16, dX3_init_19, dX3_init_20, dX3_init_23, fT_3_21, dX3_init_26, dX3_init_27, dX3_init_29, dX3_init_31, fT_3_25, dX3_init_34, dX3_init_35, dX3_init_37, dX3_init_39, fT_3_29, dX3_init_42, dX3_init_43, dX3_init_46, dX3_init_48, fT_3_33, dX3_init_51]
  refine hG.new dX3_init_5 (ci := 6) rfl (by decide) wk_3_9 wn_6 wi_6 (by show n < 1000000000; omega) ?_
  have N0 := Kt.new (sh, mI, mL, mR, n) 6
  have w0 : mkM (sh, mI, mL, mR, n) (.inl 6) = (upS sh n (.inl 6), up0 mI n 0, up0 mL n 0, up0 mR n none, n + 1) := rfl
  rw [w0] at N0 ⊢
  generalize upS sh n (.inl 6) = sa0 at N0 ⊢
  generalize up0 mI n 0 = sb0 at N0 ⊢
  generalize up0 mL n 0 = sc0 at N0 ⊢
  generalize up0 mR n none = sd0 at N0 ⊢
  refine hG.run [9] 20 ?_
  simp [wp, stepI, ln, jmp, cmpI, Value.category, rd, tyF, va_rf, st1, st2, clr, isLg, CB, inx_0, inx_1, inx_2, inx_3, inx_4, inx_5, bI_0, bI_1, bI_ok, fin3, tyX3, entL, q0, q0, okv, wr, finF, clT, TX3, xS, dX3_init_0, dX3_init_1, dX3_init_4, dX3_init_5, dX3_init_8, dX3_init_9, dX3_init_12, fT_3_12, dX3_init_15, dX3_init_16, dX3_init_19, dX3_init_20, dX3_init_23, fT_3_21, dX3_init_26, dX3_init_27, dX3_init_29, dX3_init_31, fT_3_25, dX3_init_34, dX3_init_35, dX3_init_37, dX3_init_39, fT_3_29, dX3_init_42, dX3_init_43, dX3_init_46, dX3_init_48, fT_3_33, dX3_init_51]
  refine hG.callI dX3_init_9 mi_3_11 [] [.ref n, .ref S] (c6_init l X (d - 1) sa0 sb0 sc0 sd0 (n + 1) n N0.self (by omega) (by omega)) (by omega) rfl (by decide) (by simp [Value.category]) rfl ?_
  rintro r M' ⟨rfl, K0⟩
  obtain ⟨sh1, mI1, mL1, mU1, n1⟩ := M'
  have K0 := K0.base (fun a ha => N0.2.1 a ha) (fun a k ha => N0.2.2.1 a k ha)
  have B1 := h.obj (by decide) K0 0
  have q1 : sh1 S = some (.inl 3) := B1.s (by decide) rfl
  refine hG.run [15] 20 ?_
  simp [wp, stepI, ln, jmp, cmpI, Value.category, rd, tyF, va_rf, st1, st2, clr, isLg, CB, inx_0, inx_1, inx_2, inx_3, inx_4, inx_5, bI_0, bI_1, bI_ok, fin3, tyX3, entL, q0, q1, okv, wr, finF, clT, TX3, xS, dX3_init_0, dX3_init_1, dX3_init_4, dX3_init_5, dX3_init_8, dX3_init_9, dX3_init_12, fT_3_12, dX3_init_15, dX3_init_16, dX3_init_19, dX3_init_20, dX3_init_23, fT_3_21, dX3_init_26, dX3_init_27, dX3_init_29, dX3_init_31, fT_3_25, dX3_init_34, dX3_init_35, dX3_init_37, dX3_init_39, fT_3_29, dX3_init_42, dX3_init_43, dX3_init_46, dX3_init_48, fT_3_33, dX3_init_51]
  generalize up2 mU1 S 0 (some n) = mR1 at B1 ⊢
  have hn1 : n1 = S + 13 := B1.1
  refine hG.run [16] 20 ?_
  simp [wp, stepI, ln, jmp, cmpI, Value.category, rd, tyF, va_rf, st1, st2, clr, isLg, CB, inx_0, inx_1, inx_2, inx_3, inx_4, inx_5, bI_0, bI_1, bI_ok, fin3, tyX3, entL, q0, q1, okv, wr, finF, clT, TX3, xS, dX3_init_0, dX3_init_1, dX3_init_4, dX3_init_5, dX3_init_8, dX3_init_9, dX3_init_12, fT_3_12, dX3_init_15, dX3_init_16, dX3_init_19, dX3_init_20, dX3_init_23, fT_3_21, dX3_init_26, dX3_init_27, dX3_init_29, dX3_init_31, fT_3_25, dX3_init_34, dX3_init_35, dX3_init_37, dX3_init_39, fT_3_29, dX3_init_42, dX3_init_43, dX3_init_46, dX3_init_48, fT_3_33, dX3_init_51]
  refine hG.new dX3_init_16 (ci := 8) rfl (by decide) wk_3_18 wn_8 wi_8 (by show n1 < 1000000000; omega) ?_
  have N1 := Kt.new (sh1, mI1, mL1, mR1, n1) 8
  have w1 : mkM (sh1, mI1, mL1, mR1, n1) (.inl 8) = (upS sh1 n1 (.inl 8), up0 mI1 n1 0, up0 mL1 n1 0, up0 mR1 n1 none, n1 + 1) := rfl
  rw [w1] at N1 ⊢
  generalize upS sh1 n1 (.inl 8) = sa1 at N1 ⊢
  generalize up0 mI1 n1 0 = sb1 at N1 ⊢
  generalize up0 mL1 n1 0 = sc1 at N1 ⊢
  generalize up0 mR1 n1 none = sd1 at N1 ⊢
  refine hG.run [20] 20 ?_
  simp [wp, stepI, ln, jmp, cmpI, Value.category, rd, tyF, va_rf, st1, st2, clr, isLg, CB, inx_0, inx_1, inx_2, inx_3, inx_4, inx_5, bI_0, bI_1, bI_ok, fin3, tyX3, entL, q0, q1, okv, wr, finF, clT, TX3, xS, dX3_init_0, dX3_init_1, dX3_init_4, dX3_init_5, dX3_init_8, dX3_init_9, dX3_init_12, fT_3_12, dX3_init_15, dX3_init_16, dX3_init_19, dX3_init_20, dX3_init_23, fT_3_21, dX3_init_26, dX3_init_27, dX3_init_29, dX3_init_31, fT_3_25, dX3_init_34, dX3_init_35, dX3_init_37, dX3_init_39, fT_3_29, dX3_init_42, dX3_init_43, dX3_init_46, dX3_init_48, fT_3_33, dX3_init_51]
  refine hG.callI dX3_init_20 mi_3_20 [] [.ref n1, .ref S] (c8_init l X (d - 1) sa1 sb1 sc1 sd1 (n1 + 1) n1 N1.self (by omega) (by omega)) (by omega) rfl (by decide) (by simp [Value.category]) rfl ?_
  rintro r M' ⟨rfl, K1⟩
  obtain ⟨sh2, mI2, mL2, mU2, n2⟩ := M'
  have K1 := K1.base (fun a ha => N1.2.1 a ha) (fun a k ha => N1.2.2.1 a k ha)
  have B2 := B1.obj (by decide) K1 1
  have q2 : sh2 S = some (.inl 3) := B2.s (by decide) rfl
  refine hG.run [26] 20 ?_
  simp [wp, stepI, ln, jmp, cmpI, Value.category, rd, tyF, va_rf, st1, st2, clr, isLg, CB, inx_0, inx_1, inx_2, inx_3, inx_4, inx_5, bI_0, bI_1, bI_ok, fin3, tyX3, entL, q0, q2, okv, wr, finF, clT, TX3, xS, dX3_init_0, dX3_init_1, dX3_init_4, dX3_init_5, dX3_init_8, dX3_init_9, dX3_init_12, fT_3_12, dX3_init_15, dX3_init_16, dX3_init_19, dX3_init_20, dX3_init_23, fT_3_21, dX3_init_26, dX3_init_27, dX3_init_29, dX3_init_31, fT_3_25, dX3_init_34, dX3_init_35, dX3_init_37, dX3_init_39, fT_3_29, dX3_init_42, dX3_init_43, dX3_init_46, dX3_init_48, fT_3_33, dX3_init_51]
  generalize up2 mU2 S 1 (some n1) = mR2 at B2 ⊢
  have hn2 : n2 = S + 15 := B2.1
  refine hG.run [29] 20 ?_
  simp [wp, stepI, ln, jmp, cmpI, Value.category, rd, tyF, va_rf, st1, st2, clr, isLg, CB, inx_0, inx_1, inx_2, inx_3, inx_4, inx_5, bI_0, bI_1, bI_ok, fin3, tyX3, entL, q0, q2, okv, wr, finF, clT, TX3, xS, dX3_init_0, dX3_init_1, dX3_init_4, dX3_init_5, dX3_init_8, dX3_init_9, dX3_init_12, fT_3_12, dX3_init_15, dX3_init_16, dX3_init_19, dX3_init_20, dX3_init_23, fT_3_21, dX3_init_26, dX3_init_27, dX3_init_29, dX3_init_31, fT_3_25, dX3_init_34, dX3_init_35, dX3_init_37, dX3_init_39, fT_3_29, dX3_init_42, dX3_init_43, dX3_init_46, dX3_init_48, fT_3_33, dX3_init_51]
  refine hG.newa dX3_init_29 rfl (Or.inr (Or.inl rfl)) wa_long (N := 10) (by decide) (by decide) (by decide) (by show n2 < 1000000000; omega) ?_
  show G _ _ 31 _ _ (upS sh2 n2 (.inr (.long, 10)), up0 mI2 n2 0, up0 mL2 n2 0, up0 mR2 n2 none, n2 + 1)
  have B3 := B2.arr (by decide) 2 .long 10
  have q3 : upS sh2 n2 (.inr (.long, 10)) S = some (.inl 3) := B3.s (by decide) rfl
  refine hG.run [34] 20 ?_
  simp [wp, stepI, ln, jmp, cmpI, Value.category, rd, tyF, va_rf, st1, st2, clr, isLg, CB, inx_0, inx_1, inx_2, inx_3, inx_4, inx_5, bI_0, bI_1, bI_ok, fin3, tyX3, entL, q0, q3, okv, wr, finF, clT, TX3, xS, dX3_init_0, dX3_init_1, dX3_init_4, dX3_init_5, dX3_init_8, dX3_init_9, dX3_init_12, fT_3_12, dX3_init_15, dX3_init_16, dX3_init_19, dX3_init_20, dX3_init_23, fT_3_21, dX3_init_26, dX3_init_27, dX3_init_29, dX3_init_31, fT_3_25, dX3_init_34, dX3_init_35, dX3_init_37, dX3_init_39, fT_3_29, dX3_init_42, dX3_init_43, dX3_init_46, dX3_init_48, fT_3_33, dX3_init_51]
  generalize up0 mI2 n2 0 = mI3 at B3 ⊢
  generalize upS sh2 n2 (.inr (.long, 10)) = sh3 at B3 q3 ⊢
  generalize up0 mL2 n2 0 = mL3 at B3 ⊢
  generalize up2 (up0 mR2 n2 none) S 2 (some n2) = mR3 at B3 ⊢
  have hn3 : n2 + 1 = S + 16 := B3.1
  generalize n2 + 1 = n3 at B3 hn3 ⊢
  refine hG.run [37] 20 ?_
  simp [wp, stepI, ln, jmp, cmpI, Value.category, rd, tyF, va_rf, st1, st2, clr, isLg, CB, inx_0, inx_1, inx_2, inx_3, inx_4, inx_5, bI_0, bI_1, bI_ok, fin3, tyX3, entL, q0, q3, okv, wr, finF, clT, TX3, xS, dX3_init_0, dX3_init_1, dX3_init_4, dX3_init_5, dX3_init_8, dX3_init_9, dX3_init_12, fT_3_12, dX3_init_15, dX3_init_16, dX3_init_19, dX3_init_20, dX3_init_23, fT_3_21, dX3_init_26, dX3_init_27, dX3_init_29, dX3_init_31, fT_3_25, dX3_init_34, dX3_init_35, dX3_init_37, dX3_init_39, fT_3_29, dX3_init_42, dX3_init_43, dX3_init_46, dX3_init_48, fT_3_33, dX3_init_51]
  refine hG.newa dX3_init_37 rfl (Or.inl rfl) wa_int (N := 10) (by decide) (by decide) (by decide) (by show n3 < 1000000000; omega) ?_
  show G _ _ 39 _ _ (upS sh3 n3 (.inr (.int, 10)), up0 mI3 n3 0, up0 mL3 n3 0, up0 mR3 n3 none, n3 + 1)
  have B4 := B3.arr (by decide) 3 .int 10
  have q4 : upS sh3 n3 (.inr (.int, 10)) S = some (.inl 3) := B4.s (by decide) rfl
  refine hG.run [42] 20 ?_
  simp [wp, stepI, ln, jmp, cmpI, Value.category, rd, tyF, va_rf, st1, st2, clr, isLg, CB, inx_0, inx_1, inx_2, inx_3, inx_4, inx_5, bI_0, bI_1, bI_ok, fin3, tyX3, entL, q0, q4, okv, wr, finF, clT, TX3, xS, dX3_init_0, dX3_init_1, dX3_init_4, dX3_init_5, dX3_init_8, dX3_init_9, dX3_init_12, fT_3_12, dX3_init_15, dX3_init_16, dX3_init_19, dX3_init_20, dX3_init_23, fT_3_21, dX3_init_26, dX3_init_27, dX3_init_29, dX3_init_31, fT_3_25, dX3_init_34, dX3_init_35, dX3_init_37, dX3_init_39, fT_3_29, dX3_init_42, dX3_init_43, dX3_init_46, dX3_init_48, fT_3_33, dX3_init_51]
  generalize up0 mI3 n3 0 = mI4 at B4 ⊢
  generalize upS sh3 n3 (.inr (.int, 10)) = sh4 at B4 q4 ⊢
  generalize up0 mL3 n3 0 = mL4 at B4 ⊢
  generalize up2 (up0 mR3 n3 none) S 3 (some n3) = mR4 at B4 ⊢
  have hn4 : n3 + 1 = S + 17 := B4.1
  generalize n3 + 1 = n4 at B4 hn4 ⊢
  refine hG.run [46] 20 ?_
  simp [wp, stepI, ln, jmp, cmpI, Value.category, rd, tyF, va_rf, st1, st2, clr, isLg, CB, inx_0, inx_1, inx_2, inx_3, inx_4, inx_5, bI_0, bI_1, bI_ok, fin3, tyX3, entL, q0, q4, okv, wr, finF, clT, TX3, xS, dX3_init_0, dX3_init_1, dX3_init_4, dX3_init_5, dX3_init_8, dX3_init_9, dX3_init_12, fT_3_12, dX3_init_15, dX3_init_16, dX3_init_19, dX3_init_20, dX3_init_23, fT_3_21, dX3_init_26, dX3_init_27, dX3_init_29, dX3_init_31, fT_3_25, dX3_init_34, dX3_init_35, dX3_init_37, dX3_init_39, fT_3_29, dX3_init_42, dX3_init_43, dX3_init_46, dX3_init_48, fT_3_33, dX3_init_51]
  refine hG.newa dX3_init_46 rfl (Or.inl rfl) wa_int (N := 1000) (by decide) (by decide) (by decide) (by show n4 < 1000000000; omega) ?_
  show G _ _ 48 _ _ (upS sh4 n4 (.inr (.int, 1000)), up0 mI4 n4 0, up0 mL4 n4 0, up0 mR4 n4 none, n4 + 1)
  have B5 := B4.arr (by decide) 4 .int 1000
  have q5 : upS sh4 n4 (.inr (.int, 1000)) S = some (.inl 3) := B5.s (by decide) rfl
  refine hG.run [51] 20 ?_
  simp [wp, stepI, ln, jmp, cmpI, Value.category, rd, tyF, va_rf, st1, st2, clr, isLg, CB, inx_0, inx_1, inx_2, inx_3, inx_4, inx_5, bI_0, bI_1, bI_ok, fin3, tyX3, entL, q0, q5, okv, wr, finF, clT, TX3, xS, dX3_init_0, dX3_init_1, dX3_init_4, dX3_init_5, dX3_init_8, dX3_init_9, dX3_init_12, fT_3_12, dX3_init_15, dX3_init_16, dX3_init_19, dX3_init_20, dX3_init_23, fT_3_21, dX3_init_26, dX3_init_27, dX3_init_29, dX3_init_31, fT_3_25, dX3_init_34, dX3_init_35, dX3_init_37, dX3_init_39, fT_3_29, dX3_init_42, dX3_init_43, dX3_init_46, dX3_init_48, fT_3_33, dX3_init_51]
  generalize up0 mI4 n4 0 = mI5 at B5 ⊢
  generalize upS sh4 n4 (.inr (.int, 1000)) = sh5 at B5 q5 ⊢
  generalize up0 mL4 n4 0 = mL5 at B5 ⊢
  generalize up2 (up0 mR4 n4 none) S 4 (some n4) = mR5 at B5 ⊢
  have hn5 : n4 + 1 = S + 18 := B5.1
  generalize n4 + 1 = n5 at B5 hn5 ⊢
  refine hG.run [] 20 ?_
  simp [wp, stepI, ln, jmp, cmpI, Value.category, rd, tyF, va_rf, st1, st2, clr, isLg, CB, inx_0, inx_1, inx_2, inx_3, inx_4, inx_5, bI_0, bI_1, bI_ok, fin3, tyX3, entL, q0, dX3_init_0, dX3_init_1, dX3_init_4, dX3_init_5, dX3_init_8, dX3_init_9, dX3_init_12, fT_3_12, dX3_init_15, dX3_init_16, dX3_init_19, dX3_init_20, dX3_init_23, fT_3_21, dX3_init_26, dX3_init_27, dX3_init_29, dX3_init_31, fT_3_25, dX3_init_34, dX3_init_35, dX3_init_37, dX3_init_39, fT_3_29, dX3_init_42, dX3_init_43, dX3_init_46, dX3_init_48, fT_3_33, dX3_init_51]
  exact hP _ _ ⟨rfl, B5⟩
def rV5 : RM := (rmA (rmO (rmO (rmN 5) 0 rV6) 1 rV2) 2 .int 10)
set_option maxHeartbeats 1000000 in
set_option maxRecDepth 100000 in
theorem c5_init (l : Launch) (X : Cx) (d : Nat) (sh : Nat → Option Sh) (mI : Nat → Nat → Int32) (mL : Nat → Nat → Int64) (mR : Nat → Nat → Option Nat) (n : Nat) (S : Nat) (h : Kt (sh, mI, mL, mR, n) S (rmN 5) (sh, mI, mL, mR, n)) (hS : S < 30000000) (hd : 3 ≤ d) : Cn l X yX5_init cX5_init 1 none d [.ref S] (sh, mI, mL, mR, n) (fun r M' => r = none ∧ Kt (sh, mI, mL, mR, n) S rV5 M') 17 330 := by
  refine Cn.runA 5 true (by decide) rfl (fun _ => rfl) (by simp [entA, Value.category]) ?_
  intro P G hP hG
  have xS : S < 1000000000 := by omega
  have hn0 : n = S + 1 := h.1
  have q0 : sh S = some (.inl 5) := h.s (by decide) rfl
  refine hG.run [1] 20 ?_
  simp [wp, stepI, ln, jmp, cmpI, Value.category, rd, tyF, va_rf, st1, st2, clr, isLg, CB, inx_0, inx_1, inx_2, inx_3, inx_4, inx_5, bI_0, bI_1, bI_ok, fin3, tyX5, entL, q0, dX5_init_0, dX5_init_1, dX5_init_4, dX5_init_5, dX5_init_8, dX5_init_9, dX5_init_12, fT_5_12, dX5_init_15, dX5_init_16, dX5_init_19, dX5_init_20, dX5_init_23, fT_5_21, dX5_init_26, dX5_init_27, dX5_init_29, dX5_init_31, fT_5_25, dX5_init_34]
  refine hG.objI dX5_init_1 ml_5_3 w_oi.1 w_oi.2 (by omega) (by simp [Value.category]) ?_
  refine hG.run [5] 20 ?_
  simp [wp, stepI, ln, jmp, cmpI, Value.category, rd, tyF, va_rf, st1, st2, clr, isLg, CB, inx_0, inx_1, inx_2, inx_3, inx_4, inx_5, bI_0, bI_1, bI_ok, fin3, tyX5, entL, q0, q0, okv, wr, finF, clT, TX5, xS, dX5_init_0, dX5_init_1, dX5_init_4, dX5_init_5, dX5_init_8, dX5_init_9, dX5_init_12, fT_5_12, dX5_init_15, dX5_init_16, dX5_init_19, dX5_init_20, dX5_init_23, fT_5_21, dX5_init_26, dX5_init_27, dX5_init_29, dX5_init_31, fT_5_25, dX5_init_34]
  refine hG.new dX5_init_5 (ci := 6) rfl (by decide) wk_5_9 wn_6 wi_6 (by show n < 1000000000; omega) ?_
  have N0 := Kt.new (sh, mI, mL, mR, n) 6
  have w0 : mkM (sh, mI, mL, mR, n) (.inl 6) = (upS sh n (.inl 6), up0 mI n 0, up0 mL n 0, up0 mR n none, n + 1) := rfl
  rw [w0] at N0 ⊢
  generalize upS sh n (.inl 6) = sa0 at N0 ⊢
  generalize up0 mI n 0 = sb0 at N0 ⊢
  generalize up0 mL n 0 = sc0 at N0 ⊢
  generalize up0 mR n none = sd0 at N0 ⊢
  refine hG.run [9] 20 ?_
  simp [wp, stepI, ln, jmp, cmpI, Value.category, rd, tyF, va_rf, st1, st2, clr, isLg, CB, inx_0, inx_1, inx_2, inx_3, inx_4, inx_5, bI_0, bI_1, bI_ok, fin3, tyX5, entL, q0, q0, okv, wr, finF, clT, TX5, xS, dX5_init_0, dX5_init_1, dX5_init_4, dX5_init_5, dX5_init_8, dX5_init_9, dX5_init_12, fT_5_12, dX5_init_15, dX5_init_16, dX5_init_19, dX5_init_20, dX5_init_23, fT_5_21, dX5_init_26, dX5_init_27, dX5_init_29, dX5_init_31, fT_5_25, dX5_init_34]
  refine hG.callI dX5_init_9 mi_5_11 [] [.ref n, .ref S] (c6_init l X (d - 1) sa0 sb0 sc0 sd0 (n + 1) n N0.self (by omega) (by omega)) (by omega) rfl (by decide) (by simp [Value.category]) rfl ?_
  rintro r M' ⟨rfl, K0⟩
  obtain ⟨sh1, mI1, mL1, mU1, n1⟩ := M'
  have K0 := K0.base (fun a ha => N0.2.1 a ha) (fun a k ha => N0.2.2.1 a k ha)
  have B1 := h.obj (by decide) K0 0
  have q1 : sh1 S = some (.inl 5) := B1.s (by decide) rfl
  refine hG.run [15] 20 ?_
  simp [wp, stepI, ln, jmp, cmpI, Value.category, rd, tyF, va_rf, st1, st2, clr, isLg, CB, inx_0, inx_1, inx_2, inx_3, inx_4, inx_5, bI_0, bI_1, bI_ok, fin3, tyX5, entL, q0, q1, okv, wr, finF, clT, TX5, xS, dX5_init_0, dX5_init_1, dX5_init_4, dX5_init_5, dX5_init_8, dX5_init_9, dX5_init_12, fT_5_12, dX5_init_15, dX5_init_16, dX5_init_19, dX5_init_20, dX5_init_23, fT_5_21, dX5_init_26, dX5_init_27, dX5_init_29, dX5_init_31, fT_5_25, dX5_init_34]
  generalize up2 mU1 S 0 (some n) = mR1 at B1 ⊢
  have hn1 : n1 = S + 13 := B1.1
  refine hG.run [16] 20 ?_
  simp [wp, stepI, ln, jmp, cmpI, Value.category, rd, tyF, va_rf, st1, st2, clr, isLg, CB, inx_0, inx_1, inx_2, inx_3, inx_4, inx_5, bI_0, bI_1, bI_ok, fin3, tyX5, entL, q0, q1, okv, wr, finF, clT, TX5, xS, dX5_init_0, dX5_init_1, dX5_init_4, dX5_init_5, dX5_init_8, dX5_init_9, dX5_init_12, fT_5_12, dX5_init_15, dX5_init_16, dX5_init_19, dX5_init_20, dX5_init_23, fT_5_21, dX5_init_26, dX5_init_27, dX5_init_29, dX5_init_31, fT_5_25, dX5_init_34]
  refine hG.new dX5_init_16 (ci := 2) rfl (by decide) wk_5_18 wn_2 wi_2 (by show n1 < 1000000000; omega) ?_
  have N1 := Kt.new (sh1, mI1, mL1, mR1, n1) 2
  have w1 : mkM (sh1, mI1, mL1, mR1, n1) (.inl 2) = (upS sh1 n1 (.inl 2), up0 mI1 n1 0, up0 mL1 n1 0, up0 mR1 n1 none, n1 + 1) := rfl
  rw [w1] at N1 ⊢
  generalize upS sh1 n1 (.inl 2) = sa1 at N1 ⊢
  generalize up0 mI1 n1 0 = sb1 at N1 ⊢
  generalize up0 mL1 n1 0 = sc1 at N1 ⊢
  generalize up0 mR1 n1 none = sd1 at N1 ⊢
  refine hG.run [20] 20 ?_
  simp [wp, stepI, ln, jmp, cmpI, Value.category, rd, tyF, va_rf, st1, st2, clr, isLg, CB, inx_0, inx_1, inx_2, inx_3, inx_4, inx_5, bI_0, bI_1, bI_ok, fin3, tyX5, entL, q0, q1, okv, wr, finF, clT, TX5, xS, dX5_init_0, dX5_init_1, dX5_init_4, dX5_init_5, dX5_init_8, dX5_init_9, dX5_init_12, fT_5_12, dX5_init_15, dX5_init_16, dX5_init_19, dX5_init_20, dX5_init_23, fT_5_21, dX5_init_26, dX5_init_27, dX5_init_29, dX5_init_31, fT_5_25, dX5_init_34]
  refine hG.callI dX5_init_20 mi_5_20 [] [.ref n1, .ref S] (c2_init l X (d - 1) sa1 sb1 sc1 sd1 (n1 + 1) n1 N1.self (by omega) (by omega)) (by omega) rfl (by decide) (by simp [Value.category]) rfl ?_
  rintro r M' ⟨rfl, K1⟩
  obtain ⟨sh2, mI2, mL2, mU2, n2⟩ := M'
  have K1 := K1.base (fun a ha => N1.2.1 a ha) (fun a k ha => N1.2.2.1 a k ha)
  have B2 := B1.obj (by decide) K1 1
  have q2 : sh2 S = some (.inl 5) := B2.s (by decide) rfl
  refine hG.run [26] 20 ?_
  simp [wp, stepI, ln, jmp, cmpI, Value.category, rd, tyF, va_rf, st1, st2, clr, isLg, CB, inx_0, inx_1, inx_2, inx_3, inx_4, inx_5, bI_0, bI_1, bI_ok, fin3, tyX5, entL, q0, q2, okv, wr, finF, clT, TX5, xS, dX5_init_0, dX5_init_1, dX5_init_4, dX5_init_5, dX5_init_8, dX5_init_9, dX5_init_12, fT_5_12, dX5_init_15, dX5_init_16, dX5_init_19, dX5_init_20, dX5_init_23, fT_5_21, dX5_init_26, dX5_init_27, dX5_init_29, dX5_init_31, fT_5_25, dX5_init_34]
  generalize up2 mU2 S 1 (some n1) = mR2 at B2 ⊢
  have hn2 : n2 = S + 17 := B2.1
  refine hG.run [29] 20 ?_
  simp [wp, stepI, ln, jmp, cmpI, Value.category, rd, tyF, va_rf, st1, st2, clr, isLg, CB, inx_0, inx_1, inx_2, inx_3, inx_4, inx_5, bI_0, bI_1, bI_ok, fin3, tyX5, entL, q0, q2, okv, wr, finF, clT, TX5, xS, dX5_init_0, dX5_init_1, dX5_init_4, dX5_init_5, dX5_init_8, dX5_init_9, dX5_init_12, fT_5_12, dX5_init_15, dX5_init_16, dX5_init_19, dX5_init_20, dX5_init_23, fT_5_21, dX5_init_26, dX5_init_27, dX5_init_29, dX5_init_31, fT_5_25, dX5_init_34]
  refine hG.newa dX5_init_29 rfl (Or.inl rfl) wa_int (N := 10) (by decide) (by decide) (by decide) (by show n2 < 1000000000; omega) ?_
  show G _ _ 31 _ _ (upS sh2 n2 (.inr (.int, 10)), up0 mI2 n2 0, up0 mL2 n2 0, up0 mR2 n2 none, n2 + 1)
  have B3 := B2.arr (by decide) 2 .int 10
  have q3 : upS sh2 n2 (.inr (.int, 10)) S = some (.inl 5) := B3.s (by decide) rfl
  refine hG.run [34] 20 ?_
  simp [wp, stepI, ln, jmp, cmpI, Value.category, rd, tyF, va_rf, st1, st2, clr, isLg, CB, inx_0, inx_1, inx_2, inx_3, inx_4, inx_5, bI_0, bI_1, bI_ok, fin3, tyX5, entL, q0, q3, okv, wr, finF, clT, TX5, xS, dX5_init_0, dX5_init_1, dX5_init_4, dX5_init_5, dX5_init_8, dX5_init_9, dX5_init_12, fT_5_12, dX5_init_15, dX5_init_16, dX5_init_19, dX5_init_20, dX5_init_23, fT_5_21, dX5_init_26, dX5_init_27, dX5_init_29, dX5_init_31, fT_5_25, dX5_init_34]
  generalize up0 mI2 n2 0 = mI3 at B3 ⊢
  generalize upS sh2 n2 (.inr (.int, 10)) = sh3 at B3 q3 ⊢
  generalize up0 mL2 n2 0 = mL3 at B3 ⊢
  generalize up2 (up0 mR2 n2 none) S 2 (some n2) = mR3 at B3 ⊢
  have hn3 : n2 + 1 = S + 18 := B3.1
  generalize n2 + 1 = n3 at B3 hn3 ⊢
  refine hG.run [] 20 ?_
  simp [wp, stepI, ln, jmp, cmpI, Value.category, rd, tyF, va_rf, st1, st2, clr, isLg, CB, inx_0, inx_1, inx_2, inx_3, inx_4, inx_5, bI_0, bI_1, bI_ok, fin3, tyX5, entL, q0, dX5_init_0, dX5_init_1, dX5_init_4, dX5_init_5, dX5_init_8, dX5_init_9, dX5_init_12, fT_5_12, dX5_init_15, dX5_init_16, dX5_init_19, dX5_init_20, dX5_init_23, fT_5_21, dX5_init_26, dX5_init_27, dX5_init_29, dX5_init_31, fT_5_25, dX5_init_34]
  exact hP _ _ ⟨rfl, B3⟩
