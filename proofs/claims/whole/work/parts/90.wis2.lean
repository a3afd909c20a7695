/-! what one wishes; who would rather -/
theorem cl999 (v : Int32) : (if nI 0 < (if v < nI 999 then v else nI 999) then (if v < nI 999 then v else nI 999) else nI 0) = (if v < nI 0 then nI 0 else if v < nI 999 then v else nI 999) := by
  have n0 : nI 0 < nI 999 := by decide +kernel
  by_cases h1 : v < nI 999
  · rw [if_pos h1]
    by_cases h2 : v < nI 0
    · rw [if_pos h2, if_neg (fun z => Int32.lt_irrefl (Int32.lt_trans z h2))]
    · rw [if_neg h2]
      by_cases h3 : nI 0 < v
      · rw [if_pos h3]
      · rw [if_neg h3]
        exact (Int32.le_antisymm (Int32.not_lt.mp h3) (Int32.not_lt.mp h2)).symm
  · rw [if_neg h1, if_pos n0, if_neg (fun z => h1 (Int32.lt_trans z n0))]
set_option maxHeartbeats 4000000 in
set_option maxRecDepth 100000 in
theorem c9_wishOf (l : Launch) (X : Cx) (d : Nat) (sh : Nat → Option Sh) (mI : Nat → Nat → Int32) (mL : Nat → Nat → Int64) (mR : Nat → Nat → Option Nat) (n : Nat) (W C Q Wc wl : Nat) (hO : OL sh mR W 9 ob9) (hC : OL sh mR C 4 ob4) (hQ : OL sh mR Q 2 ob2) (hwc : mR C 7 = some Wc) (hWc : sh Wc = some (.inr (.int, wl))) (hwl : wl ≤ 1000) (hWcl : Wc < 1000000000) (d1 : W + 4 < C ∨ C + 5 < W) (d2 : W + 4 < Q ∨ Q + 3 < W) (d3 : W + 4 < Wc ∨ Wc < W) (w : Nat → Int32) (hw : ∀ i, i < wl → mI Wc i = w i) (np : Nat) (hp : ScP mI C np) (sl : Nat) (kd : Nat → Nat) (hK : ScK mI C np sl kd) (lk : Nat → Nat → Nat) (hl : ScL mI C np lk) (ta : Nat → Nat) (hta : ∀ p, p < np → mI (C + 2) p = nI (ta p)) (fits : Bool) (A : Nat → Nat) (hA : LaA mI Q np fits A) (a b : Nat) (ha : a < np) (hb : b < np) (v : Int32) (hv : ∀ st, (evN (facV (nI (lk a b)) (nI (ta a)) (nI (ta b)) (fits && (A a).testBit b) (fits && (A b).testBit a)) w (0, st) wl).2 0 = v) (hd : 3 ≤ d) : Cn l X yX9_wishOf cX9_wishOf 8 (some .int) d [.ref W, .ref C, .ref Q, .int (nI a), .int (nI b)] (sh, mI, mL, mR, n) (fun r M' => r = some (.int (kndA (kd a) (lk a b) (fits && (A a).testBit b) v)) ∧ ∃ mI', M' = (sh, mI', mL, mR, n) ∧ ∀ x k, x ≠ W + 1 → mI' x k = mI x k) 0 0 := by
  refine Cn.run 9 false (by decide) rfl (by decide) (by simp [entA, Value.category]) ?_
  intro P G hP hG
  have q0 := hO.1
  have u0 := hC.1
  have t0 := hQ.1
  have q_kind := hC.2.2 (0, 1, .int, 10) (by decide)
  dsimp only at q_kind
  have hnp := hp.2
  refine hG.run [] 60 ?_
  simp [wp, stepI, ln, jmp, cmpI, Value.category, rd, tyF, va_rf, st1, st2, clr, isLg, CB, inx_0, inx_1, inx_2, inx_3, inx_4, inx_5, bI_0, bI_1, bI_ok, fin3, tyX9, entL, q0, dX9_wishOf_0, dX9_wishOf_1, dX9_wishOf_4, dX9_wishOf_5, dX9_wishOf_6, dX9_wishOf_7, dX9_wishOf_8, dX9_wishOf_10, dX9_wishOf_13, dX9_wishOf_16, dX9_wishOf_19, dX9_wishOf_21, dX9_wishOf_22, dX9_wishOf_24, dX9_wishOf_25, dX9_wishOf_28, dX9_wishOf_30, dX9_wishOf_31, fT_9_71, dX9_wishOf_34, dX9_wishOf_35, dX9_wishOf_36, dX9_wishOf_38, dX9_wishOf_40, dX9_wishOf_41, dX9_wishOf_44, dX9_wishOf_46, dX9_wishOf_49, dX9_wishOf_50, dX9_wishOf_51, dX9_wishOf_53, dX9_wishOf_54, dX9_wishOf_57, dX9_wishOf_58, dX9_wishOf_59, dX9_wishOf_61, dX9_wishOf_64, dX9_wishOf_67, dX9_wishOf_70, dX9_wishOf_72, dX9_wishOf_73, dX9_wishOf_76, dX9_wishOf_78, dX9_wishOf_81, dX9_wishOf_84, dX9_wishOf_87, dX9_wishOf_89, dX9_wishOf_92]
  simp only [li]
  refine hG.callV dX9_wishOf_10 mv_9_59 [.ref C, .ref Q, .int (nI a), .int (nI b)] [.int (nI 999), .int (nI 0)] (c9_lawOf l X (d - 1) sh mI mL mR n W C Q Wc wl hO hC hQ hwc hWc hwl hWcl d1 d2 d3 w hw np hp lk hl ta hta fits A hA a b ha hb v hv (by omega)) ⟨_, rfl, rfl⟩ q0 (by omega) rfl (by decide) (by simp [Value.category]) rfl ?_
  rintro r M' ⟨rfl, m1, rfl, g1⟩
  refine hG.mmin dX9_wishOf_13 ms_9_35.link [.int (nI 0)] (by omega) (by simp [Value.category]) ?_
  refine hG.mmax dX9_wishOf_16 ms_9_62.link [] (by omega) (by simp [Value.category]) ?_
  rw [cl999]
  have kd1 : m1 (C + 1) a = nI (kd a) := (g1 _ _ (by omega)).trans (hK.2.2 a ha).1
  have kdl := (hK.2.2 a ha).2
  have ll := (hl a b ha hb).2
  unfold kndA at hP
  generalize (if v < nI 0 then nI 0 else if v < nI 999 then v else nI 999) = v0 at hP ⊢
  refine hG.run [] 60 ?_
  simp [wp, stepI, ln, jmp, cmpI, Value.category, rd, tyF, va_rf, st1, st2, clr, isLg, CB, inx_0, inx_1, inx_2, inx_3, inx_4, inx_5, bI_0, bI_1, bI_ok, fin3, tyX9, entL, q0, dX9_wishOf_0, dX9_wishOf_1, dX9_wishOf_4, dX9_wishOf_5, dX9_wishOf_6, dX9_wishOf_7, dX9_wishOf_8, dX9_wishOf_10, dX9_wishOf_13, dX9_wishOf_16, dX9_wishOf_19, dX9_wishOf_21, dX9_wishOf_22, dX9_wishOf_24, dX9_wishOf_25, dX9_wishOf_28, dX9_wishOf_30, dX9_wishOf_31, fT_9_71, dX9_wishOf_34, dX9_wishOf_35, dX9_wishOf_36, dX9_wishOf_38, dX9_wishOf_40, dX9_wishOf_41, dX9_wishOf_44, dX9_wishOf_46, dX9_wishOf_49, dX9_wishOf_50, dX9_wishOf_51, dX9_wishOf_53, dX9_wishOf_54, dX9_wishOf_57, dX9_wishOf_58, dX9_wishOf_59, dX9_wishOf_61, dX9_wishOf_64, dX9_wishOf_67, dX9_wishOf_70, dX9_wishOf_72, dX9_wishOf_73, dX9_wishOf_76, dX9_wishOf_78, dX9_wishOf_81, dX9_wishOf_84, dX9_wishOf_87, dX9_wishOf_89, dX9_wishOf_92]
  refine hG.callV dX9_wishOf_25 mv_9_65 [.int (nI b), .int (nI a)] [] (c2_isAbove l X (d - 1) sh m1 mL mR n Q hQ fits ((g1 _ _ (by omega)).trans hA.1) A np hnp (fun z p hp => ⟨(g1 _ _ (by omega)).trans (hA.2 z p hp).1, (hA.2 z p hp).2⟩) b a hb ha) ⟨_, rfl, rfl⟩ t0 (by omega) rfl (by decide) (by simp [Value.category]) rfl ?_
  rintro r M' ⟨rfl, rfl⟩
  generalize (fits && (A a).testBit b) = up at hP ⊢
  have res : ∀ y : Int32, (if kd a = 1 ∧ up = true then nI 0 else (fun w : Int32 => if w < nI 999 then w else nI 999) (v0 + (if kd a = 2 ∧ 0 < lk a b then nI 10 else if kd a = 4 ∧ up = true then nI 20 else nI 0))) = y → P (some (.int y)) (sh, m1, mL, mR, n) := fun y hy => hP _ _ ⟨by rw [hy], m1, rfl, g1⟩
  clear hP
  have g84 : ∀ y, ¬ (kd a = 1 ∧ up = true) → y = v0 + (if kd a = 2 ∧ 0 < lk a b then nI 10 else if kd a = 4 ∧ up = true then nI 20 else nI 0) → G 84 [some (.ref W), some (.ref C), some (.ref Q), some (.int (nI a)), some (.int (nI b)), some (.int y), some (.int (bI up)), some (.int (nI (kd a)))] [] (sh, m1, mL, mR, n) := fun y h1 h2 => by
    rw [if_neg h1, ← h2] at res
    refine hG.run [] 60 ?_
    simp [wp, stepI, ln, jmp, cmpI, Value.category, rd, tyF, va_rf, st1, st2, clr, isLg, CB, inx_0, inx_1, inx_2, inx_3, inx_4, inx_5, bI_0, bI_1, bI_ok, fin3, tyX9, entL, q0, dX9_wishOf_0, dX9_wishOf_1, dX9_wishOf_4, dX9_wishOf_5, dX9_wishOf_6, dX9_wishOf_7, dX9_wishOf_8, dX9_wishOf_10, dX9_wishOf_13, dX9_wishOf_16, dX9_wishOf_19, dX9_wishOf_21, dX9_wishOf_22, dX9_wishOf_24, dX9_wishOf_25, dX9_wishOf_28, dX9_wishOf_30, dX9_wishOf_31, fT_9_71, dX9_wishOf_34, dX9_wishOf_35, dX9_wishOf_36, dX9_wishOf_38, dX9_wishOf_40, dX9_wishOf_41, dX9_wishOf_44, dX9_wishOf_46, dX9_wishOf_49, dX9_wishOf_50, dX9_wishOf_51, dX9_wishOf_53, dX9_wishOf_54, dX9_wishOf_57, dX9_wishOf_58, dX9_wishOf_59, dX9_wishOf_61, dX9_wishOf_64, dX9_wishOf_67, dX9_wishOf_70, dX9_wishOf_72, dX9_wishOf_73, dX9_wishOf_76, dX9_wishOf_78, dX9_wishOf_81, dX9_wishOf_84, dX9_wishOf_87, dX9_wishOf_89, dX9_wishOf_92]
    simp only [li]
    refine hG.mmin dX9_wishOf_89 ms_9_35.link [] (by omega) (by simp [Value.category]) ?_
    refine hG.run [] 60 ?_
    simp [wp, stepI, ln, jmp, cmpI, Value.category, rd, tyF, va_rf, st1, st2, clr, isLg, CB, inx_0, inx_1, inx_2, inx_3, inx_4, inx_5, bI_0, bI_1, bI_ok, fin3, tyX9, entL, q0, dX9_wishOf_0, dX9_wishOf_1, dX9_wishOf_4, dX9_wishOf_5, dX9_wishOf_6, dX9_wishOf_7, dX9_wishOf_8, dX9_wishOf_10, dX9_wishOf_13, dX9_wishOf_16, dX9_wishOf_19, dX9_wishOf_21, dX9_wishOf_22, dX9_wishOf_24, dX9_wishOf_25, dX9_wishOf_28, dX9_wishOf_30, dX9_wishOf_31, fT_9_71, dX9_wishOf_34, dX9_wishOf_35, dX9_wishOf_36, dX9_wishOf_38, dX9_wishOf_40, dX9_wishOf_41, dX9_wishOf_44, dX9_wishOf_46, dX9_wishOf_49, dX9_wishOf_50, dX9_wishOf_51, dX9_wishOf_53, dX9_wishOf_54, dX9_wishOf_57, dX9_wishOf_58, dX9_wishOf_59, dX9_wishOf_61, dX9_wishOf_64, dX9_wishOf_67, dX9_wishOf_70, dX9_wishOf_72, dX9_wishOf_73, dX9_wishOf_76, dX9_wishOf_78, dX9_wishOf_81, dX9_wishOf_84, dX9_wishOf_87, dX9_wishOf_89, dX9_wishOf_92]
    exact res _ rfl
  have g70 : ∀ y, ¬ (kd a = 1 ∧ up = true) → y = v0 + (if kd a = 2 ∧ 0 < lk a b then nI 10 else nI 0) → G 70 [some (.ref W), some (.ref C), some (.ref Q), some (.int (nI a)), some (.int (nI b)), some (.int y), some (.int (bI up)), some (.int (nI (kd a)))] [] (sh, m1, mL, mR, n) := fun y h1 h2 => by
    have z0 : v0 + nI 0 = v0 := Int32.add_zero v0
    refine hG.run [84] 60 ?_
    simp [wp, stepI, ln, jmp, cmpI, Value.category, rd, tyF, va_rf, st1, st2, clr, isLg, CB, inx_0, inx_1, inx_2, inx_3, inx_4, inx_5, bI_0, bI_1, bI_ok, fin3, tyX9, entL, q0, dX9_wishOf_0, dX9_wishOf_1, dX9_wishOf_4, dX9_wishOf_5, dX9_wishOf_6, dX9_wishOf_7, dX9_wishOf_8, dX9_wishOf_10, dX9_wishOf_13, dX9_wishOf_16, dX9_wishOf_19, dX9_wishOf_21, dX9_wishOf_22, dX9_wishOf_24, dX9_wishOf_25, dX9_wishOf_28, dX9_wishOf_30, dX9_wishOf_31, fT_9_71, dX9_wishOf_34, dX9_wishOf_35, dX9_wishOf_36, dX9_wishOf_38, dX9_wishOf_40, dX9_wishOf_41, dX9_wishOf_44, dX9_wishOf_46, dX9_wishOf_49, dX9_wishOf_50, dX9_wishOf_51, dX9_wishOf_53, dX9_wishOf_54, dX9_wishOf_57, dX9_wishOf_58, dX9_wishOf_59, dX9_wishOf_61, dX9_wishOf_64, dX9_wishOf_67, dX9_wishOf_70, dX9_wishOf_72, dX9_wishOf_73, dX9_wishOf_76, dX9_wishOf_78, dX9_wishOf_81, dX9_wishOf_84, dX9_wishOf_87, dX9_wishOf_89, dX9_wishOf_92]
    simp (disch := omega) only [li, nI_add, nI_clamp, nI_ltI, nI_leI, nI_eq, inx_iff, a31, nI_1shl', nI_shr', div_bit, tb1, tb0, fa_or, fa_and, nI_not, pk_sub, nI_dec]
    refine ⟨fun z => g84 _ h1 ?_, fun z => ⟨fun z2 => g84 _ h1 ?_, fun z2 => g84 _ h1 ?_⟩⟩
    · rw [h2, if_neg (show ¬ (kd a = 4 ∧ up = true) from fun q => z q.1)]
    · rw [h2, if_neg (show ¬ (kd a = 4 ∧ up = true) from fun q => by rw [z2] at q; cases q.2)]
    · rw [h2, if_neg (show ¬ (kd a = 2 ∧ 0 < lk a b) from fun q => by omega), if_neg (show ¬ (kd a = 2 ∧ 0 < lk a b) from fun q => by omega), if_pos ⟨z, z2⟩, z0]
  have g51 : ¬ (kd a = 1 ∧ up = true) → G 51 [some (.ref W), some (.ref C), some (.ref Q), some (.int (nI a)), some (.int (nI b)), some (.int v0), some (.int (bI up)), some (.int (nI (kd a)))] [] (sh, m1, mL, mR, n) := fun h1 => by
    have z0 : v0 + nI 0 = v0 := Int32.add_zero v0
    refine hG.run [70] 60 ?_
    simp [wp, stepI, ln, jmp, cmpI, Value.category, rd, tyF, va_rf, st1, st2, clr, isLg, CB, inx_0, inx_1, inx_2, inx_3, inx_4, inx_5, bI_0, bI_1, bI_ok, fin3, tyX9, entL, q0, dX9_wishOf_0, dX9_wishOf_1, dX9_wishOf_4, dX9_wishOf_5, dX9_wishOf_6, dX9_wishOf_7, dX9_wishOf_8, dX9_wishOf_10, dX9_wishOf_13, dX9_wishOf_16, dX9_wishOf_19, dX9_wishOf_21, dX9_wishOf_22, dX9_wishOf_24, dX9_wishOf_25, dX9_wishOf_28, dX9_wishOf_30, dX9_wishOf_31, fT_9_71, dX9_wishOf_34, dX9_wishOf_35, dX9_wishOf_36, dX9_wishOf_38, dX9_wishOf_40, dX9_wishOf_41, dX9_wishOf_44, dX9_wishOf_46, dX9_wishOf_49, dX9_wishOf_50, dX9_wishOf_51, dX9_wishOf_53, dX9_wishOf_54, dX9_wishOf_57, dX9_wishOf_58, dX9_wishOf_59, dX9_wishOf_61, dX9_wishOf_64, dX9_wishOf_67, dX9_wishOf_70, dX9_wishOf_72, dX9_wishOf_73, dX9_wishOf_76, dX9_wishOf_78, dX9_wishOf_81, dX9_wishOf_84, dX9_wishOf_87, dX9_wishOf_89, dX9_wishOf_92]
    simp (disch := omega) only [li, nI_add, nI_clamp, nI_ltI, nI_leI, nI_eq, inx_iff, a31, nI_1shl', nI_shr', div_bit, tb1, tb0, fa_or, fa_and, nI_not, pk_sub, nI_dec]
    refine ⟨fun z => g70 _ h1 ?_, fun z => ?_⟩
    · rw [if_neg (show ¬ (kd a = 2 ∧ 0 < lk a b) from fun q => z q.1), z0]
    · refine hG.callV dX9_wishOf_61 mv_9_74 [.int (nI a), .int (nI b)] [] (c4_likingOf l X (d - 1) sh m1 mL mR n C hC np ⟨(g1 _ _ (by omega)).trans hp.1, hnp⟩ lk (fun x y hx hy => ⟨(g1 _ _ (by omega)).trans (hl x y hx hy).1, (hl x y hx hy).2⟩) a b ha hb) ⟨_, rfl, rfl⟩ u0 (by omega) rfl (by decide) (by simp [Value.category]) rfl ?_
      rintro r M' ⟨rfl, rfl⟩
      refine hG.run [70] 60 ?_
      simp [wp, stepI, ln, jmp, cmpI, Value.category, rd, tyF, va_rf, st1, st2, clr, isLg, CB, inx_0, inx_1, inx_2, inx_3, inx_4, inx_5, bI_0, bI_1, bI_ok, fin3, tyX9, entL, q0, dX9_wishOf_0, dX9_wishOf_1, dX9_wishOf_4, dX9_wishOf_5, dX9_wishOf_6, dX9_wishOf_7, dX9_wishOf_8, dX9_wishOf_10, dX9_wishOf_13, dX9_wishOf_16, dX9_wishOf_19, dX9_wishOf_21, dX9_wishOf_22, dX9_wishOf_24, dX9_wishOf_25, dX9_wishOf_28, dX9_wishOf_30, dX9_wishOf_31, fT_9_71, dX9_wishOf_34, dX9_wishOf_35, dX9_wishOf_36, dX9_wishOf_38, dX9_wishOf_40, dX9_wishOf_41, dX9_wishOf_44, dX9_wishOf_46, dX9_wishOf_49, dX9_wishOf_50, dX9_wishOf_51, dX9_wishOf_53, dX9_wishOf_54, dX9_wishOf_57, dX9_wishOf_58, dX9_wishOf_59, dX9_wishOf_61, dX9_wishOf_64, dX9_wishOf_67, dX9_wishOf_70, dX9_wishOf_72, dX9_wishOf_73, dX9_wishOf_76, dX9_wishOf_78, dX9_wishOf_81, dX9_wishOf_84, dX9_wishOf_87, dX9_wishOf_89, dX9_wishOf_92]
      simp (disch := omega) only [li, nI_add, nI_clamp, nI_ltI, nI_leI, nI_eq, inx_iff, a31, nI_1shl', nI_shr', div_bit, tb1, tb0, fa_or, fa_and, nI_not, pk_sub, nI_dec]
      refine ⟨fun z2 => g70 _ h1 ?_, fun z2 => g70 _ h1 ?_⟩
      · rw [if_neg (show ¬ (kd a = 2 ∧ 0 < lk a b) from fun q => by omega), z0]
      · rw [if_pos ⟨z, z2⟩]
  refine hG.run [51] 60 ?_
  simp [wp, stepI, ln, jmp, cmpI, Value.category, rd, tyF, va_rf, st1, st2, clr, isLg, CB, inx_0, inx_1, inx_2, inx_3, inx_4, inx_5, bI_0, bI_1, bI_ok, fin3, tyX9, entL, q0, u0, tyX4, q_kind, dX9_wishOf_0, dX9_wishOf_1, dX9_wishOf_4, dX9_wishOf_5, dX9_wishOf_6, dX9_wishOf_7, dX9_wishOf_8, dX9_wishOf_10, dX9_wishOf_13, dX9_wishOf_16, dX9_wishOf_19, dX9_wishOf_21, dX9_wishOf_22, dX9_wishOf_24, dX9_wishOf_25, dX9_wishOf_28, dX9_wishOf_30, dX9_wishOf_31, fT_9_71, dX9_wishOf_34, dX9_wishOf_35, dX9_wishOf_36, dX9_wishOf_38, dX9_wishOf_40, dX9_wishOf_41, dX9_wishOf_44, dX9_wishOf_46, dX9_wishOf_49, dX9_wishOf_50, dX9_wishOf_51, dX9_wishOf_53, dX9_wishOf_54, dX9_wishOf_57, dX9_wishOf_58, dX9_wishOf_59, dX9_wishOf_61, dX9_wishOf_64, dX9_wishOf_67, dX9_wishOf_70, dX9_wishOf_72, dX9_wishOf_73, dX9_wishOf_76, dX9_wishOf_78, dX9_wishOf_81, dX9_wishOf_84, dX9_wishOf_87, dX9_wishOf_89, dX9_wishOf_92]
  simp (disch := omega) only [li, nI_add, nI_clamp, nI_ltI, nI_leI, nI_eq, inx_iff, a31, nI_1shl', nI_shr', div_bit, tb1, tb0, fa_or, fa_and, nI_not, pk_sub, nI_dec, kd1]
  refine ⟨by omega, fun z => g51 (fun q => z q.1), fun z => ⟨fun z2 => g51 (fun q => by rw [z2] at q; cases q.2), fun z2 => res _ ?_⟩⟩
  rw [if_pos ⟨z, z2⟩]
/-- the Wishing at W: wishes of all, and who sits by whom -/
def WiM (mI : Nat → Nat → Int32) (W np : Nat) (V : Nat → Nat → Int32) : Prop := mI W 4 = nI np ∧ np ≤ 8 ∧ ∀ a b, a < np → b < np → mI (W + 2) (8 * a + b) = V a b
set_option maxHeartbeats 4000000 in
set_option maxRecDepth 100000 in
theorem c9_wouldRather (l : Launch) (X : Cx) (d : Nat) (sh : Nat → Option Sh) (mI : Nat → Nat → Int32) (mL : Nat → Nat → Int64) (mR : Nat → Nat → Option Nat) (n : Nat) (W : Nat) (hO : OL sh mR W 9 ob9) (np : Nat) (V : Nat → Nat → Int32) (hM : WiM mI W np V) (w : Nat → Nat) (a b : Nat) (ha : a < np) (hb : b < np) (hw : mI (W + 3) a = nI (w a) ∧ w a < np) : Cn l X yX9_wouldRather cX9_wouldRather 3 (some .boolean) d [.ref W, .int (nI a), .int (nI b)] (sh, mI, mL, mR, n) (fun r M' => M' = (sh, mI, mL, mR, n) ∧ r = some (.int (bI (decide (V a (w a) < V a b))))) 0 0 := by
  refine Cn.run 9 false (by decide) rfl (by decide) (by simp [entA, Value.category]) ?_
  intro P G hP hG
  have q0 := hO.1
  have q_wish := hO.2.2 (1, 2, .int, 64) (by decide)
  dsimp only at q_wish
  have q_mate := hO.2.2 (2, 3, .int, 8) (by decide)
  dsimp only at q_mate
  obtain ⟨h1, h2, h3⟩ := hM
  have e1 := h3 a b ha hb
  have e2 := h3 a (w a) ha hw.2
  have e3 := hw.1
  have e4 := hw.2
  rw [Nat.mul_comm 8] at e1 e2
  refine hG.run [] 60 ?_
  simp [wp, stepI, ln, jmp, cmpI, Value.category, rd, tyF, va_rf, st1, st2, clr, isLg, CB, inx_0, inx_1, inx_2, inx_3, inx_4, inx_5, bI_0, bI_1, bI_ok, fin3, tyX9, entL, q0, q_wish, q_mate, dX9_wouldRather_0, dX9_wouldRather_1, fT_9_15, dX9_wouldRather_4, dX9_wouldRather_5, dX9_wouldRather_7, dX9_wouldRather_8, dX9_wouldRather_9, dX9_wouldRather_10, dX9_wouldRather_11, dX9_wouldRather_12, dX9_wouldRather_15, dX9_wouldRather_16, dX9_wouldRather_18, dX9_wouldRather_19, dX9_wouldRather_20, fT_9_18, dX9_wouldRather_23, dX9_wouldRather_24, dX9_wouldRather_25, dX9_wouldRather_26, dX9_wouldRather_27, dX9_wouldRather_30, dX9_wouldRather_31, dX9_wouldRather_34, dX9_wouldRather_35]
  simp (disch := omega) only [li, nI_add, nI_clamp, nI_ltI, nI_leI, nI_eq, inx_iff, a31, nI_1shl', nI_shr', div_bit, tb1, tb0, fa_or, fa_and, nI_not, pk_sub, nI_dec, nI_mul, e1, e2, e3]
  refine ⟨by omega, by omega, by omega, fun z => hP _ _ ⟨rfl, ?_⟩, fun z => hP _ _ ⟨rfl, ?_⟩⟩
  · rw [decide_eq_false (Int32.not_lt.mpr z)]; rfl
  · rw [decide_eq_true z]; rfl
set_option maxHeartbeats 4000000 in
set_option maxRecDepth 100000 in
theorem c9_forget (l : Launch) (X : Cx) (d : Nat) (sh : Nat → Option Sh) (mI : Nat → Nat → Int32) (mL : Nat → Nat → Int64) (mR : Nat → Nat → Option Nat) (n : Nat) (W : Nat) (hO : OL sh mR W 9 ob9) : Cn l X yX9_forget cX9_forget 1 none d [.ref W] (sh, mI, mL, mR, n) (fun r M' => r = none ∧ M' = (sh, up2 mI W 5 0, mL, mR, n)) 0 0 := by
  refine Cn.run 9 false (by decide) rfl (by decide) (by simp [entA, Value.category]) ?_
  intro P G hP hG
  have q0 := hO.1
  have hSl := hO.2.1
  have xW : W < 1000000000 := by omega
  refine hG.run [] 60 ?_
  simp [wp, stepI, ln, jmp, cmpI, Value.category, rd, tyF, va_rf, st1, st2, clr, isLg, CB, inx_0, inx_1, inx_2, inx_3, inx_4, inx_5, bI_0, bI_1, bI_ok, fin3, tyX9, entL, q0, okv, wr, finF, clT, TX9, xW, dX9_forget_0, dX9_forget_1, dX9_forget_2, fT_9_25, dX9_forget_5]
  exact hP _ _ ⟨rfl, rfl⟩
set_option maxHeartbeats 4000000 in
set_option maxRecDepth 100000 in
theorem c1_forget (l : Launch) (X : Cx) (d : Nat) (sh : Nat → Option Sh) (mI : Nat → Nat → Int32) (mL : Nat → Nat → Int64) (mR : Nat → Nat → Option Nat) (n : Nat) (B : Nat) (hO : OL sh mR B 1 ob1) : Cn l X yX1_forget cX1_forget 1 none d [.ref B] (sh, mI, mL, mR, n) (fun r M' => r = none ∧ M' = (sh, up2 mI B 6 0, mL, mR, n)) 0 0 := by
  refine Cn.run 1 false (by decide) rfl (by decide) (by simp [entA, Value.category]) ?_
  intro P G hP hG
  have q0 := hO.1
  have hSl := hO.2.1
  have xB : B < 1000000000 := by omega
  refine hG.run [] 60 ?_
  simp [wp, stepI, ln, jmp, cmpI, Value.category, rd, tyF, va_rf, st1, st2, clr, isLg, CB, inx_0, inx_1, inx_2, inx_3, inx_4, inx_5, bI_0, bI_1, bI_ok, fin3, tyX1, entL, q0, okv, wr, finF, clT, TX1, xB, dX1_forget_0, dX1_forget_1, dX1_forget_2, fT_1_25, dX1_forget_5]
  exact hP _ _ ⟨rfl, rfl⟩
set_option maxHeartbeats 4000000 in
set_option maxRecDepth 100000 in
theorem c1_fewest (l : Launch) (X : Cx) (d : Nat) (sh : Nat → Option Sh) (mI : Nat → Nat → Int32) (mL : Nat → Nat → Int64) (mR : Nat → Nat → Option Nat) (n : Nat) (B : Nat) (hO : OL sh mR B 1 ob1) : Cn l X yX1_fewest cX1_fewest 1 (some .int) d [.ref B] (sh, mI, mL, mR, n) (fun r M' => M' = (sh, mI, mL, mR, n) ∧ r = some (.int (mI (B + 3) 0))) 0 0 := by
  refine Cn.run 1 false (by decide) rfl (by decide) (by simp [entA, Value.category]) ?_
  intro P G hP hG
  have q0 := hO.1
  have q_fewestBehind := hO.2.2 (2, 3, .int, 1024) (by decide)
  dsimp only at q_fewestBehind
  refine hG.run [] 60 ?_
  simp [wp, stepI, ln, jmp, cmpI, Value.category, rd, tyF, va_rf, st1, st2, clr, isLg, CB, inx_0, inx_1, inx_2, inx_3, inx_4, inx_5, bI_0, bI_1, bI_ok, fin3, tyX1, entL, q0, q_fewestBehind, dX1_fewest_0, dX1_fewest_1, fT_1_18, dX1_fewest_4, dX1_fewest_5, dX1_fewest_6]
  exact hP _ _ ⟨rfl, rfl⟩
set_option maxHeartbeats 4000000 in
set_option maxRecDepth 100000 in
theorem c1_studyR (l : Launch) (X : Cx) (d : Nat) (sh : Nat → Option Sh) (mI : Nat → Nat → Int32) (mL : Nat → Nat → Int64) (mR : Nat → Nat → Option Nat) (n : Nat) (B S : Nat) (hO : OL sh mR B 1 ob1) (w : Int32) (h1 : mI B 6 = nI 1) (h2 : mI B 7 = w) : Cn l X yX1_study cX1_study 5 none d [.ref B, .ref S, .int w] (sh, mI, mL, mR, n) (fun r M' => r = none ∧ M' = (sh, mI, mL, mR, n)) 0 0 := by
  refine Cn.run 1 false (by decide) rfl (by decide) (by simp [entA, Value.category]) ?_
  intro P G hP hG
  have q0 := hO.1
  refine hG.run [16] 60 ?_
  simp [wp, stepI, ln, jmp, cmpI, Value.category, rd, tyF, va_rf, st1, st2, clr, isLg, CB, inx_0, inx_1, inx_2, inx_3, inx_4, inx_5, bI_0, bI_1, bI_ok, fin3, tyX1, entL, q0, dX1_study_0, dX1_study_1, fT_1_25, dX1_study_4, dX1_study_7, dX1_study_8, fT_1_29, dX1_study_11, dX1_study_12, dX1_study_15, dX1_study_16, dX1_study_17, dX1_study_18, fT_1_33, dX1_study_21, fT_1_39, dX1_study_24, fT_1_44, dX1_study_27, dX1_study_28, dX1_study_29, dX1_study_32, dX1_study_35, fT_1_49, dX1_study_38, dX1_study_39, dX1_study_40, dX1_study_41, dX1_study_44, dX1_study_45, fT_1_15, dX1_study_48, dX1_study_49, dX1_study_50, dX1_study_51, dX1_study_52, dX1_study_53, dX1_study_54, dX1_study_55, dX1_study_58, dX1_study_61, dX1_study_62, dX1_study_65, dX1_study_66, dX1_study_67, dX1_study_70, dX1_study_71, dX1_study_72, dX1_study_73, dX1_study_74, dX1_study_75, dX1_study_76, dX1_study_77, fT_1_9, dX1_study_80, dX1_study_81, dX1_study_84, dX1_study_85, dX1_study_86, dX1_study_87, dX1_study_90, dX1_study_93, dX1_study_94, fT_1_18, dX1_study_97, dX1_study_98, dX1_study_101, dX1_study_102, dX1_study_103, dX1_study_104, dX1_study_107, dX1_study_108, dX1_study_109, dX1_study_110, dX1_study_111, dX1_study_114, dX1_study_115, dX1_study_118, dX1_study_119, dX1_study_120, dX1_study_121, dX1_study_122, dX1_study_123, dX1_study_126, dX1_study_129, dX1_study_130, dX1_study_133, dX1_study_136, dX1_study_137, dX1_study_138, dX1_study_139, dX1_study_141, dX1_study_143, dX1_study_144, dX1_study_147, dX1_study_150, dX1_study_151, fT_1_22, dX1_study_154, dX1_study_156, dX1_study_157, dX1_study_158, dX1_study_161, dX1_study_162, dX1_study_163, dX1_study_164, dX1_study_165, dX1_study_168, dX1_study_170, dX1_study_171, dX1_study_172, dX1_study_173, dX1_study_174, dX1_study_177, dX1_study_180, dX1_study_181, dX1_study_182, dX1_study_185, dX1_study_186, dX1_study_187, dX1_study_190]
  simp (disch := omega) only [li, nI_add, nI_clamp, nI_ltI, nI_leI, nI_eq, inx_iff, a31, nI_1shl', nI_shr', div_bit, tb1, tb0, fa_or, fa_and, nI_not, pk_sub, nI_dec, h1, h2]
  first
    | exact ⟨fun z => by omega, fun _ => ⟨fun z => absurd rfl z, fun _ => hP _ _ ⟨rfl, rfl⟩⟩⟩
    | exact ⟨fun z => by omega, fun _ => ⟨fun z => absurd trivial z, fun _ => hP _ _ ⟨rfl, rfl⟩⟩⟩
    | exact ⟨fun z => by omega, fun _ => hP _ _ ⟨rfl, rfl⟩⟩
/-- who sits by whom, four bits each -/
def pk16 (w : Nat → Nat) : Nat → Nat
  | 0 => 0
  | k + 1 => pk16 w k + w k * 16 ^ k
theorem pk16_s (w : Nat → Nat) (k : Nat) : pk16 w (k + 1) = pk16 w k + w k * 16 ^ k := rfl
theorem pk16_lt {w : Nat → Nat} : ∀ k, (∀ p, p < k → w p < 16) → pk16 w k < 16 ^ k
  | 0, _ => by show 0 < 1; decide
  | k + 1, h => by
    have ih := pk16_lt k (fun p hp => h p (by omega))
    have hk := h k (by omega)
    rw [pk16_s, Nat.pow_succ]
    have : w k * 16 ^ k ≤ 15 * 16 ^ k := Nat.mul_le_mul_right _ (by omega)
    omega
theorem pk16_at {w : Nat → Nat} {p : Nat} : ∀ k, (∀ p, p < k → w p < 16) → p < k → pk16 w k / 16 ^ p % 16 = w p
  | 0, _, h => by omega
  | k + 1, hw, h => by
    rw [pk16_s]
    have hl := pk16_lt k (fun p hp => hw p (by omega))
    by_cases e : p = k
    · subst e
      rw [Nat.add_mul_div_right _ _ (Nat.pow_pos (by decide)), Nat.div_eq_of_lt hl, Nat.zero_add, Nat.mod_eq_of_lt (hw p (by omega))]
    · have ih := pk16_at k (fun p hp => hw p (by omega)) (show p < k by omega)
      have e2 : w k * 16 ^ k = (w k * 16 ^ (k - p - 1) * 16) * 16 ^ p := by
        rw [Nat.mul_assoc, Nat.mul_assoc]
        congr 1
        rw [show 16 * 16 ^ p = 16 ^ (p + 1) by rw [Nat.pow_succ, Nat.mul_comm], ← Nat.pow_add]
        congr 1
        omega
      rw [e2, Nat.add_mul_div_right _ _ (Nat.pow_pos (by decide)), Nat.add_mul_mod_self_right]
      exact ih
theorem p16 (p : Nat) : 2 ^ (4 * p) = 16 ^ p := by rw [Nat.pow_mul]
set_option maxHeartbeats 4000000 in
set_option maxRecDepth 100000 in
theorem c9_mateIn (l : Launch) (X : Cx) (d : Nat) (sh : Nat → Option Sh) (mI : Nat → Nat → Int32) (mL : Nat → Nat → Int64) (mR : Nat → Nat → Option Nat) (n : Nat) (W : Nat) (hO : OL sh mR W 9 ob9) (i p c : Nat) (hi : i < 105) (hp : p < 8) (hc : mL (W + 4) i = lN c) (hcl : c < 2 ^ 62) : Cn l X yX9_mateIn cX9_mateIn 3 (some .int) d [.ref W, .int (nI i), .int (nI p)] (sh, mI, mL, mR, n) (fun r M' => M' = (sh, mI, mL, mR, n) ∧ r = some (.int (nI (c / 16 ^ p % 16)))) 0 0 := by
  refine Cn.run 9 false (by decide) rfl (by decide) (by simp [entA, Value.category]) ?_
  intro P G hP hG
  have q0 := hO.1
  have q_kept := hO.2.2 (3, 4, .long, 105) (by decide)
  dsimp only at q_kept
  have s1 : (lN c >>> ((nI (4 * p)).toInt64 &&& lN 63)).toInt32 &&& nI 15 = nI (c / 16 ^ p % 16) := by
    rw [show lN 63 = (63 : Int64) from rfl, l_shr hcl (by omega), lN_i, p16, show nI 15 = nI (2 ^ 4 - 1) from rfl, fa_mask]
  refine hG.run [] 60 ?_
  simp [wp, stepI, ln, jmp, cmpI, Value.category, rd, tyF, va_rf, st1, st2, clr, isLg, CB, inx_0, inx_1, inx_2, inx_3, inx_4, inx_5, bI_0, bI_1, bI_ok, fin3, tyX9, entL, q0, q_kept, dX9_mateIn_0, dX9_mateIn_1, fT_9_21, dX9_mateIn_4, dX9_mateIn_5, dX9_mateIn_6, dX9_mateIn_7, dX9_mateIn_8, dX9_mateIn_9, dX9_mateIn_10, cL_9_93, dX9_mateIn_13, dX9_mateIn_14, dX9_mateIn_15]
  simp (disch := omega) only [li, nI_add, nI_clamp, nI_ltI, nI_leI, nI_eq, inx_iff, a31, nI_1shl', nI_shr', div_bit, tb1, tb0, fa_or, fa_and, nI_not, pk_sub, nI_dec, nI_mul, liL, hc, s1]
  exact ⟨by omega, hP _ _ ⟨rfl, rfl⟩⟩
