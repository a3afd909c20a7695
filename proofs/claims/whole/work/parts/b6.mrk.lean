/-! mark -/
def amB (mI : Nat → Nat → Int32) (m b : Int32) : Bool := wth m (nI 0) (nI 3) && (decide (b = nI 0) || !decide (mI (81 + 12 * m.toNatClampNeg) 7 = nI 0))
set_option maxHeartbeats 1600000 in
set_option maxRecDepth 100000 in
theorem c11_mark (l : Launch) (X : Cx) (d : Nat) (sh : Nat → Option Sh) (mI : Nat → Nat → Int32) (mL : Nat → Nat → Int64) (mR : Nat → Nat → Option Nat) (n : Nat) (hB : BL sh mR) (C : Nat) (hC : mR 20 0 = some C) (Cm : Nat → Nat) (hM : ∀ j, j < 4 → mR (81 + 12 * j) 0 = some (Cm j)) (m b : Int32) (hd : 2 ≤ d) : Cn l X yX11_mark cX11_mark 3 (some .boolean) d [.ref 0, .int m, .int b] (sh, mI, mL, mR, n) (fun r M' => r = some (.int (bI (amB mI m b))) ∧ (amB mI m b = false → M' = (sh, mI, mL, mR, n)) ∧ (amB mI m b = true → (b = nI 0 → M' = (sh, up2 (cpS mI (81 + 12 * m.toNatClampNeg) 20) (81 + 12 * m.toNatClampNeg) 7 1, mL, up2 mR (81 + 12 * m.toNatClampNeg) 0 (some C), n)) ∧ (b ≠ nI 0 → M' = (sh, fgI (cpS mI 20 (81 + 12 * m.toNatClampNeg)), mL, up2 mR 20 0 (some (Cm m.toNatClampNeg)), n)))) 0 0 := by
  refine Cn.run 11 false (by decide) rfl (by decide) (by simp [entA, Value.category]) ?_
  intro P G hP hG
  have q0 := hB.1
  have b3 := hB.2.2.2.1.1
  have o6 := hB.2.2.2.1.2
  have s6 := o6.1
  have b4 := hB.2.2.2.2.1.1
  have t4 := hB.2.2.2.2.1.2.1
  have no : amB mI m b = false → P (some (.int 0)) (sh, mI, mL, mR, n) := fun z => hP _ _ ⟨by rw [z]; rfl, fun _ => rfl, fun z2 => absurd (z.symm.trans z2) (by decide)⟩
  cases hw : wth m (nI 0) (nI 3) with
  | false =>
    have q := no (by unfold amB; rw [hw]; rfl)
    have hw' := of_decide_eq_false hw
    refine hG.run [11] 20 ?_
    simp [wp, stepI, ln, jmp, cmpI, Value.category, rd, tyF, va_rf, st1, st2, clr, isLg, CB, inx_0, inx_1, inx_2, inx_3, inx_4, inx_5, bI_0, bI_1, bI_ok, fin3, tyX11, entL, q0, dX11_mark_0, dX11_mark_1, dX11_mark_4, dX11_mark_5, dX11_mark_6, dX11_mark_9, dX11_mark_10, dX11_mark_11, dX11_mark_12, dX11_mark_15, dX11_mark_16, fT_11_27, dX11_mark_19, dX11_mark_20, dX11_mark_21, dX11_mark_22, fT_11_23, dX11_mark_25, dX11_mark_28, dX11_mark_29, dX11_mark_32, dX11_mark_33, dX11_mark_34, dX11_mark_35, fT_11_261, dX11_mark_38, dX11_mark_39, dX11_mark_40, dX11_mark_41, dX11_mark_44, dX11_mark_45, dX11_mark_46, dX11_mark_49, dX11_mark_52, dX11_mark_53, dX11_mark_54, dX11_mark_55, dX11_mark_58, dX11_mark_59, dX11_mark_62, dX11_mark_63, dX11_mark_64, dX11_mark_67, dX11_mark_68, dX11_mark_71, dX11_mark_72]
    refine ⟨fun _ => q, fun z => ⟨fun z2 => absurd ⟨z, ?_⟩ hw', fun _ => q⟩⟩
    have a1 := Int32.lt_iff_toInt_lt.mp z2
    refine Int32.le_iff_toInt_le.mpr ?_
    have : (nI 3).toInt = 3 := rfl
    have : (4 : Int32).toInt = 4 := rfl
    omega
  | true =>
    obtain ⟨j, hj, rfl⟩ := wth_i hw (by decide)
    have cj : (nI j).toNatClampNeg = j := nI_clamp (by omega)
    unfold amB at hP no
    rw [cj] at hP no
    obtain ⟨hm1, oS⟩ := hB.2.2.2.2.1.2.2 j (by omega)
    have hM1 := hM j (by omega)
    obtain ⟨S, hS⟩ : ∃ S, S = 81 + 12 * j := ⟨_, rfl⟩
    rw [← hS] at hm1 oS hM1 hP no
    have sS := oS.1
    have mid : G 11 [some (.ref 0), some (.int (nI j)), some (.int b)] [] (sh, mI, mL, mR, n) := by
      by_cases hb : b = nI 0
      · subst hb
        have yes : (wth (nI j) (nI 0) (nI 3) && (decide (nI 0 = nI 0) || !decide (mI S 7 = nI 0))) = true := by rw [hw, decide_eq_true rfl]; rfl
        have q := hP (some (.int 1)) (sh, up2 (cpS mI S 20) S 7 1, mL, up2 mR S 0 (some C), n) ⟨by rw [yes]; rfl, fun z => absurd (yes.symm.trans z) (by decide), fun _ => ⟨fun _ => rfl, fun z => absurd rfl z⟩⟩
        have g15 : G 15 [some (.ref 0), some (.int (nI j)), some (.int (nI 0))] [] (sh, mI, mL, mR, n) := by
          refine hG.run [25] 20 ?_
          simp [wp, stepI, ln, jmp, cmpI, Value.category, rd, tyF, va_rf, st1, st2, clr, isLg, CB, inx_0, inx_1, inx_2, inx_3, inx_4, inx_5, bI_0, bI_1, bI_ok, fin3, tyX11, entL, q0, b3, b4, t4, hm1, cj, dX11_mark_0, dX11_mark_1, dX11_mark_4, dX11_mark_5, dX11_mark_6, dX11_mark_9, dX11_mark_10, dX11_mark_11, dX11_mark_12, dX11_mark_15, dX11_mark_16, fT_11_27, dX11_mark_19, dX11_mark_20, dX11_mark_21, dX11_mark_22, fT_11_23, dX11_mark_25, dX11_mark_28, dX11_mark_29, dX11_mark_32, dX11_mark_33, dX11_mark_34, dX11_mark_35, fT_11_261, dX11_mark_38, dX11_mark_39, dX11_mark_40, dX11_mark_41, dX11_mark_44, dX11_mark_45, dX11_mark_46, dX11_mark_49, dX11_mark_52, dX11_mark_53, dX11_mark_54, dX11_mark_55, dX11_mark_58, dX11_mark_59, dX11_mark_62, dX11_mark_63, dX11_mark_64, dX11_mark_67, dX11_mark_68, dX11_mark_71, dX11_mark_72]
          simp (disch := omega) only [li, nI_add, nI_clamp, nI_ltI, nI_leI, nI_eq, inx_iff, a31, nI_1shl', nI_shr', div_bit, tb1, tb0, fa_or, fa_and, nI_not, pk_sub, nI_dec]
          refine ⟨by omega, ?_⟩
          refine hG.callV dX11_mark_25 mv_11_93 [.ref 20] [] (c6_copyFrom l X (d - 1) sh mI mL mR n S 20 C oS o6 (by omega) hC (by omega)) ⟨_, rfl, rfl⟩ sS (by omega) rfl (by decide) (by simp [Value.category]) rfl ?_
          rintro r M' ⟨rfl, rfl⟩
          have r0 : ∀ a k, ¬ (a = S ∧ k = 0) → up2 mR S 0 (some C) a k = mR a k := fun a k h => up2_ne h
          have r1 : up2 mR S 0 (some C) 0 4 = some 32 := (r0 _ _ (by omega)).trans b4
          have r2 : up2 mR S 0 (some C) 32 j = some S := (r0 _ _ (by omega)).trans hm1
          refine hG.run [38] 20 ?_
          simp [wp, stepI, ln, jmp, cmpI, Value.category, rd, tyF, va_rf, st1, st2, clr, isLg, CB, inx_0, inx_1, inx_2, inx_3, inx_4, inx_5, bI_0, bI_1, bI_ok, fin3, tyX11, entL, q0, r1, t4, r2, cj, sS, okv, wr, finF, clT, TX6, tyX6, dX11_mark_0, dX11_mark_1, dX11_mark_4, dX11_mark_5, dX11_mark_6, dX11_mark_9, dX11_mark_10, dX11_mark_11, dX11_mark_12, dX11_mark_15, dX11_mark_16, fT_11_27, dX11_mark_19, dX11_mark_20, dX11_mark_21, dX11_mark_22, fT_11_23, dX11_mark_25, dX11_mark_28, dX11_mark_29, dX11_mark_32, dX11_mark_33, dX11_mark_34, dX11_mark_35, fT_11_261, dX11_mark_38, dX11_mark_39, dX11_mark_40, dX11_mark_41, dX11_mark_44, dX11_mark_45, dX11_mark_46, dX11_mark_49, dX11_mark_52, dX11_mark_53, dX11_mark_54, dX11_mark_55, dX11_mark_58, dX11_mark_59, dX11_mark_62, dX11_mark_63, dX11_mark_64, dX11_mark_67, dX11_mark_68, dX11_mark_71, dX11_mark_72]
          simp (disch := omega) only [li, nI_add, nI_clamp, nI_ltI, nI_leI, nI_eq, inx_iff, a31, nI_1shl', nI_shr', div_bit, tb1, tb0, fa_or, fa_and, nI_not, pk_sub, nI_dec]
          have xS : S < 1000000000 := by omega
          refine ⟨by omega, xS, ?_⟩
          refine hG.run [] 20 ?_
          simp [wp, stepI, ln, jmp, cmpI, Value.category, rd, tyF, va_rf, st1, st2, clr, isLg, CB, inx_0, inx_1, inx_2, inx_3, inx_4, inx_5, bI_0, bI_1, bI_ok, fin3, tyX11, entL, q0, dX11_mark_0, dX11_mark_1, dX11_mark_4, dX11_mark_5, dX11_mark_6, dX11_mark_9, dX11_mark_10, dX11_mark_11, dX11_mark_12, dX11_mark_15, dX11_mark_16, fT_11_27, dX11_mark_19, dX11_mark_20, dX11_mark_21, dX11_mark_22, fT_11_23, dX11_mark_25, dX11_mark_28, dX11_mark_29, dX11_mark_32, dX11_mark_33, dX11_mark_34, dX11_mark_35, fT_11_261, dX11_mark_38, dX11_mark_39, dX11_mark_40, dX11_mark_41, dX11_mark_44, dX11_mark_45, dX11_mark_46, dX11_mark_49, dX11_mark_52, dX11_mark_53, dX11_mark_54, dX11_mark_55, dX11_mark_58, dX11_mark_59, dX11_mark_62, dX11_mark_63, dX11_mark_64, dX11_mark_67, dX11_mark_68, dX11_mark_71, dX11_mark_72]
          exact q
        refine hG.run [15, 40] 20 ?_
        simp [wp, stepI, ln, jmp, cmpI, Value.category, rd, tyF, va_rf, st1, st2, clr, isLg, CB, inx_0, inx_1, inx_2, inx_3, inx_4, inx_5, bI_0, bI_1, bI_ok, fin3, tyX11, entL, q0, dX11_mark_0, dX11_mark_1, dX11_mark_4, dX11_mark_5, dX11_mark_6, dX11_mark_9, dX11_mark_10, dX11_mark_11, dX11_mark_12, dX11_mark_15, dX11_mark_16, fT_11_27, dX11_mark_19, dX11_mark_20, dX11_mark_21, dX11_mark_22, fT_11_23, dX11_mark_25, dX11_mark_28, dX11_mark_29, dX11_mark_32, dX11_mark_33, dX11_mark_34, dX11_mark_35, fT_11_261, dX11_mark_38, dX11_mark_39, dX11_mark_40, dX11_mark_41, dX11_mark_44, dX11_mark_45, dX11_mark_46, dX11_mark_49, dX11_mark_52, dX11_mark_53, dX11_mark_54, dX11_mark_55, dX11_mark_58, dX11_mark_59, dX11_mark_62, dX11_mark_63, dX11_mark_64, dX11_mark_67, dX11_mark_68, dX11_mark_71, dX11_mark_72]
        exact ⟨fun z => absurd rfl z, fun _ => g15⟩
      · have g40 : G 40 [some (.ref 0), some (.int (nI j)), some (.int b)] [] (sh, mI, mL, mR, n) := by
          by_cases hl : mI S 7 = nI 0
          · have q := no (by rw [decide_eq_false hb, decide_eq_true hl]; exact Bool.and_false _)
            have hl' : mI S 7 = 0 := hl
            refine hG.run [54] 20 ?_
            simp [wp, stepI, ln, jmp, cmpI, Value.category, rd, tyF, va_rf, st1, st2, clr, isLg, CB, inx_0, inx_1, inx_2, inx_3, inx_4, inx_5, bI_0, bI_1, bI_ok, fin3, tyX11, entL, q0, b4, t4, hm1, cj, sS, tyX6, hl', dX11_mark_0, dX11_mark_1, dX11_mark_4, dX11_mark_5, dX11_mark_6, dX11_mark_9, dX11_mark_10, dX11_mark_11, dX11_mark_12, dX11_mark_15, dX11_mark_16, fT_11_27, dX11_mark_19, dX11_mark_20, dX11_mark_21, dX11_mark_22, fT_11_23, dX11_mark_25, dX11_mark_28, dX11_mark_29, dX11_mark_32, dX11_mark_33, dX11_mark_34, dX11_mark_35, fT_11_261, dX11_mark_38, dX11_mark_39, dX11_mark_40, dX11_mark_41, dX11_mark_44, dX11_mark_45, dX11_mark_46, dX11_mark_49, dX11_mark_52, dX11_mark_53, dX11_mark_54, dX11_mark_55, dX11_mark_58, dX11_mark_59, dX11_mark_62, dX11_mark_63, dX11_mark_64, dX11_mark_67, dX11_mark_68, dX11_mark_71, dX11_mark_72]
            simp (disch := omega) only [li, nI_add, nI_clamp, nI_ltI, nI_leI, nI_eq, inx_iff, a31, nI_1shl', nI_shr', div_bit, tb1, tb0, fa_or, fa_and, nI_not, pk_sub, nI_dec]
            exact ⟨by omega, q⟩
          · have yes : (wth (nI j) (nI 0) (nI 3) && (decide (b = nI 0) || !decide (mI S 7 = nI 0))) = true := by rw [hw, decide_eq_false hl, decide_eq_false hb]; rfl
            have q := hP (some (.int 1)) (sh, fgI (cpS mI 20 S), mL, up2 mR 20 0 (some (Cm j)), n) ⟨by rw [yes]; rfl, fun z => absurd (yes.symm.trans z) (by decide), fun _ => ⟨fun z => absurd z hb, fun _ => rfl⟩⟩
            have hl' : ¬ mI S 7 = 0 := hl
            have g54 : G 54 [some (.ref 0), some (.int (nI j)), some (.int b)] [] (sh, mI, mL, mR, n) := by
              refine hG.run [64] 20 ?_
              simp [wp, stepI, ln, jmp, cmpI, Value.category, rd, tyF, va_rf, st1, st2, clr, isLg, CB, inx_0, inx_1, inx_2, inx_3, inx_4, inx_5, bI_0, bI_1, bI_ok, fin3, tyX11, entL, q0, b3, b4, t4, hm1, cj, dX11_mark_0, dX11_mark_1, dX11_mark_4, dX11_mark_5, dX11_mark_6, dX11_mark_9, dX11_mark_10, dX11_mark_11, dX11_mark_12, dX11_mark_15, dX11_mark_16, fT_11_27, dX11_mark_19, dX11_mark_20, dX11_mark_21, dX11_mark_22, fT_11_23, dX11_mark_25, dX11_mark_28, dX11_mark_29, dX11_mark_32, dX11_mark_33, dX11_mark_34, dX11_mark_35, fT_11_261, dX11_mark_38, dX11_mark_39, dX11_mark_40, dX11_mark_41, dX11_mark_44, dX11_mark_45, dX11_mark_46, dX11_mark_49, dX11_mark_52, dX11_mark_53, dX11_mark_54, dX11_mark_55, dX11_mark_58, dX11_mark_59, dX11_mark_62, dX11_mark_63, dX11_mark_64, dX11_mark_67, dX11_mark_68, dX11_mark_71, dX11_mark_72]
              simp (disch := omega) only [li, nI_add, nI_clamp, nI_ltI, nI_leI, nI_eq, inx_iff, a31, nI_1shl', nI_shr', div_bit, tb1, tb0, fa_or, fa_and, nI_not, pk_sub, nI_dec]
              refine ⟨by omega, ?_⟩
              refine hG.callV dX11_mark_64 mv_11_93 [.ref S] [] (c6_copyFrom l X (d - 1) sh mI mL mR n 20 S (Cm j) o6 oS (by omega) hM1 (by omega)) ⟨_, rfl, rfl⟩ s6 (by omega) rfl (by decide) (by simp [Value.category]) rfl ?_
              rintro r M' ⟨rfl, rfl⟩
              have r0 : ∀ a k, ¬ (a = 20 ∧ k = 0) → up2 mR 20 0 (some (Cm j)) a k = mR a k := fun a k h => up2_ne h
              have B2 : BL sh (up2 mR 20 0 (some (Cm j))) := hB.fr (fun _ _ => rfl) (hB.2.2.1.2.fr (fun _ _ => rfl) (fun a k _ _ => r0 a k (by omega))) (fun a k _ _ h => r0 a k (by omega))
              refine hG.run [] 20 ?_
              simp [wp, stepI, ln, jmp, cmpI, Value.category, rd, tyF, va_rf, st1, st2, clr, isLg, CB, inx_0, inx_1, inx_2, inx_3, inx_4, inx_5, bI_0, bI_1, bI_ok, fin3, tyX11, entL, q0, dX11_mark_0, dX11_mark_1, dX11_mark_4, dX11_mark_5, dX11_mark_6, dX11_mark_9, dX11_mark_10, dX11_mark_11, dX11_mark_12, dX11_mark_15, dX11_mark_16, fT_11_27, dX11_mark_19, dX11_mark_20, dX11_mark_21, dX11_mark_22, fT_11_23, dX11_mark_25, dX11_mark_28, dX11_mark_29, dX11_mark_32, dX11_mark_33, dX11_mark_34, dX11_mark_35, fT_11_261, dX11_mark_38, dX11_mark_39, dX11_mark_40, dX11_mark_41, dX11_mark_44, dX11_mark_45, dX11_mark_46, dX11_mark_49, dX11_mark_52, dX11_mark_53, dX11_mark_54, dX11_mark_55, dX11_mark_58, dX11_mark_59, dX11_mark_62, dX11_mark_63, dX11_mark_64, dX11_mark_67, dX11_mark_68, dX11_mark_71, dX11_mark_72]
              refine hG.callV dX11_mark_68 mv_11_97 [] [] (c11_forgetStudies l X (d - 1) sh _ mL _ n B2 (by omega)) ⟨_, rfl, rfl⟩ q0 (by omega) rfl (by decide) (by simp [Value.category]) rfl ?_
              rintro r M' ⟨rfl, rfl⟩
              refine hG.run [] 20 ?_
              simp [wp, stepI, ln, jmp, cmpI, Value.category, rd, tyF, va_rf, st1, st2, clr, isLg, CB, inx_0, inx_1, inx_2, inx_3, inx_4, inx_5, bI_0, bI_1, bI_ok, fin3, tyX11, entL, q0, dX11_mark_0, dX11_mark_1, dX11_mark_4, dX11_mark_5, dX11_mark_6, dX11_mark_9, dX11_mark_10, dX11_mark_11, dX11_mark_12, dX11_mark_15, dX11_mark_16, fT_11_27, dX11_mark_19, dX11_mark_20, dX11_mark_21, dX11_mark_22, fT_11_23, dX11_mark_25, dX11_mark_28, dX11_mark_29, dX11_mark_32, dX11_mark_33, dX11_mark_34, dX11_mark_35, fT_11_261, dX11_mark_38, dX11_mark_39, dX11_mark_40, dX11_mark_41, dX11_mark_44, dX11_mark_45, dX11_mark_46, dX11_mark_49, dX11_mark_52, dX11_mark_53, dX11_mark_54, dX11_mark_55, dX11_mark_58, dX11_mark_59, dX11_mark_62, dX11_mark_63, dX11_mark_64, dX11_mark_67, dX11_mark_68, dX11_mark_71, dX11_mark_72]
              exact q
            refine hG.run [54] 20 ?_
            simp [wp, stepI, ln, jmp, cmpI, Value.category, rd, tyF, va_rf, st1, st2, clr, isLg, CB, inx_0, inx_1, inx_2, inx_3, inx_4, inx_5, bI_0, bI_1, bI_ok, fin3, tyX11, entL, q0, b4, t4, hm1, cj, sS, tyX6, hl', dX11_mark_0, dX11_mark_1, dX11_mark_4, dX11_mark_5, dX11_mark_6, dX11_mark_9, dX11_mark_10, dX11_mark_11, dX11_mark_12, dX11_mark_15, dX11_mark_16, fT_11_27, dX11_mark_19, dX11_mark_20, dX11_mark_21, dX11_mark_22, fT_11_23, dX11_mark_25, dX11_mark_28, dX11_mark_29, dX11_mark_32, dX11_mark_33, dX11_mark_34, dX11_mark_35, fT_11_261, dX11_mark_38, dX11_mark_39, dX11_mark_40, dX11_mark_41, dX11_mark_44, dX11_mark_45, dX11_mark_46, dX11_mark_49, dX11_mark_52, dX11_mark_53, dX11_mark_54, dX11_mark_55, dX11_mark_58, dX11_mark_59, dX11_mark_62, dX11_mark_63, dX11_mark_64, dX11_mark_67, dX11_mark_68, dX11_mark_71, dX11_mark_72]
            simp (disch := omega) only [li, nI_add, nI_clamp, nI_ltI, nI_leI, nI_eq, inx_iff, a31, nI_1shl', nI_shr', div_bit, tb1, tb0, fa_or, fa_and, nI_not, pk_sub, nI_dec]
            exact ⟨by omega, g54⟩
        have hb' : ¬ b = 0 := hb
        refine hG.run [15, 40] 20 ?_
        simp [wp, stepI, ln, jmp, cmpI, Value.category, rd, tyF, va_rf, st1, st2, clr, isLg, CB, inx_0, inx_1, inx_2, inx_3, inx_4, inx_5, bI_0, bI_1, bI_ok, fin3, tyX11, entL, q0, dX11_mark_0, dX11_mark_1, dX11_mark_4, dX11_mark_5, dX11_mark_6, dX11_mark_9, dX11_mark_10, dX11_mark_11, dX11_mark_12, dX11_mark_15, dX11_mark_16, fT_11_27, dX11_mark_19, dX11_mark_20, dX11_mark_21, dX11_mark_22, fT_11_23, dX11_mark_25, dX11_mark_28, dX11_mark_29, dX11_mark_32, dX11_mark_33, dX11_mark_34, dX11_mark_35, fT_11_261, dX11_mark_38, dX11_mark_39, dX11_mark_40, dX11_mark_41, dX11_mark_44, dX11_mark_45, dX11_mark_46, dX11_mark_49, dX11_mark_52, dX11_mark_53, dX11_mark_54, dX11_mark_55, dX11_mark_58, dX11_mark_59, dX11_mark_62, dX11_mark_63, dX11_mark_64, dX11_mark_67, dX11_mark_68, dX11_mark_71, dX11_mark_72]
        exact ⟨fun _ => g40, fun z => absurd z hb'⟩
    have hw' := of_decide_eq_true hw
    refine hG.run [11] 20 ?_
    simp [wp, stepI, ln, jmp, cmpI, Value.category, rd, tyF, va_rf, st1, st2, clr, isLg, CB, inx_0, inx_1, inx_2, inx_3, inx_4, inx_5, bI_0, bI_1, bI_ok, fin3, tyX11, entL, q0, dX11_mark_0, dX11_mark_1, dX11_mark_4, dX11_mark_5, dX11_mark_6, dX11_mark_9, dX11_mark_10, dX11_mark_11, dX11_mark_12, dX11_mark_15, dX11_mark_16, fT_11_27, dX11_mark_19, dX11_mark_20, dX11_mark_21, dX11_mark_22, fT_11_23, dX11_mark_25, dX11_mark_28, dX11_mark_29, dX11_mark_32, dX11_mark_33, dX11_mark_34, dX11_mark_35, fT_11_261, dX11_mark_38, dX11_mark_39, dX11_mark_40, dX11_mark_41, dX11_mark_44, dX11_mark_45, dX11_mark_46, dX11_mark_49, dX11_mark_52, dX11_mark_53, dX11_mark_54, dX11_mark_55, dX11_mark_58, dX11_mark_59, dX11_mark_62, dX11_mark_63, dX11_mark_64, dX11_mark_67, dX11_mark_68, dX11_mark_71, dX11_mark_72]
    simp (disch := omega) only [li, nI_add, nI_clamp, nI_ltI, nI_leI, nI_eq, inx_iff, a31, nI_1shl', nI_shr', div_bit, tb1, tb0, fa_or, fa_and, nI_not, pk_sub, nI_dec]
    refine ⟨fun z => by omega, fun _ => ⟨fun _ => mid, fun z => by omega⟩⟩
/-- a sheet copied -/
theorem ShA.cp {sh : Nat → Option Sh} {mI : Nat → Nat → Int32} {mR : Nat → Nat → Option Nat} {n S T C : Nat} {A : DD} (h : ShA sh mI mR n T C A) (hV : AsV A) (hne : S + 11 < T ∨ T + 11 < S) (hS : S = 20 ∨ (81 ≤ S ∧ S ≤ 117)) : ShA sh (cpS mI S T) (up2 mR S 0 (some C)) n S C A := by
  have cr := h.2.1.c
  obtain ⟨z1, z2, z3, z4, -⟩ := h.s hV
  have hnp := hV.1.1
  have s1 := cpS_sh (S := S) hne z4
  refine ShA.mk2 (up2_eq ..) (h.2.1.fr2 (Nat.le_refl _) (fun _ _ => rfl) (fun a k z _ => up2_ne (by omega)) (fun a k z _ => cpS_o (by omega) (by omega) (by omega) (by omega) (by omega) (by omega))) s1.1 (fun k hk => ⟨(s1.2.2 k hk).1, (s1.2.2 k hk).2.1, (s1.2.2 k hk).2.2.1⟩) (fun p hp => ⟨?_, ?_⟩)
  · exact (cpS_seat hne (by omega)).1.trans (h.2.2.2.2 p hp).1
  · exact (cpS_seat hne (by omega)).2.trans (h.2.2.2.2 p hp).2
