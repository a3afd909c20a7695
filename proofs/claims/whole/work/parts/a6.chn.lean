/-! chance -/
def aW (A : DD) : Nat := weiV (A 0 0) (A 0 2) (A 5) (A 6) (A 0 3) (A 2) alT (2 ^ A 0 0 - 1)
def aWB (A : DD) (a b : Nat) : Nat := weiV (A 0 0) (A 0 2) (A 5) (A 6) (A 0 3) (A 2) (alB a b) (2 ^ A 0 0 - 1)
def aCh (A : DD) (x y w : Int32) : Int64 := if a2 A x y && wth w (nI 0) (nI 1) && decide (A 0 2 ≤ 12) && !decide (aW A = 0) then lN ((if w = nI 0 then aWB A x.toNatClampNeg y.toNatClampNeg else aW A) / Nat.gcd (aWB A x.toNatClampNeg y.toNatClampNeg) (aW A)) else -lN 1
theorem tlS_63 {A : DD} (hV : AsV A) (hc : A 0 2 ≤ 12) : ∀ t, t < 2 ^ A 0 0 → tlV A true t < 2 ^ 63 := tlS_lt hV.1.1 hc hV.1.2.2.2.1 hV.say (pshC_ok _ _)
set_option maxHeartbeats 800000 in
set_option maxRecDepth 100000 in
theorem c11_chance (l : Launch) (X : Cx) (d : Nat) (sh : Nat → Option Sh) (mI : Nat → Nat → Int32) (mL : Nat → Nat → Int64) (mR : Nat → Nat → Option Nat) (n : Nat) (hB : BL sh mR) (C : Nat) (A : DD) (hV : AsV A) (hS : ShA sh mI mR n 20 C A) (hI : TlI mI mL 43 A true) (x y w : Int32) (hd : 3 ≤ d) : Cn l X yX11_chance cX11_chance 10 (some .long) d [.ref 0, .int x, .int y, .int w] (sh, mI, mL, mR, n) (fun r M' => r = some (.long (aCh A x y w)) ∧ ∃ mI' mL', M' = (sh, mI', mL', mR, n) ∧ (∀ a k, ¬ (43 ≤ a ∧ a ≤ 48) → mI' a k = mI a k) ∧ (∀ a k, ¬ (43 ≤ a ∧ a ≤ 48) → mL' a k = mL a k) ∧ TlI mI' mL' 43 A true) 0 0 := by
  refine Cn.run 11 false (by decide) rfl (by decide) (by simp [entA, Value.category]) ?_
  intro P G hP hG
  have q0 := hB.1
  have b3 := hB.2.2.2.1.1
  have b6 := hB.2.2.2.2.2.2.2.1.1
  have o7 := hB.2.2.2.2.2.2.2.1.2
  have s6 := hB.2.2.2.1.2.1
  have s7 := o7.1
  have hnp := hV.1.1
  have cs := hS.2.2.1
  have p2 : 0 < 2 ^ A 0 0 := Nat.two_pow_pos _
  have bad : (a2 A x y && wth w (nI 0) (nI 1) && decide (A 0 2 ≤ 12)) = false → P (some (.long (-1))) (sh, mI, mL, mR, n) := fun z => by
    have q := hP _ _ ⟨rfl, mI, mL, rfl, fun _ _ _ => rfl, fun _ _ _ => rfl, hI⟩
    have e : aCh A x y w = -1 := by unfold aCh; rw [z]; rfl
    rw [e] at q
    exact q
  refine hG.run [] 20 ?_
  simp [wp, stepI, ln, jmp, cmpI, Value.category, rd, tyF, va_rf, st1, st2, clr, isLg, CB, inx_0, inx_1, inx_2, inx_3, inx_4, inx_5, bI_0, bI_1, bI_ok, fin3, tyX11, entL, q0, dX11_chance_0, dX11_chance_1, dX11_chance_2, dX11_chance_3, dX11_chance_6, dX11_chance_9, dX11_chance_10, dX11_chance_13, dX11_chance_14, dX11_chance_15, dX11_chance_18, dX11_chance_19, fT_11_23, dX11_chance_22, fT_11_127, dX11_chance_25, dX11_chance_27, dX11_chance_30, cL_11_187, dX11_chance_33, dX11_chance_34, dX11_chance_35, fT_11_47, dX11_chance_38, dX11_chance_39, dX11_chance_42, dX11_chance_45, dX11_chance_46, dX11_chance_49, dX11_chance_52, dX11_chance_54, dX11_chance_56, dX11_chance_57, dX11_chance_58, dX11_chance_61, dX11_chance_64, dX11_chance_65, dX11_chance_66, dX11_chance_69, dX11_chance_72, dX11_chance_73, dX11_chance_76, dX11_chance_77, dX11_chance_78, dX11_chance_81, dX11_chance_83, dX11_chance_85, dX11_chance_87, dX11_chance_90, dX11_chance_92, dX11_chance_93, dX11_chance_96, dX11_chance_98, dX11_chance_101, dX11_chance_103, dX11_chance_105, dX11_chance_106]
  refine hG.callV dX11_chance_3 mv_11_123 [.int x, .int y] [] (c11_areTwo l X (d - 1) sh mI mL mR n hB C A hS x y (by omega)) ⟨_, rfl, rfl⟩ q0 (by omega) rfl (by decide) (by simp [Value.category]) rfl ?_
  rintro r M' ⟨rfl, rfl⟩
  cases h2 : a2 A x y with
  | false =>
    have q := bad (by rw [h2]; rfl)
    refine hG.run [] 20 ?_
    simp [wp, stepI, ln, jmp, cmpI, Value.category, rd, tyF, va_rf, st1, st2, clr, isLg, CB, inx_0, inx_1, inx_2, inx_3, inx_4, inx_5, bI_0, bI_1, bI_ok, fin3, tyX11, entL, q0, dX11_chance_0, dX11_chance_1, dX11_chance_2, dX11_chance_3, dX11_chance_6, dX11_chance_9, dX11_chance_10, dX11_chance_13, dX11_chance_14, dX11_chance_15, dX11_chance_18, dX11_chance_19, fT_11_23, dX11_chance_22, fT_11_127, dX11_chance_25, dX11_chance_27, dX11_chance_30, cL_11_187, dX11_chance_33, dX11_chance_34, dX11_chance_35, fT_11_47, dX11_chance_38, dX11_chance_39, dX11_chance_42, dX11_chance_45, dX11_chance_46, dX11_chance_49, dX11_chance_52, dX11_chance_54, dX11_chance_56, dX11_chance_57, dX11_chance_58, dX11_chance_61, dX11_chance_64, dX11_chance_65, dX11_chance_66, dX11_chance_69, dX11_chance_72, dX11_chance_73, dX11_chance_76, dX11_chance_77, dX11_chance_78, dX11_chance_81, dX11_chance_83, dX11_chance_85, dX11_chance_87, dX11_chance_90, dX11_chance_92, dX11_chance_93, dX11_chance_96, dX11_chance_98, dX11_chance_101, dX11_chance_103, dX11_chance_105, dX11_chance_106]
    exact q
  | true =>
    cases hw : wth w (nI 0) (nI 1) with
    | false =>
      have q := bad (by rw [h2, hw]; rfl)
      have hw' := of_decide_eq_false hw
      refine hG.run [18] 20 ?_
      simp [wp, stepI, ln, jmp, cmpI, Value.category, rd, tyF, va_rf, st1, st2, clr, isLg, CB, inx_0, inx_1, inx_2, inx_3, inx_4, inx_5, bI_0, bI_1, bI_ok, fin3, tyX11, entL, q0, dX11_chance_0, dX11_chance_1, dX11_chance_2, dX11_chance_3, dX11_chance_6, dX11_chance_9, dX11_chance_10, dX11_chance_13, dX11_chance_14, dX11_chance_15, dX11_chance_18, dX11_chance_19, fT_11_23, dX11_chance_22, fT_11_127, dX11_chance_25, dX11_chance_27, dX11_chance_30, cL_11_187, dX11_chance_33, dX11_chance_34, dX11_chance_35, fT_11_47, dX11_chance_38, dX11_chance_39, dX11_chance_42, dX11_chance_45, dX11_chance_46, dX11_chance_49, dX11_chance_52, dX11_chance_54, dX11_chance_56, dX11_chance_57, dX11_chance_58, dX11_chance_61, dX11_chance_64, dX11_chance_65, dX11_chance_66, dX11_chance_69, dX11_chance_72, dX11_chance_73, dX11_chance_76, dX11_chance_77, dX11_chance_78, dX11_chance_81, dX11_chance_83, dX11_chance_85, dX11_chance_87, dX11_chance_90, dX11_chance_92, dX11_chance_93, dX11_chance_96, dX11_chance_98, dX11_chance_101, dX11_chance_103, dX11_chance_105, dX11_chance_106]
      refine ⟨fun _ => q, fun z => ⟨fun _ => q, fun z2 => absurd ⟨z, z2⟩ hw'⟩⟩
    | true =>
      obtain ⟨a, b, ha, hb, hab, rfl, rfl⟩ := a2_i hV h2
      have hw' := of_decide_eq_true hw
      refine hG.run [18] 20 ?_
      simp [wp, stepI, ln, jmp, cmpI, Value.category, rd, tyF, va_rf, st1, st2, clr, isLg, CB, inx_0, inx_1, inx_2, inx_3, inx_4, inx_5, bI_0, bI_1, bI_ok, fin3, tyX11, entL, q0, dX11_chance_0, dX11_chance_1, dX11_chance_2, dX11_chance_3, dX11_chance_6, dX11_chance_9, dX11_chance_10, dX11_chance_13, dX11_chance_14, dX11_chance_15, dX11_chance_18, dX11_chance_19, fT_11_23, dX11_chance_22, fT_11_127, dX11_chance_25, dX11_chance_27, dX11_chance_30, cL_11_187, dX11_chance_33, dX11_chance_34, dX11_chance_35, fT_11_47, dX11_chance_38, dX11_chance_39, dX11_chance_42, dX11_chance_45, dX11_chance_46, dX11_chance_49, dX11_chance_52, dX11_chance_54, dX11_chance_56, dX11_chance_57, dX11_chance_58, dX11_chance_61, dX11_chance_64, dX11_chance_65, dX11_chance_66, dX11_chance_69, dX11_chance_72, dX11_chance_73, dX11_chance_76, dX11_chance_77, dX11_chance_78, dX11_chance_81, dX11_chance_83, dX11_chance_85, dX11_chance_87, dX11_chance_90, dX11_chance_92, dX11_chance_93, dX11_chance_96, dX11_chance_98, dX11_chance_101, dX11_chance_103, dX11_chance_105, dX11_chance_106]
      refine ⟨fun z => absurd hw'.1 (Int32.not_le.mpr z), fun _ => ⟨fun z => absurd hw'.2 (Int32.not_le.mpr z), fun _ => ?_⟩⟩
      have c40 := hV.1.2.2.1
      refine hG.run [34] 20 ?_
      simp [wp, stepI, ln, jmp, cmpI, Value.category, rd, tyF, va_rf, st1, st2, clr, isLg, CB, inx_0, inx_1, inx_2, inx_3, inx_4, inx_5, bI_0, bI_1, bI_ok, fin3, tyX11, entL, q0, b3, s6, cs, tyX6, dX11_chance_0, dX11_chance_1, dX11_chance_2, dX11_chance_3, dX11_chance_6, dX11_chance_9, dX11_chance_10, dX11_chance_13, dX11_chance_14, dX11_chance_15, dX11_chance_18, dX11_chance_19, fT_11_23, dX11_chance_22, fT_11_127, dX11_chance_25, dX11_chance_27, dX11_chance_30, cL_11_187, dX11_chance_33, dX11_chance_34, dX11_chance_35, fT_11_47, dX11_chance_38, dX11_chance_39, dX11_chance_42, dX11_chance_45, dX11_chance_46, dX11_chance_49, dX11_chance_52, dX11_chance_54, dX11_chance_56, dX11_chance_57, dX11_chance_58, dX11_chance_61, dX11_chance_64, dX11_chance_65, dX11_chance_66, dX11_chance_69, dX11_chance_72, dX11_chance_73, dX11_chance_76, dX11_chance_77, dX11_chance_78, dX11_chance_81, dX11_chance_83, dX11_chance_85, dX11_chance_87, dX11_chance_90, dX11_chance_92, dX11_chance_93, dX11_chance_96, dX11_chance_98, dX11_chance_101, dX11_chance_103, dX11_chance_105, dX11_chance_106]
      simp (disch := omega) only [li, nI_add, nI_clamp, nI_ltI, nI_leI, nI_eq, inx_iff, a31, nI_1shl', nI_shr', div_bit, tb1, tb0, fa_or, fa_and, nI_not, pk_sub, nI_dec]
      refine ⟨fun hc => ?_, fun hc => bad (by rw [decide_eq_false (by omega), Bool.and_false])⟩
      refine hG.run [] 20 ?_
      simp [wp, stepI, ln, jmp, cmpI, Value.category, rd, tyF, va_rf, st1, st2, clr, isLg, CB, inx_0, inx_1, inx_2, inx_3, inx_4, inx_5, bI_0, bI_1, bI_ok, fin3, tyX11, entL, q0, b3, b6, dX11_chance_0, dX11_chance_1, dX11_chance_2, dX11_chance_3, dX11_chance_6, dX11_chance_9, dX11_chance_10, dX11_chance_13, dX11_chance_14, dX11_chance_15, dX11_chance_18, dX11_chance_19, fT_11_23, dX11_chance_22, fT_11_127, dX11_chance_25, dX11_chance_27, dX11_chance_30, cL_11_187, dX11_chance_33, dX11_chance_34, dX11_chance_35, fT_11_47, dX11_chance_38, dX11_chance_39, dX11_chance_42, dX11_chance_45, dX11_chance_46, dX11_chance_49, dX11_chance_52, dX11_chance_54, dX11_chance_56, dX11_chance_57, dX11_chance_58, dX11_chance_61, dX11_chance_64, dX11_chance_65, dX11_chance_66, dX11_chance_69, dX11_chance_72, dX11_chance_73, dX11_chance_76, dX11_chance_77, dX11_chance_78, dX11_chance_81, dX11_chance_83, dX11_chance_85, dX11_chance_87, dX11_chance_90, dX11_chance_92, dX11_chance_93, dX11_chance_96, dX11_chance_98, dX11_chance_101, dX11_chance_103, dX11_chance_105, dX11_chance_106]
      refine hG.callV dX11_chance_42 mv_11_143 [.ref 20] [] (c7_now l X (d - 1) sh mI mL mR n hB C A hV hS 43 true (Or.inr rfl) o7 hI (tlS_63 hV hc) (by omega)) ⟨_, rfl, rfl⟩ s7 (by omega) rfl (by decide) (by simp [Value.category]) rfl ?_
      rintro r M' ⟨rfl, mI1, mL1, rfl, f1, f2, R1, I1⟩
      have e : tlV A true (2 ^ A 0 0 - 1) = aW A := tl_wei hV.say (pshC_ok _ _)
      have e2 : tlA A true a b = aWB A a b := tl_ahd hb hab hV.say (pshC_ok _ _) (bkC_ok _ _ _)
      have hpw := p2_10 hnp
      have b2 : aWB A a b < 2 ^ 63 := weiV_lt hnp hc hV.1.2.2.2.1 (by omega)
      have v63 := (R1.2.2 (2 ^ A 0 0 - 1) (by omega)).2
      have vv := (R1.2.2 (2 ^ A 0 0 - 1) (by omega)).1
      rw [e] at v63 vv
      refine hG.run [] 20 ?_
      simp [wp, stepI, ln, jmp, cmpI, Value.category, rd, tyF, va_rf, st1, st2, clr, isLg, CB, inx_0, inx_1, inx_2, inx_3, inx_4, inx_5, bI_0, bI_1, bI_ok, fin3, tyX11, entL, q0, b6, dX11_chance_0, dX11_chance_1, dX11_chance_2, dX11_chance_3, dX11_chance_6, dX11_chance_9, dX11_chance_10, dX11_chance_13, dX11_chance_14, dX11_chance_15, dX11_chance_18, dX11_chance_19, fT_11_23, dX11_chance_22, fT_11_127, dX11_chance_25, dX11_chance_27, dX11_chance_30, cL_11_187, dX11_chance_33, dX11_chance_34, dX11_chance_35, fT_11_47, dX11_chance_38, dX11_chance_39, dX11_chance_42, dX11_chance_45, dX11_chance_46, dX11_chance_49, dX11_chance_52, dX11_chance_54, dX11_chance_56, dX11_chance_57, dX11_chance_58, dX11_chance_61, dX11_chance_64, dX11_chance_65, dX11_chance_66, dX11_chance_69, dX11_chance_72, dX11_chance_73, dX11_chance_76, dX11_chance_77, dX11_chance_78, dX11_chance_81, dX11_chance_83, dX11_chance_85, dX11_chance_87, dX11_chance_90, dX11_chance_92, dX11_chance_93, dX11_chance_96, dX11_chance_98, dX11_chance_101, dX11_chance_103, dX11_chance_105, dX11_chance_106]
      refine hG.callV dX11_chance_49 mv_11_146 [] [] (c7_all l X (d - 1) sh mI1 mL1 mR n 43 o7 (A 0 0) R1.2.1.2.2.1 hnp _ vv) ⟨_, rfl, rfl⟩ s7 (by omega) rfl (by decide) (by simp [Value.category]) rfl ?_
      rintro r M' ⟨rfl, rfl⟩
      have val : aCh A (nI a) (nI b) w = if aW A = 0 then -1 else lN ((if w = nI 0 then aWB A a b else aW A) / Nat.gcd (aWB A a b) (aW A)) := by
        unfold aCh
        rw [nI_clamp (by omega), nI_clamp (by omega), h2, hw, decide_eq_true hc]
        by_cases z : aW A = 0
        · rw [if_pos z, decide_eq_true z]; rfl
        · rw [if_neg z, decide_eq_false z]; rfl
      rw [val] at hP
      have c1 : lN 0 < lN (aW A) ↔ 0 < aW A := pk_lLT (by decide) v63
      have c2 : lN (aW A) ≤ lN 0 ↔ aW A ≤ 0 := pk_lLE v63 (by decide)
      refine hG.run [65] 20 ?_
      simp [wp, stepI, ln, jmp, cmpI, Value.category, rd, tyF, va_rf, st1, st2, clr, isLg, CB, inx_0, inx_1, inx_2, inx_3, inx_4, inx_5, bI_0, bI_1, bI_ok, fin3, tyX11, entL, q0, lg_cmp_gt, lg_cmp_le, liL, c1, c2, dX11_chance_0, dX11_chance_1, dX11_chance_2, dX11_chance_3, dX11_chance_6, dX11_chance_9, dX11_chance_10, dX11_chance_13, dX11_chance_14, dX11_chance_15, dX11_chance_18, dX11_chance_19, fT_11_23, dX11_chance_22, fT_11_127, dX11_chance_25, dX11_chance_27, dX11_chance_30, cL_11_187, dX11_chance_33, dX11_chance_34, dX11_chance_35, fT_11_47, dX11_chance_38, dX11_chance_39, dX11_chance_42, dX11_chance_45, dX11_chance_46, dX11_chance_49, dX11_chance_52, dX11_chance_54, dX11_chance_56, dX11_chance_57, dX11_chance_58, dX11_chance_61, dX11_chance_64, dX11_chance_65, dX11_chance_66, dX11_chance_69, dX11_chance_72, dX11_chance_73, dX11_chance_76, dX11_chance_77, dX11_chance_78, dX11_chance_81, dX11_chance_83, dX11_chance_85, dX11_chance_87, dX11_chance_90, dX11_chance_92, dX11_chance_93, dX11_chance_96, dX11_chance_98, dX11_chance_101, dX11_chance_103, dX11_chance_105, dX11_chance_106]
      refine ⟨fun z => ?_, fun z => ?_⟩
      · rw [if_neg (by omega)] at hP
        refine hG.run [] 20 ?_
        simp [wp, stepI, ln, jmp, cmpI, Value.category, rd, tyF, va_rf, st1, st2, clr, isLg, CB, inx_0, inx_1, inx_2, inx_3, inx_4, inx_5, bI_0, bI_1, bI_ok, fin3, tyX11, entL, q0, b6, dX11_chance_0, dX11_chance_1, dX11_chance_2, dX11_chance_3, dX11_chance_6, dX11_chance_9, dX11_chance_10, dX11_chance_13, dX11_chance_14, dX11_chance_15, dX11_chance_18, dX11_chance_19, fT_11_23, dX11_chance_22, fT_11_127, dX11_chance_25, dX11_chance_27, dX11_chance_30, cL_11_187, dX11_chance_33, dX11_chance_34, dX11_chance_35, fT_11_47, dX11_chance_38, dX11_chance_39, dX11_chance_42, dX11_chance_45, dX11_chance_46, dX11_chance_49, dX11_chance_52, dX11_chance_54, dX11_chance_56, dX11_chance_57, dX11_chance_58, dX11_chance_61, dX11_chance_64, dX11_chance_65, dX11_chance_66, dX11_chance_69, dX11_chance_72, dX11_chance_73, dX11_chance_76, dX11_chance_77, dX11_chance_78, dX11_chance_81, dX11_chance_83, dX11_chance_85, dX11_chance_87, dX11_chance_90, dX11_chance_92, dX11_chance_93, dX11_chance_96, dX11_chance_98, dX11_chance_101, dX11_chance_103, dX11_chance_105, dX11_chance_106]
        refine hG.callV dX11_chance_69 mv_11_189 [] [] (c7_cmp l X (d - 1) sh mI1 mL1 mR n A 43 true o7 I1 R1 (by omega)) ⟨_, rfl, rfl⟩ s7 (by omega) rfl (by decide) (by simp [Value.category]) rfl ?_
        rintro r M' ⟨rfl, mI2, mL2, rfl, g1, g2, R2, C2, I2⟩
        have hP2 := fun v (hv : v = lN ((if w = nI 0 then aWB A a b else aW A) / Nat.gcd (aWB A a b) (aW A))) => hP (some (.long v)) _ ⟨by rw [hv], mI2, mL2, rfl, fun a k z => (g1 a k z).trans (f1 a k z), fun a k z => (g2 a k z).trans (f2 a k z), I2⟩
        have vb : mL2 (43 + 5) (10 * a + b) = lN (aWB A a b) := by rw [← e2]; exact C2.2 a b ha hb
        refine hG.run [] 20 ?_
        simp [wp, stepI, ln, jmp, cmpI, Value.category, rd, tyF, va_rf, st1, st2, clr, isLg, CB, inx_0, inx_1, inx_2, inx_3, inx_4, inx_5, bI_0, bI_1, bI_ok, fin3, tyX11, entL, q0, b6, dX11_chance_0, dX11_chance_1, dX11_chance_2, dX11_chance_3, dX11_chance_6, dX11_chance_9, dX11_chance_10, dX11_chance_13, dX11_chance_14, dX11_chance_15, dX11_chance_18, dX11_chance_19, fT_11_23, dX11_chance_22, fT_11_127, dX11_chance_25, dX11_chance_27, dX11_chance_30, cL_11_187, dX11_chance_33, dX11_chance_34, dX11_chance_35, fT_11_47, dX11_chance_38, dX11_chance_39, dX11_chance_42, dX11_chance_45, dX11_chance_46, dX11_chance_49, dX11_chance_52, dX11_chance_54, dX11_chance_56, dX11_chance_57, dX11_chance_58, dX11_chance_61, dX11_chance_64, dX11_chance_65, dX11_chance_66, dX11_chance_69, dX11_chance_72, dX11_chance_73, dX11_chance_76, dX11_chance_77, dX11_chance_78, dX11_chance_81, dX11_chance_83, dX11_chance_85, dX11_chance_87, dX11_chance_90, dX11_chance_92, dX11_chance_93, dX11_chance_96, dX11_chance_98, dX11_chance_101, dX11_chance_103, dX11_chance_105, dX11_chance_106]
        refine hG.callV dX11_chance_78 mv_11_192 [.int (nI a), .int (nI b)] [] (c7_aheadOf l X (d - 1) sh mI2 mL2 mR n 43 o7 a b (by omega) (by omega)) ⟨_, rfl, rfl⟩ s7 (by omega) rfl (by decide) (by simp [Value.category]) rfl ?_
        rintro r M' ⟨rfl, rfl⟩
        rw [vb]
        refine hG.run [] 20 ?_
        simp [wp, stepI, ln, jmp, cmpI, Value.category, rd, tyF, va_rf, st1, st2, clr, isLg, CB, inx_0, inx_1, inx_2, inx_3, inx_4, inx_5, bI_0, bI_1, bI_ok, fin3, tyX11, entL, q0, dX11_chance_0, dX11_chance_1, dX11_chance_2, dX11_chance_3, dX11_chance_6, dX11_chance_9, dX11_chance_10, dX11_chance_13, dX11_chance_14, dX11_chance_15, dX11_chance_18, dX11_chance_19, fT_11_23, dX11_chance_22, fT_11_127, dX11_chance_25, dX11_chance_27, dX11_chance_30, cL_11_187, dX11_chance_33, dX11_chance_34, dX11_chance_35, fT_11_47, dX11_chance_38, dX11_chance_39, dX11_chance_42, dX11_chance_45, dX11_chance_46, dX11_chance_49, dX11_chance_52, dX11_chance_54, dX11_chance_56, dX11_chance_57, dX11_chance_58, dX11_chance_61, dX11_chance_64, dX11_chance_65, dX11_chance_66, dX11_chance_69, dX11_chance_72, dX11_chance_73, dX11_chance_76, dX11_chance_77, dX11_chance_78, dX11_chance_81, dX11_chance_83, dX11_chance_85, dX11_chance_87, dX11_chance_90, dX11_chance_92, dX11_chance_93, dX11_chance_96, dX11_chance_98, dX11_chance_101, dX11_chance_103, dX11_chance_105, dX11_chance_106]
        refine hG.callS dX11_chance_87 ms_11_196 [.long (lN (aW A)), .long (lN (aWB A a b))] [] (c11_commonDivisor l X (d - 1) _ (aW A) (aWB A a b) v63 b2 z) (by omega) rfl (by decide) (by simp [Value.category]) rfl ?_
        rintro r M' ⟨rfl, rfl⟩
        rw [Nat.gcd_comm (aW A)]
        generalize hg : Nat.gcd (aWB A a b) (aW A) = g at hP2 ⊢
        have gp : 0 < g := by rw [← hg]; exact Nat.gcd_pos_of_pos_right _ z
        have gl : g < 2 ^ 63 := by rw [← hg]; exact Nat.lt_of_le_of_lt (Nat.gcd_le_right _ z) v63
        have y0 : lN g = lN 0 ↔ g = 0 := pk_lEQ (b := 0) gl (by decide)
        refine hG.run [] 20 ?_
        simp [wp, stepI, ln, jmp, cmpI, Value.category, rd, tyF, va_rf, st1, st2, clr, isLg, CB, inx_0, inx_1, inx_2, inx_3, inx_4, inx_5, bI_0, bI_1, bI_ok, fin3, tyX11, entL, q0, liL, y0, dX11_chance_0, dX11_chance_1, dX11_chance_2, dX11_chance_3, dX11_chance_6, dX11_chance_9, dX11_chance_10, dX11_chance_13, dX11_chance_14, dX11_chance_15, dX11_chance_18, dX11_chance_19, fT_11_23, dX11_chance_22, fT_11_127, dX11_chance_25, dX11_chance_27, dX11_chance_30, cL_11_187, dX11_chance_33, dX11_chance_34, dX11_chance_35, fT_11_47, dX11_chance_38, dX11_chance_39, dX11_chance_42, dX11_chance_45, dX11_chance_46, dX11_chance_49, dX11_chance_52, dX11_chance_54, dX11_chance_56, dX11_chance_57, dX11_chance_58, dX11_chance_61, dX11_chance_64, dX11_chance_65, dX11_chance_66, dX11_chance_69, dX11_chance_72, dX11_chance_73, dX11_chance_76, dX11_chance_77, dX11_chance_78, dX11_chance_81, dX11_chance_83, dX11_chance_85, dX11_chance_87, dX11_chance_90, dX11_chance_92, dX11_chance_93, dX11_chance_96, dX11_chance_98, dX11_chance_101, dX11_chance_103, dX11_chance_105, dX11_chance_106]
        rw [pk_lDiv v63 gp gl, pk_lDiv b2 gp gl]
        refine ⟨fun q => ⟨by omega, hP2 _ (by rw [if_neg (show ¬ w = nI 0 from q)])⟩, fun q => ⟨by omega, hP2 _ (by rw [if_pos (show w = nI 0 from q)])⟩⟩
      · rw [if_pos (by omega)] at hP
        have q := hP _ _ ⟨rfl, mI1, mL1, rfl, f1, f2, I1⟩
        exact q
