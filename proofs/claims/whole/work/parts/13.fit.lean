theorem anot_self {a p : Nat} : anot a (2 ^ p) = a ↔ a.testBit p = false := by
  constructor
  · intro h
    have := anot_bit a (2 ^ p) p
    rw [h, Nat.testBit_two_pow_self] at this
    simpa using this
  · intro h
    refine Nat.eq_of_testBit_eq fun i => ?_
    rw [anot_bit, Nat.testBit_two_pow]
    by_cases hi : p = i
    · subst hi; simp [h]
    · simp [hi]
theorem anot_lt {a p : Nat} (h : a.testBit p = true) : anot a (2 ^ p) < a := by
  have h1 := anot_le a (2 ^ p)
  have h2 : anot a (2 ^ p) ≠ a := fun z => by rw [anot_self.mp z] at h; cases h
  omega
/-- how many rows of a set fit -/
def FitR (np who : Nat) (ah R : Nat → Nat) : Prop := R 0 = 1 ∧ ∀ t, 0 < t → t ≤ who → R t = if anot t who = 0 then fb_sm (fun p => if t.testBit p && decide (anot (ah p &&& who) (anot t (2 ^ p)) = 0) then R (anot t (2 ^ p)) else 0) np else 0
theorem and_lt {a b c : Nat} (h : b < c) : a &&& b < c := Nat.lt_of_le_of_lt Nat.and_le_right h
set_option maxHeartbeats 4000000 in
set_option maxRecDepth 100000 in
theorem c12_fitting (l : Launch) (X : Cx) (d : Nat) (sh : Nat → Option Sh) (mI : Nat → Nat → Int32) (mL : Nat → Nat → Int64) (mR : Nat → Nat → Option Nat) (n : Nat) (hL : ML sh mR) (np : Nat) (hp : PupM mI np) (ah R : Nat → Nat) (ha : ∀ p, p < 10 → mI 159 p = nI (ah p) ∧ ah p < 1024) (who : Nat) (hw : who < 1024) (hR : FitR np who ah R) : Cn l X yX12_fitting cX12_fitting 5 (some .int) d [.ref 129, .int (nI who)] (sh, mI, mL, mR, n) (fun r M' => r = some (.int (nI (R who))) ∧ ∃ mI', M' = (sh, mI', mL, mR, n) ∧ Eqx [160] mI mI' ∧ ∀ t, t ≤ who → mI' 160 t = nI (R t)) 0 0 := by
  refine Cn.run 12 false (by decide) rfl (by decide) (by simp [entA, Value.category]) ?_
  intro P G hP hG
  have q0 := hL.1
  have q_pupils := hL.2 (10, 131, .int, 6) (by decide)
  dsimp only at q_pupils
  have q_aheadOf := hL.2 (44, 159, .int, 10) (by decide)
  dsimp only at q_aheadOf
  have q_rows := hL.2 (45, 160, .int, 1024) (by decide)
  dsimp only at q_rows
  have hpp := hp.2
  have loop1 : ∀ f i v3 v4 mI1, who + 1 - i < f → 0 < i → i ≤ who + 1 → Eqx [160] mI mI1 → (∀ t, t < i → mI1 160 t = nI (R t)) → G 9 [some (.ref 129), some (.int (nI who)), some (.int (nI i)), v3, v4] [] (sh, mI1, mL, mR, n) := by
    intro f
    induction f with
    | zero => intro i v3 v4 mI1 h; omega
    | succ f ih =>
      intro i v3 v4 mI1 hf hi hi2 h1 h2
      have nx : ∀ v3 v4 mI2, i ≤ who → Eqx [160] mI mI2 → (∀ t, t < i → mI2 160 t = nI (R t)) → mI2 160 i = nI (R i) → G 9 [some (.ref 129), some (.int (nI who)), some (.int (nI (i + 1))), v3, v4] [] (sh, mI2, mL, mR, n) := fun v3 v4 mI2 z1 z2 z3 z4 => ih (i + 1) v3 v4 mI2 (by omega) (by omega) (by omega) z2 (fun t ht => by
        rcases Nat.lt_or_ge t i with z | z
        · exact z3 t z
        · rw [show t = i by omega]; exact z4)
      have loop2 : ∀ f2 j v4 mI2, i ≤ who → anot i who = 0 → np - j < f2 → j ≤ np → Eqx [160] mI mI2 → (∀ t, t < i → mI2 160 t = nI (R t)) → mI2 160 i = nI (fb_sm (fun p => if i.testBit p && decide (anot (ah p &&& who) (anot i (2 ^ p)) = 0) then R (anot i (2 ^ p)) else 0) j) → G 34 [some (.ref 129), some (.int (nI who)), some (.int (nI i)), some (.int (nI j)), v4] [] (sh, mI2, mL, mR, n) := by
        intro f2
        induction f2 with
        | zero => intro j v4 mI2 hz hz2 h; omega
        | succ f2 ih2 =>
          intro j v4 mI2 hiw hsub hf2 hj g1 g2 g3
          refine hG.run [9, 34] 60 ?_
          simp [wp, stepI, ln, jmp, cmpI, Value.category, rd, tyF, va_rf, st1, st2, clr, isLg, CB, inx_0, inx_1, inx_2, inx_3, inx_4, inx_5, bI_0, bI_1, bI_ok, fin3, tyX12, entL, q0, q_pupils, q_aheadOf, q_rows, dX12_fitting_0, dX12_fitting_1, fT_12_102, dX12_fitting_4, dX12_fitting_5, dX12_fitting_6, dX12_fitting_7, dX12_fitting_8, dX12_fitting_9, dX12_fitting_10, dX12_fitting_11, dX12_fitting_14, dX12_fitting_15, dX12_fitting_18, dX12_fitting_19, dX12_fitting_20, dX12_fitting_21, dX12_fitting_22, dX12_fitting_23, dX12_fitting_24, dX12_fitting_25, dX12_fitting_26, dX12_fitting_29, dX12_fitting_32, dX12_fitting_33, dX12_fitting_34, dX12_fitting_35, dX12_fitting_36, fT_12_13, dX12_fitting_39, dX12_fitting_40, dX12_fitting_41, dX12_fitting_44, dX12_fitting_45, dX12_fitting_46, dX12_fitting_47, dX12_fitting_48, dX12_fitting_49, dX12_fitting_50, dX12_fitting_51, dX12_fitting_53, dX12_fitting_55, dX12_fitting_56, dX12_fitting_59, dX12_fitting_60, fT_12_99, dX12_fitting_63, dX12_fitting_64, dX12_fitting_65, dX12_fitting_66, dX12_fitting_67, dX12_fitting_69, dX12_fitting_70, dX12_fitting_71, dX12_fitting_72, dX12_fitting_75, dX12_fitting_76, dX12_fitting_79, dX12_fitting_80, dX12_fitting_81, dX12_fitting_82, dX12_fitting_83, dX12_fitting_86, dX12_fitting_88, dX12_fitting_89, dX12_fitting_90, dX12_fitting_91, dX12_fitting_94, dX12_fitting_97, dX12_fitting_100, dX12_fitting_103, dX12_fitting_104, dX12_fitting_107, dX12_fitting_108, dX12_fitting_109]
          have e0 : mI2 131 0 = nI np := (g1 _ _ (by decide)).trans hp.1
          have b1 := anot_le i (2 ^ j)
          have b2 : ∀ z, anot (ah j &&& who) z < 1024 := fun z => Nat.lt_of_le_of_lt (anot_le _ _) (and_lt hw)
          have b3 := b2 (anot i (2 ^ j))
          have e1 : j < 10 → mI2 159 j = nI (ah j) := fun z => (g1 _ _ (by decide)).trans (ha j z).1
          simp (disch := omega) only [li, nI_add, nI_clamp, nI_ltI, nI_leI, nI_eq, inx_iff, a31, nI_1shl', nI_shr', div_bit, tb1, tb0, fa_or, fa_and, nI_not, pk_sub, e0, e1]
          refine ⟨fun h => ?_, fun h => ?_⟩
          · rw [show j = np by omega] at g3
            have hr := hR.2 i hi hiw
            rw [if_pos hsub] at hr
            exact nx _ _ _ hiw g1 g2 (by rw [g3, hr])
          · simp (disch := omega) only [li, nI_add, nI_clamp, nI_ltI, nI_leI, nI_eq, inx_iff, a31, nI_1shl', nI_shr', div_bit, tb1, tb0, fa_or, fa_and, nI_not, pk_sub, e1]
            have stay : ∀ v4, (i.testBit j && decide (anot (ah j &&& who) (anot i (2 ^ j)) = 0)) = false → G 34 [some (.ref 129), some (.int (nI who)), some (.int (nI i)), some (.int (nI (j + 1))), v4] [] (sh, mI2, mL, mR, n) := fun v4 z => ih2 (j + 1) v4 mI2 hiw hsub (by omega) (by omega) g1 g2 (by rw [g3, fb_sm_succ, z]; rfl)
            refine ⟨fun z => stay _ (by rw [anot_self.mp z]; rfl), fun z => ⟨by omega, fun z2 => stay _ (by simp [z2]), fun z2 => ⟨by omega, by omega, by omega, ?_⟩⟩⟩
            have z3 : i.testBit j = true := by
              cases hb : i.testBit j with
              | true => rfl
              | false => exact absurd (anot_self.mpr hb) z
            have z4 := anot_lt z3
            refine ih2 (j + 1) _ _ hiw hsub (by omega) (by omega) (g1.up (by decide)) (fun t ht => ?_) ?_
            · rw [up2_ne (by omega)]; exact g2 t ht
            · rw [up2_eq, g3, g2 _ z4, nI_add, fb_sm_succ, z3, z2]; rfl
      refine hG.run [9, 34] 60 ?_
      simp [wp, stepI, ln, jmp, cmpI, Value.category, rd, tyF, va_rf, st1, st2, clr, isLg, CB, inx_0, inx_1, inx_2, inx_3, inx_4, inx_5, bI_0, bI_1, bI_ok, fin3, tyX12, entL, q0, q_pupils, q_aheadOf, q_rows, dX12_fitting_0, dX12_fitting_1, fT_12_102, dX12_fitting_4, dX12_fitting_5, dX12_fitting_6, dX12_fitting_7, dX12_fitting_8, dX12_fitting_9, dX12_fitting_10, dX12_fitting_11, dX12_fitting_14, dX12_fitting_15, dX12_fitting_18, dX12_fitting_19, dX12_fitting_20, dX12_fitting_21, dX12_fitting_22, dX12_fitting_23, dX12_fitting_24, dX12_fitting_25, dX12_fitting_26, dX12_fitting_29, dX12_fitting_32, dX12_fitting_33, dX12_fitting_34, dX12_fitting_35, dX12_fitting_36, fT_12_13, dX12_fitting_39, dX12_fitting_40, dX12_fitting_41, dX12_fitting_44, dX12_fitting_45, dX12_fitting_46, dX12_fitting_47, dX12_fitting_48, dX12_fitting_49, dX12_fitting_50, dX12_fitting_51, dX12_fitting_53, dX12_fitting_55, dX12_fitting_56, dX12_fitting_59, dX12_fitting_60, fT_12_99, dX12_fitting_63, dX12_fitting_64, dX12_fitting_65, dX12_fitting_66, dX12_fitting_67, dX12_fitting_69, dX12_fitting_70, dX12_fitting_71, dX12_fitting_72, dX12_fitting_75, dX12_fitting_76, dX12_fitting_79, dX12_fitting_80, dX12_fitting_81, dX12_fitting_82, dX12_fitting_83, dX12_fitting_86, dX12_fitting_88, dX12_fitting_89, dX12_fitting_90, dX12_fitting_91, dX12_fitting_94, dX12_fitting_97, dX12_fitting_100, dX12_fitting_103, dX12_fitting_104, dX12_fitting_107, dX12_fitting_108, dX12_fitting_109]
      have b1 := anot_le i who
      simp (disch := omega) only [li, nI_add, nI_clamp, nI_ltI, nI_leI, nI_eq, inx_iff, a31, nI_1shl', nI_shr', div_bit, tb1, tb0, fa_or, fa_and, nI_not, pk_sub]
      refine ⟨fun h => ⟨hw, ?_⟩, fun h => ⟨by omega, fun z => ?_, fun z => ?_⟩⟩
      · rw [h2 who h]
        exact hP _ _ ⟨rfl, mI1, rfl, h1, fun t ht => h2 t (by omega)⟩
      · exact loop2 (np + 1) 0 v4 _ h z (by omega) (by omega) (h1.up (by decide)) (fun t ht => by rw [up2_ne (by omega)]; exact h2 t ht) (by rw [up2_eq]; rfl)
      · have hr := hR.2 i hi h
        rw [if_neg z] at hr
        exact nx _ _ _ h (h1.up (by decide)) (fun t ht => by rw [up2_ne (by omega)]; exact h2 t ht) (by rw [up2_eq, hr])
  refine hG.run [9] 60 ?_
  simp [wp, stepI, ln, jmp, cmpI, Value.category, rd, tyF, va_rf, st1, st2, clr, isLg, CB, inx_0, inx_1, inx_2, inx_3, inx_4, inx_5, bI_0, bI_1, bI_ok, fin3, tyX12, entL, q0, q_pupils, q_aheadOf, q_rows, dX12_fitting_0, dX12_fitting_1, fT_12_102, dX12_fitting_4, dX12_fitting_5, dX12_fitting_6, dX12_fitting_7, dX12_fitting_8, dX12_fitting_9, dX12_fitting_10, dX12_fitting_11, dX12_fitting_14, dX12_fitting_15, dX12_fitting_18, dX12_fitting_19, dX12_fitting_20, dX12_fitting_21, dX12_fitting_22, dX12_fitting_23, dX12_fitting_24, dX12_fitting_25, dX12_fitting_26, dX12_fitting_29, dX12_fitting_32, dX12_fitting_33, dX12_fitting_34, dX12_fitting_35, dX12_fitting_36, fT_12_13, dX12_fitting_39, dX12_fitting_40, dX12_fitting_41, dX12_fitting_44, dX12_fitting_45, dX12_fitting_46, dX12_fitting_47, dX12_fitting_48, dX12_fitting_49, dX12_fitting_50, dX12_fitting_51, dX12_fitting_53, dX12_fitting_55, dX12_fitting_56, dX12_fitting_59, dX12_fitting_60, fT_12_99, dX12_fitting_63, dX12_fitting_64, dX12_fitting_65, dX12_fitting_66, dX12_fitting_67, dX12_fitting_69, dX12_fitting_70, dX12_fitting_71, dX12_fitting_72, dX12_fitting_75, dX12_fitting_76, dX12_fitting_79, dX12_fitting_80, dX12_fitting_81, dX12_fitting_82, dX12_fitting_83, dX12_fitting_86, dX12_fitting_88, dX12_fitting_89, dX12_fitting_90, dX12_fitting_91, dX12_fitting_94, dX12_fitting_97, dX12_fitting_100, dX12_fitting_103, dX12_fitting_104, dX12_fitting_107, dX12_fitting_108, dX12_fitting_109]
  exact loop1 (who + 2) 1 none none _ (by omega) (by omega) (by omega) (Eqx.rf.up (by decide)) (fun t ht => by rw [show t = 0 by omega, up2_eq, hR.1]; rfl)
