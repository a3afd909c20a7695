/-- may x sit down on k? -/
def sitB (mI : Nat → Nat → Int32) (np : Nat) (x k : Int32) : Bool := isP mI x && (decide (k = -nI 1) || isS mI k) && !decide (mI 156 (121 + x.toNatClampNeg) - nI 1 = k) && (decide (k < nI 0) || decide (¬ sitC mI np k < np))
theorem isS_eqf {S F : List Nat} {mI mI' : Nat → Nat → Int32} (he : Eqf S F mI mI') (hs : 132 ∉ S) (x : Int32) : isS mI' x = isS mI x := by
  unfold isS
  rw [he _ _ hs (fun z => by cases z.1)]
set_option maxHeartbeats 4000000 in
set_option maxRecDepth 100000 in
theorem c12_sit (l : Launch) (X : Cx) (d : Nat) (sh : Nat → Option Sh) (mI : Nat → Nat → Int32) (mL : Nat → Nat → Int64) (mR : Nat → Nat → Option Nat) (n : Nat) (hL : ML sh mR) (np : Nat) (hp : PupM mI np) (x k : Int32) (hd : 1 ≤ d) : Cn l X yX12_sit cX12_sit 4 (some .boolean) d [.ref 129, .int x, .int k] (sh, mI, mL, mR, n) (fun r M' => r = some (.int (bI (sitB mI np x k))) ∧ M' = (sh, if sitB mI np x k then up2 (thr mI) 156 (121 + x.toNatClampNeg) (nI 1 + k) else thr mI, mL, mR, n)) 0 0 := by
  refine Cn.run 12 false (by decide) rfl (by decide) (by simp [entA, Value.category]) ?_
  intro P G hP hG
  have q0 := hL.1
  have q_s := hL.2 (41, 156, .int, 144) (by decide)
  dsimp only at q_s
  have q_pupils := hL.2 (10, 131, .int, 6) (by decide)
  dsimp only at q_pupils
  have hpp := hp.2
  refine hG.run [] 20 ?_
  simp [wp, stepI, ln, jmp, cmpI, Value.category, rd, tyF, va_rf, st1, st2, clr, isLg, CB, inx_0, inx_1, inx_2, inx_3, inx_4, inx_5, bI_0, bI_1, bI_ok, fin3, tyX12, entL, q0, okv, wr, finF, clT, TX12, dX12_sit_0, dX12_sit_1, dX12_sit_2, fT_12_135, dX12_sit_5, dX12_sit_6, dX12_sit_7, dX12_sit_10, dX12_sit_13, dX12_sit_14, dX12_sit_15, dX12_sit_18, dX12_sit_19, dX12_sit_20, dX12_sit_23, dX12_sit_26, dX12_sit_27, fT_12_90, dX12_sit_30, dX12_sit_32, dX12_sit_33, dX12_sit_34, dX12_sit_35, dX12_sit_36, dX12_sit_37, dX12_sit_38, dX12_sit_41, dX12_sit_42, dX12_sit_43, dX12_sit_44, dX12_sit_45, dX12_sit_46, dX12_sit_47, fT_12_13, dX12_sit_50, dX12_sit_51, dX12_sit_52, dX12_sit_55, dX12_sit_56, dX12_sit_59, dX12_sit_60, dX12_sit_63, dX12_sit_65, dX12_sit_66, dX12_sit_67, dX12_sit_68, dX12_sit_69, dX12_sit_70, dX12_sit_71, dX12_sit_74, dX12_sit_75, dX12_sit_76, dX12_sit_79, dX12_sit_82, dX12_sit_83, dX12_sit_86, dX12_sit_88, dX12_sit_89, dX12_sit_90, dX12_sit_91, dX12_sit_92, dX12_sit_93, dX12_sit_94, dX12_sit_95]
  rw [show up2 mI 129 0 0 = thr mI from rfl]
  have e1 := thr_eqf mI
  have t1 : ∀ b k, b ≠ 129 → thr mI b k = mI b k := fun b k hb => e1 b k (by simp) (fun z => hb z.1)
  have e0 : thr mI 131 0 = nI np := (t1 _ _ (by decide)).trans hp.1
  refine hG.callV dX12_sit_7 mv_12_329 [.int x] [] (c12_isPupil l X (d - 1) sh (thr mI) mL mR n hL x) ⟨_, rfl, rfl⟩ q0 (by omega) rfl (by decide) (by simp [Value.category]) rfl ?_
  rintro r M' ⟨rfl, rfl⟩
  rw [isP_eqf e1 (by decide)]
  refine hG.run [26] 20 ?_
  simp [wp, stepI, ln, jmp, cmpI, Value.category, rd, tyF, va_rf, st1, st2, clr, isLg, CB, inx_0, inx_1, inx_2, inx_3, inx_4, inx_5, bI_0, bI_1, bI_ok, fin3, tyX12, entL, q0, dX12_sit_0, dX12_sit_1, dX12_sit_2, fT_12_135, dX12_sit_5, dX12_sit_6, dX12_sit_7, dX12_sit_10, dX12_sit_13, dX12_sit_14, dX12_sit_15, dX12_sit_18, dX12_sit_19, dX12_sit_20, dX12_sit_23, dX12_sit_26, dX12_sit_27, fT_12_90, dX12_sit_30, dX12_sit_32, dX12_sit_33, dX12_sit_34, dX12_sit_35, dX12_sit_36, dX12_sit_37, dX12_sit_38, dX12_sit_41, dX12_sit_42, dX12_sit_43, dX12_sit_44, dX12_sit_45, dX12_sit_46, dX12_sit_47, fT_12_13, dX12_sit_50, dX12_sit_51, dX12_sit_52, dX12_sit_55, dX12_sit_56, dX12_sit_59, dX12_sit_60, dX12_sit_63, dX12_sit_65, dX12_sit_66, dX12_sit_67, dX12_sit_68, dX12_sit_69, dX12_sit_70, dX12_sit_71, dX12_sit_74, dX12_sit_75, dX12_sit_76, dX12_sit_79, dX12_sit_82, dX12_sit_83, dX12_sit_86, dX12_sit_88, dX12_sit_89, dX12_sit_90, dX12_sit_91, dX12_sit_92, dX12_sit_93, dX12_sit_94, dX12_sit_95]
  have no : sitB mI np x k = false → P (some (.int 0)) (sh, thr mI, mL, mR, n) := fun z => hP _ _ (by rw [z]; exact ⟨rfl, rfl⟩)
  refine ⟨fun h => no (by simp [sitB, h]), fun h => ?_⟩
  obtain ⟨a, ha, rfl⟩ := isP_nat hp h
  have hno := fa_first_no (fun p => decide (mI 156 (121 + p) - nI 1 = k)) np
  have hyes := fa_first_yes (fun p => decide (mI 156 (121 + p) - nI 1 = k)) np
  have hle := fa_first_le (fun p => decide (mI 156 (121 + p) - nI 1 = k)) np
  rw [show fa_first (fun p => decide (mI 156 (121 + p) - nI 1 = k)) np = sitC mI np k from rfl] at hno hyes hle
  have last : (decide (k = -nI 1) || isS mI k) = true → G 26 [some (.ref 129), some (.int (nI a)), some (.int k), none] [] (sh, thr mI, mL, mR, n) := fun hk => by
    have fin : sitB mI np (nI a) k = true → ∀ v, G 82 [some (.ref 129), some (.int (nI a)), some (.int k), v] [] (sh, thr mI, mL, mR, n) := fun z v => by
      refine hG.run [] 20 ?_
      simp [wp, stepI, ln, jmp, cmpI, Value.category, rd, tyF, va_rf, st1, st2, clr, isLg, CB, inx_0, inx_1, inx_2, inx_3, inx_4, inx_5, bI_0, bI_1, bI_ok, fin3, tyX12, entL, q0, q_s, dX12_sit_0, dX12_sit_1, dX12_sit_2, fT_12_135, dX12_sit_5, dX12_sit_6, dX12_sit_7, dX12_sit_10, dX12_sit_13, dX12_sit_14, dX12_sit_15, dX12_sit_18, dX12_sit_19, dX12_sit_20, dX12_sit_23, dX12_sit_26, dX12_sit_27, fT_12_90, dX12_sit_30, dX12_sit_32, dX12_sit_33, dX12_sit_34, dX12_sit_35, dX12_sit_36, dX12_sit_37, dX12_sit_38, dX12_sit_41, dX12_sit_42, dX12_sit_43, dX12_sit_44, dX12_sit_45, dX12_sit_46, dX12_sit_47, fT_12_13, dX12_sit_50, dX12_sit_51, dX12_sit_52, dX12_sit_55, dX12_sit_56, dX12_sit_59, dX12_sit_60, dX12_sit_63, dX12_sit_65, dX12_sit_66, dX12_sit_67, dX12_sit_68, dX12_sit_69, dX12_sit_70, dX12_sit_71, dX12_sit_74, dX12_sit_75, dX12_sit_76, dX12_sit_79, dX12_sit_82, dX12_sit_83, dX12_sit_86, dX12_sit_88, dX12_sit_89, dX12_sit_90, dX12_sit_91, dX12_sit_92, dX12_sit_93, dX12_sit_94, dX12_sit_95]
      simp (disch := omega) only [li, nI_add, nI_clamp, nI_ltI, nI_leI, nI_eq, inx_iff, a31, nI_1shl', nI_shr', div_bit, tb1, tb0, fa_or, fa_and, nI_not, pk_sub, nI_dec]
      refine ⟨by omega, hP _ _ ?_⟩
      rw [z, if_pos rfl, nI_clamp (by omega)]
      exact ⟨rfl, rfl⟩
    have loop : mI 156 (121 + a) - nI 1 ≠ k → ∀ f i, np - i < f → i ≤ sitC mI np k → G 45 [some (.ref 129), some (.int (nI a)), some (.int k), some (.int (nI i))] [] (sh, thr mI, mL, mR, n) := by
      intro hne f
      induction f with
      | zero => intro i h; omega
      | succ f ih =>
        intro i hf hi
        refine hG.run [45, 82] 20 ?_
        simp [wp, stepI, ln, jmp, cmpI, Value.category, rd, tyF, va_rf, st1, st2, clr, isLg, CB, inx_0, inx_1, inx_2, inx_3, inx_4, inx_5, bI_0, bI_1, bI_ok, fin3, tyX12, entL, q0, q_s, q_pupils, dX12_sit_0, dX12_sit_1, dX12_sit_2, fT_12_135, dX12_sit_5, dX12_sit_6, dX12_sit_7, dX12_sit_10, dX12_sit_13, dX12_sit_14, dX12_sit_15, dX12_sit_18, dX12_sit_19, dX12_sit_20, dX12_sit_23, dX12_sit_26, dX12_sit_27, fT_12_90, dX12_sit_30, dX12_sit_32, dX12_sit_33, dX12_sit_34, dX12_sit_35, dX12_sit_36, dX12_sit_37, dX12_sit_38, dX12_sit_41, dX12_sit_42, dX12_sit_43, dX12_sit_44, dX12_sit_45, dX12_sit_46, dX12_sit_47, fT_12_13, dX12_sit_50, dX12_sit_51, dX12_sit_52, dX12_sit_55, dX12_sit_56, dX12_sit_59, dX12_sit_60, dX12_sit_63, dX12_sit_65, dX12_sit_66, dX12_sit_67, dX12_sit_68, dX12_sit_69, dX12_sit_70, dX12_sit_71, dX12_sit_74, dX12_sit_75, dX12_sit_76, dX12_sit_79, dX12_sit_82, dX12_sit_83, dX12_sit_86, dX12_sit_88, dX12_sit_89, dX12_sit_90, dX12_sit_91, dX12_sit_92, dX12_sit_93, dX12_sit_94, dX12_sit_95]
        simp (disch := omega) only [li, nI_add, nI_clamp, nI_ltI, nI_leI, nI_eq, inx_iff, a31, nI_1shl', nI_shr', div_bit, tb1, tb0, fa_or, fa_and, nI_not, pk_sub, nI_dec, e0]
        refine ⟨fun h2 => fin ?_ _, fun h2 => ⟨fun h3 => fin ?_ _, fun h3 => ?_⟩⟩
        · simp (disch := omega) [sitB, h, hk, nI_clamp, hne]
          exact Or.inr (by omega)
        · simp (disch := omega) [sitB, h, hk, nI_clamp, hne, h3]
        · simp (disch := omega) only [li, nI_add, nI_clamp, nI_ltI, nI_leI, nI_eq, inx_iff, a31, nI_1shl', nI_shr', div_bit, tb1, tb0, fa_or, fa_and, nI_not, pk_sub, nI_dec, t1]
          refine ⟨by omega, fun z => ih (i + 1) (by omega) ?_, fun z => no ?_⟩
          · rcases Nat.lt_or_ge i (sitC mI np k) with y | y
            · omega
            · have := hyes (by omega)
              rw [show sitC mI np k = i by omega] at this
              simp only [decide_eq_true_eq] at this
              exact absurd this z
          · have e : sitC mI np k = i := by
              rcases Nat.lt_or_ge i (sitC mI np k) with y | y
              · have := hno i y
                simp only [decide_eq_false_iff_not] at this
                exact absurd z this
              · omega
            have h4 : ¬ k < nI 0 := Int32.not_lt.mpr h3
            simp [sitB, h4, e, h2]
    refine hG.run [45] 20 ?_
    simp [wp, stepI, ln, jmp, cmpI, Value.category, rd, tyF, va_rf, st1, st2, clr, isLg, CB, inx_0, inx_1, inx_2, inx_3, inx_4, inx_5, bI_0, bI_1, bI_ok, fin3, tyX12, entL, q0, q_s, dX12_sit_0, dX12_sit_1, dX12_sit_2, fT_12_135, dX12_sit_5, dX12_sit_6, dX12_sit_7, dX12_sit_10, dX12_sit_13, dX12_sit_14, dX12_sit_15, dX12_sit_18, dX12_sit_19, dX12_sit_20, dX12_sit_23, dX12_sit_26, dX12_sit_27, fT_12_90, dX12_sit_30, dX12_sit_32, dX12_sit_33, dX12_sit_34, dX12_sit_35, dX12_sit_36, dX12_sit_37, dX12_sit_38, dX12_sit_41, dX12_sit_42, dX12_sit_43, dX12_sit_44, dX12_sit_45, dX12_sit_46, dX12_sit_47, fT_12_13, dX12_sit_50, dX12_sit_51, dX12_sit_52, dX12_sit_55, dX12_sit_56, dX12_sit_59, dX12_sit_60, dX12_sit_63, dX12_sit_65, dX12_sit_66, dX12_sit_67, dX12_sit_68, dX12_sit_69, dX12_sit_70, dX12_sit_71, dX12_sit_74, dX12_sit_75, dX12_sit_76, dX12_sit_79, dX12_sit_82, dX12_sit_83, dX12_sit_86, dX12_sit_88, dX12_sit_89, dX12_sit_90, dX12_sit_91, dX12_sit_92, dX12_sit_93, dX12_sit_94, dX12_sit_95]
    simp (disch := omega) only [li, nI_add, nI_clamp, nI_ltI, nI_leI, nI_eq, inx_iff, a31, nI_1shl', nI_shr', div_bit, tb1, tb0, fa_or, fa_and, nI_not, pk_sub, nI_dec, t1]
    refine ⟨by omega, fun z => loop z (np + 1) 0 (by omega) (by omega), fun z => no (by simp (disch := omega) [sitB, nI_clamp, z])⟩
  simp only [li]
  refine ⟨fun z => last (by simp [z]), fun z => ?_⟩
  refine hG.callV dX12_sit_20 mv_12_413 [.int k] [] (c12_isSeat l X (d - 1) sh (thr mI) mL mR n hL k) ⟨_, rfl, rfl⟩ q0 (by omega) rfl (by decide) (by simp [Value.category]) rfl ?_
  rintro r M' ⟨rfl, rfl⟩
  rw [isS_eqf e1 (by decide)]
  refine hG.run [26] 20 ?_
  simp [wp, stepI, ln, jmp, cmpI, Value.category, rd, tyF, va_rf, st1, st2, clr, isLg, CB, inx_0, inx_1, inx_2, inx_3, inx_4, inx_5, bI_0, bI_1, bI_ok, fin3, tyX12, entL, q0, dX12_sit_0, dX12_sit_1, dX12_sit_2, fT_12_135, dX12_sit_5, dX12_sit_6, dX12_sit_7, dX12_sit_10, dX12_sit_13, dX12_sit_14, dX12_sit_15, dX12_sit_18, dX12_sit_19, dX12_sit_20, dX12_sit_23, dX12_sit_26, dX12_sit_27, fT_12_90, dX12_sit_30, dX12_sit_32, dX12_sit_33, dX12_sit_34, dX12_sit_35, dX12_sit_36, dX12_sit_37, dX12_sit_38, dX12_sit_41, dX12_sit_42, dX12_sit_43, dX12_sit_44, dX12_sit_45, dX12_sit_46, dX12_sit_47, fT_12_13, dX12_sit_50, dX12_sit_51, dX12_sit_52, dX12_sit_55, dX12_sit_56, dX12_sit_59, dX12_sit_60, dX12_sit_63, dX12_sit_65, dX12_sit_66, dX12_sit_67, dX12_sit_68, dX12_sit_69, dX12_sit_70, dX12_sit_71, dX12_sit_74, dX12_sit_75, dX12_sit_76, dX12_sit_79, dX12_sit_82, dX12_sit_83, dX12_sit_86, dX12_sit_88, dX12_sit_89, dX12_sit_90, dX12_sit_91, dX12_sit_92, dX12_sit_93, dX12_sit_94, dX12_sit_95]
  refine ⟨fun y => no (by simp [sitB, z, y]), fun y => last (by simp [y])⟩
/-- may x be planned on k? -/
def plC (mI : Nat → Nat → Int32) (np a : Nat) (k : Int32) : Nat := fa_first (fun p => decide (p ≠ a) && decide (mI 156 (131 + p) - nI 1 = k)) np
def plB (mI : Nat → Nat → Int32) (np : Nat) (x k : Int32) : Bool := isP mI x && (decide (k = -nI 1) || isS mI k) && (decide (k < nI 0) || decide (¬ plC mI np x.toNatClampNeg k < np))
set_option maxHeartbeats 4000000 in
set_option maxRecDepth 100000 in
theorem c12_plan (l : Launch) (X : Cx) (d : Nat) (sh : Nat → Option Sh) (mI : Nat → Nat → Int32) (mL : Nat → Nat → Int64) (mR : Nat → Nat → Option Nat) (n : Nat) (hL : ML sh mR) (np : Nat) (hp : PupM mI np) (x k : Int32) (hd : 1 ≤ d) : Cn l X yX12_plan cX12_plan 4 (some .boolean) d [.ref 129, .int x, .int k] (sh, mI, mL, mR, n) (fun r M' => r = some (.int (bI (plB mI np x k))) ∧ M' = (sh, if plB mI np x k then up2 (thr mI) 156 (131 + x.toNatClampNeg) (nI 1 + k) else thr mI, mL, mR, n)) 0 0 := by
  refine Cn.run 12 false (by decide) rfl (by decide) (by simp [entA, Value.category]) ?_
  intro P G hP hG
  have q0 := hL.1
  have q_s := hL.2 (41, 156, .int, 144) (by decide)
  dsimp only at q_s
  have q_pupils := hL.2 (10, 131, .int, 6) (by decide)
  dsimp only at q_pupils
  have hpp := hp.2
  refine hG.run [] 20 ?_
  simp [wp, stepI, ln, jmp, cmpI, Value.category, rd, tyF, va_rf, st1, st2, clr, isLg, CB, inx_0, inx_1, inx_2, inx_3, inx_4, inx_5, bI_0, bI_1, bI_ok, fin3, tyX12, entL, q0, okv, wr, finF, clT, TX12, dX12_plan_0, dX12_plan_1, dX12_plan_2, fT_12_135, dX12_plan_5, dX12_plan_6, dX12_plan_7, dX12_plan_10, dX12_plan_13, dX12_plan_14, dX12_plan_15, dX12_plan_18, dX12_plan_19, dX12_plan_20, dX12_plan_23, dX12_plan_26, dX12_plan_27, dX12_plan_28, dX12_plan_29, dX12_plan_30, dX12_plan_31, dX12_plan_32, fT_12_13, dX12_plan_35, dX12_plan_36, dX12_plan_37, dX12_plan_40, dX12_plan_41, dX12_plan_44, dX12_plan_45, dX12_plan_46, dX12_plan_49, dX12_plan_50, fT_12_90, dX12_plan_53, dX12_plan_56, dX12_plan_57, dX12_plan_58, dX12_plan_59, dX12_plan_60, dX12_plan_61, dX12_plan_62, dX12_plan_65, dX12_plan_66, dX12_plan_67, dX12_plan_70, dX12_plan_73, dX12_plan_74, dX12_plan_77, dX12_plan_80, dX12_plan_81, dX12_plan_82, dX12_plan_83, dX12_plan_84, dX12_plan_85, dX12_plan_86, dX12_plan_87]
  rw [show up2 mI 129 0 0 = thr mI from rfl]
  have e1 := thr_eqf mI
  have t1 : ∀ b k, b ≠ 129 → thr mI b k = mI b k := fun b k hb => e1 b k (by simp) (fun z => hb z.1)
  have e0 : thr mI 131 0 = nI np := (t1 _ _ (by decide)).trans hp.1
  refine hG.callV dX12_plan_7 mv_12_329 [.int x] [] (c12_isPupil l X (d - 1) sh (thr mI) mL mR n hL x) ⟨_, rfl, rfl⟩ q0 (by omega) rfl (by decide) (by simp [Value.category]) rfl ?_
  rintro r M' ⟨rfl, rfl⟩
  rw [isP_eqf e1 (by decide)]
  refine hG.run [28] 20 ?_
  simp [wp, stepI, ln, jmp, cmpI, Value.category, rd, tyF, va_rf, st1, st2, clr, isLg, CB, inx_0, inx_1, inx_2, inx_3, inx_4, inx_5, bI_0, bI_1, bI_ok, fin3, tyX12, entL, q0, dX12_plan_0, dX12_plan_1, dX12_plan_2, fT_12_135, dX12_plan_5, dX12_plan_6, dX12_plan_7, dX12_plan_10, dX12_plan_13, dX12_plan_14, dX12_plan_15, dX12_plan_18, dX12_plan_19, dX12_plan_20, dX12_plan_23, dX12_plan_26, dX12_plan_27, dX12_plan_28, dX12_plan_29, dX12_plan_30, dX12_plan_31, dX12_plan_32, fT_12_13, dX12_plan_35, dX12_plan_36, dX12_plan_37, dX12_plan_40, dX12_plan_41, dX12_plan_44, dX12_plan_45, dX12_plan_46, dX12_plan_49, dX12_plan_50, fT_12_90, dX12_plan_53, dX12_plan_56, dX12_plan_57, dX12_plan_58, dX12_plan_59, dX12_plan_60, dX12_plan_61, dX12_plan_62, dX12_plan_65, dX12_plan_66, dX12_plan_67, dX12_plan_70, dX12_plan_73, dX12_plan_74, dX12_plan_77, dX12_plan_80, dX12_plan_81, dX12_plan_82, dX12_plan_83, dX12_plan_84, dX12_plan_85, dX12_plan_86, dX12_plan_87]
  have no : plB mI np x k = false → P (some (.int 0)) (sh, thr mI, mL, mR, n) := fun z => hP _ _ (by rw [z]; exact ⟨rfl, rfl⟩)
  refine ⟨fun h => no (by simp [plB, h]), fun h => ?_⟩
  obtain ⟨a, ha, rfl⟩ := isP_nat hp h
  have hno := fa_first_no (fun p => decide (p ≠ a) && decide (mI 156 (131 + p) - nI 1 = k)) np
  have hyes := fa_first_yes (fun p => decide (p ≠ a) && decide (mI 156 (131 + p) - nI 1 = k)) np
  have hle := fa_first_le (fun p => decide (p ≠ a) && decide (mI 156 (131 + p) - nI 1 = k)) np
  rw [show fa_first (fun p => decide (p ≠ a) && decide (mI 156 (131 + p) - nI 1 = k)) np = plC mI np a k from rfl] at hno hyes hle
  have last : (decide (k = -nI 1) || isS mI k) = true → G 28 [some (.ref 129), some (.int (nI a)), some (.int k), none] [] (sh, thr mI, mL, mR, n) := fun hk => by
    have fin : plB mI np (nI a) k = true → ∀ v, G 73 [some (.ref 129), some (.int (nI a)), some (.int k), v] [] (sh, thr mI, mL, mR, n) := fun z v => by
      refine hG.run [] 20 ?_
      simp [wp, stepI, ln, jmp, cmpI, Value.category, rd, tyF, va_rf, st1, st2, clr, isLg, CB, inx_0, inx_1, inx_2, inx_3, inx_4, inx_5, bI_0, bI_1, bI_ok, fin3, tyX12, entL, q0, q_s, dX12_plan_0, dX12_plan_1, dX12_plan_2, fT_12_135, dX12_plan_5, dX12_plan_6, dX12_plan_7, dX12_plan_10, dX12_plan_13, dX12_plan_14, dX12_plan_15, dX12_plan_18, dX12_plan_19, dX12_plan_20, dX12_plan_23, dX12_plan_26, dX12_plan_27, dX12_plan_28, dX12_plan_29, dX12_plan_30, dX12_plan_31, dX12_plan_32, fT_12_13, dX12_plan_35, dX12_plan_36, dX12_plan_37, dX12_plan_40, dX12_plan_41, dX12_plan_44, dX12_plan_45, dX12_plan_46, dX12_plan_49, dX12_plan_50, fT_12_90, dX12_plan_53, dX12_plan_56, dX12_plan_57, dX12_plan_58, dX12_plan_59, dX12_plan_60, dX12_plan_61, dX12_plan_62, dX12_plan_65, dX12_plan_66, dX12_plan_67, dX12_plan_70, dX12_plan_73, dX12_plan_74, dX12_plan_77, dX12_plan_80, dX12_plan_81, dX12_plan_82, dX12_plan_83, dX12_plan_84, dX12_plan_85, dX12_plan_86, dX12_plan_87]
      simp (disch := omega) only [li, nI_add, nI_clamp, nI_ltI, nI_leI, nI_eq, inx_iff, a31, nI_1shl', nI_shr', div_bit, tb1, tb0, fa_or, fa_and, nI_not, pk_sub, nI_dec]
      refine ⟨by omega, hP _ _ ?_⟩
      rw [z, if_pos rfl, nI_clamp (by omega)]
      exact ⟨rfl, rfl⟩
    have loop : ∀ f i, np - i < f → i ≤ plC mI np a k → G 30 [some (.ref 129), some (.int (nI a)), some (.int k), some (.int (nI i))] [] (sh, thr mI, mL, mR, n) := by
      intro f
      induction f with
      | zero => intro i h; omega
      | succ f ih =>
        intro i hf hi
        have nx : i < np → (decide (i ≠ a) && decide (mI 156 (131 + i) - nI 1 = k)) = false → G 30 [some (.ref 129), some (.int (nI a)), some (.int k), some (.int (nI (i + 1)))] [] (sh, thr mI, mL, mR, n) := fun h2 z => by
          refine ih (i + 1) (by omega) ?_
          rcases Nat.lt_or_ge i (plC mI np a k) with y | y
          · omega
          · have := hyes (by omega)
            rw [show plC mI np a k = i by omega] at this
            rw [z] at this
            cases this
        refine hG.run [30, 73] 40 ?_
        simp [wp, stepI, ln, jmp, cmpI, Value.category, rd, tyF, va_rf, st1, st2, clr, isLg, CB, inx_0, inx_1, inx_2, inx_3, inx_4, inx_5, bI_0, bI_1, bI_ok, fin3, tyX12, entL, q0, q_s, q_pupils, dX12_plan_0, dX12_plan_1, dX12_plan_2, fT_12_135, dX12_plan_5, dX12_plan_6, dX12_plan_7, dX12_plan_10, dX12_plan_13, dX12_plan_14, dX12_plan_15, dX12_plan_18, dX12_plan_19, dX12_plan_20, dX12_plan_23, dX12_plan_26, dX12_plan_27, dX12_plan_28, dX12_plan_29, dX12_plan_30, dX12_plan_31, dX12_plan_32, fT_12_13, dX12_plan_35, dX12_plan_36, dX12_plan_37, dX12_plan_40, dX12_plan_41, dX12_plan_44, dX12_plan_45, dX12_plan_46, dX12_plan_49, dX12_plan_50, fT_12_90, dX12_plan_53, dX12_plan_56, dX12_plan_57, dX12_plan_58, dX12_plan_59, dX12_plan_60, dX12_plan_61, dX12_plan_62, dX12_plan_65, dX12_plan_66, dX12_plan_67, dX12_plan_70, dX12_plan_73, dX12_plan_74, dX12_plan_77, dX12_plan_80, dX12_plan_81, dX12_plan_82, dX12_plan_83, dX12_plan_84, dX12_plan_85, dX12_plan_86, dX12_plan_87]
        simp (disch := omega) only [li, nI_add, nI_clamp, nI_ltI, nI_leI, nI_eq, inx_iff, a31, nI_1shl', nI_shr', div_bit, tb1, tb0, fa_or, fa_and, nI_not, pk_sub, nI_dec, e0]
        refine ⟨fun h2 => fin ?_ _, fun h2 => ⟨fun h3 => fin ?_ _, fun h3 => ?_⟩⟩
        · simp (disch := omega) [plB, h, hk, nI_clamp]
          exact Or.inr (by omega)
        · simp (disch := omega) [plB, h, hk, nI_clamp, h3]
        · simp (disch := omega) only [li, nI_add, nI_clamp, nI_ltI, nI_leI, nI_eq, inx_iff, a31, nI_1shl', nI_shr', div_bit, tb1, tb0, fa_or, fa_and, nI_not, pk_sub, nI_dec, t1]
          refine ⟨fun z => nx h2 (by simp [z]), fun z => ⟨by omega, fun z2 => nx h2 (by simp [z2]), fun z2 => no ?_⟩⟩
          have e : plC mI np a k = i := by
            rcases Nat.lt_or_ge i (plC mI np a k) with y | y
            · have := hno i y
              simp [z, z2] at this
            · omega
          have h4 : ¬ k < nI 0 := Int32.not_lt.mpr h3
          simp (disch := omega) [plB, h4, nI_clamp, e, h2]
    refine hG.run [30] 20 ?_
    simp [wp, stepI, ln, jmp, cmpI, Value.category, rd, tyF, va_rf, st1, st2, clr, isLg, CB, inx_0, inx_1, inx_2, inx_3, inx_4, inx_5, bI_0, bI_1, bI_ok, fin3, tyX12, entL, q0, q_s, dX12_plan_0, dX12_plan_1, dX12_plan_2, fT_12_135, dX12_plan_5, dX12_plan_6, dX12_plan_7, dX12_plan_10, dX12_plan_13, dX12_plan_14, dX12_plan_15, dX12_plan_18, dX12_plan_19, dX12_plan_20, dX12_plan_23, dX12_plan_26, dX12_plan_27, dX12_plan_28, dX12_plan_29, dX12_plan_30, dX12_plan_31, dX12_plan_32, fT_12_13, dX12_plan_35, dX12_plan_36, dX12_plan_37, dX12_plan_40, dX12_plan_41, dX12_plan_44, dX12_plan_45, dX12_plan_46, dX12_plan_49, dX12_plan_50, fT_12_90, dX12_plan_53, dX12_plan_56, dX12_plan_57, dX12_plan_58, dX12_plan_59, dX12_plan_60, dX12_plan_61, dX12_plan_62, dX12_plan_65, dX12_plan_66, dX12_plan_67, dX12_plan_70, dX12_plan_73, dX12_plan_74, dX12_plan_77, dX12_plan_80, dX12_plan_81, dX12_plan_82, dX12_plan_83, dX12_plan_84, dX12_plan_85, dX12_plan_86, dX12_plan_87]
    exact loop (np + 1) 0 (by omega) (by omega)
  simp only [li]
  refine ⟨fun z => last (by simp [z]), fun z => ?_⟩
  refine hG.callV dX12_plan_20 mv_12_413 [.int k] [] (c12_isSeat l X (d - 1) sh (thr mI) mL mR n hL k) ⟨_, rfl, rfl⟩ q0 (by omega) rfl (by decide) (by simp [Value.category]) rfl ?_
  rintro r M' ⟨rfl, rfl⟩
  rw [isS_eqf e1 (by decide)]
  refine hG.run [28] 20 ?_
  simp [wp, stepI, ln, jmp, cmpI, Value.category, rd, tyF, va_rf, st1, st2, clr, isLg, CB, inx_0, inx_1, inx_2, inx_3, inx_4, inx_5, bI_0, bI_1, bI_ok, fin3, tyX12, entL, q0, dX12_plan_0, dX12_plan_1, dX12_plan_2, fT_12_135, dX12_plan_5, dX12_plan_6, dX12_plan_7, dX12_plan_10, dX12_plan_13, dX12_plan_14, dX12_plan_15, dX12_plan_18, dX12_plan_19, dX12_plan_20, dX12_plan_23, dX12_plan_26, dX12_plan_27, dX12_plan_28, dX12_plan_29, dX12_plan_30, dX12_plan_31, dX12_plan_32, fT_12_13, dX12_plan_35, dX12_plan_36, dX12_plan_37, dX12_plan_40, dX12_plan_41, dX12_plan_44, dX12_plan_45, dX12_plan_46, dX12_plan_49, dX12_plan_50, fT_12_90, dX12_plan_53, dX12_plan_56, dX12_plan_57, dX12_plan_58, dX12_plan_59, dX12_plan_60, dX12_plan_61, dX12_plan_62, dX12_plan_65, dX12_plan_66, dX12_plan_67, dX12_plan_70, dX12_plan_73, dX12_plan_74, dX12_plan_77, dX12_plan_80, dX12_plan_81, dX12_plan_82, dX12_plan_83, dX12_plan_84, dX12_plan_85, dX12_plan_86, dX12_plan_87]
  refine ⟨fun y => last (by simp [y]), fun y => no (by simp [plB, z, y])⟩
