/-- the row nearest to all -/
def rowN (np c : Nat) (fi se ma : Nat → Nat) (i : Nat) : Nat := nxP np c fi se ma (-nI 1) (fewC np c fi se ma (-nI 1)) (rwT np c fi se ma (-nI 1) (fewC np c fi se ma (-nI 1)) i)
set_option maxHeartbeats 4000000 in
set_option maxRecDepth 100000 in
theorem c12_lines (l : Launch) (X : Cx) (d : Nat) (sh : Nat → Option Sh) (mI : Nat → Nat → Int32) (mL : Nat → Nat → Int64) (mR : Nat → Nat → Option Nat) (n : Nat) (hL : ML sh mR) (np : Nat) (hp : PupM mI np) (c : Nat) (fi se ma : Nat → Nat) (hS : SayM mI c fi se ma) (hd : 2 ≤ d) : Cn l X yX12_lines cX12_lines 4 none d [.ref 129] (sh, mI, mL, mR, n) (fun r M' => r = none ∧ ∃ mI', M' = (sh, mI', mL, mR, n) ∧ Eqx [162, 163] mI mI' ∧ ∀ i, i < np → mI' 163 i = nI (rowN np c fi se ma i)) 0 0 := by
  refine Cn.run 12 false (by decide) rfl (by decide) (by simp [entA, Value.category]) ?_
  intro P G hP hG
  have q0 := hL.1
  have q_few := hL.2 (47, 162, .int, 1024) (by decide)
  dsimp only at q_few
  have q_pupils := hL.2 (10, 131, .int, 6) (by decide)
  dsimp only at q_pupils
  have q_rowBest := hL.2 (48, 163, .int, 10) (by decide)
  dsimp only at q_rowBest
  have hpp := hp.2
  have hpw := p2_10 hpp
  have hcc := hS.2.1
  have hF := fewC_ok np c fi se ma (-nI 1)
  obtain ⟨F, eF⟩ : ∃ F, F = fewC np c fi se ma (-nI 1) := ⟨_, rfl⟩
  obtain ⟨T, eT⟩ : ∃ T, T = rwT np c fi se ma (-nI 1) F := ⟨_, rfl⟩
  rw [← eF] at hF
  have hT := rwT_ok hF hcc hpp
  rw [← eT] at hT
  have hFl : ∀ t, t < 2 ^ np → F t ≤ 400 := fun t ht => by
    have := few_le hF hcc np t ht (by omega)
    omega
  have hTl : ∀ i, i < np → T i < 2 ^ np - 1 := fun i hi => by
    obtain ⟨h1, h2⟩ := hT i (by omega)
    rcases Nat.lt_or_ge (T i) (2 ^ np - 1) with z | z
    · exact z
    · have : cnp np (2 ^ np - 1) = np := fb_ct_all.mpr fun k hk => by rw [Nat.testBit_two_pow_sub_one, decide_eq_true hk]
      rw [show T i = 2 ^ np - 1 by omega, this] at h2
      omega
  refine hG.run [] 20 ?_
  simp [wp, stepI, ln, jmp, cmpI, Value.category, rd, tyF, va_rf, st1, st2, clr, isLg, CB, inx_0, inx_1, inx_2, inx_3, inx_4, inx_5, bI_0, bI_1, bI_ok, fin3, tyX12, entL, q0, dX12_lines_0, dX12_lines_1, dX12_lines_2, dX12_lines_5, dX12_lines_6, dX12_lines_7, dX12_lines_8, dX12_lines_9, dX12_lines_10, dX12_lines_11, dX12_lines_12, fT_12_13, dX12_lines_15, dX12_lines_16, dX12_lines_17, dX12_lines_20, dX12_lines_21, dX12_lines_22, dX12_lines_23, dX12_lines_24, dX12_lines_25, dX12_lines_26, dX12_lines_27, dX12_lines_28, dX12_lines_31, dX12_lines_32, dX12_lines_33, dX12_lines_34, dX12_lines_35, dX12_lines_38, dX12_lines_39, fT_12_108, dX12_lines_42, dX12_lines_43, dX12_lines_44, dX12_lines_45, dX12_lines_46, dX12_lines_47, dX12_lines_48, dX12_lines_49, dX12_lines_50, dX12_lines_53, dX12_lines_54, dX12_lines_55, dX12_lines_58, dX12_lines_61, dX12_lines_64, dX12_lines_65, fT_12_111, dX12_lines_68, dX12_lines_69, dX12_lines_70, dX12_lines_71, dX12_lines_72, dX12_lines_73, dX12_lines_74, dX12_lines_75, dX12_lines_76, dX12_lines_77, dX12_lines_80, dX12_lines_83]
  simp only [li]
  refine hG.callV dX12_lines_2 mv_12_363 [.int (-nI 1)] [] (c12_fewest l X (d - 1) sh mI mL mR n hL np hp c fi se ma hS (-nI 1) F hF (by omega)) ⟨_, rfl, rfl⟩ q0 (by omega) rfl (by decide) (by simp [Value.category]) rfl ?_
  rintro r M' ⟨rfl, mI1, rfl, h1, h2⟩
  have loop1 : ∀ f i v3 mI2, np - i < f → i ≤ np → Eqx [163] mI1 mI2 → (∀ k, k < i → mI2 163 k = nI (nxP np c fi se ma (-nI 1) F (T k))) → G 10 [some (.ref 129), some (.int (nI (T i))), some (.int (nI i)), v3] [] (sh, mI2, mL, mR, n) := by
    intro f
    induction f with
    | zero => intro i v3 mI2 h; omega
    | succ f ih =>
      intro i v3 mI2 hf hi g1 g2
      have g0 := (h1.mono (T := [162, 163]) (by decide)).tr (g1.mono (by decide))
      have e0 : mI2 131 0 = nI np := (g0 _ _ (by decide)).trans hp.1
      have eF2 : ∀ t, t ≤ 2 ^ np - 1 → mI2 162 t = nI (F t) := fun t ht => by rw [g1 _ _ (by decide), h2 t ht]
      have hTi := (hT i hi).1
      have loop2 : i < np → ∀ f2 j, nxP np c fi se ma (-nI 1) F (T i) - j < f2 → j ≤ nxP np c fi se ma (-nI 1) F (T i) → G 22 [some (.ref 129), some (.int (nI (T i))), some (.int (nI i)), some (.int (nI j))] [] (sh, mI2, mL, mR, n) := by
        intro hin f2
        have hq := nxP_ok hF hcc hpp (hTl i hin)
        have hno := fa_first_no (nxB c fi se ma (-nI 1) F (T i)) np
        have hyes := fa_first_yes (nxB c fi se ma (-nI 1) F (T i)) np hq
        rw [show fa_first (nxB c fi se ma (-nI 1) F (T i)) np = nxP np c fi se ma (-nI 1) F (T i) from rfl] at hno hyes
        have hT1 : T (i + 1) = T i ||| 2 ^ nxP np c fi se ma (-nI 1) F (T i) := by rw [eT]; rfl
        generalize hqe : nxP np c fi se ma (-nI 1) F (T i) = q at hq hno hyes hT1 ⊢
        induction f2 with
        | zero => intro j h; omega
        | succ f2 ih2 =>
          intro j hf2 hj
          have or2 := or_lt (np := np) (t := T i) (p := j) hTi (by omega)
          have nx : nxB c fi se ma (-nI 1) F (T i) j = false → G 22 [some (.ref 129), some (.int (nI (T i))), some (.int (nI i)), some (.int (nI (j + 1)))] [] (sh, mI2, mL, mR, n) := fun z => by
            rcases Nat.lt_or_ge j q with y | y
            · exact ih2 (j + 1) (by omega) (by omega)
            · rw [show j = q by omega, hyes] at z; cases z
          refine hG.run [10, 22] 20 ?_
          simp [wp, stepI, ln, jmp, cmpI, Value.category, rd, tyF, va_rf, st1, st2, clr, isLg, CB, inx_0, inx_1, inx_2, inx_3, inx_4, inx_5, bI_0, bI_1, bI_ok, fin3, tyX12, entL, q0, q_few, q_pupils, q_rowBest, dX12_lines_0, dX12_lines_1, dX12_lines_2, dX12_lines_5, dX12_lines_6, dX12_lines_7, dX12_lines_8, dX12_lines_9, dX12_lines_10, dX12_lines_11, dX12_lines_12, fT_12_13, dX12_lines_15, dX12_lines_16, dX12_lines_17, dX12_lines_20, dX12_lines_21, dX12_lines_22, dX12_lines_23, dX12_lines_24, dX12_lines_25, dX12_lines_26, dX12_lines_27, dX12_lines_28, dX12_lines_31, dX12_lines_32, dX12_lines_33, dX12_lines_34, dX12_lines_35, dX12_lines_38, dX12_lines_39, fT_12_108, dX12_lines_42, dX12_lines_43, dX12_lines_44, dX12_lines_45, dX12_lines_46, dX12_lines_47, dX12_lines_48, dX12_lines_49, dX12_lines_50, dX12_lines_53, dX12_lines_54, dX12_lines_55, dX12_lines_58, dX12_lines_61, dX12_lines_64, dX12_lines_65, fT_12_111, dX12_lines_68, dX12_lines_69, dX12_lines_70, dX12_lines_71, dX12_lines_72, dX12_lines_73, dX12_lines_74, dX12_lines_75, dX12_lines_76, dX12_lines_77, dX12_lines_80, dX12_lines_83]
          simp (disch := omega) only [li, nI_add, nI_clamp, nI_ltI, nI_leI, nI_eq, inx_iff, a31, nI_1shl', nI_shr', div_bit, tb1, tb0, fa_or, fa_and, nI_not, pk_sub, nI_dec]
          refine ⟨fun z => nx (by simp [nxB, z]), fun z => ?_⟩
          refine hG.callV dX12_lines_35 mv_12_353 [.int (nI j), .int (nI (T i)), .int (-nI 1)] [] (c12_broken l X (d - 1) sh mI2 mL mR n hL c fi se ma (hS.eqx g0 (by decide)) (-nI 1) j (T i) (by omega) (by omega)) ⟨_, rfl, rfl⟩ q0 (by omega) rfl (by decide) (by simp [Value.category]) rfl ?_
          rintro r M' ⟨rfl, rfl⟩
          refine hG.run [10, 22] 40 ?_
          simp [wp, stepI, ln, jmp, cmpI, Value.category, rd, tyF, va_rf, st1, st2, clr, isLg, CB, inx_0, inx_1, inx_2, inx_3, inx_4, inx_5, bI_0, bI_1, bI_ok, fin3, tyX12, entL, q0, q_few, q_pupils, q_rowBest, dX12_lines_0, dX12_lines_1, dX12_lines_2, dX12_lines_5, dX12_lines_6, dX12_lines_7, dX12_lines_8, dX12_lines_9, dX12_lines_10, dX12_lines_11, dX12_lines_12, fT_12_13, dX12_lines_15, dX12_lines_16, dX12_lines_17, dX12_lines_20, dX12_lines_21, dX12_lines_22, dX12_lines_23, dX12_lines_24, dX12_lines_25, dX12_lines_26, dX12_lines_27, dX12_lines_28, dX12_lines_31, dX12_lines_32, dX12_lines_33, dX12_lines_34, dX12_lines_35, dX12_lines_38, dX12_lines_39, fT_12_108, dX12_lines_42, dX12_lines_43, dX12_lines_44, dX12_lines_45, dX12_lines_46, dX12_lines_47, dX12_lines_48, dX12_lines_49, dX12_lines_50, dX12_lines_53, dX12_lines_54, dX12_lines_55, dX12_lines_58, dX12_lines_61, dX12_lines_64, dX12_lines_65, fT_12_111, dX12_lines_68, dX12_lines_69, dX12_lines_70, dX12_lines_71, dX12_lines_72, dX12_lines_73, dX12_lines_74, dX12_lines_75, dX12_lines_76, dX12_lines_77, dX12_lines_80, dX12_lines_83]
          have l1 := brk_le c fi se ma (-nI 1) j (T i)
          have l2 := hFl _ or2
          have l3 := hFl _ hTi
          have e5 : mI2 162 (T i ||| 2 ^ j) = nI (F (T i ||| 2 ^ j)) := eF2 _ (by omega)
          have e6 : mI2 162 (T i) = nI (F (T i)) := eF2 _ (by omega)
          simp (disch := omega) only [li, nI_add, nI_clamp, nI_ltI, nI_leI, nI_eq, inx_iff, a31, nI_1shl', nI_shr', div_bit, tb1, tb0, fa_or, fa_and, nI_not, pk_sub, nI_dec, e5, e6]
          refine ⟨by omega, by omega, fun y => ⟨by omega, ?_⟩, fun y => nx (by simp [nxB, y])⟩
          have hjq : j = q := by
            rcases Nat.lt_or_ge j q with x | x
            · have := hno j x
              unfold nxB at this
              rw [decide_eq_true y] at this
              simp [z] at this
            · omega
          subst hjq
          rw [← hT1]
          refine ih (i + 1) _ _ (by omega) (by omega) (g1.up (by decide)) (fun k hk => ?_)
          by_cases hki : k = i
          · subst hki
            rw [up2_eq]
            rw [hqe]
          · rw [up2_ne (fun x => hki x.2), g2 k (by omega)]
      refine hG.run [22] 20 ?_
      simp [wp, stepI, ln, jmp, cmpI, Value.category, rd, tyF, va_rf, st1, st2, clr, isLg, CB, inx_0, inx_1, inx_2, inx_3, inx_4, inx_5, bI_0, bI_1, bI_ok, fin3, tyX12, entL, q0, q_few, q_pupils, q_rowBest, dX12_lines_0, dX12_lines_1, dX12_lines_2, dX12_lines_5, dX12_lines_6, dX12_lines_7, dX12_lines_8, dX12_lines_9, dX12_lines_10, dX12_lines_11, dX12_lines_12, fT_12_13, dX12_lines_15, dX12_lines_16, dX12_lines_17, dX12_lines_20, dX12_lines_21, dX12_lines_22, dX12_lines_23, dX12_lines_24, dX12_lines_25, dX12_lines_26, dX12_lines_27, dX12_lines_28, dX12_lines_31, dX12_lines_32, dX12_lines_33, dX12_lines_34, dX12_lines_35, dX12_lines_38, dX12_lines_39, fT_12_108, dX12_lines_42, dX12_lines_43, dX12_lines_44, dX12_lines_45, dX12_lines_46, dX12_lines_47, dX12_lines_48, dX12_lines_49, dX12_lines_50, dX12_lines_53, dX12_lines_54, dX12_lines_55, dX12_lines_58, dX12_lines_61, dX12_lines_64, dX12_lines_65, fT_12_111, dX12_lines_68, dX12_lines_69, dX12_lines_70, dX12_lines_71, dX12_lines_72, dX12_lines_73, dX12_lines_74, dX12_lines_75, dX12_lines_76, dX12_lines_77, dX12_lines_80, dX12_lines_83]
      simp (disch := omega) only [li, nI_add, nI_clamp, nI_ltI, nI_leI, nI_eq, inx_iff, a31, nI_1shl', nI_shr', div_bit, tb1, tb0, fa_or, fa_and, nI_not, pk_sub, nI_dec, e0]
      refine ⟨fun h => hP _ _ ⟨rfl, mI2, rfl, g0, fun k hk => ?_⟩, fun h => loop2 h (np + 20) 0 (by have := nxP_ok hF hcc hpp (hTl i h); omega) (by omega)⟩
      rw [g2 k (by omega), eT, eF]; rfl
  refine hG.run [10] 20 ?_
  simp [wp, stepI, ln, jmp, cmpI, Value.category, rd, tyF, va_rf, st1, st2, clr, isLg, CB, inx_0, inx_1, inx_2, inx_3, inx_4, inx_5, bI_0, bI_1, bI_ok, fin3, tyX12, entL, q0, dX12_lines_0, dX12_lines_1, dX12_lines_2, dX12_lines_5, dX12_lines_6, dX12_lines_7, dX12_lines_8, dX12_lines_9, dX12_lines_10, dX12_lines_11, dX12_lines_12, fT_12_13, dX12_lines_15, dX12_lines_16, dX12_lines_17, dX12_lines_20, dX12_lines_21, dX12_lines_22, dX12_lines_23, dX12_lines_24, dX12_lines_25, dX12_lines_26, dX12_lines_27, dX12_lines_28, dX12_lines_31, dX12_lines_32, dX12_lines_33, dX12_lines_34, dX12_lines_35, dX12_lines_38, dX12_lines_39, fT_12_108, dX12_lines_42, dX12_lines_43, dX12_lines_44, dX12_lines_45, dX12_lines_46, dX12_lines_47, dX12_lines_48, dX12_lines_49, dX12_lines_50, dX12_lines_53, dX12_lines_54, dX12_lines_55, dX12_lines_58, dX12_lines_61, dX12_lines_64, dX12_lines_65, fT_12_111, dX12_lines_68, dX12_lines_69, dX12_lines_70, dX12_lines_71, dX12_lines_72, dX12_lines_73, dX12_lines_74, dX12_lines_75, dX12_lines_76, dX12_lines_77, dX12_lines_80, dX12_lines_83]
  have := loop1 (np + 1) 0 none mI1 (by omega) (by omega) Eqx.rf (fun k hk => by omega)
  rw [show T 0 = 0 by rw [eT]; rfl] at this
  exact this
def rowA (mI : Nat → Nat → Int32) (np c : Nat) (fi se ma : Nat → Nat) (x : Int32) : Int32 := if isP mI x then nI (rowN np c fi se ma x.toNatClampNeg) else -nI 1
set_option maxHeartbeats 4000000 in
set_option maxRecDepth 100000 in
theorem c12_row (l : Launch) (X : Cx) (d : Nat) (sh : Nat → Option Sh) (mI : Nat → Nat → Int32) (mL : Nat → Nat → Int64) (mR : Nat → Nat → Option Nat) (n : Nat) (hL : ML sh mR) (np : Nat) (hp : PupM mI np) (c : Nat) (fi se ma : Nat → Nat) (hS : SayM mI c fi se ma) (x : Int32) (hd : 3 ≤ d) : Cn l X yX12_row cX12_row 2 (some .int) d [.ref 129, .int x] (sh, mI, mL, mR, n) (fun r M' => r = some (.int (rowA mI np c fi se ma x)) ∧ ∃ mI', M' = (sh, mI', mL, mR, n) ∧ Eqf [162, 163] [0] mI mI') 0 0 := by
  refine Cn.run 12 false (by decide) rfl (by decide) (by simp [entA, Value.category]) ?_
  intro P G hP hG
  have q0 := hL.1
  have q_rowBest := hL.2 (48, 163, .int, 10) (by decide)
  dsimp only at q_rowBest
  have hpp := hp.2
  refine hG.run [] 20 ?_
  simp [wp, stepI, ln, jmp, cmpI, Value.category, rd, tyF, va_rf, st1, st2, clr, isLg, CB, inx_0, inx_1, inx_2, inx_3, inx_4, inx_5, bI_0, bI_1, bI_ok, fin3, tyX12, entL, q0, okv, wr, finF, clT, TX12, dX12_row_0, dX12_row_1, dX12_row_2, fT_12_135, dX12_row_5, dX12_row_6, dX12_row_7, dX12_row_10, dX12_row_13, dX12_row_14, dX12_row_15, dX12_row_16, dX12_row_19, dX12_row_20, fT_12_111, dX12_row_23, dX12_row_24, dX12_row_25]
  have e1 : Eqf [162, 163] [0] mI (up2 mI 129 0 0) := Eqf.rf.upf (by decide)
  generalize up2 mI 129 0 0 = mI0 at e1 ⊢
  refine hG.callV dX12_row_7 mv_12_329 [.int x] [] (c12_isPupil l X (d - 1) sh mI0 mL mR n hL x) ⟨_, rfl, rfl⟩ q0 (by omega) rfl (by decide) (by simp [Value.category]) rfl ?_
  rintro r M' ⟨rfl, rfl⟩
  rw [isP_eqf e1 (by decide)]
  refine hG.run [] 20 ?_
  simp [wp, stepI, ln, jmp, cmpI, Value.category, rd, tyF, va_rf, st1, st2, clr, isLg, CB, inx_0, inx_1, inx_2, inx_3, inx_4, inx_5, bI_0, bI_1, bI_ok, fin3, tyX12, entL, q0, dX12_row_0, dX12_row_1, dX12_row_2, fT_12_135, dX12_row_5, dX12_row_6, dX12_row_7, dX12_row_10, dX12_row_13, dX12_row_14, dX12_row_15, dX12_row_16, dX12_row_19, dX12_row_20, fT_12_111, dX12_row_23, dX12_row_24, dX12_row_25]
  refine ⟨fun h => ?_, fun h => hP _ _ ⟨by simp [rowA, h, li], _, rfl, e1⟩⟩
  refine hG.callV dX12_row_16 mv_12_366 [] [] (c12_lines l X (d - 1) sh mI0 mL mR n hL np (hp.eqf e1 (by decide)) c fi se ma (hS.eqf e1 (by decide)) (by omega)) ⟨_, rfl, rfl⟩ q0 (by omega) rfl (by decide) (by simp [Value.category]) rfl ?_
  rintro r M' ⟨rfl, mI1, rfl, h1, h2⟩
  obtain ⟨a, ha, rfl⟩ := isP_nat hp h
  refine hG.run [] 20 ?_
  simp [wp, stepI, ln, jmp, cmpI, Value.category, rd, tyF, va_rf, st1, st2, clr, isLg, CB, inx_0, inx_1, inx_2, inx_3, inx_4, inx_5, bI_0, bI_1, bI_ok, fin3, tyX12, entL, q0, q_rowBest, dX12_row_0, dX12_row_1, dX12_row_2, fT_12_135, dX12_row_5, dX12_row_6, dX12_row_7, dX12_row_10, dX12_row_13, dX12_row_14, dX12_row_15, dX12_row_16, dX12_row_19, dX12_row_20, fT_12_111, dX12_row_23, dX12_row_24, dX12_row_25]
  simp (disch := omega) only [li, nI_add, nI_clamp, nI_ltI, nI_leI, nI_eq, inx_iff, a31, nI_1shl', nI_shr', div_bit, tb1, tb0, fa_or, fa_and, nI_not, pk_sub, nI_dec, h2]
  exact ⟨by omega, hP _ _ ⟨by simp (disch := omega) [rowA, h, nI_clamp], _, rfl, e1.tr (h1.f (by decide))⟩⟩
