theorem abv_lt {np c : Nat} {fi se : Nat → Nat} (h : ∀ k, k < c → fi k < 10) (p : Nat) : abv np c fi se p < 1024 := clR_lt (fun x => by split; exact ahd_lt h; decide) np p
theorem isP_nat {mI : Nat → Nat → Int32} {np : Nat} (hp : PupM mI np) {x : Int32} (h : isP mI x = true) : ∃ k, k < np ∧ x = nI k := by
  unfold isP at h
  rw [decide_eq_true_eq, hp.1] at h
  have hpp := hp.2
  obtain ⟨k, hk, rfl⟩ := nI_of (x := x) (by rw [Int32.not_lt]; exact h.1)
  exact ⟨k, (nI_ltI hk (by omega)).mp h.2, rfl⟩
theorem isP_nI {mI : Nat → Nat → Int32} {np : Nat} (hp : PupM mI np) {k : Nat} (h : k < np) : isP mI (nI k) = true := by
  have hpp := hp.2
  unfold isP
  rw [decide_eq_true_eq, hp.1]
  exact ⟨nI_pos' (by omega), nI_lt h (by omega)⟩
theorem isP_eqf {S F : List Nat} {mI mI' : Nat → Nat → Int32} (he : Eqf S F mI mI') (hs : 131 ∉ S) (x : Int32) : isP mI' x = isP mI x := by
  unfold isP
  rw [he _ _ hs (fun z => by cases z.1)]
theorem is2_eqf {S F : List Nat} {mI mI' : Nat → Nat → Int32} (he : Eqf S F mI mI') (hs : 131 ∉ S) (x y : Int32) : is2 mI' x y = is2 mI x y := by
  unfold is2
  rw [isP_eqf he hs, isP_eqf he hs]
/-- what sure answers -/
def sureA (mI : Nat → Nat → Int32) (np c : Nat) (fi se : Nat → Nat) (x y : Int32) : Int32 := if is2 mI x y && decide (0 < ordN np c fi se) then (if (abv np c fi se y.toNatClampNeg).testBit x.toNatClampNeg then 1 else if (abv np c fi se x.toNatClampNeg).testBit y.toNatClampNeg then 2 else 0) else -1
set_option maxHeartbeats 4000000 in
set_option maxRecDepth 100000 in
theorem c12_sure (l : Launch) (X : Cx) (d : Nat) (sh : Nat → Option Sh) (mI : Nat → Nat → Int32) (mL : Nat → Nat → Int64) (mR : Nat → Nat → Option Nat) (n : Nat) (hL : ML sh mR) (np : Nat) (hp : PupM mI np) (c : Nat) (fi se ma : Nat → Nat) (hS : SayM mI c fi se ma) (hd : 3 ≤ d) (x y : Int32) : Cn l X yX12_sure cX12_sure 3 (some .int) d [.ref 129, .int x, .int y] (sh, mI, mL, mR, n) (fun r M' => r = some (.int (sureA mI np c fi se x y)) ∧ ∃ mI', M' = (sh, mI', mL, mR, n) ∧ Eqf [159, 160, 161] [0] mI mI') 0 0 := by
  refine Cn.run 12 false (by decide) rfl (by decide) (by simp [entA, Value.category]) ?_
  intro P G hP hG
  have q0 := hL.1
  have q_above := hL.2 (46, 161, .int, 10) (by decide)
  dsimp only at q_above
  have hpp := hp.2
  have hfi : ∀ k, k < c → fi k < 10 := fun k hk => (hS.2.2 k hk).2.2.2.1
  refine hG.run [] 20 ?_
  simp [wp, stepI, ln, jmp, cmpI, Value.category, rd, tyF, va_rf, st1, st2, clr, isLg, CB, inx_0, inx_1, inx_2, inx_3, inx_4, inx_5, bI_0, bI_1, bI_ok, fin3, tyX12, entL, q0, okv, wr, finF, clT, TX12, dX12_sure_0, dX12_sure_1, dX12_sure_2, fT_12_135, dX12_sure_5, dX12_sure_6, dX12_sure_7, dX12_sure_8, dX12_sure_11, dX12_sure_14, dX12_sure_15, dX12_sure_18, dX12_sure_21, dX12_sure_22, dX12_sure_23, dX12_sure_24, fT_12_105, dX12_sure_27, dX12_sure_28, dX12_sure_29, dX12_sure_30, dX12_sure_31, dX12_sure_32, dX12_sure_33, dX12_sure_34, dX12_sure_37, dX12_sure_38, dX12_sure_41, dX12_sure_42, dX12_sure_45, dX12_sure_46, dX12_sure_47, dX12_sure_48, dX12_sure_49, dX12_sure_50, dX12_sure_51, dX12_sure_52, dX12_sure_55, dX12_sure_56, dX12_sure_59, dX12_sure_60]
  have e1 : Eqf [159, 160, 161] [0] mI (up2 mI 129 0 0) := Eqf.rf.upf (by decide)
  generalize up2 mI 129 0 0 = mI0 at e1 ⊢
  refine hG.callV dX12_sure_8 mv_12_332 [.int x, .int y] [] (c12_areTwo l X (d - 1) sh mI0 mL mR n hL x y (by omega)) ⟨_, rfl, rfl⟩ q0 (by omega) rfl (by decide) (by simp [Value.category]) rfl ?_
  rintro r M' ⟨rfl, rfl⟩
  rw [is2_eqf e1 (by decide)]
  refine hG.run [] 20 ?_
  simp [wp, stepI, ln, jmp, cmpI, Value.category, rd, tyF, va_rf, st1, st2, clr, isLg, CB, inx_0, inx_1, inx_2, inx_3, inx_4, inx_5, bI_0, bI_1, bI_ok, fin3, tyX12, entL, q0, dX12_sure_0, dX12_sure_1, dX12_sure_2, fT_12_135, dX12_sure_5, dX12_sure_6, dX12_sure_7, dX12_sure_8, dX12_sure_11, dX12_sure_14, dX12_sure_15, dX12_sure_18, dX12_sure_21, dX12_sure_22, dX12_sure_23, dX12_sure_24, fT_12_105, dX12_sure_27, dX12_sure_28, dX12_sure_29, dX12_sure_30, dX12_sure_31, dX12_sure_32, dX12_sure_33, dX12_sure_34, dX12_sure_37, dX12_sure_38, dX12_sure_41, dX12_sure_42, dX12_sure_45, dX12_sure_46, dX12_sure_47, dX12_sure_48, dX12_sure_49, dX12_sure_50, dX12_sure_51, dX12_sure_52, dX12_sure_55, dX12_sure_56, dX12_sure_59, dX12_sure_60]
  refine ⟨fun h => hP _ _ ⟨by simp [sureA, h], _, rfl, e1⟩, fun h => ?_⟩
  refine hG.callV dX12_sure_15 mv_12_347 [] [] (c12_isSure l X (d - 1) sh mI0 mL mR n hL np (hp.eqf e1 (by decide)) c fi se ma (hS.eqf e1 (by decide)) (by omega)) ⟨_, rfl, rfl⟩ q0 (by omega) rfl (by decide) (by simp [Value.category]) rfl ?_
  rintro r M' ⟨rfl, mI1, rfl, h1, -, h3, -⟩
  have e2 := e1.tr (h1.f (T := [159, 160, 161]) (F := [0]) (by decide))
  have h9 := h
  unfold is2 at h9
  simp only [Bool.and_eq_true, decide_eq_true_eq] at h9
  obtain ⟨a, ha, rfl⟩ := isP_nat hp h9.1.1
  obtain ⟨b, hb, rfl⟩ := isP_nat hp h9.1.2
  have b1 := abv_lt (np := np) (se := se) hfi a
  have b2 := abv_lt (np := np) (se := se) hfi b
  refine hG.run [] 40 ?_
  simp [wp, stepI, ln, jmp, cmpI, Value.category, rd, tyF, va_rf, st1, st2, clr, isLg, CB, inx_0, inx_1, inx_2, inx_3, inx_4, inx_5, bI_0, bI_1, bI_ok, fin3, tyX12, entL, q0, q_above, dX12_sure_0, dX12_sure_1, dX12_sure_2, fT_12_135, dX12_sure_5, dX12_sure_6, dX12_sure_7, dX12_sure_8, dX12_sure_11, dX12_sure_14, dX12_sure_15, dX12_sure_18, dX12_sure_21, dX12_sure_22, dX12_sure_23, dX12_sure_24, fT_12_105, dX12_sure_27, dX12_sure_28, dX12_sure_29, dX12_sure_30, dX12_sure_31, dX12_sure_32, dX12_sure_33, dX12_sure_34, dX12_sure_37, dX12_sure_38, dX12_sure_41, dX12_sure_42, dX12_sure_45, dX12_sure_46, dX12_sure_47, dX12_sure_48, dX12_sure_49, dX12_sure_50, dX12_sure_51, dX12_sure_52, dX12_sure_55, dX12_sure_56, dX12_sure_59, dX12_sure_60]
  simp (disch := omega) only [li, nI_add, nI_clamp, nI_ltI, nI_leI, nI_eq, inx_iff, a31, nI_1shl', nI_shr', div_bit, tb1, tb0, fa_or, fa_and, nI_not, pk_sub, h3]
  refine ⟨fun z => ⟨by omega, fun z1 => ⟨by omega, fun z2 => hP _ _ ⟨?_, _, rfl, e2⟩, fun z2 => hP _ _ ⟨?_, _, rfl, e2⟩⟩, fun z1 => hP _ _ ⟨?_, _, rfl, e2⟩⟩, fun z => hP _ _ ⟨?_, _, rfl, e2⟩⟩
  · simp (disch := omega) [sureA, h, z, z1, z2, nI_clamp, li]
  · simp (disch := omega) [sureA, h, z, z1, z2, nI_clamp, li]
  · simp (disch := omega) [sureA, h, z, z1, nI_clamp, li]
  · simp [sureA, z, li]
/-- what span answers -/
def spanA (mI : Nat → Nat → Int32) (np c : Nat) (fi se : Nat → Nat) (x w : Int32) : Int32 := if isP mI x && wth w (nI 0) (nI 1) && decide (0 < ordN np c fi se) then (if w = nI 0 then nI (pcn (abv np c fi se x.toNatClampNeg)) else nI np - nI 1 - nI (fb_sm (fun p => ((abv np c fi se p).testBit x.toNatClampNeg).toNat) np)) else -nI 1
set_option maxHeartbeats 4000000 in
set_option maxRecDepth 100000 in
theorem c12_span (l : Launch) (X : Cx) (d : Nat) (sh : Nat → Option Sh) (mI : Nat → Nat → Int32) (mL : Nat → Nat → Int64) (mR : Nat → Nat → Option Nat) (n : Nat) (hL : ML sh mR) (np : Nat) (hp : PupM mI np) (c : Nat) (fi se ma : Nat → Nat) (hS : SayM mI c fi se ma) (hd : 3 ≤ d) (x w : Int32) : Cn l X yX12_span cX12_span 5 (some .int) d [.ref 129, .int x, .int w] (sh, mI, mL, mR, n) (fun r M' => r = some (.int (spanA mI np c fi se x w)) ∧ ∃ mI', M' = (sh, mI', mL, mR, n) ∧ Eqf [159, 160, 161] [0] mI mI') 0 0 := by
  refine Cn.run 12 false (by decide) rfl (by decide) (by simp [entA, Value.category]) ?_
  intro P G hP hG
  have q0 := hL.1
  have q_above := hL.2 (46, 161, .int, 10) (by decide)
  dsimp only at q_above
  have q_pupils := hL.2 (10, 131, .int, 6) (by decide)
  dsimp only at q_pupils
  have hpp := hp.2
  have hfi : ∀ k, k < c → fi k < 10 := fun k hk => (hS.2.2 k hk).2.2.2.1
  refine hG.run [] 20 ?_
  simp [wp, stepI, ln, jmp, cmpI, Value.category, rd, tyF, va_rf, st1, st2, clr, isLg, CB, inx_0, inx_1, inx_2, inx_3, inx_4, inx_5, bI_0, bI_1, bI_ok, fin3, tyX12, entL, q0, okv, wr, finF, clT, TX12, dX12_span_0, dX12_span_1, dX12_span_2, fT_12_135, dX12_span_5, dX12_span_6, dX12_span_7, dX12_span_10, dX12_span_13, dX12_span_14, dX12_span_15, dX12_span_16, dX12_span_19, dX12_span_22, dX12_span_23, dX12_span_26, dX12_span_29, dX12_span_30, dX12_span_31, dX12_span_32, dX12_span_33, dX12_span_34, dX12_span_36, dX12_span_38, dX12_span_39, fT_12_13, dX12_span_42, dX12_span_43, dX12_span_44, dX12_span_47, dX12_span_48, dX12_span_49, fT_12_105, dX12_span_52, dX12_span_54, dX12_span_55, dX12_span_56, dX12_span_57, dX12_span_58, dX12_span_59, dX12_span_60, dX12_span_61, dX12_span_64, dX12_span_67, dX12_span_68, dX12_span_71, dX12_span_72, dX12_span_75, dX12_span_76, dX12_span_77, dX12_span_80, dX12_span_83, dX12_span_84, dX12_span_87, dX12_span_88, dX12_span_89, dX12_span_90, dX12_span_91, dX12_span_92, dX12_span_93]
  have e1 : Eqf [159, 160, 161] [0] mI (up2 mI 129 0 0) := Eqf.rf.upf (by decide)
  generalize up2 mI 129 0 0 = mI0 at e1 ⊢
  refine hG.callV dX12_span_7 mv_12_329 [.int x] [] (c12_isPupil l X (d - 1) sh mI0 mL mR n hL x) ⟨_, rfl, rfl⟩ q0 (by omega) rfl (by decide) (by simp [Value.category]) rfl ?_
  rintro r M' ⟨rfl, rfl⟩
  rw [isP_eqf e1 (by decide)]
  refine hG.run [] 20 ?_
  simp [wp, stepI, ln, jmp, cmpI, Value.category, rd, tyF, va_rf, st1, st2, clr, isLg, CB, inx_0, inx_1, inx_2, inx_3, inx_4, inx_5, bI_0, bI_1, bI_ok, fin3, tyX12, entL, q0, dX12_span_0, dX12_span_1, dX12_span_2, fT_12_135, dX12_span_5, dX12_span_6, dX12_span_7, dX12_span_10, dX12_span_13, dX12_span_14, dX12_span_15, dX12_span_16, dX12_span_19, dX12_span_22, dX12_span_23, dX12_span_26, dX12_span_29, dX12_span_30, dX12_span_31, dX12_span_32, dX12_span_33, dX12_span_34, dX12_span_36, dX12_span_38, dX12_span_39, fT_12_13, dX12_span_42, dX12_span_43, dX12_span_44, dX12_span_47, dX12_span_48, dX12_span_49, fT_12_105, dX12_span_52, dX12_span_54, dX12_span_55, dX12_span_56, dX12_span_57, dX12_span_58, dX12_span_59, dX12_span_60, dX12_span_61, dX12_span_64, dX12_span_67, dX12_span_68, dX12_span_71, dX12_span_72, dX12_span_75, dX12_span_76, dX12_span_77, dX12_span_80, dX12_span_83, dX12_span_84, dX12_span_87, dX12_span_88, dX12_span_89, dX12_span_90, dX12_span_91, dX12_span_92, dX12_span_93]
  refine ⟨fun h => hP _ _ ⟨by simp [spanA, h, li], _, rfl, e1⟩, fun h => ?_⟩
  refine hG.callS dX12_span_16 ms_12_250 [.int w, .int 0, .int 1] [] (c12_within l X (d - 1) _ w 0 1) (by omega) rfl (by decide) (by simp [Value.category]) rfl ?_
  rintro r M' ⟨rfl, rfl⟩
  refine hG.run [] 20 ?_
  simp [wp, stepI, ln, jmp, cmpI, Value.category, rd, tyF, va_rf, st1, st2, clr, isLg, CB, inx_0, inx_1, inx_2, inx_3, inx_4, inx_5, bI_0, bI_1, bI_ok, fin3, tyX12, entL, q0, dX12_span_0, dX12_span_1, dX12_span_2, fT_12_135, dX12_span_5, dX12_span_6, dX12_span_7, dX12_span_10, dX12_span_13, dX12_span_14, dX12_span_15, dX12_span_16, dX12_span_19, dX12_span_22, dX12_span_23, dX12_span_26, dX12_span_29, dX12_span_30, dX12_span_31, dX12_span_32, dX12_span_33, dX12_span_34, dX12_span_36, dX12_span_38, dX12_span_39, fT_12_13, dX12_span_42, dX12_span_43, dX12_span_44, dX12_span_47, dX12_span_48, dX12_span_49, fT_12_105, dX12_span_52, dX12_span_54, dX12_span_55, dX12_span_56, dX12_span_57, dX12_span_58, dX12_span_59, dX12_span_60, dX12_span_61, dX12_span_64, dX12_span_67, dX12_span_68, dX12_span_71, dX12_span_72, dX12_span_75, dX12_span_76, dX12_span_77, dX12_span_80, dX12_span_83, dX12_span_84, dX12_span_87, dX12_span_88, dX12_span_89, dX12_span_90, dX12_span_91, dX12_span_92, dX12_span_93]
  have hwd : wth w 0 1 = wth w (nI 0) (nI 1) := rfl
  rw [hwd]
  refine ⟨fun hw => hP _ _ ⟨by simp [spanA, hw, li], _, rfl, e1⟩, fun hw => ?_⟩
  refine hG.callV dX12_span_23 mv_12_347 [] [] (c12_isSure l X (d - 1) sh mI0 mL mR n hL np (hp.eqf e1 (by decide)) c fi se ma (hS.eqf e1 (by decide)) (by omega)) ⟨_, rfl, rfl⟩ q0 (by omega) rfl (by decide) (by simp [Value.category]) rfl ?_
  rintro r M' ⟨rfl, mI1, rfl, h1, -, h3, -⟩
  have e2 := e1.tr (h1.f (T := [159, 160, 161]) (F := [0]) (by decide))
  obtain ⟨a, ha, rfl⟩ := isP_nat hp h
  have b1 : ∀ p, abv np c fi se p < 1024 := fun p => abv_lt hfi p
  have e0 : mI1 131 0 = nI np := (e2 _ _ (by decide) (by decide)).trans hp.1
  have b2 := b1 a
  have hz : 0 < ordN np c fi se → ∀ f i, np - i < f → i ≤ np → G 36 [some (.ref 129), some (.int (nI a)), some (.int w), some (.int (nI (fb_sm (fun p => ((abv np c fi se p).testBit a).toNat) i))), some (.int (nI i))] [] (sh, mI1, mL, mR, n) := by
    intro z f
    induction f with
    | zero => intro i hh; omega
    | succ f ih =>
      intro i hf hi
      refine hG.run [36] 40 ?_
      simp [wp, stepI, ln, jmp, cmpI, Value.category, rd, tyF, va_rf, st1, st2, clr, isLg, CB, inx_0, inx_1, inx_2, inx_3, inx_4, inx_5, bI_0, bI_1, bI_ok, fin3, tyX12, entL, q0, q_above, q_pupils, dX12_span_0, dX12_span_1, dX12_span_2, fT_12_135, dX12_span_5, dX12_span_6, dX12_span_7, dX12_span_10, dX12_span_13, dX12_span_14, dX12_span_15, dX12_span_16, dX12_span_19, dX12_span_22, dX12_span_23, dX12_span_26, dX12_span_29, dX12_span_30, dX12_span_31, dX12_span_32, dX12_span_33, dX12_span_34, dX12_span_36, dX12_span_38, dX12_span_39, fT_12_13, dX12_span_42, dX12_span_43, dX12_span_44, dX12_span_47, dX12_span_48, dX12_span_49, fT_12_105, dX12_span_52, dX12_span_54, dX12_span_55, dX12_span_56, dX12_span_57, dX12_span_58, dX12_span_59, dX12_span_60, dX12_span_61, dX12_span_64, dX12_span_67, dX12_span_68, dX12_span_71, dX12_span_72, dX12_span_75, dX12_span_76, dX12_span_77, dX12_span_80, dX12_span_83, dX12_span_84, dX12_span_87, dX12_span_88, dX12_span_89, dX12_span_90, dX12_span_91, dX12_span_92, dX12_span_93]
      have b3 := b1 i
      simp (disch := omega) only [li, nI_add, nI_clamp, nI_ltI, nI_leI, nI_eq, inx_iff, a31, nI_1shl', nI_shr', div_bit, tb1, tb0, fa_or, fa_and, nI_not, pk_sub, e0, h3]
      refine ⟨fun hh => ⟨fun hw0 => hP _ _ ⟨?_, _, rfl, e2⟩, fun hw0 => ⟨by omega, ?_⟩⟩, fun hh => ?_⟩
      · rw [show i = np by omega, ← pk_sub (by omega)]
        simp (disch := omega) [spanA, h, hw, hw0, z, nI_clamp]
      · refine hG.callS dX12_span_77 ms_12_350 [.int (nI (abv np c fi se a))] [] (c12_bits l X (d - 1) _ (abv np c fi se a) (by omega)) (by omega) rfl (by decide) (by simp [Value.category]) rfl ?_
        rintro r M' ⟨rfl, rfl⟩
        refine hG.run [] 40 ?_
        simp [wp, stepI, ln, jmp, cmpI, Value.category, rd, tyF, va_rf, st1, st2, clr, isLg, CB, inx_0, inx_1, inx_2, inx_3, inx_4, inx_5, bI_0, bI_1, bI_ok, fin3, tyX12, entL, q0, q_above, q_pupils, dX12_span_0, dX12_span_1, dX12_span_2, fT_12_135, dX12_span_5, dX12_span_6, dX12_span_7, dX12_span_10, dX12_span_13, dX12_span_14, dX12_span_15, dX12_span_16, dX12_span_19, dX12_span_22, dX12_span_23, dX12_span_26, dX12_span_29, dX12_span_30, dX12_span_31, dX12_span_32, dX12_span_33, dX12_span_34, dX12_span_36, dX12_span_38, dX12_span_39, fT_12_13, dX12_span_42, dX12_span_43, dX12_span_44, dX12_span_47, dX12_span_48, dX12_span_49, fT_12_105, dX12_span_52, dX12_span_54, dX12_span_55, dX12_span_56, dX12_span_57, dX12_span_58, dX12_span_59, dX12_span_60, dX12_span_61, dX12_span_64, dX12_span_67, dX12_span_68, dX12_span_71, dX12_span_72, dX12_span_75, dX12_span_76, dX12_span_77, dX12_span_80, dX12_span_83, dX12_span_84, dX12_span_87, dX12_span_88, dX12_span_89, dX12_span_90, dX12_span_91, dX12_span_92, dX12_span_93]
        refine hP _ _ ⟨?_, _, rfl, e2⟩
        rw [hw0] at hw
        simp (disch := omega) [spanA, h, hw, hw0, z, nI_clamp, pcn]
      · have := ih (i + 1) (by omega) (by omega)
        rw [fb_sm_succ] at this
        simp (disch := omega) only [li, nI_add, nI_clamp, nI_ltI, nI_leI, nI_eq, inx_iff, a31, nI_1shl', nI_shr', div_bit, tb1, tb0, fa_or, fa_and, nI_not, pk_sub, h3]
        exact ⟨by omega, this⟩
  refine hG.run [36] 40 ?_
  simp [wp, stepI, ln, jmp, cmpI, Value.category, rd, tyF, va_rf, st1, st2, clr, isLg, CB, inx_0, inx_1, inx_2, inx_3, inx_4, inx_5, bI_0, bI_1, bI_ok, fin3, tyX12, entL, q0, q_above, q_pupils, dX12_span_0, dX12_span_1, dX12_span_2, fT_12_135, dX12_span_5, dX12_span_6, dX12_span_7, dX12_span_10, dX12_span_13, dX12_span_14, dX12_span_15, dX12_span_16, dX12_span_19, dX12_span_22, dX12_span_23, dX12_span_26, dX12_span_29, dX12_span_30, dX12_span_31, dX12_span_32, dX12_span_33, dX12_span_34, dX12_span_36, dX12_span_38, dX12_span_39, fT_12_13, dX12_span_42, dX12_span_43, dX12_span_44, dX12_span_47, dX12_span_48, dX12_span_49, fT_12_105, dX12_span_52, dX12_span_54, dX12_span_55, dX12_span_56, dX12_span_57, dX12_span_58, dX12_span_59, dX12_span_60, dX12_span_61, dX12_span_64, dX12_span_67, dX12_span_68, dX12_span_71, dX12_span_72, dX12_span_75, dX12_span_76, dX12_span_77, dX12_span_80, dX12_span_83, dX12_span_84, dX12_span_87, dX12_span_88, dX12_span_89, dX12_span_90, dX12_span_91, dX12_span_92, dX12_span_93]
  refine ⟨fun z => hz (by omega) (np + 1) 0 (by omega) (by omega), fun z => hP _ _ ⟨by simp [spanA, z, li], _, rfl, e2⟩⟩
