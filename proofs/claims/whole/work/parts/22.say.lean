/-- thrown = 0 -/
def thr (mI : Nat → Nat → Int32) : Nat → Nat → Int32 := up2 mI 129 0 0
theorem thr_eqf (mI : Nat → Nat → Int32) : Eqf [] [0] mI (thr mI) := Eqf.rf.upf (by decide)
def sayB (mI : Nat → Nat → Int32) (c : Nat) (x y w : Int32) : Bool := is2 mI x y && wth w (nI 0) (nI 1) && decide (c ≠ 40)
def sayI (mI : Nat → Nat → Int32) (c : Nat) (x y w : Int32) : Nat → Nat → Int32 := up2 (up2 (up2 (up2 (thr mI) 156 (1 + c) x) 156 (41 + c) y) 156 (81 + c) w) 156 0 (nI (c + 1))
set_option maxHeartbeats 4000000 in
set_option maxRecDepth 100000 in
theorem c12_say (l : Launch) (X : Cx) (d : Nat) (sh : Nat → Option Sh) (mI : Nat → Nat → Int32) (mL : Nat → Nat → Int64) (mR : Nat → Nat → Option Nat) (n : Nat) (hL : ML sh mR) (c : Nat) (fi se ma : Nat → Nat) (hS : SayM mI c fi se ma) (x y w : Int32) (hd : 2 ≤ d) : Cn l X yX12_say cX12_say 4 (some .int) d [.ref 129, .int x, .int y, .int w] (sh, mI, mL, mR, n) (fun r M' => r = some (.int (if sayB mI c x y w then nI (c + 1) else -nI 1)) ∧ M' = (sh, if sayB mI c x y w then sayI mI c x y w else thr mI, mL, mR, n)) 0 0 := by
  refine Cn.run 12 false (by decide) rfl (by decide) (by simp [entA, Value.category]) ?_
  intro P G hP hG
  have q0 := hL.1
  have q_s := hL.2 (41, 156, .int, 144) (by decide)
  dsimp only at q_s
  have hcc := hS.2.1
  refine hG.run [] 20 ?_
  simp [wp, stepI, ln, jmp, cmpI, Value.category, rd, tyF, va_rf, st1, st2, clr, isLg, CB, inx_0, inx_1, inx_2, inx_3, inx_4, inx_5, bI_0, bI_1, bI_ok, fin3, tyX12, entL, q0, okv, wr, finF, clT, TX12, dX12_say_0, dX12_say_1, dX12_say_2, fT_12_135, dX12_say_5, dX12_say_6, dX12_say_7, dX12_say_8, dX12_say_11, dX12_say_14, dX12_say_15, dX12_say_16, dX12_say_17, dX12_say_20, dX12_say_23, dX12_say_24, fT_12_90, dX12_say_27, dX12_say_28, dX12_say_29, dX12_say_31, dX12_say_34, dX12_say_35, dX12_say_36, dX12_say_37, dX12_say_40, dX12_say_41, dX12_say_42, dX12_say_45, dX12_say_46, dX12_say_47, dX12_say_48, dX12_say_49, dX12_say_50, dX12_say_51, dX12_say_54, dX12_say_56, dX12_say_57, dX12_say_60, dX12_say_61, dX12_say_62, dX12_say_63, dX12_say_64, dX12_say_65, dX12_say_66, dX12_say_69, dX12_say_71, dX12_say_72, dX12_say_75, dX12_say_76, dX12_say_77, dX12_say_78, dX12_say_79, dX12_say_80, dX12_say_81, dX12_say_84, dX12_say_85, dX12_say_86, dX12_say_87, dX12_say_88, dX12_say_89, dX12_say_90, dX12_say_91, dX12_say_94, dX12_say_95, dX12_say_96]
  rw [show up2 mI 129 0 0 = thr mI from rfl]
  have e1 := thr_eqf mI
  have e0 := (hS.eqf e1 (by decide)).1
  refine hG.callV dX12_say_8 mv_12_332 [.int x, .int y] [] (c12_areTwo l X (d - 1) sh (thr mI) mL mR n hL x y (by omega)) ⟨_, rfl, rfl⟩ q0 (by omega) rfl (by decide) (by simp [Value.category]) rfl ?_
  rintro r M' ⟨rfl, rfl⟩
  rw [is2_eqf e1 (by decide)]
  refine hG.run [] 20 ?_
  simp [wp, stepI, ln, jmp, cmpI, Value.category, rd, tyF, va_rf, st1, st2, clr, isLg, CB, inx_0, inx_1, inx_2, inx_3, inx_4, inx_5, bI_0, bI_1, bI_ok, fin3, tyX12, entL, q0, dX12_say_0, dX12_say_1, dX12_say_2, fT_12_135, dX12_say_5, dX12_say_6, dX12_say_7, dX12_say_8, dX12_say_11, dX12_say_14, dX12_say_15, dX12_say_16, dX12_say_17, dX12_say_20, dX12_say_23, dX12_say_24, fT_12_90, dX12_say_27, dX12_say_28, dX12_say_29, dX12_say_31, dX12_say_34, dX12_say_35, dX12_say_36, dX12_say_37, dX12_say_40, dX12_say_41, dX12_say_42, dX12_say_45, dX12_say_46, dX12_say_47, dX12_say_48, dX12_say_49, dX12_say_50, dX12_say_51, dX12_say_54, dX12_say_56, dX12_say_57, dX12_say_60, dX12_say_61, dX12_say_62, dX12_say_63, dX12_say_64, dX12_say_65, dX12_say_66, dX12_say_69, dX12_say_71, dX12_say_72, dX12_say_75, dX12_say_76, dX12_say_77, dX12_say_78, dX12_say_79, dX12_say_80, dX12_say_81, dX12_say_84, dX12_say_85, dX12_say_86, dX12_say_87, dX12_say_88, dX12_say_89, dX12_say_90, dX12_say_91, dX12_say_94, dX12_say_95, dX12_say_96]
  refine ⟨fun h => hP _ _ (by simp [sayB, h, li]), fun h => ?_⟩
  refine hG.callS dX12_say_17 ms_12_250 [.int w, .int 0, .int 1] [] (c12_within l X (d - 1) _ w 0 1) (by omega) rfl (by decide) (by simp [Value.category]) rfl ?_
  rintro r M' ⟨rfl, rfl⟩
  rw [show wth w 0 1 = wth w (nI 0) (nI 1) from rfl]
  refine hG.run [] 80 ?_
  simp [wp, stepI, ln, jmp, cmpI, Value.category, rd, tyF, va_rf, st1, st2, clr, isLg, CB, inx_0, inx_1, inx_2, inx_3, inx_4, inx_5, bI_0, bI_1, bI_ok, fin3, tyX12, entL, q0, q_s, dX12_say_0, dX12_say_1, dX12_say_2, fT_12_135, dX12_say_5, dX12_say_6, dX12_say_7, dX12_say_8, dX12_say_11, dX12_say_14, dX12_say_15, dX12_say_16, dX12_say_17, dX12_say_20, dX12_say_23, dX12_say_24, fT_12_90, dX12_say_27, dX12_say_28, dX12_say_29, dX12_say_31, dX12_say_34, dX12_say_35, dX12_say_36, dX12_say_37, dX12_say_40, dX12_say_41, dX12_say_42, dX12_say_45, dX12_say_46, dX12_say_47, dX12_say_48, dX12_say_49, dX12_say_50, dX12_say_51, dX12_say_54, dX12_say_56, dX12_say_57, dX12_say_60, dX12_say_61, dX12_say_62, dX12_say_63, dX12_say_64, dX12_say_65, dX12_say_66, dX12_say_69, dX12_say_71, dX12_say_72, dX12_say_75, dX12_say_76, dX12_say_77, dX12_say_78, dX12_say_79, dX12_say_80, dX12_say_81, dX12_say_84, dX12_say_85, dX12_say_86, dX12_say_87, dX12_say_88, dX12_say_89, dX12_say_90, dX12_say_91, dX12_say_94, dX12_say_95, dX12_say_96]
  refine ⟨fun h2 => hP _ _ (by simp [sayB, h2, li]), fun h2 => ?_⟩
  simp (disch := omega) only [li, nI_add, nI_clamp, nI_ltI, nI_leI, nI_eq, inx_iff, a31, nI_1shl', nI_shr', div_bit, tb1, tb0, fa_or, fa_and, nI_not, pk_sub, nI_dec, e0]
  have hg : ∀ k, ¬ (156 = 129 ∧ k = 0) := fun k => by omega
  refine ⟨fun hc => ?_, fun hc => hP _ _ (by simp [sayB, hc])⟩
  have hb : sayB mI c x y w = true := by simp [sayB, h, h2, hc]
  rw [hb] at hP
  simp (disch := omega) only [li, nI_add, nI_clamp, nI_ltI, nI_leI, nI_eq, inx_iff, a31, nI_1shl', nI_shr', div_bit, tb1, tb0, fa_or, fa_and, nI_not, pk_sub, nI_dec, up2_eq, up2_ne, e0]
  exact ⟨by omega, by omega, by omega, hP _ _ ⟨rfl, rfl⟩⟩
set_option maxHeartbeats 4000000 in
set_option maxRecDepth 100000 in
theorem c12_unsay (l : Launch) (X : Cx) (d : Nat) (sh : Nat → Option Sh) (mI : Nat → Nat → Int32) (mL : Nat → Nat → Int64) (mR : Nat → Nat → Option Nat) (n : Nat) (hL : ML sh mR) (c : Nat) (fi se ma : Nat → Nat) (hS : SayM mI c fi se ma) : Cn l X yX12_unsay cX12_unsay 1 (some .boolean) d [.ref 129] (sh, mI, mL, mR, n) (fun r M' => r = some (.int (bI (decide (c ≠ 0)))) ∧ M' = (sh, if c ≠ 0 then up2 (thr mI) 156 0 (nI (c - 1)) else thr mI, mL, mR, n)) 0 0 := by
  refine Cn.run 12 false (by decide) rfl (by decide) (by simp [entA, Value.category]) ?_
  intro P G hP hG
  have q0 := hL.1
  have q_s := hL.2 (41, 156, .int, 144) (by decide)
  dsimp only at q_s
  have hcc := hS.2.1
  refine hG.run [] 40 ?_
  simp [wp, stepI, ln, jmp, cmpI, Value.category, rd, tyF, va_rf, st1, st2, clr, isLg, CB, inx_0, inx_1, inx_2, inx_3, inx_4, inx_5, bI_0, bI_1, bI_ok, fin3, tyX12, entL, q0, q_s, okv, wr, finF, clT, TX12, dX12_unsay_0, dX12_unsay_1, dX12_unsay_2, fT_12_135, dX12_unsay_5, dX12_unsay_6, fT_12_90, dX12_unsay_9, dX12_unsay_10, dX12_unsay_11, dX12_unsay_14, dX12_unsay_15, dX12_unsay_16, dX12_unsay_17, dX12_unsay_20, dX12_unsay_21, dX12_unsay_22, dX12_unsay_23, dX12_unsay_24, dX12_unsay_25, dX12_unsay_26, dX12_unsay_27]
  rw [show up2 mI 129 0 0 = thr mI from rfl]
  have e1 := thr_eqf mI
  have e0 := (hS.eqf e1 (by decide)).1
  simp (disch := omega) only [li, nI_add, nI_clamp, nI_ltI, nI_leI, nI_eq, inx_iff, a31, nI_1shl', nI_shr', div_bit, tb1, tb0, fa_or, fa_and, nI_not, pk_sub, nI_dec, e0]
  refine ⟨fun h => ?_, fun h => hP _ _ (by simp [h, bI, li])⟩
  simp (disch := omega) only [li, nI_add, nI_clamp, nI_ltI, nI_leI, nI_eq, inx_iff, a31, nI_1shl', nI_shr', div_bit, tb1, tb0, fa_or, fa_and, nI_not, pk_sub, nI_dec, e0]
  exact hP _ _ (by simp [h, bI, li])
def sayingA (c : Nat) (fi se ma : Nat → Nat) (i w : Int32) : Int32 := if decide (nI 0 ≤ i) && decide (i < nI c) && wth w (nI 0) (nI 2) then (if w = nI 0 then nI (fi i.toNatClampNeg) else if w = nI 1 then nI (se i.toNatClampNeg) else nI (ma i.toNatClampNeg)) else -nI 1
set_option maxHeartbeats 4000000 in
set_option maxRecDepth 100000 in
theorem c12_saying (l : Launch) (X : Cx) (d : Nat) (sh : Nat → Option Sh) (mI : Nat → Nat → Int32) (mL : Nat → Nat → Int64) (mR : Nat → Nat → Option Nat) (n : Nat) (hL : ML sh mR) (c : Nat) (fi se ma : Nat → Nat) (hS : SayM mI c fi se ma) (i w : Int32) (hd : 1 ≤ d) : Cn l X yX12_saying cX12_saying 3 (some .int) d [.ref 129, .int i, .int w] (sh, mI, mL, mR, n) (fun r M' => r = some (.int (sayingA c fi se ma i w)) ∧ M' = (sh, thr mI, mL, mR, n)) 0 0 := by
  refine Cn.run 12 false (by decide) rfl (by decide) (by simp [entA, Value.category]) ?_
  intro P G hP hG
  have q0 := hL.1
  have q_s := hL.2 (41, 156, .int, 144) (by decide)
  dsimp only at q_s
  have hcc := hS.2.1
  refine hG.run [] 40 ?_
  simp [wp, stepI, ln, jmp, cmpI, Value.category, rd, tyF, va_rf, st1, st2, clr, isLg, CB, inx_0, inx_1, inx_2, inx_3, inx_4, inx_5, bI_0, bI_1, bI_ok, fin3, tyX12, entL, q0, q_s, okv, wr, finF, clT, TX12, dX12_saying_0, dX12_saying_1, dX12_saying_2, fT_12_135, dX12_saying_5, dX12_saying_6, dX12_saying_9, dX12_saying_10, dX12_saying_11, fT_12_90, dX12_saying_14, dX12_saying_15, dX12_saying_16, dX12_saying_19, dX12_saying_20, dX12_saying_21, dX12_saying_22, dX12_saying_25, dX12_saying_28, dX12_saying_29, dX12_saying_30, dX12_saying_31, dX12_saying_34, dX12_saying_35, dX12_saying_38, dX12_saying_39, dX12_saying_40, dX12_saying_41, dX12_saying_42, dX12_saying_45, dX12_saying_46, dX12_saying_47, dX12_saying_50, dX12_saying_51, dX12_saying_54, dX12_saying_56, dX12_saying_57, dX12_saying_58, dX12_saying_59, dX12_saying_62, dX12_saying_63, dX12_saying_66, dX12_saying_68, dX12_saying_69, dX12_saying_70, dX12_saying_71]
  rw [show up2 mI 129 0 0 = thr mI from rfl]
  have e1 := thr_eqf mI
  have hS0 := hS.eqf e1 (by decide)
  have e0 := hS0.1
  simp (disch := omega) only [li, nI_add, nI_clamp, nI_ltI, nI_leI, nI_eq, inx_iff, a31, nI_1shl', nI_shr', div_bit, tb1, tb0, fa_or, fa_and, nI_not, pk_sub, nI_dec, e0]
  refine ⟨fun h => hP _ _ ⟨by simp [sayingA, Int32.not_le.mpr h], rfl⟩, fun h => ⟨fun h2 => hP _ _ ⟨by simp [sayingA, Int32.not_lt.mpr h2], rfl⟩, fun h2 => ?_⟩⟩
  obtain ⟨j, hj, rfl⟩ := nI_of (x := i) (by rw [Int32.not_lt]; exact h)
  have hjc : j < c := (nI_ltI (by omega) (by omega)).mp h2
  obtain ⟨s1, s2, s3, -⟩ := hS0.2.2 j hjc
  refine hG.callS dX12_saying_22 ms_12_250 [.int w, .int (nI 0), .int (nI 2)] [] (c12_within l X (d - 1) _ w (nI 0) (nI 2)) (by omega) rfl (by decide) (by simp [Value.category]) rfl ?_
  rintro r M' ⟨rfl, rfl⟩
  refine hG.run [] 40 ?_
  simp [wp, stepI, ln, jmp, cmpI, Value.category, rd, tyF, va_rf, st1, st2, clr, isLg, CB, inx_0, inx_1, inx_2, inx_3, inx_4, inx_5, bI_0, bI_1, bI_ok, fin3, tyX12, entL, q0, q_s, dX12_saying_0, dX12_saying_1, dX12_saying_2, fT_12_135, dX12_saying_5, dX12_saying_6, dX12_saying_9, dX12_saying_10, dX12_saying_11, fT_12_90, dX12_saying_14, dX12_saying_15, dX12_saying_16, dX12_saying_19, dX12_saying_20, dX12_saying_21, dX12_saying_22, dX12_saying_25, dX12_saying_28, dX12_saying_29, dX12_saying_30, dX12_saying_31, dX12_saying_34, dX12_saying_35, dX12_saying_38, dX12_saying_39, dX12_saying_40, dX12_saying_41, dX12_saying_42, dX12_saying_45, dX12_saying_46, dX12_saying_47, dX12_saying_50, dX12_saying_51, dX12_saying_54, dX12_saying_56, dX12_saying_57, dX12_saying_58, dX12_saying_59, dX12_saying_62, dX12_saying_63, dX12_saying_66, dX12_saying_68, dX12_saying_69, dX12_saying_70, dX12_saying_71]
  simp (disch := omega) only [li, nI_add, nI_clamp, nI_ltI, nI_leI, nI_eq, inx_iff, a31, nI_1shl', nI_shr', div_bit, tb1, tb0, fa_or, fa_and, nI_not, pk_sub, nI_dec, s1, s2, s3]
  have hb : (decide (nI 0 ≤ nI j) && decide (nI j < nI c)) = true := by simp only [Bool.and_eq_true, decide_eq_true_eq]; exact ⟨h, h2⟩
  refine ⟨fun z => ⟨fun z0 => ⟨fun z1 => ⟨by omega, hP _ _ ⟨?_, rfl⟩⟩, fun z1 => ⟨by omega, hP _ _ ⟨?_, rfl⟩⟩⟩, fun z0 => ⟨by omega, hP _ _ ⟨?_, rfl⟩⟩⟩, fun z => hP _ _ ⟨?_, rfl⟩⟩
  · unfold sayingA; rw [hb, z, Bool.and_true, if_pos rfl, if_neg z0, if_neg z1, nI_clamp (by omega)]
  · unfold sayingA; rw [hb, z, Bool.and_true, if_pos rfl, if_neg z0, if_pos z1, nI_clamp (by omega)]
  · unfold sayingA; rw [hb, z, Bool.and_true, if_pos rfl, if_pos z0, nI_clamp (by omega)]
  · unfold sayingA; rw [hb, z]; rfl
def pupilA (mI : Nat → Nat → Int32) (x w : Int32) : Int32 := if isP mI x && wth w (nI 0) (nI 3) then (if w = nI 0 then mI 135 x.toNatClampNeg else if w = nI 1 then mI 136 x.toNatClampNeg else if w = nI 2 then mI 156 (121 + x.toNatClampNeg) - nI 1 else mI 156 (131 + x.toNatClampNeg) - nI 1) else -nI 1
set_option maxHeartbeats 4000000 in
set_option maxRecDepth 100000 in
theorem c12_pupil (l : Launch) (X : Cx) (d : Nat) (sh : Nat → Option Sh) (mI : Nat → Nat → Int32) (mL : Nat → Nat → Int64) (mR : Nat → Nat → Option Nat) (n : Nat) (hL : ML sh mR) (np : Nat) (hp : PupM mI np) (x w : Int32) (hd : 1 ≤ d) : Cn l X yX12_pupil cX12_pupil 3 (some .int) d [.ref 129, .int x, .int w] (sh, mI, mL, mR, n) (fun r M' => r = some (.int (pupilA mI x w)) ∧ M' = (sh, thr mI, mL, mR, n)) 0 0 := by
  refine Cn.run 12 false (by decide) rfl (by decide) (by simp [entA, Value.category]) ?_
  intro P G hP hG
  have q0 := hL.1
  have q_s := hL.2 (41, 156, .int, 144) (by decide)
  dsimp only at q_s
  have q_kind := hL.2 (14, 135, .int, 60) (by decide)
  dsimp only at q_kind
  have q_tall := hL.2 (15, 136, .int, 60) (by decide)
  dsimp only at q_tall
  have hpp := hp.2
  refine hG.run [] 20 ?_
  simp [wp, stepI, ln, jmp, cmpI, Value.category, rd, tyF, va_rf, st1, st2, clr, isLg, CB, inx_0, inx_1, inx_2, inx_3, inx_4, inx_5, bI_0, bI_1, bI_ok, fin3, tyX12, entL, q0, okv, wr, finF, clT, TX12, dX12_pupil_0, dX12_pupil_1, dX12_pupil_2, fT_12_135, dX12_pupil_5, dX12_pupil_6, dX12_pupil_7, dX12_pupil_10, dX12_pupil_13, dX12_pupil_14, dX12_pupil_15, dX12_pupil_16, dX12_pupil_19, dX12_pupil_22, dX12_pupil_23, dX12_pupil_24, dX12_pupil_25, dX12_pupil_28, dX12_pupil_29, fT_12_26, dX12_pupil_32, dX12_pupil_33, dX12_pupil_34, dX12_pupil_37, dX12_pupil_38, dX12_pupil_39, dX12_pupil_42, dX12_pupil_43, fT_12_29, dX12_pupil_46, dX12_pupil_47, dX12_pupil_48, dX12_pupil_51, dX12_pupil_52, dX12_pupil_53, dX12_pupil_56, dX12_pupil_57, fT_12_90, dX12_pupil_60, dX12_pupil_62, dX12_pupil_63, dX12_pupil_64, dX12_pupil_65, dX12_pupil_66, dX12_pupil_67, dX12_pupil_70, dX12_pupil_71, dX12_pupil_74, dX12_pupil_77, dX12_pupil_78, dX12_pupil_79, dX12_pupil_80, dX12_pupil_81, dX12_pupil_82]
  rw [show up2 mI 129 0 0 = thr mI from rfl]
  have e1 := thr_eqf mI
  refine hG.callV dX12_pupil_7 mv_12_329 [.int x] [] (c12_isPupil l X (d - 1) sh (thr mI) mL mR n hL x) ⟨_, rfl, rfl⟩ q0 (by omega) rfl (by decide) (by simp [Value.category]) rfl ?_
  rintro r M' ⟨rfl, rfl⟩
  rw [isP_eqf e1 (by decide)]
  refine hG.run [] 20 ?_
  simp [wp, stepI, ln, jmp, cmpI, Value.category, rd, tyF, va_rf, st1, st2, clr, isLg, CB, inx_0, inx_1, inx_2, inx_3, inx_4, inx_5, bI_0, bI_1, bI_ok, fin3, tyX12, entL, q0, dX12_pupil_0, dX12_pupil_1, dX12_pupil_2, fT_12_135, dX12_pupil_5, dX12_pupil_6, dX12_pupil_7, dX12_pupil_10, dX12_pupil_13, dX12_pupil_14, dX12_pupil_15, dX12_pupil_16, dX12_pupil_19, dX12_pupil_22, dX12_pupil_23, dX12_pupil_24, dX12_pupil_25, dX12_pupil_28, dX12_pupil_29, fT_12_26, dX12_pupil_32, dX12_pupil_33, dX12_pupil_34, dX12_pupil_37, dX12_pupil_38, dX12_pupil_39, dX12_pupil_42, dX12_pupil_43, fT_12_29, dX12_pupil_46, dX12_pupil_47, dX12_pupil_48, dX12_pupil_51, dX12_pupil_52, dX12_pupil_53, dX12_pupil_56, dX12_pupil_57, fT_12_90, dX12_pupil_60, dX12_pupil_62, dX12_pupil_63, dX12_pupil_64, dX12_pupil_65, dX12_pupil_66, dX12_pupil_67, dX12_pupil_70, dX12_pupil_71, dX12_pupil_74, dX12_pupil_77, dX12_pupil_78, dX12_pupil_79, dX12_pupil_80, dX12_pupil_81, dX12_pupil_82]
  refine ⟨fun h => hP _ _ ⟨by simp [pupilA, h, li], rfl⟩, fun h => ?_⟩
  refine hG.callS dX12_pupil_16 ms_12_250 [.int w, .int 0, .int 3] [] (c12_within l X (d - 1) _ w 0 3) (by omega) rfl (by decide) (by simp [Value.category]) rfl ?_
  rintro r M' ⟨rfl, rfl⟩
  rw [show wth w 0 3 = wth w (nI 0) (nI 3) from rfl]
  obtain ⟨a, ha, rfl⟩ := isP_nat hp h
  refine hG.run [] 40 ?_
  simp [wp, stepI, ln, jmp, cmpI, Value.category, rd, tyF, va_rf, st1, st2, clr, isLg, CB, inx_0, inx_1, inx_2, inx_3, inx_4, inx_5, bI_0, bI_1, bI_ok, fin3, tyX12, entL, q0, q_s, q_kind, q_tall, dX12_pupil_0, dX12_pupil_1, dX12_pupil_2, fT_12_135, dX12_pupil_5, dX12_pupil_6, dX12_pupil_7, dX12_pupil_10, dX12_pupil_13, dX12_pupil_14, dX12_pupil_15, dX12_pupil_16, dX12_pupil_19, dX12_pupil_22, dX12_pupil_23, dX12_pupil_24, dX12_pupil_25, dX12_pupil_28, dX12_pupil_29, fT_12_26, dX12_pupil_32, dX12_pupil_33, dX12_pupil_34, dX12_pupil_37, dX12_pupil_38, dX12_pupil_39, dX12_pupil_42, dX12_pupil_43, fT_12_29, dX12_pupil_46, dX12_pupil_47, dX12_pupil_48, dX12_pupil_51, dX12_pupil_52, dX12_pupil_53, dX12_pupil_56, dX12_pupil_57, fT_12_90, dX12_pupil_60, dX12_pupil_62, dX12_pupil_63, dX12_pupil_64, dX12_pupil_65, dX12_pupil_66, dX12_pupil_67, dX12_pupil_70, dX12_pupil_71, dX12_pupil_74, dX12_pupil_77, dX12_pupil_78, dX12_pupil_79, dX12_pupil_80, dX12_pupil_81, dX12_pupil_82]
  have t1 : ∀ b k, b ≠ 129 → thr mI b k = mI b k := fun b k hb => e1 b k (by simp) (fun z => hb z.1)
  simp (disch := omega) only [li, nI_add, nI_clamp, nI_ltI, nI_leI, nI_eq, inx_iff, a31, nI_1shl', nI_shr', div_bit, tb1, tb0, fa_or, fa_and, nI_not, pk_sub, nI_dec, t1]
  refine ⟨fun z => ⟨fun z0 => ⟨fun z1 => ⟨fun z2 => ⟨by omega, hP _ _ ⟨?_, rfl⟩⟩, fun z2 => ⟨by omega, hP _ _ ⟨?_, rfl⟩⟩⟩, fun z1 => ⟨by omega, hP _ _ ⟨?_, rfl⟩⟩⟩, fun z0 => ⟨by omega, hP _ _ ⟨?_, rfl⟩⟩⟩, fun z => hP _ _ ⟨?_, rfl⟩⟩
  · unfold pupilA; rw [h, z, Bool.and_true, if_pos rfl, if_neg z0, if_neg z1, if_neg z2, nI_clamp (by omega)]
  · unfold pupilA; rw [h, z, Bool.and_true, if_pos rfl, if_neg z0, if_neg z1, if_pos z2, nI_clamp (by omega)]
  · unfold pupilA; rw [h, z, Bool.and_true, if_pos rfl, if_neg z0, if_pos z1, nI_clamp (by omega)]
  · unfold pupilA; rw [h, z, Bool.and_true, if_pos rfl, if_pos z0, nI_clamp (by omega)]
  · unfold pupilA; rw [h, z]; rfl
/-- who sits on a seat: the first one, or -1 -/
def sitC (mI : Nat → Nat → Int32) (np : Nat) (k : Int32) : Nat := fa_first (fun p => decide (mI 156 (121 + p) - nI 1 = k)) np
def sitA (mI : Nat → Nat → Int32) (np : Nat) (k : Int32) : Int32 := if sitC mI np k < np then nI (sitC mI np k) else -nI 1
set_option maxHeartbeats 4000000 in
set_option maxRecDepth 100000 in
theorem c12_sitter (l : Launch) (X : Cx) (d : Nat) (sh : Nat → Option Sh) (mI : Nat → Nat → Int32) (mL : Nat → Nat → Int64) (mR : Nat → Nat → Option Nat) (n : Nat) (hL : ML sh mR) (np : Nat) (hp : PupM mI np) (k : Int32) : Cn l X yX12_sitter cX12_sitter 3 (some .int) d [.ref 129, .int k] (sh, mI, mL, mR, n) (fun r M' => r = some (.int (sitA mI np k)) ∧ M' = (sh, mI, mL, mR, n)) 0 0 := by
  refine Cn.run 12 false (by decide) rfl (by decide) (by simp [entA, Value.category]) ?_
  intro P G hP hG
  have q0 := hL.1
  have q_s := hL.2 (41, 156, .int, 144) (by decide)
  dsimp only at q_s
  have q_pupils := hL.2 (10, 131, .int, 6) (by decide)
  dsimp only at q_pupils
  have hpp := hp.2
  have e0 := hp.1
  have hle := fa_first_le (fun p => decide (mI 156 (121 + p) - nI 1 = k)) np
  have hno := fa_first_no (fun p => decide (mI 156 (121 + p) - nI 1 = k)) np
  have hyes := fa_first_yes (fun p => decide (mI 156 (121 + p) - nI 1 = k)) np
  rw [show fa_first (fun p => decide (mI 156 (121 + p) - nI 1 = k)) np = sitC mI np k from rfl] at hle hno hyes
  have loop : ∀ f i, np - i < f → i ≤ sitC mI np k → G 2 [some (.ref 129), some (.int k), some (.int (nI i))] [] (sh, mI, mL, mR, n) := by
    intro f
    induction f with
    | zero => intro i h; omega
    | succ f ih =>
      intro i hf hi
      refine hG.run [2] 40 ?_
      simp [wp, stepI, ln, jmp, cmpI, Value.category, rd, tyF, va_rf, st1, st2, clr, isLg, CB, inx_0, inx_1, inx_2, inx_3, inx_4, inx_5, bI_0, bI_1, bI_ok, fin3, tyX12, entL, q0, q_s, q_pupils, dX12_sitter_0, dX12_sitter_1, dX12_sitter_2, dX12_sitter_3, dX12_sitter_4, fT_12_13, dX12_sitter_7, dX12_sitter_8, dX12_sitter_9, dX12_sitter_12, dX12_sitter_13, fT_12_90, dX12_sitter_16, dX12_sitter_18, dX12_sitter_19, dX12_sitter_20, dX12_sitter_21, dX12_sitter_22, dX12_sitter_23, dX12_sitter_24, dX12_sitter_27, dX12_sitter_28, dX12_sitter_29, dX12_sitter_32, dX12_sitter_35, dX12_sitter_36]
      simp (disch := omega) only [li, nI_add, nI_clamp, nI_ltI, nI_leI, nI_eq, inx_iff, a31, nI_1shl', nI_shr', div_bit, tb1, tb0, fa_or, fa_and, nI_not, pk_sub, nI_dec, e0]
      refine ⟨fun h => hP _ _ ⟨by unfold sitA; rw [if_neg (by omega)], rfl⟩, fun h => ?_⟩
      refine ⟨by omega, fun z => ih (i + 1) (by omega) ?_, fun z => hP _ _ ⟨?_, rfl⟩⟩
      · rcases Nat.lt_or_ge i (sitC mI np k) with y | y
        · omega
        · have := hyes (by omega)
          rw [show sitC mI np k = i by omega] at this
          simp only [decide_eq_true_eq] at this
          exact absurd this z
      · have e : sitC mI np k = i := by
          rcases Nat.lt_or_ge i (sitC mI np k) with y | y
          · have := hno i y
            simp only [decide_eq_false_iff_not] at this
            exact absurd z this
          · omega
        unfold sitA
        rw [e, if_pos h]
  refine hG.run [2] 40 ?_
  simp [wp, stepI, ln, jmp, cmpI, Value.category, rd, tyF, va_rf, st1, st2, clr, isLg, CB, inx_0, inx_1, inx_2, inx_3, inx_4, inx_5, bI_0, bI_1, bI_ok, fin3, tyX12, entL, q0, q_s, q_pupils, dX12_sitter_0, dX12_sitter_1, dX12_sitter_2, dX12_sitter_3, dX12_sitter_4, fT_12_13, dX12_sitter_7, dX12_sitter_8, dX12_sitter_9, dX12_sitter_12, dX12_sitter_13, fT_12_90, dX12_sitter_16, dX12_sitter_18, dX12_sitter_19, dX12_sitter_20, dX12_sitter_21, dX12_sitter_22, dX12_sitter_23, dX12_sitter_24, dX12_sitter_27, dX12_sitter_28, dX12_sitter_29, dX12_sitter_32, dX12_sitter_35, dX12_sitter_36]
  exact loop (np + 1) 0 (by omega) (by omega)
