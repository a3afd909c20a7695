/-- how many sit (o = 121), are planned (o = 131) -/
def plcN (mI : Nat → Nat → Int32) (o : Nat) (np : Nat) : Nat := fb_ct (fun p => decide (nI 0 < mI 156 (o + p))) np
def cntA (mI : Nat → Nat → Int32) (np : Nat) (w : Int32) : Int32 := if wth w (nI 0) (nI 6) then (if w = nI 0 then nI np else if w = nI 1 then mI 132 0 else if w = nI 2 then mI 156 0 else if w = nI 3 then mI 133 0 else if w < nI 6 then nI (plcN mI (if w = nI 4 then 121 else 131) np) else mI 129 1) else -nI 1
theorem wth_nat {w : Int32} {m : Nat} (hm : m < 2 ^ 31) (h : wth w (nI 0) (nI m) = true) : ∃ k, k ≤ m ∧ w = nI k := by
  unfold wth at h
  rw [decide_eq_true_eq] at h
  obtain ⟨k, hk, rfl⟩ := nI_of (x := w) (by rw [Int32.not_lt]; exact h.1)
  exact ⟨k, (nI_leI hk hm).mp h.2, rfl⟩
set_option maxHeartbeats 4000000 in
set_option maxRecDepth 100000 in
theorem c12_count (l : Launch) (X : Cx) (d : Nat) (sh : Nat → Option Sh) (mI : Nat → Nat → Int32) (mL : Nat → Nat → Int64) (mR : Nat → Nat → Option Nat) (n : Nat) (hL : ML sh mR) (np : Nat) (hp : PupM mI np) (w : Int32) (hd : 1 ≤ d) : Cn l X yX12_count cX12_count 4 (some .int) d [.ref 129, .int w] (sh, mI, mL, mR, n) (fun r M' => r = some (.int (cntA mI np w)) ∧ M' = (sh, thr mI, mL, mR, n)) 0 0 := by
  refine Cn.run 12 false (by decide) rfl (by decide) (by simp [entA, Value.category]) ?_
  intro P G hP hG
  have q0 := hL.1
  have q_s := hL.2 (41, 156, .int, 144) (by decide)
  dsimp only at q_s
  have q_pupils := hL.2 (10, 131, .int, 6) (by decide)
  dsimp only at q_pupils
  have q_benches := hL.2 (11, 132, .int, 6) (by decide)
  dsimp only at q_benches
  have q_slip := hL.2 (12, 133, .int, 6) (by decide)
  dsimp only at q_slip
  have hpp := hp.2
  refine hG.run [] 20 ?_
  simp [wp, stepI, ln, jmp, cmpI, Value.category, rd, tyF, va_rf, st1, st2, clr, isLg, CB, inx_0, inx_1, inx_2, inx_3, inx_4, inx_5, bI_0, bI_1, bI_ok, fin3, tyX12, entL, q0, okv, wr, finF, clT, TX12, dX12_count_0, dX12_count_1, dX12_count_2, fT_12_135, dX12_count_5, dX12_count_6, dX12_count_7, dX12_count_9, dX12_count_12, dX12_count_15, dX12_count_16, dX12_count_17, dX12_count_18, dX12_count_19, dX12_count_20, dX12_count_21, dX12_count_22, dX12_count_23, fT_12_13, dX12_count_26, dX12_count_27, dX12_count_28, dX12_count_31, dX12_count_32, dX12_count_33, dX12_count_36, dX12_count_37, dX12_count_38, fT_12_90, dX12_count_41, dX12_count_42, dX12_count_43, dX12_count_46, dX12_count_48, dX12_count_51, dX12_count_54, dX12_count_55, dX12_count_56, dX12_count_57, dX12_count_60, dX12_count_61, dX12_count_64, dX12_count_65, dX12_count_66, dX12_count_67, dX12_count_70, dX12_count_73, dX12_count_74, dX12_count_77, dX12_count_78, dX12_count_81, dX12_count_82, dX12_count_83, dX12_count_86, dX12_count_87, dX12_count_88, dX12_count_91, dX12_count_92, fT_12_16, dX12_count_95, dX12_count_96, dX12_count_97, dX12_count_100, dX12_count_101, dX12_count_102, dX12_count_105, dX12_count_106, dX12_count_109, dX12_count_110, dX12_count_111, dX12_count_114, dX12_count_115, dX12_count_116, dX12_count_119, dX12_count_120, fT_12_19, dX12_count_123, dX12_count_124, dX12_count_125, dX12_count_128, dX12_count_129, dX12_count_131, dX12_count_134, dX12_count_135, dX12_count_138, dX12_count_139, fT_12_141, dX12_count_142]
  rw [show up2 mI 129 0 0 = thr mI from rfl]
  have e1 := thr_eqf mI
  have t1 : ∀ b k, b ≠ 129 → thr mI b k = mI b k := fun b k hb => e1 b k (by simp) (fun z => hb z.1)
  have t2 : thr mI 129 1 = mI 129 1 := e1 _ _ (by simp) (by decide)
  have e0 := hp.1
  refine hG.callS dX12_count_9 ms_12_250 [.int w, .int 0, .int 6] [] (c12_within l X (d - 1) _ w 0 6) (by omega) rfl (by decide) (by simp [Value.category]) rfl ?_
  rintro r M' ⟨rfl, rfl⟩
  rw [show wth w 0 6 = wth w (nI 0) (nI 6) from rfl]
  by_cases hw : wth w (nI 0) (nI 6) = true
  · obtain ⟨j, hj, rfl⟩ := wth_nat (by decide) hw
    have fin : ∀ q v3, (3 < j → j < 6 → q = plcN mI (if j = 4 then 121 else 131) np) → G 73 [some (.ref 129), some (.int (nI j)), some (.int (nI q)), v3] [] (sh, thr mI, mL, mR, n) := by
      intro q v3 hq
      refine hG.run [] 60 ?_
      simp [wp, stepI, ln, jmp, cmpI, Value.category, rd, tyF, va_rf, st1, st2, clr, isLg, CB, inx_0, inx_1, inx_2, inx_3, inx_4, inx_5, bI_0, bI_1, bI_ok, fin3, tyX12, entL, q0, q_s, q_pupils, q_benches, q_slip, dX12_count_0, dX12_count_1, dX12_count_2, fT_12_135, dX12_count_5, dX12_count_6, dX12_count_7, dX12_count_9, dX12_count_12, dX12_count_15, dX12_count_16, dX12_count_17, dX12_count_18, dX12_count_19, dX12_count_20, dX12_count_21, dX12_count_22, dX12_count_23, fT_12_13, dX12_count_26, dX12_count_27, dX12_count_28, dX12_count_31, dX12_count_32, dX12_count_33, dX12_count_36, dX12_count_37, dX12_count_38, fT_12_90, dX12_count_41, dX12_count_42, dX12_count_43, dX12_count_46, dX12_count_48, dX12_count_51, dX12_count_54, dX12_count_55, dX12_count_56, dX12_count_57, dX12_count_60, dX12_count_61, dX12_count_64, dX12_count_65, dX12_count_66, dX12_count_67, dX12_count_70, dX12_count_73, dX12_count_74, dX12_count_77, dX12_count_78, dX12_count_81, dX12_count_82, dX12_count_83, dX12_count_86, dX12_count_87, dX12_count_88, dX12_count_91, dX12_count_92, fT_12_16, dX12_count_95, dX12_count_96, dX12_count_97, dX12_count_100, dX12_count_101, dX12_count_102, dX12_count_105, dX12_count_106, dX12_count_109, dX12_count_110, dX12_count_111, dX12_count_114, dX12_count_115, dX12_count_116, dX12_count_119, dX12_count_120, fT_12_19, dX12_count_123, dX12_count_124, dX12_count_125, dX12_count_128, dX12_count_129, dX12_count_131, dX12_count_134, dX12_count_135, dX12_count_138, dX12_count_139, fT_12_141, dX12_count_142]
      simp (disch := omega) only [li, nI_add, nI_clamp, nI_ltI, nI_leI, nI_eq, inx_iff, a31, nI_1shl', nI_shr', div_bit, tb1, tb0, fa_or, fa_and, nI_not, pk_sub, nI_dec, t1, t2, e0]
      refine ⟨fun z0 => ⟨fun z1 => ⟨fun z2 => ⟨fun z3 => ⟨fun z4 => hP _ _ ⟨?_, rfl⟩, fun z4 => hP _ _ ⟨?_, rfl⟩⟩, fun z3 => hP _ _ ⟨?_, rfl⟩⟩, fun z2 => hP _ _ ⟨?_, rfl⟩⟩, fun z1 => hP _ _ ⟨?_, rfl⟩⟩, fun z0 => hP _ _ ⟨?_, rfl⟩⟩
      all_goals
        unfold cntA
        rw [if_pos hw]
        simp (disch := omega) only [nI_eq, nI_ltI]
        repeat (first | rw [if_pos (by omega)] | rw [if_neg (by omega)])
      rw [hq (by omega) (by omega)]
    have loop : ∀ f i, np - i < f → i ≤ np → G 21 [some (.ref 129), some (.int (nI j)), some (.int (nI (plcN mI (if j = 4 then 121 else 131) i))), some (.int (nI i))] [] (sh, thr mI, mL, mR, n) := by
      intro f
      induction f with
      | zero => intro i h; omega
      | succ f ih =>
        intro i hf hi
        refine hG.run [21, 73] 60 ?_
        simp [wp, stepI, ln, jmp, cmpI, Value.category, rd, tyF, va_rf, st1, st2, clr, isLg, CB, inx_0, inx_1, inx_2, inx_3, inx_4, inx_5, bI_0, bI_1, bI_ok, fin3, tyX12, entL, q0, q_s, q_pupils, q_benches, q_slip, dX12_count_0, dX12_count_1, dX12_count_2, fT_12_135, dX12_count_5, dX12_count_6, dX12_count_7, dX12_count_9, dX12_count_12, dX12_count_15, dX12_count_16, dX12_count_17, dX12_count_18, dX12_count_19, dX12_count_20, dX12_count_21, dX12_count_22, dX12_count_23, fT_12_13, dX12_count_26, dX12_count_27, dX12_count_28, dX12_count_31, dX12_count_32, dX12_count_33, dX12_count_36, dX12_count_37, dX12_count_38, fT_12_90, dX12_count_41, dX12_count_42, dX12_count_43, dX12_count_46, dX12_count_48, dX12_count_51, dX12_count_54, dX12_count_55, dX12_count_56, dX12_count_57, dX12_count_60, dX12_count_61, dX12_count_64, dX12_count_65, dX12_count_66, dX12_count_67, dX12_count_70, dX12_count_73, dX12_count_74, dX12_count_77, dX12_count_78, dX12_count_81, dX12_count_82, dX12_count_83, dX12_count_86, dX12_count_87, dX12_count_88, dX12_count_91, dX12_count_92, fT_12_16, dX12_count_95, dX12_count_96, dX12_count_97, dX12_count_100, dX12_count_101, dX12_count_102, dX12_count_105, dX12_count_106, dX12_count_109, dX12_count_110, dX12_count_111, dX12_count_114, dX12_count_115, dX12_count_116, dX12_count_119, dX12_count_120, fT_12_19, dX12_count_123, dX12_count_124, dX12_count_125, dX12_count_128, dX12_count_129, dX12_count_131, dX12_count_134, dX12_count_135, dX12_count_138, dX12_count_139, fT_12_141, dX12_count_142]
        simp (disch := omega) only [li, nI_add, nI_clamp, nI_ltI, nI_leI, nI_eq, inx_iff, a31, nI_1shl', nI_shr', div_bit, tb1, tb0, fa_or, fa_and, nI_not, pk_sub, nI_dec, t1, e0]
        refine ⟨fun h => fin _ _ (fun _ _ => by rw [show i = np by omega]), fun h => ⟨fun z => fin _ _ (fun z2 => by omega), fun z => ?_⟩⟩
        have nx : ∀ (o : Nat) (b : Bool), (if j = 4 then 121 else 131) = o → decide (nI 0 < mI 156 (o + i)) = b → G 21 [some (.ref 129), some (.int (nI j)), some (.int (nI (plcN mI (if j = 4 then 121 else 131) i + b.toNat))), some (.int (nI (i + 1)))] [] (sh, thr mI, mL, mR, n) := fun o b ho hb => by
          have nx := ih (i + 1) (by omega) (by omega)
          rw [ho] at nx ⊢
          unfold plcN at nx ⊢
          rw [fb_ct_succ, hb, show (if b = true then 1 else 0) = b.toNat by cases b <;> rfl] at nx
          exact nx
        refine ⟨fun z4 => ⟨by omega, fun y => nx 131 false (if_neg z4) (decide_eq_false (Int32.not_lt.mpr y)), fun y => nx 131 true (if_neg z4) (decide_eq_true y)⟩, fun z4 => ⟨by omega, fun y => nx 121 false (if_pos z4) (decide_eq_false (Int32.not_lt.mpr y)), fun y => nx 121 true (if_pos z4) (decide_eq_true y)⟩⟩
    refine hG.run [21] 40 ?_
    simp [wp, stepI, ln, jmp, cmpI, Value.category, rd, tyF, va_rf, st1, st2, clr, isLg, CB, inx_0, inx_1, inx_2, inx_3, inx_4, inx_5, bI_0, bI_1, bI_ok, fin3, tyX12, entL, q0, dX12_count_0, dX12_count_1, dX12_count_2, fT_12_135, dX12_count_5, dX12_count_6, dX12_count_7, dX12_count_9, dX12_count_12, dX12_count_15, dX12_count_16, dX12_count_17, dX12_count_18, dX12_count_19, dX12_count_20, dX12_count_21, dX12_count_22, dX12_count_23, fT_12_13, dX12_count_26, dX12_count_27, dX12_count_28, dX12_count_31, dX12_count_32, dX12_count_33, dX12_count_36, dX12_count_37, dX12_count_38, fT_12_90, dX12_count_41, dX12_count_42, dX12_count_43, dX12_count_46, dX12_count_48, dX12_count_51, dX12_count_54, dX12_count_55, dX12_count_56, dX12_count_57, dX12_count_60, dX12_count_61, dX12_count_64, dX12_count_65, dX12_count_66, dX12_count_67, dX12_count_70, dX12_count_73, dX12_count_74, dX12_count_77, dX12_count_78, dX12_count_81, dX12_count_82, dX12_count_83, dX12_count_86, dX12_count_87, dX12_count_88, dX12_count_91, dX12_count_92, fT_12_16, dX12_count_95, dX12_count_96, dX12_count_97, dX12_count_100, dX12_count_101, dX12_count_102, dX12_count_105, dX12_count_106, dX12_count_109, dX12_count_110, dX12_count_111, dX12_count_114, dX12_count_115, dX12_count_116, dX12_count_119, dX12_count_120, fT_12_19, dX12_count_123, dX12_count_124, dX12_count_125, dX12_count_128, dX12_count_129, dX12_count_131, dX12_count_134, dX12_count_135, dX12_count_138, dX12_count_139, fT_12_141, dX12_count_142]
    simp only [hw]
    exact ⟨fun _ => loop (np + 1) 0 (by omega) (by omega), fun z => by cases z⟩
  · rw [Bool.not_eq_true] at hw
    refine hG.run [21] 40 ?_
    simp [wp, stepI, ln, jmp, cmpI, Value.category, rd, tyF, va_rf, st1, st2, clr, isLg, CB, inx_0, inx_1, inx_2, inx_3, inx_4, inx_5, bI_0, bI_1, bI_ok, fin3, tyX12, entL, q0, dX12_count_0, dX12_count_1, dX12_count_2, fT_12_135, dX12_count_5, dX12_count_6, dX12_count_7, dX12_count_9, dX12_count_12, dX12_count_15, dX12_count_16, dX12_count_17, dX12_count_18, dX12_count_19, dX12_count_20, dX12_count_21, dX12_count_22, dX12_count_23, fT_12_13, dX12_count_26, dX12_count_27, dX12_count_28, dX12_count_31, dX12_count_32, dX12_count_33, dX12_count_36, dX12_count_37, dX12_count_38, fT_12_90, dX12_count_41, dX12_count_42, dX12_count_43, dX12_count_46, dX12_count_48, dX12_count_51, dX12_count_54, dX12_count_55, dX12_count_56, dX12_count_57, dX12_count_60, dX12_count_61, dX12_count_64, dX12_count_65, dX12_count_66, dX12_count_67, dX12_count_70, dX12_count_73, dX12_count_74, dX12_count_77, dX12_count_78, dX12_count_81, dX12_count_82, dX12_count_83, dX12_count_86, dX12_count_87, dX12_count_88, dX12_count_91, dX12_count_92, fT_12_16, dX12_count_95, dX12_count_96, dX12_count_97, dX12_count_100, dX12_count_101, dX12_count_102, dX12_count_105, dX12_count_106, dX12_count_109, dX12_count_110, dX12_count_111, dX12_count_114, dX12_count_115, dX12_count_116, dX12_count_119, dX12_count_120, fT_12_19, dX12_count_123, dX12_count_124, dX12_count_125, dX12_count_128, dX12_count_129, dX12_count_131, dX12_count_134, dX12_count_135, dX12_count_138, dX12_count_139, fT_12_141, dX12_count_142]
    rw [hw]
    refine ⟨fun z => (by cases z), fun _ => hP _ _ ⟨?_, rfl⟩⟩
    unfold cntA; rw [hw]; rfl
