def opnM (m : Nat → Nat → Int32) (d : Nat) : Nat → Nat → Int32 := up2 (up2 (up2 (up2 (up2 m 147 d (nI 0)) 149 d (nI 0)) 150 d (nI 0)) 151 d (nI 20)) 153 d (nI 0)
def smsM (m : Nat → Nat → Int32) (d : Nat) : Nat → Nat → Int32 := up2 (up2 m 150 d (if m 151 d = nI 21 then m 150 d - m 152 d else m 150 d + m 152 d)) 153 d (nI 0)
def oB (b : Bool) : Int32 := if b then nI 1 else nI 0
def tsV1 (m : Nat → Nat → Int32) (d : Nat) : Int32 := if m 149 d = nI 24 then oB (decide (m 148 d < m 150 d)) else m 150 d
def tsV2 (m : Nat → Nat → Int32) (d : Nat) : Int32 := if m 149 d = nI 25 then oB (decide (m 148 d = m 150 d)) else tsV1 m d
def tsV3 (m : Nat → Nat → Int32) (d : Nat) : Int32 := if m 147 d = nI 26 then oB (!decide (m 146 d = nI 0) && !decide (tsV2 m d = nI 0)) else tsV2 m d
def tsV4 (m : Nat → Nat → Int32) (d : Nat) : Int32 := if m 147 d = nI 27 then oB (!decide (m 146 d = nI 0) || !decide (tsV3 m d = nI 0)) else tsV3 m d
def tsP (m : Nat → Nat → Int32) (d : Nat) : Nat → Nat → Int32 := up2 (up2 (up2 (up2 m 146 d (tsV4 m d)) 149 d (nI 0)) 150 d (nI 0)) 151 d (nI 20)
def tstM (m : Nat → Nat → Int32) (d : Nat) : Nat → Nat → Int32 := tsP (smsM m d) d
set_option maxHeartbeats 4000000 in
set_option maxRecDepth 100000 in
theorem c12_opens (l : Launch) (X : Cx) (d : Nat) (sh : Nat → Option Sh) (mI : Nat → Nat → Int32) (mL : Nat → Nat → Int64) (mR : Nat → Nat → Option Nat) (n : Nat) (hL : ML sh mR) (k : Nat) (hk : k < 7) : Cn l X yX12_opens cX12_opens 2 none d [.ref 129, .int (nI k)] (sh, mI, mL, mR, n) (fun r M' => r = none ∧ M' = (sh, opnM mI k, mL, mR, n)) 0 0 := by
  refine Cn.run 12 false (by decide) rfl (by decide) (by simp [entA, Value.category]) ?_
  intro P G hP hG
  have q0 := hL.1
  have q_keptBy := hL.2 (29, 147, .int, 7) (by decide)
  dsimp only at q_keptBy
  have q_against := hL.2 (31, 149, .int, 7) (by decide)
  dsimp only at q_against
  have q_sum := hL.2 (32, 150, .int, 7) (by decide)
  dsimp only at q_sum
  have q_sumBy := hL.2 (33, 151, .int, 7) (by decide)
  dsimp only at q_sumBy
  have q_termBy := hL.2 (35, 153, .int, 7) (by decide)
  dsimp only at q_termBy
  refine hG.run [] 60 ?_
  simp [wp, stepI, ln, jmp, cmpI, Value.category, rd, tyF, va_rf, st1, st2, clr, isLg, CB, inx_0, inx_1, inx_2, inx_3, inx_4, inx_5, bI_0, bI_1, bI_ok, fin3, tyX12, entL, q0, q_keptBy, q_against, q_sum, q_sumBy, q_termBy, dX12_opens_0, dX12_opens_1, fT_12_63, dX12_opens_4, dX12_opens_5, dX12_opens_6, dX12_opens_7, dX12_opens_8, fT_12_69, dX12_opens_11, dX12_opens_12, dX12_opens_13, dX12_opens_14, dX12_opens_15, fT_12_72, dX12_opens_18, dX12_opens_19, dX12_opens_20, dX12_opens_21, dX12_opens_22, fT_12_75, dX12_opens_25, dX12_opens_26, dX12_opens_28, dX12_opens_29, dX12_opens_30, fT_12_81, dX12_opens_33, dX12_opens_34, dX12_opens_35, dX12_opens_36]
  simp (disch := omega) only [li, nI_add, nI_clamp, nI_ltI, nI_leI, nI_eq, inx_iff, a31, nI_1shl', nI_shr', div_bit, tb1, tb0, fa_or, fa_and, nI_not, pk_sub, nI_dec, hk, true_and]
  exact hP _ _ ⟨rfl, rfl⟩
set_option maxHeartbeats 4000000 in
set_option maxRecDepth 100000 in
theorem c12_sums (l : Launch) (X : Cx) (d : Nat) (sh : Nat → Option Sh) (mI : Nat → Nat → Int32) (mL : Nat → Nat → Int64) (mR : Nat → Nat → Option Nat) (n : Nat) (hL : ML sh mR) (k : Nat) (hk : k < 7) : Cn l X yX12_sums cX12_sums 2 none d [.ref 129, .int (nI k)] (sh, mI, mL, mR, n) (fun r M' => r = none ∧ M' = (sh, smsM mI k, mL, mR, n)) 0 0 := by
  refine Cn.run 12 false (by decide) rfl (by decide) (by simp [entA, Value.category]) ?_
  intro P G hP hG
  have q0 := hL.1
  have q_sum := hL.2 (32, 150, .int, 7) (by decide)
  dsimp only at q_sum
  have q_sumBy := hL.2 (33, 151, .int, 7) (by decide)
  dsimp only at q_sumBy
  have q_term := hL.2 (34, 152, .int, 7) (by decide)
  dsimp only at q_term
  have q_termBy := hL.2 (35, 153, .int, 7) (by decide)
  dsimp only at q_termBy
  refine hG.run [] 60 ?_
  simp [wp, stepI, ln, jmp, cmpI, Value.category, rd, tyF, va_rf, st1, st2, clr, isLg, CB, inx_0, inx_1, inx_2, inx_3, inx_4, inx_5, bI_0, bI_1, bI_ok, fin3, tyX12, entL, q0, q_sum, q_sumBy, q_term, q_termBy, dX12_sums_0, dX12_sums_1, fT_12_72, dX12_sums_4, dX12_sums_5, dX12_sums_6, fT_12_75, dX12_sums_9, dX12_sums_10, dX12_sums_11, dX12_sums_13, dX12_sums_16, dX12_sums_17, dX12_sums_20, dX12_sums_21, dX12_sums_22, dX12_sums_23, fT_12_78, dX12_sums_26, dX12_sums_27, dX12_sums_28, dX12_sums_29, dX12_sums_32, dX12_sums_33, dX12_sums_36, dX12_sums_37, dX12_sums_38, dX12_sums_39, dX12_sums_42, dX12_sums_43, dX12_sums_44, dX12_sums_45, dX12_sums_46, dX12_sums_47, fT_12_81, dX12_sums_50, dX12_sums_51, dX12_sums_52, dX12_sums_53]
  simp (disch := omega) only [li, nI_add, nI_clamp, nI_ltI, nI_leI, nI_eq, inx_iff, a31, nI_1shl', nI_shr', div_bit, tb1, tb0, fa_or, fa_and, nI_not, pk_sub, nI_dec, hk, true_and]
  refine ⟨fun z => hP _ _ ⟨rfl, ?_⟩, fun z => hP _ _ ⟨rfl, ?_⟩⟩
  · unfold smsM; rw [if_neg z]
  · unfold smsM; rw [if_pos z]
set_option maxHeartbeats 4000000 in
set_option maxRecDepth 100000 in
theorem c12_tests (l : Launch) (X : Cx) (d : Nat) (sh : Nat → Option Sh) (mI : Nat → Nat → Int32) (mL : Nat → Nat → Int64) (mR : Nat → Nat → Option Nat) (n : Nat) (hL : ML sh mR) (k : Nat) (hk : k < 7) (hd : 1 ≤ d) : Cn l X yX12_tests cX12_tests 3 none d [.ref 129, .int (nI k)] (sh, mI, mL, mR, n) (fun r M' => r = none ∧ M' = (sh, tstM mI k, mL, mR, n)) 0 0 := by
  refine Cn.run 12 false (by decide) rfl (by decide) (by simp [entA, Value.category]) ?_
  intro P G hP hG
  have q0 := hL.1
  have q_sum := hL.2 (32, 150, .int, 7) (by decide)
  dsimp only at q_sum
  have q_sumBy := hL.2 (33, 151, .int, 7) (by decide)
  dsimp only at q_sumBy
  have q_against := hL.2 (31, 149, .int, 7) (by decide)
  dsimp only at q_against
  have q_ahead := hL.2 (30, 148, .int, 7) (by decide)
  dsimp only at q_ahead
  have q_kept := hL.2 (28, 146, .int, 7) (by decide)
  dsimp only at q_kept
  have q_keptBy := hL.2 (29, 147, .int, 7) (by decide)
  dsimp only at q_keptBy
  refine hG.run [] 60 ?_
  simp [wp, stepI, ln, jmp, cmpI, Value.category, rd, tyF, va_rf, st1, st2, clr, isLg, CB, inx_0, inx_1, inx_2, inx_3, inx_4, inx_5, bI_0, bI_1, bI_ok, fin3, tyX12, entL, q0, q_sum, q_sumBy, q_against, q_ahead, q_kept, q_keptBy, dX12_tests_0, dX12_tests_1, dX12_tests_2, dX12_tests_5, dX12_tests_6, fT_12_72, dX12_tests_9, dX12_tests_10, dX12_tests_11, dX12_tests_12, dX12_tests_13, fT_12_69, dX12_tests_16, dX12_tests_17, dX12_tests_18, dX12_tests_20, dX12_tests_23, dX12_tests_24, fT_12_66, dX12_tests_27, dX12_tests_28, dX12_tests_29, dX12_tests_30, dX12_tests_33, dX12_tests_34, dX12_tests_35, dX12_tests_38, dX12_tests_39, dX12_tests_42, dX12_tests_43, dX12_tests_44, dX12_tests_45, dX12_tests_48, dX12_tests_49, dX12_tests_50, dX12_tests_52, dX12_tests_55, dX12_tests_56, dX12_tests_59, dX12_tests_60, dX12_tests_61, dX12_tests_62, dX12_tests_65, dX12_tests_66, dX12_tests_67, dX12_tests_70, dX12_tests_71, dX12_tests_74, dX12_tests_75, dX12_tests_76, dX12_tests_77, fT_12_63, dX12_tests_80, dX12_tests_81, dX12_tests_82, dX12_tests_84, dX12_tests_87, dX12_tests_88, fT_12_60, dX12_tests_91, dX12_tests_92, dX12_tests_93, dX12_tests_96, dX12_tests_97, dX12_tests_100, dX12_tests_101, dX12_tests_104, dX12_tests_105, dX12_tests_106, dX12_tests_107, dX12_tests_110, dX12_tests_111, dX12_tests_112, dX12_tests_114, dX12_tests_117, dX12_tests_118, dX12_tests_121, dX12_tests_122, dX12_tests_123, dX12_tests_126, dX12_tests_127, dX12_tests_130, dX12_tests_131, dX12_tests_134, dX12_tests_135, dX12_tests_136, dX12_tests_137, dX12_tests_140, dX12_tests_141, dX12_tests_142, dX12_tests_143, dX12_tests_144, dX12_tests_147, dX12_tests_148, dX12_tests_149, dX12_tests_150, dX12_tests_151, dX12_tests_154, dX12_tests_155, dX12_tests_156, dX12_tests_157, dX12_tests_158, fT_12_75, dX12_tests_161, dX12_tests_162, dX12_tests_164, dX12_tests_165]
  refine hG.callV dX12_tests_2 mv_12_215 [.int (nI k)] [] (c12_sums l X (d - 1) sh mI mL mR n hL k hk) ⟨_, rfl, rfl⟩ q0 (by omega) rfl (by decide) (by simp [Value.category]) rfl ?_
  rintro r M' ⟨rfl, rfl⟩
  unfold tstM at hP
  generalize smsM mI k = m at hP ⊢
  have s4 : ∀ v, v = tsV4 m k → G 136 [some (.ref 129), some (.int (nI k)), some (.int v)] [] (sh, m, mL, mR, n) := fun v hv => by
    refine hG.run [] 60 ?_
    simp [wp, stepI, ln, jmp, cmpI, Value.category, rd, tyF, va_rf, st1, st2, clr, isLg, CB, inx_0, inx_1, inx_2, inx_3, inx_4, inx_5, bI_0, bI_1, bI_ok, fin3, tyX12, entL, q0, q_sum, q_sumBy, q_against, q_ahead, q_kept, q_keptBy, dX12_tests_0, dX12_tests_1, dX12_tests_2, dX12_tests_5, dX12_tests_6, fT_12_72, dX12_tests_9, dX12_tests_10, dX12_tests_11, dX12_tests_12, dX12_tests_13, fT_12_69, dX12_tests_16, dX12_tests_17, dX12_tests_18, dX12_tests_20, dX12_tests_23, dX12_tests_24, fT_12_66, dX12_tests_27, dX12_tests_28, dX12_tests_29, dX12_tests_30, dX12_tests_33, dX12_tests_34, dX12_tests_35, dX12_tests_38, dX12_tests_39, dX12_tests_42, dX12_tests_43, dX12_tests_44, dX12_tests_45, dX12_tests_48, dX12_tests_49, dX12_tests_50, dX12_tests_52, dX12_tests_55, dX12_tests_56, dX12_tests_59, dX12_tests_60, dX12_tests_61, dX12_tests_62, dX12_tests_65, dX12_tests_66, dX12_tests_67, dX12_tests_70, dX12_tests_71, dX12_tests_74, dX12_tests_75, dX12_tests_76, dX12_tests_77, fT_12_63, dX12_tests_80, dX12_tests_81, dX12_tests_82, dX12_tests_84, dX12_tests_87, dX12_tests_88, fT_12_60, dX12_tests_91, dX12_tests_92, dX12_tests_93, dX12_tests_96, dX12_tests_97, dX12_tests_100, dX12_tests_101, dX12_tests_104, dX12_tests_105, dX12_tests_106, dX12_tests_107, dX12_tests_110, dX12_tests_111, dX12_tests_112, dX12_tests_114, dX12_tests_117, dX12_tests_118, dX12_tests_121, dX12_tests_122, dX12_tests_123, dX12_tests_126, dX12_tests_127, dX12_tests_130, dX12_tests_131, dX12_tests_134, dX12_tests_135, dX12_tests_136, dX12_tests_137, dX12_tests_140, dX12_tests_141, dX12_tests_142, dX12_tests_143, dX12_tests_144, dX12_tests_147, dX12_tests_148, dX12_tests_149, dX12_tests_150, dX12_tests_151, dX12_tests_154, dX12_tests_155, dX12_tests_156, dX12_tests_157, dX12_tests_158, fT_12_75, dX12_tests_161, dX12_tests_162, dX12_tests_164, dX12_tests_165]
    simp (disch := omega) only [li, nI_add, nI_clamp, nI_ltI, nI_leI, nI_eq, inx_iff, a31, nI_1shl', nI_shr', div_bit, tb1, tb0, fa_or, fa_and, nI_not, pk_sub, nI_dec, hk, true_and]
    refine hP _ _ ⟨rfl, ?_⟩
    rw [hv]; rfl
  have s3 : ∀ v, v = tsV3 m k → G 106 [some (.ref 129), some (.int (nI k)), some (.int v)] [] (sh, m, mL, mR, n) := fun v hv => by
    refine hG.run [136] 60 ?_
    simp [wp, stepI, ln, jmp, cmpI, Value.category, rd, tyF, va_rf, st1, st2, clr, isLg, CB, inx_0, inx_1, inx_2, inx_3, inx_4, inx_5, bI_0, bI_1, bI_ok, fin3, tyX12, entL, q0, q_sum, q_sumBy, q_against, q_ahead, q_kept, q_keptBy, dX12_tests_0, dX12_tests_1, dX12_tests_2, dX12_tests_5, dX12_tests_6, fT_12_72, dX12_tests_9, dX12_tests_10, dX12_tests_11, dX12_tests_12, dX12_tests_13, fT_12_69, dX12_tests_16, dX12_tests_17, dX12_tests_18, dX12_tests_20, dX12_tests_23, dX12_tests_24, fT_12_66, dX12_tests_27, dX12_tests_28, dX12_tests_29, dX12_tests_30, dX12_tests_33, dX12_tests_34, dX12_tests_35, dX12_tests_38, dX12_tests_39, dX12_tests_42, dX12_tests_43, dX12_tests_44, dX12_tests_45, dX12_tests_48, dX12_tests_49, dX12_tests_50, dX12_tests_52, dX12_tests_55, dX12_tests_56, dX12_tests_59, dX12_tests_60, dX12_tests_61, dX12_tests_62, dX12_tests_65, dX12_tests_66, dX12_tests_67, dX12_tests_70, dX12_tests_71, dX12_tests_74, dX12_tests_75, dX12_tests_76, dX12_tests_77, fT_12_63, dX12_tests_80, dX12_tests_81, dX12_tests_82, dX12_tests_84, dX12_tests_87, dX12_tests_88, fT_12_60, dX12_tests_91, dX12_tests_92, dX12_tests_93, dX12_tests_96, dX12_tests_97, dX12_tests_100, dX12_tests_101, dX12_tests_104, dX12_tests_105, dX12_tests_106, dX12_tests_107, dX12_tests_110, dX12_tests_111, dX12_tests_112, dX12_tests_114, dX12_tests_117, dX12_tests_118, dX12_tests_121, dX12_tests_122, dX12_tests_123, dX12_tests_126, dX12_tests_127, dX12_tests_130, dX12_tests_131, dX12_tests_134, dX12_tests_135, dX12_tests_136, dX12_tests_137, dX12_tests_140, dX12_tests_141, dX12_tests_142, dX12_tests_143, dX12_tests_144, dX12_tests_147, dX12_tests_148, dX12_tests_149, dX12_tests_150, dX12_tests_151, dX12_tests_154, dX12_tests_155, dX12_tests_156, dX12_tests_157, dX12_tests_158, fT_12_75, dX12_tests_161, dX12_tests_162, dX12_tests_164, dX12_tests_165]
    simp (disch := omega) only [li, nI_add, nI_clamp, nI_ltI, nI_leI, nI_eq, inx_iff, a31, nI_1shl', nI_shr', div_bit, tb1, tb0, fa_or, fa_and, nI_not, pk_sub, nI_dec, hk, true_and]
    refine ⟨fun z => s4 v (by unfold tsV4; rw [if_neg z]; exact hv), fun z => ⟨fun z2 => s4 _ ?_, fun z2 => ⟨fun z3 => s4 _ ?_, fun z3 => s4 _ ?_⟩⟩⟩
    · unfold tsV4; rw [if_pos z]; simp [oB, z2]
    · unfold tsV4; rw [if_pos z]; simp [oB, z2, ← hv, z3]
    · unfold tsV4; rw [if_pos z]; simp [oB, ← hv, z3]
  have s2 : ∀ v, v = tsV2 m k → G 76 [some (.ref 129), some (.int (nI k)), some (.int v)] [] (sh, m, mL, mR, n) := fun v hv => by
    refine hG.run [106] 60 ?_
    simp [wp, stepI, ln, jmp, cmpI, Value.category, rd, tyF, va_rf, st1, st2, clr, isLg, CB, inx_0, inx_1, inx_2, inx_3, inx_4, inx_5, bI_0, bI_1, bI_ok, fin3, tyX12, entL, q0, q_sum, q_sumBy, q_against, q_ahead, q_kept, q_keptBy, dX12_tests_0, dX12_tests_1, dX12_tests_2, dX12_tests_5, dX12_tests_6, fT_12_72, dX12_tests_9, dX12_tests_10, dX12_tests_11, dX12_tests_12, dX12_tests_13, fT_12_69, dX12_tests_16, dX12_tests_17, dX12_tests_18, dX12_tests_20, dX12_tests_23, dX12_tests_24, fT_12_66, dX12_tests_27, dX12_tests_28, dX12_tests_29, dX12_tests_30, dX12_tests_33, dX12_tests_34, dX12_tests_35, dX12_tests_38, dX12_tests_39, dX12_tests_42, dX12_tests_43, dX12_tests_44, dX12_tests_45, dX12_tests_48, dX12_tests_49, dX12_tests_50, dX12_tests_52, dX12_tests_55, dX12_tests_56, dX12_tests_59, dX12_tests_60, dX12_tests_61, dX12_tests_62, dX12_tests_65, dX12_tests_66, dX12_tests_67, dX12_tests_70, dX12_tests_71, dX12_tests_74, dX12_tests_75, dX12_tests_76, dX12_tests_77, fT_12_63, dX12_tests_80, dX12_tests_81, dX12_tests_82, dX12_tests_84, dX12_tests_87, dX12_tests_88, fT_12_60, dX12_tests_91, dX12_tests_92, dX12_tests_93, dX12_tests_96, dX12_tests_97, dX12_tests_100, dX12_tests_101, dX12_tests_104, dX12_tests_105, dX12_tests_106, dX12_tests_107, dX12_tests_110, dX12_tests_111, dX12_tests_112, dX12_tests_114, dX12_tests_117, dX12_tests_118, dX12_tests_121, dX12_tests_122, dX12_tests_123, dX12_tests_126, dX12_tests_127, dX12_tests_130, dX12_tests_131, dX12_tests_134, dX12_tests_135, dX12_tests_136, dX12_tests_137, dX12_tests_140, dX12_tests_141, dX12_tests_142, dX12_tests_143, dX12_tests_144, dX12_tests_147, dX12_tests_148, dX12_tests_149, dX12_tests_150, dX12_tests_151, dX12_tests_154, dX12_tests_155, dX12_tests_156, dX12_tests_157, dX12_tests_158, fT_12_75, dX12_tests_161, dX12_tests_162, dX12_tests_164, dX12_tests_165]
    simp (disch := omega) only [li, nI_add, nI_clamp, nI_ltI, nI_leI, nI_eq, inx_iff, a31, nI_1shl', nI_shr', div_bit, tb1, tb0, fa_or, fa_and, nI_not, pk_sub, nI_dec, hk, true_and]
    refine ⟨fun z => s3 v (by unfold tsV3; rw [if_neg z]; exact hv), fun z => ⟨fun z2 => s3 _ ?_, fun z2 => ⟨fun z3 => s3 _ ?_, fun z3 => s3 _ ?_⟩⟩⟩
    · unfold tsV3; rw [if_pos z]; simp [oB, z2]
    · unfold tsV3; rw [if_pos z]; simp [oB, ← hv, z3]
    · unfold tsV3; rw [if_pos z]; simp [oB, z2, ← hv, z3]
  have s1 : ∀ v, v = tsV1 m k → G 44 [some (.ref 129), some (.int (nI k)), some (.int v)] [] (sh, m, mL, mR, n) := fun v hv => by
    refine hG.run [76] 60 ?_
    simp [wp, stepI, ln, jmp, cmpI, Value.category, rd, tyF, va_rf, st1, st2, clr, isLg, CB, inx_0, inx_1, inx_2, inx_3, inx_4, inx_5, bI_0, bI_1, bI_ok, fin3, tyX12, entL, q0, q_sum, q_sumBy, q_against, q_ahead, q_kept, q_keptBy, dX12_tests_0, dX12_tests_1, dX12_tests_2, dX12_tests_5, dX12_tests_6, fT_12_72, dX12_tests_9, dX12_tests_10, dX12_tests_11, dX12_tests_12, dX12_tests_13, fT_12_69, dX12_tests_16, dX12_tests_17, dX12_tests_18, dX12_tests_20, dX12_tests_23, dX12_tests_24, fT_12_66, dX12_tests_27, dX12_tests_28, dX12_tests_29, dX12_tests_30, dX12_tests_33, dX12_tests_34, dX12_tests_35, dX12_tests_38, dX12_tests_39, dX12_tests_42, dX12_tests_43, dX12_tests_44, dX12_tests_45, dX12_tests_48, dX12_tests_49, dX12_tests_50, dX12_tests_52, dX12_tests_55, dX12_tests_56, dX12_tests_59, dX12_tests_60, dX12_tests_61, dX12_tests_62, dX12_tests_65, dX12_tests_66, dX12_tests_67, dX12_tests_70, dX12_tests_71, dX12_tests_74, dX12_tests_75, dX12_tests_76, dX12_tests_77, fT_12_63, dX12_tests_80, dX12_tests_81, dX12_tests_82, dX12_tests_84, dX12_tests_87, dX12_tests_88, fT_12_60, dX12_tests_91, dX12_tests_92, dX12_tests_93, dX12_tests_96, dX12_tests_97, dX12_tests_100, dX12_tests_101, dX12_tests_104, dX12_tests_105, dX12_tests_106, dX12_tests_107, dX12_tests_110, dX12_tests_111, dX12_tests_112, dX12_tests_114, dX12_tests_117, dX12_tests_118, dX12_tests_121, dX12_tests_122, dX12_tests_123, dX12_tests_126, dX12_tests_127, dX12_tests_130, dX12_tests_131, dX12_tests_134, dX12_tests_135, dX12_tests_136, dX12_tests_137, dX12_tests_140, dX12_tests_141, dX12_tests_142, dX12_tests_143, dX12_tests_144, dX12_tests_147, dX12_tests_148, dX12_tests_149, dX12_tests_150, dX12_tests_151, dX12_tests_154, dX12_tests_155, dX12_tests_156, dX12_tests_157, dX12_tests_158, fT_12_75, dX12_tests_161, dX12_tests_162, dX12_tests_164, dX12_tests_165]
    simp (disch := omega) only [li, nI_add, nI_clamp, nI_ltI, nI_leI, nI_eq, inx_iff, a31, nI_1shl', nI_shr', div_bit, tb1, tb0, fa_or, fa_and, nI_not, pk_sub, nI_dec, hk, true_and]
    refine ⟨fun z => s2 v (by unfold tsV2; rw [if_neg z]; exact hv), fun z => ⟨fun z2 => s2 _ ?_, fun z2 => s2 _ ?_⟩⟩
    · unfold tsV2; rw [if_pos z]; simp [oB, z2]
    · unfold tsV2; rw [if_pos z]; simp [oB, z2]
  refine hG.run [44] 60 ?_
  simp [wp, stepI, ln, jmp, cmpI, Value.category, rd, tyF, va_rf, st1, st2, clr, isLg, CB, inx_0, inx_1, inx_2, inx_3, inx_4, inx_5, bI_0, bI_1, bI_ok, fin3, tyX12, entL, q0, q_sum, q_sumBy, q_against, q_ahead, q_kept, q_keptBy, dX12_tests_0, dX12_tests_1, dX12_tests_2, dX12_tests_5, dX12_tests_6, fT_12_72, dX12_tests_9, dX12_tests_10, dX12_tests_11, dX12_tests_12, dX12_tests_13, fT_12_69, dX12_tests_16, dX12_tests_17, dX12_tests_18, dX12_tests_20, dX12_tests_23, dX12_tests_24, fT_12_66, dX12_tests_27, dX12_tests_28, dX12_tests_29, dX12_tests_30, dX12_tests_33, dX12_tests_34, dX12_tests_35, dX12_tests_38, dX12_tests_39, dX12_tests_42, dX12_tests_43, dX12_tests_44, dX12_tests_45, dX12_tests_48, dX12_tests_49, dX12_tests_50, dX12_tests_52, dX12_tests_55, dX12_tests_56, dX12_tests_59, dX12_tests_60, dX12_tests_61, dX12_tests_62, dX12_tests_65, dX12_tests_66, dX12_tests_67, dX12_tests_70, dX12_tests_71, dX12_tests_74, dX12_tests_75, dX12_tests_76, dX12_tests_77, fT_12_63, dX12_tests_80, dX12_tests_81, dX12_tests_82, dX12_tests_84, dX12_tests_87, dX12_tests_88, fT_12_60, dX12_tests_91, dX12_tests_92, dX12_tests_93, dX12_tests_96, dX12_tests_97, dX12_tests_100, dX12_tests_101, dX12_tests_104, dX12_tests_105, dX12_tests_106, dX12_tests_107, dX12_tests_110, dX12_tests_111, dX12_tests_112, dX12_tests_114, dX12_tests_117, dX12_tests_118, dX12_tests_121, dX12_tests_122, dX12_tests_123, dX12_tests_126, dX12_tests_127, dX12_tests_130, dX12_tests_131, dX12_tests_134, dX12_tests_135, dX12_tests_136, dX12_tests_137, dX12_tests_140, dX12_tests_141, dX12_tests_142, dX12_tests_143, dX12_tests_144, dX12_tests_147, dX12_tests_148, dX12_tests_149, dX12_tests_150, dX12_tests_151, dX12_tests_154, dX12_tests_155, dX12_tests_156, dX12_tests_157, dX12_tests_158, fT_12_75, dX12_tests_161, dX12_tests_162, dX12_tests_164, dX12_tests_165]
  simp (disch := omega) only [li, nI_add, nI_clamp, nI_ltI, nI_leI, nI_eq, inx_iff, a31, nI_1shl', nI_shr', div_bit, tb1, tb0, fa_or, fa_and, nI_not, pk_sub, nI_dec, hk, true_and]
  refine ⟨fun z => s1 _ (by unfold tsV1; rw [if_neg z]), fun z => ⟨fun z2 => s1 _ ?_, fun z2 => s1 _ ?_⟩⟩
  · unfold tsV1; rw [if_pos z]; simp [oB, Int32.not_lt.mpr z2]
  · unfold tsV1; rw [if_pos z]; simp [oB, z2]
/-- what waits behind nots -/
def popN (m : Nat → Nat → Int32) : Nat → Int32 → Nat × Int32
  | 0, v => (0, v)
  | d + 1, v => if m 154 (d + 1) = nI 1 then popN m d (oB (decide (v = nI 0))) else (d + 1, v)
theorem popN_s (m : Nat → Nat → Int32) (d : Nat) (v : Int32) : popN m (d + 1) v = if m 154 (d + 1) = nI 1 then popN m d (oB (decide (v = nI 0))) else (d + 1, v) := rfl
def trmM (m : Nat → Nat → Int32) (q : Nat × Int32) : Nat → Nat → Int32 := up2 m 152 q.1 (if m 153 q.1 = nI 0 then q.2 else m 152 q.1 * q.2)
/-- one code -/
def wkS (c : Nat) (s : Nat × (Nat → Nat → Int32)) : Nat × (Nat → Nat → Int32) :=
  if c = 28 ∨ c = 30 then (s.1 + 1, opnM (up2 s.2 154 (s.1 + 1) (if c = 30 then nI 1 else nI 0)) (s.1 + 1))
  else if c = 20 ∨ c = 21 then (s.1, up2 (smsM s.2 s.1) 151 s.1 (nI c))
  else if c = 22 then (s.1, up2 s.2 153 s.1 (nI c))
  else if c = 24 ∨ c = 25 then (s.1, up2 (up2 (up2 (up2 (smsM s.2 s.1) 148 s.1 (smsM s.2 s.1 150 s.1)) 149 s.1 (nI c)) 150 s.1 (nI 0)) 151 s.1 (nI 20))
  else if c = 26 ∨ c = 27 then (s.1, up2 (tstM s.2 s.1) 147 s.1 (nI c))
  else if c = 29 then ((popN (tstM s.2 s.1) (s.1 - 1) (tstM s.2 s.1 146 s.1)).1, trmM (tstM s.2 s.1) (popN (tstM s.2 s.1) (s.1 - 1) (tstM s.2 s.1 146 s.1)))
  else ((popN s.2 s.1 (if 100 ≤ c then nI (c - 100) else if c < 20 then s.2 155 c else nI 0)).1, trmM s.2 (popN s.2 s.1 (if 100 ≤ c then nI (c - 100) else if c < 20 then s.2 155 c else nI 0)))
def wkN (cd : Nat → Nat) (s : Nat × (Nat → Nat → Int32)) : Nat → Nat × (Nat → Nat → Int32)
  | 0 => s
  | i + 1 => wkS (cd i) (wkN cd s i)
theorem wkN_s (cd : Nat → Nat) (s : Nat × (Nat → Nat → Int32)) (i : Nat) : wkN cd s (i + 1) = wkS (cd i) (wkN cd s i) := rfl
def wkL : List Nat := [146, 147, 148, 149, 150, 151, 152, 153, 154]
theorem wk_opn {f g : Nat → Nat → Int32} (h : Eqx wkL f g) (d : Nat) : Eqx wkL f (opnM g d) := ((((h.up (by decide)).up (by decide)).up (by decide)).up (by decide)).up (by decide)
theorem wk_sms {f g : Nat → Nat → Int32} (h : Eqx wkL f g) (d : Nat) : Eqx wkL f (smsM g d) := (h.up (by decide)).up (by decide)
theorem wk_tst {f g : Nat → Nat → Int32} (h : Eqx wkL f g) (d : Nat) : Eqx wkL f (tstM g d) := (((((wk_sms h d).up (by decide)).up (by decide)).up (by decide)).up (by decide))
theorem wkS_eqx {f : Nat → Nat → Int32} {s : Nat × (Nat → Nat → Int32)} (h : Eqx wkL f s.2) (c : Nat) : Eqx wkL f (wkS c s).2 := by
  unfold wkS
  split
  · exact wk_opn (h.up (by decide)) _
  · split
    · exact (wk_sms h _).up (by decide)
    · split
      · exact h.up (by decide)
      · split
        · exact ((((wk_sms h _).up (by decide)).up (by decide)).up (by decide)).up (by decide)
        · split
          · exact (wk_tst h _).up (by decide)
          · split
            · exact (wk_tst h _).up (by decide)
            · exact h.up (by decide)
theorem wkN_eqx {f : Nat → Nat → Int32} {s : Nat × (Nat → Nat → Int32)} (h : Eqx wkL f s.2) (cd : Nat → Nat) : ∀ i, Eqx wkL f (wkN cd s i).2
  | 0 => h
  | i + 1 => wkS_eqx (wkN_eqx h cd i) _
