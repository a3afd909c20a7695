theorem l_anot (a b : Nat) : lN a &&& (lN b ^^^ -1) = lN (anot a b) := by
  apply Int64.toBitVec_inj.1
  show BitVec.ofNat 64 a &&& (BitVec.ofNat 64 b ^^^ (-1 : Int64).toBitVec) = BitVec.ofNat 64 (anot a b)
  rw [show (-1 : Int64).toBitVec = BitVec.allOnes 64 by decide +kernel]
  apply BitVec.eq_of_getLsbD_eq
  intro i hi
  simp only [BitVec.getLsbD_and, BitVec.getLsbD_xor, BitVec.getLsbD_ofNat, BitVec.getLsbD_allOnes, hi, decide_true, Bool.true_and, anot_bit, Bool.xor_true]
theorem l_not (a b : Nat) : lN a &&& ~~~lN b = lN (anot a b) := by
  rw [← l_anot]
  congr 1
  apply Int64.toBitVec_inj.1
  show ~~~(lN b).toBitVec = (lN b).toBitVec ^^^ (-1 : Int64).toBitVec
  rw [show (-1 : Int64).toBitVec = BitVec.allOnes 64 by decide +kernel, BitVec.xor_allOnes]
/-! do so many asks suffice? -/
def askd (yes left k : Nat) : Prop := 0 < yes ∧ yes < left ∧ Nat.max yes (left - yes) ≤ 2 ^ k
def sfS (np : Nat) (RL RH : Nat → Nat → Nat) : Nat → Nat → Nat → Prop
  | 0, lo, hi => pcL lo + pcL hi ≤ 1
  | k + 1, lo, hi => pcL lo + pcL hi ≤ 1 ∨ (pcL lo + pcL hi ≤ 2 ^ (k + 1) ∧ ∃ a b, a < b ∧ b < np ∧ askd (pcL (lo &&& RL a b) + pcL (hi &&& RH a b)) (pcL lo + pcL hi) k ∧ sfS np RL RH k (lo &&& RL a b) (hi &&& RH a b) ∧ sfS np RL RH k (anot lo (lo &&& RL a b)) (anot hi (hi &&& RH a b)))
noncomputable def dcd (P : Prop) : Bool := @decide P (Classical.propDecidable _)
theorem dcd_t {P : Prop} (h : P) : dcd P = true := by unfold dcd; exact @decide_eq_true P (Classical.propDecidable _) h
theorem dcd_f {P : Prop} (h : ¬ P) : dcd P = false := by unfold dcd; exact @decide_eq_false P (Classical.propDecidable _) h
theorem dcd_iff {P : Prop} : dcd P = true ↔ P := by unfold dcd; exact @decide_eq_true_iff P (Classical.propDecidable _)
theorem p2a {k : Nat} (h : k ≤ 10) : 1 ≤ 2 ^ k ∧ 2 ^ k ≤ 1024 := p2_10 h
set_option maxHeartbeats 4000000 in
set_option maxRecDepth 100000 in
theorem c0_suf0 (np : Nat) (RL RH : Nat → Nat → Nat) (l : Launch) (X : Cx) (d : Nat) (sh : Nat → Option Sh) (mI : Nat → Nat → Int32) (mL : Nat → Nat → Int64) (mR : Nat → Nat → Option Nat) (n : Nat) (K : Nat) (hO : OL sh mR K 0 ob0) (hnp : np ≤ 5) (hp : mI K 3 = nI np) (hR : ∀ x y, x < np → y < np → mL (K + 1) (5 * x + y) = lN (RL x y) ∧ mL (K + 2) (5 * x + y) = lN (RH x y)) (lo hi : Nat) (hlo : lo < 2 ^ 64) (hhi : hi < 2 ^ 64) (hd : 2 ≤ d) : Cn l X yX0_suffice cX0_suffice 9 (some .boolean) d [.ref K, .long (lN lo), .long (lN hi), .int (nI 0)] (sh, mI, mL, mR, n) (fun r M' => M' = (sh, mI, mL, mR, n) ∧ r = some (.int (bI (dcd (sfS np RL RH 0 lo hi))))) 0 0 := by
  refine Cn.run 0 false (by decide) rfl (by decide) (by simp [entA, Value.category]) ?_
  intro P G hP hG
  have q0 := hO.1
  have b1 := pcL_le lo
  have b2 := pcL_le hi
  refine hG.run [] 60 ?_
  simp [wp, stepI, ln, jmp, cmpI, Value.category, rd, tyF, va_rf, st1, st2, clr, isLg, CB, inx_0, inx_1, inx_2, inx_3, inx_4, inx_5, bI_0, bI_1, bI_ok, fin3, tyX0, entL, q0, dX0_suffice_0, dX0_suffice_1, dX0_suffice_4, dX0_suffice_5, dX0_suffice_8, dX0_suffice_9, dX0_suffice_11, dX0_suffice_13, dX0_suffice_14, dX0_suffice_17, dX0_suffice_18, dX0_suffice_19, dX0_suffice_21, dX0_suffice_24, dX0_suffice_26, dX0_suffice_27, dX0_suffice_29, dX0_suffice_30, dX0_suffice_33, dX0_suffice_34, dX0_suffice_35, dX0_suffice_36, dX0_suffice_38, dX0_suffice_40, dX0_suffice_41, fT_0_40, dX0_suffice_44, dX0_suffice_47, dX0_suffice_49, dX0_suffice_50, dX0_suffice_51, dX0_suffice_53, dX0_suffice_55, dX0_suffice_56, dX0_suffice_59, dX0_suffice_62, dX0_suffice_63, dX0_suffice_65, dX0_suffice_66, dX0_suffice_67, dX0_suffice_69, dX0_suffice_70, dX0_suffice_71, dX0_suffice_72, dX0_suffice_74, dX0_suffice_75, dX0_suffice_76, dX0_suffice_79, dX0_suffice_82, dX0_suffice_83, dX0_suffice_84, dX0_suffice_87, dX0_suffice_90, dX0_suffice_93, dX0_suffice_96, dX0_suffice_97]
  refine hG.callS dX0_suffice_1 ms_0_79 [.long (lN lo)] [] (cJ_bitsL l X (d - 1) _ lo hlo) (by omega) rfl (by decide) (by simp [Value.category]) rfl ?_
  rintro r M' ⟨rfl, rfl⟩
  refine hG.run [] 60 ?_
  simp [wp, stepI, ln, jmp, cmpI, Value.category, rd, tyF, va_rf, st1, st2, clr, isLg, CB, inx_0, inx_1, inx_2, inx_3, inx_4, inx_5, bI_0, bI_1, bI_ok, fin3, tyX0, entL, q0, dX0_suffice_0, dX0_suffice_1, dX0_suffice_4, dX0_suffice_5, dX0_suffice_8, dX0_suffice_9, dX0_suffice_11, dX0_suffice_13, dX0_suffice_14, dX0_suffice_17, dX0_suffice_18, dX0_suffice_19, dX0_suffice_21, dX0_suffice_24, dX0_suffice_26, dX0_suffice_27, dX0_suffice_29, dX0_suffice_30, dX0_suffice_33, dX0_suffice_34, dX0_suffice_35, dX0_suffice_36, dX0_suffice_38, dX0_suffice_40, dX0_suffice_41, fT_0_40, dX0_suffice_44, dX0_suffice_47, dX0_suffice_49, dX0_suffice_50, dX0_suffice_51, dX0_suffice_53, dX0_suffice_55, dX0_suffice_56, dX0_suffice_59, dX0_suffice_62, dX0_suffice_63, dX0_suffice_65, dX0_suffice_66, dX0_suffice_67, dX0_suffice_69, dX0_suffice_70, dX0_suffice_71, dX0_suffice_72, dX0_suffice_74, dX0_suffice_75, dX0_suffice_76, dX0_suffice_79, dX0_suffice_82, dX0_suffice_83, dX0_suffice_84, dX0_suffice_87, dX0_suffice_90, dX0_suffice_93, dX0_suffice_96, dX0_suffice_97]
  refine hG.callS dX0_suffice_5 ms_0_79 [.long (lN hi)] [.int (nI (pcL lo))] (cJ_bitsL l X (d - 1) _ hi hhi) (by omega) rfl (by decide) (by simp [Value.category]) rfl ?_
  rintro r M' ⟨rfl, rfl⟩
  refine hG.run [19] 60 ?_
  simp [wp, stepI, ln, jmp, cmpI, Value.category, rd, tyF, va_rf, st1, st2, clr, isLg, CB, inx_0, inx_1, inx_2, inx_3, inx_4, inx_5, bI_0, bI_1, bI_ok, fin3, tyX0, entL, q0, dX0_suffice_0, dX0_suffice_1, dX0_suffice_4, dX0_suffice_5, dX0_suffice_8, dX0_suffice_9, dX0_suffice_11, dX0_suffice_13, dX0_suffice_14, dX0_suffice_17, dX0_suffice_18, dX0_suffice_19, dX0_suffice_21, dX0_suffice_24, dX0_suffice_26, dX0_suffice_27, dX0_suffice_29, dX0_suffice_30, dX0_suffice_33, dX0_suffice_34, dX0_suffice_35, dX0_suffice_36, dX0_suffice_38, dX0_suffice_40, dX0_suffice_41, fT_0_40, dX0_suffice_44, dX0_suffice_47, dX0_suffice_49, dX0_suffice_50, dX0_suffice_51, dX0_suffice_53, dX0_suffice_55, dX0_suffice_56, dX0_suffice_59, dX0_suffice_62, dX0_suffice_63, dX0_suffice_65, dX0_suffice_66, dX0_suffice_67, dX0_suffice_69, dX0_suffice_70, dX0_suffice_71, dX0_suffice_72, dX0_suffice_74, dX0_suffice_75, dX0_suffice_76, dX0_suffice_79, dX0_suffice_82, dX0_suffice_83, dX0_suffice_84, dX0_suffice_87, dX0_suffice_90, dX0_suffice_93, dX0_suffice_96, dX0_suffice_97]
  simp (disch := omega) only [li, nI_add, nI_clamp, nI_ltI, nI_leI, nI_eq, inx_iff, a31, nI_1shl', nI_shr', div_bit, tb1, tb0, fa_or, fa_and, nI_not, pk_sub, nI_dec]
  refine ⟨fun z => ?_, fun z => hP _ _ ⟨rfl, ?_⟩⟩
  · refine hG.run [24] 60 ?_
    simp [wp, stepI, ln, jmp, cmpI, Value.category, rd, tyF, va_rf, st1, st2, clr, isLg, CB, inx_0, inx_1, inx_2, inx_3, inx_4, inx_5, bI_0, bI_1, bI_ok, fin3, tyX0, entL, q0, dX0_suffice_0, dX0_suffice_1, dX0_suffice_4, dX0_suffice_5, dX0_suffice_8, dX0_suffice_9, dX0_suffice_11, dX0_suffice_13, dX0_suffice_14, dX0_suffice_17, dX0_suffice_18, dX0_suffice_19, dX0_suffice_21, dX0_suffice_24, dX0_suffice_26, dX0_suffice_27, dX0_suffice_29, dX0_suffice_30, dX0_suffice_33, dX0_suffice_34, dX0_suffice_35, dX0_suffice_36, dX0_suffice_38, dX0_suffice_40, dX0_suffice_41, fT_0_40, dX0_suffice_44, dX0_suffice_47, dX0_suffice_49, dX0_suffice_50, dX0_suffice_51, dX0_suffice_53, dX0_suffice_55, dX0_suffice_56, dX0_suffice_59, dX0_suffice_62, dX0_suffice_63, dX0_suffice_65, dX0_suffice_66, dX0_suffice_67, dX0_suffice_69, dX0_suffice_70, dX0_suffice_71, dX0_suffice_72, dX0_suffice_74, dX0_suffice_75, dX0_suffice_76, dX0_suffice_79, dX0_suffice_82, dX0_suffice_83, dX0_suffice_84, dX0_suffice_87, dX0_suffice_90, dX0_suffice_93, dX0_suffice_96, dX0_suffice_97]
    simp (disch := omega) only [li, nI_add, nI_clamp, nI_ltI, nI_leI, nI_eq, inx_iff, a31, nI_1shl', nI_shr', div_bit, tb1, tb0, fa_or, fa_and, nI_not, pk_sub, nI_dec]
    have : ¬ sfS np RL RH 0 lo hi := fun w => by
      have w' : pcL lo + pcL hi ≤ 1 := w
      omega
    rw [dcd_f this] at hP
    first
      | exact hP _ _ ⟨rfl, rfl⟩
      | exact ⟨fun _ => hP _ _ ⟨rfl, rfl⟩, fun z => by omega⟩
      | exact ⟨fun _ => hP _ _ ⟨rfl, rfl⟩, fun z => absurd trivial z⟩
  · rw [dcd_t (show sfS np RL RH 0 lo hi from by show pcL lo + pcL hi ≤ 1; omega)]; rfl
/-! one question more: what stands behind it -/
theorem pcL_anot (a b : Nat) : pcL (anot a (a &&& b)) + pcL (a &&& b) = pcL a := by
  unfold pcL
  have h := fb_ct_or (p := fun k => (anot a (a &&& b)).testBit k) (q := fun k => (a &&& b).testBit k) (n := 64) (fun k _ => by
    simp only [anot_bit, Nat.testBit_and]
    cases a.testBit k <;> cases b.testBit k <;> simp)
  rw [← h]
  refine fb_ct_cong (fun k _ => ?_)
  simp only [anot_bit, Nat.testBit_and]
  cases a.testBit k <;> cases b.testBit k <;> rfl
def bhP (np k : Nat) (RL RH : Nat → Nat → Nat) (a b lo hi : Nat) : Prop := askd (pcL (lo &&& RL a b) + pcL (hi &&& RH a b)) (pcL lo + pcL hi) k ∧ sfS np RL RH k (lo &&& RL a b) (hi &&& RH a b) ∧ sfS np RL RH k (anot lo (lo &&& RL a b)) (anot hi (hi &&& RH a b))
set_option maxHeartbeats 4000000 in
set_option maxRecDepth 100000 in
theorem c0_behind (np k : Nat) (RL RH : Nat → Nat → Nat) (l : Launch) (X : Cx) (d : Nat) (sh : Nat → Option Sh) (mI : Nat → Nat → Int32) (mL : Nat → Nat → Int64) (mR : Nat → Nat → Option Nat) (n : Nat) (K : Nat) (hO : OL sh mR K 0 ob0) (hnp : np ≤ 5) (hp : mI K 3 = nI np) (hR : ∀ x y, x < np → y < np → mL (K + 1) (5 * x + y) = lN (RL x y) ∧ mL (K + 2) (5 * x + y) = lN (RH x y)) (a b : Nat) (ha : a < np) (hb : b < np) (lo hi : Nat) (hlo : lo < 2 ^ 64) (hhi : hi < 2 ^ 64) (hk : k ≤ 10) (hd : 2 * k + 3 ≤ d) (ih : ∀ lo hi, lo < 2 ^ 64 → hi < 2 ^ 64 → Cn l X yX0_suffice cX0_suffice 9 (some .boolean) (d - 1) [.ref K, .long (lN lo), .long (lN hi), .int (nI k)] (sh, mI, mL, mR, n) (fun r M' => M' = (sh, mI, mL, mR, n) ∧ r = some (.int (bI (dcd (sfS np RL RH k lo hi))))) 0 0) : Cn l X yX0_sufficeBehind cX0_sufficeBehind 17 (some .boolean) d [.ref K, .int (nI (a * 5 + b)), .long (lN lo), .long (lN hi), .int (nI k)] (sh, mI, mL, mR, n) (fun r M' => M' = (sh, mI, mL, mR, n) ∧ r = some (.int (bI (dcd (bhP np k RL RH a b lo hi))))) 0 0 := by
  refine Cn.run 0 false (by decide) rfl (by decide) (by simp [entA, Value.category]) ?_
  intro P G hP hG
  have q0 := hO.1
  have q_low := hO.2.2 (0, 1, .long, 25) (by decide)
  dsimp only at q_low
  have q_high := hO.2.2 (1, 2, .long, 25) (by decide)
  dsimp only at q_high
  obtain ⟨r1, r2⟩ := hR a b ha hb
  rw [Nat.mul_comm 5] at r1 r2
  have p2 := p2a hk
  have fin0 : ¬ bhP np k RL RH a b lo hi → P (some (.int (nI 0))) (sh, mI, mL, mR, n) := fun h => hP _ _ ⟨rfl, by rw [dcd_f h]; rfl⟩
  have fin1 : bhP np k RL RH a b lo hi → P (some (.int (nI 1))) (sh, mI, mL, mR, n) := fun h => hP _ _ ⟨rfl, by rw [dcd_t h]; rfl⟩
  clear hP
  unfold bhP at fin0 fin1
  have q1 := pcL_anot lo (RL a b)
  have q2 := pcL_anot hi (RH a b)
  obtain ⟨y1, hy1⟩ : ∃ y1, y1 = lo &&& RL a b := ⟨_, rfl⟩
  obtain ⟨y2, hy2⟩ : ∃ y2, y2 = hi &&& RH a b := ⟨_, rfl⟩
  rw [← hy1, ← hy2] at fin0 fin1
  rw [← hy1] at q1
  rw [← hy2] at q2
  have ly1 : y1 < 2 ^ 64 := by rw [hy1]; exact Nat.lt_of_le_of_lt Nat.and_le_left hlo
  have ly2 : y2 < 2 ^ 64 := by rw [hy2]; exact Nat.lt_of_le_of_lt Nat.and_le_left hhi
  have la1 : anot lo y1 < 2 ^ 64 := Nat.lt_of_le_of_lt (anot_le _ _) hlo
  have la2 : anot hi y2 < 2 ^ 64 := Nat.lt_of_le_of_lt (anot_le _ _) hhi
  have c1 := pcL_le lo
  have c2 := pcL_le hi
  refine hG.run [] 80 ?_
  simp [wp, stepI, ln, jmp, cmpI, Value.category, rd, tyF, va_rf, st1, st2, clr, isLg, CB, inx_0, inx_1, inx_2, inx_3, inx_4, inx_5, bI_0, bI_1, bI_ok, fin3, tyX0, entL, q0, q_low, q_high, dX0_sufficeBehind_0, dX0_sufficeBehind_1, dX0_sufficeBehind_2, fT_0_9, dX0_sufficeBehind_5, dX0_sufficeBehind_6, dX0_sufficeBehind_7, dX0_sufficeBehind_8, dX0_sufficeBehind_10, dX0_sufficeBehind_12, dX0_sufficeBehind_13, fT_0_15, dX0_sufficeBehind_16, dX0_sufficeBehind_17, dX0_sufficeBehind_18, dX0_sufficeBehind_19, dX0_sufficeBehind_21, dX0_sufficeBehind_22, dX0_sufficeBehind_24, cL_0_89, dX0_sufficeBehind_27, dX0_sufficeBehind_28, dX0_sufficeBehind_29, dX0_sufficeBehind_31, dX0_sufficeBehind_33, dX0_sufficeBehind_35, dX0_sufficeBehind_38, dX0_sufficeBehind_39, dX0_sufficeBehind_40, dX0_sufficeBehind_42, dX0_sufficeBehind_44, dX0_sufficeBehind_47, dX0_sufficeBehind_49, dX0_sufficeBehind_52, dX0_sufficeBehind_53, dX0_sufficeBehind_55, dX0_sufficeBehind_57, dX0_sufficeBehind_60, dX0_sufficeBehind_62, dX0_sufficeBehind_65, dX0_sufficeBehind_66, dX0_sufficeBehind_68, dX0_sufficeBehind_70, dX0_sufficeBehind_73, dX0_sufficeBehind_75, dX0_sufficeBehind_78, dX0_sufficeBehind_80, dX0_sufficeBehind_82, dX0_sufficeBehind_85, dX0_sufficeBehind_86, dX0_sufficeBehind_88, dX0_sufficeBehind_89, dX0_sufficeBehind_92, dX0_sufficeBehind_93, dX0_sufficeBehind_94, dX0_sufficeBehind_95, dX0_sufficeBehind_97, dX0_sufficeBehind_99, dX0_sufficeBehind_101, dX0_sufficeBehind_104, dX0_sufficeBehind_107, dX0_sufficeBehind_108, dX0_sufficeBehind_110, dX0_sufficeBehind_112, dX0_sufficeBehind_114, dX0_sufficeBehind_117, dX0_sufficeBehind_120, dX0_sufficeBehind_121, dX0_sufficeBehind_124, dX0_sufficeBehind_125]
  simp (disch := omega) only [li, nI_add, nI_clamp, nI_ltI, nI_leI, nI_eq, inx_iff, a31, nI_1shl', nI_shr', div_bit, tb1, tb0, fa_or, fa_and, nI_not, pk_sub, nI_dec, r1, r2, fb_andL, ← hy1, ← hy2, l_not]
  refine ⟨by omega, ?_⟩
  refine hG.callS dX0_sufficeBehind_44 ms_0_79 [.long (lN y1)] [] (cJ_bitsL l X (d - 1) _ y1 ly1) (by omega) rfl (by decide) (by simp [Value.category]) rfl ?_
  rintro r M' ⟨rfl, rfl⟩
  refine hG.run [] 60 ?_
  simp [wp, stepI, ln, jmp, cmpI, Value.category, rd, tyF, va_rf, st1, st2, clr, isLg, CB, inx_0, inx_1, inx_2, inx_3, inx_4, inx_5, bI_0, bI_1, bI_ok, fin3, tyX0, entL, q0, dX0_sufficeBehind_0, dX0_sufficeBehind_1, dX0_sufficeBehind_2, fT_0_9, dX0_sufficeBehind_5, dX0_sufficeBehind_6, dX0_sufficeBehind_7, dX0_sufficeBehind_8, dX0_sufficeBehind_10, dX0_sufficeBehind_12, dX0_sufficeBehind_13, fT_0_15, dX0_sufficeBehind_16, dX0_sufficeBehind_17, dX0_sufficeBehind_18, dX0_sufficeBehind_19, dX0_sufficeBehind_21, dX0_sufficeBehind_22, dX0_sufficeBehind_24, cL_0_89, dX0_sufficeBehind_27, dX0_sufficeBehind_28, dX0_sufficeBehind_29, dX0_sufficeBehind_31, dX0_sufficeBehind_33, dX0_sufficeBehind_35, dX0_sufficeBehind_38, dX0_sufficeBehind_39, dX0_sufficeBehind_40, dX0_sufficeBehind_42, dX0_sufficeBehind_44, dX0_sufficeBehind_47, dX0_sufficeBehind_49, dX0_sufficeBehind_52, dX0_sufficeBehind_53, dX0_sufficeBehind_55, dX0_sufficeBehind_57, dX0_sufficeBehind_60, dX0_sufficeBehind_62, dX0_sufficeBehind_65, dX0_sufficeBehind_66, dX0_sufficeBehind_68, dX0_sufficeBehind_70, dX0_sufficeBehind_73, dX0_sufficeBehind_75, dX0_sufficeBehind_78, dX0_sufficeBehind_80, dX0_sufficeBehind_82, dX0_sufficeBehind_85, dX0_sufficeBehind_86, dX0_sufficeBehind_88, dX0_sufficeBehind_89, dX0_sufficeBehind_92, dX0_sufficeBehind_93, dX0_sufficeBehind_94, dX0_sufficeBehind_95, dX0_sufficeBehind_97, dX0_sufficeBehind_99, dX0_sufficeBehind_101, dX0_sufficeBehind_104, dX0_sufficeBehind_107, dX0_sufficeBehind_108, dX0_sufficeBehind_110, dX0_sufficeBehind_112, dX0_sufficeBehind_114, dX0_sufficeBehind_117, dX0_sufficeBehind_120, dX0_sufficeBehind_121, dX0_sufficeBehind_124, dX0_sufficeBehind_125]
  refine hG.callS dX0_sufficeBehind_49 ms_0_79 [.long (lN y2)] [.int (nI (pcL y1))] (cJ_bitsL l X (d - 1) _ y2 ly2) (by omega) rfl (by decide) (by simp [Value.category]) rfl ?_
  rintro r M' ⟨rfl, rfl⟩
  refine hG.run [] 60 ?_
  simp [wp, stepI, ln, jmp, cmpI, Value.category, rd, tyF, va_rf, st1, st2, clr, isLg, CB, inx_0, inx_1, inx_2, inx_3, inx_4, inx_5, bI_0, bI_1, bI_ok, fin3, tyX0, entL, q0, dX0_sufficeBehind_0, dX0_sufficeBehind_1, dX0_sufficeBehind_2, fT_0_9, dX0_sufficeBehind_5, dX0_sufficeBehind_6, dX0_sufficeBehind_7, dX0_sufficeBehind_8, dX0_sufficeBehind_10, dX0_sufficeBehind_12, dX0_sufficeBehind_13, fT_0_15, dX0_sufficeBehind_16, dX0_sufficeBehind_17, dX0_sufficeBehind_18, dX0_sufficeBehind_19, dX0_sufficeBehind_21, dX0_sufficeBehind_22, dX0_sufficeBehind_24, cL_0_89, dX0_sufficeBehind_27, dX0_sufficeBehind_28, dX0_sufficeBehind_29, dX0_sufficeBehind_31, dX0_sufficeBehind_33, dX0_sufficeBehind_35, dX0_sufficeBehind_38, dX0_sufficeBehind_39, dX0_sufficeBehind_40, dX0_sufficeBehind_42, dX0_sufficeBehind_44, dX0_sufficeBehind_47, dX0_sufficeBehind_49, dX0_sufficeBehind_52, dX0_sufficeBehind_53, dX0_sufficeBehind_55, dX0_sufficeBehind_57, dX0_sufficeBehind_60, dX0_sufficeBehind_62, dX0_sufficeBehind_65, dX0_sufficeBehind_66, dX0_sufficeBehind_68, dX0_sufficeBehind_70, dX0_sufficeBehind_73, dX0_sufficeBehind_75, dX0_sufficeBehind_78, dX0_sufficeBehind_80, dX0_sufficeBehind_82, dX0_sufficeBehind_85, dX0_sufficeBehind_86, dX0_sufficeBehind_88, dX0_sufficeBehind_89, dX0_sufficeBehind_92, dX0_sufficeBehind_93, dX0_sufficeBehind_94, dX0_sufficeBehind_95, dX0_sufficeBehind_97, dX0_sufficeBehind_99, dX0_sufficeBehind_101, dX0_sufficeBehind_104, dX0_sufficeBehind_107, dX0_sufficeBehind_108, dX0_sufficeBehind_110, dX0_sufficeBehind_112, dX0_sufficeBehind_114, dX0_sufficeBehind_117, dX0_sufficeBehind_120, dX0_sufficeBehind_121, dX0_sufficeBehind_124, dX0_sufficeBehind_125]
  refine hG.callS dX0_sufficeBehind_57 ms_0_79 [.long (lN (anot lo y1))] [] (cJ_bitsL l X (d - 1) _ _ la1) (by omega) rfl (by decide) (by simp [Value.category]) rfl ?_
  rintro r M' ⟨rfl, rfl⟩
  refine hG.run [] 60 ?_
  simp [wp, stepI, ln, jmp, cmpI, Value.category, rd, tyF, va_rf, st1, st2, clr, isLg, CB, inx_0, inx_1, inx_2, inx_3, inx_4, inx_5, bI_0, bI_1, bI_ok, fin3, tyX0, entL, q0, dX0_sufficeBehind_0, dX0_sufficeBehind_1, dX0_sufficeBehind_2, fT_0_9, dX0_sufficeBehind_5, dX0_sufficeBehind_6, dX0_sufficeBehind_7, dX0_sufficeBehind_8, dX0_sufficeBehind_10, dX0_sufficeBehind_12, dX0_sufficeBehind_13, fT_0_15, dX0_sufficeBehind_16, dX0_sufficeBehind_17, dX0_sufficeBehind_18, dX0_sufficeBehind_19, dX0_sufficeBehind_21, dX0_sufficeBehind_22, dX0_sufficeBehind_24, cL_0_89, dX0_sufficeBehind_27, dX0_sufficeBehind_28, dX0_sufficeBehind_29, dX0_sufficeBehind_31, dX0_sufficeBehind_33, dX0_sufficeBehind_35, dX0_sufficeBehind_38, dX0_sufficeBehind_39, dX0_sufficeBehind_40, dX0_sufficeBehind_42, dX0_sufficeBehind_44, dX0_sufficeBehind_47, dX0_sufficeBehind_49, dX0_sufficeBehind_52, dX0_sufficeBehind_53, dX0_sufficeBehind_55, dX0_sufficeBehind_57, dX0_sufficeBehind_60, dX0_sufficeBehind_62, dX0_sufficeBehind_65, dX0_sufficeBehind_66, dX0_sufficeBehind_68, dX0_sufficeBehind_70, dX0_sufficeBehind_73, dX0_sufficeBehind_75, dX0_sufficeBehind_78, dX0_sufficeBehind_80, dX0_sufficeBehind_82, dX0_sufficeBehind_85, dX0_sufficeBehind_86, dX0_sufficeBehind_88, dX0_sufficeBehind_89, dX0_sufficeBehind_92, dX0_sufficeBehind_93, dX0_sufficeBehind_94, dX0_sufficeBehind_95, dX0_sufficeBehind_97, dX0_sufficeBehind_99, dX0_sufficeBehind_101, dX0_sufficeBehind_104, dX0_sufficeBehind_107, dX0_sufficeBehind_108, dX0_sufficeBehind_110, dX0_sufficeBehind_112, dX0_sufficeBehind_114, dX0_sufficeBehind_117, dX0_sufficeBehind_120, dX0_sufficeBehind_121, dX0_sufficeBehind_124, dX0_sufficeBehind_125]
  refine hG.callS dX0_sufficeBehind_62 ms_0_79 [.long (lN (anot hi y2))] [.int (nI (pcL (anot lo y1)))] (cJ_bitsL l X (d - 1) _ _ la2) (by omega) rfl (by decide) (by simp [Value.category]) rfl ?_
  rintro r M' ⟨rfl, rfl⟩
  obtain ⟨left, hleft⟩ : ∃ left, left = pcL lo + pcL hi := ⟨_, rfl⟩
  obtain ⟨ye, hye⟩ : ∃ ye, ye = pcL y1 + pcL y2 := ⟨_, rfl⟩
  obtain ⟨oo, hoo⟩ : ∃ oo, oo = pcL (anot lo y1) + pcL (anot hi y2) := ⟨_, rfl⟩
  rw [← hye, ← hleft] at fin0 fin1
  have lf : oo = left - ye := by omega
  have lye : ye ≤ left := by omega
  have lle : left ≤ 128 := by omega
  refine hG.run [] 80 ?_
  simp [wp, stepI, ln, jmp, cmpI, Value.category, rd, tyF, va_rf, st1, st2, clr, isLg, CB, inx_0, inx_1, inx_2, inx_3, inx_4, inx_5, bI_0, bI_1, bI_ok, fin3, tyX0, entL, q0, dX0_sufficeBehind_0, dX0_sufficeBehind_1, dX0_sufficeBehind_2, fT_0_9, dX0_sufficeBehind_5, dX0_sufficeBehind_6, dX0_sufficeBehind_7, dX0_sufficeBehind_8, dX0_sufficeBehind_10, dX0_sufficeBehind_12, dX0_sufficeBehind_13, fT_0_15, dX0_sufficeBehind_16, dX0_sufficeBehind_17, dX0_sufficeBehind_18, dX0_sufficeBehind_19, dX0_sufficeBehind_21, dX0_sufficeBehind_22, dX0_sufficeBehind_24, cL_0_89, dX0_sufficeBehind_27, dX0_sufficeBehind_28, dX0_sufficeBehind_29, dX0_sufficeBehind_31, dX0_sufficeBehind_33, dX0_sufficeBehind_35, dX0_sufficeBehind_38, dX0_sufficeBehind_39, dX0_sufficeBehind_40, dX0_sufficeBehind_42, dX0_sufficeBehind_44, dX0_sufficeBehind_47, dX0_sufficeBehind_49, dX0_sufficeBehind_52, dX0_sufficeBehind_53, dX0_sufficeBehind_55, dX0_sufficeBehind_57, dX0_sufficeBehind_60, dX0_sufficeBehind_62, dX0_sufficeBehind_65, dX0_sufficeBehind_66, dX0_sufficeBehind_68, dX0_sufficeBehind_70, dX0_sufficeBehind_73, dX0_sufficeBehind_75, dX0_sufficeBehind_78, dX0_sufficeBehind_80, dX0_sufficeBehind_82, dX0_sufficeBehind_85, dX0_sufficeBehind_86, dX0_sufficeBehind_88, dX0_sufficeBehind_89, dX0_sufficeBehind_92, dX0_sufficeBehind_93, dX0_sufficeBehind_94, dX0_sufficeBehind_95, dX0_sufficeBehind_97, dX0_sufficeBehind_99, dX0_sufficeBehind_101, dX0_sufficeBehind_104, dX0_sufficeBehind_107, dX0_sufficeBehind_108, dX0_sufficeBehind_110, dX0_sufficeBehind_112, dX0_sufficeBehind_114, dX0_sufficeBehind_117, dX0_sufficeBehind_120, dX0_sufficeBehind_121, dX0_sufficeBehind_124, dX0_sufficeBehind_125]
  simp (disch := omega) only [li, nI_add, nI_clamp, nI_ltI, nI_leI, nI_eq, inx_iff, a31, nI_1shl', nI_shr', div_bit, tb1, tb0, fa_or, fa_and, nI_not, pk_sub, nI_dec, ← hye, ← hoo]
  refine ⟨fun z => fin0 (fun w => by have := w.1.1; omega), fun z => ⟨fun z2 => fin0 (fun w => by have := w.1.2.1; omega), fun z2 => ?_⟩⟩
  refine hG.mmax dX0_sufficeBehind_82 ms_0_49.link [] (by omega) (by simp [Value.category]) ?_
  have mx : (if nI ye < nI oo then nI oo else nI ye) = nI (Nat.max ye oo) := by
    by_cases w : ye < oo
    · rw [if_pos ((nI_ltI (by omega) (by omega)).mpr w)]
      congr 1
      exact (Nat.max_eq_right (by omega)).symm
    · rw [if_neg (fun v => w ((nI_ltI (by omega) (by omega)).mp v))]
      congr 1
      exact (Nat.max_eq_left (by omega)).symm
  rw [mx]
  have lm : Nat.max ye oo ≤ 128 := Nat.max_le.mpr ⟨by omega, by omega⟩
  have ka : Nat.max ye oo ≤ 2 ^ k ↔ askd ye left k := by
    rw [lf]
    exact ⟨fun w => ⟨by omega, by omega, w⟩, fun w => w.2.2⟩
  generalize Nat.max ye oo = mm at lm ka ⊢
  refine hG.run [] 80 ?_
  simp [wp, stepI, ln, jmp, cmpI, Value.category, rd, tyF, va_rf, st1, st2, clr, isLg, CB, inx_0, inx_1, inx_2, inx_3, inx_4, inx_5, bI_0, bI_1, bI_ok, fin3, tyX0, entL, q0, dX0_sufficeBehind_0, dX0_sufficeBehind_1, dX0_sufficeBehind_2, fT_0_9, dX0_sufficeBehind_5, dX0_sufficeBehind_6, dX0_sufficeBehind_7, dX0_sufficeBehind_8, dX0_sufficeBehind_10, dX0_sufficeBehind_12, dX0_sufficeBehind_13, fT_0_15, dX0_sufficeBehind_16, dX0_sufficeBehind_17, dX0_sufficeBehind_18, dX0_sufficeBehind_19, dX0_sufficeBehind_21, dX0_sufficeBehind_22, dX0_sufficeBehind_24, cL_0_89, dX0_sufficeBehind_27, dX0_sufficeBehind_28, dX0_sufficeBehind_29, dX0_sufficeBehind_31, dX0_sufficeBehind_33, dX0_sufficeBehind_35, dX0_sufficeBehind_38, dX0_sufficeBehind_39, dX0_sufficeBehind_40, dX0_sufficeBehind_42, dX0_sufficeBehind_44, dX0_sufficeBehind_47, dX0_sufficeBehind_49, dX0_sufficeBehind_52, dX0_sufficeBehind_53, dX0_sufficeBehind_55, dX0_sufficeBehind_57, dX0_sufficeBehind_60, dX0_sufficeBehind_62, dX0_sufficeBehind_65, dX0_sufficeBehind_66, dX0_sufficeBehind_68, dX0_sufficeBehind_70, dX0_sufficeBehind_73, dX0_sufficeBehind_75, dX0_sufficeBehind_78, dX0_sufficeBehind_80, dX0_sufficeBehind_82, dX0_sufficeBehind_85, dX0_sufficeBehind_86, dX0_sufficeBehind_88, dX0_sufficeBehind_89, dX0_sufficeBehind_92, dX0_sufficeBehind_93, dX0_sufficeBehind_94, dX0_sufficeBehind_95, dX0_sufficeBehind_97, dX0_sufficeBehind_99, dX0_sufficeBehind_101, dX0_sufficeBehind_104, dX0_sufficeBehind_107, dX0_sufficeBehind_108, dX0_sufficeBehind_110, dX0_sufficeBehind_112, dX0_sufficeBehind_114, dX0_sufficeBehind_117, dX0_sufficeBehind_120, dX0_sufficeBehind_121, dX0_sufficeBehind_124, dX0_sufficeBehind_125]
  simp (disch := omega) only [li, nI_add, nI_clamp, nI_ltI, nI_leI, nI_eq, inx_iff, a31, nI_1shl', nI_shr', div_bit, tb1, tb0, fa_or, fa_and, nI_not, pk_sub, nI_dec]
  refine ⟨fun w => ?_, fun w => fin0 (fun v => by have := ka.mpr v.1; omega)⟩
  have e1 : bI true = nI 1 := rfl
  have e0 : bI false = nI 0 := rfl
  refine hG.callV dX0_sufficeBehind_101 mv_0_61 [.long (lN y1), .long (lN y2), .int (nI k)] [] (ih y1 y2 ly1 ly2) ⟨_, rfl, rfl⟩ q0 (by omega) rfl (by decide) (by simp [Value.category]) rfl ?_
  rintro r M' ⟨rfl, rfl⟩
  by_cases s1 : sfS np RL RH k y1 y2
  · rw [dcd_t s1, e1]
    refine hG.run [] 60 ?_
    simp [wp, stepI, ln, jmp, cmpI, Value.category, rd, tyF, va_rf, st1, st2, clr, isLg, CB, inx_0, inx_1, inx_2, inx_3, inx_4, inx_5, bI_0, bI_1, bI_ok, fin3, tyX0, entL, q0, dX0_sufficeBehind_0, dX0_sufficeBehind_1, dX0_sufficeBehind_2, fT_0_9, dX0_sufficeBehind_5, dX0_sufficeBehind_6, dX0_sufficeBehind_7, dX0_sufficeBehind_8, dX0_sufficeBehind_10, dX0_sufficeBehind_12, dX0_sufficeBehind_13, fT_0_15, dX0_sufficeBehind_16, dX0_sufficeBehind_17, dX0_sufficeBehind_18, dX0_sufficeBehind_19, dX0_sufficeBehind_21, dX0_sufficeBehind_22, dX0_sufficeBehind_24, cL_0_89, dX0_sufficeBehind_27, dX0_sufficeBehind_28, dX0_sufficeBehind_29, dX0_sufficeBehind_31, dX0_sufficeBehind_33, dX0_sufficeBehind_35, dX0_sufficeBehind_38, dX0_sufficeBehind_39, dX0_sufficeBehind_40, dX0_sufficeBehind_42, dX0_sufficeBehind_44, dX0_sufficeBehind_47, dX0_sufficeBehind_49, dX0_sufficeBehind_52, dX0_sufficeBehind_53, dX0_sufficeBehind_55, dX0_sufficeBehind_57, dX0_sufficeBehind_60, dX0_sufficeBehind_62, dX0_sufficeBehind_65, dX0_sufficeBehind_66, dX0_sufficeBehind_68, dX0_sufficeBehind_70, dX0_sufficeBehind_73, dX0_sufficeBehind_75, dX0_sufficeBehind_78, dX0_sufficeBehind_80, dX0_sufficeBehind_82, dX0_sufficeBehind_85, dX0_sufficeBehind_86, dX0_sufficeBehind_88, dX0_sufficeBehind_89, dX0_sufficeBehind_92, dX0_sufficeBehind_93, dX0_sufficeBehind_94, dX0_sufficeBehind_95, dX0_sufficeBehind_97, dX0_sufficeBehind_99, dX0_sufficeBehind_101, dX0_sufficeBehind_104, dX0_sufficeBehind_107, dX0_sufficeBehind_108, dX0_sufficeBehind_110, dX0_sufficeBehind_112, dX0_sufficeBehind_114, dX0_sufficeBehind_117, dX0_sufficeBehind_120, dX0_sufficeBehind_121, dX0_sufficeBehind_124, dX0_sufficeBehind_125]
    simp (disch := omega) only [li, nI_add, nI_clamp, nI_ltI, nI_leI, nI_eq, inx_iff, a31, nI_1shl', nI_shr', div_bit, tb1, tb0, fa_or, fa_and, nI_not, pk_sub, nI_dec]
    refine ⟨fun z => by omega, fun _ => ?_⟩
    refine hG.callV dX0_sufficeBehind_114 mv_0_61 [.long (lN (anot lo y1)), .long (lN (anot hi y2)), .int (nI k)] [] (ih (anot lo y1) (anot hi y2) la1 la2) ⟨_, rfl, rfl⟩ q0 (by omega) rfl (by decide) (by simp [Value.category]) rfl ?_
    rintro r M' ⟨rfl, rfl⟩
    by_cases s2 : sfS np RL RH k (anot lo y1) (anot hi y2)
    · rw [dcd_t s2, e1]
      refine hG.run [] 60 ?_
      simp [wp, stepI, ln, jmp, cmpI, Value.category, rd, tyF, va_rf, st1, st2, clr, isLg, CB, inx_0, inx_1, inx_2, inx_3, inx_4, inx_5, bI_0, bI_1, bI_ok, fin3, tyX0, entL, q0, dX0_sufficeBehind_0, dX0_sufficeBehind_1, dX0_sufficeBehind_2, fT_0_9, dX0_sufficeBehind_5, dX0_sufficeBehind_6, dX0_sufficeBehind_7, dX0_sufficeBehind_8, dX0_sufficeBehind_10, dX0_sufficeBehind_12, dX0_sufficeBehind_13, fT_0_15, dX0_sufficeBehind_16, dX0_sufficeBehind_17, dX0_sufficeBehind_18, dX0_sufficeBehind_19, dX0_sufficeBehind_21, dX0_sufficeBehind_22, dX0_sufficeBehind_24, cL_0_89, dX0_sufficeBehind_27, dX0_sufficeBehind_28, dX0_sufficeBehind_29, dX0_sufficeBehind_31, dX0_sufficeBehind_33, dX0_sufficeBehind_35, dX0_sufficeBehind_38, dX0_sufficeBehind_39, dX0_sufficeBehind_40, dX0_sufficeBehind_42, dX0_sufficeBehind_44, dX0_sufficeBehind_47, dX0_sufficeBehind_49, dX0_sufficeBehind_52, dX0_sufficeBehind_53, dX0_sufficeBehind_55, dX0_sufficeBehind_57, dX0_sufficeBehind_60, dX0_sufficeBehind_62, dX0_sufficeBehind_65, dX0_sufficeBehind_66, dX0_sufficeBehind_68, dX0_sufficeBehind_70, dX0_sufficeBehind_73, dX0_sufficeBehind_75, dX0_sufficeBehind_78, dX0_sufficeBehind_80, dX0_sufficeBehind_82, dX0_sufficeBehind_85, dX0_sufficeBehind_86, dX0_sufficeBehind_88, dX0_sufficeBehind_89, dX0_sufficeBehind_92, dX0_sufficeBehind_93, dX0_sufficeBehind_94, dX0_sufficeBehind_95, dX0_sufficeBehind_97, dX0_sufficeBehind_99, dX0_sufficeBehind_101, dX0_sufficeBehind_104, dX0_sufficeBehind_107, dX0_sufficeBehind_108, dX0_sufficeBehind_110, dX0_sufficeBehind_112, dX0_sufficeBehind_114, dX0_sufficeBehind_117, dX0_sufficeBehind_120, dX0_sufficeBehind_121, dX0_sufficeBehind_124, dX0_sufficeBehind_125]
      simp (disch := omega) only [li, nI_add, nI_clamp, nI_ltI, nI_leI, nI_eq, inx_iff, a31, nI_1shl', nI_shr', div_bit, tb1, tb0, fa_or, fa_and, nI_not, pk_sub, nI_dec]
      first
        | exact fin1 ⟨ka.mp w, s1, s2⟩
        | exact ⟨fun z => by omega, fun _ => fin1 ⟨ka.mp w, s1, s2⟩⟩
    · rw [dcd_f s2, e0]
      refine hG.run [] 60 ?_
      simp [wp, stepI, ln, jmp, cmpI, Value.category, rd, tyF, va_rf, st1, st2, clr, isLg, CB, inx_0, inx_1, inx_2, inx_3, inx_4, inx_5, bI_0, bI_1, bI_ok, fin3, tyX0, entL, q0, dX0_sufficeBehind_0, dX0_sufficeBehind_1, dX0_sufficeBehind_2, fT_0_9, dX0_sufficeBehind_5, dX0_sufficeBehind_6, dX0_sufficeBehind_7, dX0_sufficeBehind_8, dX0_sufficeBehind_10, dX0_sufficeBehind_12, dX0_sufficeBehind_13, fT_0_15, dX0_sufficeBehind_16, dX0_sufficeBehind_17, dX0_sufficeBehind_18, dX0_sufficeBehind_19, dX0_sufficeBehind_21, dX0_sufficeBehind_22, dX0_sufficeBehind_24, cL_0_89, dX0_sufficeBehind_27, dX0_sufficeBehind_28, dX0_sufficeBehind_29, dX0_sufficeBehind_31, dX0_sufficeBehind_33, dX0_sufficeBehind_35, dX0_sufficeBehind_38, dX0_sufficeBehind_39, dX0_sufficeBehind_40, dX0_sufficeBehind_42, dX0_sufficeBehind_44, dX0_sufficeBehind_47, dX0_sufficeBehind_49, dX0_sufficeBehind_52, dX0_sufficeBehind_53, dX0_sufficeBehind_55, dX0_sufficeBehind_57, dX0_sufficeBehind_60, dX0_sufficeBehind_62, dX0_sufficeBehind_65, dX0_sufficeBehind_66, dX0_sufficeBehind_68, dX0_sufficeBehind_70, dX0_sufficeBehind_73, dX0_sufficeBehind_75, dX0_sufficeBehind_78, dX0_sufficeBehind_80, dX0_sufficeBehind_82, dX0_sufficeBehind_85, dX0_sufficeBehind_86, dX0_sufficeBehind_88, dX0_sufficeBehind_89, dX0_sufficeBehind_92, dX0_sufficeBehind_93, dX0_sufficeBehind_94, dX0_sufficeBehind_95, dX0_sufficeBehind_97, dX0_sufficeBehind_99, dX0_sufficeBehind_101, dX0_sufficeBehind_104, dX0_sufficeBehind_107, dX0_sufficeBehind_108, dX0_sufficeBehind_110, dX0_sufficeBehind_112, dX0_sufficeBehind_114, dX0_sufficeBehind_117, dX0_sufficeBehind_120, dX0_sufficeBehind_121, dX0_sufficeBehind_124, dX0_sufficeBehind_125]
      simp (disch := omega) only [li, nI_add, nI_clamp, nI_ltI, nI_leI, nI_eq, inx_iff, a31, nI_1shl', nI_shr', div_bit, tb1, tb0, fa_or, fa_and, nI_not, pk_sub, nI_dec]
      first
        | exact fin0 (fun w => s2 w.2.2)
        | exact ⟨fun _ => fin0 (fun w => s2 w.2.2), fun z => by omega⟩
        | exact ⟨fun _ => fin0 (fun w => s2 w.2.2), fun z => absurd trivial z⟩
  · rw [dcd_f s1, e0]
    refine hG.run [] 60 ?_
    simp [wp, stepI, ln, jmp, cmpI, Value.category, rd, tyF, va_rf, st1, st2, clr, isLg, CB, inx_0, inx_1, inx_2, inx_3, inx_4, inx_5, bI_0, bI_1, bI_ok, fin3, tyX0, entL, q0, dX0_sufficeBehind_0, dX0_sufficeBehind_1, dX0_sufficeBehind_2, fT_0_9, dX0_sufficeBehind_5, dX0_sufficeBehind_6, dX0_sufficeBehind_7, dX0_sufficeBehind_8, dX0_sufficeBehind_10, dX0_sufficeBehind_12, dX0_sufficeBehind_13, fT_0_15, dX0_sufficeBehind_16, dX0_sufficeBehind_17, dX0_sufficeBehind_18, dX0_sufficeBehind_19, dX0_sufficeBehind_21, dX0_sufficeBehind_22, dX0_sufficeBehind_24, cL_0_89, dX0_sufficeBehind_27, dX0_sufficeBehind_28, dX0_sufficeBehind_29, dX0_sufficeBehind_31, dX0_sufficeBehind_33, dX0_sufficeBehind_35, dX0_sufficeBehind_38, dX0_sufficeBehind_39, dX0_sufficeBehind_40, dX0_sufficeBehind_42, dX0_sufficeBehind_44, dX0_sufficeBehind_47, dX0_sufficeBehind_49, dX0_sufficeBehind_52, dX0_sufficeBehind_53, dX0_sufficeBehind_55, dX0_sufficeBehind_57, dX0_sufficeBehind_60, dX0_sufficeBehind_62, dX0_sufficeBehind_65, dX0_sufficeBehind_66, dX0_sufficeBehind_68, dX0_sufficeBehind_70, dX0_sufficeBehind_73, dX0_sufficeBehind_75, dX0_sufficeBehind_78, dX0_sufficeBehind_80, dX0_sufficeBehind_82, dX0_sufficeBehind_85, dX0_sufficeBehind_86, dX0_sufficeBehind_88, dX0_sufficeBehind_89, dX0_sufficeBehind_92, dX0_sufficeBehind_93, dX0_sufficeBehind_94, dX0_sufficeBehind_95, dX0_sufficeBehind_97, dX0_sufficeBehind_99, dX0_sufficeBehind_101, dX0_sufficeBehind_104, dX0_sufficeBehind_107, dX0_sufficeBehind_108, dX0_sufficeBehind_110, dX0_sufficeBehind_112, dX0_sufficeBehind_114, dX0_sufficeBehind_117, dX0_sufficeBehind_120, dX0_sufficeBehind_121, dX0_sufficeBehind_124, dX0_sufficeBehind_125]
    simp (disch := omega) only [li, nI_add, nI_clamp, nI_ltI, nI_leI, nI_eq, inx_iff, a31, nI_1shl', nI_shr', div_bit, tb1, tb0, fa_or, fa_and, nI_not, pk_sub, nI_dec]
    first
      | exact fin0 (fun w => s1 w.2.1)
      | exact ⟨fun _ => fin0 (fun w => s1 w.2.1), fun z => by omega⟩
      | exact ⟨fun _ => fin0 (fun w => s1 w.2.1), fun z => absurd trivial z⟩
set_option maxHeartbeats 4000000 in
set_option maxRecDepth 100000 in
theorem c0_sufS (np k : Nat) (RL RH : Nat → Nat → Nat) (l : Launch) (X : Cx) (d : Nat) (sh : Nat → Option Sh) (mI : Nat → Nat → Int32) (mL : Nat → Nat → Int64) (mR : Nat → Nat → Option Nat) (n : Nat) (K : Nat) (hO : OL sh mR K 0 ob0) (hnp : np ≤ 5) (hp : mI K 3 = nI np) (hR : ∀ x y, x < np → y < np → mL (K + 1) (5 * x + y) = lN (RL x y) ∧ mL (K + 2) (5 * x + y) = lN (RH x y)) (lo hi : Nat) (hlo : lo < 2 ^ 64) (hhi : hi < 2 ^ 64) (hk : k + 1 ≤ 10) (hd : 2 * k + 4 ≤ d) (ih : ∀ a b, a < np → b < np → Cn l X yX0_sufficeBehind cX0_sufficeBehind 17 (some .boolean) (d - 1) [.ref K, .int (nI (a * 5 + b)), .long (lN lo), .long (lN hi), .int (nI k)] (sh, mI, mL, mR, n) (fun r M' => M' = (sh, mI, mL, mR, n) ∧ r = some (.int (bI (dcd (bhP np k RL RH a b lo hi))))) 0 0) : Cn l X yX0_suffice cX0_suffice 9 (some .boolean) d [.ref K, .long (lN lo), .long (lN hi), .int (nI (k + 1))] (sh, mI, mL, mR, n) (fun r M' => M' = (sh, mI, mL, mR, n) ∧ r = some (.int (bI (dcd (sfS np RL RH (k + 1) lo hi))))) 0 0 := by
  refine Cn.run 0 false (by decide) rfl (by decide) (by simp [entA, Value.category]) ?_
  intro P G hP hG
  have q0 := hO.1
  have b1 := pcL_le lo
  have b2 := pcL_le hi
  have p1 := p2a (k := k + 1) hk
  have p2 := p2a (k := k) (by omega)
  obtain ⟨left, hleft⟩ : ∃ left, left = pcL lo + pcL hi := ⟨_, rfl⟩
  have fin0 : (¬ left ≤ 1) → (¬ left ≤ 2 ^ (k + 1) ∨ ∀ a b, a < b → b < np → ¬ bhP np k RL RH a b lo hi) → P (some (.int (nI 0))) (sh, mI, mL, mR, n) := fun h1 h2 => hP _ _ ⟨rfl, by
    rw [dcd_f]
    · rfl
    · rintro (w | ⟨w1, a, b, w2, w3, w4⟩)
      · omega
      · rcases h2 with h2 | h2
        · omega
        · exact h2 a b w2 w3 w4⟩
  have fin1 : (left ≤ 1 ∨ (left ≤ 2 ^ (k + 1) ∧ ∃ a b, a < b ∧ b < np ∧ bhP np k RL RH a b lo hi)) → P (some (.int (nI 1))) (sh, mI, mL, mR, n) := fun h1 => hP _ _ ⟨rfl, by
    rw [hleft] at h1
    rw [dcd_t (show sfS np RL RH (k + 1) lo hi from h1)]; rfl⟩
  clear hP
  have e1 : bI true = nI 1 := rfl
  have e0 : bI false = nI 0 := rfl
  refine hG.run [] 60 ?_
  simp [wp, stepI, ln, jmp, cmpI, Value.category, rd, tyF, va_rf, st1, st2, clr, isLg, CB, inx_0, inx_1, inx_2, inx_3, inx_4, inx_5, bI_0, bI_1, bI_ok, fin3, tyX0, entL, q0, dX0_suffice_0, dX0_suffice_1, dX0_suffice_4, dX0_suffice_5, dX0_suffice_8, dX0_suffice_9, dX0_suffice_11, dX0_suffice_13, dX0_suffice_14, dX0_suffice_17, dX0_suffice_18, dX0_suffice_19, dX0_suffice_21, dX0_suffice_24, dX0_suffice_26, dX0_suffice_27, dX0_suffice_29, dX0_suffice_30, dX0_suffice_33, dX0_suffice_34, dX0_suffice_35, dX0_suffice_36, dX0_suffice_38, dX0_suffice_40, dX0_suffice_41, fT_0_40, dX0_suffice_44, dX0_suffice_47, dX0_suffice_49, dX0_suffice_50, dX0_suffice_51, dX0_suffice_53, dX0_suffice_55, dX0_suffice_56, dX0_suffice_59, dX0_suffice_62, dX0_suffice_63, dX0_suffice_65, dX0_suffice_66, dX0_suffice_67, dX0_suffice_69, dX0_suffice_70, dX0_suffice_71, dX0_suffice_72, dX0_suffice_74, dX0_suffice_75, dX0_suffice_76, dX0_suffice_79, dX0_suffice_82, dX0_suffice_83, dX0_suffice_84, dX0_suffice_87, dX0_suffice_90, dX0_suffice_93, dX0_suffice_96, dX0_suffice_97]
  refine hG.callS dX0_suffice_1 ms_0_79 [.long (lN lo)] [] (cJ_bitsL l X (d - 1) _ lo hlo) (by omega) rfl (by decide) (by simp [Value.category]) rfl ?_
  rintro r M' ⟨rfl, rfl⟩
  refine hG.run [] 60 ?_
  simp [wp, stepI, ln, jmp, cmpI, Value.category, rd, tyF, va_rf, st1, st2, clr, isLg, CB, inx_0, inx_1, inx_2, inx_3, inx_4, inx_5, bI_0, bI_1, bI_ok, fin3, tyX0, entL, q0, dX0_suffice_0, dX0_suffice_1, dX0_suffice_4, dX0_suffice_5, dX0_suffice_8, dX0_suffice_9, dX0_suffice_11, dX0_suffice_13, dX0_suffice_14, dX0_suffice_17, dX0_suffice_18, dX0_suffice_19, dX0_suffice_21, dX0_suffice_24, dX0_suffice_26, dX0_suffice_27, dX0_suffice_29, dX0_suffice_30, dX0_suffice_33, dX0_suffice_34, dX0_suffice_35, dX0_suffice_36, dX0_suffice_38, dX0_suffice_40, dX0_suffice_41, fT_0_40, dX0_suffice_44, dX0_suffice_47, dX0_suffice_49, dX0_suffice_50, dX0_suffice_51, dX0_suffice_53, dX0_suffice_55, dX0_suffice_56, dX0_suffice_59, dX0_suffice_62, dX0_suffice_63, dX0_suffice_65, dX0_suffice_66, dX0_suffice_67, dX0_suffice_69, dX0_suffice_70, dX0_suffice_71, dX0_suffice_72, dX0_suffice_74, dX0_suffice_75, dX0_suffice_76, dX0_suffice_79, dX0_suffice_82, dX0_suffice_83, dX0_suffice_84, dX0_suffice_87, dX0_suffice_90, dX0_suffice_93, dX0_suffice_96, dX0_suffice_97]
  refine hG.callS dX0_suffice_5 ms_0_79 [.long (lN hi)] [.int (nI (pcL lo))] (cJ_bitsL l X (d - 1) _ hi hhi) (by omega) rfl (by decide) (by simp [Value.category]) rfl ?_
  rintro r M' ⟨rfl, rfl⟩
  have loop1 : ∀ f a v8, ¬ left ≤ 1 → left ≤ 2 ^ (k + 1) → np - a < f → a ≤ np → (∀ x y, x < a → x < y → y < np → ¬ bhP np k RL RH x y lo hi) → G 38 [some (.ref K), some (.long (lN lo)), none, some (.long (lN hi)), none, some (.int (nI (k + 1))), some (.int (nI left)), some (.int (nI a)), v8] [] (sh, mI, mL, mR, n) := by
    intro f
    induction f with
    | zero => intro a v8 h1 h2 h; omega
    | succ f ih1 =>
      intro a v8 hl1 hl2 hf ha hno
      have nx1 := ih1 (a + 1)
      clear ih1
      have loop2 : ∀ f2 b, a < np → np - b < f2 → a < b → b ≤ np → (∀ y, a < y → y < b → ¬ bhP np k RL RH a y lo hi) → G 53 [some (.ref K), some (.long (lN lo)), none, some (.long (lN hi)), none, some (.int (nI (k + 1))), some (.int (nI left)), some (.int (nI a)), some (.int (nI b))] [] (sh, mI, mL, mR, n) := by
        intro f2
        induction f2 with
        | zero => intro b h1 h; omega
        | succ f2 ih2 =>
          intro b han hf2 hab hb hno2
          by_cases hbn : b < np
          · have nx2 := ih2 (b + 1)
            clear ih2
            have no : ¬ bhP np k RL RH a b lo hi → G 84 [some (.ref K), some (.long (lN lo)), none, some (.long (lN hi)), none, some (.int (nI (k + 1))), some (.int (nI left)), some (.int (nI a)), some (.int (nI b))] [] (sh, mI, mL, mR, n) := fun hn => by
              refine hG.run [53] 60 ?_
              simp [wp, stepI, ln, jmp, cmpI, Value.category, rd, tyF, va_rf, st1, st2, clr, isLg, CB, inx_0, inx_1, inx_2, inx_3, inx_4, inx_5, bI_0, bI_1, bI_ok, fin3, tyX0, entL, q0, dX0_suffice_0, dX0_suffice_1, dX0_suffice_4, dX0_suffice_5, dX0_suffice_8, dX0_suffice_9, dX0_suffice_11, dX0_suffice_13, dX0_suffice_14, dX0_suffice_17, dX0_suffice_18, dX0_suffice_19, dX0_suffice_21, dX0_suffice_24, dX0_suffice_26, dX0_suffice_27, dX0_suffice_29, dX0_suffice_30, dX0_suffice_33, dX0_suffice_34, dX0_suffice_35, dX0_suffice_36, dX0_suffice_38, dX0_suffice_40, dX0_suffice_41, fT_0_40, dX0_suffice_44, dX0_suffice_47, dX0_suffice_49, dX0_suffice_50, dX0_suffice_51, dX0_suffice_53, dX0_suffice_55, dX0_suffice_56, dX0_suffice_59, dX0_suffice_62, dX0_suffice_63, dX0_suffice_65, dX0_suffice_66, dX0_suffice_67, dX0_suffice_69, dX0_suffice_70, dX0_suffice_71, dX0_suffice_72, dX0_suffice_74, dX0_suffice_75, dX0_suffice_76, dX0_suffice_79, dX0_suffice_82, dX0_suffice_83, dX0_suffice_84, dX0_suffice_87, dX0_suffice_90, dX0_suffice_93, dX0_suffice_96, dX0_suffice_97]
              simp (disch := omega) only [li, nI_add, nI_clamp, nI_ltI, nI_leI, nI_eq, inx_iff, a31, nI_1shl', nI_shr', div_bit, tb1, tb0, fa_or, fa_and, nI_not, pk_sub, nI_dec]
              refine nx2 han (by omega) (by omega) (by omega) (fun y h1 h2 => ?_)
              by_cases e : y = b
              · rw [e]; exact hn
              · exact hno2 y h1 (by omega)
            refine hG.run [] 80 ?_
            simp [wp, stepI, ln, jmp, cmpI, Value.category, rd, tyF, va_rf, st1, st2, clr, isLg, CB, inx_0, inx_1, inx_2, inx_3, inx_4, inx_5, bI_0, bI_1, bI_ok, fin3, tyX0, entL, q0, dX0_suffice_0, dX0_suffice_1, dX0_suffice_4, dX0_suffice_5, dX0_suffice_8, dX0_suffice_9, dX0_suffice_11, dX0_suffice_13, dX0_suffice_14, dX0_suffice_17, dX0_suffice_18, dX0_suffice_19, dX0_suffice_21, dX0_suffice_24, dX0_suffice_26, dX0_suffice_27, dX0_suffice_29, dX0_suffice_30, dX0_suffice_33, dX0_suffice_34, dX0_suffice_35, dX0_suffice_36, dX0_suffice_38, dX0_suffice_40, dX0_suffice_41, fT_0_40, dX0_suffice_44, dX0_suffice_47, dX0_suffice_49, dX0_suffice_50, dX0_suffice_51, dX0_suffice_53, dX0_suffice_55, dX0_suffice_56, dX0_suffice_59, dX0_suffice_62, dX0_suffice_63, dX0_suffice_65, dX0_suffice_66, dX0_suffice_67, dX0_suffice_69, dX0_suffice_70, dX0_suffice_71, dX0_suffice_72, dX0_suffice_74, dX0_suffice_75, dX0_suffice_76, dX0_suffice_79, dX0_suffice_82, dX0_suffice_83, dX0_suffice_84, dX0_suffice_87, dX0_suffice_90, dX0_suffice_93, dX0_suffice_96, dX0_suffice_97]
            simp (disch := omega) only [li, nI_add, nI_clamp, nI_ltI, nI_leI, nI_eq, inx_iff, a31, nI_1shl', nI_shr', div_bit, tb1, tb0, fa_or, fa_and, nI_not, pk_sub, nI_dec, hp, nI_mul, Nat.add_sub_cancel]
            refine ⟨fun z => by omega, fun _ => ?_⟩
            refine hG.callV dX0_suffice_76 mv_0_85 [.int (nI (a * 5 + b)), .long (lN lo), .long (lN hi), .int (nI k)] [] (ih a b han hbn) ⟨_, rfl, rfl⟩ q0 (by omega) rfl (by decide) (by simp [Value.category]) rfl ?_
            rintro r M' ⟨rfl, rfl⟩
            by_cases s1 : bhP np k RL RH a b lo hi
            · rw [dcd_t s1, e1]
              refine hG.run [84] 60 ?_
              simp [wp, stepI, ln, jmp, cmpI, Value.category, rd, tyF, va_rf, st1, st2, clr, isLg, CB, inx_0, inx_1, inx_2, inx_3, inx_4, inx_5, bI_0, bI_1, bI_ok, fin3, tyX0, entL, q0, dX0_suffice_0, dX0_suffice_1, dX0_suffice_4, dX0_suffice_5, dX0_suffice_8, dX0_suffice_9, dX0_suffice_11, dX0_suffice_13, dX0_suffice_14, dX0_suffice_17, dX0_suffice_18, dX0_suffice_19, dX0_suffice_21, dX0_suffice_24, dX0_suffice_26, dX0_suffice_27, dX0_suffice_29, dX0_suffice_30, dX0_suffice_33, dX0_suffice_34, dX0_suffice_35, dX0_suffice_36, dX0_suffice_38, dX0_suffice_40, dX0_suffice_41, fT_0_40, dX0_suffice_44, dX0_suffice_47, dX0_suffice_49, dX0_suffice_50, dX0_suffice_51, dX0_suffice_53, dX0_suffice_55, dX0_suffice_56, dX0_suffice_59, dX0_suffice_62, dX0_suffice_63, dX0_suffice_65, dX0_suffice_66, dX0_suffice_67, dX0_suffice_69, dX0_suffice_70, dX0_suffice_71, dX0_suffice_72, dX0_suffice_74, dX0_suffice_75, dX0_suffice_76, dX0_suffice_79, dX0_suffice_82, dX0_suffice_83, dX0_suffice_84, dX0_suffice_87, dX0_suffice_90, dX0_suffice_93, dX0_suffice_96, dX0_suffice_97]
              simp (disch := omega) only [li, nI_add, nI_clamp, nI_ltI, nI_leI, nI_eq, inx_iff, a31, nI_1shl', nI_shr', div_bit, tb1, tb0, fa_or, fa_and, nI_not, pk_sub, nI_dec]
              first
                | exact fin1 (Or.inr ⟨hl2, a, b, hab, hbn, s1⟩)
                | exact ⟨fun z => by omega, fun _ => fin1 (Or.inr ⟨hl2, a, b, hab, hbn, s1⟩)⟩
            · rw [dcd_f s1, e0]
              refine hG.run [84] 60 ?_
              simp [wp, stepI, ln, jmp, cmpI, Value.category, rd, tyF, va_rf, st1, st2, clr, isLg, CB, inx_0, inx_1, inx_2, inx_3, inx_4, inx_5, bI_0, bI_1, bI_ok, fin3, tyX0, entL, q0, dX0_suffice_0, dX0_suffice_1, dX0_suffice_4, dX0_suffice_5, dX0_suffice_8, dX0_suffice_9, dX0_suffice_11, dX0_suffice_13, dX0_suffice_14, dX0_suffice_17, dX0_suffice_18, dX0_suffice_19, dX0_suffice_21, dX0_suffice_24, dX0_suffice_26, dX0_suffice_27, dX0_suffice_29, dX0_suffice_30, dX0_suffice_33, dX0_suffice_34, dX0_suffice_35, dX0_suffice_36, dX0_suffice_38, dX0_suffice_40, dX0_suffice_41, fT_0_40, dX0_suffice_44, dX0_suffice_47, dX0_suffice_49, dX0_suffice_50, dX0_suffice_51, dX0_suffice_53, dX0_suffice_55, dX0_suffice_56, dX0_suffice_59, dX0_suffice_62, dX0_suffice_63, dX0_suffice_65, dX0_suffice_66, dX0_suffice_67, dX0_suffice_69, dX0_suffice_70, dX0_suffice_71, dX0_suffice_72, dX0_suffice_74, dX0_suffice_75, dX0_suffice_76, dX0_suffice_79, dX0_suffice_82, dX0_suffice_83, dX0_suffice_84, dX0_suffice_87, dX0_suffice_90, dX0_suffice_93, dX0_suffice_96, dX0_suffice_97]
              simp (disch := omega) only [li, nI_add, nI_clamp, nI_ltI, nI_leI, nI_eq, inx_iff, a31, nI_1shl', nI_shr', div_bit, tb1, tb0, fa_or, fa_and, nI_not, pk_sub, nI_dec]
              first
                | exact no s1
                | exact ⟨fun _ => no s1, fun z => by omega⟩
                | exact ⟨fun _ => no s1, fun z => absurd trivial z⟩
          · have e : b = np := by omega
            refine hG.run [38] 60 ?_
            simp [wp, stepI, ln, jmp, cmpI, Value.category, rd, tyF, va_rf, st1, st2, clr, isLg, CB, inx_0, inx_1, inx_2, inx_3, inx_4, inx_5, bI_0, bI_1, bI_ok, fin3, tyX0, entL, q0, dX0_suffice_0, dX0_suffice_1, dX0_suffice_4, dX0_suffice_5, dX0_suffice_8, dX0_suffice_9, dX0_suffice_11, dX0_suffice_13, dX0_suffice_14, dX0_suffice_17, dX0_suffice_18, dX0_suffice_19, dX0_suffice_21, dX0_suffice_24, dX0_suffice_26, dX0_suffice_27, dX0_suffice_29, dX0_suffice_30, dX0_suffice_33, dX0_suffice_34, dX0_suffice_35, dX0_suffice_36, dX0_suffice_38, dX0_suffice_40, dX0_suffice_41, fT_0_40, dX0_suffice_44, dX0_suffice_47, dX0_suffice_49, dX0_suffice_50, dX0_suffice_51, dX0_suffice_53, dX0_suffice_55, dX0_suffice_56, dX0_suffice_59, dX0_suffice_62, dX0_suffice_63, dX0_suffice_65, dX0_suffice_66, dX0_suffice_67, dX0_suffice_69, dX0_suffice_70, dX0_suffice_71, dX0_suffice_72, dX0_suffice_74, dX0_suffice_75, dX0_suffice_76, dX0_suffice_79, dX0_suffice_82, dX0_suffice_83, dX0_suffice_84, dX0_suffice_87, dX0_suffice_90, dX0_suffice_93, dX0_suffice_96, dX0_suffice_97]
            simp (disch := omega) only [li, nI_add, nI_clamp, nI_ltI, nI_leI, nI_eq, inx_iff, a31, nI_1shl', nI_shr', div_bit, tb1, tb0, fa_or, fa_and, nI_not, pk_sub, nI_dec, hp]
            refine ⟨fun _ => nx1 _ hl1 hl2 (by omega) (by omega) (fun x y h1 h2 h3 => ?_), fun z => by omega⟩
            by_cases ex : x = a
            · rw [ex]; exact hno2 y (by omega) (by omega)
            · exact hno x y (by omega) h2 h3
      refine hG.run [53] 60 ?_
      simp [wp, stepI, ln, jmp, cmpI, Value.category, rd, tyF, va_rf, st1, st2, clr, isLg, CB, inx_0, inx_1, inx_2, inx_3, inx_4, inx_5, bI_0, bI_1, bI_ok, fin3, tyX0, entL, q0, dX0_suffice_0, dX0_suffice_1, dX0_suffice_4, dX0_suffice_5, dX0_suffice_8, dX0_suffice_9, dX0_suffice_11, dX0_suffice_13, dX0_suffice_14, dX0_suffice_17, dX0_suffice_18, dX0_suffice_19, dX0_suffice_21, dX0_suffice_24, dX0_suffice_26, dX0_suffice_27, dX0_suffice_29, dX0_suffice_30, dX0_suffice_33, dX0_suffice_34, dX0_suffice_35, dX0_suffice_36, dX0_suffice_38, dX0_suffice_40, dX0_suffice_41, fT_0_40, dX0_suffice_44, dX0_suffice_47, dX0_suffice_49, dX0_suffice_50, dX0_suffice_51, dX0_suffice_53, dX0_suffice_55, dX0_suffice_56, dX0_suffice_59, dX0_suffice_62, dX0_suffice_63, dX0_suffice_65, dX0_suffice_66, dX0_suffice_67, dX0_suffice_69, dX0_suffice_70, dX0_suffice_71, dX0_suffice_72, dX0_suffice_74, dX0_suffice_75, dX0_suffice_76, dX0_suffice_79, dX0_suffice_82, dX0_suffice_83, dX0_suffice_84, dX0_suffice_87, dX0_suffice_90, dX0_suffice_93, dX0_suffice_96, dX0_suffice_97]
      simp (disch := omega) only [li, nI_add, nI_clamp, nI_ltI, nI_leI, nI_eq, inx_iff, a31, nI_1shl', nI_shr', div_bit, tb1, tb0, fa_or, fa_and, nI_not, pk_sub, nI_dec, hp]
      refine ⟨fun z => fin0 hl1 (Or.inr (fun x y h1 h2 => hno x y (by omega) h1 h2)), fun z => loop2 (np + 1) (a + 1) z (by omega) (by omega) (by omega) (fun y h1 h2 => by omega)⟩
  refine hG.run [38] 80 ?_
  simp [wp, stepI, ln, jmp, cmpI, Value.category, rd, tyF, va_rf, st1, st2, clr, isLg, CB, inx_0, inx_1, inx_2, inx_3, inx_4, inx_5, bI_0, bI_1, bI_ok, fin3, tyX0, entL, q0, dX0_suffice_0, dX0_suffice_1, dX0_suffice_4, dX0_suffice_5, dX0_suffice_8, dX0_suffice_9, dX0_suffice_11, dX0_suffice_13, dX0_suffice_14, dX0_suffice_17, dX0_suffice_18, dX0_suffice_19, dX0_suffice_21, dX0_suffice_24, dX0_suffice_26, dX0_suffice_27, dX0_suffice_29, dX0_suffice_30, dX0_suffice_33, dX0_suffice_34, dX0_suffice_35, dX0_suffice_36, dX0_suffice_38, dX0_suffice_40, dX0_suffice_41, fT_0_40, dX0_suffice_44, dX0_suffice_47, dX0_suffice_49, dX0_suffice_50, dX0_suffice_51, dX0_suffice_53, dX0_suffice_55, dX0_suffice_56, dX0_suffice_59, dX0_suffice_62, dX0_suffice_63, dX0_suffice_65, dX0_suffice_66, dX0_suffice_67, dX0_suffice_69, dX0_suffice_70, dX0_suffice_71, dX0_suffice_72, dX0_suffice_74, dX0_suffice_75, dX0_suffice_76, dX0_suffice_79, dX0_suffice_82, dX0_suffice_83, dX0_suffice_84, dX0_suffice_87, dX0_suffice_90, dX0_suffice_93, dX0_suffice_96, dX0_suffice_97]
  simp (disch := omega) only [li, nI_add, nI_clamp, nI_ltI, nI_leI, nI_eq, inx_iff, a31, nI_1shl', nI_shr', div_bit, tb1, tb0, fa_or, fa_and, nI_not, pk_sub, nI_dec, ← hleft]
  exact ⟨fun z => ⟨fun w => by omega, fun _ => ⟨fun w => loop1 (np + 1) 0 _ (by omega) w (by omega) (by omega) (fun x y h => by omega), fun w => fin0 (by omega) (Or.inl (by omega))⟩⟩, fun z => fin1 (Or.inl z)⟩
theorem c0_suffice (np : Nat) (RL RH : Nat → Nat → Nat) : ∀ (k : Nat) (l : Launch) (X : Cx) (d : Nat) (sh : Nat → Option Sh) (mI : Nat → Nat → Int32) (mL : Nat → Nat → Int64) (mR : Nat → Nat → Option Nat) (n : Nat) (K : Nat) (hO : OL sh mR K 0 ob0) (hnp : np ≤ 5) (hp : mI K 3 = nI np) (hR : ∀ x y, x < np → y < np → mL (K + 1) (5 * x + y) = lN (RL x y) ∧ mL (K + 2) (5 * x + y) = lN (RH x y)) (lo hi : Nat) (hlo : lo < 2 ^ 64) (hhi : hi < 2 ^ 64) (hk : k ≤ 10) (hd : 2 * k + 2 ≤ d), Cn l X yX0_suffice cX0_suffice 9 (some .boolean) d [.ref K, .long (lN lo), .long (lN hi), .int (nI k)] (sh, mI, mL, mR, n) (fun r M' => M' = (sh, mI, mL, mR, n) ∧ r = some (.int (bI (dcd (sfS np RL RH k lo hi))))) 0 0
  | 0, l, X, d, sh, mI, mL, mR, n, K, hO, hnp, hp, hR, lo, hi, hlo, hhi, hk, hd => c0_suf0 np RL RH l X d sh mI mL mR n K hO hnp hp hR lo hi hlo hhi (by omega)
  | k + 1, l, X, d, sh, mI, mL, mR, n, K, hO, hnp, hp, hR, lo, hi, hlo, hhi, hk, hd => c0_sufS np k RL RH l X d sh mI mL mR n K hO hnp hp hR lo hi hlo hhi hk (by omega) (fun a b ha hb => c0_behind np k RL RH l X (d - 1) sh mI mL mR n K hO hnp hp hR a b ha hb lo hi hlo hhi (by omega) (by omega) (fun lo hi hlo hhi => c0_suffice np RL RH k l X (d - 1 - 1) sh mI mL mR n K hO hnp hp hR lo hi hlo hhi (by omega) (by omega)))
