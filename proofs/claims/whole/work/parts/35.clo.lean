theorem nI_mul (a b : Nat) : nI a * nI b = nI (a * b) := by
  unfold nI
  exact (Int32.ofNat_mul a b).symm
def kb (k x y : Nat) : Bool := k.testBit (5 * x + y)
def clB (k a b x y : Nat) : Bool := (decide (x = a) || kb k x a) && (decide (y = b) || kb k b y)
def clF (k a b : Nat) : Nat → Nat
  | 0 => k
  | i + 1 => if clB k a b (i / 5) (i % 5) then clF k a b i ||| 2 ^ i else clF k a b i
/-- what is known once a is told to be better than b -/
def clo (k a b : Nat) : Nat := clF k a b 25
theorem clF_s (k a b i : Nat) : clF k a b (i + 1) = if clB k a b (i / 5) (i % 5) then clF k a b i ||| 2 ^ i else clF k a b i := rfl
theorem clF_lt {k a b : Nat} (hk : k < 2 ^ 25) : ∀ {i}, i ≤ 25 → clF k a b i < 2 ^ 25
  | 0, _ => hk
  | i + 1, h => by
    rw [clF_s]
    split
    · exact Nat.or_lt_two_pow (clF_lt hk (by omega)) (Nat.pow_lt_pow_right (by decide) (by omega))
    · exact clF_lt hk (by omega)
theorem tb2 {b : Bool} : nI b.toNat = nI 1 ↔ b = true := by cases b <;> decide +kernel
set_option maxHeartbeats 4000000 in
set_option maxRecDepth 100000 in
theorem c12_bit (l : Launch) (X : Cx) (d : Nat) (M : Mm) (k x y : Nat) (hk : k < 2 ^ 25) (hx : x < 5) (hy : y < 5) : Cn l X yX12_bit cX12_bit 3 (some .int) d [.int (nI k), .int (nI x), .int (nI y)] M (fun r M' => M' = M ∧ r = some (.int (nI (kb k x y).toNat))) 0 0 := by
  refine Cn.run 12 false (by decide) rfl (by decide) (by simp [entA, Value.category]) ?_
  intro P G hP hG
  refine hG.run [] 20 ?_
  simp [wp, stepI, ln, jmp, cmpI, Value.category, rd, tyF, va_rf, st1, st2, clr, isLg, CB, inx_0, inx_1, inx_2, inx_3, inx_4, inx_5, bI_0, bI_1, bI_ok, fin3, entL, dX12_bit_0, dX12_bit_1, dX12_bit_2, dX12_bit_3, dX12_bit_4, dX12_bit_5, dX12_bit_6, dX12_bit_7, dX12_bit_8, dX12_bit_9]
  simp (disch := omega) only [li, nI_add, nI_clamp, nI_ltI, nI_leI, nI_eq, inx_iff, a31, nI_1shl', nI_shr', div_bit, tb1, tb0, fa_or, fa_and, nI_not, pk_sub, nI_dec, nI_mul]
  exact hP _ _ ⟨rfl, rfl⟩
set_option maxHeartbeats 4000000 in
set_option maxRecDepth 100000 in
theorem c12_closes (l : Launch) (X : Cx) (d : Nat) (sh : Nat → Option Sh) (mI : Nat → Nat → Int32) (mL : Nat → Nat → Int64) (mR : Nat → Nat → Option Nat) (n : Nat) (hL : ML sh mR) (k a b : Nat) (hk : k < 2 ^ 25) (ha : a < 5) (hb : b < 5) (hd : 1 ≤ d) : Cn l X yX12_closes cX12_closes 9 (some .int) d [.ref 129, .int (nI k), .int (nI a), .int (nI b)] (sh, mI, mL, mR, n) (fun r M' => M' = (sh, mI, mL, mR, n) ∧ r = some (.int (nI (clo k a b)))) 0 0 := by
  refine Cn.run 12 false (by decide) rfl (by decide) (by simp [entA, Value.category]) ?_
  intro P G hP hG
  have q0 := hL.1
  have loop1 : ∀ f i v6 v7 v8, 5 - i < f → i ≤ 5 → G 6 [some (.ref 129), some (.int (nI k)), some (.int (nI a)), some (.int (nI b)), some (.int (nI (clF k a b (5 * i)))), some (.int (nI i)), v6, v7, v8] [] (sh, mI, mL, mR, n) := by
    intro f
    induction f with
    | zero => intro i v6 v7 v8 h; omega
    | succ f ih =>
      intro i v6 v7 v8 hf hi
      have loop2 : i < 5 → ∀ f2 j v7 v8, 5 - j < f2 → j ≤ 5 → G 15 [some (.ref 129), some (.int (nI k)), some (.int (nI a)), some (.int (nI b)), some (.int (nI (clF k a b (5 * i + j)))), some (.int (nI i)), some (.int (nI j)), v7, v8] [] (sh, mI, mL, mR, n) := by
        intro hi5 f2
        induction f2 with
        | zero => intro j v7 v8 h; omega
        | succ f2 ih2 =>
          intro j v7 v8 hf2 hj
          have last : j < 5 → ∀ b1 b2 : Bool, b1 = (decide (i = a) || kb k i a) → b2 = (decide (j = b) || kb k b j) → G 69 [some (.ref 129), some (.int (nI k)), some (.int (nI a)), some (.int (nI b)), some (.int (nI (clF k a b (5 * i + j)))), some (.int (nI i)), some (.int (nI j)), some (.int (bI b1)), some (.int (bI b2))] [] (sh, mI, mL, mR, n) := fun hj5 b1 b2 e1 e2 => by
            have nx := ih2 (j + 1)
            rw [← Nat.add_assoc, clF_s, show (5 * i + j) / 5 = i by omega, show (5 * i + j) % 5 = j by omega] at nx
            unfold clB at nx
            rw [← e1, ← e2] at nx
            have hlt := clF_lt (a := a) (b := b) hk (i := 5 * i + j) (by omega)
            refine hG.run [15] 60 ?_
            simp [wp, stepI, ln, jmp, cmpI, Value.category, rd, tyF, va_rf, st1, st2, clr, isLg, CB, inx_0, inx_1, inx_2, inx_3, inx_4, inx_5, bI_0, bI_1, bI_ok, fin3, tyX12, entL, q0, dX12_closes_0, dX12_closes_1, dX12_closes_3, dX12_closes_4, dX12_closes_6, dX12_closes_8, dX12_closes_9, dX12_closes_12, dX12_closes_13, dX12_closes_15, dX12_closes_17, dX12_closes_18, dX12_closes_21, dX12_closes_23, dX12_closes_24, dX12_closes_27, dX12_closes_28, dX12_closes_30, dX12_closes_31, dX12_closes_34, dX12_closes_35, dX12_closes_38, dX12_closes_39, dX12_closes_42, dX12_closes_43, dX12_closes_45, dX12_closes_47, dX12_closes_48, dX12_closes_51, dX12_closes_52, dX12_closes_53, dX12_closes_55, dX12_closes_58, dX12_closes_59, dX12_closes_62, dX12_closes_63, dX12_closes_66, dX12_closes_67, dX12_closes_69, dX12_closes_71, dX12_closes_74, dX12_closes_76, dX12_closes_79, dX12_closes_81, dX12_closes_82, dX12_closes_83, dX12_closes_85, dX12_closes_86, dX12_closes_88, dX12_closes_89, dX12_closes_90, dX12_closes_91, dX12_closes_93, dX12_closes_96, dX12_closes_99, dX12_closes_102, dX12_closes_105, dX12_closes_107]
            simp (disch := omega) only [li, nI_add, nI_clamp, nI_ltI, nI_leI, nI_eq, inx_iff, a31, nI_1shl', nI_shr', div_bit, tb1, tb0, fa_or, fa_and, nI_not, pk_sub, nI_dec, nI_mul]
            refine ⟨fun z => ?_, fun z => ⟨fun z2 => ?_, fun z2 => ?_⟩⟩
            · rw [z] at nx ⊢; exact nx _ _ (by omega) (by omega)
            · rw [z2, Bool.and_false] at nx; rw [z2]; exact nx _ _ (by omega) (by omega)
            · rw [z, z2] at nx ⊢; exact nx _ _ (by omega) (by omega)
          have mid : j < 5 → ∀ b1 : Bool, ∀ v8, b1 = (decide (i = a) || kb k i a) → G 45 [some (.ref 129), some (.int (nI k)), some (.int (nI a)), some (.int (nI b)), some (.int (nI (clF k a b (5 * i + j)))), some (.int (nI i)), some (.int (nI j)), some (.int (bI b1)), v8] [] (sh, mI, mL, mR, n) := fun hj5 b1 v8 e1 => by
            refine hG.run [69] 60 ?_
            simp [wp, stepI, ln, jmp, cmpI, Value.category, rd, tyF, va_rf, st1, st2, clr, isLg, CB, inx_0, inx_1, inx_2, inx_3, inx_4, inx_5, bI_0, bI_1, bI_ok, fin3, tyX12, entL, q0, dX12_closes_0, dX12_closes_1, dX12_closes_3, dX12_closes_4, dX12_closes_6, dX12_closes_8, dX12_closes_9, dX12_closes_12, dX12_closes_13, dX12_closes_15, dX12_closes_17, dX12_closes_18, dX12_closes_21, dX12_closes_23, dX12_closes_24, dX12_closes_27, dX12_closes_28, dX12_closes_30, dX12_closes_31, dX12_closes_34, dX12_closes_35, dX12_closes_38, dX12_closes_39, dX12_closes_42, dX12_closes_43, dX12_closes_45, dX12_closes_47, dX12_closes_48, dX12_closes_51, dX12_closes_52, dX12_closes_53, dX12_closes_55, dX12_closes_58, dX12_closes_59, dX12_closes_62, dX12_closes_63, dX12_closes_66, dX12_closes_67, dX12_closes_69, dX12_closes_71, dX12_closes_74, dX12_closes_76, dX12_closes_79, dX12_closes_81, dX12_closes_82, dX12_closes_83, dX12_closes_85, dX12_closes_86, dX12_closes_88, dX12_closes_89, dX12_closes_90, dX12_closes_91, dX12_closes_93, dX12_closes_96, dX12_closes_99, dX12_closes_102, dX12_closes_105, dX12_closes_107]
            simp (disch := omega) only [li, nI_add, nI_clamp, nI_ltI, nI_leI, nI_eq, inx_iff, a31, nI_1shl', nI_shr', div_bit, tb1, tb0, fa_or, fa_and, nI_not, pk_sub, nI_dec, nI_mul]
            refine ⟨fun z => last hj5 b1 true e1 (by simp [z]), fun z => ?_⟩
            refine hG.callS dX12_closes_55 ms_12_400 [.int (nI k), .int (nI b), .int (nI j)] [] (c12_bit l X (d - 1) _ k b j hk hb hj5) (by omega) rfl (by decide) (by simp [Value.category]) rfl ?_
            rintro r M' ⟨rfl, rfl⟩
            refine hG.run [69] 60 ?_
            simp [wp, stepI, ln, jmp, cmpI, Value.category, rd, tyF, va_rf, st1, st2, clr, isLg, CB, inx_0, inx_1, inx_2, inx_3, inx_4, inx_5, bI_0, bI_1, bI_ok, fin3, tyX12, entL, q0, dX12_closes_0, dX12_closes_1, dX12_closes_3, dX12_closes_4, dX12_closes_6, dX12_closes_8, dX12_closes_9, dX12_closes_12, dX12_closes_13, dX12_closes_15, dX12_closes_17, dX12_closes_18, dX12_closes_21, dX12_closes_23, dX12_closes_24, dX12_closes_27, dX12_closes_28, dX12_closes_30, dX12_closes_31, dX12_closes_34, dX12_closes_35, dX12_closes_38, dX12_closes_39, dX12_closes_42, dX12_closes_43, dX12_closes_45, dX12_closes_47, dX12_closes_48, dX12_closes_51, dX12_closes_52, dX12_closes_53, dX12_closes_55, dX12_closes_58, dX12_closes_59, dX12_closes_62, dX12_closes_63, dX12_closes_66, dX12_closes_67, dX12_closes_69, dX12_closes_71, dX12_closes_74, dX12_closes_76, dX12_closes_79, dX12_closes_81, dX12_closes_82, dX12_closes_83, dX12_closes_85, dX12_closes_86, dX12_closes_88, dX12_closes_89, dX12_closes_90, dX12_closes_91, dX12_closes_93, dX12_closes_96, dX12_closes_99, dX12_closes_102, dX12_closes_105, dX12_closes_107]
            simp (disch := omega) only [li, nI_add, nI_clamp, nI_ltI, nI_leI, nI_eq, inx_iff, a31, nI_1shl', nI_shr', div_bit, tb1, tb0, fa_or, fa_and, nI_not, pk_sub, nI_dec, tb2]
            refine ⟨fun z2 => last hj5 b1 false e1 (by simp [z, z2]), fun z2 => last hj5 b1 true e1 (by simp [z2])⟩
          refine hG.run [6, 45] 60 ?_
          simp [wp, stepI, ln, jmp, cmpI, Value.category, rd, tyF, va_rf, st1, st2, clr, isLg, CB, inx_0, inx_1, inx_2, inx_3, inx_4, inx_5, bI_0, bI_1, bI_ok, fin3, tyX12, entL, q0, dX12_closes_0, dX12_closes_1, dX12_closes_3, dX12_closes_4, dX12_closes_6, dX12_closes_8, dX12_closes_9, dX12_closes_12, dX12_closes_13, dX12_closes_15, dX12_closes_17, dX12_closes_18, dX12_closes_21, dX12_closes_23, dX12_closes_24, dX12_closes_27, dX12_closes_28, dX12_closes_30, dX12_closes_31, dX12_closes_34, dX12_closes_35, dX12_closes_38, dX12_closes_39, dX12_closes_42, dX12_closes_43, dX12_closes_45, dX12_closes_47, dX12_closes_48, dX12_closes_51, dX12_closes_52, dX12_closes_53, dX12_closes_55, dX12_closes_58, dX12_closes_59, dX12_closes_62, dX12_closes_63, dX12_closes_66, dX12_closes_67, dX12_closes_69, dX12_closes_71, dX12_closes_74, dX12_closes_76, dX12_closes_79, dX12_closes_81, dX12_closes_82, dX12_closes_83, dX12_closes_85, dX12_closes_86, dX12_closes_88, dX12_closes_89, dX12_closes_90, dX12_closes_91, dX12_closes_93, dX12_closes_96, dX12_closes_99, dX12_closes_102, dX12_closes_105, dX12_closes_107]
          simp (disch := omega) only [li, nI_add, nI_clamp, nI_ltI, nI_leI, nI_eq, inx_iff, a31, nI_1shl', nI_shr', div_bit, tb1, tb0, fa_or, fa_and, nI_not, pk_sub, nI_dec, nI_mul]
          refine ⟨fun h => ?_, fun h => ⟨fun z => mid h true v8 (by simp [z]), fun z => ?_⟩⟩
          · have := ih (i + 1) (some (.int (nI j))) v7 v8 (by omega) (by omega)
            rw [show 5 * (i + 1) = 5 * i + j by omega] at this
            exact this
          refine hG.callS dX12_closes_31 ms_12_400 [.int (nI k), .int (nI i), .int (nI a)] [] (c12_bit l X (d - 1) _ k i a hk hi5 ha) (by omega) rfl (by decide) (by simp [Value.category]) rfl ?_
          rintro r M' ⟨rfl, rfl⟩
          refine hG.run [45] 60 ?_
          simp [wp, stepI, ln, jmp, cmpI, Value.category, rd, tyF, va_rf, st1, st2, clr, isLg, CB, inx_0, inx_1, inx_2, inx_3, inx_4, inx_5, bI_0, bI_1, bI_ok, fin3, tyX12, entL, q0, dX12_closes_0, dX12_closes_1, dX12_closes_3, dX12_closes_4, dX12_closes_6, dX12_closes_8, dX12_closes_9, dX12_closes_12, dX12_closes_13, dX12_closes_15, dX12_closes_17, dX12_closes_18, dX12_closes_21, dX12_closes_23, dX12_closes_24, dX12_closes_27, dX12_closes_28, dX12_closes_30, dX12_closes_31, dX12_closes_34, dX12_closes_35, dX12_closes_38, dX12_closes_39, dX12_closes_42, dX12_closes_43, dX12_closes_45, dX12_closes_47, dX12_closes_48, dX12_closes_51, dX12_closes_52, dX12_closes_53, dX12_closes_55, dX12_closes_58, dX12_closes_59, dX12_closes_62, dX12_closes_63, dX12_closes_66, dX12_closes_67, dX12_closes_69, dX12_closes_71, dX12_closes_74, dX12_closes_76, dX12_closes_79, dX12_closes_81, dX12_closes_82, dX12_closes_83, dX12_closes_85, dX12_closes_86, dX12_closes_88, dX12_closes_89, dX12_closes_90, dX12_closes_91, dX12_closes_93, dX12_closes_96, dX12_closes_99, dX12_closes_102, dX12_closes_105, dX12_closes_107]
          simp (disch := omega) only [li, nI_add, nI_clamp, nI_ltI, nI_leI, nI_eq, inx_iff, a31, nI_1shl', nI_shr', div_bit, tb1, tb0, fa_or, fa_and, nI_not, pk_sub, nI_dec, tb2]
          refine ⟨fun z2 => mid h false v8 (by simp [z, z2]), fun z2 => mid h true v8 (by simp [z2])⟩
      refine hG.run [15] 60 ?_
      simp [wp, stepI, ln, jmp, cmpI, Value.category, rd, tyF, va_rf, st1, st2, clr, isLg, CB, inx_0, inx_1, inx_2, inx_3, inx_4, inx_5, bI_0, bI_1, bI_ok, fin3, tyX12, entL, q0, dX12_closes_0, dX12_closes_1, dX12_closes_3, dX12_closes_4, dX12_closes_6, dX12_closes_8, dX12_closes_9, dX12_closes_12, dX12_closes_13, dX12_closes_15, dX12_closes_17, dX12_closes_18, dX12_closes_21, dX12_closes_23, dX12_closes_24, dX12_closes_27, dX12_closes_28, dX12_closes_30, dX12_closes_31, dX12_closes_34, dX12_closes_35, dX12_closes_38, dX12_closes_39, dX12_closes_42, dX12_closes_43, dX12_closes_45, dX12_closes_47, dX12_closes_48, dX12_closes_51, dX12_closes_52, dX12_closes_53, dX12_closes_55, dX12_closes_58, dX12_closes_59, dX12_closes_62, dX12_closes_63, dX12_closes_66, dX12_closes_67, dX12_closes_69, dX12_closes_71, dX12_closes_74, dX12_closes_76, dX12_closes_79, dX12_closes_81, dX12_closes_82, dX12_closes_83, dX12_closes_85, dX12_closes_86, dX12_closes_88, dX12_closes_89, dX12_closes_90, dX12_closes_91, dX12_closes_93, dX12_closes_96, dX12_closes_99, dX12_closes_102, dX12_closes_105, dX12_closes_107]
      simp (disch := omega) only [li, nI_add, nI_clamp, nI_ltI, nI_leI, nI_eq, inx_iff, a31, nI_1shl', nI_shr', div_bit, tb1, tb0, fa_or, fa_and, nI_not, pk_sub, nI_dec]
      refine ⟨fun h => hP _ _ ⟨rfl, ?_⟩, fun h => loop2 h 6 0 v7 v8 (by omega) (by omega)⟩
      rw [show i = 5 by omega]; rfl
  refine hG.run [6] 60 ?_
  simp [wp, stepI, ln, jmp, cmpI, Value.category, rd, tyF, va_rf, st1, st2, clr, isLg, CB, inx_0, inx_1, inx_2, inx_3, inx_4, inx_5, bI_0, bI_1, bI_ok, fin3, tyX12, entL, q0, dX12_closes_0, dX12_closes_1, dX12_closes_3, dX12_closes_4, dX12_closes_6, dX12_closes_8, dX12_closes_9, dX12_closes_12, dX12_closes_13, dX12_closes_15, dX12_closes_17, dX12_closes_18, dX12_closes_21, dX12_closes_23, dX12_closes_24, dX12_closes_27, dX12_closes_28, dX12_closes_30, dX12_closes_31, dX12_closes_34, dX12_closes_35, dX12_closes_38, dX12_closes_39, dX12_closes_42, dX12_closes_43, dX12_closes_45, dX12_closes_47, dX12_closes_48, dX12_closes_51, dX12_closes_52, dX12_closes_53, dX12_closes_55, dX12_closes_58, dX12_closes_59, dX12_closes_62, dX12_closes_63, dX12_closes_66, dX12_closes_67, dX12_closes_69, dX12_closes_71, dX12_closes_74, dX12_closes_76, dX12_closes_79, dX12_closes_81, dX12_closes_82, dX12_closes_83, dX12_closes_85, dX12_closes_86, dX12_closes_88, dX12_closes_89, dX12_closes_90, dX12_closes_91, dX12_closes_93, dX12_closes_96, dX12_closes_99, dX12_closes_102, dX12_closes_105, dX12_closes_107]
  exact loop1 6 0 none none none (by omega) (by omega)
