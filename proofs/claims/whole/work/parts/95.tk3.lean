/-- the kind of a token, as the class has it -/
def ckd (t : Nat → Nat) (N p : Nat) : Nat := if lxK t N p = 0 then 0 else if lxK t N p = 1 then 2 else if lxK t N p = 2 then 3 else if lxK t N p = 3 then t (lxBg t N p) else 1
def TsM (mI : Nat → Nat → Int32) (mL : Nat → Nat → Int64) (mR : Nat → Nat → Option Nat) (K : Nat) (t : Nat → Nat) (N p : Nat) : Prop := mI K 2 = nI (lxE t N p) ∧ mI K 3 = nI (lxBg t N p) ∧ mI K 4 = nI (ckd t N p) ∧ (lxK t N p = 2 → mI K 5 = nI (lxNm t N p)) ∧ (lxK t N p = 1 → mL K 6 = lN (cv8 (lxWd t N p))) ∧ mR K 7 = (if lxK t N p = 1 then wrd (lxWd t N p) else none)
set_option maxHeartbeats 4000000 in
set_option maxRecDepth 100000 in
theorem c8_step (l : Launch) (X : Cx) (d : Nat) (sh : Nat → Option Sh) (mI : Nat → Nat → Int32) (mL : Nat → Nat → Int64) (mR : Nat → Nat → Option Nat) (n : Nat) (K TP : Nat) (hL : TkL sh mR K TP) (t : Nat → Nat) (N : Nat) (hT : TkT mI K TP t N) (p : Nat) (hp : p ≤ N) (he : mI K 2 = nI p) (hd : 2 ≤ d) : Cn l X yX8_step cX8_step 1 none d [.ref K] (sh, mI, mL, mR, n) (fun r M' => r = none ∧ ∃ mI' mL' mR', M' = (sh, mI', mL', mR', n) ∧ (∀ a k, ¬ (a = K ∧ (k = 2 ∨ k = 3 ∨ k = 4 ∨ k = 5)) → mI' a k = mI a k) ∧ (∀ a k, ¬ (a = K ∧ k = 6) → mL' a k = mL a k) ∧ (∀ a k, ¬ (a = K ∧ k = 7) → mR' a k = mR a k) ∧ TsM mI' mL' mR' K t N p) 0 0 := by
  refine Cn.run 8 false (by decide) rfl (by decide) (by simp [entA, Value.category]) ?_
  intro P G hP hG
  have hL0 := hL
  obtain ⟨q0, hKl, r0, s0, hTl, hne⟩ := hL
  have xK : K < 1000000000 := by omega
  have hT0 := hT
  obtain ⟨t1, t2, t3⟩ := hT
  obtain ⟨fs, hfs⟩ : ∃ fs, fs = fa_first (fun k => !lxB (t (p + k))) (N - p) := ⟨_, rfl⟩
  have fl : fs ≤ N - p := by rw [hfs]; exact fa_first_le _ _
  obtain ⟨b, hb⟩ : ∃ b, b = lxBg t N p := ⟨_, rfl⟩
  have hbf : b = p + fs := by rw [hb, hfs]; rfl
  have fin : ∀ mI1 mL1 mR1, (∀ a k, ¬ (a = K ∧ (k = 2 ∨ k = 3 ∨ k = 4 ∨ k = 5)) → mI1 a k = mI a k) → (∀ a k, ¬ (a = K ∧ k = 6) → mL1 a k = mL a k) → (∀ a k, ¬ (a = K ∧ k = 7) → mR1 a k = mR a k) → TsM mI1 mL1 mR1 K t N p → P none (sh, mI1, mL1, mR1, n) := fun mI1 mL1 mR1 g1 g2 g3 g4 => hP _ _ ⟨rfl, mI1, mL1, mR1, rfl, g1, g2, g3, g4⟩
  clear hP
  obtain ⟨mR0, hmR0⟩ : ∃ m, m = up2 mR K 7 none := ⟨_, rfl⟩
  have rr1 : ∀ a k, ¬ (a = K ∧ k = 7) → mR0 a k = mR a k := fun a k h => by rw [hmR0, up2_ne h]
  have rr2 : mR0 K 7 = none := by rw [hmR0, up2_eq]
  have r00 : mR0 K 0 = some TP := (rr1 _ _ (by omega)).trans r0
  have hL1 : TkL sh mR0 K TP := ⟨q0, hKl, r00, s0, hTl, hne⟩
  have eK : lxK t N p = lxKb t N b := by rw [hb]; rfl
  have eE : lxE t N p = lxEb t N b := by rw [hb]; rfl
  have g57 : ∀ mI1, (∀ a k, ¬ (a = K ∧ (k = 2 ∨ k = 3 ∨ k = 4 ∨ k = 5)) → mI1 a k = mI a k) → mI1 K 2 = nI b → G 57 [some (.ref K)] [] (sh, mI1, mL, mR0, n) := fun mI1 g1 g2 => by
    obtain ⟨mI2, hmI2⟩ : ∃ m, m = up2 mI1 K 3 (nI b) := ⟨_, rfl⟩
    have f2 : ∀ a k, ¬ (a = K ∧ (k = 2 ∨ k = 3 ∨ k = 4 ∨ k = 5)) → mI2 a k = mI a k := fun a k h => by rw [hmI2, up2_ne (fun y => h ⟨y.1, Or.inr (Or.inl y.2)⟩)]; exact g1 a k h
    have pl2 : mI2 K 3 = nI b := by rw [hmI2, up2_eq]
    have en2 : mI2 K 2 = nI b := by rw [hmI2, up2_ne (fun y => by cases y.2)]; exact g2
    have sz2 : mI2 K 1 = nI N := (f2 _ _ (by omega)).trans t1
    have T2 : TkT mI2 K TP t N := ⟨sz2, t2, fun k hk => ⟨(f2 _ _ (fun y => hne y.1)).trans (t3 k hk).1, (t3 k hk).2⟩⟩
    have g65 : G 65 [some (.ref K)] [] (sh, mI2, mL, mR0, n) := by
      by_cases hbN : b = N
      · have q := fin (up2 mI2 K 4 (nI 0)) mL mR0 (fun a k h => by rw [up2_ne (fun y => h ⟨y.1, Or.inr (Or.inr (Or.inl y.2))⟩)]; exact f2 a k h) (fun _ _ _ => rfl) rr1 (by
          have k0 : lxK t N p = 0 := by rw [eK]; unfold lxKb; rw [if_pos hbN]
          refine ⟨?_, ?_, ?_, fun z => ?_, fun z => ?_, ?_⟩
          · rw [up2_ne (fun y => by cases y.2), en2, eE]; unfold lxEb; rw [if_pos hbN, hbN]
          · rw [up2_ne (fun y => by cases y.2), pl2, ← hb]
          · rw [up2_eq]; unfold ckd; rw [if_pos k0]
          · rw [k0] at z; cases z
          · rw [k0] at z; cases z
          · rw [rr2, if_neg (by rw [k0]; decide)])
        refine hG.run [] 60 ?_
        simp [wp, stepI, ln, jmp, cmpI, Value.category, rd, tyF, va_rf, st1, st2, clr, isLg, CB, inx_0, inx_1, inx_2, inx_3, inx_4, inx_5, bI_0, bI_1, bI_ok, fin3, tyX8, entL, q0, okv, wr, finF, clT, TX8, xK, r00, dX8_step_0, dX8_step_1, dX8_step_2, fT_8_31, dX8_step_5, dX8_step_6, fT_8_25, dX8_step_9, dX8_step_10, fT_8_21, dX8_step_13, dX8_step_16, dX8_step_17, fT_8_9, dX8_step_20, dX8_step_21, dX8_step_24, dX8_step_25, dX8_step_27, dX8_step_30, dX8_step_31, dX8_step_34, dX8_step_35, dX8_step_38, dX8_step_39, dX8_step_41, dX8_step_44, dX8_step_45, dX8_step_46, dX8_step_49, dX8_step_50, dX8_step_51, dX8_step_54, dX8_step_57, dX8_step_58, dX8_step_59, dX8_step_62, fT_8_35, dX8_step_65, dX8_step_66, dX8_step_69, dX8_step_70, dX8_step_73, dX8_step_76, dX8_step_77, dX8_step_78, fT_8_38, dX8_step_81, dX8_step_84, dX8_step_85, dX8_step_88, dX8_step_89, dX8_step_92, dX8_step_93, dX8_step_96, dX8_step_99, dX8_step_100, dX8_step_103, dX8_step_106, dX8_step_107, dX8_step_110, dX8_step_111, dX8_step_114, dX8_step_115, dX8_step_118, dX8_step_121, dX8_step_122, dX8_step_125, dX8_step_128, dX8_step_129, dX8_step_130, dX8_step_133, dX8_step_134, dX8_step_135, dX8_step_138, dX8_step_139, dX8_step_140, dX8_step_143, dX8_step_144, dX8_step_147, dX8_step_148, dX8_step_151, dX8_step_154, dX8_step_155, dX8_step_158, dX8_step_159, dX8_step_162, dX8_step_163, dX8_step_166, dX8_step_167, dX8_step_170]
        rw [pl2, sz2]
        simp (disch := omega) only [li, nI_add, nI_clamp, nI_ltI, nI_leI, nI_eq, inx_iff, a31, nI_1shl', nI_shr', div_bit, tb1, tb0, fa_or, fa_and, nI_not, pk_sub, nI_dec]
        exact ⟨fun z => by omega, fun _ => q⟩
      · have hbl : b < N := by omega
        obtain ⟨a1, a2⟩ := T2.2.2 b hbl
        refine hG.run [76] 60 ?_
        simp [wp, stepI, ln, jmp, cmpI, Value.category, rd, tyF, va_rf, st1, st2, clr, isLg, CB, inx_0, inx_1, inx_2, inx_3, inx_4, inx_5, bI_0, bI_1, bI_ok, fin3, tyX8, entL, q0, r00, s0, dX8_step_0, dX8_step_1, dX8_step_2, fT_8_31, dX8_step_5, dX8_step_6, fT_8_25, dX8_step_9, dX8_step_10, fT_8_21, dX8_step_13, dX8_step_16, dX8_step_17, fT_8_9, dX8_step_20, dX8_step_21, dX8_step_24, dX8_step_25, dX8_step_27, dX8_step_30, dX8_step_31, dX8_step_34, dX8_step_35, dX8_step_38, dX8_step_39, dX8_step_41, dX8_step_44, dX8_step_45, dX8_step_46, dX8_step_49, dX8_step_50, dX8_step_51, dX8_step_54, dX8_step_57, dX8_step_58, dX8_step_59, dX8_step_62, fT_8_35, dX8_step_65, dX8_step_66, dX8_step_69, dX8_step_70, dX8_step_73, dX8_step_76, dX8_step_77, dX8_step_78, fT_8_38, dX8_step_81, dX8_step_84, dX8_step_85, dX8_step_88, dX8_step_89, dX8_step_92, dX8_step_93, dX8_step_96, dX8_step_99, dX8_step_100, dX8_step_103, dX8_step_106, dX8_step_107, dX8_step_110, dX8_step_111, dX8_step_114, dX8_step_115, dX8_step_118, dX8_step_121, dX8_step_122, dX8_step_125, dX8_step_128, dX8_step_129, dX8_step_130, dX8_step_133, dX8_step_134, dX8_step_135, dX8_step_138, dX8_step_139, dX8_step_140, dX8_step_143, dX8_step_144, dX8_step_147, dX8_step_148, dX8_step_151, dX8_step_154, dX8_step_155, dX8_step_158, dX8_step_159, dX8_step_162, dX8_step_163, dX8_step_166, dX8_step_167, dX8_step_170]
        rw [pl2, sz2]
        simp (disch := omega) only [li, nI_add, nI_clamp, nI_ltI, nI_leI, nI_eq, inx_iff, a31, nI_1shl', nI_shr', div_bit, tb1, tb0, fa_or, fa_and, nI_not, pk_sub, nI_dec, a1]
        refine ⟨fun _ => ⟨by omega, ?_⟩, fun z => by omega⟩
        refine hG.callS dX8_step_93 ms_8_41 [.int (nI (t b))] [] (c8_isLetter l X (d - 1) _ _ a2) (by omega) rfl (by decide) (by simp [Value.category]) rfl ?_
        rintro r M' ⟨rfl, rfl⟩
        cases hl : lxL (t b) with
        | true =>
          refine hG.run [106] 60 ?_
          simp [wp, stepI, ln, jmp, cmpI, Value.category, rd, tyF, va_rf, st1, st2, clr, isLg, CB, inx_0, inx_1, inx_2, inx_3, inx_4, inx_5, bI_0, bI_1, bI_ok, fin3, tyX8, entL, q0, dX8_step_0, dX8_step_1, dX8_step_2, fT_8_31, dX8_step_5, dX8_step_6, fT_8_25, dX8_step_9, dX8_step_10, fT_8_21, dX8_step_13, dX8_step_16, dX8_step_17, fT_8_9, dX8_step_20, dX8_step_21, dX8_step_24, dX8_step_25, dX8_step_27, dX8_step_30, dX8_step_31, dX8_step_34, dX8_step_35, dX8_step_38, dX8_step_39, dX8_step_41, dX8_step_44, dX8_step_45, dX8_step_46, dX8_step_49, dX8_step_50, dX8_step_51, dX8_step_54, dX8_step_57, dX8_step_58, dX8_step_59, dX8_step_62, fT_8_35, dX8_step_65, dX8_step_66, dX8_step_69, dX8_step_70, dX8_step_73, dX8_step_76, dX8_step_77, dX8_step_78, fT_8_38, dX8_step_81, dX8_step_84, dX8_step_85, dX8_step_88, dX8_step_89, dX8_step_92, dX8_step_93, dX8_step_96, dX8_step_99, dX8_step_100, dX8_step_103, dX8_step_106, dX8_step_107, dX8_step_110, dX8_step_111, dX8_step_114, dX8_step_115, dX8_step_118, dX8_step_121, dX8_step_122, dX8_step_125, dX8_step_128, dX8_step_129, dX8_step_130, dX8_step_133, dX8_step_134, dX8_step_135, dX8_step_138, dX8_step_139, dX8_step_140, dX8_step_143, dX8_step_144, dX8_step_147, dX8_step_148, dX8_step_151, dX8_step_154, dX8_step_155, dX8_step_158, dX8_step_159, dX8_step_162, dX8_step_163, dX8_step_166, dX8_step_167, dX8_step_170]
          refine hG.callV dX8_step_100 mv_8_45 [] [] (c8_takeWord l X (d - 1) sh mI2 mL mR0 n K TP hL1 t N T2 b (by omega) en2 pl2 rr2 (by omega)) ⟨_, rfl, rfl⟩ q0 (by omega) rfl (by decide) (by simp [Value.category]) rfl ?_
          rintro r M' ⟨rfl, mI3, mL3, mR3, rfl, k1, k2, k3, k4, k5, k6, k7⟩
          refine hG.run [] 60 ?_
          simp [wp, stepI, ln, jmp, cmpI, Value.category, rd, tyF, va_rf, st1, st2, clr, isLg, CB, inx_0, inx_1, inx_2, inx_3, inx_4, inx_5, bI_0, bI_1, bI_ok, fin3, tyX8, entL, q0, dX8_step_0, dX8_step_1, dX8_step_2, fT_8_31, dX8_step_5, dX8_step_6, fT_8_25, dX8_step_9, dX8_step_10, fT_8_21, dX8_step_13, dX8_step_16, dX8_step_17, fT_8_9, dX8_step_20, dX8_step_21, dX8_step_24, dX8_step_25, dX8_step_27, dX8_step_30, dX8_step_31, dX8_step_34, dX8_step_35, dX8_step_38, dX8_step_39, dX8_step_41, dX8_step_44, dX8_step_45, dX8_step_46, dX8_step_49, dX8_step_50, dX8_step_51, dX8_step_54, dX8_step_57, dX8_step_58, dX8_step_59, dX8_step_62, fT_8_35, dX8_step_65, dX8_step_66, dX8_step_69, dX8_step_70, dX8_step_73, dX8_step_76, dX8_step_77, dX8_step_78, fT_8_38, dX8_step_81, dX8_step_84, dX8_step_85, dX8_step_88, dX8_step_89, dX8_step_92, dX8_step_93, dX8_step_96, dX8_step_99, dX8_step_100, dX8_step_103, dX8_step_106, dX8_step_107, dX8_step_110, dX8_step_111, dX8_step_114, dX8_step_115, dX8_step_118, dX8_step_121, dX8_step_122, dX8_step_125, dX8_step_128, dX8_step_129, dX8_step_130, dX8_step_133, dX8_step_134, dX8_step_135, dX8_step_138, dX8_step_139, dX8_step_140, dX8_step_143, dX8_step_144, dX8_step_147, dX8_step_148, dX8_step_151, dX8_step_154, dX8_step_155, dX8_step_158, dX8_step_159, dX8_step_162, dX8_step_163, dX8_step_166, dX8_step_167, dX8_step_170]
          refine fin mI3 mL3 mR3 (fun a k h => (k1 a k (fun y => h ⟨y.1, by omega⟩)).trans (f2 a k h)) k2 (fun a k h => (k3 a k h).trans (rr1 a k h)) ?_
          have kk : lxK t N p = if 8 < lxLn t N b then 4 else 1 := by rw [eK]; unfold lxKb; rw [if_neg hbN, if_pos hl]
          have ee : lxE t N p = b + lxLn t N b := by rw [eE]; unfold lxEb; rw [if_neg hbN, if_pos hl]
          refine ⟨by rw [k4, ee], by rw [k1 _ _ (by omega), pl2, ← hb], ?_, fun z => ?_, fun z => ?_, ?_⟩
          · rw [k5]
            unfold ckd
            rw [kk]
            by_cases h8 : lxLn t N b ≤ 8
            · rw [if_pos h8, if_neg (show ¬ 8 < lxLn t N b by omega)]; rfl
            · rw [if_neg h8, if_pos (show 8 < lxLn t N b by omega)]; rfl
          · rw [kk] at z
            split at z <;> cases z
          · have := lxWd_v z
            rw [k6, this.2, ← hb]
          · rw [k7, kk]
            by_cases h8 : lxLn t N b ≤ 8
            · rw [if_pos h8, if_neg (show ¬ 8 < lxLn t N b by omega), if_pos rfl]
              show wrd (lxW t b (lxLn t N b)) = wrd (lxWd t N p)
              unfold lxWd
              rw [← hb]
            · rw [if_neg h8, if_pos (show 8 < lxLn t N b by omega)]; rfl
        | false =>
          refine hG.run [] 60 ?_
          simp [wp, stepI, ln, jmp, cmpI, Value.category, rd, tyF, va_rf, st1, st2, clr, isLg, CB, inx_0, inx_1, inx_2, inx_3, inx_4, inx_5, bI_0, bI_1, bI_ok, fin3, tyX8, entL, q0, r00, s0, dX8_step_0, dX8_step_1, dX8_step_2, fT_8_31, dX8_step_5, dX8_step_6, fT_8_25, dX8_step_9, dX8_step_10, fT_8_21, dX8_step_13, dX8_step_16, dX8_step_17, fT_8_9, dX8_step_20, dX8_step_21, dX8_step_24, dX8_step_25, dX8_step_27, dX8_step_30, dX8_step_31, dX8_step_34, dX8_step_35, dX8_step_38, dX8_step_39, dX8_step_41, dX8_step_44, dX8_step_45, dX8_step_46, dX8_step_49, dX8_step_50, dX8_step_51, dX8_step_54, dX8_step_57, dX8_step_58, dX8_step_59, dX8_step_62, fT_8_35, dX8_step_65, dX8_step_66, dX8_step_69, dX8_step_70, dX8_step_73, dX8_step_76, dX8_step_77, dX8_step_78, fT_8_38, dX8_step_81, dX8_step_84, dX8_step_85, dX8_step_88, dX8_step_89, dX8_step_92, dX8_step_93, dX8_step_96, dX8_step_99, dX8_step_100, dX8_step_103, dX8_step_106, dX8_step_107, dX8_step_110, dX8_step_111, dX8_step_114, dX8_step_115, dX8_step_118, dX8_step_121, dX8_step_122, dX8_step_125, dX8_step_128, dX8_step_129, dX8_step_130, dX8_step_133, dX8_step_134, dX8_step_135, dX8_step_138, dX8_step_139, dX8_step_140, dX8_step_143, dX8_step_144, dX8_step_147, dX8_step_148, dX8_step_151, dX8_step_154, dX8_step_155, dX8_step_158, dX8_step_159, dX8_step_162, dX8_step_163, dX8_step_166, dX8_step_167, dX8_step_170]
          simp (disch := omega) only [li, nI_add, nI_clamp, nI_ltI, nI_leI, nI_eq, inx_iff, a31, nI_1shl', nI_shr', div_bit, tb1, tb0, fa_or, fa_and, nI_not, pk_sub, nI_dec, pl2, a1]
          refine ⟨by omega, ?_⟩
          refine hG.callS dX8_step_115 ms_8_48 [.int (nI (t b))] [] (c8_isDigit l X (d - 1) _ _ a2) (by omega) rfl (by decide) (by simp [Value.category]) rfl ?_
          rintro r M' ⟨rfl, rfl⟩
          cases hdg : lxD (t b) with
          | true =>
            refine hG.run [128] 60 ?_
            simp [wp, stepI, ln, jmp, cmpI, Value.category, rd, tyF, va_rf, st1, st2, clr, isLg, CB, inx_0, inx_1, inx_2, inx_3, inx_4, inx_5, bI_0, bI_1, bI_ok, fin3, tyX8, entL, q0, dX8_step_0, dX8_step_1, dX8_step_2, fT_8_31, dX8_step_5, dX8_step_6, fT_8_25, dX8_step_9, dX8_step_10, fT_8_21, dX8_step_13, dX8_step_16, dX8_step_17, fT_8_9, dX8_step_20, dX8_step_21, dX8_step_24, dX8_step_25, dX8_step_27, dX8_step_30, dX8_step_31, dX8_step_34, dX8_step_35, dX8_step_38, dX8_step_39, dX8_step_41, dX8_step_44, dX8_step_45, dX8_step_46, dX8_step_49, dX8_step_50, dX8_step_51, dX8_step_54, dX8_step_57, dX8_step_58, dX8_step_59, dX8_step_62, fT_8_35, dX8_step_65, dX8_step_66, dX8_step_69, dX8_step_70, dX8_step_73, dX8_step_76, dX8_step_77, dX8_step_78, fT_8_38, dX8_step_81, dX8_step_84, dX8_step_85, dX8_step_88, dX8_step_89, dX8_step_92, dX8_step_93, dX8_step_96, dX8_step_99, dX8_step_100, dX8_step_103, dX8_step_106, dX8_step_107, dX8_step_110, dX8_step_111, dX8_step_114, dX8_step_115, dX8_step_118, dX8_step_121, dX8_step_122, dX8_step_125, dX8_step_128, dX8_step_129, dX8_step_130, dX8_step_133, dX8_step_134, dX8_step_135, dX8_step_138, dX8_step_139, dX8_step_140, dX8_step_143, dX8_step_144, dX8_step_147, dX8_step_148, dX8_step_151, dX8_step_154, dX8_step_155, dX8_step_158, dX8_step_159, dX8_step_162, dX8_step_163, dX8_step_166, dX8_step_167, dX8_step_170]
            refine hG.callV dX8_step_122 mv_8_51 [] [] (c8_takeNumber l X (d - 1) sh mI2 mL mR0 n K TP hL1 t N T2 b (by omega) en2 pl2 (by omega)) ⟨_, rfl, rfl⟩ q0 (by omega) rfl (by decide) (by simp [Value.category]) rfl ?_
            rintro r M' ⟨rfl, mI3, rfl, k1, k4, k5, k6⟩
            refine hG.run [] 60 ?_
            simp [wp, stepI, ln, jmp, cmpI, Value.category, rd, tyF, va_rf, st1, st2, clr, isLg, CB, inx_0, inx_1, inx_2, inx_3, inx_4, inx_5, bI_0, bI_1, bI_ok, fin3, tyX8, entL, q0, dX8_step_0, dX8_step_1, dX8_step_2, fT_8_31, dX8_step_5, dX8_step_6, fT_8_25, dX8_step_9, dX8_step_10, fT_8_21, dX8_step_13, dX8_step_16, dX8_step_17, fT_8_9, dX8_step_20, dX8_step_21, dX8_step_24, dX8_step_25, dX8_step_27, dX8_step_30, dX8_step_31, dX8_step_34, dX8_step_35, dX8_step_38, dX8_step_39, dX8_step_41, dX8_step_44, dX8_step_45, dX8_step_46, dX8_step_49, dX8_step_50, dX8_step_51, dX8_step_54, dX8_step_57, dX8_step_58, dX8_step_59, dX8_step_62, fT_8_35, dX8_step_65, dX8_step_66, dX8_step_69, dX8_step_70, dX8_step_73, dX8_step_76, dX8_step_77, dX8_step_78, fT_8_38, dX8_step_81, dX8_step_84, dX8_step_85, dX8_step_88, dX8_step_89, dX8_step_92, dX8_step_93, dX8_step_96, dX8_step_99, dX8_step_100, dX8_step_103, dX8_step_106, dX8_step_107, dX8_step_110, dX8_step_111, dX8_step_114, dX8_step_115, dX8_step_118, dX8_step_121, dX8_step_122, dX8_step_125, dX8_step_128, dX8_step_129, dX8_step_130, dX8_step_133, dX8_step_134, dX8_step_135, dX8_step_138, dX8_step_139, dX8_step_140, dX8_step_143, dX8_step_144, dX8_step_147, dX8_step_148, dX8_step_151, dX8_step_154, dX8_step_155, dX8_step_158, dX8_step_159, dX8_step_162, dX8_step_163, dX8_step_166, dX8_step_167, dX8_step_170]
            refine fin mI3 mL mR0 (fun a k h => (k1 a k (fun y => h ⟨y.1, by omega⟩)).trans (f2 a k h)) (fun _ _ _ => rfl) rr1 ?_
            have kk : lxK t N p = if 4 < lxDn t N b then 4 else 2 := by rw [eK]; unfold lxKb; rw [if_neg hbN, hl, hdg]; rfl
            have ee : lxE t N p = b + lxDn t N b := by rw [eE]; unfold lxEb; rw [if_neg hbN, hl, hdg]; rfl
            refine ⟨by rw [k4, ee], by rw [k1 _ _ (by omega), pl2, ← hb], ?_, fun z => ?_, fun z => ?_, ?_⟩
            · rw [k5]
              unfold ckd
              rw [kk]
              by_cases h8 : lxDn t N b ≤ 4
              · rw [if_pos h8, if_neg (show ¬ 4 < lxDn t N b by omega)]; rfl
              · rw [if_neg h8, if_pos (show 4 < lxDn t N b by omega)]; rfl
            · rw [k6]
              unfold lxNm
              rw [← hb]
            · rw [kk] at z
              split at z <;> cases z
            · rw [rr2, if_neg]
              rw [kk]
              split <;> decide
          | false =>
            obtain ⟨mI3, hmI3⟩ : ∃ m, m = up2 mI2 K 2 (nI (b + 1)) := ⟨_, rfl⟩
            have f3 : ∀ a k, ¬ (a = K ∧ (k = 2 ∨ k = 3 ∨ k = 4 ∨ k = 5)) → mI3 a k = mI a k := fun a k h => by rw [hmI3, up2_ne (fun y => h ⟨y.1, Or.inl y.2⟩)]; exact f2 a k h
            have pl3 : mI3 K 3 = nI b := by rw [hmI3, up2_ne (fun y => by cases y.2)]; exact pl2
            have en3 : mI3 K 2 = nI (b + 1) := by rw [hmI3, up2_eq]
            have a3 : mI3 TP b = nI (t b) := by rw [hmI3, up2_ne (fun y => hne y.1)]; exact a1
            have kk : lxK t N p = if lxS (t b) then 3 else 4 := by rw [eK]; unfold lxKb; rw [if_neg hbN, hl, hdg]; rfl
            have ee : lxE t N p = b + 1 := by rw [eE]; unfold lxEb; rw [if_neg hbN, hl, hdg]; rfl
            have done : ∀ v, v = nI (if lxS (t b) then t b else 1) → P none (sh, up2 mI3 K 4 v, mL, mR0, n) := fun v hv => by
              refine fin _ mL mR0 (fun a k h => by rw [up2_ne (fun y => h ⟨y.1, Or.inr (Or.inr (Or.inl y.2))⟩)]; exact f3 a k h) (fun _ _ _ => rfl) rr1 ?_
              refine ⟨by rw [up2_ne (fun y => by cases y.2), en3, ee], by rw [up2_ne (fun y => by cases y.2), pl3, ← hb], ?_, fun z => ?_, fun z => ?_, ?_⟩
              · rw [up2_eq, hv]
                unfold ckd
                rw [kk, ← hb]
                cases lxS (t b) <;> rfl
              · rw [kk] at z
                cases h9 : lxS (t b) <;> rw [h9] at z <;> cases z
              · rw [kk] at z
                cases h9 : lxS (t b) <;> rw [h9] at z <;> cases z
              · rw [rr2, if_neg]
                rw [kk]
                cases lxS (t b) <;> decide
            refine hG.run [138] 60 ?_
            simp [wp, stepI, ln, jmp, cmpI, Value.category, rd, tyF, va_rf, st1, st2, clr, isLg, CB, inx_0, inx_1, inx_2, inx_3, inx_4, inx_5, bI_0, bI_1, bI_ok, fin3, tyX8, entL, q0, okv, wr, finF, clT, TX8, xK, dX8_step_0, dX8_step_1, dX8_step_2, fT_8_31, dX8_step_5, dX8_step_6, fT_8_25, dX8_step_9, dX8_step_10, fT_8_21, dX8_step_13, dX8_step_16, dX8_step_17, fT_8_9, dX8_step_20, dX8_step_21, dX8_step_24, dX8_step_25, dX8_step_27, dX8_step_30, dX8_step_31, dX8_step_34, dX8_step_35, dX8_step_38, dX8_step_39, dX8_step_41, dX8_step_44, dX8_step_45, dX8_step_46, dX8_step_49, dX8_step_50, dX8_step_51, dX8_step_54, dX8_step_57, dX8_step_58, dX8_step_59, dX8_step_62, fT_8_35, dX8_step_65, dX8_step_66, dX8_step_69, dX8_step_70, dX8_step_73, dX8_step_76, dX8_step_77, dX8_step_78, fT_8_38, dX8_step_81, dX8_step_84, dX8_step_85, dX8_step_88, dX8_step_89, dX8_step_92, dX8_step_93, dX8_step_96, dX8_step_99, dX8_step_100, dX8_step_103, dX8_step_106, dX8_step_107, dX8_step_110, dX8_step_111, dX8_step_114, dX8_step_115, dX8_step_118, dX8_step_121, dX8_step_122, dX8_step_125, dX8_step_128, dX8_step_129, dX8_step_130, dX8_step_133, dX8_step_134, dX8_step_135, dX8_step_138, dX8_step_139, dX8_step_140, dX8_step_143, dX8_step_144, dX8_step_147, dX8_step_148, dX8_step_151, dX8_step_154, dX8_step_155, dX8_step_158, dX8_step_159, dX8_step_162, dX8_step_163, dX8_step_166, dX8_step_167, dX8_step_170]
            simp (disch := omega) only [li, nI_add, nI_clamp, nI_ltI, nI_leI, nI_eq, inx_iff, a31, nI_1shl', nI_shr', div_bit, tb1, tb0, fa_or, fa_and, nI_not, pk_sub, nI_dec, pl2]
            rw [← hmI3]
            refine hG.run [] 60 ?_
            simp [wp, stepI, ln, jmp, cmpI, Value.category, rd, tyF, va_rf, st1, st2, clr, isLg, CB, inx_0, inx_1, inx_2, inx_3, inx_4, inx_5, bI_0, bI_1, bI_ok, fin3, tyX8, entL, q0, r00, s0, dX8_step_0, dX8_step_1, dX8_step_2, fT_8_31, dX8_step_5, dX8_step_6, fT_8_25, dX8_step_9, dX8_step_10, fT_8_21, dX8_step_13, dX8_step_16, dX8_step_17, fT_8_9, dX8_step_20, dX8_step_21, dX8_step_24, dX8_step_25, dX8_step_27, dX8_step_30, dX8_step_31, dX8_step_34, dX8_step_35, dX8_step_38, dX8_step_39, dX8_step_41, dX8_step_44, dX8_step_45, dX8_step_46, dX8_step_49, dX8_step_50, dX8_step_51, dX8_step_54, dX8_step_57, dX8_step_58, dX8_step_59, dX8_step_62, fT_8_35, dX8_step_65, dX8_step_66, dX8_step_69, dX8_step_70, dX8_step_73, dX8_step_76, dX8_step_77, dX8_step_78, fT_8_38, dX8_step_81, dX8_step_84, dX8_step_85, dX8_step_88, dX8_step_89, dX8_step_92, dX8_step_93, dX8_step_96, dX8_step_99, dX8_step_100, dX8_step_103, dX8_step_106, dX8_step_107, dX8_step_110, dX8_step_111, dX8_step_114, dX8_step_115, dX8_step_118, dX8_step_121, dX8_step_122, dX8_step_125, dX8_step_128, dX8_step_129, dX8_step_130, dX8_step_133, dX8_step_134, dX8_step_135, dX8_step_138, dX8_step_139, dX8_step_140, dX8_step_143, dX8_step_144, dX8_step_147, dX8_step_148, dX8_step_151, dX8_step_154, dX8_step_155, dX8_step_158, dX8_step_159, dX8_step_162, dX8_step_163, dX8_step_166, dX8_step_167, dX8_step_170]
            simp (disch := omega) only [li, nI_add, nI_clamp, nI_ltI, nI_leI, nI_eq, inx_iff, a31, nI_1shl', nI_shr', div_bit, tb1, tb0, fa_or, fa_and, nI_not, pk_sub, nI_dec, pl3, a3]
            refine ⟨by omega, ?_⟩
            refine hG.callS dX8_step_148 ms_8_54 [.int (nI (t b))] [.ref K] (c8_isSign l X (d - 1) _ _ a2) (by omega) rfl (by decide) (by simp [Value.category]) rfl ?_
            rintro r M' ⟨rfl, rfl⟩
            cases hs : lxS (t b) with
            | true =>
              rw [hs] at done
              refine hG.run [] 60 ?_
              simp [wp, stepI, ln, jmp, cmpI, Value.category, rd, tyF, va_rf, st1, st2, clr, isLg, CB, inx_0, inx_1, inx_2, inx_3, inx_4, inx_5, bI_0, bI_1, bI_ok, fin3, tyX8, entL, q0, r00, s0, okv, wr, finF, clT, TX8, xK, dX8_step_0, dX8_step_1, dX8_step_2, fT_8_31, dX8_step_5, dX8_step_6, fT_8_25, dX8_step_9, dX8_step_10, fT_8_21, dX8_step_13, dX8_step_16, dX8_step_17, fT_8_9, dX8_step_20, dX8_step_21, dX8_step_24, dX8_step_25, dX8_step_27, dX8_step_30, dX8_step_31, dX8_step_34, dX8_step_35, dX8_step_38, dX8_step_39, dX8_step_41, dX8_step_44, dX8_step_45, dX8_step_46, dX8_step_49, dX8_step_50, dX8_step_51, dX8_step_54, dX8_step_57, dX8_step_58, dX8_step_59, dX8_step_62, fT_8_35, dX8_step_65, dX8_step_66, dX8_step_69, dX8_step_70, dX8_step_73, dX8_step_76, dX8_step_77, dX8_step_78, fT_8_38, dX8_step_81, dX8_step_84, dX8_step_85, dX8_step_88, dX8_step_89, dX8_step_92, dX8_step_93, dX8_step_96, dX8_step_99, dX8_step_100, dX8_step_103, dX8_step_106, dX8_step_107, dX8_step_110, dX8_step_111, dX8_step_114, dX8_step_115, dX8_step_118, dX8_step_121, dX8_step_122, dX8_step_125, dX8_step_128, dX8_step_129, dX8_step_130, dX8_step_133, dX8_step_134, dX8_step_135, dX8_step_138, dX8_step_139, dX8_step_140, dX8_step_143, dX8_step_144, dX8_step_147, dX8_step_148, dX8_step_151, dX8_step_154, dX8_step_155, dX8_step_158, dX8_step_159, dX8_step_162, dX8_step_163, dX8_step_166, dX8_step_167, dX8_step_170]
              simp (disch := omega) only [li, nI_add, nI_clamp, nI_ltI, nI_leI, nI_eq, inx_iff, a31, nI_1shl', nI_shr', div_bit, tb1, tb0, fa_or, fa_and, nI_not, pk_sub, nI_dec, pl3, a3]
              exact ⟨by omega, done _ rfl⟩
            | false =>
              rw [hs] at done
              refine hG.run [] 60 ?_
              simp [wp, stepI, ln, jmp, cmpI, Value.category, rd, tyF, va_rf, st1, st2, clr, isLg, CB, inx_0, inx_1, inx_2, inx_3, inx_4, inx_5, bI_0, bI_1, bI_ok, fin3, tyX8, entL, q0, r00, s0, okv, wr, finF, clT, TX8, xK, dX8_step_0, dX8_step_1, dX8_step_2, fT_8_31, dX8_step_5, dX8_step_6, fT_8_25, dX8_step_9, dX8_step_10, fT_8_21, dX8_step_13, dX8_step_16, dX8_step_17, fT_8_9, dX8_step_20, dX8_step_21, dX8_step_24, dX8_step_25, dX8_step_27, dX8_step_30, dX8_step_31, dX8_step_34, dX8_step_35, dX8_step_38, dX8_step_39, dX8_step_41, dX8_step_44, dX8_step_45, dX8_step_46, dX8_step_49, dX8_step_50, dX8_step_51, dX8_step_54, dX8_step_57, dX8_step_58, dX8_step_59, dX8_step_62, fT_8_35, dX8_step_65, dX8_step_66, dX8_step_69, dX8_step_70, dX8_step_73, dX8_step_76, dX8_step_77, dX8_step_78, fT_8_38, dX8_step_81, dX8_step_84, dX8_step_85, dX8_step_88, dX8_step_89, dX8_step_92, dX8_step_93, dX8_step_96, dX8_step_99, dX8_step_100, dX8_step_103, dX8_step_106, dX8_step_107, dX8_step_110, dX8_step_111, dX8_step_114, dX8_step_115, dX8_step_118, dX8_step_121, dX8_step_122, dX8_step_125, dX8_step_128, dX8_step_129, dX8_step_130, dX8_step_133, dX8_step_134, dX8_step_135, dX8_step_138, dX8_step_139, dX8_step_140, dX8_step_143, dX8_step_144, dX8_step_147, dX8_step_148, dX8_step_151, dX8_step_154, dX8_step_155, dX8_step_158, dX8_step_159, dX8_step_162, dX8_step_163, dX8_step_166, dX8_step_167, dX8_step_170]
              exact done _ rfl
    refine hG.run [65] 60 ?_
    simp [wp, stepI, ln, jmp, cmpI, Value.category, rd, tyF, va_rf, st1, st2, clr, isLg, CB, inx_0, inx_1, inx_2, inx_3, inx_4, inx_5, bI_0, bI_1, bI_ok, fin3, tyX8, entL, q0, okv, wr, finF, clT, TX8, xK, dX8_step_0, dX8_step_1, dX8_step_2, fT_8_31, dX8_step_5, dX8_step_6, fT_8_25, dX8_step_9, dX8_step_10, fT_8_21, dX8_step_13, dX8_step_16, dX8_step_17, fT_8_9, dX8_step_20, dX8_step_21, dX8_step_24, dX8_step_25, dX8_step_27, dX8_step_30, dX8_step_31, dX8_step_34, dX8_step_35, dX8_step_38, dX8_step_39, dX8_step_41, dX8_step_44, dX8_step_45, dX8_step_46, dX8_step_49, dX8_step_50, dX8_step_51, dX8_step_54, dX8_step_57, dX8_step_58, dX8_step_59, dX8_step_62, fT_8_35, dX8_step_65, dX8_step_66, dX8_step_69, dX8_step_70, dX8_step_73, dX8_step_76, dX8_step_77, dX8_step_78, fT_8_38, dX8_step_81, dX8_step_84, dX8_step_85, dX8_step_88, dX8_step_89, dX8_step_92, dX8_step_93, dX8_step_96, dX8_step_99, dX8_step_100, dX8_step_103, dX8_step_106, dX8_step_107, dX8_step_110, dX8_step_111, dX8_step_114, dX8_step_115, dX8_step_118, dX8_step_121, dX8_step_122, dX8_step_125, dX8_step_128, dX8_step_129, dX8_step_130, dX8_step_133, dX8_step_134, dX8_step_135, dX8_step_138, dX8_step_139, dX8_step_140, dX8_step_143, dX8_step_144, dX8_step_147, dX8_step_148, dX8_step_151, dX8_step_154, dX8_step_155, dX8_step_158, dX8_step_159, dX8_step_162, dX8_step_163, dX8_step_166, dX8_step_167, dX8_step_170]
    rw [g2, ← hmI2]
    exact g65
  have loop : ∀ f i mI1, fs - i < f → i ≤ fs → (∀ a k, ¬ (a = K ∧ (k = 2 ∨ k = 3 ∨ k = 4 ∨ k = 5)) → mI1 a k = mI a k) → mI1 K 2 = nI (p + i) → G 5 [some (.ref K)] [] (sh, mI1, mL, mR0, n) := by
    intro f
    induction f with
    | zero => intro i mI1 h; omega
    | succ f ih =>
      intro i mI1 hf hi g1 g2
      have sz : mI1 K 1 = nI N := (g1 _ _ (by omega)).trans t1
      have stop : i = fs → G 57 [some (.ref K)] [] (sh, mI1, mL, mR0, n) := fun e => g57 mI1 g1 (by rw [hbf, ← e]; exact g2)
      by_cases hiN : p + i < N
      · obtain ⟨a1, a2⟩ := t3 (p + i) hiN
        have a3 : mI1 TP (p + i) = nI (t (p + i)) := (g1 _ _ (fun z => hne z.1)).trans a1
        have g44 : lxB (t (p + i)) = true → G 44 [some (.ref K)] [] (sh, mI1, mL, mR0, n) := fun hB => by
          have e : i < fs := by
            rcases Nat.lt_or_ge i fs with y | y
            · exact y
            · have e2 : fs = i := by omega
              have := fa_first_yes (fun k => !lxB (t (p + k))) (N - p) (by rw [← hfs]; omega)
              rw [← hfs, e2, hB] at this; cases this
          have nx := ih (i + 1) (up2 mI1 K 2 (nI (p + i + 1))) (by omega) (by omega) (fun a k h => by rw [up2_ne (fun y => h ⟨y.1, Or.inl y.2⟩)]; exact g1 a k h) (by rw [up2_eq]; rfl)
          refine hG.run [5] 60 ?_
          simp [wp, stepI, ln, jmp, cmpI, Value.category, rd, tyF, va_rf, st1, st2, clr, isLg, CB, inx_0, inx_1, inx_2, inx_3, inx_4, inx_5, bI_0, bI_1, bI_ok, fin3, tyX8, entL, q0, okv, wr, finF, clT, TX8, xK, dX8_step_0, dX8_step_1, dX8_step_2, fT_8_31, dX8_step_5, dX8_step_6, fT_8_25, dX8_step_9, dX8_step_10, fT_8_21, dX8_step_13, dX8_step_16, dX8_step_17, fT_8_9, dX8_step_20, dX8_step_21, dX8_step_24, dX8_step_25, dX8_step_27, dX8_step_30, dX8_step_31, dX8_step_34, dX8_step_35, dX8_step_38, dX8_step_39, dX8_step_41, dX8_step_44, dX8_step_45, dX8_step_46, dX8_step_49, dX8_step_50, dX8_step_51, dX8_step_54, dX8_step_57, dX8_step_58, dX8_step_59, dX8_step_62, fT_8_35, dX8_step_65, dX8_step_66, dX8_step_69, dX8_step_70, dX8_step_73, dX8_step_76, dX8_step_77, dX8_step_78, fT_8_38, dX8_step_81, dX8_step_84, dX8_step_85, dX8_step_88, dX8_step_89, dX8_step_92, dX8_step_93, dX8_step_96, dX8_step_99, dX8_step_100, dX8_step_103, dX8_step_106, dX8_step_107, dX8_step_110, dX8_step_111, dX8_step_114, dX8_step_115, dX8_step_118, dX8_step_121, dX8_step_122, dX8_step_125, dX8_step_128, dX8_step_129, dX8_step_130, dX8_step_133, dX8_step_134, dX8_step_135, dX8_step_138, dX8_step_139, dX8_step_140, dX8_step_143, dX8_step_144, dX8_step_147, dX8_step_148, dX8_step_151, dX8_step_154, dX8_step_155, dX8_step_158, dX8_step_159, dX8_step_162, dX8_step_163, dX8_step_166, dX8_step_167, dX8_step_170]
          rw [g2]
          simp (disch := omega) only [li, nI_add, nI_clamp, nI_ltI, nI_leI, nI_eq, inx_iff, a31, nI_1shl', nI_shr', div_bit, tb1, tb0, fa_or, fa_and, nI_not, pk_sub, nI_dec]
          exact nx
        have ns : lxB (t (p + i)) = false → G 57 [some (.ref K)] [] (sh, mI1, mL, mR0, n) := fun hB => stop (by
          rcases Nat.lt_or_ge i fs with y | y
          · have := fa_first_no (fun k => !lxB (t (p + k))) (N - p) i (by rw [← hfs]; exact y)
            rw [hB] at this; cases this
          · omega)
        refine hG.run [44, 57] 60 ?_
        simp [wp, stepI, ln, jmp, cmpI, Value.category, rd, tyF, va_rf, st1, st2, clr, isLg, CB, inx_0, inx_1, inx_2, inx_3, inx_4, inx_5, bI_0, bI_1, bI_ok, fin3, tyX8, entL, q0, r00, s0, dX8_step_0, dX8_step_1, dX8_step_2, fT_8_31, dX8_step_5, dX8_step_6, fT_8_25, dX8_step_9, dX8_step_10, fT_8_21, dX8_step_13, dX8_step_16, dX8_step_17, fT_8_9, dX8_step_20, dX8_step_21, dX8_step_24, dX8_step_25, dX8_step_27, dX8_step_30, dX8_step_31, dX8_step_34, dX8_step_35, dX8_step_38, dX8_step_39, dX8_step_41, dX8_step_44, dX8_step_45, dX8_step_46, dX8_step_49, dX8_step_50, dX8_step_51, dX8_step_54, dX8_step_57, dX8_step_58, dX8_step_59, dX8_step_62, fT_8_35, dX8_step_65, dX8_step_66, dX8_step_69, dX8_step_70, dX8_step_73, dX8_step_76, dX8_step_77, dX8_step_78, fT_8_38, dX8_step_81, dX8_step_84, dX8_step_85, dX8_step_88, dX8_step_89, dX8_step_92, dX8_step_93, dX8_step_96, dX8_step_99, dX8_step_100, dX8_step_103, dX8_step_106, dX8_step_107, dX8_step_110, dX8_step_111, dX8_step_114, dX8_step_115, dX8_step_118, dX8_step_121, dX8_step_122, dX8_step_125, dX8_step_128, dX8_step_129, dX8_step_130, dX8_step_133, dX8_step_134, dX8_step_135, dX8_step_138, dX8_step_139, dX8_step_140, dX8_step_143, dX8_step_144, dX8_step_147, dX8_step_148, dX8_step_151, dX8_step_154, dX8_step_155, dX8_step_158, dX8_step_159, dX8_step_162, dX8_step_163, dX8_step_166, dX8_step_167, dX8_step_170]
        simp (disch := omega) only [li, nI_add, nI_clamp, nI_ltI, nI_leI, nI_eq, inx_iff, a31, nI_1shl', nI_shr', div_bit, tb1, tb0, fa_or, fa_and, nI_not, pk_sub, nI_dec, sz, g2, a3]
        refine ⟨fun z => by omega, fun _ => ⟨by omega, fun z => g44 ?_, fun z => ⟨by omega, fun z2 => ns ?_, fun z2 => g44 ?_⟩⟩⟩
        · unfold lxB; rw [z]; rfl
        · unfold lxB; rw [decide_eq_false z2, decide_eq_false z]; rfl
        · unfold lxB; rw [z2]; rfl
      · have q := stop (by omega)
        refine hG.run [16, 57] 60 ?_
        simp [wp, stepI, ln, jmp, cmpI, Value.category, rd, tyF, va_rf, st1, st2, clr, isLg, CB, inx_0, inx_1, inx_2, inx_3, inx_4, inx_5, bI_0, bI_1, bI_ok, fin3, tyX8, entL, q0, dX8_step_0, dX8_step_1, dX8_step_2, fT_8_31, dX8_step_5, dX8_step_6, fT_8_25, dX8_step_9, dX8_step_10, fT_8_21, dX8_step_13, dX8_step_16, dX8_step_17, fT_8_9, dX8_step_20, dX8_step_21, dX8_step_24, dX8_step_25, dX8_step_27, dX8_step_30, dX8_step_31, dX8_step_34, dX8_step_35, dX8_step_38, dX8_step_39, dX8_step_41, dX8_step_44, dX8_step_45, dX8_step_46, dX8_step_49, dX8_step_50, dX8_step_51, dX8_step_54, dX8_step_57, dX8_step_58, dX8_step_59, dX8_step_62, fT_8_35, dX8_step_65, dX8_step_66, dX8_step_69, dX8_step_70, dX8_step_73, dX8_step_76, dX8_step_77, dX8_step_78, fT_8_38, dX8_step_81, dX8_step_84, dX8_step_85, dX8_step_88, dX8_step_89, dX8_step_92, dX8_step_93, dX8_step_96, dX8_step_99, dX8_step_100, dX8_step_103, dX8_step_106, dX8_step_107, dX8_step_110, dX8_step_111, dX8_step_114, dX8_step_115, dX8_step_118, dX8_step_121, dX8_step_122, dX8_step_125, dX8_step_128, dX8_step_129, dX8_step_130, dX8_step_133, dX8_step_134, dX8_step_135, dX8_step_138, dX8_step_139, dX8_step_140, dX8_step_143, dX8_step_144, dX8_step_147, dX8_step_148, dX8_step_151, dX8_step_154, dX8_step_155, dX8_step_158, dX8_step_159, dX8_step_162, dX8_step_163, dX8_step_166, dX8_step_167, dX8_step_170]
        simp (disch := omega) only [li, nI_add, nI_clamp, nI_ltI, nI_leI, nI_eq, inx_iff, a31, nI_1shl', nI_shr', div_bit, tb1, tb0, fa_or, fa_and, nI_not, pk_sub, nI_dec, sz, g2]
        exact ⟨fun _ => q, fun z => by omega⟩
  refine hG.run [5] 60 ?_
  simp [wp, stepI, ln, jmp, cmpI, Value.category, rd, tyF, va_rf, st1, st2, clr, isLg, CB, inx_0, inx_1, inx_2, inx_3, inx_4, inx_5, bI_0, bI_1, bI_ok, fin3, tyX8, entL, q0, okv, wr, finF, clT, TX8, xK, dX8_step_0, dX8_step_1, dX8_step_2, fT_8_31, dX8_step_5, dX8_step_6, fT_8_25, dX8_step_9, dX8_step_10, fT_8_21, dX8_step_13, dX8_step_16, dX8_step_17, fT_8_9, dX8_step_20, dX8_step_21, dX8_step_24, dX8_step_25, dX8_step_27, dX8_step_30, dX8_step_31, dX8_step_34, dX8_step_35, dX8_step_38, dX8_step_39, dX8_step_41, dX8_step_44, dX8_step_45, dX8_step_46, dX8_step_49, dX8_step_50, dX8_step_51, dX8_step_54, dX8_step_57, dX8_step_58, dX8_step_59, dX8_step_62, fT_8_35, dX8_step_65, dX8_step_66, dX8_step_69, dX8_step_70, dX8_step_73, dX8_step_76, dX8_step_77, dX8_step_78, fT_8_38, dX8_step_81, dX8_step_84, dX8_step_85, dX8_step_88, dX8_step_89, dX8_step_92, dX8_step_93, dX8_step_96, dX8_step_99, dX8_step_100, dX8_step_103, dX8_step_106, dX8_step_107, dX8_step_110, dX8_step_111, dX8_step_114, dX8_step_115, dX8_step_118, dX8_step_121, dX8_step_122, dX8_step_125, dX8_step_128, dX8_step_129, dX8_step_130, dX8_step_133, dX8_step_134, dX8_step_135, dX8_step_138, dX8_step_139, dX8_step_140, dX8_step_143, dX8_step_144, dX8_step_147, dX8_step_148, dX8_step_151, dX8_step_154, dX8_step_155, dX8_step_158, dX8_step_159, dX8_step_162, dX8_step_163, dX8_step_166, dX8_step_167, dX8_step_170]
  rw [← hmR0]
  exact loop (fs + 1) 0 mI (by omega) (Nat.zero_le _) (fun _ _ _ => rfl) he
/-- may the token be a name? -/
def nmB (t : Nat → Nat) (N p : Nat) : Bool := !kpN t N p
theorem wR_kp : ∀ i, i < 21 → (wdR i = nI 0 ∨ wdR i = nI 1) ∧ (wdR i = nI 1 ↔ w27.getD i 0 ∈ kpL) := by decide +kernel
theorem kp_wix {v : Nat} : v ∈ kpL ↔ (wix v < 21 ∧ wdR (wix v) = nI 1) := by
  constructor
  · intro h
    have : ∀ x ∈ kpL, ∃ i, i < 21 ∧ w27.getD i 0 = x := by decide +kernel
    obtain ⟨i, h1, h2⟩ := this v h
    have hl : wix v < 21 := by
      rcases Nat.lt_or_ge (wix v) 21 with y | y
      · exact y
      · exact absurd h2 (wix_no (by omega))
    refine ⟨hl, (wR_kp _ hl).2.mpr ?_⟩
    rw [wix_yes hl]; exact h
  · rintro ⟨h1, h2⟩
    have := (wR_kp _ h1).2.mp h2
    rw [wix_yes h1] at this
    exact this
theorem ckd_1 {t : Nat → Nat} {N p : Nat} (h : lxK t N p = 1) : ckd t N p = 2 := by unfold ckd; rw [h]; rfl
theorem ckd_2 {t : Nat → Nat} {N p : Nat} (h : lxK t N p = 2) : ckd t N p = 3 := by unfold ckd; rw [h]; rfl
theorem lxS_ge {s : Nat} (h : lxS s = true) : 40 ≤ s ∧ s ≤ 61 := by
  have := lxS_iff.mp h
  omega
theorem lxK_cases {t : Nat → Nat} {N p : Nat} : lxK t N p = 0 ∨ lxK t N p = 1 ∨ lxK t N p = 2 ∨ (lxK t N p = 3 ∧ lxS (t (lxBg t N p)) = true) ∨ lxK t N p = 4 := by
  unfold lxK lxKb
  split
  · exact Or.inl rfl
  · split
    · split
      · exact Or.inr (Or.inr (Or.inr (Or.inr rfl)))
      · exact Or.inr (Or.inl rfl)
    · split
      · split
        · exact Or.inr (Or.inr (Or.inr (Or.inr rfl)))
        · exact Or.inr (Or.inr (Or.inl rfl))
      · split
        · rename_i h
          exact Or.inr (Or.inr (Or.inr (Or.inl ⟨rfl, h⟩)))
        · exact Or.inr (Or.inr (Or.inr (Or.inr rfl)))
theorem ckd_iff {t : Nat → Nat} {N p : Nat} : (ckd t N p = 0 ↔ lxK t N p = 0) ∧ (ckd t N p = 2 ↔ lxK t N p = 1) ∧ (ckd t N p = 3 ↔ lxK t N p = 2) ∧ (∀ s, 40 ≤ s → (ckd t N p = s ↔ isG t N p s = true)) ∧ ckd t N p < 128 := by
  unfold ckd isG
  rcases lxK_cases (t := t) (N := N) (p := p) with h | h | h | ⟨h, hs⟩ | h
  · rw [h]
    refine ⟨by simp, by simp, by simp, fun s hs => ?_, by simp⟩
    simp
    omega
  · rw [h]
    refine ⟨by simp, by simp, by simp, fun s hs => ?_, by simp⟩
    simp
    omega
  · rw [h]
    refine ⟨by simp, by simp, by simp, fun s hs => ?_, by simp⟩
    simp
    omega
  · rw [h]
    have := lxS_ge hs
    refine ⟨?_, ?_, ?_, fun s _ => ?_, ?_⟩ <;> simp <;> omega
  · rw [h]
    refine ⟨by simp, by simp, by simp, fun s hs => ?_, by simp⟩
    simp
    omega
set_option maxHeartbeats 4000000 in
set_option maxRecDepth 100000 in
theorem c8_isName (l : Launch) (X : Cx) (d : Nat) (sh : Nat → Option Sh) (mI : Nat → Nat → Int32) (mL : Nat → Nat → Int64) (mR : Nat → Nat → Option Nat) (n : Nat) (K : Nat) (q0 : sh K = some (.inl 8)) (t : Nat → Nat) (N p : Nat) (hK : TsM mI mL mR K t N p) : Cn l X yX8_isName cX8_isName 1 (some .boolean) d [.ref K] (sh, mI, mL, mR, n) (fun r M' => M' = (sh, mI, mL, mR, n) ∧ r = some (.int (bI (nmB t N p)))) 0 0 := by
  refine Cn.run 8 false (by decide) rfl (by decide) (by simp [entA, Value.category]) ?_
  intro P G hP hG
  obtain ⟨h1, h2, h3, h4, h5, h6⟩ := hK
  have ci := ckd_iff (t := t) (N := N) (p := p)
  have cl := ci.2.2.2.2
  have c2 := ci.2.1
  by_cases hk : lxK t N p = 1
  · rw [if_pos hk] at h6
    unfold wrd at h6
    have kn : nmB t N p = !decide (lxWd t N p ∈ kpL) := by unfold nmB kpN; rw [hk]; rfl
    rw [kn] at hP
    by_cases hw : wix (lxWd t N p) < 21
    · rw [if_pos hw] at h6
      have c21 : 1000000000 + wix (lxWd t N p) < 1000000021 := Nat.add_lt_add_left hw 1000000000
      have wr1 := wR_kp _ hw
      have kpx := kp_wix (v := lxWd t N p)
      generalize wix (lxWd t N p) = i at hw h6 c21 wr1 kpx
      refine hG.run [] 60 ?_
      simp [wp, stepI, ln, jmp, cmpI, Value.category, rd, tyF, va_rf, st1, st2, clr, isLg, CB, inx_0, inx_1, inx_2, inx_3, inx_4, inx_5, bI_0, bI_1, bI_ok, fin3, tyX8, entL, q0, h6, wdV_3, fT_857, c21, dX8_isName_0, dX8_isName_1, fT_8_38, dX8_isName_4, dX8_isName_5, dX8_isName_8, dX8_isName_9, fT_8_31, dX8_isName_12, dX8_isName_15, dX8_isName_16, dX8_isName_19, wT_8_57, dX8_isName_22, dX8_isName_25, dX8_isName_26, dX8_isName_29, dX8_isName_30]
      rw [h3]
      simp (disch := omega) only [li, nI_add, nI_clamp, nI_ltI, nI_leI, nI_eq, inx_iff, a31, nI_1shl', nI_shr', div_bit, tb1, tb0, fa_or, fa_and, nI_not, pk_sub, nI_dec]
      refine ⟨fun z => absurd (c2.mpr hk) z, fun _ => ⟨fun z => hP _ _ ⟨rfl, ?_⟩, fun z => hP _ _ ⟨rfl, ?_⟩⟩⟩
      · rw [decide_eq_true (kpx.mpr ⟨hw, by
          rcases wr1.1 with y | y
          · exact absurd y z
          · exact y⟩)]; rfl
      · rw [decide_eq_false (fun y => by
          have := (kpx.mp y).2
          rw [z] at this
          exact absurd this (by decide))]; rfl
    · rw [if_neg hw] at h6
      refine hG.run [] 60 ?_
      simp [wp, stepI, ln, jmp, cmpI, Value.category, rd, tyF, va_rf, st1, st2, clr, isLg, CB, inx_0, inx_1, inx_2, inx_3, inx_4, inx_5, bI_0, bI_1, bI_ok, fin3, tyX8, entL, q0, h6, dX8_isName_0, dX8_isName_1, fT_8_38, dX8_isName_4, dX8_isName_5, dX8_isName_8, dX8_isName_9, fT_8_31, dX8_isName_12, dX8_isName_15, dX8_isName_16, dX8_isName_19, wT_8_57, dX8_isName_22, dX8_isName_25, dX8_isName_26, dX8_isName_29, dX8_isName_30]
      rw [h3]
      simp (disch := omega) only [li, nI_add, nI_clamp, nI_ltI, nI_leI, nI_eq, inx_iff, a31, nI_1shl', nI_shr', div_bit, tb1, tb0, fa_or, fa_and, nI_not, pk_sub, nI_dec]
      refine ⟨fun z => absurd (c2.mpr hk) z, fun _ => hP _ _ ⟨rfl, ?_⟩⟩
      rw [decide_eq_false (fun y => hw (kp_wix.mp y).1)]; rfl
  · rw [if_neg hk] at h6
    have kn : nmB t N p = false := by unfold nmB kpN; rw [decide_eq_false hk]; rfl
    rw [kn] at hP
    refine hG.run [] 60 ?_
    simp [wp, stepI, ln, jmp, cmpI, Value.category, rd, tyF, va_rf, st1, st2, clr, isLg, CB, inx_0, inx_1, inx_2, inx_3, inx_4, inx_5, bI_0, bI_1, bI_ok, fin3, tyX8, entL, q0, h6, dX8_isName_0, dX8_isName_1, fT_8_38, dX8_isName_4, dX8_isName_5, dX8_isName_8, dX8_isName_9, fT_8_31, dX8_isName_12, dX8_isName_15, dX8_isName_16, dX8_isName_19, wT_8_57, dX8_isName_22, dX8_isName_25, dX8_isName_26, dX8_isName_29, dX8_isName_30]
    rw [h3]
    simp (disch := omega) only [li, nI_add, nI_clamp, nI_ltI, nI_leI, nI_eq, inx_iff, a31, nI_1shl', nI_shr', div_bit, tb1, tb0, fa_or, fa_and, nI_not, pk_sub, nI_dec]
    exact ⟨fun _ => hP _ _ ⟨rfl, rfl⟩, fun z => absurd (c2.mp z) hk⟩
set_option maxHeartbeats 4000000 in
set_option maxRecDepth 100000 in
theorem c8_open (l : Launch) (X : Cx) (d : Nat) (sh : Nat → Option Sh) (mI : Nat → Nat → Int32) (mL : Nat → Nat → Int64) (mR : Nat → Nat → Option Nat) (n : Nat) (K TP : Nat) (q0 : sh K = some (.inl 8)) (hKl : K < 100000000) (s0 : sh TP = some (.inr (.byte, 1000))) (hTl : TP < 100000000) (hne : TP ≠ K) (t : Nat → Nat) (N : Nat) (hN : N ≤ 1000) (hT : ∀ k, k < N → mI TP k = nI (t k) ∧ t k < 128) (hd : 3 ≤ d) : Cn l X yX8_open cX8_open 3 none d [.ref K, .ref TP, .int (nI N)] (sh, mI, mL, mR, n) (fun r M' => r = none ∧ ∃ mI' mL' mR', M' = (sh, mI', mL', mR', n) ∧ (∀ a k, a ≠ K → mI' a k = mI a k) ∧ (∀ a k, ¬ (a = K ∧ k = 6) → mL' a k = mL a k) ∧ (∀ a k, a ≠ K → mR' a k = mR a k) ∧ TkL sh mR' K TP ∧ TkT mI' K TP t N ∧ TsM mI' mL' mR' K t N 0) 0 0 := by
  refine Cn.run 8 false (by decide) rfl (by decide) (by simp [entA, Value.category]) ?_
  intro P G hP hG
  have xK : K < 1000000000 := by omega
  have t21 : ¬ TP = 1000000021 := by omega
  have i1000 : Int32.ofNat 1000 = nI 1000 := rfl
  have mn : (if nI 1000 < nI N then nI 1000 else nI N) = nI N := by rw [if_neg (fun z => by have := (nI_ltI (by omega) (by omega)).mp z; omega)]
  refine hG.run [] 60 ?_
  simp [wp, stepI, ln, jmp, cmpI, Value.category, rd, tyF, va_rf, st1, st2, clr, isLg, CB, inx_0, inx_1, inx_2, inx_3, inx_4, inx_5, bI_0, bI_1, bI_ok, fin3, tyX8, entL, q0, okv, wr, finF, clT, TX8, xK, s0, t21, okT, dX8_open_0, dX8_open_1, dX8_open_2, fT_8_9, dX8_open_5, dX8_open_6, dX8_open_7, dX8_open_8, dX8_open_9, dX8_open_12, fT_8_21, dX8_open_15, dX8_open_16, dX8_open_17, fT_8_25, dX8_open_20, dX8_open_21, dX8_open_24]
  simp only [li]
  refine hG.mmin dX8_open_9 ms_8_15.link [.ref K] (by omega) (by simp [Value.category]) ?_
  rw [mn]
  refine hG.run [] 60 ?_
  simp [wp, stepI, ln, jmp, cmpI, Value.category, rd, tyF, va_rf, st1, st2, clr, isLg, CB, inx_0, inx_1, inx_2, inx_3, inx_4, inx_5, bI_0, bI_1, bI_ok, fin3, tyX8, entL, q0, okv, wr, finF, clT, TX8, xK, dX8_open_0, dX8_open_1, dX8_open_2, fT_8_9, dX8_open_5, dX8_open_6, dX8_open_7, dX8_open_8, dX8_open_9, dX8_open_12, fT_8_21, dX8_open_15, dX8_open_16, dX8_open_17, fT_8_25, dX8_open_20, dX8_open_21, dX8_open_24]
  simp only [li]
  obtain ⟨mI1, hmI1⟩ : ∃ m, m = up2 (up2 mI K 1 (nI N)) K 2 (nI 0) := ⟨_, rfl⟩
  obtain ⟨mR1, hmR1⟩ : ∃ m, m = up2 mR K 0 (some TP) := ⟨_, rfl⟩
  rw [← hmI1, ← hmR1]
  have fI : ∀ a k, a ≠ K → mI1 a k = mI a k := fun a k h => by rw [hmI1, up2_ne (fun y => h y.1), up2_ne (fun y => h y.1)]
  have fR : ∀ a k, a ≠ K → mR1 a k = mR a k := fun a k h => by rw [hmR1, up2_ne (fun y => h y.1)]
  have L1 : TkL sh mR1 K TP := ⟨q0, hKl, by rw [hmR1, up2_eq], s0, hTl, hne⟩
  have T1 : TkT mI1 K TP t N := ⟨by rw [hmI1, up2_ne (fun y => by cases y.2), up2_eq], hN, fun k hk => ⟨(fI _ _ hne).trans (hT k hk).1, (hT k hk).2⟩⟩
  refine hG.callV dX8_open_21 mv_8_28 [] [] (c8_step l X (d - 1) sh mI1 mL mR1 n K TP L1 t N T1 0 (Nat.zero_le _) (by rw [hmI1, up2_eq]) (by omega)) ⟨_, rfl, rfl⟩ q0 (by omega) rfl (by decide) (by simp [Value.category]) rfl ?_
  rintro r M' ⟨rfl, mI2, mL2, mR2, rfl, k1, k2, k3, k4⟩
  refine hG.run [] 60 ?_
  simp [wp, stepI, ln, jmp, cmpI, Value.category, rd, tyF, va_rf, st1, st2, clr, isLg, CB, inx_0, inx_1, inx_2, inx_3, inx_4, inx_5, bI_0, bI_1, bI_ok, fin3, tyX8, entL, q0, dX8_open_0, dX8_open_1, dX8_open_2, fT_8_9, dX8_open_5, dX8_open_6, dX8_open_7, dX8_open_8, dX8_open_9, dX8_open_12, fT_8_21, dX8_open_15, dX8_open_16, dX8_open_17, fT_8_25, dX8_open_20, dX8_open_21, dX8_open_24]
  refine hP _ _ ⟨rfl, mI2, mL2, mR2, rfl, fun a k h => (k1 a k (fun y => h y.1)).trans (fI a k h), k2, fun a k h => (k3 a k (fun y => h y.1)).trans (fR a k h), ⟨q0, hKl, (k3 _ _ (by omega)).trans L1.2.2.1, s0, hTl, hne⟩, ⟨(k1 _ _ (by omega)).trans T1.1, hN, fun k hk => ⟨(k1 _ _ (fun y => hne y.1)).trans (T1.2.2 k hk).1, (hT k hk).2⟩⟩, k4⟩
