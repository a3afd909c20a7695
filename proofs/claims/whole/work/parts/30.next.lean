theorem anot_0 {a b : Nat} : anot a b = 0 ↔ ∀ i, a.testBit i = true → b.testBit i = true := by
  constructor
  · intro h i hi
    have := anot_bit a b i
    rw [h, Nat.zero_testBit, hi] at this
    cases hb : b.testBit i with
    | true => rfl
    | false => rw [hb] at this; cases this
  · intro h
    refine Nat.eq_of_testBit_eq fun i => ?_
    rw [anot_bit, Nat.zero_testBit]
    cases ha : a.testBit i with
    | false => rfl
    | true => rw [h i ha]; rfl
theorem fitC_mono {np who : Nat} {ah ah' : Nat → Nat} (h : ∀ p i, (ah p).testBit i = true → (ah' p).testBit i = true) : ∀ t, fitC np who ah' t ≤ fitC np who ah t := by
  intro t
  induction t using Nat.strongRecOn with
  | _ t ih =>
    rw [fitC, fitC]
    split
    · exact Nat.le_refl _
    · split
      · refine fb_sm_le fun p _ => ?_
        by_cases hc : t.testBit p = true ∧ anot (ah' p &&& who) (anot t (2 ^ p)) = 0
        · have hc2 : anot (ah p &&& who) (anot t (2 ^ p)) = 0 := anot_0.mpr fun i hi => by
            rw [Nat.testBit_and] at hi
            simp only [Bool.and_eq_true] at hi
            refine anot_0.mp hc.2 i ?_
            rw [Nat.testBit_and, h p i hi.1, hi.2]
            rfl
          rw [dif_pos hc, dif_pos ⟨hc.1, hc2⟩]
          exact ih _ (anot_lt hc.1)
        · rw [dif_neg hc]; exact Nat.zero_le _
      · exact Nat.le_refl _
/-- how many orders are left if a is said to be better than b -/
def cntW (np c : Nat) (fi se : Nat → Nat) (a b : Nat) : Nat := fitC np (2 ^ np - 1) (upN (ahA fi se c) b (ahA fi se c b ||| 2 ^ a)) (2 ^ np - 1)
theorem cntW_le {np c : Nat} {fi se : Nat → Nat} {a b : Nat} : cntW np c fi se a b ≤ ordN np c fi se := fitC_mono (fun p i hi => by
  unfold upN
  split
  · rename_i hp
    rw [Nat.testBit_or, ← hp, hi]; rfl
  · exact hi) _
def lftW (np c : Nat) (fi se : Nat → Nat) (a b : Nat) : Nat := Nat.max (cntW np c fi se a b) (ordN np c fi se - cntW np c fi se a b)
def nxt1 (np c : Nat) (fi se : Nat → Nat) (a b : Nat) (s : Option (Nat × Nat × Nat)) : Option (Nat × Nat × Nat) :=
  if (abv np c fi se a).testBit b || (abv np c fi se b).testBit a then s else match s with
  | none => some (lftW np c fi se a b, a, b)
  | some q => if q.1 ≤ lftW np c fi se a b then some q else some (lftW np c fi se a b, a, b)
def nxtJ (np c : Nat) (fi se : Nat → Nat) (a : Nat) (s : Option (Nat × Nat × Nat)) : Nat → Option (Nat × Nat × Nat)
  | 0 => s
  | b + 1 => if a < b then nxt1 np c fi se a b (nxtJ np c fi se a s b) else nxtJ np c fi se a s b
def nxtO (np c : Nat) (fi se : Nat → Nat) : Nat → Option (Nat × Nat × Nat)
  | 0 => none
  | a + 1 => nxtJ np c fi se a (nxtO np c fi se a) np
theorem nxtJ_s (np c : Nat) (fi se : Nat → Nat) (a : Nat) (s : Option (Nat × Nat × Nat)) (b : Nat) : nxtJ np c fi se a s (b + 1) = if a < b then nxt1 np c fi se a b (nxtJ np c fi se a s b) else nxtJ np c fi se a s b := rfl
theorem nxtJ_0 {np c : Nat} {fi se : Nat → Nat} {a : Nat} {s : Option (Nat × Nat × Nat)} : ∀ {b : Nat}, b ≤ a + 1 → nxtJ np c fi se a s b = s
  | 0, _ => rfl
  | b + 1, h => by rw [nxtJ_s, if_neg (by omega), nxtJ_0 (by omega)]
/-- the fields hold what was found -/
def NxM (mI : Nat → Nat → Int32) (s : Option (Nat × Nat × Nat)) : Prop := match s with
  | none => mI 129 52 = -nI 1
  | some q => mI 129 52 = nI q.1 ∧ q.1 ≤ 3628800 ∧ mI 129 50 = nI q.2.1 ∧ mI 129 51 = nI q.2.2
theorem NxM.eqx {S : List Nat} {mI mI' : Nat → Nat → Int32} {s : Option (Nat × Nat × Nat)} (h : NxM mI s) (he : Eqx S mI mI') (hs : 129 ∉ S) : NxM mI' s := by
  cases s with
  | none => exact (he _ _ hs).trans h
  | some q => exact ⟨(he _ _ hs).trans h.1, h.2.1, (he _ _ hs).trans h.2.2.1, (he _ _ hs).trans h.2.2.2⟩
set_option maxHeartbeats 4000000 in
set_option maxRecDepth 100000 in
theorem c12_looks (l : Launch) (X : Cx) (d : Nat) (sh : Nat → Option Sh) (mI : Nat → Nat → Int32) (mL : Nat → Nat → Int64) (mR : Nat → Nat → Option Nat) (n : Nat) (hL : ML sh mR) (np : Nat) (hp : PupM mI np) (c : Nat) (fi se ma : Nat → Nat) (hS : SayM mI c fi se ma) (hd : 3 ≤ d) : Cn l X yX12_looks cX12_looks 6 (some .boolean) d [.ref 129] (sh, mI, mL, mR, n) (fun r M' => r = some (.int (bI (decide (2 ≤ ordN np c fi se)))) ∧ ∃ mI', M' = (sh, mI', mL, mR, n) ∧ Eqf [159, 160, 161] [50, 51, 52] mI mI' ∧ (2 ≤ ordN np c fi se → NxM mI' (nxtO np c fi se np))) 0 0 := by
  refine Cn.run 12 false (by decide) rfl (by decide) (by simp [entA, Value.category]) ?_
  intro P G hP hG
  have q0 := hL.1
  have q_pupils := hL.2 (10, 131, .int, 6) (by decide)
  dsimp only at q_pupils
  have q_above := hL.2 (46, 161, .int, 10) (by decide)
  dsimp only at q_above
  have q_aheadOf := hL.2 (44, 159, .int, 10) (by decide)
  dsimp only at q_aheadOf
  have hpp := hp.2
  have hpw := p2_10 hpp
  have hos : ordN np c fi se ≤ 3628800 := ordN_small hpp
  have hfi : ∀ k, k < c → fi k < 10 := fun k hk => (hS.2.2 k hk).2.2.2.1
  have hal : ∀ p, ahA fi se c p < 1024 := fun p => ahd_lt hfi
  have hab : ∀ p, abv np c fi se p < 1024 := fun p => abv_lt hfi p
  refine hG.run [] 20 ?_
  simp [wp, stepI, ln, jmp, cmpI, Value.category, rd, tyF, va_rf, st1, st2, clr, isLg, CB, inx_0, inx_1, inx_2, inx_3, inx_4, inx_5, bI_0, bI_1, bI_ok, fin3, tyX12, entL, q0, dX12_looks_0, dX12_looks_1, dX12_looks_4, dX12_looks_5, dX12_looks_6, dX12_looks_7, dX12_looks_10, dX12_looks_11, dX12_looks_12, dX12_looks_13, dX12_looks_16, dX12_looks_17, dX12_looks_18, dX12_looks_19, fT_12_385, dX12_looks_22, dX12_looks_23, dX12_looks_24, dX12_looks_25, dX12_looks_26, fT_12_13, dX12_looks_29, dX12_looks_30, dX12_looks_31, dX12_looks_34, dX12_looks_35, dX12_looks_36, dX12_looks_37, dX12_looks_38, dX12_looks_39, dX12_looks_40, dX12_looks_43, dX12_looks_44, dX12_looks_45, dX12_looks_48, dX12_looks_49, fT_12_105, dX12_looks_52, dX12_looks_53, dX12_looks_54, dX12_looks_55, dX12_looks_56, dX12_looks_57, dX12_looks_58, dX12_looks_59, dX12_looks_62, dX12_looks_63, dX12_looks_66, dX12_looks_67, dX12_looks_68, dX12_looks_69, dX12_looks_70, dX12_looks_71, dX12_looks_72, dX12_looks_73, dX12_looks_76, dX12_looks_79, dX12_looks_80, fT_12_99, dX12_looks_83, dX12_looks_84, dX12_looks_85, dX12_looks_87, dX12_looks_88, dX12_looks_91, dX12_looks_92, dX12_looks_93, dX12_looks_94, dX12_looks_95, dX12_looks_96, dX12_looks_97, dX12_looks_98, dX12_looks_99, dX12_looks_100, dX12_looks_101, dX12_looks_104, dX12_looks_107, dX12_looks_109, dX12_looks_110, dX12_looks_113, dX12_looks_114, dX12_looks_116, dX12_looks_117, dX12_looks_119, dX12_looks_120, dX12_looks_122, dX12_looks_123, dX12_looks_126, dX12_looks_128, dX12_looks_129, dX12_looks_132, dX12_looks_135, dX12_looks_137, dX12_looks_138, dX12_looks_141, dX12_looks_144, dX12_looks_147, dX12_looks_148, dX12_looks_150, dX12_looks_153, dX12_looks_154, dX12_looks_155, fT_12_391, dX12_looks_158, dX12_looks_159, dX12_looks_160, fT_12_394, dX12_looks_163, dX12_looks_166, dX12_looks_169, dX12_looks_172, dX12_looks_175, dX12_looks_176]
  refine hG.callV dX12_looks_1 mv_12_344 [] [] (c12_fittingAll l X (d - 1) sh mI mL mR n hL np hp c fi se ma hS (by omega)) ⟨_, rfl, rfl⟩ q0 (by omega) rfl (by decide) (by simp [Value.category]) rfl ?_
  rintro r M' ⟨rfl, mI1, rfl, h1, -, -⟩
  have f1 : Eqf [159, 160, 161] [50, 51, 52] mI mI1 := h1.f (by decide)
  refine hG.run [] 20 ?_
  simp [wp, stepI, ln, jmp, cmpI, Value.category, rd, tyF, va_rf, st1, st2, clr, isLg, CB, inx_0, inx_1, inx_2, inx_3, inx_4, inx_5, bI_0, bI_1, bI_ok, fin3, tyX12, entL, q0, dX12_looks_0, dX12_looks_1, dX12_looks_4, dX12_looks_5, dX12_looks_6, dX12_looks_7, dX12_looks_10, dX12_looks_11, dX12_looks_12, dX12_looks_13, dX12_looks_16, dX12_looks_17, dX12_looks_18, dX12_looks_19, fT_12_385, dX12_looks_22, dX12_looks_23, dX12_looks_24, dX12_looks_25, dX12_looks_26, fT_12_13, dX12_looks_29, dX12_looks_30, dX12_looks_31, dX12_looks_34, dX12_looks_35, dX12_looks_36, dX12_looks_37, dX12_looks_38, dX12_looks_39, dX12_looks_40, dX12_looks_43, dX12_looks_44, dX12_looks_45, dX12_looks_48, dX12_looks_49, fT_12_105, dX12_looks_52, dX12_looks_53, dX12_looks_54, dX12_looks_55, dX12_looks_56, dX12_looks_57, dX12_looks_58, dX12_looks_59, dX12_looks_62, dX12_looks_63, dX12_looks_66, dX12_looks_67, dX12_looks_68, dX12_looks_69, dX12_looks_70, dX12_looks_71, dX12_looks_72, dX12_looks_73, dX12_looks_76, dX12_looks_79, dX12_looks_80, fT_12_99, dX12_looks_83, dX12_looks_84, dX12_looks_85, dX12_looks_87, dX12_looks_88, dX12_looks_91, dX12_looks_92, dX12_looks_93, dX12_looks_94, dX12_looks_95, dX12_looks_96, dX12_looks_97, dX12_looks_98, dX12_looks_99, dX12_looks_100, dX12_looks_101, dX12_looks_104, dX12_looks_107, dX12_looks_109, dX12_looks_110, dX12_looks_113, dX12_looks_114, dX12_looks_116, dX12_looks_117, dX12_looks_119, dX12_looks_120, dX12_looks_122, dX12_looks_123, dX12_looks_126, dX12_looks_128, dX12_looks_129, dX12_looks_132, dX12_looks_135, dX12_looks_137, dX12_looks_138, dX12_looks_141, dX12_looks_144, dX12_looks_147, dX12_looks_148, dX12_looks_150, dX12_looks_153, dX12_looks_154, dX12_looks_155, fT_12_391, dX12_looks_158, dX12_looks_159, dX12_looks_160, fT_12_394, dX12_looks_163, dX12_looks_166, dX12_looks_169, dX12_looks_172, dX12_looks_175, dX12_looks_176]
  simp (disch := omega) only [li, nI_add, nI_clamp, nI_ltI, nI_leI, nI_eq, inx_iff, a31, nI_1shl', nI_shr', div_bit, tb1, tb0, fa_or, fa_and, nI_not, pk_sub, nI_dec]
  refine ⟨fun h => ?_, fun h => hP _ _ ⟨by rw [decide_eq_false (by omega)]; rfl, _, rfl, f1, fun z => by omega⟩⟩
  refine hG.callV dX12_looks_13 mv_12_347 [] [] (c12_isSure l X (d - 1) sh mI1 mL mR n hL np (hp.eqx h1 (by decide)) c fi se ma (hS.eqx h1 (by decide)) (by omega)) ⟨_, rfl, rfl⟩ q0 (by omega) rfl (by decide) (by simp [Value.category]) rfl ?_
  rintro r M' ⟨rfl, mI2, rfl, h2, h3, h4, -⟩
  have f2 := f1.tr (h2.f (T := [159, 160, 161]) (F := [50, 51, 52]) (by decide))
  have loop1 : ∀ f i v3 v4 v5 mI3, np - i < f → i ≤ np → Eqf [159, 160, 161] [50, 51, 52] mI mI3 → (∀ p, p < 10 → mI3 159 p = nI (ahA fi se c p)) → (∀ p, p < 10 → mI3 161 p = nI (abv np c fi se p)) → NxM mI3 (nxtO np c fi se i) → G 24 [some (.ref 129), some (.int (nI (ordN np c fi se))), some (.int (nI i)), v3, v4, v5] [] (sh, mI3, mL, mR, n) := by
    intro f
    induction f with
    | zero => intro i v3 v4 v5 mI3 h; omega
    | succ f ih =>
      intro i v3 v4 v5 mI3 hf hi g1 g2 g3 g4
      have loop2 : ∀ f2 j v4 v5 mI4, i < np → np - j < f2 → j ≤ np → i < j → Eqf [159, 160, 161] [50, 51, 52] mI mI4 → (∀ p, p < 10 → mI4 159 p = nI (ahA fi se c p)) → (∀ p, p < 10 → mI4 161 p = nI (abv np c fi se p)) → NxM mI4 (nxtJ np c fi se i (nxtO np c fi se i) j) → G 38 [some (.ref 129), some (.int (nI (ordN np c fi se))), some (.int (nI i)), some (.int (nI j)), v4, v5] [] (sh, mI4, mL, mR, n) := by
        intro f2
        induction f2 with
        | zero => intro j v4 v5 mI4 _ h; omega
        | succ f2 ih2 =>
          intro j v4 v5 mI4 hin hf2 hj hij k1 k2 k3 k4
          have e0 := (hp.eqf k1 (by decide)).1
          have b1 := hab i
          have b2 := hab j
          refine hG.run [24, 38, 79] 60 ?_
          simp [wp, stepI, ln, jmp, cmpI, Value.category, rd, tyF, va_rf, st1, st2, clr, isLg, CB, inx_0, inx_1, inx_2, inx_3, inx_4, inx_5, bI_0, bI_1, bI_ok, fin3, tyX12, entL, q0, q_pupils, q_above, q_aheadOf, dX12_looks_0, dX12_looks_1, dX12_looks_4, dX12_looks_5, dX12_looks_6, dX12_looks_7, dX12_looks_10, dX12_looks_11, dX12_looks_12, dX12_looks_13, dX12_looks_16, dX12_looks_17, dX12_looks_18, dX12_looks_19, fT_12_385, dX12_looks_22, dX12_looks_23, dX12_looks_24, dX12_looks_25, dX12_looks_26, fT_12_13, dX12_looks_29, dX12_looks_30, dX12_looks_31, dX12_looks_34, dX12_looks_35, dX12_looks_36, dX12_looks_37, dX12_looks_38, dX12_looks_39, dX12_looks_40, dX12_looks_43, dX12_looks_44, dX12_looks_45, dX12_looks_48, dX12_looks_49, fT_12_105, dX12_looks_52, dX12_looks_53, dX12_looks_54, dX12_looks_55, dX12_looks_56, dX12_looks_57, dX12_looks_58, dX12_looks_59, dX12_looks_62, dX12_looks_63, dX12_looks_66, dX12_looks_67, dX12_looks_68, dX12_looks_69, dX12_looks_70, dX12_looks_71, dX12_looks_72, dX12_looks_73, dX12_looks_76, dX12_looks_79, dX12_looks_80, fT_12_99, dX12_looks_83, dX12_looks_84, dX12_looks_85, dX12_looks_87, dX12_looks_88, dX12_looks_91, dX12_looks_92, dX12_looks_93, dX12_looks_94, dX12_looks_95, dX12_looks_96, dX12_looks_97, dX12_looks_98, dX12_looks_99, dX12_looks_100, dX12_looks_101, dX12_looks_104, dX12_looks_107, dX12_looks_109, dX12_looks_110, dX12_looks_113, dX12_looks_114, dX12_looks_116, dX12_looks_117, dX12_looks_119, dX12_looks_120, dX12_looks_122, dX12_looks_123, dX12_looks_126, dX12_looks_128, dX12_looks_129, dX12_looks_132, dX12_looks_135, dX12_looks_137, dX12_looks_138, dX12_looks_141, dX12_looks_144, dX12_looks_147, dX12_looks_148, dX12_looks_150, dX12_looks_153, dX12_looks_154, dX12_looks_155, fT_12_391, dX12_looks_158, dX12_looks_159, dX12_looks_160, fT_12_394, dX12_looks_163, dX12_looks_166, dX12_looks_169, dX12_looks_172, dX12_looks_175, dX12_looks_176]
          simp (disch := omega) only [li, nI_add, nI_clamp, nI_ltI, nI_leI, nI_eq, inx_iff, a31, nI_1shl', nI_shr', div_bit, tb1, tb0, fa_or, fa_and, nI_not, pk_sub, nI_dec, e0]
          refine ⟨fun hh => ih (i + 1) _ _ _ mI4 (by omega) (by omega) k1 k2 k3 (by rw [show j = np by omega] at k4; exact k4), fun hh => ?_⟩
          simp (disch := omega) only [li, nI_add, nI_clamp, nI_ltI, nI_leI, nI_eq, inx_iff, a31, nI_1shl', nI_shr', div_bit, tb1, tb0, fa_or, fa_and, nI_not, pk_sub, nI_dec, k3]
          have skip : ((abv np c fi se i).testBit j || (abv np c fi se j).testBit i) = true → ∀ v4 v5, G 38 [some (.ref 129), some (.int (nI (ordN np c fi se))), some (.int (nI i)), some (.int (nI (j + 1))), v4, v5] [] (sh, mI4, mL, mR, n) := fun z v4 v5 => ih2 (j + 1) v4 v5 mI4 hin (by omega) (by omega) (by omega) k1 k2 k3 (by
            rw [nxtJ_s, if_pos hij]; unfold nxt1; rw [if_pos z]; exact k4)
          refine ⟨by omega, fun z => skip (by rw [z]; rfl) _ _, fun z => ⟨by omega, fun z2 => ?_, fun z2 => skip (by rw [z2, Bool.or_true]) _ _⟩⟩
          refine hG.run [] 60 ?_
          simp [wp, stepI, ln, jmp, cmpI, Value.category, rd, tyF, va_rf, st1, st2, clr, isLg, CB, inx_0, inx_1, inx_2, inx_3, inx_4, inx_5, bI_0, bI_1, bI_ok, fin3, tyX12, entL, q0, q_pupils, q_above, q_aheadOf, dX12_looks_0, dX12_looks_1, dX12_looks_4, dX12_looks_5, dX12_looks_6, dX12_looks_7, dX12_looks_10, dX12_looks_11, dX12_looks_12, dX12_looks_13, dX12_looks_16, dX12_looks_17, dX12_looks_18, dX12_looks_19, fT_12_385, dX12_looks_22, dX12_looks_23, dX12_looks_24, dX12_looks_25, dX12_looks_26, fT_12_13, dX12_looks_29, dX12_looks_30, dX12_looks_31, dX12_looks_34, dX12_looks_35, dX12_looks_36, dX12_looks_37, dX12_looks_38, dX12_looks_39, dX12_looks_40, dX12_looks_43, dX12_looks_44, dX12_looks_45, dX12_looks_48, dX12_looks_49, fT_12_105, dX12_looks_52, dX12_looks_53, dX12_looks_54, dX12_looks_55, dX12_looks_56, dX12_looks_57, dX12_looks_58, dX12_looks_59, dX12_looks_62, dX12_looks_63, dX12_looks_66, dX12_looks_67, dX12_looks_68, dX12_looks_69, dX12_looks_70, dX12_looks_71, dX12_looks_72, dX12_looks_73, dX12_looks_76, dX12_looks_79, dX12_looks_80, fT_12_99, dX12_looks_83, dX12_looks_84, dX12_looks_85, dX12_looks_87, dX12_looks_88, dX12_looks_91, dX12_looks_92, dX12_looks_93, dX12_looks_94, dX12_looks_95, dX12_looks_96, dX12_looks_97, dX12_looks_98, dX12_looks_99, dX12_looks_100, dX12_looks_101, dX12_looks_104, dX12_looks_107, dX12_looks_109, dX12_looks_110, dX12_looks_113, dX12_looks_114, dX12_looks_116, dX12_looks_117, dX12_looks_119, dX12_looks_120, dX12_looks_122, dX12_looks_123, dX12_looks_126, dX12_looks_128, dX12_looks_129, dX12_looks_132, dX12_looks_135, dX12_looks_137, dX12_looks_138, dX12_looks_141, dX12_looks_144, dX12_looks_147, dX12_looks_148, dX12_looks_150, dX12_looks_153, dX12_looks_154, dX12_looks_155, fT_12_391, dX12_looks_158, dX12_looks_159, dX12_looks_160, fT_12_394, dX12_looks_163, dX12_looks_166, dX12_looks_169, dX12_looks_172, dX12_looks_175, dX12_looks_176]
          simp (disch := omega) only [li, nI_add, nI_clamp, nI_ltI, nI_leI, nI_eq, inx_iff, a31, nI_1shl', nI_shr', div_bit, tb1, tb0, fa_or, fa_and, nI_not, pk_sub, nI_dec, k2]
          refine ⟨by omega, ?_⟩
          have hpA : PupM (up2 mI4 159 j (nI (ahA fi se c j ||| 2 ^ i))) np := ⟨(up2_ne (fun z => by cases z.1)).trans (hp.eqf k1 (by decide)).1, hpp⟩
          refine hG.callV dX12_looks_101 mv_12_338 [] [.ref 129] (c12_everybody l X (d - 1) sh _ mL mR n hL np hpA) ⟨_, rfl, rfl⟩ q0 (by omega) rfl (by decide) (by simp [Value.category]) rfl ?_
          rintro r M' ⟨rfl, rfl⟩
          have hal2 : ahA fi se c j ||| 2 ^ i < 1024 := or_lt (np := 10) (hal j) (by omega)
          refine hG.callV dX12_looks_104 mv_12_341 [.int (nI (2 ^ np - 1))] [] (c12_fitting l X (d - 1) sh _ mL mR n hL np hpA (upN (ahA fi se c) j (ahA fi se c j ||| 2 ^ i)) _ (fun p hp' => by
            unfold upN
            by_cases z9 : p = j
            · rw [if_pos z9, z9, up2_eq]; exact ⟨rfl, hal2⟩
            · rw [if_neg z9, up2_ne (fun w => z9 w.2), k2 p hp']; exact ⟨rfl, hal p⟩) (2 ^ np - 1) (by omega) (fitC_ok _ _ _)) ⟨_, rfl, rfl⟩ q0 (by omega) rfl (by decide) (by simp [Value.category]) rfl ?_
          rintro r M' ⟨rfl, mI5, rfl, h5, -⟩
          rw [show fitC np (2 ^ np - 1) (upN (ahA fi se c) j (ahA fi se c j ||| 2 ^ i)) (2 ^ np - 1) = cntW np c fi se i j from rfl]
          have hcw : cntW np c fi se i j ≤ ordN np c fi se := cntW_le
          refine hG.run [] 60 ?_
          simp [wp, stepI, ln, jmp, cmpI, Value.category, rd, tyF, va_rf, st1, st2, clr, isLg, CB, inx_0, inx_1, inx_2, inx_3, inx_4, inx_5, bI_0, bI_1, bI_ok, fin3, tyX12, entL, q0, q_pupils, q_above, q_aheadOf, dX12_looks_0, dX12_looks_1, dX12_looks_4, dX12_looks_5, dX12_looks_6, dX12_looks_7, dX12_looks_10, dX12_looks_11, dX12_looks_12, dX12_looks_13, dX12_looks_16, dX12_looks_17, dX12_looks_18, dX12_looks_19, fT_12_385, dX12_looks_22, dX12_looks_23, dX12_looks_24, dX12_looks_25, dX12_looks_26, fT_12_13, dX12_looks_29, dX12_looks_30, dX12_looks_31, dX12_looks_34, dX12_looks_35, dX12_looks_36, dX12_looks_37, dX12_looks_38, dX12_looks_39, dX12_looks_40, dX12_looks_43, dX12_looks_44, dX12_looks_45, dX12_looks_48, dX12_looks_49, fT_12_105, dX12_looks_52, dX12_looks_53, dX12_looks_54, dX12_looks_55, dX12_looks_56, dX12_looks_57, dX12_looks_58, dX12_looks_59, dX12_looks_62, dX12_looks_63, dX12_looks_66, dX12_looks_67, dX12_looks_68, dX12_looks_69, dX12_looks_70, dX12_looks_71, dX12_looks_72, dX12_looks_73, dX12_looks_76, dX12_looks_79, dX12_looks_80, fT_12_99, dX12_looks_83, dX12_looks_84, dX12_looks_85, dX12_looks_87, dX12_looks_88, dX12_looks_91, dX12_looks_92, dX12_looks_93, dX12_looks_94, dX12_looks_95, dX12_looks_96, dX12_looks_97, dX12_looks_98, dX12_looks_99, dX12_looks_100, dX12_looks_101, dX12_looks_104, dX12_looks_107, dX12_looks_109, dX12_looks_110, dX12_looks_113, dX12_looks_114, dX12_looks_116, dX12_looks_117, dX12_looks_119, dX12_looks_120, dX12_looks_122, dX12_looks_123, dX12_looks_126, dX12_looks_128, dX12_looks_129, dX12_looks_132, dX12_looks_135, dX12_looks_137, dX12_looks_138, dX12_looks_141, dX12_looks_144, dX12_looks_147, dX12_looks_148, dX12_looks_150, dX12_looks_153, dX12_looks_154, dX12_looks_155, fT_12_391, dX12_looks_158, dX12_looks_159, dX12_looks_160, fT_12_394, dX12_looks_163, dX12_looks_166, dX12_looks_169, dX12_looks_172, dX12_looks_175, dX12_looks_176]
          simp (disch := omega) only [li, nI_add, nI_clamp, nI_ltI, nI_leI, nI_eq, inx_iff, a31, nI_1shl', nI_shr', div_bit, tb1, tb0, fa_or, fa_and, nI_not, pk_sub, nI_dec, k2]
          refine ⟨by omega, hG.mmax dX12_looks_123 ms_12_388.link [] (by omega) (by simp [Value.category]) ?_⟩
          rw [nI_max (by omega) (by omega), show Nat.max (cntW np c fi se i j) (ordN np c fi se - cntW np c fi se i j) = lftW np c fi se i j from rfl]
          have hlw : lftW np c fi se i j ≤ ordN np c fi se := Nat.max_le.mpr ⟨hcw, Nat.sub_le _ _⟩
          have k6 : Eqf [159, 160, 161] [50, 51, 52] mI4 (up2 mI5 159 j (nI (ahA fi se c j))) := fun a k ha hk => by
            have y1 : ¬ (a = 159 ∧ k = j) := fun z => ha (by rw [z.1]; decide)
            rw [up2_ne y1, h5 a k (fun z => ha (by simp at z; rw [z]; decide)), up2_ne y1]
          have k7 : ∀ p, p < 10 → up2 mI5 159 j (nI (ahA fi se c j)) 159 p = nI (ahA fi se c p) := fun p hp' => by
            by_cases z9 : p = j
            · rw [z9, up2_eq]
            · rw [up2_ne (fun w => z9 w.2), h5 _ _ (by decide), up2_ne (fun w => z9 w.2), k2 p hp']
          have k8 : ∀ p, p < 10 → up2 mI5 159 j (nI (ahA fi se c j)) 161 p = nI (abv np c fi se p) := fun p hp' => by
            rw [up2_ne (fun w => by cases w.1), h5 _ _ (by decide), up2_ne (fun w => by cases w.1), k3 p hp']
          have k9 : ∀ k, up2 mI5 159 j (nI (ahA fi se c j)) 129 k = mI4 129 k := fun k => by
            rw [up2_ne (fun w => by cases w.1), h5 _ _ (by decide), up2_ne (fun w => by cases w.1)]
          generalize up2 mI5 159 j (nI (ahA fi se c j)) = mI6 at k6 k7 k8 k9 ⊢
          have k10 := k1.tr k6
          have nz : ¬ ((abv np c fi se i).testBit j || (abv np c fi se j).testBit i) = true := by simp [z, z2]
          have keep : NxM mI6 (nxtJ np c fi se i (nxtO np c fi se i) (j + 1)) → ∀ v4 v5, G 38 [some (.ref 129), some (.int (nI (ordN np c fi se))), some (.int (nI i)), some (.int (nI (j + 1))), v4, v5] [] (sh, mI6, mL, mR, n) := fun z v4 v5 => ih2 (j + 1) v4 v5 mI6 hin (by omega) (by omega) (by omega) k10 k7 k8 z
          have put : nxtJ np c fi se i (nxtO np c fi se i) (j + 1) = some (lftW np c fi se i j, i, j) → ∀ v4 v5, G 38 [some (.ref 129), some (.int (nI (ordN np c fi se))), some (.int (nI i)), some (.int (nI (j + 1))), v4, v5] [] (sh, up2 (up2 (up2 mI6 129 52 (nI (lftW np c fi se i j))) 129 50 (nI i)) 129 51 (nI j), mL, mR, n) := fun z v4 v5 => ih2 (j + 1) v4 v5 _ hin (by omega) (by omega) (by omega) (((k10.upf (by decide)).upf (by decide)).upf (by decide)) (fun p hp' => by rw [up2_ne (fun w => by cases w.1), up2_ne (fun w => by cases w.1), up2_ne (fun w => by cases w.1), k7 p hp']) (fun p hp' => by rw [up2_ne (fun w => by cases w.1), up2_ne (fun w => by cases w.1), up2_ne (fun w => by cases w.1), k8 p hp']) (by
            rw [z]
            refine ⟨?_, by omega, ?_, ?_⟩
            · rw [up2_ne (fun w => by cases w.2), up2_ne (fun w => by cases w.2), up2_eq]
            · rw [up2_ne (fun w => by cases w.2), up2_eq]
            · rw [up2_eq])
          rw [nxtJ_s, if_pos hij] at keep put
          unfold nxt1 at keep put
          rw [if_neg nz] at keep put
          refine hG.run [38] 60 ?_
          simp [wp, stepI, ln, jmp, cmpI, Value.category, rd, tyF, va_rf, st1, st2, clr, isLg, CB, inx_0, inx_1, inx_2, inx_3, inx_4, inx_5, bI_0, bI_1, bI_ok, fin3, tyX12, entL, q0, q_pupils, q_above, q_aheadOf, okv, wr, finF, clT, TX12, dX12_looks_0, dX12_looks_1, dX12_looks_4, dX12_looks_5, dX12_looks_6, dX12_looks_7, dX12_looks_10, dX12_looks_11, dX12_looks_12, dX12_looks_13, dX12_looks_16, dX12_looks_17, dX12_looks_18, dX12_looks_19, fT_12_385, dX12_looks_22, dX12_looks_23, dX12_looks_24, dX12_looks_25, dX12_looks_26, fT_12_13, dX12_looks_29, dX12_looks_30, dX12_looks_31, dX12_looks_34, dX12_looks_35, dX12_looks_36, dX12_looks_37, dX12_looks_38, dX12_looks_39, dX12_looks_40, dX12_looks_43, dX12_looks_44, dX12_looks_45, dX12_looks_48, dX12_looks_49, fT_12_105, dX12_looks_52, dX12_looks_53, dX12_looks_54, dX12_looks_55, dX12_looks_56, dX12_looks_57, dX12_looks_58, dX12_looks_59, dX12_looks_62, dX12_looks_63, dX12_looks_66, dX12_looks_67, dX12_looks_68, dX12_looks_69, dX12_looks_70, dX12_looks_71, dX12_looks_72, dX12_looks_73, dX12_looks_76, dX12_looks_79, dX12_looks_80, fT_12_99, dX12_looks_83, dX12_looks_84, dX12_looks_85, dX12_looks_87, dX12_looks_88, dX12_looks_91, dX12_looks_92, dX12_looks_93, dX12_looks_94, dX12_looks_95, dX12_looks_96, dX12_looks_97, dX12_looks_98, dX12_looks_99, dX12_looks_100, dX12_looks_101, dX12_looks_104, dX12_looks_107, dX12_looks_109, dX12_looks_110, dX12_looks_113, dX12_looks_114, dX12_looks_116, dX12_looks_117, dX12_looks_119, dX12_looks_120, dX12_looks_122, dX12_looks_123, dX12_looks_126, dX12_looks_128, dX12_looks_129, dX12_looks_132, dX12_looks_135, dX12_looks_137, dX12_looks_138, dX12_looks_141, dX12_looks_144, dX12_looks_147, dX12_looks_148, dX12_looks_150, dX12_looks_153, dX12_looks_154, dX12_looks_155, fT_12_391, dX12_looks_158, dX12_looks_159, dX12_looks_160, fT_12_394, dX12_looks_163, dX12_looks_166, dX12_looks_169, dX12_looks_172, dX12_looks_175, dX12_looks_176]
          simp (disch := omega) only [li, nI_add, nI_clamp, nI_ltI, nI_leI, nI_eq, inx_iff, a31, nI_1shl', nI_shr', div_bit, tb1, tb0, fa_or, fa_and, nI_not, pk_sub, nI_dec, k9]
          cases hs : nxtJ np c fi se i (nxtO np c fi se i) j with
          | none =>
            rw [hs] at k4 keep put
            have k4' : mI4 129 52 = -nI 1 := k4
            simp (disch := omega) only [li, nI_add, nI_clamp, nI_ltI, nI_leI, nI_eq, inx_iff, a31, nI_1shl', nI_shr', div_bit, tb1, tb0, fa_or, fa_and, nI_not, pk_sub, nI_dec, k4']
            exact ⟨fun _ => put rfl _ _, fun z => absurd z (by decide +kernel)⟩
          | some q =>
            rw [hs] at k4 keep put
            have k4' : mI4 129 52 = nI q.1 := k4.1
            have k5' := k4.2.1
            simp (disch := omega) only [li, nI_add, nI_clamp, nI_ltI, nI_leI, nI_eq, inx_iff, a31, nI_1shl', nI_shr', div_bit, tb1, tb0, fa_or, fa_and, nI_not, pk_sub, nI_dec, k4']
            refine ⟨fun z => by omega, fun _ => ⟨fun z => put (by dsimp only; rw [if_neg (by omega)]) _ _, fun z => keep (by dsimp only; rw [if_pos z]; exact ⟨(k9 _).trans k4.1, k4.2.1, (k9 _).trans k4.2.2.1, (k9 _).trans k4.2.2.2⟩) _ _⟩⟩
      refine hG.run [38] 60 ?_
      simp [wp, stepI, ln, jmp, cmpI, Value.category, rd, tyF, va_rf, st1, st2, clr, isLg, CB, inx_0, inx_1, inx_2, inx_3, inx_4, inx_5, bI_0, bI_1, bI_ok, fin3, tyX12, entL, q0, q_pupils, q_above, q_aheadOf, dX12_looks_0, dX12_looks_1, dX12_looks_4, dX12_looks_5, dX12_looks_6, dX12_looks_7, dX12_looks_10, dX12_looks_11, dX12_looks_12, dX12_looks_13, dX12_looks_16, dX12_looks_17, dX12_looks_18, dX12_looks_19, fT_12_385, dX12_looks_22, dX12_looks_23, dX12_looks_24, dX12_looks_25, dX12_looks_26, fT_12_13, dX12_looks_29, dX12_looks_30, dX12_looks_31, dX12_looks_34, dX12_looks_35, dX12_looks_36, dX12_looks_37, dX12_looks_38, dX12_looks_39, dX12_looks_40, dX12_looks_43, dX12_looks_44, dX12_looks_45, dX12_looks_48, dX12_looks_49, fT_12_105, dX12_looks_52, dX12_looks_53, dX12_looks_54, dX12_looks_55, dX12_looks_56, dX12_looks_57, dX12_looks_58, dX12_looks_59, dX12_looks_62, dX12_looks_63, dX12_looks_66, dX12_looks_67, dX12_looks_68, dX12_looks_69, dX12_looks_70, dX12_looks_71, dX12_looks_72, dX12_looks_73, dX12_looks_76, dX12_looks_79, dX12_looks_80, fT_12_99, dX12_looks_83, dX12_looks_84, dX12_looks_85, dX12_looks_87, dX12_looks_88, dX12_looks_91, dX12_looks_92, dX12_looks_93, dX12_looks_94, dX12_looks_95, dX12_looks_96, dX12_looks_97, dX12_looks_98, dX12_looks_99, dX12_looks_100, dX12_looks_101, dX12_looks_104, dX12_looks_107, dX12_looks_109, dX12_looks_110, dX12_looks_113, dX12_looks_114, dX12_looks_116, dX12_looks_117, dX12_looks_119, dX12_looks_120, dX12_looks_122, dX12_looks_123, dX12_looks_126, dX12_looks_128, dX12_looks_129, dX12_looks_132, dX12_looks_135, dX12_looks_137, dX12_looks_138, dX12_looks_141, dX12_looks_144, dX12_looks_147, dX12_looks_148, dX12_looks_150, dX12_looks_153, dX12_looks_154, dX12_looks_155, fT_12_391, dX12_looks_158, dX12_looks_159, dX12_looks_160, fT_12_394, dX12_looks_163, dX12_looks_166, dX12_looks_169, dX12_looks_172, dX12_looks_175, dX12_looks_176]
      have e0 := (hp.eqf g1 (by decide)).1
      simp (disch := omega) only [li, nI_add, nI_clamp, nI_ltI, nI_leI, nI_eq, inx_iff, a31, nI_1shl', nI_shr', div_bit, tb1, tb0, fa_or, fa_and, nI_not, pk_sub, nI_dec, e0]
      refine ⟨fun h => hP _ _ ⟨by rw [decide_eq_true (by omega)]; rfl, _, rfl, g1, fun _ => by rw [show i = np by omega] at g4; exact g4⟩, fun h => loop2 (np + 1) (i + 1) v4 v5 mI3 h (by omega) (by omega) (by omega) g1 g2 g3 (by rw [nxtJ_0 (by omega)]; exact g4)⟩
  refine hG.run [24] 60 ?_
  simp [wp, stepI, ln, jmp, cmpI, Value.category, rd, tyF, va_rf, st1, st2, clr, isLg, CB, inx_0, inx_1, inx_2, inx_3, inx_4, inx_5, bI_0, bI_1, bI_ok, fin3, tyX12, entL, q0, q_pupils, q_above, q_aheadOf, okv, wr, finF, clT, TX12, dX12_looks_0, dX12_looks_1, dX12_looks_4, dX12_looks_5, dX12_looks_6, dX12_looks_7, dX12_looks_10, dX12_looks_11, dX12_looks_12, dX12_looks_13, dX12_looks_16, dX12_looks_17, dX12_looks_18, dX12_looks_19, fT_12_385, dX12_looks_22, dX12_looks_23, dX12_looks_24, dX12_looks_25, dX12_looks_26, fT_12_13, dX12_looks_29, dX12_looks_30, dX12_looks_31, dX12_looks_34, dX12_looks_35, dX12_looks_36, dX12_looks_37, dX12_looks_38, dX12_looks_39, dX12_looks_40, dX12_looks_43, dX12_looks_44, dX12_looks_45, dX12_looks_48, dX12_looks_49, fT_12_105, dX12_looks_52, dX12_looks_53, dX12_looks_54, dX12_looks_55, dX12_looks_56, dX12_looks_57, dX12_looks_58, dX12_looks_59, dX12_looks_62, dX12_looks_63, dX12_looks_66, dX12_looks_67, dX12_looks_68, dX12_looks_69, dX12_looks_70, dX12_looks_71, dX12_looks_72, dX12_looks_73, dX12_looks_76, dX12_looks_79, dX12_looks_80, fT_12_99, dX12_looks_83, dX12_looks_84, dX12_looks_85, dX12_looks_87, dX12_looks_88, dX12_looks_91, dX12_looks_92, dX12_looks_93, dX12_looks_94, dX12_looks_95, dX12_looks_96, dX12_looks_97, dX12_looks_98, dX12_looks_99, dX12_looks_100, dX12_looks_101, dX12_looks_104, dX12_looks_107, dX12_looks_109, dX12_looks_110, dX12_looks_113, dX12_looks_114, dX12_looks_116, dX12_looks_117, dX12_looks_119, dX12_looks_120, dX12_looks_122, dX12_looks_123, dX12_looks_126, dX12_looks_128, dX12_looks_129, dX12_looks_132, dX12_looks_135, dX12_looks_137, dX12_looks_138, dX12_looks_141, dX12_looks_144, dX12_looks_147, dX12_looks_148, dX12_looks_150, dX12_looks_153, dX12_looks_154, dX12_looks_155, fT_12_391, dX12_looks_158, dX12_looks_159, dX12_looks_160, fT_12_394, dX12_looks_163, dX12_looks_166, dX12_looks_169, dX12_looks_172, dX12_looks_175, dX12_looks_176]
  refine loop1 (np + 1) 0 none none none _ (by omega) (by omega) (f2.upf (by decide)) (fun p hp' => ?_) (fun p hp' => ?_) (up2_eq _ _ _ _)
  · rw [up2_ne (fun z => by cases z.1)]; exact h3 p hp'
  · rw [up2_ne (fun z => by cases z.1)]; exact h4 p hp'
