def EqL (S : List Nat) (f g : Nat → Nat → Int64) : Prop := ∀ a k, a ∉ S → g a k = f a k
theorem EqL.rf {S : List Nat} {f : Nat → Nat → Int64} : EqL S f f := fun _ _ _ => rfl
theorem EqL.up {S : List Nat} {f g : Nat → Nat → Int64} {a k : Nat} {v : Int64} (h : EqL S f g) (ha : a ∈ S) : EqL S f (up2 g a k v) := fun b j hb => by
  have hn : ¬ (b = a ∧ j = k) := fun z => hb (by rw [z.1]; exact ha)
  rw [up2_ne hn]
  exact h b j hb
theorem EqL.tr {S : List Nat} {f g h : Nat → Nat → Int64} (h1 : EqL S f g) (h2 : EqL S g h) : EqL S f h := fun a k ha => (h2 a k ha).trans (h1 a k ha)
/-- which orders count: al p u: p may stand right behind the set u -/
def AlO (np : Nat) (a b : Int32) (al : Nat → Nat → Bool) : Prop := ∀ p u, p < np → u < 1024 → (nI p = b → (al p u = true ↔ ¬ (nI u >>> (a &&& nI 31) &&& nI 1) = nI 0)) ∧ (¬ nI p = b → al p u = true)
theorem psh_0 {np : Nat} {V : Nat → Nat} {g : Nat → Nat → Nat} (t : Nat) : psh np V g 0 0 t = if t = 0 then 1 else 0 := by
  unfold psh
  split
  · rfl
  · refine fb_sm_0 fun p _ => ?_
    simp
set_option maxHeartbeats 4000000 in
set_option maxRecDepth 100000 in
theorem c12_weighing (l : Launch) (X : Cx) (d : Nat) (sh : Nat → Option Sh) (mI : Nat → Nat → Int32) (mL : Nat → Nat → Int64) (mR : Nat → Nat → Option Nat) (n : Nat) (hL : ML sh mR) (np : Nat) (hp : PupM mI np) (c : Nat) (fi se ma : Nat → Nat) (hS : SayM mI c fi se ma) (sl : Nat) (kd : Nat → Nat) (hK : SlM mI np sl kd) (a b : Int32) (al : Nat → Nat → Bool) (hal : AlO np a b al) (V : Nat → Nat) (hV : PshR np V (fun p u => if al p u then pOf fi se p u (offO sl kd p) c else 0)) (hd : 1 ≤ d) : Cn l X yX12_weighing cX12_weighing 6 (some .long) d [.ref 129, .int a, .int b] (sh, mI, mL, mR, n) (fun r M' => r = some (.long (lN (V (2 ^ np - 1)))) ∧ ∃ mL', M' = (sh, mI, mL', mR, n) ∧ EqL [164] mL mL') 0 0 := by
  refine Cn.run 12 false (by decide) rfl (by decide) (by simp [entA, Value.category]) ?_
  intro P G hP hG
  have q0 := hL.1
  have q_pupils := hL.2 (10, 131, .int, 6) (by decide)
  dsimp only at q_pupils
  have q_weigh := hL.2 (49, 164, .long, 1024) (by decide)
  dsimp only at q_weigh
  have hpp := hp.2
  have e0 := hp.1
  have hpw := p2_10 hpp
  obtain ⟨g, hg⟩ : ∃ g : Nat → Nat → Nat, g = fun p u => if al p u then pOf fi se p u (offO sl kd p) c else 0 := ⟨_, rfl⟩
  rw [← hg] at hV
  refine hG.run [] 20 ?_
  simp [wp, stepI, ln, jmp, cmpI, Value.category, rd, tyF, va_rf, st1, st2, clr, isLg, CB, inx_0, inx_1, inx_2, inx_3, inx_4, inx_5, bI_0, bI_1, bI_ok, fin3, tyX12, entL, q0, q_pupils, q_weigh, dX12_weighing_0, dX12_weighing_1, fT_12_114, dX12_weighing_4, dX12_weighing_5, dX12_weighing_6, dX12_weighing_7, dX12_weighing_8, dX12_weighing_11, dX12_weighing_12, dX12_weighing_13, dX12_weighing_15, dX12_weighing_17, dX12_weighing_18, dX12_weighing_21, dX12_weighing_22, dX12_weighing_25, dX12_weighing_27, dX12_weighing_28, dX12_weighing_29, dX12_weighing_32, dX12_weighing_35, dX12_weighing_36, dX12_weighing_38, dX12_weighing_40, dX12_weighing_41, dX12_weighing_44, dX12_weighing_45, dX12_weighing_47, dX12_weighing_49, dX12_weighing_50, fT_12_13, dX12_weighing_53, dX12_weighing_54, dX12_weighing_55, dX12_weighing_58, dX12_weighing_60, dX12_weighing_62, dX12_weighing_63, dX12_weighing_64, dX12_weighing_65, dX12_weighing_66, dX12_weighing_69, dX12_weighing_71, dX12_weighing_72, dX12_weighing_75, dX12_weighing_77, dX12_weighing_78, dX12_weighing_79, dX12_weighing_80, dX12_weighing_81, dX12_weighing_84, dX12_weighing_87, dX12_weighing_88, dX12_weighing_91, dX12_weighing_93, dX12_weighing_94, dX12_weighing_96, dX12_weighing_97, dX12_weighing_98, dX12_weighing_99, dX12_weighing_100, dX12_weighing_101, dX12_weighing_104, dX12_weighing_106, dX12_weighing_107, dX12_weighing_108, dX12_weighing_110, dX12_weighing_112, dX12_weighing_115, dX12_weighing_116, dX12_weighing_117, dX12_weighing_118, dX12_weighing_121, dX12_weighing_124, dX12_weighing_127, dX12_weighing_130, dX12_weighing_131, dX12_weighing_134, dX12_weighing_135, dX12_weighing_136]
  refine hG.callV dX12_weighing_8 mv_12_338 [] [] (c12_everybody l X (d - 1) sh mI (up2 mL 164 0 1) mR n hL np hp) ⟨_, rfl, rfl⟩ q0 (by omega) rfl (by decide) (by simp [Value.category]) rfl ?_
  rintro r M' ⟨rfl, rfl⟩
  have loop2 : ∀ f i mL1 v5, 2 ^ np - 1 - i < f → i ≤ 2 ^ np - 1 → EqL [164] mL mL1 → (∀ t, t < 2 ^ np → mL1 164 t = lN (psh np V g i 0 t)) → G 38 [some (.ref 129), some (.int a), some (.int b), some (.int (nI (2 ^ np - 1))), some (.int (nI i)), v5] [] (sh, mI, mL1, mR, n) := by
    intro f
    induction f with
    | zero => intro i mL1 v5 h; omega
    | succ f ih =>
      intro i mL1 v5 hf hi h1 h2
      have loop3 : ∀ f2 j mL2, i < 2 ^ np - 1 → np - j < f2 → j ≤ np → EqL [164] mL mL2 → (∀ t, t < 2 ^ np → mL2 164 t = lN (psh np V g i j t)) → G 47 [some (.ref 129), some (.int a), some (.int b), some (.int (nI (2 ^ np - 1))), some (.int (nI i)), some (.int (nI j))] [] (sh, mI, mL2, mR, n) := by
        intro f2
        induction f2 with
        | zero => intro j mL2 hi2 h; omega
        | succ f2 ih2 =>
          intro j mL2 hi2 hf2 hj g1 g2
          refine hG.run [38, 47, 87] 60 ?_
          simp [wp, stepI, ln, jmp, cmpI, Value.category, rd, tyF, va_rf, st1, st2, clr, isLg, CB, inx_0, inx_1, inx_2, inx_3, inx_4, inx_5, bI_0, bI_1, bI_ok, fin3, tyX12, entL, q0, q_pupils, q_weigh, dX12_weighing_0, dX12_weighing_1, fT_12_114, dX12_weighing_4, dX12_weighing_5, dX12_weighing_6, dX12_weighing_7, dX12_weighing_8, dX12_weighing_11, dX12_weighing_12, dX12_weighing_13, dX12_weighing_15, dX12_weighing_17, dX12_weighing_18, dX12_weighing_21, dX12_weighing_22, dX12_weighing_25, dX12_weighing_27, dX12_weighing_28, dX12_weighing_29, dX12_weighing_32, dX12_weighing_35, dX12_weighing_36, dX12_weighing_38, dX12_weighing_40, dX12_weighing_41, dX12_weighing_44, dX12_weighing_45, dX12_weighing_47, dX12_weighing_49, dX12_weighing_50, fT_12_13, dX12_weighing_53, dX12_weighing_54, dX12_weighing_55, dX12_weighing_58, dX12_weighing_60, dX12_weighing_62, dX12_weighing_63, dX12_weighing_64, dX12_weighing_65, dX12_weighing_66, dX12_weighing_69, dX12_weighing_71, dX12_weighing_72, dX12_weighing_75, dX12_weighing_77, dX12_weighing_78, dX12_weighing_79, dX12_weighing_80, dX12_weighing_81, dX12_weighing_84, dX12_weighing_87, dX12_weighing_88, dX12_weighing_91, dX12_weighing_93, dX12_weighing_94, dX12_weighing_96, dX12_weighing_97, dX12_weighing_98, dX12_weighing_99, dX12_weighing_100, dX12_weighing_101, dX12_weighing_104, dX12_weighing_106, dX12_weighing_107, dX12_weighing_108, dX12_weighing_110, dX12_weighing_112, dX12_weighing_115, dX12_weighing_116, dX12_weighing_117, dX12_weighing_118, dX12_weighing_121, dX12_weighing_124, dX12_weighing_127, dX12_weighing_130, dX12_weighing_131, dX12_weighing_134, dX12_weighing_135, dX12_weighing_136]
          simp (disch := omega) only [li, nI_add, nI_clamp, nI_ltI, nI_leI, nI_eq, inx_iff, a31, nI_1shl', nI_shr', div_bit, tb1, tb0, fa_or, fa_and, nI_not, pk_sub, nI_dec, e0]
          have skip : j < np → (i.testBit j = false → g j i = 0) → G 47 [some (.ref 129), some (.int a), some (.int b), some (.int (nI (2 ^ np - 1))), some (.int (nI i)), some (.int (nI (j + 1)))] [] (sh, mI, mL2, mR, n) := fun hjn z => ih2 (j + 1) mL2 hi2 (by omega) (by omega) g1 (fun t ht => by
            rw [g2 t ht, psh_same]
            intro y1 y2
            refine z ?_
            rw [← y2, anot_bit, Nat.testBit_two_pow_self, y1]
            rfl)
          have add : j < np → i.testBit j = false → al j i = true → G 87 [some (.ref 129), some (.int a), some (.int b), some (.int (nI (2 ^ np - 1))), some (.int (nI i)), some (.int (nI j))] [] (sh, mI, mL2, mR, n) := fun hjn z y => by
            have or2 := or_lt (np := np) (t := i) (p := j) (by omega) hjn
            refine hG.run [38, 47] 60 ?_
            simp [wp, stepI, ln, jmp, cmpI, Value.category, rd, tyF, va_rf, st1, st2, clr, isLg, CB, inx_0, inx_1, inx_2, inx_3, inx_4, inx_5, bI_0, bI_1, bI_ok, fin3, tyX12, entL, q0, q_pupils, q_weigh, dX12_weighing_0, dX12_weighing_1, fT_12_114, dX12_weighing_4, dX12_weighing_5, dX12_weighing_6, dX12_weighing_7, dX12_weighing_8, dX12_weighing_11, dX12_weighing_12, dX12_weighing_13, dX12_weighing_15, dX12_weighing_17, dX12_weighing_18, dX12_weighing_21, dX12_weighing_22, dX12_weighing_25, dX12_weighing_27, dX12_weighing_28, dX12_weighing_29, dX12_weighing_32, dX12_weighing_35, dX12_weighing_36, dX12_weighing_38, dX12_weighing_40, dX12_weighing_41, dX12_weighing_44, dX12_weighing_45, dX12_weighing_47, dX12_weighing_49, dX12_weighing_50, fT_12_13, dX12_weighing_53, dX12_weighing_54, dX12_weighing_55, dX12_weighing_58, dX12_weighing_60, dX12_weighing_62, dX12_weighing_63, dX12_weighing_64, dX12_weighing_65, dX12_weighing_66, dX12_weighing_69, dX12_weighing_71, dX12_weighing_72, dX12_weighing_75, dX12_weighing_77, dX12_weighing_78, dX12_weighing_79, dX12_weighing_80, dX12_weighing_81, dX12_weighing_84, dX12_weighing_87, dX12_weighing_88, dX12_weighing_91, dX12_weighing_93, dX12_weighing_94, dX12_weighing_96, dX12_weighing_97, dX12_weighing_98, dX12_weighing_99, dX12_weighing_100, dX12_weighing_101, dX12_weighing_104, dX12_weighing_106, dX12_weighing_107, dX12_weighing_108, dX12_weighing_110, dX12_weighing_112, dX12_weighing_115, dX12_weighing_116, dX12_weighing_117, dX12_weighing_118, dX12_weighing_121, dX12_weighing_124, dX12_weighing_127, dX12_weighing_130, dX12_weighing_131, dX12_weighing_134, dX12_weighing_135, dX12_weighing_136]
            simp (disch := omega) only [li, nI_add, nI_clamp, nI_ltI, nI_leI, nI_eq, inx_iff, a31, nI_1shl', nI_shr', div_bit, tb1, tb0, fa_or, fa_and, nI_not, pk_sub, nI_dec]
            rw [g2 i (by omega), psh_full hV (Nat.le_refl i)]
            refine ⟨by omega, by omega, ?_⟩
            refine hG.callV dX12_weighing_112 mv_12_372 [.int (nI j), .int (nI i)] [.long (lN (V i)), .long (mL2 164 (i ||| 2 ^ j)), .int (nI (i ||| 2 ^ j)), .ref 164] (c12_partOf l X (d - 1) sh mI mL2 mR n hL np hp c fi se ma hS sl kd hK j i hjn (by omega)) ⟨_, rfl, rfl⟩ q0 (by omega) rfl (by decide) (by simp [Value.category]) rfl ?_
            rintro r M' ⟨rfl, rfl⟩
            refine hG.run [38, 47] 60 ?_
            simp [wp, stepI, ln, jmp, cmpI, Value.category, rd, tyF, va_rf, st1, st2, clr, isLg, CB, inx_0, inx_1, inx_2, inx_3, inx_4, inx_5, bI_0, bI_1, bI_ok, fin3, tyX12, entL, q0, q_pupils, q_weigh, dX12_weighing_0, dX12_weighing_1, fT_12_114, dX12_weighing_4, dX12_weighing_5, dX12_weighing_6, dX12_weighing_7, dX12_weighing_8, dX12_weighing_11, dX12_weighing_12, dX12_weighing_13, dX12_weighing_15, dX12_weighing_17, dX12_weighing_18, dX12_weighing_21, dX12_weighing_22, dX12_weighing_25, dX12_weighing_27, dX12_weighing_28, dX12_weighing_29, dX12_weighing_32, dX12_weighing_35, dX12_weighing_36, dX12_weighing_38, dX12_weighing_40, dX12_weighing_41, dX12_weighing_44, dX12_weighing_45, dX12_weighing_47, dX12_weighing_49, dX12_weighing_50, fT_12_13, dX12_weighing_53, dX12_weighing_54, dX12_weighing_55, dX12_weighing_58, dX12_weighing_60, dX12_weighing_62, dX12_weighing_63, dX12_weighing_64, dX12_weighing_65, dX12_weighing_66, dX12_weighing_69, dX12_weighing_71, dX12_weighing_72, dX12_weighing_75, dX12_weighing_77, dX12_weighing_78, dX12_weighing_79, dX12_weighing_80, dX12_weighing_81, dX12_weighing_84, dX12_weighing_87, dX12_weighing_88, dX12_weighing_91, dX12_weighing_93, dX12_weighing_94, dX12_weighing_96, dX12_weighing_97, dX12_weighing_98, dX12_weighing_99, dX12_weighing_100, dX12_weighing_101, dX12_weighing_104, dX12_weighing_106, dX12_weighing_107, dX12_weighing_108, dX12_weighing_110, dX12_weighing_112, dX12_weighing_115, dX12_weighing_116, dX12_weighing_117, dX12_weighing_118, dX12_weighing_121, dX12_weighing_124, dX12_weighing_127, dX12_weighing_130, dX12_weighing_131, dX12_weighing_134, dX12_weighing_135, dX12_weighing_136]
            simp (disch := omega) only [li, nI_add, nI_clamp, nI_ltI, nI_leI, nI_eq, inx_iff, a31, nI_1shl', nI_shr', div_bit, tb1, tb0, fa_or, fa_and, nI_not, pk_sub, nI_dec, lN_mul]
            refine ⟨by omega, ih2 (j + 1) _ hi2 (by omega) (by omega) (g1.up (by decide)) (fun t ht => ?_)⟩
            by_cases hti : t = i ||| 2 ^ j
            · subst hti
              rw [up2_eq, g2 _ ht, lN_add, psh_add hjn z, hg]
              dsimp only
              rw [if_pos y]
            · rw [up2_ne (fun x => hti x.2), g2 t ht, psh_same]
              intro y1 y2
              refine absurd ?_ hti
              rw [← y2, anot_or y1]
          refine ⟨fun h => ih (i + 1) mL2 _ (by omega) (by omega) g1 (fun t ht => by rw [g2 t ht, show j = np by omega, psh_end]), fun h => ⟨fun z => skip h (fun y => by rw [z] at y; cases y), fun z => ⟨fun y => add h (by simpa using z) ((hal j i h (by omega)).2 y), fun y => ⟨fun x => add h (by simpa using z) (((hal j i h (by omega)).1 y).mpr x), fun x => skip h (fun _ => ?_)⟩⟩⟩⟩
          rw [hg]
          dsimp only
          rw [if_neg (fun w => ((hal j i h (by omega)).1 y).mp w x)]
      refine hG.run [47] 60 ?_
      simp [wp, stepI, ln, jmp, cmpI, Value.category, rd, tyF, va_rf, st1, st2, clr, isLg, CB, inx_0, inx_1, inx_2, inx_3, inx_4, inx_5, bI_0, bI_1, bI_ok, fin3, tyX12, entL, q0, q_pupils, q_weigh, dX12_weighing_0, dX12_weighing_1, fT_12_114, dX12_weighing_4, dX12_weighing_5, dX12_weighing_6, dX12_weighing_7, dX12_weighing_8, dX12_weighing_11, dX12_weighing_12, dX12_weighing_13, dX12_weighing_15, dX12_weighing_17, dX12_weighing_18, dX12_weighing_21, dX12_weighing_22, dX12_weighing_25, dX12_weighing_27, dX12_weighing_28, dX12_weighing_29, dX12_weighing_32, dX12_weighing_35, dX12_weighing_36, dX12_weighing_38, dX12_weighing_40, dX12_weighing_41, dX12_weighing_44, dX12_weighing_45, dX12_weighing_47, dX12_weighing_49, dX12_weighing_50, fT_12_13, dX12_weighing_53, dX12_weighing_54, dX12_weighing_55, dX12_weighing_58, dX12_weighing_60, dX12_weighing_62, dX12_weighing_63, dX12_weighing_64, dX12_weighing_65, dX12_weighing_66, dX12_weighing_69, dX12_weighing_71, dX12_weighing_72, dX12_weighing_75, dX12_weighing_77, dX12_weighing_78, dX12_weighing_79, dX12_weighing_80, dX12_weighing_81, dX12_weighing_84, dX12_weighing_87, dX12_weighing_88, dX12_weighing_91, dX12_weighing_93, dX12_weighing_94, dX12_weighing_96, dX12_weighing_97, dX12_weighing_98, dX12_weighing_99, dX12_weighing_100, dX12_weighing_101, dX12_weighing_104, dX12_weighing_106, dX12_weighing_107, dX12_weighing_108, dX12_weighing_110, dX12_weighing_112, dX12_weighing_115, dX12_weighing_116, dX12_weighing_117, dX12_weighing_118, dX12_weighing_121, dX12_weighing_124, dX12_weighing_127, dX12_weighing_130, dX12_weighing_131, dX12_weighing_134, dX12_weighing_135, dX12_weighing_136]
      simp (disch := omega) only [li, nI_add, nI_clamp, nI_ltI, nI_leI, nI_eq, inx_iff, a31, nI_1shl', nI_shr', div_bit, tb1, tb0, fa_or, fa_and, nI_not, pk_sub, nI_dec, e0]
      refine ⟨fun h => ⟨by omega, ?_⟩, fun h => loop3 (np + 1) 0 mL1 h (by omega) (by omega) h1 h2⟩
      rw [h2 _ (by omega), psh_full hV (by omega)]
      exact hP _ _ ⟨rfl, mL1, rfl, h1⟩
  have loop1 : ∀ f i mL1, 2 ^ np - i < f → 0 < i → i ≤ 2 ^ np → EqL [164] mL mL1 → mL1 164 0 = 1 → (∀ t, 0 < t → t < i → mL1 164 t = 0) → G 15 [some (.ref 129), some (.int a), some (.int b), some (.int (nI (2 ^ np - 1))), some (.int (nI i)), none] [] (sh, mI, mL1, mR, n) := by
    intro f
    induction f with
    | zero => intro i mL1 h; omega
    | succ f ih =>
      intro i mL1 hf hi hi2 h1 h2 h3
      refine hG.run [15, 38] 60 ?_
      simp [wp, stepI, ln, jmp, cmpI, Value.category, rd, tyF, va_rf, st1, st2, clr, isLg, CB, inx_0, inx_1, inx_2, inx_3, inx_4, inx_5, bI_0, bI_1, bI_ok, fin3, tyX12, entL, q0, q_pupils, q_weigh, dX12_weighing_0, dX12_weighing_1, fT_12_114, dX12_weighing_4, dX12_weighing_5, dX12_weighing_6, dX12_weighing_7, dX12_weighing_8, dX12_weighing_11, dX12_weighing_12, dX12_weighing_13, dX12_weighing_15, dX12_weighing_17, dX12_weighing_18, dX12_weighing_21, dX12_weighing_22, dX12_weighing_25, dX12_weighing_27, dX12_weighing_28, dX12_weighing_29, dX12_weighing_32, dX12_weighing_35, dX12_weighing_36, dX12_weighing_38, dX12_weighing_40, dX12_weighing_41, dX12_weighing_44, dX12_weighing_45, dX12_weighing_47, dX12_weighing_49, dX12_weighing_50, fT_12_13, dX12_weighing_53, dX12_weighing_54, dX12_weighing_55, dX12_weighing_58, dX12_weighing_60, dX12_weighing_62, dX12_weighing_63, dX12_weighing_64, dX12_weighing_65, dX12_weighing_66, dX12_weighing_69, dX12_weighing_71, dX12_weighing_72, dX12_weighing_75, dX12_weighing_77, dX12_weighing_78, dX12_weighing_79, dX12_weighing_80, dX12_weighing_81, dX12_weighing_84, dX12_weighing_87, dX12_weighing_88, dX12_weighing_91, dX12_weighing_93, dX12_weighing_94, dX12_weighing_96, dX12_weighing_97, dX12_weighing_98, dX12_weighing_99, dX12_weighing_100, dX12_weighing_101, dX12_weighing_104, dX12_weighing_106, dX12_weighing_107, dX12_weighing_108, dX12_weighing_110, dX12_weighing_112, dX12_weighing_115, dX12_weighing_116, dX12_weighing_117, dX12_weighing_118, dX12_weighing_121, dX12_weighing_124, dX12_weighing_127, dX12_weighing_130, dX12_weighing_131, dX12_weighing_134, dX12_weighing_135, dX12_weighing_136]
      simp (disch := omega) only [li, nI_add, nI_clamp, nI_ltI, nI_leI, nI_eq, inx_iff, a31, nI_1shl', nI_shr', div_bit, tb1, tb0, fa_or, fa_and, nI_not, pk_sub, nI_dec, e0]
      refine ⟨fun h => loop2 (2 ^ np) 0 mL1 none (by omega) (by omega) h1 (fun t ht => ?_), fun h => ⟨by omega, ih (i + 1) _ (by omega) (by omega) (by omega) (h1.up (by decide)) ?_ (fun t ht ht2 => ?_)⟩⟩
      · rw [psh_0]
        by_cases hz : t = 0
        · rw [hz, h2]; rfl
        · rw [h3 t (by omega) (by omega), if_neg hz]; rfl
      · rw [up2_ne (by omega)]; exact h2
      · by_cases hti : t = i
        · rw [hti, up2_eq]
        · rw [up2_ne (fun x => hti x.2)]; exact h3 t ht (by omega)
  refine hG.run [15] 60 ?_
  simp [wp, stepI, ln, jmp, cmpI, Value.category, rd, tyF, va_rf, st1, st2, clr, isLg, CB, inx_0, inx_1, inx_2, inx_3, inx_4, inx_5, bI_0, bI_1, bI_ok, fin3, tyX12, entL, q0, q_pupils, q_weigh, dX12_weighing_0, dX12_weighing_1, fT_12_114, dX12_weighing_4, dX12_weighing_5, dX12_weighing_6, dX12_weighing_7, dX12_weighing_8, dX12_weighing_11, dX12_weighing_12, dX12_weighing_13, dX12_weighing_15, dX12_weighing_17, dX12_weighing_18, dX12_weighing_21, dX12_weighing_22, dX12_weighing_25, dX12_weighing_27, dX12_weighing_28, dX12_weighing_29, dX12_weighing_32, dX12_weighing_35, dX12_weighing_36, dX12_weighing_38, dX12_weighing_40, dX12_weighing_41, dX12_weighing_44, dX12_weighing_45, dX12_weighing_47, dX12_weighing_49, dX12_weighing_50, fT_12_13, dX12_weighing_53, dX12_weighing_54, dX12_weighing_55, dX12_weighing_58, dX12_weighing_60, dX12_weighing_62, dX12_weighing_63, dX12_weighing_64, dX12_weighing_65, dX12_weighing_66, dX12_weighing_69, dX12_weighing_71, dX12_weighing_72, dX12_weighing_75, dX12_weighing_77, dX12_weighing_78, dX12_weighing_79, dX12_weighing_80, dX12_weighing_81, dX12_weighing_84, dX12_weighing_87, dX12_weighing_88, dX12_weighing_91, dX12_weighing_93, dX12_weighing_94, dX12_weighing_96, dX12_weighing_97, dX12_weighing_98, dX12_weighing_99, dX12_weighing_100, dX12_weighing_101, dX12_weighing_104, dX12_weighing_106, dX12_weighing_107, dX12_weighing_108, dX12_weighing_110, dX12_weighing_112, dX12_weighing_115, dX12_weighing_116, dX12_weighing_117, dX12_weighing_118, dX12_weighing_121, dX12_weighing_124, dX12_weighing_127, dX12_weighing_130, dX12_weighing_131, dX12_weighing_134, dX12_weighing_135, dX12_weighing_136]
  exact loop1 (2 ^ np + 1) 1 _ (by omega) (by omega) (by omega) (EqL.rf.up (by decide)) (up2_eq _ _ _ _) (fun t h1 h2 => by omega)
/-- the weights of all orders, by sets -/
def pshC (np : Nat) (g : Nat → Nat → Nat) (t : Nat) : Nat := if t = 0 then 1 else fb_sm (fun p => if h : t.testBit p = true then pshC np g (anot t (2 ^ p)) * g p (anot t (2 ^ p)) else 0) np
termination_by t
decreasing_by exact anot_lt h
theorem pshC_ok (np : Nat) (g : Nat → Nat → Nat) : PshR np (pshC np g) g := by
  refine ⟨by rw [pshC]; rfl, fun t h1 => ?_⟩
  rw [pshC, if_neg (by omega)]
  refine fb_sm_cong fun p _ => ?_
  by_cases hc : t.testBit p = true
  · rw [dif_pos hc, if_pos hc]
  · rw [dif_neg hc, if_neg hc]
set_option maxHeartbeats 4000000 in
set_option maxRecDepth 100000 in
theorem c12_gcd (l : Launch) (X : Cx) (d : Nat) (M : Mm) (a b : Nat) (ha : a < 2 ^ 63) (hb : b < 2 ^ 63) : Cn l X yX12_gcd cX12_gcd 10 (some .long) d [.long (lN a), .long (lN b)] M (fun r M' => M' = M ∧ r = some (.long (lN (Nat.gcd a b)))) 0 0 := by
  refine Cn.run 12 false (by decide) rfl (by decide) (by simp [entA, Value.category]) ?_
  intro P G hP hG
  have loop : ∀ f x y v8 v9, y < f → x < 2 ^ 63 → y < 2 ^ 63 → Nat.gcd x y = Nat.gcd a b → G 6 [some (.long (lN a)), none, some (.long (lN b)), none, some (.long (lN x)), none, some (.long (lN y)), none, v8, v9] [] M := by
    intro f
    induction f with
    | zero => intro x y v8 v9 h; exact absurd h (Nat.not_lt_zero _)
    | succ f ih =>
      intro x y v8 v9 hf hx hy hxy
      refine hG.run [6] 40 ?_
      simp [wp, stepI, ln, jmp, cmpI, Value.category, rd, tyF, va_rf, st1, st2, clr, isLg, CB, inx_0, inx_1, inx_2, inx_3, inx_4, inx_5, bI_0, bI_1, bI_ok, fin3, lg_cmp0, dX12_gcd_0, dX12_gcd_1, dX12_gcd_3, dX12_gcd_4, dX12_gcd_6, dX12_gcd_8, dX12_gcd_9, dX12_gcd_10, dX12_gcd_13, dX12_gcd_15, dX12_gcd_17, dX12_gcd_18, dX12_gcd_20, dX12_gcd_22, dX12_gcd_24, dX12_gcd_26, dX12_gcd_28, dX12_gcd_31, dX12_gcd_33]
      have hy0 : lN y = 0 ↔ y = 0 := pk_lEQ (b := 0) hy (by decide)
      rw [hy0]
      refine ⟨fun z => hP _ _ ⟨rfl, ?_⟩, fun z => ⟨z, ?_⟩⟩
      · rw [z, Nat.gcd_zero_right] at hxy
        rw [hxy]
      · have hlt : x % y < y := Nat.mod_lt _ (by omega)
        have := ih y (x % y) (some (.long (lN (x % y)))) none (by omega) hy (by omega) (by rw [← hxy, Nat.gcd_comm x y, Nat.gcd_rec y x, Nat.gcd_comm])
        rw [pk_lRem hx (by omega) hy]
        exact this
  refine hG.run [6] 40 ?_
  simp [wp, stepI, ln, jmp, cmpI, Value.category, rd, tyF, va_rf, st1, st2, clr, isLg, CB, inx_0, inx_1, inx_2, inx_3, inx_4, inx_5, bI_0, bI_1, bI_ok, fin3, entL, dX12_gcd_0, dX12_gcd_1, dX12_gcd_3, dX12_gcd_4, dX12_gcd_6, dX12_gcd_8, dX12_gcd_9, dX12_gcd_10, dX12_gcd_13, dX12_gcd_15, dX12_gcd_17, dX12_gcd_18, dX12_gcd_20, dX12_gcd_22, dX12_gcd_24, dX12_gcd_26, dX12_gcd_28, dX12_gcd_31, dX12_gcd_33]
  exact loop (b + 1) a b none none (by omega) ha hb rfl
