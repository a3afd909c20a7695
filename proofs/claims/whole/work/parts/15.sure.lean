def fac : Nat → Nat
  | 0 => 1
  | n + 1 => (n + 1) * fac n
theorem fac_mono : ∀ {a b : Nat}, a ≤ b → fac a ≤ fac b := by
  intro a b h
  induction h with
  | refl => exact Nat.le_refl _
  | step _ ih => exact Nat.le_trans ih (Nat.le_mul_of_pos_left _ (by omega))
def pcn (t : Nat) : Nat := fb_ct (fun k => t.testBit k) 10
theorem tb_lt {t p : Nat} (ht : t < 1024) (h : t.testBit p = true) : p < 10 := by
  rcases Nat.lt_or_ge p 10 with z | z
  · exact z
  · have : t < 2 ^ p := Nat.lt_of_lt_of_le ht (by have : 2 ^ 10 ≤ 2 ^ p := Nat.pow_le_pow_right (by decide) z
                                                  exact this)
    rw [Nat.testBit_lt_two_pow this] at h
    cases h
theorem pcn_anot {t p : Nat} (ht : t < 1024) (h : t.testBit p = true) : pcn (anot t (2 ^ p)) + 1 = pcn t := by
  have hp := tb_lt ht h
  have e : (fun k => (anot t (2 ^ p)).testBit k) = fun k => if k = p then false else t.testBit k := by
    funext k
    rw [anot_bit, Nat.testBit_two_pow]
    by_cases hk : k = p
    · subst hk; simp
    · rw [if_neg hk]
      have : ¬ p = k := fun z => hk z.symm
      simp [this]
  unfold pcn
  rw [e]
  have := fb_ct_upd (fun k => t.testBit k) false (i := p) (n := 10) hp
  simp only [h] at this
  simpa using this
theorem fitC_le (np who : Nat) (hnp : np ≤ 10) (ah : Nat → Nat) : ∀ t, t < 1024 → fitC np who ah t ≤ fac (pcn t) := by
  intro t
  induction t using Nat.strongRecOn with
  | _ t ih =>
    intro ht
    rw [fitC]
    split
    · exact Nat.le_trans (by decide : 1 ≤ fac 0) (fac_mono (Nat.zero_le _))
    · split
      · have h1 : ∀ n, n ≤ 10 → fb_sm (fun p => if h : t.testBit p = true ∧ anot (ah p &&& who) (anot t (2 ^ p)) = 0 then fitC np who ah (anot t (2 ^ p)) else 0) n ≤ fb_ct (fun k => t.testBit k) n * fac (pcn t - 1) := by
          intro n
          induction n with
          | zero => intro _; simp [fb_sm, fb_ct]
          | succ n ihn =>
            intro hn
            rw [fb_sm_succ, fb_ct_succ, Nat.add_mul]
            refine Nat.add_le_add (ihn (by omega)) ?_
            split
            · rename_i hc
              rw [if_pos hc.1, Nat.one_mul]
              have h2 := pcn_anot ht hc.1
              have h3 := ih _ (anot_lt hc.1) (Nat.lt_of_le_of_lt (anot_le _ _) ht)
              rw [show pcn t - 1 = pcn (anot t (2 ^ n)) by omega]
              exact h3
            · exact Nat.zero_le _
        refine Nat.le_trans (h1 np hnp) (Nat.le_trans (Nat.mul_le_mul_right _ (fb_ct_mono _ hnp)) ?_)
        show pcn t * fac (pcn t - 1) ≤ fac (pcn t)
        cases hk : pcn t with
        | zero => simp [fac]
        | succ k => exact Nat.le_refl _
      · exact Nat.zero_le _
theorem pcn_le (t : Nat) : pcn t ≤ 10 := fb_ct_le _ _
theorem fitC_small {np who : Nat} (hnp : np ≤ 10) {ah : Nat → Nat} {t : Nat} (ht : t < 1024) : fitC np who ah t ≤ 3628800 := Nat.le_trans (fitC_le np who hnp ah t ht) (Nat.le_trans (fac_mono (pcn_le t)) (by decide))
theorem ordN_small {np c : Nat} (hnp : np ≤ 10) {fi se : Nat → Nat} : ordN np c fi se ≤ 3628800 := fitC_small hnp (by have := p2_10 hnp; omega)
/-! the closure of who stands above whom, as the reference makes it -/
def upN (A : Nat → Nat) (p v : Nat) : Nat → Nat := fun x => if x = p then v else A x
def cl1 (A : Nat → Nat) (p q : Nat) : Nat → Nat := if (A p).testBit q then upN A p (A p ||| A q) else A
def clQ (A : Nat → Nat) (p : Nat) : Nat → Nat → Nat
  | 0 => A
  | q + 1 => cl1 (clQ A p q) p q
def clP (A : Nat → Nat) (np : Nat) : Nat → Nat → Nat
  | 0 => A
  | p + 1 => clQ (clP A np p) p np
def clR (A : Nat → Nat) (np : Nat) : Nat → Nat → Nat
  | 0 => A
  | r + 1 => clP (clR A np r) np np
/-- who stands surely above whom (nobody, where no order fits) -/
def abv (np c : Nat) (fi se : Nat → Nat) : Nat → Nat := clR (fun p => if 0 < ordN np c fi se then ahA fi se c p else 0) np np
theorem cl1_lt {A : Nat → Nat} {p q : Nat} (h : ∀ x, A x < 1024) : ∀ x, cl1 A p q x < 1024 := by
  intro x
  unfold cl1 upN
  split
  · dsimp only
    split
    · exact Nat.or_lt_two_pow (n := 10) (h _) (h _)
    · exact h x
  · exact h x
theorem clQ_lt {A : Nat → Nat} {p : Nat} (h : ∀ x, A x < 1024) : ∀ q x, clQ A p q x < 1024
  | 0, x => h x
  | q + 1, x => cl1_lt (clQ_lt h q) x
theorem clP_lt {A : Nat → Nat} {np : Nat} (h : ∀ x, A x < 1024) : ∀ p x, clP A np p x < 1024
  | 0, x => h x
  | p + 1, x => clQ_lt (clP_lt h p) np x
theorem clR_lt {A : Nat → Nat} {np : Nat} (h : ∀ x, A x < 1024) : ∀ r x, clR A np r x < 1024
  | 0, x => h x
  | r + 1, x => clP_lt (clR_lt h r) np x
set_option maxHeartbeats 4000000 in
set_option maxRecDepth 100000 in
theorem c12_isSure (l : Launch) (X : Cx) (d : Nat) (sh : Nat → Option Sh) (mI : Nat → Nat → Int32) (mL : Nat → Nat → Int64) (mR : Nat → Nat → Option Nat) (n : Nat) (hL : ML sh mR) (np : Nat) (hp : PupM mI np) (c : Nat) (fi se ma : Nat → Nat) (hS : SayM mI c fi se ma) (hd : 2 ≤ d) : Cn l X yX12_isSure cX12_isSure 5 (some .boolean) d [.ref 129] (sh, mI, mL, mR, n) (fun r M' => r = some (.int (bI (decide (0 < ordN np c fi se)))) ∧ ∃ mI', M' = (sh, mI', mL, mR, n) ∧ Eqx [159, 160, 161] mI mI' ∧ (∀ p, p < 10 → mI' 159 p = nI (ahA fi se c p)) ∧ (∀ p, p < 10 → mI' 161 p = nI (abv np c fi se p)) ∧ ∀ t, t ≤ 2 ^ np - 1 → mI' 160 t = nI (fitC np (2 ^ np - 1) (ahA fi se c) t)) 0 0 := by
  refine Cn.run 12 false (by decide) rfl (by decide) (by simp [entA, Value.category]) ?_
  intro P G hP hG
  have q0 := hL.1
  have q_pupils := hL.2 (10, 131, .int, 6) (by decide)
  dsimp only at q_pupils
  have q_aheadOf := hL.2 (44, 159, .int, 10) (by decide)
  dsimp only at q_aheadOf
  have q_above := hL.2 (46, 161, .int, 10) (by decide)
  dsimp only at q_above
  have hpp := hp.2
  have hos : ordN np c fi se ≤ 3628800 := ordN_small hpp
  have hal : ∀ p, ahA fi se c p < 1024 := fun p => ahd_lt fun k hk => (hS.2.2 k hk).2.2.2.1
  obtain ⟨B0, hB0⟩ : ∃ B : Nat → Nat, B = fun p => if 0 < ordN np c fi se then ahA fi se c p else 0 := ⟨_, rfl⟩
  obtain ⟨bb, hbb⟩ : ∃ b : Bool, b = decide (0 < ordN np c fi se) := ⟨_, rfl⟩
  rw [← hbb] at hP
  have hB : ∀ p, B0 p < 1024 := fun p => by rw [hB0]; dsimp only; split; exact hal p; decide
  refine hG.run [] 30 ?_
  simp [wp, stepI, ln, jmp, cmpI, Value.category, rd, tyF, va_rf, st1, st2, clr, isLg, CB, inx_0, inx_1, inx_2, inx_3, inx_4, inx_5, bI_0, bI_1, bI_ok, fin3, tyX12, entL, q0, q_pupils, q_aheadOf, q_above, dX12_isSure_0, dX12_isSure_1, dX12_isSure_4, dX12_isSure_7, dX12_isSure_8, dX12_isSure_11, dX12_isSure_12, dX12_isSure_13, dX12_isSure_14, dX12_isSure_15, dX12_isSure_16, dX12_isSure_18, dX12_isSure_21, dX12_isSure_22, fT_12_105, dX12_isSure_25, dX12_isSure_26, dX12_isSure_27, dX12_isSure_30, dX12_isSure_31, fT_12_99, dX12_isSure_34, dX12_isSure_35, dX12_isSure_36, dX12_isSure_39, dX12_isSure_40, dX12_isSure_41, dX12_isSure_44, dX12_isSure_47, dX12_isSure_48, dX12_isSure_49, dX12_isSure_50, dX12_isSure_51, fT_12_13, dX12_isSure_54, dX12_isSure_55, dX12_isSure_56, dX12_isSure_59, dX12_isSure_60, dX12_isSure_61, dX12_isSure_62, dX12_isSure_63, dX12_isSure_66, dX12_isSure_67, dX12_isSure_68, dX12_isSure_71, dX12_isSure_72, dX12_isSure_74, dX12_isSure_76, dX12_isSure_77, dX12_isSure_80, dX12_isSure_81, dX12_isSure_82, dX12_isSure_85, dX12_isSure_86, dX12_isSure_89, dX12_isSure_90, dX12_isSure_91, dX12_isSure_93, dX12_isSure_94, dX12_isSure_95, dX12_isSure_96, dX12_isSure_97, dX12_isSure_100, dX12_isSure_101, dX12_isSure_104, dX12_isSure_105, dX12_isSure_106, dX12_isSure_107, dX12_isSure_108, dX12_isSure_111, dX12_isSure_113, dX12_isSure_114, dX12_isSure_115, dX12_isSure_116, dX12_isSure_119, dX12_isSure_122, dX12_isSure_125, dX12_isSure_128, dX12_isSure_131, dX12_isSure_134, dX12_isSure_135]
  refine hG.callV dX12_isSure_1 mv_12_344 [] [] (c12_fittingAll l X (d - 1) sh mI mL mR n hL np hp c fi se ma hS (by omega)) ⟨_, rfl, rfl⟩ q0 (by omega) rfl (by decide) (by simp [Value.category]) rfl ?_
  rintro r M' ⟨rfl, mI1, rfl, h1, h2, h3⟩
  have fin : ∀ mI2, Eqx [161] mI1 mI2 → (∀ p, p < 10 → mI2 161 p = nI (clR B0 np np p)) → ∀ v2 v3 v4, G 134 [some (.ref 129), some (.int (bI bb)), v2, v3, v4] [] (sh, mI2, mL, mR, n) := by
    intro mI2 g1 g2 v2 v3 v4
    refine hG.run [] 10 ?_
    simp [wp, stepI, ln, jmp, cmpI, Value.category, rd, tyF, va_rf, st1, st2, clr, isLg, CB, inx_0, inx_1, inx_2, inx_3, inx_4, inx_5, bI_0, bI_1, bI_ok, fin3, tyX12, entL, q0, dX12_isSure_0, dX12_isSure_1, dX12_isSure_4, dX12_isSure_7, dX12_isSure_8, dX12_isSure_11, dX12_isSure_12, dX12_isSure_13, dX12_isSure_14, dX12_isSure_15, dX12_isSure_16, dX12_isSure_18, dX12_isSure_21, dX12_isSure_22, fT_12_105, dX12_isSure_25, dX12_isSure_26, dX12_isSure_27, dX12_isSure_30, dX12_isSure_31, fT_12_99, dX12_isSure_34, dX12_isSure_35, dX12_isSure_36, dX12_isSure_39, dX12_isSure_40, dX12_isSure_41, dX12_isSure_44, dX12_isSure_47, dX12_isSure_48, dX12_isSure_49, dX12_isSure_50, dX12_isSure_51, fT_12_13, dX12_isSure_54, dX12_isSure_55, dX12_isSure_56, dX12_isSure_59, dX12_isSure_60, dX12_isSure_61, dX12_isSure_62, dX12_isSure_63, dX12_isSure_66, dX12_isSure_67, dX12_isSure_68, dX12_isSure_71, dX12_isSure_72, dX12_isSure_74, dX12_isSure_76, dX12_isSure_77, dX12_isSure_80, dX12_isSure_81, dX12_isSure_82, dX12_isSure_85, dX12_isSure_86, dX12_isSure_89, dX12_isSure_90, dX12_isSure_91, dX12_isSure_93, dX12_isSure_94, dX12_isSure_95, dX12_isSure_96, dX12_isSure_97, dX12_isSure_100, dX12_isSure_101, dX12_isSure_104, dX12_isSure_105, dX12_isSure_106, dX12_isSure_107, dX12_isSure_108, dX12_isSure_111, dX12_isSure_113, dX12_isSure_114, dX12_isSure_115, dX12_isSure_116, dX12_isSure_119, dX12_isSure_122, dX12_isSure_125, dX12_isSure_128, dX12_isSure_131, dX12_isSure_134, dX12_isSure_135]
    exact hP _ _ ⟨rfl, mI2, rfl, (h1.mono (by decide)).tr (g1.mono (by decide)), fun p hp => by rw [g1 _ _ (by decide), h2 p hp], fun p hp => by rw [g2 p hp, hB0]; rfl, fun t ht => by rw [g1 _ _ (by decide), h3 t ht]⟩
  have pup : ∀ mI2, Eqx [161] mI1 mI2 → mI2 131 0 = nI np := fun mI2 g => ((h1.mono (T := [159, 160, 161]) (by decide)).tr (g.mono (by decide)) _ _ (by decide)).trans hp.1
  have loopR : ∀ f i mI2 v3 v4, np - i < f → i ≤ np → Eqx [161] mI1 mI2 → (∀ p, p < 10 → mI2 161 p = nI (clR B0 np i p)) → G 49 [some (.ref 129), some (.int (bI bb)), some (.int (nI i)), v3, v4] [] (sh, mI2, mL, mR, n) := by
    intro f
    induction f with
    | zero => intro i mI2 v3 v4 h; omega
    | succ f ih =>
      intro i mI2 v3 v4 hf hi g1 g2
      have loopP : ∀ f2 j mI3 v4, np - j < f2 → j ≤ np → i < np → Eqx [161] mI1 mI3 → (∀ p, p < 10 → mI3 161 p = nI (clP (clR B0 np i) np j p)) → G 61 [some (.ref 129), some (.int (bI bb)), some (.int (nI i)), some (.int (nI j)), v4] [] (sh, mI3, mL, mR, n) := by
        intro f2
        induction f2 with
        | zero => intro j mI3 v4 h; omega
        | succ f2 ih2 =>
          intro j mI3 v4 hf2 hj hin g3 g4
          have loopQ : ∀ f3 k mI4, np - k < f3 → k ≤ np → j < np → Eqx [161] mI1 mI4 → (∀ p, p < 10 → mI4 161 p = nI (clQ (clP (clR B0 np i) np j) j k p)) → G 74 [some (.ref 129), some (.int (bI bb)), some (.int (nI i)), some (.int (nI j)), some (.int (nI k))] [] (sh, mI4, mL, mR, n) := by
            intro f3
            induction f3 with
            | zero => intro k mI4 h; omega
            | succ f3 ih3 =>
              intro k mI4 hf3 hk hjn g5 g6
              refine hG.run [61, 74] 60 ?_
              simp [wp, stepI, ln, jmp, cmpI, Value.category, rd, tyF, va_rf, st1, st2, clr, isLg, CB, inx_0, inx_1, inx_2, inx_3, inx_4, inx_5, bI_0, bI_1, bI_ok, fin3, tyX12, entL, q0, q_pupils, q_aheadOf, q_above, dX12_isSure_0, dX12_isSure_1, dX12_isSure_4, dX12_isSure_7, dX12_isSure_8, dX12_isSure_11, dX12_isSure_12, dX12_isSure_13, dX12_isSure_14, dX12_isSure_15, dX12_isSure_16, dX12_isSure_18, dX12_isSure_21, dX12_isSure_22, fT_12_105, dX12_isSure_25, dX12_isSure_26, dX12_isSure_27, dX12_isSure_30, dX12_isSure_31, fT_12_99, dX12_isSure_34, dX12_isSure_35, dX12_isSure_36, dX12_isSure_39, dX12_isSure_40, dX12_isSure_41, dX12_isSure_44, dX12_isSure_47, dX12_isSure_48, dX12_isSure_49, dX12_isSure_50, dX12_isSure_51, fT_12_13, dX12_isSure_54, dX12_isSure_55, dX12_isSure_56, dX12_isSure_59, dX12_isSure_60, dX12_isSure_61, dX12_isSure_62, dX12_isSure_63, dX12_isSure_66, dX12_isSure_67, dX12_isSure_68, dX12_isSure_71, dX12_isSure_72, dX12_isSure_74, dX12_isSure_76, dX12_isSure_77, dX12_isSure_80, dX12_isSure_81, dX12_isSure_82, dX12_isSure_85, dX12_isSure_86, dX12_isSure_89, dX12_isSure_90, dX12_isSure_91, dX12_isSure_93, dX12_isSure_94, dX12_isSure_95, dX12_isSure_96, dX12_isSure_97, dX12_isSure_100, dX12_isSure_101, dX12_isSure_104, dX12_isSure_105, dX12_isSure_106, dX12_isSure_107, dX12_isSure_108, dX12_isSure_111, dX12_isSure_113, dX12_isSure_114, dX12_isSure_115, dX12_isSure_116, dX12_isSure_119, dX12_isSure_122, dX12_isSure_125, dX12_isSure_128, dX12_isSure_131, dX12_isSure_134, dX12_isSure_135]
              have e0 := pup mI4 g5
              have b1 := clQ_lt (p := j) (clP_lt (np := np) (clR_lt (np := np) hB i) j) k j
              simp (disch := omega) only [li, nI_add, nI_clamp, nI_ltI, nI_leI, nI_eq, inx_iff, a31, nI_1shl', nI_shr', div_bit, tb1, tb0, fa_or, fa_and, nI_not, pk_sub, e0, g6]
              refine ⟨fun h => ih2 (j + 1) _ _ (by omega) (by omega) hin g5 (fun p hp => ?_), fun h => ?_⟩
              · rw [g6 p hp, show k = np by omega]; rfl
              · simp (disch := omega) only [li, nI_add, nI_clamp, nI_ltI, nI_leI, nI_eq, inx_iff, a31, nI_1shl', nI_shr', div_bit, tb1, tb0, fa_or, fa_and, nI_not, pk_sub, g6]
                refine ⟨by omega, fun z => ih3 (k + 1) _ (by omega) (by omega) hjn g5 (fun p hp => ?_), fun z => ⟨by omega, by omega, by omega, ih3 (k + 1) _ (by omega) (by omega) hjn (g5.up (by decide)) (fun p hp => ?_)⟩⟩
                · rw [g6 p hp]
                  show _ = nI (cl1 _ j k p)
                  unfold cl1
                  rw [if_neg z]
                · show _ = nI (cl1 _ j k p)
                  unfold cl1 upN
                  rw [if_pos z]
                  by_cases hpj : p = j
                  · subst hpj
                    rw [up2_eq, if_pos rfl]
                  · rw [up2_ne (fun y => hpj y.2), if_neg hpj, g6 p hp]
          refine hG.run [49, 74] 60 ?_
          simp [wp, stepI, ln, jmp, cmpI, Value.category, rd, tyF, va_rf, st1, st2, clr, isLg, CB, inx_0, inx_1, inx_2, inx_3, inx_4, inx_5, bI_0, bI_1, bI_ok, fin3, tyX12, entL, q0, q_pupils, q_aheadOf, q_above, dX12_isSure_0, dX12_isSure_1, dX12_isSure_4, dX12_isSure_7, dX12_isSure_8, dX12_isSure_11, dX12_isSure_12, dX12_isSure_13, dX12_isSure_14, dX12_isSure_15, dX12_isSure_16, dX12_isSure_18, dX12_isSure_21, dX12_isSure_22, fT_12_105, dX12_isSure_25, dX12_isSure_26, dX12_isSure_27, dX12_isSure_30, dX12_isSure_31, fT_12_99, dX12_isSure_34, dX12_isSure_35, dX12_isSure_36, dX12_isSure_39, dX12_isSure_40, dX12_isSure_41, dX12_isSure_44, dX12_isSure_47, dX12_isSure_48, dX12_isSure_49, dX12_isSure_50, dX12_isSure_51, fT_12_13, dX12_isSure_54, dX12_isSure_55, dX12_isSure_56, dX12_isSure_59, dX12_isSure_60, dX12_isSure_61, dX12_isSure_62, dX12_isSure_63, dX12_isSure_66, dX12_isSure_67, dX12_isSure_68, dX12_isSure_71, dX12_isSure_72, dX12_isSure_74, dX12_isSure_76, dX12_isSure_77, dX12_isSure_80, dX12_isSure_81, dX12_isSure_82, dX12_isSure_85, dX12_isSure_86, dX12_isSure_89, dX12_isSure_90, dX12_isSure_91, dX12_isSure_93, dX12_isSure_94, dX12_isSure_95, dX12_isSure_96, dX12_isSure_97, dX12_isSure_100, dX12_isSure_101, dX12_isSure_104, dX12_isSure_105, dX12_isSure_106, dX12_isSure_107, dX12_isSure_108, dX12_isSure_111, dX12_isSure_113, dX12_isSure_114, dX12_isSure_115, dX12_isSure_116, dX12_isSure_119, dX12_isSure_122, dX12_isSure_125, dX12_isSure_128, dX12_isSure_131, dX12_isSure_134, dX12_isSure_135]
          have e0 := pup mI3 g3
          simp (disch := omega) only [li, nI_add, nI_clamp, nI_ltI, nI_leI, nI_eq, inx_iff, a31, nI_1shl', nI_shr', div_bit, tb1, tb0, fa_or, fa_and, nI_not, pk_sub, e0]
          refine ⟨fun h => ih (i + 1) _ _ _ (by omega) (by omega) g3 (fun p hp => ?_), fun h => loopQ (np + 1) 0 _ (by omega) (by omega) h g3 (fun p hp => by rw [g4 p hp]; rfl)⟩
          rw [g4 p hp, show j = np by omega]; rfl
      refine hG.run [61, 134] 60 ?_
      simp [wp, stepI, ln, jmp, cmpI, Value.category, rd, tyF, va_rf, st1, st2, clr, isLg, CB, inx_0, inx_1, inx_2, inx_3, inx_4, inx_5, bI_0, bI_1, bI_ok, fin3, tyX12, entL, q0, q_pupils, q_aheadOf, q_above, dX12_isSure_0, dX12_isSure_1, dX12_isSure_4, dX12_isSure_7, dX12_isSure_8, dX12_isSure_11, dX12_isSure_12, dX12_isSure_13, dX12_isSure_14, dX12_isSure_15, dX12_isSure_16, dX12_isSure_18, dX12_isSure_21, dX12_isSure_22, fT_12_105, dX12_isSure_25, dX12_isSure_26, dX12_isSure_27, dX12_isSure_30, dX12_isSure_31, fT_12_99, dX12_isSure_34, dX12_isSure_35, dX12_isSure_36, dX12_isSure_39, dX12_isSure_40, dX12_isSure_41, dX12_isSure_44, dX12_isSure_47, dX12_isSure_48, dX12_isSure_49, dX12_isSure_50, dX12_isSure_51, fT_12_13, dX12_isSure_54, dX12_isSure_55, dX12_isSure_56, dX12_isSure_59, dX12_isSure_60, dX12_isSure_61, dX12_isSure_62, dX12_isSure_63, dX12_isSure_66, dX12_isSure_67, dX12_isSure_68, dX12_isSure_71, dX12_isSure_72, dX12_isSure_74, dX12_isSure_76, dX12_isSure_77, dX12_isSure_80, dX12_isSure_81, dX12_isSure_82, dX12_isSure_85, dX12_isSure_86, dX12_isSure_89, dX12_isSure_90, dX12_isSure_91, dX12_isSure_93, dX12_isSure_94, dX12_isSure_95, dX12_isSure_96, dX12_isSure_97, dX12_isSure_100, dX12_isSure_101, dX12_isSure_104, dX12_isSure_105, dX12_isSure_106, dX12_isSure_107, dX12_isSure_108, dX12_isSure_111, dX12_isSure_113, dX12_isSure_114, dX12_isSure_115, dX12_isSure_116, dX12_isSure_119, dX12_isSure_122, dX12_isSure_125, dX12_isSure_128, dX12_isSure_131, dX12_isSure_134, dX12_isSure_135]
      have e0 := pup mI2 g1
      simp (disch := omega) only [li, nI_add, nI_clamp, nI_ltI, nI_leI, nI_eq, inx_iff, a31, nI_1shl', nI_shr', div_bit, tb1, tb0, fa_or, fa_and, nI_not, pk_sub, e0]
      refine ⟨fun h => fin _ g1 (fun p hp => by rw [g2 p hp, show i = np by omega]) _ _ _, fun h => loopP (np + 1) 0 _ _ (by omega) (by omega) h g1 (fun p hp => by rw [g2 p hp]; rfl)⟩
  have loop1 : ∀ f i mI2 v3 v4, 10 - i < f → i ≤ 10 → Eqx [161] mI1 mI2 → (∀ p, p < i → mI2 161 p = nI (B0 p)) → G 15 [some (.ref 129), some (.int (bI bb)), some (.int (nI i)), v3, v4] [] (sh, mI2, mL, mR, n) := by
    intro f
    induction f with
    | zero => intro i mI2 v3 v4 h; omega
    | succ f ih =>
      intro i mI2 v3 v4 hf hi g1 g2
      refine hG.run [15, 49] 60 ?_
      simp [wp, stepI, ln, jmp, cmpI, Value.category, rd, tyF, va_rf, st1, st2, clr, isLg, CB, inx_0, inx_1, inx_2, inx_3, inx_4, inx_5, bI_0, bI_1, bI_ok, fin3, tyX12, entL, q0, q_pupils, q_aheadOf, q_above, dX12_isSure_0, dX12_isSure_1, dX12_isSure_4, dX12_isSure_7, dX12_isSure_8, dX12_isSure_11, dX12_isSure_12, dX12_isSure_13, dX12_isSure_14, dX12_isSure_15, dX12_isSure_16, dX12_isSure_18, dX12_isSure_21, dX12_isSure_22, fT_12_105, dX12_isSure_25, dX12_isSure_26, dX12_isSure_27, dX12_isSure_30, dX12_isSure_31, fT_12_99, dX12_isSure_34, dX12_isSure_35, dX12_isSure_36, dX12_isSure_39, dX12_isSure_40, dX12_isSure_41, dX12_isSure_44, dX12_isSure_47, dX12_isSure_48, dX12_isSure_49, dX12_isSure_50, dX12_isSure_51, fT_12_13, dX12_isSure_54, dX12_isSure_55, dX12_isSure_56, dX12_isSure_59, dX12_isSure_60, dX12_isSure_61, dX12_isSure_62, dX12_isSure_63, dX12_isSure_66, dX12_isSure_67, dX12_isSure_68, dX12_isSure_71, dX12_isSure_72, dX12_isSure_74, dX12_isSure_76, dX12_isSure_77, dX12_isSure_80, dX12_isSure_81, dX12_isSure_82, dX12_isSure_85, dX12_isSure_86, dX12_isSure_89, dX12_isSure_90, dX12_isSure_91, dX12_isSure_93, dX12_isSure_94, dX12_isSure_95, dX12_isSure_96, dX12_isSure_97, dX12_isSure_100, dX12_isSure_101, dX12_isSure_104, dX12_isSure_105, dX12_isSure_106, dX12_isSure_107, dX12_isSure_108, dX12_isSure_111, dX12_isSure_113, dX12_isSure_114, dX12_isSure_115, dX12_isSure_116, dX12_isSure_119, dX12_isSure_122, dX12_isSure_125, dX12_isSure_128, dX12_isSure_131, dX12_isSure_134, dX12_isSure_135]
      simp (disch := omega) only [li, nI_add, nI_clamp, nI_ltI, nI_leI, nI_eq, inx_iff, a31, nI_1shl', nI_shr', div_bit, tb1, tb0, fa_or, fa_and, nI_not, pk_sub]
      refine ⟨fun h => loopR (np + 1) 0 _ _ _ (by omega) (by omega) g1 (fun p hp => by rw [g2 p (by omega)]; rfl), fun h => ?_⟩
      have nx : ∀ v, v = nI (B0 i) → G 15 [some (.ref 129), some (.int (bI bb)), some (.int (nI (i + 1))), v3, v4] [] (sh, up2 mI2 161 i v, mL, mR, n) := fun v hv => ih (i + 1) _ _ _ (by omega) (by omega) (g1.up (by decide)) (fun p hp => by
        by_cases hpi : p = i
        · subst hpi; rw [up2_eq, hv]
        · rw [up2_ne (fun y => hpi y.2), g2 p (by omega)])
      refine ⟨fun z => ⟨by omega, nx _ ?_⟩, fun z => ⟨by omega, nx _ ?_⟩⟩
      · have z2 : ¬ 0 < ordN np c fi se := by rw [hbb] at z; simpa using z
        rw [hB0]; dsimp only; rw [if_neg z2]
      · have z2 : 0 < ordN np c fi se := by rw [hbb] at z; simpa using z
        rw [g1 _ _ (by decide), h2 i h, hB0]; dsimp only; rw [if_pos z2]
  refine hG.run [15] 60 ?_
  simp [wp, stepI, ln, jmp, cmpI, Value.category, rd, tyF, va_rf, st1, st2, clr, isLg, CB, inx_0, inx_1, inx_2, inx_3, inx_4, inx_5, bI_0, bI_1, bI_ok, fin3, tyX12, entL, q0, q_pupils, q_aheadOf, q_above, dX12_isSure_0, dX12_isSure_1, dX12_isSure_4, dX12_isSure_7, dX12_isSure_8, dX12_isSure_11, dX12_isSure_12, dX12_isSure_13, dX12_isSure_14, dX12_isSure_15, dX12_isSure_16, dX12_isSure_18, dX12_isSure_21, dX12_isSure_22, fT_12_105, dX12_isSure_25, dX12_isSure_26, dX12_isSure_27, dX12_isSure_30, dX12_isSure_31, fT_12_99, dX12_isSure_34, dX12_isSure_35, dX12_isSure_36, dX12_isSure_39, dX12_isSure_40, dX12_isSure_41, dX12_isSure_44, dX12_isSure_47, dX12_isSure_48, dX12_isSure_49, dX12_isSure_50, dX12_isSure_51, fT_12_13, dX12_isSure_54, dX12_isSure_55, dX12_isSure_56, dX12_isSure_59, dX12_isSure_60, dX12_isSure_61, dX12_isSure_62, dX12_isSure_63, dX12_isSure_66, dX12_isSure_67, dX12_isSure_68, dX12_isSure_71, dX12_isSure_72, dX12_isSure_74, dX12_isSure_76, dX12_isSure_77, dX12_isSure_80, dX12_isSure_81, dX12_isSure_82, dX12_isSure_85, dX12_isSure_86, dX12_isSure_89, dX12_isSure_90, dX12_isSure_91, dX12_isSure_93, dX12_isSure_94, dX12_isSure_95, dX12_isSure_96, dX12_isSure_97, dX12_isSure_100, dX12_isSure_101, dX12_isSure_104, dX12_isSure_105, dX12_isSure_106, dX12_isSure_107, dX12_isSure_108, dX12_isSure_111, dX12_isSure_113, dX12_isSure_114, dX12_isSure_115, dX12_isSure_116, dX12_isSure_119, dX12_isSure_122, dX12_isSure_125, dX12_isSure_128, dX12_isSure_131, dX12_isSure_134, dX12_isSure_135]
  simp (disch := omega) only [li, nI_add, nI_clamp, nI_ltI, nI_leI, nI_eq, inx_iff, a31, nI_1shl', nI_shr', div_bit, tb1, tb0, fa_or, fa_and, nI_not, pk_sub]
  have go := loop1 11 0 mI1 none none (by omega) (by omega) Eqx.rf (fun p hp => by omega)
  refine ⟨fun h => ?_, fun h => ?_⟩
  · rw [hbb, decide_eq_false (by omega)] at go
    exact go
  · rw [hbb, decide_eq_true h] at go
    exact go
