/-- with whom each one is, how many were found, those that were wanted -/
abbrev PS : Type := (Nat → Nat) × Nat × (Nat → Int32)
def lowN (t : Nat) : Nat := fa_first (fun p => t.testBit p) 10
def fdB (g : Nat → PS → PS) : Nat → PS → PS
  | 0, s => s
  | b + 1, s => g b (fdB g b s)
theorem fdB_s (g : Nat → PS → PS) (b : Nat) (s : PS) : fdB g (b + 1) s = g b (fdB g b s) := rfl
noncomputable def prF (np : Nat) (W : Nat → Nat → Int32) (i : Int32) : Nat → Nat → PS → PS
  | 0 => fun _ s => s
  | f + 1 => fun t s => if t = 0 then (if atRB np s.1 W then (s.1, s.2.1 + 1, if nI s.2.1 = i then fun p => nI (s.1 p) else s.2.2) else s) else fdB (fun b s => if decide (lowN t < b) && t.testBit b then prF np W i f (anot (anot t (2 ^ lowN t)) (2 ^ b)) (upN (upN s.1 (lowN t) b) b (lowN t), s.2) else s) np s
noncomputable def prG (np : Nat) (W : Nat → Nat → Int32) (i : Int32) (f t : Nat) (b : Nat) (s : PS) : PS := if decide (lowN t < b) && t.testBit b then prF np W i f (anot (anot t (2 ^ lowN t)) (2 ^ b)) (upN (upN s.1 (lowN t) b) b (lowN t), s.2) else s
theorem prG_d (np : Nat) (W : Nat → Nat → Int32) (i : Int32) (f t b : Nat) (s : PS) : prG np W i f t b s = if decide (lowN t < b) && t.testBit b then prF np W i f (anot (anot t (2 ^ lowN t)) (2 ^ b)) (upN (upN s.1 (lowN t) b) b (lowN t), s.2) else s := rfl
theorem prF_s (np : Nat) (W : Nat → Nat → Int32) (i : Int32) (f t : Nat) (s : PS) : prF np W i (f + 1) t s = if t = 0 then (if atRB np s.1 W then (s.1, s.2.1 + 1, if nI s.2.1 = i then fun p => nI (s.1 p) else s.2.2) else s) else fdB (prG np W i f t) np s := rfl
theorem low_ok {t : Nat} (h0 : t ≠ 0) (ht : t < 1024) : t.testBit (lowN t) = true ∧ lowN t < 10 := by
  have hl : lowN t < 10 := by
    rcases Nat.lt_or_ge (lowN t) 10 with y | y
    · exact y
    · refine absurd (Nat.eq_of_testBit_eq fun i => ?_ : t = 0) h0
      rw [Nat.zero_testBit]
      rcases Nat.lt_or_ge i 10 with w | w
      · exact fa_first_no (fun p => t.testBit p) 10 i (by show i < lowN t; omega)
      · exact Nat.testBit_lt_two_pow (Nat.lt_of_lt_of_le ht (Nat.pow_le_pow_right (n := 2) (by decide) w))
  exact ⟨fa_first_yes (fun p => t.testBit p) 10 hl, hl⟩
theorem prF_w {np : Nat} {W : Nat → Nat → Int32} {i : Int32} : ∀ (f t : Nat) (s : PS) (p : Nat), t < 1024 → t.testBit p = false → (prF np W i f t s).1 p = s.1 p
  | 0, t, s, p, _, _ => rfl
  | f + 1, t, s, p, ht, hp => by
    rw [prF_s]
    split
    · split <;> rfl
    · rename_i h0
      have hl := low_ok h0 ht
      have hn : p ≠ lowN t := fun e => by rw [← e, hp] at hl; cases hl.1
      have fd : ∀ k, (fdB (prG np W i f t) k s).1 p = s.1 p := by
        intro k
        induction k with
        | zero => rfl
        | succ k ih =>
          rw [fdB_s, prG_d]
          split
          · rename_i hc
            simp only [Bool.and_eq_true] at hc
            have hk : p ≠ k := fun e => by rw [← e, hp] at hc; cases hc.2
            rw [prF_w f _ _ p (Nat.lt_of_le_of_lt (Nat.le_trans (anot_le _ _) (anot_le _ _)) ht) (by rw [anot_bit, anot_bit, hp]; rfl)]
            show upN (upN (fdB (prG np W i f t) k s).1 (lowN t) k) k (lowN t) p = s.1 p
            unfold upN
            rw [if_neg hk, if_neg hn]
            exact ih
          · exact ih
      exact fd np
theorem prF_n {np : Nat} (hnp : np ≤ 10) {W : Nat → Nat → Int32} {i : Int32} : ∀ (f t : Nat) (s : PS), (prF np W i f t s).2.1 ≤ s.2.1 + 10 ^ f
  | 0, t, s => Nat.le_add_right _ _
  | f + 1, t, s => by
    rw [prF_s]
    have h1 : 0 < 10 ^ f := Nat.pow_pos (by decide)
    have h2 : 10 ^ (f + 1) = 10 * 10 ^ f := by rw [Nat.pow_succ]; omega
    split
    · split
      · show s.2.1 + 1 ≤ _; omega
      · omega
    · have fd : ∀ k, (fdB (prG np W i f t) k s).2.1 ≤ s.2.1 + k * 10 ^ f := by
        intro k
        induction k with
        | zero => show s.2.1 ≤ _; omega
        | succ k ih =>
          rw [fdB_s, prG_d, Nat.succ_mul]
          split
          · have := prF_n hnp (W := W) (i := i) f (anot (anot t (2 ^ lowN t)) (2 ^ k)) (upN (upN (fdB (prG np W i f t) k s).1 (lowN t) k) k (lowN t), (fdB (prG np W i f t) k s).2)
            exact Nat.le_trans this (by show (fdB (prG np W i f t) k s).2.1 + _ ≤ _; omega)
          · omega
      have := Nat.mul_le_mul_right (10 ^ f) hnp
      exact Nat.le_trans (fd np) (by omega)
def PrM (mI : Nat → Nat → Int32) (np t : Nat) (i : Int32) (s : PS) : Prop := (∀ p, p < np → t.testBit p = false → mI 167 p = nI (s.1 p) ∧ s.1 p < np) ∧ mI 129 57 = nI s.2.1 ∧ mI 129 58 = i ∧ ∀ p, p < np → mI 169 p = s.2.2 p
set_option maxHeartbeats 4000000 in
set_option maxRecDepth 100000 in
theorem c12_pairs (np : Nat) (W : Nat → Nat → Int32) (i : Int32) : ∀ (fu : Nat) (l : Launch) (X : Cx) (d : Nat) (sh : Nat → Option Sh) (mI : Nat → Nat → Int32) (mL : Nat → Nat → Int64) (mR : Nat → Nat → Option Nat) (n : Nat) (hL : ML sh mR) (hp : PupM mI np) (hWi : ∀ a b, a < np → b < np → mI 168 (10 * a + b) = W a b) (t : Nat) (ht : t < 2 ^ np) (s : PS) (hs : PrM mI np t i s) (hfu : pcn t < 2 * fu) (hf : s.2.1 + 10 ^ fu ≤ 1000000) (hd : fu + 1 ≤ d), Cn l X yX12_pairs cX12_pairs 4 none d [.ref 129, .int (nI t)] (sh, mI, mL, mR, n) (fun r M' => r = none ∧ ∃ mI', M' = (sh, mI', mL, mR, n) ∧ Eqf [167, 169] [57] mI mI' ∧ PrM mI' np t i (prF np W i fu t s)) 0 0 := by
  intro fu
  induction fu with
  | zero => intro l X d sh mI mL mR n hL hp hWi t ht s hs h; omega
  | succ fu ihf =>
  intro l X d sh mI mL mR n hL hp hWi t ht s hs hfu hf hd
  refine Cn.run 12 false (by decide) rfl (by decide) (by simp [entA, Value.category]) ?_
  intro P G hP hG
  have q0 := hL.1
  have q_pupils := hL.2 (10, 131, .int, 6) (by decide)
  dsimp only at q_pupils
  have q_with := hL.2 (55, 167, .int, 10) (by decide)
  dsimp only at q_with
  have q_restWith := hL.2 (59, 169, .int, 10) (by decide)
  dsimp only at q_restWith
  have hpp := hp.2
  have hpw := p2_10 hpp
  have e0 := hp.1
  have h10 : 0 < 10 ^ fu := Nat.pow_pos (by decide)
  have h11 : 10 ^ (fu + 1) = 10 * 10 ^ fu := by rw [Nat.pow_succ]; omega
  by_cases h0 : t = 0
  · subst h0
    rw [prF_s, if_pos rfl] at hP
    obtain ⟨p1, p2, p3, p4⟩ := hs
    have p1' : ∀ p, p < np → mI 167 p = nI (s.1 p) ∧ s.1 p < np := fun p hp => p1 p hp (Nat.zero_testBit _)
    refine hG.run [14] 60 ?_
    simp [wp, stepI, ln, jmp, cmpI, Value.category, rd, tyF, va_rf, st1, st2, clr, isLg, CB, inx_0, inx_1, inx_2, inx_3, inx_4, inx_5, bI_0, bI_1, bI_ok, fin3, tyX12, entL, q0, dX12_pairs_0, dX12_pairs_1, dX12_pairs_4, dX12_pairs_5, dX12_pairs_8, dX12_pairs_11, dX12_pairs_12, dX12_pairs_13, dX12_pairs_14, dX12_pairs_15, dX12_pairs_17, dX12_pairs_20, dX12_pairs_21, fT_12_428, dX12_pairs_24, dX12_pairs_25, fT_12_431, dX12_pairs_28, dX12_pairs_31, dX12_pairs_32, fT_12_129, dX12_pairs_35, dX12_pairs_36, dX12_pairs_37, fT_12_123, dX12_pairs_40, dX12_pairs_41, dX12_pairs_42, dX12_pairs_43, dX12_pairs_46, dX12_pairs_49, dX12_pairs_50, dX12_pairs_51, dX12_pairs_54, dX12_pairs_55, dX12_pairs_56, dX12_pairs_59, dX12_pairs_60, dX12_pairs_61, dX12_pairs_62, dX12_pairs_63, dX12_pairs_64, dX12_pairs_65, dX12_pairs_66, dX12_pairs_67, dX12_pairs_70, dX12_pairs_73, dX12_pairs_76, dX12_pairs_77, dX12_pairs_78, dX12_pairs_79, dX12_pairs_80, dX12_pairs_81, dX12_pairs_82, fT_12_13, dX12_pairs_85, dX12_pairs_86, dX12_pairs_87, dX12_pairs_90, dX12_pairs_91, dX12_pairs_92, dX12_pairs_93, dX12_pairs_94, dX12_pairs_95, dX12_pairs_98, dX12_pairs_101, dX12_pairs_102, dX12_pairs_105, dX12_pairs_106, dX12_pairs_107, dX12_pairs_108, dX12_pairs_109, dX12_pairs_112, dX12_pairs_113, dX12_pairs_114, dX12_pairs_115, dX12_pairs_116, dX12_pairs_117, dX12_pairs_118, dX12_pairs_119, dX12_pairs_120, dX12_pairs_121, dX12_pairs_122, dX12_pairs_123, dX12_pairs_124, dX12_pairs_125, dX12_pairs_126, dX12_pairs_127, dX12_pairs_128, dX12_pairs_129, dX12_pairs_132, dX12_pairs_135, dX12_pairs_138]
    simp (disch := omega) only [li, nI_add, nI_clamp, nI_ltI, nI_leI, nI_eq, inx_iff, a31, nI_1shl', nI_shr', div_bit, tb1, tb0, fa_or, fa_and, nI_not, pk_sub, nI_dec]
    refine ⟨fun w => absurd trivial w, fun _ => ?_⟩
    refine hG.callV dX12_pairs_5 mv_12_425 [] [] (c12_areAtRest l X (d - 1) sh mI mL mR n hL np hp s.1 p1' W hWi) ⟨_, rfl, rfl⟩ q0 (by omega) rfl (by decide) (by simp [Value.category]) rfl ?_
    rintro r M' ⟨rfl, rfl⟩
    have fin : atRB np s.1 W = true → ∀ k mI1 v3, Eqf [167, 169] [57] mI mI1 → (∀ p, p < np → mI1 167 p = mI 167 p) → (∀ x, mI1 129 x = mI 129 x) → (∀ p, p < np → mI1 169 p = (if nI s.2.1 = i then fun p => nI (s.1 p) else s.2.2) p) → G 49 [some (.ref 129), some (.int (nI 0)), some (.int (nI k)), v3] [] (sh, mI1, mL, mR, n) := fun hat k mI1 v3 g1 g2 g3 g4 => by
      have u1 := (g3 57).trans p2
      rw [hat] at hP
      simp only [if_true] at hP
      refine hG.run [] 60 ?_
      simp [wp, stepI, ln, jmp, cmpI, Value.category, rd, tyF, va_rf, st1, st2, clr, isLg, CB, inx_0, inx_1, inx_2, inx_3, inx_4, inx_5, bI_0, bI_1, bI_ok, fin3, tyX12, entL, q0, okv, wr, finF, clT, TX12, dX12_pairs_0, dX12_pairs_1, dX12_pairs_4, dX12_pairs_5, dX12_pairs_8, dX12_pairs_11, dX12_pairs_12, dX12_pairs_13, dX12_pairs_14, dX12_pairs_15, dX12_pairs_17, dX12_pairs_20, dX12_pairs_21, fT_12_428, dX12_pairs_24, dX12_pairs_25, fT_12_431, dX12_pairs_28, dX12_pairs_31, dX12_pairs_32, fT_12_129, dX12_pairs_35, dX12_pairs_36, dX12_pairs_37, fT_12_123, dX12_pairs_40, dX12_pairs_41, dX12_pairs_42, dX12_pairs_43, dX12_pairs_46, dX12_pairs_49, dX12_pairs_50, dX12_pairs_51, dX12_pairs_54, dX12_pairs_55, dX12_pairs_56, dX12_pairs_59, dX12_pairs_60, dX12_pairs_61, dX12_pairs_62, dX12_pairs_63, dX12_pairs_64, dX12_pairs_65, dX12_pairs_66, dX12_pairs_67, dX12_pairs_70, dX12_pairs_73, dX12_pairs_76, dX12_pairs_77, dX12_pairs_78, dX12_pairs_79, dX12_pairs_80, dX12_pairs_81, dX12_pairs_82, fT_12_13, dX12_pairs_85, dX12_pairs_86, dX12_pairs_87, dX12_pairs_90, dX12_pairs_91, dX12_pairs_92, dX12_pairs_93, dX12_pairs_94, dX12_pairs_95, dX12_pairs_98, dX12_pairs_101, dX12_pairs_102, dX12_pairs_105, dX12_pairs_106, dX12_pairs_107, dX12_pairs_108, dX12_pairs_109, dX12_pairs_112, dX12_pairs_113, dX12_pairs_114, dX12_pairs_115, dX12_pairs_116, dX12_pairs_117, dX12_pairs_118, dX12_pairs_119, dX12_pairs_120, dX12_pairs_121, dX12_pairs_122, dX12_pairs_123, dX12_pairs_124, dX12_pairs_125, dX12_pairs_126, dX12_pairs_127, dX12_pairs_128, dX12_pairs_129, dX12_pairs_132, dX12_pairs_135, dX12_pairs_138]
      simp (disch := omega) only [li, nI_add, nI_clamp, nI_ltI, nI_leI, nI_eq, inx_iff, a31, nI_1shl', nI_shr', div_bit, tb1, tb0, fa_or, fa_and, nI_not, pk_sub, nI_dec, u1]
      refine hP _ _ ⟨rfl, _, rfl, g1.upf (by decide), fun p hp _ => ?_, ?_, ?_, fun p hp => ?_⟩
      · rw [up2_ne (fun w => by cases w.1), g2 p hp]; exact p1' p hp
      · exact up2_eq _ _ _ _
      · rw [up2_ne (fun w => by cases w.2)]; exact (g3 _).trans p3
      · rw [up2_ne (fun w => by cases w.1)]; exact g4 p hp
    have loop : atRB np s.1 W = true → nI s.2.1 = i → ∀ f k mI1 v3, 10 - k < f → k ≤ 10 → Eqf [167, 169] [57] mI mI1 → (∀ p, mI1 167 p = mI 167 p) → (∀ x, mI1 129 x = mI 129 x) → (∀ p, p < np → p < k → mI1 169 p = nI (s.1 p)) → G 14 [some (.ref 129), some (.int (nI 0)), some (.int (nI k)), v3] [] (sh, mI1, mL, mR, n) := by
      intro hat hi f
      induction f with
      | zero => intro k mI1 v3 h; omega
      | succ f ih =>
        intro k mI1 v3 hf hk g1 g2 g3 g4
        have u1 := (g3 57).trans p2
        have u2 := (g3 58).trans p3
        have lst : k = 10 → G 49 [some (.ref 129), some (.int (nI 0)), some (.int (nI k)), v3] [] (sh, mI1, mL, mR, n) := fun hk => fin hat k mI1 v3 g1 (fun p _ => g2 p) g3 (fun p hp => by rw [if_pos hi]; exact g4 p hp (by omega))
        refine hG.run [14, 49] 60 ?_
        simp [wp, stepI, ln, jmp, cmpI, Value.category, rd, tyF, va_rf, st1, st2, clr, isLg, CB, inx_0, inx_1, inx_2, inx_3, inx_4, inx_5, bI_0, bI_1, bI_ok, fin3, tyX12, entL, q0, q_with, q_restWith, dX12_pairs_0, dX12_pairs_1, dX12_pairs_4, dX12_pairs_5, dX12_pairs_8, dX12_pairs_11, dX12_pairs_12, dX12_pairs_13, dX12_pairs_14, dX12_pairs_15, dX12_pairs_17, dX12_pairs_20, dX12_pairs_21, fT_12_428, dX12_pairs_24, dX12_pairs_25, fT_12_431, dX12_pairs_28, dX12_pairs_31, dX12_pairs_32, fT_12_129, dX12_pairs_35, dX12_pairs_36, dX12_pairs_37, fT_12_123, dX12_pairs_40, dX12_pairs_41, dX12_pairs_42, dX12_pairs_43, dX12_pairs_46, dX12_pairs_49, dX12_pairs_50, dX12_pairs_51, dX12_pairs_54, dX12_pairs_55, dX12_pairs_56, dX12_pairs_59, dX12_pairs_60, dX12_pairs_61, dX12_pairs_62, dX12_pairs_63, dX12_pairs_64, dX12_pairs_65, dX12_pairs_66, dX12_pairs_67, dX12_pairs_70, dX12_pairs_73, dX12_pairs_76, dX12_pairs_77, dX12_pairs_78, dX12_pairs_79, dX12_pairs_80, dX12_pairs_81, dX12_pairs_82, fT_12_13, dX12_pairs_85, dX12_pairs_86, dX12_pairs_87, dX12_pairs_90, dX12_pairs_91, dX12_pairs_92, dX12_pairs_93, dX12_pairs_94, dX12_pairs_95, dX12_pairs_98, dX12_pairs_101, dX12_pairs_102, dX12_pairs_105, dX12_pairs_106, dX12_pairs_107, dX12_pairs_108, dX12_pairs_109, dX12_pairs_112, dX12_pairs_113, dX12_pairs_114, dX12_pairs_115, dX12_pairs_116, dX12_pairs_117, dX12_pairs_118, dX12_pairs_119, dX12_pairs_120, dX12_pairs_121, dX12_pairs_122, dX12_pairs_123, dX12_pairs_124, dX12_pairs_125, dX12_pairs_126, dX12_pairs_127, dX12_pairs_128, dX12_pairs_129, dX12_pairs_132, dX12_pairs_135, dX12_pairs_138]
        simp (disch := omega) only [li, nI_add, nI_clamp, nI_ltI, nI_leI, nI_eq, inx_iff, a31, nI_1shl', nI_shr', div_bit, tb1, tb0, fa_or, fa_and, nI_not, pk_sub, nI_dec, u1, u2]
        refine ⟨fun z => lst (by omega), fun z => ⟨fun z2 => absurd hi z2, fun _ => ?_⟩⟩
        refine ⟨by omega, ih (k + 1) _ v3 (by omega) (by omega) (fun a j ha hj => ?_) (fun p => ?_) (fun x => ?_) (fun p hp hk2 => ?_)⟩
        · rw [up2_ne (fun w => ha (by rw [w.1]; decide))]; exact g1 a j ha hj
        · rw [up2_ne (fun w => by cases w.1)]; exact g2 p
        · rw [up2_ne (fun w => by cases w.1)]; exact g3 x
        · by_cases e : p = k
          · rw [e, up2_eq, g2, ← e]; exact (p1' p hp).1
          · rw [up2_ne (fun w => e w.2)]; exact g4 p hp (by omega)
    refine hG.run [14] 60 ?_
    simp [wp, stepI, ln, jmp, cmpI, Value.category, rd, tyF, va_rf, st1, st2, clr, isLg, CB, inx_0, inx_1, inx_2, inx_3, inx_4, inx_5, bI_0, bI_1, bI_ok, fin3, tyX12, entL, q0, dX12_pairs_0, dX12_pairs_1, dX12_pairs_4, dX12_pairs_5, dX12_pairs_8, dX12_pairs_11, dX12_pairs_12, dX12_pairs_13, dX12_pairs_14, dX12_pairs_15, dX12_pairs_17, dX12_pairs_20, dX12_pairs_21, fT_12_428, dX12_pairs_24, dX12_pairs_25, fT_12_431, dX12_pairs_28, dX12_pairs_31, dX12_pairs_32, fT_12_129, dX12_pairs_35, dX12_pairs_36, dX12_pairs_37, fT_12_123, dX12_pairs_40, dX12_pairs_41, dX12_pairs_42, dX12_pairs_43, dX12_pairs_46, dX12_pairs_49, dX12_pairs_50, dX12_pairs_51, dX12_pairs_54, dX12_pairs_55, dX12_pairs_56, dX12_pairs_59, dX12_pairs_60, dX12_pairs_61, dX12_pairs_62, dX12_pairs_63, dX12_pairs_64, dX12_pairs_65, dX12_pairs_66, dX12_pairs_67, dX12_pairs_70, dX12_pairs_73, dX12_pairs_76, dX12_pairs_77, dX12_pairs_78, dX12_pairs_79, dX12_pairs_80, dX12_pairs_81, dX12_pairs_82, fT_12_13, dX12_pairs_85, dX12_pairs_86, dX12_pairs_87, dX12_pairs_90, dX12_pairs_91, dX12_pairs_92, dX12_pairs_93, dX12_pairs_94, dX12_pairs_95, dX12_pairs_98, dX12_pairs_101, dX12_pairs_102, dX12_pairs_105, dX12_pairs_106, dX12_pairs_107, dX12_pairs_108, dX12_pairs_109, dX12_pairs_112, dX12_pairs_113, dX12_pairs_114, dX12_pairs_115, dX12_pairs_116, dX12_pairs_117, dX12_pairs_118, dX12_pairs_119, dX12_pairs_120, dX12_pairs_121, dX12_pairs_122, dX12_pairs_123, dX12_pairs_124, dX12_pairs_125, dX12_pairs_126, dX12_pairs_127, dX12_pairs_128, dX12_pairs_129, dX12_pairs_132, dX12_pairs_135, dX12_pairs_138]
    refine ⟨fun z => ?_, fun z => hP _ _ ⟨rfl, mI, rfl, Eqf.rf, ?_⟩⟩
    · by_cases hi : nI s.2.1 = i
      · exact loop z hi 11 0 mI _ (by omega) (by omega) Eqf.rf (fun _ => rfl) (fun _ => rfl) (fun p _ h => by omega)
      · refine hG.run [49] 60 ?_
        simp [wp, stepI, ln, jmp, cmpI, Value.category, rd, tyF, va_rf, st1, st2, clr, isLg, CB, inx_0, inx_1, inx_2, inx_3, inx_4, inx_5, bI_0, bI_1, bI_ok, fin3, tyX12, entL, q0, p2, p3, dX12_pairs_0, dX12_pairs_1, dX12_pairs_4, dX12_pairs_5, dX12_pairs_8, dX12_pairs_11, dX12_pairs_12, dX12_pairs_13, dX12_pairs_14, dX12_pairs_15, dX12_pairs_17, dX12_pairs_20, dX12_pairs_21, fT_12_428, dX12_pairs_24, dX12_pairs_25, fT_12_431, dX12_pairs_28, dX12_pairs_31, dX12_pairs_32, fT_12_129, dX12_pairs_35, dX12_pairs_36, dX12_pairs_37, fT_12_123, dX12_pairs_40, dX12_pairs_41, dX12_pairs_42, dX12_pairs_43, dX12_pairs_46, dX12_pairs_49, dX12_pairs_50, dX12_pairs_51, dX12_pairs_54, dX12_pairs_55, dX12_pairs_56, dX12_pairs_59, dX12_pairs_60, dX12_pairs_61, dX12_pairs_62, dX12_pairs_63, dX12_pairs_64, dX12_pairs_65, dX12_pairs_66, dX12_pairs_67, dX12_pairs_70, dX12_pairs_73, dX12_pairs_76, dX12_pairs_77, dX12_pairs_78, dX12_pairs_79, dX12_pairs_80, dX12_pairs_81, dX12_pairs_82, fT_12_13, dX12_pairs_85, dX12_pairs_86, dX12_pairs_87, dX12_pairs_90, dX12_pairs_91, dX12_pairs_92, dX12_pairs_93, dX12_pairs_94, dX12_pairs_95, dX12_pairs_98, dX12_pairs_101, dX12_pairs_102, dX12_pairs_105, dX12_pairs_106, dX12_pairs_107, dX12_pairs_108, dX12_pairs_109, dX12_pairs_112, dX12_pairs_113, dX12_pairs_114, dX12_pairs_115, dX12_pairs_116, dX12_pairs_117, dX12_pairs_118, dX12_pairs_119, dX12_pairs_120, dX12_pairs_121, dX12_pairs_122, dX12_pairs_123, dX12_pairs_124, dX12_pairs_125, dX12_pairs_126, dX12_pairs_127, dX12_pairs_128, dX12_pairs_129, dX12_pairs_132, dX12_pairs_135, dX12_pairs_138]
        refine ⟨fun _ => fin z 0 mI _ Eqf.rf (fun _ _ => rfl) (fun _ => rfl) (fun p hp => by rw [if_neg hi]; exact p4 p hp), fun w => absurd w hi⟩
    · rw [z]; exact ⟨p1, p2, p3, p4⟩
  · have hl := low_ok h0 (by omega)
    rw [prF_s, if_neg h0] at hP
    have hln : lowN t < np := by
      rcases Nat.lt_or_ge (lowN t) np with y | y
      · exact y
      · have := Nat.testBit_lt_two_pow (x := t) (i := lowN t) (Nat.lt_of_lt_of_le ht (Nat.pow_le_pow_right (n := 2) (by decide) y))
        rw [this] at hl; cases hl.1
    have hl2 := p2_le10 (k := lowN t) hl.2
    have main : ∀ f b mI1, np - b < f → b ≤ np → lowN t < b → Eqf [167, 169] [57] mI mI1 → PrM mI1 np t i (fdB (prG np W i fu t) b s) → (fdB (prG np W i fu t) b s).2.1 ≤ s.2.1 + b * 10 ^ fu → G 80 [some (.ref 129), some (.int (nI t)), some (.int (nI (lowN t))), some (.int (nI b))] [] (sh, mI1, mL, mR, n) := by
      intro f
      induction f with
      | zero => intro b mI1 h; omega
      | succ f ih =>
        intro b mI1 hf2 hb hlb g1 g2 g3
        have e1 := (hp.eqf g1 (by decide)).1
        refine hG.run [80] 60 ?_
        simp [wp, stepI, ln, jmp, cmpI, Value.category, rd, tyF, va_rf, st1, st2, clr, isLg, CB, inx_0, inx_1, inx_2, inx_3, inx_4, inx_5, bI_0, bI_1, bI_ok, fin3, tyX12, entL, q0, q_pupils, q_with, dX12_pairs_0, dX12_pairs_1, dX12_pairs_4, dX12_pairs_5, dX12_pairs_8, dX12_pairs_11, dX12_pairs_12, dX12_pairs_13, dX12_pairs_14, dX12_pairs_15, dX12_pairs_17, dX12_pairs_20, dX12_pairs_21, fT_12_428, dX12_pairs_24, dX12_pairs_25, fT_12_431, dX12_pairs_28, dX12_pairs_31, dX12_pairs_32, fT_12_129, dX12_pairs_35, dX12_pairs_36, dX12_pairs_37, fT_12_123, dX12_pairs_40, dX12_pairs_41, dX12_pairs_42, dX12_pairs_43, dX12_pairs_46, dX12_pairs_49, dX12_pairs_50, dX12_pairs_51, dX12_pairs_54, dX12_pairs_55, dX12_pairs_56, dX12_pairs_59, dX12_pairs_60, dX12_pairs_61, dX12_pairs_62, dX12_pairs_63, dX12_pairs_64, dX12_pairs_65, dX12_pairs_66, dX12_pairs_67, dX12_pairs_70, dX12_pairs_73, dX12_pairs_76, dX12_pairs_77, dX12_pairs_78, dX12_pairs_79, dX12_pairs_80, dX12_pairs_81, dX12_pairs_82, fT_12_13, dX12_pairs_85, dX12_pairs_86, dX12_pairs_87, dX12_pairs_90, dX12_pairs_91, dX12_pairs_92, dX12_pairs_93, dX12_pairs_94, dX12_pairs_95, dX12_pairs_98, dX12_pairs_101, dX12_pairs_102, dX12_pairs_105, dX12_pairs_106, dX12_pairs_107, dX12_pairs_108, dX12_pairs_109, dX12_pairs_112, dX12_pairs_113, dX12_pairs_114, dX12_pairs_115, dX12_pairs_116, dX12_pairs_117, dX12_pairs_118, dX12_pairs_119, dX12_pairs_120, dX12_pairs_121, dX12_pairs_122, dX12_pairs_123, dX12_pairs_124, dX12_pairs_125, dX12_pairs_126, dX12_pairs_127, dX12_pairs_128, dX12_pairs_129, dX12_pairs_132, dX12_pairs_135, dX12_pairs_138]
        simp (disch := omega) only [li, nI_add, nI_clamp, nI_ltI, nI_leI, nI_eq, inx_iff, a31, nI_1shl', nI_shr', div_bit, tb1, tb0, fa_or, fa_and, nI_not, pk_sub, nI_dec, e1]
        refine ⟨fun z => hP _ _ ⟨rfl, mI1, rfl, g1, by rw [show b = np by omega] at g2; exact g2⟩, fun z => ?_⟩
        have hb2 := p2_le10 (k := b) (by omega)
        have b1 : anot t (2 ^ lowN t) ≤ t := anot_le _ _
        have b2 : anot (anot t (2 ^ lowN t)) (2 ^ b) ≤ anot t (2 ^ lowN t) := anot_le _ _
        have nx := fun mI2 => ih (b + 1) mI2
        rw [fdB_s, prG_d] at nx
        refine ⟨fun z2 => ⟨by omega, by omega, ?_⟩, fun z2 => ?_⟩
        · have z2' : t.testBit b = true := by simpa using z2
          have cond : (decide (lowN t < b) && t.testBit b) = true := by rw [z2', decide_eq_true hlb]; rfl
          rw [if_pos cond] at nx
          obtain ⟨r1, r2, r3, r4⟩ := g2
          have bt : ∀ p, (anot (anot t (2 ^ lowN t)) (2 ^ b)).testBit p = (t.testBit p && !decide (lowN t = p) && !decide (b = p)) := fun p => by rw [anot_bit, anot_bit, Nat.testBit_two_pow, Nat.testBit_two_pow]
          have hs' : PrM (up2 (up2 mI1 167 (lowN t) (nI b)) 167 b (nI (lowN t))) np (anot (anot t (2 ^ lowN t)) (2 ^ b)) i (upN (upN (fdB (prG np W i fu t) b s).1 (lowN t) b) b (lowN t), (fdB (prG np W i fu t) b s).2) := by
            refine ⟨fun p hp hpt => ?_, ?_, ?_, fun p hp => ?_⟩
            · show up2 (up2 mI1 167 (lowN t) (nI b)) 167 b (nI (lowN t)) 167 p = nI (upN (upN (fdB (prG np W i fu t) b s).1 (lowN t) b) b (lowN t) p) ∧ upN (upN (fdB (prG np W i fu t) b s).1 (lowN t) b) b (lowN t) p < np
              unfold upN
              by_cases y1 : p = b
              · rw [if_pos y1, y1, up2_eq]; exact ⟨rfl, hln⟩
              · rw [if_neg y1, up2_ne (fun w => y1 w.2)]
                by_cases y2 : p = lowN t
                · rw [if_pos y2, y2, up2_eq]; exact ⟨rfl, z⟩
                · rw [if_neg y2, up2_ne (fun w => y2 w.2)]
                  refine r1 p hp ?_
                  have y3 := hpt
                  rw [bt p, decide_eq_false (fun w => y2 w.symm), decide_eq_false (fun w => y1 w.symm)] at y3
                  simpa using y3
            · rw [up2_ne (fun w => by cases w.1), up2_ne (fun w => by cases w.1)]; exact r2
            · rw [up2_ne (fun w => by cases w.1), up2_ne (fun w => by cases w.1)]; exact r3
            · rw [up2_ne (fun w => by cases w.1), up2_ne (fun w => by cases w.1)]; exact r4 p hp
          have g1' : Eqf [167, 169] [57] mI (up2 (up2 mI1 167 (lowN t) (nI b)) 167 b (nI (lowN t))) := fun a k ha hk => by
            rw [up2_ne (fun w => ha (by rw [w.1]; decide)), up2_ne (fun w => ha (by rw [w.1]; decide))]; exact g1 a k ha hk
          have c1 := pcn_anot (t := t) (p := lowN t) (by omega) hl.1
          have c2 := pcn_anot (t := anot t (2 ^ lowN t)) (p := b) (by omega) (by rw [anot_bit, z2', Nat.testBit_two_pow, decide_eq_false (by omega)]; rfl)
          have hbb : b * 10 ^ fu ≤ 9 * 10 ^ fu := Nat.mul_le_mul_right _ (by omega)
          refine hG.callV dX12_pairs_129 mv_12_434 [.int (nI (anot (anot t (2 ^ lowN t)) (2 ^ b)))] [] (ihf l X (d - 1) sh _ mL mR n hL (hp.eqf g1' (by decide)) (fun a b ha hb => (g1' _ _ (by decide) (fun w => by cases w.1)).trans (hWi a b ha hb)) _ (by omega) _ hs' (by omega) (by show (fdB (prG np W i fu t) b s).2.1 + _ ≤ _; omega) (by omega)) ⟨_, rfl, rfl⟩ q0 (by omega) rfl (by decide) (by simp [Value.category]) rfl ?_
          rintro r M' ⟨rfl, mI3, rfl, x1, x2⟩
          refine hG.run [80] 60 ?_
          simp [wp, stepI, ln, jmp, cmpI, Value.category, rd, tyF, va_rf, st1, st2, clr, isLg, CB, inx_0, inx_1, inx_2, inx_3, inx_4, inx_5, bI_0, bI_1, bI_ok, fin3, tyX12, entL, q0, dX12_pairs_0, dX12_pairs_1, dX12_pairs_4, dX12_pairs_5, dX12_pairs_8, dX12_pairs_11, dX12_pairs_12, dX12_pairs_13, dX12_pairs_14, dX12_pairs_15, dX12_pairs_17, dX12_pairs_20, dX12_pairs_21, fT_12_428, dX12_pairs_24, dX12_pairs_25, fT_12_431, dX12_pairs_28, dX12_pairs_31, dX12_pairs_32, fT_12_129, dX12_pairs_35, dX12_pairs_36, dX12_pairs_37, fT_12_123, dX12_pairs_40, dX12_pairs_41, dX12_pairs_42, dX12_pairs_43, dX12_pairs_46, dX12_pairs_49, dX12_pairs_50, dX12_pairs_51, dX12_pairs_54, dX12_pairs_55, dX12_pairs_56, dX12_pairs_59, dX12_pairs_60, dX12_pairs_61, dX12_pairs_62, dX12_pairs_63, dX12_pairs_64, dX12_pairs_65, dX12_pairs_66, dX12_pairs_67, dX12_pairs_70, dX12_pairs_73, dX12_pairs_76, dX12_pairs_77, dX12_pairs_78, dX12_pairs_79, dX12_pairs_80, dX12_pairs_81, dX12_pairs_82, fT_12_13, dX12_pairs_85, dX12_pairs_86, dX12_pairs_87, dX12_pairs_90, dX12_pairs_91, dX12_pairs_92, dX12_pairs_93, dX12_pairs_94, dX12_pairs_95, dX12_pairs_98, dX12_pairs_101, dX12_pairs_102, dX12_pairs_105, dX12_pairs_106, dX12_pairs_107, dX12_pairs_108, dX12_pairs_109, dX12_pairs_112, dX12_pairs_113, dX12_pairs_114, dX12_pairs_115, dX12_pairs_116, dX12_pairs_117, dX12_pairs_118, dX12_pairs_119, dX12_pairs_120, dX12_pairs_121, dX12_pairs_122, dX12_pairs_123, dX12_pairs_124, dX12_pairs_125, dX12_pairs_126, dX12_pairs_127, dX12_pairs_128, dX12_pairs_129, dX12_pairs_132, dX12_pairs_135, dX12_pairs_138]
          simp (disch := omega) only [li, nI_add, nI_clamp, nI_ltI, nI_leI, nI_eq, inx_iff, a31, nI_1shl', nI_shr', div_bit, tb1, tb0, fa_or, fa_and, nI_not, pk_sub, nI_dec]
          refine nx mI3 (by omega) (by omega) (by omega) (g1'.tr x1) ⟨fun p hp hpt => x2.1 p hp (by rw [bt, hpt]; rfl), x2.2⟩ ?_
          have := prF_n hpp (W := W) (i := i) fu (anot (anot t (2 ^ lowN t)) (2 ^ b)) (upN (upN (fdB (prG np W i fu t) b s).1 (lowN t) b) b (lowN t), (fdB (prG np W i fu t) b s).2)
          refine Nat.le_trans this ?_
          show (fdB (prG np W i fu t) b s).2.1 + _ ≤ _
          rw [Nat.succ_mul]; omega
        · have cond : ¬ (decide (lowN t < b) && t.testBit b) = true := by rw [z2]; simp
          rw [if_neg cond] at nx
          exact nx mI1 (by omega) (by omega) (by omega) g1 g2 (by rw [Nat.succ_mul]; omega)
    have fd0 : ∀ b, b ≤ lowN t + 1 → fdB (prG np W i fu t) b s = s := by
      intro b
      induction b with
      | zero => intro _; rfl
      | succ b ih =>
        intro hb
        rw [fdB_s, prG_d, if_neg (by simp; omega), ih (by omega)]
    have find : ∀ f k v3, 10 - k < f → k ≤ lowN t → G 62 [some (.ref 129), some (.int (nI t)), some (.int (nI k)), v3] [] (sh, mI, mL, mR, n) := by
      intro f
      induction f with
      | zero => intro k v3 h; omega
      | succ f ih =>
        intro k v3 hf2 hk
        refine hG.run [62, 80] 60 ?_
        simp [wp, stepI, ln, jmp, cmpI, Value.category, rd, tyF, va_rf, st1, st2, clr, isLg, CB, inx_0, inx_1, inx_2, inx_3, inx_4, inx_5, bI_0, bI_1, bI_ok, fin3, tyX12, entL, q0, dX12_pairs_0, dX12_pairs_1, dX12_pairs_4, dX12_pairs_5, dX12_pairs_8, dX12_pairs_11, dX12_pairs_12, dX12_pairs_13, dX12_pairs_14, dX12_pairs_15, dX12_pairs_17, dX12_pairs_20, dX12_pairs_21, fT_12_428, dX12_pairs_24, dX12_pairs_25, fT_12_431, dX12_pairs_28, dX12_pairs_31, dX12_pairs_32, fT_12_129, dX12_pairs_35, dX12_pairs_36, dX12_pairs_37, fT_12_123, dX12_pairs_40, dX12_pairs_41, dX12_pairs_42, dX12_pairs_43, dX12_pairs_46, dX12_pairs_49, dX12_pairs_50, dX12_pairs_51, dX12_pairs_54, dX12_pairs_55, dX12_pairs_56, dX12_pairs_59, dX12_pairs_60, dX12_pairs_61, dX12_pairs_62, dX12_pairs_63, dX12_pairs_64, dX12_pairs_65, dX12_pairs_66, dX12_pairs_67, dX12_pairs_70, dX12_pairs_73, dX12_pairs_76, dX12_pairs_77, dX12_pairs_78, dX12_pairs_79, dX12_pairs_80, dX12_pairs_81, dX12_pairs_82, fT_12_13, dX12_pairs_85, dX12_pairs_86, dX12_pairs_87, dX12_pairs_90, dX12_pairs_91, dX12_pairs_92, dX12_pairs_93, dX12_pairs_94, dX12_pairs_95, dX12_pairs_98, dX12_pairs_101, dX12_pairs_102, dX12_pairs_105, dX12_pairs_106, dX12_pairs_107, dX12_pairs_108, dX12_pairs_109, dX12_pairs_112, dX12_pairs_113, dX12_pairs_114, dX12_pairs_115, dX12_pairs_116, dX12_pairs_117, dX12_pairs_118, dX12_pairs_119, dX12_pairs_120, dX12_pairs_121, dX12_pairs_122, dX12_pairs_123, dX12_pairs_124, dX12_pairs_125, dX12_pairs_126, dX12_pairs_127, dX12_pairs_128, dX12_pairs_129, dX12_pairs_132, dX12_pairs_135, dX12_pairs_138]
        simp (disch := omega) only [li, nI_add, nI_clamp, nI_ltI, nI_leI, nI_eq, inx_iff, a31, nI_1shl', nI_shr', div_bit, tb1, tb0, fa_or, fa_and, nI_not, pk_sub, nI_dec]
        refine ⟨fun z => ?_, fun z => ih (k + 1) v3 (by omega) ?_⟩
        · have ek : k = lowN t := by
            rcases Nat.lt_or_ge k (lowN t) with y | y
            · exact absurd (fa_first_no (fun p => t.testBit p) 10 k y) z
            · omega
          rw [ek]
          refine main (np + 1) (lowN t + 1) mI (by omega) (by omega) (by omega) Eqf.rf ?_ ?_
          · rw [fd0 _ (Nat.le_refl _)]; exact hs
          · rw [fd0 _ (Nat.le_refl _)]; omega
        · rcases Nat.lt_or_ge k (lowN t) with y | y
          · omega
          · rw [show k = lowN t by omega, hl.1] at z; cases z
    refine hG.run [62] 60 ?_
    simp [wp, stepI, ln, jmp, cmpI, Value.category, rd, tyF, va_rf, st1, st2, clr, isLg, CB, inx_0, inx_1, inx_2, inx_3, inx_4, inx_5, bI_0, bI_1, bI_ok, fin3, tyX12, entL, q0, dX12_pairs_0, dX12_pairs_1, dX12_pairs_4, dX12_pairs_5, dX12_pairs_8, dX12_pairs_11, dX12_pairs_12, dX12_pairs_13, dX12_pairs_14, dX12_pairs_15, dX12_pairs_17, dX12_pairs_20, dX12_pairs_21, fT_12_428, dX12_pairs_24, dX12_pairs_25, fT_12_431, dX12_pairs_28, dX12_pairs_31, dX12_pairs_32, fT_12_129, dX12_pairs_35, dX12_pairs_36, dX12_pairs_37, fT_12_123, dX12_pairs_40, dX12_pairs_41, dX12_pairs_42, dX12_pairs_43, dX12_pairs_46, dX12_pairs_49, dX12_pairs_50, dX12_pairs_51, dX12_pairs_54, dX12_pairs_55, dX12_pairs_56, dX12_pairs_59, dX12_pairs_60, dX12_pairs_61, dX12_pairs_62, dX12_pairs_63, dX12_pairs_64, dX12_pairs_65, dX12_pairs_66, dX12_pairs_67, dX12_pairs_70, dX12_pairs_73, dX12_pairs_76, dX12_pairs_77, dX12_pairs_78, dX12_pairs_79, dX12_pairs_80, dX12_pairs_81, dX12_pairs_82, fT_12_13, dX12_pairs_85, dX12_pairs_86, dX12_pairs_87, dX12_pairs_90, dX12_pairs_91, dX12_pairs_92, dX12_pairs_93, dX12_pairs_94, dX12_pairs_95, dX12_pairs_98, dX12_pairs_101, dX12_pairs_102, dX12_pairs_105, dX12_pairs_106, dX12_pairs_107, dX12_pairs_108, dX12_pairs_109, dX12_pairs_112, dX12_pairs_113, dX12_pairs_114, dX12_pairs_115, dX12_pairs_116, dX12_pairs_117, dX12_pairs_118, dX12_pairs_119, dX12_pairs_120, dX12_pairs_121, dX12_pairs_122, dX12_pairs_123, dX12_pairs_124, dX12_pairs_125, dX12_pairs_126, dX12_pairs_127, dX12_pairs_128, dX12_pairs_129, dX12_pairs_132, dX12_pairs_135, dX12_pairs_138]
    simp (disch := omega) only [li, nI_add, nI_clamp, nI_ltI, nI_leI, nI_eq, inx_iff, a31, nI_1shl', nI_shr', div_bit, tb1, tb0, fa_or, fa_and, nI_not, pk_sub, nI_dec]
    exact ⟨fun _ => find 11 0 _ (by omega) (by omega), fun w => absurd w h0⟩
