theorem plT_sh (np : Nat) (sa : Nat → Nat) (t : Nat) : ∀ i, plT np sa t (i + 1) = plT np sa (anot t (2 ^ bst np sa t)) i
  | 0 => rfl
  | i + 1 => by
    show anot (plT np sa t (i + 1)) (2 ^ bst np sa (plT np sa t (i + 1))) = anot (plT np sa (anot t (2 ^ bst np sa t)) i) (2 ^ bst np sa (plT np sa (anot t (2 ^ bst np sa t)) i))
    rw [plT_sh np sa t i]
theorem bst_in {np : Nat} {sa : Nat → Nat} {t : Nat} (h : bst np sa t < np) : t.testBit (bst np sa t) = true := by
  have := fa_first_yes (frP sa t) np h
  unfold frP at this
  rw [Bool.and_eq_true] at this
  exact this.1
theorem plT_pc {np : Nat} {sa : Nat → Nat} : ∀ f t a, t < 1024 → plA np sa f t a ≠ 0 → ∀ i, i ≤ f → pcn t ≤ pcn (plT np sa t i) + i
  | 0, t, a, ht, h, i, hi => by rw [show i = 0 by omega]; exact Nat.le_refl _
  | f + 1, t, a, ht, h, 0, hi => Nat.le_refl _
  | f + 1, t, a, ht, h, i + 1, hi => by
    rw [plA_s] at h
    by_cases h0 : t = 0
    · rw [h0, show pcn 0 = 0 by decide]; omega
    · rw [if_neg h0] at h
      by_cases hb : bst np sa t < np
      · rw [if_pos hb] at h
        have := plT_pc f _ _ (Nat.lt_of_le_of_lt (anot_le _ _) ht) h i (by omega)
        rw [plT_sh]
        have c := pcn_anot (t := t) (p := bst np sa t) ht (bst_in hb)
        omega
      · rw [if_neg hb] at h
        exact absurd rfl h
theorem pcn_ev {np : Nat} (h : np ≤ 10) : pcn (2 ^ np - 1) = np := (by decide +kernel : ∀ k, k ≤ 10 → pcn (2 ^ k - 1) = k) np h
theorem plT_ne {np : Nat} {sa : Nat → Nat} (hnp : np ≤ 10) (h : plA np sa 10 (2 ^ np - 1) 1 ≠ 0) : ∀ i, i < np → plT np sa (2 ^ np - 1) i ≠ 0 := fun i hi e => by
  have hpw := p2_10 hnp
  have := plT_pc 10 (2 ^ np - 1) 1 (by omega) h i (by omega)
  rw [e, pcn_ev hnp, show pcn 0 = 0 by decide] at this
  omega
set_option maxHeartbeats 4000000 in
set_option maxRecDepth 100000 in
theorem c2_studyR (l : Launch) (X : Cx) (d : Nat) (sh : Nat → Option Sh) (mI : Nat → Nat → Int32) (mL : Nat → Nat → Int64) (mR : Nat → Nat → Option Nat) (n : Nat) (Q S : Nat) (hO : OL sh mR Q 2 ob2) (hr : mI Q 5 = nI 1) : Cn l X yX2_study cX2_study 2 none d [.ref Q, .ref S] (sh, mI, mL, mR, n) (fun r M' => r = none ∧ M' = (sh, mI, mL, mR, n)) 0 0 := by
  refine Cn.run 2 false (by decide) rfl (by decide) (by simp [entA, Value.category]) ?_
  intro P G hP hG
  have q0 := hO.1
  refine hG.run [8] 40 ?_
  simp [wp, stepI, ln, jmp, cmpI, Value.category, rd, tyF, va_rf, st1, st2, clr, isLg, CB, inx_0, inx_1, inx_2, inx_3, inx_4, inx_5, bI_0, bI_1, bI_ok, fin3, tyX2, entL, q0, dX2_study_0, dX2_study_1, fT_2_21, dX2_study_4, dX2_study_7, dX2_study_8, dX2_study_9, dX2_study_10, dX2_study_13, dX2_study_14, dX2_study_15, dX2_study_16, fT_2_29, dX2_study_19, dX2_study_22, dX2_study_25, dX2_study_26, dX2_study_29, dX2_study_30, fT_2_37, dX2_study_33, dX2_study_34, dX2_study_37, dX2_study_40, dX2_study_41, dX2_study_44, dX2_study_45, dX2_study_46, dX2_study_49]
  rw [hr]
  simp (disch := omega) only [li, nI_add, nI_clamp, nI_ltI, nI_leI, nI_eq, inx_iff, a31, nI_1shl', nI_shr', div_bit, tb1, tb0, fa_or, fa_and, nI_not, pk_sub, nI_dec]
  exact ⟨fun z => by omega, fun _ => hP _ _ ⟨rfl, rfl⟩⟩
set_option maxHeartbeats 4000000 in
set_option maxRecDepth 100000 in
theorem c2_study (l : Launch) (X : Cx) (d : Nat) (sh : Nat → Option Sh) (mI : Nat → Nat → Int32) (mL : Nat → Nat → Int64) (mR : Nat → Nat → Option Nat) (n : Nat) (Q S C : Nat) (hO : OL sh mR Q 2 ob2) (hS6 : OL sh mR S 6 ob6) (hsc : mR S 0 = some C) (hC : OL sh mR C 4 ob4) (d1 : Q + 3 < S ∨ S + 11 < Q) (d2 : Q + 3 < C ∨ C + 5 < Q) (np : Nat) (hp : ScP mI C np) (c : Nat) (fi se ma : Nat → Nat) (hS : ShS mI S c fi se ma) (A : Nat → Nat) (hA : ∀ p, p < 10 → mI (Q + 2) p = nI (A p) ∧ A p < 1024) (hr : mI Q 5 = nI 0) (hd : 2 ≤ d) : Cn l X yX2_study cX2_study 2 none d [.ref Q, .ref S] (sh, mI, mL, mR, n) (fun r M' => r = none ∧ ∃ mI', M' = (sh, mI', mL, mR, n) ∧ (∀ a k, a ≠ Q → a ≠ Q + 1 → a ≠ Q + 2 → a ≠ Q + 3 → mI' a k = mI a k) ∧ LaM mI' Q np (ahA fi se c) ∧ LaK mI' Q np (ahA fi se c) A ∧ mI' Q 5 = nI 1 ∧ ∃ A' : Nat → Nat, ∀ p, p < 10 → mI' (Q + 2) p = nI (A' p) ∧ A' p < 1024) 0 0 := by
  refine Cn.run 2 false (by decide) rfl (by decide) (by simp [entA, Value.category]) ?_
  intro P G hP hG
  have q0 := hO.1
  have hSl := hO.2.1
  have xQ : Q < 1000000000 := by omega
  have hpp := hp.2
  have hpw := p2_10 hpp
  refine hG.run [8] 40 ?_
  simp [wp, stepI, ln, jmp, cmpI, Value.category, rd, tyF, va_rf, st1, st2, clr, isLg, CB, inx_0, inx_1, inx_2, inx_3, inx_4, inx_5, bI_0, bI_1, bI_ok, fin3, tyX2, entL, q0, dX2_study_0, dX2_study_1, fT_2_21, dX2_study_4, dX2_study_7, dX2_study_8, dX2_study_9, dX2_study_10, dX2_study_13, dX2_study_14, dX2_study_15, dX2_study_16, fT_2_29, dX2_study_19, dX2_study_22, dX2_study_25, dX2_study_26, dX2_study_29, dX2_study_30, fT_2_37, dX2_study_33, dX2_study_34, dX2_study_37, dX2_study_40, dX2_study_41, dX2_study_44, dX2_study_45, dX2_study_46, dX2_study_49]
  rw [hr]
  simp (disch := omega) only [li, nI_add, nI_clamp, nI_ltI, nI_leI, nI_eq, inx_iff, a31, nI_1shl', nI_shr', div_bit, tb1, tb0, fa_or, fa_and, nI_not, pk_sub, nI_dec]
  refine ⟨fun _ => ?_, fun z => absurd trivial z⟩
  refine hG.run [] 40 ?_
  simp [wp, stepI, ln, jmp, cmpI, Value.category, rd, tyF, va_rf, st1, st2, clr, isLg, CB, inx_0, inx_1, inx_2, inx_3, inx_4, inx_5, bI_0, bI_1, bI_ok, fin3, tyX2, entL, q0, dX2_study_0, dX2_study_1, fT_2_21, dX2_study_4, dX2_study_7, dX2_study_8, dX2_study_9, dX2_study_10, dX2_study_13, dX2_study_14, dX2_study_15, dX2_study_16, fT_2_29, dX2_study_19, dX2_study_22, dX2_study_25, dX2_study_26, dX2_study_29, dX2_study_30, fT_2_37, dX2_study_33, dX2_study_34, dX2_study_37, dX2_study_40, dX2_study_41, dX2_study_44, dX2_study_45, dX2_study_46, dX2_study_49]
  refine hG.callV dX2_study_10 mv_2_25 [.ref S] [] (c2_hear l X (d - 1) sh mI mL mR n Q S C hO hS6 hsc hC d1 d2 np hp c fi se ma hS (by omega)) ⟨_, rfl, rfl⟩ q0 (by omega) rfl (by decide) (by simp [Value.category]) rfl ?_
  rintro r M' ⟨rfl, m1, rfl, g1, g2⟩
  generalize ahA fi se c = sa at g2 hP
  have e1 := g2.2.2.1
  refine hG.run [] 40 ?_
  simp [wp, stepI, ln, jmp, cmpI, Value.category, rd, tyF, va_rf, st1, st2, clr, isLg, CB, inx_0, inx_1, inx_2, inx_3, inx_4, inx_5, bI_0, bI_1, bI_ok, fin3, tyX2, entL, q0, dX2_study_0, dX2_study_1, fT_2_21, dX2_study_4, dX2_study_7, dX2_study_8, dX2_study_9, dX2_study_10, dX2_study_13, dX2_study_14, dX2_study_15, dX2_study_16, fT_2_29, dX2_study_19, dX2_study_22, dX2_study_25, dX2_study_26, dX2_study_29, dX2_study_30, fT_2_37, dX2_study_33, dX2_study_34, dX2_study_37, dX2_study_40, dX2_study_41, dX2_study_44, dX2_study_45, dX2_study_46, dX2_study_49]
  rw [e1]
  refine hG.callV dX2_study_19 mv_2_33 [.int (nI (2 ^ np - 1))] [.ref Q] (c2_peel l X (d - 1) sh m1 mL mR n Q hO np sa g2 (2 ^ np - 1) (by omega)) ⟨_, rfl, rfl⟩ q0 (by omega) rfl (by decide) (by simp [Value.category]) rfl ?_
  rintro r M' ⟨rfl, m2, rfl, k1, k2⟩
  have pl := plA_le np sa 10 (2 ^ np - 1) 1 (by omega)
  obtain ⟨R, hR⟩ : ∃ R, R = plA np sa 10 (2 ^ np - 1) 1 := ⟨_, rfl⟩
  have A2 : ∀ p, p < 10 → m2 (Q + 2) p = nI (A p) ∧ A p < 1024 := fun p hp => ⟨(k1 _ _ (by omega)).trans ((g1 _ _ (by omega) (fun z => by omega)).trans (hA p hp).1), (hA p hp).2⟩
  have L2 : LaM m2 Q np sa := ⟨(k1 _ _ (by omega)).trans g2.1, g2.2.1, (k1 _ _ (by omega)).trans g2.2.2.1, fun p hp => ⟨(k1 _ _ (by omega)).trans (g2.2.2.2 p hp).1, (g2.2.2.2 p hp).2⟩⟩
  have fr2 : ∀ a k, a ≠ Q → a ≠ Q + 1 → a ≠ Q + 2 → a ≠ Q + 3 → m2 a k = mI a k := fun a k h0 h1 h2 h3 => (k1 a k h3).trans (g1 a k h1 (fun z => h0 z.1))
  have hT := plT_ne (np := np) (sa := sa) hpp
  rw [← hR] at pl k2 hT ⊢
  have fin : ∀ m3, (∀ a k, a ≠ Q → a ≠ Q + 1 → a ≠ Q + 2 → a ≠ Q + 3 → m3 a k = mI a k) → LaM m3 Q np sa → LaK m3 Q np sa A → (∃ A' : Nat → Nat, ∀ p, p < 10 → m3 (Q + 2) p = nI (A' p) ∧ A' p < 1024) → G 44 [some (.ref Q), some (.ref S)] [] (sh, m3, mL, mR, n) := fun m3 f1 f2 f3 f4 => by
    refine hG.run [] 40 ?_
    simp [wp, stepI, ln, jmp, cmpI, Value.category, rd, tyF, va_rf, st1, st2, clr, isLg, CB, inx_0, inx_1, inx_2, inx_3, inx_4, inx_5, bI_0, bI_1, bI_ok, fin3, tyX2, entL, q0, okv, wr, finF, clT, TX2, xQ, dX2_study_0, dX2_study_1, fT_2_21, dX2_study_4, dX2_study_7, dX2_study_8, dX2_study_9, dX2_study_10, dX2_study_13, dX2_study_14, dX2_study_15, dX2_study_16, fT_2_29, dX2_study_19, dX2_study_22, dX2_study_25, dX2_study_26, dX2_study_29, dX2_study_30, fT_2_37, dX2_study_33, dX2_study_34, dX2_study_37, dX2_study_40, dX2_study_41, dX2_study_44, dX2_study_45, dX2_study_46, dX2_study_49]
    simp only [li]
    have o1 : ∀ a k, ¬ (a = Q ∧ k = 5) → up2 m3 Q 5 (nI 1) a k = m3 a k := fun a k h => up2_ne h
    obtain ⟨A', f4⟩ := f4
    refine hP _ _ ⟨rfl, _, rfl, fun a k h0 h1 h2 h3 => (o1 a k (fun z => h0 z.1)).trans (f1 a k h0 h1 h2 h3), ⟨(o1 _ _ (fun z => by cases z.2)).trans f2.1, f2.2.1, (o1 _ _ (fun z => by cases z.2)).trans f2.2.2.1, fun p hp => ⟨(o1 _ _ (fun z => by omega)).trans (f2.2.2.2 p hp).1, (f2.2.2.2 p hp).2⟩⟩, ⟨(o1 _ _ (fun z => by cases z.2)).trans f3.1, fun h p hp => ⟨(o1 _ _ (fun z => by omega)).trans (f3.2 h p hp).1, (f3.2 h p hp).2⟩⟩, up2_eq _ _ _ _, A', fun p hp => ⟨(o1 _ _ (fun z => by omega)).trans (f4 p hp).1, (f4 p hp).2⟩⟩
  have o1 : ∀ v a k, ¬ (a = Q ∧ k = 6) → up2 m2 Q 6 v a k = m2 a k := fun v a k h => up2_ne h
  have L3 : ∀ v, LaM (up2 m2 Q 6 v) Q np sa := fun v => ⟨(o1 v _ _ (fun z => by cases z.2)).trans L2.1, L2.2.1, (o1 v _ _ (fun z => by cases z.2)).trans L2.2.2.1, fun p hp => ⟨(o1 v _ _ (fun z => by omega)).trans (L2.2.2.2 p hp).1, (L2.2.2.2 p hp).2⟩⟩
  refine hG.run [44] 40 ?_
  simp [wp, stepI, ln, jmp, cmpI, Value.category, rd, tyF, va_rf, st1, st2, clr, isLg, CB, inx_0, inx_1, inx_2, inx_3, inx_4, inx_5, bI_0, bI_1, bI_ok, fin3, tyX2, entL, q0, okv, wr, finF, clT, TX2, xQ, dX2_study_0, dX2_study_1, fT_2_21, dX2_study_4, dX2_study_7, dX2_study_8, dX2_study_9, dX2_study_10, dX2_study_13, dX2_study_14, dX2_study_15, dX2_study_16, fT_2_29, dX2_study_19, dX2_study_22, dX2_study_25, dX2_study_26, dX2_study_29, dX2_study_30, fT_2_37, dX2_study_33, dX2_study_34, dX2_study_37, dX2_study_40, dX2_study_41, dX2_study_44, dX2_study_45, dX2_study_46, dX2_study_49]
  simp (disch := omega) only [li, nI_add, nI_clamp, nI_ltI, nI_leI, nI_eq, inx_iff, a31, nI_1shl', nI_shr', div_bit, tb1, tb0, fa_or, fa_and, nI_not, pk_sub, nI_dec, up2_eq, up2_ne]
  refine ⟨fun z => ⟨fun _ => ?_, fun w => absurd trivial w⟩, fun z => ⟨fun w => by omega, fun _ => ?_⟩⟩
  · refine fin _ (fun a k h0 h1 h2 h3 => (o1 _ a k (fun w => h0 w.1)).trans (fr2 a k h0 h1 h2 h3)) (L3 _) ⟨?_, fun h => ?_⟩ ⟨A, fun p hp => ⟨(o1 _ _ _ (fun w => by omega)).trans (A2 p hp).1, (A2 p hp).2⟩⟩
    · rw [up2_eq, ← hR, decide_eq_true z]; rfl
    · rw [← hR] at h; exact absurd z h
  · have l3 : ∀ i, i < np → up2 m2 Q 6 (nI 1) (Q + 3) i = nI (plLn np sa (2 ^ np - 1) i) ∧ plLn np sa (2 ^ np - 1) i < np := fun i hi => by
      rw [o1 _ _ _ (fun w => by omega)]
      exact k2 z i (by omega) (hT z i hi)
    refine hG.callV dX2_study_41 mv_2_40 [] [] (c2_climb l X (d - 1) sh _ mL mR n Q hO np sa (plLn np sa (2 ^ np - 1)) A (L3 (nI 1)) l3 (fun p hp => ⟨(o1 _ _ _ (fun w => by omega)).trans (A2 p hp).1, (A2 p hp).2⟩)) ⟨_, rfl, rfl⟩ q0 (by omega) rfl (by decide) (by simp [Value.category]) rfl ?_
    rintro r M' ⟨rfl, m4, rfl, c1, c2⟩
    have L4 := L3 (nI 1)
    refine fin m4 (fun a k h0 h1 h2 h3 => (c1 a k h2).trans ((o1 _ a k (fun w => h0 w.1)).trans (fr2 a k h0 h1 h2 h3))) ⟨(c1 _ _ (by omega)).trans L4.1, L4.2.1, (c1 _ _ (by omega)).trans L4.2.2.1, fun p hp => ⟨(c1 _ _ (by omega)).trans (L4.2.2.2 p hp).1, (L4.2.2.2 p hp).2⟩⟩ ⟨?_, fun _ => c2⟩ ⟨_, c2⟩
    rw [c1 _ _ (by omega), up2_eq, ← hR, decide_eq_false z]; rfl
