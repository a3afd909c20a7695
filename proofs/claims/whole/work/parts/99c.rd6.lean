/-! likings -/
theorem RdD.l9 {mI : Nat → Nat → Int32} {mL : Nat → Nat → Int64} {R C : Nat} {D : DD} (h : RdD mI mL R C D) (hd : R + 17 < C ∨ C + 5 < R) (u v lt : Nat) (hu : u < 10) (hv : v < 10) (hl : mI (R + 16) u = nI lt) (hl2 : lt < 1024) (hb : ∀ b, b < 10 → (lt.testBit b = true ↔ D 9 (10 * u + b) = 1)) : RdD (up2 mI (R + 16) u (nI (lt ||| 2 ^ v))) mL R C (up2 D 9 (10 * u + v) 1) := by
  obtain ⟨⟨a1, a2, a3, a4, a5, a6⟩, b, c, d, e, f⟩ := h
  have h1 : ∀ a k, a ≠ R + 16 → up2 mI (R + 16) u (nI (lt ||| 2 ^ v)) a k = mI a k := fun a k y => up2_ne (fun w => y w.1)
  have hD : ∀ i, i ≠ 9 → up2 D 9 (10 * u + v) 1 i = D i := fun i z => funext (fun k => up2_ne (fun w => z w.1))
  have h0 := hD 0 (by decide)
  refine ⟨?_, ?_, ?_, ?_, ?_, ?_⟩
  · rw [h0, h1 _ _ (by omega), h1 _ _ (by omega), h1 _ _ (by omega), h1 _ _ (by omega), h1 _ _ (by omega), h1 _ _ (by omega)]
    exact ⟨a1, a2, a3, a4, a5, a6⟩
  · rw [h0, hD 1 (by decide), hD 2 (by decide), hD 3 (by decide)]
    exact fun p hp => ⟨(b p hp).1, (b p hp).2.1, (h1 _ _ (by omega)).trans (b p hp).2.2.1, (h1 _ _ (by omega)).trans (b p hp).2.2.2⟩
  · rw [h0, hD 4 (by decide)]
    exact fun k hk => (h1 _ _ (by omega)).trans (c k hk)
  · rw [h0, hD 5 (by decide), hD 6 (by decide), hD 7 (by decide)]
    exact fun k hk => ⟨(h1 _ _ (by omega)).trans (d k hk).1, (h1 _ _ (by omega)).trans (d k hk).2.1, (h1 _ _ (by omega)).trans (d k hk).2.2⟩
  · rw [hD 8 (by decide)]
    exact fun i hi => (h1 _ _ (by omega)).trans (e i hi)
  · intro a ha
    by_cases z : a = u
    · subst z
      refine ⟨lt ||| 2 ^ v, up2_eq .., Nat.or_lt_two_pow (n := 10) hl2 (Nat.pow_lt_pow_right (by decide) hv), fun j hj => ?_⟩
      rw [Nat.testBit_or, Nat.testBit_two_pow, Bool.or_eq_true, decide_eq_true_iff, hb j hj]
      by_cases y : j = v
      · subst y
        rw [up2_eq]
        exact ⟨fun _ => rfl, fun _ => Or.inr rfl⟩
      · rw [up2_ne (by omega)]
        exact ⟨fun w => w.elim id (fun w => absurd w.symm y), Or.inl⟩
    · obtain ⟨l2, f1, f2, f3⟩ := f a ha
      refine ⟨l2, (up2_ne (fun w => z w.2)).trans f1, f2, fun j hj => ?_⟩
      rw [f3 j hj, up2_ne (by omega)]
theorem RdD.l8 {mI : Nat → Nat → Int32} {mL : Nat → Nat → Int64} {R C : Nat} {D : DD} (h : RdD mI mL R C D) (hd : R + 17 < C ∨ C + 5 < R) (i x : Nat) : RdD (up2 mI (C + 4) i (nI x)) mL R C (up2 D 8 i x) := by
  obtain ⟨⟨a1, a2, a3, a4, a5, a6⟩, b, c, d, e, f⟩ := h
  have h1 : ∀ a k, a ≠ C + 4 → up2 mI (C + 4) i (nI x) a k = mI a k := fun a k y => up2_ne (fun w => y w.1)
  have hD : ∀ j, j ≠ 8 → up2 D 8 i x j = D j := fun j z => funext (fun k => up2_ne (fun w => z w.1))
  have h0 := hD 0 (by decide)
  refine ⟨?_, ?_, ?_, ?_, ?_, ?_⟩
  · rw [h0, h1 _ _ (by omega), h1 _ _ (by omega), h1 _ _ (by omega), h1 _ _ (by omega), h1 _ _ (by omega), h1 _ _ (by omega)]
    exact ⟨a1, a2, a3, a4, a5, a6⟩
  · rw [h0, hD 1 (by decide), hD 2 (by decide), hD 3 (by decide)]
    exact fun p hp => ⟨(b p hp).1, (b p hp).2.1, (h1 _ _ (by omega)).trans (b p hp).2.2.1, (h1 _ _ (by omega)).trans (b p hp).2.2.2⟩
  · rw [h0, hD 4 (by decide)]
    exact fun k hk => (h1 _ _ (by omega)).trans (c k hk)
  · rw [h0, hD 5 (by decide), hD 6 (by decide), hD 7 (by decide)]
    exact fun k hk => ⟨(h1 _ _ (by omega)).trans (d k hk).1, (h1 _ _ (by omega)).trans (d k hk).2.1, (h1 _ _ (by omega)).trans (d k hk).2.2⟩
  · intro j hj
    by_cases z : j = i
    · rw [z, up2_eq, up2_eq]
    · rw [up2_ne (fun w => z w.2), up2_ne (fun w => z w.2)]
      exact e j hj
  · rw [hD 9 (by decide)]
    intro a ha
    obtain ⟨lt, f1, f2⟩ := f a ha
    exact ⟨lt, (h1 _ _ (by omega)).trans f1, f2⟩
set_option maxHeartbeats 4000000 in
set_option maxRecDepth 100000 in
theorem c3_readLiking (l : Launch) (X : Cx) (d : Nat) (sh : Nat → Option Sh) (mI : Nat → Nat → Int32) (mL : Nat → Nat → Int64) (mR : Nat → Nat → Option Nat) (n : Nat) (R C TP : Nat) (t : Nat → Nat) (N p : Nat) (hS : RsM sh mI mL mR R C TP t N p) (D : DD) (hD : RdD mI mL R C D) (hV : DrV D) (hd : 4 ≤ d) : Cn l X yX3_readLiking cX3_readLiking 3 (some .boolean) d [.ref R] (sh, mI, mL, mR, n) (LiP sh mI mL mR n R C TP t N (rdLike t N p D)) 0 0 := by
  refine Cn.run 3 false (by decide) rfl (by decide) (by simp [entA, Value.category]) ?_
  intro P G hP hG
  unfold rdLike at hP
  obtain ⟨p1, hp1⟩ : ∃ x, x = lxE t N p := ⟨_, rfl⟩
  rw [← hp1] at hP
  obtain ⟨p2, hp2⟩ : ∃ x, x = lxE t N p1 := ⟨_, rfl⟩
  rw [← hp2] at hP
  obtain ⟨p3, hp3⟩ : ∃ x, x = lxE t N p2 := ⟨_, rfl⟩
  rw [← hp3] at hP
  obtain ⟨p4, hp4⟩ : ∃ x, x = lxE t N p3 := ⟨_, rfl⟩
  rw [← hp4] at hP
  have S0 := hS
  have D0 := hD
  have F0 : lnF R C mI mL mR mI mL mR := lnF.refl
  have z0 : mI R 10 = mI R 10 := rfl
  obtain ⟨g1, g2, g3, g4⟩ := hS
  have q0 := g1.1
  have xR : R < 1000000000 := by have := g1.2.1; omega
  have r0 := g1.2.2.1
  have r1 := g1.2.2.2.1
  have k0 := g1.2.2.2.2.2.2.2.2.2.2.1.1
  have s6 := g1.2.2.2.2.2.2.2.1.1
  have rc := g1.2.2.2.2.2.2.2.2.1
  have c4 := g1.2.2.2.2.2.2.2.2.2.1.1
  have di := g1.2.2.2.2.2.2.2.2.2.2.2.1
  have dt := g1.2.2.2.2.2.2.2.2.2.2.2.2
  have xc : C < 100000000 := g1.2.2.2.2.2.2.2.2.2.1.2.1
  have xl : C + 4 < 1000000000 := by omega
  have xt : R + 16 < 1000000000 := by have := g1.2.1; omega
  have n10 : D 0 0 ≤ 10 := hV.1.1
  refine hG.run [4] 60 ?_
  simp [wp, stepI, ln, jmp, cmpI, Value.category, rd, tyF, vrs, vrn, ex_rr, ex_rn, ex_nr, ex_nn, okA_s, okA_n, st1, st2, clr, isLg, CB, inx_0, inx_1, inx_2, inx_3, inx_4, inx_5, bI_0, bI_1, bI_ok, fin3, tyX3, entL, q0, r1, dX3_readLiking_0, dX3_readLiking_1, fT_3_21, dX3_readLiking_4, dX3_readLiking_7, dX3_readLiking_8, dX3_readLiking_9, dX3_readLiking_12, dX3_readLiking_15, dX3_readLiking_16, dX3_readLiking_17, dX3_readLiking_18, fT_3_174, dX3_readLiking_21, dX3_readLiking_22, dX3_readLiking_23, dX3_readLiking_26, dX3_readLiking_29, dX3_readLiking_32, dX3_readLiking_33, dX3_readLiking_34, dX3_readLiking_37, fT_3_129, dX3_readLiking_40, dX3_readLiking_43, dX3_readLiking_46, dX3_readLiking_47, dX3_readLiking_48, dX3_readLiking_49, dX3_readLiking_50, dX3_readLiking_53, dX3_readLiking_54, fT_3_29, dX3_readLiking_57, dX3_readLiking_58, dX3_readLiking_59, dX3_readLiking_60, dX3_readLiking_61, dX3_readLiking_62, dX3_readLiking_63, dX3_readLiking_66, dX3_readLiking_67, dX3_readLiking_68, dX3_readLiking_71, dX3_readLiking_72, dX3_readLiking_73, dX3_readLiking_74, dX3_readLiking_77, dX3_readLiking_80, dX3_readLiking_81, dX3_readLiking_82, dX3_readLiking_83, dX3_readLiking_86, dX3_readLiking_87, dX3_readLiking_88, dX3_readLiking_89, dX3_readLiking_90, dX3_readLiking_91, dX3_readLiking_92, dX3_readLiking_93, dX3_readLiking_94, dX3_readLiking_95, dX3_readLiking_97, dX3_readLiking_100, dX3_readLiking_103, dX3_readLiking_104, dX3_readLiking_105, dX3_readLiking_106, fT_3_12, dX3_readLiking_109, fT_3_39, dX3_readLiking_112, fT_3_181, dX3_readLiking_115, dX3_readLiking_116, dX3_readLiking_118, dX3_readLiking_119, dX3_readLiking_120, dX3_readLiking_121, dX3_readLiking_122, fT_3_153, dX3_readLiking_125, dX3_readLiking_126, dX3_readLiking_127, dX3_readLiking_129, dX3_readLiking_132]
  refine hG.callV dX3_readLiking_4 mv_3_123 [] [] (c8_step l X (d - 1) sh mI mL mR n (R + 13) TP S0.1.2.2.2.2.2.2.2.2.2.2.1 t N S0.2.1 (lxE t N p) (lxE_le S0.2.2.2).2 S0.2.2.1.1 (by omega)) ⟨_, rfl, rfl⟩ k0 (by omega) rfl (by decide) (by simp [Value.category]) rfl ?_
  rintro r M' ⟨rfl, mI1, mL1, mR1, rfl, k1, k2, k3, k4⟩
  have S1 := S0.nx k1 k3 k4
  have D1 := D0.nx di k1 k2
  have F1 := F0.trans (lnF.tk (C := C) (fun a k h => k1 a k (fun y => h (Or.inl y))) k2 k3)
  have z1 : mI1 R 10 = mI R 10 := (k1 _ _ (by omega)).trans z0
  have y1 := k1
  rw [← hp1] at S1
  refine hG.run [9] 60 ?_
  simp [wp, stepI, ln, jmp, cmpI, Value.category, rd, tyF, vrs, vrn, ex_rr, ex_rn, ex_nr, ex_nn, okA_s, okA_n, st1, st2, clr, isLg, CB, inx_0, inx_1, inx_2, inx_3, inx_4, inx_5, bI_0, bI_1, bI_ok, fin3, tyX3, entL, q0, dX3_readLiking_0, dX3_readLiking_1, fT_3_21, dX3_readLiking_4, dX3_readLiking_7, dX3_readLiking_8, dX3_readLiking_9, dX3_readLiking_12, dX3_readLiking_15, dX3_readLiking_16, dX3_readLiking_17, dX3_readLiking_18, fT_3_174, dX3_readLiking_21, dX3_readLiking_22, dX3_readLiking_23, dX3_readLiking_26, dX3_readLiking_29, dX3_readLiking_32, dX3_readLiking_33, dX3_readLiking_34, dX3_readLiking_37, fT_3_129, dX3_readLiking_40, dX3_readLiking_43, dX3_readLiking_46, dX3_readLiking_47, dX3_readLiking_48, dX3_readLiking_49, dX3_readLiking_50, dX3_readLiking_53, dX3_readLiking_54, fT_3_29, dX3_readLiking_57, dX3_readLiking_58, dX3_readLiking_59, dX3_readLiking_60, dX3_readLiking_61, dX3_readLiking_62, dX3_readLiking_63, dX3_readLiking_66, dX3_readLiking_67, dX3_readLiking_68, dX3_readLiking_71, dX3_readLiking_72, dX3_readLiking_73, dX3_readLiking_74, dX3_readLiking_77, dX3_readLiking_80, dX3_readLiking_81, dX3_readLiking_82, dX3_readLiking_83, dX3_readLiking_86, dX3_readLiking_87, dX3_readLiking_88, dX3_readLiking_89, dX3_readLiking_90, dX3_readLiking_91, dX3_readLiking_92, dX3_readLiking_93, dX3_readLiking_94, dX3_readLiking_95, dX3_readLiking_97, dX3_readLiking_100, dX3_readLiking_103, dX3_readLiking_104, dX3_readLiking_105, dX3_readLiking_106, fT_3_12, dX3_readLiking_109, fT_3_39, dX3_readLiking_112, fT_3_181, dX3_readLiking_115, dX3_readLiking_116, dX3_readLiking_118, dX3_readLiking_119, dX3_readLiking_120, dX3_readLiking_121, dX3_readLiking_122, fT_3_153, dX3_readLiking_125, dX3_readLiking_126, dX3_readLiking_127, dX3_readLiking_129, dX3_readLiking_132]
  simp only [li]
  refine hG.callV dX3_readLiking_9 mv_3_171 [.int (-nI 1)] [] (c3_takePupil l X (d - 1) sh mI1 mL1 mR1 n R C TP t N p1 S1 D D1 hV (-nI 1) (by omega)) ⟨_, rfl, rfl⟩ q0 (by omega) rfl (by decide) (by simp [Value.category]) rfl ?_
  intro r M' hT
  cases hf2 : tpF t N p1 (D 0 0) (D 1) (-nI 1) with
  | some e =>
    have q := hP _ _ (LiP.bad F1 hT hf2 (by unfold rdLikeB; rw [← tp1 n10, hf2]; rfl))
    obtain ⟨mI2, mL2, mR2, rfl, b1, b2, b3, b4, b5⟩ := hT
    obtain ⟨rfl, -⟩ := b5 e hf2
    refine hG.run [] 60 ?_
    simp [wp, stepI, ln, jmp, cmpI, Value.category, rd, tyF, vrs, vrn, ex_rr, ex_rn, ex_nr, ex_nn, okA_s, okA_n, st1, st2, clr, isLg, CB, inx_0, inx_1, inx_2, inx_3, inx_4, inx_5, bI_0, bI_1, bI_ok, fin3, tyX3, entL, q0, nI00, nI10, dX3_readLiking_0, dX3_readLiking_1, fT_3_21, dX3_readLiking_4, dX3_readLiking_7, dX3_readLiking_8, dX3_readLiking_9, dX3_readLiking_12, dX3_readLiking_15, dX3_readLiking_16, dX3_readLiking_17, dX3_readLiking_18, fT_3_174, dX3_readLiking_21, dX3_readLiking_22, dX3_readLiking_23, dX3_readLiking_26, dX3_readLiking_29, dX3_readLiking_32, dX3_readLiking_33, dX3_readLiking_34, dX3_readLiking_37, fT_3_129, dX3_readLiking_40, dX3_readLiking_43, dX3_readLiking_46, dX3_readLiking_47, dX3_readLiking_48, dX3_readLiking_49, dX3_readLiking_50, dX3_readLiking_53, dX3_readLiking_54, fT_3_29, dX3_readLiking_57, dX3_readLiking_58, dX3_readLiking_59, dX3_readLiking_60, dX3_readLiking_61, dX3_readLiking_62, dX3_readLiking_63, dX3_readLiking_66, dX3_readLiking_67, dX3_readLiking_68, dX3_readLiking_71, dX3_readLiking_72, dX3_readLiking_73, dX3_readLiking_74, dX3_readLiking_77, dX3_readLiking_80, dX3_readLiking_81, dX3_readLiking_82, dX3_readLiking_83, dX3_readLiking_86, dX3_readLiking_87, dX3_readLiking_88, dX3_readLiking_89, dX3_readLiking_90, dX3_readLiking_91, dX3_readLiking_92, dX3_readLiking_93, dX3_readLiking_94, dX3_readLiking_95, dX3_readLiking_97, dX3_readLiking_100, dX3_readLiking_103, dX3_readLiking_104, dX3_readLiking_105, dX3_readLiking_106, fT_3_12, dX3_readLiking_109, fT_3_39, dX3_readLiking_112, fT_3_181, dX3_readLiking_115, dX3_readLiking_116, dX3_readLiking_118, dX3_readLiking_119, dX3_readLiking_120, dX3_readLiking_121, dX3_readLiking_122, fT_3_153, dX3_readLiking_125, dX3_readLiking_126, dX3_readLiking_127, dX3_readLiking_129, dX3_readLiking_132]
    exact q
  | none =>
    obtain ⟨mI2, mL2, mR2, rfl, b1, b2, b3, b4, b5⟩ := hT
    obtain ⟨rfl, S2, w2, nu2⟩ := b4 hf2
    have D2 := D1.fr di b1 b2
    have F2 := F1.trans (lnF.tk (C := C) b1 b2 b3)
    have z2 := w2.trans z1
    have y2 := b1
    rw [← hp2] at S2
    obtain ⟨l1, -, -⟩ := tpF_no hf2
    obtain ⟨u1, hu1⟩ : ∃ u, u = pnm (D 0 0) (D 1) (lxWd t N p1) := ⟨_, rfl⟩
    obtain ⟨u2, hu2⟩ : ∃ u, u = pnm (D 0 0) (D 1) (lxWd t N p2) := ⟨_, rfl⟩
    have l1' : u1 < 10 := by omega
    have m1 := S2.1.2.2.2.1
    have ml := S2.1.2.2.2.2.2.1
    obtain ⟨lt, t1, t2, t3⟩ := D2.2.2.2.2.2 u1 l1'
    have d9 : ∀ i, i < 100 → D 9 i ≤ 1 := fun i hi => (hV.2.2.2.2.1 i hi).2
    have G72 : ∀ sv, (tpF t N p2 (D 0 0) (D 1) (nI u1) = none → sv = nI u2 ∧ D 9 (10 * u1 + u2) = 0) → G 72 [some (.ref R), some (.int (nI u1)), some (.int sv)] [] (sh, mI2, mL2, mR2, n) := by
      intro sv hsv
      refine hG.run [74] 60 ?_
      simp [wp, stepI, ln, jmp, cmpI, Value.category, rd, tyF, vrs, vrn, ex_rr, ex_rn, ex_nr, ex_nn, okA_s, okA_n, st1, st2, clr, isLg, CB, inx_0, inx_1, inx_2, inx_3, inx_4, inx_5, bI_0, bI_1, bI_ok, fin3, tyX3, entL, q0, dX3_readLiking_0, dX3_readLiking_1, fT_3_21, dX3_readLiking_4, dX3_readLiking_7, dX3_readLiking_8, dX3_readLiking_9, dX3_readLiking_12, dX3_readLiking_15, dX3_readLiking_16, dX3_readLiking_17, dX3_readLiking_18, fT_3_174, dX3_readLiking_21, dX3_readLiking_22, dX3_readLiking_23, dX3_readLiking_26, dX3_readLiking_29, dX3_readLiking_32, dX3_readLiking_33, dX3_readLiking_34, dX3_readLiking_37, fT_3_129, dX3_readLiking_40, dX3_readLiking_43, dX3_readLiking_46, dX3_readLiking_47, dX3_readLiking_48, dX3_readLiking_49, dX3_readLiking_50, dX3_readLiking_53, dX3_readLiking_54, fT_3_29, dX3_readLiking_57, dX3_readLiking_58, dX3_readLiking_59, dX3_readLiking_60, dX3_readLiking_61, dX3_readLiking_62, dX3_readLiking_63, dX3_readLiking_66, dX3_readLiking_67, dX3_readLiking_68, dX3_readLiking_71, dX3_readLiking_72, dX3_readLiking_73, dX3_readLiking_74, dX3_readLiking_77, dX3_readLiking_80, dX3_readLiking_81, dX3_readLiking_82, dX3_readLiking_83, dX3_readLiking_86, dX3_readLiking_87, dX3_readLiking_88, dX3_readLiking_89, dX3_readLiking_90, dX3_readLiking_91, dX3_readLiking_92, dX3_readLiking_93, dX3_readLiking_94, dX3_readLiking_95, dX3_readLiking_97, dX3_readLiking_100, dX3_readLiking_103, dX3_readLiking_104, dX3_readLiking_105, dX3_readLiking_106, fT_3_12, dX3_readLiking_109, fT_3_39, dX3_readLiking_112, fT_3_181, dX3_readLiking_115, dX3_readLiking_116, dX3_readLiking_118, dX3_readLiking_119, dX3_readLiking_120, dX3_readLiking_121, dX3_readLiking_122, fT_3_153, dX3_readLiking_125, dX3_readLiking_126, dX3_readLiking_127, dX3_readLiking_129, dX3_readLiking_132]
      refine hG.callV dX3_readLiking_74 mv_3_171 [.int (nI u1)] [] (c3_takePupil l X (d - 1) sh mI2 mL2 mR2 n R C TP t N p2 S2 D D2 hV (nI u1) (by omega)) ⟨_, rfl, rfl⟩ q0 (by omega) rfl (by decide) (by simp [Value.category]) rfl ?_
      intro r M' hT
      cases hf3 : tpF t N p2 (D 0 0) (D 1) (nI u1) with
      | some e =>
        have q := hP _ _ (LiP.bad F2 hT hf3 (by unfold rdLikeB; rw [← tp1 n10, hf2]; show bf _ _ _ _ _ = _; rw [← tp2 n10 l1, ← hu1, hf3]; rfl))
        obtain ⟨mI3, mL3, mR3, rfl, b1, b2, b3, b4, b5⟩ := hT
        obtain ⟨rfl, -⟩ := b5 e hf3
        refine hG.run [] 60 ?_
        simp [wp, stepI, ln, jmp, cmpI, Value.category, rd, tyF, vrs, vrn, ex_rr, ex_rn, ex_nr, ex_nn, okA_s, okA_n, st1, st2, clr, isLg, CB, inx_0, inx_1, inx_2, inx_3, inx_4, inx_5, bI_0, bI_1, bI_ok, fin3, tyX3, entL, q0, nI00, nI10, dX3_readLiking_0, dX3_readLiking_1, fT_3_21, dX3_readLiking_4, dX3_readLiking_7, dX3_readLiking_8, dX3_readLiking_9, dX3_readLiking_12, dX3_readLiking_15, dX3_readLiking_16, dX3_readLiking_17, dX3_readLiking_18, fT_3_174, dX3_readLiking_21, dX3_readLiking_22, dX3_readLiking_23, dX3_readLiking_26, dX3_readLiking_29, dX3_readLiking_32, dX3_readLiking_33, dX3_readLiking_34, dX3_readLiking_37, fT_3_129, dX3_readLiking_40, dX3_readLiking_43, dX3_readLiking_46, dX3_readLiking_47, dX3_readLiking_48, dX3_readLiking_49, dX3_readLiking_50, dX3_readLiking_53, dX3_readLiking_54, fT_3_29, dX3_readLiking_57, dX3_readLiking_58, dX3_readLiking_59, dX3_readLiking_60, dX3_readLiking_61, dX3_readLiking_62, dX3_readLiking_63, dX3_readLiking_66, dX3_readLiking_67, dX3_readLiking_68, dX3_readLiking_71, dX3_readLiking_72, dX3_readLiking_73, dX3_readLiking_74, dX3_readLiking_77, dX3_readLiking_80, dX3_readLiking_81, dX3_readLiking_82, dX3_readLiking_83, dX3_readLiking_86, dX3_readLiking_87, dX3_readLiking_88, dX3_readLiking_89, dX3_readLiking_90, dX3_readLiking_91, dX3_readLiking_92, dX3_readLiking_93, dX3_readLiking_94, dX3_readLiking_95, dX3_readLiking_97, dX3_readLiking_100, dX3_readLiking_103, dX3_readLiking_104, dX3_readLiking_105, dX3_readLiking_106, fT_3_12, dX3_readLiking_109, fT_3_39, dX3_readLiking_112, fT_3_181, dX3_readLiking_115, dX3_readLiking_116, dX3_readLiking_118, dX3_readLiking_119, dX3_readLiking_120, dX3_readLiking_121, dX3_readLiking_122, fT_3_153, dX3_readLiking_125, dX3_readLiking_126, dX3_readLiking_127, dX3_readLiking_129, dX3_readLiking_132]
        exact q
      | none =>
        obtain ⟨mI3, mL3, mR3, rfl, b1, b2, b3, b4, b5⟩ := hT
        obtain ⟨rfl, S3, w3, nu3⟩ := b4 hf3
        have D3 := D2.fr di b1 b2
        have F3 := F2.trans (lnF.tk (C := C) b1 b2 b3)
        have z3 := w3.trans z2
        have y3 := b1
        rw [← hp3] at S3
        obtain ⟨rfl, d0⟩ := hsv hf3
        obtain ⟨l2, -, -⟩ := tpF_no hf3
        have ml3 := S3.1.2.2.2.2.2.1
        have l2' : u2 < 10 := by omega
        have t1' : mI3 (R + 16) u1 = nI lt := (b1 _ _ (by unfold rdW; omega)).trans t1
        refine hG.run [97] 80 ?_
        simp [wp, stepI, ln, jmp, cmpI, Value.category, rd, tyF, vrs, vrn, ex_rr, ex_rn, ex_nr, ex_nn, okA_s, okA_n, st1, st2, clr, isLg, CB, inx_0, inx_1, inx_2, inx_3, inx_4, inx_5, bI_0, bI_1, bI_ok, fin3, tyX3, entL, q0, ml3, okv, wr, xt, nI00, nI10, dX3_readLiking_0, dX3_readLiking_1, fT_3_21, dX3_readLiking_4, dX3_readLiking_7, dX3_readLiking_8, dX3_readLiking_9, dX3_readLiking_12, dX3_readLiking_15, dX3_readLiking_16, dX3_readLiking_17, dX3_readLiking_18, fT_3_174, dX3_readLiking_21, dX3_readLiking_22, dX3_readLiking_23, dX3_readLiking_26, dX3_readLiking_29, dX3_readLiking_32, dX3_readLiking_33, dX3_readLiking_34, dX3_readLiking_37, fT_3_129, dX3_readLiking_40, dX3_readLiking_43, dX3_readLiking_46, dX3_readLiking_47, dX3_readLiking_48, dX3_readLiking_49, dX3_readLiking_50, dX3_readLiking_53, dX3_readLiking_54, fT_3_29, dX3_readLiking_57, dX3_readLiking_58, dX3_readLiking_59, dX3_readLiking_60, dX3_readLiking_61, dX3_readLiking_62, dX3_readLiking_63, dX3_readLiking_66, dX3_readLiking_67, dX3_readLiking_68, dX3_readLiking_71, dX3_readLiking_72, dX3_readLiking_73, dX3_readLiking_74, dX3_readLiking_77, dX3_readLiking_80, dX3_readLiking_81, dX3_readLiking_82, dX3_readLiking_83, dX3_readLiking_86, dX3_readLiking_87, dX3_readLiking_88, dX3_readLiking_89, dX3_readLiking_90, dX3_readLiking_91, dX3_readLiking_92, dX3_readLiking_93, dX3_readLiking_94, dX3_readLiking_95, dX3_readLiking_97, dX3_readLiking_100, dX3_readLiking_103, dX3_readLiking_104, dX3_readLiking_105, dX3_readLiking_106, fT_3_12, dX3_readLiking_109, fT_3_39, dX3_readLiking_112, fT_3_181, dX3_readLiking_115, dX3_readLiking_116, dX3_readLiking_118, dX3_readLiking_119, dX3_readLiking_120, dX3_readLiking_121, dX3_readLiking_122, fT_3_153, dX3_readLiking_125, dX3_readLiking_126, dX3_readLiking_127, dX3_readLiking_129, dX3_readLiking_132]
        simp (disch := omega) only [li, nI_add, nI_clamp, nI_ltI, nI_leI, nI_eq, inx_iff, a31, nI_1shl', nI_shr', div_bit, tb1, tb0, fa_or, fa_and, nI_not, pk_sub, nI_dec, t1']
        refine ⟨l1', ?_⟩
        obtain ⟨mI4, hmI4⟩ : ∃ m, m = up2 mI3 (R + 16) u1 (nI (lt ||| 2 ^ u2)) := ⟨_, rfl⟩
        rw [← hmI4]
        have f4 : ∀ a k, a ≠ R + 16 → mI4 a k = mI3 a k := fun a k h => by rw [hmI4, up2_ne (fun y => h y.1)]
        have S4 : RsM sh mI4 mL3 mR3 R C TP t N p3 := S3.fr (fun k => f4 _ _ (by omega)) (fun k => f4 _ _ (by omega)) rfl (fun _ _ => rfl)
        have D4 : RdD mI4 mL3 R C (up2 D 9 (10 * u1 + u2) 1) := by rw [hmI4]; exact D3.l9 di u1 u2 lt l1' l2' t1' t2 t3
        have F4 : lnF R C mI mL mR mI4 mL3 mR3 := F3.trans (by rw [hmI4]; exact lnF.up _ (by unfold lnW; omega))
        have z4 : mI4 R 10 = mI R 10 := (f4 _ _ (by omega)).trans z3
        refine hG.callV dX3_readLiking_97 mv_3_147 [.int (nI 99)] [] (c3_takeNumber l X (d - 1) sh mI4 mL3 mR3 n R C TP t N p3 S4 99 (by omega) (by omega)) ⟨_, rfl, rfl⟩ q0 (by omega) rfl (by decide) (by simp [Value.category]) rfl ?_
        intro r M' hT
        cases hf5 : nuF t N p3 99 with
        | some e =>
          have q := hP _ _ (LiP.bad F4 hT hf5 (by unfold rdLikeB; rw [← tp1 n10, hf2]; show bf _ _ _ _ _ = _; rw [← tp2 n10 l1, ← hu1, hf3]; show bf _ _ _ _ _ = _; rw [← hu2, if_pos d0]; show bf _ _ _ _ _ = _; rw [hf5]; rfl))
          obtain ⟨mI5, mL5, mR5, rfl, b1, b2, b3, b4, b5⟩ := hT
          obtain ⟨rfl, -⟩ := b5 e hf5
          refine hG.run [] 60 ?_
          simp [wp, stepI, ln, jmp, cmpI, Value.category, rd, tyF, vrs, vrn, ex_rr, ex_rn, ex_nr, ex_nn, okA_s, okA_n, st1, st2, clr, isLg, CB, inx_0, inx_1, inx_2, inx_3, inx_4, inx_5, bI_0, bI_1, bI_ok, fin3, tyX3, entL, q0, nI00, nI10, dX3_readLiking_0, dX3_readLiking_1, fT_3_21, dX3_readLiking_4, dX3_readLiking_7, dX3_readLiking_8, dX3_readLiking_9, dX3_readLiking_12, dX3_readLiking_15, dX3_readLiking_16, dX3_readLiking_17, dX3_readLiking_18, fT_3_174, dX3_readLiking_21, dX3_readLiking_22, dX3_readLiking_23, dX3_readLiking_26, dX3_readLiking_29, dX3_readLiking_32, dX3_readLiking_33, dX3_readLiking_34, dX3_readLiking_37, fT_3_129, dX3_readLiking_40, dX3_readLiking_43, dX3_readLiking_46, dX3_readLiking_47, dX3_readLiking_48, dX3_readLiking_49, dX3_readLiking_50, dX3_readLiking_53, dX3_readLiking_54, fT_3_29, dX3_readLiking_57, dX3_readLiking_58, dX3_readLiking_59, dX3_readLiking_60, dX3_readLiking_61, dX3_readLiking_62, dX3_readLiking_63, dX3_readLiking_66, dX3_readLiking_67, dX3_readLiking_68, dX3_readLiking_71, dX3_readLiking_72, dX3_readLiking_73, dX3_readLiking_74, dX3_readLiking_77, dX3_readLiking_80, dX3_readLiking_81, dX3_readLiking_82, dX3_readLiking_83, dX3_readLiking_86, dX3_readLiking_87, dX3_readLiking_88, dX3_readLiking_89, dX3_readLiking_90, dX3_readLiking_91, dX3_readLiking_92, dX3_readLiking_93, dX3_readLiking_94, dX3_readLiking_95, dX3_readLiking_97, dX3_readLiking_100, dX3_readLiking_103, dX3_readLiking_104, dX3_readLiking_105, dX3_readLiking_106, fT_3_12, dX3_readLiking_109, fT_3_39, dX3_readLiking_112, fT_3_181, dX3_readLiking_115, dX3_readLiking_116, dX3_readLiking_118, dX3_readLiking_119, dX3_readLiking_120, dX3_readLiking_121, dX3_readLiking_122, fT_3_153, dX3_readLiking_125, dX3_readLiking_126, dX3_readLiking_127, dX3_readLiking_129, dX3_readLiking_132]
          exact q
        | none =>
          obtain ⟨mI5, mL5, mR5, rfl, b1, b2, b3, b4, b5⟩ := hT
          obtain ⟨rfl, S5, w5, nu5⟩ := b4 hf5
          have D5 := D4.fr di b1 b2
          have F5 := F4.trans (lnF.tk (C := C) b1 b2 b3)
          have z5 := w5.trans z4
          have y5 := b1
          rw [← hp4] at S5
          have m0 := S5.1.2.2.1
          have mc := S5.1.2.2.2.2.2.2.2.2.1
          have lk := S5.1.2.2.2.2.2.2.2.2.2.1.2.2 (3, 4, .int, 100) (by decide)
          dsimp only at lk
          refine hG.run [129] 80 ?_
          simp [wp, stepI, ln, jmp, cmpI, Value.category, rd, tyF, vrs, vrn, ex_rr, ex_rn, ex_nr, ex_nn, okA_s, okA_n, st1, st2, clr, isLg, CB, inx_0, inx_1, inx_2, inx_3, inx_4, inx_5, bI_0, bI_1, bI_ok, fin3, tyX3, entL, q0, m0, mc, lk, s6, c4, tyX6, tyX4, okv, wr, xl, nI00, nI10, dX3_readLiking_0, dX3_readLiking_1, fT_3_21, dX3_readLiking_4, dX3_readLiking_7, dX3_readLiking_8, dX3_readLiking_9, dX3_readLiking_12, dX3_readLiking_15, dX3_readLiking_16, dX3_readLiking_17, dX3_readLiking_18, fT_3_174, dX3_readLiking_21, dX3_readLiking_22, dX3_readLiking_23, dX3_readLiking_26, dX3_readLiking_29, dX3_readLiking_32, dX3_readLiking_33, dX3_readLiking_34, dX3_readLiking_37, fT_3_129, dX3_readLiking_40, dX3_readLiking_43, dX3_readLiking_46, dX3_readLiking_47, dX3_readLiking_48, dX3_readLiking_49, dX3_readLiking_50, dX3_readLiking_53, dX3_readLiking_54, fT_3_29, dX3_readLiking_57, dX3_readLiking_58, dX3_readLiking_59, dX3_readLiking_60, dX3_readLiking_61, dX3_readLiking_62, dX3_readLiking_63, dX3_readLiking_66, dX3_readLiking_67, dX3_readLiking_68, dX3_readLiking_71, dX3_readLiking_72, dX3_readLiking_73, dX3_readLiking_74, dX3_readLiking_77, dX3_readLiking_80, dX3_readLiking_81, dX3_readLiking_82, dX3_readLiking_83, dX3_readLiking_86, dX3_readLiking_87, dX3_readLiking_88, dX3_readLiking_89, dX3_readLiking_90, dX3_readLiking_91, dX3_readLiking_92, dX3_readLiking_93, dX3_readLiking_94, dX3_readLiking_95, dX3_readLiking_97, dX3_readLiking_100, dX3_readLiking_103, dX3_readLiking_104, dX3_readLiking_105, dX3_readLiking_106, fT_3_12, dX3_readLiking_109, fT_3_39, dX3_readLiking_112, fT_3_181, dX3_readLiking_115, dX3_readLiking_116, dX3_readLiking_118, dX3_readLiking_119, dX3_readLiking_120, dX3_readLiking_121, dX3_readLiking_122, fT_3_153, dX3_readLiking_125, dX3_readLiking_126, dX3_readLiking_127, dX3_readLiking_129, dX3_readLiking_132]
          rw [nu5]
          simp (disch := omega) only [li, nI_add, nI_clamp, nI_ltI, nI_leI, nI_eq, inx_iff, a31, nI_1shl', nI_shr', div_bit, tb1, tb0, fa_or, fa_and, nI_not, pk_sub, nI_dec, nI_mul]
          refine ⟨by omega, ?_⟩
          rw [Nat.mul_comm u1 10]
          obtain ⟨mI6, hmI6⟩ : ∃ m, m = up2 mI5 (C + 4) (10 * u1 + u2) (nI (lxNm t N p3)) := ⟨_, rfl⟩
          rw [← hmI6]
          have f6 : ∀ a k, a ≠ C + 4 → mI6 a k = mI5 a k := fun a k h => by rw [hmI6, up2_ne (fun y => h y.1)]
          have S6 : RsM sh mI6 mL5 mR5 R C TP t N p4 := S5.fr (fun k => f6 _ _ (by omega)) (fun k => f6 _ _ (by omega)) rfl (fun _ _ => rfl)
          have D6 : RdD mI6 mL5 R C (up2 (up2 D 9 (10 * u1 + u2) 1) 8 (10 * u1 + u2) (lxNm t N p3)) := by rw [hmI6]; exact D5.l8 di _ _
          have F6 : lnF R C mI mL mR mI6 mL5 mR5 := F5.trans (by rw [hmI6]; exact lnF.up _ (by unfold lnW; omega))
          have z6 : mI6 R 10 = mI R 10 := (f6 _ _ (by omega)).trans z5
          refine hG.callV dX3_readLiking_129 mv_3_156 [.int (nI 59)] [] (c3_takeSign l X (d - 1) sh mI6 mL5 mR5 n R C TP t N p4 S6 59 (by omega) (by omega) (by omega)) ⟨_, rfl, rfl⟩ q0 (by omega) rfl (by decide) (by simp [Value.category]) rfl ?_
          intro r M' hT
          have q := hP _ _ (LiP.sgn F6 hT (by unfold rdLikeB; rw [← tp1 n10, hf2]; show bf _ _ _ _ _ = _; rw [← tp2 n10 l1, ← hu1, hf3]; show bf _ _ _ _ _ = _; rw [← hu2, if_pos d0]; show bf _ _ _ _ _ = _; rw [hf5]; rfl) D6 di z6)
          obtain ⟨mI7, mL7, mR7, rfl, c1, c2, c3, c4, c5⟩ := hT
          cases hg : sgF t N p4 59 with
          | some e =>
            obtain ⟨rfl, -⟩ := c5 e hg
            refine hG.run [] 60 ?_
            simp [wp, stepI, ln, jmp, cmpI, Value.category, rd, tyF, vrs, vrn, ex_rr, ex_rn, ex_nr, ex_nn, okA_s, okA_n, st1, st2, clr, isLg, CB, inx_0, inx_1, inx_2, inx_3, inx_4, inx_5, bI_0, bI_1, bI_ok, fin3, tyX3, entL, q0, nI00, nI10, dX3_readLiking_0, dX3_readLiking_1, fT_3_21, dX3_readLiking_4, dX3_readLiking_7, dX3_readLiking_8, dX3_readLiking_9, dX3_readLiking_12, dX3_readLiking_15, dX3_readLiking_16, dX3_readLiking_17, dX3_readLiking_18, fT_3_174, dX3_readLiking_21, dX3_readLiking_22, dX3_readLiking_23, dX3_readLiking_26, dX3_readLiking_29, dX3_readLiking_32, dX3_readLiking_33, dX3_readLiking_34, dX3_readLiking_37, fT_3_129, dX3_readLiking_40, dX3_readLiking_43, dX3_readLiking_46, dX3_readLiking_47, dX3_readLiking_48, dX3_readLiking_49, dX3_readLiking_50, dX3_readLiking_53, dX3_readLiking_54, fT_3_29, dX3_readLiking_57, dX3_readLiking_58, dX3_readLiking_59, dX3_readLiking_60, dX3_readLiking_61, dX3_readLiking_62, dX3_readLiking_63, dX3_readLiking_66, dX3_readLiking_67, dX3_readLiking_68, dX3_readLiking_71, dX3_readLiking_72, dX3_readLiking_73, dX3_readLiking_74, dX3_readLiking_77, dX3_readLiking_80, dX3_readLiking_81, dX3_readLiking_82, dX3_readLiking_83, dX3_readLiking_86, dX3_readLiking_87, dX3_readLiking_88, dX3_readLiking_89, dX3_readLiking_90, dX3_readLiking_91, dX3_readLiking_92, dX3_readLiking_93, dX3_readLiking_94, dX3_readLiking_95, dX3_readLiking_97, dX3_readLiking_100, dX3_readLiking_103, dX3_readLiking_104, dX3_readLiking_105, dX3_readLiking_106, fT_3_12, dX3_readLiking_109, fT_3_39, dX3_readLiking_112, fT_3_181, dX3_readLiking_115, dX3_readLiking_116, dX3_readLiking_118, dX3_readLiking_119, dX3_readLiking_120, dX3_readLiking_121, dX3_readLiking_122, fT_3_153, dX3_readLiking_125, dX3_readLiking_126, dX3_readLiking_127, dX3_readLiking_129, dX3_readLiking_132]
            exact q
          | none =>
            obtain ⟨rfl, -⟩ := c4 hg
            refine hG.run [] 60 ?_
            simp [wp, stepI, ln, jmp, cmpI, Value.category, rd, tyF, vrs, vrn, ex_rr, ex_rn, ex_nr, ex_nn, okA_s, okA_n, st1, st2, clr, isLg, CB, inx_0, inx_1, inx_2, inx_3, inx_4, inx_5, bI_0, bI_1, bI_ok, fin3, tyX3, entL, q0, nI00, nI10, dX3_readLiking_0, dX3_readLiking_1, fT_3_21, dX3_readLiking_4, dX3_readLiking_7, dX3_readLiking_8, dX3_readLiking_9, dX3_readLiking_12, dX3_readLiking_15, dX3_readLiking_16, dX3_readLiking_17, dX3_readLiking_18, fT_3_174, dX3_readLiking_21, dX3_readLiking_22, dX3_readLiking_23, dX3_readLiking_26, dX3_readLiking_29, dX3_readLiking_32, dX3_readLiking_33, dX3_readLiking_34, dX3_readLiking_37, fT_3_129, dX3_readLiking_40, dX3_readLiking_43, dX3_readLiking_46, dX3_readLiking_47, dX3_readLiking_48, dX3_readLiking_49, dX3_readLiking_50, dX3_readLiking_53, dX3_readLiking_54, fT_3_29, dX3_readLiking_57, dX3_readLiking_58, dX3_readLiking_59, dX3_readLiking_60, dX3_readLiking_61, dX3_readLiking_62, dX3_readLiking_63, dX3_readLiking_66, dX3_readLiking_67, dX3_readLiking_68, dX3_readLiking_71, dX3_readLiking_72, dX3_readLiking_73, dX3_readLiking_74, dX3_readLiking_77, dX3_readLiking_80, dX3_readLiking_81, dX3_readLiking_82, dX3_readLiking_83, dX3_readLiking_86, dX3_readLiking_87, dX3_readLiking_88, dX3_readLiking_89, dX3_readLiking_90, dX3_readLiking_91, dX3_readLiking_92, dX3_readLiking_93, dX3_readLiking_94, dX3_readLiking_95, dX3_readLiking_97, dX3_readLiking_100, dX3_readLiking_103, dX3_readLiking_104, dX3_readLiking_105, dX3_readLiking_106, fT_3_12, dX3_readLiking_109, fT_3_39, dX3_readLiking_112, fT_3_181, dX3_readLiking_115, dX3_readLiking_116, dX3_readLiking_118, dX3_readLiking_119, dX3_readLiking_120, dX3_readLiking_121, dX3_readLiking_122, fT_3_153, dX3_readLiking_125, dX3_readLiking_126, dX3_readLiking_127, dX3_readLiking_129, dX3_readLiking_132]
            exact ⟨rfl, q⟩
    refine hG.run [26] 60 ?_
    simp [wp, stepI, ln, jmp, cmpI, Value.category, rd, tyF, vrs, vrn, ex_rr, ex_rn, ex_nr, ex_nn, okA_s, okA_n, st1, st2, clr, isLg, CB, inx_0, inx_1, inx_2, inx_3, inx_4, inx_5, bI_0, bI_1, bI_ok, fin3, tyX3, entL, q0, m1, nI00, nI10, dX3_readLiking_0, dX3_readLiking_1, fT_3_21, dX3_readLiking_4, dX3_readLiking_7, dX3_readLiking_8, dX3_readLiking_9, dX3_readLiking_12, dX3_readLiking_15, dX3_readLiking_16, dX3_readLiking_17, dX3_readLiking_18, fT_3_174, dX3_readLiking_21, dX3_readLiking_22, dX3_readLiking_23, dX3_readLiking_26, dX3_readLiking_29, dX3_readLiking_32, dX3_readLiking_33, dX3_readLiking_34, dX3_readLiking_37, fT_3_129, dX3_readLiking_40, dX3_readLiking_43, dX3_readLiking_46, dX3_readLiking_47, dX3_readLiking_48, dX3_readLiking_49, dX3_readLiking_50, dX3_readLiking_53, dX3_readLiking_54, fT_3_29, dX3_readLiking_57, dX3_readLiking_58, dX3_readLiking_59, dX3_readLiking_60, dX3_readLiking_61, dX3_readLiking_62, dX3_readLiking_63, dX3_readLiking_66, dX3_readLiking_67, dX3_readLiking_68, dX3_readLiking_71, dX3_readLiking_72, dX3_readLiking_73, dX3_readLiking_74, dX3_readLiking_77, dX3_readLiking_80, dX3_readLiking_81, dX3_readLiking_82, dX3_readLiking_83, dX3_readLiking_86, dX3_readLiking_87, dX3_readLiking_88, dX3_readLiking_89, dX3_readLiking_90, dX3_readLiking_91, dX3_readLiking_92, dX3_readLiking_93, dX3_readLiking_94, dX3_readLiking_95, dX3_readLiking_97, dX3_readLiking_100, dX3_readLiking_103, dX3_readLiking_104, dX3_readLiking_105, dX3_readLiking_106, fT_3_12, dX3_readLiking_109, fT_3_39, dX3_readLiking_112, fT_3_181, dX3_readLiking_115, dX3_readLiking_116, dX3_readLiking_118, dX3_readLiking_119, dX3_readLiking_120, dX3_readLiking_121, dX3_readLiking_122, fT_3_153, dX3_readLiking_125, dX3_readLiking_126, dX3_readLiking_127, dX3_readLiking_129, dX3_readLiking_132]
    rw [nu2, ← hu1]
    refine hG.callV dX3_readLiking_26 mv_3_126 [] [] (c8_isName l X (d - 1) sh mI2 mL2 mR2 n (R + 13) k0 t N p2 S2.2.2.1) ⟨_, rfl, rfl⟩ k0 (by omega) rfl (by decide) (by simp [Value.category]) rfl ?_
    rintro r M' ⟨rfl, rfl⟩
    cases hn : kpN t N p2 with
    | true =>
      have nb : nmB t N p2 = false := by unfold nmB; rw [hn]; rfl
      rw [nb]
      refine hG.run [72] 60 ?_
      simp [wp, stepI, ln, jmp, cmpI, Value.category, rd, tyF, vrs, vrn, ex_rr, ex_rn, ex_nr, ex_nn, okA_s, okA_n, st1, st2, clr, isLg, CB, inx_0, inx_1, inx_2, inx_3, inx_4, inx_5, bI_0, bI_1, bI_ok, fin3, tyX3, entL, q0, m1, ml, dX3_readLiking_0, dX3_readLiking_1, fT_3_21, dX3_readLiking_4, dX3_readLiking_7, dX3_readLiking_8, dX3_readLiking_9, dX3_readLiking_12, dX3_readLiking_15, dX3_readLiking_16, dX3_readLiking_17, dX3_readLiking_18, fT_3_174, dX3_readLiking_21, dX3_readLiking_22, dX3_readLiking_23, dX3_readLiking_26, dX3_readLiking_29, dX3_readLiking_32, dX3_readLiking_33, dX3_readLiking_34, dX3_readLiking_37, fT_3_129, dX3_readLiking_40, dX3_readLiking_43, dX3_readLiking_46, dX3_readLiking_47, dX3_readLiking_48, dX3_readLiking_49, dX3_readLiking_50, dX3_readLiking_53, dX3_readLiking_54, fT_3_29, dX3_readLiking_57, dX3_readLiking_58, dX3_readLiking_59, dX3_readLiking_60, dX3_readLiking_61, dX3_readLiking_62, dX3_readLiking_63, dX3_readLiking_66, dX3_readLiking_67, dX3_readLiking_68, dX3_readLiking_71, dX3_readLiking_72, dX3_readLiking_73, dX3_readLiking_74, dX3_readLiking_77, dX3_readLiking_80, dX3_readLiking_81, dX3_readLiking_82, dX3_readLiking_83, dX3_readLiking_86, dX3_readLiking_87, dX3_readLiking_88, dX3_readLiking_89, dX3_readLiking_90, dX3_readLiking_91, dX3_readLiking_92, dX3_readLiking_93, dX3_readLiking_94, dX3_readLiking_95, dX3_readLiking_97, dX3_readLiking_100, dX3_readLiking_103, dX3_readLiking_104, dX3_readLiking_105, dX3_readLiking_106, fT_3_12, dX3_readLiking_109, fT_3_39, dX3_readLiking_112, fT_3_181, dX3_readLiking_115, dX3_readLiking_116, dX3_readLiking_118, dX3_readLiking_119, dX3_readLiking_120, dX3_readLiking_121, dX3_readLiking_122, fT_3_153, dX3_readLiking_125, dX3_readLiking_126, dX3_readLiking_127, dX3_readLiking_129, dX3_readLiking_132]
      refine G72 _ (fun z => ?_)
      rw [(tpF_no z).2.2] at hn; cases hn
    | false =>
      have nb : nmB t N p2 = true := by unfold nmB; rw [hn]; rfl
      have hk : lxK t N p2 = 1 := by
        unfold kpN at hn
        rw [Bool.or_eq_false_iff] at hn
        have := hn.1
        simpa using this
      have v8 := (lxWd_v hk).1
      have nm := S2.2.2.1.2.2.2.2.1 hk
      rw [nb]
      refine hG.run [40] 60 ?_
      simp [wp, stepI, ln, jmp, cmpI, Value.category, rd, tyF, vrs, vrn, ex_rr, ex_rn, ex_nr, ex_nn, okA_s, okA_n, st1, st2, clr, isLg, CB, inx_0, inx_1, inx_2, inx_3, inx_4, inx_5, bI_0, bI_1, bI_ok, fin3, tyX3, entL, q0, m1, k0, tyX8, dX3_readLiking_0, dX3_readLiking_1, fT_3_21, dX3_readLiking_4, dX3_readLiking_7, dX3_readLiking_8, dX3_readLiking_9, dX3_readLiking_12, dX3_readLiking_15, dX3_readLiking_16, dX3_readLiking_17, dX3_readLiking_18, fT_3_174, dX3_readLiking_21, dX3_readLiking_22, dX3_readLiking_23, dX3_readLiking_26, dX3_readLiking_29, dX3_readLiking_32, dX3_readLiking_33, dX3_readLiking_34, dX3_readLiking_37, fT_3_129, dX3_readLiking_40, dX3_readLiking_43, dX3_readLiking_46, dX3_readLiking_47, dX3_readLiking_48, dX3_readLiking_49, dX3_readLiking_50, dX3_readLiking_53, dX3_readLiking_54, fT_3_29, dX3_readLiking_57, dX3_readLiking_58, dX3_readLiking_59, dX3_readLiking_60, dX3_readLiking_61, dX3_readLiking_62, dX3_readLiking_63, dX3_readLiking_66, dX3_readLiking_67, dX3_readLiking_68, dX3_readLiking_71, dX3_readLiking_72, dX3_readLiking_73, dX3_readLiking_74, dX3_readLiking_77, dX3_readLiking_80, dX3_readLiking_81, dX3_readLiking_82, dX3_readLiking_83, dX3_readLiking_86, dX3_readLiking_87, dX3_readLiking_88, dX3_readLiking_89, dX3_readLiking_90, dX3_readLiking_91, dX3_readLiking_92, dX3_readLiking_93, dX3_readLiking_94, dX3_readLiking_95, dX3_readLiking_97, dX3_readLiking_100, dX3_readLiking_103, dX3_readLiking_104, dX3_readLiking_105, dX3_readLiking_106, fT_3_12, dX3_readLiking_109, fT_3_39, dX3_readLiking_112, fT_3_181, dX3_readLiking_115, dX3_readLiking_116, dX3_readLiking_118, dX3_readLiking_119, dX3_readLiking_120, dX3_readLiking_121, dX3_readLiking_122, fT_3_153, dX3_readLiking_125, dX3_readLiking_126, dX3_readLiking_127, dX3_readLiking_129, dX3_readLiking_132]
      rw [nm]
      refine hG.callV dX3_readLiking_40 mv_3_133 [.long (lN (cv8 (lxWd t N p2)))] [] (c3_pupilNamed l X (d - 1) sh mI2 mL2 mR2 n R C TP S2.1 D D2 hV _ v8) ⟨_, rfl, rfl⟩ q0 (by omega) rfl (by decide) (by simp [Value.category]) rfl ?_
      rintro r M' ⟨rfl, rfl⟩
      by_cases hl : pnm (D 0 0) (D 1) (lxWd t N p2) < D 0 0
      · have e1 : pnI (D 0 0) (D 1) (lxWd t N p2) = nI u2 := by unfold pnI; rw [if_pos hl, hu2]
        have um : ¬ nI u2 = -1 := nI_ne_m1 (by omega)
        rw [e1]
        refine hG.run [72, 68] 60 ?_
        simp [wp, stepI, ln, jmp, cmpI, Value.category, rd, tyF, vrs, vrn, ex_rr, ex_rn, ex_nr, ex_nn, okA_s, okA_n, st1, st2, clr, isLg, CB, inx_0, inx_1, inx_2, inx_3, inx_4, inx_5, bI_0, bI_1, bI_ok, fin3, tyX3, entL, q0, m1, ml, um, dX3_readLiking_0, dX3_readLiking_1, fT_3_21, dX3_readLiking_4, dX3_readLiking_7, dX3_readLiking_8, dX3_readLiking_9, dX3_readLiking_12, dX3_readLiking_15, dX3_readLiking_16, dX3_readLiking_17, dX3_readLiking_18, fT_3_174, dX3_readLiking_21, dX3_readLiking_22, dX3_readLiking_23, dX3_readLiking_26, dX3_readLiking_29, dX3_readLiking_32, dX3_readLiking_33, dX3_readLiking_34, dX3_readLiking_37, fT_3_129, dX3_readLiking_40, dX3_readLiking_43, dX3_readLiking_46, dX3_readLiking_47, dX3_readLiking_48, dX3_readLiking_49, dX3_readLiking_50, dX3_readLiking_53, dX3_readLiking_54, fT_3_29, dX3_readLiking_57, dX3_readLiking_58, dX3_readLiking_59, dX3_readLiking_60, dX3_readLiking_61, dX3_readLiking_62, dX3_readLiking_63, dX3_readLiking_66, dX3_readLiking_67, dX3_readLiking_68, dX3_readLiking_71, dX3_readLiking_72, dX3_readLiking_73, dX3_readLiking_74, dX3_readLiking_77, dX3_readLiking_80, dX3_readLiking_81, dX3_readLiking_82, dX3_readLiking_83, dX3_readLiking_86, dX3_readLiking_87, dX3_readLiking_88, dX3_readLiking_89, dX3_readLiking_90, dX3_readLiking_91, dX3_readLiking_92, dX3_readLiking_93, dX3_readLiking_94, dX3_readLiking_95, dX3_readLiking_97, dX3_readLiking_100, dX3_readLiking_103, dX3_readLiking_104, dX3_readLiking_105, dX3_readLiking_106, fT_3_12, dX3_readLiking_109, fT_3_39, dX3_readLiking_112, fT_3_181, dX3_readLiking_115, dX3_readLiking_116, dX3_readLiking_118, dX3_readLiking_119, dX3_readLiking_120, dX3_readLiking_121, dX3_readLiking_122, fT_3_153, dX3_readLiking_125, dX3_readLiking_126, dX3_readLiking_127, dX3_readLiking_129, dX3_readLiking_132]
        simp (disch := omega) only [li, nI_add, nI_clamp, nI_ltI, nI_leI, nI_eq, inx_iff, a31, nI_1shl', nI_shr', div_bit, tb1, tb0, fa_or, fa_and, nI_not, pk_sub, nI_dec, t1]
        refine ⟨l1', fun z => ?_, fun z => ?_⟩
        · refine G72 _ (fun _ => ⟨rfl, ?_⟩)
          have y := t3 u2 (by omega)
          have w := d9 (10 * u1 + u2) (by omega)
          revert z
          intro z
          rcases Nat.lt_or_ge (D 9 (10 * u1 + u2)) 1 with a | a
          · omega
          · have := y.mpr (by omega)
            rw [z] at this; cases this
        · refine hG.callV dX3_readLiking_68 mv_3_116 [.int (nI 3)] [] (c3_wrong l X (d - 1) sh mI2 mL2 mR2 n R C TP t N p2 S2 3) ⟨_, rfl, rfl⟩ q0 (by omega) rfl (by decide) (by simp [Value.category]) rfl ?_
          rintro r M' ⟨rfl, rfl⟩
          refine hG.run [] 60 ?_
          simp [wp, stepI, ln, jmp, cmpI, Value.category, rd, tyF, vrs, vrn, ex_rr, ex_rn, ex_nr, ex_nn, okA_s, okA_n, st1, st2, clr, isLg, CB, inx_0, inx_1, inx_2, inx_3, inx_4, inx_5, bI_0, bI_1, bI_ok, fin3, tyX3, entL, q0, dX3_readLiking_0, dX3_readLiking_1, fT_3_21, dX3_readLiking_4, dX3_readLiking_7, dX3_readLiking_8, dX3_readLiking_9, dX3_readLiking_12, dX3_readLiking_15, dX3_readLiking_16, dX3_readLiking_17, dX3_readLiking_18, fT_3_174, dX3_readLiking_21, dX3_readLiking_22, dX3_readLiking_23, dX3_readLiking_26, dX3_readLiking_29, dX3_readLiking_32, dX3_readLiking_33, dX3_readLiking_34, dX3_readLiking_37, fT_3_129, dX3_readLiking_40, dX3_readLiking_43, dX3_readLiking_46, dX3_readLiking_47, dX3_readLiking_48, dX3_readLiking_49, dX3_readLiking_50, dX3_readLiking_53, dX3_readLiking_54, fT_3_29, dX3_readLiking_57, dX3_readLiking_58, dX3_readLiking_59, dX3_readLiking_60, dX3_readLiking_61, dX3_readLiking_62, dX3_readLiking_63, dX3_readLiking_66, dX3_readLiking_67, dX3_readLiking_68, dX3_readLiking_71, dX3_readLiking_72, dX3_readLiking_73, dX3_readLiking_74, dX3_readLiking_77, dX3_readLiking_80, dX3_readLiking_81, dX3_readLiking_82, dX3_readLiking_83, dX3_readLiking_86, dX3_readLiking_87, dX3_readLiking_88, dX3_readLiking_89, dX3_readLiking_90, dX3_readLiking_91, dX3_readLiking_92, dX3_readLiking_93, dX3_readLiking_94, dX3_readLiking_95, dX3_readLiking_97, dX3_readLiking_100, dX3_readLiking_103, dX3_readLiking_104, dX3_readLiking_105, dX3_readLiking_106, fT_3_12, dX3_readLiking_109, fT_3_39, dX3_readLiking_112, fT_3_181, dX3_readLiking_115, dX3_readLiking_116, dX3_readLiking_118, dX3_readLiking_119, dX3_readLiking_120, dX3_readLiking_121, dX3_readLiking_122, fT_3_153, dX3_readLiking_125, dX3_readLiking_126, dX3_readLiking_127, dX3_readLiking_129, dX3_readLiking_132]
          refine ⟨Or.inl rfl, hP _ _ (LiP.wr F2 ?_)⟩
          unfold rdLikeB
          rw [← tp1 n10, hf2]
          show bf _ _ _ _ _ = _
          rw [← tp2 n10 l1, ← hu1, ← hu2]
          have tq : tpF t N p2 (D 0 0) (D 1) (nI u1) = if nI u2 = nI u1 then some 3 else none := by unfold tpF; rw [hn, if_pos hl, hu2]; rfl
          rw [tq]
          by_cases h12 : nI u2 = nI u1
          · rw [if_pos h12]; rfl
          · rw [if_neg h12]
            show bf _ _ _ _ _ = _
            rw [if_neg (fun h0 => ?_)]
            · rfl
            · have y := t3 u2 (by omega)
              revert z
              intro z
              refine z ?_
              cases hb : lt.testBit u2 with
              | false => rfl
              | true => exact absurd (y.mp hb) (by omega)
      · have e1 : pnI (D 0 0) (D 1) (lxWd t N p2) = -1 := by unfold pnI; rw [if_neg hl]; rfl
        rw [e1]
        refine hG.run [72] 60 ?_
        simp [wp, stepI, ln, jmp, cmpI, Value.category, rd, tyF, vrs, vrn, ex_rr, ex_rn, ex_nr, ex_nn, okA_s, okA_n, st1, st2, clr, isLg, CB, inx_0, inx_1, inx_2, inx_3, inx_4, inx_5, bI_0, bI_1, bI_ok, fin3, tyX3, entL, q0, m1, ml, dX3_readLiking_0, dX3_readLiking_1, fT_3_21, dX3_readLiking_4, dX3_readLiking_7, dX3_readLiking_8, dX3_readLiking_9, dX3_readLiking_12, dX3_readLiking_15, dX3_readLiking_16, dX3_readLiking_17, dX3_readLiking_18, fT_3_174, dX3_readLiking_21, dX3_readLiking_22, dX3_readLiking_23, dX3_readLiking_26, dX3_readLiking_29, dX3_readLiking_32, dX3_readLiking_33, dX3_readLiking_34, dX3_readLiking_37, fT_3_129, dX3_readLiking_40, dX3_readLiking_43, dX3_readLiking_46, dX3_readLiking_47, dX3_readLiking_48, dX3_readLiking_49, dX3_readLiking_50, dX3_readLiking_53, dX3_readLiking_54, fT_3_29, dX3_readLiking_57, dX3_readLiking_58, dX3_readLiking_59, dX3_readLiking_60, dX3_readLiking_61, dX3_readLiking_62, dX3_readLiking_63, dX3_readLiking_66, dX3_readLiking_67, dX3_readLiking_68, dX3_readLiking_71, dX3_readLiking_72, dX3_readLiking_73, dX3_readLiking_74, dX3_readLiking_77, dX3_readLiking_80, dX3_readLiking_81, dX3_readLiking_82, dX3_readLiking_83, dX3_readLiking_86, dX3_readLiking_87, dX3_readLiking_88, dX3_readLiking_89, dX3_readLiking_90, dX3_readLiking_91, dX3_readLiking_92, dX3_readLiking_93, dX3_readLiking_94, dX3_readLiking_95, dX3_readLiking_97, dX3_readLiking_100, dX3_readLiking_103, dX3_readLiking_104, dX3_readLiking_105, dX3_readLiking_106, fT_3_12, dX3_readLiking_109, fT_3_39, dX3_readLiking_112, fT_3_181, dX3_readLiking_115, dX3_readLiking_116, dX3_readLiking_118, dX3_readLiking_119, dX3_readLiking_120, dX3_readLiking_121, dX3_readLiking_122, fT_3_153, dX3_readLiking_125, dX3_readLiking_126, dX3_readLiking_127, dX3_readLiking_129, dX3_readLiking_132]
        refine G72 _ (fun z => absurd (tpF_no z).1 hl)
