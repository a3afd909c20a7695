/-! benches -/
theorem RdD.bn {mI : Nat → Nat → Int32} {mL : Nat → Nat → Int64} {R C : Nat} {D : DD} (h : RdD mI mL R C D) (hd : R + 17 < C ∨ C + 5 < R) (x : Nat) : RdD (up2 (up2 mI (C + 3) (D 0 1) (nI x)) C 5 (nI (D 0 1 + 1))) mL R C (up2 (up2 D 4 (D 0 1) x) 0 1 (D 0 1 + 1)) := by
  obtain ⟨⟨a1, a2, a3, a4, a5, a6⟩, b, c, d, e, f⟩ := h
  have h1 : ∀ a k, ¬ (a = C ∧ k = 5) → a ≠ C + 3 → up2 (up2 mI (C + 3) (D 0 1) (nI x)) C 5 (nI (D 0 1 + 1)) a k = mI a k := fun a k z y => by rw [up2_ne z, up2_ne (fun w => y w.1)]
  have hD : ∀ i, i ≠ 0 → i ≠ 4 → up2 (up2 D 4 (D 0 1) x) 0 1 (D 0 1 + 1) i = D i := fun i z y => funext (fun k => by rw [up2_ne (fun w => z w.1), up2_ne (fun w => y w.1)])
  have h0 : ∀ k, k ≠ 1 → up2 (up2 D 4 (D 0 1) x) 0 1 (D 0 1 + 1) 0 k = D 0 k := fun k z => by rw [up2_ne (fun w => z w.2), up2_ne (fun w => by cases w.1)]
  have h01 : up2 (up2 D 4 (D 0 1) x) 0 1 (D 0 1 + 1) 0 1 = D 0 1 + 1 := up2_eq ..
  refine ⟨⟨?_, ?_, ?_, ?_, ?_, ?_⟩, ?_, ?_, ?_, ?_, ?_⟩
  · rw [h0 0 (by decide), h1 _ _ (by omega) (by omega)]; exact a1
  · rw [h01, up2_eq]
  · rw [h0 2 (by decide), h1 _ _ (by omega) (by omega)]; exact a3
  · rw [h0 3 (by decide), h1 _ _ (by omega) (by omega)]; exact a4
  · rw [h0 4 (by decide), h1 _ _ (by omega) (by omega)]; exact a5
  · rw [h0 5 (by decide), h1 _ _ (by omega) (by omega)]; exact a6
  · rw [h0 0 (by decide), hD 1 (by decide) (by decide), hD 2 (by decide) (by decide), hD 3 (by decide) (by decide)]
    exact fun p hp => ⟨(b p hp).1, (b p hp).2.1, (h1 _ _ (by omega) (by omega)).trans (b p hp).2.2.1, (h1 _ _ (by omega) (by omega)).trans (b p hp).2.2.2⟩
  · rw [h01]
    intro k hk
    rw [up2_ne (a := 0) (fun y => by cases y.1), up2_ne (a := C) (by omega)]
    by_cases z : k = D 0 1
    · rw [z, up2_eq, up2_eq]
    · rw [up2_ne (fun y => z y.2), up2_ne (fun y => z y.2)]
      exact c k (by omega)
  · rw [h0 2 (by decide), hD 5 (by decide) (by decide), hD 6 (by decide) (by decide), hD 7 (by decide) (by decide)]
    exact fun k hk => ⟨(h1 _ _ (by omega) (by omega)).trans (d k hk).1, (h1 _ _ (by omega) (by omega)).trans (d k hk).2.1, (h1 _ _ (by omega) (by omega)).trans (d k hk).2.2⟩
  · rw [hD 8 (by decide) (by decide)]
    exact fun i hi => (h1 _ _ (by omega) (by omega)).trans (e i hi)
  · rw [hD 9 (by decide) (by decide)]
    intro a ha
    obtain ⟨lt, f1, f2⟩ := f a ha
    exact ⟨lt, (h1 _ _ (by omega) (by omega)).trans f1, f2⟩
set_option maxHeartbeats 4000000 in
set_option maxRecDepth 100000 in
theorem c3_readBench (l : Launch) (X : Cx) (d : Nat) (sh : Nat → Option Sh) (mI : Nat → Nat → Int32) (mL : Nat → Nat → Int64) (mR : Nat → Nat → Option Nat) (n : Nat) (R C TP : Nat) (t : Nat → Nat) (N p : Nat) (hS : RsM sh mI mL mR R C TP t N p) (D : DD) (hD : RdD mI mL R C D) (hV : DrV D) (hd : 4 ≤ d) : Cn l X yX3_readBench cX3_readBench 2 (some .boolean) d [.ref R] (sh, mI, mL, mR, n) (LiP sh mI mL mR n R C TP t N (rdBench t N p D)) 0 0 := by
  refine Cn.run 3 false (by decide) rfl (by decide) (by simp [entA, Value.category]) ?_
  intro P G hP hG
  unfold rdBench at hP
  obtain ⟨p1, hp1⟩ : ∃ x, x = lxE t N p := ⟨_, rfl⟩
  rw [← hp1] at hP
  obtain ⟨p2, hp2⟩ : ∃ x, x = lxE t N p1 := ⟨_, rfl⟩
  rw [← hp2] at hP
  obtain ⟨p3, hp3⟩ : ∃ x, x = lxE t N p2 := ⟨_, rfl⟩
  rw [← hp3] at hP
  obtain ⟨p4, hp4⟩ : ∃ x, x = lxE t N p3 := ⟨_, rfl⟩
  rw [← hp4] at hP
  obtain ⟨p5, hp5⟩ : ∃ x, x = lxE t N p4 := ⟨_, rfl⟩
  rw [← hp5] at hP
  have S0 := hS
  have D0 := hD
  have F0 : lnF R C mI mL mR mI mL mR := lnF.refl
  have z0 : mI R 10 = mI R 10 := rfl
  obtain ⟨g1, g2, g3, g4⟩ := hS
  have q0 := g1.1
  have xR : R < 1000000000 := by have := g1.2.1; omega
  have r0 := g1.2.2.1
  have r1 := g1.2.2.2.1
  have k0 := g1.2.2.2.2.2.2.2.2.2.2.1.1
  have s6 := g1.2.2.2.2.2.2.2.1.1
  have rc := g1.2.2.2.2.2.2.2.2.1
  have c4 := g1.2.2.2.2.2.2.2.2.2.1.1
  have di := g1.2.2.2.2.2.2.2.2.2.2.2.1
  have dt := g1.2.2.2.2.2.2.2.2.2.2.2.2
  have xc : C < 100000000 := g1.2.2.2.2.2.2.2.2.2.1.2.1
  have b6 : D 0 1 ≤ 6 := hV.1.2.1
  have bn := hD.1.2.1
  have xC : C < 1000000000 := Nat.lt_trans g1.2.2.2.2.2.2.2.2.2.1.2.1 (by omega)
  by_cases h6 : D 0 1 = 6
  · rw [h6] at bn
    refine hG.run [19] 60 ?_
    simp [wp, stepI, ln, jmp, cmpI, Value.category, rd, tyF, vrs, vrn, ex_rr, ex_rn, ex_nr, ex_nn, okA_s, okA_n, st1, st2, clr, isLg, CB, inx_0, inx_1, inx_2, inx_3, inx_4, inx_5, bI_0, bI_1, bI_ok, fin3, tyX3, entL, q0, r0, r1, s6, rc, c4, tyX6, tyX4, bn, dX3_readBench_0, dX3_readBench_1, fT_3_12, dX3_readBench_4, fT_3_39, dX3_readBench_7, dX3_readBench_8, dX3_readBench_9, fT_3_159, dX3_readBench_12, dX3_readBench_14, dX3_readBench_17, dX3_readBench_18, dX3_readBench_19, dX3_readBench_22, dX3_readBench_23, dX3_readBench_24, fT_3_21, dX3_readBench_27, dX3_readBench_30, dX3_readBench_31, sT_3_162, dX3_readBench_34, dX3_readBench_37, dX3_readBench_40, dX3_readBench_41, dX3_readBench_43, dX3_readBench_46, dX3_readBench_49, dX3_readBench_50, dX3_readBench_51, dX3_readBench_52, fT_3_165, dX3_readBench_55, dX3_readBench_56, dX3_readBench_59, dX3_readBench_60, fT_3_153, dX3_readBench_63, dX3_readBench_64, dX3_readBench_65, dX3_readBench_66, dX3_readBench_69, dX3_readBench_70, dX3_readBench_71, dX3_readBench_74, dX3_readBench_75, sT_3_168, dX3_readBench_78, dX3_readBench_81, dX3_readBench_84, dX3_readBench_85, dX3_readBench_87, dX3_readBench_90, dX3_readBench_93, dX3_readBench_94, dX3_readBench_96, dX3_readBench_99, dX3_readBench_102, dX3_readBench_103, dX3_readBench_106, dX3_readBench_107]
    simp (disch := omega) only [li, nI_add, nI_clamp, nI_ltI, nI_leI, nI_eq, inx_iff, a31, nI_1shl', nI_shr', div_bit, tb1, tb0, fa_or, fa_and, nI_not, pk_sub, nI_dec]
    refine ⟨fun z => by omega, fun _ => ?_⟩
    refine hG.callV dX3_readBench_19 mv_3_116 [.int (nI 5)] [] (c3_wrong l X (d - 1) sh mI mL mR n R C TP t N p S0 5) ⟨_, rfl, rfl⟩ q0 (by omega) rfl (by decide) (by simp [Value.category]) rfl ?_
    rintro r M' ⟨rfl, rfl⟩
    refine hG.run [] 60 ?_
    simp [wp, stepI, ln, jmp, cmpI, Value.category, rd, tyF, vrs, vrn, ex_rr, ex_rn, ex_nr, ex_nn, okA_s, okA_n, st1, st2, clr, isLg, CB, inx_0, inx_1, inx_2, inx_3, inx_4, inx_5, bI_0, bI_1, bI_ok, fin3, tyX3, entL, q0, dX3_readBench_0, dX3_readBench_1, fT_3_12, dX3_readBench_4, fT_3_39, dX3_readBench_7, dX3_readBench_8, dX3_readBench_9, fT_3_159, dX3_readBench_12, dX3_readBench_14, dX3_readBench_17, dX3_readBench_18, dX3_readBench_19, dX3_readBench_22, dX3_readBench_23, dX3_readBench_24, fT_3_21, dX3_readBench_27, dX3_readBench_30, dX3_readBench_31, sT_3_162, dX3_readBench_34, dX3_readBench_37, dX3_readBench_40, dX3_readBench_41, dX3_readBench_43, dX3_readBench_46, dX3_readBench_49, dX3_readBench_50, dX3_readBench_51, dX3_readBench_52, fT_3_165, dX3_readBench_55, dX3_readBench_56, dX3_readBench_59, dX3_readBench_60, fT_3_153, dX3_readBench_63, dX3_readBench_64, dX3_readBench_65, dX3_readBench_66, dX3_readBench_69, dX3_readBench_70, dX3_readBench_71, dX3_readBench_74, dX3_readBench_75, sT_3_168, dX3_readBench_78, dX3_readBench_81, dX3_readBench_84, dX3_readBench_85, dX3_readBench_87, dX3_readBench_90, dX3_readBench_93, dX3_readBench_94, dX3_readBench_96, dX3_readBench_99, dX3_readBench_102, dX3_readBench_103, dX3_readBench_106, dX3_readBench_107]
    exact ⟨Or.inl rfl, hP _ _ (LiP.wr lnF.refl (by unfold rdBenchB; rw [if_pos h6]))⟩
  · refine hG.run [27] 60 ?_
    simp [wp, stepI, ln, jmp, cmpI, Value.category, rd, tyF, vrs, vrn, ex_rr, ex_rn, ex_nr, ex_nn, okA_s, okA_n, st1, st2, clr, isLg, CB, inx_0, inx_1, inx_2, inx_3, inx_4, inx_5, bI_0, bI_1, bI_ok, fin3, tyX3, entL, q0, r0, r1, s6, rc, c4, tyX6, tyX4, bn, dX3_readBench_0, dX3_readBench_1, fT_3_12, dX3_readBench_4, fT_3_39, dX3_readBench_7, dX3_readBench_8, dX3_readBench_9, fT_3_159, dX3_readBench_12, dX3_readBench_14, dX3_readBench_17, dX3_readBench_18, dX3_readBench_19, dX3_readBench_22, dX3_readBench_23, dX3_readBench_24, fT_3_21, dX3_readBench_27, dX3_readBench_30, dX3_readBench_31, sT_3_162, dX3_readBench_34, dX3_readBench_37, dX3_readBench_40, dX3_readBench_41, dX3_readBench_43, dX3_readBench_46, dX3_readBench_49, dX3_readBench_50, dX3_readBench_51, dX3_readBench_52, fT_3_165, dX3_readBench_55, dX3_readBench_56, dX3_readBench_59, dX3_readBench_60, fT_3_153, dX3_readBench_63, dX3_readBench_64, dX3_readBench_65, dX3_readBench_66, dX3_readBench_69, dX3_readBench_70, dX3_readBench_71, dX3_readBench_74, dX3_readBench_75, sT_3_168, dX3_readBench_78, dX3_readBench_81, dX3_readBench_84, dX3_readBench_85, dX3_readBench_87, dX3_readBench_90, dX3_readBench_93, dX3_readBench_94, dX3_readBench_96, dX3_readBench_99, dX3_readBench_102, dX3_readBench_103, dX3_readBench_106, dX3_readBench_107]
    simp (disch := omega) only [li, nI_add, nI_clamp, nI_ltI, nI_leI, nI_eq, inx_iff, a31, nI_1shl', nI_shr', div_bit, tb1, tb0, fa_or, fa_and, nI_not, pk_sub, nI_dec, bn]
    refine ⟨fun _ => ?_, fun z => by omega⟩
    refine hG.callV dX3_readBench_27 mv_3_123 [] [] (c8_step l X (d - 1) sh mI mL mR n (R + 13) TP S0.1.2.2.2.2.2.2.2.2.2.2.1 t N S0.2.1 (lxE t N p) (lxE_le S0.2.2.2).2 S0.2.2.1.1 (by omega)) ⟨_, rfl, rfl⟩ k0 (by omega) rfl (by decide) (by simp [Value.category]) rfl ?_
    rintro r M' ⟨rfl, mI1, mL1, mR1, rfl, k1, k2, k3, k4⟩
    have S1 := S0.nx k1 k3 k4
    have D1 := D0.nx di k1 k2
    have F1 := F0.trans (lnF.tk (C := C) (fun a k h => k1 a k (fun y => h (Or.inl y))) k2 k3)
    have z1 : mI1 R 10 = mI R 10 := (k1 _ _ (by omega)).trans z0
    have y1 := k1
    rw [← hp1] at S1
    refine hG.run [34] 60 ?_
    simp [wp, stepI, ln, jmp, cmpI, Value.category, rd, tyF, vrs, vrn, ex_rr, ex_rn, ex_nr, ex_nn, okA_s, okA_n, st1, st2, clr, isLg, CB, inx_0, inx_1, inx_2, inx_3, inx_4, inx_5, bI_0, bI_1, bI_ok, fin3, tyX3, entL, q0, dX3_readBench_0, dX3_readBench_1, fT_3_12, dX3_readBench_4, fT_3_39, dX3_readBench_7, dX3_readBench_8, dX3_readBench_9, fT_3_159, dX3_readBench_12, dX3_readBench_14, dX3_readBench_17, dX3_readBench_18, dX3_readBench_19, dX3_readBench_22, dX3_readBench_23, dX3_readBench_24, fT_3_21, dX3_readBench_27, dX3_readBench_30, dX3_readBench_31, sT_3_162, dX3_readBench_34, dX3_readBench_37, dX3_readBench_40, dX3_readBench_41, dX3_readBench_43, dX3_readBench_46, dX3_readBench_49, dX3_readBench_50, dX3_readBench_51, dX3_readBench_52, fT_3_165, dX3_readBench_55, dX3_readBench_56, dX3_readBench_59, dX3_readBench_60, fT_3_153, dX3_readBench_63, dX3_readBench_64, dX3_readBench_65, dX3_readBench_66, dX3_readBench_69, dX3_readBench_70, dX3_readBench_71, dX3_readBench_74, dX3_readBench_75, sT_3_168, dX3_readBench_78, dX3_readBench_81, dX3_readBench_84, dX3_readBench_85, dX3_readBench_87, dX3_readBench_90, dX3_readBench_93, dX3_readBench_94, dX3_readBench_96, dX3_readBench_99, dX3_readBench_102, dX3_readBench_103, dX3_readBench_106, dX3_readBench_107]
    refine hG.callV dX3_readBench_34 mv_3_143 [.ref 1000000006] [] (c3_takeWord l X (d - 1) sh mI1 mL1 mR1 n R C TP t N p1 S1 6 (by omega) 1000000006 rfl (by omega)) ⟨_, rfl, rfl⟩ q0 (by omega) rfl (by decide) (by simp [Value.category]) rfl ?_
    intro r M' hT
    cases hf2 : woF t N p1 13550 with
    | some e =>
      have q := hP _ _ (LiP.bad F1 hT hf2 (by unfold rdBenchB; rw [if_neg h6, hf2]; rfl))
      obtain ⟨mI2, mL2, mR2, rfl, b1, b2, b3, b4, b5⟩ := hT
      obtain ⟨rfl, -⟩ := b5 e hf2
      refine hG.run [] 60 ?_
      simp [wp, stepI, ln, jmp, cmpI, Value.category, rd, tyF, vrs, vrn, ex_rr, ex_rn, ex_nr, ex_nn, okA_s, okA_n, st1, st2, clr, isLg, CB, inx_0, inx_1, inx_2, inx_3, inx_4, inx_5, bI_0, bI_1, bI_ok, fin3, tyX3, entL, q0, nI00, nI10, dX3_readBench_0, dX3_readBench_1, fT_3_12, dX3_readBench_4, fT_3_39, dX3_readBench_7, dX3_readBench_8, dX3_readBench_9, fT_3_159, dX3_readBench_12, dX3_readBench_14, dX3_readBench_17, dX3_readBench_18, dX3_readBench_19, dX3_readBench_22, dX3_readBench_23, dX3_readBench_24, fT_3_21, dX3_readBench_27, dX3_readBench_30, dX3_readBench_31, sT_3_162, dX3_readBench_34, dX3_readBench_37, dX3_readBench_40, dX3_readBench_41, dX3_readBench_43, dX3_readBench_46, dX3_readBench_49, dX3_readBench_50, dX3_readBench_51, dX3_readBench_52, fT_3_165, dX3_readBench_55, dX3_readBench_56, dX3_readBench_59, dX3_readBench_60, fT_3_153, dX3_readBench_63, dX3_readBench_64, dX3_readBench_65, dX3_readBench_66, dX3_readBench_69, dX3_readBench_70, dX3_readBench_71, dX3_readBench_74, dX3_readBench_75, sT_3_168, dX3_readBench_78, dX3_readBench_81, dX3_readBench_84, dX3_readBench_85, dX3_readBench_87, dX3_readBench_90, dX3_readBench_93, dX3_readBench_94, dX3_readBench_96, dX3_readBench_99, dX3_readBench_102, dX3_readBench_103, dX3_readBench_106, dX3_readBench_107]
      exact q
    | none =>
      obtain ⟨mI2, mL2, mR2, rfl, b1, b2, b3, b4, b5⟩ := hT
      obtain ⟨rfl, S2, w2, nu2⟩ := b4 hf2
      have D2 := D1.fr di b1 b2
      have F2 := F1.trans (lnF.tk (C := C) b1 b2 b3)
      have z2 := w2.trans z1
      have y2 := b1
      rw [← hp2] at S2
      refine hG.run [43] 60 ?_
      simp [wp, stepI, ln, jmp, cmpI, Value.category, rd, tyF, vrs, vrn, ex_rr, ex_rn, ex_nr, ex_nn, okA_s, okA_n, st1, st2, clr, isLg, CB, inx_0, inx_1, inx_2, inx_3, inx_4, inx_5, bI_0, bI_1, bI_ok, fin3, tyX3, entL, q0, nI00, nI10, dX3_readBench_0, dX3_readBench_1, fT_3_12, dX3_readBench_4, fT_3_39, dX3_readBench_7, dX3_readBench_8, dX3_readBench_9, fT_3_159, dX3_readBench_12, dX3_readBench_14, dX3_readBench_17, dX3_readBench_18, dX3_readBench_19, dX3_readBench_22, dX3_readBench_23, dX3_readBench_24, fT_3_21, dX3_readBench_27, dX3_readBench_30, dX3_readBench_31, sT_3_162, dX3_readBench_34, dX3_readBench_37, dX3_readBench_40, dX3_readBench_41, dX3_readBench_43, dX3_readBench_46, dX3_readBench_49, dX3_readBench_50, dX3_readBench_51, dX3_readBench_52, fT_3_165, dX3_readBench_55, dX3_readBench_56, dX3_readBench_59, dX3_readBench_60, fT_3_153, dX3_readBench_63, dX3_readBench_64, dX3_readBench_65, dX3_readBench_66, dX3_readBench_69, dX3_readBench_70, dX3_readBench_71, dX3_readBench_74, dX3_readBench_75, sT_3_168, dX3_readBench_78, dX3_readBench_81, dX3_readBench_84, dX3_readBench_85, dX3_readBench_87, dX3_readBench_90, dX3_readBench_93, dX3_readBench_94, dX3_readBench_96, dX3_readBench_99, dX3_readBench_102, dX3_readBench_103, dX3_readBench_106, dX3_readBench_107]
      simp only [li]
      refine hG.callV dX3_readBench_43 mv_3_147 [.int (nI 9)] [] (c3_takeNumber l X (d - 1) sh mI2 mL2 mR2 n R C TP t N p2 S2 9 (by omega) (by omega)) ⟨_, rfl, rfl⟩ q0 (by omega) rfl (by decide) (by simp [Value.category]) rfl ?_
      intro r M' hT
      cases hf3 : nuF t N p2 9 with
      | some e =>
        have q := hP _ _ (LiP.bad F2 hT hf3 (by unfold rdBenchB; rw [if_neg h6, hf2, hf3]; rfl))
        obtain ⟨mI3, mL3, mR3, rfl, b1, b2, b3, b4, b5⟩ := hT
        obtain ⟨rfl, -⟩ := b5 e hf3
        refine hG.run [] 60 ?_
        simp [wp, stepI, ln, jmp, cmpI, Value.category, rd, tyF, vrs, vrn, ex_rr, ex_rn, ex_nr, ex_nn, okA_s, okA_n, st1, st2, clr, isLg, CB, inx_0, inx_1, inx_2, inx_3, inx_4, inx_5, bI_0, bI_1, bI_ok, fin3, tyX3, entL, q0, nI00, nI10, dX3_readBench_0, dX3_readBench_1, fT_3_12, dX3_readBench_4, fT_3_39, dX3_readBench_7, dX3_readBench_8, dX3_readBench_9, fT_3_159, dX3_readBench_12, dX3_readBench_14, dX3_readBench_17, dX3_readBench_18, dX3_readBench_19, dX3_readBench_22, dX3_readBench_23, dX3_readBench_24, fT_3_21, dX3_readBench_27, dX3_readBench_30, dX3_readBench_31, sT_3_162, dX3_readBench_34, dX3_readBench_37, dX3_readBench_40, dX3_readBench_41, dX3_readBench_43, dX3_readBench_46, dX3_readBench_49, dX3_readBench_50, dX3_readBench_51, dX3_readBench_52, fT_3_165, dX3_readBench_55, dX3_readBench_56, dX3_readBench_59, dX3_readBench_60, fT_3_153, dX3_readBench_63, dX3_readBench_64, dX3_readBench_65, dX3_readBench_66, dX3_readBench_69, dX3_readBench_70, dX3_readBench_71, dX3_readBench_74, dX3_readBench_75, sT_3_168, dX3_readBench_78, dX3_readBench_81, dX3_readBench_84, dX3_readBench_85, dX3_readBench_87, dX3_readBench_90, dX3_readBench_93, dX3_readBench_94, dX3_readBench_96, dX3_readBench_99, dX3_readBench_102, dX3_readBench_103, dX3_readBench_106, dX3_readBench_107]
        exact q
      | none =>
        obtain ⟨mI3, mL3, mR3, rfl, b1, b2, b3, b4, b5⟩ := hT
        obtain ⟨rfl, S3, w3, nu3⟩ := b4 hf3
        have D3 := D2.fr di b1 b2
        have F3 := F2.trans (lnF.tk (C := C) b1 b2 b3)
        have z3 := w3.trans z2
        have y3 := b1
        rw [← hp3] at S3
        have br := S3.1.2.2.2.2.2.2.2.2.2.1.2.2 (2, 3, .int, 6) (by decide)
        dsimp only at br
        have xr : C + 3 < 1000000000 := by omega
        have bm : mI3 C 5 = nI (D 0 1) := D3.1.2.1
        refine hG.run [78] 80 ?_
        simp [wp, stepI, ln, jmp, cmpI, Value.category, rd, tyF, vrs, vrn, ex_rr, ex_rn, ex_nr, ex_nn, okA_s, okA_n, st1, st2, clr, isLg, CB, inx_0, inx_1, inx_2, inx_3, inx_4, inx_5, bI_0, bI_1, bI_ok, fin3, tyX3, entL, q0, br, c4, tyX4, okv, wr, finF, clT, TX4, xC, xr, nI00, nI10, dX3_readBench_0, dX3_readBench_1, fT_3_12, dX3_readBench_4, fT_3_39, dX3_readBench_7, dX3_readBench_8, dX3_readBench_9, fT_3_159, dX3_readBench_12, dX3_readBench_14, dX3_readBench_17, dX3_readBench_18, dX3_readBench_19, dX3_readBench_22, dX3_readBench_23, dX3_readBench_24, fT_3_21, dX3_readBench_27, dX3_readBench_30, dX3_readBench_31, sT_3_162, dX3_readBench_34, dX3_readBench_37, dX3_readBench_40, dX3_readBench_41, dX3_readBench_43, dX3_readBench_46, dX3_readBench_49, dX3_readBench_50, dX3_readBench_51, dX3_readBench_52, fT_3_165, dX3_readBench_55, dX3_readBench_56, dX3_readBench_59, dX3_readBench_60, fT_3_153, dX3_readBench_63, dX3_readBench_64, dX3_readBench_65, dX3_readBench_66, dX3_readBench_69, dX3_readBench_70, dX3_readBench_71, dX3_readBench_74, dX3_readBench_75, sT_3_168, dX3_readBench_78, dX3_readBench_81, dX3_readBench_84, dX3_readBench_85, dX3_readBench_87, dX3_readBench_90, dX3_readBench_93, dX3_readBench_94, dX3_readBench_96, dX3_readBench_99, dX3_readBench_102, dX3_readBench_103, dX3_readBench_106, dX3_readBench_107]
        rw [show up2 mI3 (C + 3) (mI3 C 5).toNatClampNeg (mI3 R 8) C 5 = mI3 C 5 from up2_ne (by omega), bm, nu3]
        simp (disch := omega) only [li, nI_add, nI_clamp, nI_ltI, nI_leI, nI_eq, inx_iff, a31, nI_1shl', nI_shr', div_bit, tb1, tb0, fa_or, fa_and, nI_not, pk_sub, nI_dec]
        refine ⟨by omega, ?_⟩
        obtain ⟨mI4, hmI4⟩ : ∃ m, m = up2 (up2 mI3 (C + 3) (D 0 1) (nI (lxNm t N p2))) C 5 (nI (D 0 1 + 1)) := ⟨_, rfl⟩
        rw [← hmI4]
        have f4 : ∀ a k, a ≠ C → a ≠ C + 3 → mI4 a k = mI3 a k := fun a k h h' => by rw [hmI4, up2_ne (fun y => h y.1), up2_ne (fun y => h' y.1)]
        have S4 : RsM sh mI4 mL3 mR3 R C TP t N p3 := S3.fr (fun k => f4 _ _ (by omega) (by omega)) (fun k => f4 _ _ (by omega) (by omega)) rfl (fun _ _ => rfl)
        have D4 : RdD mI4 mL3 R C (up2 (up2 D 4 (D 0 1) (lxNm t N p2)) 0 1 (D 0 1 + 1)) := by rw [hmI4]; exact D3.bn di _
        have F4 : lnF R C mI mL mR mI4 mL3 mR3 := F3.trans (by rw [hmI4]; exact (lnF.up _ (by unfold lnW; omega)).trans (lnF.up _ (by unfold lnW; omega)))
        have z4 : mI4 R 10 = mI R 10 := (f4 _ _ (by omega) (by omega)).trans z3
        refine hG.callV dX3_readBench_78 mv_3_143 [.ref 1000000007] [] (c3_takeWord l X (d - 1) sh mI4 mL3 mR3 n R C TP t N p3 S4 7 (by omega) 1000000007 rfl (by omega)) ⟨_, rfl, rfl⟩ q0 (by omega) rfl (by decide) (by simp [Value.category]) rfl ?_
        intro r M' hT
        cases hf5 : woF t N p3 12532058 with
        | some e =>
          have q := hP _ _ (LiP.bad F4 hT hf5 (by unfold rdBenchB; rw [if_neg h6, hf2, hf3, hf5]; rfl))
          obtain ⟨mI5, mL5, mR5, rfl, b1, b2, b3, b4, b5⟩ := hT
          obtain ⟨rfl, -⟩ := b5 e hf5
          refine hG.run [] 60 ?_
          simp [wp, stepI, ln, jmp, cmpI, Value.category, rd, tyF, vrs, vrn, ex_rr, ex_rn, ex_nr, ex_nn, okA_s, okA_n, st1, st2, clr, isLg, CB, inx_0, inx_1, inx_2, inx_3, inx_4, inx_5, bI_0, bI_1, bI_ok, fin3, tyX3, entL, q0, nI00, nI10, dX3_readBench_0, dX3_readBench_1, fT_3_12, dX3_readBench_4, fT_3_39, dX3_readBench_7, dX3_readBench_8, dX3_readBench_9, fT_3_159, dX3_readBench_12, dX3_readBench_14, dX3_readBench_17, dX3_readBench_18, dX3_readBench_19, dX3_readBench_22, dX3_readBench_23, dX3_readBench_24, fT_3_21, dX3_readBench_27, dX3_readBench_30, dX3_readBench_31, sT_3_162, dX3_readBench_34, dX3_readBench_37, dX3_readBench_40, dX3_readBench_41, dX3_readBench_43, dX3_readBench_46, dX3_readBench_49, dX3_readBench_50, dX3_readBench_51, dX3_readBench_52, fT_3_165, dX3_readBench_55, dX3_readBench_56, dX3_readBench_59, dX3_readBench_60, fT_3_153, dX3_readBench_63, dX3_readBench_64, dX3_readBench_65, dX3_readBench_66, dX3_readBench_69, dX3_readBench_70, dX3_readBench_71, dX3_readBench_74, dX3_readBench_75, sT_3_168, dX3_readBench_78, dX3_readBench_81, dX3_readBench_84, dX3_readBench_85, dX3_readBench_87, dX3_readBench_90, dX3_readBench_93, dX3_readBench_94, dX3_readBench_96, dX3_readBench_99, dX3_readBench_102, dX3_readBench_103, dX3_readBench_106, dX3_readBench_107]
          exact q
        | none =>
          obtain ⟨mI5, mL5, mR5, rfl, b1, b2, b3, b4, b5⟩ := hT
          obtain ⟨rfl, S5, w5, nu5⟩ := b4 hf5
          have D5 := D4.fr di b1 b2
          have F5 := F4.trans (lnF.tk (C := C) b1 b2 b3)
          have z5 := w5.trans z4
          have y5 := b1
          rw [← hp4] at S5
          refine hG.run [87] 60 ?_
          simp [wp, stepI, ln, jmp, cmpI, Value.category, rd, tyF, vrs, vrn, ex_rr, ex_rn, ex_nr, ex_nn, okA_s, okA_n, st1, st2, clr, isLg, CB, inx_0, inx_1, inx_2, inx_3, inx_4, inx_5, bI_0, bI_1, bI_ok, fin3, tyX3, entL, q0, nI00, nI10, dX3_readBench_0, dX3_readBench_1, fT_3_12, dX3_readBench_4, fT_3_39, dX3_readBench_7, dX3_readBench_8, dX3_readBench_9, fT_3_159, dX3_readBench_12, dX3_readBench_14, dX3_readBench_17, dX3_readBench_18, dX3_readBench_19, dX3_readBench_22, dX3_readBench_23, dX3_readBench_24, fT_3_21, dX3_readBench_27, dX3_readBench_30, dX3_readBench_31, sT_3_162, dX3_readBench_34, dX3_readBench_37, dX3_readBench_40, dX3_readBench_41, dX3_readBench_43, dX3_readBench_46, dX3_readBench_49, dX3_readBench_50, dX3_readBench_51, dX3_readBench_52, fT_3_165, dX3_readBench_55, dX3_readBench_56, dX3_readBench_59, dX3_readBench_60, fT_3_153, dX3_readBench_63, dX3_readBench_64, dX3_readBench_65, dX3_readBench_66, dX3_readBench_69, dX3_readBench_70, dX3_readBench_71, dX3_readBench_74, dX3_readBench_75, sT_3_168, dX3_readBench_78, dX3_readBench_81, dX3_readBench_84, dX3_readBench_85, dX3_readBench_87, dX3_readBench_90, dX3_readBench_93, dX3_readBench_94, dX3_readBench_96, dX3_readBench_99, dX3_readBench_102, dX3_readBench_103, dX3_readBench_106, dX3_readBench_107]
          simp only [li]
          refine hG.callV dX3_readBench_87 mv_3_147 [.int (nI 99)] [] (c3_takeNumber l X (d - 1) sh mI5 mL5 mR5 n R C TP t N p4 S5 99 (by omega) (by omega)) ⟨_, rfl, rfl⟩ q0 (by omega) rfl (by decide) (by simp [Value.category]) rfl ?_
          intro r M' hT
          cases hf6 : nuF t N p4 99 with
          | some e =>
            have q := hP _ _ (LiP.bad F5 hT hf6 (by unfold rdBenchB; rw [if_neg h6, hf2, hf3, hf5, hf6]; rfl))
            obtain ⟨mI6, mL6, mR6, rfl, b1, b2, b3, b4, b5⟩ := hT
            obtain ⟨rfl, -⟩ := b5 e hf6
            refine hG.run [] 60 ?_
            simp [wp, stepI, ln, jmp, cmpI, Value.category, rd, tyF, vrs, vrn, ex_rr, ex_rn, ex_nr, ex_nn, okA_s, okA_n, st1, st2, clr, isLg, CB, inx_0, inx_1, inx_2, inx_3, inx_4, inx_5, bI_0, bI_1, bI_ok, fin3, tyX3, entL, q0, nI00, nI10, dX3_readBench_0, dX3_readBench_1, fT_3_12, dX3_readBench_4, fT_3_39, dX3_readBench_7, dX3_readBench_8, dX3_readBench_9, fT_3_159, dX3_readBench_12, dX3_readBench_14, dX3_readBench_17, dX3_readBench_18, dX3_readBench_19, dX3_readBench_22, dX3_readBench_23, dX3_readBench_24, fT_3_21, dX3_readBench_27, dX3_readBench_30, dX3_readBench_31, sT_3_162, dX3_readBench_34, dX3_readBench_37, dX3_readBench_40, dX3_readBench_41, dX3_readBench_43, dX3_readBench_46, dX3_readBench_49, dX3_readBench_50, dX3_readBench_51, dX3_readBench_52, fT_3_165, dX3_readBench_55, dX3_readBench_56, dX3_readBench_59, dX3_readBench_60, fT_3_153, dX3_readBench_63, dX3_readBench_64, dX3_readBench_65, dX3_readBench_66, dX3_readBench_69, dX3_readBench_70, dX3_readBench_71, dX3_readBench_74, dX3_readBench_75, sT_3_168, dX3_readBench_78, dX3_readBench_81, dX3_readBench_84, dX3_readBench_85, dX3_readBench_87, dX3_readBench_90, dX3_readBench_93, dX3_readBench_94, dX3_readBench_96, dX3_readBench_99, dX3_readBench_102, dX3_readBench_103, dX3_readBench_106, dX3_readBench_107]
            exact q
          | none =>
            obtain ⟨mI6, mL6, mR6, rfl, b1, b2, b3, b4, b5⟩ := hT
            obtain ⟨rfl, S6, w6, nu6⟩ := b4 hf6
            have D6 := D5.fr di b1 b2
            have F6 := F5.trans (lnF.tk (C := C) b1 b2 b3)
            have z6 := w6.trans z5
            have y6 := b1
            rw [← hp5] at S6
            refine hG.run [96] 60 ?_
            simp [wp, stepI, ln, jmp, cmpI, Value.category, rd, tyF, vrs, vrn, ex_rr, ex_rn, ex_nr, ex_nn, okA_s, okA_n, st1, st2, clr, isLg, CB, inx_0, inx_1, inx_2, inx_3, inx_4, inx_5, bI_0, bI_1, bI_ok, fin3, tyX3, entL, q0, nI00, nI10, dX3_readBench_0, dX3_readBench_1, fT_3_12, dX3_readBench_4, fT_3_39, dX3_readBench_7, dX3_readBench_8, dX3_readBench_9, fT_3_159, dX3_readBench_12, dX3_readBench_14, dX3_readBench_17, dX3_readBench_18, dX3_readBench_19, dX3_readBench_22, dX3_readBench_23, dX3_readBench_24, fT_3_21, dX3_readBench_27, dX3_readBench_30, dX3_readBench_31, sT_3_162, dX3_readBench_34, dX3_readBench_37, dX3_readBench_40, dX3_readBench_41, dX3_readBench_43, dX3_readBench_46, dX3_readBench_49, dX3_readBench_50, dX3_readBench_51, dX3_readBench_52, fT_3_165, dX3_readBench_55, dX3_readBench_56, dX3_readBench_59, dX3_readBench_60, fT_3_153, dX3_readBench_63, dX3_readBench_64, dX3_readBench_65, dX3_readBench_66, dX3_readBench_69, dX3_readBench_70, dX3_readBench_71, dX3_readBench_74, dX3_readBench_75, sT_3_168, dX3_readBench_78, dX3_readBench_81, dX3_readBench_84, dX3_readBench_85, dX3_readBench_87, dX3_readBench_90, dX3_readBench_93, dX3_readBench_94, dX3_readBench_96, dX3_readBench_99, dX3_readBench_102, dX3_readBench_103, dX3_readBench_106, dX3_readBench_107]
            simp only [li]
            refine hG.callV dX3_readBench_96 mv_3_156 [.int (nI 59)] [] (c3_takeSign l X (d - 1) sh mI6 mL6 mR6 n R C TP t N p5 S6 59 (by omega) (by omega) (by omega)) ⟨_, rfl, rfl⟩ q0 (by omega) rfl (by decide) (by simp [Value.category]) rfl ?_
            intro r M' hT
            have q := hP _ _ (LiP.sgn F6 hT (by unfold rdBenchB; rw [if_neg h6, hf2, hf3, hf5, hf6]; rfl) D6 di z6)
            obtain ⟨mI7, mL7, mR7, rfl, c1, c2, c3, c4, c5⟩ := hT
            cases hg : sgF t N p5 59 with
            | some e =>
              obtain ⟨rfl, -⟩ := c5 e hg
              refine hG.run [] 60 ?_
              simp [wp, stepI, ln, jmp, cmpI, Value.category, rd, tyF, vrs, vrn, ex_rr, ex_rn, ex_nr, ex_nn, okA_s, okA_n, st1, st2, clr, isLg, CB, inx_0, inx_1, inx_2, inx_3, inx_4, inx_5, bI_0, bI_1, bI_ok, fin3, tyX3, entL, q0, nI00, nI10, dX3_readBench_0, dX3_readBench_1, fT_3_12, dX3_readBench_4, fT_3_39, dX3_readBench_7, dX3_readBench_8, dX3_readBench_9, fT_3_159, dX3_readBench_12, dX3_readBench_14, dX3_readBench_17, dX3_readBench_18, dX3_readBench_19, dX3_readBench_22, dX3_readBench_23, dX3_readBench_24, fT_3_21, dX3_readBench_27, dX3_readBench_30, dX3_readBench_31, sT_3_162, dX3_readBench_34, dX3_readBench_37, dX3_readBench_40, dX3_readBench_41, dX3_readBench_43, dX3_readBench_46, dX3_readBench_49, dX3_readBench_50, dX3_readBench_51, dX3_readBench_52, fT_3_165, dX3_readBench_55, dX3_readBench_56, dX3_readBench_59, dX3_readBench_60, fT_3_153, dX3_readBench_63, dX3_readBench_64, dX3_readBench_65, dX3_readBench_66, dX3_readBench_69, dX3_readBench_70, dX3_readBench_71, dX3_readBench_74, dX3_readBench_75, sT_3_168, dX3_readBench_78, dX3_readBench_81, dX3_readBench_84, dX3_readBench_85, dX3_readBench_87, dX3_readBench_90, dX3_readBench_93, dX3_readBench_94, dX3_readBench_96, dX3_readBench_99, dX3_readBench_102, dX3_readBench_103, dX3_readBench_106, dX3_readBench_107]
              exact q
            | none =>
              obtain ⟨rfl, -⟩ := c4 hg
              refine hG.run [] 60 ?_
              simp [wp, stepI, ln, jmp, cmpI, Value.category, rd, tyF, vrs, vrn, ex_rr, ex_rn, ex_nr, ex_nn, okA_s, okA_n, st1, st2, clr, isLg, CB, inx_0, inx_1, inx_2, inx_3, inx_4, inx_5, bI_0, bI_1, bI_ok, fin3, tyX3, entL, q0, nI00, nI10, dX3_readBench_0, dX3_readBench_1, fT_3_12, dX3_readBench_4, fT_3_39, dX3_readBench_7, dX3_readBench_8, dX3_readBench_9, fT_3_159, dX3_readBench_12, dX3_readBench_14, dX3_readBench_17, dX3_readBench_18, dX3_readBench_19, dX3_readBench_22, dX3_readBench_23, dX3_readBench_24, fT_3_21, dX3_readBench_27, dX3_readBench_30, dX3_readBench_31, sT_3_162, dX3_readBench_34, dX3_readBench_37, dX3_readBench_40, dX3_readBench_41, dX3_readBench_43, dX3_readBench_46, dX3_readBench_49, dX3_readBench_50, dX3_readBench_51, dX3_readBench_52, fT_3_165, dX3_readBench_55, dX3_readBench_56, dX3_readBench_59, dX3_readBench_60, fT_3_153, dX3_readBench_63, dX3_readBench_64, dX3_readBench_65, dX3_readBench_66, dX3_readBench_69, dX3_readBench_70, dX3_readBench_71, dX3_readBench_74, dX3_readBench_75, sT_3_168, dX3_readBench_78, dX3_readBench_81, dX3_readBench_84, dX3_readBench_85, dX3_readBench_87, dX3_readBench_90, dX3_readBench_93, dX3_readBench_94, dX3_readBench_96, dX3_readBench_99, dX3_readBench_102, dX3_readBench_103, dX3_readBench_106, dX3_readBench_107]
              exact q
