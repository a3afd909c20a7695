/-! sayings -/
theorem tp1 {t : Nat → Nat} {N p np : Nat} {nm : Nat → Nat} (h : np ≤ 10) : tpF t N p np nm (-nI 1) = tw1 t N p np nm := by
  unfold tpF tw1
  by_cases k : kpN t N p = true
  · rw [if_pos k, if_pos k]
  · rw [if_neg k, if_neg k]
    by_cases u : pnm np nm (lxWd t N p) < np
    · rw [if_pos u, if_pos u, if_neg (show ¬ nI (pnm np nm (lxWd t N p)) = -nI 1 from nI_ne_m1 (by omega))]
    · rw [if_neg u, if_neg u]
theorem tp2 {t : Nat → Nat} {N p q np : Nat} {nm : Nat → Nat} (h : np ≤ 10) (hq : pnm np nm (lxWd t N q) < np) : tpF t N p np nm (nI (pnm np nm (lxWd t N q))) = tw2 t N q p np nm := by
  unfold tpF tw2
  by_cases k : kpN t N p = true
  · rw [if_pos k, if_pos k]
  · rw [if_neg k, if_neg k]
    by_cases u : pnm np nm (lxWd t N p) < np
    · rw [if_pos u, if_pos u]
      have : nI (pnm np nm (lxWd t N p)) = nI (pnm np nm (lxWd t N q)) ↔ pnm np nm (lxWd t N p) = pnm np nm (lxWd t N q) := nI_eq (by omega) (by omega)
      by_cases e : pnm np nm (lxWd t N p) = pnm np nm (lxWd t N q)
      · rw [if_pos e, if_pos (this.mpr e)]
      · rw [if_neg e, if_neg (fun z => e (this.mp z))]
    · rw [if_neg u, if_neg u]
theorem tpF_no {t : Nat → Nat} {N p np : Nat} {nm : Nat → Nat} {x : Int32} (h : tpF t N p np nm x = none) : pnm np nm (lxWd t N p) < np ∧ nI (pnm np nm (lxWd t N p)) ≠ x ∧ kpN t N p = false := by
  unfold tpF at h
  by_cases k : kpN t N p = true
  · rw [if_pos k] at h; cases h
  · rw [if_neg k] at h
    by_cases u : pnm np nm (lxWd t N p) < np
    · rw [if_pos u] at h
      by_cases e : nI (pnm np nm (lxWd t N p)) = x
      · rw [if_pos e] at h; cases h
      · exact ⟨u, e, by cases y : kpN t N p <;> first | rfl | exact absurd y k⟩
    · rw [if_neg u] at h; cases h
theorem nuF_no {t : Nat → Nat} {N p s : Nat} (h : nuF t N p s = none) : lxNm t N p ≤ s := by
  unfold nuF at h
  by_cases k : lxK t N p = 2
  · rw [if_pos k] at h
    by_cases u : lxNm t N p ≤ s
    · exact u
    · rw [if_neg u] at h; cases h
  · rw [if_neg k] at h; cases h
theorem RdD.shs {mI : Nat → Nat → Int32} {mL : Nat → Nat → Int64} {R C : Nat} {D : DD} (h : RdD mI mL R C D) (hV : DrV D) : ShS mI (R + 1) (D 0 2) (D 5) (D 6) (D 7) := by
  refine ⟨h.1.2.2.1, hV.1.2.2.1, fun k hk => ?_⟩
  obtain ⟨d1, d2, d3⟩ := h.2.2.2.1 k hk
  obtain ⟨e1, e2, e3, e4⟩ := hV.2.2.2.1 k hk
  have := hV.1.1
  exact ⟨d1, d2, d3, by omega, by omega, e4⟩
theorem RdD.sy {mI mI' : Nat → Nat → Int32} {mL : Nat → Nat → Int64} {R C : Nat} {D : DD} (h : RdD mI mL R C D) (hd : R + 17 < C ∨ C + 5 < R) (hc : D 0 2 < 40) (x y w : Nat) (h1 : ∀ a k, a ≠ R + 1 + 7 → a ≠ R + 1 + 8 → a ≠ R + 1 + 9 → ¬ (a = R + 1 ∧ k = 4) → mI' a k = mI a k) (hs : ShS mI' (R + 1) (heC (D 0 2)) (heF (D 0 2) (D 5) x) (heF (D 0 2) (D 6) y) (heF (D 0 2) (D 7) w)) : RdD mI' mL R C (up2 (up2 (up2 (up2 D 5 (D 0 2) x) 6 (D 0 2) y) 7 (D 0 2) w) 0 2 (D 0 2 + 1)) := by
  obtain ⟨⟨a1, a2, a3, a4, a5, a6⟩, b, c, d, e, f⟩ := h
  have hc4 : ¬ D 0 2 = 40 := by omega
  unfold heC heF at hs
  rw [if_neg hc4, if_neg hc4, if_neg hc4, if_neg hc4] at hs
  obtain ⟨D', hD'⟩ : ∃ D', D' = up2 (up2 (up2 (up2 D 5 (D 0 2) x) 6 (D 0 2) y) 7 (D 0 2) w) 0 2 (D 0 2 + 1) := ⟨_, rfl⟩
  rw [← hD']
  have hD : ∀ i, i ≠ 0 → i ≠ 5 → i ≠ 6 → i ≠ 7 → D' i = D i := fun i z5 z6 z7 z0 => funext (fun k => by rw [hD', up2_ne (fun w => z5 w.1), up2_ne (fun w => z0 w.1), up2_ne (fun w => z7 w.1), up2_ne (fun w => z6 w.1)])
  have h0 : ∀ k, k ≠ 2 → D' 0 k = D 0 k := fun k z => by rw [hD', up2_ne (fun w => z w.2), up2_ne (fun w => by cases w.1), up2_ne (fun w => by cases w.1), up2_ne (fun w => by cases w.1)]
  have h02 : D' 0 2 = D 0 2 + 1 := by rw [hD']; exact up2_eq ..
  have h5 : ∀ k, D' 5 k = upN (D 5) (D 0 2) x k := fun k => by
    rw [hD', up2_ne (fun w => by cases w.1), up2_ne (fun w => by cases w.1), up2_ne (fun w => by cases w.1)]
    unfold up2 upN
    by_cases z : k = D 0 2
    · rw [if_pos ⟨rfl, z⟩, if_pos z]
    · rw [if_neg (fun w => z w.2), if_neg z]
  have h6 : ∀ k, D' 6 k = upN (D 6) (D 0 2) y k := fun k => by
    rw [hD', up2_ne (fun w => by cases w.1), up2_ne (fun w => by cases w.1)]
    unfold up2 upN
    by_cases z : k = D 0 2
    · rw [if_pos ⟨rfl, z⟩, if_pos z]
    · rw [if_neg (fun w => z w.2), if_neg z, if_neg (fun w => by cases w.1)]
  have h7 : ∀ k, D' 7 k = upN (D 7) (D 0 2) w k := fun k => by
    rw [hD', up2_ne (fun w => by cases w.1)]
    unfold up2 upN
    by_cases z : k = D 0 2
    · rw [if_pos ⟨rfl, z⟩, if_pos z]
    · rw [if_neg (fun w => z w.2), if_neg z, if_neg (fun w => by cases w.1), if_neg (fun w => by cases w.1)]
  clear hD'
  have g1 : ∀ a k, (a = R ∨ a = R + 16 ∨ (C ≤ a ∧ a ≤ C + 5)) → mI' a k = mI a k := fun a k z => h1 a k (by omega) (by omega) (by omega) (by omega)
  refine ⟨⟨?_, ?_, ?_, ?_, ?_, ?_⟩, ?_, ?_, ?_, ?_, ?_⟩
  · rw [h0 0 (by decide), g1 _ _ (by omega)]; exact a1
  · rw [h0 1 (by decide), g1 _ _ (by omega)]; exact a2
  · rw [h02]; exact hs.1
  · rw [h0 3 (by decide), g1 _ _ (by omega)]; exact a4
  · rw [h0 4 (by decide), g1 _ _ (by omega)]; exact a5
  · rw [h0 5 (by decide), g1 _ _ (by omega)]; exact a6
  · rw [h0 0 (by decide), hD 1 (by decide) (by decide) (by decide) (by decide), hD 2 (by decide) (by decide) (by decide) (by decide), hD 3 (by decide) (by decide) (by decide) (by decide)]
    exact fun p hp => ⟨(b p hp).1, (b p hp).2.1, (g1 _ _ (by omega)).trans (b p hp).2.2.1, (g1 _ _ (by omega)).trans (b p hp).2.2.2⟩
  · rw [h0 1 (by decide), hD 4 (by decide) (by decide) (by decide) (by decide)]
    exact fun k hk => (g1 _ _ (by omega)).trans (c k hk)
  · rw [h02]
    intro k hk
    rw [h5, h6, h7]
    obtain ⟨e1, e2, e3, -⟩ := hs.2.2 k hk
    exact ⟨e1, e2, e3⟩
  · rw [hD 8 (by decide) (by decide) (by decide) (by decide)]
    exact fun i hi => (g1 _ _ (by omega)).trans (e i hi)
  · rw [hD 9 (by decide) (by decide) (by decide) (by decide)]
    intro a ha
    obtain ⟨lt, f1, f2⟩ := f a ha
    exact ⟨lt, (g1 _ _ (by omega)).trans f1, f2⟩
set_option maxHeartbeats 4000000 in
set_option maxRecDepth 100000 in
theorem c3_readSaying (l : Launch) (X : Cx) (d : Nat) (sh : Nat → Option Sh) (mI : Nat → Nat → Int32) (mL : Nat → Nat → Int64) (mR : Nat → Nat → Option Nat) (n : Nat) (R C TP : Nat) (t : Nat → Nat) (N p : Nat) (hS : RsM sh mI mL mR R C TP t N p) (D : DD) (hD : RdD mI mL R C D) (hV : DrV D) (hd : 4 ≤ d) : Cn l X yX3_readSaying cX3_readSaying 3 (some .boolean) d [.ref R] (sh, mI, mL, mR, n) (LiP sh mI mL mR n R C TP t N (rdSay t N p D)) 0 0 := by
  refine Cn.run 3 false (by decide) rfl (by decide) (by simp [entA, Value.category]) ?_
  intro P G hP hG
  unfold rdSay at hP
  obtain ⟨p1, hp1⟩ : ∃ x, x = lxE t N p := ⟨_, rfl⟩
  rw [← hp1] at hP
  obtain ⟨p2, hp2⟩ : ∃ x, x = lxE t N p1 := ⟨_, rfl⟩
  rw [← hp2] at hP
  obtain ⟨p3, hp3⟩ : ∃ x, x = lxE t N p2 := ⟨_, rfl⟩
  rw [← hp3] at hP
  obtain ⟨p4, hp4⟩ : ∃ x, x = lxE t N p3 := ⟨_, rfl⟩
  rw [← hp4] at hP
  have S0 := hS
  have D0 := hD
  have F0 : lnF R C mI mL mR mI mL mR := lnF.refl
  have z0 : mI R 10 = mI R 10 := rfl
  obtain ⟨g1, g2, g3, g4⟩ := hS
  have q0 := g1.1
  have xR : R < 1000000000 := by have := g1.2.1; omega
  have r0 := g1.2.2.1
  have r1 := g1.2.2.2.1
  have k0 := g1.2.2.2.2.2.2.2.2.2.2.1.1
  have s6 := g1.2.2.2.2.2.2.2.1.1
  have rc := g1.2.2.2.2.2.2.2.2.1
  have c4 := g1.2.2.2.2.2.2.2.2.2.1.1
  have di := g1.2.2.2.2.2.2.2.2.2.2.2.1
  have dt := g1.2.2.2.2.2.2.2.2.2.2.2.2
  have xc : C < 100000000 := g1.2.2.2.2.2.2.2.2.2.1.2.1
  have n10 : D 0 0 ≤ 10 := hV.1.1
  have b6 : D 0 2 ≤ 40 := hV.1.2.2.1
  have bn := hD.1.2.2.1
  by_cases h6 : D 0 2 = 40
  · rw [h6] at bn
    refine hG.run [14] 60 ?_
    simp [wp, stepI, ln, jmp, cmpI, Value.category, rd, tyF, vrs, vrn, ex_rr, ex_rn, ex_nr, ex_nn, okA_s, okA_n, st1, st2, clr, isLg, CB, inx_0, inx_1, inx_2, inx_3, inx_4, inx_5, bI_0, bI_1, bI_ok, fin3, tyX3, entL, q0, r0, r1, s6, tyX6, bn, dX3_readSaying_0, dX3_readSaying_1, fT_3_12, dX3_readSaying_4, fT_3_43, dX3_readSaying_7, dX3_readSaying_9, dX3_readSaying_12, dX3_readSaying_13, dX3_readSaying_14, dX3_readSaying_17, dX3_readSaying_18, dX3_readSaying_19, fT_3_21, dX3_readSaying_22, dX3_readSaying_25, dX3_readSaying_26, dX3_readSaying_27, dX3_readSaying_30, dX3_readSaying_33, dX3_readSaying_34, dX3_readSaying_35, dX3_readSaying_36, fT_3_174, dX3_readSaying_39, dX3_readSaying_40, dX3_readSaying_41, dX3_readSaying_42, dX3_readSaying_45, dX3_readSaying_48, dX3_readSaying_49, dX3_readSaying_50, dX3_readSaying_51, dX3_readSaying_54, dX3_readSaying_55, dX3_readSaying_56, dX3_readSaying_57, dX3_readSaying_60, dX3_readSaying_63, dX3_readSaying_64, dX3_readSaying_65, dX3_readSaying_66, dX3_readSaying_69, dX3_readSaying_70, dX3_readSaying_71, dX3_readSaying_72, fT_3_153, dX3_readSaying_75, dX3_readSaying_78, dX3_readSaying_79, dX3_readSaying_81, dX3_readSaying_84]
    simp (disch := omega) only [li, nI_add, nI_clamp, nI_ltI, nI_leI, nI_eq, inx_iff, a31, nI_1shl', nI_shr', div_bit, tb1, tb0, fa_or, fa_and, nI_not, pk_sub, nI_dec]
    refine ⟨fun z => by omega, fun _ => ?_⟩
    refine hG.callV dX3_readSaying_14 mv_3_116 [.int (nI 5)] [] (c3_wrong l X (d - 1) sh mI mL mR n R C TP t N p S0 5) ⟨_, rfl, rfl⟩ q0 (by omega) rfl (by decide) (by simp [Value.category]) rfl ?_
    rintro r M' ⟨rfl, rfl⟩
    refine hG.run [] 60 ?_
    simp [wp, stepI, ln, jmp, cmpI, Value.category, rd, tyF, vrs, vrn, ex_rr, ex_rn, ex_nr, ex_nn, okA_s, okA_n, st1, st2, clr, isLg, CB, inx_0, inx_1, inx_2, inx_3, inx_4, inx_5, bI_0, bI_1, bI_ok, fin3, tyX3, entL, q0, dX3_readSaying_0, dX3_readSaying_1, fT_3_12, dX3_readSaying_4, fT_3_43, dX3_readSaying_7, dX3_readSaying_9, dX3_readSaying_12, dX3_readSaying_13, dX3_readSaying_14, dX3_readSaying_17, dX3_readSaying_18, dX3_readSaying_19, fT_3_21, dX3_readSaying_22, dX3_readSaying_25, dX3_readSaying_26, dX3_readSaying_27, dX3_readSaying_30, dX3_readSaying_33, dX3_readSaying_34, dX3_readSaying_35, dX3_readSaying_36, fT_3_174, dX3_readSaying_39, dX3_readSaying_40, dX3_readSaying_41, dX3_readSaying_42, dX3_readSaying_45, dX3_readSaying_48, dX3_readSaying_49, dX3_readSaying_50, dX3_readSaying_51, dX3_readSaying_54, dX3_readSaying_55, dX3_readSaying_56, dX3_readSaying_57, dX3_readSaying_60, dX3_readSaying_63, dX3_readSaying_64, dX3_readSaying_65, dX3_readSaying_66, dX3_readSaying_69, dX3_readSaying_70, dX3_readSaying_71, dX3_readSaying_72, fT_3_153, dX3_readSaying_75, dX3_readSaying_78, dX3_readSaying_79, dX3_readSaying_81, dX3_readSaying_84]
    exact ⟨Or.inl rfl, hP _ _ (LiP.wr lnF.refl (by unfold rdSayB; rw [if_pos h6]))⟩
  · refine hG.run [22] 60 ?_
    simp [wp, stepI, ln, jmp, cmpI, Value.category, rd, tyF, vrs, vrn, ex_rr, ex_rn, ex_nr, ex_nn, okA_s, okA_n, st1, st2, clr, isLg, CB, inx_0, inx_1, inx_2, inx_3, inx_4, inx_5, bI_0, bI_1, bI_ok, fin3, tyX3, entL, q0, r0, r1, s6, tyX6, bn, dX3_readSaying_0, dX3_readSaying_1, fT_3_12, dX3_readSaying_4, fT_3_43, dX3_readSaying_7, dX3_readSaying_9, dX3_readSaying_12, dX3_readSaying_13, dX3_readSaying_14, dX3_readSaying_17, dX3_readSaying_18, dX3_readSaying_19, fT_3_21, dX3_readSaying_22, dX3_readSaying_25, dX3_readSaying_26, dX3_readSaying_27, dX3_readSaying_30, dX3_readSaying_33, dX3_readSaying_34, dX3_readSaying_35, dX3_readSaying_36, fT_3_174, dX3_readSaying_39, dX3_readSaying_40, dX3_readSaying_41, dX3_readSaying_42, dX3_readSaying_45, dX3_readSaying_48, dX3_readSaying_49, dX3_readSaying_50, dX3_readSaying_51, dX3_readSaying_54, dX3_readSaying_55, dX3_readSaying_56, dX3_readSaying_57, dX3_readSaying_60, dX3_readSaying_63, dX3_readSaying_64, dX3_readSaying_65, dX3_readSaying_66, dX3_readSaying_69, dX3_readSaying_70, dX3_readSaying_71, dX3_readSaying_72, fT_3_153, dX3_readSaying_75, dX3_readSaying_78, dX3_readSaying_79, dX3_readSaying_81, dX3_readSaying_84]
    simp (disch := omega) only [li, nI_add, nI_clamp, nI_ltI, nI_leI, nI_eq, inx_iff, a31, nI_1shl', nI_shr', div_bit, tb1, tb0, fa_or, fa_and, nI_not, pk_sub, nI_dec, bn]
    refine ⟨fun _ => ?_, fun z => by omega⟩
    refine hG.callV dX3_readSaying_22 mv_3_123 [] [] (c8_step l X (d - 1) sh mI mL mR n (R + 13) TP S0.1.2.2.2.2.2.2.2.2.2.2.1 t N S0.2.1 (lxE t N p) (lxE_le S0.2.2.2).2 S0.2.2.1.1 (by omega)) ⟨_, rfl, rfl⟩ k0 (by omega) rfl (by decide) (by simp [Value.category]) rfl ?_
    rintro r M' ⟨rfl, mI1, mL1, mR1, rfl, k1, k2, k3, k4⟩
    have S1 := S0.nx k1 k3 k4
    have D1 := D0.nx di k1 k2
    have F1 := F0.trans (lnF.tk (C := C) (fun a k h => k1 a k (fun y => h (Or.inl y))) k2 k3)
    have z1 : mI1 R 10 = mI R 10 := (k1 _ _ (by omega)).trans z0
    have y1 := k1
    rw [← hp1] at S1
    refine hG.run [27] 60 ?_
    simp [wp, stepI, ln, jmp, cmpI, Value.category, rd, tyF, vrs, vrn, ex_rr, ex_rn, ex_nr, ex_nn, okA_s, okA_n, st1, st2, clr, isLg, CB, inx_0, inx_1, inx_2, inx_3, inx_4, inx_5, bI_0, bI_1, bI_ok, fin3, tyX3, entL, q0, dX3_readSaying_0, dX3_readSaying_1, fT_3_12, dX3_readSaying_4, fT_3_43, dX3_readSaying_7, dX3_readSaying_9, dX3_readSaying_12, dX3_readSaying_13, dX3_readSaying_14, dX3_readSaying_17, dX3_readSaying_18, dX3_readSaying_19, fT_3_21, dX3_readSaying_22, dX3_readSaying_25, dX3_readSaying_26, dX3_readSaying_27, dX3_readSaying_30, dX3_readSaying_33, dX3_readSaying_34, dX3_readSaying_35, dX3_readSaying_36, fT_3_174, dX3_readSaying_39, dX3_readSaying_40, dX3_readSaying_41, dX3_readSaying_42, dX3_readSaying_45, dX3_readSaying_48, dX3_readSaying_49, dX3_readSaying_50, dX3_readSaying_51, dX3_readSaying_54, dX3_readSaying_55, dX3_readSaying_56, dX3_readSaying_57, dX3_readSaying_60, dX3_readSaying_63, dX3_readSaying_64, dX3_readSaying_65, dX3_readSaying_66, dX3_readSaying_69, dX3_readSaying_70, dX3_readSaying_71, dX3_readSaying_72, fT_3_153, dX3_readSaying_75, dX3_readSaying_78, dX3_readSaying_79, dX3_readSaying_81, dX3_readSaying_84]
    simp only [li]
    refine hG.callV dX3_readSaying_27 mv_3_171 [.int (-nI 1)] [] (c3_takePupil l X (d - 1) sh mI1 mL1 mR1 n R C TP t N p1 S1 D D1 hV (-nI 1) (by omega)) ⟨_, rfl, rfl⟩ q0 (by omega) rfl (by decide) (by simp [Value.category]) rfl ?_
    intro r M' hT
    cases hf2 : tpF t N p1 (D 0 0) (D 1) (-nI 1) with
    | some e =>
      have q := hP _ _ (LiP.bad F1 hT hf2 (by unfold rdSayB; rw [if_neg h6, ← tp1 n10, hf2]; rfl))
      obtain ⟨mI2, mL2, mR2, rfl, b1, b2, b3, b4, b5⟩ := hT
      obtain ⟨rfl, -⟩ := b5 e hf2
      refine hG.run [] 60 ?_
      simp [wp, stepI, ln, jmp, cmpI, Value.category, rd, tyF, vrs, vrn, ex_rr, ex_rn, ex_nr, ex_nn, okA_s, okA_n, st1, st2, clr, isLg, CB, inx_0, inx_1, inx_2, inx_3, inx_4, inx_5, bI_0, bI_1, bI_ok, fin3, tyX3, entL, q0, nI00, nI10, dX3_readSaying_0, dX3_readSaying_1, fT_3_12, dX3_readSaying_4, fT_3_43, dX3_readSaying_7, dX3_readSaying_9, dX3_readSaying_12, dX3_readSaying_13, dX3_readSaying_14, dX3_readSaying_17, dX3_readSaying_18, dX3_readSaying_19, fT_3_21, dX3_readSaying_22, dX3_readSaying_25, dX3_readSaying_26, dX3_readSaying_27, dX3_readSaying_30, dX3_readSaying_33, dX3_readSaying_34, dX3_readSaying_35, dX3_readSaying_36, fT_3_174, dX3_readSaying_39, dX3_readSaying_40, dX3_readSaying_41, dX3_readSaying_42, dX3_readSaying_45, dX3_readSaying_48, dX3_readSaying_49, dX3_readSaying_50, dX3_readSaying_51, dX3_readSaying_54, dX3_readSaying_55, dX3_readSaying_56, dX3_readSaying_57, dX3_readSaying_60, dX3_readSaying_63, dX3_readSaying_64, dX3_readSaying_65, dX3_readSaying_66, dX3_readSaying_69, dX3_readSaying_70, dX3_readSaying_71, dX3_readSaying_72, fT_3_153, dX3_readSaying_75, dX3_readSaying_78, dX3_readSaying_79, dX3_readSaying_81, dX3_readSaying_84]
      exact q
    | none =>
      obtain ⟨mI2, mL2, mR2, rfl, b1, b2, b3, b4, b5⟩ := hT
      obtain ⟨rfl, S2, w2, nu2⟩ := b4 hf2
      have D2 := D1.fr di b1 b2
      have F2 := F1.trans (lnF.tk (C := C) b1 b2 b3)
      have z2 := w2.trans z1
      have y2 := b1
      rw [← hp2] at S2
      obtain ⟨l1, -, -⟩ := tpF_no hf2
      refine hG.run [42] 60 ?_
      simp [wp, stepI, ln, jmp, cmpI, Value.category, rd, tyF, vrs, vrn, ex_rr, ex_rn, ex_nr, ex_nn, okA_s, okA_n, st1, st2, clr, isLg, CB, inx_0, inx_1, inx_2, inx_3, inx_4, inx_5, bI_0, bI_1, bI_ok, fin3, tyX3, entL, q0, nI00, nI10, dX3_readSaying_0, dX3_readSaying_1, fT_3_12, dX3_readSaying_4, fT_3_43, dX3_readSaying_7, dX3_readSaying_9, dX3_readSaying_12, dX3_readSaying_13, dX3_readSaying_14, dX3_readSaying_17, dX3_readSaying_18, dX3_readSaying_19, fT_3_21, dX3_readSaying_22, dX3_readSaying_25, dX3_readSaying_26, dX3_readSaying_27, dX3_readSaying_30, dX3_readSaying_33, dX3_readSaying_34, dX3_readSaying_35, dX3_readSaying_36, fT_3_174, dX3_readSaying_39, dX3_readSaying_40, dX3_readSaying_41, dX3_readSaying_42, dX3_readSaying_45, dX3_readSaying_48, dX3_readSaying_49, dX3_readSaying_50, dX3_readSaying_51, dX3_readSaying_54, dX3_readSaying_55, dX3_readSaying_56, dX3_readSaying_57, dX3_readSaying_60, dX3_readSaying_63, dX3_readSaying_64, dX3_readSaying_65, dX3_readSaying_66, dX3_readSaying_69, dX3_readSaying_70, dX3_readSaying_71, dX3_readSaying_72, fT_3_153, dX3_readSaying_75, dX3_readSaying_78, dX3_readSaying_79, dX3_readSaying_81, dX3_readSaying_84]
      rw [nu2]
      refine hG.callV dX3_readSaying_42 mv_3_171 [.int (nI (pnm (D 0 0) (D 1) (lxWd t N p1)))] [] (c3_takePupil l X (d - 1) sh mI2 mL2 mR2 n R C TP t N p2 S2 D D2 hV (nI (pnm (D 0 0) (D 1) (lxWd t N p1))) (by omega)) ⟨_, rfl, rfl⟩ q0 (by omega) rfl (by decide) (by simp [Value.category]) rfl ?_
      intro r M' hT
      cases hf3 : tpF t N p2 (D 0 0) (D 1) (nI (pnm (D 0 0) (D 1) (lxWd t N p1))) with
      | some e =>
        have q := hP _ _ (LiP.bad F2 hT hf3 (by unfold rdSayB; rw [if_neg h6, ← tp1 n10, hf2]; show bf _ _ _ _ _ = _; rw [← tp2 n10 l1, hf3]; rfl))
        obtain ⟨mI3, mL3, mR3, rfl, b1, b2, b3, b4, b5⟩ := hT
        obtain ⟨rfl, -⟩ := b5 e hf3
        refine hG.run [] 60 ?_
        simp [wp, stepI, ln, jmp, cmpI, Value.category, rd, tyF, vrs, vrn, ex_rr, ex_rn, ex_nr, ex_nn, okA_s, okA_n, st1, st2, clr, isLg, CB, inx_0, inx_1, inx_2, inx_3, inx_4, inx_5, bI_0, bI_1, bI_ok, fin3, tyX3, entL, q0, nI00, nI10, dX3_readSaying_0, dX3_readSaying_1, fT_3_12, dX3_readSaying_4, fT_3_43, dX3_readSaying_7, dX3_readSaying_9, dX3_readSaying_12, dX3_readSaying_13, dX3_readSaying_14, dX3_readSaying_17, dX3_readSaying_18, dX3_readSaying_19, fT_3_21, dX3_readSaying_22, dX3_readSaying_25, dX3_readSaying_26, dX3_readSaying_27, dX3_readSaying_30, dX3_readSaying_33, dX3_readSaying_34, dX3_readSaying_35, dX3_readSaying_36, fT_3_174, dX3_readSaying_39, dX3_readSaying_40, dX3_readSaying_41, dX3_readSaying_42, dX3_readSaying_45, dX3_readSaying_48, dX3_readSaying_49, dX3_readSaying_50, dX3_readSaying_51, dX3_readSaying_54, dX3_readSaying_55, dX3_readSaying_56, dX3_readSaying_57, dX3_readSaying_60, dX3_readSaying_63, dX3_readSaying_64, dX3_readSaying_65, dX3_readSaying_66, dX3_readSaying_69, dX3_readSaying_70, dX3_readSaying_71, dX3_readSaying_72, fT_3_153, dX3_readSaying_75, dX3_readSaying_78, dX3_readSaying_79, dX3_readSaying_81, dX3_readSaying_84]
        exact q
      | none =>
        obtain ⟨mI3, mL3, mR3, rfl, b1, b2, b3, b4, b5⟩ := hT
        obtain ⟨rfl, S3, w3, nu3⟩ := b4 hf3
        have D3 := D2.fr di b1 b2
        have F3 := F2.trans (lnF.tk (C := C) b1 b2 b3)
        have z3 := w3.trans z2
        have y3 := b1
        rw [← hp3] at S3
        obtain ⟨l2, -, -⟩ := tpF_no hf3
        refine hG.run [57] 60 ?_
        simp [wp, stepI, ln, jmp, cmpI, Value.category, rd, tyF, vrs, vrn, ex_rr, ex_rn, ex_nr, ex_nn, okA_s, okA_n, st1, st2, clr, isLg, CB, inx_0, inx_1, inx_2, inx_3, inx_4, inx_5, bI_0, bI_1, bI_ok, fin3, tyX3, entL, q0, nI00, nI10, dX3_readSaying_0, dX3_readSaying_1, fT_3_12, dX3_readSaying_4, fT_3_43, dX3_readSaying_7, dX3_readSaying_9, dX3_readSaying_12, dX3_readSaying_13, dX3_readSaying_14, dX3_readSaying_17, dX3_readSaying_18, dX3_readSaying_19, fT_3_21, dX3_readSaying_22, dX3_readSaying_25, dX3_readSaying_26, dX3_readSaying_27, dX3_readSaying_30, dX3_readSaying_33, dX3_readSaying_34, dX3_readSaying_35, dX3_readSaying_36, fT_3_174, dX3_readSaying_39, dX3_readSaying_40, dX3_readSaying_41, dX3_readSaying_42, dX3_readSaying_45, dX3_readSaying_48, dX3_readSaying_49, dX3_readSaying_50, dX3_readSaying_51, dX3_readSaying_54, dX3_readSaying_55, dX3_readSaying_56, dX3_readSaying_57, dX3_readSaying_60, dX3_readSaying_63, dX3_readSaying_64, dX3_readSaying_65, dX3_readSaying_66, dX3_readSaying_69, dX3_readSaying_70, dX3_readSaying_71, dX3_readSaying_72, fT_3_153, dX3_readSaying_75, dX3_readSaying_78, dX3_readSaying_79, dX3_readSaying_81, dX3_readSaying_84]
        rw [nu3]
        simp only [li]
        refine hG.callV dX3_readSaying_57 mv_3_147 [.int (nI 1)] [] (c3_takeNumber l X (d - 1) sh mI3 mL3 mR3 n R C TP t N p3 S3 1 (by omega) (by omega)) ⟨_, rfl, rfl⟩ q0 (by omega) rfl (by decide) (by simp [Value.category]) rfl ?_
        intro r M' hT
        cases hf4 : nuF t N p3 1 with
        | some e =>
          have q := hP _ _ (LiP.bad F3 hT hf4 (by unfold rdSayB; rw [if_neg h6, ← tp1 n10, hf2]; show bf _ _ _ _ _ = _; rw [← tp2 n10 l1, hf3]; show bf _ _ _ _ _ = _; rw [hf4]; rfl))
          obtain ⟨mI4, mL4, mR4, rfl, b1, b2, b3, b4, b5⟩ := hT
          obtain ⟨rfl, -⟩ := b5 e hf4
          refine hG.run [] 60 ?_
          simp [wp, stepI, ln, jmp, cmpI, Value.category, rd, tyF, vrs, vrn, ex_rr, ex_rn, ex_nr, ex_nn, okA_s, okA_n, st1, st2, clr, isLg, CB, inx_0, inx_1, inx_2, inx_3, inx_4, inx_5, bI_0, bI_1, bI_ok, fin3, tyX3, entL, q0, nI00, nI10, dX3_readSaying_0, dX3_readSaying_1, fT_3_12, dX3_readSaying_4, fT_3_43, dX3_readSaying_7, dX3_readSaying_9, dX3_readSaying_12, dX3_readSaying_13, dX3_readSaying_14, dX3_readSaying_17, dX3_readSaying_18, dX3_readSaying_19, fT_3_21, dX3_readSaying_22, dX3_readSaying_25, dX3_readSaying_26, dX3_readSaying_27, dX3_readSaying_30, dX3_readSaying_33, dX3_readSaying_34, dX3_readSaying_35, dX3_readSaying_36, fT_3_174, dX3_readSaying_39, dX3_readSaying_40, dX3_readSaying_41, dX3_readSaying_42, dX3_readSaying_45, dX3_readSaying_48, dX3_readSaying_49, dX3_readSaying_50, dX3_readSaying_51, dX3_readSaying_54, dX3_readSaying_55, dX3_readSaying_56, dX3_readSaying_57, dX3_readSaying_60, dX3_readSaying_63, dX3_readSaying_64, dX3_readSaying_65, dX3_readSaying_66, dX3_readSaying_69, dX3_readSaying_70, dX3_readSaying_71, dX3_readSaying_72, fT_3_153, dX3_readSaying_75, dX3_readSaying_78, dX3_readSaying_79, dX3_readSaying_81, dX3_readSaying_84]
          exact q
        | none =>
          obtain ⟨mI4, mL4, mR4, rfl, b1, b2, b3, b4, b5⟩ := hT
          obtain ⟨rfl, S4, w4, nu4⟩ := b4 hf4
          have D4 := D3.fr di b1 b2
          have F4 := F3.trans (lnF.tk (C := C) b1 b2 b3)
          have z4 := w4.trans z3
          have y4 := b1
          rw [← hp4] at S4
          have l3 := nuF_no hf4
          have m0 := S4.1.2.2.1
          have hO := S4.1.2.2.2.2.2.2.2.1
          refine hG.run [75] 60 ?_
          simp [wp, stepI, ln, jmp, cmpI, Value.category, rd, tyF, vrs, vrn, ex_rr, ex_rn, ex_nr, ex_nn, okA_s, okA_n, st1, st2, clr, isLg, CB, inx_0, inx_1, inx_2, inx_3, inx_4, inx_5, bI_0, bI_1, bI_ok, fin3, tyX3, entL, q0, m0, nI00, nI10, dX3_readSaying_0, dX3_readSaying_1, fT_3_12, dX3_readSaying_4, fT_3_43, dX3_readSaying_7, dX3_readSaying_9, dX3_readSaying_12, dX3_readSaying_13, dX3_readSaying_14, dX3_readSaying_17, dX3_readSaying_18, dX3_readSaying_19, fT_3_21, dX3_readSaying_22, dX3_readSaying_25, dX3_readSaying_26, dX3_readSaying_27, dX3_readSaying_30, dX3_readSaying_33, dX3_readSaying_34, dX3_readSaying_35, dX3_readSaying_36, fT_3_174, dX3_readSaying_39, dX3_readSaying_40, dX3_readSaying_41, dX3_readSaying_42, dX3_readSaying_45, dX3_readSaying_48, dX3_readSaying_49, dX3_readSaying_50, dX3_readSaying_51, dX3_readSaying_54, dX3_readSaying_55, dX3_readSaying_56, dX3_readSaying_57, dX3_readSaying_60, dX3_readSaying_63, dX3_readSaying_64, dX3_readSaying_65, dX3_readSaying_66, dX3_readSaying_69, dX3_readSaying_70, dX3_readSaying_71, dX3_readSaying_72, fT_3_153, dX3_readSaying_75, dX3_readSaying_78, dX3_readSaying_79, dX3_readSaying_81, dX3_readSaying_84]
          rw [nu4]
          refine hG.callV dX3_readSaying_75 mv_3_177 [.int (nI (pnm (D 0 0) (D 1) (lxWd t N p1))), .int (nI (pnm (D 0 0) (D 1) (lxWd t N p2))), .int (nI (lxNm t N p3))] [] (c6_addSaying l X (d - 1) sh mI4 mL4 mR4 n (R + 1) hO (D 0 2) (D 5) (D 6) (D 7) (D4.shs hV) (pnm (D 0 0) (D 1) (lxWd t N p1)) (pnm (D 0 0) (D 1) (lxWd t N p2)) (lxNm t N p3) (by omega) (by omega) (by omega) (by omega)) ⟨_, rfl, rfl⟩ s6 (by omega) rfl (by decide) (by simp [Value.category]) rfl ?_
          rintro r M' ⟨rfl, mI5, rfl, f5, h5⟩
          have S5 : RsM sh mI5 mL4 mR4 R C TP t N p4 := S4.fr (fun k => f5 _ _ (by omega) (by omega) (by omega) (by omega)) (fun k => f5 _ _ (by omega) (by omega) (by omega) (by omega)) rfl (fun _ _ => rfl)
          have D5 := D4.sy di (by omega) _ _ _ f5 h5
          have F5 : lnF R C mI mL mR mI5 mL4 mR4 := F4.trans ⟨fun a k z => by unfold lnW at z; exact f5 a k (by omega) (by omega) (by omega) (by omega), fun _ _ _ _ => rfl, fun _ _ _ => rfl⟩
          have z5 : mI5 R 10 = mI R 10 := (f5 _ _ (by omega) (by omega) (by omega) (by omega)).trans z4
          refine hG.run [81] 60 ?_
          simp [wp, stepI, ln, jmp, cmpI, Value.category, rd, tyF, vrs, vrn, ex_rr, ex_rn, ex_nr, ex_nn, okA_s, okA_n, st1, st2, clr, isLg, CB, inx_0, inx_1, inx_2, inx_3, inx_4, inx_5, bI_0, bI_1, bI_ok, fin3, tyX3, entL, q0, nI00, nI10, dX3_readSaying_0, dX3_readSaying_1, fT_3_12, dX3_readSaying_4, fT_3_43, dX3_readSaying_7, dX3_readSaying_9, dX3_readSaying_12, dX3_readSaying_13, dX3_readSaying_14, dX3_readSaying_17, dX3_readSaying_18, dX3_readSaying_19, fT_3_21, dX3_readSaying_22, dX3_readSaying_25, dX3_readSaying_26, dX3_readSaying_27, dX3_readSaying_30, dX3_readSaying_33, dX3_readSaying_34, dX3_readSaying_35, dX3_readSaying_36, fT_3_174, dX3_readSaying_39, dX3_readSaying_40, dX3_readSaying_41, dX3_readSaying_42, dX3_readSaying_45, dX3_readSaying_48, dX3_readSaying_49, dX3_readSaying_50, dX3_readSaying_51, dX3_readSaying_54, dX3_readSaying_55, dX3_readSaying_56, dX3_readSaying_57, dX3_readSaying_60, dX3_readSaying_63, dX3_readSaying_64, dX3_readSaying_65, dX3_readSaying_66, dX3_readSaying_69, dX3_readSaying_70, dX3_readSaying_71, dX3_readSaying_72, fT_3_153, dX3_readSaying_75, dX3_readSaying_78, dX3_readSaying_79, dX3_readSaying_81, dX3_readSaying_84]
          simp only [li]
          refine hG.callV dX3_readSaying_81 mv_3_156 [.int (nI 59)] [] (c3_takeSign l X (d - 1) sh mI5 mL4 mR4 n R C TP t N p4 S5 59 (by omega) (by omega) (by omega)) ⟨_, rfl, rfl⟩ q0 (by omega) rfl (by decide) (by simp [Value.category]) rfl ?_
          intro r M' hT
          have q := hP _ _ (LiP.sgn F5 hT (by unfold rdSayB; rw [if_neg h6, ← tp1 n10, hf2]; show bf _ _ _ _ _ = _; rw [← tp2 n10 l1, hf3]; show bf _ _ _ _ _ = _; rw [hf4]; rfl) D5 di z5)
          obtain ⟨mI7, mL7, mR7, rfl, c1, c2, c3, c4, c5⟩ := hT
          cases hg : sgF t N p4 59 with
          | some e =>
            obtain ⟨rfl, -⟩ := c5 e hg
            refine hG.run [] 60 ?_
            simp [wp, stepI, ln, jmp, cmpI, Value.category, rd, tyF, vrs, vrn, ex_rr, ex_rn, ex_nr, ex_nn, okA_s, okA_n, st1, st2, clr, isLg, CB, inx_0, inx_1, inx_2, inx_3, inx_4, inx_5, bI_0, bI_1, bI_ok, fin3, tyX3, entL, q0, nI00, nI10, dX3_readSaying_0, dX3_readSaying_1, fT_3_12, dX3_readSaying_4, fT_3_43, dX3_readSaying_7, dX3_readSaying_9, dX3_readSaying_12, dX3_readSaying_13, dX3_readSaying_14, dX3_readSaying_17, dX3_readSaying_18, dX3_readSaying_19, fT_3_21, dX3_readSaying_22, dX3_readSaying_25, dX3_readSaying_26, dX3_readSaying_27, dX3_readSaying_30, dX3_readSaying_33, dX3_readSaying_34, dX3_readSaying_35, dX3_readSaying_36, fT_3_174, dX3_readSaying_39, dX3_readSaying_40, dX3_readSaying_41, dX3_readSaying_42, dX3_readSaying_45, dX3_readSaying_48, dX3_readSaying_49, dX3_readSaying_50, dX3_readSaying_51, dX3_readSaying_54, dX3_readSaying_55, dX3_readSaying_56, dX3_readSaying_57, dX3_readSaying_60, dX3_readSaying_63, dX3_readSaying_64, dX3_readSaying_65, dX3_readSaying_66, dX3_readSaying_69, dX3_readSaying_70, dX3_readSaying_71, dX3_readSaying_72, fT_3_153, dX3_readSaying_75, dX3_readSaying_78, dX3_readSaying_79, dX3_readSaying_81, dX3_readSaying_84]
            exact q
          | none =>
            obtain ⟨rfl, -⟩ := c4 hg
            refine hG.run [] 60 ?_
            simp [wp, stepI, ln, jmp, cmpI, Value.category, rd, tyF, vrs, vrn, ex_rr, ex_rn, ex_nr, ex_nn, okA_s, okA_n, st1, st2, clr, isLg, CB, inx_0, inx_1, inx_2, inx_3, inx_4, inx_5, bI_0, bI_1, bI_ok, fin3, tyX3, entL, q0, nI00, nI10, dX3_readSaying_0, dX3_readSaying_1, fT_3_12, dX3_readSaying_4, fT_3_43, dX3_readSaying_7, dX3_readSaying_9, dX3_readSaying_12, dX3_readSaying_13, dX3_readSaying_14, dX3_readSaying_17, dX3_readSaying_18, dX3_readSaying_19, fT_3_21, dX3_readSaying_22, dX3_readSaying_25, dX3_readSaying_26, dX3_readSaying_27, dX3_readSaying_30, dX3_readSaying_33, dX3_readSaying_34, dX3_readSaying_35, dX3_readSaying_36, fT_3_174, dX3_readSaying_39, dX3_readSaying_40, dX3_readSaying_41, dX3_readSaying_42, dX3_readSaying_45, dX3_readSaying_48, dX3_readSaying_49, dX3_readSaying_50, dX3_readSaying_51, dX3_readSaying_54, dX3_readSaying_55, dX3_readSaying_56, dX3_readSaying_57, dX3_readSaying_60, dX3_readSaying_63, dX3_readSaying_64, dX3_readSaying_65, dX3_readSaying_66, dX3_readSaying_69, dX3_readSaying_70, dX3_readSaying_71, dX3_readSaying_72, fT_3_153, dX3_readSaying_75, dX3_readSaying_78, dX3_readSaying_79, dX3_readSaying_81, dX3_readSaying_84]
            exact ⟨rfl, q⟩
