/-! school -/
def aSch (D : DD) : DD := setA (setA D 11 (fun _ => 0)) 12 (fun _ => 0)
theorem aSch_V {D : DD} (h : DrV D) : AsV (aSch D) := by
  obtain ⟨⟨v1, v2, v3, v4, v5, v6, v7, v8⟩, w1, w2, w3, w4, w5⟩ := h
  exact ⟨⟨v1, v2, v3, v4, v7⟩, fun p hp => (w1 p hp).2, w2, w3, fun i hi => (w4 i hi).1, w5, fun p hp => ⟨Nat.zero_le _, Nat.zero_le _⟩, fun p q _ _ _ => ⟨fun z => absurd rfl z, fun z => absurd rfl z⟩⟩
/-- cells that school() may change, of those that are there -/
def scC (a k : Nat) : Prop := rdC 2 a ∨ (a = 0 ∧ k = 1)
set_option maxHeartbeats 1600000 in
set_option maxRecDepth 100000 in
theorem c11_school (l : Launch) (X : Cx) (d : Nat) (sh : Nat → Option Sh) (mI : Nat → Nat → Int32) (mL : Nat → Nat → Int64) (mR : Nat → Nat → Option Nat) (n : Nat) (hn : 171 ≤ n) (hn2 : n < 9000000) (hB : BL sh mR) (x : TP) (hx : TcM mI x) (hds : ∀ p, p < 10 → mI 13 p = -nI 1 ∧ mI 14 p = -nI 1) (ro : Nat → Nat) (hro : ∀ k, k < 6 → ro k ≤ 9) (hd : 62 ≤ d) : Cn l X yX11_school cX11_school 2 (some .int) d [.ref 0] (sh, mI, mL, mR, n) (fun r M' => ∃ sh' mI' mL' mR' n', M' = (sh', mI', mL', mR', n') ∧ (n + 6 ≤ n' ∧ n' ≤ n + 1010) ∧ (∀ a, a < n → sh' a = sh a) ∧ BL sh' mR' ∧ mI' 0 1 = nI 0 ∧ (∀ a k, a < n → ¬ rdC 2 a → mL' a k = mL a k) ∧ match rdAll x.1 x.2 (x.2 + 1) 0 (drZ ro) with | .inl e => r = some (.int (nI (e.1 + 16 * e.2))) ∧ (∀ a k, a < n → ¬ scC a k → mI' a k = mI a k) ∧ (∀ a k, a < n → ¬ rdC 2 a → mR' a k = mR a k) | .inr q => r = some (.int 0) ∧ (∀ a k, a < n → ¬ rdC 2 a → ¬ (a = 20 ∧ k = 0) → mR' a k = mR a k) ∧ ∃ mI2, mI' = fgI mI2 ∧ (∀ a k, a < n → ¬ scC a k → a ≠ 20 → ¬ (27 ≤ a ∧ a ≤ 31) → mI2 a k = mI a k) ∧ ShA sh' mI2 mR' n' 20 n (aSch q.2)) 7 1135 := by
  refine Cn.runA 11 false (by decide) rfl (by decide) (by simp [entA, Value.category]) ?_
  intro P G hP hG
  have q0 := hB.1
  have b1 := hB.2.1.1
  have t1 := hB.2.1.2
  have b2 := hB.2.2.1.1
  have s3 := hB.2.2.1.2.1
  obtain ⟨x1, x2, x3⟩ := hx
  refine hG.run [] 20 ?_
  simp [wp, stepI, ln, jmp, cmpI, Value.category, rd, tyF, va_rf, st1, st2, clr, isLg, CB, inx_0, inx_1, inx_2, inx_3, inx_4, inx_5, bI_0, bI_1, bI_ok, fin3, tyX11, entL, q0, b1, b2, x1, dX11_school_0, dX11_school_1, fT_11_16, dX11_school_4, dX11_school_5, fT_11_9, dX11_school_8, dX11_school_9, fT_11_82, dX11_school_12, dX11_school_15, dX11_school_16, dX11_school_17, dX11_school_18, dX11_school_21, dX11_school_22, dX11_school_25, dX11_school_26, fT_11_23, dX11_school_29, dX11_school_30, dX11_school_33, fT_11_90, dX11_school_36, dX11_school_39, dX11_school_40, dX11_school_43, dX11_school_44]
  refine hG.callV dX11_school_12 mv_11_86 [.ref 1, .int (nI x.2)] [] (c3_read l X (d - 1) sh mI mL mR n 2 1 hB.2.2.1.2 x.1 x.2 t1 (by decide) (by omega) hn2 x2 x3 ro hro (by omega)) ⟨_, rfl, rfl⟩ s3 (by omega) rfl (by decide) (by simp [Value.category]) rfl ?_
  rintro r M' ⟨sh1, mI1, mL1, mR1, n1, rfl, hn1, fs, ff, RB, hm⟩
  have B1 : BL sh1 mR1 := hB.fr (fun a ha => fs a (by omega)) RB (fun a k ha h1 h2 => (ff a k (by omega) (by unfold rdC; omega)).2.2)
  have q0' := B1.1
  have e1 : ∀ a k, ¬ (a = 0 ∧ k = 1) → up2 mI1 0 1 0 a k = mI1 a k := fun a k h => up2_ne h
  have e2 : up2 mI1 0 1 0 0 1 = nI 0 := up2_eq ..
  cases hq : rdAll x.1 x.2 (x.2 + 1) 0 (drZ ro) with
  | inl e =>
    rw [hq] at hm hP
    obtain ⟨rfl, h0⟩ := hm
    have q := hP (some (.int (nI (e.1 + 16 * e.2)))) _ ⟨sh1, up2 mI1 0 1 0, mL1, mR1, n1, rfl, hn1, fs, B1, e2, fun a k h1 h2 => (ff a k h1 h2).2.1, rfl, fun a k h1 h2 => (e1 a k (fun z => h2 (Or.inr z))).trans (ff a k h1 (fun z => h2 (Or.inl z))).1, fun a k h1 h2 => (ff a k h1 h2).2.2⟩
    have h0' : ¬ nI (e.1 + 16 * e.2) = 0 := h0
    generalize nI (e.1 + 16 * e.2) = v at q h0' ⊢
    refine hG.run [25] 20 ?_
    simp [wp, stepI, ln, jmp, cmpI, Value.category, rd, tyF, va_rf, st1, st2, clr, isLg, CB, inx_0, inx_1, inx_2, inx_3, inx_4, inx_5, bI_0, bI_1, bI_ok, fin3, tyX11, entL, q0, okv, wr, finF, clT, TX11, q0', dX11_school_0, dX11_school_1, fT_11_16, dX11_school_4, dX11_school_5, fT_11_9, dX11_school_8, dX11_school_9, fT_11_82, dX11_school_12, dX11_school_15, dX11_school_16, dX11_school_17, dX11_school_18, dX11_school_21, dX11_school_22, dX11_school_25, dX11_school_26, fT_11_23, dX11_school_29, dX11_school_30, dX11_school_33, fT_11_90, dX11_school_36, dX11_school_39, dX11_school_40, dX11_school_43, dX11_school_44]
    exact ⟨fun _ => q, fun z => absurd z h0'⟩
  | inr q =>
    rw [hq] at hm hP
    obtain ⟨rfl, RL, RD, WR⟩ := hm
    have V : ∀ p, p < 10 → mI1 13 p = -nI 1 ∧ mI1 14 p = -nI 1 := fun p hp => ⟨(ff _ _ (by omega) (by unfold rdC; omega)).1.trans (hds p hp).1, (ff _ _ (by omega) (by unfold rdC; omega)).1.trans (hds p hp).2⟩
    have b3 := B1.2.2.2.1.1
    have b2' := B1.2.2.1.1
    have o6 := B1.2.2.2.1.2
    have s6 := o6.1
    have s3' := RB.1
    have d0 := RB.2.2.1
    have oD := RB.2.2.2.2.2.2.2.1
    have dC := RL.2.2.2.2.2.2.2.2.1
    have o4 := RL.2.2.2.2.2.2.2.2.2.1
    refine hG.run [25] 20 ?_
    simp [wp, stepI, ln, jmp, cmpI, Value.category, rd, tyF, va_rf, st1, st2, clr, isLg, CB, inx_0, inx_1, inx_2, inx_3, inx_4, inx_5, bI_0, bI_1, bI_ok, fin3, tyX11, entL, q0, okv, wr, finF, clT, TX11, q0', dX11_school_0, dX11_school_1, fT_11_16, dX11_school_4, dX11_school_5, fT_11_9, dX11_school_8, dX11_school_9, fT_11_82, dX11_school_12, dX11_school_15, dX11_school_16, dX11_school_17, dX11_school_18, dX11_school_21, dX11_school_22, dX11_school_25, dX11_school_26, fT_11_23, dX11_school_29, dX11_school_30, dX11_school_33, fT_11_90, dX11_school_36, dX11_school_39, dX11_school_40, dX11_school_43, dX11_school_44]
    refine ⟨fun z => absurd rfl z, fun _ => ?_⟩
    generalize up2 mI1 0 1 0 = mI2 at e1 e2 ⊢
    refine hG.run [36] 20 ?_
    simp [wp, stepI, ln, jmp, cmpI, Value.category, rd, tyF, va_rf, st1, st2, clr, isLg, CB, inx_0, inx_1, inx_2, inx_3, inx_4, inx_5, bI_0, bI_1, bI_ok, fin3, tyX11, entL, q0, q0', b3, b2', s3', d0, tyX3, dX11_school_0, dX11_school_1, fT_11_16, dX11_school_4, dX11_school_5, fT_11_9, dX11_school_8, dX11_school_9, fT_11_82, dX11_school_12, dX11_school_15, dX11_school_16, dX11_school_17, dX11_school_18, dX11_school_21, dX11_school_22, dX11_school_25, dX11_school_26, fT_11_23, dX11_school_29, dX11_school_30, dX11_school_33, fT_11_90, dX11_school_36, dX11_school_39, dX11_school_40, dX11_school_43, dX11_school_44]
    refine hG.callV dX11_school_36 mv_11_93 [.ref 3] [] (c6_copyFrom l X (d - 1) sh1 mI2 mL1 mR1 n1 20 3 n o6 oD (by omega) dC (by omega)) ⟨_, rfl, rfl⟩ s6 (by omega) rfl (by decide) (by simp [Value.category]) rfl ?_
    rintro r M' ⟨rfl, rfl⟩
    have r0 : ∀ a k, ¬ (a = 20 ∧ k = 0) → up2 mR1 20 0 (some n) a k = mR1 a k := fun a k h => up2_ne h
    have r1 : up2 mR1 20 0 (some n) 20 0 = some n := up2_eq ..
    have B2 : BL sh1 (up2 mR1 20 0 (some n)) := B1.fr (fun _ _ => rfl) (RB.fr (fun _ _ => rfl) (fun a k _ _ => r0 a k (by omega))) (fun a k _ _ h => r0 a k (by omega))
    generalize up2 mR1 20 0 (some n) = mR2 at r0 r1 B2 ⊢
    have q0'' := B2.1
    have co : ∀ a k, a ≠ 20 → ¬ (27 ≤ a ∧ a ≤ 31) → cpS mI2 20 3 a k = mI2 a k := fun a k h1 h2 => cpS_o (by omega) (by omega) (by omega) (by omega) (by omega) (by omega)
    obtain ⟨⟨d1, d2, d3, d4, -, -⟩, d5, d6, d7, d8, -⟩ := RD
    have SS : ShS mI2 3 (q.2 0 2) (q.2 5) (q.2 6) (q.2 7) → ShS (cpS mI2 20 3) 20 (q.2 0 2) (q.2 5) (q.2 6) (q.2 7) := cpS_sh (by omega)
    have SA : DrV q.2 → ShA sh1 (cpS mI2 20 3) mR2 n1 20 n (aSch q.2) := fun DV => by
      have s := SS ⟨(e1 _ _ (by omega)).trans d3, DV.1.2.2.1, fun k hk => ⟨(e1 _ _ (by omega)).trans (d7 k hk).1, (e1 _ _ (by omega)).trans (d7 k hk).2.1, (e1 _ _ (by omega)).trans (d7 k hk).2.2, by have := (DV.2.2.2.1 k hk).1; have := DV.1.1; omega, by have := (DV.2.2.2.1 k hk).2.1; have := DV.1.1; omega, (DV.2.2.2.1 k hk).2.2.2⟩⟩
      have g : ∀ b k, cpS mI2 20 3 (n + b) k = mI1 (n + b) k := fun b k => (co _ _ (by omega) (by omega)).trans (e1 _ _ (by omega))
      refine ShA.mk2 r1 ⟨o4.fr 4 (by decide) (fun _ _ _ => rfl) (fun y hy => r0 _ _ (by omega)), Or.inr hn, by omega, ⟨(g 0 _).trans d1, (g 0 _).trans d2, (g 0 _).trans d4⟩, fun p hp => ⟨(g 1 _).trans (d5 p hp).2.2.1, (g 2 _).trans (d5 p hp).2.2.2⟩, fun k hk => (g 3 _).trans (d6 k hk), fun i hi => (g 4 _).trans (d8 i hi), ?_⟩ s.1 (fun k hk => ⟨(s.2.2 k hk).1, (s.2.2 k hk).2.1, (s.2.2 k hk).2.2.1⟩) (fun p hp => ?_)
      · obtain ⟨Wc, u, w1, w2, w3, w4, w5, w6, w7⟩ := WR
        exact ⟨Wc, u, (r0 _ _ (by clear w7; omega)).trans w1, w2, w3, w4, w5, fun i hi => ((co _ _ (by clear w7; omega) (by clear w7; omega)).trans (e1 _ _ (by clear w7; omega))).trans (w6 i hi), w7⟩
      · have hp' : p < q.2 0 0 := hp
        have p10 : p < 10 := by have := DV.1.1; omega
        obtain ⟨c1, c2⟩ := cpS_seat (mI := mI2) (S := 20) (T := 3) (by omega) p10
        exact ⟨c1.trans ((e1 _ _ (by omega)).trans (V p p10).1), c2.trans ((e1 _ _ (by omega)).trans (V p p10).2)⟩
    have SA := SA (rdAll_ok x2 _ 0 _ q (drZ_ok hro) (Nat.zero_le _) hq)
    have cs := fun a k h1 h2 => co a k h1 h2
    generalize cpS mI2 20 3 = mI3 at SA cs ⊢
    have c0 : fgI mI3 0 1 = nI 0 := (cs 0 1 (by decide) (by decide)).trans e2
    refine hG.run [] 20 ?_
    simp [wp, stepI, ln, jmp, cmpI, Value.category, rd, tyF, va_rf, st1, st2, clr, isLg, CB, inx_0, inx_1, inx_2, inx_3, inx_4, inx_5, bI_0, bI_1, bI_ok, fin3, tyX11, entL, q0, dX11_school_0, dX11_school_1, fT_11_16, dX11_school_4, dX11_school_5, fT_11_9, dX11_school_8, dX11_school_9, fT_11_82, dX11_school_12, dX11_school_15, dX11_school_16, dX11_school_17, dX11_school_18, dX11_school_21, dX11_school_22, dX11_school_25, dX11_school_26, fT_11_23, dX11_school_29, dX11_school_30, dX11_school_33, fT_11_90, dX11_school_36, dX11_school_39, dX11_school_40, dX11_school_43, dX11_school_44]
    refine hG.callV dX11_school_40 mv_11_97 [] [] (c11_forgetStudies l X (d - 1) sh1 mI3 mL1 mR2 n1 B2 (by omega)) ⟨_, rfl, rfl⟩ q0'' (by omega) rfl (by decide) (by simp [Value.category]) rfl ?_
    rintro r M' ⟨rfl, rfl⟩
    have qq := hP (some (.int 0)) _ ⟨sh1, fgI mI3, mL1, mR2, n1, rfl, hn1, fs, B2, c0, fun a k h1 h2 => (ff a k h1 h2).2.1, rfl, fun a k h1 h2 h3 => (r0 a k h3).trans (ff a k h1 h2).2.2, mI3, rfl, fun a k h1 h2 h3 h4 => (cs a k h3 h4).trans ((e1 a k (fun z => h2 (Or.inr z))).trans (ff a k h1 (fun z => h2 (Or.inl z))).1), SA⟩
    refine hG.run [] 20 ?_
    simp [wp, stepI, ln, jmp, cmpI, Value.category, rd, tyF, va_rf, st1, st2, clr, isLg, CB, inx_0, inx_1, inx_2, inx_3, inx_4, inx_5, bI_0, bI_1, bI_ok, fin3, tyX11, entL, q0, dX11_school_0, dX11_school_1, fT_11_16, dX11_school_4, dX11_school_5, fT_11_9, dX11_school_8, dX11_school_9, fT_11_82, dX11_school_12, dX11_school_15, dX11_school_16, dX11_school_17, dX11_school_18, dX11_school_21, dX11_school_22, dX11_school_25, dX11_school_26, fT_11_23, dX11_school_29, dX11_school_30, dX11_school_33, fT_11_90, dX11_school_36, dX11_school_39, dX11_school_40, dX11_school_43, dX11_school_44]
    exact qq
