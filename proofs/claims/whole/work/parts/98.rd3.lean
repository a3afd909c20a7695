/-! the lines -/
theorem nI00 : (nI 0 = 0) = True := eq_true rfl
theorem nI10 : (nI 1 = 0) = False := eq_false (by decide)
def lnW (R C a : Nat) : Prop := (R ≤ a ∧ a ≤ R + 10) ∨ (R + 13 ≤ a ∧ a ≤ R + 17) ∨ (C ≤ a ∧ a ≤ C + 4)
def lnF (R C : Nat) (mI : Nat → Nat → Int32) (mL : Nat → Nat → Int64) (mR : Nat → Nat → Option Nat) (mI' : Nat → Nat → Int32) (mL' : Nat → Nat → Int64) (mR' : Nat → Nat → Option Nat) : Prop := (∀ a k, ¬ lnW R C a → mI' a k = mI a k) ∧ (∀ a k, ¬ (a = R + 13 ∧ k = 6) → a ≠ R + 15 → mL' a k = mL a k) ∧ ∀ a k, ¬ (a = R + 13 ∧ k = 7) → mR' a k = mR a k
theorem lnF.refl {R C : Nat} {mI : Nat → Nat → Int32} {mL : Nat → Nat → Int64} {mR : Nat → Nat → Option Nat} : lnF R C mI mL mR mI mL mR := ⟨fun _ _ _ => rfl, fun _ _ _ _ => rfl, fun _ _ _ => rfl⟩
theorem lnF.trans {R C : Nat} {mI mI1 mI2 : Nat → Nat → Int32} {mL mL1 mL2 : Nat → Nat → Int64} {mR mR1 mR2 : Nat → Nat → Option Nat} (h : lnF R C mI mL mR mI1 mL1 mR1) (g : lnF R C mI1 mL1 mR1 mI2 mL2 mR2) : lnF R C mI mL mR mI2 mL2 mR2 := ⟨fun a k z => (g.1 a k z).trans (h.1 a k z), fun a k z y => (g.2.1 a k z y).trans (h.2.1 a k z y), fun a k z => (g.2.2 a k z).trans (h.2.2 a k z)⟩
theorem lnF.up {R C : Nat} {mI : Nat → Nat → Int32} {mL : Nat → Nat → Int64} {mR : Nat → Nat → Option Nat} {a k : Nat} (v : Int32) (h : lnW R C a) : lnF R C mI mL mR (up2 mI a k v) mL mR := ⟨fun b j z => up2_ne (fun y => z (by rw [y.1]; exact h)), fun _ _ _ _ => rfl, fun _ _ _ => rfl⟩
theorem lnF.tk {R C : Nat} {mI mI' : Nat → Nat → Int32} {mL mL' : Nat → Nat → Int64} {mR mR' : Nat → Nat → Option Nat} (h1 : ∀ a k, ¬ rdW R a k → mI' a k = mI a k) (h2 : ∀ a k, ¬ (a = R + 13 ∧ k = 6) → mL' a k = mL a k) (h3 : ∀ a k, ¬ (a = R + 13 ∧ k = 7) → mR' a k = mR a k) : lnF R C mI mL mR mI' mL' mR' := ⟨fun a k z => h1 a k (fun y => z (by unfold rdW at y; unfold lnW; omega)), fun a k z _ => h2 a k z, h3⟩
/-- what a line leaves -/
def LiP (sh : Nat → Option Sh) (mI : Nat → Nat → Int32) (mL : Nat → Nat → Int64) (mR : Nat → Nat → Option Nat) (n R C TP : Nat) (t : Nat → Nat) (N : Nat) (q : PR) (r : Option Value) (M' : Mm) : Prop := ∃ mI' mL' mR', M' = (sh, mI', mL', mR', n) ∧ lnF R C mI mL mR mI' mL' mR' ∧ (∀ x, q = .inr x → r = some (.int (nI 1)) ∧ RsM sh mI' mL' mR' R C TP t N x.1 ∧ RdD mI' mL' R C x.2 ∧ mI' R 10 = mI R 10) ∧ ∀ e, q = .inl e → r = some (.int (nI 0)) ∧ mI' R 10 = nI (e.1 + 16 * e.2)
theorem LiP.bad {sh : Nat → Option Sh} {mI mI1 : Nat → Nat → Int32} {mL mL1 : Nat → Nat → Int64} {mR mR1 : Nat → Nat → Option Nat} {n R C TP : Nat} {t : Nat → Nat} {N p e : Nat} {q : PR} {f : Option Nat} {E : (Nat → Nat → Int32) → Prop} {r : Option Value} {M' : Mm} (hF : lnF R C mI mL mR mI1 mL1 mR1) (hT : TkP sh mI1 mL1 mR1 n R C TP t N p f E r M') (hf : f = some e) (hq : q = .inl (e, lxBg t N p)) : LiP sh mI mL mR n R C TP t N q r M' := by
  obtain ⟨mI2, mL2, mR2, rfl, h1, h2, h3, h4, h5⟩ := hT
  refine ⟨mI2, mL2, mR2, rfl, hF.trans (lnF.tk h1 h2 h3), fun x hx => ?_, fun e' he => ?_⟩
  · rw [hq] at hx; cases hx
  · rw [hq] at he
    cases he
    exact h5 e hf
theorem LiP.wr {sh : Nat → Option Sh} {mI mI1 : Nat → Nat → Int32} {mL mL1 : Nat → Nat → Int64} {mR mR1 : Nat → Nat → Option Nat} {n R C TP : Nat} {t : Nat → Nat} {N p e : Nat} {q : PR} (hF : lnF R C mI mL mR mI1 mL1 mR1) (hq : q = .inl (e, lxBg t N p)) : LiP sh mI mL mR n R C TP t N q (some (.int (nI 0))) (sh, up2 mI1 R 10 (nI (e + 16 * lxBg t N p)), mL1, mR1, n) :=
  LiP.bad (f := some e) (E := fun _ => True) hF (TkP.bad e rfl (fun _ _ _ => rfl)) rfl hq
theorem LiP.sgn {sh : Nat → Option Sh} {mI mI1 : Nat → Nat → Int32} {mL mL1 : Nat → Nat → Int64} {mR mR1 : Nat → Nat → Option Nat} {n R C TP : Nat} {t : Nat → Nat} {N p : Nat} {q : PR} {D : DD} {E : (Nat → Nat → Int32) → Prop} {r : Option Value} {M' : Mm} (hF : lnF R C mI mL mR mI1 mL1 mR1) (hT : TkP sh mI1 mL1 mR1 n R C TP t N p (sgF t N p 59) E r M') (hq : q = bf t N p (sgF t N p 59) (.inr (lxE t N p, D))) (hD : RdD mI1 mL1 R C D) (hd : R + 17 < C ∨ C + 5 < R) (h0 : mI1 R 10 = mI R 10) : LiP sh mI mL mR n R C TP t N q r M' := by
  cases hf : sgF t N p 59 with
  | some e => exact LiP.bad hF hT hf (by rw [hq, hf]; rfl)
  | none =>
    obtain ⟨mI2, mL2, mR2, rfl, h1, h2, h3, h4, h5⟩ := hT
    rw [hf] at hq
    obtain ⟨k1, k2, k3, k4⟩ := h4 hf
    refine ⟨mI2, mL2, mR2, rfl, hF.trans (lnF.tk h1 h2 h3), fun x hx => ?_, fun e' he => ?_⟩
    · rw [hq] at hx
      have := Sum.inr.inj hx
      subst this
      exact ⟨k1, k2, hD.fr hd h1 h2, k3.trans h0⟩
    · rw [hq] at he; cases he
theorem RdD.sc {mI mI' : Nat → Nat → Int32} {mL : Nat → Nat → Int64} {R C : Nat} {D D' : DD} (h : RdD mI mL R C D) (hd : R + 17 < C ∨ C + 5 < R) (h1 : ∀ a k, a ≠ R → a ≠ C → mI' a k = mI a k) (hD : ∀ i, i ≠ 0 → D' i = D i) (h0 : D' 0 0 = D 0 0 ∧ D' 0 1 = D 0 1 ∧ D' 0 2 = D 0 2) (hs : mI' C 4 = nI (D' 0 0) ∧ mI' C 5 = nI (D' 0 1) ∧ mI' (R + 1) 4 = nI (D' 0 2) ∧ mI' C 6 = nI (D' 0 3) ∧ mI' R 6 = nI (D' 0 4) ∧ mI' R 7 = nI (D' 0 5)) : RdD mI' mL R C D' := by
  obtain ⟨-, b, c, d, e, f⟩ := h
  obtain ⟨z0, z1, z2⟩ := h0
  refine ⟨hs, ?_, ?_, ?_, ?_, ?_⟩
  · rw [z0, hD 1 (by decide), hD 2 (by decide), hD 3 (by decide)]
    exact fun p hp => ⟨(b p hp).1, (b p hp).2.1, (h1 _ _ (by omega) (by omega)).trans (b p hp).2.2.1, (h1 _ _ (by omega) (by omega)).trans (b p hp).2.2.2⟩
  · rw [z1, hD 4 (by decide)]
    exact fun k hk => (h1 _ _ (by omega) (by omega)).trans (c k hk)
  · rw [z2, hD 5 (by decide), hD 6 (by decide), hD 7 (by decide)]
    exact fun k hk => ⟨(h1 _ _ (by omega) (by omega)).trans (d k hk).1, (h1 _ _ (by omega) (by omega)).trans (d k hk).2.1, (h1 _ _ (by omega) (by omega)).trans (d k hk).2.2⟩
  · rw [hD 8 (by decide)]
    exact fun i hi => (h1 _ _ (by omega) (by omega)).trans (e i hi)
  · rw [hD 9 (by decide)]
    intro a ha
    obtain ⟨lt, f1, f2⟩ := f a ha
    exact ⟨lt, (h1 _ _ (by omega) (by omega)).trans f1, f2⟩
theorem RdD.sl1 {mI : Nat → Nat → Int32} {mL : Nat → Nat → Int64} {R C : Nat} {D : DD} (h : RdD mI mL R C D) (hd : R + 17 < C ∨ C + 5 < R) : RdD (up2 mI R 6 (nI 1)) mL R C (up2 D 0 4 1) := by
  obtain ⟨a1, a2, a3, a4, a5, a6⟩ := h.1
  refine h.sc hd (fun a k z _ => up2_ne (fun y => z y.1)) (fun i hi => funext (fun k => up2_ne (fun y => hi y.1))) ⟨up2_ne (fun y => by cases y.2), up2_ne (fun y => by cases y.2), up2_ne (fun y => by cases y.2)⟩ ⟨?_, ?_, ?_, ?_, ?_, ?_⟩
  · rw [up2_ne (by omega), up2_ne (fun y => by cases y.2)]; exact a1
  · rw [up2_ne (by omega), up2_ne (fun y => by cases y.2)]; exact a2
  · rw [up2_ne (by omega), up2_ne (fun y => by cases y.2)]; exact a3
  · rw [up2_ne (by omega), up2_ne (fun y => by cases y.2)]; exact a4
  · rw [up2_eq, up2_eq]
  · rw [up2_ne (fun y => by cases y.2), up2_ne (fun y => by cases y.2)]; exact a6
theorem RdD.sl2 {mI : Nat → Nat → Int32} {mL : Nat → Nat → Int64} {R C : Nat} {D : DD} (h : RdD mI mL R C D) (hd : R + 17 < C ∨ C + 5 < R) (x : Nat) : RdD (up2 mI C 6 (nI x)) mL R C (up2 D 0 3 x) := by
  obtain ⟨a1, a2, a3, a4, a5, a6⟩ := h.1
  refine h.sc hd (fun a k _ z => up2_ne (fun y => z y.1)) (fun i hi => funext (fun k => up2_ne (fun y => hi y.1))) ⟨up2_ne (fun y => by cases y.2), up2_ne (fun y => by cases y.2), up2_ne (fun y => by cases y.2)⟩ ⟨?_, ?_, ?_, ?_, ?_, ?_⟩
  · rw [up2_ne (fun y => by cases y.2), up2_ne (fun y => by cases y.2)]; exact a1
  · rw [up2_ne (fun y => by cases y.2), up2_ne (fun y => by cases y.2)]; exact a2
  · rw [up2_ne (by omega), up2_ne (fun y => by cases y.2)]; exact a3
  · rw [up2_eq, up2_eq]
  · rw [up2_ne (by omega), up2_ne (fun y => by cases y.2)]; exact a5
  · rw [up2_ne (by omega), up2_ne (fun y => by cases y.2)]; exact a6
set_option maxHeartbeats 4000000 in
set_option maxRecDepth 100000 in
theorem c3_readSlip (l : Launch) (X : Cx) (d : Nat) (sh : Nat → Option Sh) (mI : Nat → Nat → Int32) (mL : Nat → Nat → Int64) (mR : Nat → Nat → Option Nat) (n : Nat) (R C TP : Nat) (t : Nat → Nat) (N p : Nat) (hS : RsM sh mI mL mR R C TP t N p) (D : DD) (hD : RdD mI mL R C D) (hV : DrV D) (hd : 4 ≤ d) : Cn l X yX3_readSlip cX3_readSlip 1 (some .boolean) d [.ref R] (sh, mI, mL, mR, n) (LiP sh mI mL mR n R C TP t N (rdSlip t N p D)) 0 0 := by
  refine Cn.run 3 false (by decide) rfl (by decide) (by simp [entA, Value.category]) ?_
  intro P G hP hG
  unfold rdSlip at hP
  obtain ⟨p1, hp1⟩ : ∃ p1, p1 = lxE t N p := ⟨_, rfl⟩
  obtain ⟨p2, hp2⟩ : ∃ p2, p2 = lxE t N p1 := ⟨_, rfl⟩
  rw [← hp1, ← hp2] at hP
  have hS0 := hS
  obtain ⟨g1, g2, g3, g4⟩ := hS
  have q0 := g1.1
  have xR : R < 1000000000 := by have := g1.2.1; omega
  have r0 := g1.2.2.1
  have r1 := g1.2.2.2.1
  have k0 := g1.2.2.2.2.2.2.2.2.2.2.1.1
  have s6 := g1.2.2.2.2.2.2.2.1.1
  have rc := g1.2.2.2.2.2.2.2.2.1
  have c4 := g1.2.2.2.2.2.2.2.2.2.1.1
  have di := g1.2.2.2.2.2.2.2.2.2.2.2.1
  have dt := g1.2.2.2.2.2.2.2.2.2.2.2.2
  have st := hD.1.2.2.2.2.1
  have d4 : D 0 4 ≤ 1 := hV.1.2.2.2.2.1
  by_cases h4 : D 0 4 = 0
  · rw [h4] at st
    refine hG.run [22] 60 ?_
    simp [wp, stepI, ln, jmp, cmpI, Value.category, rd, tyF, vrs, vrn, ex_rr, ex_rn, ex_nr, ex_nn, okA_s, okA_n, st1, st2, clr, isLg, CB, inx_0, inx_1, inx_2, inx_3, inx_4, inx_5, bI_0, bI_1, bI_ok, fin3, tyX3, entL, q0, r0, r1, k0, tyX8, st, okv, wr, finF, clT, TX3, xR, dX3_readSlip_0, dX3_readSlip_1, fT_3_53, dX3_readSlip_4, dX3_readSlip_7, dX3_readSlip_8, dX3_readSlip_9, dX3_readSlip_12, dX3_readSlip_13, dX3_readSlip_14, dX3_readSlip_15, dX3_readSlip_18, dX3_readSlip_19, fT_3_21, dX3_readSlip_22, dX3_readSlip_25, dX3_readSlip_26, dX3_readSlip_27, dX3_readSlip_30, dX3_readSlip_33, dX3_readSlip_34, dX3_readSlip_35, dX3_readSlip_36, fT_3_12, dX3_readSlip_39, fT_3_39, dX3_readSlip_42, dX3_readSlip_43, fT_3_153, dX3_readSlip_46, fT_3_184, dX3_readSlip_49, dX3_readSlip_50, dX3_readSlip_52, dX3_readSlip_55]
    simp only [li]
    obtain ⟨mI1, hmI1⟩ : ∃ m, m = up2 mI R 6 (nI 1) := ⟨_, rfl⟩
    rw [← hmI1]
    refine ⟨fun _ => ?_, fun z => absurd trivial z⟩
    have f1 : ∀ a k, ¬ (a = R ∧ k = 6) → mI1 a k = mI a k := fun a k h => by rw [hmI1, up2_ne h]
    have S1 : RsM sh mI1 mL mR R C TP t N p := hS0.fr (fun k => f1 _ _ (by omega)) (fun k => f1 _ _ (by omega)) rfl (fun _ _ => rfl)
    have D1 : RdD mI1 mL R C (up2 D 0 4 1) := by rw [hmI1]; exact hD.sl1 di
    have F1 : lnF R C mI mL mR mI1 mL mR := by rw [hmI1]; exact lnF.up _ (by unfold lnW; omega)
    refine hG.callV dX3_readSlip_22 mv_3_123 [] [] (c8_step l X (d - 1) sh mI1 mL mR n (R + 13) TP S1.1.2.2.2.2.2.2.2.2.2.2.1 t N S1.2.1 (lxE t N p) (lxE_le g4).2 S1.2.2.1.1 (by omega)) ⟨_, rfl, rfl⟩ k0 (by omega) rfl (by decide) (by simp [Value.category]) rfl ?_
    rintro r M' ⟨rfl, mI2, mL2, mR2, rfl, k1, k2, k3, k4⟩
    have S2 := S1.nx k1 k3 k4
    have D2 := D1.nx di k1 k2
    have F2 := F1.trans (lnF.tk (C := C) (fun a k h => k1 a k (fun y => h (Or.inl y))) k2 k3)
    have z2 : mI2 R 10 = mI R 10 := (k1 _ _ (by omega)).trans (f1 _ _ (by omega))
    rw [← hp1] at S2
    refine hG.run [27] 60 ?_
    simp [wp, stepI, ln, jmp, cmpI, Value.category, rd, tyF, vrs, vrn, ex_rr, ex_rn, ex_nr, ex_nn, okA_s, okA_n, st1, st2, clr, isLg, CB, inx_0, inx_1, inx_2, inx_3, inx_4, inx_5, bI_0, bI_1, bI_ok, fin3, tyX3, entL, q0, dX3_readSlip_0, dX3_readSlip_1, fT_3_53, dX3_readSlip_4, dX3_readSlip_7, dX3_readSlip_8, dX3_readSlip_9, dX3_readSlip_12, dX3_readSlip_13, dX3_readSlip_14, dX3_readSlip_15, dX3_readSlip_18, dX3_readSlip_19, fT_3_21, dX3_readSlip_22, dX3_readSlip_25, dX3_readSlip_26, dX3_readSlip_27, dX3_readSlip_30, dX3_readSlip_33, dX3_readSlip_34, dX3_readSlip_35, dX3_readSlip_36, fT_3_12, dX3_readSlip_39, fT_3_39, dX3_readSlip_42, dX3_readSlip_43, fT_3_153, dX3_readSlip_46, fT_3_184, dX3_readSlip_49, dX3_readSlip_50, dX3_readSlip_52, dX3_readSlip_55]
    simp only [li]
    refine hG.callV dX3_readSlip_27 mv_3_147 [.int (nI 3)] [] (c3_takeNumber l X (d - 1) sh mI2 mL2 mR2 n R C TP t N p1 S2 3 (by omega) (by omega)) ⟨_, rfl, rfl⟩ q0 (by omega) rfl (by decide) (by simp [Value.category]) rfl ?_
    intro r M' hT
    cases hf : nuF t N p1 3 with
    | some e =>
      have q := hP _ _ (LiP.bad F2 hT hf (by unfold rdSlipB; rw [if_pos h4, hf]; rfl))
      obtain ⟨mI3, mL3, mR3, rfl, b1, b2, b3, b4, b5⟩ := hT
      obtain ⟨rfl, -⟩ := b5 e hf
      refine hG.run [] 60 ?_
      simp [wp, stepI, ln, jmp, cmpI, Value.category, rd, tyF, vrs, vrn, ex_rr, ex_rn, ex_nr, ex_nn, okA_s, okA_n, st1, st2, clr, isLg, CB, inx_0, inx_1, inx_2, inx_3, inx_4, inx_5, bI_0, bI_1, bI_ok, fin3, tyX3, entL, q0, nI00, nI10, dX3_readSlip_0, dX3_readSlip_1, fT_3_53, dX3_readSlip_4, dX3_readSlip_7, dX3_readSlip_8, dX3_readSlip_9, dX3_readSlip_12, dX3_readSlip_13, dX3_readSlip_14, dX3_readSlip_15, dX3_readSlip_18, dX3_readSlip_19, fT_3_21, dX3_readSlip_22, dX3_readSlip_25, dX3_readSlip_26, dX3_readSlip_27, dX3_readSlip_30, dX3_readSlip_33, dX3_readSlip_34, dX3_readSlip_35, dX3_readSlip_36, fT_3_12, dX3_readSlip_39, fT_3_39, dX3_readSlip_42, dX3_readSlip_43, fT_3_153, dX3_readSlip_46, fT_3_184, dX3_readSlip_49, dX3_readSlip_50, dX3_readSlip_52, dX3_readSlip_55]
      exact q
    | none =>
      obtain ⟨mI3, mL3, mR3, rfl, b1, b2, b3, b4, b5⟩ := hT
      obtain ⟨rfl, S3, z3, nu⟩ := b4 hf
      have D3 := D2.fr di b1 b2
      have F3 := F2.trans (lnF.tk (C := C) b1 b2 b3)
      have m0 := S3.1.2.2.1
      have m1 := S3.1.2.2.2.2.2.2.2.2.1
      have xC : C < 1000000000 := Nat.lt_trans S3.1.2.2.2.2.2.2.2.2.2.1.2.1 (by omega)
      rw [← hp2] at S3
      refine hG.run [52] 60 ?_
      simp [wp, stepI, ln, jmp, cmpI, Value.category, rd, tyF, vrs, vrn, ex_rr, ex_rn, ex_nr, ex_nn, okA_s, okA_n, st1, st2, clr, isLg, CB, inx_0, inx_1, inx_2, inx_3, inx_4, inx_5, bI_0, bI_1, bI_ok, fin3, tyX3, entL, q0, m0, m1, s6, c4, tyX6, tyX4, okv, wr, finF, clT, TX4, xC, nI00, nI10, dX3_readSlip_0, dX3_readSlip_1, fT_3_53, dX3_readSlip_4, dX3_readSlip_7, dX3_readSlip_8, dX3_readSlip_9, dX3_readSlip_12, dX3_readSlip_13, dX3_readSlip_14, dX3_readSlip_15, dX3_readSlip_18, dX3_readSlip_19, fT_3_21, dX3_readSlip_22, dX3_readSlip_25, dX3_readSlip_26, dX3_readSlip_27, dX3_readSlip_30, dX3_readSlip_33, dX3_readSlip_34, dX3_readSlip_35, dX3_readSlip_36, fT_3_12, dX3_readSlip_39, fT_3_39, dX3_readSlip_42, dX3_readSlip_43, fT_3_153, dX3_readSlip_46, fT_3_184, dX3_readSlip_49, dX3_readSlip_50, dX3_readSlip_52, dX3_readSlip_55]
      simp only [li]
      rw [nu]
      obtain ⟨mI4, hmI4⟩ : ∃ m, m = up2 mI3 C 6 (nI (lxNm t N p1)) := ⟨_, rfl⟩
      rw [← hmI4]
      have f4 : ∀ a k, a ≠ C → mI4 a k = mI3 a k := fun a k h => by rw [hmI4, up2_ne (fun y => h y.1)]
      have S4 : RsM sh mI4 mL3 mR3 R C TP t N p2 := S3.fr (fun k => f4 _ _ (by omega)) (fun k => f4 _ _ (by omega)) rfl (fun _ _ => rfl)
      have D4 : RdD mI4 mL3 R C (up2 (up2 D 0 4 1) 0 3 (lxNm t N p1)) := by rw [hmI4]; exact D3.sl2 di _
      have F4 : lnF R C mI mL mR mI4 mL3 mR3 := F3.trans (by rw [hmI4]; exact lnF.up _ (by unfold lnW; omega))
      refine hG.callV dX3_readSlip_52 mv_3_156 [.int (nI 59)] [] (c3_takeSign l X (d - 1) sh mI4 mL3 mR3 n R C TP t N p2 S4 59 (by omega) (by omega) (by omega)) ⟨_, rfl, rfl⟩ q0 (by omega) rfl (by decide) (by simp [Value.category]) rfl ?_
      intro r M' hT
      have q := hP _ _ (LiP.sgn F4 hT (by unfold rdSlipB; rw [if_pos h4, hf]; rfl) D4 di (by rw [f4 _ _ (by omega), z3, z2]))
      obtain ⟨mI5, mL5, mR5, rfl, c1, c2, c3, c4, c5⟩ := hT
      cases hg : sgF t N p2 59 with
      | some e =>
        obtain ⟨rfl, -⟩ := c5 e hg
        refine hG.run [] 60 ?_
        simp [wp, stepI, ln, jmp, cmpI, Value.category, rd, tyF, vrs, vrn, ex_rr, ex_rn, ex_nr, ex_nn, okA_s, okA_n, st1, st2, clr, isLg, CB, inx_0, inx_1, inx_2, inx_3, inx_4, inx_5, bI_0, bI_1, bI_ok, fin3, tyX3, entL, q0, dX3_readSlip_0, dX3_readSlip_1, fT_3_53, dX3_readSlip_4, dX3_readSlip_7, dX3_readSlip_8, dX3_readSlip_9, dX3_readSlip_12, dX3_readSlip_13, dX3_readSlip_14, dX3_readSlip_15, dX3_readSlip_18, dX3_readSlip_19, fT_3_21, dX3_readSlip_22, dX3_readSlip_25, dX3_readSlip_26, dX3_readSlip_27, dX3_readSlip_30, dX3_readSlip_33, dX3_readSlip_34, dX3_readSlip_35, dX3_readSlip_36, fT_3_12, dX3_readSlip_39, fT_3_39, dX3_readSlip_42, dX3_readSlip_43, fT_3_153, dX3_readSlip_46, fT_3_184, dX3_readSlip_49, dX3_readSlip_50, dX3_readSlip_52, dX3_readSlip_55]
        exact ⟨Or.inl rfl, q⟩
      | none =>
        obtain ⟨rfl, -⟩ := c4 hg
        refine hG.run [] 60 ?_
        simp [wp, stepI, ln, jmp, cmpI, Value.category, rd, tyF, vrs, vrn, ex_rr, ex_rn, ex_nr, ex_nn, okA_s, okA_n, st1, st2, clr, isLg, CB, inx_0, inx_1, inx_2, inx_3, inx_4, inx_5, bI_0, bI_1, bI_ok, fin3, tyX3, entL, q0, dX3_readSlip_0, dX3_readSlip_1, fT_3_53, dX3_readSlip_4, dX3_readSlip_7, dX3_readSlip_8, dX3_readSlip_9, dX3_readSlip_12, dX3_readSlip_13, dX3_readSlip_14, dX3_readSlip_15, dX3_readSlip_18, dX3_readSlip_19, fT_3_21, dX3_readSlip_22, dX3_readSlip_25, dX3_readSlip_26, dX3_readSlip_27, dX3_readSlip_30, dX3_readSlip_33, dX3_readSlip_34, dX3_readSlip_35, dX3_readSlip_36, fT_3_12, dX3_readSlip_39, fT_3_39, dX3_readSlip_42, dX3_readSlip_43, fT_3_153, dX3_readSlip_46, fT_3_184, dX3_readSlip_49, dX3_readSlip_50, dX3_readSlip_52, dX3_readSlip_55]
        exact ⟨Or.inr rfl, q⟩
  · have h41 : D 0 4 = 1 := by omega
    rw [h41] at st
    refine hG.run [9] 60 ?_
    simp [wp, stepI, ln, jmp, cmpI, Value.category, rd, tyF, vrs, vrn, ex_rr, ex_rn, ex_nr, ex_nn, okA_s, okA_n, st1, st2, clr, isLg, CB, inx_0, inx_1, inx_2, inx_3, inx_4, inx_5, bI_0, bI_1, bI_ok, fin3, tyX3, entL, q0, r1, k0, tyX8, st, dX3_readSlip_0, dX3_readSlip_1, fT_3_53, dX3_readSlip_4, dX3_readSlip_7, dX3_readSlip_8, dX3_readSlip_9, dX3_readSlip_12, dX3_readSlip_13, dX3_readSlip_14, dX3_readSlip_15, dX3_readSlip_18, dX3_readSlip_19, fT_3_21, dX3_readSlip_22, dX3_readSlip_25, dX3_readSlip_26, dX3_readSlip_27, dX3_readSlip_30, dX3_readSlip_33, dX3_readSlip_34, dX3_readSlip_35, dX3_readSlip_36, fT_3_12, dX3_readSlip_39, fT_3_39, dX3_readSlip_42, dX3_readSlip_43, fT_3_153, dX3_readSlip_46, fT_3_184, dX3_readSlip_49, dX3_readSlip_50, dX3_readSlip_52, dX3_readSlip_55]
    simp only [li]
    refine ⟨fun z => absurd z (by decide), fun _ => ?_⟩
    refine hG.callV dX3_readSlip_9 mv_3_116 [.int (nI 3)] [] (c3_wrong l X (d - 1) sh mI mL mR n R C TP t N p hS0 3) ⟨_, rfl, rfl⟩ q0 (by omega) rfl (by decide) (by simp [Value.category]) rfl ?_
    rintro r M' ⟨rfl, rfl⟩
    refine hG.run [] 60 ?_
    simp [wp, stepI, ln, jmp, cmpI, Value.category, rd, tyF, vrs, vrn, ex_rr, ex_rn, ex_nr, ex_nn, okA_s, okA_n, st1, st2, clr, isLg, CB, inx_0, inx_1, inx_2, inx_3, inx_4, inx_5, bI_0, bI_1, bI_ok, fin3, tyX3, entL, q0, dX3_readSlip_0, dX3_readSlip_1, fT_3_53, dX3_readSlip_4, dX3_readSlip_7, dX3_readSlip_8, dX3_readSlip_9, dX3_readSlip_12, dX3_readSlip_13, dX3_readSlip_14, dX3_readSlip_15, dX3_readSlip_18, dX3_readSlip_19, fT_3_21, dX3_readSlip_22, dX3_readSlip_25, dX3_readSlip_26, dX3_readSlip_27, dX3_readSlip_30, dX3_readSlip_33, dX3_readSlip_34, dX3_readSlip_35, dX3_readSlip_36, fT_3_12, dX3_readSlip_39, fT_3_39, dX3_readSlip_42, dX3_readSlip_43, fT_3_153, dX3_readSlip_46, fT_3_184, dX3_readSlip_49, dX3_readSlip_50, dX3_readSlip_52, dX3_readSlip_55]
    exact ⟨Or.inl rfl, hP _ _ (LiP.wr lnF.refl (by unfold rdSlipB; rw [if_neg h4]))⟩
