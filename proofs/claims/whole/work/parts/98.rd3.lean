/-! the lines -/
def lnW (R C a : Nat) : Prop := (R ≤ a ∧ a ≤ R + 17) ∨ (C ≤ a ∧ a ≤ C + 5)
def lnF (R C : Nat) (mI : Nat → Nat → Int32) (mL : Nat → Nat → Int64) (mR : Nat → Nat → Option Nat) (mI' : Nat → Nat → Int32) (mL' : Nat → Nat → Int64) (mR' : Nat → Nat → Option Nat) : Prop := (∀ a k, ¬ lnW R C a → mI' a k = mI a k) ∧ (∀ a k, ¬ (a = R + 13 ∧ k = 6) → a ≠ R + 15 → mL' a k = mL a k) ∧ ∀ a k, ¬ (a = R + 13 ∧ k = 7) → mR' a k = mR a k
theorem lnF.refl {R C : Nat} {mI : Nat → Nat → Int32} {mL : Nat → Nat → Int64} {mR : Nat → Nat → Option Nat} : lnF R C mI mL mR mI mL mR := ⟨fun _ _ _ => rfl, fun _ _ _ _ => rfl, fun _ _ _ => rfl⟩
theorem lnF.trans {R C : Nat} {mI mI1 mI2 : Nat → Nat → Int32} {mL mL1 mL2 : Nat → Nat → Int64} {mR mR1 mR2 : Nat → Nat → Option Nat} (h : lnF R C mI mL mR mI1 mL1 mR1) (g : lnF R C mI1 mL1 mR1 mI2 mL2 mR2) : lnF R C mI mL mR mI2 mL2 mR2 := ⟨fun a k z => (g.1 a k z).trans (h.1 a k z), fun a k z y => (g.2.1 a k z y).trans (h.2.1 a k z y), fun a k z => (g.2.2 a k z).trans (h.2.2 a k z)⟩
theorem lnF.up {R C : Nat} {mI : Nat → Nat → Int32} {mL : Nat → Nat → Int64} {mR : Nat → Nat → Option Nat} {a k : Nat} (v : Int32) (h : lnW R C a) : lnF R C mI mL mR (up2 mI a k v) mL mR := ⟨fun b j z => up2_ne (fun y => z (by rw [y.1]; exact h)), fun _ _ _ _ => rfl, fun _ _ _ => rfl⟩
theorem lnF.tk {R C : Nat} {mI mI' : Nat → Nat → Int32} {mL mL' : Nat → Nat → Int64} {mR mR' : Nat → Nat → Option Nat} (h1 : ∀ a k, ¬ rdW R a k → mI' a k = mI a k) (h2 : ∀ a k, ¬ (a = R + 13 ∧ k = 6) → mL' a k = mL a k) (h3 : ∀ a k, ¬ (a = R + 13 ∧ k = 7) → mR' a k = mR a k) : lnF R C mI mL mR mI' mL' mR' := ⟨fun a k z => h1 a k (fun y => z (by unfold rdW at y; unfold lnW; omega)), fun a k z _ => h2 a k z, h3⟩
/-- what a line leaves -/
def LnP (sh : Nat → Option Sh) (mI : Nat → Nat → Int32) (mL : Nat → Nat → Int64) (mR : Nat → Nat → Option Nat) (n R C TP : Nat) (t : Nat → Nat) (N : Nat) (q : PR) (r : Option Value) (M' : Mm) : Prop := ∃ mI' mL' mR', M' = (sh, mI', mL', mR', n) ∧ lnF R C mI mL mR mI' mL' mR' ∧ (∀ x, q = .inr x → r = some (.int (nI 1)) ∧ RsM sh mI' mL' mR' R C TP t N x.1 ∧ RdD mI' mL' R C x.2 ∧ mI' R 10 = mI R 10) ∧ ∀ e, q = .inl e → r = some (.int (nI 0)) ∧ mI' R 10 = nI (e.1 + 16 * e.2)
theorem LnP.bad {sh : Nat → Option Sh} {mI mI1 : Nat → Nat → Int32} {mL mL1 : Nat → Nat → Int64} {mR mR1 : Nat → Nat → Option Nat} {n R C TP : Nat} {t : Nat → Nat} {N p e : Nat} {q : PR} {f : Option Nat} {E : (Nat → Nat → Int32) → Prop} {r : Option Value} {M' : Mm} (hF : lnF R C mI mL mR mI1 mL1 mR1) (hT : TkP sh mI1 mL1 mR1 n R C TP t N p f E r M') (hf : f = some e) (hq : q = .inl (e, lxBg t N p)) : LnP sh mI mL mR n R C TP t N q r M' := by
  obtain ⟨mI2, mL2, mR2, rfl, h1, h2, h3, h4, h5⟩ := hT
  refine ⟨mI2, mL2, mR2, rfl, hF.trans (lnF.tk h1 h2 h3), fun x hx => ?_, fun e' he => ?_⟩
  · rw [hq] at hx; cases hx
  · rw [hq] at he
    cases he
    exact h5 e hf
theorem LnP.wr {sh : Nat → Option Sh} {mI mI1 : Nat → Nat → Int32} {mL mL1 : Nat → Nat → Int64} {mR mR1 : Nat → Nat → Option Nat} {n R C TP : Nat} {t : Nat → Nat} {N p e : Nat} {q : PR} (hF : lnF R C mI mL mR mI1 mL1 mR1) (hq : q = .inl (e, lxBg t N p)) : LnP sh mI mL mR n R C TP t N q (some (.int (nI 0))) (sh, up2 mI1 R 10 (nI (e + 16 * lxBg t N p)), mL1, mR1, n) :=
  LnP.bad (f := some e) (E := fun _ => True) hF (TkP.bad e rfl (fun _ _ _ => rfl)) rfl hq
theorem LnP.sgn {sh : Nat → Option Sh} {mI mI1 : Nat → Nat → Int32} {mL mL1 : Nat → Nat → Int64} {mR mR1 : Nat → Nat → Option Nat} {n R C TP : Nat} {t : Nat → Nat} {N p : Nat} {q : PR} {D : DD} {E : (Nat → Nat → Int32) → Prop} {r : Option Value} {M' : Mm} (hF : lnF R C mI mL mR mI1 mL1 mR1) (hT : TkP sh mI1 mL1 mR1 n R C TP t N p (sgF t N p 59) E r M') (hq : q = bf t N p (sgF t N p 59) (.inr (lxE t N p, D))) (hD : RdD mI1 mL1 R C D) (hd : R + 17 < C ∨ C + 5 < R) (h0 : mI1 R 10 = mI R 10) : LnP sh mI mL mR n R C TP t N q r M' := by
  cases hf : sgF t N p 59 with
  | some e => exact LnP.bad hF hT hf (by rw [hq, hf]; rfl)
  | none =>
    obtain ⟨mI2, mL2, mR2, rfl, h1, h2, h3, h4, h5⟩ := hT
    rw [hf] at hq
    obtain ⟨k1, k2, k3, k4⟩ := h4 hf
    refine ⟨mI2, mL2, mR2, rfl, hF.trans (lnF.tk h1 h2 h3), fun x hx => ?_, fun e' he => ?_⟩
    · rw [hq] at hx
      have := Sum.inr.inj hx
      subst this
      exact ⟨k1, k2, hD.fr hd h1 h2, k3.trans h0⟩
    · rw [hq] at he; cases he
set_option maxHeartbeats 400000 in
theorem c3_readSlip (l : Launch) (X : Cx) (d : Nat) (sh : Nat → Option Sh) (mI : Nat → Nat → Int32) (mL : Nat → Nat → Int64) (mR : Nat → Nat → Option Nat) (n : Nat) (R C TP : Nat) (t : Nat → Nat) (N p : Nat) (hS : RsM sh mI mL mR R C TP t N p) (D : DD) (hD : RdD mI mL R C D) (hV : DrV D) (hd : 4 ≤ d) : Cn l X yX3_readSlip cX3_readSlip 1 (some .boolean) d [.ref R] (sh, mI, mL, mR, n) (LnP sh mI mL mR n R C TP t N (rdSlip t N p D)) 0 0 := by
  refine Cn.run 3 false (by decide) rfl (by decide) (by simp [entA, Value.category]) ?_
  intro P G hP hG
  unfold rdSlip at hP
  obtain ⟨p1, hp1⟩ : ∃ p1, p1 = lxE t N p := ⟨_, rfl⟩
  obtain ⟨p2, hp2⟩ : ∃ p2, p2 = lxE t N p1 := ⟨_, rfl⟩
  rw [← hp1, ← hp2] at hP
  have hS0 := hS
  obtain ⟨g1, g2, g3, g4⟩ := hS
  have q0 := g1.1
  have xR : R < 1000000000 := by have := g1.2.1; omega
  have r0 := g1.2.2.1
  have r1 := g1.2.2.2.1
  have k0 := g1.2.2.2.2.2.2.2.2.2.2.1.1
  have s6 := g1.2.2.2.2.2.2.2.1.1
  have rc := g1.2.2.2.2.2.2.2.2.1
  have c4 := g1.2.2.2.2.2.2.2.2.2.1.1
  have di := g1.2.2.2.2.2.2.2.2.2.2.2.1
  have dt := g1.2.2.2.2.2.2.2.2.2.2.2.2
  have st := hD.1.2.2.2.2.1
  have d4 : D 0 4 ≤ 1 := hV.1.2.2.2.2.1
  by_cases h4 : D 0 4 = 0
  · rw [h4] at st
    refine hG.run [15] 60 ?_
    simp [wp, stepI, ln, jmp, cmpI, Value.category, rd, tyF, vrs, vrn, ex_rr, ex_rn, ex_nr, ex_nn, okA_s, okA_n, st1, st2, clr, isLg, CB, inx_0, inx_1, inx_2, inx_3, inx_4, inx_5, bI_0, bI_1, bI_ok, fin3, tyX3, entL, q0, r1, k0, tyX8, st, dX3_readSlip_0, dX3_readSlip_1, fT_3_53, dX3_readSlip_4, dX3_readSlip_7, dX3_readSlip_8, dX3_readSlip_9, dX3_readSlip_12, dX3_readSlip_13, dX3_readSlip_14, dX3_readSlip_15, dX3_readSlip_18, dX3_readSlip_19, fT_3_21, dX3_readSlip_22, dX3_readSlip_25, dX3_readSlip_26, dX3_readSlip_27, dX3_readSlip_30, dX3_readSlip_33, dX3_readSlip_34, dX3_readSlip_35, dX3_readSlip_36, fT_3_12, dX3_readSlip_39, fT_3_39, dX3_readSlip_42, dX3_readSlip_43, fT_3_153, dX3_readSlip_46, fT_3_184, dX3_readSlip_49, dX3_readSlip_50, dX3_readSlip_52, dX3_readSlip_55]
    sorry
  · have h41 : D 0 4 = 1 := by omega
    rw [h41] at st
    refine hG.run [9] 60 ?_
    simp [wp, stepI, ln, jmp, cmpI, Value.category, rd, tyF, vrs, vrn, ex_rr, ex_rn, ex_nr, ex_nn, okA_s, okA_n, st1, st2, clr, isLg, CB, inx_0, inx_1, inx_2, inx_3, inx_4, inx_5, bI_0, bI_1, bI_ok, fin3, tyX3, entL, q0, r1, k0, tyX8, st, dX3_readSlip_0, dX3_readSlip_1, fT_3_53, dX3_readSlip_4, dX3_readSlip_7, dX3_readSlip_8, dX3_readSlip_9, dX3_readSlip_12, dX3_readSlip_13, dX3_readSlip_14, dX3_readSlip_15, dX3_readSlip_18, dX3_readSlip_19, fT_3_21, dX3_readSlip_22, dX3_readSlip_25, dX3_readSlip_26, dX3_readSlip_27, dX3_readSlip_30, dX3_readSlip_33, dX3_readSlip_34, dX3_readSlip_35, dX3_readSlip_36, fT_3_12, dX3_readSlip_39, fT_3_39, dX3_readSlip_42, dX3_readSlip_43, fT_3_153, dX3_readSlip_46, fT_3_184, dX3_readSlip_49, dX3_readSlip_50, dX3_readSlip_52, dX3_readSlip_55]
    trace_state
    sorry
