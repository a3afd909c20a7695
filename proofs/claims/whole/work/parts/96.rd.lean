/-! references compared -/
theorem vrs (a : Nat) : va_rf (some a) = .ref a := rfl
theorem vrn : va_rf none = .null := rfl
theorem vr_inj {x y : Option Nat} (h : va_rf x = va_rf y) : x = y := by
  cases x <;> cases y <;> first
    | rfl
    | (cases h; done)
    | (injection h with h; rw [h])
theorem ex_rr {a b : Nat} {P : Option Nat → Option Nat → Prop} : (∃ x y, Value.ref b = va_rf y ∧ Value.ref a = va_rf x ∧ P x y) ↔ P (some a) (some b) := ⟨fun ⟨x, y, h1, h2, h3⟩ => by
  have e1 := vr_inj (x := some b) h1
  have e2 := vr_inj (x := some a) h2
  rw [← e1, ← e2] at h3; exact h3, fun h => ⟨_, _, rfl, rfl, h⟩⟩
theorem ex_rn {b : Nat} {P : Option Nat → Option Nat → Prop} : (∃ x y, Value.ref b = va_rf y ∧ Value.null = va_rf x ∧ P x y) ↔ P none (some b) := ⟨fun ⟨x, y, h1, h2, h3⟩ => by
  have e1 := vr_inj (x := some b) h1
  have e2 := vr_inj (x := none) h2
  rw [← e1, ← e2] at h3; exact h3, fun h => ⟨none, some b, rfl, rfl, h⟩⟩
theorem ex_nr {a : Nat} {P : Option Nat → Option Nat → Prop} : (∃ x y, Value.null = va_rf y ∧ Value.ref a = va_rf x ∧ P x y) ↔ P (some a) none := ⟨fun ⟨x, y, h1, h2, h3⟩ => by
  have e1 := vr_inj (x := none) h1
  have e2 := vr_inj (x := some a) h2
  rw [← e1, ← e2] at h3; exact h3, fun h => ⟨some a, none, rfl, rfl, h⟩⟩
theorem ex_nn {P : Option Nat → Option Nat → Prop} : (∃ x y, Value.null = va_rf y ∧ Value.null = va_rf x ∧ P x y) ↔ P none none := ⟨fun ⟨x, y, h1, h2, h3⟩ => by
  have e1 := vr_inj (x := none) h1
  have e2 := vr_inj (x := none) h2
  rw [← e1, ← e2] at h3; exact h3, fun h => ⟨none, none, rfl, rfl, h⟩⟩
theorem okA_s (a : Nat) : okA (some a) ↔ a < CB + 22 := ⟨fun h => h a rfl, fun h b hb => by cases hb; exact h⟩
theorem okA_n : okA none ↔ True := ⟨fun _ => trivial, fun _ b hb => by cases hb⟩
/-! the Reader at R: its school at C, the signs at TP -/
def RdL (sh : Nat → Option Sh) (mR : Nat → Nat → Option Nat) (R C TP : Nat) : Prop := sh R = some (.inl 3) ∧ R < 1000000 ∧ mR R 0 = some (R + 1) ∧ mR R 1 = some (R + 13) ∧ (mR R 2 = some (R + 15) ∧ sh (R + 15) = some (.inr (.long, 10))) ∧ (mR R 3 = some (R + 16) ∧ sh (R + 16) = some (.inr (.int, 10))) ∧ (mR R 4 = some (R + 17) ∧ sh (R + 17) = some (.inr (.int, 1000))) ∧ OL sh mR (R + 1) 6 ob6 ∧ mR (R + 1) 0 = some C ∧ OL sh mR C 4 ob4 ∧ TkL sh mR (R + 13) TP ∧ (R + 17 < C ∨ C + 5 < R) ∧ (TP < R ∨ R + 17 < TP) ∧ (TP < C ∨ C + 5 < TP)
theorem RdL.mR {sh : Nat → Option Sh} {mR mR' : Nat → Nat → Option Nat} {R C TP : Nat} (h : RdL sh mR R C TP) (he : ∀ a k, ¬ (a = R + 13 ∧ k = 7) → ¬ (a = C ∧ k = 7) → mR' a k = mR a k) : RdL sh mR' R C TP := by
  obtain ⟨h1, h2, h3, h4, h5, h6, h7, h8, h9, h10, h11, h12, h13, h14⟩ := h
  refine ⟨h1, h2, (he _ _ (by omega) (by omega)).trans h3, (he _ _ (by omega) (by omega)).trans h4, ⟨(he _ _ (by omega) (by omega)).trans h5.1, h5.2⟩, ⟨(he _ _ (by omega) (by omega)).trans h6.1, h6.2⟩, ⟨(he _ _ (by omega) (by omega)).trans h7.1, h7.2⟩, h8.mR (fun x hx => he _ _ (by omega) (by omega)), (he _ _ (by omega) (by omega)).trans h9, h10.mR (fun x hx => he _ _ (by omega) (fun z => ?_)), ⟨h11.1, h11.2.1, (he _ _ (by omega) (by omega)).trans h11.2.2.1, h11.2.2.2⟩, h12, h13, h14⟩
  have : ∀ x ∈ ob4, x.1 ≠ 7 := by decide
  exact this x hx z.2
/-- the draft as the class has it -/
def RdD (mI : Nat → Nat → Int32) (mL : Nat → Nat → Int64) (R C : Nat) (D : DD) : Prop := (mI C 4 = nI (D 0 0) ∧ mI C 5 = nI (D 0 1) ∧ mI (R + 1) 4 = nI (D 0 2) ∧ mI C 6 = nI (D 0 3) ∧ mI R 6 = nI (D 0 4) ∧ mI R 7 = nI (D 0 5)) ∧ (∀ p, p < D 0 0 → mL (R + 15) p = lN (cv8 (D 1 p)) ∧ vw8 (D 1 p) ∧ mI (C + 1) p = nI (D 2 p) ∧ mI (C + 2) p = nI (D 3 p)) ∧ (∀ k, k < D 0 1 → mI (C + 3) k = nI (D 4 k)) ∧ (∀ k, k < D 0 2 → mI (R + 1 + 7) k = nI (D 5 k) ∧ mI (R + 1 + 8) k = nI (D 6 k) ∧ mI (R + 1 + 9) k = nI (D 7 k)) ∧ (∀ i, i < 100 → mI (C + 4) i = nI (D 8 i)) ∧ ∀ a, a < 10 → ∃ lt : Nat, mI (R + 16) a = nI lt ∧ lt < 1024 ∧ ∀ b, b < 10 → (lt.testBit b = true ↔ D 9 (10 * a + b) = 1)
/-- in the midst of a line -/
def RsM (sh : Nat → Option Sh) (mI : Nat → Nat → Int32) (mL : Nat → Nat → Int64) (mR : Nat → Nat → Option Nat) (R C TP : Nat) (t : Nat → Nat) (N p : Nat) : Prop := RdL sh mR R C TP ∧ TkT mI (R + 13) TP t N ∧ TsM mI mL mR (R + 13) t N p ∧ p ≤ N
/-- the next token -/
theorem RsM.nx {sh : Nat → Option Sh} {mI mI' : Nat → Nat → Int32} {mL mL' : Nat → Nat → Int64} {mR mR' : Nat → Nat → Option Nat} {R C TP : Nat} {t : Nat → Nat} {N p : Nat} (h : RsM sh mI mL mR R C TP t N p) (h1 : ∀ a k, ¬ (a = R + 13 ∧ (k = 2 ∨ k = 3 ∨ k = 4 ∨ k = 5)) → mI' a k = mI a k) (h3 : ∀ a k, ¬ (a = R + 13 ∧ k = 7) → mR' a k = mR a k) (h4 : TsM mI' mL' mR' (R + 13) t N (lxE t N p)) : RsM sh mI' mL' mR' R C TP t N (lxE t N p) := by
  obtain ⟨g1, g2, g3, g4⟩ := h
  refine ⟨g1.mR (fun a k c1 _ => h3 a k c1), ⟨(h1 _ _ (by omega)).trans g2.1, g2.2.1, fun k hk => ⟨(h1 _ _ (fun y => ?_)).trans (g2.2.2 k hk).1, (g2.2.2 k hk).2⟩⟩, h4, (lxE_le g4).2⟩
  have := g1.2.2.2.2.2.2.2.2.2.2.1.2.2.2.2.2
  exact this y.1
theorem RdD.nx {mI mI' : Nat → Nat → Int32} {mL mL' : Nat → Nat → Int64} {R C : Nat} {D : DD} (h : RdD mI mL R C D) (hd : R + 17 < C ∨ C + 5 < R) (h1 : ∀ a k, ¬ (a = R + 13 ∧ (k = 2 ∨ k = 3 ∨ k = 4 ∨ k = 5)) → mI' a k = mI a k) (h2 : ∀ a k, ¬ (a = R + 13 ∧ k = 6) → mL' a k = mL a k) : RdD mI' mL' R C D := by
  obtain ⟨⟨a1, a2, a3, a4, a5, a6⟩, b, c, d, e, f⟩ := h
  refine ⟨⟨(h1 _ _ (by omega)).trans a1, (h1 _ _ (by omega)).trans a2, (h1 _ _ (by omega)).trans a3, (h1 _ _ (by omega)).trans a4, (h1 _ _ (by omega)).trans a5, (h1 _ _ (by omega)).trans a6⟩, fun p hp => ⟨(h2 _ _ (by omega)).trans (b p hp).1, (b p hp).2.1, (h1 _ _ (by omega)).trans (b p hp).2.2.1, (h1 _ _ (by omega)).trans (b p hp).2.2.2⟩, fun k hk => (h1 _ _ (by omega)).trans (c k hk), fun k hk => ⟨(h1 _ _ (by omega)).trans (d k hk).1, (h1 _ _ (by omega)).trans (d k hk).2.1, (h1 _ _ (by omega)).trans (d k hk).2.2⟩, fun i hi => (h1 _ _ (by omega)).trans (e i hi), fun a ha => ?_⟩
  obtain ⟨lt, f1, f2⟩ := f a ha
  exact ⟨lt, (h1 _ _ (by omega)).trans f1, f2⟩
set_option maxHeartbeats 4000000 in
set_option maxRecDepth 100000 in
theorem c3_wrong (l : Launch) (X : Cx) (d : Nat) (sh : Nat → Option Sh) (mI : Nat → Nat → Int32) (mL : Nat → Nat → Int64) (mR : Nat → Nat → Option Nat) (n : Nat) (R C TP : Nat) (t : Nat → Nat) (N p : Nat) (hS : RsM sh mI mL mR R C TP t N p) (k : Nat) : Cn l X yX3_wrong cX3_wrong 2 (some .boolean) d [.ref R, .int (nI k)] (sh, mI, mL, mR, n) (fun r M' => r = some (.int (nI 0)) ∧ M' = (sh, up2 mI R 10 (nI (k + 16 * lxBg t N p)), mL, mR, n)) 0 0 := by
  refine Cn.run 3 false (by decide) rfl (by decide) (by simp [entA, Value.category]) ?_
  intro P G hP hG
  obtain ⟨g1, g2, g3, g4⟩ := hS
  have q0 := g1.1
  have xR : R < 1000000000 := by have := g1.2.1; omega
  have r1 := g1.2.2.2.1
  have k0 := g1.2.2.2.2.2.2.2.2.2.2.1.1
  have pl := g3.2.1
  refine hG.run [] 40 ?_
  simp [wp, stepI, ln, jmp, cmpI, Value.category, rd, tyF, vrs, vrn, ex_rr, ex_rn, ex_nr, ex_nn, okA_s, okA_n, st1, st2, clr, isLg, CB, inx_0, inx_1, inx_2, inx_3, inx_4, inx_5, bI_0, bI_1, bI_ok, fin3, tyX3, entL, q0, r1, k0, tyX8, okv, wr, finF, clT, TX3, xR, dX3_wrong_0, dX3_wrong_1, dX3_wrong_2, dX3_wrong_4, dX3_wrong_5, fT_3_21, dX3_wrong_8, fT_3_227, dX3_wrong_11, dX3_wrong_12, dX3_wrong_13, fT_3_60, dX3_wrong_16, dX3_wrong_17]
  rw [pl]
  simp only [li, nI_mul, nI_add]
  exact hP _ _ ⟨rfl, rfl⟩
set_option maxHeartbeats 4000000 in
set_option maxRecDepth 100000 in
theorem c3_pupilNamed (l : Launch) (X : Cx) (d : Nat) (sh : Nat → Option Sh) (mI : Nat → Nat → Int32) (mL : Nat → Nat → Int64) (mR : Nat → Nat → Option Nat) (n : Nat) (R C TP : Nat) (hL : RdL sh mR R C TP) (D : DD) (hD : RdD mI mL R C D) (hV : DrV D) (v : Nat) (hv : vw8 v) : Cn l X yX3_pupilNamed cX3_pupilNamed 4 (some .int) d [.ref R, .long (lN (cv8 v))] (sh, mI, mL, mR, n) (fun r M' => M' = (sh, mI, mL, mR, n) ∧ r = some (.int (pnI (D 0 0) (D 1) v))) 0 0 := by
  refine Cn.run 3 false (by decide) rfl (by decide) (by simp [entA, Value.category]) ?_
  intro P G hP hG
  have q0 := hL.1
  have r0 := hL.2.2.1
  have rn := hL.2.2.2.2.1
  have s6 := hL.2.2.2.2.2.2.2.1.1
  have rc := hL.2.2.2.2.2.2.2.2.1
  have c4 := hL.2.2.2.2.2.2.2.2.2.1.1
  have n10 : D 0 0 ≤ 10 := hV.1.1
  have pc := hD.1.1
  have nl := fa_first_le (fun k => decide (D 1 k = v)) (D 0 0)
  have loop : ∀ f i, D 0 0 - i < f → i ≤ pnm (D 0 0) (D 1) v → G 2 [some (.ref R), some (.long (lN (cv8 v))), none, some (.int (nI i))] [] (sh, mI, mL, mR, n) := by
    intro f
    induction f with
    | zero => intro i h h2; unfold pnm at h2; omega
    | succ f ih =>
      intro i hf hi
      have hi10 : i ≤ D 0 0 := by unfold pnm at hi; omega
      by_cases hin : i < D 0 0
      · obtain ⟨a1, a2, -, -⟩ := hD.2.1 i hin
        have eq1 : lN (cv8 (D 1 i)) = lN (cv8 v) ↔ D 1 i = v := by
          have b1 := a2.2
          have b2 := hv.2
          rw [fb_lN_inj (by omega) (by omega)]
          exact ⟨fun z => vw_inj a2 hv z, fun z => by rw [z]⟩
        refine hG.run [2] 60 ?_
        simp [wp, stepI, ln, jmp, cmpI, Value.category, rd, tyF, vrs, vrn, ex_rr, ex_rn, ex_nr, ex_nn, okA_s, okA_n, st1, st2, clr, isLg, CB, inx_0, inx_1, inx_2, inx_3, inx_4, inx_5, bI_0, bI_1, bI_ok, fin3, tyX3, entL, q0, r0, rn, s6, rc, c4, tyX6, tyX4, lg_cmp0, dX3_pupilNamed_0, dX3_pupilNamed_1, dX3_pupilNamed_2, dX3_pupilNamed_3, dX3_pupilNamed_4, fT_3_12, dX3_pupilNamed_7, fT_3_39, dX3_pupilNamed_10, fT_3_120, dX3_pupilNamed_13, dX3_pupilNamed_16, dX3_pupilNamed_17, fT_3_25, dX3_pupilNamed_20, dX3_pupilNamed_21, dX3_pupilNamed_22, dX3_pupilNamed_23, dX3_pupilNamed_24, dX3_pupilNamed_27, dX3_pupilNamed_28, dX3_pupilNamed_29, dX3_pupilNamed_32, dX3_pupilNamed_35, dX3_pupilNamed_36]
        simp (disch := omega) only [li, nI_add, nI_clamp, nI_ltI, nI_leI, nI_eq, inx_iff, a31, nI_1shl', nI_shr', div_bit, tb1, tb0, fa_or, fa_and, nI_not, pk_sub, nI_dec, pc, a1, eq1]
        refine ⟨fun z => by omega, fun _ => ⟨by omega, fun z => ih (i + 1) (by omega) ?_, fun z => hP _ _ ⟨rfl, ?_⟩⟩⟩
        · rcases Nat.lt_or_ge i (pnm (D 0 0) (D 1) v) with y | y
          · omega
          · have e : pnm (D 0 0) (D 1) v = i := by omega
            have := fa_first_yes (fun k => decide (D 1 k = v)) (D 0 0) (by show pnm (D 0 0) (D 1) v < _; omega)
            have h2 : decide (D 1 (pnm (D 0 0) (D 1) v) = v) = true := this
            rw [e] at h2
            exact absurd (of_decide_eq_true h2) z
        · have e : pnm (D 0 0) (D 1) v = i := lx_first (by omega) (fun j hj => fa_first_no (fun k => decide (D 1 k = v)) (D 0 0) j (by unfold pnm at hi; omega)) (fun _ => decide_eq_true z)
          unfold pnI
          rw [e, if_pos hin]
      · have e : pnm (D 0 0) (D 1) v = D 0 0 := by unfold pnm at hi ⊢; omega
        refine hG.run [16] 60 ?_
        simp [wp, stepI, ln, jmp, cmpI, Value.category, rd, tyF, vrs, vrn, ex_rr, ex_rn, ex_nr, ex_nn, okA_s, okA_n, st1, st2, clr, isLg, CB, inx_0, inx_1, inx_2, inx_3, inx_4, inx_5, bI_0, bI_1, bI_ok, fin3, tyX3, entL, q0, r0, rn, s6, rc, c4, tyX6, tyX4, dX3_pupilNamed_0, dX3_pupilNamed_1, dX3_pupilNamed_2, dX3_pupilNamed_3, dX3_pupilNamed_4, fT_3_12, dX3_pupilNamed_7, fT_3_39, dX3_pupilNamed_10, fT_3_120, dX3_pupilNamed_13, dX3_pupilNamed_16, dX3_pupilNamed_17, fT_3_25, dX3_pupilNamed_20, dX3_pupilNamed_21, dX3_pupilNamed_22, dX3_pupilNamed_23, dX3_pupilNamed_24, dX3_pupilNamed_27, dX3_pupilNamed_28, dX3_pupilNamed_29, dX3_pupilNamed_32, dX3_pupilNamed_35, dX3_pupilNamed_36]
        simp (disch := omega) only [li, nI_add, nI_clamp, nI_ltI, nI_leI, nI_eq, inx_iff, a31, nI_1shl', nI_shr', div_bit, tb1, tb0, fa_or, fa_and, nI_not, pk_sub, nI_dec, pc]
        refine ⟨fun _ => hP _ _ ⟨rfl, ?_⟩, fun z => by omega⟩
        unfold pnI
        rw [e, if_neg (Nat.lt_irrefl _)]
  refine hG.run [2] 60 ?_
  simp [wp, stepI, ln, jmp, cmpI, Value.category, rd, tyF, vrs, vrn, ex_rr, ex_rn, ex_nr, ex_nn, okA_s, okA_n, st1, st2, clr, isLg, CB, inx_0, inx_1, inx_2, inx_3, inx_4, inx_5, bI_0, bI_1, bI_ok, fin3, tyX3, entL, q0, dX3_pupilNamed_0, dX3_pupilNamed_1, dX3_pupilNamed_2, dX3_pupilNamed_3, dX3_pupilNamed_4, fT_3_12, dX3_pupilNamed_7, fT_3_39, dX3_pupilNamed_10, fT_3_120, dX3_pupilNamed_13, dX3_pupilNamed_16, dX3_pupilNamed_17, fT_3_25, dX3_pupilNamed_20, dX3_pupilNamed_21, dX3_pupilNamed_22, dX3_pupilNamed_23, dX3_pupilNamed_24, dX3_pupilNamed_27, dX3_pupilNamed_28, dX3_pupilNamed_29, dX3_pupilNamed_32, dX3_pupilNamed_35, dX3_pupilNamed_36]
  exact loop (D 0 0 + 1) 0 (by omega) (Nat.zero_le _)
