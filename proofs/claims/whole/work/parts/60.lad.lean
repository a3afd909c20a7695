/-! the Ladder at cell Q -/
theorem ahA_0 (fi se : Nat → Nat) (p : Nat) : ahA fi se 0 p = 0 := rfl
theorem ahA_s (fi se : Nat → Nat) (c p : Nat) : ahA fi se (c + 1) p = if se c = p then ahA fi se c p ||| 2 ^ fi c else ahA fi se c p := by
  unfold ahA
  rw [ahd]
  by_cases h : se c = p <;> simp [h]
def LaM (mI : Nat → Nat → Int32) (Q np : Nat) (sa : Nat → Nat) : Prop := mI Q 3 = nI np ∧ np ≤ 10 ∧ mI Q 4 = nI (2 ^ np - 1) ∧ ∀ p, p < 10 → mI (Q + 1) p = nI (sa p) ∧ sa p < 1024
set_option maxHeartbeats 4000000 in
set_option maxRecDepth 100000 in
theorem c2_forget (l : Launch) (X : Cx) (d : Nat) (sh : Nat → Option Sh) (mI : Nat → Nat → Int32) (mL : Nat → Nat → Int64) (mR : Nat → Nat → Option Nat) (n : Nat) (Q : Nat) (hO : OL sh mR Q 2 ob2) : Cn l X yX2_forget cX2_forget 1 none d [.ref Q] (sh, mI, mL, mR, n) (fun r M' => r = none ∧ M' = (sh, up2 mI Q 5 0, mL, mR, n)) 0 0 := by
  refine Cn.run 2 false (by decide) rfl (by decide) (by simp [entA, Value.category]) ?_
  intro P G hP hG
  have q0 := hO.1
  have hSl := hO.2.1
  have xQ : Q < 1000000000 := by omega
  refine hG.run [] 20 ?_
  simp [wp, stepI, ln, jmp, cmpI, Value.category, rd, tyF, va_rf, st1, st2, clr, isLg, CB, inx_0, inx_1, inx_2, inx_3, inx_4, inx_5, bI_0, bI_1, bI_ok, fin3, tyX2, entL, q0, okv, wr, finF, clT, TX2, xQ, dX2_forget_0, dX2_forget_1, dX2_forget_2, fT_2_21, dX2_forget_5]
  exact hP _ _ ⟨rfl, rfl⟩
set_option maxHeartbeats 4000000 in
set_option maxRecDepth 100000 in
theorem c2_hear (l : Launch) (X : Cx) (d : Nat) (sh : Nat → Option Sh) (mI : Nat → Nat → Int32) (mL : Nat → Nat → Int64) (mR : Nat → Nat → Option Nat) (n : Nat) (Q S C : Nat) (hO : OL sh mR Q 2 ob2) (hS6 : OL sh mR S 6 ob6) (hsc : mR S 0 = some C) (hC : OL sh mR C 4 ob4) (d1 : Q + 3 < S ∨ S + 11 < Q) (d2 : Q + 3 < C ∨ C + 5 < Q) (np : Nat) (hp : ScP mI C np) (c : Nat) (fi se ma : Nat → Nat) (hS : ShS mI S c fi se ma) (hd : 1 ≤ d) : Cn l X yX2_hear cX2_hear 3 none d [.ref Q, .ref S] (sh, mI, mL, mR, n) (fun r M' => r = none ∧ ∃ mI', M' = (sh, mI', mL, mR, n) ∧ (∀ a k, a ≠ Q + 1 → ¬ (a = Q ∧ (k = 3 ∨ k = 4)) → mI' a k = mI a k) ∧ LaM mI' Q np (ahA fi se c)) 0 0 := by
  refine Cn.run 2 false (by decide) rfl (by decide) (by simp [entA, Value.category]) ?_
  intro P G hP hG
  have q0 := hO.1
  have q_saidAbove := hO.2.2 (0, 1, .int, 10) (by decide)
  dsimp only at q_saidAbove
  have hSl := hO.2.1
  have xQ : Q < 1000000000 := by omega
  have xA : Q + 1 < 1000000000 := by omega
  have q_first := hS6.2.2 (1, 7, .int, 40) (by decide)
  have q_second := hS6.2.2 (2, 8, .int, 40) (by decide)
  dsimp only at q_first q_second
  have t0 := hS6.1
  have u0 := hC.1
  obtain ⟨p1, p2⟩ := hp
  obtain ⟨e0, hc, hk⟩ := hS
  refine hG.run [] 40 ?_
  simp [wp, stepI, ln, jmp, cmpI, Value.category, rd, tyF, va_rf, st1, st2, clr, isLg, CB, inx_0, inx_1, inx_2, inx_3, inx_4, inx_5, bI_0, bI_1, bI_ok, fin3, tyX2, entL, q0, okv, wr, finF, clT, TX2, xQ, hsc, t0, u0, tyX4, tyX6, dX2_hear_0, dX2_hear_1, dX2_hear_2, fT_2_43, dX2_hear_5, fT_2_49, dX2_hear_8, fT_2_54, dX2_hear_11, dX2_hear_12, dX2_hear_13, dX2_hear_16, dX2_hear_19, fT_2_29, dX2_hear_22, dX2_hear_23, fT_2_9, dX2_hear_26, dX2_hear_27, dX2_hear_30, dX2_hear_31, dX2_hear_32, dX2_hear_33, dX2_hear_34, fT_2_64, dX2_hear_37, dX2_hear_40, dX2_hear_41, dX2_hear_44, dX2_hear_45, fT_2_67, dX2_hear_48, dX2_hear_49, dX2_hear_50, dX2_hear_51, dX2_hear_52, dX2_hear_53, dX2_hear_54, fT_2_70, dX2_hear_57, dX2_hear_58, dX2_hear_59, dX2_hear_60, dX2_hear_61, dX2_hear_62, dX2_hear_65, dX2_hear_68]
  rw [p1]
  obtain ⟨m1, hm1⟩ : ∃ m, m = up2 mI Q 3 (nI np) := ⟨_, rfl⟩
  rw [← hm1]
  have pC : ScP m1 C np := ⟨by rw [hm1, up2_ne (fun z => by omega)]; exact p1, p2⟩
  refine hG.callV dX2_hear_16 mv_2_55 [] [.ref Q] (c4_everyone l X (d - 1) sh m1 mL mR n C hC np pC) ⟨_, rfl, rfl⟩ u0 (by omega) rfl (by decide) (by simp [Value.category]) rfl ?_
  rintro r M' ⟨rfl, rfl⟩
  refine hG.run [] 40 ?_
  simp [wp, stepI, ln, jmp, cmpI, Value.category, rd, tyF, va_rf, st1, st2, clr, isLg, CB, inx_0, inx_1, inx_2, inx_3, inx_4, inx_5, bI_0, bI_1, bI_ok, fin3, tyX2, entL, q0, q_saidAbove, okv, wr, finF, clT, TX2, xQ, dX2_hear_0, dX2_hear_1, dX2_hear_2, fT_2_43, dX2_hear_5, fT_2_49, dX2_hear_8, fT_2_54, dX2_hear_11, dX2_hear_12, dX2_hear_13, dX2_hear_16, dX2_hear_19, fT_2_29, dX2_hear_22, dX2_hear_23, fT_2_9, dX2_hear_26, dX2_hear_27, dX2_hear_30, dX2_hear_31, dX2_hear_32, dX2_hear_33, dX2_hear_34, fT_2_64, dX2_hear_37, dX2_hear_40, dX2_hear_41, dX2_hear_44, dX2_hear_45, fT_2_67, dX2_hear_48, dX2_hear_49, dX2_hear_50, dX2_hear_51, dX2_hear_52, dX2_hear_53, dX2_hear_54, fT_2_70, dX2_hear_57, dX2_hear_58, dX2_hear_59, dX2_hear_60, dX2_hear_61, dX2_hear_62, dX2_hear_65, dX2_hear_68]
  obtain ⟨m2, hm2⟩ : ∃ m, m = up2 m1 Q 4 (nI (2 ^ np - 1)) := ⟨_, rfl⟩
  rw [← hm2]
  refine hG.callS dX2_hear_27 ms_2_58 [.ref (Q + 1), .int 0] [] (cJ_fillI l X (d - 1) sh m2 mL mR n (Q + 1) 10 q_saidAbove.2 xA (by decide) 0) (by omega) rfl (by decide) (by simp [Value.category]) rfl ?_
  rintro r M' ⟨rfl, rfl⟩
  have fr : ∀ a k, a ≠ Q + 1 → ¬ (a = Q ∧ (k = 3 ∨ k = 4)) → m2 a k = mI a k := fun a k ha hb => by
    rw [hm2, up2_ne (fun z => hb ⟨z.1, Or.inr z.2⟩), hm1, up2_ne (fun z => hb ⟨z.1, Or.inl z.2⟩)]
  have g1 : m2 Q 3 = nI np := by rw [hm2, up2_ne (fun z => by cases z.2), hm1, up2_eq]
  have g2 : m2 Q 4 = nI (2 ^ np - 1) := by rw [hm2, up2_eq]
  have hfi : ∀ k, k < c → fi k < 10 := fun k h => (hk k h).2.2.2.1
  have loop : ∀ f i m3, c - i < f → i ≤ c → (∀ a k, a ≠ Q + 1 → m3 a k = m2 a k) → (∀ p, p < 10 → m3 (Q + 1) p = nI (ahA fi se i p)) → G 32 [some (.ref Q), some (.ref S), some (.int (nI i))] [] (sh, m3, mL, mR, n) := by
    intro f
    induction f with
    | zero => intro i m3 h; omega
    | succ f ih =>
      intro i m3 hf hi h1 h2
      have rdd : ∀ a k, a ≠ Q + 1 → a ≠ Q → m3 a k = mI a k := fun a k ha hb => (h1 a k ha).trans (fr a k ha (fun z => hb z.1))
      have e1 : m3 S 4 = nI c := (rdd _ _ (by omega) (by omega)).trans e0
      refine hG.run [32] 60 ?_
      simp [wp, stepI, ln, jmp, cmpI, Value.category, rd, tyF, va_rf, st1, st2, clr, isLg, CB, inx_0, inx_1, inx_2, inx_3, inx_4, inx_5, bI_0, bI_1, bI_ok, fin3, tyX2, entL, q0, q_saidAbove, t0, tyX6, q_first, q_second, xA, dX2_hear_0, dX2_hear_1, dX2_hear_2, fT_2_43, dX2_hear_5, fT_2_49, dX2_hear_8, fT_2_54, dX2_hear_11, dX2_hear_12, dX2_hear_13, dX2_hear_16, dX2_hear_19, fT_2_29, dX2_hear_22, dX2_hear_23, fT_2_9, dX2_hear_26, dX2_hear_27, dX2_hear_30, dX2_hear_31, dX2_hear_32, dX2_hear_33, dX2_hear_34, fT_2_64, dX2_hear_37, dX2_hear_40, dX2_hear_41, dX2_hear_44, dX2_hear_45, fT_2_67, dX2_hear_48, dX2_hear_49, dX2_hear_50, dX2_hear_51, dX2_hear_52, dX2_hear_53, dX2_hear_54, fT_2_70, dX2_hear_57, dX2_hear_58, dX2_hear_59, dX2_hear_60, dX2_hear_61, dX2_hear_62, dX2_hear_65, dX2_hear_68]
      simp (disch := omega) only [li, nI_add, nI_clamp, nI_ltI, nI_leI, nI_eq, inx_iff, a31, nI_1shl', nI_shr', div_bit, tb1, tb0, fa_or, fa_and, nI_not, pk_sub, nI_dec, e1]
      refine ⟨fun h => hP _ _ ⟨rfl, m3, rfl, fun a k ha hb => (h1 a k ha).trans (fr a k ha hb), ?_⟩, fun h => ?_⟩
      · rw [show i = c by omega] at h2
        exact ⟨(h1 _ _ (by omega)).trans g1, p2, (h1 _ _ (by omega)).trans g2, fun p hp => ⟨h2 p hp, ahd_lt hfi⟩⟩
      · obtain ⟨s1, s2, s3, b1, b2, b3⟩ := hk i h
        have s1' : m3 (S + 7) i = nI (fi i) := (rdd _ _ (by omega) (by omega)).trans s1
        have s2' : m3 (S + 8) i = nI (se i) := (rdd _ _ (by omega) (by omega)).trans s2
        have ep : 2 ^ fi i ≤ 512 := p2_le10 b1
        have h40 : i < 40 := by omega
        simp (disch := omega) only [li, nI_add, nI_clamp, nI_ltI, nI_leI, nI_eq, inx_iff, a31, nI_1shl', nI_shr', div_bit, tb1, tb0, fa_or, fa_and, nI_not, pk_sub, nI_dec, s1', s2', h2, h40, b2, true_and]
        refine ih (i + 1) _ (by omega) (by omega) (fun a k ha => by rw [up2_ne (fun z => ha z.1)]; exact h1 a k ha) (fun p hp => ?_)
        rw [ahA_s]
        by_cases e : p = se i
        · rw [e, up2_eq, if_pos rfl]
        · rw [up2_ne (fun z => e z.2), if_neg (fun z => e z.symm)]; exact h2 p hp
  refine hG.run [32] 60 ?_
  simp [wp, stepI, ln, jmp, cmpI, Value.category, rd, tyF, va_rf, st1, st2, clr, isLg, CB, inx_0, inx_1, inx_2, inx_3, inx_4, inx_5, bI_0, bI_1, bI_ok, fin3, tyX2, entL, q0, dX2_hear_0, dX2_hear_1, dX2_hear_2, fT_2_43, dX2_hear_5, fT_2_49, dX2_hear_8, fT_2_54, dX2_hear_11, dX2_hear_12, dX2_hear_13, dX2_hear_16, dX2_hear_19, fT_2_29, dX2_hear_22, dX2_hear_23, fT_2_9, dX2_hear_26, dX2_hear_27, dX2_hear_30, dX2_hear_31, dX2_hear_32, dX2_hear_33, dX2_hear_34, fT_2_64, dX2_hear_37, dX2_hear_40, dX2_hear_41, dX2_hear_44, dX2_hear_45, fT_2_67, dX2_hear_48, dX2_hear_49, dX2_hear_50, dX2_hear_51, dX2_hear_52, dX2_hear_53, dX2_hear_54, fT_2_70, dX2_hear_57, dX2_hear_58, dX2_hear_59, dX2_hear_60, dX2_hear_61, dX2_hear_62, dX2_hear_65, dX2_hear_68]
  exact loop (c + 1) 0 _ (by omega) (by omega) (fun a k ha => flM_ne ha) (fun p hp => flM_in hp)
set_option maxHeartbeats 4000000 in
set_option maxRecDepth 100000 in
theorem c2_isAbove (l : Launch) (X : Cx) (d : Nat) (sh : Nat → Option Sh) (mI : Nat → Nat → Int32) (mL : Nat → Nat → Int64) (mR : Nat → Nat → Option Nat) (n : Nat) (Q : Nat) (hO : OL sh mR Q 2 ob2) (fits : Bool) (hf : mI Q 6 = nI fits.toNat) (A : Nat → Nat) (np : Nat) (hnp : np ≤ 10) (hA : fits = true → ∀ p, p < np → mI (Q + 2) p = nI (A p) ∧ A p < 1024) (a b : Nat) (ha : a < np) (hb : b < np) : Cn l X yX2_isAbove cX2_isAbove 3 (some .boolean) d [.ref Q, .int (nI a), .int (nI b)] (sh, mI, mL, mR, n) (fun r M' => M' = (sh, mI, mL, mR, n) ∧ r = some (.int (bI (fits && (A b).testBit a)))) 0 0 := by
  refine Cn.run 2 false (by decide) rfl (by decide) (by simp [entA, Value.category]) ?_
  intro P G hP hG
  have q0 := hO.1
  have q_above := hO.2.2 (1, 2, .int, 10) (by decide)
  dsimp only at q_above
  cases fits with
  | false =>
    have hf' : mI Q 6 = nI 0 := hf
    refine hG.run [] 30 ?_
    simp [wp, stepI, ln, jmp, cmpI, Value.category, rd, tyF, va_rf, st1, st2, clr, isLg, CB, inx_0, inx_1, inx_2, inx_3, inx_4, inx_5, bI_0, bI_1, bI_ok, fin3, tyX2, entL, q0, q_above, hf', dX2_isAbove_0, dX2_isAbove_1, fT_2_37, dX2_isAbove_4, dX2_isAbove_7, dX2_isAbove_8, fT_2_15, dX2_isAbove_11, dX2_isAbove_12, dX2_isAbove_13, dX2_isAbove_14, dX2_isAbove_15, dX2_isAbove_16, dX2_isAbove_17, dX2_isAbove_20, dX2_isAbove_21, dX2_isAbove_24, dX2_isAbove_25]
    simp (disch := omega) only [li, nI_add, nI_clamp, nI_ltI, nI_leI, nI_eq, inx_iff, a31, nI_1shl', nI_shr', div_bit, tb1, tb0, fa_or, fa_and, nI_not, pk_sub, nI_dec]
    refine ⟨fun _ => hP _ _ ⟨rfl, rfl⟩, fun z => absurd trivial z⟩
  | true =>
    have hf' : mI Q 6 = nI 1 := hf
    obtain ⟨a1, a2⟩ := hA rfl b hb
    refine hG.run [] 30 ?_
    simp [wp, stepI, ln, jmp, cmpI, Value.category, rd, tyF, va_rf, st1, st2, clr, isLg, CB, inx_0, inx_1, inx_2, inx_3, inx_4, inx_5, bI_0, bI_1, bI_ok, fin3, tyX2, entL, q0, q_above, hf', dX2_isAbove_0, dX2_isAbove_1, fT_2_37, dX2_isAbove_4, dX2_isAbove_7, dX2_isAbove_8, fT_2_15, dX2_isAbove_11, dX2_isAbove_12, dX2_isAbove_13, dX2_isAbove_14, dX2_isAbove_15, dX2_isAbove_16, dX2_isAbove_17, dX2_isAbove_20, dX2_isAbove_21, dX2_isAbove_24, dX2_isAbove_25]
    simp (disch := omega) only [li, nI_add, nI_clamp, nI_ltI, nI_leI, nI_eq, inx_iff, a31, nI_1shl', nI_shr', div_bit, tb1, tb0, fa_or, fa_and, nI_not, pk_sub, nI_dec, a1]
    refine ⟨fun z => by omega, fun _ => ⟨by omega, fun z => hP _ _ ⟨rfl, by rw [z]; rfl⟩, fun z => hP _ _ ⟨rfl, by rw [Bool.not_eq_false] at z; rw [z]; rfl⟩⟩⟩
set_option maxHeartbeats 4000000 in
set_option maxRecDepth 100000 in
theorem c2_leastPlace (l : Launch) (X : Cx) (d : Nat) (sh : Nat → Option Sh) (mI : Nat → Nat → Int32) (mL : Nat → Nat → Int64) (mR : Nat → Nat → Option Nat) (n : Nat) (Q : Nat) (hO : OL sh mR Q 2 ob2) (A : Nat → Nat) (p : Nat) (hp : p < 10) (hA : mI (Q + 2) p = nI (A p) ∧ A p < 1024) (hd : 1 ≤ d) : Cn l X yX2_leastPlace cX2_leastPlace 2 (some .int) d [.ref Q, .int (nI p)] (sh, mI, mL, mR, n) (fun r M' => M' = (sh, mI, mL, mR, n) ∧ r = some (.int (nI (pcn (A p))))) 0 0 := by
  refine Cn.run 2 false (by decide) rfl (by decide) (by simp [entA, Value.category]) ?_
  intro P G hP hG
  have q0 := hO.1
  have q_above := hO.2.2 (1, 2, .int, 10) (by decide)
  dsimp only at q_above
  have a1 := hA.1
  refine hG.run [] 30 ?_
  simp [wp, stepI, ln, jmp, cmpI, Value.category, rd, tyF, va_rf, st1, st2, clr, isLg, CB, inx_0, inx_1, inx_2, inx_3, inx_4, inx_5, bI_0, bI_1, bI_ok, fin3, tyX2, entL, q0, q_above, dX2_leastPlace_0, dX2_leastPlace_1, fT_2_15, dX2_leastPlace_4, dX2_leastPlace_5, dX2_leastPlace_6, dX2_leastPlace_9]
  simp (disch := omega) only [li, nI_add, nI_clamp, nI_ltI, nI_leI, nI_eq, inx_iff, a31, nI_1shl', nI_shr', div_bit, tb1, tb0, fa_or, fa_and, nI_not, pk_sub, nI_dec, a1]
  refine ⟨hp, ?_⟩
  refine hG.callS dX2_leastPlace_6 ms_2_73 [.int (nI (A p))] [] (cJ_bits l X (d - 1) _ (A p) hA.2) (by omega) rfl (by decide) (by simp [Value.category]) rfl ?_
  rintro r M' ⟨rfl, rfl⟩
  refine hG.run [] 30 ?_
  simp [wp, stepI, ln, jmp, cmpI, Value.category, rd, tyF, va_rf, st1, st2, clr, isLg, CB, inx_0, inx_1, inx_2, inx_3, inx_4, inx_5, bI_0, bI_1, bI_ok, fin3, tyX2, entL, q0, q_above, dX2_leastPlace_0, dX2_leastPlace_1, fT_2_15, dX2_leastPlace_4, dX2_leastPlace_5, dX2_leastPlace_6, dX2_leastPlace_9]
  exact hP _ _ ⟨rfl, rfl⟩
/-- may p be taken as the best of the set t? -/
def frP (sa : Nat → Nat) (t p : Nat) : Bool := t.testBit p && decide (sa p &&& t = 0)
def bst (np : Nat) (sa : Nat → Nat) (t : Nat) : Nat := fa_first (frP sa t) np
/-- what peel answers, and the line that it leaves -/
def plA (np : Nat) (sa : Nat → Nat) : Nat → Nat → Nat → Nat
  | 0, _, a => a
  | f + 1, t, a => if t = 0 then a else if bst np sa t < np then plA np sa f (anot t (2 ^ bst np sa t)) (if 2 ≤ fb_ct (frP sa t) np then 2 else a) else 0
def plT (np : Nat) (sa : Nat → Nat) (t : Nat) : Nat → Nat
  | 0 => t
  | i + 1 => anot (plT np sa t i) (2 ^ bst np sa (plT np sa t i))
def plLn (np : Nat) (sa : Nat → Nat) (t i : Nat) : Nat := bst np sa (plT np sa t i)
theorem plA_s (np : Nat) (sa : Nat → Nat) (f t a : Nat) : plA np sa (f + 1) t a = if t = 0 then a else if bst np sa t < np then plA np sa f (anot t (2 ^ bst np sa t)) (if 2 ≤ fb_ct (frP sa t) np then 2 else a) else 0 := rfl
/-- the least from j on, and how many there are -/
def bqJ (np : Nat) (sa : Nat → Nat) (t j : Nat) : Nat := j + fa_first (fun k => frP sa t (j + k)) (np - j)
def ctJ (np : Nat) (sa : Nat → Nat) (t j : Nat) : Nat := fb_ct (fun k => frP sa t (j + k)) (np - j)
theorem bqJ_lt {np : Nat} {sa : Nat → Nat} {t j : Nat} (h : j < np) : bqJ np sa t j = if frP sa t j then j else bqJ np sa t (j + 1) := by
  unfold bqJ
  by_cases hf : frP sa t j = true
  · rw [if_pos hf, lx_first (k := 0) (by omega) (fun i hi => by omega) (fun _ => by rw [Nat.add_zero]; exact hf)]
    rfl
  · rw [if_neg hf]
    have hl := fa_first_le (fun k => frP sa t (j + 1 + k)) (np - (j + 1))
    rw [lx_first (k := 1 + fa_first (fun k => frP sa t (j + 1 + k)) (np - (j + 1))) (by omega) (fun i hi => ?_) (fun h2 => ?_)]
    · omega
    · rcases Nat.lt_or_ge i 1 with y | y
      · rw [show i = 0 by omega, Nat.add_zero]; simpa using hf
      · have := fa_first_no (fun k => frP sa t (j + 1 + k)) (np - (j + 1)) (i - 1) (by omega)
        rw [show j + i = j + 1 + (i - 1) by omega]
        exact this
    · have := fa_first_yes (fun k => frP sa t (j + 1 + k)) (np - (j + 1)) (by omega)
      rw [show j + (1 + fa_first (fun k => frP sa t (j + 1 + k)) (np - (j + 1))) = j + 1 + fa_first (fun k => frP sa t (j + 1 + k)) (np - (j + 1)) by omega]
      exact this
theorem ctJ_lt {np : Nat} {sa : Nat → Nat} {t j : Nat} (h : j < np) : ctJ np sa t j = (if frP sa t j then 1 else 0) + ctJ np sa t (j + 1) := by
  unfold ctJ
  rw [show np - j = 1 + (np - (j + 1)) by omega, fb_ct_split]
  congr 1
  · show 0 + _ = _
    rw [Nat.zero_add]; rfl
  · exact fb_ct_cong fun k _ => by rw [show j + (1 + k) = j + 1 + k by omega]
theorem bqJ_ct {np : Nat} {sa : Nat → Nat} {t j : Nat} (hj : j ≤ np) : bqJ np sa t j < np ↔ 1 ≤ ctJ np sa t j := by
  unfold bqJ ctJ
  have hl := fa_first_le (fun k => frP sa t (j + k)) (np - j)
  constructor
  · intro h
    have := fa_first_yes (fun k => frP sa t (j + k)) (np - j) (by omega)
    exact fb_ct_pos.mpr ⟨_, by omega, this⟩
  · intro h
    obtain ⟨k, hk, hf⟩ := fb_ct_pos.mp h
    rcases Nat.lt_or_ge (fa_first (fun k => frP sa t (j + k)) (np - j)) (np - j) with y | y
    · omega
    · have := fa_first_no (fun k => frP sa t (j + k)) (np - j) k (by omega)
      rw [show frP sa t (j + k) = true from hf] at this; cases this
theorem plT_0 {np : Nat} {sa : Nat → Nat} {t i : Nat} (h : plT np sa t i = 0) : ∀ k, plT np sa t (i + k) = 0
  | 0 => h
  | k + 1 => by
    show anot (plT np sa t (i + k)) _ = 0
    rw [plT_0 h k]
    exact Nat.le_zero.mp (anot_le 0 _)
set_option maxHeartbeats 4000000 in
set_option maxRecDepth 100000 in
theorem c2_peel (l : Launch) (X : Cx) (d : Nat) (sh : Nat → Option Sh) (mI : Nat → Nat → Int32) (mL : Nat → Nat → Int64) (mR : Nat → Nat → Option Nat) (n : Nat) (Q : Nat) (hO : OL sh mR Q 2 ob2) (np : Nat) (sa : Nat → Nat) (hM : LaM mI Q np sa) (t : Nat) (ht : t < 1024) : Cn l X yX2_peel cX2_peel 7 (some .int) d [.ref Q, .int (nI t)] (sh, mI, mL, mR, n) (fun r M' => r = some (.int (nI (plA np sa 10 t 1))) ∧ ∃ mI', M' = (sh, mI', mL, mR, n) ∧ (∀ a k, a ≠ Q + 3 → mI' a k = mI a k) ∧ (plA np sa 10 t 1 ≠ 0 → ∀ j, j < 10 → plT np sa t j ≠ 0 → mI' (Q + 3) j = nI (plLn np sa t j) ∧ plLn np sa t j < np)) 0 0 := by
  refine Cn.run 2 false (by decide) rfl (by decide) (by simp [entA, Value.category]) ?_
  intro P G hP hG
  have q0 := hO.1
  have q_saidAbove := hO.2.2 (0, 1, .int, 10) (by decide)
  dsimp only at q_saidAbove
  have q_line := hO.2.2 (2, 3, .int, 10) (by decide)
  dsimp only at q_line
  have hSl := hO.2.1
  have xA : Q + 3 < 1000000000 := by omega
  obtain ⟨h1, h2, h3, h4⟩ := hM
  have m10 : -nI 1 < nI 0 := by decide +kernel
  obtain ⟨R, hR⟩ : ∃ R, R = plA np sa 10 t 1 := ⟨_, rfl⟩
  rw [← hR] at hP
  have tl : ∀ i, plT np sa t i < 1024 := by
    intro i
    induction i with
    | zero => exact ht
    | succ i ih => exact Nat.lt_of_le_of_lt (anot_le _ _) ih
  have loop : ∀ f i a m1 v5 v6, 10 - i < f → i ≤ 10 → a ≤ 2 → plA np sa (10 - i) (plT np sa t i) a = R → (∀ x k, x ≠ Q + 3 → m1 x k = mI x k) → (∀ j, j < i → m1 (Q + 3) j = nI (plLn np sa t j) ∧ plLn np sa t j < np) → G 7 [some (.ref Q), some (.int (nI t)), some (.int (nI (plT np sa t i))), some (.int (nI a)), some (.int (nI i)), v5, v6] [] (sh, m1, mL, mR, n) := by
    intro f
    induction f with
    | zero => intro i a m1 v5 v6 h; omega
    | succ f ih =>
      intro i a m1 v5 v6 hf hi ha hRi g1 g2
      have hti := tl i
      have done : (plT np sa t i = 0 ∨ i = 10) → R = a → P (some (.int (nI a))) (sh, m1, mL, mR, n) := fun hz he => hP _ _ ⟨by rw [he], m1, rfl, g1, fun _ j hj hjn => by
        rcases Nat.lt_or_ge j i with y | y
        · exact g2 j y
        · rcases hz with hz | hz
          · exact absurd (by have := plT_0 hz (j - i); rw [show i + (j - i) = j by omega] at this; exact this) hjn
          · omega⟩
      have p1 : m1 Q 3 = nI np := (g1 _ _ (by omega)).trans h1
      refine hG.run [29] 40 ?_
      simp [wp, stepI, ln, jmp, cmpI, Value.category, rd, tyF, va_rf, st1, st2, clr, isLg, CB, inx_0, inx_1, inx_2, inx_3, inx_4, inx_5, bI_0, bI_1, bI_ok, fin3, tyX2, entL, q0, dX2_peel_0, dX2_peel_1, dX2_peel_2, dX2_peel_3, dX2_peel_4, dX2_peel_5, dX2_peel_7, dX2_peel_9, dX2_peel_11, dX2_peel_14, dX2_peel_15, dX2_peel_18, dX2_peel_19, dX2_peel_21, dX2_peel_22, fT_2_54, dX2_peel_25, dX2_peel_26, dX2_peel_27, dX2_peel_29, dX2_peel_31, dX2_peel_34, dX2_peel_35, dX2_peel_37, dX2_peel_38, dX2_peel_39, dX2_peel_40, dX2_peel_43, dX2_peel_44, fT_2_9, dX2_peel_47, dX2_peel_49, dX2_peel_50, dX2_peel_51, dX2_peel_52, dX2_peel_55, dX2_peel_57, dX2_peel_58, dX2_peel_61, dX2_peel_62, dX2_peel_65, dX2_peel_66, dX2_peel_67, dX2_peel_69, dX2_peel_71, dX2_peel_74, dX2_peel_77, dX2_peel_79, dX2_peel_80, dX2_peel_83, dX2_peel_84, dX2_peel_85, dX2_peel_86, fT_2_18, dX2_peel_89, dX2_peel_91, dX2_peel_93, dX2_peel_94, dX2_peel_95, dX2_peel_96, dX2_peel_98, dX2_peel_99, dX2_peel_100, dX2_peel_101, dX2_peel_102, dX2_peel_103, dX2_peel_106, dX2_peel_109, dX2_peel_110]
      simp (disch := omega) only [li, nI_add, nI_clamp, nI_ltI, nI_leI, nI_eq, inx_iff, a31, nI_1shl', nI_shr', div_bit, tb1, tb0, fa_or, fa_and, nI_not, pk_sub, nI_dec, p1]
      refine ⟨fun z => done (Or.inr (by omega)) ?_, fun z => ⟨fun z2 => done (Or.inl z2) ?_, fun z2 => ?_⟩⟩
      · rw [← hRi, show 10 - i = 0 by omega]; rfl
      · rw [← hRi, show 10 - i = (10 - i - 1) + 1 by omega, plA_s, if_pos z2]
      rw [show 10 - i = (10 - i - 1) + 1 by omega, plA_s, if_neg z2] at hRi
      have nx := ih (i + 1)
      rw [show plT np sa t (i + 1) = anot (plT np sa t i) (2 ^ bst np sa (plT np sa t i)) from rfl] at nx
      have eLn : plLn np sa t i = bst np sa (plT np sa t i) := rfl
      rw [show 10 - i - 1 = 10 - (i + 1) by omega] at hRi
      clear ih done
      have e77 : ∀ v6, G 77 [some (.ref Q), some (.int (nI t)), some (.int (nI (plT np sa t i))), some (.int (if 2 ≤ ctJ np sa (plT np sa t i) 0 then nI 2 else nI a)), some (.int (nI i)), some (.int (if bqJ np sa (plT np sa t i) 0 < np then nI (bqJ np sa (plT np sa t i) 0) else -nI 1)), v6] [] (sh, m1, mL, mR, n) := fun v6 => by
        have eb : bqJ np sa (plT np sa t i) 0 = bst np sa (plT np sa t i) := by
          unfold bqJ bst
          rw [Nat.zero_add, Nat.sub_zero]
          congr 1
          funext k
          rw [Nat.zero_add]
        have ec : ctJ np sa (plT np sa t i) 0 = fb_ct (frP sa (plT np sa t i)) np := by
          unfold ctJ
          rw [Nat.sub_zero]
          exact fb_ct_cong fun k _ => by rw [Nat.zero_add]
        rw [eb, ec]
        by_cases hb : bst np sa (plT np sa t i) < np
        · rw [if_pos hb] at hRi ⊢
          have hb2 := p2_le10 (k := bst np sa (plT np sa t i)) (by omega)
          have gx : ∀ a', a' ≤ 2 → plA np sa (10 - (i + 1)) (anot (plT np sa t i) (2 ^ bst np sa (plT np sa t i))) a' = R → G 7 [some (.ref Q), some (.int (nI t)), some (.int (nI (anot (plT np sa t i) (2 ^ bst np sa (plT np sa t i))))), some (.int (nI a')), some (.int (nI (i + 1))), some (.int (nI (bst np sa (plT np sa t i)))), v6] [] (sh, up2 m1 (Q + 3) i (nI (bst np sa (plT np sa t i))), mL, mR, n) := fun a' ha' he => nx a' _ _ _ (by omega) (by omega) ha' he (fun x k hx => by rw [up2_ne (fun w => hx w.1)]; exact g1 x k hx) (fun j hj => by
            by_cases e : j = i
            · rw [e, up2_eq, eLn]; exact ⟨rfl, hb⟩
            · rw [up2_ne (fun w => e w.2)]; exact g2 j (by omega))
          have ea : (if 2 ≤ fb_ct (frP sa (plT np sa t i)) np then nI 2 else nI a) = nI (if 2 ≤ fb_ct (frP sa (plT np sa t i)) np then 2 else a) := by split <;> rfl
          rw [ea]
          have gy := gx (if 2 ≤ fb_ct (frP sa (plT np sa t i)) np then 2 else a) (by split <;> omega) hRi
          generalize (if 2 ≤ fb_ct (frP sa (plT np sa t i)) np then 2 else a) = a' at gy ⊢
          clear gx nx hRi ea eb ec eLn
          generalize bst np sa (plT np sa t i) = bb at hb hb2 gy
          have hne : ¬ nI bb = -nI 1 := nI_ne_m1 (by omega)
          refine hG.run [7, 85] 40 ?_
          simp [wp, stepI, ln, jmp, cmpI, Value.category, rd, tyF, va_rf, st1, st2, clr, isLg, CB, inx_0, inx_1, inx_2, inx_3, inx_4, inx_5, bI_0, bI_1, bI_ok, fin3, tyX2, entL, q0, dX2_peel_0, dX2_peel_1, dX2_peel_2, dX2_peel_3, dX2_peel_4, dX2_peel_5, dX2_peel_7, dX2_peel_9, dX2_peel_11, dX2_peel_14, dX2_peel_15, dX2_peel_18, dX2_peel_19, dX2_peel_21, dX2_peel_22, fT_2_54, dX2_peel_25, dX2_peel_26, dX2_peel_27, dX2_peel_29, dX2_peel_31, dX2_peel_34, dX2_peel_35, dX2_peel_37, dX2_peel_38, dX2_peel_39, dX2_peel_40, dX2_peel_43, dX2_peel_44, fT_2_9, dX2_peel_47, dX2_peel_49, dX2_peel_50, dX2_peel_51, dX2_peel_52, dX2_peel_55, dX2_peel_57, dX2_peel_58, dX2_peel_61, dX2_peel_62, dX2_peel_65, dX2_peel_66, dX2_peel_67, dX2_peel_69, dX2_peel_71, dX2_peel_74, dX2_peel_77, dX2_peel_79, dX2_peel_80, dX2_peel_83, dX2_peel_84, dX2_peel_85, dX2_peel_86, fT_2_18, dX2_peel_89, dX2_peel_91, dX2_peel_93, dX2_peel_94, dX2_peel_95, dX2_peel_96, dX2_peel_98, dX2_peel_99, dX2_peel_100, dX2_peel_101, dX2_peel_102, dX2_peel_103, dX2_peel_106, dX2_peel_109, dX2_peel_110]
          simp (disch := omega) only [li, nI_add, nI_clamp, nI_ltI, nI_leI, nI_eq, inx_iff, a31, nI_1shl', nI_shr', div_bit, tb1, tb0, fa_or, fa_and, nI_not, pk_sub, nI_dec]
          refine ⟨fun _ => ?_, fun z => absurd z hne⟩
          refine hG.run [7] 40 ?_
          simp [wp, stepI, ln, jmp, cmpI, Value.category, rd, tyF, va_rf, st1, st2, clr, isLg, CB, inx_0, inx_1, inx_2, inx_3, inx_4, inx_5, bI_0, bI_1, bI_ok, fin3, tyX2, entL, q0, q_line, xA, dX2_peel_0, dX2_peel_1, dX2_peel_2, dX2_peel_3, dX2_peel_4, dX2_peel_5, dX2_peel_7, dX2_peel_9, dX2_peel_11, dX2_peel_14, dX2_peel_15, dX2_peel_18, dX2_peel_19, dX2_peel_21, dX2_peel_22, fT_2_54, dX2_peel_25, dX2_peel_26, dX2_peel_27, dX2_peel_29, dX2_peel_31, dX2_peel_34, dX2_peel_35, dX2_peel_37, dX2_peel_38, dX2_peel_39, dX2_peel_40, dX2_peel_43, dX2_peel_44, fT_2_9, dX2_peel_47, dX2_peel_49, dX2_peel_50, dX2_peel_51, dX2_peel_52, dX2_peel_55, dX2_peel_57, dX2_peel_58, dX2_peel_61, dX2_peel_62, dX2_peel_65, dX2_peel_66, dX2_peel_67, dX2_peel_69, dX2_peel_71, dX2_peel_74, dX2_peel_77, dX2_peel_79, dX2_peel_80, dX2_peel_83, dX2_peel_84, dX2_peel_85, dX2_peel_86, fT_2_18, dX2_peel_89, dX2_peel_91, dX2_peel_93, dX2_peel_94, dX2_peel_95, dX2_peel_96, dX2_peel_98, dX2_peel_99, dX2_peel_100, dX2_peel_101, dX2_peel_102, dX2_peel_103, dX2_peel_106, dX2_peel_109, dX2_peel_110]
          simp (disch := omega) only [li, nI_add, nI_clamp, nI_ltI, nI_leI, nI_eq, inx_iff, a31, nI_1shl', nI_shr', div_bit, tb1, tb0, fa_or, fa_and, nI_not, pk_sub, nI_dec]
          exact ⟨by omega, gy⟩
        · rw [if_neg hb] at hRi ⊢
          subst hRi
          refine hG.run [7, 85] 40 ?_
          simp [wp, stepI, ln, jmp, cmpI, Value.category, rd, tyF, va_rf, st1, st2, clr, isLg, CB, inx_0, inx_1, inx_2, inx_3, inx_4, inx_5, bI_0, bI_1, bI_ok, fin3, tyX2, entL, q0, dX2_peel_0, dX2_peel_1, dX2_peel_2, dX2_peel_3, dX2_peel_4, dX2_peel_5, dX2_peel_7, dX2_peel_9, dX2_peel_11, dX2_peel_14, dX2_peel_15, dX2_peel_18, dX2_peel_19, dX2_peel_21, dX2_peel_22, fT_2_54, dX2_peel_25, dX2_peel_26, dX2_peel_27, dX2_peel_29, dX2_peel_31, dX2_peel_34, dX2_peel_35, dX2_peel_37, dX2_peel_38, dX2_peel_39, dX2_peel_40, dX2_peel_43, dX2_peel_44, fT_2_9, dX2_peel_47, dX2_peel_49, dX2_peel_50, dX2_peel_51, dX2_peel_52, dX2_peel_55, dX2_peel_57, dX2_peel_58, dX2_peel_61, dX2_peel_62, dX2_peel_65, dX2_peel_66, dX2_peel_67, dX2_peel_69, dX2_peel_71, dX2_peel_74, dX2_peel_77, dX2_peel_79, dX2_peel_80, dX2_peel_83, dX2_peel_84, dX2_peel_85, dX2_peel_86, fT_2_18, dX2_peel_89, dX2_peel_91, dX2_peel_93, dX2_peel_94, dX2_peel_95, dX2_peel_96, dX2_peel_98, dX2_peel_99, dX2_peel_100, dX2_peel_101, dX2_peel_102, dX2_peel_103, dX2_peel_106, dX2_peel_109, dX2_peel_110]
          simp (disch := omega) only [li, nI_add, nI_clamp, nI_ltI, nI_leI, nI_eq, inx_iff, a31, nI_1shl', nI_shr', div_bit, tb1, tb0, fa_or, fa_and, nI_not, pk_sub, nI_dec]
          exact ⟨fun z => absurd trivial z, fun _ => hP _ _ ⟨rfl, m1, rfl, g1, fun h => absurd rfl h⟩⟩
      clear nx hRi
      have inner : ∀ j, j ≤ np → G 29 [some (.ref Q), some (.int (nI t)), some (.int (nI (plT np sa t i))), some (.int (if 2 ≤ ctJ np sa (plT np sa t i) j then nI 2 else nI a)), some (.int (nI i)), some (.int (if bqJ np sa (plT np sa t i) j < np then nI (bqJ np sa (plT np sa t i) j) else -nI 1)), some (.int (if j = 0 then -nI 1 else nI (j - 1)))] [] (sh, m1, mL, mR, n) := by
        intro j
        induction j with
        | zero =>
          intro _
          have := e77 (some (.int (-nI 1)))
          rw [if_pos rfl]
          refine hG.run [29, 77] 40 ?_
          simp [wp, stepI, ln, jmp, cmpI, Value.category, rd, tyF, va_rf, st1, st2, clr, isLg, CB, inx_0, inx_1, inx_2, inx_3, inx_4, inx_5, bI_0, bI_1, bI_ok, fin3, tyX2, entL, q0, dX2_peel_0, dX2_peel_1, dX2_peel_2, dX2_peel_3, dX2_peel_4, dX2_peel_5, dX2_peel_7, dX2_peel_9, dX2_peel_11, dX2_peel_14, dX2_peel_15, dX2_peel_18, dX2_peel_19, dX2_peel_21, dX2_peel_22, fT_2_54, dX2_peel_25, dX2_peel_26, dX2_peel_27, dX2_peel_29, dX2_peel_31, dX2_peel_34, dX2_peel_35, dX2_peel_37, dX2_peel_38, dX2_peel_39, dX2_peel_40, dX2_peel_43, dX2_peel_44, fT_2_9, dX2_peel_47, dX2_peel_49, dX2_peel_50, dX2_peel_51, dX2_peel_52, dX2_peel_55, dX2_peel_57, dX2_peel_58, dX2_peel_61, dX2_peel_62, dX2_peel_65, dX2_peel_66, dX2_peel_67, dX2_peel_69, dX2_peel_71, dX2_peel_74, dX2_peel_77, dX2_peel_79, dX2_peel_80, dX2_peel_83, dX2_peel_84, dX2_peel_85, dX2_peel_86, fT_2_18, dX2_peel_89, dX2_peel_91, dX2_peel_93, dX2_peel_94, dX2_peel_95, dX2_peel_96, dX2_peel_98, dX2_peel_99, dX2_peel_100, dX2_peel_101, dX2_peel_102, dX2_peel_103, dX2_peel_106, dX2_peel_109, dX2_peel_110]
          simp (disch := omega) only [li, nI_add, nI_clamp, nI_ltI, nI_leI, nI_eq, inx_iff, a31, nI_1shl', nI_shr', div_bit, tb1, tb0, fa_or, fa_and, nI_not, pk_sub, nI_dec]
          exact ⟨fun _ => this, fun w => absurd m10 (Int32.not_lt.mpr w)⟩
        | succ j ihj =>
          intro hj
          have nx := ihj (by omega)
          rw [if_neg (Nat.succ_ne_zero j), Nat.add_sub_cancel]
          have sp : m1 (Q + 1) j = nI (sa j) := (g1 _ _ (by omega)).trans (h4 j (by omega)).1
          have spl := (h4 j (by omega)).2
          have dec : (if j = 0 then -nI 1 else nI (j - 1)) = nI j - nI 1 := by
            rcases Nat.eq_zero_or_pos j with y | y
            · rw [if_pos y, y]; decide +kernel
            · rw [if_neg (by omega), pk_sub y]
          rw [dec, bqJ_lt (by omega), ctJ_lt (by omega)] at nx
          have hle : sa j &&& plT np sa t i ≤ plT np sa t i := Nat.and_le_right
          have ctb := bqJ_ct (np := np) (sa := sa) (t := plT np sa t i) (j := j + 1) hj
          generalize plT np sa t i = tt at hti nx hle ctb ⊢
          clear e77 dec ihj g2 g1
          have no : frP sa tt j = false → G 29 [some (.ref Q), some (.int (nI t)), some (.int (nI tt)), some (.int (if 2 ≤ ctJ np sa tt (j + 1) then nI 2 else nI a)), some (.int (nI i)), some (.int (if bqJ np sa tt (j + 1) < np then nI (bqJ np sa tt (j + 1)) else -nI 1)), some (.int (nI j - nI 1))] [] (sh, m1, mL, mR, n) := fun hfr => by
            rw [hfr] at nx
            simp only [Bool.false_eq_true, if_false, Nat.zero_add] at nx
            exact nx
          have yes : frP sa tt j = true → G 29 [some (.ref Q), some (.int (nI t)), some (.int (nI tt)), some (.int (if 1 ≤ ctJ np sa tt (j + 1) then nI 2 else nI a)), some (.int (nI i)), some (.int (nI j)), some (.int (nI j - nI 1))] [] (sh, m1, mL, mR, n) := fun hfr => by
            rw [hfr] at nx
            simp only [if_true] at nx
            rw [if_pos (show j < np by omega)] at nx
            by_cases y : 1 ≤ ctJ np sa tt (j + 1)
            · rw [if_pos (show 2 ≤ 1 + ctJ np sa tt (j + 1) by omega)] at nx; rw [if_pos y]; exact nx
            · rw [if_neg (show ¬ 2 ≤ 1 + ctJ np sa tt (j + 1) by omega)] at nx; rw [if_neg y]; exact nx
          have f1 : tt.testBit j = false → frP sa tt j = false := fun z => by unfold frP; rw [z]; rfl
          have f2 : ¬ sa j &&& tt = 0 → frP sa tt j = false := fun z => by unfold frP; rw [decide_eq_false z, Bool.and_false]
          have f3 : ¬ tt.testBit j = false → sa j &&& tt = 0 → frP sa tt j = true := fun z z2 => by unfold frP; rw [decide_eq_true z2, Bool.and_true]; simpa using z
          by_cases hbq : bqJ np sa tt (j + 1) < np
          · rw [if_pos hbq] at no ⊢
            have c1 := ctb.mp hbq
            rw [if_pos c1] at yes
            have hne : ¬ nI (bqJ np sa tt (j + 1)) = -nI 1 := nI_ne_m1 (by omega)
            generalize (if 2 ≤ ctJ np sa tt (j + 1) then nI 2 else nI a) = av at no ⊢
            refine hG.run [29, 77] 60 ?_
            simp [wp, stepI, ln, jmp, cmpI, Value.category, rd, tyF, va_rf, st1, st2, clr, isLg, CB, inx_0, inx_1, inx_2, inx_3, inx_4, inx_5, bI_0, bI_1, bI_ok, fin3, tyX2, entL, q0, q_saidAbove, dX2_peel_0, dX2_peel_1, dX2_peel_2, dX2_peel_3, dX2_peel_4, dX2_peel_5, dX2_peel_7, dX2_peel_9, dX2_peel_11, dX2_peel_14, dX2_peel_15, dX2_peel_18, dX2_peel_19, dX2_peel_21, dX2_peel_22, fT_2_54, dX2_peel_25, dX2_peel_26, dX2_peel_27, dX2_peel_29, dX2_peel_31, dX2_peel_34, dX2_peel_35, dX2_peel_37, dX2_peel_38, dX2_peel_39, dX2_peel_40, dX2_peel_43, dX2_peel_44, fT_2_9, dX2_peel_47, dX2_peel_49, dX2_peel_50, dX2_peel_51, dX2_peel_52, dX2_peel_55, dX2_peel_57, dX2_peel_58, dX2_peel_61, dX2_peel_62, dX2_peel_65, dX2_peel_66, dX2_peel_67, dX2_peel_69, dX2_peel_71, dX2_peel_74, dX2_peel_77, dX2_peel_79, dX2_peel_80, dX2_peel_83, dX2_peel_84, dX2_peel_85, dX2_peel_86, fT_2_18, dX2_peel_89, dX2_peel_91, dX2_peel_93, dX2_peel_94, dX2_peel_95, dX2_peel_96, dX2_peel_98, dX2_peel_99, dX2_peel_100, dX2_peel_101, dX2_peel_102, dX2_peel_103, dX2_peel_106, dX2_peel_109, dX2_peel_110]
            simp (disch := omega) only [li, nI_add, nI_clamp, nI_ltI, nI_leI, nI_eq, inx_iff, a31, nI_1shl', nI_shr', div_bit, tb1, tb0, fa_or, fa_and, nI_not, pk_sub, nI_dec, sp]
            exact ⟨fun z => by omega, fun _ => ⟨fun z => no (f1 z), fun z => ⟨by omega, fun z2 => no (f2 z2), fun z2 => ⟨fun _ => yes (f3 z z2), fun z3 => absurd z3 hne⟩⟩⟩⟩
          · rw [if_neg hbq] at no ⊢
            have c1 : ctJ np sa tt (j + 1) = 0 := by omega
            rw [c1] at yes no ⊢
            rw [if_neg (by decide)] at yes no ⊢
            refine hG.run [29, 77] 60 ?_
            simp [wp, stepI, ln, jmp, cmpI, Value.category, rd, tyF, va_rf, st1, st2, clr, isLg, CB, inx_0, inx_1, inx_2, inx_3, inx_4, inx_5, bI_0, bI_1, bI_ok, fin3, tyX2, entL, q0, q_saidAbove, dX2_peel_0, dX2_peel_1, dX2_peel_2, dX2_peel_3, dX2_peel_4, dX2_peel_5, dX2_peel_7, dX2_peel_9, dX2_peel_11, dX2_peel_14, dX2_peel_15, dX2_peel_18, dX2_peel_19, dX2_peel_21, dX2_peel_22, fT_2_54, dX2_peel_25, dX2_peel_26, dX2_peel_27, dX2_peel_29, dX2_peel_31, dX2_peel_34, dX2_peel_35, dX2_peel_37, dX2_peel_38, dX2_peel_39, dX2_peel_40, dX2_peel_43, dX2_peel_44, fT_2_9, dX2_peel_47, dX2_peel_49, dX2_peel_50, dX2_peel_51, dX2_peel_52, dX2_peel_55, dX2_peel_57, dX2_peel_58, dX2_peel_61, dX2_peel_62, dX2_peel_65, dX2_peel_66, dX2_peel_67, dX2_peel_69, dX2_peel_71, dX2_peel_74, dX2_peel_77, dX2_peel_79, dX2_peel_80, dX2_peel_83, dX2_peel_84, dX2_peel_85, dX2_peel_86, fT_2_18, dX2_peel_89, dX2_peel_91, dX2_peel_93, dX2_peel_94, dX2_peel_95, dX2_peel_96, dX2_peel_98, dX2_peel_99, dX2_peel_100, dX2_peel_101, dX2_peel_102, dX2_peel_103, dX2_peel_106, dX2_peel_109, dX2_peel_110]
            simp (disch := omega) only [li, nI_add, nI_clamp, nI_ltI, nI_leI, nI_eq, inx_iff, a31, nI_1shl', nI_shr', div_bit, tb1, tb0, fa_or, fa_and, nI_not, pk_sub, nI_dec, sp]
            exact ⟨fun z => by omega, fun _ => ⟨fun z => no (f1 z), fun z => ⟨by omega, fun z2 => no (f2 z2), fun z2 => ⟨fun z3 => absurd trivial z3, fun _ => yes (f3 z z2)⟩⟩⟩⟩
      have fin := inner np (Nat.le_refl _)
      have b9 : ¬ bqJ np sa (plT np sa t i) np < np := by unfold bqJ; omega
      have c9 : ctJ np sa (plT np sa t i) np = 0 := by unfold ctJ; rw [Nat.sub_self]; rfl
      rw [if_neg b9, c9, if_neg (by decide)] at fin
      have d9 : (if np = 0 then -nI 1 else nI (np - 1)) = nI np - nI 1 := by
        rcases Nat.eq_zero_or_pos np with y | y
        · rw [if_pos y, y]; decide +kernel
        · rw [if_neg (by omega), pk_sub y]
      rw [d9] at fin
      exact fin
  refine hG.run [7] 40 ?_
  simp [wp, stepI, ln, jmp, cmpI, Value.category, rd, tyF, va_rf, st1, st2, clr, isLg, CB, inx_0, inx_1, inx_2, inx_3, inx_4, inx_5, bI_0, bI_1, bI_ok, fin3, tyX2, entL, q0, dX2_peel_0, dX2_peel_1, dX2_peel_2, dX2_peel_3, dX2_peel_4, dX2_peel_5, dX2_peel_7, dX2_peel_9, dX2_peel_11, dX2_peel_14, dX2_peel_15, dX2_peel_18, dX2_peel_19, dX2_peel_21, dX2_peel_22, fT_2_54, dX2_peel_25, dX2_peel_26, dX2_peel_27, dX2_peel_29, dX2_peel_31, dX2_peel_34, dX2_peel_35, dX2_peel_37, dX2_peel_38, dX2_peel_39, dX2_peel_40, dX2_peel_43, dX2_peel_44, fT_2_9, dX2_peel_47, dX2_peel_49, dX2_peel_50, dX2_peel_51, dX2_peel_52, dX2_peel_55, dX2_peel_57, dX2_peel_58, dX2_peel_61, dX2_peel_62, dX2_peel_65, dX2_peel_66, dX2_peel_67, dX2_peel_69, dX2_peel_71, dX2_peel_74, dX2_peel_77, dX2_peel_79, dX2_peel_80, dX2_peel_83, dX2_peel_84, dX2_peel_85, dX2_peel_86, fT_2_18, dX2_peel_89, dX2_peel_91, dX2_peel_93, dX2_peel_94, dX2_peel_95, dX2_peel_96, dX2_peel_98, dX2_peel_99, dX2_peel_100, dX2_peel_101, dX2_peel_102, dX2_peel_103, dX2_peel_106, dX2_peel_109, dX2_peel_110]
  exact loop 11 0 1 mI _ _ (by omega) (by omega) (by omega) hR.symm (fun _ _ _ => rfl) (fun j h => by omega)
