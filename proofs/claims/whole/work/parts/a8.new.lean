/-! newOne -/
def aNew (A : DD) (x : Int32) : Int32 := if aP A x then newN (A 0 0) (A 0 2) (A 5) (A 6) x.toNatClampNeg else -nI 1
theorem newN_pl {np c : Nat} {fi se : Nat → Nat} {a : Nat} (hnp : np ≤ 10) (h : SayV np c fi se) (ha : a < np) : newN np c fi se a = (if plcA np (ahA fi se c) a = 0 then -nI 1 else nI (lg2 (plcA np (ahA fi se c) a))) ∧ plcA np (ahA fi se c) a ≤ 11 := by
  have hw := who_lt (np := np) (a := a)
  have e0 : newR np c fi se a (whoO np a) = fitW np (ahA fi se c) (anot (2 ^ np - 1) (2 ^ a)) := newR_W _
  unfold newN
  rw [e0]
  by_cases z : fitW np (ahA fi se c) (anot (2 ^ np - 1) (2 ^ a)) = 1
  · have e := new_plc hnp h ha z
    have l11 : newP np c fi se a ≤ 11 := plcF_le _ _ _ _
    rw [e] at l11 ⊢
    refine ⟨?_, l11⟩
    by_cases y : plcA np (ahA fi se c) a = 0
    · rw [if_pos y, if_neg (fun w => w.2 y)]
    · rw [if_neg y, if_pos ⟨z, y⟩]
  · have e : plcA np (ahA fi se c) a = 0 := by
      unfold plcA
      rw [if_neg]
      rw [plA_10 hnp hw]
      intro w
      by_cases y : fitW np (ahA fi se c) (anot (2 ^ np - 1) (2 ^ a)) = 0
      · rw [if_pos y] at w
        exact absurd w (by decide)
      · rw [if_neg y, if_neg z] at w
        exact absurd w (by decide)
    rw [e, if_pos rfl, if_neg (fun w => z w.1)]
    exact ⟨rfl, Nat.zero_le _⟩
set_option maxHeartbeats 800000 in
set_option maxRecDepth 100000 in
theorem c11_newOne (l : Launch) (X : Cx) (d : Nat) (sh : Nat → Option Sh) (mI : Nat → Nat → Int32) (mL : Nat → Nat → Int64) (mR : Nat → Nat → Option Nat) (n : Nat) (hB : BL sh mR) (C : Nat) (A : DD) (hV : AsV A) (hS : ShA sh mI mR n 20 C A) (hI : LdI mI A) (x : Int32) (hd : 3 ≤ d) : Cn l X yX11_newOne cX11_newOne 4 (some .int) d [.ref 0, .int x] (sh, mI, mL, mR, n) (fun r M' => r = some (.int (aNew A x)) ∧ ∃ mI', M' = (sh, mI', mL, mR, n) ∧ (∀ a k, ¬ (33 ≤ a ∧ a ≤ 36) → mI' a k = mI a k) ∧ LdI mI' A) 0 0 := by
  refine Cn.run 11 false (by decide) rfl (by decide) (by simp [entA, Value.category]) ?_
  intro P G hP hG
  have q0 := hB.1
  have b3 := hB.2.2.2.1.1
  have b5 := hB.2.2.2.2.2.1.1
  have o2 := hB.2.2.2.2.2.1.2
  have s2 := o2.1
  have hnp := hV.1.1
  refine hG.run [] 20 ?_
  simp [wp, stepI, ln, jmp, cmpI, Value.category, rd, tyF, va_rf, st1, st2, clr, isLg, CB, inx_0, inx_1, inx_2, inx_3, inx_4, inx_5, bI_0, bI_1, bI_ok, fin3, tyX11, entL, q0, dX11_newOne_0, dX11_newOne_1, dX11_newOne_2, dX11_newOne_5, dX11_newOne_8, dX11_newOne_9, dX11_newOne_10, dX11_newOne_11, fT_11_34, dX11_newOne_14, dX11_newOne_15, fT_11_23, dX11_newOne_18, dX11_newOne_21, dX11_newOne_22, dX11_newOne_25, dX11_newOne_26, dX11_newOne_29, dX11_newOne_30, dX11_newOne_31, dX11_newOne_34, dX11_newOne_35, dX11_newOne_36, dX11_newOne_37, dX11_newOne_38, dX11_newOne_39, dX11_newOne_41, dX11_newOne_44, dX11_newOne_45, dX11_newOne_46, dX11_newOne_47, dX11_newOne_48, dX11_newOne_51, dX11_newOne_54, dX11_newOne_57, dX11_newOne_58]
  refine hG.callV dX11_newOne_2 mv_11_100 [.int x] [] (c11_isPupil l X (d - 1) sh mI mL mR n hB C A hS x) ⟨_, rfl, rfl⟩ q0 (by omega) rfl (by decide) (by simp [Value.category]) rfl ?_
  rintro r M' ⟨rfl, rfl⟩
  cases h2 : aP A x with
  | false =>
    have q := hP _ _ ⟨rfl, mI, rfl, fun _ _ _ => rfl, hI⟩
    have e : aNew A x = -1 := by unfold aNew; rw [h2]; rfl
    rw [e] at q
    refine hG.run [10] 20 ?_
    simp [wp, stepI, ln, jmp, cmpI, Value.category, rd, tyF, va_rf, st1, st2, clr, isLg, CB, inx_0, inx_1, inx_2, inx_3, inx_4, inx_5, bI_0, bI_1, bI_ok, fin3, tyX11, entL, q0, dX11_newOne_0, dX11_newOne_1, dX11_newOne_2, dX11_newOne_5, dX11_newOne_8, dX11_newOne_9, dX11_newOne_10, dX11_newOne_11, fT_11_34, dX11_newOne_14, dX11_newOne_15, fT_11_23, dX11_newOne_18, dX11_newOne_21, dX11_newOne_22, dX11_newOne_25, dX11_newOne_26, dX11_newOne_29, dX11_newOne_30, dX11_newOne_31, dX11_newOne_34, dX11_newOne_35, dX11_newOne_36, dX11_newOne_37, dX11_newOne_38, dX11_newOne_39, dX11_newOne_41, dX11_newOne_44, dX11_newOne_45, dX11_newOne_46, dX11_newOne_47, dX11_newOne_48, dX11_newOne_51, dX11_newOne_54, dX11_newOne_57, dX11_newOne_58]
    exact q
  | true =>
    obtain ⟨p, hp, rfl⟩ := aP_i hV h2
    obtain ⟨v1, v2⟩ := newN_pl hnp hV.say hp
    have ev : aNew A (nI p) = newN (A 0 0) (A 0 2) (A 5) (A 6) p := by unfold aNew; rw [h2, if_pos rfl, nI_clamp (by omega)]
    rw [ev, v1] at hP
    refine hG.run [18] 20 ?_
    simp [wp, stepI, ln, jmp, cmpI, Value.category, rd, tyF, va_rf, st1, st2, clr, isLg, CB, inx_0, inx_1, inx_2, inx_3, inx_4, inx_5, bI_0, bI_1, bI_ok, fin3, tyX11, entL, q0, b3, b5, dX11_newOne_0, dX11_newOne_1, dX11_newOne_2, dX11_newOne_5, dX11_newOne_8, dX11_newOne_9, dX11_newOne_10, dX11_newOne_11, fT_11_34, dX11_newOne_14, dX11_newOne_15, fT_11_23, dX11_newOne_18, dX11_newOne_21, dX11_newOne_22, dX11_newOne_25, dX11_newOne_26, dX11_newOne_29, dX11_newOne_30, dX11_newOne_31, dX11_newOne_34, dX11_newOne_35, dX11_newOne_36, dX11_newOne_37, dX11_newOne_38, dX11_newOne_39, dX11_newOne_41, dX11_newOne_44, dX11_newOne_45, dX11_newOne_46, dX11_newOne_47, dX11_newOne_48, dX11_newOne_51, dX11_newOne_54, dX11_newOne_57, dX11_newOne_58]
    refine hG.callV dX11_newOne_18 mv_11_150 [.ref 20] [] (c2_now l X (d - 1) sh mI mL mR n hB C A hV hS hI (by omega)) ⟨_, rfl, rfl⟩ s2 (by omega) rfl (by decide) (by simp [Value.category]) rfl ?_
    rintro r M' ⟨rfl, mI1, rfl, f1, R1, I1⟩
    refine hG.run [] 20 ?_
    simp [wp, stepI, ln, jmp, cmpI, Value.category, rd, tyF, va_rf, st1, st2, clr, isLg, CB, inx_0, inx_1, inx_2, inx_3, inx_4, inx_5, bI_0, bI_1, bI_ok, fin3, tyX11, entL, q0, b5, dX11_newOne_0, dX11_newOne_1, dX11_newOne_2, dX11_newOne_5, dX11_newOne_8, dX11_newOne_9, dX11_newOne_10, dX11_newOne_11, fT_11_34, dX11_newOne_14, dX11_newOne_15, fT_11_23, dX11_newOne_18, dX11_newOne_21, dX11_newOne_22, dX11_newOne_25, dX11_newOne_26, dX11_newOne_29, dX11_newOne_30, dX11_newOne_31, dX11_newOne_34, dX11_newOne_35, dX11_newOne_36, dX11_newOne_37, dX11_newOne_38, dX11_newOne_39, dX11_newOne_41, dX11_newOne_44, dX11_newOne_45, dX11_newOne_46, dX11_newOne_47, dX11_newOne_48, dX11_newOne_51, dX11_newOne_54, dX11_newOne_57, dX11_newOne_58]
    refine hG.callV dX11_newOne_26 mv_11_207 [.int (nI p)] [] (c2_placesFor l X (d - 1) sh mI1 mL mR n 33 o2 (A 0 0) _ R1.2.1 p hp (fun z i hi e => ?_) (by omega)) ⟨_, rfl, rfl⟩ s2 (by omega) rfl (by decide) (by simp [Value.category]) rfl ?_
    · have hpw := p2_10 hnp
      have hw := who_lt (np := A 0 0) (a := p)
      have := plT_pc 10 _ 1 (by omega) z i (by omega)
      rw [e, pc_who hnp hp, show pcn 0 = 0 by decide] at this
      omega
    rintro r M' ⟨rfl, mI2, rfl, f2⟩
    have hP2 := fun v hv => hP (some (.int v)) _ ⟨hv, mI2, rfl, fun a k h => (f2 a k (by omega)).trans (f1 a k h), I1.fr (fun a k _ _ h => f2 a k h)⟩
    generalize plcA (A 0 0) (ahA (A 5) (A 6) (A 0 2)) p = m at v2 hP2 ⊢
    by_cases hm : m = 0
    · have q := hP2 (-1) (by rw [if_pos hm]; rfl)
      subst hm
      refine hG.run [36] 20 ?_
      simp [wp, stepI, ln, jmp, cmpI, Value.category, rd, tyF, va_rf, st1, st2, clr, isLg, CB, inx_0, inx_1, inx_2, inx_3, inx_4, inx_5, bI_0, bI_1, bI_ok, fin3, tyX11, entL, q0, dX11_newOne_0, dX11_newOne_1, dX11_newOne_2, dX11_newOne_5, dX11_newOne_8, dX11_newOne_9, dX11_newOne_10, dX11_newOne_11, fT_11_34, dX11_newOne_14, dX11_newOne_15, fT_11_23, dX11_newOne_18, dX11_newOne_21, dX11_newOne_22, dX11_newOne_25, dX11_newOne_26, dX11_newOne_29, dX11_newOne_30, dX11_newOne_31, dX11_newOne_34, dX11_newOne_35, dX11_newOne_36, dX11_newOne_37, dX11_newOne_38, dX11_newOne_39, dX11_newOne_41, dX11_newOne_44, dX11_newOne_45, dX11_newOne_46, dX11_newOne_47, dX11_newOne_48, dX11_newOne_51, dX11_newOne_54, dX11_newOne_57, dX11_newOne_58]
      exact ⟨fun z => absurd z (by decide), fun _ => q⟩
    · rw [if_neg hm] at hP2
      have l4 : lg2 m ≤ 4 := by
        refine Classical.byContradiction fun z => ?_
        have z' : 4 < fa_first (fun k => decide (m ≤ 2 ^ k)) 11 := by unfold lg2 at z; omega
        have := fa_first_no (fun k => decide (m ≤ 2 ^ k)) 11 4 z'
        have := of_decide_eq_false this
        omega
      have fin : ∀ i, i = lg2 m → G 57 [some (.ref 0), some (.int (nI p)), some (.int (nI m)), some (.int (nI i))] [] (sh, mI2, mL, mR, n) := fun i hi => by
        have q := hP2 (nI i) (by rw [hi])
        refine hG.run [] 20 ?_
        simp [wp, stepI, ln, jmp, cmpI, Value.category, rd, tyF, va_rf, st1, st2, clr, isLg, CB, inx_0, inx_1, inx_2, inx_3, inx_4, inx_5, bI_0, bI_1, bI_ok, fin3, tyX11, entL, q0, dX11_newOne_0, dX11_newOne_1, dX11_newOne_2, dX11_newOne_5, dX11_newOne_8, dX11_newOne_9, dX11_newOne_10, dX11_newOne_11, fT_11_34, dX11_newOne_14, dX11_newOne_15, fT_11_23, dX11_newOne_18, dX11_newOne_21, dX11_newOne_22, dX11_newOne_25, dX11_newOne_26, dX11_newOne_29, dX11_newOne_30, dX11_newOne_31, dX11_newOne_34, dX11_newOne_35, dX11_newOne_36, dX11_newOne_37, dX11_newOne_38, dX11_newOne_39, dX11_newOne_41, dX11_newOne_44, dX11_newOne_45, dX11_newOne_46, dX11_newOne_47, dX11_newOne_48, dX11_newOne_51, dX11_newOne_54, dX11_newOne_57, dX11_newOne_58]
        exact q
      have loop : ∀ f i, 11 - i < f → i ≤ lg2 m → G 38 [some (.ref 0), some (.int (nI p)), some (.int (nI m)), some (.int (nI i))] [] (sh, mI2, mL, mR, n) := by
        intro f
        induction f with
        | zero => intro i h; omega
        | succ f ih =>
          intro i hf hi
          have i4 : i ≤ 4 := by omega
          have pw : 2 ^ i ≤ 2 ^ 4 := Nat.pow_le_pow_right (by decide) i4
          refine hG.run [57, 38] 20 ?_
          simp [wp, stepI, ln, jmp, cmpI, Value.category, rd, tyF, va_rf, st1, st2, clr, isLg, CB, inx_0, inx_1, inx_2, inx_3, inx_4, inx_5, bI_0, bI_1, bI_ok, fin3, tyX11, entL, q0, dX11_newOne_0, dX11_newOne_1, dX11_newOne_2, dX11_newOne_5, dX11_newOne_8, dX11_newOne_9, dX11_newOne_10, dX11_newOne_11, fT_11_34, dX11_newOne_14, dX11_newOne_15, fT_11_23, dX11_newOne_18, dX11_newOne_21, dX11_newOne_22, dX11_newOne_25, dX11_newOne_26, dX11_newOne_29, dX11_newOne_30, dX11_newOne_31, dX11_newOne_34, dX11_newOne_35, dX11_newOne_36, dX11_newOne_37, dX11_newOne_38, dX11_newOne_39, dX11_newOne_41, dX11_newOne_44, dX11_newOne_45, dX11_newOne_46, dX11_newOne_47, dX11_newOne_48, dX11_newOne_51, dX11_newOne_54, dX11_newOne_57, dX11_newOne_58]
          simp (disch := omega) only [li, nI_add, nI_clamp, nI_ltI, nI_leI, nI_eq, inx_iff, a31, nI_1shl', nI_shr', div_bit, tb1, tb0, fa_or, fa_and, nI_not, pk_sub, nI_dec]
          refine ⟨fun z => absurd z (by omega), fun _ => ⟨fun z => fin i ?_, fun z => ih (i + 1) (by omega) ?_⟩⟩
          · rcases Nat.lt_or_ge i (lg2 m) with y | y
            · have := fa_first_no (fun k => decide (m ≤ 2 ^ k)) 11 i y
              exact absurd z (of_decide_eq_false this)
            · omega
          · rcases Nat.lt_or_ge i (lg2 m) with y | y
            · omega
            · have e : i = lg2 m := by omega
              have := fa_first_yes (fun k => decide (m ≤ 2 ^ k)) 11 (show lg2 m < 11 by omega)
              have := of_decide_eq_true this
              rw [show fa_first (fun k => decide (m ≤ 2 ^ k)) 11 = i from e.symm] at this
              omega
      have := loop 20 0 (by omega) (Nat.zero_le _)
      refine hG.run [38] 20 ?_
      simp [wp, stepI, ln, jmp, cmpI, Value.category, rd, tyF, va_rf, st1, st2, clr, isLg, CB, inx_0, inx_1, inx_2, inx_3, inx_4, inx_5, bI_0, bI_1, bI_ok, fin3, tyX11, entL, q0, dX11_newOne_0, dX11_newOne_1, dX11_newOne_2, dX11_newOne_5, dX11_newOne_8, dX11_newOne_9, dX11_newOne_10, dX11_newOne_11, fT_11_34, dX11_newOne_14, dX11_newOne_15, fT_11_23, dX11_newOne_18, dX11_newOne_21, dX11_newOne_22, dX11_newOne_25, dX11_newOne_26, dX11_newOne_29, dX11_newOne_30, dX11_newOne_31, dX11_newOne_34, dX11_newOne_35, dX11_newOne_36, dX11_newOne_37, dX11_newOne_38, dX11_newOne_39, dX11_newOne_41, dX11_newOne_44, dX11_newOne_45, dX11_newOne_46, dX11_newOne_47, dX11_newOne_48, dX11_newOne_51, dX11_newOne_54, dX11_newOne_57, dX11_newOne_58]
      simp (disch := omega) only [li, nI_add, nI_clamp, nI_ltI, nI_leI, nI_eq, inx_iff, a31, nI_1shl', nI_shr', div_bit, tb1, tb0, fa_or, fa_and, nI_not, pk_sub, nI_dec]
      refine ⟨fun _ => this, fun z => absurd z (by omega)⟩
