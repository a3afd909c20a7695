/-! changes, unlike, needed -/
set_option maxHeartbeats 800000 in
set_option maxRecDepth 100000 in
theorem c11_changes (l : Launch) (X : Cx) (d : Nat) (sh : Nat → Option Sh) (mI : Nat → Nat → Int32) (mL : Nat → Nat → Int64) (mR : Nat → Nat → Option Nat) (n : Nat) (hB : BL sh mR) (C : Nat) (A : DD) (hV : AsV A) (hS : ShA sh mI mR n 20 C A) (hd : 3 ≤ d) : Cn l X yX11_changes cX11_changes 2 (some .int) d [.ref 0] (sh, mI, mL, mR, n) (fun r M' => r = some (.int (chgA (A 0 0) (A 11) (A 12))) ∧ M' = (sh, mI, mL, mR, n)) 0 0 := by
  refine Cn.run 11 false (by decide) rfl (by decide) (by simp [entA, Value.category]) ?_
  intro P G hP hG
  have q0 := hB.1
  have b3 := hB.2.2.2.1.1
  have o6 := hB.2.2.2.1.2
  have s6 := o6.1
  have sc := hS.1
  have c4 := hS.2.1.1.1
  have cp := hS.2.1.2.2.2.1.1
  have hnp := hV.1.1
  have hb6 := hV.1.2.1
  have ks := o6.2.2 (5, 10, .int, 10) (by decide)
  have kp := o6.2.2 (6, 11, .int, 10) (by decide)
  dsimp only at ks kp
  obtain ⟨z1, z2, z3, z4, -⟩ := hS.s hV
  have l1 := fb_ct_le (fun p => !decide (A 11 p = 0)) (A 0 0)
  have l2 := fb_ct_le (fun p => !decide (A 12 p = 0)) (A 0 0)
  have l3 := fb_ct_le (fun p => ldR (A 0 0) (A 11) (A 12) p (A 0 0) p) (A 0 0)
  have bad : chOk (A 0 0) (A 11) (A 12) = false → P (some (.int (-1))) (sh, mI, mL, mR, n) := fun z => by
    have q := hP _ _ ⟨rfl, rfl⟩
    have e : chgA (A 0 0) (A 11) (A 12) = -1 := by unfold chgA; rw [z]; rfl
    rw [e] at q
    exact q
  have bad47 : chOk (A 0 0) (A 11) (A 12) = false → G 47 [some (.ref 0), some (.int (nI (A 0 0)))] [] (sh, mI, mL, mR, n) := fun z => by
    have q := bad z
    refine hG.run [] 20 ?_
    simp [wp, stepI, ln, jmp, cmpI, Value.category, rd, tyF, va_rf, st1, st2, clr, isLg, CB, inx_0, inx_1, inx_2, inx_3, inx_4, inx_5, bI_0, bI_1, bI_ok, fin3, tyX11, entL, q0, dX11_changes_0, dX11_changes_1, fT_11_23, dX11_changes_4, fT_11_104, dX11_changes_7, fT_11_180, dX11_changes_10, dX11_changes_11, dX11_changes_12, dX11_changes_15, dX11_changes_16, dX11_changes_19, fT_11_117, dX11_changes_22, dX11_changes_25, dX11_changes_26, dX11_changes_29, dX11_changes_30, dX11_changes_33, dX11_changes_34, dX11_changes_37, fT_11_120, dX11_changes_40, dX11_changes_43, dX11_changes_44, dX11_changes_47, dX11_changes_48, dX11_changes_49, dX11_changes_50, dX11_changes_51, dX11_changes_54, dX11_changes_57, dX11_changes_58]
    exact q
  have m1 : fb_ct (fun p => !decide (A 11 p = 0)) (A 0 0) < A 0 0 → chOk (A 0 0) (A 11) (A 12) = false := fun z => decide_eq_false (fun y => by
    have := fb_ct_all.mpr (fun k hk => show (!decide (A 11 k = 0)) = true by rw [decide_eq_false (y k hk).1]; rfl)
    omega)
  have m2 : fb_ct (fun p => !decide (A 12 p = 0)) (A 0 0) < A 0 0 → chOk (A 0 0) (A 11) (A 12) = false := fun z => decide_eq_false (fun y => by
    have := fb_ct_all.mpr (fun k hk => show (!decide (A 12 k = 0)) = true by rw [decide_eq_false (y k hk).2]; rfl)
    omega)
  refine hG.run [] 20 ?_
  simp [wp, stepI, ln, jmp, cmpI, Value.category, rd, tyF, va_rf, st1, st2, clr, isLg, CB, inx_0, inx_1, inx_2, inx_3, inx_4, inx_5, bI_0, bI_1, bI_ok, fin3, tyX11, entL, q0, b3, s6, ks, sc, c4, cp, tyX6, tyX4, dX11_changes_0, dX11_changes_1, fT_11_23, dX11_changes_4, fT_11_104, dX11_changes_7, fT_11_180, dX11_changes_10, dX11_changes_11, dX11_changes_12, dX11_changes_15, dX11_changes_16, dX11_changes_19, fT_11_117, dX11_changes_22, dX11_changes_25, dX11_changes_26, dX11_changes_29, dX11_changes_30, dX11_changes_33, dX11_changes_34, dX11_changes_37, fT_11_120, dX11_changes_40, dX11_changes_43, dX11_changes_44, dX11_changes_47, dX11_changes_48, dX11_changes_49, dX11_changes_50, dX11_changes_51, dX11_changes_54, dX11_changes_57, dX11_changes_58]
  refine hG.callV dX11_changes_22 mv_11_216 [.ref 30] [] (c6_placedOf l X (d - 1) sh mI mL mR n 20 C 30 s6 ks.2 sc c4 (A 0 0) z1 (A 11) z2) ⟨_, rfl, rfl⟩ s6 (by omega) rfl (by decide) (by simp) rfl ?_
  rintro r M' ⟨rfl, rfl⟩
  refine hG.run [29, 47] 20 ?_
  simp [wp, stepI, ln, jmp, cmpI, Value.category, rd, tyF, va_rf, st1, st2, clr, isLg, CB, inx_0, inx_1, inx_2, inx_3, inx_4, inx_5, bI_0, bI_1, bI_ok, fin3, tyX11, entL, q0, dX11_changes_0, dX11_changes_1, fT_11_23, dX11_changes_4, fT_11_104, dX11_changes_7, fT_11_180, dX11_changes_10, dX11_changes_11, dX11_changes_12, dX11_changes_15, dX11_changes_16, dX11_changes_19, fT_11_117, dX11_changes_22, dX11_changes_25, dX11_changes_26, dX11_changes_29, dX11_changes_30, dX11_changes_33, dX11_changes_34, dX11_changes_37, fT_11_120, dX11_changes_40, dX11_changes_43, dX11_changes_44, dX11_changes_47, dX11_changes_48, dX11_changes_49, dX11_changes_50, dX11_changes_51, dX11_changes_54, dX11_changes_57, dX11_changes_58]
  simp (disch := omega) only [li, nI_add, nI_clamp, nI_ltI, nI_leI, nI_eq, inx_iff, a31, nI_1shl', nI_shr', div_bit, tb1, tb0, fa_or, fa_and, nI_not, pk_sub, nI_dec]
  refine ⟨fun z => bad47 (m1 z), fun h1 => ?_⟩
  refine hG.run [] 20 ?_
  simp [wp, stepI, ln, jmp, cmpI, Value.category, rd, tyF, va_rf, st1, st2, clr, isLg, CB, inx_0, inx_1, inx_2, inx_3, inx_4, inx_5, bI_0, bI_1, bI_ok, fin3, tyX11, entL, q0, b3, s6, kp, tyX6, dX11_changes_0, dX11_changes_1, fT_11_23, dX11_changes_4, fT_11_104, dX11_changes_7, fT_11_180, dX11_changes_10, dX11_changes_11, dX11_changes_12, dX11_changes_15, dX11_changes_16, dX11_changes_19, fT_11_117, dX11_changes_22, dX11_changes_25, dX11_changes_26, dX11_changes_29, dX11_changes_30, dX11_changes_33, dX11_changes_34, dX11_changes_37, fT_11_120, dX11_changes_40, dX11_changes_43, dX11_changes_44, dX11_changes_47, dX11_changes_48, dX11_changes_49, dX11_changes_50, dX11_changes_51, dX11_changes_54, dX11_changes_57, dX11_changes_58]
  refine hG.callV dX11_changes_40 mv_11_216 [.ref 31] [] (c6_placedOf l X (d - 1) sh mI mL mR n 20 C 31 s6 kp.2 sc c4 (A 0 0) z1 (A 12) z3) ⟨_, rfl, rfl⟩ s6 (by omega) rfl (by decide) (by simp) rfl ?_
  rintro r M' ⟨rfl, rfl⟩
  refine hG.run [47, 49] 20 ?_
  simp [wp, stepI, ln, jmp, cmpI, Value.category, rd, tyF, va_rf, st1, st2, clr, isLg, CB, inx_0, inx_1, inx_2, inx_3, inx_4, inx_5, bI_0, bI_1, bI_ok, fin3, tyX11, entL, q0, dX11_changes_0, dX11_changes_1, fT_11_23, dX11_changes_4, fT_11_104, dX11_changes_7, fT_11_180, dX11_changes_10, dX11_changes_11, dX11_changes_12, dX11_changes_15, dX11_changes_16, dX11_changes_19, fT_11_117, dX11_changes_22, dX11_changes_25, dX11_changes_26, dX11_changes_29, dX11_changes_30, dX11_changes_33, dX11_changes_34, dX11_changes_37, fT_11_120, dX11_changes_40, dX11_changes_43, dX11_changes_44, dX11_changes_47, dX11_changes_48, dX11_changes_49, dX11_changes_50, dX11_changes_51, dX11_changes_54, dX11_changes_57, dX11_changes_58]
  simp (disch := omega) only [li, nI_add, nI_clamp, nI_ltI, nI_leI, nI_eq, inx_iff, a31, nI_1shl', nI_shr', div_bit, tb1, tb0, fa_or, fa_and, nI_not, pk_sub, nI_dec]
  refine ⟨fun h2 => ?_, fun z => bad47 (m2 (by omega))⟩
  have a1 := fb_ct_all.mp (show fb_ct (fun p => !decide (A 11 p = 0)) (A 0 0) = A 0 0 by omega)
  have a2 := fb_ct_all.mp (show fb_ct (fun p => !decide (A 12 p = 0)) (A 0 0) = A 0 0 by omega)
  have n1 : ∀ p, p < A 0 0 → A 11 p ≠ 0 := fun p hp z => by have := a1 p hp; rw [decide_eq_true z] at this; exact absurd this (by decide)
  have n2 : ∀ p, p < A 0 0 → A 12 p ≠ 0 := fun p hp z => by have := a2 p hp; rw [decide_eq_true z] at this; exact absurd this (by decide)
  have u7 := hV.2.2.2.2.2.2.2
  have e1 : chgA (A 0 0) (A 11) (A 12) = nI (A 0 0 - fb_ct (fun p => ldR (A 0 0) (A 11) (A 12) p (A 0 0) p) (A 0 0)) := by
    unfold chgA
    rw [show chOk (A 0 0) (A 11) (A 12) = true from decide_eq_true (fun p hp => ⟨n1 p hp, n2 p hp⟩), if_pos rfl, chg_eq (fun p hp => (z2 p hp).2) (fun p hp => (z3 p hp).2) (fun p q hp hq e => ?_) (fun p q hp hq e => ?_)]
    · refine Classical.byContradiction fun w => ?_
      exact (u7 p q hp hq w).1 (n1 p hp) e
    · refine Classical.byContradiction fun w => ?_
      exact (u7 p q hp hq w).2 (n2 p hp) e
  have qq := hP _ _ ⟨rfl, rfl⟩
  rw [e1] at qq
  refine hG.run [] 20 ?_
  simp [wp, stepI, ln, jmp, cmpI, Value.category, rd, tyF, va_rf, st1, st2, clr, isLg, CB, inx_0, inx_1, inx_2, inx_3, inx_4, inx_5, bI_0, bI_1, bI_ok, fin3, tyX11, entL, q0, b3, dX11_changes_0, dX11_changes_1, fT_11_23, dX11_changes_4, fT_11_104, dX11_changes_7, fT_11_180, dX11_changes_10, dX11_changes_11, dX11_changes_12, dX11_changes_15, dX11_changes_16, dX11_changes_19, fT_11_117, dX11_changes_22, dX11_changes_25, dX11_changes_26, dX11_changes_29, dX11_changes_30, dX11_changes_33, dX11_changes_34, dX11_changes_37, fT_11_120, dX11_changes_40, dX11_changes_43, dX11_changes_44, dX11_changes_47, dX11_changes_48, dX11_changes_49, dX11_changes_50, dX11_changes_51, dX11_changes_54, dX11_changes_57, dX11_changes_58]
  refine hG.callV dX11_changes_54 mv_11_220 [] [.int (nI (A 0 0))] (c6_ringsOfSeats l X (d - 1) sh mI mL mR n 20 C o6 sc c4 (A 0 0) z1 (A 11) (A 12) z2 z3 (by omega)) ⟨_, rfl, rfl⟩ s6 (by omega) rfl (by decide) (by simp [Value.category]) rfl ?_
  rintro r M' ⟨rfl, rfl⟩
  refine hG.run [] 20 ?_
  simp [wp, stepI, ln, jmp, cmpI, Value.category, rd, tyF, va_rf, st1, st2, clr, isLg, CB, inx_0, inx_1, inx_2, inx_3, inx_4, inx_5, bI_0, bI_1, bI_ok, fin3, tyX11, entL, q0, dX11_changes_0, dX11_changes_1, fT_11_23, dX11_changes_4, fT_11_104, dX11_changes_7, fT_11_180, dX11_changes_10, dX11_changes_11, dX11_changes_12, dX11_changes_15, dX11_changes_16, dX11_changes_19, fT_11_117, dX11_changes_22, dX11_changes_25, dX11_changes_26, dX11_changes_29, dX11_changes_30, dX11_changes_33, dX11_changes_34, dX11_changes_37, fT_11_120, dX11_changes_40, dX11_changes_43, dX11_changes_44, dX11_changes_47, dX11_changes_48, dX11_changes_49, dX11_changes_50, dX11_changes_51, dX11_changes_54, dX11_changes_57, dX11_changes_58]
  rw [pk_sub (by omega)]
  exact qq
set_option maxHeartbeats 4000000 in
set_option maxRecDepth 100000 in
theorem c11_unlike (l : Launch) (X : Cx) (d : Nat) (sh : Nat → Option Sh) (mI : Nat → Nat → Int32) (mL : Nat → Nat → Int64) (mR : Nat → Nat → Option Nat) (n : Nat) (hB : BL sh mR) (C : Nat) (A : DD) (hV : AsV A) (hS : ShA sh mI mR n 20 C A) (hd : 1 ≤ d) : Cn l X yX11_unlike cX11_unlike 4 (some .int) d [.ref 0] (sh, mI, mL, mR, n) (fun r M' => r = some (.int (nI (unlA (A 0 0) (A 0 2) (A 5) (A 6) (A 7)))) ∧ M' = (sh, mI, mL, mR, n)) 0 0 := by
  refine Cn.run 11 false (by decide) rfl (by decide) (by simp [entA, Value.category]) ?_
  intro P G hP hG
  have q0 := hB.1
  have b3 := hB.2.2.2.1.1
  have o6 := hB.2.2.2.1.2
  have s6 := o6.1
  have sc := hS.1
  have c4 := hS.2.1.1.1
  have cp := hS.2.1.2.2.2.1.1
  have hnp := hV.1.1
  obtain ⟨z1, z2, z3, z4, -⟩ := hS.s hV
  have e0 : mI C 4 = nI (A 0 0) := cp
  have loop1 : ∀ f i v3, A 0 0 - i < f → i ≤ A 0 0 → G 4 [some (.ref 0), some (.int (nI (fb_sm (fun a => fb_sm (fun b => (decide (a < b) && ulB (A 0 2) (A 5) (A 6) (A 7) a b).toNat) (A 0 0)) i))), some (.int (nI i)), v3] [] (sh, mI, mL, mR, n) := by
    intro f
    induction f with
    | zero => intro i v3 h; omega
    | succ f ih =>
      intro i v3 hf hi
      have loop2 : ∀ f2 j, A 0 0 - j < f2 → j ≤ A 0 0 → i < j → G 22 [some (.ref 0), some (.int (nI (fb_sm (fun a => fb_sm (fun b => (decide (a < b) && ulB (A 0 2) (A 5) (A 6) (A 7) a b).toNat) (A 0 0)) i + fb_sm (fun b => (decide (i < b) && ulB (A 0 2) (A 5) (A 6) (A 7) i b).toNat) j))), some (.int (nI i)), some (.int (nI j))] [] (sh, mI, mL, mR, n) := by
        intro f2
        induction f2 with
        | zero => intro j h; omega
        | succ f2 ih2 =>
          intro j hf2 hj hij
          refine hG.run [4, 22, 36] 30 ?_
          simp [wp, stepI, ln, jmp, cmpI, Value.category, rd, tyF, va_rf, st1, st2, clr, isLg, CB, inx_0, inx_1, inx_2, inx_3, inx_4, inx_5, bI_0, bI_1, bI_ok, fin3, tyX11, entL, q0, b3, s6, sc, c4, tyX6, tyX4, dX11_unlike_0, dX11_unlike_1, dX11_unlike_2, dX11_unlike_3, dX11_unlike_4, dX11_unlike_5, dX11_unlike_6, fT_11_23, dX11_unlike_9, fT_11_104, dX11_unlike_12, fT_11_180, dX11_unlike_15, dX11_unlike_18, dX11_unlike_19, dX11_unlike_20, dX11_unlike_21, dX11_unlike_22, dX11_unlike_23, dX11_unlike_24, dX11_unlike_27, dX11_unlike_30, dX11_unlike_33, dX11_unlike_36, dX11_unlike_37, dX11_unlike_40, dX11_unlike_41, dX11_unlike_42, dX11_unlike_43, dX11_unlike_46, dX11_unlike_49, dX11_unlike_50, dX11_unlike_53, dX11_unlike_54, dX11_unlike_55, dX11_unlike_56, dX11_unlike_59, dX11_unlike_62, dX11_unlike_63, dX11_unlike_66, dX11_unlike_67, dX11_unlike_68, dX11_unlike_69, dX11_unlike_72, dX11_unlike_75, dX11_unlike_76, dX11_unlike_79, dX11_unlike_80, dX11_unlike_81, dX11_unlike_82, dX11_unlike_85, dX11_unlike_88, dX11_unlike_91, dX11_unlike_94, dX11_unlike_97, dX11_unlike_100, dX11_unlike_103, dX11_unlike_104]
          simp (disch := omega) only [li, nI_add, nI_clamp, nI_ltI, nI_leI, nI_eq, inx_iff, a31, nI_1shl', nI_shr', div_bit, tb1, tb0, fa_or, fa_and, nI_not, pk_sub, nI_dec, e0]
          refine ⟨fun h => ?_, fun h => ?_⟩
          · have := ih (i + 1) (some (.int (nI j))) (by omega) (by omega)
            rw [fb_sm_succ, show A 0 0 = j by omega] at this
            rw [show j = A 0 0 by omega] at this ⊢
            exact this
          · have nx : ∀ b : Bool, ulB (A 0 2) (A 5) (A 6) (A 7) i j = b → G 22 [some (.ref 0), some (.int (nI (fb_sm (fun a => fb_sm (fun b => (decide (a < b) && ulB (A 0 2) (A 5) (A 6) (A 7) a b).toNat) (A 0 0)) i + fb_sm (fun b => (decide (i < b) && ulB (A 0 2) (A 5) (A 6) (A 7) i b).toNat) j + b.toNat))), some (.int (nI i)), some (.int (nI (j + 1)))] [] (sh, mI, mL, mR, n) := fun b hb => by
              have := ih2 (j + 1) (by omega) (by omega) (by omega)
              rw [fb_sm_succ (fun b => (decide (i < b) && ulB (A 0 2) (A 5) (A 6) (A 7) i b).toNat), hb, decide_eq_true hij, Bool.true_and, ← Nat.add_assoc] at this
              exact this
            generalize fb_sm (fun a => fb_sm (fun b => (decide (a < b) && ulB (A 0 2) (A 5) (A 6) (A 7) a b).toNat) (A 0 0)) i + fb_sm (fun b => (decide (i < b) && ulB (A 0 2) (A 5) (A 6) (A 7) i b).toNat) j = K at nx ⊢
            have hit : ulB (A 0 2) (A 5) (A 6) (A 7) i j = true → G 88 [some (.ref 0), some (.int (nI K)), some (.int (nI i)), some (.int (nI j))] [] (sh, mI, mL, mR, n) := fun z => by
              have := nx true z
              refine hG.run [4, 22] 30 ?_
              simp [wp, stepI, ln, jmp, cmpI, Value.category, rd, tyF, va_rf, st1, st2, clr, isLg, CB, inx_0, inx_1, inx_2, inx_3, inx_4, inx_5, bI_0, bI_1, bI_ok, fin3, tyX11, entL, q0, dX11_unlike_0, dX11_unlike_1, dX11_unlike_2, dX11_unlike_3, dX11_unlike_4, dX11_unlike_5, dX11_unlike_6, fT_11_23, dX11_unlike_9, fT_11_104, dX11_unlike_12, fT_11_180, dX11_unlike_15, dX11_unlike_18, dX11_unlike_19, dX11_unlike_20, dX11_unlike_21, dX11_unlike_22, dX11_unlike_23, dX11_unlike_24, dX11_unlike_27, dX11_unlike_30, dX11_unlike_33, dX11_unlike_36, dX11_unlike_37, dX11_unlike_40, dX11_unlike_41, dX11_unlike_42, dX11_unlike_43, dX11_unlike_46, dX11_unlike_49, dX11_unlike_50, dX11_unlike_53, dX11_unlike_54, dX11_unlike_55, dX11_unlike_56, dX11_unlike_59, dX11_unlike_62, dX11_unlike_63, dX11_unlike_66, dX11_unlike_67, dX11_unlike_68, dX11_unlike_69, dX11_unlike_72, dX11_unlike_75, dX11_unlike_76, dX11_unlike_79, dX11_unlike_80, dX11_unlike_81, dX11_unlike_82, dX11_unlike_85, dX11_unlike_88, dX11_unlike_91, dX11_unlike_94, dX11_unlike_97, dX11_unlike_100, dX11_unlike_103, dX11_unlike_104]
              simp (disch := omega) only [li, nI_add, nI_clamp, nI_ltI, nI_leI, nI_eq, inx_iff, a31, nI_1shl', nI_shr', div_bit, tb1, tb0, fa_or, fa_and, nI_not, pk_sub, nI_dec]
              exact this
            have miss : ulB (A 0 2) (A 5) (A 6) (A 7) i j = false → G 91 [some (.ref 0), some (.int (nI K)), some (.int (nI i)), some (.int (nI j))] [] (sh, mI, mL, mR, n) := fun z => by
              have := nx false z
              refine hG.run [4, 22] 30 ?_
              simp [wp, stepI, ln, jmp, cmpI, Value.category, rd, tyF, va_rf, st1, st2, clr, isLg, CB, inx_0, inx_1, inx_2, inx_3, inx_4, inx_5, bI_0, bI_1, bI_ok, fin3, tyX11, entL, q0, dX11_unlike_0, dX11_unlike_1, dX11_unlike_2, dX11_unlike_3, dX11_unlike_4, dX11_unlike_5, dX11_unlike_6, fT_11_23, dX11_unlike_9, fT_11_104, dX11_unlike_12, fT_11_180, dX11_unlike_15, dX11_unlike_18, dX11_unlike_19, dX11_unlike_20, dX11_unlike_21, dX11_unlike_22, dX11_unlike_23, dX11_unlike_24, dX11_unlike_27, dX11_unlike_30, dX11_unlike_33, dX11_unlike_36, dX11_unlike_37, dX11_unlike_40, dX11_unlike_41, dX11_unlike_42, dX11_unlike_43, dX11_unlike_46, dX11_unlike_49, dX11_unlike_50, dX11_unlike_53, dX11_unlike_54, dX11_unlike_55, dX11_unlike_56, dX11_unlike_59, dX11_unlike_62, dX11_unlike_63, dX11_unlike_66, dX11_unlike_67, dX11_unlike_68, dX11_unlike_69, dX11_unlike_72, dX11_unlike_75, dX11_unlike_76, dX11_unlike_79, dX11_unlike_80, dX11_unlike_81, dX11_unlike_82, dX11_unlike_85, dX11_unlike_88, dX11_unlike_91, dX11_unlike_94, dX11_unlike_97, dX11_unlike_100, dX11_unlike_103, dX11_unlike_104]
              simp (disch := omega) only [li, nI_add, nI_clamp, nI_ltI, nI_leI, nI_eq, inx_iff, a31, nI_1shl', nI_shr', div_bit, tb1, tb0, fa_or, fa_and, nI_not, pk_sub, nI_dec]
              exact this
            have call : ∀ w a b, w < 2 → a < 10 → b < 10 → Cn l X yX6_isSaid cX6_isSaid 5 (some .boolean) (d - 1) [.ref 20, .int (nI a), .int (nI b), .int (nI w)] (sh, mI, mL, mR, n) (fun r M' => M' = (sh, mI, mL, mR, n) ∧ r = some (.int (bI (sdB (A 0 2) (A 5) (A 6) (A 7) w a b)))) 0 0 := fun w a b h1 h2 h3 => c6_isSaid l X (d - 1) sh mI mL mR n 20 o6 (A 0 2) (A 5) (A 6) (A 7) z4 a b w h1 h2 h3
            have tail : (sdB (A 0 2) (A 5) (A 6) (A 7) 0 i j && sdB (A 0 2) (A 5) (A 6) (A 7) 1 j i) = false → G 62 [some (.ref 0), some (.int (nI K)), some (.int (nI i)), some (.int (nI j))] [] (sh, mI, mL, mR, n) := fun z => by
              refine hG.run [] 30 ?_
              simp [wp, stepI, ln, jmp, cmpI, Value.category, rd, tyF, va_rf, st1, st2, clr, isLg, CB, inx_0, inx_1, inx_2, inx_3, inx_4, inx_5, bI_0, bI_1, bI_ok, fin3, tyX11, entL, q0, b3, dX11_unlike_0, dX11_unlike_1, dX11_unlike_2, dX11_unlike_3, dX11_unlike_4, dX11_unlike_5, dX11_unlike_6, fT_11_23, dX11_unlike_9, fT_11_104, dX11_unlike_12, fT_11_180, dX11_unlike_15, dX11_unlike_18, dX11_unlike_19, dX11_unlike_20, dX11_unlike_21, dX11_unlike_22, dX11_unlike_23, dX11_unlike_24, dX11_unlike_27, dX11_unlike_30, dX11_unlike_33, dX11_unlike_36, dX11_unlike_37, dX11_unlike_40, dX11_unlike_41, dX11_unlike_42, dX11_unlike_43, dX11_unlike_46, dX11_unlike_49, dX11_unlike_50, dX11_unlike_53, dX11_unlike_54, dX11_unlike_55, dX11_unlike_56, dX11_unlike_59, dX11_unlike_62, dX11_unlike_63, dX11_unlike_66, dX11_unlike_67, dX11_unlike_68, dX11_unlike_69, dX11_unlike_72, dX11_unlike_75, dX11_unlike_76, dX11_unlike_79, dX11_unlike_80, dX11_unlike_81, dX11_unlike_82, dX11_unlike_85, dX11_unlike_88, dX11_unlike_91, dX11_unlike_94, dX11_unlike_97, dX11_unlike_100, dX11_unlike_103, dX11_unlike_104]
              refine hG.callV dX11_unlike_69 mv_11_183 [.int (nI j), .int (nI i), .int (nI 0)] [] (call 0 j i (by omega) (by omega) (by omega)) ⟨_, rfl, rfl⟩ s6 (by omega) rfl (by decide) (by simp [Value.category]) rfl ?_
              rintro r M' ⟨rfl, rfl⟩
              refine hG.run [75, 91] 30 ?_
              simp [wp, stepI, ln, jmp, cmpI, Value.category, rd, tyF, va_rf, st1, st2, clr, isLg, CB, inx_0, inx_1, inx_2, inx_3, inx_4, inx_5, bI_0, bI_1, bI_ok, fin3, tyX11, entL, q0, dX11_unlike_0, dX11_unlike_1, dX11_unlike_2, dX11_unlike_3, dX11_unlike_4, dX11_unlike_5, dX11_unlike_6, fT_11_23, dX11_unlike_9, fT_11_104, dX11_unlike_12, fT_11_180, dX11_unlike_15, dX11_unlike_18, dX11_unlike_19, dX11_unlike_20, dX11_unlike_21, dX11_unlike_22, dX11_unlike_23, dX11_unlike_24, dX11_unlike_27, dX11_unlike_30, dX11_unlike_33, dX11_unlike_36, dX11_unlike_37, dX11_unlike_40, dX11_unlike_41, dX11_unlike_42, dX11_unlike_43, dX11_unlike_46, dX11_unlike_49, dX11_unlike_50, dX11_unlike_53, dX11_unlike_54, dX11_unlike_55, dX11_unlike_56, dX11_unlike_59, dX11_unlike_62, dX11_unlike_63, dX11_unlike_66, dX11_unlike_67, dX11_unlike_68, dX11_unlike_69, dX11_unlike_72, dX11_unlike_75, dX11_unlike_76, dX11_unlike_79, dX11_unlike_80, dX11_unlike_81, dX11_unlike_82, dX11_unlike_85, dX11_unlike_88, dX11_unlike_91, dX11_unlike_94, dX11_unlike_97, dX11_unlike_100, dX11_unlike_103, dX11_unlike_104]
              refine ⟨fun z1 => miss (by simp [ulB, z, z1]), fun z1 => ?_⟩
              refine hG.run [] 30 ?_
              simp [wp, stepI, ln, jmp, cmpI, Value.category, rd, tyF, va_rf, st1, st2, clr, isLg, CB, inx_0, inx_1, inx_2, inx_3, inx_4, inx_5, bI_0, bI_1, bI_ok, fin3, tyX11, entL, q0, b3, dX11_unlike_0, dX11_unlike_1, dX11_unlike_2, dX11_unlike_3, dX11_unlike_4, dX11_unlike_5, dX11_unlike_6, fT_11_23, dX11_unlike_9, fT_11_104, dX11_unlike_12, fT_11_180, dX11_unlike_15, dX11_unlike_18, dX11_unlike_19, dX11_unlike_20, dX11_unlike_21, dX11_unlike_22, dX11_unlike_23, dX11_unlike_24, dX11_unlike_27, dX11_unlike_30, dX11_unlike_33, dX11_unlike_36, dX11_unlike_37, dX11_unlike_40, dX11_unlike_41, dX11_unlike_42, dX11_unlike_43, dX11_unlike_46, dX11_unlike_49, dX11_unlike_50, dX11_unlike_53, dX11_unlike_54, dX11_unlike_55, dX11_unlike_56, dX11_unlike_59, dX11_unlike_62, dX11_unlike_63, dX11_unlike_66, dX11_unlike_67, dX11_unlike_68, dX11_unlike_69, dX11_unlike_72, dX11_unlike_75, dX11_unlike_76, dX11_unlike_79, dX11_unlike_80, dX11_unlike_81, dX11_unlike_82, dX11_unlike_85, dX11_unlike_88, dX11_unlike_91, dX11_unlike_94, dX11_unlike_97, dX11_unlike_100, dX11_unlike_103, dX11_unlike_104]
              refine hG.callV dX11_unlike_82 mv_11_183 [.int (nI i), .int (nI j), .int (nI 1)] [] (call 1 i j (by omega) (by omega) (by omega)) ⟨_, rfl, rfl⟩ s6 (by omega) rfl (by decide) (by simp [Value.category]) rfl ?_
              rintro r M' ⟨rfl, rfl⟩
              refine hG.run [88, 91] 30 ?_
              simp [wp, stepI, ln, jmp, cmpI, Value.category, rd, tyF, va_rf, st1, st2, clr, isLg, CB, inx_0, inx_1, inx_2, inx_3, inx_4, inx_5, bI_0, bI_1, bI_ok, fin3, tyX11, entL, q0, dX11_unlike_0, dX11_unlike_1, dX11_unlike_2, dX11_unlike_3, dX11_unlike_4, dX11_unlike_5, dX11_unlike_6, fT_11_23, dX11_unlike_9, fT_11_104, dX11_unlike_12, fT_11_180, dX11_unlike_15, dX11_unlike_18, dX11_unlike_19, dX11_unlike_20, dX11_unlike_21, dX11_unlike_22, dX11_unlike_23, dX11_unlike_24, dX11_unlike_27, dX11_unlike_30, dX11_unlike_33, dX11_unlike_36, dX11_unlike_37, dX11_unlike_40, dX11_unlike_41, dX11_unlike_42, dX11_unlike_43, dX11_unlike_46, dX11_unlike_49, dX11_unlike_50, dX11_unlike_53, dX11_unlike_54, dX11_unlike_55, dX11_unlike_56, dX11_unlike_59, dX11_unlike_62, dX11_unlike_63, dX11_unlike_66, dX11_unlike_67, dX11_unlike_68, dX11_unlike_69, dX11_unlike_72, dX11_unlike_75, dX11_unlike_76, dX11_unlike_79, dX11_unlike_80, dX11_unlike_81, dX11_unlike_82, dX11_unlike_85, dX11_unlike_88, dX11_unlike_91, dX11_unlike_94, dX11_unlike_97, dX11_unlike_100, dX11_unlike_103, dX11_unlike_104]
              exact ⟨fun z2 => miss (by simp [ulB, z, z2]), fun z2 => hit (by simp [ulB, z1, z2])⟩
            refine hG.run [] 30 ?_
            simp [wp, stepI, ln, jmp, cmpI, Value.category, rd, tyF, va_rf, st1, st2, clr, isLg, CB, inx_0, inx_1, inx_2, inx_3, inx_4, inx_5, bI_0, bI_1, bI_ok, fin3, tyX11, entL, q0, b3, dX11_unlike_0, dX11_unlike_1, dX11_unlike_2, dX11_unlike_3, dX11_unlike_4, dX11_unlike_5, dX11_unlike_6, fT_11_23, dX11_unlike_9, fT_11_104, dX11_unlike_12, fT_11_180, dX11_unlike_15, dX11_unlike_18, dX11_unlike_19, dX11_unlike_20, dX11_unlike_21, dX11_unlike_22, dX11_unlike_23, dX11_unlike_24, dX11_unlike_27, dX11_unlike_30, dX11_unlike_33, dX11_unlike_36, dX11_unlike_37, dX11_unlike_40, dX11_unlike_41, dX11_unlike_42, dX11_unlike_43, dX11_unlike_46, dX11_unlike_49, dX11_unlike_50, dX11_unlike_53, dX11_unlike_54, dX11_unlike_55, dX11_unlike_56, dX11_unlike_59, dX11_unlike_62, dX11_unlike_63, dX11_unlike_66, dX11_unlike_67, dX11_unlike_68, dX11_unlike_69, dX11_unlike_72, dX11_unlike_75, dX11_unlike_76, dX11_unlike_79, dX11_unlike_80, dX11_unlike_81, dX11_unlike_82, dX11_unlike_85, dX11_unlike_88, dX11_unlike_91, dX11_unlike_94, dX11_unlike_97, dX11_unlike_100, dX11_unlike_103, dX11_unlike_104]
            refine hG.callV dX11_unlike_43 mv_11_183 [.int (nI i), .int (nI j), .int (nI 0)] [] (call 0 i j (by omega) (by omega) (by omega)) ⟨_, rfl, rfl⟩ s6 (by omega) rfl (by decide) (by simp [Value.category]) rfl ?_
            rintro r M' ⟨rfl, rfl⟩
            refine hG.run [49, 62] 30 ?_
            simp [wp, stepI, ln, jmp, cmpI, Value.category, rd, tyF, va_rf, st1, st2, clr, isLg, CB, inx_0, inx_1, inx_2, inx_3, inx_4, inx_5, bI_0, bI_1, bI_ok, fin3, tyX11, entL, q0, dX11_unlike_0, dX11_unlike_1, dX11_unlike_2, dX11_unlike_3, dX11_unlike_4, dX11_unlike_5, dX11_unlike_6, fT_11_23, dX11_unlike_9, fT_11_104, dX11_unlike_12, fT_11_180, dX11_unlike_15, dX11_unlike_18, dX11_unlike_19, dX11_unlike_20, dX11_unlike_21, dX11_unlike_22, dX11_unlike_23, dX11_unlike_24, dX11_unlike_27, dX11_unlike_30, dX11_unlike_33, dX11_unlike_36, dX11_unlike_37, dX11_unlike_40, dX11_unlike_41, dX11_unlike_42, dX11_unlike_43, dX11_unlike_46, dX11_unlike_49, dX11_unlike_50, dX11_unlike_53, dX11_unlike_54, dX11_unlike_55, dX11_unlike_56, dX11_unlike_59, dX11_unlike_62, dX11_unlike_63, dX11_unlike_66, dX11_unlike_67, dX11_unlike_68, dX11_unlike_69, dX11_unlike_72, dX11_unlike_75, dX11_unlike_76, dX11_unlike_79, dX11_unlike_80, dX11_unlike_81, dX11_unlike_82, dX11_unlike_85, dX11_unlike_88, dX11_unlike_91, dX11_unlike_94, dX11_unlike_97, dX11_unlike_100, dX11_unlike_103, dX11_unlike_104]
            refine ⟨fun z1 => tail (by simp [z1]), fun z1 => ?_⟩
            refine hG.run [] 30 ?_
            simp [wp, stepI, ln, jmp, cmpI, Value.category, rd, tyF, va_rf, st1, st2, clr, isLg, CB, inx_0, inx_1, inx_2, inx_3, inx_4, inx_5, bI_0, bI_1, bI_ok, fin3, tyX11, entL, q0, b3, dX11_unlike_0, dX11_unlike_1, dX11_unlike_2, dX11_unlike_3, dX11_unlike_4, dX11_unlike_5, dX11_unlike_6, fT_11_23, dX11_unlike_9, fT_11_104, dX11_unlike_12, fT_11_180, dX11_unlike_15, dX11_unlike_18, dX11_unlike_19, dX11_unlike_20, dX11_unlike_21, dX11_unlike_22, dX11_unlike_23, dX11_unlike_24, dX11_unlike_27, dX11_unlike_30, dX11_unlike_33, dX11_unlike_36, dX11_unlike_37, dX11_unlike_40, dX11_unlike_41, dX11_unlike_42, dX11_unlike_43, dX11_unlike_46, dX11_unlike_49, dX11_unlike_50, dX11_unlike_53, dX11_unlike_54, dX11_unlike_55, dX11_unlike_56, dX11_unlike_59, dX11_unlike_62, dX11_unlike_63, dX11_unlike_66, dX11_unlike_67, dX11_unlike_68, dX11_unlike_69, dX11_unlike_72, dX11_unlike_75, dX11_unlike_76, dX11_unlike_79, dX11_unlike_80, dX11_unlike_81, dX11_unlike_82, dX11_unlike_85, dX11_unlike_88, dX11_unlike_91, dX11_unlike_94, dX11_unlike_97, dX11_unlike_100, dX11_unlike_103, dX11_unlike_104]
            refine hG.callV dX11_unlike_56 mv_11_183 [.int (nI j), .int (nI i), .int (nI 1)] [] (call 1 j i (by omega) (by omega) (by omega)) ⟨_, rfl, rfl⟩ s6 (by omega) rfl (by decide) (by simp [Value.category]) rfl ?_
            rintro r M' ⟨rfl, rfl⟩
            refine hG.run [62, 88] 30 ?_
            simp [wp, stepI, ln, jmp, cmpI, Value.category, rd, tyF, va_rf, st1, st2, clr, isLg, CB, inx_0, inx_1, inx_2, inx_3, inx_4, inx_5, bI_0, bI_1, bI_ok, fin3, tyX11, entL, q0, dX11_unlike_0, dX11_unlike_1, dX11_unlike_2, dX11_unlike_3, dX11_unlike_4, dX11_unlike_5, dX11_unlike_6, fT_11_23, dX11_unlike_9, fT_11_104, dX11_unlike_12, fT_11_180, dX11_unlike_15, dX11_unlike_18, dX11_unlike_19, dX11_unlike_20, dX11_unlike_21, dX11_unlike_22, dX11_unlike_23, dX11_unlike_24, dX11_unlike_27, dX11_unlike_30, dX11_unlike_33, dX11_unlike_36, dX11_unlike_37, dX11_unlike_40, dX11_unlike_41, dX11_unlike_42, dX11_unlike_43, dX11_unlike_46, dX11_unlike_49, dX11_unlike_50, dX11_unlike_53, dX11_unlike_54, dX11_unlike_55, dX11_unlike_56, dX11_unlike_59, dX11_unlike_62, dX11_unlike_63, dX11_unlike_66, dX11_unlike_67, dX11_unlike_68, dX11_unlike_69, dX11_unlike_72, dX11_unlike_75, dX11_unlike_76, dX11_unlike_79, dX11_unlike_80, dX11_unlike_81, dX11_unlike_82, dX11_unlike_85, dX11_unlike_88, dX11_unlike_91, dX11_unlike_94, dX11_unlike_97, dX11_unlike_100, dX11_unlike_103, dX11_unlike_104]
            exact ⟨fun z2 => hit (by simp [ulB, z1, z2]), fun z2 => tail (by simp [z2])⟩
      refine hG.run [22] 30 ?_
      simp [wp, stepI, ln, jmp, cmpI, Value.category, rd, tyF, va_rf, st1, st2, clr, isLg, CB, inx_0, inx_1, inx_2, inx_3, inx_4, inx_5, bI_0, bI_1, bI_ok, fin3, tyX11, entL, q0, b3, s6, sc, c4, tyX6, tyX4, dX11_unlike_0, dX11_unlike_1, dX11_unlike_2, dX11_unlike_3, dX11_unlike_4, dX11_unlike_5, dX11_unlike_6, fT_11_23, dX11_unlike_9, fT_11_104, dX11_unlike_12, fT_11_180, dX11_unlike_15, dX11_unlike_18, dX11_unlike_19, dX11_unlike_20, dX11_unlike_21, dX11_unlike_22, dX11_unlike_23, dX11_unlike_24, dX11_unlike_27, dX11_unlike_30, dX11_unlike_33, dX11_unlike_36, dX11_unlike_37, dX11_unlike_40, dX11_unlike_41, dX11_unlike_42, dX11_unlike_43, dX11_unlike_46, dX11_unlike_49, dX11_unlike_50, dX11_unlike_53, dX11_unlike_54, dX11_unlike_55, dX11_unlike_56, dX11_unlike_59, dX11_unlike_62, dX11_unlike_63, dX11_unlike_66, dX11_unlike_67, dX11_unlike_68, dX11_unlike_69, dX11_unlike_72, dX11_unlike_75, dX11_unlike_76, dX11_unlike_79, dX11_unlike_80, dX11_unlike_81, dX11_unlike_82, dX11_unlike_85, dX11_unlike_88, dX11_unlike_91, dX11_unlike_94, dX11_unlike_97, dX11_unlike_100, dX11_unlike_103, dX11_unlike_104]
      simp (disch := omega) only [li, nI_add, nI_clamp, nI_ltI, nI_leI, nI_eq, inx_iff, a31, nI_1shl', nI_shr', div_bit, tb1, tb0, fa_or, fa_and, nI_not, pk_sub, nI_dec, e0]
      refine ⟨fun h => hP _ _ ⟨by rw [show i = A 0 0 by omega]; rfl, rfl⟩, fun h => ?_⟩
      have := loop2 (A 0 0 + 1) (i + 1) (by omega) (by omega) (by omega)
      rw [fb_sm_0 (f := fun b => (decide (i < b) && ulB (A 0 2) (A 5) (A 6) (A 7) i b).toNat) (fun k hk => by rw [decide_eq_false (by omega)]; rfl), Nat.add_zero] at this
      exact this
  have := loop1 (A 0 0 + 1) 0 none (by omega) (Nat.zero_le _)
  refine hG.run [4] 30 ?_
  simp [wp, stepI, ln, jmp, cmpI, Value.category, rd, tyF, va_rf, st1, st2, clr, isLg, CB, inx_0, inx_1, inx_2, inx_3, inx_4, inx_5, bI_0, bI_1, bI_ok, fin3, tyX11, entL, q0, dX11_unlike_0, dX11_unlike_1, dX11_unlike_2, dX11_unlike_3, dX11_unlike_4, dX11_unlike_5, dX11_unlike_6, fT_11_23, dX11_unlike_9, fT_11_104, dX11_unlike_12, fT_11_180, dX11_unlike_15, dX11_unlike_18, dX11_unlike_19, dX11_unlike_20, dX11_unlike_21, dX11_unlike_22, dX11_unlike_23, dX11_unlike_24, dX11_unlike_27, dX11_unlike_30, dX11_unlike_33, dX11_unlike_36, dX11_unlike_37, dX11_unlike_40, dX11_unlike_41, dX11_unlike_42, dX11_unlike_43, dX11_unlike_46, dX11_unlike_49, dX11_unlike_50, dX11_unlike_53, dX11_unlike_54, dX11_unlike_55, dX11_unlike_56, dX11_unlike_59, dX11_unlike_62, dX11_unlike_63, dX11_unlike_66, dX11_unlike_67, dX11_unlike_68, dX11_unlike_69, dX11_unlike_72, dX11_unlike_75, dX11_unlike_76, dX11_unlike_79, dX11_unlike_80, dX11_unlike_81, dX11_unlike_82, dX11_unlike_85, dX11_unlike_88, dX11_unlike_91, dX11_unlike_94, dX11_unlike_97, dX11_unlike_100, dX11_unlike_103, dX11_unlike_104]
  exact this
set_option maxHeartbeats 800000 in
set_option maxRecDepth 100000 in
theorem c11_needed (l : Launch) (X : Cx) (d : Nat) (sh : Nat → Option Sh) (mI : Nat → Nat → Int32) (mL : Nat → Nat → Int64) (mR : Nat → Nat → Option Nat) (n : Nat) (hB : BL sh mR) (C : Nat) (A : DD) (hV : AsV A) (hS : ShA sh mI mR n 20 C A) (hd : 24 ≤ d) : Cn l X yX11_needed cX11_needed 1 (some .int) d [.ref 0] (sh, mI, mL, mR, n) (fun r M' => r = some (.int (nedA (A 0 0) (A 0 2) (A 5) (A 6) (ndN (A 0 0)))) ∧ ∃ mI' mL', M' = (sh, mI', mL', mR, n) ∧ (∀ a k, ¬ (54 ≤ a ∧ a ≤ 57) → mI' a k = mI a k) ∧ (∀ a k, ¬ (54 ≤ a ∧ a ≤ 57) → mL' a k = mL a k)) 0 0 := by
  refine Cn.run 11 false (by decide) rfl (by decide) (by simp [entA, Value.category]) ?_
  intro P G hP hG
  have q0 := hB.1
  have b3 := hB.2.2.2.1.1
  have o6 := hB.2.2.2.1.2
  have s6 := o6.1
  have sc := hS.1
  have o4 := hS.2.1.1
  have c4 := o4.1
  have cp := hS.2.1.2.2.2.1.1
  have cr := hS.2.1.c
  have hnp := hV.1.1
  have b9 := hB.2.2.2.2.2.2.2.2.2.1.1
  have o0 := hB.2.2.2.2.2.2.2.2.2.1.2
  have s0 := o0.1
  obtain ⟨z1, z2, z3, z4, -⟩ := hS.s hV
  by_cases h5 : A 0 0 ≤ 5
  · have mid : G 18 [some (.ref 0)] [] (sh, mI, mL, mR, n) := by
      refine hG.run [] 20 ?_
      simp [wp, stepI, ln, jmp, cmpI, Value.category, rd, tyF, va_rf, st1, st2, clr, isLg, CB, inx_0, inx_1, inx_2, inx_3, inx_4, inx_5, bI_0, bI_1, bI_ok, fin3, tyX11, entL, q0, b3, b9, dX11_needed_0, dX11_needed_1, fT_11_23, dX11_needed_4, fT_11_104, dX11_needed_7, fT_11_180, dX11_needed_10, dX11_needed_11, dX11_needed_14, dX11_needed_15, dX11_needed_18, dX11_needed_19, fT_11_60, dX11_needed_22, dX11_needed_23, dX11_needed_26, dX11_needed_29]
      refine hG.callV dX11_needed_26 mv_11_203 [.ref 20] [] (c0_fewestAsks l X (d - 1) sh mI mL mR n 54 20 C o0 o6 sc o4 (by omega) (by omega) (A 0 0) h5 z1 (A 0 2) (A 5) (A 6) (A 7) z4 hV.say (by omega)) ⟨_, rfl, rfl⟩ s0 (by omega) rfl (by decide) (by simp) rfl ?_
      rintro r M' ⟨rfl, mI1, mL1, rfl, f1, f2⟩
      have q := hP _ _ ⟨rfl, mI1, mL1, rfl, fun a k h => f1 a k (by omega) (by omega), fun a k h => f2 a k (by omega) (by omega)⟩
      rw [← ask_ned h5 hV.say] at q
      refine hG.run [] 20 ?_
      simp [wp, stepI, ln, jmp, cmpI, Value.category, rd, tyF, va_rf, st1, st2, clr, isLg, CB, inx_0, inx_1, inx_2, inx_3, inx_4, inx_5, bI_0, bI_1, bI_ok, fin3, tyX11, entL, q0, dX11_needed_0, dX11_needed_1, fT_11_23, dX11_needed_4, fT_11_104, dX11_needed_7, fT_11_180, dX11_needed_10, dX11_needed_11, dX11_needed_14, dX11_needed_15, dX11_needed_18, dX11_needed_19, fT_11_60, dX11_needed_22, dX11_needed_23, dX11_needed_26, dX11_needed_29]
      exact q
    refine hG.run [18] 20 ?_
    simp [wp, stepI, ln, jmp, cmpI, Value.category, rd, tyF, va_rf, st1, st2, clr, isLg, CB, inx_0, inx_1, inx_2, inx_3, inx_4, inx_5, bI_0, bI_1, bI_ok, fin3, tyX11, entL, q0, b3, s6, sc, c4, cp, tyX6, tyX4, dX11_needed_0, dX11_needed_1, fT_11_23, dX11_needed_4, fT_11_104, dX11_needed_7, fT_11_180, dX11_needed_10, dX11_needed_11, dX11_needed_14, dX11_needed_15, dX11_needed_18, dX11_needed_19, fT_11_60, dX11_needed_22, dX11_needed_23, dX11_needed_26, dX11_needed_29]
    simp (disch := omega) only [li, nI_add, nI_clamp, nI_ltI, nI_leI, nI_eq, inx_iff, a31, nI_1shl', nI_shr', div_bit, tb1, tb0, fa_or, fa_and, nI_not, pk_sub, nI_dec]
    exact ⟨fun _ => mid, fun z => by omega⟩
  · have q := hP _ _ ⟨rfl, mI, mL, rfl, fun _ _ _ => rfl, fun _ _ _ => rfl⟩
    have e : nedA (A 0 0) (A 0 2) (A 5) (A 6) (ndN (A 0 0)) = -1 := by unfold nedA; rw [if_neg (fun z => h5 z.1)]; rfl
    rw [e] at q
    refine hG.run [18] 20 ?_
    simp [wp, stepI, ln, jmp, cmpI, Value.category, rd, tyF, va_rf, st1, st2, clr, isLg, CB, inx_0, inx_1, inx_2, inx_3, inx_4, inx_5, bI_0, bI_1, bI_ok, fin3, tyX11, entL, q0, b3, s6, sc, c4, cp, tyX6, tyX4, dX11_needed_0, dX11_needed_1, fT_11_23, dX11_needed_4, fT_11_104, dX11_needed_7, fT_11_180, dX11_needed_10, dX11_needed_11, dX11_needed_14, dX11_needed_15, dX11_needed_18, dX11_needed_19, fT_11_60, dX11_needed_22, dX11_needed_23, dX11_needed_26, dX11_needed_29]
    simp (disch := omega) only [li, nI_add, nI_clamp, nI_ltI, nI_leI, nI_eq, inx_iff, a31, nI_1shl', nI_shr', div_bit, tb1, tb0, fa_or, fa_and, nI_not, pk_sub, nI_dec]
    exact ⟨fun z => absurd z h5, fun _ => q⟩
