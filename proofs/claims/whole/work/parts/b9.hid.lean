/-! hidden -/
def ScT2 (mI : Nat → Nat → Int32) (C np nb : Nat) (ta ro : Nat → Nat) : Prop := (∀ p, p < np → mI (C + 2) p = nI (ta p) ∧ ta p ≤ 99) ∧ nb ≤ 6 ∧ ∀ k, k < nb → mI (C + 3) k = nI (ro k) ∧ ro k ≤ 9
set_option maxHeartbeats 4000000 in
set_option maxRecDepth 100000 in
theorem c6_sitsBefore2 (l : Launch) (X : Cx) (d : Nat) (sh : Nat → Option Sh) (mI : Nat → Nat → Int32) (mL : Nat → Nat → Int64) (mR : Nat → Nat → Option Nat) (n : Nat) (S C : Nat) (hO : OL sh mR S 6 ob6) (hsc : mR S 0 = some C) (hC : OL sh mR C 4 ob4) (np nb : Nat) (ta ro : Nat → Nat) (hR : ScT2 mI C np nb ta ro) (a b : Nat) (ha : a < 2 * nb) (hb : b < 2 * nb) : Cn l X yX6_sitsBefore cX6_sitsBefore 3 (some .boolean) d [.ref S, .int (nI a), .int (nI b)] (sh, mI, mL, mR, n) (fun r M' => M' = (sh, mI, mL, mR, n) ∧ r = some (.int (bI (decide (a % 2 = b % 2) && decide (ro (a / 2) < ro (b / 2)))))) 0 0 := by
  refine Cn.run 6 false (by decide) rfl (by decide) (by simp [entA, Value.category]) ?_
  intro P G hP hG
  have q0 := hO.1
  have u0 := hC.1
  have u_b := hC.2.2 (2, 3, .int, 6) (by decide)
  dsimp only at u_b
  have n6 := hR.2.1
  obtain ⟨r1, r2⟩ := hR.2.2 (a / 2) (by omega)
  obtain ⟨r3, r4⟩ := hR.2.2 (b / 2) (by omega)
  refine hG.run [] 40 ?_
  simp [wp, stepI, ln, jmp, cmpI, Value.category, rd, tyF, va_rf, st1, st2, clr, isLg, CB, inx_0, inx_1, inx_2, inx_3, inx_4, inx_5, bI_0, bI_1, bI_ok, fin3, tyX6, entL, q0, hsc, u0, tyX4, u_b, dX6_sitsBefore_0, dX6_sitsBefore_1, dX6_sitsBefore_2, dX6_sitsBefore_3, dX6_sitsBefore_4, dX6_sitsBefore_5, dX6_sitsBefore_6, dX6_sitsBefore_9, dX6_sitsBefore_10, fT_6_12, dX6_sitsBefore_13, fT_6_68, dX6_sitsBefore_16, dX6_sitsBefore_17, dX6_sitsBefore_18, dX6_sitsBefore_19, dX6_sitsBefore_20, dX6_sitsBefore_21, dX6_sitsBefore_24, dX6_sitsBefore_27, dX6_sitsBefore_28, dX6_sitsBefore_29, dX6_sitsBefore_30, dX6_sitsBefore_31, dX6_sitsBefore_34, dX6_sitsBefore_35, dX6_sitsBefore_38, dX6_sitsBefore_39]
  simp (disch := omega) only [li, nI_add, nI_clamp, nI_ltI, nI_leI, nI_eq, inx_iff, a31, nI_1shl', nI_shr', div_bit, tb1, tb0, fa_or, fa_and, nI_not, pk_sub, nI_dec, nI_r2, nI_dv2, nI_md2, r1, r3]
  refine ⟨fun z => hP _ _ ⟨rfl, by rw [decide_eq_false z]; rfl⟩, fun z => ⟨by omega, by omega, fun y => hP _ _ ⟨rfl, by rw [decide_eq_false (show ¬ ro (a / 2) < ro (b / 2) by omega), Bool.and_false]; rfl⟩, fun y => hP _ _ ⟨rfl, by rw [decide_eq_true z, decide_eq_true y]; rfl⟩⟩⟩
set_option maxHeartbeats 4000000 in
set_option maxRecDepth 100000 in
theorem c6_tallerAhead2 (l : Launch) (X : Cx) (d : Nat) (sh : Nat → Option Sh) (mI : Nat → Nat → Int32) (mL : Nat → Nat → Int64) (mR : Nat → Nat → Option Nat) (n : Nat) (S C : Nat) (hO : OL sh mR S 6 ob6) (hsc : mR S 0 = some C) (hC : OL sh mR C 4 ob4) (np : Nat) (hp : ScP mI C np) (nb : Nat) (ta ro : Nat → Nat) (hR : ScT2 mI C np nb ta ro) (st : Nat → Nat) (hT : SeR mI (S + 10) np st) (hst : ∀ p, p < np → st p ≤ 2 * nb) (p : Nat) (hpn : p < np) (hs : st p ≠ 0) (hd : 1 ≤ d) : Cn l X yX6_tallerAhead cX6_tallerAhead 5 (some .int) d [.ref S, .int (nI p)] (sh, mI, mL, mR, n) (fun r M' => M' = (sh, mI, mL, mR, n) ∧ r = some (.int (nI (hidN np st ta ro p)))) 0 0 := by
  refine Cn.run 6 false (by decide) rfl (by decide) (by simp [entA, Value.category]) ?_
  intro P G hP hG
  have q0 := hO.1
  have q_seat := hO.2.2 (5, 10, .int, 10) (by decide)
  dsimp only at q_seat
  have u0 := hC.1
  have u_t := hC.2.2 (1, 2, .int, 10) (by decide)
  dsimp only at u_t
  obtain ⟨h1, h2⟩ := hp
  obtain ⟨a1, a2⟩ := hT p hpn
  obtain ⟨b1, b2⟩ := hR.1 p hpn
  unfold hidN at hP
  have loop : ∀ f i v4, np - i < f → i ≤ np → G 4 [some (.ref S), some (.int (nI p)), some (.int (nI (fb_ct (hidP st ta ro p) i))), some (.int (nI i)), v4] [] (sh, mI, mL, mR, n) := by
    intro f
    induction f with
    | zero => intro i v4 h; omega
    | succ f ih =>
      intro i v4 hf hi
      have nx := ih (i + 1)
      rw [fb_ct_succ] at nx
      have no : i < np → hidP st ta ro p i = false → ∀ v4, G 80 [some (.ref S), some (.int (nI p)), some (.int (nI (fb_ct (hidP st ta ro p) i))), some (.int (nI i)), v4] [] (sh, mI, mL, mR, n) := fun z hh v4 => by
        rw [hh] at nx
        refine hG.run [4] 40 ?_
        simp [wp, stepI, ln, jmp, cmpI, Value.category, rd, tyF, va_rf, st1, st2, clr, isLg, CB, inx_0, inx_1, inx_2, inx_3, inx_4, inx_5, bI_0, bI_1, bI_ok, fin3, tyX6, entL, q0, dX6_tallerAhead_0, dX6_tallerAhead_1, dX6_tallerAhead_2, dX6_tallerAhead_3, dX6_tallerAhead_4, dX6_tallerAhead_5, dX6_tallerAhead_6, fT_6_12, dX6_tallerAhead_9, fT_6_50, dX6_tallerAhead_12, dX6_tallerAhead_15, dX6_tallerAhead_16, fT_6_28, dX6_tallerAhead_19, dX6_tallerAhead_20, dX6_tallerAhead_21, dX6_tallerAhead_22, dX6_tallerAhead_25, dX6_tallerAhead_26, dX6_tallerAhead_29, fT_6_61, dX6_tallerAhead_32, dX6_tallerAhead_33, dX6_tallerAhead_34, dX6_tallerAhead_35, dX6_tallerAhead_38, dX6_tallerAhead_41, dX6_tallerAhead_42, dX6_tallerAhead_43, dX6_tallerAhead_46, dX6_tallerAhead_47, dX6_tallerAhead_50, dX6_tallerAhead_51, dX6_tallerAhead_53, dX6_tallerAhead_55, dX6_tallerAhead_58, dX6_tallerAhead_59, dX6_tallerAhead_60, dX6_tallerAhead_63, dX6_tallerAhead_64, dX6_tallerAhead_65, dX6_tallerAhead_66, dX6_tallerAhead_69, dX6_tallerAhead_70, dX6_tallerAhead_71, dX6_tallerAhead_74, dX6_tallerAhead_77, dX6_tallerAhead_80, dX6_tallerAhead_83, dX6_tallerAhead_86, dX6_tallerAhead_87]
        simp (disch := omega) only [li, nI_add, nI_clamp, nI_ltI, nI_leI, nI_eq, inx_iff, a31, nI_1shl', nI_shr', div_bit, tb1, tb0, fa_or, fa_and, nI_not, pk_sub, nI_dec]
        exact nx _ (by omega) (by omega)
      have yes : i < np → hidP st ta ro p i = true → ∀ v4, G 77 [some (.ref S), some (.int (nI p)), some (.int (nI (fb_ct (hidP st ta ro p) i))), some (.int (nI i)), v4] [] (sh, mI, mL, mR, n) := fun z hh v4 => by
        rw [hh] at nx
        refine hG.run [4] 40 ?_
        simp [wp, stepI, ln, jmp, cmpI, Value.category, rd, tyF, va_rf, st1, st2, clr, isLg, CB, inx_0, inx_1, inx_2, inx_3, inx_4, inx_5, bI_0, bI_1, bI_ok, fin3, tyX6, entL, q0, dX6_tallerAhead_0, dX6_tallerAhead_1, dX6_tallerAhead_2, dX6_tallerAhead_3, dX6_tallerAhead_4, dX6_tallerAhead_5, dX6_tallerAhead_6, fT_6_12, dX6_tallerAhead_9, fT_6_50, dX6_tallerAhead_12, dX6_tallerAhead_15, dX6_tallerAhead_16, fT_6_28, dX6_tallerAhead_19, dX6_tallerAhead_20, dX6_tallerAhead_21, dX6_tallerAhead_22, dX6_tallerAhead_25, dX6_tallerAhead_26, dX6_tallerAhead_29, fT_6_61, dX6_tallerAhead_32, dX6_tallerAhead_33, dX6_tallerAhead_34, dX6_tallerAhead_35, dX6_tallerAhead_38, dX6_tallerAhead_41, dX6_tallerAhead_42, dX6_tallerAhead_43, dX6_tallerAhead_46, dX6_tallerAhead_47, dX6_tallerAhead_50, dX6_tallerAhead_51, dX6_tallerAhead_53, dX6_tallerAhead_55, dX6_tallerAhead_58, dX6_tallerAhead_59, dX6_tallerAhead_60, dX6_tallerAhead_63, dX6_tallerAhead_64, dX6_tallerAhead_65, dX6_tallerAhead_66, dX6_tallerAhead_69, dX6_tallerAhead_70, dX6_tallerAhead_71, dX6_tallerAhead_74, dX6_tallerAhead_77, dX6_tallerAhead_80, dX6_tallerAhead_83, dX6_tallerAhead_86, dX6_tallerAhead_87]
        simp (disch := omega) only [li, nI_add, nI_clamp, nI_ltI, nI_leI, nI_eq, inx_iff, a31, nI_1shl', nI_shr', div_bit, tb1, tb0, fa_or, fa_and, nI_not, pk_sub, nI_dec]
        exact nx _ (by omega) (by omega)
      have g25 : i < np → st i ≠ 0 → ∀ v4, G 25 [some (.ref S), some (.int (nI p)), some (.int (nI (fb_ct (hidP st ta ro p) i))), some (.int (nI i)), v4] [] (sh, mI, mL, mR, n) := fun z hsi v4 => by
        obtain ⟨c1, c2⟩ := hT i z
        obtain ⟨e1, e2⟩ := hR.1 i z
        have x1 : mI (S + 10) i = nI (st i - 1) := by rw [c1, pk_sub (by omega)]
        have x2 : mI (S + 10) p = nI (st p - 1) := by rw [a1, pk_sub (by omega)]
        refine hG.run [80] 60 ?_
        simp [wp, stepI, ln, jmp, cmpI, Value.category, rd, tyF, va_rf, st1, st2, clr, isLg, CB, inx_0, inx_1, inx_2, inx_3, inx_4, inx_5, bI_0, bI_1, bI_ok, fin3, tyX6, entL, q0, q_seat, hsc, u0, tyX4, u_t, dX6_tallerAhead_0, dX6_tallerAhead_1, dX6_tallerAhead_2, dX6_tallerAhead_3, dX6_tallerAhead_4, dX6_tallerAhead_5, dX6_tallerAhead_6, fT_6_12, dX6_tallerAhead_9, fT_6_50, dX6_tallerAhead_12, dX6_tallerAhead_15, dX6_tallerAhead_16, fT_6_28, dX6_tallerAhead_19, dX6_tallerAhead_20, dX6_tallerAhead_21, dX6_tallerAhead_22, dX6_tallerAhead_25, dX6_tallerAhead_26, dX6_tallerAhead_29, fT_6_61, dX6_tallerAhead_32, dX6_tallerAhead_33, dX6_tallerAhead_34, dX6_tallerAhead_35, dX6_tallerAhead_38, dX6_tallerAhead_41, dX6_tallerAhead_42, dX6_tallerAhead_43, dX6_tallerAhead_46, dX6_tallerAhead_47, dX6_tallerAhead_50, dX6_tallerAhead_51, dX6_tallerAhead_53, dX6_tallerAhead_55, dX6_tallerAhead_58, dX6_tallerAhead_59, dX6_tallerAhead_60, dX6_tallerAhead_63, dX6_tallerAhead_64, dX6_tallerAhead_65, dX6_tallerAhead_66, dX6_tallerAhead_69, dX6_tallerAhead_70, dX6_tallerAhead_71, dX6_tallerAhead_74, dX6_tallerAhead_77, dX6_tallerAhead_80, dX6_tallerAhead_83, dX6_tallerAhead_86, dX6_tallerAhead_87]
        simp (disch := omega) only [li, nI_add, nI_clamp, nI_ltI, nI_leI, nI_eq, inx_iff, a31, nI_1shl', nI_shr', div_bit, tb1, tb0, fa_or, fa_and, nI_not, pk_sub, nI_dec, e1, b1, x1, x2]
        refine ⟨by omega, by omega, fun y => no z ?_ _, fun y => ⟨by omega, by omega, ?_⟩⟩
        · unfold hidP; rw [decide_eq_false (show ¬ ta p < ta i by omega), Bool.and_false]; rfl
        refine hG.callV dX6_tallerAhead_71 mv_6_64 [.int (nI (st i - 1)), .int (nI (st p - 1))] [] (c6_sitsBefore2 l X (d - 1) sh mI mL mR n S C hO hsc hC np nb ta ro hR (st i - 1) (st p - 1) (by have := hst i z; omega) (by have := hst p hpn; omega)) ⟨_, rfl, rfl⟩ q0 (by omega) rfl (by decide) (by simp [Value.category]) rfl ?_
        rintro r M' ⟨rfl, rfl⟩
        have hv : hidP st ta ro p i = (decide ((st i - 1) % 2 = (st p - 1) % 2) && decide (ro ((st i - 1) / 2) < ro ((st p - 1) / 2))) := by
          unfold hidP
          rw [decide_eq_true hsi, decide_eq_true y, Bool.true_and, Bool.and_true]
        rw [← hv]
        cases hw : hidP st ta ro p i with
        | false =>
          refine hG.run [80] 60 ?_
          simp [wp, stepI, ln, jmp, cmpI, Value.category, rd, tyF, va_rf, st1, st2, clr, isLg, CB, inx_0, inx_1, inx_2, inx_3, inx_4, inx_5, bI_0, bI_1, bI_ok, fin3, tyX6, entL, q0, dX6_tallerAhead_0, dX6_tallerAhead_1, dX6_tallerAhead_2, dX6_tallerAhead_3, dX6_tallerAhead_4, dX6_tallerAhead_5, dX6_tallerAhead_6, fT_6_12, dX6_tallerAhead_9, fT_6_50, dX6_tallerAhead_12, dX6_tallerAhead_15, dX6_tallerAhead_16, fT_6_28, dX6_tallerAhead_19, dX6_tallerAhead_20, dX6_tallerAhead_21, dX6_tallerAhead_22, dX6_tallerAhead_25, dX6_tallerAhead_26, dX6_tallerAhead_29, fT_6_61, dX6_tallerAhead_32, dX6_tallerAhead_33, dX6_tallerAhead_34, dX6_tallerAhead_35, dX6_tallerAhead_38, dX6_tallerAhead_41, dX6_tallerAhead_42, dX6_tallerAhead_43, dX6_tallerAhead_46, dX6_tallerAhead_47, dX6_tallerAhead_50, dX6_tallerAhead_51, dX6_tallerAhead_53, dX6_tallerAhead_55, dX6_tallerAhead_58, dX6_tallerAhead_59, dX6_tallerAhead_60, dX6_tallerAhead_63, dX6_tallerAhead_64, dX6_tallerAhead_65, dX6_tallerAhead_66, dX6_tallerAhead_69, dX6_tallerAhead_70, dX6_tallerAhead_71, dX6_tallerAhead_74, dX6_tallerAhead_77, dX6_tallerAhead_80, dX6_tallerAhead_83, dX6_tallerAhead_86, dX6_tallerAhead_87]
          exact no z hw _
        | true =>
          refine hG.run [80, 77] 60 ?_
          simp [wp, stepI, ln, jmp, cmpI, Value.category, rd, tyF, va_rf, st1, st2, clr, isLg, CB, inx_0, inx_1, inx_2, inx_3, inx_4, inx_5, bI_0, bI_1, bI_ok, fin3, tyX6, entL, q0, dX6_tallerAhead_0, dX6_tallerAhead_1, dX6_tallerAhead_2, dX6_tallerAhead_3, dX6_tallerAhead_4, dX6_tallerAhead_5, dX6_tallerAhead_6, fT_6_12, dX6_tallerAhead_9, fT_6_50, dX6_tallerAhead_12, dX6_tallerAhead_15, dX6_tallerAhead_16, fT_6_28, dX6_tallerAhead_19, dX6_tallerAhead_20, dX6_tallerAhead_21, dX6_tallerAhead_22, dX6_tallerAhead_25, dX6_tallerAhead_26, dX6_tallerAhead_29, fT_6_61, dX6_tallerAhead_32, dX6_tallerAhead_33, dX6_tallerAhead_34, dX6_tallerAhead_35, dX6_tallerAhead_38, dX6_tallerAhead_41, dX6_tallerAhead_42, dX6_tallerAhead_43, dX6_tallerAhead_46, dX6_tallerAhead_47, dX6_tallerAhead_50, dX6_tallerAhead_51, dX6_tallerAhead_53, dX6_tallerAhead_55, dX6_tallerAhead_58, dX6_tallerAhead_59, dX6_tallerAhead_60, dX6_tallerAhead_63, dX6_tallerAhead_64, dX6_tallerAhead_65, dX6_tallerAhead_66, dX6_tallerAhead_69, dX6_tallerAhead_70, dX6_tallerAhead_71, dX6_tallerAhead_74, dX6_tallerAhead_77, dX6_tallerAhead_80, dX6_tallerAhead_83, dX6_tallerAhead_86, dX6_tallerAhead_87]
          exact yes z hw _
      refine hG.run [25, 80] 60 ?_
      simp [wp, stepI, ln, jmp, cmpI, Value.category, rd, tyF, va_rf, st1, st2, clr, isLg, CB, inx_0, inx_1, inx_2, inx_3, inx_4, inx_5, bI_0, bI_1, bI_ok, fin3, tyX6, entL, q0, q_seat, hsc, u0, tyX4, dX6_tallerAhead_0, dX6_tallerAhead_1, dX6_tallerAhead_2, dX6_tallerAhead_3, dX6_tallerAhead_4, dX6_tallerAhead_5, dX6_tallerAhead_6, fT_6_12, dX6_tallerAhead_9, fT_6_50, dX6_tallerAhead_12, dX6_tallerAhead_15, dX6_tallerAhead_16, fT_6_28, dX6_tallerAhead_19, dX6_tallerAhead_20, dX6_tallerAhead_21, dX6_tallerAhead_22, dX6_tallerAhead_25, dX6_tallerAhead_26, dX6_tallerAhead_29, fT_6_61, dX6_tallerAhead_32, dX6_tallerAhead_33, dX6_tallerAhead_34, dX6_tallerAhead_35, dX6_tallerAhead_38, dX6_tallerAhead_41, dX6_tallerAhead_42, dX6_tallerAhead_43, dX6_tallerAhead_46, dX6_tallerAhead_47, dX6_tallerAhead_50, dX6_tallerAhead_51, dX6_tallerAhead_53, dX6_tallerAhead_55, dX6_tallerAhead_58, dX6_tallerAhead_59, dX6_tallerAhead_60, dX6_tallerAhead_63, dX6_tallerAhead_64, dX6_tallerAhead_65, dX6_tallerAhead_66, dX6_tallerAhead_69, dX6_tallerAhead_70, dX6_tallerAhead_71, dX6_tallerAhead_74, dX6_tallerAhead_77, dX6_tallerAhead_80, dX6_tallerAhead_83, dX6_tallerAhead_86, dX6_tallerAhead_87]
      simp (disch := omega) only [li, nI_add, nI_clamp, nI_ltI, nI_leI, nI_eq, inx_iff, a31, nI_1shl', nI_shr', div_bit, tb1, tb0, fa_or, fa_and, nI_not, pk_sub, nI_dec, h1]
      refine ⟨fun z => hP _ _ ⟨rfl, by rw [show i = np by omega]⟩, fun z => ?_⟩
      obtain ⟨c1, c2⟩ := hT i z
      have e : mI (S + 10) i = -nI 1 ↔ st i = 0 := by
        rw [c1]
        exact (by decide +kernel : ∀ s, s ≤ 12 → (nI s - nI 1 = -nI 1 ↔ s = 0)) (st i) c2
      have h0 : st i = 0 → hidP st ta ro p i = false := fun y => by unfold hidP; rw [decide_eq_false (fun w => w y)]; rfl
      exact ⟨by omega, fun y => no z (h0 (e.mp y)) _, fun y => g25 z (fun w => y (e.mpr w)) _⟩
  refine hG.run [4] 40 ?_
  simp [wp, stepI, ln, jmp, cmpI, Value.category, rd, tyF, va_rf, st1, st2, clr, isLg, CB, inx_0, inx_1, inx_2, inx_3, inx_4, inx_5, bI_0, bI_1, bI_ok, fin3, tyX6, entL, q0, dX6_tallerAhead_0, dX6_tallerAhead_1, dX6_tallerAhead_2, dX6_tallerAhead_3, dX6_tallerAhead_4, dX6_tallerAhead_5, dX6_tallerAhead_6, fT_6_12, dX6_tallerAhead_9, fT_6_50, dX6_tallerAhead_12, dX6_tallerAhead_15, dX6_tallerAhead_16, fT_6_28, dX6_tallerAhead_19, dX6_tallerAhead_20, dX6_tallerAhead_21, dX6_tallerAhead_22, dX6_tallerAhead_25, dX6_tallerAhead_26, dX6_tallerAhead_29, fT_6_61, dX6_tallerAhead_32, dX6_tallerAhead_33, dX6_tallerAhead_34, dX6_tallerAhead_35, dX6_tallerAhead_38, dX6_tallerAhead_41, dX6_tallerAhead_42, dX6_tallerAhead_43, dX6_tallerAhead_46, dX6_tallerAhead_47, dX6_tallerAhead_50, dX6_tallerAhead_51, dX6_tallerAhead_53, dX6_tallerAhead_55, dX6_tallerAhead_58, dX6_tallerAhead_59, dX6_tallerAhead_60, dX6_tallerAhead_63, dX6_tallerAhead_64, dX6_tallerAhead_65, dX6_tallerAhead_66, dX6_tallerAhead_69, dX6_tallerAhead_70, dX6_tallerAhead_71, dX6_tallerAhead_74, dX6_tallerAhead_77, dX6_tallerAhead_80, dX6_tallerAhead_83, dX6_tallerAhead_86, dX6_tallerAhead_87]
  exact loop (np + 1) 0 _ (by omega) (by omega)

def nsE : String := "java/util/NoSuchElementException"
def exI (C : String) : MethodName := ⟨C, "<init>", "()V"⟩
def exA : List Cond := vx_at0 RX11 225 nsE ["java/lang/RuntimeException", "java/lang/Exception"]
/-- what a throw needs of the start -/
def XZ (X : Cx) (U : State) : Prop := va_Nw (.castable nsE nsE) U ∧ va_Nw (.declares (exI "java/lang/RuntimeException")) U ∧ va_Nw (.declares (exI "java/lang/Exception")) U ∧ va_Nw (.declares (exI "java/lang/Throwable")) U ∧ vx_Zq Jvm.Bundle.tN "UNASSIGNED_STACK" Jvm.Bundle.steD (nA X) U X.1 ∧ vx_Zq Jvm.Bundle.tN "SUPPRESSED_SENTINEL" Jvm.Bundle.listD (nA X) U X.1
theorem XZ.moved {X : Cx} {u U : State} (hW : u.WarmedH U.vm) (h : XZ X u) : XZ X U := ⟨va_Nw.warmC hW h.1, va_Nw.warmD hW h.2.1, va_Nw.warmD hW h.2.2.1, va_Nw.warmD hW h.2.2.2.1, vx_Zq.moved hW.alike h.2.2.2.2.1, vx_Zq.moved hW.alike h.2.2.2.2.2⟩
theorem XZ.same {X : Cx} {u U : State} (hv : u.vm = U.vm) (h : XZ X u) : XZ X U := ⟨va_Nw.same rfl hv h.1, va_Nw.same rfl hv h.2.1, va_Nw.same rfl hv h.2.2.1, va_Nw.same rfl hv h.2.2.2.1, vx_Zq.moved (hv ▸ Vm.Alike.refl u.vm) h.2.2.2.2.1, vx_Zq.moved (hv ▸ Vm.Alike.refl u.vm) h.2.2.2.2.2⟩
theorem exA_t : ∀ w ∈ exA.filter goodWord, w ∈ tables_1_5 ++ tables_1_1 := by decide +kernel
theorem exA_b : ∀ w ∈ exA.filter (fun w => !goodWord w), w ∈ ([.castable nsE nsE, .declares (exI "java/lang/RuntimeException"), .declares (exI "java/lang/Exception"), .declares (exI "java/lang/Throwable")] : List Cond) := by decide +kernel
theorem exA_g : ∀ w ∈ Cond.classLink RX11 223 nsE :: Cond.initialized nsE :: exA, vx_ot w = true := by decide +kernel
theorem ex_tb {w : Cond} (h : w ∈ tables_1_5 ++ tables_1_1) (hg : goodWord w = true) : w ∈ gtbl := by
  refine List.mem_filter.mpr ⟨List.mem_append_right _ ?_, hg⟩
  show w ∈ tables_1_1 ++ (tables_1_2 ++ (tables_1_3 ++ (tables_1_4 ++ (tables_1_5 ++ (tables_1_6 ++ (tables_1_7 ++ tables_1_8))))))
  rcases List.mem_append.mp h with z | z
  · exact List.mem_append_right _ (List.mem_append_right _ (List.mem_append_right _ (List.mem_append_right _ (List.mem_append_left _ z))))
  · exact List.mem_append_left _ z
def PreX (X : Cx) (As : List Value) (M : Mm) : Array Value → State → Prop := fun v U => PreC X As M v U ∧ XZ X U
theorem PreX.blind (X : Cx) (As : List Value) (M : Mm) : FrameBlind (PreX X As M) := fun a U g mk q => ⟨PreC.blind X As M a U g mk q.1, q.2.same rfl⟩
theorem Rel.more {X : Cx} {sh : Nat → Option Sh} {mI : Nat → Nat → Int32} {mL : Nat → Nat → Int64} {mR : Nat → Nat → Option Nat} {n : Nat} {H H' : Heap} (h : Rel X (sh, mI, mL, mR, n) H) (hs : H.size ≤ H'.size) (ho : ∀ q : Nat, q < H.size → H'[q]? = H[q]?) : ∃ n', n ≤ n' ∧ Rel X (sh, mI, mL, mR, n') H' := by
  obtain ⟨h1, h2, h3⟩ := h
  have h1' : H.size = X.1.size + n := h1
  refine ⟨H'.size - X.1.size, by omega, by show H'.size = X.1.size + (H'.size - X.1.size); omega, fun q hq => (ho q (by omega)).trans (h2 q hq), fun a v hv => ?_⟩
  have hc : Cel X v (sh, mI, mL, mR, n) a H := h3 a v hv
  cases v with
  | inl ci =>
    obtain ⟨r, e1, cell, f1, f2⟩ := hc
    have hlt : ph X a < H.size := (Array.getElem?_eq_some_iff.mp f1).1
    exact ⟨r, e1, cell, (ho _ hlt).trans f1, f2⟩
  | inr q =>
    exact hc.kept (ho _ hc.lt) (fun ty _ => by cases ty <;> rfl)
section
variable {p : Program} {l : Launch} {e : Env} {R : Room} {s : State} {m : MethodId} {args : Array Value} {below : List Frame} {meth : Method} {c : Code}
/-- as WG, for any end -/
def WQ (p : Program) (l : Launch) (e : Env) (R : Room) (s : State) (m : MethodId) (args : Array Value) (below : List Frame) (meth : Method) (c : Code) (X : Cx) (nL : Nat) (Q : State → Prop) (k q0 : Nat) (pc : Nat) (L : List (Option Value)) (st : List Value) (M : Mm) : Prop :=
  ∀ (H : Heap) (locs : List Loc) (ls : Array Slot), Rel X M H → (∀ z ∈ locs, X.1.size ≤ z.base) → hasL X ls nL L → W p l e R s m args below meth c H locs k q0 Q (F0 m pc ls (st.map (mv X)))
variable {X : Cx} {own : Nat} {ini : Bool} {cc : ByteArray} {nL : Nat} {rt : Option FieldType} {Q : State → Prop} {k q0 pc : Nat} {L : List (Option Value)} {st : List Value} {M : Mm}
theorem WQ.ald (C0 : Ct p s m args meth c X own ini cc nL rt) {v : Fin 4} {a : Nat} (hd : decode cc pc = .ok (.aload_n v, 1)) (hw : L.getD v none = some (.ref a)) (h : WQ p l e R s m args below meth c X nL Q k q0 (pc + 1) L (.ref a :: st) M) : WQ p l e R s m args below meth c X nL Q k q0 pc L st M := by
  obtain ⟨hx, hb, hr, hml, hown, hts, hlk, hKK, hini⟩ := C0
  intro H locs ls hR hL hl
  exact lv_aload_n hx hb hd rfl (hl.2.2.2 _ _ hw) (h H locs ls hR hL hl)
theorem WQ.ild (C0 : Ct p s m args meth c X own ini cc nL rt) {v : Fin 4} {a : Int32} (hd : decode cc pc = .ok (.iload_n v, 1)) (hw : L.getD v none = some (.int a)) (h : WQ p l e R s m args below meth c X nL Q k q0 (pc + 1) L (.int a :: st) M) : WQ p l e R s m args below meth c X nL Q k q0 pc L st M := by
  obtain ⟨hx, hb, hr, hml, hown, hts, hlk, hKK, hini⟩ := C0
  intro H locs ls hR hL hl
  exact lv_iload_n hx hb hd rfl (hl.2.2.2 _ _ hw) (h H locs ls hR hL hl)
theorem WQ.icn (C0 : Ct p s m args meth c X own ini cc nL rt) {v : Int} (hd : decode cc pc = .ok (.iconst v, 1)) (h : WQ p l e R s m args below meth c X nL Q k q0 (pc + 1) L (.int (Int32.ofInt v) :: st) M) : WQ p l e R s m args below meth c X nL Q k q0 pc L st M := by
  obtain ⟨hx, hb, hr, hml, hown, hts, hlk, hKK, hini⟩ := C0
  intro H locs ls hR hL hl
  exact lv_iconst hx hb hd rfl (h H locs ls hR hL hl)
theorem WQ.ieq (C0 : Ct p s m args meth c X own ini cc nL rt) {off : Int} {v : Int32} (hd : decode cc pc = .ok (.ifCond .eq off, 3)) (h0 : 0 ≤ (pc : Int) + off) (h1 : v = 0 → WQ p l e R s m args below meth c X nL Q k q0 ((pc : Int) + off).toNat L st M) (h2 : v ≠ 0 → WQ p l e R s m args below meth c X nL Q k q0 (pc + 3) L st M) : WQ p l e R s m args below meth c X nL Q k q0 pc L (.int v :: st) M := by
  obtain ⟨hx, hb, hr, hml, hown, hts, hlk, hKK, hini⟩ := C0
  intro H locs ls hR hL hl
  exact lv_if_eq hx hb hd (Int.toNat_of_nonneg h0).symm (fun z => h1 z H locs ls hR hL hl) (fun z => h2 z H locs ls hR hL hl)
theorem WQ.cne (C0 : Ct p s m args meth c X own ini cc nL rt) {off : Int} {v w : Int32} (hd : decode cc pc = .ok (.if_icmp .ne off, 3)) (h0 : 0 ≤ (pc : Int) + off) (h1 : w ≠ v → WQ p l e R s m args below meth c X nL Q k q0 ((pc : Int) + off).toNat L st M) (h2 : w = v → WQ p l e R s m args below meth c X nL Q k q0 (pc + 3) L st M) : WQ p l e R s m args below meth c X nL Q k q0 pc L (.int v :: .int w :: st) M := by
  obtain ⟨hx, hb, hr, hml, hown, hts, hlk, hKK, hini⟩ := C0
  intro H locs ls hR hL hl
  exact lv_icmp_ne hx hb hd (Int.toNat_of_nonneg h0).symm (fun z => h1 z H locs ls hR hL hl) (fun z => h2 z H locs ls hR hL hl)
theorem WQ.getf (C0 : Ct p s m args meth c X own ini cc nL rt) {v a ci kk : Nat} (hd : decode cc pc = .ok (.getfield v, 3)) (hq : fT own v = some (ci, kk)) (ha : M.1 a = some (.inl ci)) (h : WQ p l e R s m args below meth c X nL Q k q0 (pc + 3) L (rd (tyF ci kk) M a kk :: st) M) : WQ p l e R s m args below meth c X nL Q k q0 pc L (.ref a :: st) M := by
  obtain ⟨hx, hb, hr, hml, hown, hts, hlk, hKK, hini⟩ := C0
  intro H locs ls hR hL hl
  obtain ⟨C, T, N, q1, q2, q3⟩ := fT_ok _ _ _ hq
  obtain ⟨r0, e1, cell, c1, c2, c3, c4⟩ := hR.2.2 a _ ha
  cases q1.symm.trans e1
  obtain ⟨hS9, hfc, kC, hkC, hkind⟩ := hKK.1 _ _ q1
  obtain ⟨cf, kf, fi, f, hi, hsl⟩ := hS9 kk q2
  obtain ⟨w1, w2, w3, -⟩ := clOK _ _ _ _ q1
  exact W.getf hx hb hown (hts _ q3) hi (u_facts hfc hkC (u_lays hts w1 q2) hi).1 c1 (by rw [c3]; exact fun z => by cases z) (by rw [hsl]; exact c4 _ q2) rfl rfl hd (h H locs ls hR hL hl)
theorem WQ.iald (C0 : Ct p s m args meth c X own ini cc nL rt) {a n : Nat} {j : Int32} (hd : decode cc pc = .ok (.iaload, 1)) (ha : M.1 a = some (.inr (.int, n))) (hj : inx j n) (h : WQ p l e R s m args below meth c X nL Q k q0 (pc + 1) L (.int (M.2.1 a j.toNatClampNeg) :: st) M) : WQ p l e R s m args below meth c X nL Q k q0 pc L (.int j :: .ref a :: st) M := by
  obtain ⟨hx, hb, hr, hml, hown, hts, hlk, hKK, hini⟩ := C0
  intro H locs ls hR hL hl
  obtain ⟨ce, hc, c2, c3, c4, c5⟩ := hR.ari hKK ha
  exact W.iald (v := .int (M.2.1 _ _)) hx hb hc c2 c3 (by rw [c4]; exact inx_in hj) (c5 _ (inx_lt hj)) rfl rfl hd (h H locs ls hR hL hl)
theorem WQ.callV {Post' : Option Value → Mm → Prop} (C0 : Ct p s m args meth c X own ini cc nL rt) {idx ci : Nat} {y : MethodName} {cc' : ByteArray} {n' : Nat} {r' : Option FieldType} {np d' mc' ms' : Nat} {b : Nat} {As rest : List Value}
    (hd : decode cc pc = .ok (.invokevirtual idx, 3)) (hw : MV own idx ci y cc' n' r' np) (hn : As.length = np) (hM : Cn l X y cc' n' r' d' (.ref b :: As) M Post' mc' ms') (hci : ∃ r, clT ci = some r ∧ r.1 = RN ci) (hb : M.1 b = some (.inl ci)) (hR : d' + 1 ≤ R.frames ∧ 8 + (n' + 11) + 40 * d' ≤ R.locals) (hs : (rest.map (fun v => v.category)).sum ≤ 8) (hf : k + mc' ≤ R.cells ∧ q0 + ms' ≤ R.slots)
    (hst : st = As.reverse ++ .ref b :: rest) (kk : ∀ r M', Post' r M' → WQ p l e R s m args below meth c X nL Q (k + mc') (q0 + ms') (pc + 3) L (r.toList ++ rest) M') : WQ p l e R s m args below meth c X nL Q k q0 pc L st M := by
  obtain ⟨hx, hb0, hr, hml, hown, hts, hlk, hKK, hini⟩ := C0
  subst hst
  intro H locs ls hRel hL hl T hT X0
  obtain ⟨w1, w2, w3, w4, w5⟩ := hw
  obtain ⟨⟨C1, T1, N1⟩, c1, c2⟩ := hci
  obtain ⟨r0, e1, cell, f1, f2, f3, f4⟩ := hRel.2.2 b _ hb
  cases c1.symm.trans e1
  have hfc := (hKK.1 _ _ c1).2.1
  have run := va_runV (locs := locs) (cc := cc) (nL := nL) (As := As.map (mv X)) (rest := rest.map (mv X)) (g := F0 m pc ls ((As.reverse ++ .ref b :: rest).map (mv X))) (below := below) (meth := meth) (l := l) (e := e) (cells := k) (slots := q0) ⟨hx, hb0, hml, hown, hts⟩ hM (cwV np hts w1 rfl rfl rfl ⟨w2, w3, w4, w5⟩ hR) ⟨PreC.blind _ _ _, ⟨cell, f1, by rw [f3]; rfl, by rw [f2, ← c2]; exact hfc⟩, fun U hU hW => ⟨rfl, by rw [hU]; exact hRel, hKK.moved hW⟩⟩ rfl (by rw [List.length_map]; exact hn) hl.1 (by simp [mv, F0]) (lv_room (by
    rw [List.map_map]
    have : (fun v : Value => v.category) ∘ mv X = fun v => v.category := by funext v; exact mv_cat X v
    rw [this]; exact hs)) hd hf
  obtain ⟨v, st₀, t, T', L', h0, X', hL', e1, e2, ⟨r, M', e3, hp, hR'⟩, go⟩ := run T hT X0
  have ev : v = r.map (mv X) := by injection e3
  subst ev
  obtain ⟨t2, a1, b1⟩ := kk r M' hp T'.heap (locs ++ L') ls (by rw [e1]; exact hR') (fun z hz => by
    rcases List.mem_append.mp hz with z1 | z1
    · exact hL z z1
    · exact hL' z z1) hl T' rfl X'
  refine ⟨t2, go t2 ?_, b1⟩
  have es : (r.map (mv X)).toList ++ rest.map (mv X) = (r.toList ++ rest).map (mv X) := by cases r <;> rfl
  rw [es]
  exact a1
end
