def ScT (mI : Nat → Nat → Int32) (C np : Nat) (ta ro : Nat → Nat) : Prop := (∀ p, p < np → mI (C + 2) p = nI (ta p) ∧ ta p ≤ 99) ∧ ∀ k, k < 6 → mI (C + 3) k = nI (ro k) ∧ ro k ≤ 9
set_option maxHeartbeats 4000000 in
set_option maxRecDepth 100000 in
theorem c6_sitsBefore (l : Launch) (X : Cx) (d : Nat) (sh : Nat → Option Sh) (mI : Nat → Nat → Int32) (mL : Nat → Nat → Int64) (mR : Nat → Nat → Option Nat) (n : Nat) (S C : Nat) (hO : OL sh mR S 6 ob6) (hsc : mR S 0 = some C) (hC : OL sh mR C 4 ob4) (np : Nat) (ta ro : Nat → Nat) (hR : ScT mI C np ta ro) (a b : Nat) (ha : a < 12) (hb : b < 12) : Cn l X yX6_sitsBefore cX6_sitsBefore 3 (some .boolean) d [.ref S, .int (nI a), .int (nI b)] (sh, mI, mL, mR, n) (fun r M' => M' = (sh, mI, mL, mR, n) ∧ r = some (.int (bI (decide (a % 2 = b % 2) && decide (ro (a / 2) < ro (b / 2)))))) 0 0 := by
  refine Cn.run 6 false (by decide) rfl (by decide) (by simp [entA, Value.category]) ?_
  intro P G hP hG
  have q0 := hO.1
  have u0 := hC.1
  have u_b := hC.2.2 (2, 3, .int, 6) (by decide)
  dsimp only at u_b
  obtain ⟨r1, r2⟩ := hR.2 (a / 2) (by omega)
  obtain ⟨r3, r4⟩ := hR.2 (b / 2) (by omega)
  refine hG.run [] 40 ?_
  simp [wp, stepI, ln, jmp, cmpI, Value.category, rd, tyF, va_rf, st1, st2, clr, isLg, CB, inx_0, inx_1, inx_2, inx_3, inx_4, inx_5, bI_0, bI_1, bI_ok, fin3, tyX6, entL, q0, hsc, u0, tyX4, u_b, dX6_sitsBefore_0, dX6_sitsBefore_1, dX6_sitsBefore_2, dX6_sitsBefore_3, dX6_sitsBefore_4, dX6_sitsBefore_5, dX6_sitsBefore_6, dX6_sitsBefore_9, dX6_sitsBefore_10, fT_6_12, dX6_sitsBefore_13, fT_6_68, dX6_sitsBefore_16, dX6_sitsBefore_17, dX6_sitsBefore_18, dX6_sitsBefore_19, dX6_sitsBefore_20, dX6_sitsBefore_21, dX6_sitsBefore_24, dX6_sitsBefore_27, dX6_sitsBefore_28, dX6_sitsBefore_29, dX6_sitsBefore_30, dX6_sitsBefore_31, dX6_sitsBefore_34, dX6_sitsBefore_35, dX6_sitsBefore_38, dX6_sitsBefore_39]
  simp (disch := omega) only [li, nI_add, nI_clamp, nI_ltI, nI_leI, nI_eq, inx_iff, a31, nI_1shl', nI_shr', div_bit, tb1, tb0, fa_or, fa_and, nI_not, pk_sub, nI_dec, nI_r2, nI_dv2, nI_md2, r1, r3]
  refine ⟨fun z => hP _ _ ⟨rfl, by rw [decide_eq_false z]; rfl⟩, fun z => ⟨by omega, by omega, fun y => hP _ _ ⟨rfl, by rw [decide_eq_false (show ¬ ro (a / 2) < ro (b / 2) by omega), Bool.and_false]; rfl⟩, fun y => hP _ _ ⟨rfl, by rw [decide_eq_true z, decide_eq_true y]; rfl⟩⟩⟩
set_option maxHeartbeats 4000000 in
set_option maxRecDepth 100000 in
theorem c6_tallerAhead (l : Launch) (X : Cx) (d : Nat) (sh : Nat → Option Sh) (mI : Nat → Nat → Int32) (mL : Nat → Nat → Int64) (mR : Nat → Nat → Option Nat) (n : Nat) (S C : Nat) (hO : OL sh mR S 6 ob6) (hsc : mR S 0 = some C) (hC : OL sh mR C 4 ob4) (np : Nat) (hp : ScP mI C np) (ta ro : Nat → Nat) (hR : ScT mI C np ta ro) (st : Nat → Nat) (hT : SeR mI (S + 10) np st) (p : Nat) (hpn : p < np) (hs : st p ≠ 0) (hd : 1 ≤ d) : Cn l X yX6_tallerAhead cX6_tallerAhead 5 (some .int) d [.ref S, .int (nI p)] (sh, mI, mL, mR, n) (fun r M' => M' = (sh, mI, mL, mR, n) ∧ r = some (.int (nI (hidN np st ta ro p)))) 0 0 := by
  refine Cn.run 6 false (by decide) rfl (by decide) (by simp [entA, Value.category]) ?_
  intro P G hP hG
  have q0 := hO.1
  have q_seat := hO.2.2 (5, 10, .int, 10) (by decide)
  dsimp only at q_seat
  have u0 := hC.1
  have u_t := hC.2.2 (1, 2, .int, 10) (by decide)
  dsimp only at u_t
  obtain ⟨h1, h2⟩ := hp
  obtain ⟨a1, a2⟩ := hT p hpn
  obtain ⟨b1, b2⟩ := hR.1 p hpn
  unfold hidN at hP
  have loop : ∀ f i v4, np - i < f → i ≤ np → G 4 [some (.ref S), some (.int (nI p)), some (.int (nI (fb_ct (hidP st ta ro p) i))), some (.int (nI i)), v4] [] (sh, mI, mL, mR, n) := by
    intro f
    induction f with
    | zero => intro i v4 h; omega
    | succ f ih =>
      intro i v4 hf hi
      have nx := ih (i + 1)
      rw [fb_ct_succ] at nx
      have no : i < np → hidP st ta ro p i = false → ∀ v4, G 80 [some (.ref S), some (.int (nI p)), some (.int (nI (fb_ct (hidP st ta ro p) i))), some (.int (nI i)), v4] [] (sh, mI, mL, mR, n) := fun z hh v4 => by
        rw [hh] at nx
        refine hG.run [4] 40 ?_
        simp [wp, stepI, ln, jmp, cmpI, Value.category, rd, tyF, va_rf, st1, st2, clr, isLg, CB, inx_0, inx_1, inx_2, inx_3, inx_4, inx_5, bI_0, bI_1, bI_ok, fin3, tyX6, entL, q0, dX6_tallerAhead_0, dX6_tallerAhead_1, dX6_tallerAhead_2, dX6_tallerAhead_3, dX6_tallerAhead_4, dX6_tallerAhead_5, dX6_tallerAhead_6, fT_6_12, dX6_tallerAhead_9, fT_6_50, dX6_tallerAhead_12, dX6_tallerAhead_15, dX6_tallerAhead_16, fT_6_28, dX6_tallerAhead_19, dX6_tallerAhead_20, dX6_tallerAhead_21, dX6_tallerAhead_22, dX6_tallerAhead_25, dX6_tallerAhead_26, dX6_tallerAhead_29, fT_6_61, dX6_tallerAhead_32, dX6_tallerAhead_33, dX6_tallerAhead_34, dX6_tallerAhead_35, dX6_tallerAhead_38, dX6_tallerAhead_41, dX6_tallerAhead_42, dX6_tallerAhead_43, dX6_tallerAhead_46, dX6_tallerAhead_47, dX6_tallerAhead_50, dX6_tallerAhead_51, dX6_tallerAhead_53, dX6_tallerAhead_55, dX6_tallerAhead_58, dX6_tallerAhead_59, dX6_tallerAhead_60, dX6_tallerAhead_63, dX6_tallerAhead_64, dX6_tallerAhead_65, dX6_tallerAhead_66, dX6_tallerAhead_69, dX6_tallerAhead_70, dX6_tallerAhead_71, dX6_tallerAhead_74, dX6_tallerAhead_77, dX6_tallerAhead_80, dX6_tallerAhead_83, dX6_tallerAhead_86, dX6_tallerAhead_87]
        simp (disch := omega) only [li, nI_add, nI_clamp, nI_ltI, nI_leI, nI_eq, inx_iff, a31, nI_1shl', nI_shr', div_bit, tb1, tb0, fa_or, fa_and, nI_not, pk_sub, nI_dec]
        exact nx _ (by omega) (by omega)
      have yes : i < np → hidP st ta ro p i = true → ∀ v4, G 77 [some (.ref S), some (.int (nI p)), some (.int (nI (fb_ct (hidP st ta ro p) i))), some (.int (nI i)), v4] [] (sh, mI, mL, mR, n) := fun z hh v4 => by
        rw [hh] at nx
        refine hG.run [4] 40 ?_
        simp [wp, stepI, ln, jmp, cmpI, Value.category, rd, tyF, va_rf, st1, st2, clr, isLg, CB, inx_0, inx_1, inx_2, inx_3, inx_4, inx_5, bI_0, bI_1, bI_ok, fin3, tyX6, entL, q0, dX6_tallerAhead_0, dX6_tallerAhead_1, dX6_tallerAhead_2, dX6_tallerAhead_3, dX6_tallerAhead_4, dX6_tallerAhead_5, dX6_tallerAhead_6, fT_6_12, dX6_tallerAhead_9, fT_6_50, dX6_tallerAhead_12, dX6_tallerAhead_15, dX6_tallerAhead_16, fT_6_28, dX6_tallerAhead_19, dX6_tallerAhead_20, dX6_tallerAhead_21, dX6_tallerAhead_22, dX6_tallerAhead_25, dX6_tallerAhead_26, dX6_tallerAhead_29, fT_6_61, dX6_tallerAhead_32, dX6_tallerAhead_33, dX6_tallerAhead_34, dX6_tallerAhead_35, dX6_tallerAhead_38, dX6_tallerAhead_41, dX6_tallerAhead_42, dX6_tallerAhead_43, dX6_tallerAhead_46, dX6_tallerAhead_47, dX6_tallerAhead_50, dX6_tallerAhead_51, dX6_tallerAhead_53, dX6_tallerAhead_55, dX6_tallerAhead_58, dX6_tallerAhead_59, dX6_tallerAhead_60, dX6_tallerAhead_63, dX6_tallerAhead_64, dX6_tallerAhead_65, dX6_tallerAhead_66, dX6_tallerAhead_69, dX6_tallerAhead_70, dX6_tallerAhead_71, dX6_tallerAhead_74, dX6_tallerAhead_77, dX6_tallerAhead_80, dX6_tallerAhead_83, dX6_tallerAhead_86, dX6_tallerAhead_87]
        simp (disch := omega) only [li, nI_add, nI_clamp, nI_ltI, nI_leI, nI_eq, inx_iff, a31, nI_1shl', nI_shr', div_bit, tb1, tb0, fa_or, fa_and, nI_not, pk_sub, nI_dec]
        exact nx _ (by omega) (by omega)
      have g25 : i < np → st i ≠ 0 → ∀ v4, G 25 [some (.ref S), some (.int (nI p)), some (.int (nI (fb_ct (hidP st ta ro p) i))), some (.int (nI i)), v4] [] (sh, mI, mL, mR, n) := fun z hsi v4 => by
        obtain ⟨c1, c2⟩ := hT i z
        obtain ⟨e1, e2⟩ := hR.1 i z
        have x1 : mI (S + 10) i = nI (st i - 1) := by rw [c1, pk_sub (by omega)]
        have x2 : mI (S + 10) p = nI (st p - 1) := by rw [a1, pk_sub (by omega)]
        refine hG.run [80] 60 ?_
        simp [wp, stepI, ln, jmp, cmpI, Value.category, rd, tyF, va_rf, st1, st2, clr, isLg, CB, inx_0, inx_1, inx_2, inx_3, inx_4, inx_5, bI_0, bI_1, bI_ok, fin3, tyX6, entL, q0, q_seat, hsc, u0, tyX4, u_t, dX6_tallerAhead_0, dX6_tallerAhead_1, dX6_tallerAhead_2, dX6_tallerAhead_3, dX6_tallerAhead_4, dX6_tallerAhead_5, dX6_tallerAhead_6, fT_6_12, dX6_tallerAhead_9, fT_6_50, dX6_tallerAhead_12, dX6_tallerAhead_15, dX6_tallerAhead_16, fT_6_28, dX6_tallerAhead_19, dX6_tallerAhead_20, dX6_tallerAhead_21, dX6_tallerAhead_22, dX6_tallerAhead_25, dX6_tallerAhead_26, dX6_tallerAhead_29, fT_6_61, dX6_tallerAhead_32, dX6_tallerAhead_33, dX6_tallerAhead_34, dX6_tallerAhead_35, dX6_tallerAhead_38, dX6_tallerAhead_41, dX6_tallerAhead_42, dX6_tallerAhead_43, dX6_tallerAhead_46, dX6_tallerAhead_47, dX6_tallerAhead_50, dX6_tallerAhead_51, dX6_tallerAhead_53, dX6_tallerAhead_55, dX6_tallerAhead_58, dX6_tallerAhead_59, dX6_tallerAhead_60, dX6_tallerAhead_63, dX6_tallerAhead_64, dX6_tallerAhead_65, dX6_tallerAhead_66, dX6_tallerAhead_69, dX6_tallerAhead_70, dX6_tallerAhead_71, dX6_tallerAhead_74, dX6_tallerAhead_77, dX6_tallerAhead_80, dX6_tallerAhead_83, dX6_tallerAhead_86, dX6_tallerAhead_87]
        simp (disch := omega) only [li, nI_add, nI_clamp, nI_ltI, nI_leI, nI_eq, inx_iff, a31, nI_1shl', nI_shr', div_bit, tb1, tb0, fa_or, fa_and, nI_not, pk_sub, nI_dec, e1, b1, x1, x2]
        refine ⟨by omega, by omega, fun y => no z ?_ _, fun y => ⟨by omega, by omega, ?_⟩⟩
        · unfold hidP; rw [decide_eq_false (show ¬ ta p < ta i by omega), Bool.and_false]; rfl
        refine hG.callV dX6_tallerAhead_71 mv_6_64 [.int (nI (st i - 1)), .int (nI (st p - 1))] [] (c6_sitsBefore l X (d - 1) sh mI mL mR n S C hO hsc hC np ta ro hR (st i - 1) (st p - 1) (by omega) (by omega)) ⟨_, rfl, rfl⟩ q0 (by omega) rfl (by decide) (by simp [Value.category]) rfl ?_
        rintro r M' ⟨rfl, rfl⟩
        have hv : hidP st ta ro p i = (decide ((st i - 1) % 2 = (st p - 1) % 2) && decide (ro ((st i - 1) / 2) < ro ((st p - 1) / 2))) := by
          unfold hidP
          rw [decide_eq_true hsi, decide_eq_true y, Bool.true_and, Bool.and_true]
        rw [← hv]
        cases hw : hidP st ta ro p i with
        | false =>
          refine hG.run [80] 60 ?_
          simp [wp, stepI, ln, jmp, cmpI, Value.category, rd, tyF, va_rf, st1, st2, clr, isLg, CB, inx_0, inx_1, inx_2, inx_3, inx_4, inx_5, bI_0, bI_1, bI_ok, fin3, tyX6, entL, q0, dX6_tallerAhead_0, dX6_tallerAhead_1, dX6_tallerAhead_2, dX6_tallerAhead_3, dX6_tallerAhead_4, dX6_tallerAhead_5, dX6_tallerAhead_6, fT_6_12, dX6_tallerAhead_9, fT_6_50, dX6_tallerAhead_12, dX6_tallerAhead_15, dX6_tallerAhead_16, fT_6_28, dX6_tallerAhead_19, dX6_tallerAhead_20, dX6_tallerAhead_21, dX6_tallerAhead_22, dX6_tallerAhead_25, dX6_tallerAhead_26, dX6_tallerAhead_29, fT_6_61, dX6_tallerAhead_32, dX6_tallerAhead_33, dX6_tallerAhead_34, dX6_tallerAhead_35, dX6_tallerAhead_38, dX6_tallerAhead_41, dX6_tallerAhead_42, dX6_tallerAhead_43, dX6_tallerAhead_46, dX6_tallerAhead_47, dX6_tallerAhead_50, dX6_tallerAhead_51, dX6_tallerAhead_53, dX6_tallerAhead_55, dX6_tallerAhead_58, dX6_tallerAhead_59, dX6_tallerAhead_60, dX6_tallerAhead_63, dX6_tallerAhead_64, dX6_tallerAhead_65, dX6_tallerAhead_66, dX6_tallerAhead_69, dX6_tallerAhead_70, dX6_tallerAhead_71, dX6_tallerAhead_74, dX6_tallerAhead_77, dX6_tallerAhead_80, dX6_tallerAhead_83, dX6_tallerAhead_86, dX6_tallerAhead_87]
          exact no z hw _
        | true =>
          refine hG.run [80, 77] 60 ?_
          simp [wp, stepI, ln, jmp, cmpI, Value.category, rd, tyF, va_rf, st1, st2, clr, isLg, CB, inx_0, inx_1, inx_2, inx_3, inx_4, inx_5, bI_0, bI_1, bI_ok, fin3, tyX6, entL, q0, dX6_tallerAhead_0, dX6_tallerAhead_1, dX6_tallerAhead_2, dX6_tallerAhead_3, dX6_tallerAhead_4, dX6_tallerAhead_5, dX6_tallerAhead_6, fT_6_12, dX6_tallerAhead_9, fT_6_50, dX6_tallerAhead_12, dX6_tallerAhead_15, dX6_tallerAhead_16, fT_6_28, dX6_tallerAhead_19, dX6_tallerAhead_20, dX6_tallerAhead_21, dX6_tallerAhead_22, dX6_tallerAhead_25, dX6_tallerAhead_26, dX6_tallerAhead_29, fT_6_61, dX6_tallerAhead_32, dX6_tallerAhead_33, dX6_tallerAhead_34, dX6_tallerAhead_35, dX6_tallerAhead_38, dX6_tallerAhead_41, dX6_tallerAhead_42, dX6_tallerAhead_43, dX6_tallerAhead_46, dX6_tallerAhead_47, dX6_tallerAhead_50, dX6_tallerAhead_51, dX6_tallerAhead_53, dX6_tallerAhead_55, dX6_tallerAhead_58, dX6_tallerAhead_59, dX6_tallerAhead_60, dX6_tallerAhead_63, dX6_tallerAhead_64, dX6_tallerAhead_65, dX6_tallerAhead_66, dX6_tallerAhead_69, dX6_tallerAhead_70, dX6_tallerAhead_71, dX6_tallerAhead_74, dX6_tallerAhead_77, dX6_tallerAhead_80, dX6_tallerAhead_83, dX6_tallerAhead_86, dX6_tallerAhead_87]
          exact yes z hw _
      refine hG.run [25, 80] 60 ?_
      simp [wp, stepI, ln, jmp, cmpI, Value.category, rd, tyF, va_rf, st1, st2, clr, isLg, CB, inx_0, inx_1, inx_2, inx_3, inx_4, inx_5, bI_0, bI_1, bI_ok, fin3, tyX6, entL, q0, q_seat, hsc, u0, tyX4, dX6_tallerAhead_0, dX6_tallerAhead_1, dX6_tallerAhead_2, dX6_tallerAhead_3, dX6_tallerAhead_4, dX6_tallerAhead_5, dX6_tallerAhead_6, fT_6_12, dX6_tallerAhead_9, fT_6_50, dX6_tallerAhead_12, dX6_tallerAhead_15, dX6_tallerAhead_16, fT_6_28, dX6_tallerAhead_19, dX6_tallerAhead_20, dX6_tallerAhead_21, dX6_tallerAhead_22, dX6_tallerAhead_25, dX6_tallerAhead_26, dX6_tallerAhead_29, fT_6_61, dX6_tallerAhead_32, dX6_tallerAhead_33, dX6_tallerAhead_34, dX6_tallerAhead_35, dX6_tallerAhead_38, dX6_tallerAhead_41, dX6_tallerAhead_42, dX6_tallerAhead_43, dX6_tallerAhead_46, dX6_tallerAhead_47, dX6_tallerAhead_50, dX6_tallerAhead_51, dX6_tallerAhead_53, dX6_tallerAhead_55, dX6_tallerAhead_58, dX6_tallerAhead_59, dX6_tallerAhead_60, dX6_tallerAhead_63, dX6_tallerAhead_64, dX6_tallerAhead_65, dX6_tallerAhead_66, dX6_tallerAhead_69, dX6_tallerAhead_70, dX6_tallerAhead_71, dX6_tallerAhead_74, dX6_tallerAhead_77, dX6_tallerAhead_80, dX6_tallerAhead_83, dX6_tallerAhead_86, dX6_tallerAhead_87]
      simp (disch := omega) only [li, nI_add, nI_clamp, nI_ltI, nI_leI, nI_eq, inx_iff, a31, nI_1shl', nI_shr', div_bit, tb1, tb0, fa_or, fa_and, nI_not, pk_sub, nI_dec, h1]
      refine ⟨fun z => hP _ _ ⟨rfl, by rw [show i = np by omega]⟩, fun z => ?_⟩
      obtain ⟨c1, c2⟩ := hT i z
      have e : mI (S + 10) i = -nI 1 ↔ st i = 0 := by
        rw [c1]
        exact (by decide +kernel : ∀ s, s ≤ 12 → (nI s - nI 1 = -nI 1 ↔ s = 0)) (st i) c2
      have h0 : st i = 0 → hidP st ta ro p i = false := fun y => by unfold hidP; rw [decide_eq_false (fun w => w y)]; rfl
      exact ⟨by omega, fun y => no z (h0 (e.mp y)) _, fun y => g25 z (fun w => y (e.mpr w)) _⟩
  refine hG.run [4] 40 ?_
  simp [wp, stepI, ln, jmp, cmpI, Value.category, rd, tyF, va_rf, st1, st2, clr, isLg, CB, inx_0, inx_1, inx_2, inx_3, inx_4, inx_5, bI_0, bI_1, bI_ok, fin3, tyX6, entL, q0, dX6_tallerAhead_0, dX6_tallerAhead_1, dX6_tallerAhead_2, dX6_tallerAhead_3, dX6_tallerAhead_4, dX6_tallerAhead_5, dX6_tallerAhead_6, fT_6_12, dX6_tallerAhead_9, fT_6_50, dX6_tallerAhead_12, dX6_tallerAhead_15, dX6_tallerAhead_16, fT_6_28, dX6_tallerAhead_19, dX6_tallerAhead_20, dX6_tallerAhead_21, dX6_tallerAhead_22, dX6_tallerAhead_25, dX6_tallerAhead_26, dX6_tallerAhead_29, fT_6_61, dX6_tallerAhead_32, dX6_tallerAhead_33, dX6_tallerAhead_34, dX6_tallerAhead_35, dX6_tallerAhead_38, dX6_tallerAhead_41, dX6_tallerAhead_42, dX6_tallerAhead_43, dX6_tallerAhead_46, dX6_tallerAhead_47, dX6_tallerAhead_50, dX6_tallerAhead_51, dX6_tallerAhead_53, dX6_tallerAhead_55, dX6_tallerAhead_58, dX6_tallerAhead_59, dX6_tallerAhead_60, dX6_tallerAhead_63, dX6_tallerAhead_64, dX6_tallerAhead_65, dX6_tallerAhead_66, dX6_tallerAhead_69, dX6_tallerAhead_70, dX6_tallerAhead_71, dX6_tallerAhead_74, dX6_tallerAhead_77, dX6_tallerAhead_80, dX6_tallerAhead_83, dX6_tallerAhead_86, dX6_tallerAhead_87]
  exact loop (np + 1) 0 _ (by omega) (by omega)
