def orF (s x : Nat) (A : Nat → Nat) : Nat → Nat
  | 0 => s
  | k + 1 => if x.testBit k then orF s x A k ||| A k else orF s x A k
theorem orF_s (s x : Nat) (A : Nat → Nat) (k : Nat) : orF s x A (k + 1) = if x.testBit k then orF s x A k ||| A k else orF s x A k := rfl
theorem orF_lt {s x : Nat} {A : Nat → Nat} (hs : s < 1024) : ∀ k, (∀ j, j < k → A j < 1024) → orF s x A k < 1024
  | 0, _ => hs
  | k + 1, h => by
    have := orF_lt (x := x) hs k (fun j hj => h j (by omega))
    rw [orF_s]
    split
    · exact Nat.or_lt_two_pow (n := 10) this (h k (by omega))
    · exact this
/-- above, climbed along a line -/
def clI (np : Nat) (sa lw A : Nat → Nat) : Nat → (Nat → Nat)
  | 0 => A
  | i + 1 => upN (clI np sa lw A i) (lw i) (orF (sa (lw i)) (sa (lw i)) (clI np sa lw A i) np)
theorem clI_s (np : Nat) (sa lw A : Nat → Nat) (i : Nat) : clI np sa lw A (i + 1) = upN (clI np sa lw A i) (lw i) (orF (sa (lw i)) (sa (lw i)) (clI np sa lw A i) np) := rfl
set_option maxHeartbeats 4000000 in
set_option maxRecDepth 100000 in
theorem c2_climb (l : Launch) (X : Cx) (d : Nat) (sh : Nat → Option Sh) (mI : Nat → Nat → Int32) (mL : Nat → Nat → Int64) (mR : Nat → Nat → Option Nat) (n : Nat) (Q : Nat) (hO : OL sh mR Q 2 ob2) (np : Nat) (sa lw A : Nat → Nat) (hM : LaM mI Q np sa) (hl : ∀ i, i < np → mI (Q + 3) i = nI (lw i) ∧ lw i < np) (hA : ∀ p, p < 10 → mI (Q + 2) p = nI (A p) ∧ A p < 1024) : Cn l X yX2_climb cX2_climb 5 none d [.ref Q] (sh, mI, mL, mR, n) (fun r M' => r = none ∧ ∃ mI', M' = (sh, mI', mL, mR, n) ∧ (∀ a k, a ≠ Q + 2 → mI' a k = mI a k) ∧ ∀ p, p < 10 → mI' (Q + 2) p = nI (clI np sa lw A np p) ∧ clI np sa lw A np p < 1024) 0 0 := by
  refine Cn.run 2 false (by decide) rfl (by decide) (by simp [entA, Value.category]) ?_
  intro P G hP hG
  have q0 := hO.1
  have q_saidAbove := hO.2.2 (0, 1, .int, 10) (by decide)
  dsimp only at q_saidAbove
  have q_above := hO.2.2 (1, 2, .int, 10) (by decide)
  dsimp only at q_above
  have q_line := hO.2.2 (2, 3, .int, 10) (by decide)
  dsimp only at q_line
  have hSl := hO.2.1
  have xA : Q + 2 < 1000000000 := by omega
  obtain ⟨h1, h2, h3, h4⟩ := hM
  have loop : ∀ f i m1 v2 v3 v4, np - i < f → i ≤ np → (∀ a k, a ≠ Q + 2 → m1 a k = mI a k) → (∀ p, p < 10 → m1 (Q + 2) p = nI (clI np sa lw A i p) ∧ clI np sa lw A i p < 1024) → G 2 [some (.ref Q), some (.int (nI i)), v2, v3, v4] [] (sh, m1, mL, mR, n) := by
    intro f
    induction f with
    | zero => intro i m1 v2 v3 v4 h; omega
    | succ f ih =>
      intro i m1 v2 v3 v4 hf hi g1 g2
      have p1 : m1 Q 3 = nI np := (g1 _ _ (by omega)).trans h1
      refine hG.run [27] 40 ?_
      simp [wp, stepI, ln, jmp, cmpI, Value.category, rd, tyF, va_rf, st1, st2, clr, isLg, CB, inx_0, inx_1, inx_2, inx_3, inx_4, inx_5, bI_0, bI_1, bI_ok, fin3, tyX2, entL, q0, q_line, q_saidAbove, dX2_climb_0, dX2_climb_1, dX2_climb_2, dX2_climb_3, dX2_climb_4, fT_2_54, dX2_climb_7, dX2_climb_10, dX2_climb_11, fT_2_18, dX2_climb_14, dX2_climb_15, dX2_climb_16, dX2_climb_17, dX2_climb_18, fT_2_9, dX2_climb_21, dX2_climb_22, dX2_climb_23, dX2_climb_24, dX2_climb_25, dX2_climb_27, dX2_climb_29, dX2_climb_30, dX2_climb_33, dX2_climb_36, dX2_climb_37, dX2_climb_40, dX2_climb_41, dX2_climb_42, dX2_climb_44, dX2_climb_45, dX2_climb_46, dX2_climb_47, dX2_climb_50, dX2_climb_51, dX2_climb_52, fT_2_15, dX2_climb_55, dX2_climb_57, dX2_climb_58, dX2_climb_59, dX2_climb_60, dX2_climb_63, dX2_climb_66, dX2_climb_67, dX2_climb_70, dX2_climb_71, dX2_climb_72, dX2_climb_73, dX2_climb_76, dX2_climb_79]
      simp (disch := omega) only [li, nI_add, nI_clamp, nI_ltI, nI_leI, nI_eq, inx_iff, a31, nI_1shl', nI_shr', div_bit, tb1, tb0, fa_or, fa_and, nI_not, pk_sub, nI_dec, p1]
      refine ⟨fun z => hP _ _ ⟨rfl, m1, rfl, g1, by rw [show i = np by omega] at g2; exact g2⟩, fun z => ?_⟩
      obtain ⟨l1, l2⟩ := hl i z
      have l1' : m1 (Q + 3) i = nI (lw i) := (g1 _ _ (by omega)).trans l1
      have s1 : m1 (Q + 1) (lw i) = nI (sa (lw i)) := (g1 _ _ (by omega)).trans (h4 _ (by omega)).1
      have s2 := (h4 (lw i) (by omega)).2
      have h10 : lw i < 10 := by omega
      have i10 : i < 10 := by omega
      simp (disch := omega) only [li, nI_add, nI_clamp, nI_ltI, nI_leI, nI_eq, inx_iff, a31, nI_1shl', nI_shr', div_bit, tb1, tb0, fa_or, fa_and, nI_not, pk_sub, nI_dec, l1', s1, h10, i10, true_and]
      have nx := ih (i + 1)
      rw [clI_s] at nx
      generalize hB : clI np sa lw A i = B at g2 nx
      generalize hp : lw i = p at nx l2 s1 s2 h10
      clear ih
      have inner : ∀ f2 j, np - j < f2 → j ≤ np → G 27 [some (.ref Q), some (.int (nI i)), some (.int (nI p)), some (.int (nI (orF (sa p) (sa p) B j))), some (.int (nI j))] [] (sh, m1, mL, mR, n) := by
        intro f2
        induction f2 with
        | zero => intro j h; omega
        | succ f2 ih2 =>
          intro j hf2 hj
          have ol := orF_lt (x := sa p) (A := B) s2 j (fun q hq => (g2 q (by omega)).2)
          have nx2 := ih2 (j + 1)
          rw [orF_s] at nx2
          refine hG.run [2, 27] 60 ?_
          simp [wp, stepI, ln, jmp, cmpI, Value.category, rd, tyF, va_rf, st1, st2, clr, isLg, CB, inx_0, inx_1, inx_2, inx_3, inx_4, inx_5, bI_0, bI_1, bI_ok, fin3, tyX2, entL, q0, q_saidAbove, q_above, xA, dX2_climb_0, dX2_climb_1, dX2_climb_2, dX2_climb_3, dX2_climb_4, fT_2_54, dX2_climb_7, dX2_climb_10, dX2_climb_11, fT_2_18, dX2_climb_14, dX2_climb_15, dX2_climb_16, dX2_climb_17, dX2_climb_18, fT_2_9, dX2_climb_21, dX2_climb_22, dX2_climb_23, dX2_climb_24, dX2_climb_25, dX2_climb_27, dX2_climb_29, dX2_climb_30, dX2_climb_33, dX2_climb_36, dX2_climb_37, dX2_climb_40, dX2_climb_41, dX2_climb_42, dX2_climb_44, dX2_climb_45, dX2_climb_46, dX2_climb_47, dX2_climb_50, dX2_climb_51, dX2_climb_52, fT_2_15, dX2_climb_55, dX2_climb_57, dX2_climb_58, dX2_climb_59, dX2_climb_60, dX2_climb_63, dX2_climb_66, dX2_climb_67, dX2_climb_70, dX2_climb_71, dX2_climb_72, dX2_climb_73, dX2_climb_76, dX2_climb_79]
          simp (disch := omega) only [li, nI_add, nI_clamp, nI_ltI, nI_leI, nI_eq, inx_iff, a31, nI_1shl', nI_shr', div_bit, tb1, tb0, fa_or, fa_and, nI_not, pk_sub, nI_dec, p1]
          refine ⟨fun y => ?_, fun y => ?_⟩
          · refine ⟨h10, nx _ _ _ _ (by omega) (by omega) (fun a k ha => by rw [up2_ne (fun w => ha w.1)]; exact g1 a k ha) (fun q hq => ?_)⟩
            by_cases e : q = p
            · rw [e, up2_eq, upN_eq, show j = np by omega]
              exact ⟨rfl, orF_lt s2 np (fun q hq => (g2 q (by omega)).2)⟩
            · rw [up2_ne (fun w => e w.2), upN_ne e]; exact g2 q hq
          · obtain ⟨b1, b2⟩ := g2 j (by omega)
            simp (disch := omega) only [li, nI_add, nI_clamp, nI_ltI, nI_leI, nI_eq, inx_iff, a31, nI_1shl', nI_shr', div_bit, tb1, tb0, fa_or, fa_and, nI_not, pk_sub, nI_dec, s1, b1]
            refine ⟨h10, fun w => ?_, fun w => ?_⟩
            · rw [if_neg (by rw [w]; decide)] at nx2; exact nx2 (by omega) (by omega)
            · rw [if_pos (by simpa using w)] at nx2; exact ⟨by omega, nx2 (by omega) (by omega)⟩
      exact inner (np + 1) 0 (by omega) (by omega)
  refine hG.run [2] 40 ?_
  simp [wp, stepI, ln, jmp, cmpI, Value.category, rd, tyF, va_rf, st1, st2, clr, isLg, CB, inx_0, inx_1, inx_2, inx_3, inx_4, inx_5, bI_0, bI_1, bI_ok, fin3, tyX2, entL, q0, dX2_climb_0, dX2_climb_1, dX2_climb_2, dX2_climb_3, dX2_climb_4, fT_2_54, dX2_climb_7, dX2_climb_10, dX2_climb_11, fT_2_18, dX2_climb_14, dX2_climb_15, dX2_climb_16, dX2_climb_17, dX2_climb_18, fT_2_9, dX2_climb_21, dX2_climb_22, dX2_climb_23, dX2_climb_24, dX2_climb_25, dX2_climb_27, dX2_climb_29, dX2_climb_30, dX2_climb_33, dX2_climb_36, dX2_climb_37, dX2_climb_40, dX2_climb_41, dX2_climb_42, dX2_climb_44, dX2_climb_45, dX2_climb_46, dX2_climb_47, dX2_climb_50, dX2_climb_51, dX2_climb_52, fT_2_15, dX2_climb_55, dX2_climb_57, dX2_climb_58, dX2_climb_59, dX2_climb_60, dX2_climb_63, dX2_climb_66, dX2_climb_67, dX2_climb_70, dX2_climb_71, dX2_climb_72, dX2_climb_73, dX2_climb_76, dX2_climb_79]
  exact loop (np + 1) 0 mI _ _ _ (by omega) (by omega) (fun _ _ _ => rfl) hA
theorem plA_le (np : Nat) (sa : Nat → Nat) : ∀ f t a, a ≤ 2 → plA np sa f t a ≤ 2
  | 0, _, _, h => h
  | f + 1, t, a, h => by
    rw [plA_s]
    split
    · exact h
    · split
      · exact plA_le np sa f _ _ (by split <;> omega)
      · omega
set_option maxHeartbeats 4000000 in
set_option maxRecDepth 100000 in
theorem c2_oneOrderFits (l : Launch) (X : Cx) (d : Nat) (sh : Nat → Option Sh) (mI : Nat → Nat → Int32) (mL : Nat → Nat → Int64) (mR : Nat → Nat → Option Nat) (n : Nat) (Q : Nat) (hO : OL sh mR Q 2 ob2) (np : Nat) (sa : Nat → Nat) (hM : LaM mI Q np sa) (hd : 1 ≤ d) : Cn l X yX2_oneOrderFits cX2_oneOrderFits 1 (some .boolean) d [.ref Q] (sh, mI, mL, mR, n) (fun r M' => r = some (.int (bI (decide (plA np sa 10 (2 ^ np - 1) 1 = 1)))) ∧ ∃ mI', M' = (sh, mI', mL, mR, n) ∧ ∀ a k, a ≠ Q + 3 → mI' a k = mI a k) 0 0 := by
  refine Cn.run 2 false (by decide) rfl (by decide) (by simp [entA, Value.category]) ?_
  intro P G hP hG
  have q0 := hO.1
  have hpw := p2_10 hM.2.1
  have e1 := hM.2.2.1
  refine hG.run [] 40 ?_
  simp [wp, stepI, ln, jmp, cmpI, Value.category, rd, tyF, va_rf, st1, st2, clr, isLg, CB, inx_0, inx_1, inx_2, inx_3, inx_4, inx_5, bI_0, bI_1, bI_ok, fin3, tyX2, entL, q0, dX2_oneOrderFits_0, dX2_oneOrderFits_1, dX2_oneOrderFits_2, fT_2_29, dX2_oneOrderFits_5, dX2_oneOrderFits_8, dX2_oneOrderFits_9, dX2_oneOrderFits_12, dX2_oneOrderFits_13, dX2_oneOrderFits_16, dX2_oneOrderFits_17]
  rw [e1]
  refine hG.callV dX2_oneOrderFits_5 mv_2_33 [.int (nI (2 ^ np - 1))] [] (c2_peel l X (d - 1) sh mI mL mR n Q hO np sa hM (2 ^ np - 1) (by omega)) ⟨_, rfl, rfl⟩ q0 (by omega) rfl (by decide) (by simp [Value.category]) rfl ?_
  rintro r M' ⟨rfl, m1, rfl, g1, -⟩
  have pl := plA_le np sa 10 (2 ^ np - 1) 1 (by omega)
  generalize plA np sa 10 (2 ^ np - 1) 1 = R at pl hP ⊢
  refine hG.run [] 40 ?_
  simp [wp, stepI, ln, jmp, cmpI, Value.category, rd, tyF, va_rf, st1, st2, clr, isLg, CB, inx_0, inx_1, inx_2, inx_3, inx_4, inx_5, bI_0, bI_1, bI_ok, fin3, tyX2, entL, q0, dX2_oneOrderFits_0, dX2_oneOrderFits_1, dX2_oneOrderFits_2, fT_2_29, dX2_oneOrderFits_5, dX2_oneOrderFits_8, dX2_oneOrderFits_9, dX2_oneOrderFits_12, dX2_oneOrderFits_13, dX2_oneOrderFits_16, dX2_oneOrderFits_17]
  simp (disch := omega) only [li, nI_add, nI_clamp, nI_ltI, nI_leI, nI_eq, inx_iff, a31, nI_1shl', nI_shr', div_bit, tb1, tb0, fa_or, fa_and, nI_not, pk_sub, nI_dec]
  exact ⟨fun z => hP _ _ ⟨by rw [decide_eq_false z]; rfl, m1, rfl, g1⟩, fun z => hP _ _ ⟨by rw [decide_eq_true z]; rfl, m1, rfl, g1⟩⟩
/-- what a Ladder knows -/
def LaK (mI : Nat → Nat → Int32) (Q np : Nat) (sa A : Nat → Nat) : Prop := mI Q 6 = nI (!decide (plA np sa 10 (2 ^ np - 1) 1 = 0)).toNat ∧ (¬ plA np sa 10 (2 ^ np - 1) 1 = 0 → ∀ p, p < 10 → mI (Q + 2) p = nI (clI np sa (plLn np sa (2 ^ np - 1)) A np p) ∧ clI np sa (plLn np sa (2 ^ np - 1)) A np p < 1024)
theorem i_sub1 (x y : Int32) : x - (y + 1) = x - y + -1 := by
  rw [Int32.sub_eq_add_neg x (y + 1), Int32.neg_add, Int32.sub_eq_add_neg (-y) 1, ← Int32.add_assoc, ← Int32.sub_eq_add_neg x y]
set_option maxHeartbeats 4000000 in
set_option maxRecDepth 100000 in
theorem c2_greatestPlace (l : Launch) (X : Cx) (d : Nat) (sh : Nat → Option Sh) (mI : Nat → Nat → Int32) (mL : Nat → Nat → Int64) (mR : Nat → Nat → Option Nat) (n : Nat) (Q : Nat) (hO : OL sh mR Q 2 ob2) (fits : Bool) (hf : mI Q 6 = nI fits.toNat) (A : Nat → Nat) (np : Nat) (hnp : np ≤ 10) (hpn : mI Q 3 = nI np) (hA : fits = true → ∀ p, p < np → mI (Q + 2) p = nI (A p) ∧ A p < 1024) (p : Nat) (hp : p < np) (hd : 1 ≤ d) : Cn l X yX2_greatestPlace cX2_greatestPlace 4 (some .int) d [.ref Q, .int (nI p)] (sh, mI, mL, mR, n) (fun r M' => M' = (sh, mI, mL, mR, n) ∧ r = some (.int (nI (np - 1) - nI (fb_ct (fun q => fits && (A q).testBit p) np)))) 0 0 := by
  refine Cn.run 2 false (by decide) rfl (by decide) (by simp [entA, Value.category]) ?_
  intro P G hP hG
  have q0 := hO.1
  have loop : ∀ f i, np - i < f → i ≤ np → G 9 [some (.ref Q), some (.int (nI p)), some (.int (nI (np - 1) - nI (fb_ct (fun q => fits && (A q).testBit p) i))), some (.int (nI i))] [] (sh, mI, mL, mR, n) := by
    intro f
    induction f with
    | zero => intro i h; omega
    | succ f ih =>
      intro i hf2 hi
      have nx := ih (i + 1)
      rw [fb_ct_succ] at nx
      refine hG.run [9] 40 ?_
      simp [wp, stepI, ln, jmp, cmpI, Value.category, rd, tyF, va_rf, st1, st2, clr, isLg, CB, inx_0, inx_1, inx_2, inx_3, inx_4, inx_5, bI_0, bI_1, bI_ok, fin3, tyX2, entL, q0, dX2_greatestPlace_0, dX2_greatestPlace_1, fT_2_54, dX2_greatestPlace_4, dX2_greatestPlace_5, dX2_greatestPlace_6, dX2_greatestPlace_7, dX2_greatestPlace_8, dX2_greatestPlace_9, dX2_greatestPlace_10, dX2_greatestPlace_11, dX2_greatestPlace_14, dX2_greatestPlace_17, dX2_greatestPlace_18, dX2_greatestPlace_19, dX2_greatestPlace_20, dX2_greatestPlace_23, dX2_greatestPlace_26, dX2_greatestPlace_29, dX2_greatestPlace_32, dX2_greatestPlace_35, dX2_greatestPlace_36]
      simp (disch := omega) only [li, nI_add, nI_clamp, nI_ltI, nI_leI, nI_eq, inx_iff, a31, nI_1shl', nI_shr', div_bit, tb1, tb0, fa_or, fa_and, nI_not, pk_sub, nI_dec, hpn]
      refine ⟨fun z => hP _ _ ⟨rfl, by rw [show i = np by omega]⟩, fun z => ?_⟩
      refine hG.callV dX2_greatestPlace_20 mv_2_78 [.int (nI p), .int (nI i)] [] (c2_isAbove l X (d - 1) sh mI mL mR n Q hO fits hf A np hnp hA p i hp z) ⟨_, rfl, rfl⟩ q0 (by omega) rfl (by decide) (by simp [Value.category]) rfl ?_
      rintro r M' ⟨rfl, rfl⟩
      generalize (fits && (A i).testBit p) = b at nx ⊢
      cases b with
      | false =>
        refine hG.run [9] 40 ?_
        simp [wp, stepI, ln, jmp, cmpI, Value.category, rd, tyF, va_rf, st1, st2, clr, isLg, CB, inx_0, inx_1, inx_2, inx_3, inx_4, inx_5, bI_0, bI_1, bI_ok, fin3, tyX2, entL, q0, dX2_greatestPlace_0, dX2_greatestPlace_1, fT_2_54, dX2_greatestPlace_4, dX2_greatestPlace_5, dX2_greatestPlace_6, dX2_greatestPlace_7, dX2_greatestPlace_8, dX2_greatestPlace_9, dX2_greatestPlace_10, dX2_greatestPlace_11, dX2_greatestPlace_14, dX2_greatestPlace_17, dX2_greatestPlace_18, dX2_greatestPlace_19, dX2_greatestPlace_20, dX2_greatestPlace_23, dX2_greatestPlace_26, dX2_greatestPlace_29, dX2_greatestPlace_32, dX2_greatestPlace_35, dX2_greatestPlace_36]
        simp (disch := omega) only [li, nI_add, nI_clamp, nI_ltI, nI_leI, nI_eq, inx_iff, a31, nI_1shl', nI_shr', div_bit, tb1, tb0, fa_or, fa_and, nI_not, pk_sub, nI_dec]
        exact nx (by omega) (by omega)
      | true =>
        have e : nI (np - 1) - nI (fb_ct (fun q => fits && (A q).testBit p) i + 1) = nI (np - 1) - nI (fb_ct (fun q => fits && (A q).testBit p) i) + -1 := by
          rw [← nI_add]
          exact i_sub1 _ _
        have := nx (by omega) (by omega)
        rw [if_pos rfl, e] at this
        refine hG.run [9] 40 ?_
        simp [wp, stepI, ln, jmp, cmpI, Value.category, rd, tyF, va_rf, st1, st2, clr, isLg, CB, inx_0, inx_1, inx_2, inx_3, inx_4, inx_5, bI_0, bI_1, bI_ok, fin3, tyX2, entL, q0, dX2_greatestPlace_0, dX2_greatestPlace_1, fT_2_54, dX2_greatestPlace_4, dX2_greatestPlace_5, dX2_greatestPlace_6, dX2_greatestPlace_7, dX2_greatestPlace_8, dX2_greatestPlace_9, dX2_greatestPlace_10, dX2_greatestPlace_11, dX2_greatestPlace_14, dX2_greatestPlace_17, dX2_greatestPlace_18, dX2_greatestPlace_19, dX2_greatestPlace_20, dX2_greatestPlace_23, dX2_greatestPlace_26, dX2_greatestPlace_29, dX2_greatestPlace_32, dX2_greatestPlace_35, dX2_greatestPlace_36]
        simp (disch := omega) only [li, nI_add, nI_clamp, nI_ltI, nI_leI, nI_eq, inx_iff, a31, nI_1shl', nI_shr', div_bit, tb1, tb0, fa_or, fa_and, nI_not, pk_sub, nI_dec]
        exact this
  refine hG.run [9] 40 ?_
  simp [wp, stepI, ln, jmp, cmpI, Value.category, rd, tyF, va_rf, st1, st2, clr, isLg, CB, inx_0, inx_1, inx_2, inx_3, inx_4, inx_5, bI_0, bI_1, bI_ok, fin3, tyX2, entL, q0, dX2_greatestPlace_0, dX2_greatestPlace_1, fT_2_54, dX2_greatestPlace_4, dX2_greatestPlace_5, dX2_greatestPlace_6, dX2_greatestPlace_7, dX2_greatestPlace_8, dX2_greatestPlace_9, dX2_greatestPlace_10, dX2_greatestPlace_11, dX2_greatestPlace_14, dX2_greatestPlace_17, dX2_greatestPlace_18, dX2_greatestPlace_19, dX2_greatestPlace_20, dX2_greatestPlace_23, dX2_greatestPlace_26, dX2_greatestPlace_29, dX2_greatestPlace_32, dX2_greatestPlace_35, dX2_greatestPlace_36]
  simp (disch := omega) only [li, nI_add, nI_clamp, nI_ltI, nI_leI, nI_eq, inx_iff, a31, nI_1shl', nI_shr', div_bit, tb1, tb0, fa_or, fa_and, nI_not, pk_sub, nI_dec, hpn]
  have := loop (np + 1) 0 (by omega) (by omega)
  rw [show fb_ct (fun q => fits && (A q).testBit p) 0 = 0 from rfl, pk_sub (Nat.zero_le _), Nat.sub_zero] at this
  exact this
/-- the set of those that p holds of -/
def setN (p : Nat → Bool) : Nat → Nat
  | 0 => 0
  | k + 1 => if p k then setN p k ||| 2 ^ k else setN p k
theorem setN_s (p : Nat → Bool) (k : Nat) : setN p (k + 1) = if p k then setN p k ||| 2 ^ k else setN p k := rfl
theorem setN_lt (p : Nat → Bool) : ∀ k, setN p k < 2 ^ k
  | 0 => by show 0 < 1; decide
  | k + 1 => by
    have := setN_lt p k
    have h2 : 2 ^ (k + 1) = 2 ^ k * 2 := Nat.pow_succ 2 k
    rw [setN_s]
    split
    · exact Nat.or_lt_two_pow (by omega) (by rw [h2]; have := Nat.pow_pos (n := k) (show 0 < 2 by decide); omega)
    · omega
set_option maxHeartbeats 4000000 in
set_option maxRecDepth 100000 in
theorem c2_untangling (l : Launch) (X : Cx) (d : Nat) (sh : Nat → Option Sh) (mI : Nat → Nat → Int32) (mL : Nat → Nat → Int64) (mR : Nat → Nat → Option Nat) (n : Nat) (Q : Nat) (hO : OL sh mR Q 2 ob2) (np : Nat) (sa : Nat → Nat) (hM : LaM mI Q np sa) (hd : 1 ≤ d) : Cn l X yX2_untangling cX2_untangling 3 (some .int) d [.ref Q] (sh, mI, mL, mR, n) (fun r M' => r = some (.int (nI (setN (fun p => !decide (plA np sa 10 (anot (2 ^ np - 1) (2 ^ p)) 1 = 0)) np))) ∧ ∃ mI', M' = (sh, mI', mL, mR, n) ∧ ∀ a k, a ≠ Q + 3 → mI' a k = mI a k) 0 0 := by
  refine Cn.run 2 false (by decide) rfl (by decide) (by simp [entA, Value.category]) ?_
  intro P G hP hG
  have q0 := hO.1
  obtain ⟨h1, h2, h3, h4⟩ := hM
  have hpw := p2_10 h2
  have loop : ∀ f i m1, np - i < f → i ≤ np → (∀ a k, a ≠ Q + 3 → m1 a k = mI a k) → G 4 [some (.ref Q), some (.int (nI (setN (fun p => !decide (plA np sa 10 (anot (2 ^ np - 1) (2 ^ p)) 1 = 0)) i))), some (.int (nI i))] [] (sh, m1, mL, mR, n) := by
    intro f
    induction f with
    | zero => intro i m1 h; omega
    | succ f ih =>
      intro i m1 hf hi g1
      have p1 : m1 Q 3 = nI np := (g1 _ _ (by omega)).trans h1
      have p3 : m1 Q 4 = nI (2 ^ np - 1) := (g1 _ _ (by omega)).trans h3
      have nx := ih (i + 1)
      rw [setN_s] at nx
      have sl := setN_lt (fun p => !decide (plA np sa 10 (anot (2 ^ np - 1) (2 ^ p)) 1 = 0)) i
      have s2 : 2 ^ i ≤ 2 ^ 10 := Nat.pow_le_pow_right (by decide) (by omega)
      refine hG.run [4] 40 ?_
      simp [wp, stepI, ln, jmp, cmpI, Value.category, rd, tyF, va_rf, st1, st2, clr, isLg, CB, inx_0, inx_1, inx_2, inx_3, inx_4, inx_5, bI_0, bI_1, bI_ok, fin3, tyX2, entL, q0, dX2_untangling_0, dX2_untangling_1, dX2_untangling_2, dX2_untangling_3, dX2_untangling_4, dX2_untangling_5, dX2_untangling_6, fT_2_54, dX2_untangling_9, dX2_untangling_12, dX2_untangling_13, dX2_untangling_14, fT_2_29, dX2_untangling_17, dX2_untangling_18, dX2_untangling_19, dX2_untangling_20, dX2_untangling_21, dX2_untangling_22, dX2_untangling_23, dX2_untangling_26, dX2_untangling_29, dX2_untangling_30, dX2_untangling_31, dX2_untangling_32, dX2_untangling_33, dX2_untangling_34, dX2_untangling_35, dX2_untangling_38, dX2_untangling_41, dX2_untangling_42]
      simp (disch := omega) only [li, nI_add, nI_clamp, nI_ltI, nI_leI, nI_eq, inx_iff, a31, nI_1shl', nI_shr', div_bit, tb1, tb0, fa_or, fa_and, nI_not, pk_sub, nI_dec, p1, p3]
      refine ⟨fun z => hP _ _ ⟨by rw [show i = np by omega], m1, rfl, g1⟩, fun z => ?_⟩
      have i2 := p2_le10 (k := i) (by omega)
      have al := anot_le (2 ^ np - 1) (2 ^ i)
      refine hG.callV dX2_untangling_23 mv_2_33 [.int (nI (anot (2 ^ np - 1) (2 ^ i)))] [] (c2_peel l X (d - 1) sh m1 mL mR n Q hO np sa ⟨p1, h2, p3, fun p hp => ⟨(g1 _ _ (by omega)).trans (h4 p hp).1, (h4 p hp).2⟩⟩ (anot (2 ^ np - 1) (2 ^ i)) (by omega)) ⟨_, rfl, rfl⟩ q0 (by omega) rfl (by decide) (by simp [Value.category]) rfl ?_
      rintro r M' ⟨rfl, m2, rfl, k1, -⟩
      have pl := plA_le np sa 10 (anot (2 ^ np - 1) (2 ^ i)) 1 (by omega)
      generalize plA np sa 10 (anot (2 ^ np - 1) (2 ^ i)) 1 = R at pl nx ⊢
      have g9 : ∀ a k, a ≠ Q + 3 → m2 a k = mI a k := fun a k ha => (k1 a k ha).trans (g1 a k ha)
      refine hG.run [4] 40 ?_
      simp [wp, stepI, ln, jmp, cmpI, Value.category, rd, tyF, va_rf, st1, st2, clr, isLg, CB, inx_0, inx_1, inx_2, inx_3, inx_4, inx_5, bI_0, bI_1, bI_ok, fin3, tyX2, entL, q0, dX2_untangling_0, dX2_untangling_1, dX2_untangling_2, dX2_untangling_3, dX2_untangling_4, dX2_untangling_5, dX2_untangling_6, fT_2_54, dX2_untangling_9, dX2_untangling_12, dX2_untangling_13, dX2_untangling_14, fT_2_29, dX2_untangling_17, dX2_untangling_18, dX2_untangling_19, dX2_untangling_20, dX2_untangling_21, dX2_untangling_22, dX2_untangling_23, dX2_untangling_26, dX2_untangling_29, dX2_untangling_30, dX2_untangling_31, dX2_untangling_32, dX2_untangling_33, dX2_untangling_34, dX2_untangling_35, dX2_untangling_38, dX2_untangling_41, dX2_untangling_42]
      simp (disch := omega) only [li, nI_add, nI_clamp, nI_ltI, nI_leI, nI_eq, inx_iff, a31, nI_1shl', nI_shr', div_bit, tb1, tb0, fa_or, fa_and, nI_not, pk_sub, nI_dec]
      refine ⟨fun y => ?_, fun y => ?_⟩
      · have := nx m2 (by omega) (by omega) g9
        rw [decide_eq_true y] at this
        exact this
      · have := nx m2 (by omega) (by omega) g9
        rw [decide_eq_false y] at this
        exact this
  refine hG.run [4] 40 ?_
  simp [wp, stepI, ln, jmp, cmpI, Value.category, rd, tyF, va_rf, st1, st2, clr, isLg, CB, inx_0, inx_1, inx_2, inx_3, inx_4, inx_5, bI_0, bI_1, bI_ok, fin3, tyX2, entL, q0, dX2_untangling_0, dX2_untangling_1, dX2_untangling_2, dX2_untangling_3, dX2_untangling_4, dX2_untangling_5, dX2_untangling_6, fT_2_54, dX2_untangling_9, dX2_untangling_12, dX2_untangling_13, dX2_untangling_14, fT_2_29, dX2_untangling_17, dX2_untangling_18, dX2_untangling_19, dX2_untangling_20, dX2_untangling_21, dX2_untangling_22, dX2_untangling_23, dX2_untangling_26, dX2_untangling_29, dX2_untangling_30, dX2_untangling_31, dX2_untangling_32, dX2_untangling_33, dX2_untangling_34, dX2_untangling_35, dX2_untangling_38, dX2_untangling_41, dX2_untangling_42]
  exact loop (np + 1) 0 mI (by omega) (by omega) (fun _ _ _ => rfl)
/-- in how many places a new one may stand, by the line of the others -/
def plLo (sa lw : Nat → Nat) (p : Nat) : Nat → Nat
  | 0 => 0
  | i + 1 => if (sa p).testBit (lw i) then i + 1 else plLo sa lw p i
def plHi (sa lw : Nat → Nat) (p m : Nat) : Nat → Nat
  | 0 => m
  | i + 1 => if (sa (lw i)).testBit p then Nat.min (plHi sa lw p m i) i else plHi sa lw p m i
theorem plLo_le (sa lw : Nat → Nat) (p : Nat) : ∀ i, plLo sa lw p i ≤ i
  | 0 => Nat.le_refl _
  | i + 1 => by
    show (if (sa p).testBit (lw i) then i + 1 else plLo sa lw p i) ≤ i + 1
    split
    · exact Nat.le_refl _
    · exact Nat.le_succ_of_le (plLo_le sa lw p i)
theorem plHi_le (sa lw : Nat → Nat) (p m : Nat) : ∀ i, plHi sa lw p m i ≤ m
  | 0 => Nat.le_refl _
  | i + 1 => by
    show (if (sa (lw i)).testBit p then Nat.min (plHi sa lw p m i) i else plHi sa lw p m i) ≤ m
    split
    · exact Nat.le_trans (Nat.min_le_left _ _) (plHi_le sa lw p m i)
    · exact plHi_le sa lw p m i
theorem mx0 : ∀ hi lo, hi ≤ 10 → lo ≤ 10 → (if (0 : Int32) < nI hi - nI lo + 1 then nI hi - nI lo + 1 else 0) = nI (hi + 1 - lo) := fun hi lo h1 h2 => (by decide +kernel : ∀ hi, hi ≤ 10 → ∀ lo, lo ≤ 10 → (if (0 : Int32) < nI hi - nI lo + 1 then nI hi - nI lo + 1 else 0) = nI (hi + 1 - lo)) hi h1 lo h2
def plcA (np : Nat) (sa : Nat → Nat) (p : Nat) : Nat := if plA np sa 10 (anot (2 ^ np - 1) (2 ^ p)) 1 = 1 then (fun lw => plHi sa lw p (np - 1) (np - 1) + 1 - plLo sa lw p (np - 1)) (plLn np sa (anot (2 ^ np - 1) (2 ^ p))) else 0
set_option maxHeartbeats 4000000 in
set_option maxRecDepth 100000 in
theorem c2_placesFor (l : Launch) (X : Cx) (d : Nat) (sh : Nat → Option Sh) (mI : Nat → Nat → Int32) (mL : Nat → Nat → Int64) (mR : Nat → Nat → Option Nat) (n : Nat) (Q : Nat) (hO : OL sh mR Q 2 ob2) (np : Nat) (sa : Nat → Nat) (hM : LaM mI Q np sa) (p : Nat) (hp : p < np) (hT : plA np sa 10 (anot (2 ^ np - 1) (2 ^ p)) 1 ≠ 0 → ∀ i, i < np - 1 → plT np sa (anot (2 ^ np - 1) (2 ^ p)) i ≠ 0) (hd : 1 ≤ d) : Cn l X yX2_placesFor cX2_placesFor 7 (some .int) d [.ref Q, .int (nI p)] (sh, mI, mL, mR, n) (fun r M' => r = some (.int (nI (plcA np sa p))) ∧ ∃ mI', M' = (sh, mI', mL, mR, n) ∧ ∀ a k, a ≠ Q + 3 → mI' a k = mI a k) 0 0 := by
  refine Cn.run 2 false (by decide) rfl (by decide) (by simp [entA, Value.category]) ?_
  intro P G hP hG
  have q0 := hO.1
  have q_saidAbove := hO.2.2 (0, 1, .int, 10) (by decide)
  dsimp only at q_saidAbove
  have q_line := hO.2.2 (2, 3, .int, 10) (by decide)
  dsimp only at q_line
  obtain ⟨h1, h2, h3, h4⟩ := hM
  have hpw := p2_10 h2
  have i2 := p2_le10 (k := p) (by omega)
  have al := anot_le (2 ^ np - 1) (2 ^ p)
  unfold plcA at hP
  refine hG.run [] 40 ?_
  simp [wp, stepI, ln, jmp, cmpI, Value.category, rd, tyF, va_rf, st1, st2, clr, isLg, CB, inx_0, inx_1, inx_2, inx_3, inx_4, inx_5, bI_0, bI_1, bI_ok, fin3, tyX2, entL, q0, dX2_placesFor_0, dX2_placesFor_1, dX2_placesFor_2, fT_2_29, dX2_placesFor_5, dX2_placesFor_6, dX2_placesFor_7, dX2_placesFor_8, dX2_placesFor_9, dX2_placesFor_10, dX2_placesFor_11, dX2_placesFor_14, dX2_placesFor_15, dX2_placesFor_18, dX2_placesFor_19, dX2_placesFor_20, dX2_placesFor_21, fT_2_54, dX2_placesFor_24, dX2_placesFor_25, dX2_placesFor_26, dX2_placesFor_27, dX2_placesFor_28, dX2_placesFor_29, dX2_placesFor_30, dX2_placesFor_32, dX2_placesFor_33, dX2_placesFor_35, dX2_placesFor_37, dX2_placesFor_38, dX2_placesFor_41, dX2_placesFor_42, fT_2_18, dX2_placesFor_45, dX2_placesFor_47, dX2_placesFor_48, dX2_placesFor_50, dX2_placesFor_51, fT_2_9, dX2_placesFor_54, dX2_placesFor_55, dX2_placesFor_56, dX2_placesFor_58, dX2_placesFor_59, dX2_placesFor_60, dX2_placesFor_61, dX2_placesFor_64, dX2_placesFor_66, dX2_placesFor_67, dX2_placesFor_68, dX2_placesFor_69, dX2_placesFor_70, dX2_placesFor_73, dX2_placesFor_75, dX2_placesFor_76, dX2_placesFor_77, dX2_placesFor_78, dX2_placesFor_79, dX2_placesFor_80, dX2_placesFor_83, dX2_placesFor_85, dX2_placesFor_87, dX2_placesFor_90, dX2_placesFor_92, dX2_placesFor_95, dX2_placesFor_98, dX2_placesFor_99, dX2_placesFor_101, dX2_placesFor_102, dX2_placesFor_103, dX2_placesFor_104, dX2_placesFor_105, dX2_placesFor_108]
  simp (disch := omega) only [li, nI_add, nI_clamp, nI_ltI, nI_leI, nI_eq, inx_iff, a31, nI_1shl', nI_shr', div_bit, tb1, tb0, fa_or, fa_and, nI_not, pk_sub, nI_dec, h3]
  refine hG.callV dX2_placesFor_11 mv_2_33 [.int (nI (anot (2 ^ np - 1) (2 ^ p)))] [] (c2_peel l X (d - 1) sh mI mL mR n Q hO np sa ⟨h1, h2, h3, h4⟩ (anot (2 ^ np - 1) (2 ^ p)) (by omega)) ⟨_, rfl, rfl⟩ q0 (by omega) rfl (by decide) (by simp [Value.category]) rfl ?_
  rintro r M' ⟨rfl, m2, rfl, k1, k2⟩
  have pl := plA_le np sa 10 (anot (2 ^ np - 1) (2 ^ p)) 1 (by omega)
  have p1 : m2 Q 3 = nI np := (k1 _ _ (by omega)).trans h1
  have s9 : ∀ q, q < 10 → m2 (Q + 1) q = nI (sa q) := fun q hq => (k1 _ _ (by omega)).trans (h4 q hq).1
  generalize plA np sa 10 (anot (2 ^ np - 1) (2 ^ p)) 1 = R at pl k2 hT hP ⊢
  refine hG.run [35] 40 ?_
  simp [wp, stepI, ln, jmp, cmpI, Value.category, rd, tyF, va_rf, st1, st2, clr, isLg, CB, inx_0, inx_1, inx_2, inx_3, inx_4, inx_5, bI_0, bI_1, bI_ok, fin3, tyX2, entL, q0, dX2_placesFor_0, dX2_placesFor_1, dX2_placesFor_2, fT_2_29, dX2_placesFor_5, dX2_placesFor_6, dX2_placesFor_7, dX2_placesFor_8, dX2_placesFor_9, dX2_placesFor_10, dX2_placesFor_11, dX2_placesFor_14, dX2_placesFor_15, dX2_placesFor_18, dX2_placesFor_19, dX2_placesFor_20, dX2_placesFor_21, fT_2_54, dX2_placesFor_24, dX2_placesFor_25, dX2_placesFor_26, dX2_placesFor_27, dX2_placesFor_28, dX2_placesFor_29, dX2_placesFor_30, dX2_placesFor_32, dX2_placesFor_33, dX2_placesFor_35, dX2_placesFor_37, dX2_placesFor_38, dX2_placesFor_41, dX2_placesFor_42, fT_2_18, dX2_placesFor_45, dX2_placesFor_47, dX2_placesFor_48, dX2_placesFor_50, dX2_placesFor_51, fT_2_9, dX2_placesFor_54, dX2_placesFor_55, dX2_placesFor_56, dX2_placesFor_58, dX2_placesFor_59, dX2_placesFor_60, dX2_placesFor_61, dX2_placesFor_64, dX2_placesFor_66, dX2_placesFor_67, dX2_placesFor_68, dX2_placesFor_69, dX2_placesFor_70, dX2_placesFor_73, dX2_placesFor_75, dX2_placesFor_76, dX2_placesFor_77, dX2_placesFor_78, dX2_placesFor_79, dX2_placesFor_80, dX2_placesFor_83, dX2_placesFor_85, dX2_placesFor_87, dX2_placesFor_90, dX2_placesFor_92, dX2_placesFor_95, dX2_placesFor_98, dX2_placesFor_99, dX2_placesFor_101, dX2_placesFor_102, dX2_placesFor_103, dX2_placesFor_104, dX2_placesFor_105, dX2_placesFor_108]
  simp (disch := omega) only [li, nI_add, nI_clamp, nI_ltI, nI_leI, nI_eq, inx_iff, a31, nI_1shl', nI_shr', div_bit, tb1, tb0, fa_or, fa_and, nI_not, pk_sub, nI_dec, p1]
  refine ⟨fun z => ?_, fun z => hP _ _ ⟨by rw [if_neg z], m2, rfl, k1⟩⟩
  rw [if_pos z] at hP
  have lk : ∀ i, i < np - 1 → m2 (Q + 3) i = nI (plLn np sa (anot (2 ^ np - 1) (2 ^ p)) i) ∧ plLn np sa (anot (2 ^ np - 1) (2 ^ p)) i < np := fun i hi => k2 (by omega) i (by omega) (hT (by omega) i hi)
  generalize plLn np sa (anot (2 ^ np - 1) (2 ^ p)) = lw at lk hP
  dsimp only at hP
  have loop : ∀ f i v6, np - 1 - i < f → i ≤ np - 1 → G 35 [some (.ref Q), some (.int (nI p)), some (.int (nI (np - 1))), some (.int (nI (plLo sa lw p i))), some (.int (nI (plHi sa lw p (np - 1) i))), some (.int (nI i)), v6] [] (sh, m2, mL, mR, n) := by
    intro f
    induction f with
    | zero => intro i v6 h; omega
    | succ f ih =>
      intro i v6 hf hi
      have ll := plLo_le sa lw p i
      have lh := plHi_le sa lw p (np - 1) i
      have fin : i = np - 1 → G 98 [some (.ref Q), some (.int (nI p)), some (.int (nI (np - 1))), some (.int (nI (plLo sa lw p i))), some (.int (nI (plHi sa lw p (np - 1) i))), some (.int (nI i)), v6] [] (sh, m2, mL, mR, n) := fun e => by
        refine hG.run [] 40 ?_
        simp [wp, stepI, ln, jmp, cmpI, Value.category, rd, tyF, va_rf, st1, st2, clr, isLg, CB, inx_0, inx_1, inx_2, inx_3, inx_4, inx_5, bI_0, bI_1, bI_ok, fin3, tyX2, entL, q0, dX2_placesFor_0, dX2_placesFor_1, dX2_placesFor_2, fT_2_29, dX2_placesFor_5, dX2_placesFor_6, dX2_placesFor_7, dX2_placesFor_8, dX2_placesFor_9, dX2_placesFor_10, dX2_placesFor_11, dX2_placesFor_14, dX2_placesFor_15, dX2_placesFor_18, dX2_placesFor_19, dX2_placesFor_20, dX2_placesFor_21, fT_2_54, dX2_placesFor_24, dX2_placesFor_25, dX2_placesFor_26, dX2_placesFor_27, dX2_placesFor_28, dX2_placesFor_29, dX2_placesFor_30, dX2_placesFor_32, dX2_placesFor_33, dX2_placesFor_35, dX2_placesFor_37, dX2_placesFor_38, dX2_placesFor_41, dX2_placesFor_42, fT_2_18, dX2_placesFor_45, dX2_placesFor_47, dX2_placesFor_48, dX2_placesFor_50, dX2_placesFor_51, fT_2_9, dX2_placesFor_54, dX2_placesFor_55, dX2_placesFor_56, dX2_placesFor_58, dX2_placesFor_59, dX2_placesFor_60, dX2_placesFor_61, dX2_placesFor_64, dX2_placesFor_66, dX2_placesFor_67, dX2_placesFor_68, dX2_placesFor_69, dX2_placesFor_70, dX2_placesFor_73, dX2_placesFor_75, dX2_placesFor_76, dX2_placesFor_77, dX2_placesFor_78, dX2_placesFor_79, dX2_placesFor_80, dX2_placesFor_83, dX2_placesFor_85, dX2_placesFor_87, dX2_placesFor_90, dX2_placesFor_92, dX2_placesFor_95, dX2_placesFor_98, dX2_placesFor_99, dX2_placesFor_101, dX2_placesFor_102, dX2_placesFor_103, dX2_placesFor_104, dX2_placesFor_105, dX2_placesFor_108]
        refine hG.mmax dX2_placesFor_105 ms_2_88.link [] (by omega) (by simp [Value.category]) ?_
        refine hG.run [] 40 ?_
        simp [wp, stepI, ln, jmp, cmpI, Value.category, rd, tyF, va_rf, st1, st2, clr, isLg, CB, inx_0, inx_1, inx_2, inx_3, inx_4, inx_5, bI_0, bI_1, bI_ok, fin3, tyX2, entL, q0, dX2_placesFor_0, dX2_placesFor_1, dX2_placesFor_2, fT_2_29, dX2_placesFor_5, dX2_placesFor_6, dX2_placesFor_7, dX2_placesFor_8, dX2_placesFor_9, dX2_placesFor_10, dX2_placesFor_11, dX2_placesFor_14, dX2_placesFor_15, dX2_placesFor_18, dX2_placesFor_19, dX2_placesFor_20, dX2_placesFor_21, fT_2_54, dX2_placesFor_24, dX2_placesFor_25, dX2_placesFor_26, dX2_placesFor_27, dX2_placesFor_28, dX2_placesFor_29, dX2_placesFor_30, dX2_placesFor_32, dX2_placesFor_33, dX2_placesFor_35, dX2_placesFor_37, dX2_placesFor_38, dX2_placesFor_41, dX2_placesFor_42, fT_2_18, dX2_placesFor_45, dX2_placesFor_47, dX2_placesFor_48, dX2_placesFor_50, dX2_placesFor_51, fT_2_9, dX2_placesFor_54, dX2_placesFor_55, dX2_placesFor_56, dX2_placesFor_58, dX2_placesFor_59, dX2_placesFor_60, dX2_placesFor_61, dX2_placesFor_64, dX2_placesFor_66, dX2_placesFor_67, dX2_placesFor_68, dX2_placesFor_69, dX2_placesFor_70, dX2_placesFor_73, dX2_placesFor_75, dX2_placesFor_76, dX2_placesFor_77, dX2_placesFor_78, dX2_placesFor_79, dX2_placesFor_80, dX2_placesFor_83, dX2_placesFor_85, dX2_placesFor_87, dX2_placesFor_90, dX2_placesFor_92, dX2_placesFor_95, dX2_placesFor_98, dX2_placesFor_99, dX2_placesFor_101, dX2_placesFor_102, dX2_placesFor_103, dX2_placesFor_104, dX2_placesFor_105, dX2_placesFor_108]
        refine hP _ _ ⟨?_, m2, rfl, k1⟩
        have := mx0 (plHi sa lw p (np - 1) i) (plLo sa lw p i) (by omega) (by omega)
        rw [e] at this ⊢
        rw [← this]
      have nx := ih (i + 1)
      rw [show plLo sa lw p (i + 1) = if (sa p).testBit (lw i) then i + 1 else plLo sa lw p i from rfl, show plHi sa lw p (np - 1) (i + 1) = if (sa (lw i)).testBit p then Nat.min (plHi sa lw p (np - 1) i) i else plHi sa lw p (np - 1) i from rfl] at nx
      clear ih
      have g92 : ∀ lo hi v6, i < np - 1 → (if (sa p).testBit (lw i) then i + 1 else plLo sa lw p i) = lo → (if (sa (lw i)).testBit p then Nat.min (plHi sa lw p (np - 1) i) i else plHi sa lw p (np - 1) i) = hi → G 92 [some (.ref Q), some (.int (nI p)), some (.int (nI (np - 1))), some (.int (nI lo)), some (.int (nI hi)), some (.int (nI i)), v6] [] (sh, m2, mL, mR, n) := fun lo hi v6 z e1 e2 => by
        rw [e1, e2] at nx
        refine hG.run [35] 40 ?_
        simp [wp, stepI, ln, jmp, cmpI, Value.category, rd, tyF, va_rf, st1, st2, clr, isLg, CB, inx_0, inx_1, inx_2, inx_3, inx_4, inx_5, bI_0, bI_1, bI_ok, fin3, tyX2, entL, q0, dX2_placesFor_0, dX2_placesFor_1, dX2_placesFor_2, fT_2_29, dX2_placesFor_5, dX2_placesFor_6, dX2_placesFor_7, dX2_placesFor_8, dX2_placesFor_9, dX2_placesFor_10, dX2_placesFor_11, dX2_placesFor_14, dX2_placesFor_15, dX2_placesFor_18, dX2_placesFor_19, dX2_placesFor_20, dX2_placesFor_21, fT_2_54, dX2_placesFor_24, dX2_placesFor_25, dX2_placesFor_26, dX2_placesFor_27, dX2_placesFor_28, dX2_placesFor_29, dX2_placesFor_30, dX2_placesFor_32, dX2_placesFor_33, dX2_placesFor_35, dX2_placesFor_37, dX2_placesFor_38, dX2_placesFor_41, dX2_placesFor_42, fT_2_18, dX2_placesFor_45, dX2_placesFor_47, dX2_placesFor_48, dX2_placesFor_50, dX2_placesFor_51, fT_2_9, dX2_placesFor_54, dX2_placesFor_55, dX2_placesFor_56, dX2_placesFor_58, dX2_placesFor_59, dX2_placesFor_60, dX2_placesFor_61, dX2_placesFor_64, dX2_placesFor_66, dX2_placesFor_67, dX2_placesFor_68, dX2_placesFor_69, dX2_placesFor_70, dX2_placesFor_73, dX2_placesFor_75, dX2_placesFor_76, dX2_placesFor_77, dX2_placesFor_78, dX2_placesFor_79, dX2_placesFor_80, dX2_placesFor_83, dX2_placesFor_85, dX2_placesFor_87, dX2_placesFor_90, dX2_placesFor_92, dX2_placesFor_95, dX2_placesFor_98, dX2_placesFor_99, dX2_placesFor_101, dX2_placesFor_102, dX2_placesFor_103, dX2_placesFor_104, dX2_placesFor_105, dX2_placesFor_108]
        simp (disch := omega) only [li, nI_add, nI_clamp, nI_ltI, nI_leI, nI_eq, inx_iff, a31, nI_1shl', nI_shr', div_bit, tb1, tb0, fa_or, fa_and, nI_not, pk_sub, nI_dec]
        exact nx _ (by omega) (by omega)
      have g69 : ∀ lo, i < np - 1 → (if (sa p).testBit (lw i) then i + 1 else plLo sa lw p i) = lo → G 69 [some (.ref Q), some (.int (nI p)), some (.int (nI (np - 1))), some (.int (nI lo)), some (.int (nI (plHi sa lw p (np - 1) i))), some (.int (nI i)), some (.int (nI (lw i)))] [] (sh, m2, mL, mR, n) := fun lo z e1 => by
        obtain ⟨l1, l2⟩ := lk i z
        have sl := s9 (lw i) (by omega)
        have sb := (h4 (lw i) (by omega)).2
        refine hG.run [92] 40 ?_
        simp [wp, stepI, ln, jmp, cmpI, Value.category, rd, tyF, va_rf, st1, st2, clr, isLg, CB, inx_0, inx_1, inx_2, inx_3, inx_4, inx_5, bI_0, bI_1, bI_ok, fin3, tyX2, entL, q0, q_saidAbove, dX2_placesFor_0, dX2_placesFor_1, dX2_placesFor_2, fT_2_29, dX2_placesFor_5, dX2_placesFor_6, dX2_placesFor_7, dX2_placesFor_8, dX2_placesFor_9, dX2_placesFor_10, dX2_placesFor_11, dX2_placesFor_14, dX2_placesFor_15, dX2_placesFor_18, dX2_placesFor_19, dX2_placesFor_20, dX2_placesFor_21, fT_2_54, dX2_placesFor_24, dX2_placesFor_25, dX2_placesFor_26, dX2_placesFor_27, dX2_placesFor_28, dX2_placesFor_29, dX2_placesFor_30, dX2_placesFor_32, dX2_placesFor_33, dX2_placesFor_35, dX2_placesFor_37, dX2_placesFor_38, dX2_placesFor_41, dX2_placesFor_42, fT_2_18, dX2_placesFor_45, dX2_placesFor_47, dX2_placesFor_48, dX2_placesFor_50, dX2_placesFor_51, fT_2_9, dX2_placesFor_54, dX2_placesFor_55, dX2_placesFor_56, dX2_placesFor_58, dX2_placesFor_59, dX2_placesFor_60, dX2_placesFor_61, dX2_placesFor_64, dX2_placesFor_66, dX2_placesFor_67, dX2_placesFor_68, dX2_placesFor_69, dX2_placesFor_70, dX2_placesFor_73, dX2_placesFor_75, dX2_placesFor_76, dX2_placesFor_77, dX2_placesFor_78, dX2_placesFor_79, dX2_placesFor_80, dX2_placesFor_83, dX2_placesFor_85, dX2_placesFor_87, dX2_placesFor_90, dX2_placesFor_92, dX2_placesFor_95, dX2_placesFor_98, dX2_placesFor_99, dX2_placesFor_101, dX2_placesFor_102, dX2_placesFor_103, dX2_placesFor_104, dX2_placesFor_105, dX2_placesFor_108]
        simp (disch := omega) only [li, nI_add, nI_clamp, nI_ltI, nI_leI, nI_eq, inx_iff, a31, nI_1shl', nI_shr', div_bit, tb1, tb0, fa_or, fa_and, nI_not, pk_sub, nI_dec, sl]
        refine ⟨by omega, fun y => g92 _ _ _ z e1 (by rw [if_neg (by rw [y]; decide)]), fun y => ?_⟩
        refine hG.mmin dX2_placesFor_87 ms_2_82.link [] (by omega) (by simp [Value.category]) ?_
        refine hG.run [92] 40 ?_
        simp [wp, stepI, ln, jmp, cmpI, Value.category, rd, tyF, va_rf, st1, st2, clr, isLg, CB, inx_0, inx_1, inx_2, inx_3, inx_4, inx_5, bI_0, bI_1, bI_ok, fin3, tyX2, entL, q0, dX2_placesFor_0, dX2_placesFor_1, dX2_placesFor_2, fT_2_29, dX2_placesFor_5, dX2_placesFor_6, dX2_placesFor_7, dX2_placesFor_8, dX2_placesFor_9, dX2_placesFor_10, dX2_placesFor_11, dX2_placesFor_14, dX2_placesFor_15, dX2_placesFor_18, dX2_placesFor_19, dX2_placesFor_20, dX2_placesFor_21, fT_2_54, dX2_placesFor_24, dX2_placesFor_25, dX2_placesFor_26, dX2_placesFor_27, dX2_placesFor_28, dX2_placesFor_29, dX2_placesFor_30, dX2_placesFor_32, dX2_placesFor_33, dX2_placesFor_35, dX2_placesFor_37, dX2_placesFor_38, dX2_placesFor_41, dX2_placesFor_42, fT_2_18, dX2_placesFor_45, dX2_placesFor_47, dX2_placesFor_48, dX2_placesFor_50, dX2_placesFor_51, fT_2_9, dX2_placesFor_54, dX2_placesFor_55, dX2_placesFor_56, dX2_placesFor_58, dX2_placesFor_59, dX2_placesFor_60, dX2_placesFor_61, dX2_placesFor_64, dX2_placesFor_66, dX2_placesFor_67, dX2_placesFor_68, dX2_placesFor_69, dX2_placesFor_70, dX2_placesFor_73, dX2_placesFor_75, dX2_placesFor_76, dX2_placesFor_77, dX2_placesFor_78, dX2_placesFor_79, dX2_placesFor_80, dX2_placesFor_83, dX2_placesFor_85, dX2_placesFor_87, dX2_placesFor_90, dX2_placesFor_92, dX2_placesFor_95, dX2_placesFor_98, dX2_placesFor_99, dX2_placesFor_101, dX2_placesFor_102, dX2_placesFor_103, dX2_placesFor_104, dX2_placesFor_105, dX2_placesFor_108]
        rw [nI_min (by omega) (by omega)]
        exact g92 _ _ _ z e1 (by rw [if_pos (by simpa using y)])
      refine hG.run [69, 98] 40 ?_
      simp [wp, stepI, ln, jmp, cmpI, Value.category, rd, tyF, va_rf, st1, st2, clr, isLg, CB, inx_0, inx_1, inx_2, inx_3, inx_4, inx_5, bI_0, bI_1, bI_ok, fin3, tyX2, entL, q0, q_saidAbove, q_line, dX2_placesFor_0, dX2_placesFor_1, dX2_placesFor_2, fT_2_29, dX2_placesFor_5, dX2_placesFor_6, dX2_placesFor_7, dX2_placesFor_8, dX2_placesFor_9, dX2_placesFor_10, dX2_placesFor_11, dX2_placesFor_14, dX2_placesFor_15, dX2_placesFor_18, dX2_placesFor_19, dX2_placesFor_20, dX2_placesFor_21, fT_2_54, dX2_placesFor_24, dX2_placesFor_25, dX2_placesFor_26, dX2_placesFor_27, dX2_placesFor_28, dX2_placesFor_29, dX2_placesFor_30, dX2_placesFor_32, dX2_placesFor_33, dX2_placesFor_35, dX2_placesFor_37, dX2_placesFor_38, dX2_placesFor_41, dX2_placesFor_42, fT_2_18, dX2_placesFor_45, dX2_placesFor_47, dX2_placesFor_48, dX2_placesFor_50, dX2_placesFor_51, fT_2_9, dX2_placesFor_54, dX2_placesFor_55, dX2_placesFor_56, dX2_placesFor_58, dX2_placesFor_59, dX2_placesFor_60, dX2_placesFor_61, dX2_placesFor_64, dX2_placesFor_66, dX2_placesFor_67, dX2_placesFor_68, dX2_placesFor_69, dX2_placesFor_70, dX2_placesFor_73, dX2_placesFor_75, dX2_placesFor_76, dX2_placesFor_77, dX2_placesFor_78, dX2_placesFor_79, dX2_placesFor_80, dX2_placesFor_83, dX2_placesFor_85, dX2_placesFor_87, dX2_placesFor_90, dX2_placesFor_92, dX2_placesFor_95, dX2_placesFor_98, dX2_placesFor_99, dX2_placesFor_101, dX2_placesFor_102, dX2_placesFor_103, dX2_placesFor_104, dX2_placesFor_105, dX2_placesFor_108]
      simp (disch := omega) only [li, nI_add, nI_clamp, nI_ltI, nI_leI, nI_eq, inx_iff, a31, nI_1shl', nI_shr', div_bit, tb1, tb0, fa_or, fa_and, nI_not, pk_sub, nI_dec]
      refine ⟨fun z => fin (by omega), fun z => ?_⟩
      obtain ⟨l1, l2⟩ := lk i z
      have sl := s9 p (by omega)
      have sb := (h4 p (by omega)).2
      have i10 : i < 10 := by omega
      have p10 : p < 10 := by omega
      simp (disch := omega) only [li, nI_add, nI_clamp, nI_ltI, nI_leI, nI_eq, inx_iff, a31, nI_1shl', nI_shr', div_bit, tb1, tb0, fa_or, fa_and, nI_not, pk_sub, nI_dec, l1, sl, i10, p10, true_and]
      exact ⟨fun y => g69 _ z (by rw [if_neg (by rw [y]; decide)]), fun y => g69 _ z (by rw [if_pos (by simpa using y)])⟩
  exact loop (np + 1) 0 _ (by omega) (by omega)
