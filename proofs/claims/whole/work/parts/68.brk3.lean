theorem agW_s (c : Nat) (fi se ma : Nat → Nat) (w : Int32) (q : Nat) : agW (c + 1) fi se ma w q = agW c fi se ma w q + (if se c = q ∧ mkO w (ma c) = true then 64 ^ fi c else 0) := by
  unfold agW
  rw [sm6_s]
  congr 1
  by_cases h1 : se c = q <;> cases h2 : mkO w (ma c) <;> simp [h1]
set_option maxHeartbeats 4000000 in
set_option maxRecDepth 100000 in
theorem c1_hear (l : Launch) (X : Cx) (d : Nat) (sh : Nat → Option Sh) (mI : Nat → Nat → Int32) (mL : Nat → Nat → Int64) (mR : Nat → Nat → Option Nat) (n : Nat) (B S : Nat) (hO : OL sh mR B 1 ob1) (hS6 : OL sh mR S 6 ob6) (c : Nat) (fi se ma : Nat → Nat) (hS : ShS mI S c fi se ma) (w : Int32) (hw : w = -nI 1 ∨ nI 0 ≤ w) (hd : 1 ≤ d) : Cn l X yX1_hear cX1_hear 4 none d [.ref B, .ref S, .int w] (sh, mI, mL, mR, n) (fun r M' => r = none ∧ ∃ mL', M' = (sh, mI, mL', mR, n) ∧ (∀ a k, a ≠ B + 1 → mL' a k = mL a k) ∧ ∀ q, q < 10 → mL' (B + 1) q = lN (agW c fi se ma w q)) 0 0 := by
  refine Cn.run 1 false (by decide) rfl (by decide) (by simp [entA, Value.category]) ?_
  intro P G hP hG
  have q0 := hO.1
  have q_against := hO.2.2 (0, 1, .long, 10) (by decide)
  dsimp only at q_against
  have hSl := hO.2.1
  have xA : B + 1 < 1000000000 := by omega
  have t0 := hS6.1
  have q_first := hS6.2.2 (1, 7, .int, 40) (by decide)
  have q_second := hS6.2.2 (2, 8, .int, 40) (by decide)
  have q_master := hS6.2.2 (3, 9, .int, 40) (by decide)
  dsimp only at q_first q_second q_master
  obtain ⟨e0, hc, hk⟩ := hS
  have m10 : -nI 1 < nI 0 := by decide +kernel
  refine hG.run [] 40 ?_
  simp [wp, stepI, ln, jmp, cmpI, Value.category, rd, tyF, va_rf, st1, st2, clr, isLg, CB, inx_0, inx_1, inx_2, inx_3, inx_4, inx_5, bI_0, bI_1, bI_ok, fin3, tyX1, entL, q0, q_against, dX1_hear_0, dX1_hear_1, fT_1_9, dX1_hear_4, dX1_hear_5, dX1_hear_8, dX1_hear_9, dX1_hear_10, dX1_hear_11, dX1_hear_12, fT_1_74, dX1_hear_15, dX1_hear_18, dX1_hear_19, dX1_hear_20, dX1_hear_23, dX1_hear_24, fT_1_77, dX1_hear_27, dX1_hear_28, dX1_hear_29, dX1_hear_30, dX1_hear_33, dX1_hear_34, dX1_hear_37, dX1_hear_38, fT_1_80, dX1_hear_41, dX1_hear_42, dX1_hear_43, dX1_hear_44, dX1_hear_45, dX1_hear_46, dX1_hear_48, dX1_hear_49, fT_1_83, dX1_hear_52, dX1_hear_53, dX1_hear_54, dX1_hear_55, dX1_hear_56, dX1_hear_57, dX1_hear_58, dX1_hear_61, dX1_hear_64]
  refine hG.callS dX1_hear_5 ms_1_68 [.ref (B + 1), .long 0] [] (cJ_fillL l X (d - 1) sh mI mL mR n (B + 1) 10 q_against.2 xA (by decide) 0) (by omega) rfl (by decide) (by simp [Value.category]) rfl ?_
  rintro r M' ⟨rfl, rfl⟩
  have loop : ∀ f i mL1, c - i < f → i ≤ c → (∀ a k, a ≠ B + 1 → mL1 a k = mL a k) → (∀ q, q < 10 → mL1 (B + 1) q = lN (agW i fi se ma w q)) → G 10 [some (.ref B), some (.ref S), some (.int w), some (.int (nI i))] [] (sh, mI, mL1, mR, n) := by
    intro f
    induction f with
    | zero => intro i mL1 h; omega
    | succ f ih =>
      intro i mL1 hf hi g1 g2
      have g58 : i < c → mkO w (ma i) = false → G 58 [some (.ref B), some (.ref S), some (.int w), some (.int (nI i))] [] (sh, mI, mL1, mR, n) := fun z hm => by
        refine hG.run [10] 40 ?_
        simp [wp, stepI, ln, jmp, cmpI, Value.category, rd, tyF, va_rf, st1, st2, clr, isLg, CB, inx_0, inx_1, inx_2, inx_3, inx_4, inx_5, bI_0, bI_1, bI_ok, fin3, tyX1, entL, q0, dX1_hear_0, dX1_hear_1, fT_1_9, dX1_hear_4, dX1_hear_5, dX1_hear_8, dX1_hear_9, dX1_hear_10, dX1_hear_11, dX1_hear_12, fT_1_74, dX1_hear_15, dX1_hear_18, dX1_hear_19, dX1_hear_20, dX1_hear_23, dX1_hear_24, fT_1_77, dX1_hear_27, dX1_hear_28, dX1_hear_29, dX1_hear_30, dX1_hear_33, dX1_hear_34, dX1_hear_37, dX1_hear_38, fT_1_80, dX1_hear_41, dX1_hear_42, dX1_hear_43, dX1_hear_44, dX1_hear_45, dX1_hear_46, dX1_hear_48, dX1_hear_49, fT_1_83, dX1_hear_52, dX1_hear_53, dX1_hear_54, dX1_hear_55, dX1_hear_56, dX1_hear_57, dX1_hear_58, dX1_hear_61, dX1_hear_64]
        simp (disch := omega) only [li, nI_add, nI_clamp, nI_ltI, nI_leI, nI_eq, inx_iff, a31, nI_1shl', nI_shr', div_bit, tb1, tb0, fa_or, fa_and, nI_not, pk_sub, nI_dec]
        refine ih (i + 1) mL1 (by omega) (by omega) g1 (fun q hq => ?_)
        rw [agW_s, if_neg (fun y => by rw [hm] at y; cases y.2), Nat.add_zero]; exact g2 q hq
      have g33 : i < c → mkO w (ma i) = true → G 33 [some (.ref B), some (.ref S), some (.int w), some (.int (nI i))] [] (sh, mI, mL1, mR, n) := fun z hm => by
        obtain ⟨s1, s2, s3, b1, b2, b3⟩ := hk i z
        have sh6 : lN 1 <<< ((nI (6 * fi i)).toInt64 &&& lN 63) = lN (64 ^ fi i) := by
          rw [show lN 63 = (63 : Int64) from rfl, wb_shl 1 (by omega), Nat.one_mul, p64]
        have x1 := g2 (se i) b2
        have i40 : i < 40 := by omega
        refine hG.run [10] 60 ?_
        simp [wp, stepI, ln, jmp, cmpI, Value.category, rd, tyF, va_rf, st1, st2, clr, isLg, CB, inx_0, inx_1, inx_2, inx_3, inx_4, inx_5, bI_0, bI_1, bI_ok, fin3, tyX1, entL, q0, q_against, t0, tyX6, q_first, q_second, xA, dX1_hear_0, dX1_hear_1, fT_1_9, dX1_hear_4, dX1_hear_5, dX1_hear_8, dX1_hear_9, dX1_hear_10, dX1_hear_11, dX1_hear_12, fT_1_74, dX1_hear_15, dX1_hear_18, dX1_hear_19, dX1_hear_20, dX1_hear_23, dX1_hear_24, fT_1_77, dX1_hear_27, dX1_hear_28, dX1_hear_29, dX1_hear_30, dX1_hear_33, dX1_hear_34, dX1_hear_37, dX1_hear_38, fT_1_80, dX1_hear_41, dX1_hear_42, dX1_hear_43, dX1_hear_44, dX1_hear_45, dX1_hear_46, dX1_hear_48, dX1_hear_49, fT_1_83, dX1_hear_52, dX1_hear_53, dX1_hear_54, dX1_hear_55, dX1_hear_56, dX1_hear_57, dX1_hear_58, dX1_hear_61, dX1_hear_64]
        simp (disch := omega) only [li, nI_add, nI_clamp, nI_ltI, nI_leI, nI_eq, inx_iff, a31, nI_1shl', nI_shr', div_bit, tb1, tb0, fa_or, fa_and, nI_not, pk_sub, nI_dec, s1, s2, nI_mul, liL, sh6, x1, lN_add, i40, b2, true_and]
        refine ih (i + 1) _ (by omega) (by omega) (fun a k ha => by rw [up2_ne (fun y => ha y.1)]; exact g1 a k ha) (fun q hq => ?_)
        rw [agW_s]
        by_cases e : q = se i
        · rw [e, up2_eq, if_pos ⟨rfl, hm⟩]
        · rw [up2_ne (fun y => e y.2), if_neg (fun y => e y.1.symm), Nat.add_zero]; exact g2 q hq
      refine hG.run [33, 58] 40 ?_
      simp [wp, stepI, ln, jmp, cmpI, Value.category, rd, tyF, va_rf, st1, st2, clr, isLg, CB, inx_0, inx_1, inx_2, inx_3, inx_4, inx_5, bI_0, bI_1, bI_ok, fin3, tyX1, entL, q0, t0, tyX6, q_master, dX1_hear_0, dX1_hear_1, fT_1_9, dX1_hear_4, dX1_hear_5, dX1_hear_8, dX1_hear_9, dX1_hear_10, dX1_hear_11, dX1_hear_12, fT_1_74, dX1_hear_15, dX1_hear_18, dX1_hear_19, dX1_hear_20, dX1_hear_23, dX1_hear_24, fT_1_77, dX1_hear_27, dX1_hear_28, dX1_hear_29, dX1_hear_30, dX1_hear_33, dX1_hear_34, dX1_hear_37, dX1_hear_38, fT_1_80, dX1_hear_41, dX1_hear_42, dX1_hear_43, dX1_hear_44, dX1_hear_45, dX1_hear_46, dX1_hear_48, dX1_hear_49, fT_1_83, dX1_hear_52, dX1_hear_53, dX1_hear_54, dX1_hear_55, dX1_hear_56, dX1_hear_57, dX1_hear_58, dX1_hear_61, dX1_hear_64]
      simp (disch := omega) only [li, nI_add, nI_clamp, nI_ltI, nI_leI, nI_eq, inx_iff, a31, nI_1shl', nI_shr', div_bit, tb1, tb0, fa_or, fa_and, nI_not, pk_sub, nI_dec, e0]
      refine ⟨fun z => hP _ _ ⟨rfl, mL1, rfl, g1, by rw [show i = c by omega] at g2; exact g2⟩, fun z => ?_⟩
      obtain ⟨s1, s2, s3, b1, b2, b3⟩ := hk i z
      simp (disch := omega) only [li, nI_add, nI_clamp, nI_ltI, nI_leI, nI_eq, inx_iff, a31, nI_1shl', nI_shr', div_bit, tb1, tb0, fa_or, fa_and, nI_not, pk_sub, nI_dec, s3]
      refine ⟨fun y => g33 z (by unfold mkO; rw [y, decide_eq_true m10]; rfl), fun y => ⟨by omega, fun y2 => g58 z ?_, fun y2 => g33 z (by unfold mkO; rw [decide_eq_true y2, Bool.or_true])⟩⟩
      unfold mkO
      rw [decide_eq_false y2, decide_eq_false (fun y3 => ?_)]
      · rfl
      · rcases hw with hw | hw
        · exact y hw
        · exact Int32.not_lt.mpr hw y3
  refine hG.run [10] 40 ?_
  simp [wp, stepI, ln, jmp, cmpI, Value.category, rd, tyF, va_rf, st1, st2, clr, isLg, CB, inx_0, inx_1, inx_2, inx_3, inx_4, inx_5, bI_0, bI_1, bI_ok, fin3, tyX1, entL, q0, dX1_hear_0, dX1_hear_1, fT_1_9, dX1_hear_4, dX1_hear_5, dX1_hear_8, dX1_hear_9, dX1_hear_10, dX1_hear_11, dX1_hear_12, fT_1_74, dX1_hear_15, dX1_hear_18, dX1_hear_19, dX1_hear_20, dX1_hear_23, dX1_hear_24, fT_1_77, dX1_hear_27, dX1_hear_28, dX1_hear_29, dX1_hear_30, dX1_hear_33, dX1_hear_34, dX1_hear_37, dX1_hear_38, fT_1_80, dX1_hear_41, dX1_hear_42, dX1_hear_43, dX1_hear_44, dX1_hear_45, dX1_hear_46, dX1_hear_48, dX1_hear_49, fT_1_83, dX1_hear_52, dX1_hear_53, dX1_hear_54, dX1_hear_55, dX1_hear_56, dX1_hear_57, dX1_hear_58, dX1_hear_61, dX1_hear_64]
  exact loop (c + 1) 0 _ (by omega) (by omega) (fun a k ha => flL_ne ha) (fun q hq => flL_in hq)
/-! the fewest, and the first row of them -/
theorem brk_ct {c : Nat} {fi se ma : Nat → Nat} {w : Int32} {p t : Nat} (hb : t.testBit p = false) : brk c fi se ma w p t + fb_ct (fun k => !(t ||| 2 ^ p).testBit (fi k)) c ≤ fb_ct (fun k => !t.testBit (fi k)) c := by
  have h1 : brk c fi se ma w p t ≤ fb_ct (fun k => decide (fi k = p)) c := fb_ct_sub fun k _ h => by
    simp only [Bool.and_eq_true] at h
    exact h.1.1
  have h2 := fb_ct_or (p := fun k => decide (fi k = p)) (q := fun k => !(t ||| 2 ^ p).testBit (fi k)) (n := c) (fun k _ h => by
    have h3 := of_decide_eq_true h.1
    have h4 := h.2
    rw [h3, Nat.testBit_or, Nat.testBit_two_pow, decide_eq_true rfl, Bool.or_true] at h4
    cases h4)
  have h3 : fb_ct (fun k => decide (fi k = p) || !(t ||| 2 ^ p).testBit (fi k)) c = fb_ct (fun k => !t.testBit (fi k)) c := fb_ct_cong fun k _ => by
    rw [Nat.testBit_or, Nat.testBit_two_pow]
    by_cases e : fi k = p
    · rw [e, decide_eq_true rfl, hb]; rfl
    · rw [decide_eq_false e, decide_eq_false (fun y => e y.symm), Bool.or_false, Bool.false_or]
  omega
theorem few_ct {np c : Nat} {fi se ma : Nat → Nat} {w : Int32} {F : Nat → Nat} (hF : FewR np c fi se ma w F) : ∀ z t, t < 2 ^ np → np - cnp np t ≤ z → F t ≤ fb_ct (fun k => !t.testBit (fi k)) c := by
  intro z
  induction z with
  | zero =>
    intro t ht h
    have hle : cnp np t ≤ np := fb_ct_le _ _
    rw [cnp_full ht (by omega), hF.1]
    exact Nat.zero_le _
  | succ z ih =>
    intro t ht h
    by_cases hx : t = 2 ^ np - 1
    · rw [hx, hF.1]; exact Nat.zero_le _
    · obtain ⟨p, hp, hb⟩ := cnp_hole (np := np) (t := t) (by omega)
      have h1 := cnp_or hp hb
      have h2 := ih (t ||| 2 ^ p) (or_lt ht hp) (by omega)
      have h3 : F t ≤ brk c fi se ma w p t + F (t ||| 2 ^ p) := by
        rw [hF.2 t (by omega)]
        exact mnO_low (g := fun p => brk c fi se ma w p t + F (t ||| 2 ^ p)) hp hb
      exact Nat.le_trans h3 (Nat.le_trans (Nat.add_le_add_left h2 _) (brk_ct hb))
theorem few_40 {np c : Nat} {fi se ma : Nat → Nat} {w : Int32} {F : Nat → Nat} (hF : FewR np c fi se ma w F) (hc : c ≤ 40) {t p : Nat} (ht : t < 2 ^ np) (hp : p < np) (hb : t.testBit p = false) : brk c fi se ma w p t + F (t ||| 2 ^ p) ≤ 40 := by
  have h1 := few_ct hF np (t ||| 2 ^ p) (or_lt ht hp) (by omega)
  have h2 := brk_ct (c := c) (fi := fi) (se := se) (ma := ma) (w := w) hb
  have h3 := fb_ct_le (fun k => !t.testBit (fi k)) c
  omega
/-- the first best is the row's next -/
theorem bbF_ok {t : Nat} {g : Nat → Nat} : ∀ {n : Nat}, (∀ p, p < n → t.testBit p = false → g p ≤ 40) → (∃ p, p < n ∧ t.testBit p = false) → (bbF t g n).1 = mnO t g n ∧ (bbF t g n).2 < n ∧ t.testBit (bbF t g n).2 = false ∧ g (bbF t g n).2 = mnO t g n ∧ ∀ p, p < (bbF t g n).2 → t.testBit p = false → g p ≠ mnO t g n
  | 0, _, h => by obtain ⟨p, hp, _⟩ := h; omega
  | n + 1, hg, hx => by
    rw [bbF_s, mnO_s]
    by_cases ht : t.testBit n = true
    · rw [if_pos ht, if_pos ht]
      obtain ⟨a1, a2, a3, a4, a5⟩ := bbF_ok (n := n) (fun p hp => hg p (by omega)) (by
        obtain ⟨p, hp, hb⟩ := hx
        refine ⟨p, ?_, hb⟩
        rcases Nat.lt_or_ge p n with y | y
        · exact y
        · rw [show p = n by omega, ht] at hb; cases hb)
      exact ⟨a1, by omega, a3, a4, a5⟩
    · have htf : t.testBit n = false := by simpa using ht
      rw [if_neg ht, if_neg ht]
      by_cases hy : ∃ p, p < n ∧ t.testBit p = false
      · obtain ⟨a1, a2, a3, a4, a5⟩ := bbF_ok (n := n) (fun p hp => hg p (by omega)) hy
        by_cases hl : g n < (bbF t g n).1
        · rw [if_pos hl]
          rw [a1] at hl
          have e : Nat.min (mnO t g n) (g n) = g n := Nat.min_eq_right (by omega)
          rw [e]
          refine ⟨rfl, by show n < n + 1; omega, htf, rfl, fun p hp hb => ?_⟩
          have := mnO_low (g := g) (n := n) (p := p) hp hb
          omega
        · rw [if_neg hl]
          rw [a1] at hl
          have e : Nat.min (mnO t g n) (g n) = mnO t g n := Nat.min_eq_left (by omega)
          rw [e]
          exact ⟨a1, by omega, a3, a4, a5⟩
      · have h0 : ∀ m, m ≤ n → bbF t g m = (41, 0) ∧ mnO t g m = 1000 := by
          intro m
          induction m with
          | zero => intro _; exact ⟨rfl, rfl⟩
          | succ m ih =>
            intro hm
            have hb : t.testBit m = true := by
              cases hh : t.testBit m with
              | true => rfl
              | false => exact absurd ⟨m, by omega, hh⟩ hy
            rw [bbF_s, mnO_s, if_pos hb, if_pos hb]
            exact ih (by omega)
        obtain ⟨b1, b2⟩ := h0 n (Nat.le_refl _)
        have := hg n (by omega) htf
        rw [b1, b2, if_pos (by show g n < 41; omega)]
        have e : Nat.min 1000 (g n) = g n := Nat.min_eq_right (by omega)
        rw [e]
        refine ⟨rfl, by show n < n + 1; omega, htf, rfl, fun p hp hb => ?_⟩
        exact absurd ⟨p, hp, hb⟩ hy
