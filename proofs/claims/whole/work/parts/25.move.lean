theorem cpM_in {mI : Nat → Nat → Int32} {a0 a sp dp n k : Nat} (h : dp ≤ k) (h2 : k < dp + n) : cpM mI a0 a sp dp n a k = mI a0 (sp + (k - dp)) := by unfold cpM; rw [if_pos ⟨rfl, h, h2⟩]
theorem cpM_out {mI : Nat → Nat → Int32} {a0 a sp dp n b k : Nat} (h : ¬ (b = a ∧ dp ≤ k ∧ k < dp + n)) : cpM mI a0 a sp dp n b k = mI b k := by unfold cpM; rw [if_neg h]
theorem cpM_0 (mI : Nat → Nat → Int32) (a0 a sp dp : Nat) : cpM mI a0 a sp dp 0 = mI := by
  funext b k
  exact cpM_out (by omega)
/-- one place more -/
theorem cpM_s {mI : Nat → Nat → Int32} {a0 a sp dp i : Nat} : up2 (cpM mI a0 a sp dp i) a (dp + i) (mI a0 (sp + i)) = cpM mI a0 a sp dp (i + 1) := by
  funext b k
  by_cases h1 : b = a ∧ k = dp + i
  · obtain ⟨rfl, rfl⟩ := h1
    rw [up2_eq, cpM_in (by omega) (by omega), Nat.add_sub_cancel_left]
  · rw [up2_ne h1]
    by_cases h2 : b = a ∧ dp ≤ k ∧ k < dp + i
    · obtain ⟨rfl, h3, h4⟩ := h2
      rw [cpM_in h3 h4, cpM_in h3 (by omega)]
    · rw [cpM_out h2, cpM_out (by omega)]
set_option maxHeartbeats 4000000 in
set_option maxRecDepth 100000 in
theorem c12_copies (l : Launch) (X : Cx) (d : Nat) (sh : Nat → Option Sh) (mI : Nat → Nat → Int32) (mL : Nat → Nat → Int64) (mR : Nat → Nat → Option Nat) (n : Nat) (F T NF NT a b : Nat) (hF : sh F = some (.inr (.int, NF))) (hT : sh T = some (.inr (.int, NT))) (hTc : T < CB) (hne : F ≠ T) (ha : a + 144 ≤ NF) (hb : b + 144 ≤ NT) (hn : NF < 10000 ∧ NT < 10000) : Cn l X yX12_copies cX12_copies 5 none d [.ref F, .int (nI a), .ref T, .int (nI b)] (sh, mI, mL, mR, n) (fun r M' => r = none ∧ M' = (sh, cpM mI F T a b 144, mL, mR, n)) 0 0 := by
  refine Cn.run 12 false (by decide) rfl (by decide) (by simp [entA, Value.category]) ?_
  intro P G hP hG
  have hTc' : T < 1000000000 := hTc
  have loop : ∀ f i, 144 - i < f → i ≤ 144 → G 3 [some (.ref F), some (.int (nI a)), some (.ref T), some (.int (nI b)), some (.int (nI i))] [] (sh, cpM mI F T a b i, mL, mR, n) := by
    intro f
    induction f with
    | zero => intro i h; omega
    | succ f ih =>
      intro i hf hi
      refine hG.run [3] 30 ?_
      simp [wp, stepI, ln, jmp, cmpI, Value.category, rd, tyF, va_rf, st1, st2, clr, isLg, CB, inx_0, inx_1, inx_2, inx_3, inx_4, inx_5, bI_0, bI_1, bI_ok, fin3, hF, hT, hTc', dX12_copies_0, dX12_copies_1, dX12_copies_3, dX12_copies_5, dX12_copies_8, dX12_copies_11, dX12_copies_12, dX12_copies_13, dX12_copies_15, dX12_copies_16, dX12_copies_17, dX12_copies_18, dX12_copies_20, dX12_copies_21, dX12_copies_22, dX12_copies_23, dX12_copies_26, dX12_copies_29]
      simp (disch := omega) only [li, nI_add, nI_clamp, nI_ltI, nI_leI, nI_eq, inx_iff, a31, nI_1shl', nI_shr', div_bit, tb1, tb0, fa_or, fa_and, nI_not, pk_sub, nI_dec]
      refine ⟨fun h => hP _ _ ⟨rfl, by rw [show i = 144 by omega]⟩, fun h => ?_⟩
      have e : cpM mI F T a b i F (a + i) = mI F (a + i) := cpM_out (fun z => hne z.1)
      simp (disch := omega) only [li, nI_add, nI_clamp, nI_ltI, nI_leI, nI_eq, inx_iff, a31, nI_1shl', nI_shr', div_bit, tb1, tb0, fa_or, fa_and, nI_not, pk_sub, nI_dec, e, cpM_s]
      exact ⟨by omega, by omega, ih (i + 1) (by omega) (by omega)⟩
  refine hG.run [3] 30 ?_
  simp [wp, stepI, ln, jmp, cmpI, Value.category, rd, tyF, va_rf, st1, st2, clr, isLg, CB, inx_0, inx_1, inx_2, inx_3, inx_4, inx_5, bI_0, bI_1, bI_ok, fin3, entL, dX12_copies_0, dX12_copies_1, dX12_copies_3, dX12_copies_5, dX12_copies_8, dX12_copies_11, dX12_copies_12, dX12_copies_13, dX12_copies_15, dX12_copies_16, dX12_copies_17, dX12_copies_18, dX12_copies_20, dX12_copies_21, dX12_copies_22, dX12_copies_23, dX12_copies_26, dX12_copies_29]
  have := loop 145 0 (by omega) (by omega)
  rw [cpM_0] at this
  exact this
set_option maxHeartbeats 4000000 in
set_option maxRecDepth 100000 in
theorem c12_moves (l : Launch) (X : Cx) (d : Nat) (sh : Nat → Option Sh) (mI : Nat → Nat → Int32) (mL : Nat → Nat → Int64) (mR : Nat → Nat → Option Nat) (n : Nat) (A N w f0 t0 : Nat) (hA : sh A = some (.inr (.int, N))) (hAc : A < CB) (hne : f0 ≠ t0) (ha : w * f0 + w ≤ N) (hb : w * t0 + w ≤ N) (hn : N < 10000) (hf0 : f0 < 10000 ∧ t0 < 10000 ∧ w < 10000) : Cn l X yX12_moves cX12_moves 5 none d [.ref A, .int (nI w), .int (nI f0), .int (nI t0)] (sh, mI, mL, mR, n) (fun r M' => r = none ∧ M' = (sh, cpM mI A A (w * f0) (w * t0) w, mL, mR, n)) 0 0 := by
  refine Cn.run 12 false (by decide) rfl (by decide) (by simp [entA, Value.category]) ?_
  intro P G hP hG
  have hAc' : A < 1000000000 := hAc
  have loop : ∀ f i, w - i < f → i ≤ w → G 3 [some (.ref A), some (.int (nI w)), some (.int (nI f0)), some (.int (nI t0)), some (.int (nI i))] [] (sh, cpM mI A A (w * f0) (w * t0) i, mL, mR, n) := by
    intro f
    induction f with
    | zero => intro i h; omega
    | succ f ih =>
      intro i hf hi
      refine hG.run [3] 40 ?_
      simp [wp, stepI, ln, jmp, cmpI, Value.category, rd, tyF, va_rf, st1, st2, clr, isLg, CB, inx_0, inx_1, inx_2, inx_3, inx_4, inx_5, bI_0, bI_1, bI_ok, fin3, hA, hAc', dX12_moves_0, dX12_moves_1, dX12_moves_3, dX12_moves_5, dX12_moves_6, dX12_moves_9, dX12_moves_10, dX12_moves_11, dX12_moves_12, dX12_moves_13, dX12_moves_15, dX12_moves_16, dX12_moves_17, dX12_moves_18, dX12_moves_19, dX12_moves_20, dX12_moves_22, dX12_moves_23, dX12_moves_24, dX12_moves_25, dX12_moves_28, dX12_moves_31]
      simp (disch := omega) only [li, nI_add, nI_clamp, nI_ltI, nI_leI, nI_eq, inx_iff, a31, nI_1shl', nI_shr', div_bit, tb1, tb0, fa_or, fa_and, nI_not, pk_sub, nI_dec, pk_mul]
      refine ⟨fun h => hP _ _ ⟨rfl, by rw [show i = w by omega]⟩, fun h => ?_⟩
      have e : cpM mI A A (w * f0) (w * t0) i A (w * f0 + i) = mI A (w * f0 + i) := cpM_out (fun z => by
        obtain ⟨-, z1, z2⟩ := z
        rcases Nat.lt_or_gt_of_ne hne with y | y
        · have : w * (f0 + 1) ≤ w * t0 := Nat.mul_le_mul_left _ y
          rw [Nat.mul_add, Nat.mul_one] at this
          omega
        · have : w * (t0 + 1) ≤ w * f0 := Nat.mul_le_mul_left _ y
          rw [Nat.mul_add, Nat.mul_one] at this
          omega)
      simp (disch := omega) only [li, nI_add, nI_clamp, nI_ltI, nI_leI, nI_eq, inx_iff, a31, nI_1shl', nI_shr', div_bit, tb1, tb0, fa_or, fa_and, nI_not, pk_sub, nI_dec, e, cpM_s]
      exact ⟨by omega, by omega, ih (i + 1) (by omega) (by omega)⟩
  refine hG.run [3] 30 ?_
  simp [wp, stepI, ln, jmp, cmpI, Value.category, rd, tyF, va_rf, st1, st2, clr, isLg, CB, inx_0, inx_1, inx_2, inx_3, inx_4, inx_5, bI_0, bI_1, bI_ok, fin3, entL, dX12_moves_0, dX12_moves_1, dX12_moves_3, dX12_moves_5, dX12_moves_6, dX12_moves_9, dX12_moves_10, dX12_moves_11, dX12_moves_12, dX12_moves_13, dX12_moves_15, dX12_moves_16, dX12_moves_17, dX12_moves_18, dX12_moves_19, dX12_moves_20, dX12_moves_22, dX12_moves_23, dX12_moves_24, dX12_moves_25, dX12_moves_28, dX12_moves_31]
  have := loop (w + 1) 0 (by omega) (by omega)
  rw [cpM_0] at this
  exact this
