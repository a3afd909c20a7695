/-- a row filled -/
def flM (mI : Nat → Nat → Int32) (A N : Nat) (v : Int32) : Nat → Nat → Int32 := fun a k => if a = A ∧ k < N then v else mI a k
def flL (mL : Nat → Nat → Int64) (A N : Nat) (v : Int64) : Nat → Nat → Int64 := fun a k => if a = A ∧ k < N then v else mL a k
theorem flM_s {mI : Nat → Nat → Int32} {A i : Nat} {v : Int32} : up2 (flM mI A i v) A i v = flM mI A (i + 1) v := by
  funext a k
  unfold up2 flM
  by_cases h1 : a = A ∧ k = i
  · rw [if_pos h1, if_pos ⟨h1.1, by omega⟩]
  · rw [if_neg h1]
    by_cases h2 : a = A ∧ k < i
    · rw [if_pos h2, if_pos ⟨h2.1, by omega⟩]
    · rw [if_neg h2, if_neg (fun z => h2 ⟨z.1, by rcases Nat.lt_or_ge k i with y | y; exact y; exact absurd ⟨z.1, by omega⟩ h1⟩)]
theorem flL_s {mL : Nat → Nat → Int64} {A i : Nat} {v : Int64} : up2 (flL mL A i v) A i v = flL mL A (i + 1) v := by
  funext a k
  unfold up2 flL
  by_cases h1 : a = A ∧ k = i
  · rw [if_pos h1, if_pos ⟨h1.1, by omega⟩]
  · rw [if_neg h1]
    by_cases h2 : a = A ∧ k < i
    · rw [if_pos h2, if_pos ⟨h2.1, by omega⟩]
    · rw [if_neg h2, if_neg (fun z => h2 ⟨z.1, by rcases Nat.lt_or_ge k i with y | y; exact y; exact absurd ⟨z.1, by omega⟩ h1⟩)]
theorem flM_0 (mI : Nat → Nat → Int32) (A : Nat) (v : Int32) : flM mI A 0 v = mI := by
  funext a k
  unfold flM
  rw [if_neg (by omega)]
theorem flL_0 (mL : Nat → Nat → Int64) (A : Nat) (v : Int64) : flL mL A 0 v = mL := by
  funext a k
  unfold flL
  rw [if_neg (by omega)]
theorem flM_in {mI : Nat → Nat → Int32} {A N k : Nat} {v : Int32} (h : k < N) : flM mI A N v A k = v := if_pos ⟨rfl, h⟩
theorem flM_ne {mI : Nat → Nat → Int32} {A N a k : Nat} {v : Int32} (h : a ≠ A) : flM mI A N v a k = mI a k := if_neg (fun z => h z.1)
theorem flL_in {mL : Nat → Nat → Int64} {A N k : Nat} {v : Int64} (h : k < N) : flL mL A N v A k = v := if_pos ⟨rfl, h⟩
theorem flL_ne {mL : Nat → Nat → Int64} {A N a k : Nat} {v : Int64} (h : a ≠ A) : flL mL A N v a k = mL a k := if_neg (fun z => h z.1)
set_option maxHeartbeats 4000000 in
set_option maxRecDepth 100000 in
theorem cJ_fillI (l : Launch) (X : Cx) (d : Nat) (sh : Nat → Option Sh) (mI : Nat → Nat → Int32) (mL : Nat → Nat → Int64) (mR : Nat → Nat → Option Nat) (n : Nat) (A N : Nat) (hA : sh A = some (.inr (.int, N))) (hAc : A < 1000000000) (hN : N < 10000) (v : Int32) : Cn l X yJ7_fill_53178 cJ7_fill_53178 4 none d [.ref A, .int v] (sh, mI, mL, mR, n) (fun r M' => r = none ∧ M' = (sh, flM mI A N v, mL, mR, n)) 0 0 := by
  refine Cn.run 18 false (by decide) rfl (by decide) (by simp [entA, Value.category]) ?_
  intro P G hP hG
  have loop : ∀ f i, N - i < f → i ≤ N → G 5 [some (.ref A), some (.int v), some (.int (nI i)), some (.int (nI N))] [] (sh, flM mI A i v, mL, mR, n) := by
    intro f
    induction f with
    | zero => intro i h; omega
    | succ f ih =>
      intro i hf hi
      refine hG.run [5] 30 ?_
      simp [wp, stepI, ln, jmp, cmpI, Value.category, rd, tyF, va_rf, st1, st2, clr, isLg, CB, inx_0, inx_1, inx_2, inx_3, inx_4, inx_5, bI_0, bI_1, bI_ok, fin3, hA, hAc, dJ7_fill_53178_0, dJ7_fill_53178_1, dJ7_fill_53178_2, dJ7_fill_53178_3, dJ7_fill_53178_4, dJ7_fill_53178_5, dJ7_fill_53178_6, dJ7_fill_53178_7, dJ7_fill_53178_10, dJ7_fill_53178_11, dJ7_fill_53178_12, dJ7_fill_53178_13, dJ7_fill_53178_14, dJ7_fill_53178_17, dJ7_fill_53178_20]
      simp (disch := omega) only [li, nI_add, nI_clamp, nI_ltI, nI_leI, nI_eq, inx_iff, a31, nI_1shl', nI_shr', div_bit, tb1, tb0, fa_or, fa_and, nI_not, pk_sub, nI_dec, flM_s]
      exact ⟨fun z => hP _ _ ⟨rfl, by rw [show i = N by omega]⟩, fun z => ⟨z, ih (i + 1) (by omega) (by omega)⟩⟩
  refine hG.run [5] 30 ?_
  have hA21 : ¬ A = 1000000021 := by omega
  simp [wp, stepI, ln, jmp, cmpI, Value.category, rd, tyF, va_rf, st1, st2, clr, isLg, CB, inx_0, inx_1, inx_2, inx_3, inx_4, inx_5, bI_0, bI_1, bI_ok, fin3, entL, hA, hAc, hA21, okT, dJ7_fill_53178_0, dJ7_fill_53178_1, dJ7_fill_53178_2, dJ7_fill_53178_3, dJ7_fill_53178_4, dJ7_fill_53178_5, dJ7_fill_53178_6, dJ7_fill_53178_7, dJ7_fill_53178_10, dJ7_fill_53178_11, dJ7_fill_53178_12, dJ7_fill_53178_13, dJ7_fill_53178_14, dJ7_fill_53178_17, dJ7_fill_53178_20]
  have := loop (N + 1) 0 (by omega) (by omega)
  rw [flM_0] at this
  exact this
set_option maxHeartbeats 4000000 in
set_option maxRecDepth 100000 in
theorem cJ_fillL (l : Launch) (X : Cx) (d : Nat) (sh : Nat → Option Sh) (mI : Nat → Nat → Int32) (mL : Nat → Nat → Int64) (mR : Nat → Nat → Option Nat) (n : Nat) (A N : Nat) (hA : sh A = some (.inr (.long, N))) (hAc : A < 1000000000) (hN : N < 10000) (v : Int64) : Cn l X yJ7_fill_d0a16 cJ7_fill_d0a16 5 none d [.ref A, .long v] (sh, mI, mL, mR, n) (fun r M' => r = none ∧ M' = (sh, mI, flL mL A N v, mR, n)) 0 0 := by
  refine Cn.run 18 false (by decide) rfl (by decide) (by simp [entA, Value.category]) ?_
  intro P G hP hG
  have loop : ∀ f i, N - i < f → i ≤ N → G 6 [some (.ref A), some (.long v), none, some (.int (nI i)), some (.int (nI N))] [] (sh, mI, flL mL A i v, mR, n) := by
    intro f
    induction f with
    | zero => intro i h; omega
    | succ f ih =>
      intro i hf hi
      refine hG.run [6] 30 ?_
      simp [wp, stepI, ln, jmp, cmpI, Value.category, rd, tyF, va_rf, st1, st2, clr, isLg, CB, inx_0, inx_1, inx_2, inx_3, inx_4, inx_5, bI_0, bI_1, bI_ok, fin3, hA, hAc, dJ7_fill_d0a16_0, dJ7_fill_d0a16_1, dJ7_fill_d0a16_2, dJ7_fill_d0a16_3, dJ7_fill_d0a16_4, dJ7_fill_d0a16_6, dJ7_fill_d0a16_7, dJ7_fill_d0a16_9, dJ7_fill_d0a16_12, dJ7_fill_d0a16_13, dJ7_fill_d0a16_14, dJ7_fill_d0a16_15, dJ7_fill_d0a16_16, dJ7_fill_d0a16_19, dJ7_fill_d0a16_22]
      simp (disch := omega) only [li, nI_add, nI_clamp, nI_ltI, nI_leI, nI_eq, inx_iff, a31, nI_1shl', nI_shr', div_bit, tb1, tb0, fa_or, fa_and, nI_not, pk_sub, nI_dec, flL_s]
      exact ⟨fun z => hP _ _ ⟨rfl, by rw [show i = N by omega]⟩, fun z => ⟨z, ih (i + 1) (by omega) (by omega)⟩⟩
  refine hG.run [6] 30 ?_
  have hA21 : ¬ A = 1000000021 := by omega
  simp [wp, stepI, ln, jmp, cmpI, Value.category, rd, tyF, va_rf, st1, st2, clr, isLg, CB, inx_0, inx_1, inx_2, inx_3, inx_4, inx_5, bI_0, bI_1, bI_ok, fin3, entL, hA, hAc, hA21, okT, dJ7_fill_d0a16_0, dJ7_fill_d0a16_1, dJ7_fill_d0a16_2, dJ7_fill_d0a16_3, dJ7_fill_d0a16_4, dJ7_fill_d0a16_6, dJ7_fill_d0a16_7, dJ7_fill_d0a16_9, dJ7_fill_d0a16_12, dJ7_fill_d0a16_13, dJ7_fill_d0a16_14, dJ7_fill_d0a16_15, dJ7_fill_d0a16_16, dJ7_fill_d0a16_19, dJ7_fill_d0a16_22]
  have := loop (N + 1) 0 (by omega) (by omega)
  rw [flL_0] at this
  exact this
set_option maxHeartbeats 4000000 in
set_option maxRecDepth 100000 in
theorem cJ_bits (l : Launch) (X : Cx) (d : Nat) (M : Mm) (t : Nat) (ht : t < 1024) : Cn l X yJ6_bitCount_0f7a4 cJ6_bitCount_0f7a4 1 (some .int) d [.int (nI t)] M (fun r M' => M' = M ∧ r = some (.int (nI (pcn t)))) 0 0 := by
  refine Cn.run 14 false (by decide) rfl (by decide) (by simp [entA, Value.category]) ?_
  intro P G hP hG
  refine hG.run [] 80 ?_
  simp [wp, stepI, ln, jmp, cmpI, Value.category, rd, tyF, va_rf, st1, st2, clr, isLg, CB, inx_0, inx_1, inx_2, inx_3, inx_4, inx_5, bI_0, bI_1, bI_ok, fin3, entL, dJ6_bitCount_0f7a4_0, dJ6_bitCount_0f7a4_1, dJ6_bitCount_0f7a4_2, dJ6_bitCount_0f7a4_3, dJ6_bitCount_0f7a4_4, cI_14_265, dJ6_bitCount_0f7a4_7, dJ6_bitCount_0f7a4_8, dJ6_bitCount_0f7a4_9, dJ6_bitCount_0f7a4_10, dJ6_bitCount_0f7a4_11, cI_14_266, dJ6_bitCount_0f7a4_14, dJ6_bitCount_0f7a4_15, dJ6_bitCount_0f7a4_16, dJ6_bitCount_0f7a4_17, dJ6_bitCount_0f7a4_18, dJ6_bitCount_0f7a4_21, dJ6_bitCount_0f7a4_22, dJ6_bitCount_0f7a4_23, dJ6_bitCount_0f7a4_24, dJ6_bitCount_0f7a4_25, dJ6_bitCount_0f7a4_26, dJ6_bitCount_0f7a4_27, dJ6_bitCount_0f7a4_28, dJ6_bitCount_0f7a4_29, cI_14_267, dJ6_bitCount_0f7a4_32, dJ6_bitCount_0f7a4_33, dJ6_bitCount_0f7a4_34, dJ6_bitCount_0f7a4_35, dJ6_bitCount_0f7a4_36, dJ6_bitCount_0f7a4_38, dJ6_bitCount_0f7a4_39, dJ6_bitCount_0f7a4_40, dJ6_bitCount_0f7a4_41, dJ6_bitCount_0f7a4_42, dJ6_bitCount_0f7a4_43, dJ6_bitCount_0f7a4_45, dJ6_bitCount_0f7a4_46, dJ6_bitCount_0f7a4_47, dJ6_bitCount_0f7a4_48, dJ6_bitCount_0f7a4_49, dJ6_bitCount_0f7a4_51, dJ6_bitCount_0f7a4_52]
  refine hP _ _ ⟨rfl, ?_⟩
  congr 2
  clear hP hG
  revert ht
  revert t
  decide +kernel
