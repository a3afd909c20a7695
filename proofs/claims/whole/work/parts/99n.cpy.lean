/-! Arrays.copyOf, of fewer than there are -/
set_option maxHeartbeats 800000 in
set_option maxRecDepth 100000 in
theorem cJ_copyOf (l : Launch) (X : Cx) (d : Nat) (sh : Nat → Option Sh) (mI : Nat → Nat → Int32) (mL : Nat → Nat → Int64) (mR : Nat → Nat → Option Nat) (n : Nat) (A N : Nat) (hA : sh A = some (.inr (.int, N))) (hAn : A < n) (hN : N ≤ 1000) (hn : n < 100000000) (k : Nat) (hk : k < N) (hd : 1 ≤ d) : Cn l X yJ7_copyOf_59c91 cJ7_copyOf_59c91 3 (some (.array .int)) d [.ref A, .int (nI k)] (sh, mI, mL, mR, n) (fun r M' => r = some (.ref n) ∧ ∃ mI', M' = (upS sh n (.inr (.int, k)), mI', up0 mL n 0, up0 mR n none, n + 1) ∧ (∀ a j, a ≠ n → mI' a j = mI a j) ∧ ∀ i, i < k → mI' n i = mI A i) 1 k := by
  refine Cn.runA 18 false (by decide) rfl (by decide) (by simp [entA, Value.category]) ?_
  intro P G hP hG
  have iN : Int32.ofNat N = nI N := rfl
  have a21 : ¬ A = 1000000021 := by omega
  have q0 : True := trivial
  have An : A ≠ n := by omega
  refine hG.run [15] 60 ?_
  simp [wp, stepI, ln, jmp, cmpI, Value.category, rd, tyF, va_rf, st1, st2, clr, isLg, CB, inx_0, inx_1, inx_2, inx_3, inx_4, inx_5, bI_0, bI_1, bI_ok, fin3, entL, q0, hA, a21, okT, dJ7_copyOf_59c91_0, dJ7_copyOf_59c91_1, dJ7_copyOf_59c91_2, dJ7_copyOf_59c91_3, dJ7_copyOf_59c91_6, dJ7_copyOf_59c91_7, dJ7_copyOf_59c91_10, dJ7_copyOf_59c91_13, dJ7_copyOf_59c91_14, dJ7_copyOf_59c91_15, dJ7_copyOf_59c91_17, dJ7_copyOf_59c91_18, dJ7_copyOf_59c91_19, dJ7_copyOf_59c91_20, dJ7_copyOf_59c91_21, dJ7_copyOf_59c91_22, dJ7_copyOf_59c91_23, dJ7_copyOf_59c91_24, dJ7_copyOf_59c91_25, dJ7_copyOf_59c91_28, dJ7_copyOf_59c91_31, dJ7_copyOf_59c91_32]
  simp (disch := omega) only [li, nI_add, nI_clamp, nI_ltI, nI_leI, nI_eq, inx_iff, a31, nI_1shl', nI_shr', div_bit, tb1, tb0, fa_or, fa_and, nI_not, pk_sub, nI_dec, iN]
  refine ⟨fun _ => ?_, fun z => absurd z (by omega)⟩
  refine hG.newa dJ7_copyOf_59c91_15 rfl (Or.inl rfl) wa_int (N := k) (fun z => ?_) (nI_clamp (by omega)) (by omega) (by show n < 1000000000; omega) ?_
  · have := (nI_ltI (a := k) (b := 0) (by omega) (by omega)).mp z
    omega
  have hA2 : (upS sh n (.inr (.int, k))) A = some (.inr (.int, N)) := by unfold upS; rw [if_neg An]; exact hA
  have hn2 : (upS sh n (.inr (.int, k))) n = some (.inr (.int, k)) := by unfold upS; rw [if_pos rfl]
  show G 1 (0 + k) 17 _ [.ref n] (upS sh n (.inr (.int, k)), up0 mI n 0, up0 mL n 0, up0 mR n none, n + 1)
  refine hG.run [] 60 ?_
  simp [wp, stepI, ln, jmp, cmpI, Value.category, rd, tyF, va_rf, st1, st2, clr, isLg, CB, inx_0, inx_1, inx_2, inx_3, inx_4, inx_5, bI_0, bI_1, bI_ok, fin3, entL, q0, hA2, a21, okT, dJ7_copyOf_59c91_0, dJ7_copyOf_59c91_1, dJ7_copyOf_59c91_2, dJ7_copyOf_59c91_3, dJ7_copyOf_59c91_6, dJ7_copyOf_59c91_7, dJ7_copyOf_59c91_10, dJ7_copyOf_59c91_13, dJ7_copyOf_59c91_14, dJ7_copyOf_59c91_15, dJ7_copyOf_59c91_17, dJ7_copyOf_59c91_18, dJ7_copyOf_59c91_19, dJ7_copyOf_59c91_20, dJ7_copyOf_59c91_21, dJ7_copyOf_59c91_22, dJ7_copyOf_59c91_23, dJ7_copyOf_59c91_24, dJ7_copyOf_59c91_25, dJ7_copyOf_59c91_28, dJ7_copyOf_59c91_31, dJ7_copyOf_59c91_32]
  rw [iN]
  refine hG.mmin dJ7_copyOf_59c91_25 ms_18_304.link hd (by simp [Value.category]) ?_
  have mn : (if nI k < nI N then nI k else nI N) = nI k := by rw [if_pos ((nI_ltI (by omega) (by omega)).mpr hk)]
  rw [mn]
  simp only [li]
  refine hG.copyi dJ7_copyOf_59c91_28 ml_18_150 hA2 hn2 (by show n < 1000000000; omega) (by decide) (by decide) (fun z => ?_) ?_ ?_ hd (by simp) ?_
  · have := (nI_ltI (a := k) (b := 0) (by omega) (by omega)).mp z
    omega
  · rw [nI_clamp (by omega), nI_clamp (by omega)]; omega
  · rw [nI_clamp (by omega), nI_clamp (by omega)]; omega
  rw [nI_clamp (by omega), nI_clamp (by omega)]
  refine hG.run [] 60 ?_
  simp [wp, stepI, ln, jmp, cmpI, Value.category, rd, tyF, va_rf, st1, st2, clr, isLg, CB, inx_0, inx_1, inx_2, inx_3, inx_4, inx_5, bI_0, bI_1, bI_ok, fin3, entL, q0, dJ7_copyOf_59c91_0, dJ7_copyOf_59c91_1, dJ7_copyOf_59c91_2, dJ7_copyOf_59c91_3, dJ7_copyOf_59c91_6, dJ7_copyOf_59c91_7, dJ7_copyOf_59c91_10, dJ7_copyOf_59c91_13, dJ7_copyOf_59c91_14, dJ7_copyOf_59c91_15, dJ7_copyOf_59c91_17, dJ7_copyOf_59c91_18, dJ7_copyOf_59c91_19, dJ7_copyOf_59c91_20, dJ7_copyOf_59c91_21, dJ7_copyOf_59c91_22, dJ7_copyOf_59c91_23, dJ7_copyOf_59c91_24, dJ7_copyOf_59c91_25, dJ7_copyOf_59c91_28, dJ7_copyOf_59c91_31, dJ7_copyOf_59c91_32]
  refine hG.aret dJ7_copyOf_59c91_32 (Or.inr ⟨_, rfl⟩) ?_
  refine hP _ _ ⟨rfl, _, rfl, fun a j ha => ?_, fun i hi => ?_⟩
  · unfold cpM up0
    rw [if_neg (fun z => ha z.1), if_neg ha]
  · unfold cpM up0
    rw [if_pos ⟨rfl, by omega, by omega⟩, if_neg An]
    congr 1
    omega
