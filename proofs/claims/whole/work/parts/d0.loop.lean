theorem fix_s {N : Nat} {xs : Nat → Int32} {M : Mm} : (fixM N xs M).1 1000000022 = some (.inr (.int, N)) := rfl
theorem fix_v {N : Nat} {xs : Nat → Int32} {M : Mm} (j : Nat) : (fixM N xs M).2.1 1000000022 j = xs j := rfl
theorem fix_J {N : Nat} {xs : Nat → Int32} {M : Mm} (h : JJ M) (hn : M.2.2.2.2 ≤ 601024) : JJ (fixM N xs M) := by
  obtain ⟨h1, h2, A, Am, lf, x, h3, h4⟩ := h
  obtain ⟨sh, mI, mL, mR, n⟩ := M
  have hn' : n ≤ 601024 := hn
  have s : ∀ a, a < 1000000 → (fixM N xs (sh, mI, mL, mR, n)).1 a = sh a := fun a ha => if_neg (by unfold SCC; omega)
  have v : ∀ a k, a < 1000000 → (fixM N xs (sh, mI, mL, mR, n)).2.1 a k = mI a k := fun a k ha => if_neg (by unfold SCC; omega)
  refine ⟨ML.fr (sh := sh) (mR := mR) h1 (fun a ha => s a (by omega)) (fun _ => rfl), (s 171 (by decide)).trans h2, A, Am, lf, x, CI.gen (sh := sh) (mI := mI) (mL := mL) (mR := mR) h3 (Nat.le_refl _) (fun a ha => s a (by have : a < n := ha; omega)) (fun a k ha _ _ => v a k (by have : a < n := ha; omega)) (fun _ _ _ _ => rfl) (KpI.fr (mI := mI) (mL := mL) h3.2.2.2.2.1 (fun a k _ h => v a k (by omega)) (fun _ _ _ _ => rfl)), MI2.fr (mI := mI) h4 (fun a k z => v a k (by unfold mdC at z; omega))⟩
theorem sub7 {N i : Nat} (hN : N ≤ 3584) (hi : i ≤ 4000) : (nI N - nI 7 < nI i ↔ ¬ i + 7 ≤ N) ∧ (nI i ≤ nI N - nI 7 ↔ i + 7 ≤ N) := by
  by_cases h : 7 ≤ N
  · rw [pk_sub h]
    rw [nI_ltI (by omega) (by omega), nI_leI (by omega) (by omega)]
    omega
  · have h1 : nI N - nI 7 < nI 0 := (by decide +kernel : ∀ N, N < 7 → nI N - nI 7 < nI 0) N (by omega)
    have h2 : nI 0 ≤ nI i := (nI_leI (by omega) (by omega)).mpr (Nat.zero_le _)
    have h3 := Int32.lt_iff_toInt_lt.mp h1
    have h4 := Int32.le_iff_toInt_le.mp h2
    exact ⟨⟨fun _ => by omega, fun _ => Int32.lt_iff_toInt_lt.mpr (by omega)⟩, ⟨fun z => by have := Int32.le_iff_toInt_le.mp z; omega, fun z => by omega⟩⟩
set_option maxHeartbeats 4000000 in
set_option maxRecDepth 100000 in
theorem lw_loop (l : Launch) (hlt : l.stackTraces = false) (X : Cx) (N : Nat) (xs : Nat → Int32) (P : Option Value → Mm → Prop) (G : Nat → Nat → Nat → List (Option Value) → List Value → Mm → Prop) (hG : GL l X N xs P G) (hN : N ≤ 3584) (hP : ∀ M, P (some (.int 1)) M) : ∀ (f i k q : Nat) (v5 v6 : Option Value) (M : Mm), N + 7 - i ≤ 7 * f → i ≤ N + 7 → k ≤ 172 + i → q ≤ 39693 + 163 * i → JJ M → G k q 23 (lL i v5 v6) [] M := by
  have hG0 := hG
  obtain ⟨hGa, hWd, hbd, hfx, hcl⟩ := hG
  intro f
  induction f with
  | zero =>
    intro i k q v5 v6 M hf hi hk hq hJ
    have hi2 : i = N + 7 := by omega
    refine hfx _ _ _ _ _ _ ?_
    have hsc : (fixM N xs M).1 1000000022 = some (.inr (.int, N)) := fix_s
    have s7 := (sub7 (N := N) (i := i) hN (by omega))
    unfold lL
    have q1 := hP (fixM N xs M)
    generalize fixM N xs M = M1 at hsc q1 ⊢
    obtain ⟨sh, mI, mL, mR, n⟩ := M1
    have hsc' : sh 1000000022 = some (.inr (.int, N)) := hsc
    refine hGa.run [33] 60 ?_
    simp [wp, stepI, ln, jmp, cmpI, Value.category, rd, tyF, va_rf, st1, st2, clr, isLg, CB, inx_0, inx_1, inx_2, inx_3, inx_4, inx_5, bI_0, bI_1, bI_ok, fin3, hsc', okT, dL_law_23, dL_law_25, dL_law_26, dL_law_27, dL_law_29, dL_law_30, dL_law_33, dL_law_34, dL_law_36, dL_law_37, dL_law_39, dL_law_1087, dL_law_1088]
    simp (disch := omega) only [li, nI_add, nI_clamp, nI_ltI, nI_leI, nI_eq, inx_iff, a31, nI_1shl', nI_shr', div_bit, tb1, tb0, fa_or, fa_and, nI_not, pk_sub, nI_dec]
    refine ⟨fun _ => q1, fun z => absurd (s7.2.mp z) (by omega)⟩
  | succ f ih =>
    intro i k q v5 v6 M hf hi hk hq hJ
    refine hbd _ _ _ _ _ _ (fun hnk => ?_)
    refine hfx _ _ _ _ _ _ ?_
    have hJ2 := fix_J (N := N) (xs := xs) hJ (by omega)
    have hsc : (fixM N xs M).1 1000000022 = some (.inr (.int, N)) := fix_s
    have hxs : ∀ j, (fixM N xs M).2.1 1000000022 j = xs j := fun j => fix_v j
    have hnk2 : (fixM N xs M).2.2.2.2 ≤ k := hnk
    have q1 := hP (fixM N xs M)
    generalize fixM N xs M = M1 at hJ2 hsc hxs hnk2 q1 ⊢
    obtain ⟨sh, mI, mL, mR, n⟩ := M1
    obtain ⟨hL, h171, A, Am, lf, x, hC, hM⟩ := hJ2
    have s7 := (sub7 (N := N) (i := i) hN (by omega))
    by_cases hiN : i + 7 ≤ N
    · have nx : ∀ v5 v6 M', JJ M' → G (k + 7) (q + 1135) 1081 (lL i v5 v6) [] M' := fun v5 v6 M' hJ' => by
        have := ih (i + 7) (k + 7) (q + 1135) v5 v6 M' (by omega) (by omega) (by omega) (by omega) hJ'
        unfold lL at this ⊢
        refine hGa.run [23] 60 ?_
        simp [wp, stepI, ln, jmp, cmpI, Value.category, rd, tyF, va_rf, st1, st2, clr, isLg, CB, inx_0, inx_1, inx_2, inx_3, inx_4, inx_5, bI_0, bI_1, bI_ok, fin3, dL_law_1081, dL_law_1084]
        simp (disch := omega) only [li, nI_add, nI_clamp, nI_ltI, nI_leI, nI_eq, inx_iff, a31, nI_1shl', nI_shr', div_bit, tb1, tb0, fa_or, fa_and, nI_not, pk_sub, nI_dec]
        exact this
      have d1 : G k q 1081 (lL i v5 v6) [] (sh, mI, mL, mR, n) := hWd _ _ _ _ _ _ _ _ (by omega) (by omega) (nx v5 v6 _ ⟨hL, h171, A, Am, lf, x, hC, hM⟩)
      have c0 := lw_0 l X N xs P G hG0 sh mI mL mR n k q i v5 v6 hN hiN (by omega) (by omega) hnk2 hsc hxs hL h171 A Am lf x hC hM nx
      have c1 := lw_1 l X N xs P G hG0 sh mI mL mR n k q i v5 v6 hN hiN (by omega) (by omega) hnk2 hsc hxs hL h171 A Am lf x hC hM nx
      have c2 := lw_2 l X N xs P G hG0 sh mI mL mR n k q i v5 v6 hN hiN (by omega) (by omega) hnk2 hsc hxs hL h171 A Am lf x hC hM nx
      have c3 := lw_3 l X N xs P G hG0 sh mI mL mR n k q i v5 v6 hN hiN (by omega) (by omega) hnk2 hsc hxs hL h171 A Am lf x hC hM nx
      have c4 := lw_4 l X N xs P G hG0 sh mI mL mR n k q i v5 v6 hN hiN (by omega) (by omega) hnk2 hsc hxs hL h171 A Am lf x hC hM nx
      have c5 := lw_5 l X N xs P G hG0 sh mI mL mR n k q i v5 v6 hN hiN (by omega) (by omega) hnk2 hsc hxs hL h171 A Am lf x hC hM nx
      have c6 := lw_6 l X N xs P G hG0 sh mI mL mR n k q i v5 v6 hN hiN (by omega) (by omega) hnk2 hsc hxs hL h171 A Am lf x hC hM nx
      have c7 := lw_7 l X N xs P G hG0 sh mI mL mR n k q i v5 v6 hN hiN (by omega) (by omega) hnk2 hsc hxs hL h171 A Am lf x hC hM nx
      have c8 := lw_8 l X N xs P G hG0 sh mI mL mR n k q i v5 v6 hN hiN (by omega) (by omega) hnk2 hsc hxs hL h171 A Am lf x hC hM nx
      have c9 := lw_9 l X N xs P G hG0 sh mI mL mR n k q i v5 v6 hN hiN (by omega) (by omega) hnk2 hsc hxs hL h171 A Am lf x hC hM nx
      have c10 := lw_10 l X N xs P G hG0 sh mI mL mR n k q i v5 v6 hN hiN (by omega) (by omega) hnk2 hsc hxs hL h171 A Am lf x hC hM nx
      have c11 := lw_11 l X N xs P G hG0 sh mI mL mR n k q i v5 v6 hN hiN (by omega) (by omega) hnk2 hsc hxs hL h171 A Am lf x hC hM nx
      have c12 := lw_12 l X N xs P G hG0 sh mI mL mR n k q i v5 v6 hN hiN (by omega) (by omega) hnk2 hsc hxs hL h171 A Am lf x hC hM nx
      have c13 := lw_13 l X N xs P G hG0 sh mI mL mR n k q i v5 v6 hN hiN (by omega) (by omega) hnk2 hsc hxs hL h171 A Am lf x hC hM nx
      have c14 := lw_14 l X N xs P G hG0 sh mI mL mR n k q i v5 v6 hN hiN (by omega) (by omega) hnk2 hsc hxs hL h171 A Am lf x hC hM nx
      have c15 := lw_15 l X N xs P G hG0 sh mI mL mR n k q i v5 v6 hN hiN (by omega) (by omega) hnk2 hsc hxs hL h171 A Am lf x hC hM nx
      have c16 := lw_16 l X N xs P G hG0 sh mI mL mR n k q i v5 v6 hN hiN (by omega) (by omega) hnk2 hsc hxs hL h171 A Am lf x hC hM nx
      have c17 := lw_17 l X N xs P G hG0 sh mI mL mR n k q i v5 v6 hN hiN (by omega) (by omega) hnk2 hsc hxs hL h171 A Am lf x hC hM nx
      have c18 := lw_18 l X N xs P G hG0 sh mI mL mR n k q i v5 v6 hN hiN (by omega) (by omega) hnk2 hsc hxs hL h171 A Am lf x hC hM nx
      have c19 := lw_19 l X N xs P G hG0 sh mI mL mR n k q i v5 v6 hN hiN (by omega) (by omega) hnk2 hsc hxs hL h171 A Am lf x hC hM nx
      have c20 := lw_20 l X N xs P G hlt hG0 sh mI mL mR n k q i v5 v6 hN hiN (by omega) (by omega) hnk2 hsc hxs hL h171 A Am lf x hC hM nx
      have c21 := lw_21 l X N xs P G hG0 sh mI mL mR n k q i v5 v6 hN hiN (by omega) (by omega) hnk2 hsc hxs hL h171 A Am lf x hC hM nx
      have c22 := lw_22 l X N xs P G hG0 sh mI mL mR n k q i v5 v6 hN hiN (by omega) (by omega) hnk2 hsc hxs hL h171 A Am lf x hC hM nx
      have c23 := lw_23 l X N xs P G hG0 sh mI mL mR n k q i v5 v6 hN hiN (by omega) (by omega) hnk2 hsc hxs hL h171 A Am lf x hC hM nx
      have c24 := lw_24 l X N xs P G hG0 sh mI mL mR n k q i v5 v6 hN hiN (by omega) (by omega) hnk2 hsc hxs hL h171 A Am lf x hC hM nx
      have c25 := lw_25 l X N xs P G hG0 sh mI mL mR n k q i v5 v6 hN hiN (by omega) (by omega) hnk2 hsc hxs hL h171 A Am lf x hC hM nx
      have c26 := lw_26 l X N xs P G hG0 sh mI mL mR n k q i v5 v6 hN hiN (by omega) (by omega) hnk2 hsc hxs hL h171 A Am lf x hC hM nx
      have hsc' : sh 1000000022 = some (.inr (.int, N)) := hsc
      have hxs' : ∀ j, mI 1000000022 j = xs j := hxs
      unfold lL at c0 c1 c2 c3 c4 c5 c6 c7 c8 c9 c10 c11 c12 c13 c14 c15 c16 c17 c18 c19 c20 c21 c22 c23 c24 c25 c26 d1 ⊢
      refine hGa.run [40] 60 ?_
      simp [wp, stepI, ln, jmp, cmpI, Value.category, rd, tyF, va_rf, st1, st2, clr, isLg, CB, inx_0, inx_1, inx_2, inx_3, inx_4, inx_5, bI_0, bI_1, bI_ok, fin3, hsc', okT, dL_law_23, dL_law_25, dL_law_26, dL_law_27, dL_law_29, dL_law_30, dL_law_33, dL_law_34, dL_law_36, dL_law_37, dL_law_39, dL_law_1087, dL_law_1088]
      simp (disch := omega) only [li, nI_add, nI_clamp, nI_ltI, nI_leI, nI_eq, inx_iff, a31, nI_1shl', nI_shr', div_bit, tb1, tb0, fa_or, fa_and, nI_not, pk_sub, nI_dec, hxs']
      refine ⟨fun z => absurd hiN (s7.1.mp z), fun _ => ⟨by omega, ?_⟩⟩
      generalize xs i &&& nI 31 = w
      refine hGa.run [164, 311, 324, 361, 410, 423, 460, 473, 510, 547, 572, 597, 610, 623, 673, 698, 711, 736, 773, 810, 823, 879, 916, 929, 966, 1003, 1056, 1081] 60 ?_
      simp [wp, stepI, ln, jmp, cmpI, Value.category, rd, tyF, va_rf, st1, st2, clr, isLg, CB, inx_0, inx_1, inx_2, inx_3, inx_4, inx_5, bI_0, bI_1, bI_ok, fin3, swK, dL_law_40]
      exact ⟨⟨fun _ => c0, fun _ => c1, fun _ => c2, fun _ => c3, fun _ => c4, fun _ => c5, fun _ => c6, fun _ => c7, fun _ => c8, fun _ => c9, fun _ => c10, fun _ => c11, fun _ => c12, fun _ => c13, fun _ => c14, fun _ => c15, fun _ => c16, fun _ => c17, fun _ => c18, fun _ => c19, fun _ => c20, fun _ => c21, fun _ => c22, fun _ => c23, fun _ => c24, fun _ => c25, fun _ => c26⟩, fun _ => d1⟩
    · unfold lL
      have hsc' : sh 1000000022 = some (.inr (.int, N)) := hsc
      refine hGa.run [33] 60 ?_
      simp [wp, stepI, ln, jmp, cmpI, Value.category, rd, tyF, va_rf, st1, st2, clr, isLg, CB, inx_0, inx_1, inx_2, inx_3, inx_4, inx_5, bI_0, bI_1, bI_ok, fin3, hsc', okT, dL_law_23, dL_law_25, dL_law_26, dL_law_27, dL_law_29, dL_law_30, dL_law_33, dL_law_34, dL_law_36, dL_law_37, dL_law_39, dL_law_1087, dL_law_1088]
      simp (disch := omega) only [li, nI_add, nI_clamp, nI_ltI, nI_leI, nI_eq, inx_iff, a31, nI_1shl', nI_shr', div_bit, tb1, tb0, fa_or, fa_and, nI_not, pk_sub, nI_dec]
      refine ⟨fun _ => q1, fun z => absurd (s7.2.mp z) hiN⟩
