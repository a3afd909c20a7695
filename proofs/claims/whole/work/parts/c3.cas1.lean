set_option maxHeartbeats 1600000 in
set_option maxRecDepth 100000 in
theorem lw_2 (l : Launch) (X : Cx) (N : Nat) (xs : Nat → Int32) (P : Option Value → Mm → Prop) (G : Nat → Nat → Nat → List (Option Value) → List Value → Mm → Prop) (hG : GL l X N xs P G) (sh : Nat → Option Sh) (mI : Nat → Nat → Int32) (mL : Nat → Nat → Int64) (mR : Nat → Nat → Option Nat) (n k q i : Nat) (v5 v6 : Option Value) (hN : N ≤ 3584) (hi : i + 7 ≤ N) (hk : k + 7 ≤ 601024) (hq : q + 1135 ≤ 7293034) (hnk : n ≤ k) (hsc : sh 1000000022 = some (.inr (.int, N))) (hxs : ∀ j, mI 1000000022 j = xs j) (hL : ML sh mR) (h171 : sh 171 = some (.inr (.long, 1))) (A : DD) (Am : Nat → DD) (lf : Nat → Nat) (x : TP) (hC : CI sh mI mL mR n A Am lf x) (hM : MI2 mI A Am lf x) (nx : ∀ v5 v6 M', JJ M' → G (k + 7) (q + 1135) 1081 (lL i v5 v6) [] M') : G k q 324 (lL i v5 v6) [] (sh, mI, mL, mR, n) := by
  obtain ⟨hGa, hWd, hbd, hfx, hcl⟩ := hG
  have q0 := hC.1.1
  have m0 := hL.1
  have hB := hC.1
  have hV := hC.2.2.1
  obtain ⟨C, hS⟩ := hC.2.2.2.1
  have hK := hC.2.2.2.2.1
  unfold lL at nx ⊢
  refine hGa.run [337] 60 ?_
  simp [wp, stepI, ln, jmp, cmpI, Value.category, rd, tyF, va_rf, st1, st2, clr, isLg, CB, inx_0, inx_1, inx_2, inx_3, inx_4, inx_5, bI_0, bI_1, bI_ok, fin3, q0, m0, hsc, dL_law_324, dL_law_325, dL_law_326, dL_law_328, dL_law_329, dL_law_330, dL_law_331, dL_law_332, dL_law_334, dL_law_335, dL_law_336, dL_law_337]
  simp (disch := omega) only [li, nI_add, nI_clamp, nI_ltI, nI_leI, nI_eq, inx_iff, a31, nI_1shl', nI_shr', div_bit, tb1, tb0, fa_or, fa_and, nI_not, pk_sub, nI_dec, hxs]
  refine ⟨by omega, by omega, ?_⟩
  refine hGa.callV dL_law_337 mv_13_31 [.int (xs (i + 1)), .int (xs (i + 2))] [] (c11_pupil l X 2000 sh mI mL mR n hB C A hV hS (xs (i + 1)) (xs (i + 2)) (by decide)) ⟨_, rfl, rfl⟩ q0 (by decide) rfl (by decide) (by simp [Value.category]) rfl ?_
  rintro r M' ⟨rfl, rfl⟩
  have hi1 : ∀ a k, ¬ (33 ≤ a ∧ a ≤ 80) → mI a k = mI a k := fun _ _ _ => rfl
  have hr1 : ∀ a k, ¬ (a = 64 ∧ k = 0) → mR a k = mR a k := fun _ _ _ => rfl
  have hL1 : ML sh mR := hL.fr (fun _ _ => rfl) (fun k => hr1 _ _ (by omega))
  have hxs1 : ∀ j, mI 1000000022 j = xs j := fun j => (hi1 _ _ (by omega)).trans (hxs j)
  have M1 := hM.cl hi1
  have K1 : KpI mI mL A := hK
  obtain ⟨p1, p2, p3, p4, p5, p6, p7, p8⟩ := M1.m hV
  refine hGa.run [353] 60 ?_
  simp [wp, stepI, ln, jmp, cmpI, Value.category, rd, tyF, va_rf, st1, st2, clr, isLg, CB, inx_0, inx_1, inx_2, inx_3, inx_4, inx_5, bI_0, bI_1, bI_ok, fin3, q0, m0, hsc, dL_law_340, dL_law_341, dL_law_342, dL_law_344, dL_law_345, dL_law_346, dL_law_347, dL_law_348, dL_law_350, dL_law_351, dL_law_352, dL_law_353]
  simp (disch := omega) only [li, nI_add, nI_clamp, nI_ltI, nI_leI, nI_eq, inx_iff, a31, nI_1shl', nI_shr', div_bit, tb1, tb0, fa_or, fa_and, nI_not, pk_sub, nI_dec, hxs1]
  refine ⟨by omega, by omega, ?_⟩
  refine hGa.callV dL_law_353 mv_13_35 [.int (xs (i + 1)), .int (xs (i + 2))] [_] (c12_pupil l X 2000 sh mI mL mR n hL1 (A 0 0) p1 (xs (i + 1)) (xs (i + 2)) (by decide)) ⟨_, rfl, rfl⟩ m0 (by decide) rfl (by decide) (by simp [Value.category]) rfl ?_
  rintro r M' ⟨rfl, rfl⟩
  rw [pup_e M1 hV]
  have fin := hWd _ _ _ _ _ _ _ _ (show k + 0 + 0 ≤ k + 7 by omega) (show q + 0 + 0 ≤ q + 1135 by omega) (nx v5 v6 _ (jj_r hC hL h171 hi1 hr1 K1 (thr_o _) (fun _ _ _ => rfl) M1.th))
  refine hGa.run [1081] 60 ?_
  simp [wp, stepI, ln, jmp, cmpI, Value.category, rd, tyF, va_rf, st1, st2, clr, isLg, CB, inx_0, inx_1, inx_2, inx_3, inx_4, inx_5, bI_0, bI_1, bI_ok, fin3, q0, m0, hsc, dL_law_356, dL_law_359, dL_law_360, dL_law_361]
  exact fin

set_option maxHeartbeats 1600000 in
set_option maxRecDepth 100000 in
theorem lw_5 (l : Launch) (X : Cx) (N : Nat) (xs : Nat → Int32) (P : Option Value → Mm → Prop) (G : Nat → Nat → Nat → List (Option Value) → List Value → Mm → Prop) (hG : GL l X N xs P G) (sh : Nat → Option Sh) (mI : Nat → Nat → Int32) (mL : Nat → Nat → Int64) (mR : Nat → Nat → Option Nat) (n k q i : Nat) (v5 v6 : Option Value) (hN : N ≤ 3584) (hi : i + 7 ≤ N) (hk : k + 7 ≤ 601024) (hq : q + 1135 ≤ 7293034) (hnk : n ≤ k) (hsc : sh 1000000022 = some (.inr (.int, N))) (hxs : ∀ j, mI 1000000022 j = xs j) (hL : ML sh mR) (h171 : sh 171 = some (.inr (.long, 1))) (A : DD) (Am : Nat → DD) (lf : Nat → Nat) (x : TP) (hC : CI sh mI mL mR n A Am lf x) (hM : MI2 mI A Am lf x) (nx : ∀ v5 v6 M', JJ M' → G (k + 7) (q + 1135) 1081 (lL i v5 v6) [] M') : G k q 423 (lL i v5 v6) [] (sh, mI, mL, mR, n) := by
  obtain ⟨hGa, hWd, hbd, hfx, hcl⟩ := hG
  have q0 := hC.1.1
  have m0 := hL.1
  have hB := hC.1
  have hV := hC.2.2.1
  obtain ⟨C, hS⟩ := hC.2.2.2.1
  have hK := hC.2.2.2.2.1
  unfold lL at nx ⊢
  refine hGa.run [436] 60 ?_
  simp [wp, stepI, ln, jmp, cmpI, Value.category, rd, tyF, va_rf, st1, st2, clr, isLg, CB, inx_0, inx_1, inx_2, inx_3, inx_4, inx_5, bI_0, bI_1, bI_ok, fin3, q0, m0, hsc, dL_law_423, dL_law_424, dL_law_425, dL_law_427, dL_law_428, dL_law_429, dL_law_430, dL_law_431, dL_law_433, dL_law_434, dL_law_435, dL_law_436]
  simp (disch := omega) only [li, nI_add, nI_clamp, nI_ltI, nI_leI, nI_eq, inx_iff, a31, nI_1shl', nI_shr', div_bit, tb1, tb0, fa_or, fa_and, nI_not, pk_sub, nI_dec, hxs]
  refine ⟨by omega, by omega, ?_⟩
  refine hGa.callV dL_law_436 mv_13_46 [.int (xs (i + 1)), .int (xs (i + 2))] [] (c11_saying l X 2000 sh mI mL mR n hB C A hV hS (xs (i + 1)) (xs (i + 2))) ⟨_, rfl, rfl⟩ q0 (by decide) rfl (by decide) (by simp [Value.category]) rfl ?_
  rintro r M' ⟨rfl, rfl⟩
  have hi1 : ∀ a k, ¬ (33 ≤ a ∧ a ≤ 80) → mI a k = mI a k := fun _ _ _ => rfl
  have hr1 : ∀ a k, ¬ (a = 64 ∧ k = 0) → mR a k = mR a k := fun _ _ _ => rfl
  have hL1 : ML sh mR := hL.fr (fun _ _ => rfl) (fun k => hr1 _ _ (by omega))
  have hxs1 : ∀ j, mI 1000000022 j = xs j := fun j => (hi1 _ _ (by omega)).trans (hxs j)
  have M1 := hM.cl hi1
  have K1 : KpI mI mL A := hK
  obtain ⟨p1, p2, p3, p4, p5, p6, p7, p8⟩ := M1.m hV
  refine hGa.run [452] 60 ?_
  simp [wp, stepI, ln, jmp, cmpI, Value.category, rd, tyF, va_rf, st1, st2, clr, isLg, CB, inx_0, inx_1, inx_2, inx_3, inx_4, inx_5, bI_0, bI_1, bI_ok, fin3, q0, m0, hsc, dL_law_439, dL_law_440, dL_law_441, dL_law_443, dL_law_444, dL_law_445, dL_law_446, dL_law_447, dL_law_449, dL_law_450, dL_law_451, dL_law_452]
  simp (disch := omega) only [li, nI_add, nI_clamp, nI_ltI, nI_leI, nI_eq, inx_iff, a31, nI_1shl', nI_shr', div_bit, tb1, tb0, fa_or, fa_and, nI_not, pk_sub, nI_dec, hxs1]
  refine ⟨by omega, by omega, ?_⟩
  refine hGa.callV dL_law_452 mv_13_49 [.int (xs (i + 1)), .int (xs (i + 2))] [_] (c12_saying l X 2000 sh mI mL mR n hL1 (A 0 2) (A 5) (A 6) (A 7) p2 (xs (i + 1)) (xs (i + 2)) (by decide)) ⟨_, rfl, rfl⟩ m0 (by decide) rfl (by decide) (by simp [Value.category]) rfl ?_
  rintro r M' ⟨rfl, rfl⟩
  have fin := hWd _ _ _ _ _ _ _ _ (show k + 0 + 0 ≤ k + 7 by omega) (show q + 0 + 0 ≤ q + 1135 by omega) (nx v5 v6 _ (jj_r hC hL h171 hi1 hr1 K1 (thr_o _) (fun _ _ _ => rfl) M1.th))
  refine hGa.run [1081] 60 ?_
  simp [wp, stepI, ln, jmp, cmpI, Value.category, rd, tyF, va_rf, st1, st2, clr, isLg, CB, inx_0, inx_1, inx_2, inx_3, inx_4, inx_5, bI_0, bI_1, bI_ok, fin3, q0, m0, hsc, dL_law_455, dL_law_458, dL_law_459, dL_law_460]
  exact fin

set_option maxHeartbeats 1600000 in
set_option maxRecDepth 100000 in
theorem lw_26 (l : Launch) (X : Cx) (N : Nat) (xs : Nat → Int32) (P : Option Value → Mm → Prop) (G : Nat → Nat → Nat → List (Option Value) → List Value → Mm → Prop) (hG : GL l X N xs P G) (sh : Nat → Option Sh) (mI : Nat → Nat → Int32) (mL : Nat → Nat → Int64) (mR : Nat → Nat → Option Nat) (n k q i : Nat) (v5 v6 : Option Value) (hN : N ≤ 3584) (hi : i + 7 ≤ N) (hk : k + 7 ≤ 601024) (hq : q + 1135 ≤ 7293034) (hnk : n ≤ k) (hsc : sh 1000000022 = some (.inr (.int, N))) (hxs : ∀ j, mI 1000000022 j = xs j) (hL : ML sh mR) (h171 : sh 171 = some (.inr (.long, 1))) (A : DD) (Am : Nat → DD) (lf : Nat → Nat) (x : TP) (hC : CI sh mI mL mR n A Am lf x) (hM : MI2 mI A Am lf x) (nx : ∀ v5 v6 M', JJ M' → G (k + 7) (q + 1135) 1081 (lL i v5 v6) [] M') : G k q 1056 (lL i v5 v6) [] (sh, mI, mL, mR, n) := by
  obtain ⟨hGa, hWd, hbd, hfx, hcl⟩ := hG
  have q0 := hC.1.1
  have m0 := hL.1
  have hB := hC.1
  have hV := hC.2.2.1
  obtain ⟨C, hS⟩ := hC.2.2.2.1
  have hK := hC.2.2.2.2.1
  unfold lL at nx ⊢
  refine hGa.run [1063] 60 ?_
  simp [wp, stepI, ln, jmp, cmpI, Value.category, rd, tyF, va_rf, st1, st2, clr, isLg, CB, inx_0, inx_1, inx_2, inx_3, inx_4, inx_5, bI_0, bI_1, bI_ok, fin3, q0, m0, hsc, dL_law_1056, dL_law_1057, dL_law_1058, dL_law_1060, dL_law_1061, dL_law_1062, dL_law_1063]
  simp (disch := omega) only [li, nI_add, nI_clamp, nI_ltI, nI_leI, nI_eq, inx_iff, a31, nI_1shl', nI_shr', div_bit, tb1, tb0, fa_or, fa_and, nI_not, pk_sub, nI_dec, hxs]
  refine ⟨by omega, ?_⟩
  refine hGa.callV dL_law_1063 mv_13_138 [.int (xs (i + 1))] [] (c11_count l X 2000 sh mI mL mR n hB C A hV hS x.2 hC.2.2.2.2.2.2.1.1 (xs (i + 1)) (by decide)) ⟨_, rfl, rfl⟩ q0 (by decide) rfl (by decide) (by simp [Value.category]) rfl ?_
  rintro r M' ⟨rfl, rfl⟩
  have hi1 : ∀ a k, ¬ (33 ≤ a ∧ a ≤ 80) → mI a k = mI a k := fun _ _ _ => rfl
  have hr1 : ∀ a k, ¬ (a = 64 ∧ k = 0) → mR a k = mR a k := fun _ _ _ => rfl
  have hL1 : ML sh mR := hL.fr (fun _ _ => rfl) (fun k => hr1 _ _ (by omega))
  have hxs1 : ∀ j, mI 1000000022 j = xs j := fun j => (hi1 _ _ (by omega)).trans (hxs j)
  have M1 := hM.cl hi1
  have K1 : KpI mI mL A := hK
  obtain ⟨p1, p2, p3, p4, p5, p6, p7, p8⟩ := M1.m hV
  refine hGa.run [1073] 60 ?_
  simp [wp, stepI, ln, jmp, cmpI, Value.category, rd, tyF, va_rf, st1, st2, clr, isLg, CB, inx_0, inx_1, inx_2, inx_3, inx_4, inx_5, bI_0, bI_1, bI_ok, fin3, q0, m0, hsc, dL_law_1066, dL_law_1067, dL_law_1068, dL_law_1070, dL_law_1071, dL_law_1072, dL_law_1073]
  simp (disch := omega) only [li, nI_add, nI_clamp, nI_ltI, nI_leI, nI_eq, inx_iff, a31, nI_1shl', nI_shr', div_bit, tb1, tb0, fa_or, fa_and, nI_not, pk_sub, nI_dec, hxs1]
  refine ⟨by omega, ?_⟩
  refine hGa.callV dL_law_1073 mv_13_141 [.int (xs (i + 1))] [_] (c12_count l X 2000 sh mI mL mR n hL1 (A 0 0) p1 (xs (i + 1)) (by decide)) ⟨_, rfl, rfl⟩ m0 (by decide) rfl (by decide) (by simp [Value.category]) rfl ?_
  rintro r M' ⟨rfl, rfl⟩
  rw [cnt_e M1 hV]
  have fin := hWd _ _ _ _ _ _ _ _ (show k + 0 + 0 ≤ k + 7 by omega) (show q + 0 + 0 ≤ q + 1135 by omega) (nx v5 v6 _ (jj_r hC hL h171 hi1 hr1 K1 (thr_o _) (fun _ _ _ => rfl) M1.th))
  refine hGa.run [1081] 60 ?_
  simp [wp, stepI, ln, jmp, cmpI, Value.category, rd, tyF, va_rf, st1, st2, clr, isLg, CB, inx_0, inx_1, inx_2, inx_3, inx_4, inx_5, bI_0, bI_1, bI_ok, fin3, q0, m0, hsc, dL_law_1076, dL_law_1079, dL_law_1080, dL_law_1081]
  exact fin

set_option maxHeartbeats 1600000 in
set_option maxRecDepth 100000 in
theorem lw_12 (l : Launch) (X : Cx) (N : Nat) (xs : Nat → Int32) (P : Option Value → Mm → Prop) (G : Nat → Nat → Nat → List (Option Value) → List Value → Mm → Prop) (hG : GL l X N xs P G) (sh : Nat → Option Sh) (mI : Nat → Nat → Int32) (mL : Nat → Nat → Int64) (mR : Nat → Nat → Option Nat) (n k q i : Nat) (v5 v6 : Option Value) (hN : N ≤ 3584) (hi : i + 7 ≤ N) (hk : k + 7 ≤ 601024) (hq : q + 1135 ≤ 7293034) (hnk : n ≤ k) (hsc : sh 1000000022 = some (.inr (.int, N))) (hxs : ∀ j, mI 1000000022 j = xs j) (hL : ML sh mR) (h171 : sh 171 = some (.inr (.long, 1))) (A : DD) (Am : Nat → DD) (lf : Nat → Nat) (x : TP) (hC : CI sh mI mL mR n A Am lf x) (hM : MI2 mI A Am lf x) (nx : ∀ v5 v6 M', JJ M' → G (k + 7) (q + 1135) 1081 (lL i v5 v6) [] M') : G k q 610 (lL i v5 v6) [] (sh, mI, mL, mR, n) := by
  obtain ⟨hGa, hWd, hbd, hfx, hcl⟩ := hG
  have q0 := hC.1.1
  have m0 := hL.1
  have hB := hC.1
  have hV := hC.2.2.1
  obtain ⟨C, hS⟩ := hC.2.2.2.1
  have hK := hC.2.2.2.2.1
  unfold lL at nx ⊢
  refine hGa.run [611] 60 ?_
  simp [wp, stepI, ln, jmp, cmpI, Value.category, rd, tyF, va_rf, st1, st2, clr, isLg, CB, inx_0, inx_1, inx_2, inx_3, inx_4, inx_5, bI_0, bI_1, bI_ok, fin3, q0, m0, hsc, dL_law_610, dL_law_611]
  refine hGa.callV dL_law_611 mv_13_74 [] [] (c11_unlike l X 2000 sh mI mL mR n hB C A hV hS (by decide)) ⟨_, rfl, rfl⟩ q0 (by decide) rfl (by decide) (by simp [Value.category]) rfl ?_
  rintro r M' ⟨rfl, rfl⟩
  have hi1 : ∀ a k, ¬ (33 ≤ a ∧ a ≤ 80) → mI a k = mI a k := fun _ _ _ => rfl
  have hr1 : ∀ a k, ¬ (a = 64 ∧ k = 0) → mR a k = mR a k := fun _ _ _ => rfl
  have hL1 : ML sh mR := hL.fr (fun _ _ => rfl) (fun k => hr1 _ _ (by omega))
  have hxs1 : ∀ j, mI 1000000022 j = xs j := fun j => (hi1 _ _ (by omega)).trans (hxs j)
  have M1 := hM.cl hi1
  have K1 : KpI mI mL A := hK
  obtain ⟨p1, p2, p3, p4, p5, p6, p7, p8⟩ := M1.m hV
  refine hGa.run [615] 60 ?_
  simp [wp, stepI, ln, jmp, cmpI, Value.category, rd, tyF, va_rf, st1, st2, clr, isLg, CB, inx_0, inx_1, inx_2, inx_3, inx_4, inx_5, bI_0, bI_1, bI_ok, fin3, q0, m0, hsc, dL_law_614, dL_law_615]
  refine hGa.callV dL_law_615 mv_13_77 [] [_] (c12_unlike l X 2000 sh mI mL mR n hL1 (A 0 0) p1 (A 0 2) (A 5) (A 6) (A 7) p2 (by decide)) ⟨_, rfl, rfl⟩ m0 (by decide) rfl (by decide) (by simp [Value.category]) rfl ?_
  rintro r M' ⟨rfl, mI2, rfl, e2⟩
  have fin := hWd _ _ _ _ _ _ _ _ (show k + 0 + 0 ≤ k + 7 by omega) (show q + 0 + 0 ≤ q + 1135 by omega) (nx v5 v6 _ (jj_r hC hL h171 hi1 hr1 K1 (eqf_o e2 (by decide)) (fun _ _ _ => rfl) (M1.eqf e2 (by decide) (by decide))))
  refine hGa.run [1081] 60 ?_
  simp [wp, stepI, ln, jmp, cmpI, Value.category, rd, tyF, va_rf, st1, st2, clr, isLg, CB, inx_0, inx_1, inx_2, inx_3, inx_4, inx_5, bI_0, bI_1, bI_ok, fin3, q0, m0, hsc, dL_law_618, dL_law_621, dL_law_622, dL_law_623]
  exact fin

set_option maxHeartbeats 1600000 in
set_option maxRecDepth 100000 in
theorem lw_19 (l : Launch) (X : Cx) (N : Nat) (xs : Nat → Int32) (P : Option Value → Mm → Prop) (G : Nat → Nat → Nat → List (Option Value) → List Value → Mm → Prop) (hG : GL l X N xs P G) (sh : Nat → Option Sh) (mI : Nat → Nat → Int32) (mL : Nat → Nat → Int64) (mR : Nat → Nat → Option Nat) (n k q i : Nat) (v5 v6 : Option Value) (hN : N ≤ 3584) (hi : i + 7 ≤ N) (hk : k + 7 ≤ 601024) (hq : q + 1135 ≤ 7293034) (hnk : n ≤ k) (hsc : sh 1000000022 = some (.inr (.int, N))) (hxs : ∀ j, mI 1000000022 j = xs j) (hL : ML sh mR) (h171 : sh 171 = some (.inr (.long, 1))) (A : DD) (Am : Nat → DD) (lf : Nat → Nat) (x : TP) (hC : CI sh mI mL mR n A Am lf x) (hM : MI2 mI A Am lf x) (nx : ∀ v5 v6 M', JJ M' → G (k + 7) (q + 1135) 1081 (lL i v5 v6) [] M') : G k q 810 (lL i v5 v6) [] (sh, mI, mL, mR, n) := by
  obtain ⟨hGa, hWd, hbd, hfx, hcl⟩ := hG
  have q0 := hC.1.1
  have m0 := hL.1
  have hB := hC.1
  have hV := hC.2.2.1
  obtain ⟨C, hS⟩ := hC.2.2.2.1
  have hK := hC.2.2.2.2.1
  unfold lL at nx ⊢
  refine hGa.run [811] 60 ?_
  simp [wp, stepI, ln, jmp, cmpI, Value.category, rd, tyF, va_rf, st1, st2, clr, isLg, CB, inx_0, inx_1, inx_2, inx_3, inx_4, inx_5, bI_0, bI_1, bI_ok, fin3, q0, m0, hsc, dL_law_810, dL_law_811]
  refine hGa.callV dL_law_811 mv_13_104 [] [] (c11_changes l X 2000 sh mI mL mR n hB C A hV hS (by decide)) ⟨_, rfl, rfl⟩ q0 (by decide) rfl (by decide) (by simp [Value.category]) rfl ?_
  rintro r M' ⟨rfl, rfl⟩
  have hi1 : ∀ a k, ¬ (33 ≤ a ∧ a ≤ 80) → mI a k = mI a k := fun _ _ _ => rfl
  have hr1 : ∀ a k, ¬ (a = 64 ∧ k = 0) → mR a k = mR a k := fun _ _ _ => rfl
  have hL1 : ML sh mR := hL.fr (fun _ _ => rfl) (fun k => hr1 _ _ (by omega))
  have hxs1 : ∀ j, mI 1000000022 j = xs j := fun j => (hi1 _ _ (by omega)).trans (hxs j)
  have M1 := hM.cl hi1
  have K1 : KpI mI mL A := hK
  obtain ⟨p1, p2, p3, p4, p5, p6, p7, p8⟩ := M1.m hV
  refine hGa.run [815] 60 ?_
  simp [wp, stepI, ln, jmp, cmpI, Value.category, rd, tyF, va_rf, st1, st2, clr, isLg, CB, inx_0, inx_1, inx_2, inx_3, inx_4, inx_5, bI_0, bI_1, bI_ok, fin3, q0, m0, hsc, dL_law_814, dL_law_815]
  refine hGa.callV dL_law_815 mv_13_107 [] [_] (c12_changes l X 2000 sh mI mL mR n hL1 (A 0 0) p1 (A 11) (A 12) p7 (by decide)) ⟨_, rfl, rfl⟩ m0 (by decide) rfl (by decide) (by simp [Value.category]) rfl ?_
  rintro r M' ⟨rfl, rfl⟩
  have fin := hWd _ _ _ _ _ _ _ _ (show k + 0 + 0 ≤ k + 7 by omega) (show q + 0 + 0 ≤ q + 1135 by omega) (nx v5 v6 _ (jj_r hC hL h171 hi1 hr1 K1 (thr_o _) (fun _ _ _ => rfl) M1.th))
  refine hGa.run [1081] 60 ?_
  simp [wp, stepI, ln, jmp, cmpI, Value.category, rd, tyF, va_rf, st1, st2, clr, isLg, CB, inx_0, inx_1, inx_2, inx_3, inx_4, inx_5, bI_0, bI_1, bI_ok, fin3, q0, m0, hsc, dL_law_818, dL_law_821, dL_law_822, dL_law_823]
  exact fin

set_option maxHeartbeats 1600000 in
set_option maxRecDepth 100000 in
theorem lw_6 (l : Launch) (X : Cx) (N : Nat) (xs : Nat → Int32) (P : Option Value → Mm → Prop) (G : Nat → Nat → Nat → List (Option Value) → List Value → Mm → Prop) (hG : GL l X N xs P G) (sh : Nat → Option Sh) (mI : Nat → Nat → Int32) (mL : Nat → Nat → Int64) (mR : Nat → Nat → Option Nat) (n k q i : Nat) (v5 v6 : Option Value) (hN : N ≤ 3584) (hi : i + 7 ≤ N) (hk : k + 7 ≤ 601024) (hq : q + 1135 ≤ 7293034) (hnk : n ≤ k) (hsc : sh 1000000022 = some (.inr (.int, N))) (hxs : ∀ j, mI 1000000022 j = xs j) (hL : ML sh mR) (h171 : sh 171 = some (.inr (.long, 1))) (A : DD) (Am : Nat → DD) (lf : Nat → Nat) (x : TP) (hC : CI sh mI mL mR n A Am lf x) (hM : MI2 mI A Am lf x) (nx : ∀ v5 v6 M', JJ M' → G (k + 7) (q + 1135) 1081 (lL i v5 v6) [] M') : G k q 460 (lL i v5 v6) [] (sh, mI, mL, mR, n) := by
  obtain ⟨hGa, hWd, hbd, hfx, hcl⟩ := hG
  have q0 := hC.1.1
  have m0 := hL.1
  have hB := hC.1
  have hV := hC.2.2.1
  obtain ⟨C, hS⟩ := hC.2.2.2.1
  have hK := hC.2.2.2.2.1
  unfold lL at nx ⊢
  refine hGa.run [461] 60 ?_
  simp [wp, stepI, ln, jmp, cmpI, Value.category, rd, tyF, va_rf, st1, st2, clr, isLg, CB, inx_0, inx_1, inx_2, inx_3, inx_4, inx_5, bI_0, bI_1, bI_ok, fin3, q0, m0, hsc, dL_law_460, dL_law_461]
  refine hGa.callV dL_law_461 mv_13_50 [] [] (c11_orders l X 2000 sh mI mL mR n hB C A hV hS hK.2.1 (by decide)) ⟨_, rfl, rfl⟩ q0 (by decide) rfl (by decide) (by simp [Value.category]) rfl ?_
  rintro r M' ⟨rfl, mI1, mL1, rfl, f1, f2, I1⟩
  have hi1 : ∀ a k, ¬ (33 ≤ a ∧ a ≤ 80) → mI1 a k = mI a k := fun a k h => f1 a k (by omega)
  have hr1 : ∀ a k, ¬ (a = 64 ∧ k = 0) → mR a k = mR a k := fun _ _ _ => rfl
  have hL1 : ML sh mR := hL.fr (fun _ _ => rfl) (fun k => hr1 _ _ (by omega))
  have hxs1 : ∀ j, mI1 1000000022 j = xs j := fun j => (hi1 _ _ (by omega)).trans (hxs j)
  have M1 := hM.cl hi1
  have K1 : KpI mI1 mL1 A := hK.t1 I1 f1 f2
  obtain ⟨p1, p2, p3, p4, p5, p6, p7, p8⟩ := M1.m hV
  refine hGa.run [465] 60 ?_
  simp [wp, stepI, ln, jmp, cmpI, Value.category, rd, tyF, va_rf, st1, st2, clr, isLg, CB, inx_0, inx_1, inx_2, inx_3, inx_4, inx_5, bI_0, bI_1, bI_ok, fin3, q0, m0, hsc, dL_law_464, dL_law_465]
  refine hGa.callV dL_law_465 mv_13_53 [] [_] (c12_orders l X 2000 sh mI1 mL1 mR n hL1 (A 0 0) p1 (A 0 2) (A 5) (A 6) (A 7) p2 (by decide)) ⟨_, rfl, rfl⟩ m0 (by decide) rfl (by decide) (by simp [Value.category]) rfl ?_
  rintro r M' ⟨rfl, mI2, rfl, e2⟩
  have fin := hWd _ _ _ _ _ _ _ _ (show k + 0 + 0 ≤ k + 7 by omega) (show q + 0 + 0 ≤ q + 1135 by omega) (nx v5 v6 _ (jj_r hC hL h171 hi1 hr1 K1 (eqf_o e2 (by decide)) (fun _ _ _ => rfl) (M1.eqf e2 (by decide) (by decide))))
  refine hGa.run [1081] 60 ?_
  simp [wp, stepI, ln, jmp, cmpI, Value.category, rd, tyF, va_rf, st1, st2, clr, isLg, CB, inx_0, inx_1, inx_2, inx_3, inx_4, inx_5, bI_0, bI_1, bI_ok, fin3, q0, m0, hsc, dL_law_468, dL_law_471, dL_law_472, dL_law_473]
  exact fin

set_option maxHeartbeats 1600000 in
set_option maxRecDepth 100000 in
theorem lw_7 (l : Launch) (X : Cx) (N : Nat) (xs : Nat → Int32) (P : Option Value → Mm → Prop) (G : Nat → Nat → Nat → List (Option Value) → List Value → Mm → Prop) (hG : GL l X N xs P G) (sh : Nat → Option Sh) (mI : Nat → Nat → Int32) (mL : Nat → Nat → Int64) (mR : Nat → Nat → Option Nat) (n k q i : Nat) (v5 v6 : Option Value) (hN : N ≤ 3584) (hi : i + 7 ≤ N) (hk : k + 7 ≤ 601024) (hq : q + 1135 ≤ 7293034) (hnk : n ≤ k) (hsc : sh 1000000022 = some (.inr (.int, N))) (hxs : ∀ j, mI 1000000022 j = xs j) (hL : ML sh mR) (h171 : sh 171 = some (.inr (.long, 1))) (A : DD) (Am : Nat → DD) (lf : Nat → Nat) (x : TP) (hC : CI sh mI mL mR n A Am lf x) (hM : MI2 mI A Am lf x) (nx : ∀ v5 v6 M', JJ M' → G (k + 7) (q + 1135) 1081 (lL i v5 v6) [] M') : G k q 473 (lL i v5 v6) [] (sh, mI, mL, mR, n) := by
  obtain ⟨hGa, hWd, hbd, hfx, hcl⟩ := hG
  have q0 := hC.1.1
  have m0 := hL.1
  have hB := hC.1
  have hV := hC.2.2.1
  obtain ⟨C, hS⟩ := hC.2.2.2.1
  have hK := hC.2.2.2.2.1
  unfold lL at nx ⊢
  refine hGa.run [486] 60 ?_
  simp [wp, stepI, ln, jmp, cmpI, Value.category, rd, tyF, va_rf, st1, st2, clr, isLg, CB, inx_0, inx_1, inx_2, inx_3, inx_4, inx_5, bI_0, bI_1, bI_ok, fin3, q0, m0, hsc, dL_law_473, dL_law_474, dL_law_475, dL_law_477, dL_law_478, dL_law_479, dL_law_480, dL_law_481, dL_law_483, dL_law_484, dL_law_485, dL_law_486]
  simp (disch := omega) only [li, nI_add, nI_clamp, nI_ltI, nI_leI, nI_eq, inx_iff, a31, nI_1shl', nI_shr', div_bit, tb1, tb0, fa_or, fa_and, nI_not, pk_sub, nI_dec, hxs]
  refine ⟨by omega, by omega, ?_⟩
  refine hGa.callV dL_law_486 mv_13_54 [.int (xs (i + 1)), .int (xs (i + 2))] [] (c11_sure l X 2000 sh mI mL mR n hB C A hV hS hK.1 (xs (i + 1)) (xs (i + 2)) (by decide)) ⟨_, rfl, rfl⟩ q0 (by decide) rfl (by decide) (by simp [Value.category]) rfl ?_
  rintro r M' ⟨rfl, mI1, rfl, f1, I1⟩
  have hi1 : ∀ a k, ¬ (33 ≤ a ∧ a ≤ 80) → mI1 a k = mI a k := fun a k h => f1 a k (by omega)
  have hr1 : ∀ a k, ¬ (a = 64 ∧ k = 0) → mR a k = mR a k := fun _ _ _ => rfl
  have hL1 : ML sh mR := hL.fr (fun _ _ => rfl) (fun k => hr1 _ _ (by omega))
  have hxs1 : ∀ j, mI1 1000000022 j = xs j := fun j => (hi1 _ _ (by omega)).trans (hxs j)
  have M1 := hM.cl hi1
  have K1 : KpI mI1 mL A := hK.ld I1 (fun a k h _ => f1 a k h)
  obtain ⟨p1, p2, p3, p4, p5, p6, p7, p8⟩ := M1.m hV
  refine hGa.run [502] 60 ?_
  simp [wp, stepI, ln, jmp, cmpI, Value.category, rd, tyF, va_rf, st1, st2, clr, isLg, CB, inx_0, inx_1, inx_2, inx_3, inx_4, inx_5, bI_0, bI_1, bI_ok, fin3, q0, m0, hsc, dL_law_489, dL_law_490, dL_law_491, dL_law_493, dL_law_494, dL_law_495, dL_law_496, dL_law_497, dL_law_499, dL_law_500, dL_law_501, dL_law_502]
  simp (disch := omega) only [li, nI_add, nI_clamp, nI_ltI, nI_leI, nI_eq, inx_iff, a31, nI_1shl', nI_shr', div_bit, tb1, tb0, fa_or, fa_and, nI_not, pk_sub, nI_dec, hxs1]
  refine ⟨by omega, by omega, ?_⟩
  refine hGa.callV dL_law_502 mv_13_57 [.int (xs (i + 1)), .int (xs (i + 2))] [_] (c12_sure l X 2000 sh mI1 mL mR n hL1 (A 0 0) p1 (A 0 2) (A 5) (A 6) (A 7) p2 (by decide) (xs (i + 1)) (xs (i + 2))) ⟨_, rfl, rfl⟩ m0 (by decide) rfl (by decide) (by simp [Value.category]) rfl ?_
  rintro r M' ⟨rfl, mI2, rfl, e2⟩
  rw [sure_e p1]
  have fin := hWd _ _ _ _ _ _ _ _ (show k + 0 + 0 ≤ k + 7 by omega) (show q + 0 + 0 ≤ q + 1135 by omega) (nx v5 v6 _ (jj_r hC hL h171 hi1 hr1 K1 (eqf_o e2 (by decide)) (fun _ _ _ => rfl) (M1.eqf e2 (by decide) (by decide))))
  refine hGa.run [1081] 60 ?_
  simp [wp, stepI, ln, jmp, cmpI, Value.category, rd, tyF, va_rf, st1, st2, clr, isLg, CB, inx_0, inx_1, inx_2, inx_3, inx_4, inx_5, bI_0, bI_1, bI_ok, fin3, q0, m0, hsc, dL_law_505, dL_law_508, dL_law_509, dL_law_510]
  exact fin

set_option maxHeartbeats 1600000 in
set_option maxRecDepth 100000 in
theorem lw_8 (l : Launch) (X : Cx) (N : Nat) (xs : Nat → Int32) (P : Option Value → Mm → Prop) (G : Nat → Nat → Nat → List (Option Value) → List Value → Mm → Prop) (hG : GL l X N xs P G) (sh : Nat → Option Sh) (mI : Nat → Nat → Int32) (mL : Nat → Nat → Int64) (mR : Nat → Nat → Option Nat) (n k q i : Nat) (v5 v6 : Option Value) (hN : N ≤ 3584) (hi : i + 7 ≤ N) (hk : k + 7 ≤ 601024) (hq : q + 1135 ≤ 7293034) (hnk : n ≤ k) (hsc : sh 1000000022 = some (.inr (.int, N))) (hxs : ∀ j, mI 1000000022 j = xs j) (hL : ML sh mR) (h171 : sh 171 = some (.inr (.long, 1))) (A : DD) (Am : Nat → DD) (lf : Nat → Nat) (x : TP) (hC : CI sh mI mL mR n A Am lf x) (hM : MI2 mI A Am lf x) (nx : ∀ v5 v6 M', JJ M' → G (k + 7) (q + 1135) 1081 (lL i v5 v6) [] M') : G k q 510 (lL i v5 v6) [] (sh, mI, mL, mR, n) := by
  obtain ⟨hGa, hWd, hbd, hfx, hcl⟩ := hG
  have q0 := hC.1.1
  have m0 := hL.1
  have hB := hC.1
  have hV := hC.2.2.1
  obtain ⟨C, hS⟩ := hC.2.2.2.1
  have hK := hC.2.2.2.2.1
  unfold lL at nx ⊢
  refine hGa.run [523] 60 ?_
  simp [wp, stepI, ln, jmp, cmpI, Value.category, rd, tyF, va_rf, st1, st2, clr, isLg, CB, inx_0, inx_1, inx_2, inx_3, inx_4, inx_5, bI_0, bI_1, bI_ok, fin3, q0, m0, hsc, dL_law_510, dL_law_511, dL_law_512, dL_law_514, dL_law_515, dL_law_516, dL_law_517, dL_law_518, dL_law_520, dL_law_521, dL_law_522, dL_law_523]
  simp (disch := omega) only [li, nI_add, nI_clamp, nI_ltI, nI_leI, nI_eq, inx_iff, a31, nI_1shl', nI_shr', div_bit, tb1, tb0, fa_or, fa_and, nI_not, pk_sub, nI_dec, hxs]
  refine ⟨by omega, by omega, ?_⟩
  refine hGa.callV dL_law_523 mv_13_58 [.int (xs (i + 1)), .int (xs (i + 2))] [] (c11_span l X 2000 sh mI mL mR n hB C A hV hS hK.1 (xs (i + 1)) (xs (i + 2)) (by decide)) ⟨_, rfl, rfl⟩ q0 (by decide) rfl (by decide) (by simp [Value.category]) rfl ?_
  rintro r M' ⟨rfl, mI1, rfl, f1, I1⟩
  have hi1 : ∀ a k, ¬ (33 ≤ a ∧ a ≤ 80) → mI1 a k = mI a k := fun a k h => f1 a k (by omega)
  have hr1 : ∀ a k, ¬ (a = 64 ∧ k = 0) → mR a k = mR a k := fun _ _ _ => rfl
  have hL1 : ML sh mR := hL.fr (fun _ _ => rfl) (fun k => hr1 _ _ (by omega))
  have hxs1 : ∀ j, mI1 1000000022 j = xs j := fun j => (hi1 _ _ (by omega)).trans (hxs j)
  have M1 := hM.cl hi1
  have K1 : KpI mI1 mL A := hK.ld I1 (fun a k h _ => f1 a k h)
  obtain ⟨p1, p2, p3, p4, p5, p6, p7, p8⟩ := M1.m hV
  refine hGa.run [539] 60 ?_
  simp [wp, stepI, ln, jmp, cmpI, Value.category, rd, tyF, va_rf, st1, st2, clr, isLg, CB, inx_0, inx_1, inx_2, inx_3, inx_4, inx_5, bI_0, bI_1, bI_ok, fin3, q0, m0, hsc, dL_law_526, dL_law_527, dL_law_528, dL_law_530, dL_law_531, dL_law_532, dL_law_533, dL_law_534, dL_law_536, dL_law_537, dL_law_538, dL_law_539]
  simp (disch := omega) only [li, nI_add, nI_clamp, nI_ltI, nI_leI, nI_eq, inx_iff, a31, nI_1shl', nI_shr', div_bit, tb1, tb0, fa_or, fa_and, nI_not, pk_sub, nI_dec, hxs1]
  refine ⟨by omega, by omega, ?_⟩
  refine hGa.callV dL_law_539 mv_13_61 [.int (xs (i + 1)), .int (xs (i + 2))] [_] (c12_span l X 2000 sh mI1 mL mR n hL1 (A 0 0) p1 (A 0 2) (A 5) (A 6) (A 7) p2 (by decide) (xs (i + 1)) (xs (i + 2))) ⟨_, rfl, rfl⟩ m0 (by decide) rfl (by decide) (by simp [Value.category]) rfl ?_
  rintro r M' ⟨rfl, mI2, rfl, e2⟩
  rw [span_e p1]
  have fin := hWd _ _ _ _ _ _ _ _ (show k + 0 + 0 ≤ k + 7 by omega) (show q + 0 + 0 ≤ q + 1135 by omega) (nx v5 v6 _ (jj_r hC hL h171 hi1 hr1 K1 (eqf_o e2 (by decide)) (fun _ _ _ => rfl) (M1.eqf e2 (by decide) (by decide))))
  refine hGa.run [1081] 60 ?_
  simp [wp, stepI, ln, jmp, cmpI, Value.category, rd, tyF, va_rf, st1, st2, clr, isLg, CB, inx_0, inx_1, inx_2, inx_3, inx_4, inx_5, bI_0, bI_1, bI_ok, fin3, q0, m0, hsc, dL_law_542, dL_law_545, dL_law_546, dL_law_547]
  exact fin
