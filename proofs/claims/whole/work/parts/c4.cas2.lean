set_option maxHeartbeats 1600000 in
set_option maxRecDepth 100000 in
theorem lw_9 (l : Launch) (X : Cx) (N : Nat) (xs : Nat → Int32) (P : Option Value → Mm → Prop) (G : Nat → Nat → Nat → List (Option Value) → List Value → Mm → Prop) (hG : GL l X N xs P G) (sh : Nat → Option Sh) (mI : Nat → Nat → Int32) (mL : Nat → Nat → Int64) (mR : Nat → Nat → Option Nat) (n k q i : Nat) (v5 v6 : Option Value) (hN : N ≤ 3584) (hi : i + 7 ≤ N) (hk : k + 7 ≤ 601024) (hq : q + 1135 ≤ 7293034) (hnk : n ≤ k) (hsc : sh 1000000022 = some (.inr (.int, N))) (hxs : ∀ j, mI 1000000022 j = xs j) (hL : ML sh mR) (h171 : sh 171 = some (.inr (.long, 1))) (A : DD) (Am : Nat → DD) (lf : Nat → Nat) (x : TP) (hC : CI sh mI mL mR n A Am lf x) (hM : MI2 mI A Am lf x) (nx : ∀ v5 v6 M', JJ M' → G (k + 7) (q + 1135) 1081 (lL i v5 v6) [] M') : G k q 547 (lL i v5 v6) [] (sh, mI, mL, mR, n) := by
  obtain ⟨hGa, hWd, hbd, hfx, hcl⟩ := hG
  have q0 := hC.1.1
  have m0 := hL.1
  have hB := hC.1
  have hV := hC.2.2.1
  obtain ⟨C, hS⟩ := hC.2.2.2.1
  have hK := hC.2.2.2.2.1
  unfold lL at nx ⊢
  refine hGa.run [554] 60 ?_
  simp [wp, stepI, ln, jmp, cmpI, Value.category, rd, tyF, va_rf, st1, st2, clr, isLg, CB, inx_0, inx_1, inx_2, inx_3, inx_4, inx_5, bI_0, bI_1, bI_ok, fin3, q0, m0, hsc, dL_law_547, dL_law_548, dL_law_549, dL_law_551, dL_law_552, dL_law_553, dL_law_554]
  simp (disch := omega) only [li, nI_add, nI_clamp, nI_ltI, nI_leI, nI_eq, inx_iff, a31, nI_1shl', nI_shr', div_bit, tb1, tb0, fa_or, fa_and, nI_not, pk_sub, nI_dec, hxs]
  refine ⟨by omega, ?_⟩
  refine hGa.callV dL_law_554 mv_13_62 [.int (xs (i + 1))] [] (c11_dropped l X 2000 sh mI mL mR n hB C A hV hS hK.2.2.2.1 (xs (i + 1)) (by decide)) ⟨_, rfl, rfl⟩ q0 (by decide) rfl (by decide) (by simp [Value.category]) rfl ?_
  rintro r M' ⟨rfl, mI1, mL1, rfl, f1, f2, I1⟩
  have hi1 : ∀ a k, ¬ (33 ≤ a ∧ a ≤ 80) → mI1 a k = mI a k := fun a k h => f1 a k (by omega)
  have hr1 : ∀ a k, ¬ (a = 64 ∧ k = 0) → mR a k = mR a k := fun _ _ _ => rfl
  have hL1 : ML sh mR := hL.fr (fun _ _ => rfl) (fun k => hr1 _ _ (by omega))
  have hxs1 : ∀ j, mI1 1000000022 j = xs j := fun j => (hi1 _ _ (by omega)).trans (hxs j)
  have M1 := hM.cl hi1
  have K1 : KpI mI1 mL1 A := hK.br I1 (fun a k h _ => f1 a k h) (fun a k h _ => f2 a k h)
  obtain ⟨p1, p2, p3, p4, p5, p6, p7, p8⟩ := M1.m hV
  refine hGa.run [564] 60 ?_
  simp [wp, stepI, ln, jmp, cmpI, Value.category, rd, tyF, va_rf, st1, st2, clr, isLg, CB, inx_0, inx_1, inx_2, inx_3, inx_4, inx_5, bI_0, bI_1, bI_ok, fin3, q0, m0, hsc, dL_law_557, dL_law_558, dL_law_559, dL_law_561, dL_law_562, dL_law_563, dL_law_564]
  simp (disch := omega) only [li, nI_add, nI_clamp, nI_ltI, nI_leI, nI_eq, inx_iff, a31, nI_1shl', nI_shr', div_bit, tb1, tb0, fa_or, fa_and, nI_not, pk_sub, nI_dec, hxs1]
  refine ⟨by omega, ?_⟩
  refine hGa.callV dL_law_564 mv_13_65 [.int (xs (i + 1))] [_] (c12_dropped l X 2000 sh mI1 mL1 mR n hL1 (A 0 0) p1 (A 0 2) (A 5) (A 6) (A 7) p2 (xs (i + 1)) (by decide)) ⟨_, rfl, rfl⟩ m0 (by decide) rfl (by decide) (by simp [Value.category]) rfl ?_
  rintro r M' ⟨rfl, mI2, rfl, e2⟩
  have fin := hWd _ _ _ _ _ _ _ _ (show k + 0 + 0 ≤ k + 7 by omega) (show q + 0 + 0 ≤ q + 1135 by omega) (nx v5 v6 _ (jj_r hC hL h171 hi1 hr1 K1 (eqf_o e2 (by decide)) (fun _ _ _ => rfl) (M1.eqf e2 (by decide) (by decide))))
  refine hGa.run [1081] 60 ?_
  simp [wp, stepI, ln, jmp, cmpI, Value.category, rd, tyF, va_rf, st1, st2, clr, isLg, CB, inx_0, inx_1, inx_2, inx_3, inx_4, inx_5, bI_0, bI_1, bI_ok, fin3, q0, m0, hsc, dL_law_567, dL_law_570, dL_law_571, dL_law_572]
  exact fin

set_option maxHeartbeats 1600000 in
set_option maxRecDepth 100000 in
theorem lw_10 (l : Launch) (X : Cx) (N : Nat) (xs : Nat → Int32) (P : Option Value → Mm → Prop) (G : Nat → Nat → Nat → List (Option Value) → List Value → Mm → Prop) (hG : GL l X N xs P G) (sh : Nat → Option Sh) (mI : Nat → Nat → Int32) (mL : Nat → Nat → Int64) (mR : Nat → Nat → Option Nat) (n k q i : Nat) (v5 v6 : Option Value) (hN : N ≤ 3584) (hi : i + 7 ≤ N) (hk : k + 7 ≤ 601024) (hq : q + 1135 ≤ 7293034) (hnk : n ≤ k) (hsc : sh 1000000022 = some (.inr (.int, N))) (hxs : ∀ j, mI 1000000022 j = xs j) (hL : ML sh mR) (h171 : sh 171 = some (.inr (.long, 1))) (A : DD) (Am : Nat → DD) (lf : Nat → Nat) (x : TP) (hC : CI sh mI mL mR n A Am lf x) (hM : MI2 mI A Am lf x) (nx : ∀ v5 v6 M', JJ M' → G (k + 7) (q + 1135) 1081 (lL i v5 v6) [] M') : G k q 572 (lL i v5 v6) [] (sh, mI, mL, mR, n) := by
  obtain ⟨hGa, hWd, hbd, hfx, hcl⟩ := hG
  have q0 := hC.1.1
  have m0 := hL.1
  have hB := hC.1
  have hV := hC.2.2.1
  obtain ⟨C, hS⟩ := hC.2.2.2.1
  have hK := hC.2.2.2.2.1
  unfold lL at nx ⊢
  refine hGa.run [579] 60 ?_
  simp [wp, stepI, ln, jmp, cmpI, Value.category, rd, tyF, va_rf, st1, st2, clr, isLg, CB, inx_0, inx_1, inx_2, inx_3, inx_4, inx_5, bI_0, bI_1, bI_ok, fin3, q0, m0, hsc, dL_law_572, dL_law_573, dL_law_574, dL_law_576, dL_law_577, dL_law_578, dL_law_579]
  simp (disch := omega) only [li, nI_add, nI_clamp, nI_ltI, nI_leI, nI_eq, inx_iff, a31, nI_1shl', nI_shr', div_bit, tb1, tb0, fa_or, fa_and, nI_not, pk_sub, nI_dec, hxs]
  refine ⟨by omega, ?_⟩
  refine hGa.callV dL_law_579 mv_13_66 [.int (xs (i + 1))] [] (c11_row l X 2000 sh mI mL mR n hB C A hV hS hK.2.2.2.1 (xs (i + 1)) (by decide)) ⟨_, rfl, rfl⟩ q0 (by decide) rfl (by decide) (by simp [Value.category]) rfl ?_
  rintro r M' ⟨rfl, mI1, mL1, rfl, f1, f2, I1⟩
  have hi1 : ∀ a k, ¬ (33 ≤ a ∧ a ≤ 80) → mI1 a k = mI a k := fun a k h => f1 a k (by omega)
  have hr1 : ∀ a k, ¬ (a = 64 ∧ k = 0) → mR a k = mR a k := fun _ _ _ => rfl
  have hL1 : ML sh mR := hL.fr (fun _ _ => rfl) (fun k => hr1 _ _ (by omega))
  have hxs1 : ∀ j, mI1 1000000022 j = xs j := fun j => (hi1 _ _ (by omega)).trans (hxs j)
  have M1 := hM.cl hi1
  have K1 : KpI mI1 mL1 A := hK.br I1 (fun a k h _ => f1 a k h) (fun a k h _ => f2 a k h)
  obtain ⟨p1, p2, p3, p4, p5, p6, p7, p8⟩ := M1.m hV
  refine hGa.run [589] 60 ?_
  simp [wp, stepI, ln, jmp, cmpI, Value.category, rd, tyF, va_rf, st1, st2, clr, isLg, CB, inx_0, inx_1, inx_2, inx_3, inx_4, inx_5, bI_0, bI_1, bI_ok, fin3, q0, m0, hsc, dL_law_582, dL_law_583, dL_law_584, dL_law_586, dL_law_587, dL_law_588, dL_law_589]
  simp (disch := omega) only [li, nI_add, nI_clamp, nI_ltI, nI_leI, nI_eq, inx_iff, a31, nI_1shl', nI_shr', div_bit, tb1, tb0, fa_or, fa_and, nI_not, pk_sub, nI_dec, hxs1]
  refine ⟨by omega, ?_⟩
  refine hGa.callV dL_law_589 mv_13_69 [.int (xs (i + 1))] [_] (c12_row l X 2000 sh mI1 mL1 mR n hL1 (A 0 0) p1 (A 0 2) (A 5) (A 6) (A 7) p2 (xs (i + 1)) (by decide)) ⟨_, rfl, rfl⟩ m0 (by decide) rfl (by decide) (by simp [Value.category]) rfl ?_
  rintro r M' ⟨rfl, mI2, rfl, e2⟩
  rw [row_e p1]
  have fin := hWd _ _ _ _ _ _ _ _ (show k + 0 + 0 ≤ k + 7 by omega) (show q + 0 + 0 ≤ q + 1135 by omega) (nx v5 v6 _ (jj_r hC hL h171 hi1 hr1 K1 (eqf_o e2 (by decide)) (fun _ _ _ => rfl) (M1.eqf e2 (by decide) (by decide))))
  refine hGa.run [1081] 60 ?_
  simp [wp, stepI, ln, jmp, cmpI, Value.category, rd, tyF, va_rf, st1, st2, clr, isLg, CB, inx_0, inx_1, inx_2, inx_3, inx_4, inx_5, bI_0, bI_1, bI_ok, fin3, q0, m0, hsc, dL_law_592, dL_law_595, dL_law_596, dL_law_597]
  exact fin

set_option maxHeartbeats 1600000 in
set_option maxRecDepth 100000 in
theorem lw_11 (l : Launch) (X : Cx) (N : Nat) (xs : Nat → Int32) (P : Option Value → Mm → Prop) (G : Nat → Nat → Nat → List (Option Value) → List Value → Mm → Prop) (hG : GL l X N xs P G) (sh : Nat → Option Sh) (mI : Nat → Nat → Int32) (mL : Nat → Nat → Int64) (mR : Nat → Nat → Option Nat) (n k q i : Nat) (v5 v6 : Option Value) (hN : N ≤ 3584) (hi : i + 7 ≤ N) (hk : k + 7 ≤ 601024) (hq : q + 1135 ≤ 7293034) (hnk : n ≤ k) (hsc : sh 1000000022 = some (.inr (.int, N))) (hxs : ∀ j, mI 1000000022 j = xs j) (hL : ML sh mR) (h171 : sh 171 = some (.inr (.long, 1))) (A : DD) (Am : Nat → DD) (lf : Nat → Nat) (x : TP) (hC : CI sh mI mL mR n A Am lf x) (hM : MI2 mI A Am lf x) (nx : ∀ v5 v6 M', JJ M' → G (k + 7) (q + 1135) 1081 (lL i v5 v6) [] M') : G k q 597 (lL i v5 v6) [] (sh, mI, mL, mR, n) := by
  obtain ⟨hGa, hWd, hbd, hfx, hcl⟩ := hG
  have q0 := hC.1.1
  have m0 := hL.1
  have hB := hC.1
  have hV := hC.2.2.1
  obtain ⟨C, hS⟩ := hC.2.2.2.1
  have hK := hC.2.2.2.2.1
  unfold lL at nx ⊢
  refine hGa.run [598] 60 ?_
  simp [wp, stepI, ln, jmp, cmpI, Value.category, rd, tyF, va_rf, st1, st2, clr, isLg, CB, inx_0, inx_1, inx_2, inx_3, inx_4, inx_5, bI_0, bI_1, bI_ok, fin3, q0, m0, hsc, dL_law_597, dL_law_598]
  refine hGa.callV dL_law_598 mv_13_70 [] [] (c11_helped l X 2000 sh mI mL mR n hB C A hV hS hK.1 (by decide)) ⟨_, rfl, rfl⟩ q0 (by decide) rfl (by decide) (by simp [Value.category]) rfl ?_
  rintro r M' ⟨rfl, mI1, rfl, f1, I1⟩
  have hi1 : ∀ a k, ¬ (33 ≤ a ∧ a ≤ 80) → mI1 a k = mI a k := fun a k h => f1 a k (by omega)
  have hr1 : ∀ a k, ¬ (a = 64 ∧ k = 0) → mR a k = mR a k := fun _ _ _ => rfl
  have hL1 : ML sh mR := hL.fr (fun _ _ => rfl) (fun k => hr1 _ _ (by omega))
  have hxs1 : ∀ j, mI1 1000000022 j = xs j := fun j => (hi1 _ _ (by omega)).trans (hxs j)
  have M1 := hM.cl hi1
  have K1 : KpI mI1 mL A := hK.ld I1 (fun a k h _ => f1 a k h)
  obtain ⟨p1, p2, p3, p4, p5, p6, p7, p8⟩ := M1.m hV
  refine hGa.run [602] 60 ?_
  simp [wp, stepI, ln, jmp, cmpI, Value.category, rd, tyF, va_rf, st1, st2, clr, isLg, CB, inx_0, inx_1, inx_2, inx_3, inx_4, inx_5, bI_0, bI_1, bI_ok, fin3, q0, m0, hsc, dL_law_601, dL_law_602]
  refine hGa.callV dL_law_602 mv_13_73 [] [_] (c12_helped l X 2000 sh mI1 mL mR n hL1 (A 0 0) p1 (A 0 2) (A 5) (A 6) (A 7) p2 (by decide)) ⟨_, rfl, rfl⟩ m0 (by decide) rfl (by decide) (by simp [Value.category]) rfl ?_
  rintro r M' ⟨rfl, mI2, rfl, e2⟩
  have fin := hWd _ _ _ _ _ _ _ _ (show k + 0 + 0 ≤ k + 7 by omega) (show q + 0 + 0 ≤ q + 1135 by omega) (nx v5 v6 _ (jj_r hC hL h171 hi1 hr1 K1 (eqf_o e2 (by decide)) (fun _ _ _ => rfl) (M1.eqf e2 (by decide) (by decide))))
  refine hGa.run [1081] 60 ?_
  simp [wp, stepI, ln, jmp, cmpI, Value.category, rd, tyF, va_rf, st1, st2, clr, isLg, CB, inx_0, inx_1, inx_2, inx_3, inx_4, inx_5, bI_0, bI_1, bI_ok, fin3, q0, m0, hsc, dL_law_605, dL_law_608, dL_law_609, dL_law_610]
  exact fin

set_option maxHeartbeats 1600000 in
set_option maxRecDepth 100000 in
theorem lw_13 (l : Launch) (X : Cx) (N : Nat) (xs : Nat → Int32) (P : Option Value → Mm → Prop) (G : Nat → Nat → Nat → List (Option Value) → List Value → Mm → Prop) (hG : GL l X N xs P G) (sh : Nat → Option Sh) (mI : Nat → Nat → Int32) (mL : Nat → Nat → Int64) (mR : Nat → Nat → Option Nat) (n k q i : Nat) (v5 v6 : Option Value) (hN : N ≤ 3584) (hi : i + 7 ≤ N) (hk : k + 7 ≤ 601024) (hq : q + 1135 ≤ 7293034) (hnk : n ≤ k) (hsc : sh 1000000022 = some (.inr (.int, N))) (hxs : ∀ j, mI 1000000022 j = xs j) (hL : ML sh mR) (h171 : sh 171 = some (.inr (.long, 1))) (A : DD) (Am : Nat → DD) (lf : Nat → Nat) (x : TP) (hC : CI sh mI mL mR n A Am lf x) (hM : MI2 mI A Am lf x) (nx : ∀ v5 v6 M', JJ M' → G (k + 7) (q + 1135) 1081 (lL i v5 v6) [] M') : G k q 623 (lL i v5 v6) [] (sh, mI, mL, mR, n) := by
  obtain ⟨hGa, hWd, hbd, hfx, hcl⟩ := hG
  have q0 := hC.1.1
  have m0 := hL.1
  have hB := hC.1
  have hV := hC.2.2.1
  obtain ⟨C, hS⟩ := hC.2.2.2.1
  have hK := hC.2.2.2.2.1
  unfold lL at nx ⊢
  refine hGa.run [642] 60 ?_
  simp [wp, stepI, ln, jmp, cmpI, Value.category, rd, tyF, va_rf, st1, st2, clr, isLg, CB, inx_0, inx_1, inx_2, inx_3, inx_4, inx_5, bI_0, bI_1, bI_ok, fin3, q0, m0, hsc, dL_law_623, dL_law_624, dL_law_625, dL_law_627, dL_law_628, dL_law_629, dL_law_630, dL_law_631, dL_law_633, dL_law_634, dL_law_635, dL_law_636, dL_law_637, dL_law_639, dL_law_640, dL_law_641, dL_law_642]
  simp (disch := omega) only [li, nI_add, nI_clamp, nI_ltI, nI_leI, nI_eq, inx_iff, a31, nI_1shl', nI_shr', div_bit, tb1, tb0, fa_or, fa_and, nI_not, pk_sub, nI_dec, hxs]
  refine ⟨by omega, by omega, by omega, ?_⟩
  refine hGa.callV dL_law_642 mv_13_78 [.int (xs (i + 1)), .int (xs (i + 2)), .int (xs (i + 3))] [] (c11_chance l X 2000 sh mI mL mR n hB C A hV hS hK.2.2.1 (xs (i + 1)) (xs (i + 2)) (xs (i + 3)) (by decide)) ⟨_, rfl, rfl⟩ q0 (by decide) rfl (by decide) (by simp [Value.category]) rfl ?_
  rintro r M' ⟨rfl, mI1, mL1, rfl, f1, f2, I1⟩
  have hi1 : ∀ a k, ¬ (33 ≤ a ∧ a ≤ 80) → mI1 a k = mI a k := fun a k h => f1 a k (by omega)
  have hr1 : ∀ a k, ¬ (a = 64 ∧ k = 0) → mR a k = mR a k := fun _ _ _ => rfl
  have hL1 : ML sh mR := hL.fr (fun _ _ => rfl) (fun k => hr1 _ _ (by omega))
  have hxs1 : ∀ j, mI1 1000000022 j = xs j := fun j => (hi1 _ _ (by omega)).trans (hxs j)
  have M1 := hM.cl hi1
  have K1 : KpI mI1 mL1 A := hK.t2 I1 f1 f2
  obtain ⟨p1, p2, p3, p4, p5, p6, p7, p8⟩ := M1.m hV
  refine hGa.run [664] 60 ?_
  simp [wp, stepI, ln, jmp, cmpI, Value.category, rd, tyF, va_rf, st1, st2, clr, isLg, CB, inx_0, inx_1, inx_2, inx_3, inx_4, inx_5, bI_0, bI_1, bI_ok, fin3, q0, m0, hsc, dL_law_645, dL_law_646, dL_law_647, dL_law_649, dL_law_650, dL_law_651, dL_law_652, dL_law_653, dL_law_655, dL_law_656, dL_law_657, dL_law_658, dL_law_659, dL_law_661, dL_law_662, dL_law_663, dL_law_664]
  simp (disch := omega) only [li, nI_add, nI_clamp, nI_ltI, nI_leI, nI_eq, inx_iff, a31, nI_1shl', nI_shr', div_bit, tb1, tb0, fa_or, fa_and, nI_not, pk_sub, nI_dec, hxs1]
  refine ⟨by omega, by omega, by omega, ?_⟩
  refine hGa.callV dL_law_664 mv_13_82 [.int (xs (i + 1)), .int (xs (i + 2)), .int (xs (i + 3))] [_] (c12_chance l X 2000 sh mI1 mL1 mR n hL1 (A 0 0) p1 (A 0 2) (A 5) (A 6) (A 7) p2 (A 0 3) (A 2) p3 (xs (i + 1)) (xs (i + 2)) (xs (i + 3)) (by decide)) ⟨_, rfl, rfl⟩ m0 (by decide) rfl (by decide) (by simp [Value.category]) rfl ?_
  rintro r M' ⟨rfl, mL2, rfl, e2⟩
  rw [chance_e p1]
  have fin := hWd _ _ _ _ _ _ _ _ (show k + 0 + 0 ≤ k + 7 by omega) (show q + 0 + 0 ≤ q + 1135 by omega) (nx v5 v6 _ (jj_r hC hL h171 hi1 hr1 K1 (thr_o _) (fun a k h => e2 a k (fun z => by rw [List.mem_singleton] at z; omega)) M1.th))
  refine hGa.run [1081] 60 ?_
  simp [wp, stepI, ln, jmp, cmpI, Value.category, rd, tyF, va_rf, st1, st2, clr, isLg, CB, inx_0, inx_1, inx_2, inx_3, inx_4, inx_5, bI_0, bI_1, bI_ok, fin3, q0, m0, hsc, lg_cmp0, dL_law_667, dL_law_668, dL_law_671, dL_law_672, dL_law_673, dL_law_674, dL_law_675, dL_law_677]
  exact fin

set_option maxHeartbeats 1600000 in
set_option maxRecDepth 100000 in
theorem lw_14 (l : Launch) (X : Cx) (N : Nat) (xs : Nat → Int32) (P : Option Value → Mm → Prop) (G : Nat → Nat → Nat → List (Option Value) → List Value → Mm → Prop) (hG : GL l X N xs P G) (sh : Nat → Option Sh) (mI : Nat → Nat → Int32) (mL : Nat → Nat → Int64) (mR : Nat → Nat → Option Nat) (n k q i : Nat) (v5 v6 : Option Value) (hN : N ≤ 3584) (hi : i + 7 ≤ N) (hk : k + 7 ≤ 601024) (hq : q + 1135 ≤ 7293034) (hnk : n ≤ k) (hsc : sh 1000000022 = some (.inr (.int, N))) (hxs : ∀ j, mI 1000000022 j = xs j) (hL : ML sh mR) (h171 : sh 171 = some (.inr (.long, 1))) (A : DD) (Am : Nat → DD) (lf : Nat → Nat) (x : TP) (hC : CI sh mI mL mR n A Am lf x) (hM : MI2 mI A Am lf x) (nx : ∀ v5 v6 M', JJ M' → G (k + 7) (q + 1135) 1081 (lL i v5 v6) [] M') : G k q 673 (lL i v5 v6) [] (sh, mI, mL, mR, n) := by
  obtain ⟨hGa, hWd, hbd, hfx, hcl⟩ := hG
  have q0 := hC.1.1
  have m0 := hL.1
  have hB := hC.1
  have hV := hC.2.2.1
  obtain ⟨C, hS⟩ := hC.2.2.2.1
  have hK := hC.2.2.2.2.1
  unfold lL at nx ⊢
  refine hGa.run [680] 60 ?_
  simp [wp, stepI, ln, jmp, cmpI, Value.category, rd, tyF, va_rf, st1, st2, clr, isLg, CB, inx_0, inx_1, inx_2, inx_3, inx_4, inx_5, bI_0, bI_1, bI_ok, fin3, q0, m0, hsc, dL_law_673, dL_law_674, dL_law_675, dL_law_677, dL_law_678, dL_law_679, dL_law_680]
  simp (disch := omega) only [li, nI_add, nI_clamp, nI_ltI, nI_leI, nI_eq, inx_iff, a31, nI_1shl', nI_shr', div_bit, tb1, tb0, fa_or, fa_and, nI_not, pk_sub, nI_dec, hxs]
  refine ⟨by omega, ?_⟩
  refine hGa.callV dL_law_680 mv_13_83 [.int (xs (i + 1))] [] (c11_next l X 2000 sh mI mL mR n hB C A hV hS hK.2.1 (xs (i + 1)) (by decide)) ⟨_, rfl, rfl⟩ q0 (by decide) rfl (by decide) (by simp [Value.category]) rfl ?_
  rintro r M' ⟨rfl, mI1, mL1, rfl, f1, f2, I1⟩
  have hi1 : ∀ a k, ¬ (33 ≤ a ∧ a ≤ 80) → mI1 a k = mI a k := fun a k h => f1 a k (by omega)
  have hr1 : ∀ a k, ¬ (a = 64 ∧ k = 0) → mR a k = mR a k := fun _ _ _ => rfl
  have hL1 : ML sh mR := hL.fr (fun _ _ => rfl) (fun k => hr1 _ _ (by omega))
  have hxs1 : ∀ j, mI1 1000000022 j = xs j := fun j => (hi1 _ _ (by omega)).trans (hxs j)
  have M1 := hM.cl hi1
  have K1 : KpI mI1 mL1 A := hK.t1 I1 f1 f2
  obtain ⟨p1, p2, p3, p4, p5, p6, p7, p8⟩ := M1.m hV
  refine hGa.run [690] 60 ?_
  simp [wp, stepI, ln, jmp, cmpI, Value.category, rd, tyF, va_rf, st1, st2, clr, isLg, CB, inx_0, inx_1, inx_2, inx_3, inx_4, inx_5, bI_0, bI_1, bI_ok, fin3, q0, m0, hsc, dL_law_683, dL_law_684, dL_law_685, dL_law_687, dL_law_688, dL_law_689, dL_law_690]
  simp (disch := omega) only [li, nI_add, nI_clamp, nI_ltI, nI_leI, nI_eq, inx_iff, a31, nI_1shl', nI_shr', div_bit, tb1, tb0, fa_or, fa_and, nI_not, pk_sub, nI_dec, hxs1]
  refine ⟨by omega, ?_⟩
  refine hGa.callV dL_law_690 mv_13_86 [.int (xs (i + 1))] [_] (c12_next l X 2000 sh mI1 mL1 mR n hL1 (A 0 0) p1 (A 0 2) (A 5) (A 6) (A 7) p2 (fun h => nxtO_ne hV.1.1 hV.say h) (xs (i + 1)) (by decide)) ⟨_, rfl, rfl⟩ m0 (by decide) rfl (by decide) (by simp [Value.category]) rfl ?_
  rintro r M' ⟨rfl, mI2, rfl, e2⟩
  have fin := hWd _ _ _ _ _ _ _ _ (show k + 0 + 0 ≤ k + 7 by omega) (show q + 0 + 0 ≤ q + 1135 by omega) (nx v5 v6 _ (jj_r hC hL h171 hi1 hr1 K1 (eqf_o e2 (by decide)) (fun _ _ _ => rfl) (M1.eqf e2 (by decide) (by decide))))
  refine hGa.run [1081] 60 ?_
  simp [wp, stepI, ln, jmp, cmpI, Value.category, rd, tyF, va_rf, st1, st2, clr, isLg, CB, inx_0, inx_1, inx_2, inx_3, inx_4, inx_5, bI_0, bI_1, bI_ok, fin3, q0, m0, hsc, dL_law_693, dL_law_696, dL_law_697, dL_law_698]
  exact fin

set_option maxHeartbeats 1600000 in
set_option maxRecDepth 100000 in
theorem lw_15 (l : Launch) (X : Cx) (N : Nat) (xs : Nat → Int32) (P : Option Value → Mm → Prop) (G : Nat → Nat → Nat → List (Option Value) → List Value → Mm → Prop) (hG : GL l X N xs P G) (sh : Nat → Option Sh) (mI : Nat → Nat → Int32) (mL : Nat → Nat → Int64) (mR : Nat → Nat → Option Nat) (n k q i : Nat) (v5 v6 : Option Value) (hN : N ≤ 3584) (hi : i + 7 ≤ N) (hk : k + 7 ≤ 601024) (hq : q + 1135 ≤ 7293034) (hnk : n ≤ k) (hsc : sh 1000000022 = some (.inr (.int, N))) (hxs : ∀ j, mI 1000000022 j = xs j) (hL : ML sh mR) (h171 : sh 171 = some (.inr (.long, 1))) (A : DD) (Am : Nat → DD) (lf : Nat → Nat) (x : TP) (hC : CI sh mI mL mR n A Am lf x) (hM : MI2 mI A Am lf x) (nx : ∀ v5 v6 M', JJ M' → G (k + 7) (q + 1135) 1081 (lL i v5 v6) [] M') : G k q 698 (lL i v5 v6) [] (sh, mI, mL, mR, n) := by
  obtain ⟨hGa, hWd, hbd, hfx, hcl⟩ := hG
  have q0 := hC.1.1
  have m0 := hL.1
  have hB := hC.1
  have hV := hC.2.2.1
  obtain ⟨C, hS⟩ := hC.2.2.2.1
  have hK := hC.2.2.2.2.1
  unfold lL at nx ⊢
  refine hGa.run [699] 60 ?_
  simp [wp, stepI, ln, jmp, cmpI, Value.category, rd, tyF, va_rf, st1, st2, clr, isLg, CB, inx_0, inx_1, inx_2, inx_3, inx_4, inx_5, bI_0, bI_1, bI_ok, fin3, q0, m0, hsc, dL_law_698, dL_law_699]
  refine hGa.callV dL_law_699 mv_13_87 [] [] (c11_needed l X 2000 sh mI mL mR n hB C A hV hS (by decide)) ⟨_, rfl, rfl⟩ q0 (by decide) rfl (by decide) (by simp [Value.category]) rfl ?_
  rintro r M' ⟨rfl, mI1, mL1, rfl, f1, f2⟩
  have hi1 : ∀ a k, ¬ (33 ≤ a ∧ a ≤ 80) → mI1 a k = mI a k := fun a k h => f1 a k (by omega)
  have hr1 : ∀ a k, ¬ (a = 64 ∧ k = 0) → mR a k = mR a k := fun _ _ _ => rfl
  have hL1 : ML sh mR := hL.fr (fun _ _ => rfl) (fun k => hr1 _ _ (by omega))
  have hxs1 : ∀ j, mI1 1000000022 j = xs j := fun j => (hi1 _ _ (by omega)).trans (hxs j)
  have M1 := hM.cl hi1
  have K1 : KpI mI1 mL1 A := hK.nd f1 f2
  obtain ⟨p1, p2, p3, p4, p5, p6, p7, p8⟩ := M1.m hV
  refine hGa.run [703] 60 ?_
  simp [wp, stepI, ln, jmp, cmpI, Value.category, rd, tyF, va_rf, st1, st2, clr, isLg, CB, inx_0, inx_1, inx_2, inx_3, inx_4, inx_5, bI_0, bI_1, bI_ok, fin3, q0, m0, hsc, dL_law_702, dL_law_703]
  refine hGa.callV dL_law_703 mv_13_90 [] [_] (c12_needed l X 2000 sh mI1 mL1 mR n hL1 (A 0 0) p1 (A 0 2) (A 5) (A 6) (A 7) p2 (fun _ => roomy _) (ndN (A 0 0)) (fun h => ndN_ok h) (fun h ho => kn_PO h hV.say ho) (by decide)) ⟨_, rfl, rfl⟩ m0 (by decide) rfl (by decide) (by simp [Value.category]) rfl ?_
  rintro r M' ⟨rfl, mI2, rfl, e2⟩
  have fin := hWd _ _ _ _ _ _ _ _ (show k + 0 + 0 ≤ k + 7 by omega) (show q + 0 + 0 ≤ q + 1135 by omega) (nx v5 v6 _ (jj_r hC hL h171 hi1 hr1 K1 (eqf_o e2 (by decide)) (fun _ _ _ => rfl) (M1.eqf e2 (by decide) (by decide))))
  refine hGa.run [1081] 60 ?_
  simp [wp, stepI, ln, jmp, cmpI, Value.category, rd, tyF, va_rf, st1, st2, clr, isLg, CB, inx_0, inx_1, inx_2, inx_3, inx_4, inx_5, bI_0, bI_1, bI_ok, fin3, q0, m0, hsc, dL_law_706, dL_law_709, dL_law_710, dL_law_711]
  exact fin

set_option maxHeartbeats 1600000 in
set_option maxRecDepth 100000 in
theorem lw_16 (l : Launch) (X : Cx) (N : Nat) (xs : Nat → Int32) (P : Option Value → Mm → Prop) (G : Nat → Nat → Nat → List (Option Value) → List Value → Mm → Prop) (hG : GL l X N xs P G) (sh : Nat → Option Sh) (mI : Nat → Nat → Int32) (mL : Nat → Nat → Int64) (mR : Nat → Nat → Option Nat) (n k q i : Nat) (v5 v6 : Option Value) (hN : N ≤ 3584) (hi : i + 7 ≤ N) (hk : k + 7 ≤ 601024) (hq : q + 1135 ≤ 7293034) (hnk : n ≤ k) (hsc : sh 1000000022 = some (.inr (.int, N))) (hxs : ∀ j, mI 1000000022 j = xs j) (hL : ML sh mR) (h171 : sh 171 = some (.inr (.long, 1))) (A : DD) (Am : Nat → DD) (lf : Nat → Nat) (x : TP) (hC : CI sh mI mL mR n A Am lf x) (hM : MI2 mI A Am lf x) (nx : ∀ v5 v6 M', JJ M' → G (k + 7) (q + 1135) 1081 (lL i v5 v6) [] M') : G k q 711 (lL i v5 v6) [] (sh, mI, mL, mR, n) := by
  obtain ⟨hGa, hWd, hbd, hfx, hcl⟩ := hG
  have q0 := hC.1.1
  have m0 := hL.1
  have hB := hC.1
  have hV := hC.2.2.1
  obtain ⟨C, hS⟩ := hC.2.2.2.1
  have hK := hC.2.2.2.2.1
  unfold lL at nx ⊢
  refine hGa.run [718] 60 ?_
  simp [wp, stepI, ln, jmp, cmpI, Value.category, rd, tyF, va_rf, st1, st2, clr, isLg, CB, inx_0, inx_1, inx_2, inx_3, inx_4, inx_5, bI_0, bI_1, bI_ok, fin3, q0, m0, hsc, dL_law_711, dL_law_712, dL_law_713, dL_law_715, dL_law_716, dL_law_717, dL_law_718]
  simp (disch := omega) only [li, nI_add, nI_clamp, nI_ltI, nI_leI, nI_eq, inx_iff, a31, nI_1shl', nI_shr', div_bit, tb1, tb0, fa_or, fa_and, nI_not, pk_sub, nI_dec, hxs]
  refine ⟨by omega, ?_⟩
  refine hGa.callV dL_law_718 mv_13_91 [.int (xs (i + 1))] [] (c11_newOne l X 2000 sh mI mL mR n hB C A hV hS hK.1 (xs (i + 1)) (by decide)) ⟨_, rfl, rfl⟩ q0 (by decide) rfl (by decide) (by simp [Value.category]) rfl ?_
  rintro r M' ⟨rfl, mI1, rfl, f1, I1⟩
  have hi1 : ∀ a k, ¬ (33 ≤ a ∧ a ≤ 80) → mI1 a k = mI a k := fun a k h => f1 a k (by omega)
  have hr1 : ∀ a k, ¬ (a = 64 ∧ k = 0) → mR a k = mR a k := fun _ _ _ => rfl
  have hL1 : ML sh mR := hL.fr (fun _ _ => rfl) (fun k => hr1 _ _ (by omega))
  have hxs1 : ∀ j, mI1 1000000022 j = xs j := fun j => (hi1 _ _ (by omega)).trans (hxs j)
  have M1 := hM.cl hi1
  have K1 : KpI mI1 mL A := hK.ld I1 (fun a k h _ => f1 a k h)
  obtain ⟨p1, p2, p3, p4, p5, p6, p7, p8⟩ := M1.m hV
  refine hGa.run [728] 60 ?_
  simp [wp, stepI, ln, jmp, cmpI, Value.category, rd, tyF, va_rf, st1, st2, clr, isLg, CB, inx_0, inx_1, inx_2, inx_3, inx_4, inx_5, bI_0, bI_1, bI_ok, fin3, q0, m0, hsc, dL_law_721, dL_law_722, dL_law_723, dL_law_725, dL_law_726, dL_law_727, dL_law_728]
  simp (disch := omega) only [li, nI_add, nI_clamp, nI_ltI, nI_leI, nI_eq, inx_iff, a31, nI_1shl', nI_shr', div_bit, tb1, tb0, fa_or, fa_and, nI_not, pk_sub, nI_dec, hxs1]
  refine ⟨by omega, ?_⟩
  refine hGa.callV dL_law_728 mv_13_94 [.int (xs (i + 1))] [_] (c12_newOne l X 2000 sh mI1 mL mR n hL1 (A 0 0) p1 (A 0 2) (A 5) (A 6) (A 7) p2 (xs (i + 1)) (by decide)) ⟨_, rfl, rfl⟩ m0 (by decide) rfl (by decide) (by simp [Value.category]) rfl ?_
  rintro r M' ⟨rfl, mI2, rfl, e2⟩
  rw [new_e p1]
  have fin := hWd _ _ _ _ _ _ _ _ (show k + 0 + 0 ≤ k + 7 by omega) (show q + 0 + 0 ≤ q + 1135 by omega) (nx v5 v6 _ (jj_r hC hL h171 hi1 hr1 K1 (eqf_o e2 (by decide)) (fun _ _ _ => rfl) (M1.eqf e2 (by decide) (by decide))))
  refine hGa.run [1081] 60 ?_
  simp [wp, stepI, ln, jmp, cmpI, Value.category, rd, tyF, va_rf, st1, st2, clr, isLg, CB, inx_0, inx_1, inx_2, inx_3, inx_4, inx_5, bI_0, bI_1, bI_ok, fin3, q0, m0, hsc, dL_law_731, dL_law_734, dL_law_735, dL_law_736]
  exact fin

set_option maxHeartbeats 1600000 in
set_option maxRecDepth 100000 in
theorem lw_21 (l : Launch) (X : Cx) (N : Nat) (xs : Nat → Int32) (P : Option Value → Mm → Prop) (G : Nat → Nat → Nat → List (Option Value) → List Value → Mm → Prop) (hG : GL l X N xs P G) (sh : Nat → Option Sh) (mI : Nat → Nat → Int32) (mL : Nat → Nat → Int64) (mR : Nat → Nat → Option Nat) (n k q i : Nat) (v5 v6 : Option Value) (hN : N ≤ 3584) (hi : i + 7 ≤ N) (hk : k + 7 ≤ 601024) (hq : q + 1135 ≤ 7293034) (hnk : n ≤ k) (hsc : sh 1000000022 = some (.inr (.int, N))) (hxs : ∀ j, mI 1000000022 j = xs j) (hL : ML sh mR) (h171 : sh 171 = some (.inr (.long, 1))) (A : DD) (Am : Nat → DD) (lf : Nat → Nat) (x : TP) (hC : CI sh mI mL mR n A Am lf x) (hM : MI2 mI A Am lf x) (nx : ∀ v5 v6 M', JJ M' → G (k + 7) (q + 1135) 1081 (lL i v5 v6) [] M') : G k q 879 (lL i v5 v6) [] (sh, mI, mL, mR, n) := by
  obtain ⟨hGa, hWd, hbd, hfx, hcl⟩ := hG
  have q0 := hC.1.1
  have m0 := hL.1
  have hB := hC.1
  have hV := hC.2.2.1
  obtain ⟨C, hS⟩ := hC.2.2.2.1
  have hK := hC.2.2.2.2.1
  unfold lL at nx ⊢
  refine hGa.run [892] 60 ?_
  simp [wp, stepI, ln, jmp, cmpI, Value.category, rd, tyF, va_rf, st1, st2, clr, isLg, CB, inx_0, inx_1, inx_2, inx_3, inx_4, inx_5, bI_0, bI_1, bI_ok, fin3, q0, m0, hsc, dL_law_879, dL_law_880, dL_law_881, dL_law_883, dL_law_884, dL_law_885, dL_law_886, dL_law_887, dL_law_889, dL_law_890, dL_law_891, dL_law_892]
  simp (disch := omega) only [li, nI_add, nI_clamp, nI_ltI, nI_leI, nI_eq, inx_iff, a31, nI_1shl', nI_shr', div_bit, tb1, tb0, fa_or, fa_and, nI_not, pk_sub, nI_dec, hxs]
  refine ⟨by omega, by omega, ?_⟩
  refine hGa.callV dL_law_892 mv_13_117 [.int (xs (i + 1)), .int (xs (i + 2))] [] (c11_wishes l X 2000 sh mI mL mR n (by omega) hB C A hV hS hK.1 (xs (i + 1)) (xs (i + 2)) (by decide)) ⟨_, rfl, rfl⟩ q0 (by decide) rfl (by decide) (by simp [Value.category]) rfl ?_
  rintro r M' ⟨rfl, mI1, rfl, f1, I1⟩
  have hi1 : ∀ a k, ¬ (33 ≤ a ∧ a ≤ 80) → mI1 a k = mI a k := fun a k h => f1 a k (by omega) (by omega)
  have hr1 : ∀ a k, ¬ (a = 64 ∧ k = 0) → mR a k = mR a k := fun _ _ _ => rfl
  have hL1 : ML sh mR := hL.fr (fun _ _ => rfl) (fun k => hr1 _ _ (by omega))
  have hxs1 : ∀ j, mI1 1000000022 j = xs j := fun j => (hi1 _ _ (by omega)).trans (hxs j)
  have M1 := hM.cl hi1
  have K1 : KpI mI1 mL A := hK.ld I1 f1
  obtain ⟨p1, p2, p3, p4, p5, p6, p7, p8⟩ := M1.m hV
  refine hGa.run [908] 60 ?_
  simp [wp, stepI, ln, jmp, cmpI, Value.category, rd, tyF, va_rf, st1, st2, clr, isLg, CB, inx_0, inx_1, inx_2, inx_3, inx_4, inx_5, bI_0, bI_1, bI_ok, fin3, q0, m0, hsc, dL_law_895, dL_law_896, dL_law_897, dL_law_899, dL_law_900, dL_law_901, dL_law_902, dL_law_903, dL_law_905, dL_law_906, dL_law_907, dL_law_908]
  simp (disch := omega) only [li, nI_add, nI_clamp, nI_ltI, nI_leI, nI_eq, inx_iff, a31, nI_1shl', nI_shr', div_bit, tb1, tb0, fa_or, fa_and, nI_not, pk_sub, nI_dec, hxs1]
  refine ⟨by omega, by omega, ?_⟩
  refine hGa.callV dL_law_908 mv_13_120 [.int (xs (i + 1)), .int (xs (i + 2))] [_] (c12_wishes l X 2000 sh mI1 mL mR n hL1 (A 0 0) p1 (A 0 2) (A 5) (A 6) (A 7) p2 (A 0 3) (A 2) (A 3) (A 4) p3 p4 (aLk A) p5 (A 0 6) (A 10) p6 (evD (A 0 6) (A 10)) hS.2.1.2.2.2.2.2.2.2.ev.1 (xs (i + 1)) (xs (i + 2)) (by decide)) ⟨_, rfl, rfl⟩ m0 (by decide) rfl (by decide) (by simp [Value.category]) rfl ?_
  rintro r M' ⟨rfl, mI2, rfl, e2⟩
  rw [wish_e p1]
  have fin := hWd _ _ _ _ _ _ _ _ (show k + 0 + 0 ≤ k + 7 by omega) (show q + 0 + 0 ≤ q + 1135 by omega) (nx v5 v6 _ (jj_r hC hL h171 hi1 hr1 K1 (eqf_o e2 (by decide)) (fun _ _ _ => rfl) (M1.eqf e2 (by decide) (by decide))))
  refine hGa.run [1081] 60 ?_
  simp [wp, stepI, ln, jmp, cmpI, Value.category, rd, tyF, va_rf, st1, st2, clr, isLg, CB, inx_0, inx_1, inx_2, inx_3, inx_4, inx_5, bI_0, bI_1, bI_ok, fin3, q0, m0, hsc, dL_law_911, dL_law_914, dL_law_915, dL_law_916]
  exact fin

set_option maxHeartbeats 1600000 in
set_option maxRecDepth 100000 in
theorem lw_22 (l : Launch) (X : Cx) (N : Nat) (xs : Nat → Int32) (P : Option Value → Mm → Prop) (G : Nat → Nat → Nat → List (Option Value) → List Value → Mm → Prop) (hG : GL l X N xs P G) (sh : Nat → Option Sh) (mI : Nat → Nat → Int32) (mL : Nat → Nat → Int64) (mR : Nat → Nat → Option Nat) (n k q i : Nat) (v5 v6 : Option Value) (hN : N ≤ 3584) (hi : i + 7 ≤ N) (hk : k + 7 ≤ 601024) (hq : q + 1135 ≤ 7293034) (hnk : n ≤ k) (hsc : sh 1000000022 = some (.inr (.int, N))) (hxs : ∀ j, mI 1000000022 j = xs j) (hL : ML sh mR) (h171 : sh 171 = some (.inr (.long, 1))) (A : DD) (Am : Nat → DD) (lf : Nat → Nat) (x : TP) (hC : CI sh mI mL mR n A Am lf x) (hM : MI2 mI A Am lf x) (nx : ∀ v5 v6 M', JJ M' → G (k + 7) (q + 1135) 1081 (lL i v5 v6) [] M') : G k q 916 (lL i v5 v6) [] (sh, mI, mL, mR, n) := by
  obtain ⟨hGa, hWd, hbd, hfx, hcl⟩ := hG
  have q0 := hC.1.1
  have m0 := hL.1
  have hB := hC.1
  have hV := hC.2.2.1
  obtain ⟨C, hS⟩ := hC.2.2.2.1
  have hK := hC.2.2.2.2.1
  unfold lL at nx ⊢
  refine hGa.run [917] 60 ?_
  simp [wp, stepI, ln, jmp, cmpI, Value.category, rd, tyF, va_rf, st1, st2, clr, isLg, CB, inx_0, inx_1, inx_2, inx_3, inx_4, inx_5, bI_0, bI_1, bI_ok, fin3, q0, m0, hsc, dL_law_916, dL_law_917]
  refine hGa.callV dL_law_917 mv_13_121 [] [] (c11_rests l X 2000 sh mI mL mR n (by omega) hB C A hV hS hK.1 hK.2.2.2.2 (by decide)) ⟨_, rfl, rfl⟩ q0 (by decide) rfl (by decide) (by simp [Value.category]) rfl ?_
  rintro r M' ⟨rfl, mI1, mL1, rfl, f1, f2, I1, W1⟩
  have hi1 : ∀ a k, ¬ (33 ≤ a ∧ a ≤ 80) → mI1 a k = mI a k := fun a k h => f1 a k (by omega) (by omega)
  have hr1 : ∀ a k, ¬ (a = 64 ∧ k = 0) → mR a k = mR a k := fun _ _ _ => rfl
  have hL1 : ML sh mR := hL.fr (fun _ _ => rfl) (fun k => hr1 _ _ (by omega))
  have hxs1 : ∀ j, mI1 1000000022 j = xs j := fun j => (hi1 _ _ (by omega)).trans (hxs j)
  have M1 := hM.cl hi1
  have K1 : KpI mI1 mL1 A := hK.ws I1 W1 f1 f2
  obtain ⟨p1, p2, p3, p4, p5, p6, p7, p8⟩ := M1.m hV
  refine hGa.run [921] 60 ?_
  simp [wp, stepI, ln, jmp, cmpI, Value.category, rd, tyF, va_rf, st1, st2, clr, isLg, CB, inx_0, inx_1, inx_2, inx_3, inx_4, inx_5, bI_0, bI_1, bI_ok, fin3, q0, m0, hsc, dL_law_920, dL_law_921]
  refine hGa.callV dL_law_921 mv_13_124 [] [_] (c12_rests l X 2000 sh mI1 mL1 mR n hL1 (A 0 0) p1 (A 0 2) (A 5) (A 6) (A 7) p2 (A 0 3) (A 2) (A 3) (A 4) p3 p4 (aLk A) p5 (A 0 6) (A 10) p6 (evD (A 0 6) (A 10)) hS.2.1.2.2.2.2.2.2.2.ev.1 (by decide)) ⟨_, rfl, rfl⟩ m0 (by decide) rfl (by decide) (by simp [Value.category]) rfl ?_
  rintro r M' ⟨rfl, mI2, rfl, e2⟩
  rw [show rsW (A 0 0) (A 0 2) (A 5) (A 6) (A 2) (A 0 6) (evD (A 0 6) (A 10)) (aLk A) (A 3) = aV A from rfl]
  have fin := hWd _ _ _ _ _ _ _ _ (show k + 0 + 0 ≤ k + 7 by omega) (show q + 0 + 0 ≤ q + 1135 by omega) (nx v5 v6 _ (jj_r hC hL h171 hi1 hr1 K1 (eqf_o e2 (by decide)) (fun _ _ _ => rfl) (M1.eqf e2 (by decide) (by decide))))
  refine hGa.run [1081] 60 ?_
  simp [wp, stepI, ln, jmp, cmpI, Value.category, rd, tyF, va_rf, st1, st2, clr, isLg, CB, inx_0, inx_1, inx_2, inx_3, inx_4, inx_5, bI_0, bI_1, bI_ok, fin3, q0, m0, hsc, dL_law_924, dL_law_927, dL_law_928, dL_law_929]
  exact fin

set_option maxHeartbeats 1600000 in
set_option maxRecDepth 100000 in
theorem lw_23 (l : Launch) (X : Cx) (N : Nat) (xs : Nat → Int32) (P : Option Value → Mm → Prop) (G : Nat → Nat → Nat → List (Option Value) → List Value → Mm → Prop) (hG : GL l X N xs P G) (sh : Nat → Option Sh) (mI : Nat → Nat → Int32) (mL : Nat → Nat → Int64) (mR : Nat → Nat → Option Nat) (n k q i : Nat) (v5 v6 : Option Value) (hN : N ≤ 3584) (hi : i + 7 ≤ N) (hk : k + 7 ≤ 601024) (hq : q + 1135 ≤ 7293034) (hnk : n ≤ k) (hsc : sh 1000000022 = some (.inr (.int, N))) (hxs : ∀ j, mI 1000000022 j = xs j) (hL : ML sh mR) (h171 : sh 171 = some (.inr (.long, 1))) (A : DD) (Am : Nat → DD) (lf : Nat → Nat) (x : TP) (hC : CI sh mI mL mR n A Am lf x) (hM : MI2 mI A Am lf x) (nx : ∀ v5 v6 M', JJ M' → G (k + 7) (q + 1135) 1081 (lL i v5 v6) [] M') : G k q 929 (lL i v5 v6) [] (sh, mI, mL, mR, n) := by
  obtain ⟨hGa, hWd, hbd, hfx, hcl⟩ := hG
  have q0 := hC.1.1
  have m0 := hL.1
  have hB := hC.1
  have hV := hC.2.2.1
  obtain ⟨C, hS⟩ := hC.2.2.2.1
  have hK := hC.2.2.2.2.1
  unfold lL at nx ⊢
  refine hGa.run [942] 60 ?_
  simp [wp, stepI, ln, jmp, cmpI, Value.category, rd, tyF, va_rf, st1, st2, clr, isLg, CB, inx_0, inx_1, inx_2, inx_3, inx_4, inx_5, bI_0, bI_1, bI_ok, fin3, q0, m0, hsc, dL_law_929, dL_law_930, dL_law_931, dL_law_933, dL_law_934, dL_law_935, dL_law_936, dL_law_937, dL_law_939, dL_law_940, dL_law_941, dL_law_942]
  simp (disch := omega) only [li, nI_add, nI_clamp, nI_ltI, nI_leI, nI_eq, inx_iff, a31, nI_1shl', nI_shr', div_bit, tb1, tb0, fa_or, fa_and, nI_not, pk_sub, nI_dec, hxs]
  refine ⟨by omega, by omega, ?_⟩
  refine hGa.callV dL_law_942 mv_13_125 [.int (xs (i + 1)), .int (xs (i + 2))] [] (c11_rest l X 2000 sh mI mL mR n (by omega) hB C A hV hS hK.1 hK.2.2.2.2 (xs (i + 1)) (xs (i + 2)) (by decide)) ⟨_, rfl, rfl⟩ q0 (by decide) rfl (by decide) (by simp [Value.category]) rfl ?_
  rintro r M' ⟨rfl, mI1, mL1, rfl, f1, f2, I1, W1⟩
  have hi1 : ∀ a k, ¬ (33 ≤ a ∧ a ≤ 80) → mI1 a k = mI a k := fun a k h => f1 a k (by omega) (by omega)
  have hr1 : ∀ a k, ¬ (a = 64 ∧ k = 0) → mR a k = mR a k := fun _ _ _ => rfl
  have hL1 : ML sh mR := hL.fr (fun _ _ => rfl) (fun k => hr1 _ _ (by omega))
  have hxs1 : ∀ j, mI1 1000000022 j = xs j := fun j => (hi1 _ _ (by omega)).trans (hxs j)
  have M1 := hM.cl hi1
  have K1 : KpI mI1 mL1 A := hK.ws I1 W1 f1 f2
  obtain ⟨p1, p2, p3, p4, p5, p6, p7, p8⟩ := M1.m hV
  refine hGa.run [958] 60 ?_
  simp [wp, stepI, ln, jmp, cmpI, Value.category, rd, tyF, va_rf, st1, st2, clr, isLg, CB, inx_0, inx_1, inx_2, inx_3, inx_4, inx_5, bI_0, bI_1, bI_ok, fin3, q0, m0, hsc, dL_law_945, dL_law_946, dL_law_947, dL_law_949, dL_law_950, dL_law_951, dL_law_952, dL_law_953, dL_law_955, dL_law_956, dL_law_957, dL_law_958]
  simp (disch := omega) only [li, nI_add, nI_clamp, nI_ltI, nI_leI, nI_eq, inx_iff, a31, nI_1shl', nI_shr', div_bit, tb1, tb0, fa_or, fa_and, nI_not, pk_sub, nI_dec, hxs1]
  refine ⟨by omega, by omega, ?_⟩
  refine hGa.callV dL_law_958 mv_13_128 [.int (xs (i + 1)), .int (xs (i + 2))] [_] (c12_rest l X 2000 sh mI1 mL1 mR n hL1 (A 0 0) p1 (A 0 2) (A 5) (A 6) (A 7) p2 (A 0 3) (A 2) (A 3) (A 4) p3 p4 (aLk A) p5 (A 0 6) (A 10) p6 (evD (A 0 6) (A 10)) hS.2.1.2.2.2.2.2.2.2.ev.1 (xs (i + 1)) (xs (i + 2)) (by decide)) ⟨_, rfl, rfl⟩ m0 (by decide) rfl (by decide) (by simp [Value.category]) rfl ?_
  rintro r M' ⟨rfl, mI2, rfl, e2⟩
  rw [rest_e p1]
  have fin := hWd _ _ _ _ _ _ _ _ (show k + 0 + 0 ≤ k + 7 by omega) (show q + 0 + 0 ≤ q + 1135 by omega) (nx v5 v6 _ (jj_r hC hL h171 hi1 hr1 K1 (eqf_o e2 (by decide)) (fun _ _ _ => rfl) (M1.eqf e2 (by decide) (by decide))))
  refine hGa.run [1081] 60 ?_
  simp [wp, stepI, ln, jmp, cmpI, Value.category, rd, tyF, va_rf, st1, st2, clr, isLg, CB, inx_0, inx_1, inx_2, inx_3, inx_4, inx_5, bI_0, bI_1, bI_ok, fin3, q0, m0, hsc, dL_law_961, dL_law_964, dL_law_965, dL_law_966]
  exact fin

set_option maxHeartbeats 1600000 in
set_option maxRecDepth 100000 in
theorem lw_24 (l : Launch) (X : Cx) (N : Nat) (xs : Nat → Int32) (P : Option Value → Mm → Prop) (G : Nat → Nat → Nat → List (Option Value) → List Value → Mm → Prop) (hG : GL l X N xs P G) (sh : Nat → Option Sh) (mI : Nat → Nat → Int32) (mL : Nat → Nat → Int64) (mR : Nat → Nat → Option Nat) (n k q i : Nat) (v5 v6 : Option Value) (hN : N ≤ 3584) (hi : i + 7 ≤ N) (hk : k + 7 ≤ 601024) (hq : q + 1135 ≤ 7293034) (hnk : n ≤ k) (hsc : sh 1000000022 = some (.inr (.int, N))) (hxs : ∀ j, mI 1000000022 j = xs j) (hL : ML sh mR) (h171 : sh 171 = some (.inr (.long, 1))) (A : DD) (Am : Nat → DD) (lf : Nat → Nat) (x : TP) (hC : CI sh mI mL mR n A Am lf x) (hM : MI2 mI A Am lf x) (nx : ∀ v5 v6 M', JJ M' → G (k + 7) (q + 1135) 1081 (lL i v5 v6) [] M') : G k q 966 (lL i v5 v6) [] (sh, mI, mL, mR, n) := by
  obtain ⟨hGa, hWd, hbd, hfx, hcl⟩ := hG
  have q0 := hC.1.1
  have m0 := hL.1
  have hB := hC.1
  have hV := hC.2.2.1
  obtain ⟨C, hS⟩ := hC.2.2.2.1
  have hK := hC.2.2.2.2.1
  unfold lL at nx ⊢
  refine hGa.run [979] 60 ?_
  simp [wp, stepI, ln, jmp, cmpI, Value.category, rd, tyF, va_rf, st1, st2, clr, isLg, CB, inx_0, inx_1, inx_2, inx_3, inx_4, inx_5, bI_0, bI_1, bI_ok, fin3, q0, m0, hsc, dL_law_966, dL_law_967, dL_law_968, dL_law_970, dL_law_971, dL_law_972, dL_law_973, dL_law_974, dL_law_976, dL_law_977, dL_law_978, dL_law_979]
  simp (disch := omega) only [li, nI_add, nI_clamp, nI_ltI, nI_leI, nI_eq, inx_iff, a31, nI_1shl', nI_shr', div_bit, tb1, tb0, fa_or, fa_and, nI_not, pk_sub, nI_dec, hxs]
  refine ⟨by omega, by omega, ?_⟩
  refine hGa.callV dL_law_979 mv_13_129 [.int (xs (i + 1)), .int (xs (i + 2))] [] (c11_season l X 2000 sh mI mL mR n (by have := hC.2.1; omega) hB C A hV hS hK.2.2.2.1 (xs (i + 1)) (xs (i + 2)) (by decide)) ⟨_, rfl, rfl⟩ q0 (by decide) rfl (by decide) (by simp [Value.category]) rfl ?_
  rintro r M' ⟨rfl, mI1, mL1, mR1, rfl, f1, f2, f3, I1⟩
  have hi1 : ∀ a k, ¬ (33 ≤ a ∧ a ≤ 80) → mI1 a k = mI a k := fun a k h => f1 a k (by omega) (by omega)
  have hr1 : ∀ a k, ¬ (a = 64 ∧ k = 0) → mR1 a k = mR a k := f3
  have hL1 : ML sh mR1 := hL.fr (fun _ _ => rfl) (fun k => hr1 _ _ (by omega))
  have hxs1 : ∀ j, mI1 1000000022 j = xs j := fun j => (hi1 _ _ (by omega)).trans (hxs j)
  have M1 := hM.cl hi1
  have K1 : KpI mI1 mL1 A := hK.br I1 f1 f2
  obtain ⟨p1, p2, p3, p4, p5, p6, p7, p8⟩ := M1.m hV
  refine hGa.run [995] 60 ?_
  simp [wp, stepI, ln, jmp, cmpI, Value.category, rd, tyF, va_rf, st1, st2, clr, isLg, CB, inx_0, inx_1, inx_2, inx_3, inx_4, inx_5, bI_0, bI_1, bI_ok, fin3, q0, m0, hsc, dL_law_982, dL_law_983, dL_law_984, dL_law_986, dL_law_987, dL_law_988, dL_law_989, dL_law_990, dL_law_992, dL_law_993, dL_law_994, dL_law_995]
  simp (disch := omega) only [li, nI_add, nI_clamp, nI_ltI, nI_leI, nI_eq, inx_iff, a31, nI_1shl', nI_shr', div_bit, tb1, tb0, fa_or, fa_and, nI_not, pk_sub, nI_dec, hxs1]
  refine ⟨by omega, by omega, ?_⟩
  refine hGa.callV dL_law_995 mv_13_132 [.int (xs (i + 1)), .int (xs (i + 2))] [_] (c12_season l X 2000 sh mI1 mL1 mR1 n hL1 (A 0 0) p1 (A 0 2) (A 5) (A 6) (A 7) p2 (A 0 3) (A 2) p3 (xs (i + 1)) (xs (i + 2)) (by decide)) ⟨_, rfl, rfl⟩ m0 (by decide) rfl (by decide) (by simp [Value.category]) rfl ?_
  rintro r M' ⟨rfl, mI2, mL2, rfl, e2, e3⟩
  have fin := hWd _ _ _ _ _ _ _ _ (show k + 0 + 0 ≤ k + 7 by omega) (show q + 0 + 0 ≤ q + 1135 by omega) (nx v5 v6 _ (jj_r hC hL h171 hi1 hr1 K1 (eqf_o e2 (by decide)) (fun a k h => e3 a k (fun z => by rw [List.mem_singleton] at z; omega)) (M1.eqf e2 (by decide) (by decide))))
  refine hGa.run [1081] 60 ?_
  simp [wp, stepI, ln, jmp, cmpI, Value.category, rd, tyF, va_rf, st1, st2, clr, isLg, CB, inx_0, inx_1, inx_2, inx_3, inx_4, inx_5, bI_0, bI_1, bI_ok, fin3, q0, m0, hsc, dL_law_998, dL_law_1001, dL_law_1002, dL_law_1003]
  exact fin
