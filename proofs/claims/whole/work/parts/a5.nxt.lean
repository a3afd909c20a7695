/-! next, chance -/
theorem wth_i {w : Int32} {k : Nat} (h : wth w (nI 0) (nI k) = true) (hk : k < 1000) : ∃ j, j ≤ k ∧ w = nI j := by
  unfold wth at h
  have h' := of_decide_eq_true h
  obtain ⟨j, hj, rfl⟩ := nI_of (x := w) (by rw [Int32.not_lt]; exact h'.1)
  exact ⟨j, (nI_leI hj (by omega)).mp h'.2, rfl⟩
theorem tlA_c {A : DD} (hV : AsV A) {a b : Nat} (ha : a < A 0 0) (hb : b < A 0 0) (hab : a ≠ b) : tlA A false a b = cntW (A 0 0) (A 0 2) (A 5) (A 6) a b := tl_cnt ha hb hab hV.say (pshC_ok _ _) (bkC_ok _ _ _)
theorem ahF_d (V : Nat → Nat) (g : Nat → Nat → Nat) (B : Nat → Nat) (o t : Nat) : ahF V g B o o t = 0 := by
  unfold ahF
  split
  · rename_i z
    rw [z.1] at z
    exact absurd z.2 (by decide)
  · rfl
theorem fb_sm_z (f : Nat → Nat) (h : ∀ k, f k = 0) : ∀ n, fb_sm f n = 0
  | 0 => rfl
  | n + 1 => by rw [fb_sm, fb_sm_z f h n, h]
theorem tlA_d (A : DD) (sp : Bool) (a : Nat) : tlA A sp a a = 0 := by
  unfold tlA ahT sfm
  exact fb_sm_z _ (fun k => ahF_d ..) _
set_option maxHeartbeats 800000 in
set_option maxRecDepth 100000 in
theorem c11_next (l : Launch) (X : Cx) (d : Nat) (sh : Nat → Option Sh) (mI : Nat → Nat → Int32) (mL : Nat → Nat → Int64) (mR : Nat → Nat → Option Nat) (n : Nat) (hB : BL sh mR) (C : Nat) (A : DD) (hV : AsV A) (hS : ShA sh mI mR n 20 C A) (hI : TlI mI mL 37 A false) (w : Int32) (hd : 3 ≤ d) : Cn l X yX11_next cX11_next 2 (some .int) d [.ref 0, .int w] (sh, mI, mL, mR, n) (fun r M' => r = some (.int (nxA (A 0 0) (A 0 2) (A 5) (A 6) w)) ∧ ∃ mI' mL', M' = (sh, mI', mL', mR, n) ∧ (∀ a k, ¬ (37 ≤ a ∧ a ≤ 42) → mI' a k = mI a k) ∧ (∀ a k, ¬ (37 ≤ a ∧ a ≤ 42) → mL' a k = mL a k) ∧ TlI mI' mL' 37 A false) 0 0 := by
  refine Cn.run 11 false (by decide) rfl (by decide) (by simp [entA, Value.category]) ?_
  intro P G hP hG
  have q0 := hB.1
  have b3 := hB.2.2.2.1.1
  have b6 := hB.2.2.2.2.2.2.1.1
  have o7 := hB.2.2.2.2.2.2.1.2
  have s7 := o7.1
  have hnp := hV.1.1
  have p2 : 0 < 2 ^ A 0 0 := Nat.two_pow_pos _
  refine hG.run [] 20 ?_
  simp [wp, stepI, ln, jmp, cmpI, Value.category, rd, tyF, va_rf, st1, st2, clr, isLg, CB, inx_0, inx_1, inx_2, inx_3, inx_4, inx_5, bI_0, bI_1, bI_ok, fin3, tyX11, entL, q0, b3, b6, dX11_next_0, dX11_next_1, fT_11_43, dX11_next_4, dX11_next_5, fT_11_23, dX11_next_8, dX11_next_11, dX11_next_12, dX11_next_15, dX11_next_16, dX11_next_17, dX11_next_20, dX11_next_21, dX11_next_24, dX11_next_27, dX11_next_28, dX11_next_29, dX11_next_32, dX11_next_33, dX11_next_34, dX11_next_35, dX11_next_38, dX11_next_41, dX11_next_42, dX11_next_45, dX11_next_46, dX11_next_49]
  refine hG.callV dX11_next_8 mv_11_143 [.ref 20] [] (c7_now l X (d - 1) sh mI mL mR n hB C A hV hS 37 false (Or.inl rfl) o7 hI (tlF_63 hV) (by omega)) ⟨_, rfl, rfl⟩ s7 (by omega) rfl (by decide) (by simp [Value.category]) rfl ?_
  rintro r M' ⟨rfl, mI1, mL1, rfl, f1, f2, R1, I1⟩
  have e : tlV A false (2 ^ A 0 0 - 1) = ordN (A 0 0) (A 0 2) (A 5) (A 6) := tl_ord hV.say (pshC_ok _ _)
  have v63 := (R1.2.2 (2 ^ A 0 0 - 1) (by omega)).2
  have vv := (R1.2.2 (2 ^ A 0 0 - 1) (by omega)).1
  rw [e] at v63 vv
  have bad : (wth w (nI 0) (nI 2) && decide (2 ≤ ordN (A 0 0) (A 0 2) (A 5) (A 6))) = false → P (some (.int (-1))) (sh, mI1, mL1, mR, n) := fun z => by
    have q := hP _ _ ⟨rfl, mI1, mL1, rfl, f1, f2, I1⟩
    have e : nxA (A 0 0) (A 0 2) (A 5) (A 6) w = -1 := by unfold nxA; rw [z]; rfl
    rw [e] at q
    exact q
  cases hw : wth w (nI 0) (nI 2) with
  | false =>
    have q := bad (by rw [hw]; rfl)
    have hw' := of_decide_eq_false hw
    refine hG.run [20] 20 ?_
    simp [wp, stepI, ln, jmp, cmpI, Value.category, rd, tyF, va_rf, st1, st2, clr, isLg, CB, inx_0, inx_1, inx_2, inx_3, inx_4, inx_5, bI_0, bI_1, bI_ok, fin3, tyX11, entL, q0, dX11_next_0, dX11_next_1, fT_11_43, dX11_next_4, dX11_next_5, fT_11_23, dX11_next_8, dX11_next_11, dX11_next_12, dX11_next_15, dX11_next_16, dX11_next_17, dX11_next_20, dX11_next_21, dX11_next_24, dX11_next_27, dX11_next_28, dX11_next_29, dX11_next_32, dX11_next_33, dX11_next_34, dX11_next_35, dX11_next_38, dX11_next_41, dX11_next_42, dX11_next_45, dX11_next_46, dX11_next_49]
    refine ⟨fun _ => q, fun z => ⟨fun _ => q, fun z2 => absurd ⟨z, z2⟩ hw'⟩⟩
  | true =>
    obtain ⟨j, hj, rfl⟩ := wth_i hw (by decide)
    have hw' := of_decide_eq_true hw
    refine hG.run [20] 20 ?_
    simp [wp, stepI, ln, jmp, cmpI, Value.category, rd, tyF, va_rf, st1, st2, clr, isLg, CB, inx_0, inx_1, inx_2, inx_3, inx_4, inx_5, bI_0, bI_1, bI_ok, fin3, tyX11, entL, q0, dX11_next_0, dX11_next_1, fT_11_43, dX11_next_4, dX11_next_5, fT_11_23, dX11_next_8, dX11_next_11, dX11_next_12, dX11_next_15, dX11_next_16, dX11_next_17, dX11_next_20, dX11_next_21, dX11_next_24, dX11_next_27, dX11_next_28, dX11_next_29, dX11_next_32, dX11_next_33, dX11_next_34, dX11_next_35, dX11_next_38, dX11_next_41, dX11_next_42, dX11_next_45, dX11_next_46, dX11_next_49]
    refine ⟨fun z => absurd hw'.1 (Int32.not_le.mpr z), fun _ => ⟨fun z => absurd hw'.2 (Int32.not_le.mpr z), fun _ => ?_⟩⟩
    refine hG.run [] 20 ?_
    simp [wp, stepI, ln, jmp, cmpI, Value.category, rd, tyF, va_rf, st1, st2, clr, isLg, CB, inx_0, inx_1, inx_2, inx_3, inx_4, inx_5, bI_0, bI_1, bI_ok, fin3, tyX11, entL, q0, b6, dX11_next_0, dX11_next_1, fT_11_43, dX11_next_4, dX11_next_5, fT_11_23, dX11_next_8, dX11_next_11, dX11_next_12, dX11_next_15, dX11_next_16, dX11_next_17, dX11_next_20, dX11_next_21, dX11_next_24, dX11_next_27, dX11_next_28, dX11_next_29, dX11_next_32, dX11_next_33, dX11_next_34, dX11_next_35, dX11_next_38, dX11_next_41, dX11_next_42, dX11_next_45, dX11_next_46, dX11_next_49]
    refine hG.callV dX11_next_24 mv_11_146 [] [] (c7_all l X (d - 1) sh mI1 mL1 mR n 37 o7 (A 0 0) R1.2.1.2.2.1 hnp _ vv) ⟨_, rfl, rfl⟩ s7 (by omega) rfl (by decide) (by simp [Value.category]) rfl ?_
    rintro r M' ⟨rfl, rfl⟩
    have c1 : lN 1 < lN (ordN (A 0 0) (A 0 2) (A 5) (A 6)) ↔ 1 < ordN (A 0 0) (A 0 2) (A 5) (A 6) := pk_lLT (by decide) v63
    have c2 : lN (ordN (A 0 0) (A 0 2) (A 5) (A 6)) ≤ lN 1 ↔ ordN (A 0 0) (A 0 2) (A 5) (A 6) ≤ 1 := pk_lLE v63 (by decide)
    refine hG.run [34] 20 ?_
    simp [wp, stepI, ln, jmp, cmpI, Value.category, rd, tyF, va_rf, st1, st2, clr, isLg, CB, inx_0, inx_1, inx_2, inx_3, inx_4, inx_5, bI_0, bI_1, bI_ok, fin3, tyX11, entL, q0, lg_cmp_gt, lg_cmp_le, liL, c1, c2, dX11_next_0, dX11_next_1, fT_11_43, dX11_next_4, dX11_next_5, fT_11_23, dX11_next_8, dX11_next_11, dX11_next_12, dX11_next_15, dX11_next_16, dX11_next_17, dX11_next_20, dX11_next_21, dX11_next_24, dX11_next_27, dX11_next_28, dX11_next_29, dX11_next_32, dX11_next_33, dX11_next_34, dX11_next_35, dX11_next_38, dX11_next_41, dX11_next_42, dX11_next_45, dX11_next_46, dX11_next_49]
    refine ⟨fun z => ?_, fun z => bad (by rw [hw, decide_eq_false (by omega)]; rfl)⟩
    refine hG.run [] 20 ?_
    simp [wp, stepI, ln, jmp, cmpI, Value.category, rd, tyF, va_rf, st1, st2, clr, isLg, CB, inx_0, inx_1, inx_2, inx_3, inx_4, inx_5, bI_0, bI_1, bI_ok, fin3, tyX11, entL, q0, b6, dX11_next_0, dX11_next_1, fT_11_43, dX11_next_4, dX11_next_5, fT_11_23, dX11_next_8, dX11_next_11, dX11_next_12, dX11_next_15, dX11_next_16, dX11_next_17, dX11_next_20, dX11_next_21, dX11_next_24, dX11_next_27, dX11_next_28, dX11_next_29, dX11_next_32, dX11_next_33, dX11_next_34, dX11_next_35, dX11_next_38, dX11_next_41, dX11_next_42, dX11_next_45, dX11_next_46, dX11_next_49]
    refine hG.callV dX11_next_38 mv_11_189 [] [] (c7_cmp l X (d - 1) sh mI1 mL1 mR n A 37 false o7 I1 R1 (by omega)) ⟨_, rfl, rfl⟩ s7 (by omega) rfl (by decide) (by simp [Value.category]) rfl ?_
    rintro r M' ⟨rfl, mI2, mL2, rfl, g1, g2, R2, C2, I2⟩
    have vv2 := (R2.2.2 (2 ^ A 0 0 - 1) (by omega)).1
    rw [e] at vv2
    refine hG.run [] 20 ?_
    simp [wp, stepI, ln, jmp, cmpI, Value.category, rd, tyF, va_rf, st1, st2, clr, isLg, CB, inx_0, inx_1, inx_2, inx_3, inx_4, inx_5, bI_0, bI_1, bI_ok, fin3, tyX11, entL, q0, b6, dX11_next_0, dX11_next_1, fT_11_43, dX11_next_4, dX11_next_5, fT_11_23, dX11_next_8, dX11_next_11, dX11_next_12, dX11_next_15, dX11_next_16, dX11_next_17, dX11_next_20, dX11_next_21, dX11_next_24, dX11_next_27, dX11_next_28, dX11_next_29, dX11_next_32, dX11_next_33, dX11_next_34, dX11_next_35, dX11_next_38, dX11_next_41, dX11_next_42, dX11_next_45, dX11_next_46, dX11_next_49]
    refine hG.callV dX11_next_46 mv_11_200 [.int (nI j)] [] (c7_bestQuestion l X (d - 1) sh mI2 mL2 mR n 37 o7 (A 0 0) R2.2.1.1 hnp R2.2.1.2.2.1 _ vv2 v63 (tlA A false) (fun o q ho hq => ⟨C2.2 o q ho hq, ?_⟩) (nI j) (by omega)) ⟨_, rfl, rfl⟩ s7 (by omega) rfl (by decide) (by simp [Value.category]) rfl ?_
    · by_cases z : o = q
      · rw [z, tlA_d]; decide
      · rw [tlA_c hV ho hq z]
        exact Nat.lt_of_le_of_lt cntW_le v63
    rintro r M' ⟨rfl, rfl⟩
    rw [bq_nxt hnp hV.say (by omega) (fun a b ha hb hab => tlA_c hV ha hb hab) (A 0 0) (Nat.le_refl _)]
    have q := hP _ _ ⟨rfl, mI2, mL2, rfl, fun a k z => (g1 a k z).trans (f1 a k z), fun a k z => (g2 a k z).trans (f2 a k z), I2⟩
    have ne := nxtO_ne hnp hV.say (show 2 ≤ _ from z)
    have ee : nxA (A 0 0) (A 0 2) (A 5) (A 6) (nI j) = (if nI j = nI 2 then nI (bqF (ordN (A 0 0) (A 0 2) (A 5) (A 6)) (nxtO (A 0 0) (A 0 2) (A 5) (A 6) (A 0 0))) else if nI j = nI 0 then bqA (nxtO (A 0 0) (A 0 2) (A 5) (A 6) (A 0 0)) else bqB (nxtO (A 0 0) (A 0 2) (A 5) (A 6) (A 0 0))) := by
      unfold nxA
      rw [hw, decide_eq_true (show 2 ≤ _ from z)]
      cases hh : nxtO (A 0 0) (A 0 2) (A 5) (A 6) (A 0 0) with
      | none => exact absurd hh ne
      | some v =>
        have : j = 0 ∨ j = 1 ∨ j = 2 := by omega
        rcases this with rfl | rfl | rfl <;> rfl
    rw [ee] at q
    refine hG.run [] 20 ?_
    simp [wp, stepI, ln, jmp, cmpI, Value.category, rd, tyF, va_rf, st1, st2, clr, isLg, CB, inx_0, inx_1, inx_2, inx_3, inx_4, inx_5, bI_0, bI_1, bI_ok, fin3, tyX11, entL, q0, dX11_next_0, dX11_next_1, fT_11_43, dX11_next_4, dX11_next_5, fT_11_23, dX11_next_8, dX11_next_11, dX11_next_12, dX11_next_15, dX11_next_16, dX11_next_17, dX11_next_20, dX11_next_21, dX11_next_24, dX11_next_27, dX11_next_28, dX11_next_29, dX11_next_32, dX11_next_33, dX11_next_34, dX11_next_35, dX11_next_38, dX11_next_41, dX11_next_42, dX11_next_45, dX11_next_46, dX11_next_49]
    exact q
set_option maxHeartbeats 4000000 in
set_option maxRecDepth 100000 in
theorem c11_commonDivisor (l : Launch) (X : Cx) (d : Nat) (M : Mm) (a b : Nat) (ha : a < 2 ^ 63) (hb : b < 2 ^ 63) (h0 : 0 < a) : Cn l X yX11_commonDivisor cX11_commonDivisor 11 (some .long) d [.long (lN a), .long (lN b)] M (fun r M' => M' = M ∧ r = some (.long (lN (Nat.gcd a b)))) 0 0 := by
  refine Cn.run 11 false (by decide) rfl (by decide) (by simp [entA, Value.category]) ?_
  intro P G hP hG
  have fin : ∀ x v6 v7 v8 v9 v10, x < 2 ^ 63 → 0 < x → x = Nat.gcd a b → G 45 [some (.long (lN a)), none, some (.long (lN b)), none, some (.long (lN x)), none, v6, v7, v8, v9, v10] [] M := fun x v6 v7 v8 v9 v10 hx h0 he => by
    have c1 : lN x ≤ lN 0 ↔ x ≤ 0 := pk_lLE hx (by decide)
    refine hG.run [58] 40 ?_
    simp [wp, stepI, ln, jmp, cmpI, Value.category, rd, tyF, va_rf, st1, st2, clr, isLg, CB, inx_0, inx_1, inx_2, inx_3, inx_4, inx_5, bI_0, bI_1, bI_ok, fin3, lg_cmp_le, lg_cmp_gt, liL, c1, dX11_commonDivisor_0, dX11_commonDivisor_1, dX11_commonDivisor_3, dX11_commonDivisor_4, dX11_commonDivisor_6, dX11_commonDivisor_7, dX11_commonDivisor_9, dX11_commonDivisor_11, dX11_commonDivisor_14, dX11_commonDivisor_17, dX11_commonDivisor_19, dX11_commonDivisor_20, dX11_commonDivisor_21, dX11_commonDivisor_24, dX11_commonDivisor_26, dX11_commonDivisor_28, dX11_commonDivisor_29, dX11_commonDivisor_31, dX11_commonDivisor_33, dX11_commonDivisor_35, dX11_commonDivisor_37, dX11_commonDivisor_39, dX11_commonDivisor_42, dX11_commonDivisor_45, dX11_commonDivisor_47, dX11_commonDivisor_48, dX11_commonDivisor_49, dX11_commonDivisor_52, dX11_commonDivisor_54, dX11_commonDivisor_57, dX11_commonDivisor_58]
    refine ⟨fun z => by omega, fun _ => ?_⟩
    refine hG.run [] 40 ?_
    simp [wp, stepI, ln, jmp, cmpI, Value.category, rd, tyF, va_rf, st1, st2, clr, isLg, CB, inx_0, inx_1, inx_2, inx_3, inx_4, inx_5, bI_0, bI_1, bI_ok, fin3, dX11_commonDivisor_0, dX11_commonDivisor_1, dX11_commonDivisor_3, dX11_commonDivisor_4, dX11_commonDivisor_6, dX11_commonDivisor_7, dX11_commonDivisor_9, dX11_commonDivisor_11, dX11_commonDivisor_14, dX11_commonDivisor_17, dX11_commonDivisor_19, dX11_commonDivisor_20, dX11_commonDivisor_21, dX11_commonDivisor_24, dX11_commonDivisor_26, dX11_commonDivisor_28, dX11_commonDivisor_29, dX11_commonDivisor_31, dX11_commonDivisor_33, dX11_commonDivisor_35, dX11_commonDivisor_37, dX11_commonDivisor_39, dX11_commonDivisor_42, dX11_commonDivisor_45, dX11_commonDivisor_47, dX11_commonDivisor_48, dX11_commonDivisor_49, dX11_commonDivisor_52, dX11_commonDivisor_54, dX11_commonDivisor_57, dX11_commonDivisor_58]
    rw [he]
    exact hP _ _ ⟨rfl, rfl⟩
  have step : ∀ i x y v9 v10, i < 200 → x < 2 ^ 63 → 0 < x → y < 2 ^ 63 → Nat.gcd x y = Nat.gcd a b → (0 < y → G 9 [some (.long (lN a)), none, some (.long (lN b)), none, some (.long (lN y)), none, some (.long (lN (x % y))), none, some (.int (nI (i + 1))), some (.long (lN (x % y))), none] [] M) → G 9 [some (.long (lN a)), none, some (.long (lN b)), none, some (.long (lN x)), none, some (.long (lN y)), none, some (.int (nI i)), v9, v10] [] M := fun i x y v9 v10 hi hx h0 hy he k => by
    have c1 : lN y ≤ lN 0 ↔ y ≤ 0 := pk_lLE hy (by decide)
    have c2 : lN y = lN 0 ↔ y = 0 := pk_lEQ (b := 0) hy (by decide)
    refine hG.run [45, 9] 40 ?_
    simp [wp, stepI, ln, jmp, cmpI, Value.category, rd, tyF, va_rf, st1, st2, clr, isLg, CB, inx_0, inx_1, inx_2, inx_3, inx_4, inx_5, bI_0, bI_1, bI_ok, fin3, lg_cmp_le, lg_cmp_gt, liL, c1, c2, dX11_commonDivisor_0, dX11_commonDivisor_1, dX11_commonDivisor_3, dX11_commonDivisor_4, dX11_commonDivisor_6, dX11_commonDivisor_7, dX11_commonDivisor_9, dX11_commonDivisor_11, dX11_commonDivisor_14, dX11_commonDivisor_17, dX11_commonDivisor_19, dX11_commonDivisor_20, dX11_commonDivisor_21, dX11_commonDivisor_24, dX11_commonDivisor_26, dX11_commonDivisor_28, dX11_commonDivisor_29, dX11_commonDivisor_31, dX11_commonDivisor_33, dX11_commonDivisor_35, dX11_commonDivisor_37, dX11_commonDivisor_39, dX11_commonDivisor_42, dX11_commonDivisor_45, dX11_commonDivisor_47, dX11_commonDivisor_48, dX11_commonDivisor_49, dX11_commonDivisor_52, dX11_commonDivisor_54, dX11_commonDivisor_57, dX11_commonDivisor_58]
    simp (disch := omega) only [li, nI_add, nI_clamp, nI_ltI, nI_leI, nI_eq, inx_iff, a31, nI_1shl', nI_shr', div_bit, tb1, tb0, fa_or, fa_and, nI_not, pk_sub, nI_dec]
    refine ⟨fun z => by omega, fun _ => ⟨fun z => ?_, fun z => ?_⟩⟩
    · have : y = 0 := by omega
      subst this
      exact fin x _ _ _ _ _ hx h0 (by rw [← he, Nat.gcd_zero_right])
    · rw [pk_lRem hx (by omega) hy]
      first | exact ⟨by omega, k (by omega)⟩ | exact k (by omega)
  have loop : ∀ m i x y v9 v10, y ≤ x → x < 2 ^ 63 → 0 < x → x * y < 2 ^ m → i + m < 200 → Nat.gcd x y = Nat.gcd a b → G 9 [some (.long (lN a)), none, some (.long (lN b)), none, some (.long (lN x)), none, some (.long (lN y)), none, some (.int (nI i)), v9, v10] [] M := by
    intro m
    induction m with
    | zero =>
      intro i x y v9 v10 h1 h2 h3 h4 h5 h6
      refine step i x y v9 v10 (by omega) h2 h3 (by omega) h6 (fun z => ?_)
      have : 0 < x * y := Nat.mul_pos h3 z
      omega
    | succ m ih =>
      intro i x y v9 v10 h1 h2 h3 h4 h5 h6
      refine step i x y v9 v10 (by omega) h2 h3 (by omega) h6 (fun z => ?_)
      have m1 : x % y < y := Nat.mod_lt _ z
      have m2 : 2 * (x % y) ≤ x := by
        have e := Nat.div_add_mod x y
        have d1 : 1 ≤ x / y := (Nat.one_le_div_iff z).mpr h1
        have : y * 1 ≤ y * (x / y) := Nat.mul_le_mul_left _ d1
        omega
      refine ih (i + 1) y (x % y) _ _ (by omega) (by omega) z ?_ (by omega) ?_
      · have e1 : y * (2 * (x % y)) ≤ y * x := Nat.mul_le_mul_left _ m2
        have e2 : y * (2 * (x % y)) = 2 * (y * (x % y)) := by rw [Nat.mul_left_comm]
        rw [Nat.mul_comm y x] at e1
        rw [Nat.pow_succ] at h4
        omega
      · rw [← h6, Nat.gcd_comm x y, Nat.gcd_rec y x, Nat.gcd_comm]
  refine hG.run [9] 40 ?_
  simp [wp, stepI, ln, jmp, cmpI, Value.category, rd, tyF, va_rf, st1, st2, clr, isLg, CB, inx_0, inx_1, inx_2, inx_3, inx_4, inx_5, bI_0, bI_1, bI_ok, fin3, entL, dX11_commonDivisor_0, dX11_commonDivisor_1, dX11_commonDivisor_3, dX11_commonDivisor_4, dX11_commonDivisor_6, dX11_commonDivisor_7, dX11_commonDivisor_9, dX11_commonDivisor_11, dX11_commonDivisor_14, dX11_commonDivisor_17, dX11_commonDivisor_19, dX11_commonDivisor_20, dX11_commonDivisor_21, dX11_commonDivisor_24, dX11_commonDivisor_26, dX11_commonDivisor_28, dX11_commonDivisor_29, dX11_commonDivisor_31, dX11_commonDivisor_33, dX11_commonDivisor_35, dX11_commonDivisor_37, dX11_commonDivisor_39, dX11_commonDivisor_42, dX11_commonDivisor_45, dX11_commonDivisor_47, dX11_commonDivisor_48, dX11_commonDivisor_49, dX11_commonDivisor_52, dX11_commonDivisor_54, dX11_commonDivisor_57, dX11_commonDivisor_58]
  refine step 0 a b none none (by decide) ha h0 hb rfl (fun z => ?_)
  have m1 : a % b < b := Nat.mod_lt _ z
  refine loop 126 1 b (a % b) _ _ (by omega) hb z ?_ (by decide) (by rw [Nat.gcd_comm a b, Nat.gcd_rec b a, Nat.gcd_comm])
  have e1 : b * (a % b) ≤ (2 ^ 63 - 1) * (2 ^ 63 - 1) := Nat.mul_le_mul (by omega) (by omega)
  exact Nat.lt_of_le_of_lt e1 (by decide)
