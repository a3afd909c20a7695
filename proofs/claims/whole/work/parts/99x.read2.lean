/-! Reader.read -/
set_option maxHeartbeats 1000000 in
set_option maxRecDepth 100000 in
theorem c3_read (l : Launch) (X : Cx) (d : Nat) (sh : Nat → Option Sh) (mI : Nat → Nat → Int32) (mL : Nat → Nat → Int64) (mR : Nat → Nat → Option Nat) (n : Nat) (R TP : Nat) (hB : RdB sh mR R) (t : Nat → Nat) (N : Nat) (s0 : sh TP = some (.inr (.byte, 1000))) (hTR : TP < R) (hRn : R + 17 < n) (hn : n < 9000000) (hN : N ≤ 1000) (hT : ∀ k, k < N → mI TP k = nI (t k) ∧ t k < 128) (ro : Nat → Nat) (hro : ∀ k, k < 6 → ro k ≤ 9) (hd : 61 ≤ d) : Cn l X yX3_read cX3_read 5 (some .int) d [.ref R, .ref TP, .int (nI N)] (sh, mI, mL, mR, n) (RdP sh mI mL mR n R TP t N ro) 7 1135 := by
  refine Cn.runA 3 false (by decide) rfl (by decide) (by simp [entA, Value.category]) ?_
  intro P G hP hG
  obtain ⟨q0, hR1, r0, r1, rn, rl, rs, hO, k0⟩ := hB
  have xR : R < 1000000000 := by omega
  have x1 : R + 1 < 1000000000 := by omega
  have x16 : R + 16 < 1000000000 := by omega
  have s6 := hO.1
  refine hG.run [4] 60 ?_
  simp [wp, stepI, ln, jmp, cmpI, Value.category, rd, tyF, vrs, vrn, ex_rr, ex_rn, ex_nr, ex_nn, okA_s, okA_n, st1, st2, clr, isLg, CB, inx_0, inx_1, inx_2, inx_3, inx_4, inx_5, bI_0, bI_1, bI_ok, fin3, tyX3, entL, q0, r0, dX3_read_0, dX3_read_1, fT_3_12, dX3_read_4, dX3_read_7, dX3_read_8, dX3_read_11, fT_3_39, dX3_read_14, dX3_read_15, dX3_read_18, dX3_read_19, fT_3_43, dX3_read_22, dX3_read_23, fT_3_29, dX3_read_26, dX3_read_27, dX3_read_30, dX3_read_31, dX3_read_32, fT_3_53, dX3_read_35, dX3_read_36, dX3_read_37, fT_3_57, dX3_read_40, dX3_read_41, dX3_read_42, fT_3_60, dX3_read_45, dX3_read_46, fT_3_21, dX3_read_49, dX3_read_50, dX3_read_51, dX3_read_54, dX3_read_55, dX3_read_56, dX3_read_57, dX3_read_59, dX3_read_61, dX3_read_64, dX3_read_67, dX3_read_68, dX3_read_71, dX3_read_72, dX3_read_75, fT_3_67, dX3_read_78, dX3_read_81, dX3_read_82, dX3_read_85, dX3_read_86, dX3_read_89, dX3_read_92, dX3_read_93, dX3_read_96]
  refine hG.new dX3_read_4 (ci := 4) rfl (by decide) wk_3_36 wn_4 wi_4 (by show n < 1000000000; omega) ?_
  have N0 := Kt.new (sh, mI, mL, mR, n) 4
  have w0 : mkM (sh, mI, mL, mR, n) (.inl 4) = (upS sh n (.inl 4), up0 mI n 0, up0 mL n 0, up0 mR n none, n + 1) := rfl
  rw [w0] at N0 ⊢
  generalize upS sh n (.inl 4) = sa at N0 ⊢
  generalize up0 mI n 0 = sb at N0 ⊢
  generalize up0 mL n 0 = sc at N0 ⊢
  generalize up0 mR n none = sd at N0 ⊢
  refine hG.run [8] 60 ?_
  simp [wp, stepI, ln, jmp, cmpI, Value.category, rd, tyF, vrs, vrn, ex_rr, ex_rn, ex_nr, ex_nn, okA_s, okA_n, st1, st2, clr, isLg, CB, inx_0, inx_1, inx_2, inx_3, inx_4, inx_5, bI_0, bI_1, bI_ok, fin3, tyX3, entL, q0, dX3_read_0, dX3_read_1, fT_3_12, dX3_read_4, dX3_read_7, dX3_read_8, dX3_read_11, fT_3_39, dX3_read_14, dX3_read_15, dX3_read_18, dX3_read_19, fT_3_43, dX3_read_22, dX3_read_23, fT_3_29, dX3_read_26, dX3_read_27, dX3_read_30, dX3_read_31, dX3_read_32, fT_3_53, dX3_read_35, dX3_read_36, dX3_read_37, fT_3_57, dX3_read_40, dX3_read_41, dX3_read_42, fT_3_60, dX3_read_45, dX3_read_46, fT_3_21, dX3_read_49, dX3_read_50, dX3_read_51, dX3_read_54, dX3_read_55, dX3_read_56, dX3_read_57, dX3_read_59, dX3_read_61, dX3_read_64, dX3_read_67, dX3_read_68, dX3_read_71, dX3_read_72, dX3_read_75, fT_3_67, dX3_read_78, dX3_read_81, dX3_read_82, dX3_read_85, dX3_read_86, dX3_read_89, dX3_read_92, dX3_read_93, dX3_read_96]
  refine hG.callI dX3_read_8 mi_3_38 [] [.ref n, .ref (R + 1)] (c4_init l X (d - 1) sa sb sc sd (n + 1) n N0.self (by omega) (by omega)) (by omega) rfl (by decide) (by simp [Value.category]) rfl ?_
  rintro r M' ⟨rfl, K0⟩
  obtain ⟨sh2, mI2, mL2, mR2, n2⟩ := M'
  have K0 := K0.base (fun a ha => N0.2.1 a ha) (fun a k ha => N0.2.2.1 a k ha)
  clear N0 w0
  have hn2 : n2 = n + 6 := K0.1
  have fs : ∀ a, a < n → sh2 a = sh a := fun a ha => K0.2.1 a ha
  have fi2 : ∀ a k, a < n → mI2 a k = mI a k := fun a k ha => (K0.2.2.1 a k ha).1
  have fl2 : ∀ a k, a < n → mL2 a k = mL a k := fun a k ha => (K0.2.2.1 a k ha).2.1
  have fr2 : ∀ a k, a < n → mR2 a k = mR a k := fun a k ha => (K0.2.2.1 a k ha).2.2
  have O4 : OL sh2 mR2 n 4 ob4 := K0.ol (o := 0) (by decide) rfl (by omega) (by
    intro x hx
    simp only [ob4, List.mem_cons, List.not_mem_nil, or_false] at hx
    rcases hx with rfl | rfl | rfl | rfl <;> exact ⟨rfl, by decide, rfl⟩)
  have zI : ∀ o k, o < 6 → ¬ (o = 5 ∧ k = 0) → mI2 (n + o) k = nI 0 := fun o k ho hz => by
    refine ((K0.2.2.2 o ho).2 k).1.trans ?_
    have hc : o = 0 ∨ o = 1 ∨ o = 2 ∨ o = 3 ∨ o = 4 ∨ o = 5 := by omega
    rcases hc with rfl | rfl | rfl | rfl | rfl | rfl
    · rfl
    · rfl
    · rfl
    · rfl
    · rfl
    · show (if 5 = 5 ∧ k = 0 then (-1 : Int32) else 0) = nI 0
      rw [if_neg (fun z => hz ⟨rfl, z.2⟩)]; rfl
  have w5 : mI2 (n + 5) 0 = -nI 1 := ((K0.2.2.2 5 (by decide)).2 0).1
  have w7 : mR2 n 7 = some (n + 5) := ((K0.2.2.2 0 (by decide)).2 7).2.2
  have ws5 : sh2 (n + 5) = some (.inr (.int, 1)) := (K0.2.2.2 5 (by decide)).1
  have e0 : sh2 R = some (.inl 3) := (fs _ (by omega)).trans q0
  have e6 : sh2 (R + 1) = some (.inl 6) := (fs _ (by omega)).trans s6
  have e8 : sh2 (R + 13) = some (.inl 8) := (fs _ (by omega)).trans k0
  have e16 : sh2 (R + 16) = some (.inr (.int, 10)) := (fs _ (by omega)).trans rl.2
  have eT : sh2 TP = some (.inr (.byte, 1000)) := (fs _ (by omega)).trans s0
  clear K0 q0
  have q0 := e0
  obtain ⟨mR3, hR3⟩ : ∃ m, m = up2 mR2 (R + 1) 0 (some n) := ⟨_, rfl⟩
  have fr3 : ∀ a k, a < n2 → ¬ (a = R + 1 ∧ k = 0) → mR3 a k = mR2 a k := fun a k _ hz => by rw [hR3, up2_ne hz]
  have g0 : mR3 R 0 = some (R + 1) := (fr3 _ _ (by omega) (by omega)).trans ((fr2 _ _ (by omega)).trans r0)
  have g1 : mR3 R 1 = some (R + 13) := (fr3 _ _ (by omega) (by omega)).trans ((fr2 _ _ (by omega)).trans r1)
  have gl : mR3 R 3 = some (R + 16) := (fr3 _ _ (by omega) (by omega)).trans ((fr2 _ _ (by omega)).trans rl.1)
  have gS : mR3 (R + 1) 0 = some n := by rw [hR3, up2_eq]
  refine hG.run [14] 60 ?_
  simp [wp, stepI, ln, jmp, cmpI, Value.category, rd, tyF, vrs, vrn, ex_rr, ex_rn, ex_nr, ex_nn, okA_s, okA_n, st1, st2, clr, isLg, CB, inx_0, inx_1, inx_2, inx_3, inx_4, inx_5, bI_0, bI_1, bI_ok, fin3, tyX3, entL, q0, e6, okv, wr, finF, clT, TX6, x1, tyX6, dX3_read_0, dX3_read_1, fT_3_12, dX3_read_4, dX3_read_7, dX3_read_8, dX3_read_11, fT_3_39, dX3_read_14, dX3_read_15, dX3_read_18, dX3_read_19, fT_3_43, dX3_read_22, dX3_read_23, fT_3_29, dX3_read_26, dX3_read_27, dX3_read_30, dX3_read_31, dX3_read_32, fT_3_53, dX3_read_35, dX3_read_36, dX3_read_37, fT_3_57, dX3_read_40, dX3_read_41, dX3_read_42, fT_3_60, dX3_read_45, dX3_read_46, fT_3_21, dX3_read_49, dX3_read_50, dX3_read_51, dX3_read_54, dX3_read_55, dX3_read_56, dX3_read_57, dX3_read_59, dX3_read_61, dX3_read_64, dX3_read_67, dX3_read_68, dX3_read_71, dX3_read_72, dX3_read_75, fT_3_67, dX3_read_78, dX3_read_81, dX3_read_82, dX3_read_85, dX3_read_86, dX3_read_89, dX3_read_92, dX3_read_93, dX3_read_96]
  rw [← hR3]
  refine hG.run [27] 60 ?_
  simp [wp, stepI, ln, jmp, cmpI, Value.category, rd, tyF, vrs, vrn, ex_rr, ex_rn, ex_nr, ex_nn, okA_s, okA_n, st1, st2, clr, isLg, CB, inx_0, inx_1, inx_2, inx_3, inx_4, inx_5, bI_0, bI_1, bI_ok, fin3, tyX3, entL, q0, e6, g0, gl, okv, wr, finF, clT, TX6, x1, tyX6, dX3_read_0, dX3_read_1, fT_3_12, dX3_read_4, dX3_read_7, dX3_read_8, dX3_read_11, fT_3_39, dX3_read_14, dX3_read_15, dX3_read_18, dX3_read_19, fT_3_43, dX3_read_22, dX3_read_23, fT_3_29, dX3_read_26, dX3_read_27, dX3_read_30, dX3_read_31, dX3_read_32, fT_3_53, dX3_read_35, dX3_read_36, dX3_read_37, fT_3_57, dX3_read_40, dX3_read_41, dX3_read_42, fT_3_60, dX3_read_45, dX3_read_46, fT_3_21, dX3_read_49, dX3_read_50, dX3_read_51, dX3_read_54, dX3_read_55, dX3_read_56, dX3_read_57, dX3_read_59, dX3_read_61, dX3_read_64, dX3_read_67, dX3_read_68, dX3_read_71, dX3_read_72, dX3_read_75, fT_3_67, dX3_read_78, dX3_read_81, dX3_read_82, dX3_read_85, dX3_read_86, dX3_read_89, dX3_read_92, dX3_read_93, dX3_read_96]
  obtain ⟨mI3, hI3⟩ : ∃ m, m = up2 mI2 (R + 1) 4 0 := ⟨_, rfl⟩
  rw [← hI3]
  refine hG.callS dX3_read_27 ms_3_47 [.ref (R + 16), .int 0] [] (cJ_fillI l X (d - 1) sh2 mI3 mL2 mR3 n2 (R + 16) 10 e16 (by omega) (by omega) 0) (by omega) rfl (by decide) (by simp [Value.category]) rfl ?_
  rintro r M' ⟨rfl, rfl⟩
  obtain ⟨mI4, hI4⟩ : ∃ m, m = flM mI3 (R + 16) 10 0 := ⟨_, rfl⟩
  rw [← hI4]
  refine hG.run [51] 60 ?_
  simp [wp, stepI, ln, jmp, cmpI, Value.category, rd, tyF, vrs, vrn, ex_rr, ex_rn, ex_nr, ex_nn, okA_s, okA_n, st1, st2, clr, isLg, CB, inx_0, inx_1, inx_2, inx_3, inx_4, inx_5, bI_0, bI_1, bI_ok, fin3, tyX3, entL, q0, g0, g1, k0, tyX8, okv, wr, finF, clT, TX3, xR, dX3_read_0, dX3_read_1, fT_3_12, dX3_read_4, dX3_read_7, dX3_read_8, dX3_read_11, fT_3_39, dX3_read_14, dX3_read_15, dX3_read_18, dX3_read_19, fT_3_43, dX3_read_22, dX3_read_23, fT_3_29, dX3_read_26, dX3_read_27, dX3_read_30, dX3_read_31, dX3_read_32, fT_3_53, dX3_read_35, dX3_read_36, dX3_read_37, fT_3_57, dX3_read_40, dX3_read_41, dX3_read_42, fT_3_60, dX3_read_45, dX3_read_46, fT_3_21, dX3_read_49, dX3_read_50, dX3_read_51, dX3_read_54, dX3_read_55, dX3_read_56, dX3_read_57, dX3_read_59, dX3_read_61, dX3_read_64, dX3_read_67, dX3_read_68, dX3_read_71, dX3_read_72, dX3_read_75, fT_3_67, dX3_read_78, dX3_read_81, dX3_read_82, dX3_read_85, dX3_read_86, dX3_read_89, dX3_read_92, dX3_read_93, dX3_read_96]
  obtain ⟨mI5, hI5⟩ : ∃ m, m = up2 (up2 (up2 mI4 R 6 0) R 7 0) R 10 0 := ⟨_, rfl⟩
  rw [← hI5]
  have fi5 : ∀ a k, a < n2 → ¬ rdC R a → mI5 a k = mI2 a k := fun a k _ hz => by
    unfold rdC at hz
    rw [hI5, up2_ne (by omega), up2_ne (by omega), up2_ne (by omega), hI4]
    unfold flM
    rw [if_neg (by omega), hI3, up2_ne (by omega)]
  have c5a : mI5 R 6 = nI 0 := by rw [hI5, up2_ne (by omega), up2_ne (by omega), up2_eq]; rfl
  have c5b : mI5 R 7 = nI 0 := by rw [hI5, up2_ne (by omega), up2_eq]; rfl
  have c5c : mI5 R 10 = nI 0 := by rw [hI5, up2_eq]; rfl
  have c5d : mI5 (R + 1) 4 = nI 0 := by
    rw [hI5, up2_ne (by omega), up2_ne (by omega), up2_ne (by omega), hI4]
    unfold flM
    rw [if_neg (by omega), hI3, up2_eq]; rfl
  have c5e : ∀ k, k < 10 → mI5 (R + 16) k = nI 0 := fun k hk => by
    rw [hI5, up2_ne (by omega), up2_ne (by omega), up2_ne (by omega), hI4]
    unfold flM
    rw [if_pos ⟨rfl, hk⟩]; rfl
  clear hI3 hI4 hI5
  refine hG.callV dX3_read_51 mv_3_63 [.ref TP, .int (nI N)] [] (c8_open l X (d - 1) sh2 mI5 mL2 mR3 n2 (R + 13) TP e8 (by omega) eT (by omega) (by omega) t N hN (fun k hk => ⟨(fi5 _ _ (by omega) (by unfold rdC; omega)).trans ((fi2 _ _ (by omega)).trans (hT k hk).1), (hT k hk).2⟩) (by omega)) ⟨_, rfl, rfl⟩ e8 (by omega) rfl (by decide) (by simp [Value.category]) rfl ?_
  rintro r M' ⟨rfl, mI6, mL6, mR6, rfl, k1, k2, k3, k4, k5, k6⟩
  have L6 : RdL sh2 mR6 R n TP := by
    have h3 : ∀ a k, a < n2 → a ≠ R + 13 → ¬ (a = R + 1 ∧ k = 0) → mR6 a k = mR2 a k := fun a k ha hz hy => (k3 a k hz).trans (fr3 a k ha hy)
    have h4 : ∀ a k, a < n → a ≠ R + 13 → ¬ (a = R + 1 ∧ k = 0) → mR6 a k = mR a k := fun a k ha hz hy => (h3 a k (by omega) hz hy).trans (fr2 a k ha)
    refine ⟨e0, hR1, (h4 _ _ (by omega) (by omega) (by omega)).trans r0, (h4 _ _ (by omega) (by omega) (by omega)).trans r1, ⟨(h4 _ _ (by omega) (by omega) (by omega)).trans rn.1, (fs _ (by omega)).trans rn.2⟩, ⟨(h4 _ _ (by omega) (by omega) (by omega)).trans rl.1, e16⟩, ⟨(h4 _ _ (by omega) (by omega) (by omega)).trans rs.1, (fs _ (by omega)).trans rs.2⟩, hO.al (b := 11) (by decide) (by omega) fs (fun x hx => h4 _ _ (by omega) (by omega) (fun z => ?_)), (k3 _ _ (by omega)).trans gS, O4.al (b := 4) (n := n2) (by decide) (by omega) (fun _ _ => rfl) (fun x hx => h3 _ _ (by omega) (by omega) (by omega)), k4, by omega, by omega, by omega⟩
    have : ∀ x ∈ ob6, x.1 ≠ 0 := by decide
    exact this x hx z.2
  have S6 : RsM sh2 mI6 mL6 mR6 R n TP t N 0 := ⟨L6, k5, k6, Nat.zero_le _⟩
  have z6 : ∀ o k, o < 6 → ¬ (o = 5 ∧ k = 0) → mI6 (n + o) k = nI 0 := fun o k ho hz => (k1 _ _ (by omega)).trans ((fi5 _ _ (by omega) (by unfold rdC; omega)).trans (zI o k ho hz))
  have D6 : RdD mI6 mL6 R n (drZ ro) := by
    refine ⟨⟨z6 0 _ (by omega) (by omega), z6 0 _ (by omega) (by omega), (k1 _ _ (by omega)).trans c5d, z6 0 _ (by omega) (by omega), (k1 _ _ (by omega)).trans c5a, (k1 _ _ (by omega)).trans c5b⟩, fun p hp => absurd hp (Nat.not_lt_zero _), fun k hk => absurd hk (Nat.not_lt_zero _), fun k hk => absurd hk (Nat.not_lt_zero _), fun i _ => z6 4 _ (by omega) (by omega), fun a ha => ⟨0, (k1 _ _ (by omega)).trans (c5e a ha), by decide, fun b _ => ?_⟩⟩
    rw [Nat.zero_testBit]
    exact ⟨fun z => (by cases z), fun z => (by cases z)⟩
  have W6 : WiR sh2 mI6 mR6 n n2 (drZ ro 0 6) (drZ ro 10) := ⟨n + 5, [-nI 1], (k3 _ _ (by omega)).trans ((fr3 _ _ (by omega) (by omega)).trans w7), ws5, by show 1 ≤ 1000; omega, Nat.le_refl _, by omega, fun i hi => by
    have hi' : i < 1 := hi
    have : i = 0 := by omega
    subst this
    exact (k1 _ _ (by omega)).trans ((fi5 _ _ (by omega) (by unfold rdC; omega)).trans w5), Or.inl ⟨rfl, rfl⟩⟩
  have f6 : mI6 R 10 = nI 0 := (k1 _ _ (by omega)).trans c5c
  have fr6 : ∀ a k, a < n → ¬ rdC R a → mI6 a k = mI a k ∧ mL6 a k = mL a k ∧ mR6 a k = mR a k := fun a k ha hz => by
    have hz' := hz
    unfold rdC at hz'
    exact ⟨(k1 _ _ (by omega)).trans ((fi5 a k (by omega) hz).trans (fi2 a k ha)), (k2 _ _ (by omega)).trans (fl2 a k ha), (k3 _ _ (by omega)).trans ((fr3 a k (by omega) (by omega)).trans (fr2 a k ha))⟩
  obtain ⟨A, hA⟩ : ∃ A, A = rdAll t N (N + 1) 0 (drZ ro) := ⟨_, rfl⟩
  unfold RdP at hP
  rw [← hA] at hP
  clear k1 k2 k3 k4 k5 k6 fi5 zI z6 c5a c5b c5c c5d c5e fr3 fr2 fi2 fl2 hR3 g0 g1 gl gS O4 L6
  have loop : ∀ f (i p kc qc : Nat) (D : DD) (sh1 : Nat → Option Sh) (mI1 : Nat → Nat → Int32) (mL1 : Nat → Nat → Int64) (mR1 : Nat → Nat → Option Nat) (n1 : Nat), N - p < f → i ≤ p → rdAll t N f p D = A → DrV D → RsM sh1 mI1 mL1 mR1 R n TP t N p → RdD mI1 mL1 R n D → WiR sh1 mI1 mR1 n n1 (D 0 6) (D 10) → mI1 R 10 = nI 0 → (∀ a, a < n → sh1 a = sh a) → (∀ a k, a < n → ¬ rdC R a → mI1 a k = mI a k ∧ mL1 a k = mL a k ∧ mR1 a k = mR a k) → (n + 6 ≤ n1 ∧ n1 ≤ n + 6 + i) → (kc = 6 + D 0 5 ∧ qc = 135 + 1000 * D 0 5) → G kc qc 59 [some (.ref R), some (.ref TP), some (.int (nI N)), some (.int (nI 1)), some (.int (nI i))] [] (sh1, mI1, mL1, mR1, n1) := by
    intro f
    induction f with
    | zero => intro i p kc qc D sh1 mI1 mL1 mR1 n1 h; omega
    | succ f ih =>
      intro i p kc qc D sh1 mI1 mL1 mR1 n1 hf hip hA1 hV S1 D1 W1 z1 a1 a2 a3 a4
      have hp : p ≤ N := S1.2.2.2
      have q0 := S1.1.1
      have r1 := S1.1.2.2.2.1
      have k0 := S1.1.2.2.2.2.2.2.2.2.2.2.1.1
      have kd := S1.2.2.1.2.2.1
      have ci := ckd_iff (t := t) (N := N) (p := p)
      have cl := ci.2.2.2.2
      have v5 : D 0 5 ≤ 1 := hV.1.2.2.2.2.2.1
      by_cases hk : lxK t N p = 0
      · rw [rdAll_0 hk] at hA1
        rw [← hA1] at hP
        have qq := hP (some (.int (nI 0))) (sh1, mI1, mL1, mR1, n1) ⟨sh1, mI1, mL1, mR1, n1, rfl, ⟨by omega, by omega⟩, a1, a2, S1.1.b, rfl, S1.1, D1, W1⟩
        refine hG.run [] 60 ?_ (by omega) (by omega)
        simp [wp, stepI, ln, jmp, cmpI, Value.category, rd, tyF, vrs, vrn, ex_rr, ex_rn, ex_nr, ex_nn, okA_s, okA_n, st1, st2, clr, isLg, CB, inx_0, inx_1, inx_2, inx_3, inx_4, inx_5, bI_0, bI_1, bI_ok, fin3, tyX3, entL, q0, r1, k0, tyX8, nI00, nI10, z1, dX3_read_0, dX3_read_1, fT_3_12, dX3_read_4, dX3_read_7, dX3_read_8, dX3_read_11, fT_3_39, dX3_read_14, dX3_read_15, dX3_read_18, dX3_read_19, fT_3_43, dX3_read_22, dX3_read_23, fT_3_29, dX3_read_26, dX3_read_27, dX3_read_30, dX3_read_31, dX3_read_32, fT_3_53, dX3_read_35, dX3_read_36, dX3_read_37, fT_3_57, dX3_read_40, dX3_read_41, dX3_read_42, fT_3_60, dX3_read_45, dX3_read_46, fT_3_21, dX3_read_49, dX3_read_50, dX3_read_51, dX3_read_54, dX3_read_55, dX3_read_56, dX3_read_57, dX3_read_59, dX3_read_61, dX3_read_64, dX3_read_67, dX3_read_68, dX3_read_71, dX3_read_72, dX3_read_75, fT_3_67, dX3_read_78, dX3_read_81, dX3_read_82, dX3_read_85, dX3_read_86, dX3_read_89, dX3_read_92, dX3_read_93, dX3_read_96]
        rw [kd]
        simp (disch := omega) only [li, nI_add, nI_clamp, nI_ltI, nI_leI, nI_eq, inx_iff, a31, nI_1shl', nI_shr', div_bit, tb1, tb0, fa_or, fa_and, nI_not, pk_sub, nI_dec]
        exact ⟨fun z => absurd z (by omega), fun _ => ⟨fun _ => qq, fun z => absurd (ci.1.mpr hk) z⟩⟩
      · refine hG.run [82, 92] 60 ?_ (by omega) (by omega)
        simp [wp, stepI, ln, jmp, cmpI, Value.category, rd, tyF, vrs, vrn, ex_rr, ex_rn, ex_nr, ex_nn, okA_s, okA_n, st1, st2, clr, isLg, CB, inx_0, inx_1, inx_2, inx_3, inx_4, inx_5, bI_0, bI_1, bI_ok, fin3, tyX3, entL, q0, r1, k0, tyX8, nI00, nI10, z1, dX3_read_0, dX3_read_1, fT_3_12, dX3_read_4, dX3_read_7, dX3_read_8, dX3_read_11, fT_3_39, dX3_read_14, dX3_read_15, dX3_read_18, dX3_read_19, fT_3_43, dX3_read_22, dX3_read_23, fT_3_29, dX3_read_26, dX3_read_27, dX3_read_30, dX3_read_31, dX3_read_32, fT_3_53, dX3_read_35, dX3_read_36, dX3_read_37, fT_3_57, dX3_read_40, dX3_read_41, dX3_read_42, fT_3_60, dX3_read_45, dX3_read_46, fT_3_21, dX3_read_49, dX3_read_50, dX3_read_51, dX3_read_54, dX3_read_55, dX3_read_56, dX3_read_57, dX3_read_59, dX3_read_61, dX3_read_64, dX3_read_67, dX3_read_68, dX3_read_71, dX3_read_72, dX3_read_75, fT_3_67, dX3_read_78, dX3_read_81, dX3_read_82, dX3_read_85, dX3_read_86, dX3_read_89, dX3_read_92, dX3_read_93, dX3_read_96]
        rw [kd]
        simp (disch := omega) only [li, nI_add, nI_clamp, nI_ltI, nI_leI, nI_eq, inx_iff, a31, nI_1shl', nI_shr', div_bit, tb1, tb0, fa_or, fa_and, nI_not, pk_sub, nI_dec]
        refine ⟨fun z => absurd z (by omega), fun _ => ⟨fun z => absurd (ci.1.mp z) hk, fun _ => ?_⟩⟩
        have wt : isW t N p 459791 = true → D 0 5 = 0 → 1 ≤ (if isW t N p 459791 = true ∧ D 0 5 = 0 then 1 else 0) ∧ 1000 ≤ (if isW t N p 459791 = true ∧ D 0 5 = 0 then 1000 else 0) := fun y z => by rw [if_pos ⟨y, z⟩, if_pos ⟨y, z⟩]; omega
        obtain ⟨mc', hmc⟩ : ∃ x, x = (if isW t N p 459791 = true ∧ D 0 5 = 0 then 1 else 0) := ⟨_, rfl⟩
        obtain ⟨ms', hms⟩ : ∃ x, x = (if isW t N p 459791 = true ∧ D 0 5 = 0 then 1000 else 0) := ⟨_, rfl⟩
        rw [← hmc, ← hms] at wt
        have b1 : kc + mc' ≤ 7 := by rw [hmc]; split <;> omega
        have b2 : qc + ms' ≤ 1135 := by rw [hms]; split <;> omega
        refine hG.callV dX3_read_82 mv_3_70 [] [] (c3_readLine l X (d - 1) sh1 mI1 mL1 mR1 n1 R n TP t N p S1 D D1 hV W1 (by omega) (by omega) (by omega) (by omega) mc' ms' wt) ⟨_, rfl, rfl⟩ q0 (by omega) rfl (by decide) (by simp [Value.category]) rfl ?_ b1 b2
        rintro r M' ⟨sh3, mI3, mL3, mR3, n3, rfl, c1, c2, c3, c4, c5, c6, c7⟩
        have a1' : ∀ a, a < n → sh3 a = sh a := fun a ha => (c2 a (by omega)).trans (a1 a ha)
        have a2' : ∀ a k, a < n → ¬ rdC R a → mI3 a k = mI a k ∧ mL3 a k = mL a k ∧ mR3 a k = mR a k := fun a k ha hz => by
          have hz' := hz
          unfold rdC at hz'
          exact ⟨(c3 a k (by omega) (by unfold lnW; omega)).trans (a2 a k ha hz).1, (c4 a k (by omega) (by omega) (by omega)).trans (a2 a k ha hz).2.1, (c5 a k (by omega) (by omega) (by omega)).trans (a2 a k ha hz).2.2⟩
        cases hq : rdLn t N p D with
        | inl e =>
          obtain ⟨rfl, z3⟩ := c7 e hq
          rw [rdAll_l hk hq] at hA1
          rw [← hA1] at hP
          have L3 : RdL sh3 mR3 R n TP := RdL.mR (S1.1.al (mR' := fun a k => if a = R + 13 ∧ k = 7 then mR1 a k else mR3 a k) (n := n1) (by omega) c2 (fun a k ha hz => by
            show (if a = R + 13 ∧ k = 7 then mR1 a k else mR3 a k) = mR1 a k
            split
            · rfl
            · rename_i hy
              exact c5 a k ha hy hz)) (fun a k hx _ => (if_neg hx).symm)
          have qq := hP (some (.int (nI (e.1 + 16 * e.2)))) (sh3, mI3, mL3, mR3, n3) ⟨sh3, mI3, mL3, mR3, n3, rfl, ⟨by omega, by omega⟩, a1', a2', L3.b, rfl, flt_ne (rdLn_bad hN hp e hq)⟩
          have q3 := L3.1
          refine hG.run [] 60 ?_ (by omega) (by omega)
          simp [wp, stepI, ln, jmp, cmpI, Value.category, rd, tyF, vrs, vrn, ex_rr, ex_rn, ex_nr, ex_nn, okA_s, okA_n, st1, st2, clr, isLg, CB, inx_0, inx_1, inx_2, inx_3, inx_4, inx_5, bI_0, bI_1, bI_ok, fin3, tyX3, entL, q3, nI00, nI10, z3, dX3_read_0, dX3_read_1, fT_3_12, dX3_read_4, dX3_read_7, dX3_read_8, dX3_read_11, fT_3_39, dX3_read_14, dX3_read_15, dX3_read_18, dX3_read_19, fT_3_43, dX3_read_22, dX3_read_23, fT_3_29, dX3_read_26, dX3_read_27, dX3_read_30, dX3_read_31, dX3_read_32, fT_3_53, dX3_read_35, dX3_read_36, dX3_read_37, fT_3_57, dX3_read_40, dX3_read_41, dX3_read_42, fT_3_60, dX3_read_45, dX3_read_46, fT_3_21, dX3_read_49, dX3_read_50, dX3_read_51, dX3_read_54, dX3_read_55, dX3_read_56, dX3_read_57, dX3_read_59, dX3_read_61, dX3_read_64, dX3_read_67, dX3_read_68, dX3_read_71, dX3_read_72, dX3_read_75, fT_3_67, dX3_read_78, dX3_read_81, dX3_read_82, dX3_read_85, dX3_read_86, dX3_read_89, dX3_read_92, dX3_read_93, dX3_read_96]
          exact ⟨fun _ => qq, fun _ => qq⟩
        | inr x =>
          obtain ⟨rfl, S3, D3, W3, z3⟩ := c6 x hq
          rw [rdAll_r hk hq] at hA1
          obtain ⟨o1, o2, o3⟩ := rdLn_ok hV hN hp hk hq
          have nx := ih (i + 1) x.1 (kc + mc') (qc + ms') x.2 sh3 mI3 mL3 mR3 n3 (by omega) (by omega) hA1 o1 S3 D3 W3 (z3.trans z1) a1' a2' ⟨by omega, by omega⟩ (by
            have wk := rdLn_5 (t := t) (N := N) (p := p) (D := D) hq
            rw [hmc, hms]
            split
            · rename_i hw
              rw [wk.1 hw.1 hw.2]
              omega
            · rename_i hw
              rw [wk.2 hw]
              omega)
          refine hG.run [59] 60 ?_ (by omega) (by omega)
          simp [wp, stepI, ln, jmp, cmpI, Value.category, rd, tyF, vrs, vrn, ex_rr, ex_rn, ex_nr, ex_nn, okA_s, okA_n, st1, st2, clr, isLg, CB, inx_0, inx_1, inx_2, inx_3, inx_4, inx_5, bI_0, bI_1, bI_ok, fin3, tyX3, entL, nI00, nI10, dX3_read_0, dX3_read_1, fT_3_12, dX3_read_4, dX3_read_7, dX3_read_8, dX3_read_11, fT_3_39, dX3_read_14, dX3_read_15, dX3_read_18, dX3_read_19, fT_3_43, dX3_read_22, dX3_read_23, fT_3_29, dX3_read_26, dX3_read_27, dX3_read_30, dX3_read_31, dX3_read_32, fT_3_53, dX3_read_35, dX3_read_36, dX3_read_37, fT_3_57, dX3_read_40, dX3_read_41, dX3_read_42, fT_3_60, dX3_read_45, dX3_read_46, fT_3_21, dX3_read_49, dX3_read_50, dX3_read_51, dX3_read_54, dX3_read_55, dX3_read_56, dX3_read_57, dX3_read_59, dX3_read_61, dX3_read_64, dX3_read_67, dX3_read_68, dX3_read_71, dX3_read_72, dX3_read_75, fT_3_67, dX3_read_78, dX3_read_81, dX3_read_82, dX3_read_85, dX3_read_86, dX3_read_89, dX3_read_92, dX3_read_93, dX3_read_96]
          simp (disch := omega) only [li, nI_add, nI_clamp, nI_ltI, nI_leI, nI_eq, inx_iff, a31, nI_1shl', nI_shr', div_bit, tb1, tb0, fa_or, fa_and, nI_not, pk_sub, nI_dec]
          exact nx
  refine hG.run [59] 60 ?_ (by omega) (by omega)
  simp [wp, stepI, ln, jmp, cmpI, Value.category, rd, tyF, vrs, vrn, ex_rr, ex_rn, ex_nr, ex_nn, okA_s, okA_n, st1, st2, clr, isLg, CB, inx_0, inx_1, inx_2, inx_3, inx_4, inx_5, bI_0, bI_1, bI_ok, fin3, tyX3, entL, dX3_read_0, dX3_read_1, fT_3_12, dX3_read_4, dX3_read_7, dX3_read_8, dX3_read_11, fT_3_39, dX3_read_14, dX3_read_15, dX3_read_18, dX3_read_19, fT_3_43, dX3_read_22, dX3_read_23, fT_3_29, dX3_read_26, dX3_read_27, dX3_read_30, dX3_read_31, dX3_read_32, fT_3_53, dX3_read_35, dX3_read_36, dX3_read_37, fT_3_57, dX3_read_40, dX3_read_41, dX3_read_42, fT_3_60, dX3_read_45, dX3_read_46, fT_3_21, dX3_read_49, dX3_read_50, dX3_read_51, dX3_read_54, dX3_read_55, dX3_read_56, dX3_read_57, dX3_read_59, dX3_read_61, dX3_read_64, dX3_read_67, dX3_read_68, dX3_read_71, dX3_read_72, dX3_read_75, fT_3_67, dX3_read_78, dX3_read_81, dX3_read_82, dX3_read_85, dX3_read_86, dX3_read_89, dX3_read_92, dX3_read_93, dX3_read_96]
  exact loop (N + 1) 0 0 _ _ (drZ ro) sh2 mI6 mL6 mR6 n2 (by omega) (Nat.le_refl _) hA.symm (drZ_ok hro) S6 D6 W6 f6 fs fr6 ⟨by omega, by omega⟩ ⟨rfl, rfl⟩
