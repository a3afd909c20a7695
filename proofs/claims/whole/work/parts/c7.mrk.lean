theorem mrk_e {mI : Nat → Nat → Int32} {lf : Nat → Nat} (h1 : ∀ m, m < 4 → mI (81 + 12 * m) 7 = nI (lf m)) (h2 : ∀ m, m < 4 → mI 170 m = nI (lf m)) (m b : Int32) : mkB mI m b = amB mI m b := by
  unfold mkB amB
  cases hw : wth m (nI 0) (nI 3) with
  | false => rfl
  | true =>
    obtain ⟨j, hj, rfl⟩ := wth_i hw (by decide)
    rw [nI_clamp (by omega), h1 j (by omega), h2 j (by omega)]
def upD (Am : Nat → DD) (j : Nat) (A : DD) : Nat → DD := fun m => if m = j then A else Am m
theorem mks_M {mI : Nat → Nat → Int32} {A : DD} {Am : Nat → DD} {lf : Nat → Nat} {x : TP} (h : MI2 mI A Am lf x) (hV : AsV A) (hVm : ∀ m, m < 4 → lf m = 1 → AsV (Am m)) (j : Nat) (hj : j < 4) : MI2 (mkI mI j (nI 0)) A (upD Am j A) (upN lf j 1) x := by
  unfold mkI
  rw [if_pos rfl]
  have v1 := hV.1.1
  have v3 := hV.1.2.2.1
  have v5 := hV.1.2.2.2.2
  have u : ∀ a k, ¬ (a = 170 ∧ k = j) → ¬ (a = 129 ∧ k = 0) → up2 (thr mI) 170 j (nI 1) a k = mI a k := fun a k h1 h2 => by unfold thr; rw [up2_ne h1, up2_ne h2]
  have ue : up2 (thr mI) 170 j (nI 1) 170 j = nI 1 := up2_eq ..
  obtain ⟨h1, h2, h3, h4, ro, h5⟩ := h
  generalize up2 (thr mI) 170 j (nI 1) = m1 at u ue ⊢
  have c : ∀ a k, a ≠ 158 → cpM (layI m1 0 (2 + j)) 156 158 0 (144 * j) 144 a k = layI m1 0 (2 + j) a k := fun a k e => cpM_out (by omega)
  have lo : ∀ a k, (a = 156 ∨ a = 158 ∨ a = 170 ∨ a = 130 ∨ a = 129) → layI m1 0 (2 + j) a k = m1 a k := fun a k e => layI_o (by omega) (by omega) (by omega) (by omega) (by omega) (by omega) (by omega) (by omega) (by omega) (by omega)
  have S0 : MdS m1 0 A := h1.fr (fun a k z => u a k (by omega) (by omega))
  have R0 : MdR (layI m1 0 (2 + j)) 156 0 A := (h2.fr (fun i _ => u _ _ (by omega) (by omega)) v1 v3).fr (fun i _ => lo _ _ (by omega)) v1 v3
  refine ⟨(S0.layo v1 v5 (by omega)).fr (fun a k z => c a k (by omega)), R0.fr (fun i _ => c _ _ (by decide)) v1 v3, fun m hm => ?_, ⟨((c _ _ (by decide)).trans ((lo _ _ (by omega)).trans (u _ _ (by omega) (by omega)))).trans h4.1, h4.2.1, fun k hk => ⟨((c _ _ (by decide)).trans ((lo _ _ (by omega)).trans (u _ _ (by omega) (by omega)))).trans (h4.2.2 k hk).1, (h4.2.2 k hk).2⟩⟩, ro, fun k hk => ⟨?_, (h5 k hk).2⟩⟩
  · by_cases e : m = j
    · subst e
      rw [upN_eq]
      refine ⟨((c _ _ (by decide)).trans (lo _ _ (by omega))).trans ue, Nat.le_refl _, fun _ => ?_⟩
      show MdS _ (2 + m) (if m = m then A else Am m) ∧ MdR _ 158 (144 * m) (if m = m then A else Am m)
      rw [if_pos rfl]
      exact ⟨(S0.lay v1 v5 (by omega) (by omega)).fr (fun a k z => c a k (by omega)), R0.cp v1 v3⟩
    · rw [upN_ne e]
      refine ⟨((c _ _ (by decide)).trans ((lo _ _ (by omega)).trans (u _ _ (by omega) (by omega)))).trans (h3 m hm).1, (h3 m hm).2.1, fun z => ?_⟩
      have w1 := (hVm m hm z).1.1
      have w3 := (hVm m hm z).1.2.2.1
      have w5 := (hVm m hm z).1.2.2.2.2
      show MdS _ (2 + m) (if m = j then A else Am m) ∧ MdR _ 158 (144 * m) (if m = j then A else Am m)
      rw [if_neg e]
      obtain ⟨g1, g2⟩ := (h3 m hm).2.2 z
      refine ⟨((g1.fr (fun a k z => u a k (by omega) (by omega))).layo w1 w5 (by omega)).fr (fun a k z => c a k (by omega)), g2.fr (fun i hi => ?_) w1 w3⟩
      rw [cpM_out (by omega)]
      exact (lo _ _ (by omega)).trans (u _ _ (by omega) (by omega))
  · have d1 := layI_3 (mI := m1) (f := 0) (t := 2 + j) (s := 1) hk
    rw [if_neg (by omega)] at d1
    rw [c _ _ (by decide)]
    exact (d1.trans (u _ _ (by omega) (by omega))).trans (h5 k hk).1
theorem mkb_M {mI : Nat → Nat → Int32} {A : DD} {Am : Nat → DD} {lf : Nat → Nat} {x : TP} {b : Int32} (h : MI2 mI A Am lf x) (hVm : ∀ m, m < 4 → lf m = 1 → AsV (Am m)) (j : Nat) (hj : j < 4) (hl : lf j = 1) (hb : b ≠ nI 0) : MI2 (mkI mI j b) (Am j) Am lf x := by
  unfold mkI
  rw [if_neg hb]
  have hV := hVm j hj hl
  have v1 := hV.1.1
  have v3 := hV.1.2.2.1
  have v5 := hV.1.2.2.2.2
  have u : ∀ a k, ¬ (a = 170 ∧ k = j) → ¬ (a = 129 ∧ k = 0) → up2 (thr mI) 170 j (nI 1) a k = mI a k := fun a k h1 h2 => by unfold thr; rw [up2_ne h1, up2_ne h2]
  have ue : up2 (thr mI) 170 j (nI 1) 170 j = nI 1 := up2_eq ..
  obtain ⟨h1, h2, h3, h4, ro, h5⟩ := h
  generalize up2 (thr mI) 170 j (nI 1) = m1 at u ue ⊢
  have c : ∀ a k, a ≠ 156 → cpM (layI m1 (2 + j) 0) 158 156 (144 * j) 0 144 a k = layI m1 (2 + j) 0 a k := fun a k e => cpM_out (by omega)
  have lo : ∀ a k, (a = 156 ∨ a = 158 ∨ a = 170 ∨ a = 130 ∨ a = 129) → layI m1 (2 + j) 0 a k = m1 a k := fun a k e => layI_o (by omega) (by omega) (by omega) (by omega) (by omega) (by omega) (by omega) (by omega) (by omega) (by omega)
  obtain ⟨gS, gR⟩ := (h3 j hj).2.2 hl
  have S0 : MdS m1 (2 + j) (Am j) := gS.fr (fun a k z => u a k (by omega) (by omega))
  have R0 : MdR (layI m1 (2 + j) 0) 158 (144 * j) (Am j) := (gR.fr (fun i _ => u _ _ (by omega) (by omega)) v1 v3).fr (fun i _ => lo _ _ (by omega)) v1 v3
  refine ⟨(S0.lay v1 v5 (by omega) (by omega)).fr (fun a k z => c a k (by omega)), R0.cp v1 v3, fun m hm => ?_, ⟨((c _ _ (by decide)).trans ((lo _ _ (by omega)).trans (u _ _ (by omega) (by omega)))).trans h4.1, h4.2.1, fun k hk => ⟨((c _ _ (by decide)).trans ((lo _ _ (by omega)).trans (u _ _ (by omega) (by omega)))).trans (h4.2.2 k hk).1, (h4.2.2 k hk).2⟩⟩, ro, fun k hk => ⟨?_, (h5 k hk).2⟩⟩
  · refine ⟨(c _ _ (by decide)).trans ((lo _ _ (by omega)).trans ?_), (h3 m hm).2.1, fun z => ?_⟩
    · by_cases e : m = j
      · subst e; rw [ue, hl]
      · exact (u _ _ (by omega) (by omega)).trans (h3 m hm).1
    · have w1 := (hVm m hm z).1.1
      have w3 := (hVm m hm z).1.2.2.1
      have w5 := (hVm m hm z).1.2.2.2.2
      obtain ⟨g1, g2⟩ := (h3 m hm).2.2 z
      exact ⟨((g1.fr (fun a k z => u a k (by omega) (by omega))).layo w1 w5 (by omega)).fr (fun a k z => c a k (by omega)), g2.fr (fun i hi => (c _ _ (by decide)).trans ((lo _ _ (by omega)).trans (u _ _ (by omega) (by omega)))) w1 w3⟩
  · have d1 := layI_3 (mI := m1) (f := 2 + j) (t := 0) (s := 1) hk
    rw [if_neg (by omega)] at d1
    rw [c _ _ (by decide)]
    exact (d1.trans (u _ _ (by omega) (by omega))).trans (h5 k hk).1
theorem mkI_o {mI : Nat → Nat → Int32} {j : Nat} {b : Int32} {a k : Nat} (h : ¬ (129 ≤ a ∧ a ≤ 170)) : mkI mI j b a k = mI a k := by
  unfold mkI thr
  split
  · rw [cpM_out (by omega), layI_o (by omega) (by omega) (by omega) (by omega) (by omega) (by omega) (by omega) (by omega) (by omega) (by omega), up2_ne (by omega), up2_ne (by omega)]
  · rw [cpM_out (by omega), layI_o (by omega) (by omega) (by omega) (by omega) (by omega) (by omega) (by omega) (by omega) (by omega) (by omega), up2_ne (by omega), up2_ne (by omega)]
set_option maxHeartbeats 1600000 in
set_option maxRecDepth 100000 in
theorem lw_25 (l : Launch) (X : Cx) (N : Nat) (xs : Nat → Int32) (P : Option Value → Mm → Prop) (G : Nat → Nat → Nat → List (Option Value) → List Value → Mm → Prop) (hG : GL l X N xs P G) (sh : Nat → Option Sh) (mI : Nat → Nat → Int32) (mL : Nat → Nat → Int64) (mR : Nat → Nat → Option Nat) (n k q i : Nat) (v5 v6 : Option Value) (hN : N ≤ 3584) (hi : i + 7 ≤ N) (hk : k + 7 ≤ 601024) (hq : q + 1135 ≤ 7293034) (hnk : n ≤ k) (hsc : sh 1000000022 = some (.inr (.int, N))) (hxs : ∀ j, mI 1000000022 j = xs j) (hL : ML sh mR) (h171 : sh 171 = some (.inr (.long, 1))) (A : DD) (Am : Nat → DD) (lf : Nat → Nat) (x : TP) (hC : CI sh mI mL mR n A Am lf x) (hM : MI2 mI A Am lf x) (nx : ∀ v5 v6 M', JJ M' → G (k + 7) (q + 1135) 1081 (lL i v5 v6) [] M') : G k q 1003 (lL i v5 v6) [] (sh, mI, mL, mR, n) := by
  obtain ⟨hGa, hWd, hbd, hfx, hcl⟩ := hG
  have q0 := hC.1.1
  have m0 := hL.1
  have hB := hC.1
  have hV := hC.2.2.1
  obtain ⟨C, hS⟩ := hC.2.2.2.1
  have hK := hC.2.2.2.2.1
  unfold lL at nx ⊢
  have hT := hC.2.2.2.2.2.2.1
  have hds := hC.2.2.2.2.2.2.2
  have h172 := hC.2.1
  have hmk := hC.2.2.2.2.2.1
  have hVm : ∀ m, m < 4 → lf m = 1 → AsV (Am m) := fun m hm z => ((hmk m hm).2.2 z).1
  have hCm : ∀ j, j < 4 → mR (81 + 12 * j) 0 = some ((mR (81 + 12 * j) 0).getD 0) := fun j hj => by obtain ⟨C2, g⟩ := (hmk j hj).2.1; rw [g]; rfl
  have go : ∀ b : Int32, (b = nI 0 ∨ b = nI 1) → (xs (i + 2) = 0 ↔ b = nI 0) → G k q 1024 [some (.ref 1000000022), some (.ref 0), some (.ref 129), some (.ref 171), some (.int (nI i)), v5, v6] [.int b, .int (xs (i + 1)), .ref 0] (sh, mI, mL, mR, n) := by
    intro b hb01 hbx
    refine hGa.callV dL_law_1024 mv_13_133 [.int (xs (i + 1)), .int b] [] (c11_mark l X 2000 sh mI mL mR n hB C hS.1 (fun j => (mR (81 + 12 * j) 0).getD 0) hCm (xs (i + 1)) b (by decide)) ⟨_, rfl, rfl⟩ q0 (by decide) rfl (by decide) (by simp [Value.category]) rfl ?_
    rintro r M' ⟨rfl, hno, hyes⟩
    have sec : ∀ (mI1 : Nat → Nat → Int32) (mR1 : Nat → Nat → Option Nat), ML sh mR1 → (∀ j, mI1 1000000022 j = xs j) → mkB mI1 (xs (i + 1)) b = amB mI (xs (i + 1)) b → JJ (sh, if amB mI (xs (i + 1)) b then mkI mI1 (xs (i + 1)).toNatClampNeg b else thr mI1, mL, mR1, n) → G (k + 0) (q + 0) 1027 [some (.ref 1000000022), some (.ref 0), some (.ref 129), some (.ref 171), some (.int (nI i)), v5, v6] [.int (bI (amB mI (xs (i + 1)) b))] (sh, mI1, mL, mR1, n) := by
      intro mI1 mR1 hL1 hxs1 he hJ
      have fin := hWd _ _ _ _ _ _ _ _ (show k + 0 + 0 ≤ k + 7 by omega) (show q + 0 + 0 ≤ q + 1135 by omega) (nx v5 v6 _ hJ)
      have g48 : G (k + 0) (q + 0) 1048 [some (.ref 1000000022), some (.ref 0), some (.ref 129), some (.ref 171), some (.int (nI i)), v5, v6] [.int b, .int (xs (i + 1)), .ref 129, .int (bI (amB mI (xs (i + 1)) b))] (sh, mI1, mL, mR1, n) := by
        refine hGa.callV dL_law_1048 mv_13_137 [.int (xs (i + 1)), .int b] [.int (bI (amB mI (xs (i + 1)) b))] (c12_mark l X 2000 sh mI1 mL mR1 n hL1 (xs (i + 1)) b (by decide)) ⟨_, rfl, rfl⟩ m0 (by decide) rfl (by decide) (by simp [Value.category]) rfl ?_
        rintro r M' ⟨rfl, rfl⟩
        rw [he]
        refine hGa.run [1081] 60 ?_
        simp [wp, stepI, ln, jmp, cmpI, Value.category, rd, tyF, va_rf, st1, st2, clr, isLg, CB, inx_0, inx_1, inx_2, inx_3, inx_4, inx_5, bI_0, bI_1, bI_ok, fin3, q0, m0, hsc, dL_law_1051, dL_law_1054, dL_law_1055, dL_law_1056]
        exact fin
      refine hGa.run [1048] 60 ?_
      simp [wp, stepI, ln, jmp, cmpI, Value.category, rd, tyF, va_rf, st1, st2, clr, isLg, CB, inx_0, inx_1, inx_2, inx_3, inx_4, inx_5, bI_0, bI_1, bI_ok, fin3, q0, m0, hsc, dL_law_1027, dL_law_1028, dL_law_1029, dL_law_1031, dL_law_1032, dL_law_1033, dL_law_1034, dL_law_1035, dL_law_1037, dL_law_1038, dL_law_1039, dL_law_1040, dL_law_1043, dL_law_1044, dL_law_1047, dL_law_1048]
      simp (disch := omega) only [li, nI_add, nI_clamp, nI_ltI, nI_leI, nI_eq, inx_iff, a31, nI_1shl', nI_shr', div_bit, tb1, tb0, fa_or, fa_and, nI_not, pk_sub, nI_dec, hxs1]
      refine ⟨by omega, by omega, ?_⟩
      rcases hb01 with rfl | rfl
      · exact ⟨fun _ => g48, fun z => absurd (hbx.mpr rfl) z⟩
      · exact ⟨fun z => absurd (hbx.mp z) (by decide), fun _ => g48⟩
    have eM : mkB mI (xs (i + 1)) b = amB mI (xs (i + 1)) b := mrk_e (fun m hm => (hmk m hm).1) (fun m hm => (hM.2.2.1 m hm).1) _ _
    cases hb : amB mI (xs (i + 1)) b with
    | false =>
      obtain rfl := hno hb
      have := sec mI mR hL hxs eM (by rw [hb]; exact jj_r hC hL h171 (fun _ _ _ => rfl) (fun _ _ _ => rfl) hK (thr_o _) (fun _ _ _ => rfl) hM.th)
      rw [hb] at this
      exact this
    | true =>
      have hb2 := hb
      unfold amB at hb2
      rw [Bool.and_eq_true] at hb2
      obtain ⟨j, hj, ej⟩ := wth_i hb2.1 (by decide)
      have cj : (xs (i + 1)).toNatClampNeg = j := by rw [ej]; exact nI_clamp (by omega)
      obtain ⟨y1, y2⟩ := hyes hb
      rw [cj] at y1 y2
      by_cases b0 : b = nI 0
      · obtain rfl := y1 b0
        obtain ⟨S, hSe⟩ : ∃ S, S = 81 + 12 * j := ⟨_, rfl⟩
        rw [← hSe]
        have i1 : ∀ a k, ¬ (a = S ∧ (k = 4 ∨ k = 7)) → a ≠ S + 7 → a ≠ S + 8 → a ≠ S + 9 → a ≠ S + 10 → a ≠ S + 11 → up2 (cpS mI S 20) S 7 1 a k = mI a k := fun a k h0 h1 h2 h3 h4 h5 => (up2_ne (by omega)).trans (cpS_o (by omega) h1 h2 h3 h4 h5)
        have r1 : ∀ a k, ¬ (a = S ∧ k = 0) → up2 mR S 0 (some C) a k = mR a k := fun a k h => up2_ne h
        have r2 : up2 mR S 0 (some C) S 0 = some C := up2_eq ..
        have sc := ShA.cp (S := S) hS hV (by omega) (by omega)
        have i7 : up2 (cpS mI S 20) S 7 1 S 7 = nI 1 := up2_eq ..
        have in7 : ∀ a k, ¬ (a = S ∧ k = 7) → up2 (cpS mI S 20) S 7 1 a k = cpS mI S 20 a k := fun a k h => up2_ne h
        generalize up2 (cpS mI S 20) S 7 1 = mI1 at i1 i7 in7 ⊢
        generalize up2 mR S 0 (some C) = mR1 at r1 r2 sc ⊢
        have ss : ShA sh mI1 mR1 n S C A := ShA.mk2 r2 (sc.2.1.fr2 (Nat.le_refl _) (fun _ _ => rfl) (fun _ _ _ _ => rfl) (fun a k z _ => in7 a k (by omega))) ((in7 _ _ (by omega)).trans sc.2.2.1) (fun k hk => ⟨(in7 _ _ (by omega)).trans (sc.2.2.2.1 k hk).1, (in7 _ _ (by omega)).trans (sc.2.2.2.1 k hk).2.1, (in7 _ _ (by omega)).trans (sc.2.2.2.1 k hk).2.2⟩) (fun p hp => ⟨(in7 _ _ (by omega)).trans (sc.2.2.2.2 p hp).1, (in7 _ _ (by omega)).trans (sc.2.2.2.2 p hp).2⟩)
        have M1 : MI2 mI1 A Am lf x := hM.fr (fun a k z => i1 a k (by unfold mdC at z; omega) (by unfold mdC at z; omega) (by unfold mdC at z; omega) (by unfold mdC at z; omega) (by unfold mdC at z; omega) (by unfold mdC at z; omega))
        have hL1 : ML sh mR1 := hL.fr (fun _ _ => rfl) (fun k => r1 _ _ (by omega))
        have B1 : BL sh mR1 := hB.fr (fun _ _ => rfl) (hB.2.2.1.2.fr (fun _ _ => rfl) (fun a k _ _ => r1 a k (by omega))) (fun a k _ _ h => r1 a k (by omega))
        have M2 := mks_M M1 hV hVm j (by omega)
        have o2 : ∀ a k, ¬ (129 ≤ a ∧ a ≤ 170) → mkI mI1 j (nI 0) a k = mI1 a k := fun a k h => mkI_o h
        have eM1 : mkB mI1 (xs (i + 1)) b = amB mI (xs (i + 1)) b := by
          rw [← eM]
          unfold mkB
          rw [ej, nI_clamp (by omega), i1 170 j (by omega) (by omega) (by omega) (by omega) (by omega) (by omega)]
        have J : JJ (sh, mkI mI1 j (nI 0), mL, mR1, n) := by
          generalize mkI mI1 j (nI 0) = mI2 at M2 o2 ⊢
          have g : ∀ a k, ¬ (129 ≤ a ∧ a ≤ 170) → ¬ (a = S ∧ (k = 4 ∨ k = 7)) → a ≠ S + 7 → a ≠ S + 8 → a ≠ S + 9 → a ≠ S + 10 → a ≠ S + 11 → mI2 a k = mI a k := fun a k h h0 h1 h2 h3 h4 h5 => (o2 a k h).trans (i1 a k h0 h1 h2 h3 h4 h5)
          refine ⟨hL1, h171, A, upD Am j A, upN lf j 1, x, ⟨B1, h172, hV, ⟨C, hS.fr3 (Nat.le_refl _) (by omega) (fun _ _ => rfl) (r1 _ _ (by omega)) (fun a k z _ => r1 a k (by omega)) (fun a k z _ => g a k (by omega) (by omega) (by omega) (by omega) (by omega) (by omega) (by omega))⟩, hK.fr (fun a k h1 h2 => g a k (by omega) (by omega) (by omega) (by omega) (by omega) (by omega) (by omega)) (fun _ _ _ _ => rfl), fun m hm => ?_, ⟨(g _ _ (by omega) (by omega) (by omega) (by omega) (by omega) (by omega) (by omega)).trans hT.1, hT.2.1, fun k hk => ⟨(g _ _ (by omega) (by omega) (by omega) (by omega) (by omega) (by omega) (by omega)).trans (hT.2.2 k hk).1, (hT.2.2 k hk).2⟩⟩, fun p hp => ⟨(g _ _ (by omega) (by omega) (by omega) (by omega) (by omega) (by omega) (by omega)).trans (hds p hp).1, (g _ _ (by omega) (by omega) (by omega) (by omega) (by omega) (by omega) (by omega)).trans (hds p hp).2⟩⟩, M2⟩
          by_cases e : m = j
          · subst e
            rw [upN_eq, ← hSe]
            refine ⟨(o2 _ _ (by omega)).trans i7, ⟨C, r2⟩, fun _ => ?_⟩
            show AsV (if m = m then A else Am m) ∧ ∃ C, ShA sh mI2 mR1 n S C (if m = m then A else Am m)
            rw [if_pos rfl]
            exact ⟨hV, C, ss.fr3 (Nat.le_refl _) (by omega) (fun _ _ => rfl) rfl (fun _ _ _ _ => rfl) (fun a k z _ => o2 a k (by omega))⟩
          · rw [upN_ne e]
            obtain ⟨g1, ⟨C2, g2⟩, g3⟩ := hmk m hm
            refine ⟨(g _ _ (by omega) (by omega) (by omega) (by omega) (by omega) (by omega) (by omega)).trans g1, ⟨C2, (r1 _ _ (by omega)).trans g2⟩, fun z => ?_⟩
            obtain ⟨w1, C3, w2⟩ := g3 z
            show AsV (if m = j then A else Am m) ∧ ∃ C, ShA sh mI2 mR1 n (81 + 12 * m) C (if m = j then A else Am m)
            rw [if_neg e]
            exact ⟨w1, C3, w2.fr3 (Nat.le_refl _) (by omega) (fun _ _ => rfl) (r1 _ _ (by omega)) (fun a k z _ => r1 a k (by omega)) (fun a k z _ => g a k (by omega) (by omega) (by omega) (by omega) (by omega) (by omega) (by omega))⟩
        have := sec mI1 mR1 hL1 (fun j => (i1 _ _ (by omega) (by omega) (by omega) (by omega) (by omega) (by omega)).trans (hxs j)) eM1 (by rw [hb, if_pos rfl, cj, b0]; exact J)
        rw [hb] at this
        exact this
      · obtain rfl := y2 b0
        have hl1 : lf j = 1 := by
          have z := hb2.2
          rw [decide_eq_false b0, Bool.false_or, cj, (hmk j (by omega)).1] at z
          have le := (hM.2.2.1 j (by omega)).2.1
          have : lf j ≠ 0 := fun w => by rw [w, decide_eq_true rfl] at z; cases z
          omega
        obtain ⟨w1, C3, w2⟩ := (hmk j (by omega)).2.2 hl1
        have e3 : (mR (81 + 12 * j) 0).getD 0 = C3 := by rw [w2.1]; rfl
        rw [e3]
        obtain ⟨S, hSe⟩ : ∃ S, S = 81 + 12 * j := ⟨_, rfl⟩
        rw [← hSe] at w2 ⊢
        have sc := ShA.cp (S := 20) w2 w1 (by omega) (by omega)
        have i1 : ∀ a k, ¬ (a = 20 ∧ k = 4) → ¬ (27 ≤ a ∧ a ≤ 31) → cpS mI 20 S a k = mI a k := fun a k h0 h1 => cpS_o (by omega) (by omega) (by omega) (by omega) (by omega) (by omega)
        have r1 : ∀ a k, ¬ (a = 20 ∧ k = 0) → up2 mR 20 0 (some C3) a k = mR a k := fun a k h => up2_ne h
        generalize cpS mI 20 S = m0I at i1 sc ⊢
        generalize up2 mR 20 0 (some C3) = mR1 at r1 sc ⊢
        have fg : ∀ a k, ¬ (33 ≤ a ∧ a ≤ 80) → a ≠ 20 → ¬ (27 ≤ a ∧ a ≤ 31) → fgI m0I a k = mI a k := fun a k h h1 h2 => (fgI_o (by omega)).trans (i1 a k (by omega) h2)
        have M1 : MI2 (fgI m0I) A Am lf x := hM.fr (fun a k z => fg a k (by unfold mdC at z; omega) (by unfold mdC at z; omega) (by unfold mdC at z; omega))
        have K1 : KpI (fgI m0I) mL (Am j) := KpI.fg (hK.fr (fun a k h1 h2 => i1 a k (by omega) (by omega)) (fun _ _ _ _ => rfl)) _
        have hL1 : ML sh mR1 := hL.fr (fun _ _ => rfl) (fun k => r1 _ _ (by omega))
        have B1 : BL sh mR1 := hB.fr (fun _ _ => rfl) (hB.2.2.1.2.fr (fun _ _ => rfl) (fun a k _ _ => r1 a k (by omega))) (fun a k _ _ h => r1 a k (by omega))
        have M2 := mkb_M M1 hVm j (by omega) hl1 b0
        have o2 : ∀ a k, ¬ (129 ≤ a ∧ a ≤ 170) → mkI (fgI m0I) j b a k = fgI m0I a k := fun a k h => mkI_o h
        have eM1 : mkB (fgI m0I) (xs (i + 1)) b = amB mI (xs (i + 1)) b := by
          rw [← eM]
          unfold mkB
          rw [ej, nI_clamp (by omega), fg 170 j (by omega) (by omega) (by omega)]
        have J : JJ (sh, mkI (fgI m0I) j b, mL, mR1, n) := by
          generalize mkI (fgI m0I) j b = mI2 at M2 o2 ⊢
          have g : ∀ a k, ¬ (129 ≤ a ∧ a ≤ 170) → ¬ (33 ≤ a ∧ a ≤ 80) → a ≠ 20 → ¬ (27 ≤ a ∧ a ≤ 31) → mI2 a k = mI a k := fun a k h h0 h1 h2 => (o2 a k h).trans (fg a k h0 h1 h2)
          have S2 : ShA sh mI2 mR1 n 20 C3 (Am j) := sc.fr3 (Nat.le_refl _) (by omega) (fun _ _ => rfl) rfl (fun _ _ _ _ => rfl) (fun a k z _ => (o2 a k (by omega)).trans (fgI_o (by omega)))
          exact ⟨hL1, h171, Am j, Am, lf, x, hC.set2 (Nat.le_refl _) (fun _ _ => rfl) B1 w1 S2 (K1.fr (fun a k h1 h2 => o2 a k (by omega)) (fun _ _ _ _ => rfl)) (fun a k _ h1 h2 h3 h4 h5 => g a k h2 h1 h3 h4) (fun a k _ h1 h2 h3 => r1 a k h2) ⟨(g _ _ (by omega) (by omega) (by omega) (by omega)).trans hT.1, hT.2.1, fun k hk => ⟨(g _ _ (by omega) (by omega) (by omega) (by omega)).trans (hT.2.2 k hk).1, (hT.2.2 k hk).2⟩⟩ (fun p hp => ⟨(g _ _ (by omega) (by omega) (by omega) (by omega)).trans (hds p hp).1, (g _ _ (by omega) (by omega) (by omega) (by omega)).trans (hds p hp).2⟩), M2⟩
        have := sec (fgI m0I) mR1 hL1 (fun j => (fg _ _ (by omega) (by omega) (by omega)).trans (hxs j)) eM1 (by rw [hb, if_pos rfl, cj]; exact J)
        rw [hb] at this
        exact this
  refine hGa.run [1024] 60 ?_
  simp [wp, stepI, ln, jmp, cmpI, Value.category, rd, tyF, va_rf, st1, st2, clr, isLg, CB, inx_0, inx_1, inx_2, inx_3, inx_4, inx_5, bI_0, bI_1, bI_ok, fin3, q0, m0, hsc, dL_law_1003, dL_law_1004, dL_law_1005, dL_law_1007, dL_law_1008, dL_law_1009, dL_law_1010, dL_law_1011, dL_law_1013, dL_law_1014, dL_law_1015, dL_law_1016, dL_law_1019, dL_law_1020, dL_law_1023, dL_law_1024]
  simp (disch := omega) only [li, nI_add, nI_clamp, nI_ltI, nI_leI, nI_eq, inx_iff, a31, nI_1shl', nI_shr', div_bit, tb1, tb0, fa_or, fa_and, nI_not, pk_sub, nI_dec, hxs]
  refine ⟨by omega, by omega, fun z => go 0 (Or.inl rfl) ⟨fun _ => rfl, fun _ => z⟩, fun z => go 1 (Or.inr rfl) ⟨fun w => absurd w z, fun w => absurd w (by decide)⟩⟩
