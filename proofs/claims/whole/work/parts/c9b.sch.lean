theorem rdR_f {a k : Nat} (h1 : ¬ (a = 129 ∧ k ≠ 0 ∧ k ≠ 1 ∧ k ≠ 3)) (h2 : ¬ (142 ≤ a ∧ a ≤ 145)) (h3 : (a = 131 ∨ a = 132 ∨ a = 133 ∨ a = 139 ∨ a = 140) → k ≠ 1) (h4 : (a = 135 ∨ a = 136) → ¬ (10 ≤ k ∧ k < 20)) (h5 : a = 137 → ¬ (6 ≤ k ∧ k < 12)) (h6 : a = 138 → ¬ (100 ≤ k ∧ k < 200)) (h7 : a = 141 → ¬ (1000 ≤ k ∧ k < 2000)) : rdR a k = false := by
  cases hr : rdR a k with
  | false => rfl
  | true =>
    exfalso
    unfold rdR at hr
    simp only [Bool.or_eq_true, Bool.and_eq_true, decide_eq_true_eq, List.mem_cons, List.not_mem_nil, or_false] at hr
    omega
theorem MdS.rd {mI mI' : Nat → Nat → Int32} {s : Nat} {A : DD} (h : MdS mI s A) (hnp : A 0 0 ≤ 10) (hwn : A 0 6 ≤ 1000) (hs : s ≠ 1) (he : ∀ a k, rdR a k = false → mI' a k = mI a k) : MdS mI' s A := by
  obtain ⟨⟨a1, a2, a3⟩, a4, a5, a6, ⟨a7, a8⟩, a9⟩ := h
  have g : ∀ a k, a ≠ 129 → ¬ (142 ≤ a ∧ a ≤ 145) → ((a = 131 ∨ a = 132 ∨ a = 133 ∨ a = 139 ∨ a = 140) → k ≠ 1) → ((a = 135 ∨ a = 136) → ¬ (10 ≤ k ∧ k < 20)) → (a = 137 → ¬ (6 ≤ k ∧ k < 12)) → (a = 138 → ¬ (100 ≤ k ∧ k < 200)) → (a = 141 → ¬ (1000 ≤ k ∧ k < 2000)) → mI' a k = mI a k := fun a k b1 b2 b3 b4 b5 b6 b7 => he a k (rdR_f (by omega) b2 b3 b4 b5 b6 b7)
  refine ⟨⟨?_, ?_, ?_⟩, fun p hp => ⟨?_, ?_⟩, fun k hk => ?_, fun i hi => ?_, ⟨?_, ?_⟩, fun i hi => ?_⟩
  · exact (g _ _ (by omega) (by omega) (by omega) (by omega) (by omega) (by omega) (by omega)).trans a1
  · exact (g _ _ (by omega) (by omega) (by omega) (by omega) (by omega) (by omega) (by omega)).trans a2
  · exact (g _ _ (by omega) (by omega) (by omega) (by omega) (by omega) (by omega) (by omega)).trans a3
  · exact (g _ _ (by omega) (by omega) (by omega) (by omega) (by omega) (by omega) (by omega)).trans (a4 p hp).1
  · exact (g _ _ (by omega) (by omega) (by omega) (by omega) (by omega) (by omega) (by omega)).trans (a4 p hp).2
  · exact (g _ _ (by omega) (by omega) (by omega) (by omega) (by omega) (by omega) (by omega)).trans (a5 k hk)
  · exact (g _ _ (by omega) (by omega) (by omega) (by omega) (by omega) (by omega) (by omega)).trans (a6 i hi)
  · exact (g _ _ (by omega) (by omega) (by omega) (by omega) (by omega) (by omega) (by omega)).trans a7
  · exact (g _ _ (by omega) (by omega) (by omega) (by omega) (by omega) (by omega) (by omega)).trans a8
  · exact (g _ _ (by omega) (by omega) (by omega) (by omega) (by omega) (by omega) (by omega)).trans (a9 i hi)
theorem sch_bad {mI mI' : Nat → Nat → Int32} {A : DD} {Am : Nat → DD} {lf : Nat → Nat} {x : TP} {T : Nat} (h : MI2 mI A Am lf x) (hV : AsV A) (hVm : ∀ m, m < 4 → lf m = 1 → AsV (Am m)) (he : EqR (up2 (up2 (thr mI) 129 3 (nI T)) 129 1 (nI 0)) mI') : MI2 mI' A Am lf (x.1, 0) := by
  obtain ⟨h1, h2, h3, h4, ro, h5⟩ := h
  have u : ∀ a k, a ≠ 129 → up2 (up2 (thr mI) 129 3 (nI T)) 129 1 (nI 0) a k = mI a k := fun a k h1 => by unfold thr; rw [up2_ne (fun z => h1 z.1), up2_ne (fun z => h1 z.1), up2_ne (fun z => h1 z.1)]
  have e1 : up2 (up2 (thr mI) 129 3 (nI T)) 129 1 (nI 0) 129 1 = nI 0 := up2_eq ..
  generalize up2 (up2 (thr mI) 129 3 (nI T)) 129 1 (nI 0) = B at he u e1
  have g : ∀ a k, (a = 156 ∨ a = 158 ∨ a = 170 ∨ a = 130) → mI' a k = mI a k := fun a k z => (he.1 a k (rdR_f (by omega) (by omega) (by omega) (by omega) (by omega) (by omega) (by omega))).trans (u a k (by omega))
  have sl : ∀ s D, AsV D → s ≠ 1 → MdS mI s D → MdS mI' s D := fun s D v hs z => (z.fr (fun a k w => u a k (by omega))).rd v.1.1 v.1.2.2.2.2 hs he.1
  refine ⟨sl 0 A hV (by decide) h1, h2.fr (fun j _ => g _ _ (by omega)) hV.1.1 hV.1.2.2.1, fun m hm => ⟨(g _ _ (by omega)).trans (h3 m hm).1, (h3 m hm).2.1, fun z => ⟨sl _ _ (hVm m hm z) (by omega) ((h3 m hm).2.2 z).1, ((h3 m hm).2.2 z).2.fr (fun j _ => g _ _ (by omega)) (hVm m hm z).1.1 (hVm m hm z).1.2.2.1⟩⟩, ⟨(he.1 _ _ (by decide)).trans e1, Nat.zero_le _, fun k hk => absurd hk (Nat.not_lt_zero _)⟩, ?_⟩
  have rw := he.2 (fun k hk => ⟨ro k, (h5 k hk).2, (u _ _ (by decide)).trans (h5 k hk).1⟩)
  refine ⟨fun k => if hk : k < 6 then Classical.choose (rw k hk) else 0, fun k hk => ?_⟩
  show mI' 137 (6 + k) = nI (if hk : k < 6 then Classical.choose (rw k hk) else 0) ∧ (if hk : k < 6 then Classical.choose (rw k hk) else 0) ≤ 9
  rw [dif_pos hk]
  exact ⟨(Classical.choose_spec (rw k hk)).2, (Classical.choose_spec (rw k hk)).1⟩
theorem sch_good {mI mI' : Nat → Nat → Int32} {mL' : Nat → Nat → Int64} {A : DD} {Am : Nat → DD} {lf : Nat → Nat} {x : TP} {T : Nat} {D : DD} (h : MI2 mI A Am lf x) (hVm : ∀ m, m < 4 → lf m = 1 → AsV (Am m)) (he : EqR (up2 (up2 (thr mI) 129 3 (nI T)) 129 1 (nI 0)) mI') (hD : DrM mI' mL' D) (hV : DrV D) : MI2 (schI mI') (aSch D) Am lf (x.1, 0) := by
  obtain ⟨h1, h2, h3, h4, ro, h5⟩ := h
  have u : ∀ a k, a ≠ 129 → up2 (up2 (thr mI) 129 3 (nI T)) 129 1 (nI 0) a k = mI a k := fun a k h1 => by unfold thr; rw [up2_ne (fun z => h1 z.1), up2_ne (fun z => h1 z.1), up2_ne (fun z => h1 z.1)]
  have e1 : up2 (up2 (thr mI) 129 3 (nI T)) 129 1 (nI 0) 129 1 = nI 0 := up2_eq ..
  generalize up2 (up2 (thr mI) 129 3 (nI T)) 129 1 (nI 0) = B at he u e1
  have g : ∀ a k, (a = 156 ∨ a = 158 ∨ a = 170 ∨ a = 130) → mI' a k = mI a k := fun a k z => (he.1 a k (rdR_f (by omega) (by omega) (by omega) (by omega) (by omega) (by omega) (by omega))).trans (u a k (by omega))
  have AV := aSch_V hV
  obtain ⟨⟨a1, a2, a3, a4, -, -, a7, a8, -⟩, b1, b2, b3, b4, b5, b6⟩ := hD
  have S1 : MdS mI' 1 (aSch D) := ⟨⟨a1, a2, a4⟩, fun p hp => ⟨(b1 p hp).2.1, (b1 p hp).2.2⟩, fun k hk => b2 k hk, fun i hi => (b5 i hi).1, ⟨a7, a8⟩, fun i hi => b6 i hi⟩
  have R1 : MdR mI' 142 0 (aSch D) := ⟨a3, fun k hk => by simp only [Nat.zero_add]; exact b3 k hk, fun p hp => by
    have hp' : p < D 0 0 := hp
    have := hV.1.1
    simp only [Nat.zero_add]
    exact ⟨b4 _ (by omega) (by omega), b4 _ (by omega) (by omega)⟩⟩
  unfold schI
  have c : ∀ a k, a ≠ 156 → cpM (layI mI' 1 0) 142 156 0 0 144 a k = layI mI' 1 0 a k := fun a k e => cpM_out (by omega)
  have lo : ∀ a k, (a = 142 ∨ a = 156 ∨ a = 158 ∨ a = 170 ∨ a = 130 ∨ a = 129) → layI mI' 1 0 a k = mI' a k := fun a k e => layI_o (by omega) (by omega) (by omega) (by omega) (by omega) (by omega) (by omega) (by omega) (by omega) (by omega)
  refine ⟨(S1.lay AV.1.1 AV.1.2.2.2.2 (by decide) (by decide)).fr (fun a k z => c a k (by omega)), (R1.fr (fun j _ => lo _ _ (by omega)) AV.1.1 AV.1.2.2.1).cp AV.1.1 AV.1.2.2.1, fun m hm => ⟨((c _ _ (by decide)).trans ((lo _ _ (by omega)).trans (g _ _ (by omega)))).trans (h3 m hm).1, (h3 m hm).2.1, fun z => ?_⟩, ⟨((c _ _ (by decide)).trans ((lo _ _ (by omega)).trans (he.1 _ _ (by decide)))).trans e1, Nat.zero_le _, fun k hk => absurd hk (Nat.not_lt_zero _)⟩, D 4, fun k hk => ⟨?_, hV.2.2.1 k hk⟩⟩
  · have v := hVm m hm z
    obtain ⟨g1, g2⟩ := (h3 m hm).2.2 z
    exact ⟨(((g1.fr (fun a k w => u a k (by omega))).rd v.1.1 v.1.2.2.2.2 (by omega) he.1).layo v.1.1 v.1.2.2.2.2 (by omega)).fr (fun a k w => c a k (by omega)), g2.fr (fun j _ => (c _ _ (by decide)).trans ((lo _ _ (by omega)).trans (g _ _ (by omega)))) v.1.1 v.1.2.2.1⟩
  · have d1 := layI_3 (mI := mI') (f := 1) (t := 0) (s := 1) hk
    rw [if_neg (by decide)] at d1
    exact (c _ _ (by decide)).trans (d1.trans (b2 k hk))
theorem eqR_o {f g : Nat → Nat → Int32} (h : EqR f g) : ∀ a k, ¬ (129 ≤ a ∧ a ≤ 170) → g a k = f a k := fun a k z => h.1 a k (rdR_f (by omega) (by omega) (by omega) (by omega) (by omega) (by omega) (by omega))
theorem schI_o {mI : Nat → Nat → Int32} {a k : Nat} (h : ¬ (129 ≤ a ∧ a ≤ 170)) : schI mI a k = mI a k := by
  unfold schI
  rw [cpM_out (by omega), layI_o (by omega) (by omega) (by omega) (by omega) (by omega) (by omega) (by omega) (by omega) (by omega) (by omega)]
set_option maxHeartbeats 1600000 in
set_option maxRecDepth 100000 in
theorem lw_1 (l : Launch) (X : Cx) (N : Nat) (xs : Nat → Int32) (P : Option Value → Mm → Prop) (G : Nat → Nat → Nat → List (Option Value) → List Value → Mm → Prop) (hG : GL l X N xs P G) (sh : Nat → Option Sh) (mI : Nat → Nat → Int32) (mL : Nat → Nat → Int64) (mR : Nat → Nat → Option Nat) (n k q i : Nat) (v5 v6 : Option Value) (hN : N ≤ 3584) (hi : i + 7 ≤ N) (hk : k + 7 ≤ 601024) (hq : q + 1135 ≤ 7293034) (hnk : n ≤ k) (hsc : sh 1000000022 = some (.inr (.int, N))) (hxs : ∀ j, mI 1000000022 j = xs j) (hL : ML sh mR) (h171 : sh 171 = some (.inr (.long, 1))) (A : DD) (Am : Nat → DD) (lf : Nat → Nat) (x : TP) (hC : CI sh mI mL mR n A Am lf x) (hM : MI2 mI A Am lf x) (nx : ∀ v5 v6 M', JJ M' → G (k + 7) (q + 1135) 1081 (lL i v5 v6) [] M') : G k q 311 (lL i v5 v6) [] (sh, mI, mL, mR, n) := by
  obtain ⟨hGa, hWd, hbd, hfx, hcl⟩ := hG
  have q0 := hC.1.1
  have m0 := hL.1
  have hB := hC.1
  have hV := hC.2.2.1
  obtain ⟨C, hS⟩ := hC.2.2.2.1
  have hK := hC.2.2.2.2.1
  unfold lL at nx ⊢
  have hT := hC.2.2.2.2.2.2.1
  have hds := hC.2.2.2.2.2.2.2
  have h172 := hC.2.1
  have hmk := hC.2.2.2.2.2.1
  have hVm : ∀ m, m < 4 → lf m = 1 → AsV (Am m) := fun m hm z => ((hmk m hm).2.2 z).1
  obtain ⟨ro, hro⟩ := hM.2.2.2.2
  refine hGa.run [312] 60 ?_
  simp [wp, stepI, ln, jmp, cmpI, Value.category, rd, tyF, va_rf, st1, st2, clr, isLg, CB, inx_0, inx_1, inx_2, inx_3, inx_4, inx_5, bI_0, bI_1, bI_ok, fin3, q0, m0, hsc, dL_law_311, dL_law_312]
  refine hGa.callV dL_law_312 mv_13_26 [] [] (c11_school l X 2000 sh mI mL mR n (by omega) (by omega) hB x hT hds ro (fun k hk => (hro k hk).2) (by decide)) ⟨_, rfl, rfl⟩ q0 (by decide) rfl (by decide) (by simp [Value.category]) rfl ?_
  rintro r M' ⟨sh1, mI1, mL1, mR1, n1, rfl, hn1, fs, B1, t0, fl, hm⟩
  have m0' : sh1 129 = some (.inl 12) := (fs _ (by omega)).trans m0
  have q0' := B1.1
  have fin0 : ∀ M2, JJ M2 → G (k + 7 + 0) (q + 1135 + 0) 1081 [some (.ref 1000000022), some (.ref 0), some (.ref 129), some (.ref 171), some (.int (nI i)), v5, v6] [] M2 := fun M2 hJ => nx v5 v6 M2 hJ
  have rdc : ∀ a, 20 ≤ a → ¬ rdC 2 a := fun a h z => by unfold rdC at z; omega
  have rdc2 : ¬ rdC 2 13 ∧ ¬ rdC 2 14 := by unfold rdC; omega
  cases hq2 : rdAll x.1 x.2 (x.2 + 1) 0 (drZ ro) with
  | inl e =>
    rw [hq2] at hm
    obtain ⟨rfl, fi, fr⟩ := hm
    have nsc : ∀ a k, 20 ≤ a → ¬ scC a k := fun a k h z => by unfold scC rdC at z; omega
    have f20 : ∀ a k, 20 ≤ a → a < n → mI1 a k = mI a k := fun a k h1 h2 => fi a k h2 (nsc a k h1)
    have hL1 : ML sh1 mR1 := hL.fr (fun a ha => fs a (by omega)) (fun k => fr _ _ (by omega) (rdc _ (by omega)))
    have M1 : MI2 mI1 A Am lf x := hM.fr (fun a k z => f20 a k (by unfold mdC at z; omega) (by unfold mdC at z; omega))
    refine hGa.run [316] 60 ?_
    simp [wp, stepI, ln, jmp, cmpI, Value.category, rd, tyF, va_rf, st1, st2, clr, isLg, CB, inx_0, inx_1, inx_2, inx_3, inx_4, inx_5, bI_0, bI_1, bI_ok, fin3, q0, m0, hsc, q0', m0', dL_law_315, dL_law_316]
    refine hGa.callV dL_law_316 mv_13_30 [] [_] (c12_school l X 2000 sh1 mI1 mL1 mR1 n1 hL1 x.1 x.2 M1.2.2.2.1.1 M1.2.2.2.1.2.1 M1.2.2.2.1.2.2 ro (fun k hk => ⟨(f20 _ _ (by omega) (by omega)).trans (hro k hk).1, (hro k hk).2⟩) (by decide)) ⟨_, rfl, rfl⟩ m0' (by decide) rfl (by decide) (by simp [Value.category]) rfl ?_
    rintro r M' ⟨mI2, mL2, e2, e3, hm2⟩
    rw [hq2] at hm2
    obtain ⟨rfl, rfl⟩ := hm2
    have M2 := sch_bad M1 hV hVm e2
    have o2 : ∀ a k, ¬ (129 ≤ a ∧ a ≤ 170) → mI2 a k = mI1 a k := fun a k h => (eqR_o e2 a k h).trans ((up2_ne (by omega)).trans ((up2_ne (by omega)).trans (thr_o _ a k h)))
    have ol : ∀ a k, ¬ (129 ≤ a ∧ a ≤ 170) → mL2 a k = mL1 a k := fun a k h => e3 a k (fun z => by rw [List.mem_cons, List.mem_singleton] at z; omega)
    have C2 : CI sh1 mI2 mL2 mR1 n1 A Am lf (x.1, 0) := hC.set2 (by omega) fs B1 hV (hS.fr3 (by omega) (by omega) fs (fr _ _ (by omega) (rdc _ (by omega))) (fun a k z ha => fr a k ha (rdc _ (by omega))) (fun a k z ha => (o2 a k (by omega)).trans (f20 a k (by omega) ha))) (hK.fr (fun a k h1 h2 => (o2 a k (by omega)).trans (f20 a k (by omega) (by omega))) (fun a k h1 h2 => (ol a k (by omega)).trans (fl a k (by omega) (rdc _ (by omega))))) (fun a k ha h1 h2 h3 h4 h5 => (o2 a k h2).trans (f20 a k (by omega) ha)) (fun a k ha h1 h2 h3 => fr a k ha (fun z => by unfold rdC at z; omega)) ⟨(o2 _ _ (by omega)).trans t0, Nat.zero_le _, fun k hk => absurd hk (Nat.not_lt_zero _)⟩ (fun p hp => ⟨((o2 _ _ (by omega)).trans (fi _ _ (by omega) (fun z => by unfold scC rdC at z; omega))).trans (hds p hp).1, ((o2 _ _ (by omega)).trans (fi _ _ (by omega) (fun z => by unfold scC rdC at z; omega))).trans (hds p hp).2⟩)
    have fin := fin0 (sh1, mI2, mL2, mR1, n1) ⟨hL1, (fs _ (by omega)).trans h171, A, Am, lf, (x.1, 0), C2, M2⟩
    refine hGa.run [1081] 60 ?_
    simp [wp, stepI, ln, jmp, cmpI, Value.category, rd, tyF, va_rf, st1, st2, clr, isLg, CB, inx_0, inx_1, inx_2, inx_3, inx_4, inx_5, bI_0, bI_1, bI_ok, fin3, q0, m0, hsc, dL_law_319, dL_law_322, dL_law_323, dL_law_324]
    exact fin
  | inr d =>
    rw [hq2] at hm
    obtain ⟨rfl, fr, mI3, rfl, fi, S1⟩ := hm
    have nsc : ∀ a k, 20 ≤ a → ¬ scC a k := fun a k h z => by unfold scC rdC at z; omega
    have f20 : ∀ a k, 20 ≤ a → a < n → a ≠ 20 → ¬ (27 ≤ a ∧ a ≤ 31) → mI3 a k = mI a k := fun a k h1 h2 h3 h4 => fi a k h2 (nsc a k h1) h3 h4
    have g20 : ∀ a k, 20 ≤ a → a < n → a ≠ 20 → ¬ (27 ≤ a ∧ a ≤ 31) → ¬ (33 ≤ a ∧ a ≤ 80) → fgI mI3 a k = mI a k := fun a k h1 h2 h3 h4 h5 => (fgI_o (by omega)).trans (f20 a k h1 h2 h3 h4)
    have hL1 : ML sh1 mR1 := hL.fr (fun a ha => fs a (by omega)) (fun k => fr _ _ (by omega) (rdc _ (by omega)) (by omega))
    have M1 : MI2 (fgI mI3) A Am lf x := hM.fr (fun a k z => g20 a k (by unfold mdC at z; omega) (by unfold mdC at z; omega) (by unfold mdC at z; omega) (by unfold mdC at z; omega) (by unfold mdC at z; omega))
    have K1 : KpI (fgI mI3) mL1 (aSch d.2) := KpI.fg (hK.fr (fun a k h1 h2 => f20 a k (by omega) (by omega) (by omega) (by omega)) (fun a k h1 h2 => fl a k (by omega) (rdc _ (by omega)))) _
    refine hGa.run [316] 60 ?_
    simp [wp, stepI, ln, jmp, cmpI, Value.category, rd, tyF, va_rf, st1, st2, clr, isLg, CB, inx_0, inx_1, inx_2, inx_3, inx_4, inx_5, bI_0, bI_1, bI_ok, fin3, q0, m0, hsc, q0', m0', dL_law_315, dL_law_316]
    refine hGa.callV dL_law_316 mv_13_30 [] [_] (c12_school l X 2000 sh1 (fgI mI3) mL1 mR1 n1 hL1 x.1 x.2 M1.2.2.2.1.1 M1.2.2.2.1.2.1 M1.2.2.2.1.2.2 ro (fun k hk => ⟨(g20 _ _ (by omega) (by omega) (by omega) (by omega) (by omega)).trans (hro k hk).1, (hro k hk).2⟩) (by decide)) ⟨_, rfl, rfl⟩ m0' (by decide) rfl (by decide) (by simp [Value.category]) rfl ?_
    rintro r M' ⟨mI2, mL2, e2, e3, hm2⟩
    rw [hq2] at hm2
    obtain ⟨rfl, rfl, dM, dV⟩ := hm2
    have M2 := sch_good M1 hVm e2 dM dV
    have o2 : ∀ a k, ¬ (129 ≤ a ∧ a ≤ 170) → schI mI2 a k = fgI mI3 a k := fun a k h => (schI_o h).trans ((eqR_o e2 a k h).trans ((up2_ne (by omega)).trans ((up2_ne (by omega)).trans (thr_o _ a k h))))
    generalize schI mI2 = mI4 at M2 o2 ⊢
    have ol : ∀ a k, ¬ (129 ≤ a ∧ a ≤ 170) → mL2 a k = mL1 a k := fun a k h => e3 a k (fun z => by rw [List.mem_cons, List.mem_singleton] at z; omega)
    have S2 : ShA sh1 mI4 mR1 n1 20 n (aSch d.2) := S1.fr3 (Nat.le_refl _) (by omega) (fun _ _ => rfl) rfl (fun _ _ _ _ => rfl) (fun a k z _ => (o2 a k (by omega)).trans (fgI_o (by omega)))
    have C2 : CI sh1 mI4 mL2 mR1 n1 (aSch d.2) Am lf (x.1, 0) := hC.set2 (by omega) fs B1 (aSch_V dV) S2 (K1.fr (fun a k h1 h2 => o2 a k (by omega)) (fun a k h1 h2 => ol a k (by omega))) (fun a k ha h1 h2 h3 h4 h5 => (o2 a k h2).trans (g20 a k (by omega) ha h3 h4 h1)) (fun a k ha h1 h2 h3 => fr a k ha (fun z => by unfold rdC at z; omega) h2) ⟨(o2 _ _ (by omega)).trans t0, Nat.zero_le _, fun k hk => absurd hk (Nat.not_lt_zero _)⟩ (fun p hp => ⟨((o2 _ _ (by omega)).trans ((fgI_o (by omega)).trans (fi _ _ (by omega) (fun z => by unfold scC rdC at z; omega) (by omega) (by omega)))).trans (hds p hp).1, ((o2 _ _ (by omega)).trans ((fgI_o (by omega)).trans (fi _ _ (by omega) (fun z => by unfold scC rdC at z; omega) (by omega) (by omega)))).trans (hds p hp).2⟩)
    have fin := fin0 (sh1, mI4, mL2, mR1, n1) ⟨hL1, (fs _ (by omega)).trans h171, aSch d.2, Am, lf, (x.1, 0), C2, M2⟩
    refine hGa.run [1081] 60 ?_
    simp [wp, stepI, ln, jmp, cmpI, Value.category, rd, tyF, va_rf, st1, st2, clr, isLg, CB, inx_0, inx_1, inx_2, inx_3, inx_4, inx_5, bI_0, bI_1, bI_ok, fin3, q0, m0, hsc, dL_law_319, dL_law_322, dL_law_323, dL_law_324]
    exact fin
