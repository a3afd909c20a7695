theorem CI.set2 {sh sh' : Nat → Option Sh} {mI mI' : Nat → Nat → Int32} {mL mL' : Nat → Nat → Int64} {mR mR' : Nat → Nat → Option Nat} {n n' : Nat} {A A' : DD} {Am : Nat → DD} {lf : Nat → Nat} {x x' : TP} (h : CI sh mI mL mR n A Am lf x) (hn : n ≤ n') (hs : ∀ a, a < n → sh' a = sh a) (hB : BL sh' mR') (hV : AsV A') {C : Nat} (hS : ShA sh' mI' mR' n' 20 C A') (hk : KpI mI' mL' A') (hi : ∀ a k, a < n → ¬ (33 ≤ a ∧ a ≤ 80) → ¬ (129 ≤ a ∧ a ≤ 170) → a ≠ 20 → ¬ (27 ≤ a ∧ a ≤ 31) → ¬ a ≤ 19 → mI' a k = mI a k) (hr : ∀ a k, a < n → ¬ (2 ≤ a ∧ a ≤ 19) → ¬ (a = 20 ∧ k = 0) → ¬ (a = 64 ∧ k = 0) → mR' a k = mR a k) (hT : TcM mI' x') (hd : ∀ p, p < 10 → mI' 13 p = -nI 1 ∧ mI' 14 p = -nI 1) : CI sh' mI' mL' mR' n' A' Am lf x' := by
  obtain ⟨h1, h2, h3, -, h5, h6, h7, h8⟩ := h
  refine ⟨hB, by omega, hV, ⟨C, hS⟩, hk, fun m hm => ?_, hT, hd⟩
  obtain ⟨g1, ⟨C2, g2⟩, g3⟩ := h6 m hm
  refine ⟨(hi _ _ (by omega) (by omega) (by omega) (by omega) (by omega) (by omega)).trans g1, ⟨C2, (hr _ _ (by omega) (by omega) (by omega) (by omega)).trans g2⟩, fun z => ?_⟩
  obtain ⟨v1, C3, v2⟩ := g3 z
  exact ⟨v1, C3, v2.fr3 hn (by omega) hs (hr _ _ (by omega) (by omega) (by omega) (by omega)) (fun a k hz ha => hr a k ha (by omega) (by omega) (by omega)) (fun a k hz ha => hi a k ha (by omega) (by omega) (by omega) (by omega) (by omega))⟩
theorem MI2.set {mI mI' : Nat → Nat → Int32} {A A' : DD} {Am : Nat → DD} {lf : Nat → Nat} {x : TP} (h : MI2 mI A Am lf x) (hS : MdS mI 0 A') (hR : MdR mI' 156 0 A') (he : ∀ a k, mdC a k → a ≠ 156 → mI' a k = mI a k) : MI2 mI' A' Am lf x := by
  obtain ⟨h1, h2, h3, h4, h5⟩ := h
  have hh : MI2 (fun a k => if a = 156 then mI a k else mI' a k) A Am lf x := MI2.fr ⟨h1, h2, h3, h4, h5⟩ (fun a k z => by
    by_cases e : a = 156
    · rw [if_pos e]
    · rw [if_neg e]; exact he a k z e)
  have hS2 : MI2 (fun a k => if a = 156 then mI a k else mI' a k) A Am lf x → MdS (fun a k => if a = 156 then mI a k else mI' a k) 0 A' := fun _ => by
    obtain ⟨⟨a1, a2, a3⟩, a4, a5, a6, ⟨a7, a8⟩, a9⟩ := hS
    have g : ∀ a k, mdC a k → a ≠ 156 → (fun a k => if a = 156 then mI a k else mI' a k) a k = mI a k := fun a k z e => (if_neg e).trans (he a k z e)
    exact ⟨⟨(g _ _ (by unfold mdC; omega) (by decide)).trans a1, (g _ _ (by unfold mdC; omega) (by decide)).trans a2, (g _ _ (by unfold mdC; omega) (by decide)).trans a3⟩, fun p hp => ⟨(g _ _ (by unfold mdC; omega) (by decide)).trans (a4 p hp).1, (g _ _ (by unfold mdC; omega) (by decide)).trans (a4 p hp).2⟩, fun k hk => (g _ _ (by unfold mdC; omega) (by decide)).trans (a5 k hk), fun i hi => (g _ _ (by unfold mdC; omega) (by decide)).trans (a6 i hi), ⟨(g _ _ (by unfold mdC; omega) (by decide)).trans a7, (g _ _ (by unfold mdC; omega) (by decide)).trans a8⟩, fun i hi => (g _ _ (by unfold mdC; omega) (by decide)).trans (a9 i hi)⟩
  have k1 := hS2 hh
  obtain ⟨-, -, k3, k4, k5⟩ := hh
  exact ⟨k1, hR, k3, k4, k5⟩
theorem say_e {mI : Nat → Nat → Int32} {A : DD} (h : PupM mI (A 0 0)) (x y w : Int32) : sayB mI (A 0 2) x y w = saB A x y w := by unfold sayB saB; rw [is2_A h]
theorem saB_i {A : DD} {x y w : Int32} (hV : AsV A) (h : saB A x y w = true) : ∃ p q j, p < A 0 0 ∧ q < A 0 0 ∧ p ≠ q ∧ j < 2 ∧ A 0 2 ≠ 40 ∧ x = nI p ∧ y = nI q ∧ w = nI j := by
  unfold saB at h
  rw [Bool.and_eq_true, Bool.and_eq_true] at h
  obtain ⟨p, q, hp, hq, hpq, rfl, rfl⟩ := a2_i hV h.1.1
  obtain ⟨j, hj, rfl⟩ := wth_i h.1.2 (by decide)
  exact ⟨p, q, j, hp, hq, hpq, by omega, of_decide_eq_true h.2, rfl, rfl, rfl⟩
theorem say_M {mI : Nat → Nat → Int32} {A : DD} {Am : Nat → DD} {lf : Nat → Nat} {x : TP} (h : MI2 mI A Am lf x) (hV : AsV A) (p q j : Nat) (hc : A 0 2 ≠ 40) : MI2 (sayI mI (A 0 2) (nI p) (nI q) (nI j)) (aSay A p q j) Am lf x := by
  have c40 := hV.1.2.2.1
  have hnp := hV.1.1
  have o : ∀ a k, a ≠ 156 → ¬ (a = 129 ∧ k = 0) → sayI mI (A 0 2) (nI p) (nI q) (nI j) a k = mI a k := fun a k h1 h2 => by
    unfold sayI thr
    rw [up2_ne (by omega), up2_ne (by omega), up2_ne (by omega), up2_ne (by omega), up2_ne h2]
  have o2 : ∀ k, k ≠ 0 → k ≠ 1 + A 0 2 → k ≠ 41 + A 0 2 → k ≠ 81 + A 0 2 → sayI mI (A 0 2) (nI p) (nI q) (nI j) 156 k = mI 156 k := fun k h1 h2 h3 h4 => by
    unfold sayI thr
    rw [up2_ne (by omega), up2_ne (by omega), up2_ne (by omega), up2_ne (by omega), up2_ne (by omega)]
  have e0 : sayI mI (A 0 2) (nI p) (nI q) (nI j) 156 0 = nI (A 0 2 + 1) := up2_eq ..
  have e1 : sayI mI (A 0 2) (nI p) (nI q) (nI j) 156 (1 + A 0 2) = nI p := by
    unfold sayI
    rw [up2_ne (by omega), up2_ne (by omega), up2_ne (by omega), up2_eq]
  have e2 : sayI mI (A 0 2) (nI p) (nI q) (nI j) 156 (41 + A 0 2) = nI q := by
    unfold sayI
    rw [up2_ne (by omega), up2_ne (by omega), up2_eq]
  have e3 : sayI mI (A 0 2) (nI p) (nI q) (nI j) 156 (81 + A 0 2) = nI j := by
    unfold sayI
    rw [up2_ne (by omega), up2_eq]
  obtain ⟨b1, b2, b3⟩ := h.2.1
  simp only [Nat.zero_add] at b2 b3
  refine h.set (A' := aSay A p q j) h.1 ⟨e0, fun k hk => ?_, fun r hr => ?_⟩ (fun a k z e => o a k e (by unfold mdC at z; omega))
  · have hk' : k < A 0 2 + 1 := hk
    simp only [Nat.zero_add]
    show sayI mI (A 0 2) (nI p) (nI q) (nI j) 156 (1 + k) = nI (upN (A 5) (A 0 2) p k) ∧ sayI mI (A 0 2) (nI p) (nI q) (nI j) 156 (41 + k) = nI (upN (A 6) (A 0 2) q k) ∧ sayI mI (A 0 2) (nI p) (nI q) (nI j) 156 (81 + k) = nI (upN (A 7) (A 0 2) j k)
    by_cases e : k = A 0 2
    · subst e
      rw [e1, e2, e3, upN_eq, upN_eq, upN_eq]
      exact ⟨rfl, rfl, rfl⟩
    · rw [o2 _ (by omega) (by omega) (by omega) (by omega), o2 _ (by omega) (by omega) (by omega) (by omega), o2 _ (by omega) (by omega) (by omega) (by omega), upN_ne e, upN_ne e, upN_ne e]
      exact b2 k (by omega)
  · have hr' : r < A 0 0 := hr
    simp only [Nat.zero_add]
    show sayI mI (A 0 2) (nI p) (nI q) (nI j) 156 (121 + r) = nI (A 11 r) ∧ sayI mI (A 0 2) (nI p) (nI q) (nI j) 156 (131 + r) = nI (A 12 r)
    rw [o2 _ (by omega) (by omega) (by omega) (by omega), o2 _ (by omega) (by omega) (by omega) (by omega)]
    exact b3 r hr'
theorem uns_M {mI : Nat → Nat → Int32} {A : DD} {Am : Nat → DD} {lf : Nat → Nat} {x : TP} (h : MI2 mI A Am lf x) : MI2 (up2 (thr mI) 156 0 (nI (A 0 2 - 1))) (aUns A) Am lf x := by
  have o : ∀ a k, ¬ (a = 156 ∧ k = 0) → ¬ (a = 129 ∧ k = 0) → up2 (thr mI) 156 0 (nI (A 0 2 - 1)) a k = mI a k := fun a k h1 h2 => by
    unfold thr
    rw [up2_ne h1, up2_ne h2]
  obtain ⟨b1, b2, b3⟩ := h.2.1
  refine h.set (A' := aUns A) h.1 ⟨up2_eq .., fun k hk => ?_, fun r hr => ?_⟩ (fun a k z e => o a k (by omega) (by unfold mdC at z; omega))
  · have hk' : k < A 0 2 - 1 := hk
    rw [o _ _ (by omega) (by omega), o _ _ (by omega) (by omega), o _ _ (by omega) (by omega)]
    exact b2 k (by omega)
  · rw [o _ _ (by omega) (by omega), o _ _ (by omega) (by omega)]
    exact b3 r hr
theorem sit_M {mI : Nat → Nat → Int32} {A : DD} {Am : Nat → DD} {lf : Nat → Nat} {x : TP} (h : MI2 mI A Am lf x) (hV : AsV A) (p s : Nat) (hp : p < A 0 0) : MI2 (up2 (thr mI) 156 (121 + p) (nI s)) (aSit A p s) Am lf x ∧ MI2 (up2 (thr mI) 156 (131 + p) (nI s)) (aPln A p s) Am lf x := by
  have hnp := hV.1.1
  have c40 := hV.1.2.2.1
  have o : ∀ j a k, ¬ (a = 156 ∧ k = j) → ¬ (a = 129 ∧ k = 0) → up2 (thr mI) 156 j (nI s) a k = mI a k := fun j a k h1 h2 => by
    unfold thr
    rw [up2_ne h1, up2_ne h2]
  obtain ⟨b1, b2, b3⟩ := h.2.1
  refine ⟨h.set (A' := aSit A p s) h.1 ⟨(o _ _ _ (by omega) (by omega)).trans b1, fun k hk => ?_, fun r hr => ?_⟩ (fun a k z e => o _ a k (by omega) (by unfold mdC at z; omega)), h.set (A' := aPln A p s) h.1 ⟨(o _ _ _ (by omega) (by omega)).trans b1, fun k hk => ?_, fun r hr => ?_⟩ (fun a k z e => o _ a k (by omega) (by unfold mdC at z; omega))⟩
  · have hk' : k < A 0 2 := hk
    rw [o _ _ _ (by omega) (by omega), o _ _ _ (by omega) (by omega), o _ _ _ (by omega) (by omega)]
    exact b2 k hk'
  · have hr' : r < A 0 0 := hr
    refine ⟨?_, (o _ _ _ (by omega) (by omega)).trans (b3 r hr').2⟩
    show up2 (thr mI) 156 (121 + p) (nI s) 156 (0 + (121 + r)) = nI (upN (A 11) p s r)
    by_cases e : r = p
    · rw [e, Nat.zero_add, up2_eq, upN_eq]
    · rw [o _ _ _ (by omega) (by omega), upN_ne e]; exact (b3 r hr').1
  · have hk' : k < A 0 2 := hk
    rw [o _ _ _ (by omega) (by omega), o _ _ _ (by omega) (by omega), o _ _ _ (by omega) (by omega)]
    exact b2 k hk'
  · have hr' : r < A 0 0 := hr
    refine ⟨(o _ _ _ (by omega) (by omega)).trans (b3 r hr').1, ?_⟩
    show up2 (thr mI) 156 (131 + p) (nI s) 156 (0 + (131 + r)) = nI (upN (A 12) p s r)
    by_cases e : r = p
    · rw [e, Nat.zero_add, up2_eq, upN_eq]
    · rw [o _ _ _ (by omega) (by omega), upN_ne e]; exact (b3 r hr').2
theorem aS_e {mI : Nat → Nat → Int32} {A : DD} (hV : AsV A) (h : mI 132 0 = nI (A 0 1)) (k : Int32) : (decide (k = -nI 1) || isS mI k) = aS A k := by
  have h6 := hV.1.2.1
  unfold isS aS
  rw [h, show 2 * nI (A 0 1) = nI (2 * A 0 1) by rw [show (2 : Int32) = nI 2 from rfl, nI_mul]]
  have i1 : (-nI 1).toInt = -1 := rfl
  have i0 : (0 : Int32).toInt = 0 := rfl
  have ib : (nI (2 * A 0 1)).toInt = ((2 * A 0 1 : Nat) : Int) := (by decide +kernel : ∀ b, b ≤ 12 → (nI b).toInt = ((b : Nat) : Int)) _ (by omega)
  by_cases e : k = -nI 1
  · rw [decide_eq_true e, Bool.true_or]
    refine (decide_eq_true ⟨?_, ?_⟩).symm
    · rw [e]; exact Int32.le_refl _
    · rw [e]; refine Int32.lt_iff_toInt_lt.mpr ?_; omega
  · rw [decide_eq_false e, Bool.false_or]
    refine decide_eq_decide.mpr ⟨fun z => ⟨?_, z.2⟩, fun z => ⟨?_, z.2⟩⟩
    · have := Int32.le_iff_toInt_le.mp z.1
      refine Int32.le_iff_toInt_le.mpr ?_; omega
    · have := Int32.le_iff_toInt_le.mp z.1
      have e2 : k.toInt ≠ (-nI 1).toInt := fun w => e (Int32.toInt_inj.mp w)
      refine Int32.le_iff_toInt_le.mpr ?_; omega
theorem ng_e {A : DD} {k : Int32} (hV : AsV A) (h : aS A k = true) : decide (k < nI 0) = decide (k = -nI 1) := by
  have h6 := hV.1.2.1
  obtain ⟨s, hs, rfl⟩ := aS_i hV h
  exact (by decide +kernel : ∀ s, s ≤ 12 → decide (nI s - nI 1 < nI 0) = decide (nI s - nI 1 = -nI 1)) s (by omega)
theorem sit_e {mI : Nat → Nat → Int32} {A : DD} {Am : Nat → DD} {lf : Nat → Nat} {t : TP} (h : MI2 mI A Am lf t) (hV : AsV A) (x k : Int32) : sitB mI (A 0 0) x k = siB A x k := by
  obtain ⟨p1, p2, p3, p4, p5, p6, p7, p8⟩ := h.m hV
  have hnp := hV.1.1
  unfold sitB siB
  rw [isP_A p1, aS_e hV p8]
  cases hx : aP A x with
  | false => rfl
  | true =>
    cases hk : aS A k with
    | false => rfl
    | true =>
      obtain ⟨p, hp, rfl⟩ := aP_i hV hx
      have e : sitC mI (A 0 0) k = sitF (A 0 0) (A 11) k := by
        unfold sitC sitF
        exact fa_first_cong (fun q hq => by rw [(p7 q hq).1])
      rw [nI_clamp (by omega), (p7 p hp).1, ng_e hV hk, e]
theorem pln_e {mI : Nat → Nat → Int32} {A : DD} {Am : Nat → DD} {lf : Nat → Nat} {t : TP} (h : MI2 mI A Am lf t) (hV : AsV A) (x k : Int32) : plB mI (A 0 0) x k = piB A x k := by
  obtain ⟨p1, p2, p3, p4, p5, p6, p7, p8⟩ := h.m hV
  have hnp := hV.1.1
  unfold plB piB
  rw [isP_A p1, aS_e hV p8]
  cases hx : aP A x with
  | false => rfl
  | true =>
    cases hk : aS A k with
    | false => rfl
    | true =>
      obtain ⟨p, hp, rfl⟩ := aP_i hV hx
      have e : plC mI (A 0 0) (nI p).toNatClampNeg k = plF (A 0 0) (A 12) (nI p).toNatClampNeg k := by
        unfold plC plF
        exact fa_first_cong (fun q hq => by rw [(p7 q hq).2.2.1])
      rw [ng_e hV hk, e]
set_option maxHeartbeats 1600000 in
set_option maxRecDepth 100000 in
theorem lw_3 (l : Launch) (X : Cx) (N : Nat) (xs : Nat → Int32) (P : Option Value → Mm → Prop) (G : Nat → Nat → Nat → List (Option Value) → List Value → Mm → Prop) (hG : GL l X N xs P G) (sh : Nat → Option Sh) (mI : Nat → Nat → Int32) (mL : Nat → Nat → Int64) (mR : Nat → Nat → Option Nat) (n k q i : Nat) (v5 v6 : Option Value) (hN : N ≤ 3584) (hi : i + 7 ≤ N) (hk : k + 7 ≤ 601024) (hq : q + 1135 ≤ 7293034) (hnk : n ≤ k) (hsc : sh 1000000022 = some (.inr (.int, N))) (hxs : ∀ j, mI 1000000022 j = xs j) (hL : ML sh mR) (h171 : sh 171 = some (.inr (.long, 1))) (A : DD) (Am : Nat → DD) (lf : Nat → Nat) (x : TP) (hC : CI sh mI mL mR n A Am lf x) (hM : MI2 mI A Am lf x) (nx : ∀ v5 v6 M', JJ M' → G (k + 7) (q + 1135) 1081 (lL i v5 v6) [] M') : G k q 361 (lL i v5 v6) [] (sh, mI, mL, mR, n) := by
  obtain ⟨hGa, hWd, hbd, hfx, hcl⟩ := hG
  have q0 := hC.1.1
  have m0 := hL.1
  have hB := hC.1
  have hV := hC.2.2.1
  obtain ⟨C, hS⟩ := hC.2.2.2.1
  have hK := hC.2.2.2.2.1
  unfold lL at nx ⊢
  have hT := hC.2.2.2.2.2.2.1
  have hds := hC.2.2.2.2.2.2.2
  refine hGa.run [380] 60 ?_
  simp [wp, stepI, ln, jmp, cmpI, Value.category, rd, tyF, va_rf, st1, st2, clr, isLg, CB, inx_0, inx_1, inx_2, inx_3, inx_4, inx_5, bI_0, bI_1, bI_ok, fin3, q0, m0, hsc, dL_law_361, dL_law_362, dL_law_363, dL_law_365, dL_law_366, dL_law_367, dL_law_368, dL_law_369, dL_law_371, dL_law_372, dL_law_373, dL_law_374, dL_law_375, dL_law_377, dL_law_378, dL_law_379, dL_law_380]
  simp (disch := omega) only [li, nI_add, nI_clamp, nI_ltI, nI_leI, nI_eq, inx_iff, a31, nI_1shl', nI_shr', div_bit, tb1, tb0, fa_or, fa_and, nI_not, pk_sub, nI_dec, hxs]
  refine ⟨by omega, by omega, by omega, ?_⟩
  refine hGa.callV dL_law_380 mv_13_36 [.int (xs (i + 1)), .int (xs (i + 2)), .int (xs (i + 3))] [] (c11_say l X 2000 sh mI mL mR n hB C A hV hS (xs (i + 1)) (xs (i + 2)) (xs (i + 3)) (by decide)) ⟨_, rfl, rfl⟩ q0 (by decide) rfl (by decide) (by simp [Value.category]) rfl ?_
  rintro r M' ⟨hy, hn⟩
  obtain ⟨p1, p2, p3, p4, p5, p6, p7, p8⟩ := hM.m hV
  cases hb : saB A (xs (i + 1)) (xs (i + 2)) (xs (i + 3)) with
  | false =>
    obtain ⟨rfl, rfl⟩ := hn hb
    refine hGa.run [402] 60 ?_
    simp [wp, stepI, ln, jmp, cmpI, Value.category, rd, tyF, va_rf, st1, st2, clr, isLg, CB, inx_0, inx_1, inx_2, inx_3, inx_4, inx_5, bI_0, bI_1, bI_ok, fin3, q0, m0, hsc, dL_law_383, dL_law_384, dL_law_385, dL_law_387, dL_law_388, dL_law_389, dL_law_390, dL_law_391, dL_law_393, dL_law_394, dL_law_395, dL_law_396, dL_law_397, dL_law_399, dL_law_400, dL_law_401, dL_law_402]
    simp (disch := omega) only [li, nI_add, nI_clamp, nI_ltI, nI_leI, nI_eq, inx_iff, a31, nI_1shl', nI_shr', div_bit, tb1, tb0, fa_or, fa_and, nI_not, pk_sub, nI_dec, hxs]
    refine ⟨by omega, by omega, by omega, ?_⟩
    refine hGa.callV dL_law_402 mv_13_40 [.int (xs (i + 1)), .int (xs (i + 2)), .int (xs (i + 3))] [_] (c12_say l X 2000 sh mI mL mR n hL (A 0 2) (A 5) (A 6) (A 7) p2 (xs (i + 1)) (xs (i + 2)) (xs (i + 3)) (by decide)) ⟨_, rfl, rfl⟩ m0 (by decide) rfl (by decide) (by simp [Value.category]) rfl ?_
    rintro r M' ⟨rfl, rfl⟩
    rw [say_e p1, hb]
    have fin := hWd _ _ _ _ _ _ _ _ (show k + 0 + 0 ≤ k + 7 by omega) (show q + 0 + 0 ≤ q + 1135 by omega) (nx v5 v6 _ (jj_r hC hL h171 (fun _ _ _ => rfl) (fun _ _ _ => rfl) hK (thr_o _) (fun _ _ _ => rfl) hM.th))
    refine hGa.run [1081] 60 ?_
    simp [wp, stepI, ln, jmp, cmpI, Value.category, rd, tyF, va_rf, st1, st2, clr, isLg, CB, inx_0, inx_1, inx_2, inx_3, inx_4, inx_5, bI_0, bI_1, bI_ok, fin3, q0, m0, hsc, dL_law_405, dL_law_408, dL_law_409, dL_law_410]
    exact fin
  | true =>
    obtain ⟨rfl, mI1, rfl, f1, S1⟩ := hy hb
    obtain ⟨p, q1, j, hp, hq1, hpq, hj, hc, e1, e2, e3⟩ := saB_i hV hb
    have hnp := hV.1.1
    rw [e1, e2, e3, nI_clamp (by omega), nI_clamp (by omega), nI_clamp (by omega)] at S1
    have fg : ∀ a k, ¬ (33 ≤ a ∧ a ≤ 80) → a ≠ 27 → a ≠ 28 → a ≠ 29 → a ≠ 20 → fgI mI1 a k = mI a k := fun a k h h1 h2 h3 h4 => (fgI_o (by omega)).trans (f1 a k h1 h2 h3 (by omega))
    have M1 : MI2 (fgI mI1) A Am lf x := hM.fr (fun a k z => fg a k (by unfold mdC at z; omega) (by unfold mdC at z; omega) (by unfold mdC at z; omega) (by unfold mdC at z; omega) (by unfold mdC at z; omega))
    have K1 : KpI (fgI mI1) mL (aSay A p q1 j) := KpI.fg (hK.fr (fun a k h1 h2 => f1 a k (by omega) (by omega) (by omega) (by omega)) (fun _ _ _ _ => rfl)) _
    have hxs1 : ∀ j, fgI mI1 1000000022 j = xs j := fun j => (fg _ _ (by omega) (by omega) (by omega) (by omega) (by omega)).trans (hxs j)
    obtain ⟨p1, p2, p3, p4, p5, p6, p7, p8⟩ := M1.m hV
    refine hGa.run [402] 60 ?_
    simp [wp, stepI, ln, jmp, cmpI, Value.category, rd, tyF, va_rf, st1, st2, clr, isLg, CB, inx_0, inx_1, inx_2, inx_3, inx_4, inx_5, bI_0, bI_1, bI_ok, fin3, q0, m0, hsc, dL_law_383, dL_law_384, dL_law_385, dL_law_387, dL_law_388, dL_law_389, dL_law_390, dL_law_391, dL_law_393, dL_law_394, dL_law_395, dL_law_396, dL_law_397, dL_law_399, dL_law_400, dL_law_401, dL_law_402]
    simp (disch := omega) only [li, nI_add, nI_clamp, nI_ltI, nI_leI, nI_eq, inx_iff, a31, nI_1shl', nI_shr', div_bit, tb1, tb0, fa_or, fa_and, nI_not, pk_sub, nI_dec, hxs1]
    refine ⟨by omega, by omega, by omega, ?_⟩
    refine hGa.callV dL_law_402 mv_13_40 [.int (xs (i + 1)), .int (xs (i + 2)), .int (xs (i + 3))] [_] (c12_say l X 2000 sh (fgI mI1) mL mR n hL (A 0 2) (A 5) (A 6) (A 7) p2 (xs (i + 1)) (xs (i + 2)) (xs (i + 3)) (by decide)) ⟨_, rfl, rfl⟩ m0 (by decide) rfl (by decide) (by simp [Value.category]) rfl ?_
    rintro r M' ⟨rfl, rfl⟩
    rw [say_e p1, hb, if_pos rfl, if_pos rfl, e1, e2, e3]
    have M2 := say_M M1 hV p q1 j hc
    have o2 : ∀ a k, ¬ (129 ≤ a ∧ a ≤ 170) → sayI (fgI mI1) (A 0 2) (nI p) (nI q1) (nI j) a k = fgI mI1 a k := fun a k h => by
      unfold sayI thr
      rw [up2_ne (by omega), up2_ne (by omega), up2_ne (by omega), up2_ne (by omega), up2_ne (by omega)]
    generalize sayI (fgI mI1) (A 0 2) (nI p) (nI q1) (nI j) = mI2 at M2 o2 ⊢
    have S2 : ShA sh mI2 mR n 20 C (aSay A p q1 j) := S1.fr3 (Nat.le_refl _) (by have := hC.2.1; omega) (fun _ _ => rfl) rfl (fun _ _ _ _ => rfl) (fun a k h _ => (o2 a k (by omega)).trans (fgI_o (by omega)))
    have C2 : CI sh mI2 mL mR n (aSay A p q1 j) Am lf x := hC.set2 (Nat.le_refl _) (fun _ _ => rfl) hB (aSay_V hV hp hq1 hpq hj hc) S2 (K1.fr (fun a k h1 h2 => o2 a k (by omega)) (fun _ _ _ _ => rfl)) (fun a k _ h1 h2 h3 h4 h5 => (o2 a k h2).trans (fg a k h1 (by omega) (by omega) (by omega) h3)) (fun _ _ _ _ _ _ => rfl) ⟨((o2 _ _ (by omega)).trans (fg _ _ (by omega) (by omega) (by omega) (by omega) (by omega))).trans hT.1, hT.2.1, fun k hk => ⟨((o2 _ _ (by omega)).trans (fg _ _ (by omega) (by omega) (by omega) (by omega) (by omega))).trans (hT.2.2 k hk).1, (hT.2.2 k hk).2⟩⟩ (fun p hp => ⟨((o2 _ _ (by omega)).trans (fg _ _ (by omega) (by omega) (by omega) (by omega) (by omega))).trans (hds p hp).1, ((o2 _ _ (by omega)).trans (fg _ _ (by omega) (by omega) (by omega) (by omega) (by omega))).trans (hds p hp).2⟩)
    have fin := hWd _ _ _ _ _ _ _ _ (show k + 0 + 0 ≤ k + 7 by omega) (show q + 0 + 0 ≤ q + 1135 by omega) (nx v5 v6 (sh, mI2, mL, mR, n) (⟨hL, h171, _, Am, lf, x, C2, M2⟩))
    refine hGa.run [1081] 60 ?_
    simp [wp, stepI, ln, jmp, cmpI, Value.category, rd, tyF, va_rf, st1, st2, clr, isLg, CB, inx_0, inx_1, inx_2, inx_3, inx_4, inx_5, bI_0, bI_1, bI_ok, fin3, q0, m0, hsc, dL_law_405, dL_law_408, dL_law_409, dL_law_410]
    exact fin
set_option maxHeartbeats 1600000 in
set_option maxRecDepth 100000 in
theorem lw_4 (l : Launch) (X : Cx) (N : Nat) (xs : Nat → Int32) (P : Option Value → Mm → Prop) (G : Nat → Nat → Nat → List (Option Value) → List Value → Mm → Prop) (hG : GL l X N xs P G) (sh : Nat → Option Sh) (mI : Nat → Nat → Int32) (mL : Nat → Nat → Int64) (mR : Nat → Nat → Option Nat) (n k q i : Nat) (v5 v6 : Option Value) (hN : N ≤ 3584) (hi : i + 7 ≤ N) (hk : k + 7 ≤ 601024) (hq : q + 1135 ≤ 7293034) (hnk : n ≤ k) (hsc : sh 1000000022 = some (.inr (.int, N))) (hxs : ∀ j, mI 1000000022 j = xs j) (hL : ML sh mR) (h171 : sh 171 = some (.inr (.long, 1))) (A : DD) (Am : Nat → DD) (lf : Nat → Nat) (x : TP) (hC : CI sh mI mL mR n A Am lf x) (hM : MI2 mI A Am lf x) (nx : ∀ v5 v6 M', JJ M' → G (k + 7) (q + 1135) 1081 (lL i v5 v6) [] M') : G k q 410 (lL i v5 v6) [] (sh, mI, mL, mR, n) := by
  obtain ⟨hGa, hWd, hbd, hfx, hcl⟩ := hG
  have q0 := hC.1.1
  have m0 := hL.1
  have hB := hC.1
  have hV := hC.2.2.1
  obtain ⟨C, hS⟩ := hC.2.2.2.1
  have hK := hC.2.2.2.2.1
  unfold lL at nx ⊢
  have hT := hC.2.2.2.2.2.2.1
  have hds := hC.2.2.2.2.2.2.2
  refine hGa.run [411] 60 ?_
  simp [wp, stepI, ln, jmp, cmpI, Value.category, rd, tyF, va_rf, st1, st2, clr, isLg, CB, inx_0, inx_1, inx_2, inx_3, inx_4, inx_5, bI_0, bI_1, bI_ok, fin3, q0, m0, hsc, dL_law_410, dL_law_411]
  refine hGa.callV dL_law_411 mv_13_41 [] [] (c11_unsay l X 2000 sh mI mL mR n hB C A hV hS (by decide)) ⟨_, rfl, rfl⟩ q0 (by decide) rfl (by decide) (by simp [Value.category]) rfl ?_
  rintro r M' ⟨rfl, hy, hn⟩
  by_cases hb : A 0 2 = 0
  · obtain rfl := hn hb
    obtain ⟨p1, p2, p3, p4, p5, p6, p7, p8⟩ := hM.m hV
    refine hGa.run [415] 60 ?_
    simp [wp, stepI, ln, jmp, cmpI, Value.category, rd, tyF, va_rf, st1, st2, clr, isLg, CB, inx_0, inx_1, inx_2, inx_3, inx_4, inx_5, bI_0, bI_1, bI_ok, fin3, q0, m0, hsc, dL_law_414, dL_law_415]
    refine hGa.callV dL_law_415 mv_13_45 [] [_] (c12_unsay l X 2000 sh mI mL mR n hL (A 0 2) (A 5) (A 6) (A 7) p2) ⟨_, rfl, rfl⟩ m0 (by decide) rfl (by decide) (by simp [Value.category]) rfl ?_
    rintro r M' ⟨rfl, rfl⟩
    rw [if_neg (fun z => z hb)]
    have fin := hWd _ _ _ _ _ _ _ _ (show k + 0 + 0 ≤ k + 7 by omega) (show q + 0 + 0 ≤ q + 1135 by omega) (nx v5 v6 _ (jj_r hC hL h171 (fun _ _ _ => rfl) (fun _ _ _ => rfl) hK (thr_o _) (fun _ _ _ => rfl) hM.th))
    refine hGa.run [1081] 60 ?_
    simp [wp, stepI, ln, jmp, cmpI, Value.category, rd, tyF, va_rf, st1, st2, clr, isLg, CB, inx_0, inx_1, inx_2, inx_3, inx_4, inx_5, bI_0, bI_1, bI_ok, fin3, q0, m0, hsc, dL_law_418, dL_law_421, dL_law_422, dL_law_423]
    exact fin
  · obtain ⟨mI1, rfl, f1, S1⟩ := hy hb
    have fg : ∀ a k, ¬ (33 ≤ a ∧ a ≤ 80) → a ≠ 20 → fgI mI1 a k = mI a k := fun a k h h4 => (fgI_o (by omega)).trans (f1 a k (by omega))
    have M1 : MI2 (fgI mI1) A Am lf x := hM.fr (fun a k z => fg a k (by unfold mdC at z; omega) (by unfold mdC at z; omega))
    have K1 : KpI (fgI mI1) mL (aUns A) := KpI.fg (hK.fr (fun a k h1 h2 => f1 a k (by omega)) (fun _ _ _ _ => rfl)) _
    obtain ⟨p1, p2, p3, p4, p5, p6, p7, p8⟩ := M1.m hV
    refine hGa.run [415] 60 ?_
    simp [wp, stepI, ln, jmp, cmpI, Value.category, rd, tyF, va_rf, st1, st2, clr, isLg, CB, inx_0, inx_1, inx_2, inx_3, inx_4, inx_5, bI_0, bI_1, bI_ok, fin3, q0, m0, hsc, dL_law_414, dL_law_415]
    refine hGa.callV dL_law_415 mv_13_45 [] [_] (c12_unsay l X 2000 sh (fgI mI1) mL mR n hL (A 0 2) (A 5) (A 6) (A 7) p2) ⟨_, rfl, rfl⟩ m0 (by decide) rfl (by decide) (by simp [Value.category]) rfl ?_
    rintro r M' ⟨rfl, rfl⟩
    rw [if_pos hb]
    have M2 := uns_M M1
    have o2 : ∀ a k, ¬ (129 ≤ a ∧ a ≤ 170) → up2 (thr (fgI mI1)) 156 0 (nI (A 0 2 - 1)) a k = fgI mI1 a k := fun a k h => (up2_ne (by omega)).trans (thr_o _ a k h)
    generalize up2 (thr (fgI mI1)) 156 0 (nI (A 0 2 - 1)) = mI2 at M2 o2 ⊢
    have S2 : ShA sh mI2 mR n 20 C (aUns A) := S1.fr3 (Nat.le_refl _) (by have := hC.2.1; omega) (fun _ _ => rfl) rfl (fun _ _ _ _ => rfl) (fun a k h _ => (o2 a k (by omega)).trans (fgI_o (by omega)))
    have C2 : CI sh mI2 mL mR n (aUns A) Am lf x := hC.set2 (Nat.le_refl _) (fun _ _ => rfl) hB (aUns_V hV) S2 (K1.fr (fun a k h1 h2 => o2 a k (by omega)) (fun _ _ _ _ => rfl)) (fun a k _ h1 h2 h3 h4 h5 => (o2 a k h2).trans (fg a k h1 h3)) (fun _ _ _ _ _ _ => rfl) ⟨((o2 _ _ (by omega)).trans (fg _ _ (by omega) (by omega))).trans hT.1, hT.2.1, fun k hk => ⟨((o2 _ _ (by omega)).trans (fg _ _ (by omega) (by omega))).trans (hT.2.2 k hk).1, (hT.2.2 k hk).2⟩⟩ (fun p hp => ⟨((o2 _ _ (by omega)).trans (fg _ _ (by omega) (by omega))).trans (hds p hp).1, ((o2 _ _ (by omega)).trans (fg _ _ (by omega) (by omega))).trans (hds p hp).2⟩)
    have fin := hWd _ _ _ _ _ _ _ _ (show k + 0 + 0 ≤ k + 7 by omega) (show q + 0 + 0 ≤ q + 1135 by omega) (nx v5 v6 (sh, mI2, mL, mR, n) (⟨hL, h171, _, Am, lf, x, C2, M2⟩))
    refine hGa.run [1081] 60 ?_
    simp [wp, stepI, ln, jmp, cmpI, Value.category, rd, tyF, va_rf, st1, st2, clr, isLg, CB, inx_0, inx_1, inx_2, inx_3, inx_4, inx_5, bI_0, bI_1, bI_ok, fin3, q0, m0, hsc, dL_law_418, dL_law_421, dL_law_422, dL_law_423]
    exact fin
set_option maxHeartbeats 1600000 in
set_option maxRecDepth 100000 in
theorem lw_17 (l : Launch) (X : Cx) (N : Nat) (xs : Nat → Int32) (P : Option Value → Mm → Prop) (G : Nat → Nat → Nat → List (Option Value) → List Value → Mm → Prop) (hG : GL l X N xs P G) (sh : Nat → Option Sh) (mI : Nat → Nat → Int32) (mL : Nat → Nat → Int64) (mR : Nat → Nat → Option Nat) (n k q i : Nat) (v5 v6 : Option Value) (hN : N ≤ 3584) (hi : i + 7 ≤ N) (hk : k + 7 ≤ 601024) (hq : q + 1135 ≤ 7293034) (hnk : n ≤ k) (hsc : sh 1000000022 = some (.inr (.int, N))) (hxs : ∀ j, mI 1000000022 j = xs j) (hL : ML sh mR) (h171 : sh 171 = some (.inr (.long, 1))) (A : DD) (Am : Nat → DD) (lf : Nat → Nat) (x : TP) (hC : CI sh mI mL mR n A Am lf x) (hM : MI2 mI A Am lf x) (nx : ∀ v5 v6 M', JJ M' → G (k + 7) (q + 1135) 1081 (lL i v5 v6) [] M') : G k q 736 (lL i v5 v6) [] (sh, mI, mL, mR, n) := by
  obtain ⟨hGa, hWd, hbd, hfx, hcl⟩ := hG
  have q0 := hC.1.1
  have m0 := hL.1
  have hB := hC.1
  have hV := hC.2.2.1
  obtain ⟨C, hS⟩ := hC.2.2.2.1
  have hK := hC.2.2.2.2.1
  unfold lL at nx ⊢
  have hT := hC.2.2.2.2.2.2.1
  have hds := hC.2.2.2.2.2.2.2
  have h172 := hC.2.1
  refine hGa.run [749] 60 ?_
  simp [wp, stepI, ln, jmp, cmpI, Value.category, rd, tyF, va_rf, st1, st2, clr, isLg, CB, inx_0, inx_1, inx_2, inx_3, inx_4, inx_5, bI_0, bI_1, bI_ok, fin3, q0, m0, hsc, dL_law_736, dL_law_737, dL_law_738, dL_law_740, dL_law_741, dL_law_742, dL_law_743, dL_law_744, dL_law_746, dL_law_747, dL_law_748, dL_law_749]
  simp (disch := omega) only [li, nI_add, nI_clamp, nI_ltI, nI_leI, nI_eq, inx_iff, a31, nI_1shl', nI_shr', div_bit, tb1, tb0, fa_or, fa_and, nI_not, pk_sub, nI_dec, hxs]
  refine ⟨by omega, by omega, ?_⟩
  refine hGa.callV dL_law_749 mv_13_95 [.int (xs (i + 1)), .int (xs (i + 2))] [] (c11_sit l X 2000 sh mI mL mR n hB C A hV hS (xs (i + 1)) (xs (i + 2)) (by decide)) ⟨_, rfl, rfl⟩ q0 (by decide) rfl (by decide) (by simp [Value.category]) rfl ?_
  rintro r M' ⟨rfl, hy, hn⟩
  cases hb : siB A (xs (i + 1)) (xs (i + 2)) with
  | false =>
    obtain rfl := hn hb
    obtain ⟨p1, p2, p3, p4, p5, p6, p7, p8⟩ := hM.m hV
    refine hGa.run [765] 60 ?_
    simp [wp, stepI, ln, jmp, cmpI, Value.category, rd, tyF, va_rf, st1, st2, clr, isLg, CB, inx_0, inx_1, inx_2, inx_3, inx_4, inx_5, bI_0, bI_1, bI_ok, fin3, q0, m0, hsc, dL_law_752, dL_law_753, dL_law_754, dL_law_756, dL_law_757, dL_law_758, dL_law_759, dL_law_760, dL_law_762, dL_law_763, dL_law_764, dL_law_765]
    simp (disch := omega) only [li, nI_add, nI_clamp, nI_ltI, nI_leI, nI_eq, inx_iff, a31, nI_1shl', nI_shr', div_bit, tb1, tb0, fa_or, fa_and, nI_not, pk_sub, nI_dec, hxs]
    refine ⟨by omega, by omega, ?_⟩
    refine hGa.callV dL_law_765 mv_13_99 [.int (xs (i + 1)), .int (xs (i + 2))] [_] (c12_sit l X 2000 sh mI mL mR n hL (A 0 0) p1 (xs (i + 1)) (xs (i + 2)) (by decide)) ⟨_, rfl, rfl⟩ m0 (by decide) rfl (by decide) (by simp [Value.category]) rfl ?_
    rintro r M' ⟨rfl, rfl⟩
    rw [sit_e hM hV, hb]
    have fin := hWd _ _ _ _ _ _ _ _ (show k + 0 + 0 ≤ k + 7 by omega) (show q + 0 + 0 ≤ q + 1135 by omega) (nx v5 v6 _ (jj_r hC hL h171 (fun _ _ _ => rfl) (fun _ _ _ => rfl) hK (thr_o _) (fun _ _ _ => rfl) hM.th))
    refine hGa.run [1081] 60 ?_
    simp [wp, stepI, ln, jmp, cmpI, Value.category, rd, tyF, va_rf, st1, st2, clr, isLg, CB, inx_0, inx_1, inx_2, inx_3, inx_4, inx_5, bI_0, bI_1, bI_ok, fin3, q0, m0, hsc, dL_law_768, dL_law_771, dL_law_772, dL_law_773]
    exact fin
  | true =>
    obtain ⟨mI1, rfl, f1, S1⟩ := hy hb
    have hnp := hV.1.1
    have hb6 := hV.1.2.1
    have hb2 := hb
    unfold siB at hb2
    rw [Bool.and_eq_true, Bool.and_eq_true, Bool.and_eq_true] at hb2
    obtain ⟨p, hp, e1⟩ := aP_i hV hb2.1.1.1
    obtain ⟨s, hs, e2⟩ := aS_i hV hb2.1.1.2
    obtain ⟨k1, k2⟩ := kS_ok s (by omega)
    have hf := hb2.2
    rw [e1, e2] at S1
    rw [e2, Bool.or_eq_true] at hf
    rw [nI_clamp (by omega), k1] at S1
    have M1 : MI2 mI1 A Am lf x := hM.fr (fun a k z => f1 a k (by unfold mdC at z; omega))
    have hxs1 : ∀ j, mI1 1000000022 j = xs j := fun j => (f1 _ _ (by omega)).trans (hxs j)
    have V2 : AsV (aSit A p s) := aSit_V hV hs (hf.elim (fun z => Or.inl ((nI_s0 (by omega)).mp (of_decide_eq_true z))) (fun z => Or.inr (of_decide_eq_true z)))
    have K1 : KpI mI1 mL (aSit A p s) := hK.fr (fun a k h1 h2 => f1 a k (by omega)) (fun _ _ _ _ => rfl)
    obtain ⟨p1, p2, p3, p4, p5, p6, p7, p8⟩ := M1.m hV
    refine hGa.run [765] 60 ?_
    simp [wp, stepI, ln, jmp, cmpI, Value.category, rd, tyF, va_rf, st1, st2, clr, isLg, CB, inx_0, inx_1, inx_2, inx_3, inx_4, inx_5, bI_0, bI_1, bI_ok, fin3, q0, m0, hsc, dL_law_752, dL_law_753, dL_law_754, dL_law_756, dL_law_757, dL_law_758, dL_law_759, dL_law_760, dL_law_762, dL_law_763, dL_law_764, dL_law_765]
    simp (disch := omega) only [li, nI_add, nI_clamp, nI_ltI, nI_leI, nI_eq, inx_iff, a31, nI_1shl', nI_shr', div_bit, tb1, tb0, fa_or, fa_and, nI_not, pk_sub, nI_dec, hxs1]
    refine ⟨by omega, by omega, ?_⟩
    refine hGa.callV dL_law_765 mv_13_99 [.int (xs (i + 1)), .int (xs (i + 2))] [_] (c12_sit l X 2000 sh mI1 mL mR n hL (A 0 0) p1 (xs (i + 1)) (xs (i + 2)) (by decide)) ⟨_, rfl, rfl⟩ m0 (by decide) rfl (by decide) (by simp [Value.category]) rfl ?_
    rintro r M' ⟨rfl, rfl⟩
    rw [sit_e M1 hV, hb, if_pos rfl, e1, e2, nI_clamp (by omega), k2]
    have M2 := (sit_M M1 hV p s hp).1
    have o2 : ∀ a k, ¬ (129 ≤ a ∧ a ≤ 170) → up2 (thr mI1) 156 (121 + p) (nI s) a k = mI1 a k := fun a k h => (up2_ne (by omega)).trans (thr_o _ a k h)
    generalize up2 (thr mI1) 156 (121 + p) (nI s) = mI2 at M2 o2 ⊢
    have S2 : ShA sh mI2 mR n 20 C (aSit A p s) := S1.fr3 (Nat.le_refl _) (by omega) (fun _ _ => rfl) rfl (fun _ _ _ _ => rfl) (fun a k h _ => o2 a k (by omega))
    have C2 : CI sh mI2 mL mR n (aSit A p s) Am lf x := hC.set2 (Nat.le_refl _) (fun _ _ => rfl) hB V2 S2 (K1.fr (fun a k h1 h2 => o2 a k (by omega)) (fun _ _ _ _ => rfl)) (fun a k _ h1 h2 h3 h4 h5 => (o2 a k h2).trans (f1 a k (by omega))) (fun _ _ _ _ _ _ => rfl) ⟨((o2 _ _ (by omega)).trans (f1 _ _ (by omega))).trans hT.1, hT.2.1, fun k hk => ⟨((o2 _ _ (by omega)).trans (f1 _ _ (by omega))).trans (hT.2.2 k hk).1, (hT.2.2 k hk).2⟩⟩ (fun p hp => ⟨((o2 _ _ (by omega)).trans (f1 _ _ (by omega))).trans (hds p hp).1, ((o2 _ _ (by omega)).trans (f1 _ _ (by omega))).trans (hds p hp).2⟩)
    have fin := hWd _ _ _ _ _ _ _ _ (show k + 0 + 0 ≤ k + 7 by omega) (show q + 0 + 0 ≤ q + 1135 by omega) (nx v5 v6 (sh, mI2, mL, mR, n) (⟨hL, h171, _, Am, lf, x, C2, M2⟩))
    refine hGa.run [1081] 60 ?_
    simp [wp, stepI, ln, jmp, cmpI, Value.category, rd, tyF, va_rf, st1, st2, clr, isLg, CB, inx_0, inx_1, inx_2, inx_3, inx_4, inx_5, bI_0, bI_1, bI_ok, fin3, q0, m0, hsc, dL_law_768, dL_law_771, dL_law_772, dL_law_773]
    exact fin
set_option maxHeartbeats 1600000 in
set_option maxRecDepth 100000 in
theorem lw_18 (l : Launch) (X : Cx) (N : Nat) (xs : Nat → Int32) (P : Option Value → Mm → Prop) (G : Nat → Nat → Nat → List (Option Value) → List Value → Mm → Prop) (hG : GL l X N xs P G) (sh : Nat → Option Sh) (mI : Nat → Nat → Int32) (mL : Nat → Nat → Int64) (mR : Nat → Nat → Option Nat) (n k q i : Nat) (v5 v6 : Option Value) (hN : N ≤ 3584) (hi : i + 7 ≤ N) (hk : k + 7 ≤ 601024) (hq : q + 1135 ≤ 7293034) (hnk : n ≤ k) (hsc : sh 1000000022 = some (.inr (.int, N))) (hxs : ∀ j, mI 1000000022 j = xs j) (hL : ML sh mR) (h171 : sh 171 = some (.inr (.long, 1))) (A : DD) (Am : Nat → DD) (lf : Nat → Nat) (x : TP) (hC : CI sh mI mL mR n A Am lf x) (hM : MI2 mI A Am lf x) (nx : ∀ v5 v6 M', JJ M' → G (k + 7) (q + 1135) 1081 (lL i v5 v6) [] M') : G k q 773 (lL i v5 v6) [] (sh, mI, mL, mR, n) := by
  obtain ⟨hGa, hWd, hbd, hfx, hcl⟩ := hG
  have q0 := hC.1.1
  have m0 := hL.1
  have hB := hC.1
  have hV := hC.2.2.1
  obtain ⟨C, hS⟩ := hC.2.2.2.1
  have hK := hC.2.2.2.2.1
  unfold lL at nx ⊢
  have hT := hC.2.2.2.2.2.2.1
  have hds := hC.2.2.2.2.2.2.2
  have h172 := hC.2.1
  refine hGa.run [786] 60 ?_
  simp [wp, stepI, ln, jmp, cmpI, Value.category, rd, tyF, va_rf, st1, st2, clr, isLg, CB, inx_0, inx_1, inx_2, inx_3, inx_4, inx_5, bI_0, bI_1, bI_ok, fin3, q0, m0, hsc, dL_law_773, dL_law_774, dL_law_775, dL_law_777, dL_law_778, dL_law_779, dL_law_780, dL_law_781, dL_law_783, dL_law_784, dL_law_785, dL_law_786]
  simp (disch := omega) only [li, nI_add, nI_clamp, nI_ltI, nI_leI, nI_eq, inx_iff, a31, nI_1shl', nI_shr', div_bit, tb1, tb0, fa_or, fa_and, nI_not, pk_sub, nI_dec, hxs]
  refine ⟨by omega, by omega, ?_⟩
  refine hGa.callV dL_law_786 mv_13_100 [.int (xs (i + 1)), .int (xs (i + 2))] [] (c11_plan l X 2000 sh mI mL mR n hB C A hV hS (xs (i + 1)) (xs (i + 2)) (by decide)) ⟨_, rfl, rfl⟩ q0 (by decide) rfl (by decide) (by simp [Value.category]) rfl ?_
  rintro r M' ⟨rfl, hy, hn⟩
  cases hb : piB A (xs (i + 1)) (xs (i + 2)) with
  | false =>
    obtain rfl := hn hb
    obtain ⟨p1, p2, p3, p4, p5, p6, p7, p8⟩ := hM.m hV
    refine hGa.run [802] 60 ?_
    simp [wp, stepI, ln, jmp, cmpI, Value.category, rd, tyF, va_rf, st1, st2, clr, isLg, CB, inx_0, inx_1, inx_2, inx_3, inx_4, inx_5, bI_0, bI_1, bI_ok, fin3, q0, m0, hsc, dL_law_789, dL_law_790, dL_law_791, dL_law_793, dL_law_794, dL_law_795, dL_law_796, dL_law_797, dL_law_799, dL_law_800, dL_law_801, dL_law_802]
    simp (disch := omega) only [li, nI_add, nI_clamp, nI_ltI, nI_leI, nI_eq, inx_iff, a31, nI_1shl', nI_shr', div_bit, tb1, tb0, fa_or, fa_and, nI_not, pk_sub, nI_dec, hxs]
    refine ⟨by omega, by omega, ?_⟩
    refine hGa.callV dL_law_802 mv_13_103 [.int (xs (i + 1)), .int (xs (i + 2))] [_] (c12_plan l X 2000 sh mI mL mR n hL (A 0 0) p1 (xs (i + 1)) (xs (i + 2)) (by decide)) ⟨_, rfl, rfl⟩ m0 (by decide) rfl (by decide) (by simp [Value.category]) rfl ?_
    rintro r M' ⟨rfl, rfl⟩
    rw [pln_e hM hV, hb]
    have fin := hWd _ _ _ _ _ _ _ _ (show k + 0 + 0 ≤ k + 7 by omega) (show q + 0 + 0 ≤ q + 1135 by omega) (nx v5 v6 _ (jj_r hC hL h171 (fun _ _ _ => rfl) (fun _ _ _ => rfl) hK (thr_o _) (fun _ _ _ => rfl) hM.th))
    refine hGa.run [1081] 60 ?_
    simp [wp, stepI, ln, jmp, cmpI, Value.category, rd, tyF, va_rf, st1, st2, clr, isLg, CB, inx_0, inx_1, inx_2, inx_3, inx_4, inx_5, bI_0, bI_1, bI_ok, fin3, q0, m0, hsc, dL_law_805, dL_law_808, dL_law_809, dL_law_810]
    exact fin
  | true =>
    obtain ⟨mI1, rfl, f1, S1⟩ := hy hb
    have hnp := hV.1.1
    have hb6 := hV.1.2.1
    have hb2 := hb
    unfold piB at hb2
    rw [Bool.and_eq_true, Bool.and_eq_true] at hb2
    obtain ⟨p, hp, e1⟩ := aP_i hV hb2.1.1
    obtain ⟨s, hs, e2⟩ := aS_i hV hb2.1.2
    obtain ⟨k1, k2⟩ := kS_ok s (by omega)
    have hf := hb2.2
    rw [e1, e2] at S1
    rw [e1, e2, Bool.or_eq_true] at hf
    rw [nI_clamp (by omega), k1] at S1
    rw [nI_clamp (by omega)] at hf
    have M1 : MI2 mI1 A Am lf x := hM.fr (fun a k z => f1 a k (by unfold mdC at z; omega))
    have hxs1 : ∀ j, mI1 1000000022 j = xs j := fun j => (f1 _ _ (by omega)).trans (hxs j)
    have V2 : AsV (aPln A p s) := aPln_V hV hs (hf.elim (fun z => Or.inl ((nI_s0 (by omega)).mp (of_decide_eq_true z))) (fun z => Or.inr (of_decide_eq_true z)))
    have K1 : KpI mI1 mL (aPln A p s) := hK.fr (fun a k h1 h2 => f1 a k (by omega)) (fun _ _ _ _ => rfl)
    obtain ⟨p1, p2, p3, p4, p5, p6, p7, p8⟩ := M1.m hV
    refine hGa.run [802] 60 ?_
    simp [wp, stepI, ln, jmp, cmpI, Value.category, rd, tyF, va_rf, st1, st2, clr, isLg, CB, inx_0, inx_1, inx_2, inx_3, inx_4, inx_5, bI_0, bI_1, bI_ok, fin3, q0, m0, hsc, dL_law_789, dL_law_790, dL_law_791, dL_law_793, dL_law_794, dL_law_795, dL_law_796, dL_law_797, dL_law_799, dL_law_800, dL_law_801, dL_law_802]
    simp (disch := omega) only [li, nI_add, nI_clamp, nI_ltI, nI_leI, nI_eq, inx_iff, a31, nI_1shl', nI_shr', div_bit, tb1, tb0, fa_or, fa_and, nI_not, pk_sub, nI_dec, hxs1]
    refine ⟨by omega, by omega, ?_⟩
    refine hGa.callV dL_law_802 mv_13_103 [.int (xs (i + 1)), .int (xs (i + 2))] [_] (c12_plan l X 2000 sh mI1 mL mR n hL (A 0 0) p1 (xs (i + 1)) (xs (i + 2)) (by decide)) ⟨_, rfl, rfl⟩ m0 (by decide) rfl (by decide) (by simp [Value.category]) rfl ?_
    rintro r M' ⟨rfl, rfl⟩
    rw [pln_e M1 hV, hb, if_pos rfl, e1, e2, nI_clamp (by omega), k2]
    have M2 := (sit_M M1 hV p s hp).2
    have o2 : ∀ a k, ¬ (129 ≤ a ∧ a ≤ 170) → up2 (thr mI1) 156 (131 + p) (nI s) a k = mI1 a k := fun a k h => (up2_ne (by omega)).trans (thr_o _ a k h)
    generalize up2 (thr mI1) 156 (131 + p) (nI s) = mI2 at M2 o2 ⊢
    have S2 : ShA sh mI2 mR n 20 C (aPln A p s) := S1.fr3 (Nat.le_refl _) (by omega) (fun _ _ => rfl) rfl (fun _ _ _ _ => rfl) (fun a k h _ => o2 a k (by omega))
    have C2 : CI sh mI2 mL mR n (aPln A p s) Am lf x := hC.set2 (Nat.le_refl _) (fun _ _ => rfl) hB V2 S2 (K1.fr (fun a k h1 h2 => o2 a k (by omega)) (fun _ _ _ _ => rfl)) (fun a k _ h1 h2 h3 h4 h5 => (o2 a k h2).trans (f1 a k (by omega))) (fun _ _ _ _ _ _ => rfl) ⟨((o2 _ _ (by omega)).trans (f1 _ _ (by omega))).trans hT.1, hT.2.1, fun k hk => ⟨((o2 _ _ (by omega)).trans (f1 _ _ (by omega))).trans (hT.2.2 k hk).1, (hT.2.2 k hk).2⟩⟩ (fun p hp => ⟨((o2 _ _ (by omega)).trans (f1 _ _ (by omega))).trans (hds p hp).1, ((o2 _ _ (by omega)).trans (f1 _ _ (by omega))).trans (hds p hp).2⟩)
    have fin := hWd _ _ _ _ _ _ _ _ (show k + 0 + 0 ≤ k + 7 by omega) (show q + 0 + 0 ≤ q + 1135 by omega) (nx v5 v6 (sh, mI2, mL, mR, n) (⟨hL, h171, _, Am, lf, x, C2, M2⟩))
    refine hGa.run [1081] 60 ?_
    simp [wp, stepI, ln, jmp, cmpI, Value.category, rd, tyF, va_rf, st1, st2, clr, isLg, CB, inx_0, inx_1, inx_2, inx_3, inx_4, inx_5, bI_0, bI_1, bI_ok, fin3, q0, m0, hsc, dL_law_805, dL_law_808, dL_law_809, dL_law_810]
    exact fin
