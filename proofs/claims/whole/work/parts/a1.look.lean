/-! what is looked up -/
theorem wth_f {w : Int32} {k : Nat} (hk : (nI k).toInt = k) (h : w.toInt < 0 ∨ (k : Int) < w.toInt) : wth w (nI 0) (nI k) = false := by
  unfold wth
  refine decide_eq_false (fun z => ?_)
  have z1 := Int32.le_iff_toInt_le.mp z.1
  have z2 := Int32.le_iff_toInt_le.mp z.2
  rw [hk] at z2
  have z3 : (nI 0).toInt = 0 := rfl
  omega
theorem wth_t {j k : Nat} (hj : j ≤ k) (hk : k < 1000) : wth (nI j) (nI 0) (nI k) = true := by
  unfold wth
  exact decide_eq_true ⟨(nI_leI (by omega) (by omega)).mpr (by omega), (nI_leI (by omega) (by omega)).mpr hj⟩
def aPup (A : DD) (x w : Int32) : Int32 := if aP A x && wth w (nI 0) (nI 3) then (if w = nI 0 then nI (A 2 x.toNatClampNeg) else if w = nI 1 then nI (A 3 x.toNatClampNeg) else if w = nI 2 then nI (A 11 x.toNatClampNeg) - nI 1 else nI (A 12 x.toNatClampNeg) - nI 1) else -nI 1
theorem aPup_at {A : DD} (hV : AsV A) {p j : Nat} (hp : p < A 0 0) (hj : j ≤ 3) : aPup A (nI p) (nI j) = if nI j = nI 0 then nI (A 2 p) else if nI j = nI 1 then nI (A 3 p) else if nI j = nI 2 then nI (A 11 p) - nI 1 else nI (A 12 p) - nI 1 := by
  have := hV.1.1
  unfold aPup
  rw [aP_nI hV hp, wth_t hj (by decide), Bool.and_true, if_pos rfl, nI_clamp (by omega)]
set_option maxHeartbeats 800000 in
set_option maxRecDepth 100000 in
theorem c11_pupil (l : Launch) (X : Cx) (d : Nat) (sh : Nat → Option Sh) (mI : Nat → Nat → Int32) (mL : Nat → Nat → Int64) (mR : Nat → Nat → Option Nat) (n : Nat) (hB : BL sh mR) (C : Nat) (A : DD) (hV : AsV A) (hS : ShA sh mI mR n 20 C A) (x w : Int32) (hd : 1 ≤ d) : Cn l X yX11_pupil cX11_pupil 3 (some .int) d [.ref 0, .int x, .int w] (sh, mI, mL, mR, n) (fun r M' => r = some (.int (aPup A x w)) ∧ M' = (sh, mI, mL, mR, n)) 0 0 := by
  refine Cn.run 11 false (by decide) rfl (by decide) (by simp [entA, Value.category]) ?_
  intro P G hP hG
  have q0 := hB.1
  have b3 := hB.2.2.2.1.1
  have o6 := hB.2.2.2.1.2
  have s6 := o6.1
  have sc := hS.1
  have o4 := hS.2.1.1
  have c4 := o4.1
  have h10 := hV.1.1
  have kk := o4.2.2 (0, 1, .int, 10) (by decide)
  have kt := o4.2.2 (1, 2, .int, 10) (by decide)
  have ks := o6.2.2 (5, 10, .int, 10) (by decide)
  have kp := o6.2.2 (6, 11, .int, 10) (by decide)
  dsimp only at kk kt ks kp
  refine hG.run [] 20 ?_
  simp [wp, stepI, ln, jmp, cmpI, Value.category, rd, tyF, va_rf, st1, st2, clr, isLg, CB, inx_0, inx_1, inx_2, inx_3, inx_4, inx_5, bI_0, bI_1, bI_ok, fin3, tyX11, entL, q0, dX11_pupil_0, dX11_pupil_1, dX11_pupil_2, dX11_pupil_5, dX11_pupil_8, dX11_pupil_9, dX11_pupil_10, dX11_pupil_11, dX11_pupil_40, dX11_pupil_41, fT_11_23, dX11_pupil_44, fT_11_104, dX11_pupil_47, fT_11_108, dX11_pupil_50, dX11_pupil_51, dX11_pupil_52, dX11_pupil_53, dX11_pupil_54, dX11_pupil_57, dX11_pupil_60, fT_11_114, dX11_pupil_63, dX11_pupil_64, dX11_pupil_65, dX11_pupil_66, dX11_pupil_67, dX11_pupil_70, fT_11_117, dX11_pupil_73, dX11_pupil_74, dX11_pupil_75, dX11_pupil_76, dX11_pupil_77, dX11_pupil_80, fT_11_120, dX11_pupil_83, dX11_pupil_84, dX11_pupil_85, dX11_pupil_86, dX11_pupil_87]
  refine hG.callV dX11_pupil_2 mv_11_100 [.int x] [] (c11_isPupil l X (d - 1) sh mI mL mR n hB C A hS x) ⟨_, rfl, rfl⟩ q0 (by omega) rfl (by decide) (by simp [Value.category]) rfl ?_
  rintro r M' ⟨rfl, rfl⟩
  cases hx : aP A x with
  | false =>
    have q := hP _ _ ⟨rfl, rfl⟩
    have e : aPup A x w = -1 := by unfold aPup; rw [hx]; rfl
    rw [e] at q
    refine hG.run [10] 20 ?_
    simp [wp, stepI, ln, jmp, cmpI, Value.category, rd, tyF, va_rf, st1, st2, clr, isLg, CB, inx_0, inx_1, inx_2, inx_3, inx_4, inx_5, bI_0, bI_1, bI_ok, fin3, tyX11, entL, q0, dX11_pupil_0, dX11_pupil_1, dX11_pupil_2, dX11_pupil_5, dX11_pupil_8, dX11_pupil_9, dX11_pupil_10, dX11_pupil_11, dX11_pupil_40, dX11_pupil_41, fT_11_23, dX11_pupil_44, fT_11_104, dX11_pupil_47, fT_11_108, dX11_pupil_50, dX11_pupil_51, dX11_pupil_52, dX11_pupil_53, dX11_pupil_54, dX11_pupil_57, dX11_pupil_60, fT_11_114, dX11_pupil_63, dX11_pupil_64, dX11_pupil_65, dX11_pupil_66, dX11_pupil_67, dX11_pupil_70, fT_11_117, dX11_pupil_73, dX11_pupil_74, dX11_pupil_75, dX11_pupil_76, dX11_pupil_77, dX11_pupil_80, fT_11_120, dX11_pupil_83, dX11_pupil_84, dX11_pupil_85, dX11_pupil_86, dX11_pupil_87]
    exact q
  | true =>
    obtain ⟨p, hp, rfl⟩ := aP_i hV hx
    have c21 : ¬ C + 1 = 1000000021 ∧ ¬ C + 2 = 1000000021 := by have := o4.2.1; omega
    have v1 := (hS.2.1.2.2.2.2.1 p hp).1
    have v2 := (hS.2.1.2.2.2.2.1 p hp).2
    have v3 := (hS.2.2.2.2 p hp).1
    have v4 := (hS.2.2.2.2 p hp).2
    refine hG.run [10] 20 ?_
    simp [wp, stepI, ln, jmp, cmpI, Value.category, rd, tyF, va_rf, st1, st2, clr, isLg, CB, inx_0, inx_1, inx_2, inx_3, inx_4, inx_5, bI_0, bI_1, bI_ok, fin3, tyX11, entL, q0, dX11_pupil_0, dX11_pupil_1, dX11_pupil_2, dX11_pupil_5, dX11_pupil_8, dX11_pupil_9, dX11_pupil_10, dX11_pupil_11, dX11_pupil_40, dX11_pupil_41, fT_11_23, dX11_pupil_44, fT_11_104, dX11_pupil_47, fT_11_108, dX11_pupil_50, dX11_pupil_51, dX11_pupil_52, dX11_pupil_53, dX11_pupil_54, dX11_pupil_57, dX11_pupil_60, fT_11_114, dX11_pupil_63, dX11_pupil_64, dX11_pupil_65, dX11_pupil_66, dX11_pupil_67, dX11_pupil_70, fT_11_117, dX11_pupil_73, dX11_pupil_74, dX11_pupil_75, dX11_pupil_76, dX11_pupil_77, dX11_pupil_80, fT_11_120, dX11_pupil_83, dX11_pupil_84, dX11_pupil_85, dX11_pupil_86, dX11_pupil_87]
    refine hG.run [] 40 ?_
    simp [wp, stepI, ln, jmp, cmpI, Value.category, rd, tyF, va_rf, st1, st2, clr, isLg, CB, inx_0, inx_1, inx_2, inx_3, inx_4, inx_5, bI_0, bI_1, bI_ok, fin3, tyX11, entL, q0, swK, b3, s6, sc, c4, kk, kt, ks, kp, tyX6, tyX4, c21, okT, dX11_pupil_0, dX11_pupil_1, dX11_pupil_2, dX11_pupil_5, dX11_pupil_8, dX11_pupil_9, dX11_pupil_10, dX11_pupil_11, dX11_pupil_40, dX11_pupil_41, fT_11_23, dX11_pupil_44, fT_11_104, dX11_pupil_47, fT_11_108, dX11_pupil_50, dX11_pupil_51, dX11_pupil_52, dX11_pupil_53, dX11_pupil_54, dX11_pupil_57, dX11_pupil_60, fT_11_114, dX11_pupil_63, dX11_pupil_64, dX11_pupil_65, dX11_pupil_66, dX11_pupil_67, dX11_pupil_70, fT_11_117, dX11_pupil_73, dX11_pupil_74, dX11_pupil_75, dX11_pupil_76, dX11_pupil_77, dX11_pupil_80, fT_11_120, dX11_pupil_83, dX11_pupil_84, dX11_pupil_85, dX11_pupil_86, dX11_pupil_87]
    simp (disch := omega) only [li, nI_add, nI_clamp, nI_ltI, nI_leI, nI_eq, inx_iff, a31, nI_1shl', nI_shr', div_bit, tb1, tb0, fa_or, fa_and, nI_not, pk_sub, nI_dec, v1, v2, v3, v4]
    refine ⟨⟨fun h => ⟨by omega, hP _ _ ⟨?_, rfl⟩⟩, fun h => ⟨by omega, hP _ _ ⟨?_, rfl⟩⟩, fun h => ⟨by omega, hP _ _ ⟨?_, rfl⟩⟩, fun h => ⟨by omega, hP _ _ ⟨?_, rfl⟩⟩⟩, fun h => hP _ _ ⟨?_, rfl⟩⟩
    · rw [h, aPup_at hV hp (by decide), if_pos rfl]
    · rw [h, aPup_at hV hp (by decide), if_neg (by decide), if_pos rfl]
    · rw [h, aPup_at hV hp (by decide), if_neg (by decide), if_neg (by decide), if_pos rfl]
    · rw [h, aPup_at hV hp (by decide), if_neg (by decide), if_neg (by decide), if_neg (by decide)]
    · unfold aPup; rw [wth_f (by decide) h, Bool.and_false]; rfl
theorem nn_k {x : Int32} {c : Nat} (hc : c ≤ 40) (h : nI 0 ≤ x) (h2 : x < nI c) : ∃ k, k < c ∧ x = nI k := by
  obtain ⟨k, hk, rfl⟩ := nI_of (x := x) (by rw [Int32.not_lt]; exact h)
  exact ⟨k, (nI_ltI hk (by omega)).mp h2, rfl⟩
set_option maxHeartbeats 800000 in
set_option maxRecDepth 100000 in
theorem c11_saying (l : Launch) (X : Cx) (d : Nat) (sh : Nat → Option Sh) (mI : Nat → Nat → Int32) (mL : Nat → Nat → Int64) (mR : Nat → Nat → Option Nat) (n : Nat) (hB : BL sh mR) (C : Nat) (A : DD) (hV : AsV A) (hS : ShA sh mI mR n 20 C A) (i w : Int32) : Cn l X yX11_saying cX11_saying 3 (some .int) d [.ref 0, .int i, .int w] (sh, mI, mL, mR, n) (fun r M' => r = some (.int (sayingA (A 0 2) (A 5) (A 6) (A 7) i w)) ∧ M' = (sh, mI, mL, mR, n)) 0 0 := by
  refine Cn.run 11 false (by decide) rfl (by decide) (by simp [entA, Value.category]) ?_
  intro P G hP hG
  have q0 := hB.1
  have b3 := hB.2.2.2.1.1
  have o6 := hB.2.2.2.1.2
  have s6 := o6.1
  have cs := hS.2.2.1
  have c40 := hV.1.2.2.1
  have k1 := o6.2.2 (1, 7, .int, 40) (by decide)
  have k2 := o6.2.2 (2, 8, .int, 40) (by decide)
  have k3 := o6.2.2 (3, 9, .int, 40) (by decide)
  dsimp only at k1 k2 k3
  by_cases hi : nI 0 ≤ i ∧ i < nI (A 0 2)
  · obtain ⟨k, hk, rfl⟩ := nn_k c40 hi.1 hi.2
    obtain ⟨v1, v2, v3⟩ := hS.2.2.2.1 k hk
    have e : ∀ j, j ≤ 2 → sayingA (A 0 2) (A 5) (A 6) (A 7) (nI k) (nI j) = if nI j = nI 0 then nI (A 5 k) else if nI j = nI 1 then nI (A 6 k) else nI (A 7 k) := fun j hj => by
      unfold sayingA
      rw [decide_eq_true hi.1, decide_eq_true hi.2, wth_t hj (by decide), nI_clamp (by omega)]; rfl
    refine hG.run [] 40 ?_
    simp [wp, stepI, ln, jmp, cmpI, Value.category, rd, tyF, va_rf, st1, st2, clr, isLg, CB, inx_0, inx_1, inx_2, inx_3, inx_4, inx_5, bI_0, bI_1, bI_ok, fin3, tyX11, entL, q0, swK, b3, s6, cs, k1, k2, k3, tyX6, okT, dX11_saying_0, dX11_saying_1, dX11_saying_4, dX11_saying_5, dX11_saying_6, fT_11_23, dX11_saying_9, fT_11_127, dX11_saying_12, dX11_saying_15, dX11_saying_16, dX11_saying_17, dX11_saying_18, dX11_saying_44, dX11_saying_45, dX11_saying_48, fT_11_134, dX11_saying_51, dX11_saying_52, dX11_saying_53, dX11_saying_54, dX11_saying_55, dX11_saying_58, fT_11_137, dX11_saying_61, dX11_saying_62, dX11_saying_63, dX11_saying_64, dX11_saying_65, dX11_saying_68, fT_11_140, dX11_saying_71, dX11_saying_72, dX11_saying_73, dX11_saying_74, dX11_saying_75]
    simp (disch := omega) only [li, nI_add, nI_clamp, nI_ltI, nI_leI, nI_eq, inx_iff, a31, nI_1shl', nI_shr', div_bit, tb1, tb0, fa_or, fa_and, nI_not, pk_sub, nI_dec, v1, v2, v3]
    refine ⟨fun z => absurd z (by omega), fun _ => ⟨fun _ => ⟨⟨fun h => ⟨by omega, hP _ _ ⟨?_, rfl⟩⟩, fun h => ⟨by omega, hP _ _ ⟨?_, rfl⟩⟩, fun h => ⟨by omega, hP _ _ ⟨?_, rfl⟩⟩⟩, fun h => hP _ _ ⟨?_, rfl⟩⟩, fun z => absurd hk (by omega)⟩⟩
    · rw [h, e 0 (by decide), if_pos rfl]
    · rw [h, e 1 (by decide), if_neg (by decide), if_pos rfl]
    · rw [h, e 2 (by decide), if_neg (by decide), if_neg (by decide)]
    · unfold sayingA; rw [wth_f (by decide) h, Bool.and_false]; rfl
  · have e : sayingA (A 0 2) (A 5) (A 6) (A 7) i w = -1 := by
      unfold sayingA
      have : (decide (nI 0 ≤ i) && decide (i < nI (A 0 2))) = false := by
        rw [← Bool.decide_and]; exact decide_eq_false hi
      rw [this]; rfl
    have q := hP _ _ ⟨rfl, rfl⟩
    rw [e] at q
    refine hG.run [17] 40 ?_
    simp [wp, stepI, ln, jmp, cmpI, Value.category, rd, tyF, va_rf, st1, st2, clr, isLg, CB, inx_0, inx_1, inx_2, inx_3, inx_4, inx_5, bI_0, bI_1, bI_ok, fin3, tyX11, entL, q0, swK, b3, s6, cs, tyX6, dX11_saying_0, dX11_saying_1, dX11_saying_4, dX11_saying_5, dX11_saying_6, fT_11_23, dX11_saying_9, fT_11_127, dX11_saying_12, dX11_saying_15, dX11_saying_16, dX11_saying_17, dX11_saying_18, dX11_saying_44, dX11_saying_45, dX11_saying_48, fT_11_134, dX11_saying_51, dX11_saying_52, dX11_saying_53, dX11_saying_54, dX11_saying_55, dX11_saying_58, fT_11_137, dX11_saying_61, dX11_saying_62, dX11_saying_63, dX11_saying_64, dX11_saying_65, dX11_saying_68, fT_11_140, dX11_saying_71, dX11_saying_72, dX11_saying_73, dX11_saying_74, dX11_saying_75]
    exact ⟨fun _ => q, fun z => ⟨fun z2 => absurd ⟨z, z2⟩ hi, fun _ => q⟩⟩
def aCnt (A : DD) (T : Nat) (w : Int32) : Int32 := if wth w (nI 0) (nI 6) then (if w = nI 0 then nI (A 0 0) else if w = nI 1 then nI (A 0 1) else if w = nI 2 then nI (A 0 2) else if w = nI 3 then nI (A 0 3) else if w = nI 4 then nI (fb_ct (fun p => !decide (A 11 p = 0)) (A 0 0)) else if w = nI 5 then nI (fb_ct (fun p => !decide (A 12 p = 0)) (A 0 0)) else nI T) else -nI 1
theorem ShA.s {sh : Nat → Option Sh} {mI : Nat → Nat → Int32} {mR : Nat → Nat → Option Nat} {n S C : Nat} {A : DD} (h : ShA sh mI mR n S C A) (hV : AsV A) : ScP mI C (A 0 0) ∧ SeR mI (S + 10) (A 0 0) (A 11) ∧ SeR mI (S + 11) (A 0 0) (A 12) ∧ ShS mI S (A 0 2) (A 5) (A 6) (A 7) ∧ ScK mI C (A 0 0) (A 0 3) (A 2) ∧ ScL mI C (A 0 0) (fun a b => A 8 (10 * a + b)) := by
  obtain ⟨⟨v1, v2, v3, v4, v5⟩, w1, w2, w3, w4, w5, w6, w7⟩ := hV
  obtain ⟨h1, ⟨k1, k2, k3, k4, k5, k6, k7, k8⟩, h3, h4, h5⟩ := h
  refine ⟨⟨k4.1, v1⟩, fun p hp => ⟨(h5 p hp).1, ?_⟩, fun p hp => ⟨(h5 p hp).2, ?_⟩, ⟨h3, v3, fun k hk => ⟨(h4 k hk).1, (h4 k hk).2.1, (h4 k hk).2.2, ?_, ?_, (w3 k hk).2.2.2⟩⟩, ⟨k4.2.2, v4, fun p hp => ⟨(k5 p hp).1, (w1 p hp).1⟩⟩, fun a b ha hb => ⟨k7 _ (by omega), w4 _ (by omega)⟩⟩
  · have := (w6 p hp).1; omega
  · have := (w6 p hp).2; omega
  · have := (w3 k hk).1; omega
  · have := (w3 k hk).2.1; omega
set_option maxHeartbeats 800000 in
set_option maxRecDepth 100000 in
theorem c11_count (l : Launch) (X : Cx) (d : Nat) (sh : Nat → Option Sh) (mI : Nat → Nat → Int32) (mL : Nat → Nat → Int64) (mR : Nat → Nat → Option Nat) (n : Nat) (hB : BL sh mR) (C : Nat) (A : DD) (hV : AsV A) (hS : ShA sh mI mR n 20 C A) (T : Nat) (hT : mI 0 1 = nI T) (w : Int32) (hd : 1 ≤ d) : Cn l X yX11_count cX11_count 2 (some .int) d [.ref 0, .int w] (sh, mI, mL, mR, n) (fun r M' => r = some (.int (aCnt A T w)) ∧ M' = (sh, mI, mL, mR, n)) 0 0 := by
  refine Cn.run 11 false (by decide) rfl (by decide) (by simp [entA, Value.category]) ?_
  intro P G hP hG
  have q0 := hB.1
  have b3 := hB.2.2.2.1.1
  have o6 := hB.2.2.2.1.2
  have s6 := o6.1
  have sc := hS.1
  have o4 := hS.2.1.1
  have c4 := o4.1
  have cs := hS.2.2.1
  have cp := hS.2.1.2.2.2.1.1
  have cb := hS.2.1.2.2.2.1.2.1
  have cl := hS.2.1.2.2.2.1.2.2
  have ks := o6.2.2 (5, 10, .int, 10) (by decide)
  have kp := o6.2.2 (6, 11, .int, 10) (by decide)
  dsimp only at ks kp
  obtain ⟨z1, z2, z3, -⟩ := hS.s hV
  have e : ∀ j, j ≤ 6 → aCnt A T (nI j) = if nI j = nI 0 then nI (A 0 0) else if nI j = nI 1 then nI (A 0 1) else if nI j = nI 2 then nI (A 0 2) else if nI j = nI 3 then nI (A 0 3) else if nI j = nI 4 then nI (fb_ct (fun p => !decide (A 11 p = 0)) (A 0 0)) else if nI j = nI 5 then nI (fb_ct (fun p => !decide (A 12 p = 0)) (A 0 0)) else nI T := fun j hj => by unfold aCnt; rw [wth_t hj (by decide), if_pos rfl]
  refine hG.run [] 40 ?_
  simp [wp, stepI, ln, jmp, cmpI, Value.category, rd, tyF, va_rf, st1, st2, clr, isLg, CB, inx_0, inx_1, inx_2, inx_3, inx_4, inx_5, bI_0, bI_1, bI_ok, fin3, tyX11, entL, q0, swK, b3, s6, sc, c4, cs, cp, cb, cl, ks, kp, hT, tyX6, tyX4, dX11_count_0, dX11_count_1, dX11_count_44, dX11_count_45, fT_11_23, dX11_count_48, fT_11_104, dX11_count_51, fT_11_180, dX11_count_54, dX11_count_55, dX11_count_56, dX11_count_59, dX11_count_62, fT_11_264, dX11_count_65, dX11_count_66, dX11_count_67, dX11_count_70, fT_11_127, dX11_count_73, dX11_count_74, dX11_count_75, dX11_count_78, dX11_count_81, fT_11_267, dX11_count_84, dX11_count_85, dX11_count_86, dX11_count_89, dX11_count_90, dX11_count_93, fT_11_117, dX11_count_96, dX11_count_99, dX11_count_100, dX11_count_101, dX11_count_104, dX11_count_105, dX11_count_108, fT_11_120, dX11_count_111, dX11_count_114, dX11_count_115, dX11_count_116, fT_11_82, dX11_count_119, dX11_count_120, dX11_count_121]
  refine ⟨⟨fun h => hP _ _ ⟨?_, rfl⟩, fun h => hP _ _ ⟨?_, rfl⟩, fun h => hP _ _ ⟨?_, rfl⟩, fun h => hP _ _ ⟨?_, rfl⟩, fun h => ?_, fun h => ?_, fun h => hP _ _ ⟨?_, rfl⟩⟩, fun h => hP _ _ ⟨?_, rfl⟩⟩
  · rw [h]; exact congrArg _ (congrArg _ (e 0 (by decide)).symm)
  · rw [h]; exact congrArg _ (congrArg _ (e 1 (by decide)).symm)
  · rw [h]; exact congrArg _ (congrArg _ (e 2 (by decide)).symm)
  · rw [h]; exact congrArg _ (congrArg _ (e 3 (by decide)).symm)
  · refine hG.callV dX11_count_96 mv_11_216 [.ref 30] [] (c6_placedOf l X (d - 1) sh mI mL mR n 20 C 30 s6 ks.2 sc c4 (A 0 0) z1 (A 11) z2) ⟨_, rfl, rfl⟩ s6 (by omega) rfl (by decide) (by simp) rfl ?_
    rintro r M' ⟨rfl, rfl⟩
    refine hG.run [] 20 ?_
    simp [wp, stepI, ln, jmp, cmpI, Value.category, rd, tyF, va_rf, st1, st2, clr, isLg, CB, inx_0, inx_1, inx_2, inx_3, inx_4, inx_5, bI_0, bI_1, bI_ok, fin3, tyX11, entL, q0, dX11_count_0, dX11_count_1, dX11_count_44, dX11_count_45, fT_11_23, dX11_count_48, fT_11_104, dX11_count_51, fT_11_180, dX11_count_54, dX11_count_55, dX11_count_56, dX11_count_59, dX11_count_62, fT_11_264, dX11_count_65, dX11_count_66, dX11_count_67, dX11_count_70, fT_11_127, dX11_count_73, dX11_count_74, dX11_count_75, dX11_count_78, dX11_count_81, fT_11_267, dX11_count_84, dX11_count_85, dX11_count_86, dX11_count_89, dX11_count_90, dX11_count_93, fT_11_117, dX11_count_96, dX11_count_99, dX11_count_100, dX11_count_101, dX11_count_104, dX11_count_105, dX11_count_108, fT_11_120, dX11_count_111, dX11_count_114, dX11_count_115, dX11_count_116, fT_11_82, dX11_count_119, dX11_count_120, dX11_count_121]
    exact hP _ _ ⟨by rw [h]; exact congrArg _ (congrArg _ (e 4 (by decide)).symm), rfl⟩
  · refine hG.callV dX11_count_111 mv_11_216 [.ref 31] [] (c6_placedOf l X (d - 1) sh mI mL mR n 20 C 31 s6 kp.2 sc c4 (A 0 0) z1 (A 12) z3) ⟨_, rfl, rfl⟩ s6 (by omega) rfl (by decide) (by simp) rfl ?_
    rintro r M' ⟨rfl, rfl⟩
    refine hG.run [] 20 ?_
    simp [wp, stepI, ln, jmp, cmpI, Value.category, rd, tyF, va_rf, st1, st2, clr, isLg, CB, inx_0, inx_1, inx_2, inx_3, inx_4, inx_5, bI_0, bI_1, bI_ok, fin3, tyX11, entL, q0, dX11_count_0, dX11_count_1, dX11_count_44, dX11_count_45, fT_11_23, dX11_count_48, fT_11_104, dX11_count_51, fT_11_180, dX11_count_54, dX11_count_55, dX11_count_56, dX11_count_59, dX11_count_62, fT_11_264, dX11_count_65, dX11_count_66, dX11_count_67, dX11_count_70, fT_11_127, dX11_count_73, dX11_count_74, dX11_count_75, dX11_count_78, dX11_count_81, fT_11_267, dX11_count_84, dX11_count_85, dX11_count_86, dX11_count_89, dX11_count_90, dX11_count_93, fT_11_117, dX11_count_96, dX11_count_99, dX11_count_100, dX11_count_101, dX11_count_104, dX11_count_105, dX11_count_108, fT_11_120, dX11_count_111, dX11_count_114, dX11_count_115, dX11_count_116, fT_11_82, dX11_count_119, dX11_count_120, dX11_count_121]
    exact hP _ _ ⟨by rw [h]; exact congrArg _ (congrArg _ (e 5 (by decide)).symm), rfl⟩
  · rw [h]; exact congrArg _ (congrArg _ (e 6 (by decide)).symm)
  · unfold aCnt; rw [wth_f (by decide) h]; rfl
