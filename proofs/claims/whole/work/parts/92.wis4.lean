theorem c9_pairFrom (np : Nat) (V : Nat → Nat → Int32) (l : Launch) (X : Cx) (sh : Nat → Option Sh) (mR : Nat → Nat → Option Nat) (n : Nat) (W : Nat) (hO : OL sh mR W 9 ob9) : ∀ (m d : Nat) (mI : Nat → Nat → Int32) (mL : Nat → Nat → Int64), 2 * m + 2 ≤ d → WiM mI W np V → ∀ t, t < 2 ^ np → pcn t = 2 * m → ∀ w, MtM mI W np t w → ∀ s, KpM mI mL W s → s.1 + dpn m ≤ 105 → ∀ least depth, least ≤ np → (∀ p, p < least → t.testBit p = false) → depth + m ≤ 4 → Cn l X yX9_pairFrom cX9_pairFrom 5 none d [.ref W, .int (nI least), .int (nI depth)] (sh, mI, mL, mR, n) (fun r M' => r = none ∧ ∃ mI' mL', M' = (sh, mI', mL', mR, n) ∧ (∀ a k, ¬ (a = W ∧ k = 6) → ¬ (a = W + 3 ∧ np ≤ k) → mI' a k = mI a k) ∧ (∀ a k, a ≠ W + 4 → mL' a k = mL a k) ∧ KpM mI' mL' W (cpF np V (m + 1) t w s)) 0 0
  | 0, d, mI, mL, hd, hM, t, ht, hm, w, hw, s, hs, hsl, least, depth, hle, hlo, hdp => c9_pairG np V 0 l X d sh mI mL mR n W hO hM t ht hm w hw s hs hsl least depth hle hlo hdp hd (fun m' e => by omega)
  | m + 1, d, mI, mL, hd, hM, t, ht, hm, w, hw, s, hs, hsl, least, depth, hle, hlo, hdp => c9_pairG np V (m + 1) l X d sh mI mL mR n W hO hM t ht hm w hw s hs hsl least depth hle hlo hdp hd (fun m' e mI mL h1 t h2 h3 w h4 s h5 h6 least depth h7 h8 h9 => by
      have e2 : m = m' := by omega
      subst e2
      exact c9_pairFrom np V l X sh mR n W hO m (d - 1 - 1) mI mL (by omega) h1 t h2 h3 w h4 s h5 h6 least depth h7 h8 h9)
theorem dp8 : ∀ m, m ≤ 4 → dpn m ≤ 105 := by decide
set_option maxHeartbeats 4000000 in
set_option maxRecDepth 100000 in
theorem c9_studyR (l : Launch) (X : Cx) (d : Nat) (sh : Nat → Option Sh) (mI : Nat → Nat → Int32) (mL : Nat → Nat → Int64) (mR : Nat → Nat → Option Nat) (n : Nat) (W C Q : Nat) (hO : OL sh mR W 9 ob9) (hw : mI W 5 = nI 1) : Cn l X yX9_study cX9_study 5 none d [.ref W, .ref C, .ref Q] (sh, mI, mL, mR, n) (fun r M' => r = none ∧ M' = (sh, mI, mL, mR, n)) 0 0 := by
  refine Cn.run 9 false (by decide) rfl (by decide) (by simp [entA, Value.category]) ?_
  intro P G hP hG
  have q0 := hO.1
  refine hG.run [8] 40 ?_
  simp [wp, stepI, ln, jmp, cmpI, Value.category, rd, tyF, va_rf, st1, st2, clr, isLg, CB, inx_0, inx_1, inx_2, inx_3, inx_4, inx_5, bI_0, bI_1, bI_ok, fin3, tyX9, entL, q0, dX9_study_0, dX9_study_1, fT_9_25, dX9_study_4, dX9_study_7, dX9_study_8, dX9_study_9, dX9_study_10, fT_9_29, dX9_study_13, dX9_study_15, dX9_study_18, fT_9_41, dX9_study_21, dX9_study_22, dX9_study_23, dX9_study_24, dX9_study_25, dX9_study_28, dX9_study_31, dX9_study_32, dX9_study_34, dX9_study_36, dX9_study_37, dX9_study_40, dX9_study_43, dX9_study_44, fT_9_15, dX9_study_47, dX9_study_48, dX9_study_50, dX9_study_51, dX9_study_53, dX9_study_54, dX9_study_55, dX9_study_57, dX9_study_60, dX9_study_61, dX9_study_64, dX9_study_65, dX9_study_66, dX9_study_67, dX9_study_68, dX9_study_70, dX9_study_73, dX9_study_74, dX9_study_77, dX9_study_80, dX9_study_83, dX9_study_86, dX9_study_87, fT_9_18, dX9_study_90, dX9_study_91, dX9_study_94, dX9_study_95, dX9_study_96, fT_9_52, dX9_study_99, dX9_study_100, dX9_study_101, dX9_study_102, dX9_study_105, dX9_study_106, dX9_study_107, dX9_study_110]
  simp (disch := omega) only [li, nI_add, nI_clamp, nI_ltI, nI_leI, nI_eq, inx_iff, a31, nI_1shl', nI_shr', div_bit, tb1, tb0, fa_or, fa_and, nI_not, pk_sub, nI_dec, hw]
  exact ⟨fun z => by omega, fun _ => hP _ _ ⟨rfl, rfl⟩⟩
theorem min8 : ∀ np, np ≤ 8 → (if nI 8 < nI np then nI 8 else nI np) = nI np := by decide +kernel
/-- what the class finds -/
noncomputable def kpA (np : Nat) (V : Nat → Nat → Int32) : KS := cpF np V (np / 2 + 1) (2 ^ np - 1) (fun _ => 0) (0, fun _ => 0)
set_option maxHeartbeats 4000000 in
set_option maxRecDepth 100000 in
theorem c9_study (l : Launch) (X : Cx) (d : Nat) (sh : Nat → Option Sh) (mI : Nat → Nat → Int32) (mL : Nat → Nat → Int64) (mR : Nat → Nat → Option Nat) (n : Nat) (W C Q Wc wl : Nat) (hO : OL sh mR W 9 ob9) (hC : OL sh mR C 4 ob4) (hQ : OL sh mR Q 2 ob2) (hwc : mR C 7 = some Wc) (hWc : sh Wc = some (.inr (.int, wl))) (hwl : wl ≤ 1000) (hWcl : Wc < 1000000000) (d1 : W + 4 < C ∨ C + 5 < W) (d2 : W + 4 < Q ∨ Q + 3 < W) (d3 : W + 4 < Wc ∨ Wc < W) (w : Nat → Int32) (hw : ∀ i, i < wl → mI Wc i = w i) (np : Nat) (hp : ScP mI C np) (hnp8 : np ≤ 8) (hev : np % 2 = 0) (sl : Nat) (kd : Nat → Nat) (hK : ScK mI C np sl kd) (lk : Nat → Nat → Nat) (hl : ScL mI C np lk) (ta : Nat → Nat) (hta : ∀ p, p < np → mI (C + 2) p = nI (ta p)) (fits : Bool) (A : Nat → Nat) (hA : LaA mI Q np fits A) (v : Nat → Nat → Int32) (hv : ∀ a b, a < np → b < np → ∀ st, (evN (facV (nI (lk a b)) (nI (ta a)) (nI (ta b)) (fits && (A a).testBit b) (fits && (A b).testBit a)) w (0, st) wl).2 0 = v a b) (V : Nat → Nat → Int32) (hV : ∀ a b, V a b = if a = b then nI 0 else kndA (kd a) (lk a b) (fits && (A a).testBit b) (v a b)) (hr : mI W 5 = nI 0) (hd : 11 ≤ d) : Cn l X yX9_study cX9_study 5 none d [.ref W, .ref C, .ref Q] (sh, mI, mL, mR, n) (fun r M' => r = none ∧ ∃ mI' mL', M' = (sh, mI', mL', mR, n) ∧ (∀ a k, a ≠ W → a ≠ W + 1 → a ≠ W + 2 → a ≠ W + 3 → mI' a k = mI a k) ∧ (∀ a k, a ≠ W + 4 → mL' a k = mL a k) ∧ mI' W 5 = nI 1 ∧ KpM mI' mL' W (kpA np V)) 0 0 := by
  refine Cn.run 9 false (by decide) rfl (by decide) (by simp [entA, Value.category]) ?_
  intro P G hP hG
  have q0 := hO.1
  have q_wish := hO.2.2 (1, 2, .int, 64) (by decide)
  dsimp only at q_wish
  have q_mate := hO.2.2 (2, 3, .int, 8) (by decide)
  dsimp only at q_mate
  have hSl := hO.2.1
  have xW : W < 1000000000 := by omega
  have x2 : W + 2 < 1000000000 := by omega
  have x3 : W + 3 < 1000000000 := by omega
  have u0 := hC.1
  have p1 := hp.1
  have h10 : np ≤ 10 := hp.2
  have hpw := p2_10 h10
  have g8 : G 8 [some (.ref W), some (.ref C), some (.ref Q), none, none] [] (sh, mI, mL, mR, n) := by
    refine hG.run [] 60 ?_
    simp [wp, stepI, ln, jmp, cmpI, Value.category, rd, tyF, va_rf, st1, st2, clr, isLg, CB, inx_0, inx_1, inx_2, inx_3, inx_4, inx_5, bI_0, bI_1, bI_ok, fin3, tyX9, entL, q0, u0, tyX4, dX9_study_0, dX9_study_1, fT_9_25, dX9_study_4, dX9_study_7, dX9_study_8, dX9_study_9, dX9_study_10, fT_9_29, dX9_study_13, dX9_study_15, dX9_study_18, fT_9_41, dX9_study_21, dX9_study_22, dX9_study_23, dX9_study_24, dX9_study_25, dX9_study_28, dX9_study_31, dX9_study_32, dX9_study_34, dX9_study_36, dX9_study_37, dX9_study_40, dX9_study_43, dX9_study_44, fT_9_15, dX9_study_47, dX9_study_48, dX9_study_50, dX9_study_51, dX9_study_53, dX9_study_54, dX9_study_55, dX9_study_57, dX9_study_60, dX9_study_61, dX9_study_64, dX9_study_65, dX9_study_66, dX9_study_67, dX9_study_68, dX9_study_70, dX9_study_73, dX9_study_74, dX9_study_77, dX9_study_80, dX9_study_83, dX9_study_86, dX9_study_87, fT_9_18, dX9_study_90, dX9_study_91, dX9_study_94, dX9_study_95, dX9_study_96, fT_9_52, dX9_study_99, dX9_study_100, dX9_study_101, dX9_study_102, dX9_study_105, dX9_study_106, dX9_study_107, dX9_study_110]
    rw [p1]
    simp only [li]
    refine hG.mmin dX9_study_15 ms_9_35.link [.ref W] (by omega) (by simp [Value.category]) ?_
    rw [min8 np hnp8]
    have last : ∀ mI1 v3 v4, (∀ a k, a ≠ W → a ≠ W + 1 → a ≠ W + 2 → mI1 a k = mI a k) → mI1 W 4 = nI np → (∀ a b, a < np → b < np → mI1 (W + 2) (8 * a + b) = V a b) → G 86 [some (.ref W), some (.ref C), some (.ref Q), v3, v4] [] (sh, mI1, mL, mR, n) := fun mI1 v3 v4 f1 f2 f3 => by
      refine hG.run [] 60 ?_
      simp [wp, stepI, ln, jmp, cmpI, Value.category, rd, tyF, va_rf, st1, st2, clr, isLg, CB, inx_0, inx_1, inx_2, inx_3, inx_4, inx_5, bI_0, bI_1, bI_ok, fin3, tyX9, entL, q0, q_mate, dX9_study_0, dX9_study_1, fT_9_25, dX9_study_4, dX9_study_7, dX9_study_8, dX9_study_9, dX9_study_10, fT_9_29, dX9_study_13, dX9_study_15, dX9_study_18, fT_9_41, dX9_study_21, dX9_study_22, dX9_study_23, dX9_study_24, dX9_study_25, dX9_study_28, dX9_study_31, dX9_study_32, dX9_study_34, dX9_study_36, dX9_study_37, dX9_study_40, dX9_study_43, dX9_study_44, fT_9_15, dX9_study_47, dX9_study_48, dX9_study_50, dX9_study_51, dX9_study_53, dX9_study_54, dX9_study_55, dX9_study_57, dX9_study_60, dX9_study_61, dX9_study_64, dX9_study_65, dX9_study_66, dX9_study_67, dX9_study_68, dX9_study_70, dX9_study_73, dX9_study_74, dX9_study_77, dX9_study_80, dX9_study_83, dX9_study_86, dX9_study_87, fT_9_18, dX9_study_90, dX9_study_91, dX9_study_94, dX9_study_95, dX9_study_96, fT_9_52, dX9_study_99, dX9_study_100, dX9_study_101, dX9_study_102, dX9_study_105, dX9_study_106, dX9_study_107, dX9_study_110]
      simp only [li]
      refine hG.callS dX9_study_91 ms_9_46 [.ref (W + 3), .int (-nI 1)] [] (cJ_fillI l X (d - 1) sh mI1 mL mR n (W + 3) 8 q_mate.2 x3 (by decide) (-nI 1)) (by omega) rfl (by decide) (by simp [Value.category]) rfl ?_
      rintro r M' ⟨rfl, rfl⟩
      refine hG.run [] 60 ?_
      simp [wp, stepI, ln, jmp, cmpI, Value.category, rd, tyF, va_rf, st1, st2, clr, isLg, CB, inx_0, inx_1, inx_2, inx_3, inx_4, inx_5, bI_0, bI_1, bI_ok, fin3, tyX9, entL, q0, okv, wr, finF, clT, TX9, xW, dX9_study_0, dX9_study_1, fT_9_25, dX9_study_4, dX9_study_7, dX9_study_8, dX9_study_9, dX9_study_10, fT_9_29, dX9_study_13, dX9_study_15, dX9_study_18, fT_9_41, dX9_study_21, dX9_study_22, dX9_study_23, dX9_study_24, dX9_study_25, dX9_study_28, dX9_study_31, dX9_study_32, dX9_study_34, dX9_study_36, dX9_study_37, dX9_study_40, dX9_study_43, dX9_study_44, fT_9_15, dX9_study_47, dX9_study_48, dX9_study_50, dX9_study_51, dX9_study_53, dX9_study_54, dX9_study_55, dX9_study_57, dX9_study_60, dX9_study_61, dX9_study_64, dX9_study_65, dX9_study_66, dX9_study_67, dX9_study_68, dX9_study_70, dX9_study_73, dX9_study_74, dX9_study_77, dX9_study_80, dX9_study_83, dX9_study_86, dX9_study_87, fT_9_18, dX9_study_90, dX9_study_91, dX9_study_94, dX9_study_95, dX9_study_96, fT_9_52, dX9_study_99, dX9_study_100, dX9_study_101, dX9_study_102, dX9_study_105, dX9_study_106, dX9_study_107, dX9_study_110]
      simp only [li]
      obtain ⟨mI2, hmI2⟩ : ∃ m, m = up2 (flM mI1 (W + 3) 8 (-nI 1)) W 6 (nI 0) := ⟨_, rfl⟩
      rw [← hmI2]
      have r2 : ∀ a k, ¬ (a = W ∧ k = 6) → a ≠ W + 3 → mI2 a k = mI1 a k := fun a k c1 c2 => by rw [hmI2, up2_ne c1, flM_ne c2]
      have hpc : pcn (2 ^ np - 1) = 2 * (np / 2) := by rw [pcn_ev h10]; omega
      refine hG.callV dX9_study_102 mv_9_55 [.int (nI 0), .int (nI 0)] [] (c9_pairFrom np V l X sh mR n W hO (np / 2) (d - 1) mI2 mL (by omega) ⟨by rw [r2 _ _ (by omega) (by omega)]; exact f2, hnp8, fun a b ha hb => by rw [r2 _ _ (by omega) (by omega)]; exact f3 a b ha hb⟩ (2 ^ np - 1) (by omega) hpc (fun _ => 0) (fun p hp => by rw [full_bit, decide_eq_true hp, hmI2, up2_ne (fun y => by omega), flM_in (by omega)]; exact ⟨rfl, fun z => by cases z⟩) (0, fun _ => 0) ⟨by rw [hmI2, up2_eq], Nat.zero_le _, fun k hk => absurd hk (Nat.not_lt_zero _)⟩ (by show 0 + dpn (np / 2) ≤ 105; have := dp8 (np / 2) (by omega); omega) 0 0 (Nat.zero_le _) (fun p hp => absurd hp (Nat.not_lt_zero _)) (by omega)) ⟨_, rfl, rfl⟩ q0 (by omega) rfl (by decide) (by simp [Value.category]) rfl ?_
      rintro r M' ⟨rfl, mI3, mL3, rfl, k1, k2, k3⟩
      refine hG.run [] 60 ?_
      simp [wp, stepI, ln, jmp, cmpI, Value.category, rd, tyF, va_rf, st1, st2, clr, isLg, CB, inx_0, inx_1, inx_2, inx_3, inx_4, inx_5, bI_0, bI_1, bI_ok, fin3, tyX9, entL, q0, okv, wr, finF, clT, TX9, xW, dX9_study_0, dX9_study_1, fT_9_25, dX9_study_4, dX9_study_7, dX9_study_8, dX9_study_9, dX9_study_10, fT_9_29, dX9_study_13, dX9_study_15, dX9_study_18, fT_9_41, dX9_study_21, dX9_study_22, dX9_study_23, dX9_study_24, dX9_study_25, dX9_study_28, dX9_study_31, dX9_study_32, dX9_study_34, dX9_study_36, dX9_study_37, dX9_study_40, dX9_study_43, dX9_study_44, fT_9_15, dX9_study_47, dX9_study_48, dX9_study_50, dX9_study_51, dX9_study_53, dX9_study_54, dX9_study_55, dX9_study_57, dX9_study_60, dX9_study_61, dX9_study_64, dX9_study_65, dX9_study_66, dX9_study_67, dX9_study_68, dX9_study_70, dX9_study_73, dX9_study_74, dX9_study_77, dX9_study_80, dX9_study_83, dX9_study_86, dX9_study_87, fT_9_18, dX9_study_90, dX9_study_91, dX9_study_94, dX9_study_95, dX9_study_96, fT_9_52, dX9_study_99, dX9_study_100, dX9_study_101, dX9_study_102, dX9_study_105, dX9_study_106, dX9_study_107, dX9_study_110]
      simp only [li]
      refine hP _ _ ⟨rfl, _, mL3, rfl, fun a k c0 c1 c2 c3 => ?_, k2, up2_eq _ _ _ _, ⟨?_, k3.2.1, k3.2.2⟩⟩
      · rw [up2_ne (fun y => c0 y.1), k1 a k (fun y => c0 y.1) (fun y => c3 y.1), r2 a k (fun y => c0 y.1) c3]; exact f1 a k c0 c1 c2
      · rw [up2_ne (fun y => by cases y.2)]; exact k3.1
    have loop1 : ∀ f a mI1 v4, np - a < f → a ≤ np → (∀ x k, x ≠ W → x ≠ W + 1 → x ≠ W + 2 → mI1 x k = mI x k) → mI1 W 4 = nI np → (∀ x y, x < a → y < np → mI1 (W + 2) (8 * x + y) = V x y) → G 23 [some (.ref W), some (.ref C), some (.ref Q), some (.int (nI a)), v4] [] (sh, mI1, mL, mR, n) := by
      intro f
      induction f with
      | zero => intro a mI1 v4 h; omega
      | succ f ih =>
        intro a mI1 v4 hf ha f1 f2 f3
        have nx1 := ih (a + 1)
        clear ih
        have loop2 : ∀ f2' b mI2, a < np → np - b < f2' → b ≤ np → (∀ x k, x ≠ W → x ≠ W + 1 → x ≠ W + 2 → mI2 x k = mI x k) → mI2 W 4 = nI np → (∀ x y, (x < a ∨ (x = a ∧ y < b)) → y < np → mI2 (W + 2) (8 * x + y) = V x y) → G 34 [some (.ref W), some (.ref C), some (.ref Q), some (.int (nI a)), some (.int (nI b))] [] (sh, mI2, mL, mR, n) := by
          intro f2'
          induction f2' with
          | zero => intro b mI2 han h; omega
          | succ f2' ih2 =>
            intro b mI2 han hf2 hb w1 w2 w3
            have g73 : b < np → ∀ mI3 q, q = V a b → (∀ x k, x ≠ W + 1 → mI3 x k = mI2 x k) → G 73 [some (.ref W), some (.ref C), some (.ref Q), some (.int (nI a)), some (.int (nI b))] [.int q, .int (nI (a * 8 + b)), .ref (W + 2)] (sh, mI3, mL, mR, n) := fun hbn mI3 q hq t1 => by
              refine hG.run [34] 60 ?_
              simp [wp, stepI, ln, jmp, cmpI, Value.category, rd, tyF, va_rf, st1, st2, clr, isLg, CB, inx_0, inx_1, inx_2, inx_3, inx_4, inx_5, bI_0, bI_1, bI_ok, fin3, tyX9, entL, q0, q_wish, x2, dX9_study_0, dX9_study_1, fT_9_25, dX9_study_4, dX9_study_7, dX9_study_8, dX9_study_9, dX9_study_10, fT_9_29, dX9_study_13, dX9_study_15, dX9_study_18, fT_9_41, dX9_study_21, dX9_study_22, dX9_study_23, dX9_study_24, dX9_study_25, dX9_study_28, dX9_study_31, dX9_study_32, dX9_study_34, dX9_study_36, dX9_study_37, dX9_study_40, dX9_study_43, dX9_study_44, fT_9_15, dX9_study_47, dX9_study_48, dX9_study_50, dX9_study_51, dX9_study_53, dX9_study_54, dX9_study_55, dX9_study_57, dX9_study_60, dX9_study_61, dX9_study_64, dX9_study_65, dX9_study_66, dX9_study_67, dX9_study_68, dX9_study_70, dX9_study_73, dX9_study_74, dX9_study_77, dX9_study_80, dX9_study_83, dX9_study_86, dX9_study_87, fT_9_18, dX9_study_90, dX9_study_91, dX9_study_94, dX9_study_95, dX9_study_96, fT_9_52, dX9_study_99, dX9_study_100, dX9_study_101, dX9_study_102, dX9_study_105, dX9_study_106, dX9_study_107, dX9_study_110]
              simp (disch := omega) only [li, nI_add, nI_clamp, nI_ltI, nI_leI, nI_eq, inx_iff, a31, nI_1shl', nI_shr', div_bit, tb1, tb0, fa_or, fa_and, nI_not, pk_sub, nI_dec]
              refine ⟨by omega, ih2 (b + 1) _ han (by omega) (by omega) (fun x k c0 c1 c2 => by rw [up2_ne (fun y => c2 y.1), t1 x k c1]; exact w1 x k c0 c1 c2) (by rw [up2_ne (fun y => by omega), t1 _ _ (by omega)]; exact w2) (fun x y hxy hy => ?_)⟩
              by_cases e : x = a ∧ y = b
              · rw [e.1, e.2, Nat.mul_comm 8, up2_eq, hq]
              · rw [up2_ne (fun z => e (by omega)), t1 _ _ (by omega)]
                exact w3 x y (by omega) hy
            by_cases hbn : b < np
            · refine hG.run [73, 80] 60 ?_
              simp [wp, stepI, ln, jmp, cmpI, Value.category, rd, tyF, va_rf, st1, st2, clr, isLg, CB, inx_0, inx_1, inx_2, inx_3, inx_4, inx_5, bI_0, bI_1, bI_ok, fin3, tyX9, entL, q0, q_wish, dX9_study_0, dX9_study_1, fT_9_25, dX9_study_4, dX9_study_7, dX9_study_8, dX9_study_9, dX9_study_10, fT_9_29, dX9_study_13, dX9_study_15, dX9_study_18, fT_9_41, dX9_study_21, dX9_study_22, dX9_study_23, dX9_study_24, dX9_study_25, dX9_study_28, dX9_study_31, dX9_study_32, dX9_study_34, dX9_study_36, dX9_study_37, dX9_study_40, dX9_study_43, dX9_study_44, fT_9_15, dX9_study_47, dX9_study_48, dX9_study_50, dX9_study_51, dX9_study_53, dX9_study_54, dX9_study_55, dX9_study_57, dX9_study_60, dX9_study_61, dX9_study_64, dX9_study_65, dX9_study_66, dX9_study_67, dX9_study_68, dX9_study_70, dX9_study_73, dX9_study_74, dX9_study_77, dX9_study_80, dX9_study_83, dX9_study_86, dX9_study_87, fT_9_18, dX9_study_90, dX9_study_91, dX9_study_94, dX9_study_95, dX9_study_96, fT_9_52, dX9_study_99, dX9_study_100, dX9_study_101, dX9_study_102, dX9_study_105, dX9_study_106, dX9_study_107, dX9_study_110]
              simp (disch := omega) only [li, nI_add, nI_clamp, nI_ltI, nI_leI, nI_eq, inx_iff, a31, nI_1shl', nI_shr', div_bit, tb1, tb0, fa_or, fa_and, nI_not, pk_sub, nI_dec, w2, nI_mul]
              refine ⟨fun z => by omega, fun _ => ⟨fun z => ?_, fun z => g73 hbn mI2 _ ?_ (fun _ _ _ => rfl)⟩⟩
              · refine hG.callV dX9_study_70 mv_9_42 [.ref C, .ref Q, .int (nI a), .int (nI b)] [.int (nI (a * 8 + b)), .ref (W + 2)] (c9_wishOf l X (d - 1) sh mI2 mL mR n W C Q Wc wl hO hC hQ hwc hWc hwl hWcl d1 d2 d3 w (fun i hi => (w1 _ _ (by omega) (by omega) (by omega)).trans (hw i hi)) np ⟨(w1 _ _ (by omega) (by omega) (by omega)).trans p1, h10⟩ sl kd ⟨(w1 _ _ (by omega) (by omega) (by omega)).trans hK.1, hK.2.1, fun p hp => ⟨(w1 _ _ (by omega) (by omega) (by omega)).trans (hK.2.2 p hp).1, (hK.2.2 p hp).2⟩⟩ lk (fun x y hx hy => ⟨(w1 _ _ (by omega) (by omega) (by omega)).trans (hl x y hx hy).1, (hl x y hx hy).2⟩) ta (fun p hp => (w1 _ _ (by omega) (by omega) (by omega)).trans (hta p hp)) fits A (hA.kp (fun k => w1 _ _ (by omega) (by omega) (by omega)) (fun k => w1 _ _ (by omega) (by omega) (by omega))) a b han hbn (v a b) (hv a b han hbn) (by omega)) ⟨_, rfl, rfl⟩ q0 (by omega) rfl (by decide) (by simp [Value.category]) rfl ?_
                rintro r M' ⟨rfl, mI3, rfl, k1⟩
                exact g73 hbn mI3 _ (by rw [hV, if_neg z]) k1
              · rw [hV, if_pos z]
            · refine hG.run [23] 60 ?_
              simp [wp, stepI, ln, jmp, cmpI, Value.category, rd, tyF, va_rf, st1, st2, clr, isLg, CB, inx_0, inx_1, inx_2, inx_3, inx_4, inx_5, bI_0, bI_1, bI_ok, fin3, tyX9, entL, q0, dX9_study_0, dX9_study_1, fT_9_25, dX9_study_4, dX9_study_7, dX9_study_8, dX9_study_9, dX9_study_10, fT_9_29, dX9_study_13, dX9_study_15, dX9_study_18, fT_9_41, dX9_study_21, dX9_study_22, dX9_study_23, dX9_study_24, dX9_study_25, dX9_study_28, dX9_study_31, dX9_study_32, dX9_study_34, dX9_study_36, dX9_study_37, dX9_study_40, dX9_study_43, dX9_study_44, fT_9_15, dX9_study_47, dX9_study_48, dX9_study_50, dX9_study_51, dX9_study_53, dX9_study_54, dX9_study_55, dX9_study_57, dX9_study_60, dX9_study_61, dX9_study_64, dX9_study_65, dX9_study_66, dX9_study_67, dX9_study_68, dX9_study_70, dX9_study_73, dX9_study_74, dX9_study_77, dX9_study_80, dX9_study_83, dX9_study_86, dX9_study_87, fT_9_18, dX9_study_90, dX9_study_91, dX9_study_94, dX9_study_95, dX9_study_96, fT_9_52, dX9_study_99, dX9_study_100, dX9_study_101, dX9_study_102, dX9_study_105, dX9_study_106, dX9_study_107, dX9_study_110]
              simp (disch := omega) only [li, nI_add, nI_clamp, nI_ltI, nI_leI, nI_eq, inx_iff, a31, nI_1shl', nI_shr', div_bit, tb1, tb0, fa_or, fa_and, nI_not, pk_sub, nI_dec, w2]
              exact ⟨fun _ => nx1 mI2 _ (by omega) (by omega) w1 w2 (fun x y hx hy => w3 x y (by omega) hy), fun z => by omega⟩
        refine hG.run [34, 86] 60 ?_
        simp [wp, stepI, ln, jmp, cmpI, Value.category, rd, tyF, va_rf, st1, st2, clr, isLg, CB, inx_0, inx_1, inx_2, inx_3, inx_4, inx_5, bI_0, bI_1, bI_ok, fin3, tyX9, entL, q0, dX9_study_0, dX9_study_1, fT_9_25, dX9_study_4, dX9_study_7, dX9_study_8, dX9_study_9, dX9_study_10, fT_9_29, dX9_study_13, dX9_study_15, dX9_study_18, fT_9_41, dX9_study_21, dX9_study_22, dX9_study_23, dX9_study_24, dX9_study_25, dX9_study_28, dX9_study_31, dX9_study_32, dX9_study_34, dX9_study_36, dX9_study_37, dX9_study_40, dX9_study_43, dX9_study_44, fT_9_15, dX9_study_47, dX9_study_48, dX9_study_50, dX9_study_51, dX9_study_53, dX9_study_54, dX9_study_55, dX9_study_57, dX9_study_60, dX9_study_61, dX9_study_64, dX9_study_65, dX9_study_66, dX9_study_67, dX9_study_68, dX9_study_70, dX9_study_73, dX9_study_74, dX9_study_77, dX9_study_80, dX9_study_83, dX9_study_86, dX9_study_87, fT_9_18, dX9_study_90, dX9_study_91, dX9_study_94, dX9_study_95, dX9_study_96, fT_9_52, dX9_study_99, dX9_study_100, dX9_study_101, dX9_study_102, dX9_study_105, dX9_study_106, dX9_study_107, dX9_study_110]
        simp (disch := omega) only [li, nI_add, nI_clamp, nI_ltI, nI_leI, nI_eq, inx_iff, a31, nI_1shl', nI_shr', div_bit, tb1, tb0, fa_or, fa_and, nI_not, pk_sub, nI_dec, f2]
        exact ⟨fun z => last mI1 _ _ f1 f2 (fun x y hx hy => f3 x y (by omega) hy), fun z => loop2 (np + 1) 0 mI1 z (by omega) (by omega) f1 f2 (fun x y hxy hy => f3 x y (by omega) hy)⟩
    refine hG.run [23] 60 ?_
    simp [wp, stepI, ln, jmp, cmpI, Value.category, rd, tyF, va_rf, st1, st2, clr, isLg, CB, inx_0, inx_1, inx_2, inx_3, inx_4, inx_5, bI_0, bI_1, bI_ok, fin3, tyX9, entL, q0, okv, wr, finF, clT, TX9, xW, dX9_study_0, dX9_study_1, fT_9_25, dX9_study_4, dX9_study_7, dX9_study_8, dX9_study_9, dX9_study_10, fT_9_29, dX9_study_13, dX9_study_15, dX9_study_18, fT_9_41, dX9_study_21, dX9_study_22, dX9_study_23, dX9_study_24, dX9_study_25, dX9_study_28, dX9_study_31, dX9_study_32, dX9_study_34, dX9_study_36, dX9_study_37, dX9_study_40, dX9_study_43, dX9_study_44, fT_9_15, dX9_study_47, dX9_study_48, dX9_study_50, dX9_study_51, dX9_study_53, dX9_study_54, dX9_study_55, dX9_study_57, dX9_study_60, dX9_study_61, dX9_study_64, dX9_study_65, dX9_study_66, dX9_study_67, dX9_study_68, dX9_study_70, dX9_study_73, dX9_study_74, dX9_study_77, dX9_study_80, dX9_study_83, dX9_study_86, dX9_study_87, fT_9_18, dX9_study_90, dX9_study_91, dX9_study_94, dX9_study_95, dX9_study_96, fT_9_52, dX9_study_99, dX9_study_100, dX9_study_101, dX9_study_102, dX9_study_105, dX9_study_106, dX9_study_107, dX9_study_110]
    exact loop1 (np + 1) 0 _ _ (by omega) (by omega) (fun x k c0 _ _ => up2_ne (fun y => c0 y.1)) (up2_eq _ _ _ _) (fun x y hx _ => by omega)
  refine hG.run [8] 40 ?_
  simp [wp, stepI, ln, jmp, cmpI, Value.category, rd, tyF, va_rf, st1, st2, clr, isLg, CB, inx_0, inx_1, inx_2, inx_3, inx_4, inx_5, bI_0, bI_1, bI_ok, fin3, tyX9, entL, q0, dX9_study_0, dX9_study_1, fT_9_25, dX9_study_4, dX9_study_7, dX9_study_8, dX9_study_9, dX9_study_10, fT_9_29, dX9_study_13, dX9_study_15, dX9_study_18, fT_9_41, dX9_study_21, dX9_study_22, dX9_study_23, dX9_study_24, dX9_study_25, dX9_study_28, dX9_study_31, dX9_study_32, dX9_study_34, dX9_study_36, dX9_study_37, dX9_study_40, dX9_study_43, dX9_study_44, fT_9_15, dX9_study_47, dX9_study_48, dX9_study_50, dX9_study_51, dX9_study_53, dX9_study_54, dX9_study_55, dX9_study_57, dX9_study_60, dX9_study_61, dX9_study_64, dX9_study_65, dX9_study_66, dX9_study_67, dX9_study_68, dX9_study_70, dX9_study_73, dX9_study_74, dX9_study_77, dX9_study_80, dX9_study_83, dX9_study_86, dX9_study_87, fT_9_18, dX9_study_90, dX9_study_91, dX9_study_94, dX9_study_95, dX9_study_96, fT_9_52, dX9_study_99, dX9_study_100, dX9_study_101, dX9_study_102, dX9_study_105, dX9_study_106, dX9_study_107, dX9_study_110]
  simp (disch := omega) only [li, nI_add, nI_clamp, nI_ltI, nI_leI, nI_eq, inx_iff, a31, nI_1shl', nI_shr', div_bit, tb1, tb0, fa_or, fa_and, nI_not, pk_sub, nI_dec, hr]
  first
    | exact g8
    | exact ⟨fun _ => g8, fun z => absurd trivial z⟩
/-! the class's pairs are the reference's -/
/-- the same count; and what was wanted is what was kept -/
def RlK (np : Nat) (i : Int32) (s : KS) (p : PS) : Prop := s.1 = p.2.1 ∧ ∀ k, k < s.1 → nI k = i → ∀ q, q < np → p.2.2 q = nI (s.2 k / 16 ^ q % 16)
theorem cpF_prF {np : Nat} (hnp : np ≤ 8) {V : Nat → Nat → Int32} {i : Int32} : ∀ f t w s p, t < 2 ^ np → s.1 + 10 ^ f ≤ 1000000 → (∀ q, q < np → t.testBit q = false → p.1 q = w q ∧ w q < np) → RlK np i s p → RlK np i (cpF np V f t w s) (prF np V i f t p) ∧ (∀ q, q < np → t.testBit q = false → (prF np V i f t p).1 q = w q)
  | 0, t, w, s, p, ht, hs, hw, hr => ⟨hr, fun q hq hb => (hw q hq hb).1⟩
  | f + 1, t, w, s, p, ht, hs, hw, hr => by
    have h10 : np ≤ 10 := by omega
    have hpw := p2_10 h10
    have hp1 : 0 < 10 ^ f := Nat.pow_pos (by decide)
    have hp2 : 10 ^ (f + 1) = 10 * 10 ^ f := by rw [Nat.pow_succ]; omega
    have keep : ∀ q, q < np → t.testBit q = false → (prF np V i (f + 1) t p).1 q = w q := fun q hq hb => by
      rw [prF_w (f + 1) t p q (by omega) hb]
      exact (hw q hq hb).1
    refine ⟨?_, keep⟩
    rw [cpF_s, prF_s]
    by_cases h0 : t = 0
    · rw [if_pos h0, if_pos h0]
      have hw0 : ∀ q, q < np → p.1 q = w q ∧ w q < np := fun q hq => hw q hq (by rw [h0]; simp)
      have e : atRB np p.1 V = atRB np w V := by
        rw [Bool.eq_iff_iff, atR_cls, atR_cls]
        constructor
        · intro z a b ha hb hab
          have := z a b ha hb hab
          rw [(hw0 a ha).1, (hw0 b hb).1] at this
          exact this
        · intro z a b ha hb hab
          rw [(hw0 a ha).1, (hw0 b hb).1]
          exact z a b ha hb hab
      unfold kpS
      rw [e]
      by_cases ha : atRB np w V = true
      · rw [if_pos ha, if_pos ha]
        refine ⟨by show s.1 + 1 = p.2.1 + 1; rw [hr.1], fun k hk hi q hq => ?_⟩
        show (if nI p.2.1 = i then fun x => nI (p.1 x) else p.2.2) q = nI (upN s.2 s.1 (pk16 w np) k / 16 ^ q % 16)
        have hk' : k < s.1 + 1 := hk
        by_cases ek : k = s.1
        · rw [← hr.1, ← ek, if_pos hi, upN_eq, pk16_at np (fun x hx => by have := (hw0 x hx).2; omega) hq, (hw0 q hq).1]
        · rw [upN_ne ek, if_neg]
          · exact hr.2 k (by omega) hi q hq
          · rw [← hr.1, ← hi]
            intro z
            have := (nI_eq (by omega) (by omega)).mp z
            omega
      · rw [if_neg ha, if_neg ha]
        exact hr
    · rw [if_neg h0, if_neg h0]
      have l1 := low_ok h0 (by omega)
      have ln := bit_np ht l1.1
      have main : ∀ k, k ≤ np → RlK np i (fdK (cpG np V f t w) k s) (fdB (prG np V i f t) k p) ∧ (fdK (cpG np V f t w) k s).1 ≤ s.1 + k * 10 ^ f ∧ ∀ q, q < np → t.testBit q = false → (fdB (prG np V i f t) k p).1 q = w q := by
        intro k
        induction k with
        | zero => intro _; exact ⟨hr, by show s.1 ≤ _; omega, fun q hq hb => (hw q hq hb).1⟩
        | succ k ih =>
          intro hk
          obtain ⟨i1, i2, i3⟩ := ih (by omega)
          rw [fdK_s, fdB_s, cpG_d, prG_d, Nat.succ_mul]
          by_cases hc : (decide (lowN t < k) && t.testBit k) = true
          · rw [if_pos hc, if_pos hc]
            have hc2 := hc
            simp only [Bool.and_eq_true, decide_eq_true_eq] at hc2
            obtain ⟨p1, p2⟩ := pc_two h10 ht h0 hc2.2 hc2.1
            have kl : k * 10 ^ f + 10 ^ f ≤ 8 * 10 ^ f := by
              have : (k + 1) * 10 ^ f ≤ 8 * 10 ^ f := Nat.mul_le_mul_right _ (by omega)
              rw [Nat.succ_mul] at this
              exact this
            have bits : ∀ q, (anot (anot t (2 ^ lowN t)) (2 ^ k)).testBit q = (t.testBit q && !decide (lowN t = q) && !decide (k = q)) := fun q => by rw [an_bit, an_bit]
            have r := cpF_prF hnp (V := V) (i := i) f (anot (anot t (2 ^ lowN t)) (2 ^ k)) (upN (upN w (lowN t) k) k (lowN t)) (fdK (cpG np V f t w) k s) (upN (upN (fdB (prG np V i f t) k p).1 (lowN t) k) k (lowN t), (fdB (prG np V i f t) k p).2) p2 (by omega) (fun q hq hb => by
              show upN (upN (fdB (prG np V i f t) k p).1 (lowN t) k) k (lowN t) q = upN (upN w (lowN t) k) k (lowN t) q ∧ _
              by_cases e1 : q = k
              · rw [e1, upN_eq, upN_eq]; exact ⟨rfl, ln⟩
              · rw [upN_ne e1, upN_ne e1]
                by_cases e2 : q = lowN t
                · rw [e2, upN_eq, upN_eq]; exact ⟨rfl, by omega⟩
                · rw [upN_ne e2, upN_ne e2]
                  rw [bits, decide_eq_false (fun z => e2 z.symm), decide_eq_false (fun z => e1 z.symm)] at hb
                  simp only [Bool.not_false, Bool.and_true] at hb
                  exact ⟨i3 q hq hb, (hw q hq hb).2⟩) i1
            refine ⟨r.1, ?_, fun q hq hb => ?_⟩
            · have := prF_n h10 (W := V) (i := i) f (anot (anot t (2 ^ lowN t)) (2 ^ k)) (upN (upN (fdB (prG np V i f t) k p).1 (lowN t) k) k (lowN t), (fdB (prG np V i f t) k p).2)
              rw [← r.1.1] at this
              have e : (upN (upN (fdB (prG np V i f t) k p).1 (lowN t) k) k (lowN t), (fdB (prG np V i f t) k p).2).2.1 = (fdB (prG np V i f t) k p).2.1 := rfl
              rw [e, ← i1.1] at this
              omega
            · have e1 : q ≠ k := fun z => by rw [z, hc2.2] at hb; cases hb
              have e2 : q ≠ lowN t := fun z => by rw [z, l1.1] at hb; cases hb
              rw [r.2 q hq (by rw [bits, hb]; rfl), upN_ne e1, upN_ne e2]
          · rw [if_neg hc, if_neg hc]
            exact ⟨i1, by omega, i3⟩
      exact (main np (Nat.le_refl _)).1
theorem cpF_fuel {np : Nat} (hnp : np ≤ 10) (V : Nat → Nat → Int32) : ∀ m f t w s, t < 2 ^ np → pcn t = 2 * m → m < f → cpF np V f t w s = cpF np V (m + 1) t w s
  | 0, f, t, w, s, ht, hm, hf => by
    obtain ⟨f', rfl⟩ : ∃ f', f = f' + 1 := ⟨f - 1, by omega⟩
    rw [cpF_s, cpF_s, if_pos (pc_0 hnp ht (by omega)), if_pos (pc_0 hnp ht (by omega))]
  | m + 1, f, t, w, s, ht, hm, hf => by
    obtain ⟨f', rfl⟩ : ∃ f', f = f' + 1 := ⟨f - 1, by omega⟩
    have h0 : t ≠ 0 := fun z => by rw [z, show pcn 0 = 0 by decide] at hm; omega
    rw [cpF_s, cpF_s, if_neg h0, if_neg h0]
    congr 1
    funext b s
    rw [cpG_d, cpG_d]
    by_cases hc : (decide (lowN t < b) && t.testBit b) = true
    · rw [if_pos hc, if_pos hc]
      simp only [Bool.and_eq_true, decide_eq_true_eq] at hc
      obtain ⟨p1, p2⟩ := pc_two hnp ht h0 hc.2 hc.1
      exact cpF_fuel hnp V m f' _ _ _ p2 (by omega) (by omega)
    · rw [if_neg hc, if_neg hc]
theorem kpA_rst {np : Nat} (hnp : np ≤ 8) (hev : np % 2 = 0) (V : Nat → Nat → Int32) (i : Int32) (r0 : Nat → Int32) : RlK np i (kpA np V) (rstS np V i r0) := by
  have h10 : np ≤ 10 := by omega
  have hpw := p2_10 h10
  have hpc : pcn (2 ^ np - 1) = 2 * (np / 2) := by rw [pcn_ev h10]; omega
  unfold kpA rstS
  rw [← cpF_fuel h10 V (np / 2) 5 (2 ^ np - 1) _ _ (by omega) hpc (by omega)]
  refine (cpF_prF hnp 5 (2 ^ np - 1) (fun _ => 0) (0, fun _ => 0) (fun _ => 0, 0, r0) (by omega) (by decide) (fun q hq hb => ?_) ⟨rfl, fun k hk => absurd hk (Nat.not_lt_zero _)⟩).1
  rw [full_bit, decide_eq_true hq] at hb
  cases hb
