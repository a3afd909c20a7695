/-- who surely stands above whom, as bits 5 * q + p -/
def knJ (A : Nat → Nat) (p s : Nat) : Nat → Nat
  | 0 => s
  | q + 1 => if (A p).testBit q then knJ A p s q ||| 2 ^ (5 * q + p) else knJ A p s q
def knO (A : Nat → Nat) (np : Nat) : Nat → Nat
  | 0 => 0
  | p + 1 => knJ A p (knO A np p) np
theorem knJ_s (A : Nat → Nat) (p s q : Nat) : knJ A p s (q + 1) = if (A p).testBit q then knJ A p s q ||| 2 ^ (5 * q + p) else knJ A p s q := rfl
theorem knJ_lt {A : Nat → Nat} {p s : Nat} (hp : p < 5) (hs : s < 2 ^ 25) : ∀ {q}, q ≤ 5 → knJ A p s q < 2 ^ 25
  | 0, _ => hs
  | q + 1, h => by
    rw [knJ_s]
    split
    · exact Nat.or_lt_two_pow (knJ_lt hp hs (by omega)) (Nat.pow_lt_pow_right (by decide) (by omega))
    · exact knJ_lt hp hs (by omega)
theorem knO_lt {A : Nat → Nat} {np : Nat} (hn : np ≤ 5) : ∀ {p}, p ≤ 5 → knO A np p < 2 ^ 25
  | 0, _ => by show 0 < 2 ^ 25; decide
  | p + 1, h => knJ_lt (by omega) (knO_lt hn (by omega)) hn
def nedA (np c : Nat) (fi se : Nat → Nat) (N : Nat → Nat) : Int32 := if np ≤ 5 ∧ 0 < ordN np c fi se then nI (N (knO (abv np c fi se) np np)) else -nI 1
set_option maxHeartbeats 4000000 in
set_option maxRecDepth 100000 in
theorem c12_needed (l : Launch) (X : Cx) (d : Nat) (sh : Nat → Option Sh) (mI : Nat → Nat → Int32) (mL : Nat → Nat → Int64) (mR : Nat → Nat → Option Nat) (n : Nat) (hL : ML sh mR) (np : Nat) (hp : PupM mI np) (c : Nat) (fi se ma : Nat → Nat) (hS : SayM mI c fi se ma) (hr : np ≤ 5 → Roomy np) (N : Nat → Nat) (hN : np ≤ 5 → NdR np N) (hPO : np ≤ 5 → 0 < ordN np c fi se → PO np (knO (abv np c fi se) np np)) (hd : 30 ≤ d) : Cn l X yX12_needed cX12_needed 4 (some .int) d [.ref 129] (sh, mI, mL, mR, n) (fun r M' => r = some (.int (nedA np c fi se N)) ∧ ∃ mI', M' = (sh, mI', mL, mR, n) ∧ Eqf [159, 160, 161, 165, 166] [0] mI mI') 0 0 := by
  refine Cn.run 12 false (by decide) rfl (by decide) (by simp [entA, Value.category]) ?_
  intro P G hP hG
  have q0 := hL.1
  have q_pupils := hL.2 (10, 131, .int, 6) (by decide)
  dsimp only at q_pupils
  have q_knownKey := hL.2 (53, 165, .int, 8192) (by decide)
  dsimp only at q_knownKey
  have q_above := hL.2 (46, 161, .int, 10) (by decide)
  dsimp only at q_above
  have hpp := hp.2
  have hfi : ∀ k, k < c → fi k < 10 := fun k hk => (hS.2.2 k hk).2.2.2.1
  have hab : ∀ p, abv np c fi se p < 1024 := fun p => abv_lt hfi p
  refine hG.run [] 20 ?_
  simp [wp, stepI, ln, jmp, cmpI, Value.category, rd, tyF, va_rf, st1, st2, clr, isLg, CB, inx_0, inx_1, inx_2, inx_3, inx_4, inx_5, bI_0, bI_1, bI_ok, fin3, tyX12, entL, q0, q_pupils, okv, wr, finF, clT, TX12, dX12_needed_0, dX12_needed_1, dX12_needed_2, fT_12_135, dX12_needed_5, dX12_needed_6, fT_12_13, dX12_needed_9, dX12_needed_10, dX12_needed_11, dX12_needed_12, dX12_needed_15, dX12_needed_16, dX12_needed_19, dX12_needed_22, dX12_needed_23, dX12_needed_24, dX12_needed_25, dX12_needed_26, dX12_needed_27, dX12_needed_30, dX12_needed_33, dX12_needed_34, fT_12_117, dX12_needed_37, dX12_needed_38, dX12_needed_39, dX12_needed_40, dX12_needed_43, dX12_needed_46, dX12_needed_47, dX12_needed_48, dX12_needed_49, dX12_needed_50, dX12_needed_51, dX12_needed_52, dX12_needed_55, dX12_needed_56, dX12_needed_57, dX12_needed_60, dX12_needed_61, dX12_needed_62, dX12_needed_63, dX12_needed_64, dX12_needed_67, dX12_needed_68, dX12_needed_69, dX12_needed_72, dX12_needed_73, dX12_needed_74, fT_12_105, dX12_needed_77, dX12_needed_78, dX12_needed_79, dX12_needed_80, dX12_needed_81, dX12_needed_82, dX12_needed_83, dX12_needed_84, dX12_needed_87, dX12_needed_88, dX12_needed_89, dX12_needed_90, dX12_needed_91, dX12_needed_92, dX12_needed_93, dX12_needed_94, dX12_needed_97, dX12_needed_98, dX12_needed_99, dX12_needed_100, dX12_needed_103, dX12_needed_106, dX12_needed_109, dX12_needed_112, dX12_needed_113, dX12_needed_114, dX12_needed_117]
  have e1 : Eqf [159, 160, 161, 165, 166] [0] mI (up2 mI 129 0 0) := Eqf.rf.upf (by decide)
  generalize up2 mI 129 0 0 = mI0 at e1 ⊢
  have e0 := (hp.eqf e1 (by decide)).1
  simp (disch := omega) only [li, nI_add, nI_clamp, nI_ltI, nI_leI, nI_eq, inx_iff, a31, nI_1shl', nI_shr', div_bit, tb1, tb0, fa_or, fa_and, nI_not, pk_sub, nI_dec, e0]
  refine ⟨fun h => hP _ _ ⟨by unfold nedA; rw [if_neg (fun w => by omega)], _, rfl, e1⟩, fun h => ?_⟩
  refine hG.callV dX12_needed_16 mv_12_347 [] [] (c12_isSure l X (d - 1) sh mI0 mL mR n hL np (hp.eqf e1 (by decide)) c fi se ma (hS.eqf e1 (by decide)) (by omega)) ⟨_, rfl, rfl⟩ q0 (by omega) rfl (by decide) (by simp [Value.category]) rfl ?_
  rintro r M' ⟨rfl, mI2, rfl, h2, h3, h4, -⟩
  have f2 := e1.tr (h2.f (T := [159, 160, 161, 165, 166]) (F := [0]) (by decide))
  have last : 0 < ordN np c fi se → ∀ f i v3 mI3, np - i < f → i ≤ np → Eqf [159, 160, 161, 165, 166] [0] mI mI3 → (∀ j, j < 8192 → mI3 165 j = nI 0) → (∀ p, p < 10 → mI3 161 p = nI (abv np c fi se p)) → G 50 [some (.ref 129), some (.int (nI (knO (abv np c fi se) np i))), some (.int (nI i)), v3] [] (sh, mI3, mL, mR, n) := by
    intro ho f
    induction f with
    | zero => intro i v3 mI3 h; omega
    | succ f ih =>
      intro i v3 mI3 hf hi g1 g2 g3
      have e0 := (hp.eqf g1 (by decide)).1
      have inner : i < np → ∀ f2 j, np - j < f2 → j ≤ np → G 62 [some (.ref 129), some (.int (nI (knJ (abv np c fi se) i (knO (abv np c fi se) np i) j))), some (.int (nI i)), some (.int (nI j))] [] (sh, mI3, mL, mR, n) := by
        intro hin f2
        induction f2 with
        | zero => intro j h; omega
        | succ f2 ih2 =>
          intro j hf2 hj
          have b1 := hab i
          have b2 := g3 i (by omega)
          have b3 := knJ_lt (A := abv np c fi se) (p := i) (s := knO (abv np c fi se) np i) (by omega) (knO_lt h (by omega)) (q := j) (by omega)
          refine hG.run [50, 62] 60 ?_
          simp [wp, stepI, ln, jmp, cmpI, Value.category, rd, tyF, va_rf, st1, st2, clr, isLg, CB, inx_0, inx_1, inx_2, inx_3, inx_4, inx_5, bI_0, bI_1, bI_ok, fin3, tyX12, entL, q0, q_pupils, q_above, dX12_needed_0, dX12_needed_1, dX12_needed_2, fT_12_135, dX12_needed_5, dX12_needed_6, fT_12_13, dX12_needed_9, dX12_needed_10, dX12_needed_11, dX12_needed_12, dX12_needed_15, dX12_needed_16, dX12_needed_19, dX12_needed_22, dX12_needed_23, dX12_needed_24, dX12_needed_25, dX12_needed_26, dX12_needed_27, dX12_needed_30, dX12_needed_33, dX12_needed_34, fT_12_117, dX12_needed_37, dX12_needed_38, dX12_needed_39, dX12_needed_40, dX12_needed_43, dX12_needed_46, dX12_needed_47, dX12_needed_48, dX12_needed_49, dX12_needed_50, dX12_needed_51, dX12_needed_52, dX12_needed_55, dX12_needed_56, dX12_needed_57, dX12_needed_60, dX12_needed_61, dX12_needed_62, dX12_needed_63, dX12_needed_64, dX12_needed_67, dX12_needed_68, dX12_needed_69, dX12_needed_72, dX12_needed_73, dX12_needed_74, fT_12_105, dX12_needed_77, dX12_needed_78, dX12_needed_79, dX12_needed_80, dX12_needed_81, dX12_needed_82, dX12_needed_83, dX12_needed_84, dX12_needed_87, dX12_needed_88, dX12_needed_89, dX12_needed_90, dX12_needed_91, dX12_needed_92, dX12_needed_93, dX12_needed_94, dX12_needed_97, dX12_needed_98, dX12_needed_99, dX12_needed_100, dX12_needed_103, dX12_needed_106, dX12_needed_109, dX12_needed_112, dX12_needed_113, dX12_needed_114, dX12_needed_117]
          simp (disch := omega) only [li, nI_add, nI_clamp, nI_ltI, nI_leI, nI_eq, inx_iff, a31, nI_1shl', nI_shr', div_bit, tb1, tb0, fa_or, fa_and, nI_not, pk_sub, nI_dec, e0, b2, nI_mul]
          refine ⟨fun z => ?_, fun z => ?_⟩
          · have := ih (i + 1) (some (.int (nI j))) mI3 (by omega) (by omega) g1 g2 g3
            rw [show j = np by omega] at this ⊢
            exact this
          · have nx := ih2 (j + 1) (by omega) (by omega)
            rw [knJ_s] at nx
            refine ⟨by omega, fun z2 => ?_, fun z2 => ?_⟩
            · rw [if_neg z2] at nx; exact nx
            · rw [if_pos z2] at nx; exact nx
      refine hG.run [62] 60 ?_
      simp [wp, stepI, ln, jmp, cmpI, Value.category, rd, tyF, va_rf, st1, st2, clr, isLg, CB, inx_0, inx_1, inx_2, inx_3, inx_4, inx_5, bI_0, bI_1, bI_ok, fin3, tyX12, entL, q0, q_pupils, q_above, dX12_needed_0, dX12_needed_1, dX12_needed_2, fT_12_135, dX12_needed_5, dX12_needed_6, fT_12_13, dX12_needed_9, dX12_needed_10, dX12_needed_11, dX12_needed_12, dX12_needed_15, dX12_needed_16, dX12_needed_19, dX12_needed_22, dX12_needed_23, dX12_needed_24, dX12_needed_25, dX12_needed_26, dX12_needed_27, dX12_needed_30, dX12_needed_33, dX12_needed_34, fT_12_117, dX12_needed_37, dX12_needed_38, dX12_needed_39, dX12_needed_40, dX12_needed_43, dX12_needed_46, dX12_needed_47, dX12_needed_48, dX12_needed_49, dX12_needed_50, dX12_needed_51, dX12_needed_52, dX12_needed_55, dX12_needed_56, dX12_needed_57, dX12_needed_60, dX12_needed_61, dX12_needed_62, dX12_needed_63, dX12_needed_64, dX12_needed_67, dX12_needed_68, dX12_needed_69, dX12_needed_72, dX12_needed_73, dX12_needed_74, fT_12_105, dX12_needed_77, dX12_needed_78, dX12_needed_79, dX12_needed_80, dX12_needed_81, dX12_needed_82, dX12_needed_83, dX12_needed_84, dX12_needed_87, dX12_needed_88, dX12_needed_89, dX12_needed_90, dX12_needed_91, dX12_needed_92, dX12_needed_93, dX12_needed_94, dX12_needed_97, dX12_needed_98, dX12_needed_99, dX12_needed_100, dX12_needed_103, dX12_needed_106, dX12_needed_109, dX12_needed_112, dX12_needed_113, dX12_needed_114, dX12_needed_117]
      simp (disch := omega) only [li, nI_add, nI_clamp, nI_ltI, nI_leI, nI_eq, inx_iff, a31, nI_1shl', nI_shr', div_bit, tb1, tb0, fa_or, fa_and, nI_not, pk_sub, nI_dec, e0]
      refine ⟨fun z => ?_, fun z => inner z (np + 1) 0 (by omega) (by omega)⟩
      rw [show i = np by omega]
      have hK : HT np N mI3 (fun _ => 0) := ⟨fun j hj => ⟨g2 j hj, Nat.zero_le _, fun w => absurd rfl w⟩, fun i j _ _ w => absurd rfl w, fun j _ w => absurd rfl w⟩
      refine hG.callV dX12_needed_114 mv_12_407 [.int (nI (knO (abv np c fi se) np np))] [] (c12_needs np h (hr h) N (hN h) 26 l X (d - 1) sh mI3 mL mR n hL (hp.eqf g1 (by decide)) _ (hPO h ho) _ hK (by omega) (by omega)) ⟨_, rfl, rfl⟩ q0 (by omega) rfl (by decide) (by simp [Value.category]) rfl ?_
      rintro r M' ⟨rfl, mI4, K4, rfl, x1, -, -⟩
      refine hG.run [62] 60 ?_
      simp [wp, stepI, ln, jmp, cmpI, Value.category, rd, tyF, va_rf, st1, st2, clr, isLg, CB, inx_0, inx_1, inx_2, inx_3, inx_4, inx_5, bI_0, bI_1, bI_ok, fin3, tyX12, entL, q0, q_pupils, q_above, dX12_needed_0, dX12_needed_1, dX12_needed_2, fT_12_135, dX12_needed_5, dX12_needed_6, fT_12_13, dX12_needed_9, dX12_needed_10, dX12_needed_11, dX12_needed_12, dX12_needed_15, dX12_needed_16, dX12_needed_19, dX12_needed_22, dX12_needed_23, dX12_needed_24, dX12_needed_25, dX12_needed_26, dX12_needed_27, dX12_needed_30, dX12_needed_33, dX12_needed_34, fT_12_117, dX12_needed_37, dX12_needed_38, dX12_needed_39, dX12_needed_40, dX12_needed_43, dX12_needed_46, dX12_needed_47, dX12_needed_48, dX12_needed_49, dX12_needed_50, dX12_needed_51, dX12_needed_52, dX12_needed_55, dX12_needed_56, dX12_needed_57, dX12_needed_60, dX12_needed_61, dX12_needed_62, dX12_needed_63, dX12_needed_64, dX12_needed_67, dX12_needed_68, dX12_needed_69, dX12_needed_72, dX12_needed_73, dX12_needed_74, fT_12_105, dX12_needed_77, dX12_needed_78, dX12_needed_79, dX12_needed_80, dX12_needed_81, dX12_needed_82, dX12_needed_83, dX12_needed_84, dX12_needed_87, dX12_needed_88, dX12_needed_89, dX12_needed_90, dX12_needed_91, dX12_needed_92, dX12_needed_93, dX12_needed_94, dX12_needed_97, dX12_needed_98, dX12_needed_99, dX12_needed_100, dX12_needed_103, dX12_needed_106, dX12_needed_109, dX12_needed_112, dX12_needed_113, dX12_needed_114, dX12_needed_117]
      refine hP _ _ ⟨?_, _, rfl, g1.tr (x1.f (by decide))⟩
      unfold nedA
      rw [if_pos ⟨h, ho⟩]
  have fill : 0 < ordN np c fi se → ∀ f i v2 v3 mI3, 8192 - i < f → i ≤ 8192 → Eqf [159, 160, 161, 165, 166] [0] mI mI3 → (∀ j, j < i → mI3 165 j = nI 0) → (∀ p, p < 10 → mI3 161 p = nI (abv np c fi se p)) → G 26 [some (.ref 129), some (.int (nI i)), v2, v3] [] (sh, mI3, mL, mR, n) := by
    intro ho f
    induction f with
    | zero => intro i v2 v3 mI3 h; omega
    | succ f ih =>
      intro i v2 v3 mI3 hf hi g1 g2 g3
      refine hG.run [26, 50] 60 ?_
      simp [wp, stepI, ln, jmp, cmpI, Value.category, rd, tyF, va_rf, st1, st2, clr, isLg, CB, inx_0, inx_1, inx_2, inx_3, inx_4, inx_5, bI_0, bI_1, bI_ok, fin3, tyX12, entL, q0, q_knownKey, dX12_needed_0, dX12_needed_1, dX12_needed_2, fT_12_135, dX12_needed_5, dX12_needed_6, fT_12_13, dX12_needed_9, dX12_needed_10, dX12_needed_11, dX12_needed_12, dX12_needed_15, dX12_needed_16, dX12_needed_19, dX12_needed_22, dX12_needed_23, dX12_needed_24, dX12_needed_25, dX12_needed_26, dX12_needed_27, dX12_needed_30, dX12_needed_33, dX12_needed_34, fT_12_117, dX12_needed_37, dX12_needed_38, dX12_needed_39, dX12_needed_40, dX12_needed_43, dX12_needed_46, dX12_needed_47, dX12_needed_48, dX12_needed_49, dX12_needed_50, dX12_needed_51, dX12_needed_52, dX12_needed_55, dX12_needed_56, dX12_needed_57, dX12_needed_60, dX12_needed_61, dX12_needed_62, dX12_needed_63, dX12_needed_64, dX12_needed_67, dX12_needed_68, dX12_needed_69, dX12_needed_72, dX12_needed_73, dX12_needed_74, fT_12_105, dX12_needed_77, dX12_needed_78, dX12_needed_79, dX12_needed_80, dX12_needed_81, dX12_needed_82, dX12_needed_83, dX12_needed_84, dX12_needed_87, dX12_needed_88, dX12_needed_89, dX12_needed_90, dX12_needed_91, dX12_needed_92, dX12_needed_93, dX12_needed_94, dX12_needed_97, dX12_needed_98, dX12_needed_99, dX12_needed_100, dX12_needed_103, dX12_needed_106, dX12_needed_109, dX12_needed_112, dX12_needed_113, dX12_needed_114, dX12_needed_117]
      simp (disch := omega) only [li, nI_add, nI_clamp, nI_ltI, nI_leI, nI_eq, inx_iff, a31, nI_1shl', nI_shr', div_bit, tb1, tb0, fa_or, fa_and, nI_not, pk_sub, nI_dec]
      refine ⟨fun z => last ho (np + 1) 0 v3 mI3 (by omega) (by omega) g1 (fun j hj => g2 j (by omega)) g3, fun z => ⟨by omega, ?_⟩⟩
      refine ih (i + 1) v2 v3 _ (by omega) (by omega) (fun a j ha hj => ?_) (fun j hj => ?_) (fun p hp => ?_)
      · have n1 : ¬ (a = 165 ∧ j = i) := fun w => ha (by rw [w.1]; decide)
        rw [up2_ne n1]; exact g1 a j ha hj
      · by_cases w : j = i
        · rw [w, up2_eq]
        · rw [up2_ne (fun w2 => w w2.2)]; exact g2 j (by omega)
      · rw [up2_ne (fun w => by cases w.1)]; exact g3 p hp
  refine hG.run [26] 20 ?_
  simp [wp, stepI, ln, jmp, cmpI, Value.category, rd, tyF, va_rf, st1, st2, clr, isLg, CB, inx_0, inx_1, inx_2, inx_3, inx_4, inx_5, bI_0, bI_1, bI_ok, fin3, tyX12, entL, q0, dX12_needed_0, dX12_needed_1, dX12_needed_2, fT_12_135, dX12_needed_5, dX12_needed_6, fT_12_13, dX12_needed_9, dX12_needed_10, dX12_needed_11, dX12_needed_12, dX12_needed_15, dX12_needed_16, dX12_needed_19, dX12_needed_22, dX12_needed_23, dX12_needed_24, dX12_needed_25, dX12_needed_26, dX12_needed_27, dX12_needed_30, dX12_needed_33, dX12_needed_34, fT_12_117, dX12_needed_37, dX12_needed_38, dX12_needed_39, dX12_needed_40, dX12_needed_43, dX12_needed_46, dX12_needed_47, dX12_needed_48, dX12_needed_49, dX12_needed_50, dX12_needed_51, dX12_needed_52, dX12_needed_55, dX12_needed_56, dX12_needed_57, dX12_needed_60, dX12_needed_61, dX12_needed_62, dX12_needed_63, dX12_needed_64, dX12_needed_67, dX12_needed_68, dX12_needed_69, dX12_needed_72, dX12_needed_73, dX12_needed_74, fT_12_105, dX12_needed_77, dX12_needed_78, dX12_needed_79, dX12_needed_80, dX12_needed_81, dX12_needed_82, dX12_needed_83, dX12_needed_84, dX12_needed_87, dX12_needed_88, dX12_needed_89, dX12_needed_90, dX12_needed_91, dX12_needed_92, dX12_needed_93, dX12_needed_94, dX12_needed_97, dX12_needed_98, dX12_needed_99, dX12_needed_100, dX12_needed_103, dX12_needed_106, dX12_needed_109, dX12_needed_112, dX12_needed_113, dX12_needed_114, dX12_needed_117]
  simp (disch := omega) only [li, nI_add, nI_clamp, nI_ltI, nI_leI, nI_eq, inx_iff, a31, nI_1shl', nI_shr', div_bit, tb1, tb0, fa_or, fa_and, nI_not, pk_sub, nI_dec]
  refine ⟨fun ho => fill (by omega) 8193 0 none none mI2 (by omega) (by omega) f2 (fun j hj => by omega) h4, fun ho => hP _ _ ⟨by unfold nedA; rw [if_neg (fun w => by omega)], _, rfl, f2⟩⟩
