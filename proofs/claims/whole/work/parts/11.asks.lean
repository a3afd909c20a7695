/-- who is said to stand above p, of the first k sayings, without those that ok leaves out -/
def ahd (fi se : Nat → Nat) (ok : Nat → Bool) (p : Nat) : Nat → Nat
  | 0 => 0
  | k + 1 => if ok (fi k) && ok (se k) && se k == p then ahd fi se ok p k ||| 2 ^ fi k else ahd fi se ok p k
def SayM (mI : Nat → Nat → Int32) (c : Nat) (fi se ma : Nat → Nat) : Prop := mI 156 0 = nI c ∧ c ≤ 40 ∧ ∀ k, k < c → mI 156 (1 + k) = nI (fi k) ∧ mI 156 (41 + k) = nI (se k) ∧ mI 156 (81 + k) = nI (ma k) ∧ fi k < 10 ∧ se k < 10 ∧ ma k < 2
set_option maxHeartbeats 4000000 in
set_option maxRecDepth 100000 in
theorem c12_asks (l : Launch) (X : Cx) (d : Nat) (sh : Nat → Option Sh) (mI : Nat → Nat → Int32) (mL : Nat → Nat → Int64) (mR : Nat → Nat → Option Nat) (n : Nat) (hL : ML sh mR) (c : Nat) (fi se ma : Nat → Nat) (hS : SayM mI c fi se ma) (but : Int32) : Cn l X yX12_asks cX12_asks 3 none d [.ref 129, .int but] (sh, mI, mL, mR, n) (fun r M' => r = none ∧ ∃ mI', M' = (sh, mI', mL, mR, n) ∧ Eqx [159] mI mI' ∧ ∀ p, p < 10 → mI' 159 p = nI (ahd fi se (fun x => decide (nI x ≠ but)) p c)) 0 0 := by
  refine Cn.run 12 false (by decide) rfl (by decide) (by simp [entA, Value.category]) ?_
  intro P G hP hG
  have q0 := hL.1
  have q1 := hL.2 (44, 159, .int, 10) (by decide)
  have q2 := hL.2 (41, 156, .int, 144) (by decide)
  dsimp only at q1 q2
  have loop2 : ∀ f i mI1, c - i < f → i ≤ c → Eqx [159] mI mI1 → (∀ p, p < 10 → mI1 159 p = nI (ahd fi se (fun x => decide (nI x ≠ but)) p i)) → G 23 [some (.ref 129), some (.int but), some (.int (nI i))] [] (sh, mI1, mL, mR, n) := by
    intro f
    induction f with
    | zero => intro i mI1 h; omega
    | succ f ih =>
      intro i mI1 hf hi h1 h2
      refine hG.run [23] 60 ?_
      simp [wp, stepI, ln, jmp, cmpI, Value.category, rd, tyF, va_rf, st1, st2, clr, isLg, CB, inx_0, inx_1, inx_2, inx_3, inx_4, inx_5, bI_0, bI_1, bI_ok, fin3, tyX12, q0, q1, q2, dX12_asks_0, dX12_asks_1, dX12_asks_2, dX12_asks_3, dX12_asks_5, dX12_asks_8, dX12_asks_9, fT_12_99, dX12_asks_12, dX12_asks_13, dX12_asks_14, dX12_asks_15, dX12_asks_18, dX12_asks_21, dX12_asks_22, dX12_asks_23, dX12_asks_24, dX12_asks_25, fT_12_90, dX12_asks_28, dX12_asks_29, dX12_asks_30, dX12_asks_33, dX12_asks_34, dX12_asks_37, dX12_asks_38, dX12_asks_39, dX12_asks_40, dX12_asks_41, dX12_asks_42, dX12_asks_45, dX12_asks_46, dX12_asks_49, dX12_asks_51, dX12_asks_52, dX12_asks_53, dX12_asks_54, dX12_asks_55, dX12_asks_58, dX12_asks_59, dX12_asks_62, dX12_asks_63, dX12_asks_66, dX12_asks_68, dX12_asks_69, dX12_asks_70, dX12_asks_71, dX12_asks_72, dX12_asks_73, dX12_asks_74, dX12_asks_75, dX12_asks_78, dX12_asks_79, dX12_asks_80, dX12_asks_81, dX12_asks_82, dX12_asks_83, dX12_asks_84, dX12_asks_85, dX12_asks_88, dX12_asks_91]
      have e0 : mI1 156 0 = nI c := (h1 _ _ (by decide)).trans hS.1
      have hc := hS.2.1
      simp (disch := omega) only [li, nI_add, nI_clamp, nI_ltI, nI_leI, nI_eq, inx_iff, a31, nI_1shl', nI_shr', div_bit, tb1, tb0, fa_or, fa_and, nI_not, pk_sub, e0]
      refine ⟨fun h => ?_, fun h => ?_⟩
      · have hic : i = c := by omega
        subst hic
        exact hP _ _ ⟨rfl, mI1, rfl, h1, h2⟩
      · obtain ⟨s1, s2, -, b1, b2, -⟩ := hS.2.2 i h
        have e1 : mI1 156 (1 + i) = nI (fi i) := (h1 _ _ (by decide)).trans s1
        have e2 : mI1 156 (41 + i) = nI (se i) := (h1 _ _ (by decide)).trans s2
        have ep : 2 ^ fi i ≤ 512 := p2_le10 b1
        simp (disch := omega) only [li, nI_add, nI_clamp, nI_ltI, nI_leI, nI_eq, inx_iff, a31, nI_1shl', nI_shr', div_bit, tb1, tb0, fa_or, fa_and, nI_not, pk_sub, e1, e2, h2]
        refine ⟨by omega, fun hb => ih (i + 1) mI1 (by omega) (by omega) h1 (fun p hp => by rw [h2 p hp]; simp [ahd, hb]), fun hb => ⟨by omega, fun hb2 => ih (i + 1) mI1 (by omega) (by omega) h1 (fun p hp => by rw [h2 p hp]; simp [ahd, hb2]), fun hb2 => ⟨by omega, b2, by omega, b2, ih (i + 1) _ (by omega) (by omega) (h1.up (by decide)) (fun p hp => ?_)⟩⟩⟩
        by_cases hps : p = se i
        · subst hps
          rw [up2_eq]
          simp [ahd, hb, hb2]
        · rw [up2_ne (fun z => hps z.2), h2 p hp]
          simp [ahd, Ne.symm hps]
  have loop1 : ∀ f i mI1, 10 - i < f → i ≤ 10 → Eqx [159] mI mI1 → (∀ p, p < i → mI1 159 p = 0) → G 2 [some (.ref 129), some (.int but), some (.int (nI i))] [] (sh, mI1, mL, mR, n) := by
    intro f
    induction f with
    | zero => intro i mI1 h; omega
    | succ f ih =>
      intro i mI1 hf hi h1 h2
      refine hG.run [2, 23] 30 ?_
      simp [wp, stepI, ln, jmp, cmpI, Value.category, rd, tyF, va_rf, st1, st2, clr, isLg, CB, inx_0, inx_1, inx_2, inx_3, inx_4, inx_5, bI_0, bI_1, bI_ok, fin3, tyX12, q0, q1, q2, dX12_asks_0, dX12_asks_1, dX12_asks_2, dX12_asks_3, dX12_asks_5, dX12_asks_8, dX12_asks_9, fT_12_99, dX12_asks_12, dX12_asks_13, dX12_asks_14, dX12_asks_15, dX12_asks_18, dX12_asks_21, dX12_asks_22, dX12_asks_23, dX12_asks_24, dX12_asks_25, fT_12_90, dX12_asks_28, dX12_asks_29, dX12_asks_30, dX12_asks_33, dX12_asks_34, dX12_asks_37, dX12_asks_38, dX12_asks_39, dX12_asks_40, dX12_asks_41, dX12_asks_42, dX12_asks_45, dX12_asks_46, dX12_asks_49, dX12_asks_51, dX12_asks_52, dX12_asks_53, dX12_asks_54, dX12_asks_55, dX12_asks_58, dX12_asks_59, dX12_asks_62, dX12_asks_63, dX12_asks_66, dX12_asks_68, dX12_asks_69, dX12_asks_70, dX12_asks_71, dX12_asks_72, dX12_asks_73, dX12_asks_74, dX12_asks_75, dX12_asks_78, dX12_asks_79, dX12_asks_80, dX12_asks_81, dX12_asks_82, dX12_asks_83, dX12_asks_84, dX12_asks_85, dX12_asks_88, dX12_asks_91]
      simp (disch := omega) only [li, nI_add, nI_clamp, nI_ltI, nI_leI, nI_eq, inx_iff, a31, nI_1shl', nI_shr', div_bit, tb1, tb0, fa_or, fa_and, nI_not, pk_sub]
      refine ⟨fun h => ?_, fun h => ?_⟩
      · exact loop2 (c + 1) 0 mI1 (by omega) (by omega) h1 (fun p hp => by rw [h2 p (by omega)]; rfl)
      · refine ⟨h, ih (i + 1) _ (by omega) (by omega) (h1.up (by decide)) (fun p hp => ?_)⟩
        by_cases hps : p = i
        · subst hps
          rw [up2_eq]; rfl
        · rw [up2_ne (fun z => hps z.2), h2 p (by omega)]
  refine hG.run [2] 30 ?_
  simp [wp, stepI, ln, jmp, cmpI, Value.category, rd, tyF, va_rf, st1, st2, clr, isLg, CB, inx_0, inx_1, inx_2, inx_3, inx_4, inx_5, bI_0, bI_1, bI_ok, fin3, entL, tyX12, q0, q1, q2, dX12_asks_0, dX12_asks_1, dX12_asks_2, dX12_asks_3, dX12_asks_5, dX12_asks_8, dX12_asks_9, fT_12_99, dX12_asks_12, dX12_asks_13, dX12_asks_14, dX12_asks_15, dX12_asks_18, dX12_asks_21, dX12_asks_22, dX12_asks_23, dX12_asks_24, dX12_asks_25, fT_12_90, dX12_asks_28, dX12_asks_29, dX12_asks_30, dX12_asks_33, dX12_asks_34, dX12_asks_37, dX12_asks_38, dX12_asks_39, dX12_asks_40, dX12_asks_41, dX12_asks_42, dX12_asks_45, dX12_asks_46, dX12_asks_49, dX12_asks_51, dX12_asks_52, dX12_asks_53, dX12_asks_54, dX12_asks_55, dX12_asks_58, dX12_asks_59, dX12_asks_62, dX12_asks_63, dX12_asks_66, dX12_asks_68, dX12_asks_69, dX12_asks_70, dX12_asks_71, dX12_asks_72, dX12_asks_73, dX12_asks_74, dX12_asks_75, dX12_asks_78, dX12_asks_79, dX12_asks_80, dX12_asks_81, dX12_asks_82, dX12_asks_83, dX12_asks_84, dX12_asks_85, dX12_asks_88, dX12_asks_91]
  exact loop1 11 0 mI (by omega) (by omega) Eqx.rf (fun p hp => by omega)
