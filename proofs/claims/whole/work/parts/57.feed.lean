/-- the tape and how many signs are on it -/
abbrev TP : Type := (Nat → Nat) × Nat
def fdS (x : TP) (s : Nat) : TP := if x.2 < 1000 ∧ (s = 10 ∨ (32 ≤ s ∧ s ≤ 126)) then (upN x.1 x.2 s, x.2 + 1) else x
/-- the k-th byte of three words -/
def fdY (a b c k : Nat) : Nat := (if k < 8 then a else if k < 16 then b else c) / 2 ^ (56 - 8 * (k % 8)) % 256
def fdN (a b c : Nat) (x : TP) : Nat → TP
  | 0 => x
  | k + 1 => fdS (fdN a b c x k) (fdY a b c k)
theorem fdN_s (a b c : Nat) (x : TP) (k : Nat) : fdN a b c x (k + 1) = fdS (fdN a b c x k) (fdY a b c k) := rfl
def TpM (mI : Nat → Nat → Int32) (x : TP) : Prop := mI 129 1 = nI x.2 ∧ x.2 ≤ 1000 ∧ ∀ k, k < x.2 → mI 130 k = nI (x.1 k) ∧ x.1 k < 128
set_option maxHeartbeats 4000000 in
set_option maxRecDepth 100000 in
theorem c12_feed (l : Launch) (X : Cx) (d : Nat) (sh : Nat → Option Sh) (mI : Nat → Nat → Int32) (mL : Nat → Nat → Int64) (mR : Nat → Nat → Option Nat) (n : Nat) (hL : ML sh mR) (x : TP) (hx : TpM mI x) (a b c : Nat) (ha : a < 2 ^ 64) (hb : b < 2 ^ 64) (hc : c < 2 ^ 64) : Cn l X yX12_feed cX12_feed 11 (some .int) d [.ref 129, .long (lN a), .long (lN b), .long (lN c)] (sh, mI, mL, mR, n) (fun r M' => r = some (.int (nI (fdN a b c x 24).2)) ∧ ∃ mI', M' = (sh, mI', mL, mR, n) ∧ Eqf [130] [0, 1] mI mI' ∧ TpM mI' (fdN a b c x 24)) 0 0 := by
  refine Cn.run 12 false (by decide) rfl (by decide) (by simp [entA, Value.category]) ?_
  intro P G hP hG
  have q0 := hL.1
  have q_tape := hL.2 (2, 130, .int, 1000) (by decide)
  dsimp only at q_tape
  have loop : ∀ f k mI1 v8 v9 v10, 24 - k < f → k ≤ 24 → Eqf [130] [0, 1] mI mI1 → TpM mI1 (fdN a b c x k) → G 8 [some (.ref 129), some (.long (lN a)), none, some (.long (lN b)), none, some (.long (lN c)), none, some (.int (nI k)), v8, v9, v10] [] (sh, mI1, mL, mR, n) := by
    intro f
    induction f with
    | zero => intro k mI1 v8 v9 v10 h; omega
    | succ f ih =>
      intro k mI1 v8 v9 v10 hf hk g1 g2
      have fin : k = 24 → P (some (.int (mI1 129 1))) (sh, mI1, mL, mR, n) := fun e => by
        rw [e] at g2
        exact hP _ _ ⟨by rw [g2.1], mI1, rfl, g1, g2⟩
      have go : k < 24 → ∀ W v8 v9 v10, W < 2 ^ 64 → (if k < 8 then a else if k < 16 then b else c) = W → G 39 [some (.ref 129), some (.long (lN a)), none, some (.long (lN b)), none, some (.long (lN c)), none, some (.int (nI k)), v8, v9, v10] [.long (lN W)] (sh, mI1, mL, mR, n) := fun hk4 W v8 v9 v10 hW eW => by
        obtain ⟨q, hq⟩ : ∃ q, q = fdY a b c k := ⟨_, rfl⟩
        have hq2 : W / 2 ^ (56 - 8 * (k % 8)) % 256 = q := by rw [hq, ← eW]; rfl
        have hql : q < 256 := by rw [← hq2]; exact Nat.mod_lt _ (by decide)
        have nx := ih (k + 1)
        rw [fdN_s, ← hq] at nx
        generalize fdN a b c x k = y at g2 nx
        obtain ⟨t1, t2, t3⟩ := g2
        have e56 : nI 56 - nI (8 * (k &&& 7)) = nI (56 - 8 * (k % 8)) := by
          rw [show k &&& 7 = k % 8 from Nat.and_two_pow_sub_one_eq_mod k 3, pk_sub (by omega)]
        have byte : ((lN W).toUInt64 >>> ((nI 56 - nI (8 * (k &&& 7))).toInt64.toUInt64 &&& (lN 63).toUInt64)).toInt64.toInt32 &&& nI 255 = nI q := by
          rw [e56, show (lN 63).toUInt64 = Int64.toUInt64 63 from rfl, wb_shr hW (by omega), lN_i, show nI 255 = nI (2 ^ 8 - 1) from rfl, fa_mask]
          exact congrArg nI hq2
        have g62 : G 62 [some (.ref 129), some (.long (lN a)), none, some (.long (lN b)), none, some (.long (lN c)), none, some (.int (nI k)), some (.long (lN W)), none, some (.int (nI q))] [] (sh, mI1, mL, mR, n) := by
          have no : ¬ (y.2 < 1000 ∧ (q = 10 ∨ (32 ≤ q ∧ q ≤ 126))) → G 8 [some (.ref 129), some (.long (lN a)), none, some (.long (lN b)), none, some (.long (lN c)), none, some (.int (nI (k + 1))), some (.long (lN W)), none, some (.int (nI q))] [] (sh, mI1, mL, mR, n) := fun z => by
            have := nx mI1 (some (.long (lN W))) none (some (.int (nI q))) (by omega) (by omega) g1
            unfold fdS at this
            rw [if_neg z] at this
            exact this ⟨t1, t2, t3⟩
          have yes : y.2 < 1000 → (q = 10 ∨ (32 ≤ q ∧ q ≤ 126)) → G 8 [some (.ref 129), some (.long (lN a)), none, some (.long (lN b)), none, some (.long (lN c)), none, some (.int (nI (k + 1))), some (.long (lN W)), none, some (.int (nI q))] [] (sh, up2 (up2 mI1 130 y.2 (nI q)) 129 1 (nI (y.2 + 1)), mL, mR, n) := fun z z2 => by
            have := nx (up2 (up2 mI1 130 y.2 (nI q)) 129 1 (nI (y.2 + 1))) (some (.long (lN W))) none (some (.int (nI q))) (by omega) (by omega) ((g1.upx (by decide)).upf (by decide))
            unfold fdS at this
            rw [if_pos ⟨z, z2⟩] at this
            refine this ⟨up2_eq _ _ _ _, by show y.2 + 1 ≤ 1000; omega, fun j hj => ?_⟩
            rw [up2_ne (fun w => by cases w.1)]
            by_cases e : j = y.2
            · rw [e, up2_eq]
              show nI q = nI (upN y.1 y.2 q y.2) ∧ upN y.1 y.2 q y.2 < 128
              rw [upN_eq]
              exact ⟨rfl, by omega⟩
            · have hj' : j < y.2 + 1 := hj
              rw [up2_ne (fun w => e w.2)]
              show mI1 130 j = nI (upN y.1 y.2 q j) ∧ upN y.1 y.2 q j < 128
              rw [upN_ne e]
              exact t3 j (by omega)
          refine hG.run [8] 80 ?_
          simp [wp, stepI, ln, jmp, cmpI, Value.category, rd, tyF, va_rf, st1, st2, clr, isLg, CB, inx_0, inx_1, inx_2, inx_3, inx_4, inx_5, bI_0, bI_1, bI_ok, fin3, tyX12, entL, q0, q_tape, okv, wr, finF, clT, TX12, dX12_feed_0, dX12_feed_1, dX12_feed_2, fT_12_135, dX12_feed_5, dX12_feed_6, dX12_feed_8, dX12_feed_10, dX12_feed_12, dX12_feed_15, dX12_feed_17, dX12_feed_19, dX12_feed_22, dX12_feed_23, dX12_feed_26, dX12_feed_28, dX12_feed_30, dX12_feed_33, dX12_feed_34, dX12_feed_37, dX12_feed_39, dX12_feed_41, dX12_feed_43, dX12_feed_45, dX12_feed_47, dX12_feed_49, dX12_feed_51, dX12_feed_52, dX12_feed_53, dX12_feed_54, dX12_feed_55, cL_12_139, dX12_feed_58, dX12_feed_59, dX12_feed_60, dX12_feed_62, dX12_feed_63, fT_12_141, dX12_feed_66, dX12_feed_69, dX12_feed_72, dX12_feed_74, dX12_feed_76, dX12_feed_79, dX12_feed_81, dX12_feed_83, dX12_feed_86, dX12_feed_88, dX12_feed_90, dX12_feed_93, dX12_feed_94, fT_12_7, dX12_feed_97, dX12_feed_98, dX12_feed_101, dX12_feed_103, dX12_feed_104, dX12_feed_105, dX12_feed_106, dX12_feed_109, dX12_feed_110, dX12_feed_111, dX12_feed_114, dX12_feed_117, dX12_feed_120, dX12_feed_121, dX12_feed_124]
          simp (disch := omega) only [li, nI_add, nI_clamp, nI_ltI, nI_leI, nI_eq, inx_iff, a31, nI_1shl', nI_shr', div_bit, tb1, tb0, fa_or, fa_and, nI_not, pk_sub, nI_dec, t1, up2_eq, up2_ne]
          exact ⟨fun z => no (fun w => by omega), fun z => ⟨fun z2 => ⟨z, yes z (Or.inl z2)⟩, fun z2 => ⟨fun z3 => no (fun w => by omega), fun z3 => ⟨fun z4 => no (fun w => by omega), fun z4 => ⟨z, yes z (Or.inr ⟨z3, z4⟩)⟩⟩⟩⟩⟩
        refine hG.run [62] 80 ?_
        simp [wp, stepI, ln, jmp, cmpI, Value.category, rd, tyF, va_rf, st1, st2, clr, isLg, CB, inx_0, inx_1, inx_2, inx_3, inx_4, inx_5, bI_0, bI_1, bI_ok, fin3, tyX12, entL, q0, dX12_feed_0, dX12_feed_1, dX12_feed_2, fT_12_135, dX12_feed_5, dX12_feed_6, dX12_feed_8, dX12_feed_10, dX12_feed_12, dX12_feed_15, dX12_feed_17, dX12_feed_19, dX12_feed_22, dX12_feed_23, dX12_feed_26, dX12_feed_28, dX12_feed_30, dX12_feed_33, dX12_feed_34, dX12_feed_37, dX12_feed_39, dX12_feed_41, dX12_feed_43, dX12_feed_45, dX12_feed_47, dX12_feed_49, dX12_feed_51, dX12_feed_52, dX12_feed_53, dX12_feed_54, dX12_feed_55, cL_12_139, dX12_feed_58, dX12_feed_59, dX12_feed_60, dX12_feed_62, dX12_feed_63, fT_12_141, dX12_feed_66, dX12_feed_69, dX12_feed_72, dX12_feed_74, dX12_feed_76, dX12_feed_79, dX12_feed_81, dX12_feed_83, dX12_feed_86, dX12_feed_88, dX12_feed_90, dX12_feed_93, dX12_feed_94, fT_12_7, dX12_feed_97, dX12_feed_98, dX12_feed_101, dX12_feed_103, dX12_feed_104, dX12_feed_105, dX12_feed_106, dX12_feed_109, dX12_feed_110, dX12_feed_111, dX12_feed_114, dX12_feed_117, dX12_feed_120, dX12_feed_121, dX12_feed_124]
        simp (disch := omega) only [li, nI_add, nI_clamp, nI_ltI, nI_leI, nI_eq, inx_iff, a31, nI_1shl', nI_shr', div_bit, tb1, tb0, fa_or, fa_and, nI_not, pk_sub, nI_dec, nI_mul, liL]
        rw [byte]
        exact g62
      refine hG.run [8, 39] 80 ?_
      simp [wp, stepI, ln, jmp, cmpI, Value.category, rd, tyF, va_rf, st1, st2, clr, isLg, CB, inx_0, inx_1, inx_2, inx_3, inx_4, inx_5, bI_0, bI_1, bI_ok, fin3, tyX12, entL, q0, dX12_feed_0, dX12_feed_1, dX12_feed_2, fT_12_135, dX12_feed_5, dX12_feed_6, dX12_feed_8, dX12_feed_10, dX12_feed_12, dX12_feed_15, dX12_feed_17, dX12_feed_19, dX12_feed_22, dX12_feed_23, dX12_feed_26, dX12_feed_28, dX12_feed_30, dX12_feed_33, dX12_feed_34, dX12_feed_37, dX12_feed_39, dX12_feed_41, dX12_feed_43, dX12_feed_45, dX12_feed_47, dX12_feed_49, dX12_feed_51, dX12_feed_52, dX12_feed_53, dX12_feed_54, dX12_feed_55, cL_12_139, dX12_feed_58, dX12_feed_59, dX12_feed_60, dX12_feed_62, dX12_feed_63, fT_12_141, dX12_feed_66, dX12_feed_69, dX12_feed_72, dX12_feed_74, dX12_feed_76, dX12_feed_79, dX12_feed_81, dX12_feed_83, dX12_feed_86, dX12_feed_88, dX12_feed_90, dX12_feed_93, dX12_feed_94, fT_12_7, dX12_feed_97, dX12_feed_98, dX12_feed_101, dX12_feed_103, dX12_feed_104, dX12_feed_105, dX12_feed_106, dX12_feed_109, dX12_feed_110, dX12_feed_111, dX12_feed_114, dX12_feed_117, dX12_feed_120, dX12_feed_121, dX12_feed_124]
      simp (disch := omega) only [li, nI_add, nI_clamp, nI_ltI, nI_leI, nI_eq, inx_iff, a31, nI_1shl', nI_shr', div_bit, tb1, tb0, fa_or, fa_and, nI_not, pk_sub, nI_dec]
      refine ⟨fun z => fin (by omega), fun z => ⟨fun z1 => ⟨fun z2 => go z c _ _ _ hc (by rw [if_neg (by omega), if_neg (by omega)]), fun z2 => go z b _ _ _ hb (by rw [if_neg (by omega), if_pos z2])⟩, fun z1 => go z a _ _ _ ha (by rw [if_pos z1])⟩⟩
  have f0 : Eqf [130] [0, 1] mI (up2 mI 129 0 (nI 0)) := Eqf.rf.upf (by decide)
  refine hG.run [8] 40 ?_
  simp [wp, stepI, ln, jmp, cmpI, Value.category, rd, tyF, va_rf, st1, st2, clr, isLg, CB, inx_0, inx_1, inx_2, inx_3, inx_4, inx_5, bI_0, bI_1, bI_ok, fin3, tyX12, entL, q0, okv, wr, finF, clT, TX12, dX12_feed_0, dX12_feed_1, dX12_feed_2, fT_12_135, dX12_feed_5, dX12_feed_6, dX12_feed_8, dX12_feed_10, dX12_feed_12, dX12_feed_15, dX12_feed_17, dX12_feed_19, dX12_feed_22, dX12_feed_23, dX12_feed_26, dX12_feed_28, dX12_feed_30, dX12_feed_33, dX12_feed_34, dX12_feed_37, dX12_feed_39, dX12_feed_41, dX12_feed_43, dX12_feed_45, dX12_feed_47, dX12_feed_49, dX12_feed_51, dX12_feed_52, dX12_feed_53, dX12_feed_54, dX12_feed_55, cL_12_139, dX12_feed_58, dX12_feed_59, dX12_feed_60, dX12_feed_62, dX12_feed_63, fT_12_141, dX12_feed_66, dX12_feed_69, dX12_feed_72, dX12_feed_74, dX12_feed_76, dX12_feed_79, dX12_feed_81, dX12_feed_83, dX12_feed_86, dX12_feed_88, dX12_feed_90, dX12_feed_93, dX12_feed_94, fT_12_7, dX12_feed_97, dX12_feed_98, dX12_feed_101, dX12_feed_103, dX12_feed_104, dX12_feed_105, dX12_feed_106, dX12_feed_109, dX12_feed_110, dX12_feed_111, dX12_feed_114, dX12_feed_117, dX12_feed_120, dX12_feed_121, dX12_feed_124]
  simp only [li]
  refine loop 25 0 _ _ _ _ (by omega) (by omega) f0 ⟨?_, hx.2.1, fun k hk => ⟨?_, (hx.2.2 k hk).2⟩⟩
  · rw [up2_ne (fun w => by cases w.2)]; exact hx.1
  · rw [up2_ne (fun w => by cases w.1)]; exact (hx.2.2 k hk).1
