/-! feed -/
def fdW (a : Nat) (x : TP) : Nat → TP
  | 0 => x
  | k + 1 => fdS (fdW a x k) (a / 2 ^ (56 - 8 * k) % 256)
theorem fdW_s (a : Nat) (x : TP) (k : Nat) : fdW a x (k + 1) = fdS (fdW a x k) (a / 2 ^ (56 - 8 * k) % 256) := rfl
theorem fdN_1 (a b c : Nat) (x : TP) : ∀ k, k ≤ 8 → fdN a b c x k = fdW a x k
  | 0, _ => rfl
  | k + 1, h => by
    rw [fdN_s, fdW_s, fdN_1 a b c x k (by omega)]
    unfold fdY
    rw [if_pos (by omega), show k % 8 = k by omega]
theorem fdN_2 (a b c : Nat) (x : TP) : ∀ k, k ≤ 8 → fdN a b c x (8 + k) = fdW b (fdW a x 8) k
  | 0, _ => fdN_1 a b c x 8 (by decide)
  | k + 1, h => by
    rw [show 8 + (k + 1) = (8 + k) + 1 from rfl, fdN_s, fdW_s, fdN_2 a b c x k (by omega)]
    unfold fdY
    rw [if_neg (by omega), if_pos (by omega), show (8 + k) % 8 = k by omega]
theorem fdN_3 (a b c : Nat) (x : TP) : ∀ k, k ≤ 8 → fdN a b c x (16 + k) = fdW c (fdW b (fdW a x 8) 8) k
  | 0, _ => fdN_2 a b c x 8 (by decide)
  | k + 1, h => by
    rw [show 16 + (k + 1) = (16 + k) + 1 from rfl, fdN_s, fdW_s, fdN_3 a b c x k (by omega)]
    unfold fdY
    rw [if_neg (by omega), if_neg (by omega), show (16 + k) % 8 = k by omega]
def TcM (mI : Nat → Nat → Int32) (x : TP) : Prop := mI 0 1 = nI x.2 ∧ x.2 ≤ 1000 ∧ ∀ k, k < x.2 → mI 1 k = nI (x.1 k) ∧ x.1 k < 128
def s8 (k : Nat) : Int32 := nI 56 - nI (8 * k)
theorem s8_ok : ∀ k, k ≤ 8 → (s8 k < 0 ↔ k = 8) ∧ (0 ≤ s8 k ↔ k ≠ 8) ∧ s8 k + -8 = s8 (k + 1) ∧ (k < 8 → s8 k = nI (56 - 8 * k)) := by decide +kernel
theorem i8_ok : ∀ q, q < 128 → (nI q).toInt8.toInt32 = nI q := by decide +kernel
set_option maxHeartbeats 1600000 in
set_option maxRecDepth 100000 in
theorem c11_putBytes (l : Launch) (X : Cx) (d : Nat) (sh : Nat → Option Sh) (mI : Nat → Nat → Int32) (mL : Nat → Nat → Int64) (mR : Nat → Nat → Option Nat) (n : Nat) (hB : BL sh mR) (x : TP) (hx : TcM mI x) (a : Nat) (ha : a < 2 ^ 64) : Cn l X yX11_putBytes cX11_putBytes 5 none d [.ref 0, .long (lN a)] (sh, mI, mL, mR, n) (fun r M' => r = none ∧ ∃ mI', M' = (sh, mI', mL, mR, n) ∧ (∀ b k, b ≠ 1 → ¬ (b = 0 ∧ k = 1) → mI' b k = mI b k) ∧ TcM mI' (fdW a x 8)) 0 0 := by
  refine Cn.run 11 false (by decide) rfl (by decide) (by simp [entA, Value.category]) ?_
  intro P G hP hG
  have q0 := hB.1
  have b1 := hB.2.1.1
  have t1 := hB.2.1.2
  have loop : ∀ f k mI1 v4, 8 - k < f → k ≤ 8 → (∀ b k, b ≠ 1 → ¬ (b = 0 ∧ k = 1) → mI1 b k = mI b k) → TcM mI1 (fdW a x k) → G 3 [some (.ref 0), some (.long (lN a)), none, some (.int (s8 k)), v4] [] (sh, mI1, mL, mR, n) := by
    intro f
    induction f with
    | zero => intro k mI1 v4 h; omega
    | succ f ih =>
      intro k mI1 v4 hf hk g1 g2
      obtain ⟨c1, c2, c3, c4⟩ := s8_ok k hk
      by_cases h8 : k = 8
      · have q := hP none _ ⟨rfl, mI1, rfl, g1, by rw [h8] at g2; exact g2⟩
        have c1' := c1.mpr h8
        refine hG.run [7] 20 ?_
        simp [wp, stepI, ln, jmp, cmpI, Value.category, rd, tyF, va_rf, st1, st2, clr, isLg, CB, inx_0, inx_1, inx_2, inx_3, inx_4, inx_5, bI_0, bI_1, bI_ok, fin3, tyX11, entL, q0, dX11_putBytes_0, dX11_putBytes_2, dX11_putBytes_3, dX11_putBytes_4, dX11_putBytes_7, dX11_putBytes_8, dX11_putBytes_9, dX11_putBytes_10, cL_11_270, dX11_putBytes_13, dX11_putBytes_14, dX11_putBytes_15, dX11_putBytes_17, dX11_putBytes_19, dX11_putBytes_21, dX11_putBytes_24, dX11_putBytes_26, dX11_putBytes_28, dX11_putBytes_31, dX11_putBytes_33, dX11_putBytes_35, dX11_putBytes_38, dX11_putBytes_39, fT_11_82, dX11_putBytes_42, dX11_putBytes_45, dX11_putBytes_48, dX11_putBytes_49, fT_11_9, dX11_putBytes_52, dX11_putBytes_53, dX11_putBytes_56, dX11_putBytes_58, dX11_putBytes_59, dX11_putBytes_60, dX11_putBytes_61, dX11_putBytes_62, dX11_putBytes_65, dX11_putBytes_66, dX11_putBytes_67, dX11_putBytes_70, dX11_putBytes_73, dX11_putBytes_76]
        exact ⟨fun _ => q, fun z => absurd c1' (Int32.not_lt.mpr z)⟩
      · obtain ⟨q, hq⟩ : ∃ q, q = a / 2 ^ (56 - 8 * k) % 256 := ⟨_, rfl⟩
        have hql : q < 256 := by rw [hq]; exact Nat.mod_lt _ (by decide)
        have nx := ih (k + 1)
        rw [fdW_s, ← hq] at nx
        generalize fdW a x k = y at g2 nx
        obtain ⟨u1, u2, u3⟩ := g2
        have last : ∀ mI2, G 3 [some (.ref 0), some (.long (lN a)), none, some (.int (s8 (k + 1))), some (.int (nI q))] [] (sh, mI2, mL, mR, n) → G 70 [some (.ref 0), some (.long (lN a)), none, some (.int (s8 k)), some (.int (nI q))] [] (sh, mI2, mL, mR, n) := fun mI2 z => by
          rw [← c3] at z
          refine hG.run [3] 20 ?_
          simp [wp, stepI, ln, jmp, cmpI, Value.category, rd, tyF, va_rf, st1, st2, clr, isLg, CB, inx_0, inx_1, inx_2, inx_3, inx_4, inx_5, bI_0, bI_1, bI_ok, fin3, tyX11, entL, q0, dX11_putBytes_0, dX11_putBytes_2, dX11_putBytes_3, dX11_putBytes_4, dX11_putBytes_7, dX11_putBytes_8, dX11_putBytes_9, dX11_putBytes_10, cL_11_270, dX11_putBytes_13, dX11_putBytes_14, dX11_putBytes_15, dX11_putBytes_17, dX11_putBytes_19, dX11_putBytes_21, dX11_putBytes_24, dX11_putBytes_26, dX11_putBytes_28, dX11_putBytes_31, dX11_putBytes_33, dX11_putBytes_35, dX11_putBytes_38, dX11_putBytes_39, fT_11_82, dX11_putBytes_42, dX11_putBytes_45, dX11_putBytes_48, dX11_putBytes_49, fT_11_9, dX11_putBytes_52, dX11_putBytes_53, dX11_putBytes_56, dX11_putBytes_58, dX11_putBytes_59, dX11_putBytes_60, dX11_putBytes_61, dX11_putBytes_62, dX11_putBytes_65, dX11_putBytes_66, dX11_putBytes_67, dX11_putBytes_70, dX11_putBytes_73, dX11_putBytes_76]
          exact z
        have no : ¬ (y.2 < 1000 ∧ (q = 10 ∨ (32 ≤ q ∧ q ≤ 126))) → G 70 [some (.ref 0), some (.long (lN a)), none, some (.int (s8 k)), some (.int (nI q))] [] (sh, mI1, mL, mR, n) := fun z => by
          have := nx mI1 (some (.int (nI q))) (by omega) (by omega) g1
          unfold fdS at this
          rw [if_neg z] at this
          exact last _ (this ⟨u1, u2, u3⟩)
        have yes : y.2 < 1000 → (q = 10 ∨ (32 ≤ q ∧ q ≤ 126)) → G 48 [some (.ref 0), some (.long (lN a)), none, some (.int (s8 k)), some (.int (nI q))] [] (sh, mI1, mL, mR, n) := fun z z2 => by
          have := nx (up2 (up2 mI1 1 y.2 (nI q)) 0 1 (nI (y.2 + 1))) (some (.int (nI q))) (by omega) (by omega) (fun b k h1 h2 => (up2_ne h2).trans ((up2_ne (fun w => h1 w.1)).trans (g1 b k h1 h2)))
          unfold fdS at this
          rw [if_pos ⟨z, z2⟩] at this
          have := this ⟨up2_eq _ _ _ _, by show y.2 + 1 ≤ 1000; omega, fun j hj => by
            rw [up2_ne (fun w => by cases w.1)]
            by_cases e : j = y.2
            · rw [e, up2_eq]
              show nI q = nI (upN y.1 y.2 q y.2) ∧ upN y.1 y.2 q y.2 < 128
              rw [upN_eq]
              exact ⟨rfl, by omega⟩
            · have hj' : j < y.2 + 1 := hj
              rw [up2_ne (fun w => e w.2)]
              show mI1 1 j = nI (upN y.1 y.2 q j) ∧ upN y.1 y.2 q j < 128
              rw [upN_ne e]
              exact u3 j (by omega)⟩
          have := last _ this
          have i8 := i8_ok q (by omega)
          refine hG.run [70] 30 ?_
          simp [wp, stepI, ln, jmp, cmpI, Value.category, rd, tyF, va_rf, st1, st2, clr, isLg, CB, inx_0, inx_1, inx_2, inx_3, inx_4, inx_5, bI_0, bI_1, bI_ok, fin3, tyX11, entL, q0, b1, t1, i8, okv, wr, finF, clT, TX11, dX11_putBytes_0, dX11_putBytes_2, dX11_putBytes_3, dX11_putBytes_4, dX11_putBytes_7, dX11_putBytes_8, dX11_putBytes_9, dX11_putBytes_10, cL_11_270, dX11_putBytes_13, dX11_putBytes_14, dX11_putBytes_15, dX11_putBytes_17, dX11_putBytes_19, dX11_putBytes_21, dX11_putBytes_24, dX11_putBytes_26, dX11_putBytes_28, dX11_putBytes_31, dX11_putBytes_33, dX11_putBytes_35, dX11_putBytes_38, dX11_putBytes_39, fT_11_82, dX11_putBytes_42, dX11_putBytes_45, dX11_putBytes_48, dX11_putBytes_49, fT_11_9, dX11_putBytes_52, dX11_putBytes_53, dX11_putBytes_56, dX11_putBytes_58, dX11_putBytes_59, dX11_putBytes_60, dX11_putBytes_61, dX11_putBytes_62, dX11_putBytes_65, dX11_putBytes_66, dX11_putBytes_67, dX11_putBytes_70, dX11_putBytes_73, dX11_putBytes_76]
          simp (disch := omega) only [li, nI_add, nI_clamp, nI_ltI, nI_leI, nI_eq, inx_iff, a31, nI_1shl', nI_shr', div_bit, tb1, tb0, fa_or, fa_and, nI_not, pk_sub, nI_dec, u1, up2_eq, up2_ne]
          exact ⟨by omega, this⟩
        have mid : y.2 ≤ 1000 → (q = 10 ∨ (32 ≤ q ∧ q ≤ 126)) → G 38 [some (.ref 0), some (.long (lN a)), none, some (.int (s8 k)), some (.int (nI q))] [] (sh, mI1, mL, mR, n) := fun _ z2 => by
          refine hG.run [48, 70] 30 ?_
          simp [wp, stepI, ln, jmp, cmpI, Value.category, rd, tyF, va_rf, st1, st2, clr, isLg, CB, inx_0, inx_1, inx_2, inx_3, inx_4, inx_5, bI_0, bI_1, bI_ok, fin3, tyX11, entL, q0, dX11_putBytes_0, dX11_putBytes_2, dX11_putBytes_3, dX11_putBytes_4, dX11_putBytes_7, dX11_putBytes_8, dX11_putBytes_9, dX11_putBytes_10, cL_11_270, dX11_putBytes_13, dX11_putBytes_14, dX11_putBytes_15, dX11_putBytes_17, dX11_putBytes_19, dX11_putBytes_21, dX11_putBytes_24, dX11_putBytes_26, dX11_putBytes_28, dX11_putBytes_31, dX11_putBytes_33, dX11_putBytes_35, dX11_putBytes_38, dX11_putBytes_39, fT_11_82, dX11_putBytes_42, dX11_putBytes_45, dX11_putBytes_48, dX11_putBytes_49, fT_11_9, dX11_putBytes_52, dX11_putBytes_53, dX11_putBytes_56, dX11_putBytes_58, dX11_putBytes_59, dX11_putBytes_60, dX11_putBytes_61, dX11_putBytes_62, dX11_putBytes_65, dX11_putBytes_66, dX11_putBytes_67, dX11_putBytes_70, dX11_putBytes_73, dX11_putBytes_76]
          simp (disch := omega) only [li, nI_add, nI_clamp, nI_ltI, nI_leI, nI_eq, inx_iff, a31, nI_1shl', nI_shr', div_bit, tb1, tb0, fa_or, fa_and, nI_not, pk_sub, nI_dec, u1]
          exact ⟨fun z => no (fun w => by omega), fun z => yes (by omega) z2⟩
        have g17 : G 17 [some (.ref 0), some (.long (lN a)), none, some (.int (s8 k)), some (.int (nI q))] [] (sh, mI1, mL, mR, n) := by
          refine hG.run [38, 70] 30 ?_
          simp [wp, stepI, ln, jmp, cmpI, Value.category, rd, tyF, va_rf, st1, st2, clr, isLg, CB, inx_0, inx_1, inx_2, inx_3, inx_4, inx_5, bI_0, bI_1, bI_ok, fin3, tyX11, entL, q0, dX11_putBytes_0, dX11_putBytes_2, dX11_putBytes_3, dX11_putBytes_4, dX11_putBytes_7, dX11_putBytes_8, dX11_putBytes_9, dX11_putBytes_10, cL_11_270, dX11_putBytes_13, dX11_putBytes_14, dX11_putBytes_15, dX11_putBytes_17, dX11_putBytes_19, dX11_putBytes_21, dX11_putBytes_24, dX11_putBytes_26, dX11_putBytes_28, dX11_putBytes_31, dX11_putBytes_33, dX11_putBytes_35, dX11_putBytes_38, dX11_putBytes_39, fT_11_82, dX11_putBytes_42, dX11_putBytes_45, dX11_putBytes_48, dX11_putBytes_49, fT_11_9, dX11_putBytes_52, dX11_putBytes_53, dX11_putBytes_56, dX11_putBytes_58, dX11_putBytes_59, dX11_putBytes_60, dX11_putBytes_61, dX11_putBytes_62, dX11_putBytes_65, dX11_putBytes_66, dX11_putBytes_67, dX11_putBytes_70, dX11_putBytes_73, dX11_putBytes_76]
          simp (disch := omega) only [li, nI_add, nI_clamp, nI_ltI, nI_leI, nI_eq, inx_iff, a31, nI_1shl', nI_shr', div_bit, tb1, tb0, fa_or, fa_and, nI_not, pk_sub, nI_dec]
          exact ⟨fun z => mid u2 (Or.inl z), fun z => ⟨fun z2 => no (fun w => by omega), fun z2 => ⟨fun z3 => no (fun w => by omega), fun z3 => mid u2 (Or.inr ⟨z2, z3⟩)⟩⟩⟩
        have byte : ((lN a).toUInt64 >>> ((s8 k).toInt64.toUInt64 &&& Int64.toUInt64 63)).toInt64.toInt32 &&& (lN 255).toInt32 = nI q := by
          rw [c4 (by omega), wb_shr ha (by omega), lN_i, lN_i, show nI 255 = nI (2 ^ 8 - 1) from rfl, fa_mask, hq]
        have c1' : ¬ s8 k < 0 := fun z => h8 (c1.mp z)
        refine hG.run [17] 30 ?_
        simp [wp, stepI, ln, jmp, cmpI, Value.category, rd, tyF, va_rf, st1, st2, clr, isLg, CB, inx_0, inx_1, inx_2, inx_3, inx_4, inx_5, bI_0, bI_1, bI_ok, fin3, tyX11, entL, q0, liL, dX11_putBytes_0, dX11_putBytes_2, dX11_putBytes_3, dX11_putBytes_4, dX11_putBytes_7, dX11_putBytes_8, dX11_putBytes_9, dX11_putBytes_10, cL_11_270, dX11_putBytes_13, dX11_putBytes_14, dX11_putBytes_15, dX11_putBytes_17, dX11_putBytes_19, dX11_putBytes_21, dX11_putBytes_24, dX11_putBytes_26, dX11_putBytes_28, dX11_putBytes_31, dX11_putBytes_33, dX11_putBytes_35, dX11_putBytes_38, dX11_putBytes_39, fT_11_82, dX11_putBytes_42, dX11_putBytes_45, dX11_putBytes_48, dX11_putBytes_49, fT_11_9, dX11_putBytes_52, dX11_putBytes_53, dX11_putBytes_56, dX11_putBytes_58, dX11_putBytes_59, dX11_putBytes_60, dX11_putBytes_61, dX11_putBytes_62, dX11_putBytes_65, dX11_putBytes_66, dX11_putBytes_67, dX11_putBytes_70, dX11_putBytes_73, dX11_putBytes_76]
        refine ⟨fun z => absurd z c1', fun _ => ?_⟩
        rw [show lN 63 = 63 from rfl, byte]
        exact g17
  have := loop 9 0 mI none (by decide) (by decide) (fun _ _ _ _ => rfl) hx
  refine hG.run [3] 20 ?_
  simp [wp, stepI, ln, jmp, cmpI, Value.category, rd, tyF, va_rf, st1, st2, clr, isLg, CB, inx_0, inx_1, inx_2, inx_3, inx_4, inx_5, bI_0, bI_1, bI_ok, fin3, tyX11, entL, q0, dX11_putBytes_0, dX11_putBytes_2, dX11_putBytes_3, dX11_putBytes_4, dX11_putBytes_7, dX11_putBytes_8, dX11_putBytes_9, dX11_putBytes_10, cL_11_270, dX11_putBytes_13, dX11_putBytes_14, dX11_putBytes_15, dX11_putBytes_17, dX11_putBytes_19, dX11_putBytes_21, dX11_putBytes_24, dX11_putBytes_26, dX11_putBytes_28, dX11_putBytes_31, dX11_putBytes_33, dX11_putBytes_35, dX11_putBytes_38, dX11_putBytes_39, fT_11_82, dX11_putBytes_42, dX11_putBytes_45, dX11_putBytes_48, dX11_putBytes_49, fT_11_9, dX11_putBytes_52, dX11_putBytes_53, dX11_putBytes_56, dX11_putBytes_58, dX11_putBytes_59, dX11_putBytes_60, dX11_putBytes_61, dX11_putBytes_62, dX11_putBytes_65, dX11_putBytes_66, dX11_putBytes_67, dX11_putBytes_70, dX11_putBytes_73, dX11_putBytes_76]
  exact this
set_option maxHeartbeats 800000 in
set_option maxRecDepth 100000 in
theorem c11_feed (l : Launch) (X : Cx) (d : Nat) (sh : Nat → Option Sh) (mI : Nat → Nat → Int32) (mL : Nat → Nat → Int64) (mR : Nat → Nat → Option Nat) (n : Nat) (hB : BL sh mR) (x : TP) (hx : TcM mI x) (a b c : Nat) (ha : a < 2 ^ 64) (hb : b < 2 ^ 64) (hc : c < 2 ^ 64) (hd : 1 ≤ d) : Cn l X yX11_feed cX11_feed 7 (some .int) d [.ref 0, .long (lN a), .long (lN b), .long (lN c)] (sh, mI, mL, mR, n) (fun r M' => r = some (.int (nI (fdN a b c x 24).2)) ∧ ∃ mI', M' = (sh, mI', mL, mR, n) ∧ (∀ b k, b ≠ 1 → ¬ (b = 0 ∧ k = 1) → mI' b k = mI b k) ∧ TcM mI' (fdN a b c x 24)) 0 0 := by
  rw [show fdN a b c x 24 = _ from fdN_3 a b c x 8 (by decide)]
  refine Cn.run 11 false (by decide) rfl (by decide) (by simp [entA, Value.category]) ?_
  intro P G hP hG
  have q0 := hB.1
  refine hG.run [] 20 ?_
  simp [wp, stepI, ln, jmp, cmpI, Value.category, rd, tyF, va_rf, st1, st2, clr, isLg, CB, inx_0, inx_1, inx_2, inx_3, inx_4, inx_5, bI_0, bI_1, bI_ok, fin3, tyX11, entL, q0, dX11_feed_0, dX11_feed_1, dX11_feed_2, dX11_feed_5, dX11_feed_6, dX11_feed_7, dX11_feed_10, dX11_feed_11, dX11_feed_13, dX11_feed_16, dX11_feed_17, fT_11_82, dX11_feed_20]
  refine hG.callV dX11_feed_2 mv_11_78 [.long (lN a)] [] (c11_putBytes l X (d - 1) sh mI mL mR n hB x hx a ha) ⟨_, rfl, rfl⟩ q0 (by omega) rfl (by decide) (by simp [Value.category]) rfl ?_
  rintro r M' ⟨rfl, mI1, rfl, f1, T1⟩
  refine hG.run [] 20 ?_
  simp [wp, stepI, ln, jmp, cmpI, Value.category, rd, tyF, va_rf, st1, st2, clr, isLg, CB, inx_0, inx_1, inx_2, inx_3, inx_4, inx_5, bI_0, bI_1, bI_ok, fin3, tyX11, entL, q0, dX11_feed_0, dX11_feed_1, dX11_feed_2, dX11_feed_5, dX11_feed_6, dX11_feed_7, dX11_feed_10, dX11_feed_11, dX11_feed_13, dX11_feed_16, dX11_feed_17, fT_11_82, dX11_feed_20]
  refine hG.callV dX11_feed_7 mv_11_78 [.long (lN b)] [] (c11_putBytes l X (d - 1) sh mI1 mL mR n hB _ T1 b hb) ⟨_, rfl, rfl⟩ q0 (by omega) rfl (by decide) (by simp [Value.category]) rfl ?_
  rintro r M' ⟨rfl, mI2, rfl, f2, T2⟩
  refine hG.run [] 20 ?_
  simp [wp, stepI, ln, jmp, cmpI, Value.category, rd, tyF, va_rf, st1, st2, clr, isLg, CB, inx_0, inx_1, inx_2, inx_3, inx_4, inx_5, bI_0, bI_1, bI_ok, fin3, tyX11, entL, q0, dX11_feed_0, dX11_feed_1, dX11_feed_2, dX11_feed_5, dX11_feed_6, dX11_feed_7, dX11_feed_10, dX11_feed_11, dX11_feed_13, dX11_feed_16, dX11_feed_17, fT_11_82, dX11_feed_20]
  refine hG.callV dX11_feed_13 mv_11_78 [.long (lN c)] [] (c11_putBytes l X (d - 1) sh mI2 mL mR n hB _ T2 c hc) ⟨_, rfl, rfl⟩ q0 (by omega) rfl (by decide) (by simp [Value.category]) rfl ?_
  rintro r M' ⟨rfl, mI3, rfl, f3, T3⟩
  have q := hP _ _ ⟨rfl, mI3, rfl, fun b k h1 h2 => (f3 b k h1 h2).trans ((f2 b k h1 h2).trans (f1 b k h1 h2)), T3⟩
  rw [← T3.1] at q
  refine hG.run [] 20 ?_
  simp [wp, stepI, ln, jmp, cmpI, Value.category, rd, tyF, va_rf, st1, st2, clr, isLg, CB, inx_0, inx_1, inx_2, inx_3, inx_4, inx_5, bI_0, bI_1, bI_ok, fin3, tyX11, entL, q0, dX11_feed_0, dX11_feed_1, dX11_feed_2, dX11_feed_5, dX11_feed_6, dX11_feed_7, dX11_feed_10, dX11_feed_11, dX11_feed_13, dX11_feed_16, dX11_feed_17, fT_11_82, dX11_feed_20]
  exact q
