/-! pairs at rest, kept one after the other -/
theorem or_pk {x y k : Nat} (h : x < 16 ^ k) : x ||| y * 16 ^ k = x + y * 16 ^ k := by
  have e : y * 16 ^ k = 2 ^ (4 * k) * y := by rw [p16, Nat.mul_comm]
  rw [e, Nat.or_comm, ← Nat.two_pow_add_eq_or_of_lt (by rw [p16]; exact h), Nat.add_comm]
theorem atR_cls {np : Nat} {w : Nat → Nat} {V : Nat → Nat → Int32} : atRB np w V = true ↔ ∀ a b, a < np → b < np → a < b → ¬ (V a (w a) < V a b ∧ V b (w b) < V b a) := by
  unfold atRB
  rw [@decide_eq_true_iff _ (Classical.propDecidable _)]
  unfold atR blk
  constructor
  · intro h a b ha hb hab z
    refine h a b ha hb hab ⟨fun e => ?_, z⟩
    rw [e] at z
    exact Int32.lt_irrefl z.1
  · exact fun h a b ha hb hab z => h a b ha hb hab z.2
/-- found and kept -/
def KpM (mI : Nat → Nat → Int32) (mL : Nat → Nat → Int64) (W : Nat) (s : Nat × (Nat → Nat)) : Prop := mI W 6 = nI s.1 ∧ s.1 ≤ 105 ∧ ∀ k, k < s.1 → mL (W + 4) k = lN (s.2 k)
noncomputable def kpS (np : Nat) (V : Nat → Nat → Int32) (w : Nat → Nat) (s : Nat × (Nat → Nat)) : Nat × (Nat → Nat) := if atRB np w V then (s.1 + 1, upN s.2 s.1 (pk16 w np)) else s
set_option maxHeartbeats 4000000 in
set_option maxRecDepth 100000 in
theorem c9_keepIfAtRest (l : Launch) (X : Cx) (d : Nat) (sh : Nat → Option Sh) (mI : Nat → Nat → Int32) (mL : Nat → Nat → Int64) (mR : Nat → Nat → Option Nat) (n : Nat) (W : Nat) (hO : OL sh mR W 9 ob9) (np : Nat) (V : Nat → Nat → Int32) (hM : WiM mI W np V) (w : Nat → Nat) (hw : ∀ p, p < np → mI (W + 3) p = nI (w p) ∧ w p < np) (s : Nat × (Nat → Nat)) (hs : KpM mI mL W s) (hsl : s.1 < 105) (hd : 1 ≤ d) : Cn l X yX9_keepIfAtRest cX9_keepIfAtRest 5 none d [.ref W] (sh, mI, mL, mR, n) (fun r M' => r = none ∧ ∃ mI' mL', M' = (sh, mI', mL', mR, n) ∧ (∀ a k, ¬ (a = W ∧ k = 6) → mI' a k = mI a k) ∧ (∀ a k, a ≠ W + 4 → mL' a k = mL a k) ∧ KpM mI' mL' W (kpS np V w s)) 0 0 := by
  refine Cn.run 9 false (by decide) rfl (by decide) (by simp [entA, Value.category]) ?_
  intro P G hP hG
  have q0 := hO.1
  have q_mate := hO.2.2 (2, 3, .int, 8) (by decide)
  dsimp only at q_mate
  have q_kept := hO.2.2 (3, 4, .long, 105) (by decide)
  dsimp only at q_kept
  have hSl := hO.2.1
  have xW : W < 1000000000 := by omega
  have x4 : W + 4 < 1000000000 := by omega
  have x421 : ¬ W + 4 = 1000000021 := by omega
  have hM0 := hM
  obtain ⟨h1, h2, h3⟩ := hM
  have wl : ∀ p, p < np → w p < 16 := fun p hp => by have := (hw p hp).2; omega
  have no : (¬ atRB np w V = true) → P none (sh, mI, mL, mR, n) := fun h => hP _ _ ⟨rfl, mI, mL, rfl, fun _ _ _ => rfl, fun _ _ _ => rfl, by unfold kpS; rw [if_neg h]; exact hs⟩
  have last : atRB np w V = true → ∀ v3 v4, G 73 [some (.ref W), some (.long (lN (pk16 w np))), none, v3, v4] [] (sh, mI, mL, mR, n) := fun h v3 v4 => by
    obtain ⟨s1, s2, s3⟩ := hs
    have i105 : Int32.ofNat 105 = nI 105 := rfl
    refine hG.run [] 60 ?_
    simp [wp, stepI, ln, jmp, cmpI, Value.category, rd, tyF, va_rf, st1, st2, clr, isLg, CB, inx_0, inx_1, inx_2, inx_3, inx_4, inx_5, bI_0, bI_1, bI_ok, fin3, tyX9, entL, q0, q_kept, x4, x421, okT, okv, wr, finF, clT, TX9, xW, dX9_keepIfAtRest_0, dX9_keepIfAtRest_1, dX9_keepIfAtRest_2, dX9_keepIfAtRest_3, dX9_keepIfAtRest_4, dX9_keepIfAtRest_5, dX9_keepIfAtRest_6, fT_9_41, dX9_keepIfAtRest_9, dX9_keepIfAtRest_12, dX9_keepIfAtRest_13, dX9_keepIfAtRest_14, dX9_keepIfAtRest_15, dX9_keepIfAtRest_17, dX9_keepIfAtRest_19, dX9_keepIfAtRest_20, dX9_keepIfAtRest_23, dX9_keepIfAtRest_26, dX9_keepIfAtRest_27, dX9_keepIfAtRest_28, dX9_keepIfAtRest_30, dX9_keepIfAtRest_33, dX9_keepIfAtRest_36, dX9_keepIfAtRest_37, dX9_keepIfAtRest_39, dX9_keepIfAtRest_40, dX9_keepIfAtRest_43, dX9_keepIfAtRest_46, dX9_keepIfAtRest_47, dX9_keepIfAtRest_50, dX9_keepIfAtRest_53, dX9_keepIfAtRest_54, dX9_keepIfAtRest_55, fT_9_18, dX9_keepIfAtRest_58, dX9_keepIfAtRest_59, dX9_keepIfAtRest_60, dX9_keepIfAtRest_61, dX9_keepIfAtRest_62, dX9_keepIfAtRest_63, dX9_keepIfAtRest_64, dX9_keepIfAtRest_65, dX9_keepIfAtRest_66, dX9_keepIfAtRest_67, dX9_keepIfAtRest_70, dX9_keepIfAtRest_73, dX9_keepIfAtRest_74, fT_9_52, dX9_keepIfAtRest_77, dX9_keepIfAtRest_78, fT_9_21, dX9_keepIfAtRest_81, dX9_keepIfAtRest_82, dX9_keepIfAtRest_85, dX9_keepIfAtRest_86, dX9_keepIfAtRest_89, dX9_keepIfAtRest_90, dX9_keepIfAtRest_93, dX9_keepIfAtRest_94, dX9_keepIfAtRest_95, dX9_keepIfAtRest_96, dX9_keepIfAtRest_97, dX9_keepIfAtRest_100, dX9_keepIfAtRest_101, dX9_keepIfAtRest_102, dX9_keepIfAtRest_105]
    simp (disch := omega) only [li, nI_add, nI_clamp, nI_ltI, nI_leI, nI_eq, inx_iff, a31, nI_1shl', nI_shr', div_bit, tb1, tb0, fa_or, fa_and, nI_not, pk_sub, nI_dec, i105, s1]
    refine ⟨fun z => by omega, fun _ => ⟨by omega, hP _ _ ⟨rfl, _, _, rfl, fun a k hh => up2_ne hh, fun a k ha => up2_ne (fun y => ha y.1), ?_⟩⟩⟩
    unfold kpS
    rw [if_pos h]
    refine ⟨up2_eq _ _ _ _, by show s.1 + 1 ≤ 105; omega, fun k hk => ?_⟩
    have hk' : k < s.1 + 1 := hk
    show up2 mL (W + 4) s.1 (lN (pk16 w np)) (W + 4) k = lN (upN s.2 s.1 (pk16 w np) k)
    by_cases e : k = s.1
    · rw [e, up2_eq, upN_eq]
    · rw [up2_ne (fun y => e y.2), upN_ne e]; exact s3 k (by omega)
  have loop1 : ∀ f a v4, np - a < f → a ≤ np → (∀ x y, x < a → y < np → x < y → ¬ (V x (w x) < V x y ∧ V y (w y) < V y x)) → G 4 [some (.ref W), some (.long (lN (pk16 w a))), none, some (.int (nI a)), v4] [] (sh, mI, mL, mR, n) := by
    intro f
    induction f with
    | zero => intro a v4 h; omega
    | succ f ih =>
      intro a v4 hf ha hno
      have nx1 := ih (a + 1)
      rw [pk16_s] at nx1
      clear ih
      by_cases han : a < np
      · have g53 : ∀ v4, (∀ y, y < np → a < y → ¬ (V a (w a) < V a y ∧ V y (w y) < V y a)) → G 53 [some (.ref W), some (.long (lN (pk16 w a))), none, some (.int (nI a)), v4] [] (sh, mI, mL, mR, n) := fun v4 hy => by
          have pl := pk16_lt a (fun p hp => wl p (by omega))
          obtain ⟨m1, m2⟩ := hw a han
          have e1 : lN (w a) <<< ((nI (4 * a)).toInt64 &&& lN 63) = lN (w a * 16 ^ a) := by
            rw [show lN 63 = (63 : Int64) from rfl, wb_shl (w a) (by omega), p16]
          rw [nI_l (by omega)] at e1
          refine hG.run [4] 60 ?_
          simp [wp, stepI, ln, jmp, cmpI, Value.category, rd, tyF, va_rf, st1, st2, clr, isLg, CB, inx_0, inx_1, inx_2, inx_3, inx_4, inx_5, bI_0, bI_1, bI_ok, fin3, tyX9, entL, q0, q_mate, dX9_keepIfAtRest_0, dX9_keepIfAtRest_1, dX9_keepIfAtRest_2, dX9_keepIfAtRest_3, dX9_keepIfAtRest_4, dX9_keepIfAtRest_5, dX9_keepIfAtRest_6, fT_9_41, dX9_keepIfAtRest_9, dX9_keepIfAtRest_12, dX9_keepIfAtRest_13, dX9_keepIfAtRest_14, dX9_keepIfAtRest_15, dX9_keepIfAtRest_17, dX9_keepIfAtRest_19, dX9_keepIfAtRest_20, dX9_keepIfAtRest_23, dX9_keepIfAtRest_26, dX9_keepIfAtRest_27, dX9_keepIfAtRest_28, dX9_keepIfAtRest_30, dX9_keepIfAtRest_33, dX9_keepIfAtRest_36, dX9_keepIfAtRest_37, dX9_keepIfAtRest_39, dX9_keepIfAtRest_40, dX9_keepIfAtRest_43, dX9_keepIfAtRest_46, dX9_keepIfAtRest_47, dX9_keepIfAtRest_50, dX9_keepIfAtRest_53, dX9_keepIfAtRest_54, dX9_keepIfAtRest_55, fT_9_18, dX9_keepIfAtRest_58, dX9_keepIfAtRest_59, dX9_keepIfAtRest_60, dX9_keepIfAtRest_61, dX9_keepIfAtRest_62, dX9_keepIfAtRest_63, dX9_keepIfAtRest_64, dX9_keepIfAtRest_65, dX9_keepIfAtRest_66, dX9_keepIfAtRest_67, dX9_keepIfAtRest_70, dX9_keepIfAtRest_73, dX9_keepIfAtRest_74, fT_9_52, dX9_keepIfAtRest_77, dX9_keepIfAtRest_78, fT_9_21, dX9_keepIfAtRest_81, dX9_keepIfAtRest_82, dX9_keepIfAtRest_85, dX9_keepIfAtRest_86, dX9_keepIfAtRest_89, dX9_keepIfAtRest_90, dX9_keepIfAtRest_93, dX9_keepIfAtRest_94, dX9_keepIfAtRest_95, dX9_keepIfAtRest_96, dX9_keepIfAtRest_97, dX9_keepIfAtRest_100, dX9_keepIfAtRest_101, dX9_keepIfAtRest_102, dX9_keepIfAtRest_105]
          simp (disch := omega) only [li, nI_add, nI_clamp, nI_ltI, nI_leI, nI_eq, inx_iff, a31, nI_1shl', nI_shr', div_bit, tb1, tb0, fa_or, fa_and, nI_not, pk_sub, nI_dec, nI_mul, liL, m1, nI_l, e1, fb_orL, or_pk pl]
          refine ⟨by omega, nx1 _ (by omega) (by omega) (fun x y hx hyn hxy => ?_)⟩
          by_cases e : x = a
          · rw [e]; exact hy y hyn (by omega)
          · exact hno x y (by omega) hyn hxy
        have loop2 : ∀ f2 b, np - b < f2 → a < b → b ≤ np → (∀ y, y < b → a < y → ¬ (V a (w a) < V a y ∧ V y (w y) < V y a)) → G 17 [some (.ref W), some (.long (lN (pk16 w a))), none, some (.int (nI a)), some (.int (nI b))] [] (sh, mI, mL, mR, n) := by
          intro f2
          induction f2 with
          | zero => intro b h; omega
          | succ f2 ih2 =>
            intro b hf2 hab hb hy
            have g47 : b < np → ¬ (V a (w a) < V a b ∧ V b (w b) < V b a) → G 47 [some (.ref W), some (.long (lN (pk16 w a))), none, some (.int (nI a)), some (.int (nI b))] [] (sh, mI, mL, mR, n) := fun hbn hn => by
              refine hG.run [17] 60 ?_
              simp [wp, stepI, ln, jmp, cmpI, Value.category, rd, tyF, va_rf, st1, st2, clr, isLg, CB, inx_0, inx_1, inx_2, inx_3, inx_4, inx_5, bI_0, bI_1, bI_ok, fin3, tyX9, entL, q0, dX9_keepIfAtRest_0, dX9_keepIfAtRest_1, dX9_keepIfAtRest_2, dX9_keepIfAtRest_3, dX9_keepIfAtRest_4, dX9_keepIfAtRest_5, dX9_keepIfAtRest_6, fT_9_41, dX9_keepIfAtRest_9, dX9_keepIfAtRest_12, dX9_keepIfAtRest_13, dX9_keepIfAtRest_14, dX9_keepIfAtRest_15, dX9_keepIfAtRest_17, dX9_keepIfAtRest_19, dX9_keepIfAtRest_20, dX9_keepIfAtRest_23, dX9_keepIfAtRest_26, dX9_keepIfAtRest_27, dX9_keepIfAtRest_28, dX9_keepIfAtRest_30, dX9_keepIfAtRest_33, dX9_keepIfAtRest_36, dX9_keepIfAtRest_37, dX9_keepIfAtRest_39, dX9_keepIfAtRest_40, dX9_keepIfAtRest_43, dX9_keepIfAtRest_46, dX9_keepIfAtRest_47, dX9_keepIfAtRest_50, dX9_keepIfAtRest_53, dX9_keepIfAtRest_54, dX9_keepIfAtRest_55, fT_9_18, dX9_keepIfAtRest_58, dX9_keepIfAtRest_59, dX9_keepIfAtRest_60, dX9_keepIfAtRest_61, dX9_keepIfAtRest_62, dX9_keepIfAtRest_63, dX9_keepIfAtRest_64, dX9_keepIfAtRest_65, dX9_keepIfAtRest_66, dX9_keepIfAtRest_67, dX9_keepIfAtRest_70, dX9_keepIfAtRest_73, dX9_keepIfAtRest_74, fT_9_52, dX9_keepIfAtRest_77, dX9_keepIfAtRest_78, fT_9_21, dX9_keepIfAtRest_81, dX9_keepIfAtRest_82, dX9_keepIfAtRest_85, dX9_keepIfAtRest_86, dX9_keepIfAtRest_89, dX9_keepIfAtRest_90, dX9_keepIfAtRest_93, dX9_keepIfAtRest_94, dX9_keepIfAtRest_95, dX9_keepIfAtRest_96, dX9_keepIfAtRest_97, dX9_keepIfAtRest_100, dX9_keepIfAtRest_101, dX9_keepIfAtRest_102, dX9_keepIfAtRest_105]
              simp (disch := omega) only [li, nI_add, nI_clamp, nI_ltI, nI_leI, nI_eq, inx_iff, a31, nI_1shl', nI_shr', div_bit, tb1, tb0, fa_or, fa_and, nI_not, pk_sub, nI_dec]
              refine ih2 (b + 1) (by omega) (by omega) (by omega) (fun y h1 h2 => ?_)
              by_cases e : y = b
              · rw [e]; exact hn
              · exact hy y (by omega) h2
            refine hG.run [53] 60 ?_
            simp [wp, stepI, ln, jmp, cmpI, Value.category, rd, tyF, va_rf, st1, st2, clr, isLg, CB, inx_0, inx_1, inx_2, inx_3, inx_4, inx_5, bI_0, bI_1, bI_ok, fin3, tyX9, entL, q0, dX9_keepIfAtRest_0, dX9_keepIfAtRest_1, dX9_keepIfAtRest_2, dX9_keepIfAtRest_3, dX9_keepIfAtRest_4, dX9_keepIfAtRest_5, dX9_keepIfAtRest_6, fT_9_41, dX9_keepIfAtRest_9, dX9_keepIfAtRest_12, dX9_keepIfAtRest_13, dX9_keepIfAtRest_14, dX9_keepIfAtRest_15, dX9_keepIfAtRest_17, dX9_keepIfAtRest_19, dX9_keepIfAtRest_20, dX9_keepIfAtRest_23, dX9_keepIfAtRest_26, dX9_keepIfAtRest_27, dX9_keepIfAtRest_28, dX9_keepIfAtRest_30, dX9_keepIfAtRest_33, dX9_keepIfAtRest_36, dX9_keepIfAtRest_37, dX9_keepIfAtRest_39, dX9_keepIfAtRest_40, dX9_keepIfAtRest_43, dX9_keepIfAtRest_46, dX9_keepIfAtRest_47, dX9_keepIfAtRest_50, dX9_keepIfAtRest_53, dX9_keepIfAtRest_54, dX9_keepIfAtRest_55, fT_9_18, dX9_keepIfAtRest_58, dX9_keepIfAtRest_59, dX9_keepIfAtRest_60, dX9_keepIfAtRest_61, dX9_keepIfAtRest_62, dX9_keepIfAtRest_63, dX9_keepIfAtRest_64, dX9_keepIfAtRest_65, dX9_keepIfAtRest_66, dX9_keepIfAtRest_67, dX9_keepIfAtRest_70, dX9_keepIfAtRest_73, dX9_keepIfAtRest_74, fT_9_52, dX9_keepIfAtRest_77, dX9_keepIfAtRest_78, fT_9_21, dX9_keepIfAtRest_81, dX9_keepIfAtRest_82, dX9_keepIfAtRest_85, dX9_keepIfAtRest_86, dX9_keepIfAtRest_89, dX9_keepIfAtRest_90, dX9_keepIfAtRest_93, dX9_keepIfAtRest_94, dX9_keepIfAtRest_95, dX9_keepIfAtRest_96, dX9_keepIfAtRest_97, dX9_keepIfAtRest_100, dX9_keepIfAtRest_101, dX9_keepIfAtRest_102, dX9_keepIfAtRest_105]
            simp (disch := omega) only [li, nI_add, nI_clamp, nI_ltI, nI_leI, nI_eq, inx_iff, a31, nI_1shl', nI_shr', div_bit, tb1, tb0, fa_or, fa_and, nI_not, pk_sub, nI_dec, h1]
            refine ⟨fun z => g53 _ (fun y h1 h2 => hy y (by omega) h2), fun z => ?_⟩
            refine hG.callV dX9_keepIfAtRest_30 mv_9_102 [.int (nI a), .int (nI b)] [] (c9_wouldRather l X (d - 1) sh mI mL mR n W hO np V hM0 w a b han z (hw a han)) ⟨_, rfl, rfl⟩ q0 (by omega) rfl (by decide) (by simp [Value.category]) rfl ?_
            rintro r M' ⟨rfl, rfl⟩
            refine hG.run [47] 60 ?_
            simp [wp, stepI, ln, jmp, cmpI, Value.category, rd, tyF, va_rf, st1, st2, clr, isLg, CB, inx_0, inx_1, inx_2, inx_3, inx_4, inx_5, bI_0, bI_1, bI_ok, fin3, tyX9, entL, q0, dX9_keepIfAtRest_0, dX9_keepIfAtRest_1, dX9_keepIfAtRest_2, dX9_keepIfAtRest_3, dX9_keepIfAtRest_4, dX9_keepIfAtRest_5, dX9_keepIfAtRest_6, fT_9_41, dX9_keepIfAtRest_9, dX9_keepIfAtRest_12, dX9_keepIfAtRest_13, dX9_keepIfAtRest_14, dX9_keepIfAtRest_15, dX9_keepIfAtRest_17, dX9_keepIfAtRest_19, dX9_keepIfAtRest_20, dX9_keepIfAtRest_23, dX9_keepIfAtRest_26, dX9_keepIfAtRest_27, dX9_keepIfAtRest_28, dX9_keepIfAtRest_30, dX9_keepIfAtRest_33, dX9_keepIfAtRest_36, dX9_keepIfAtRest_37, dX9_keepIfAtRest_39, dX9_keepIfAtRest_40, dX9_keepIfAtRest_43, dX9_keepIfAtRest_46, dX9_keepIfAtRest_47, dX9_keepIfAtRest_50, dX9_keepIfAtRest_53, dX9_keepIfAtRest_54, dX9_keepIfAtRest_55, fT_9_18, dX9_keepIfAtRest_58, dX9_keepIfAtRest_59, dX9_keepIfAtRest_60, dX9_keepIfAtRest_61, dX9_keepIfAtRest_62, dX9_keepIfAtRest_63, dX9_keepIfAtRest_64, dX9_keepIfAtRest_65, dX9_keepIfAtRest_66, dX9_keepIfAtRest_67, dX9_keepIfAtRest_70, dX9_keepIfAtRest_73, dX9_keepIfAtRest_74, fT_9_52, dX9_keepIfAtRest_77, dX9_keepIfAtRest_78, fT_9_21, dX9_keepIfAtRest_81, dX9_keepIfAtRest_82, dX9_keepIfAtRest_85, dX9_keepIfAtRest_86, dX9_keepIfAtRest_89, dX9_keepIfAtRest_90, dX9_keepIfAtRest_93, dX9_keepIfAtRest_94, dX9_keepIfAtRest_95, dX9_keepIfAtRest_96, dX9_keepIfAtRest_97, dX9_keepIfAtRest_100, dX9_keepIfAtRest_101, dX9_keepIfAtRest_102, dX9_keepIfAtRest_105]
            refine ⟨fun z2 => g47 z (fun y => Int32.lt_irrefl (Int32.lt_of_lt_of_le y.1 (by first | exact z2 | exact Int32.not_lt.mp z2 | exact Int32.not_lt.mp (of_decide_eq_false z2)))), fun z2 => ?_⟩
            refine hG.callV dX9_keepIfAtRest_40 mv_9_102 [.int (nI b), .int (nI a)] [] (c9_wouldRather l X (d - 1) sh mI mL mR n W hO np V hM0 w b a z han (hw b z)) ⟨_, rfl, rfl⟩ q0 (by omega) rfl (by decide) (by simp [Value.category]) rfl ?_
            rintro r M' ⟨rfl, rfl⟩
            refine hG.run [47] 60 ?_
            simp [wp, stepI, ln, jmp, cmpI, Value.category, rd, tyF, va_rf, st1, st2, clr, isLg, CB, inx_0, inx_1, inx_2, inx_3, inx_4, inx_5, bI_0, bI_1, bI_ok, fin3, tyX9, entL, q0, dX9_keepIfAtRest_0, dX9_keepIfAtRest_1, dX9_keepIfAtRest_2, dX9_keepIfAtRest_3, dX9_keepIfAtRest_4, dX9_keepIfAtRest_5, dX9_keepIfAtRest_6, fT_9_41, dX9_keepIfAtRest_9, dX9_keepIfAtRest_12, dX9_keepIfAtRest_13, dX9_keepIfAtRest_14, dX9_keepIfAtRest_15, dX9_keepIfAtRest_17, dX9_keepIfAtRest_19, dX9_keepIfAtRest_20, dX9_keepIfAtRest_23, dX9_keepIfAtRest_26, dX9_keepIfAtRest_27, dX9_keepIfAtRest_28, dX9_keepIfAtRest_30, dX9_keepIfAtRest_33, dX9_keepIfAtRest_36, dX9_keepIfAtRest_37, dX9_keepIfAtRest_39, dX9_keepIfAtRest_40, dX9_keepIfAtRest_43, dX9_keepIfAtRest_46, dX9_keepIfAtRest_47, dX9_keepIfAtRest_50, dX9_keepIfAtRest_53, dX9_keepIfAtRest_54, dX9_keepIfAtRest_55, fT_9_18, dX9_keepIfAtRest_58, dX9_keepIfAtRest_59, dX9_keepIfAtRest_60, dX9_keepIfAtRest_61, dX9_keepIfAtRest_62, dX9_keepIfAtRest_63, dX9_keepIfAtRest_64, dX9_keepIfAtRest_65, dX9_keepIfAtRest_66, dX9_keepIfAtRest_67, dX9_keepIfAtRest_70, dX9_keepIfAtRest_73, dX9_keepIfAtRest_74, fT_9_52, dX9_keepIfAtRest_77, dX9_keepIfAtRest_78, fT_9_21, dX9_keepIfAtRest_81, dX9_keepIfAtRest_82, dX9_keepIfAtRest_85, dX9_keepIfAtRest_86, dX9_keepIfAtRest_89, dX9_keepIfAtRest_90, dX9_keepIfAtRest_93, dX9_keepIfAtRest_94, dX9_keepIfAtRest_95, dX9_keepIfAtRest_96, dX9_keepIfAtRest_97, dX9_keepIfAtRest_100, dX9_keepIfAtRest_101, dX9_keepIfAtRest_102, dX9_keepIfAtRest_105]
            refine ⟨fun z3 => g47 z (fun y => Int32.lt_irrefl (Int32.lt_of_lt_of_le y.2 (by first | exact z3 | exact Int32.not_lt.mp z3 | exact Int32.not_lt.mp (of_decide_eq_false z3)))), fun z3 => no (fun h => ?_)⟩
            exact atR_cls.mp h a b han z hab ⟨by first | exact z2 | exact of_decide_eq_true z2, by first | exact z3 | exact of_decide_eq_true z3⟩
        refine hG.run [17, 73] 60 ?_
        simp [wp, stepI, ln, jmp, cmpI, Value.category, rd, tyF, va_rf, st1, st2, clr, isLg, CB, inx_0, inx_1, inx_2, inx_3, inx_4, inx_5, bI_0, bI_1, bI_ok, fin3, tyX9, entL, q0, dX9_keepIfAtRest_0, dX9_keepIfAtRest_1, dX9_keepIfAtRest_2, dX9_keepIfAtRest_3, dX9_keepIfAtRest_4, dX9_keepIfAtRest_5, dX9_keepIfAtRest_6, fT_9_41, dX9_keepIfAtRest_9, dX9_keepIfAtRest_12, dX9_keepIfAtRest_13, dX9_keepIfAtRest_14, dX9_keepIfAtRest_15, dX9_keepIfAtRest_17, dX9_keepIfAtRest_19, dX9_keepIfAtRest_20, dX9_keepIfAtRest_23, dX9_keepIfAtRest_26, dX9_keepIfAtRest_27, dX9_keepIfAtRest_28, dX9_keepIfAtRest_30, dX9_keepIfAtRest_33, dX9_keepIfAtRest_36, dX9_keepIfAtRest_37, dX9_keepIfAtRest_39, dX9_keepIfAtRest_40, dX9_keepIfAtRest_43, dX9_keepIfAtRest_46, dX9_keepIfAtRest_47, dX9_keepIfAtRest_50, dX9_keepIfAtRest_53, dX9_keepIfAtRest_54, dX9_keepIfAtRest_55, fT_9_18, dX9_keepIfAtRest_58, dX9_keepIfAtRest_59, dX9_keepIfAtRest_60, dX9_keepIfAtRest_61, dX9_keepIfAtRest_62, dX9_keepIfAtRest_63, dX9_keepIfAtRest_64, dX9_keepIfAtRest_65, dX9_keepIfAtRest_66, dX9_keepIfAtRest_67, dX9_keepIfAtRest_70, dX9_keepIfAtRest_73, dX9_keepIfAtRest_74, fT_9_52, dX9_keepIfAtRest_77, dX9_keepIfAtRest_78, fT_9_21, dX9_keepIfAtRest_81, dX9_keepIfAtRest_82, dX9_keepIfAtRest_85, dX9_keepIfAtRest_86, dX9_keepIfAtRest_89, dX9_keepIfAtRest_90, dX9_keepIfAtRest_93, dX9_keepIfAtRest_94, dX9_keepIfAtRest_95, dX9_keepIfAtRest_96, dX9_keepIfAtRest_97, dX9_keepIfAtRest_100, dX9_keepIfAtRest_101, dX9_keepIfAtRest_102, dX9_keepIfAtRest_105]
        simp (disch := omega) only [li, nI_add, nI_clamp, nI_ltI, nI_leI, nI_eq, inx_iff, a31, nI_1shl', nI_shr', div_bit, tb1, tb0, fa_or, fa_and, nI_not, pk_sub, nI_dec, h1]
        exact ⟨fun z => by omega, fun _ => loop2 (np + 1) (a + 1) (by omega) (by omega) (by omega) (fun y h1 h2 => by omega)⟩
      · have e : a = np := by omega
        refine hG.run [17, 73] 60 ?_
        simp [wp, stepI, ln, jmp, cmpI, Value.category, rd, tyF, va_rf, st1, st2, clr, isLg, CB, inx_0, inx_1, inx_2, inx_3, inx_4, inx_5, bI_0, bI_1, bI_ok, fin3, tyX9, entL, q0, dX9_keepIfAtRest_0, dX9_keepIfAtRest_1, dX9_keepIfAtRest_2, dX9_keepIfAtRest_3, dX9_keepIfAtRest_4, dX9_keepIfAtRest_5, dX9_keepIfAtRest_6, fT_9_41, dX9_keepIfAtRest_9, dX9_keepIfAtRest_12, dX9_keepIfAtRest_13, dX9_keepIfAtRest_14, dX9_keepIfAtRest_15, dX9_keepIfAtRest_17, dX9_keepIfAtRest_19, dX9_keepIfAtRest_20, dX9_keepIfAtRest_23, dX9_keepIfAtRest_26, dX9_keepIfAtRest_27, dX9_keepIfAtRest_28, dX9_keepIfAtRest_30, dX9_keepIfAtRest_33, dX9_keepIfAtRest_36, dX9_keepIfAtRest_37, dX9_keepIfAtRest_39, dX9_keepIfAtRest_40, dX9_keepIfAtRest_43, dX9_keepIfAtRest_46, dX9_keepIfAtRest_47, dX9_keepIfAtRest_50, dX9_keepIfAtRest_53, dX9_keepIfAtRest_54, dX9_keepIfAtRest_55, fT_9_18, dX9_keepIfAtRest_58, dX9_keepIfAtRest_59, dX9_keepIfAtRest_60, dX9_keepIfAtRest_61, dX9_keepIfAtRest_62, dX9_keepIfAtRest_63, dX9_keepIfAtRest_64, dX9_keepIfAtRest_65, dX9_keepIfAtRest_66, dX9_keepIfAtRest_67, dX9_keepIfAtRest_70, dX9_keepIfAtRest_73, dX9_keepIfAtRest_74, fT_9_52, dX9_keepIfAtRest_77, dX9_keepIfAtRest_78, fT_9_21, dX9_keepIfAtRest_81, dX9_keepIfAtRest_82, dX9_keepIfAtRest_85, dX9_keepIfAtRest_86, dX9_keepIfAtRest_89, dX9_keepIfAtRest_90, dX9_keepIfAtRest_93, dX9_keepIfAtRest_94, dX9_keepIfAtRest_95, dX9_keepIfAtRest_96, dX9_keepIfAtRest_97, dX9_keepIfAtRest_100, dX9_keepIfAtRest_101, dX9_keepIfAtRest_102, dX9_keepIfAtRest_105]
        simp (disch := omega) only [li, nI_add, nI_clamp, nI_ltI, nI_leI, nI_eq, inx_iff, a31, nI_1shl', nI_shr', div_bit, tb1, tb0, fa_or, fa_and, nI_not, pk_sub, nI_dec, h1]
        refine ⟨fun _ => ?_, fun z => by omega⟩
        rw [e]
        exact last (atR_cls.mpr (fun x y hx hy hxy => hno x y (by omega) hy hxy)) _ _
  refine hG.run [4] 60 ?_
  simp [wp, stepI, ln, jmp, cmpI, Value.category, rd, tyF, va_rf, st1, st2, clr, isLg, CB, inx_0, inx_1, inx_2, inx_3, inx_4, inx_5, bI_0, bI_1, bI_ok, fin3, tyX9, entL, q0, dX9_keepIfAtRest_0, dX9_keepIfAtRest_1, dX9_keepIfAtRest_2, dX9_keepIfAtRest_3, dX9_keepIfAtRest_4, dX9_keepIfAtRest_5, dX9_keepIfAtRest_6, fT_9_41, dX9_keepIfAtRest_9, dX9_keepIfAtRest_12, dX9_keepIfAtRest_13, dX9_keepIfAtRest_14, dX9_keepIfAtRest_15, dX9_keepIfAtRest_17, dX9_keepIfAtRest_19, dX9_keepIfAtRest_20, dX9_keepIfAtRest_23, dX9_keepIfAtRest_26, dX9_keepIfAtRest_27, dX9_keepIfAtRest_28, dX9_keepIfAtRest_30, dX9_keepIfAtRest_33, dX9_keepIfAtRest_36, dX9_keepIfAtRest_37, dX9_keepIfAtRest_39, dX9_keepIfAtRest_40, dX9_keepIfAtRest_43, dX9_keepIfAtRest_46, dX9_keepIfAtRest_47, dX9_keepIfAtRest_50, dX9_keepIfAtRest_53, dX9_keepIfAtRest_54, dX9_keepIfAtRest_55, fT_9_18, dX9_keepIfAtRest_58, dX9_keepIfAtRest_59, dX9_keepIfAtRest_60, dX9_keepIfAtRest_61, dX9_keepIfAtRest_62, dX9_keepIfAtRest_63, dX9_keepIfAtRest_64, dX9_keepIfAtRest_65, dX9_keepIfAtRest_66, dX9_keepIfAtRest_67, dX9_keepIfAtRest_70, dX9_keepIfAtRest_73, dX9_keepIfAtRest_74, fT_9_52, dX9_keepIfAtRest_77, dX9_keepIfAtRest_78, fT_9_21, dX9_keepIfAtRest_81, dX9_keepIfAtRest_82, dX9_keepIfAtRest_85, dX9_keepIfAtRest_86, dX9_keepIfAtRest_89, dX9_keepIfAtRest_90, dX9_keepIfAtRest_93, dX9_keepIfAtRest_94, dX9_keepIfAtRest_95, dX9_keepIfAtRest_96, dX9_keepIfAtRest_97, dX9_keepIfAtRest_100, dX9_keepIfAtRest_101, dX9_keepIfAtRest_102, dX9_keepIfAtRest_105]
  exact loop1 (np + 1) 0 _ (by omega) (by omega) (fun x y h => by omega)
/-! all pairs, in their order -/
abbrev KS : Type := Nat × (Nat → Nat)
def fdK (g : Nat → KS → KS) : Nat → KS → KS
  | 0, s => s
  | b + 1, s => g b (fdK g b s)
theorem fdK_s (g : Nat → KS → KS) (b : Nat) (s : KS) : fdK g (b + 1) s = g b (fdK g b s) := rfl
noncomputable def cpF (np : Nat) (V : Nat → Nat → Int32) : Nat → Nat → (Nat → Nat) → KS → KS
  | 0 => fun _ _ s => s
  | f + 1 => fun t w s => if t = 0 then kpS np V w s else fdK (fun b s => if decide (lowN t < b) && t.testBit b then cpF np V f (anot (anot t (2 ^ lowN t)) (2 ^ b)) (upN (upN w (lowN t) b) b (lowN t)) s else s) np s
noncomputable def cpG (np : Nat) (V : Nat → Nat → Int32) (f t : Nat) (w : Nat → Nat) (b : Nat) (s : KS) : KS := if decide (lowN t < b) && t.testBit b then cpF np V f (anot (anot t (2 ^ lowN t)) (2 ^ b)) (upN (upN w (lowN t) b) b (lowN t)) s else s
theorem cpF_s (np : Nat) (V : Nat → Nat → Int32) (f t : Nat) (w : Nat → Nat) (s : KS) : cpF np V (f + 1) t w s = if t = 0 then kpS np V w s else fdK (cpG np V f t w) np s := rfl
theorem cpG_d (np : Nat) (V : Nat → Nat → Int32) (f t : Nat) (w : Nat → Nat) (b : Nat) (s : KS) : cpG np V f t w b s = if decide (lowN t < b) && t.testBit b then cpF np V f (anot (anot t (2 ^ lowN t)) (2 ^ b)) (upN (upN w (lowN t) b) b (lowN t)) s else s := rfl
def dpn : Nat → Nat
  | 0 => 1
  | m + 1 => (2 * m + 1) * dpn m
theorem kpS_n (np : Nat) (V : Nat → Nat → Int32) (w : Nat → Nat) (s : KS) : (kpS np V w s).1 ≤ s.1 + 1 := by
  unfold kpS
  split
  · exact Nat.le_refl _
  · exact Nat.le_succ _
theorem pc_two {np t b : Nat} (hnp : np ≤ 10) (ht : t < 2 ^ np) (h0 : t ≠ 0) (hb : t.testBit b = true) (hl : lowN t < b) : pcn (anot (anot t (2 ^ lowN t)) (2 ^ b)) + 2 = pcn t ∧ anot (anot t (2 ^ lowN t)) (2 ^ b) < 2 ^ np := by
  have hpw := p2_10 hnp
  have l1 := (low_ok h0 (by omega)).1
  have e1 := pc_an hnp ht l1
  have h1 : anot t (2 ^ lowN t) < 2 ^ np := Nat.lt_of_le_of_lt (anot_le _ _) ht
  have e2 := pc_an hnp h1 (p := b) (by rw [an_bit, hb, decide_eq_false (by omega)]; rfl)
  exact ⟨by omega, Nat.lt_of_le_of_lt (anot_le _ _) h1⟩
/-- how many partners the first one has -/
def cbr (t b : Nat) : Nat := fb_ct (fun y => decide (lowN t < y) && t.testBit y) b
theorem cbr_le {np t : Nat} (hnp : np ≤ 10) (ht : t < 2 ^ np) (h0 : t ≠ 0) {b : Nat} (hb : b ≤ np) : cbr t b + 1 ≤ pcn t := by
  have hpw := p2_10 hnp
  have l1 := low_ok h0 (by omega)
  have ln := bit_np ht l1.1
  have h1 : cbr t b ≤ cbr t 10 := fb_ct_mono _ (by omega)
  have h2 := fb_ct_lt (p := fun y => decide (lowN t < y) && t.testBit y) (q := fun y => t.testBit y) (i := lowN t) (by rw [decide_eq_false (Nat.lt_irrefl _)]; rfl) l1.1 (n := 10) (by omega) (fun k _ hk => by
    rw [Bool.and_eq_true] at hk
    exact hk.2)
  have h3 : cbr t 10 < pcn t := h2
  omega
theorem cpF_n {np : Nat} (hnp : np ≤ 10) (V : Nat → Nat → Int32) : ∀ m t w s, t < 2 ^ np → pcn t = 2 * m → (cpF np V (m + 1) t w s).1 ≤ s.1 + dpn m
  | 0, t, w, s, ht, hm => by
    rw [cpF_s, if_pos (pc_0 hnp ht (by omega))]
    exact kpS_n _ _ _ _
  | m + 1, t, w, s, ht, hm => by
    have h0 : t ≠ 0 := fun z => by rw [z, show pcn 0 = 0 by decide] at hm; omega
    rw [cpF_s, if_neg h0]
    have fd : ∀ k, k ≤ np → (fdK (cpG np V (m + 1) t w) k s).1 ≤ s.1 + cbr t k * dpn m := by
      intro k
      induction k with
      | zero => intro _; exact Nat.le_add_right _ _
      | succ k ih =>
        intro hk
        rw [fdK_s, cpG_d]
        unfold cbr at ih ⊢
        rw [fb_ct_succ]
        by_cases hc : (decide (lowN t < k) && t.testBit k) = true
        · have hc2 := hc
          simp only [Bool.and_eq_true, decide_eq_true_eq] at hc2
          obtain ⟨p1, p2⟩ := pc_two hnp ht h0 hc2.2 hc2.1
          rw [if_pos hc, if_pos hc, Nat.add_mul, Nat.one_mul]
          have := cpF_n hnp V m _ (upN (upN w (lowN t) k) k (lowN t)) (fdK (cpG np V (m + 1) t w) k s) p2 (by omega)
          have := ih (by omega)
          omega
        · rw [if_neg hc, if_neg hc, Nat.add_zero]
          exact ih (by omega)
    have hb := cbr_le hnp ht h0 (Nat.le_refl np)
    have : cbr t np * dpn m ≤ (2 * m + 1) * dpn m := Nat.mul_le_mul_right _ (by omega)
    have := fd np (Nat.le_refl _)
    show _ ≤ s.1 + (2 * m + 1) * dpn m
    omega
/-- the mates: none where one is free -/
def MtM (mI : Nat → Nat → Int32) (W np t : Nat) (w : Nat → Nat) : Prop := ∀ p, p < np → mI (W + 3) p = (if t.testBit p then -nI 1 else nI (w p)) ∧ (t.testBit p = false → w p < np)
set_option maxHeartbeats 4000000 in
set_option maxRecDepth 100000 in
theorem c9_pairUp (l : Launch) (X : Cx) (d : Nat) (sh : Nat → Option Sh) (mI : Nat → Nat → Int32) (mL : Nat → Nat → Int64) (mR : Nat → Nat → Option Nat) (n : Nat) (W : Nat) (hO : OL sh mR W 9 ob9) (one b dep : Nat) (h1 : one < 8) (h2 : b < 8) (R : (Nat → Nat → Int32) → (Nat → Nat → Int64) → Prop) (hd : 1 ≤ d) (ih : Cn l X yX9_pairFrom cX9_pairFrom 5 none (d - 1) [.ref W, .int (nI (one + 1)), .int (nI dep)] (sh, up2 (up2 mI (W + 3) one (nI b)) (W + 3) b (nI one), mL, mR, n) (fun r M' => r = none ∧ ∃ mI' mL', M' = (sh, mI', mL', mR, n) ∧ R mI' mL') 0 0) : Cn l X yX9_pairUp cX9_pairUp 4 none d [.ref W, .int (nI one), .int (nI b), .int (nI dep)] (sh, mI, mL, mR, n) (fun r M' => r = none ∧ ∃ mI' mL', M' = (sh, up2 (up2 mI' (W + 3) b (-nI 1)) (W + 3) one (-nI 1), mL', mR, n) ∧ R mI' mL') 0 0 := by
  refine Cn.run 9 false (by decide) rfl (by decide) (by simp [entA, Value.category]) ?_
  intro P G hP hG
  have q0 := hO.1
  have q_mate := hO.2.2 (2, 3, .int, 8) (by decide)
  dsimp only at q_mate
  have hSl := hO.2.1
  have x3 : W + 3 < 1000000000 := by omega
  refine hG.run [] 60 ?_
  simp [wp, stepI, ln, jmp, cmpI, Value.category, rd, tyF, va_rf, st1, st2, clr, isLg, CB, inx_0, inx_1, inx_2, inx_3, inx_4, inx_5, bI_0, bI_1, bI_ok, fin3, tyX9, entL, q0, q_mate, x3, dX9_pairUp_0, dX9_pairUp_1, fT_9_18, dX9_pairUp_4, dX9_pairUp_5, dX9_pairUp_6, dX9_pairUp_7, dX9_pairUp_8, dX9_pairUp_11, dX9_pairUp_12, dX9_pairUp_13, dX9_pairUp_14, dX9_pairUp_15, dX9_pairUp_16, dX9_pairUp_17, dX9_pairUp_18, dX9_pairUp_19, dX9_pairUp_22, dX9_pairUp_23, dX9_pairUp_26, dX9_pairUp_27, dX9_pairUp_28, dX9_pairUp_29, dX9_pairUp_30, dX9_pairUp_33, dX9_pairUp_34, dX9_pairUp_35, dX9_pairUp_36]
  simp (disch := omega) only [li, nI_add, nI_clamp, nI_ltI, nI_leI, nI_eq, inx_iff, a31, nI_1shl', nI_shr', div_bit, tb1, tb0, fa_or, fa_and, nI_not, pk_sub, nI_dec]
  refine ⟨by omega, by omega, ?_⟩
  refine hG.callV dX9_pairUp_19 mv_9_55 [.int (nI (one + 1)), .int (nI dep)] [] (ih) ⟨_, rfl, rfl⟩ q0 (by omega) rfl (by decide) (by simp [Value.category]) rfl ?_
  rintro r M' ⟨rfl, mI3, mL3, rfl, k1⟩
  refine hG.run [] 60 ?_
  simp [wp, stepI, ln, jmp, cmpI, Value.category, rd, tyF, va_rf, st1, st2, clr, isLg, CB, inx_0, inx_1, inx_2, inx_3, inx_4, inx_5, bI_0, bI_1, bI_ok, fin3, tyX9, entL, q0, q_mate, x3, dX9_pairUp_0, dX9_pairUp_1, fT_9_18, dX9_pairUp_4, dX9_pairUp_5, dX9_pairUp_6, dX9_pairUp_7, dX9_pairUp_8, dX9_pairUp_11, dX9_pairUp_12, dX9_pairUp_13, dX9_pairUp_14, dX9_pairUp_15, dX9_pairUp_16, dX9_pairUp_17, dX9_pairUp_18, dX9_pairUp_19, dX9_pairUp_22, dX9_pairUp_23, dX9_pairUp_26, dX9_pairUp_27, dX9_pairUp_28, dX9_pairUp_29, dX9_pairUp_30, dX9_pairUp_33, dX9_pairUp_34, dX9_pairUp_35, dX9_pairUp_36]
  simp (disch := omega) only [li, nI_add, nI_clamp, nI_ltI, nI_leI, nI_eq, inx_iff, a31, nI_1shl', nI_shr', div_bit, tb1, tb0, fa_or, fa_and, nI_not, pk_sub, nI_dec]
  exact ⟨by omega, by omega, hP _ _ ⟨rfl, mI3, mL3, rfl, k1⟩⟩
set_option maxHeartbeats 4000000 in
set_option maxRecDepth 100000 in
theorem c9_pairG (np : Nat) (V : Nat → Nat → Int32) (m : Nat) (l : Launch) (X : Cx) (d : Nat) (sh : Nat → Option Sh) (mI : Nat → Nat → Int32) (mL : Nat → Nat → Int64) (mR : Nat → Nat → Option Nat) (n : Nat) (W : Nat) (hO : OL sh mR W 9 ob9) (hM : WiM mI W np V) (t : Nat) (ht : t < 2 ^ np) (hm : pcn t = 2 * m) (w : Nat → Nat) (hw : MtM mI W np t w) (s : KS) (hs : KpM mI mL W s) (hsl : s.1 + dpn m ≤ 105) (least depth : Nat) (hle : least ≤ np) (hlo : ∀ p, p < least → t.testBit p = false) (hdp : depth + m ≤ 4) (hd : 2 * m + 2 ≤ d) (ih : ∀ m', m = m' + 1 → ∀ (mI : Nat → Nat → Int32) (mL : Nat → Nat → Int64), WiM mI W np V → ∀ t, t < 2 ^ np → pcn t = 2 * m' → ∀ w, MtM mI W np t w → ∀ s, KpM mI mL W s → s.1 + dpn m' ≤ 105 → ∀ least depth, least ≤ np → (∀ p, p < least → t.testBit p = false) → depth + m' ≤ 4 → Cn l X yX9_pairFrom cX9_pairFrom 5 none (d - 1 - 1) [.ref W, .int (nI least), .int (nI depth)] (sh, mI, mL, mR, n) (fun r M' => r = none ∧ ∃ mI' mL', M' = (sh, mI', mL', mR, n) ∧ (∀ a k, ¬ (a = W ∧ k = 6) → ¬ (a = W + 3 ∧ np ≤ k) → mI' a k = mI a k) ∧ (∀ a k, a ≠ W + 4 → mL' a k = mL a k) ∧ KpM mI' mL' W (cpF np V (m' + 1) t w s)) 0 0) : Cn l X yX9_pairFrom cX9_pairFrom 5 none d [.ref W, .int (nI least), .int (nI depth)] (sh, mI, mL, mR, n) (fun r M' => r = none ∧ ∃ mI' mL', M' = (sh, mI', mL', mR, n) ∧ (∀ a k, ¬ (a = W ∧ k = 6) → ¬ (a = W + 3 ∧ np ≤ k) → mI' a k = mI a k) ∧ (∀ a k, a ≠ W + 4 → mL' a k = mL a k) ∧ KpM mI' mL' W (cpF np V (m + 1) t w s)) 0 0 := by
  refine Cn.run 9 false (by decide) rfl (by decide) (by simp [entA, Value.category]) ?_
  intro P G hP hG
  have q0 := hO.1
  have q_mate := hO.2.2 (2, 3, .int, 8) (by decide)
  dsimp only at q_mate
  have hSl := hO.2.1
  have x3 : W + 3 < 1000000000 := by omega
  have hM0 := hM
  obtain ⟨h1, h2, h3⟩ := hM
  have h10 : np ≤ 10 := by omega
  have hpw := p2_10 h10
  have m10 : ∀ k, k < 10 → ¬ nI k = -nI 1 := fun k hk => nI_ne_m1 hk
  have g26 : ∀ one v4, one ≤ np → (∀ p, p < one → t.testBit p = false) → (one < np → t.testBit one = true) → G 26 [some (.ref W), some (.int (nI least)), some (.int (nI depth)), some (.int (nI one)), v4] [] (sh, mI, mL, mR, n) := fun one v4 ho1 ho2 ho3 => by
    by_cases hon : one < np
    · have hbit := ho3 hon
      have h0 : t ≠ 0 := ne0_bit hbit
      have el : lowN t = one := by
        have l1 := low_ok h0 (by omega)
        rcases Nat.lt_trichotomy (lowN t) one with z | z | z
        · have := ho2 _ z
          rw [l1.1] at this; cases this
        · exact z
        · have := fa_first_no (fun p => t.testBit p) 10 one z
          rw [hbit] at this; cases this
      obtain ⟨m', em⟩ : ∃ m', m = m' + 1 := ⟨m - 1, by
        have := pc_an h10 ht hbit
        omega⟩
      have ihm := ih m' em
      subst em
      rw [cpF_s, if_neg h0] at hP
      have loop : ∀ f b mI1 mL1, np - b < f → one < b → b ≤ np → (∀ a k, ¬ (a = W ∧ k = 6) → ¬ (a = W + 3 ∧ np ≤ k) → mI1 a k = mI a k) → (∀ a k, a ≠ W + 4 → mL1 a k = mL a k) → KpM mI1 mL1 W (fdK (cpG np V (m' + 1) t w) b s) → G 50 [some (.ref W), some (.int (nI least)), some (.int (nI depth)), some (.int (nI one)), some (.int (nI b))] [] (sh, mI1, mL1, mR, n) := by
        intro f
        induction f with
        | zero => intro b mI1 mL1 h; omega
        | succ f ihf =>
          intro b mI1 mL1 hf hob hb g1 g2 g3
          have e1 : mI1 W 4 = nI np := (g1 _ _ (by omega) (by omega)).trans h1
          by_cases hbn : b < np
          · have nx := ihf (b + 1)
            rw [fdK_s, cpG_d] at nx
            have mb : mI1 (W + 3) b = (if t.testBit b then -nI 1 else nI (w b)) := (g1 _ _ (by omega) (by omega)).trans (hw b hbn).1
            have wb := (hw b hbn).2
            cases hb2 : t.testBit b with
            | false =>
              rw [hb2] at mb nx
              rw [if_neg (by rw [Bool.and_false]; decide)] at nx
              have mb' : mI1 (W + 3) b = nI (w b) := mb
              have wb' := wb hb2
              refine hG.run [50, 86] 60 ?_
              simp [wp, stepI, ln, jmp, cmpI, Value.category, rd, tyF, va_rf, st1, st2, clr, isLg, CB, inx_0, inx_1, inx_2, inx_3, inx_4, inx_5, bI_0, bI_1, bI_ok, fin3, tyX9, entL, q0, q_mate, dX9_pairFrom_0, dX9_pairFrom_1, dX9_pairFrom_2, dX9_pairFrom_3, dX9_pairFrom_4, fT_9_41, dX9_pairFrom_7, dX9_pairFrom_10, dX9_pairFrom_11, fT_9_18, dX9_pairFrom_14, dX9_pairFrom_15, dX9_pairFrom_16, dX9_pairFrom_17, dX9_pairFrom_20, dX9_pairFrom_23, dX9_pairFrom_26, dX9_pairFrom_27, dX9_pairFrom_28, dX9_pairFrom_31, dX9_pairFrom_34, dX9_pairFrom_35, dX9_pairFrom_38, dX9_pairFrom_39, dX9_pairFrom_40, dX9_pairFrom_41, dX9_pairFrom_44, dX9_pairFrom_45, dX9_pairFrom_46, dX9_pairFrom_47, dX9_pairFrom_48, dX9_pairFrom_50, dX9_pairFrom_52, dX9_pairFrom_53, dX9_pairFrom_56, dX9_pairFrom_59, dX9_pairFrom_60, dX9_pairFrom_63, dX9_pairFrom_65, dX9_pairFrom_66, dX9_pairFrom_67, dX9_pairFrom_70, dX9_pairFrom_71, dX9_pairFrom_72, dX9_pairFrom_74, dX9_pairFrom_75, dX9_pairFrom_76, dX9_pairFrom_77, dX9_pairFrom_80, dX9_pairFrom_83, dX9_pairFrom_86]
              simp (disch := omega) only [li, nI_add, nI_clamp, nI_ltI, nI_leI, nI_eq, inx_iff, a31, nI_1shl', nI_shr', div_bit, tb1, tb0, fa_or, fa_and, nI_not, pk_sub, nI_dec, e1, mb']
              refine ⟨fun z => by omega, fun _ => ⟨by omega, fun _ => nx mI1 mL1 (by omega) (by omega) (by omega) g1 g2 g3, fun z => absurd z (m10 _ (by omega))⟩⟩
            | true =>
              rw [hb2] at mb nx
              rw [if_pos (by rw [decide_eq_true (show lowN t < b by omega)]; rfl), el] at nx
              have mb' : mI1 (W + 3) b = -nI 1 := mb
              have lt0 : lowN t < b := by omega
              obtain ⟨q1, q2⟩ := pc_two h10 ht h0 hb2 lt0
              rw [el] at q1 q2
              obtain ⟨mI2, hmI2⟩ : ∃ m, m = up2 (up2 mI1 (W + 3) one (nI b)) (W + 3) b (nI one) := ⟨_, rfl⟩
              have fr2 : ∀ a k, ¬ (a = W + 3 ∧ (k = one ∨ k = b)) → mI2 a k = mI1 a k := fun a k hk => by rw [hmI2, up2_ne (fun y => hk ⟨y.1, Or.inr y.2⟩), up2_ne (fun y => hk ⟨y.1, Or.inl y.2⟩)]
              have M2 : WiM mI2 W np V := ⟨by rw [fr2 _ _ (by omega)]; exact e1, h2, fun x y hx hy => by rw [fr2 _ _ (by omega), g1 _ _ (by omega) (by omega)]; exact h3 x y hx hy⟩
              have K2 : KpM mI2 mL1 W (fdK (cpG np V (m' + 1) t w) b s) := ⟨by rw [fr2 _ _ (by omega)]; exact g3.1, g3.2.1, g3.2.2⟩
              have bits : ∀ p, (anot (anot t (2 ^ one)) (2 ^ b)).testBit p = (t.testBit p && !decide (one = p) && !decide (b = p)) := fun p => by rw [an_bit, an_bit]
              have W2 : MtM mI2 W np (anot (anot t (2 ^ one)) (2 ^ b)) (upN (upN w one b) b one) := fun p hp => by
                rw [bits]
                by_cases ep : b = p
                · rw [decide_eq_true ep, Bool.not_true, Bool.and_false, if_neg (by decide), ← ep, upN_eq, hmI2]
                  exact ⟨up2_eq _ _ _ _, fun _ => hon⟩
                · rw [decide_eq_false ep, upN_ne (fun z => ep z.symm)]
                  by_cases eo : one = p
                  · rw [decide_eq_true eo, Bool.not_true, Bool.and_false, Bool.false_and, if_neg (by decide), ← eo, upN_eq, hmI2, up2_ne (fun y => by omega)]
                    exact ⟨up2_eq _ _ _ _, fun _ => hbn⟩
                  · rw [decide_eq_false eo, upN_ne (fun z => eo z.symm), fr2 _ _ (fun y => by omega), g1 _ _ (by omega) (by omega)]
                    simp only [Bool.not_false, Bool.and_true]
                    exact hw p hp
              have cnt : (fdK (cpG np V (m' + 1) t w) b s).1 + dpn m' ≤ 105 := by
                have fd : ∀ k, k ≤ np → (fdK (cpG np V (m' + 1) t w) k s).1 ≤ s.1 + cbr t k * dpn m' := by
                  intro k
                  induction k with
                  | zero => intro _; exact Nat.le_add_right _ _
                  | succ k ihk =>
                    intro hk
                    rw [fdK_s, cpG_d]
                    unfold cbr at ihk ⊢
                    rw [fb_ct_succ]
                    by_cases hc : (decide (lowN t < k) && t.testBit k) = true
                    · have hc2 := hc
                      simp only [Bool.and_eq_true, decide_eq_true_eq] at hc2
                      obtain ⟨p1, p2⟩ := pc_two h10 ht h0 hc2.2 hc2.1
                      rw [if_pos hc, if_pos hc, Nat.add_mul, Nat.one_mul]
                      have := cpF_n h10 V m' _ (upN (upN w (lowN t) k) k (lowN t)) (fdK (cpG np V (m' + 1) t w) k s) p2 (by omega)
                      have := ihk (by omega)
                      omega
                    · rw [if_neg hc, if_neg hc, Nat.add_zero]
                      exact ihk (by omega)
                have c1 := fd b hb
                have c2 := cbr_le h10 ht h0 (show b + 1 ≤ np by omega)
                have c3 : cbr t (b + 1) = cbr t b + 1 := by
                  unfold cbr
                  rw [fb_ct_succ, decide_eq_true (show lowN t < b by omega), hb2]
                  rfl
                have c4 : (cbr t b + 1) * dpn m' ≤ (2 * m' + 1) * dpn m' := Nat.mul_le_mul_right _ (by omega)
                rw [Nat.add_mul, Nat.one_mul] at c4
                have c5 : s.1 + (2 * m' + 1) * dpn m' ≤ 105 := hsl
                omega
              have ihq := ihm mI2 mL1 M2 _ q2 (by omega) _ W2 _ K2 cnt (one + 1) (depth + 1) (by omega) (fun p hp => by
                rw [bits]
                by_cases eo : one = p
                · rw [decide_eq_true eo, Bool.not_true, Bool.and_false, Bool.false_and]
                · rw [ho2 p (by omega), Bool.false_and, Bool.false_and]) (by omega)
              rw [hmI2] at ihq
              refine hG.run [80] 60 ?_
              simp [wp, stepI, ln, jmp, cmpI, Value.category, rd, tyF, va_rf, st1, st2, clr, isLg, CB, inx_0, inx_1, inx_2, inx_3, inx_4, inx_5, bI_0, bI_1, bI_ok, fin3, tyX9, entL, q0, q_mate, x3, dX9_pairFrom_0, dX9_pairFrom_1, dX9_pairFrom_2, dX9_pairFrom_3, dX9_pairFrom_4, fT_9_41, dX9_pairFrom_7, dX9_pairFrom_10, dX9_pairFrom_11, fT_9_18, dX9_pairFrom_14, dX9_pairFrom_15, dX9_pairFrom_16, dX9_pairFrom_17, dX9_pairFrom_20, dX9_pairFrom_23, dX9_pairFrom_26, dX9_pairFrom_27, dX9_pairFrom_28, dX9_pairFrom_31, dX9_pairFrom_34, dX9_pairFrom_35, dX9_pairFrom_38, dX9_pairFrom_39, dX9_pairFrom_40, dX9_pairFrom_41, dX9_pairFrom_44, dX9_pairFrom_45, dX9_pairFrom_46, dX9_pairFrom_47, dX9_pairFrom_48, dX9_pairFrom_50, dX9_pairFrom_52, dX9_pairFrom_53, dX9_pairFrom_56, dX9_pairFrom_59, dX9_pairFrom_60, dX9_pairFrom_63, dX9_pairFrom_65, dX9_pairFrom_66, dX9_pairFrom_67, dX9_pairFrom_70, dX9_pairFrom_71, dX9_pairFrom_72, dX9_pairFrom_74, dX9_pairFrom_75, dX9_pairFrom_76, dX9_pairFrom_77, dX9_pairFrom_80, dX9_pairFrom_83, dX9_pairFrom_86]
              simp (disch := omega) only [li, nI_add, nI_clamp, nI_ltI, nI_leI, nI_eq, inx_iff, a31, nI_1shl', nI_shr', div_bit, tb1, tb0, fa_or, fa_and, nI_not, pk_sub, nI_dec, e1, mb']
              refine ⟨fun z => by omega, fun _ => ⟨by omega, fun z => absurd trivial z, fun _ => ?_⟩⟩
              refine hG.callV dX9_pairFrom_77 mv_9_98 [.int (nI one), .int (nI b), .int (nI (depth + 1))] [] (c9_pairUp l X (d - 1) sh mI1 mL1 mR n W hO one b (depth + 1) (by omega) (by omega) _ (by omega) ihq) ⟨_, rfl, rfl⟩ q0 (by omega) rfl (by decide) (by simp [Value.category]) rfl ?_
              rintro r M' ⟨rfl, mI3, mL3, rfl, k1, k2, k3⟩
              rw [← hmI2] at k1
              refine hG.run [50] 60 ?_
              simp [wp, stepI, ln, jmp, cmpI, Value.category, rd, tyF, va_rf, st1, st2, clr, isLg, CB, inx_0, inx_1, inx_2, inx_3, inx_4, inx_5, bI_0, bI_1, bI_ok, fin3, tyX9, entL, q0, q_mate, x3, dX9_pairFrom_0, dX9_pairFrom_1, dX9_pairFrom_2, dX9_pairFrom_3, dX9_pairFrom_4, fT_9_41, dX9_pairFrom_7, dX9_pairFrom_10, dX9_pairFrom_11, fT_9_18, dX9_pairFrom_14, dX9_pairFrom_15, dX9_pairFrom_16, dX9_pairFrom_17, dX9_pairFrom_20, dX9_pairFrom_23, dX9_pairFrom_26, dX9_pairFrom_27, dX9_pairFrom_28, dX9_pairFrom_31, dX9_pairFrom_34, dX9_pairFrom_35, dX9_pairFrom_38, dX9_pairFrom_39, dX9_pairFrom_40, dX9_pairFrom_41, dX9_pairFrom_44, dX9_pairFrom_45, dX9_pairFrom_46, dX9_pairFrom_47, dX9_pairFrom_48, dX9_pairFrom_50, dX9_pairFrom_52, dX9_pairFrom_53, dX9_pairFrom_56, dX9_pairFrom_59, dX9_pairFrom_60, dX9_pairFrom_63, dX9_pairFrom_65, dX9_pairFrom_66, dX9_pairFrom_67, dX9_pairFrom_70, dX9_pairFrom_71, dX9_pairFrom_72, dX9_pairFrom_74, dX9_pairFrom_75, dX9_pairFrom_76, dX9_pairFrom_77, dX9_pairFrom_80, dX9_pairFrom_83, dX9_pairFrom_86]
              simp (disch := omega) only [li, nI_add, nI_clamp, nI_ltI, nI_leI, nI_eq, inx_iff, a31, nI_1shl', nI_shr', div_bit, tb1, tb0, fa_or, fa_and, nI_not, pk_sub, nI_dec]
              refine nx _ mL3 (by omega) (by omega) (by omega) (fun a k c1 c2 => ?_) (fun a k ha => (k2 a k ha).trans (g2 a k ha)) ⟨?_, k3.2.1, k3.2.2⟩
              · by_cases e3 : a = W + 3 ∧ k = one
                · rw [e3.1, e3.2, up2_eq]
                  have := (hw one hon).1
                  rw [hbit] at this
                  exact this.symm
                · rw [up2_ne e3]
                  by_cases e4 : a = W + 3 ∧ k = b
                  · rw [e4.1, e4.2, up2_eq]
                    have := (hw b hbn).1
                    rw [hb2] at this
                    exact this.symm
                  · rw [up2_ne e4, k1 a k c1 c2, fr2 _ _ (fun y => by
                      rcases y.2 with y2 | y2
                      · exact e3 ⟨y.1, y2⟩
                      · exact e4 ⟨y.1, y2⟩)]
                    exact g1 a k c1 c2
              · rw [up2_ne (fun y => by omega), up2_ne (fun y => by omega)]; exact k3.1
          · have eb : b = np := by omega
            refine hG.run [59] 60 ?_
            simp [wp, stepI, ln, jmp, cmpI, Value.category, rd, tyF, va_rf, st1, st2, clr, isLg, CB, inx_0, inx_1, inx_2, inx_3, inx_4, inx_5, bI_0, bI_1, bI_ok, fin3, tyX9, entL, q0, dX9_pairFrom_0, dX9_pairFrom_1, dX9_pairFrom_2, dX9_pairFrom_3, dX9_pairFrom_4, fT_9_41, dX9_pairFrom_7, dX9_pairFrom_10, dX9_pairFrom_11, fT_9_18, dX9_pairFrom_14, dX9_pairFrom_15, dX9_pairFrom_16, dX9_pairFrom_17, dX9_pairFrom_20, dX9_pairFrom_23, dX9_pairFrom_26, dX9_pairFrom_27, dX9_pairFrom_28, dX9_pairFrom_31, dX9_pairFrom_34, dX9_pairFrom_35, dX9_pairFrom_38, dX9_pairFrom_39, dX9_pairFrom_40, dX9_pairFrom_41, dX9_pairFrom_44, dX9_pairFrom_45, dX9_pairFrom_46, dX9_pairFrom_47, dX9_pairFrom_48, dX9_pairFrom_50, dX9_pairFrom_52, dX9_pairFrom_53, dX9_pairFrom_56, dX9_pairFrom_59, dX9_pairFrom_60, dX9_pairFrom_63, dX9_pairFrom_65, dX9_pairFrom_66, dX9_pairFrom_67, dX9_pairFrom_70, dX9_pairFrom_71, dX9_pairFrom_72, dX9_pairFrom_74, dX9_pairFrom_75, dX9_pairFrom_76, dX9_pairFrom_77, dX9_pairFrom_80, dX9_pairFrom_83, dX9_pairFrom_86]
            simp (disch := omega) only [li, nI_add, nI_clamp, nI_ltI, nI_leI, nI_eq, inx_iff, a31, nI_1shl', nI_shr', div_bit, tb1, tb0, fa_or, fa_and, nI_not, pk_sub, nI_dec, e1]
            refine ⟨fun _ => hP _ _ ⟨rfl, mI1, mL1, rfl, g1, g2, ?_⟩, fun z => by omega⟩
            rw [eb] at g3; exact g3
      refine hG.run [50] 60 ?_
      simp [wp, stepI, ln, jmp, cmpI, Value.category, rd, tyF, va_rf, st1, st2, clr, isLg, CB, inx_0, inx_1, inx_2, inx_3, inx_4, inx_5, bI_0, bI_1, bI_ok, fin3, tyX9, entL, q0, dX9_pairFrom_0, dX9_pairFrom_1, dX9_pairFrom_2, dX9_pairFrom_3, dX9_pairFrom_4, fT_9_41, dX9_pairFrom_7, dX9_pairFrom_10, dX9_pairFrom_11, fT_9_18, dX9_pairFrom_14, dX9_pairFrom_15, dX9_pairFrom_16, dX9_pairFrom_17, dX9_pairFrom_20, dX9_pairFrom_23, dX9_pairFrom_26, dX9_pairFrom_27, dX9_pairFrom_28, dX9_pairFrom_31, dX9_pairFrom_34, dX9_pairFrom_35, dX9_pairFrom_38, dX9_pairFrom_39, dX9_pairFrom_40, dX9_pairFrom_41, dX9_pairFrom_44, dX9_pairFrom_45, dX9_pairFrom_46, dX9_pairFrom_47, dX9_pairFrom_48, dX9_pairFrom_50, dX9_pairFrom_52, dX9_pairFrom_53, dX9_pairFrom_56, dX9_pairFrom_59, dX9_pairFrom_60, dX9_pairFrom_63, dX9_pairFrom_65, dX9_pairFrom_66, dX9_pairFrom_67, dX9_pairFrom_70, dX9_pairFrom_71, dX9_pairFrom_72, dX9_pairFrom_74, dX9_pairFrom_75, dX9_pairFrom_76, dX9_pairFrom_77, dX9_pairFrom_80, dX9_pairFrom_83, dX9_pairFrom_86]
      simp (disch := omega) only [li, nI_add, nI_clamp, nI_ltI, nI_leI, nI_eq, inx_iff, a31, nI_1shl', nI_shr', div_bit, tb1, tb0, fa_or, fa_and, nI_not, pk_sub, nI_dec, h1]
      refine ⟨fun z => ⟨fun z2 => ?_, fun z2 => by omega⟩, fun z => by omega⟩
      have fz : ∀ k, k ≤ one + 1 → fdK (cpG np V (m' + 1) t w) k s = s := by
        intro k
        induction k with
        | zero => intro _; rfl
        | succ k ihk =>
          intro hk
          rw [fdK_s, cpG_d, if_neg (by rw [decide_eq_false (show ¬ lowN t < k by omega)]; simp)]
          exact ihk (by omega)
      exact loop (np + 1) (one + 1) mI mL (by omega) (by omega) (by omega) (fun _ _ _ _ => rfl) (fun _ _ _ => rfl) (by rw [fz _ (Nat.le_refl _)]; exact hs)
    · have e : one = np := by omega
      have h0 : t = 0 := Nat.eq_of_testBit_eq fun i => by
        rw [Nat.zero_testBit]
        rcases Nat.lt_or_ge i np with y | y
        · exact ho2 i (by omega)
        · exact Nat.testBit_lt_two_pow (Nat.lt_of_lt_of_le ht (Nat.pow_le_pow_right (by decide) y))
      have em : m = 0 := by
        rw [h0, show pcn 0 = 0 by decide] at hm
        omega
      rw [em, cpF_s, if_pos h0] at hP
      rw [em] at hsl
      have hsl2 : s.1 + 1 ≤ 105 := hsl
      refine hG.run [39] 60 ?_
      simp [wp, stepI, ln, jmp, cmpI, Value.category, rd, tyF, va_rf, st1, st2, clr, isLg, CB, inx_0, inx_1, inx_2, inx_3, inx_4, inx_5, bI_0, bI_1, bI_ok, fin3, tyX9, entL, q0, dX9_pairFrom_0, dX9_pairFrom_1, dX9_pairFrom_2, dX9_pairFrom_3, dX9_pairFrom_4, fT_9_41, dX9_pairFrom_7, dX9_pairFrom_10, dX9_pairFrom_11, fT_9_18, dX9_pairFrom_14, dX9_pairFrom_15, dX9_pairFrom_16, dX9_pairFrom_17, dX9_pairFrom_20, dX9_pairFrom_23, dX9_pairFrom_26, dX9_pairFrom_27, dX9_pairFrom_28, dX9_pairFrom_31, dX9_pairFrom_34, dX9_pairFrom_35, dX9_pairFrom_38, dX9_pairFrom_39, dX9_pairFrom_40, dX9_pairFrom_41, dX9_pairFrom_44, dX9_pairFrom_45, dX9_pairFrom_46, dX9_pairFrom_47, dX9_pairFrom_48, dX9_pairFrom_50, dX9_pairFrom_52, dX9_pairFrom_53, dX9_pairFrom_56, dX9_pairFrom_59, dX9_pairFrom_60, dX9_pairFrom_63, dX9_pairFrom_65, dX9_pairFrom_66, dX9_pairFrom_67, dX9_pairFrom_70, dX9_pairFrom_71, dX9_pairFrom_72, dX9_pairFrom_74, dX9_pairFrom_75, dX9_pairFrom_76, dX9_pairFrom_77, dX9_pairFrom_80, dX9_pairFrom_83, dX9_pairFrom_86]
      simp (disch := omega) only [li, nI_add, nI_clamp, nI_ltI, nI_leI, nI_eq, inx_iff, a31, nI_1shl', nI_shr', div_bit, tb1, tb0, fa_or, fa_and, nI_not, pk_sub, nI_dec, h1]
      refine ⟨fun z => by omega, fun _ => ?_⟩
      refine hG.callV dX9_pairFrom_35 mv_9_95 [] [] (c9_keepIfAtRest l X (d - 1) sh mI mL mR n W hO np V hM0 w (fun p hp => ?_) s hs (by omega) (by omega)) ⟨_, rfl, rfl⟩ q0 (by omega) rfl (by decide) (by simp [Value.category]) rfl ?_
      · have := hw p hp
        rw [h0, Nat.zero_testBit] at this
        exact ⟨this.1, this.2 rfl⟩
      rintro r M' ⟨rfl, mI2, mL2, rfl, k1, k2, k3⟩
      refine hG.run [] 60 ?_
      simp [wp, stepI, ln, jmp, cmpI, Value.category, rd, tyF, va_rf, st1, st2, clr, isLg, CB, inx_0, inx_1, inx_2, inx_3, inx_4, inx_5, bI_0, bI_1, bI_ok, fin3, tyX9, entL, q0, dX9_pairFrom_0, dX9_pairFrom_1, dX9_pairFrom_2, dX9_pairFrom_3, dX9_pairFrom_4, fT_9_41, dX9_pairFrom_7, dX9_pairFrom_10, dX9_pairFrom_11, fT_9_18, dX9_pairFrom_14, dX9_pairFrom_15, dX9_pairFrom_16, dX9_pairFrom_17, dX9_pairFrom_20, dX9_pairFrom_23, dX9_pairFrom_26, dX9_pairFrom_27, dX9_pairFrom_28, dX9_pairFrom_31, dX9_pairFrom_34, dX9_pairFrom_35, dX9_pairFrom_38, dX9_pairFrom_39, dX9_pairFrom_40, dX9_pairFrom_41, dX9_pairFrom_44, dX9_pairFrom_45, dX9_pairFrom_46, dX9_pairFrom_47, dX9_pairFrom_48, dX9_pairFrom_50, dX9_pairFrom_52, dX9_pairFrom_53, dX9_pairFrom_56, dX9_pairFrom_59, dX9_pairFrom_60, dX9_pairFrom_63, dX9_pairFrom_65, dX9_pairFrom_66, dX9_pairFrom_67, dX9_pairFrom_70, dX9_pairFrom_71, dX9_pairFrom_72, dX9_pairFrom_74, dX9_pairFrom_75, dX9_pairFrom_76, dX9_pairFrom_77, dX9_pairFrom_80, dX9_pairFrom_83, dX9_pairFrom_86]
      exact hP _ _ ⟨rfl, mI2, mL2, rfl, fun a k c1 _ => k1 a k c1, k2, k3⟩
  have loop0 : ∀ f one, np - one < f → one ≤ np → (∀ p, p < one → t.testBit p = false) → G 2 [some (.ref W), some (.int (nI least)), some (.int (nI depth)), some (.int (nI one)), none] [] (sh, mI, mL, mR, n) := by
    intro f
    induction f with
    | zero => intro one h; omega
    | succ f ih0 =>
      intro one hf ho hlow
      by_cases hon : one < np
      · have mo := (hw one hon).1
        have wo := (hw one hon).2
        cases hb : t.testBit one with
        | true =>
          rw [hb] at mo
          have mo' : mI (W + 3) one = -nI 1 := mo
          have q := g26 one none ho hlow (fun _ => hb)
          refine hG.run [2, 26] 60 ?_
          simp [wp, stepI, ln, jmp, cmpI, Value.category, rd, tyF, va_rf, st1, st2, clr, isLg, CB, inx_0, inx_1, inx_2, inx_3, inx_4, inx_5, bI_0, bI_1, bI_ok, fin3, tyX9, entL, q0, q_mate, dX9_pairFrom_0, dX9_pairFrom_1, dX9_pairFrom_2, dX9_pairFrom_3, dX9_pairFrom_4, fT_9_41, dX9_pairFrom_7, dX9_pairFrom_10, dX9_pairFrom_11, fT_9_18, dX9_pairFrom_14, dX9_pairFrom_15, dX9_pairFrom_16, dX9_pairFrom_17, dX9_pairFrom_20, dX9_pairFrom_23, dX9_pairFrom_26, dX9_pairFrom_27, dX9_pairFrom_28, dX9_pairFrom_31, dX9_pairFrom_34, dX9_pairFrom_35, dX9_pairFrom_38, dX9_pairFrom_39, dX9_pairFrom_40, dX9_pairFrom_41, dX9_pairFrom_44, dX9_pairFrom_45, dX9_pairFrom_46, dX9_pairFrom_47, dX9_pairFrom_48, dX9_pairFrom_50, dX9_pairFrom_52, dX9_pairFrom_53, dX9_pairFrom_56, dX9_pairFrom_59, dX9_pairFrom_60, dX9_pairFrom_63, dX9_pairFrom_65, dX9_pairFrom_66, dX9_pairFrom_67, dX9_pairFrom_70, dX9_pairFrom_71, dX9_pairFrom_72, dX9_pairFrom_74, dX9_pairFrom_75, dX9_pairFrom_76, dX9_pairFrom_77, dX9_pairFrom_80, dX9_pairFrom_83, dX9_pairFrom_86]
          simp (disch := omega) only [li, nI_add, nI_clamp, nI_ltI, nI_leI, nI_eq, inx_iff, a31, nI_1shl', nI_shr', div_bit, tb1, tb0, fa_or, fa_and, nI_not, pk_sub, nI_dec, h1, mo']
          first
            | exact ⟨fun z => by omega, fun _ => ⟨by omega, q⟩⟩
            | exact ⟨fun z => by omega, fun _ => ⟨by omega, fun _ => q, fun z => absurd trivial z⟩⟩
            | exact ⟨fun z => by omega, fun _ => ⟨by omega, fun _ => q, fun z => absurd rfl z⟩⟩
        | false =>
          rw [hb] at mo
          have mo' : mI (W + 3) one = nI (w one) := mo
          have wo' := wo hb
          have ne := m10 (w one) (by omega)
          refine hG.run [2, 26] 60 ?_
          simp [wp, stepI, ln, jmp, cmpI, Value.category, rd, tyF, va_rf, st1, st2, clr, isLg, CB, inx_0, inx_1, inx_2, inx_3, inx_4, inx_5, bI_0, bI_1, bI_ok, fin3, tyX9, entL, q0, q_mate, dX9_pairFrom_0, dX9_pairFrom_1, dX9_pairFrom_2, dX9_pairFrom_3, dX9_pairFrom_4, fT_9_41, dX9_pairFrom_7, dX9_pairFrom_10, dX9_pairFrom_11, fT_9_18, dX9_pairFrom_14, dX9_pairFrom_15, dX9_pairFrom_16, dX9_pairFrom_17, dX9_pairFrom_20, dX9_pairFrom_23, dX9_pairFrom_26, dX9_pairFrom_27, dX9_pairFrom_28, dX9_pairFrom_31, dX9_pairFrom_34, dX9_pairFrom_35, dX9_pairFrom_38, dX9_pairFrom_39, dX9_pairFrom_40, dX9_pairFrom_41, dX9_pairFrom_44, dX9_pairFrom_45, dX9_pairFrom_46, dX9_pairFrom_47, dX9_pairFrom_48, dX9_pairFrom_50, dX9_pairFrom_52, dX9_pairFrom_53, dX9_pairFrom_56, dX9_pairFrom_59, dX9_pairFrom_60, dX9_pairFrom_63, dX9_pairFrom_65, dX9_pairFrom_66, dX9_pairFrom_67, dX9_pairFrom_70, dX9_pairFrom_71, dX9_pairFrom_72, dX9_pairFrom_74, dX9_pairFrom_75, dX9_pairFrom_76, dX9_pairFrom_77, dX9_pairFrom_80, dX9_pairFrom_83, dX9_pairFrom_86]
          simp (disch := omega) only [li, nI_add, nI_clamp, nI_ltI, nI_leI, nI_eq, inx_iff, a31, nI_1shl', nI_shr', div_bit, tb1, tb0, fa_or, fa_and, nI_not, pk_sub, nI_dec, h1, mo']
          refine ⟨fun z => by omega, fun _ => ⟨by omega, fun z => absurd z ne, fun _ => ih0 (one + 1) (by omega) (by omega) (fun p hp => ?_)⟩⟩
          by_cases e : p = one
          · rw [e]; exact hb
          · exact hlow p (by omega)
      · have q := g26 one none ho hlow (fun z => absurd z hon)
        refine hG.run [2, 26] 60 ?_
        simp [wp, stepI, ln, jmp, cmpI, Value.category, rd, tyF, va_rf, st1, st2, clr, isLg, CB, inx_0, inx_1, inx_2, inx_3, inx_4, inx_5, bI_0, bI_1, bI_ok, fin3, tyX9, entL, q0, q_mate, dX9_pairFrom_0, dX9_pairFrom_1, dX9_pairFrom_2, dX9_pairFrom_3, dX9_pairFrom_4, fT_9_41, dX9_pairFrom_7, dX9_pairFrom_10, dX9_pairFrom_11, fT_9_18, dX9_pairFrom_14, dX9_pairFrom_15, dX9_pairFrom_16, dX9_pairFrom_17, dX9_pairFrom_20, dX9_pairFrom_23, dX9_pairFrom_26, dX9_pairFrom_27, dX9_pairFrom_28, dX9_pairFrom_31, dX9_pairFrom_34, dX9_pairFrom_35, dX9_pairFrom_38, dX9_pairFrom_39, dX9_pairFrom_40, dX9_pairFrom_41, dX9_pairFrom_44, dX9_pairFrom_45, dX9_pairFrom_46, dX9_pairFrom_47, dX9_pairFrom_48, dX9_pairFrom_50, dX9_pairFrom_52, dX9_pairFrom_53, dX9_pairFrom_56, dX9_pairFrom_59, dX9_pairFrom_60, dX9_pairFrom_63, dX9_pairFrom_65, dX9_pairFrom_66, dX9_pairFrom_67, dX9_pairFrom_70, dX9_pairFrom_71, dX9_pairFrom_72, dX9_pairFrom_74, dX9_pairFrom_75, dX9_pairFrom_76, dX9_pairFrom_77, dX9_pairFrom_80, dX9_pairFrom_83, dX9_pairFrom_86]
        simp (disch := omega) only [li, nI_add, nI_clamp, nI_ltI, nI_leI, nI_eq, inx_iff, a31, nI_1shl', nI_shr', div_bit, tb1, tb0, fa_or, fa_and, nI_not, pk_sub, nI_dec, h1]
        exact ⟨fun _ => q, fun z => by omega⟩
  refine hG.run [2] 60 ?_
  simp [wp, stepI, ln, jmp, cmpI, Value.category, rd, tyF, va_rf, st1, st2, clr, isLg, CB, inx_0, inx_1, inx_2, inx_3, inx_4, inx_5, bI_0, bI_1, bI_ok, fin3, tyX9, entL, q0, dX9_pairFrom_0, dX9_pairFrom_1, dX9_pairFrom_2, dX9_pairFrom_3, dX9_pairFrom_4, fT_9_41, dX9_pairFrom_7, dX9_pairFrom_10, dX9_pairFrom_11, fT_9_18, dX9_pairFrom_14, dX9_pairFrom_15, dX9_pairFrom_16, dX9_pairFrom_17, dX9_pairFrom_20, dX9_pairFrom_23, dX9_pairFrom_26, dX9_pairFrom_27, dX9_pairFrom_28, dX9_pairFrom_31, dX9_pairFrom_34, dX9_pairFrom_35, dX9_pairFrom_38, dX9_pairFrom_39, dX9_pairFrom_40, dX9_pairFrom_41, dX9_pairFrom_44, dX9_pairFrom_45, dX9_pairFrom_46, dX9_pairFrom_47, dX9_pairFrom_48, dX9_pairFrom_50, dX9_pairFrom_52, dX9_pairFrom_53, dX9_pairFrom_56, dX9_pairFrom_59, dX9_pairFrom_60, dX9_pairFrom_63, dX9_pairFrom_65, dX9_pairFrom_66, dX9_pairFrom_67, dX9_pairFrom_70, dX9_pairFrom_71, dX9_pairFrom_72, dX9_pairFrom_74, dX9_pairFrom_75, dX9_pairFrom_76, dX9_pairFrom_77, dX9_pairFrom_80, dX9_pairFrom_83, dX9_pairFrom_86]
  exact loop0 (np + 1) least (by omega) hle hlo
