/-! the best question -/
def bqF (all : Nat) (s : Option (Nat × Nat × Nat)) : Nat := match s with
  | none => all
  | some q => q.1
def bqA (s : Option (Nat × Nat × Nat)) : Int32 := match s with
  | none => -nI 1
  | some q => nI q.2.1
def bqB (s : Option (Nat × Nat × Nat)) : Int32 := match s with
  | none => -nI 1
  | some q => nI q.2.2
def bq1 (A : Nat → Nat → Nat) (all a b : Nat) (s : Option (Nat × Nat × Nat)) : Option (Nat × Nat × Nat) := if Nat.max (A a b) (A b a) < bqF all s then some (Nat.max (A a b) (A b a), a, b) else s
def bqJ2 (A : Nat → Nat → Nat) (all a : Nat) (s : Option (Nat × Nat × Nat)) : Nat → Option (Nat × Nat × Nat)
  | 0 => s
  | b + 1 => if a < b then bq1 A all a b (bqJ2 A all a s b) else bqJ2 A all a s b
def bqO (A : Nat → Nat → Nat) (all np : Nat) : Nat → Option (Nat × Nat × Nat)
  | 0 => none
  | a + 1 => bqJ2 A all a (bqO A all np a) np
theorem bqJ2_s (A : Nat → Nat → Nat) (all a : Nat) (s : Option (Nat × Nat × Nat)) (b : Nat) : bqJ2 A all a s (b + 1) = if a < b then bq1 A all a b (bqJ2 A all a s b) else bqJ2 A all a s b := rfl
theorem bqJ2_0 {A : Nat → Nat → Nat} {all a : Nat} {s : Option (Nat × Nat × Nat)} : ∀ {b : Nat}, b ≤ a + 1 → bqJ2 A all a s b = s
  | 0, _ => rfl
  | b + 1, h => by rw [bqJ2_s, if_neg (by omega), bqJ2_0 (by omega)]
theorem bq1_lt {A : Nat → Nat → Nat} {all a b : Nat} {s : Option (Nat × Nat × Nat)} (h : bqF all s ≤ all) : bqF all (bq1 A all a b s) ≤ all := by
  unfold bq1
  split
  · rename_i h1
    show Nat.max (A a b) (A b a) ≤ all
    omega
  · exact h
theorem bqJ2_lt {A : Nat → Nat → Nat} {all a : Nat} {s : Option (Nat × Nat × Nat)} (h : bqF all s ≤ all) : ∀ b, bqF all (bqJ2 A all a s b) ≤ all
  | 0 => h
  | b + 1 => by
    rw [bqJ2_s]
    split
    · exact bq1_lt (bqJ2_lt h b)
    · exact bqJ2_lt h b
theorem bqO_lt {A : Nat → Nat → Nat} {all np : Nat} : ∀ a, bqF all (bqO A all np a) ≤ all
  | 0 => Nat.le_refl _
  | a + 1 => bqJ2_lt (bqO_lt a) np
theorem mx_l {a b : Nat} (ha : a < 2 ^ 63) (hb : b < 2 ^ 63) : (if lN a < lN b then lN b else lN a) = lN (Nat.max a b) := by
  have h : lN a < lN b ↔ a < b := pk_lLT ha hb
  by_cases z : a < b
  · rw [if_pos (h.mpr z)]
    congr 1
    exact (Nat.max_eq_right (by omega)).symm
  · rw [if_neg (fun y => z (h.mp y))]
    congr 1
    exact (Nat.max_eq_left (by omega)).symm
set_option maxHeartbeats 4000000 in
set_option maxRecDepth 100000 in
theorem c7_bestQuestion (l : Launch) (X : Cx) (d : Nat) (sh : Nat → Option Sh) (mI : Nat → Nat → Int32) (mL : Nat → Nat → Int64) (mR : Nat → Nat → Option Nat) (n : Nat) (T : Nat) (hO : OL sh mR T 7 ob7) (np : Nat) (h1 : mI T 6 = nI np) (h2 : np ≤ 10) (h3 : mI T 7 = nI (2 ^ np - 1)) (all : Nat) (hall : mL (T + 3) (2 ^ np - 1) = lN all) (hal : all < 2 ^ 63) (A : Nat → Nat → Nat) (hA : ∀ o q, o < np → q < np → mL (T + 5) (10 * o + q) = lN (A o q) ∧ A o q < 2 ^ 63) (w : Int32) (hd : 1 ≤ d) : Cn l X yX7_bestQuestion cX7_bestQuestion 10 (some .int) d [.ref T, .int w] (sh, mI, mL, mR, n) (fun r M' => M' = (sh, mI, mL, mR, n) ∧ r = some (.int (if w = nI 2 then nI (bqF all (bqO A all np np)) else if w = nI 0 then bqA (bqO A all np np) else bqB (bqO A all np np)))) 0 0 := by
  refine Cn.run 7 false (by decide) rfl (by decide) (by simp [entA, Value.category]) ?_
  intro P G hP hG
  have q0 := hO.1
  have last : ∀ v6 v7 v8 v9, G 88 [some (.ref T), some (.int w), some (.int (bqA (bqO A all np np))), some (.int (bqB (bqO A all np np))), some (.long (lN (bqF all (bqO A all np np)))), none, v6, v7, v8, v9] [] (sh, mI, mL, mR, n) := fun v6 v7 v8 v9 => by
    generalize bqO A all np np = s at hP ⊢
    refine hG.run [] 60 ?_
    simp [wp, stepI, ln, jmp, cmpI, Value.category, rd, tyF, va_rf, st1, st2, clr, isLg, CB, inx_0, inx_1, inx_2, inx_3, inx_4, inx_5, bI_0, bI_1, bI_ok, fin3, tyX7, entL, q0, dX7_bestQuestion_0, dX7_bestQuestion_1, dX7_bestQuestion_2, dX7_bestQuestion_3, dX7_bestQuestion_4, dX7_bestQuestion_5, dX7_bestQuestion_8, dX7_bestQuestion_10, dX7_bestQuestion_11, dX7_bestQuestion_13, dX7_bestQuestion_15, dX7_bestQuestion_16, fT_7_50, dX7_bestQuestion_19, dX7_bestQuestion_22, dX7_bestQuestion_24, dX7_bestQuestion_25, dX7_bestQuestion_26, dX7_bestQuestion_28, dX7_bestQuestion_30, dX7_bestQuestion_31, dX7_bestQuestion_34, dX7_bestQuestion_37, dX7_bestQuestion_38, dX7_bestQuestion_40, dX7_bestQuestion_42, dX7_bestQuestion_45, dX7_bestQuestion_46, dX7_bestQuestion_48, dX7_bestQuestion_50, dX7_bestQuestion_53, dX7_bestQuestion_56, dX7_bestQuestion_58, dX7_bestQuestion_60, dX7_bestQuestion_62, dX7_bestQuestion_63, dX7_bestQuestion_66, dX7_bestQuestion_68, dX7_bestQuestion_69, dX7_bestQuestion_71, dX7_bestQuestion_72, dX7_bestQuestion_74, dX7_bestQuestion_76, dX7_bestQuestion_79, dX7_bestQuestion_82, dX7_bestQuestion_85, dX7_bestQuestion_88, dX7_bestQuestion_89, dX7_bestQuestion_90, dX7_bestQuestion_93, dX7_bestQuestion_95, dX7_bestQuestion_96, dX7_bestQuestion_97, dX7_bestQuestion_98, dX7_bestQuestion_101, dX7_bestQuestion_102, dX7_bestQuestion_105, dX7_bestQuestion_106]
    simp (disch := omega) only [li, nI_add, nI_clamp, nI_ltI, nI_leI, nI_eq, inx_iff, a31, nI_1shl', nI_shr', div_bit, tb1, tb0, fa_or, fa_and, nI_not, pk_sub, nI_dec, lN_i]
    refine ⟨fun z => ⟨fun z2 => hP _ _ ⟨rfl, ?_⟩, fun z2 => hP _ _ ⟨rfl, ?_⟩⟩, fun z => hP _ _ ⟨rfl, ?_⟩⟩
    · rw [if_neg z, if_neg z2]
    · rw [if_neg z, if_pos z2]
    · rw [if_pos z]
  have loop1 : ∀ f a v7 v8 v9, np - a < f → a ≤ np → G 13 [some (.ref T), some (.int w), some (.int (bqA (bqO A all np a))), some (.int (bqB (bqO A all np a))), some (.long (lN (bqF all (bqO A all np a)))), none, some (.int (nI a)), v7, v8, v9] [] (sh, mI, mL, mR, n) := by
    intro f
    induction f with
    | zero => intro a v7 v8 v9 h; omega
    | succ f ih =>
      intro a v7 v8 v9 hf ha
      have nx1 := ih (a + 1)
      clear ih
      rw [show bqO A all np (a + 1) = bqJ2 A all a (bqO A all np a) np from rfl] at nx1
      have bl := bqJ2_lt (A := A) (a := a) (bqO_lt (A := A) (all := all) (np := np) a)
      have loop2 : ∀ f2 b v8 v9, a < np → np - b < f2 → a < b → b ≤ np → G 28 [some (.ref T), some (.int w), some (.int (bqA (bqJ2 A all a (bqO A all np a) b))), some (.int (bqB (bqJ2 A all a (bqO A all np a) b))), some (.long (lN (bqF all (bqJ2 A all a (bqO A all np a) b)))), none, some (.int (nI a)), some (.int (nI b)), v8, v9] [] (sh, mI, mL, mR, n) := by
        intro f2
        induction f2 with
        | zero => intro b v8 v9 han h; omega
        | succ f2 ih2 =>
          intro b v8 v9 han hf2 hab hb
          by_cases hbn : b = np
          · rw [hbn]
            refine hG.run [13] 60 ?_
            simp [wp, stepI, ln, jmp, cmpI, Value.category, rd, tyF, va_rf, st1, st2, clr, isLg, CB, inx_0, inx_1, inx_2, inx_3, inx_4, inx_5, bI_0, bI_1, bI_ok, fin3, tyX7, entL, q0, dX7_bestQuestion_0, dX7_bestQuestion_1, dX7_bestQuestion_2, dX7_bestQuestion_3, dX7_bestQuestion_4, dX7_bestQuestion_5, dX7_bestQuestion_8, dX7_bestQuestion_10, dX7_bestQuestion_11, dX7_bestQuestion_13, dX7_bestQuestion_15, dX7_bestQuestion_16, fT_7_50, dX7_bestQuestion_19, dX7_bestQuestion_22, dX7_bestQuestion_24, dX7_bestQuestion_25, dX7_bestQuestion_26, dX7_bestQuestion_28, dX7_bestQuestion_30, dX7_bestQuestion_31, dX7_bestQuestion_34, dX7_bestQuestion_37, dX7_bestQuestion_38, dX7_bestQuestion_40, dX7_bestQuestion_42, dX7_bestQuestion_45, dX7_bestQuestion_46, dX7_bestQuestion_48, dX7_bestQuestion_50, dX7_bestQuestion_53, dX7_bestQuestion_56, dX7_bestQuestion_58, dX7_bestQuestion_60, dX7_bestQuestion_62, dX7_bestQuestion_63, dX7_bestQuestion_66, dX7_bestQuestion_68, dX7_bestQuestion_69, dX7_bestQuestion_71, dX7_bestQuestion_72, dX7_bestQuestion_74, dX7_bestQuestion_76, dX7_bestQuestion_79, dX7_bestQuestion_82, dX7_bestQuestion_85, dX7_bestQuestion_88, dX7_bestQuestion_89, dX7_bestQuestion_90, dX7_bestQuestion_93, dX7_bestQuestion_95, dX7_bestQuestion_96, dX7_bestQuestion_97, dX7_bestQuestion_98, dX7_bestQuestion_101, dX7_bestQuestion_102, dX7_bestQuestion_105, dX7_bestQuestion_106]
            simp (disch := omega) only [li, nI_add, nI_clamp, nI_ltI, nI_leI, nI_eq, inx_iff, a31, nI_1shl', nI_shr', div_bit, tb1, tb0, fa_or, fa_and, nI_not, pk_sub, nI_dec, h1]
            exact ⟨fun _ => nx1 _ _ _ (by omega) (by omega), fun z => by omega⟩
          have nx2 := ih2 (b + 1)
          rw [bqJ2_s, if_pos hab] at nx2
          have blb := bl b
          clear ih2 nx1 bl
          generalize bqJ2 A all a (bqO A all np a) b = s at nx2 blb ⊢
          obtain ⟨x1, x2⟩ := hA a b han (by omega)
          obtain ⟨y1, y2⟩ := hA b a (by omega) han
          refine hG.run [13, 28] 60 ?_
          simp [wp, stepI, ln, jmp, cmpI, Value.category, rd, tyF, va_rf, st1, st2, clr, isLg, CB, inx_0, inx_1, inx_2, inx_3, inx_4, inx_5, bI_0, bI_1, bI_ok, fin3, tyX7, entL, q0, dX7_bestQuestion_0, dX7_bestQuestion_1, dX7_bestQuestion_2, dX7_bestQuestion_3, dX7_bestQuestion_4, dX7_bestQuestion_5, dX7_bestQuestion_8, dX7_bestQuestion_10, dX7_bestQuestion_11, dX7_bestQuestion_13, dX7_bestQuestion_15, dX7_bestQuestion_16, fT_7_50, dX7_bestQuestion_19, dX7_bestQuestion_22, dX7_bestQuestion_24, dX7_bestQuestion_25, dX7_bestQuestion_26, dX7_bestQuestion_28, dX7_bestQuestion_30, dX7_bestQuestion_31, dX7_bestQuestion_34, dX7_bestQuestion_37, dX7_bestQuestion_38, dX7_bestQuestion_40, dX7_bestQuestion_42, dX7_bestQuestion_45, dX7_bestQuestion_46, dX7_bestQuestion_48, dX7_bestQuestion_50, dX7_bestQuestion_53, dX7_bestQuestion_56, dX7_bestQuestion_58, dX7_bestQuestion_60, dX7_bestQuestion_62, dX7_bestQuestion_63, dX7_bestQuestion_66, dX7_bestQuestion_68, dX7_bestQuestion_69, dX7_bestQuestion_71, dX7_bestQuestion_72, dX7_bestQuestion_74, dX7_bestQuestion_76, dX7_bestQuestion_79, dX7_bestQuestion_82, dX7_bestQuestion_85, dX7_bestQuestion_88, dX7_bestQuestion_89, dX7_bestQuestion_90, dX7_bestQuestion_93, dX7_bestQuestion_95, dX7_bestQuestion_96, dX7_bestQuestion_97, dX7_bestQuestion_98, dX7_bestQuestion_101, dX7_bestQuestion_102, dX7_bestQuestion_105, dX7_bestQuestion_106]
          simp (disch := omega) only [li, nI_add, nI_clamp, nI_ltI, nI_leI, nI_eq, inx_iff, a31, nI_1shl', nI_shr', div_bit, tb1, tb0, fa_or, fa_and, nI_not, pk_sub, nI_dec, h1]
          refine ⟨fun z => by omega, fun z => ?_⟩
          refine hG.callV dX7_bestQuestion_42 mv_7_79 [.int (nI a), .int (nI b)] [] (c7_aheadOf l X (d - 1) sh mI mL mR n T hO a b (by omega) (by omega)) ⟨_, rfl, rfl⟩ q0 (by omega) rfl (by decide) (by simp [Value.category]) rfl ?_
          rintro r M' ⟨rfl, rfl⟩
          rw [x1]
          refine hG.run [] 60 ?_
          simp [wp, stepI, ln, jmp, cmpI, Value.category, rd, tyF, va_rf, st1, st2, clr, isLg, CB, inx_0, inx_1, inx_2, inx_3, inx_4, inx_5, bI_0, bI_1, bI_ok, fin3, tyX7, entL, q0, dX7_bestQuestion_0, dX7_bestQuestion_1, dX7_bestQuestion_2, dX7_bestQuestion_3, dX7_bestQuestion_4, dX7_bestQuestion_5, dX7_bestQuestion_8, dX7_bestQuestion_10, dX7_bestQuestion_11, dX7_bestQuestion_13, dX7_bestQuestion_15, dX7_bestQuestion_16, fT_7_50, dX7_bestQuestion_19, dX7_bestQuestion_22, dX7_bestQuestion_24, dX7_bestQuestion_25, dX7_bestQuestion_26, dX7_bestQuestion_28, dX7_bestQuestion_30, dX7_bestQuestion_31, dX7_bestQuestion_34, dX7_bestQuestion_37, dX7_bestQuestion_38, dX7_bestQuestion_40, dX7_bestQuestion_42, dX7_bestQuestion_45, dX7_bestQuestion_46, dX7_bestQuestion_48, dX7_bestQuestion_50, dX7_bestQuestion_53, dX7_bestQuestion_56, dX7_bestQuestion_58, dX7_bestQuestion_60, dX7_bestQuestion_62, dX7_bestQuestion_63, dX7_bestQuestion_66, dX7_bestQuestion_68, dX7_bestQuestion_69, dX7_bestQuestion_71, dX7_bestQuestion_72, dX7_bestQuestion_74, dX7_bestQuestion_76, dX7_bestQuestion_79, dX7_bestQuestion_82, dX7_bestQuestion_85, dX7_bestQuestion_88, dX7_bestQuestion_89, dX7_bestQuestion_90, dX7_bestQuestion_93, dX7_bestQuestion_95, dX7_bestQuestion_96, dX7_bestQuestion_97, dX7_bestQuestion_98, dX7_bestQuestion_101, dX7_bestQuestion_102, dX7_bestQuestion_105, dX7_bestQuestion_106]
          refine hG.callV dX7_bestQuestion_50 mv_7_79 [.int (nI b), .int (nI a)] [.long (lN (A a b))] (c7_aheadOf l X (d - 1) sh mI mL mR n T hO b a (by omega) (by omega)) ⟨_, rfl, rfl⟩ q0 (by omega) rfl (by decide) (by simp [Value.category]) rfl ?_
          rintro r M' ⟨rfl, rfl⟩
          rw [y1]
          refine hG.callS dX7_bestQuestion_53 ms_7_82 [.long (lN (A a b)), .long (lN (A b a))] [] (cJ_maxL l X (d - 1) _ _ _) (by omega) rfl (by decide) (by simp [Value.category]) rfl ?_
          rintro r M' ⟨rfl, rfl⟩
          rw [mx_l x2 y2]
          have ml : Nat.max (A a b) (A b a) < 2 ^ 63 := Nat.max_lt.mpr ⟨x2, y2⟩
          unfold bq1 at nx2
          generalize Nat.max (A a b) (A b a) = m at ml nx2 ⊢
          have c1 : lN (bqF all s) ≤ lN m ↔ bqF all s ≤ m := pk_lLE (by omega) ml
          have c2 : lN m < lN (bqF all s) ↔ m < bqF all s := pk_lLT ml (by omega)
          refine hG.run [28] 60 ?_
          simp [wp, stepI, ln, jmp, cmpI, Value.category, rd, tyF, va_rf, st1, st2, clr, isLg, CB, inx_0, inx_1, inx_2, inx_3, inx_4, inx_5, bI_0, bI_1, bI_ok, fin3, tyX7, entL, q0, lg_cmp_ge, lg_cmp_lt, dX7_bestQuestion_0, dX7_bestQuestion_1, dX7_bestQuestion_2, dX7_bestQuestion_3, dX7_bestQuestion_4, dX7_bestQuestion_5, dX7_bestQuestion_8, dX7_bestQuestion_10, dX7_bestQuestion_11, dX7_bestQuestion_13, dX7_bestQuestion_15, dX7_bestQuestion_16, fT_7_50, dX7_bestQuestion_19, dX7_bestQuestion_22, dX7_bestQuestion_24, dX7_bestQuestion_25, dX7_bestQuestion_26, dX7_bestQuestion_28, dX7_bestQuestion_30, dX7_bestQuestion_31, dX7_bestQuestion_34, dX7_bestQuestion_37, dX7_bestQuestion_38, dX7_bestQuestion_40, dX7_bestQuestion_42, dX7_bestQuestion_45, dX7_bestQuestion_46, dX7_bestQuestion_48, dX7_bestQuestion_50, dX7_bestQuestion_53, dX7_bestQuestion_56, dX7_bestQuestion_58, dX7_bestQuestion_60, dX7_bestQuestion_62, dX7_bestQuestion_63, dX7_bestQuestion_66, dX7_bestQuestion_68, dX7_bestQuestion_69, dX7_bestQuestion_71, dX7_bestQuestion_72, dX7_bestQuestion_74, dX7_bestQuestion_76, dX7_bestQuestion_79, dX7_bestQuestion_82, dX7_bestQuestion_85, dX7_bestQuestion_88, dX7_bestQuestion_89, dX7_bestQuestion_90, dX7_bestQuestion_93, dX7_bestQuestion_95, dX7_bestQuestion_96, dX7_bestQuestion_97, dX7_bestQuestion_98, dX7_bestQuestion_101, dX7_bestQuestion_102, dX7_bestQuestion_105, dX7_bestQuestion_106]
          simp (disch := omega) only [li, nI_add, nI_clamp, nI_ltI, nI_leI, nI_eq, inx_iff, a31, nI_1shl', nI_shr', div_bit, tb1, tb0, fa_or, fa_and, nI_not, pk_sub, nI_dec, c1, c2]
          refine ⟨fun q => ?_, fun q => ?_⟩
          · rw [if_neg (by omega)] at nx2
            exact nx2 _ _ han (by omega) (by omega) (by omega)
          · rw [if_pos q] at nx2
            exact nx2 _ _ han (by omega) (by omega) (by omega)
      refine hG.run [28, 88] 60 ?_
      simp [wp, stepI, ln, jmp, cmpI, Value.category, rd, tyF, va_rf, st1, st2, clr, isLg, CB, inx_0, inx_1, inx_2, inx_3, inx_4, inx_5, bI_0, bI_1, bI_ok, fin3, tyX7, entL, q0, dX7_bestQuestion_0, dX7_bestQuestion_1, dX7_bestQuestion_2, dX7_bestQuestion_3, dX7_bestQuestion_4, dX7_bestQuestion_5, dX7_bestQuestion_8, dX7_bestQuestion_10, dX7_bestQuestion_11, dX7_bestQuestion_13, dX7_bestQuestion_15, dX7_bestQuestion_16, fT_7_50, dX7_bestQuestion_19, dX7_bestQuestion_22, dX7_bestQuestion_24, dX7_bestQuestion_25, dX7_bestQuestion_26, dX7_bestQuestion_28, dX7_bestQuestion_30, dX7_bestQuestion_31, dX7_bestQuestion_34, dX7_bestQuestion_37, dX7_bestQuestion_38, dX7_bestQuestion_40, dX7_bestQuestion_42, dX7_bestQuestion_45, dX7_bestQuestion_46, dX7_bestQuestion_48, dX7_bestQuestion_50, dX7_bestQuestion_53, dX7_bestQuestion_56, dX7_bestQuestion_58, dX7_bestQuestion_60, dX7_bestQuestion_62, dX7_bestQuestion_63, dX7_bestQuestion_66, dX7_bestQuestion_68, dX7_bestQuestion_69, dX7_bestQuestion_71, dX7_bestQuestion_72, dX7_bestQuestion_74, dX7_bestQuestion_76, dX7_bestQuestion_79, dX7_bestQuestion_82, dX7_bestQuestion_85, dX7_bestQuestion_88, dX7_bestQuestion_89, dX7_bestQuestion_90, dX7_bestQuestion_93, dX7_bestQuestion_95, dX7_bestQuestion_96, dX7_bestQuestion_97, dX7_bestQuestion_98, dX7_bestQuestion_101, dX7_bestQuestion_102, dX7_bestQuestion_105, dX7_bestQuestion_106]
      simp (disch := omega) only [li, nI_add, nI_clamp, nI_ltI, nI_leI, nI_eq, inx_iff, a31, nI_1shl', nI_shr', div_bit, tb1, tb0, fa_or, fa_and, nI_not, pk_sub, nI_dec, h1]
      refine ⟨fun z => by rw [show a = np by omega]; exact last _ _ _ _, fun z => ?_⟩
      have := loop2 (np + 1) (a + 1) v8 v9 z (by omega) (by omega) (by omega)
      rw [bqJ2_0 (Nat.le_refl _)] at this
      exact this
  refine hG.run [] 60 ?_
  simp [wp, stepI, ln, jmp, cmpI, Value.category, rd, tyF, va_rf, st1, st2, clr, isLg, CB, inx_0, inx_1, inx_2, inx_3, inx_4, inx_5, bI_0, bI_1, bI_ok, fin3, tyX7, entL, q0, dX7_bestQuestion_0, dX7_bestQuestion_1, dX7_bestQuestion_2, dX7_bestQuestion_3, dX7_bestQuestion_4, dX7_bestQuestion_5, dX7_bestQuestion_8, dX7_bestQuestion_10, dX7_bestQuestion_11, dX7_bestQuestion_13, dX7_bestQuestion_15, dX7_bestQuestion_16, fT_7_50, dX7_bestQuestion_19, dX7_bestQuestion_22, dX7_bestQuestion_24, dX7_bestQuestion_25, dX7_bestQuestion_26, dX7_bestQuestion_28, dX7_bestQuestion_30, dX7_bestQuestion_31, dX7_bestQuestion_34, dX7_bestQuestion_37, dX7_bestQuestion_38, dX7_bestQuestion_40, dX7_bestQuestion_42, dX7_bestQuestion_45, dX7_bestQuestion_46, dX7_bestQuestion_48, dX7_bestQuestion_50, dX7_bestQuestion_53, dX7_bestQuestion_56, dX7_bestQuestion_58, dX7_bestQuestion_60, dX7_bestQuestion_62, dX7_bestQuestion_63, dX7_bestQuestion_66, dX7_bestQuestion_68, dX7_bestQuestion_69, dX7_bestQuestion_71, dX7_bestQuestion_72, dX7_bestQuestion_74, dX7_bestQuestion_76, dX7_bestQuestion_79, dX7_bestQuestion_82, dX7_bestQuestion_85, dX7_bestQuestion_88, dX7_bestQuestion_89, dX7_bestQuestion_90, dX7_bestQuestion_93, dX7_bestQuestion_95, dX7_bestQuestion_96, dX7_bestQuestion_97, dX7_bestQuestion_98, dX7_bestQuestion_101, dX7_bestQuestion_102, dX7_bestQuestion_105, dX7_bestQuestion_106]
  refine hG.callV dX7_bestQuestion_5 mv_7_75 [] [] (c7_all l X (d - 1) sh mI mL mR n T hO np h3 h2 _ hall) ⟨_, rfl, rfl⟩ q0 (by omega) rfl (by decide) (by simp [Value.category]) rfl ?_
  rintro r M' ⟨rfl, rfl⟩
  refine hG.run [13] 60 ?_
  simp [wp, stepI, ln, jmp, cmpI, Value.category, rd, tyF, va_rf, st1, st2, clr, isLg, CB, inx_0, inx_1, inx_2, inx_3, inx_4, inx_5, bI_0, bI_1, bI_ok, fin3, tyX7, entL, q0, dX7_bestQuestion_0, dX7_bestQuestion_1, dX7_bestQuestion_2, dX7_bestQuestion_3, dX7_bestQuestion_4, dX7_bestQuestion_5, dX7_bestQuestion_8, dX7_bestQuestion_10, dX7_bestQuestion_11, dX7_bestQuestion_13, dX7_bestQuestion_15, dX7_bestQuestion_16, fT_7_50, dX7_bestQuestion_19, dX7_bestQuestion_22, dX7_bestQuestion_24, dX7_bestQuestion_25, dX7_bestQuestion_26, dX7_bestQuestion_28, dX7_bestQuestion_30, dX7_bestQuestion_31, dX7_bestQuestion_34, dX7_bestQuestion_37, dX7_bestQuestion_38, dX7_bestQuestion_40, dX7_bestQuestion_42, dX7_bestQuestion_45, dX7_bestQuestion_46, dX7_bestQuestion_48, dX7_bestQuestion_50, dX7_bestQuestion_53, dX7_bestQuestion_56, dX7_bestQuestion_58, dX7_bestQuestion_60, dX7_bestQuestion_62, dX7_bestQuestion_63, dX7_bestQuestion_66, dX7_bestQuestion_68, dX7_bestQuestion_69, dX7_bestQuestion_71, dX7_bestQuestion_72, dX7_bestQuestion_74, dX7_bestQuestion_76, dX7_bestQuestion_79, dX7_bestQuestion_82, dX7_bestQuestion_85, dX7_bestQuestion_88, dX7_bestQuestion_89, dX7_bestQuestion_90, dX7_bestQuestion_93, dX7_bestQuestion_95, dX7_bestQuestion_96, dX7_bestQuestion_97, dX7_bestQuestion_98, dX7_bestQuestion_101, dX7_bestQuestion_102, dX7_bestQuestion_105, dX7_bestQuestion_106]
  simp (disch := omega) only [li, nI_add, nI_clamp, nI_ltI, nI_leI, nI_eq, inx_iff, a31, nI_1shl', nI_shr', div_bit, tb1, tb0, fa_or, fa_and, nI_not, pk_sub, nI_dec]
  exact loop1 (np + 1) 0 _ _ _ (by omega) (by omega)
