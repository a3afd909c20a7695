theorem nI_dec (a : Nat) : nI a + -nI 1 = nI a - nI 1 := (Int32.sub_eq_add_neg _ _).symm
theorem Gd.mmin {l : Launch} {X : Cx} {own : Nat} {ini : Bool} {cc : ByteArray} {rt : Option FieldType} {d : Nat} {P : Option Value → Mm → Prop} {G : Nat → List (Option Value) → List Value → Mm → Prop} (h : Gd l X own ini cc rt d P G) {pc idx : Nat} {L : List (Option Value)} {M : Mm} {x y : Int32} (hd : decode cc pc = .ok (.invokestatic idx, 3)) (hw : Cond.methodLink (RN own) idx Lib.Math.min.name ∈ gtbl) (st : List Value) (hdd : 1 ≤ d) (hs : (st.map (fun v => v.category)).sum ≤ 8) (kk : G (pc + 3) L (.int (if y < x then y else x) :: st) M) : G pc L (.int y :: .int x :: st) M := h.2.2.2.2.2 pc idx L st M x y hd hw hdd hs kk
theorem Gd.mmax {l : Launch} {X : Cx} {own : Nat} {ini : Bool} {cc : ByteArray} {rt : Option FieldType} {d : Nat} {P : Option Value → Mm → Prop} {G : Nat → List (Option Value) → List Value → Mm → Prop} (h : Gd l X own ini cc rt d P G) {pc idx : Nat} {L : List (Option Value)} {M : Mm} {x y : Int32} (hd : decode cc pc = .ok (.invokestatic idx, 3)) (hw : Cond.methodLink (RN own) idx Lib.Math.max.name ∈ gtbl) (st : List Value) (hdd : 1 ≤ d) (hs : (st.map (fun v => v.category)).sum ≤ 8) (kk : G (pc + 3) L (.int (if x < y then y else x) :: st) M) : G pc L (.int y :: .int x :: st) M := h.2.2.2.2.1 pc idx L st M x y hd hw hdd hs kk
theorem MS.link {own idx : Nat} {y : MethodName} {cc : ByteArray} {n : Nat} {r : Option FieldType} {np : Nat} (h : MS own idx y cc n r np) : Cond.methodLink (RN own) idx y ∈ gtbl := (h.1 _ (List.mem_append_left _ List.mem_cons_self)).1
theorem nI_min {a b : Nat} (ha : a < 2 ^ 31) (hb : b < 2 ^ 31) : (if nI b < nI a then nI b else nI a) = nI (Nat.min a b) := by
  by_cases h : b < a
  · rw [if_pos ((nI_ltI hb ha).mpr h), show Nat.min a b = b from Nat.min_eq_right (by omega)]
  · rw [if_neg (fun z => h ((nI_ltI hb ha).mp z)), show Nat.min a b = a from Nat.min_eq_left (by omega)]
theorem nI_max {a b : Nat} (ha : a < 2 ^ 31) (hb : b < 2 ^ 31) : (if nI a < nI b then nI b else nI a) = nI (Nat.max a b) := by
  by_cases h : a < b
  · rw [if_pos ((nI_ltI ha hb).mpr h), show Nat.max a b = b from Nat.max_eq_right (by omega)]
  · rw [if_neg (fun z => h ((nI_ltI ha hb).mp z)), show Nat.max a b = a from Nat.max_eq_left (by omega)]
/-- a saying counts for a master (w below 0: for both) -/
def mkO (w : Int32) (x : Nat) : Bool := decide (w < nI 0) || decide (nI x = w)
/-- how many of the sayings of p break if the set stands ahead -/
def brk (c : Nat) (fi se ma : Nat → Nat) (w : Int32) (p t : Nat) : Nat := fb_ct (fun k => decide (fi k = p) && t.testBit (se k) && mkO w (ma k)) c
theorem brk_le (c : Nat) (fi se ma : Nat → Nat) (w : Int32) (p t : Nat) : brk c fi se ma w p t ≤ c := fb_ct_le _ _
set_option maxHeartbeats 4000000 in
set_option maxRecDepth 100000 in
theorem c12_broken (l : Launch) (X : Cx) (d : Nat) (sh : Nat → Option Sh) (mI : Nat → Nat → Int32) (mL : Nat → Nat → Int64) (mR : Nat → Nat → Option Nat) (n : Nat) (hL : ML sh mR) (c : Nat) (fi se ma : Nat → Nat) (hS : SayM mI c fi se ma) (w : Int32) (p t : Nat) (hp : p < 10) (ht : t < 1024) : Cn l X yX12_broken cX12_broken 6 (some .int) d [.ref 129, .int (nI p), .int (nI t), .int w] (sh, mI, mL, mR, n) (fun r M' => M' = (sh, mI, mL, mR, n) ∧ r = some (.int (nI (brk c fi se ma w p t)))) 0 0 := by
  refine Cn.run 12 false (by decide) rfl (by decide) (by simp [entA, Value.category]) ?_
  intro P G hP hG
  have q0 := hL.1
  have q_s := hL.2 (41, 156, .int, 144) (by decide)
  dsimp only at q_s
  have loop : ∀ f i, c - i < f → i ≤ c → G 6 [some (.ref 129), some (.int (nI p)), some (.int (nI t)), some (.int w), some (.int (nI (brk i fi se ma w p t))), some (.int (nI i))] [] (sh, mI, mL, mR, n) := by
    intro f
    induction f with
    | zero => intro i h; omega
    | succ f ih =>
      intro i hf hi
      refine hG.run [6] 60 ?_
      simp [wp, stepI, ln, jmp, cmpI, Value.category, rd, tyF, va_rf, st1, st2, clr, isLg, CB, inx_0, inx_1, inx_2, inx_3, inx_4, inx_5, bI_0, bI_1, bI_ok, fin3, tyX12, entL, q0, q_s, dX12_broken_0, dX12_broken_1, dX12_broken_3, dX12_broken_4, dX12_broken_6, dX12_broken_8, dX12_broken_9, fT_12_90, dX12_broken_12, dX12_broken_13, dX12_broken_14, dX12_broken_17, dX12_broken_19, dX12_broken_20, dX12_broken_23, dX12_broken_24, dX12_broken_26, dX12_broken_27, dX12_broken_28, dX12_broken_29, dX12_broken_32, dX12_broken_33, dX12_broken_34, dX12_broken_37, dX12_broken_39, dX12_broken_41, dX12_broken_42, dX12_broken_43, dX12_broken_44, dX12_broken_45, dX12_broken_46, dX12_broken_47, dX12_broken_50, dX12_broken_51, dX12_broken_54, dX12_broken_55, dX12_broken_58, dX12_broken_60, dX12_broken_62, dX12_broken_63, dX12_broken_64, dX12_broken_65, dX12_broken_68, dX12_broken_69, dX12_broken_72, dX12_broken_73, dX12_broken_74, dX12_broken_76, dX12_broken_79, dX12_broken_82, dX12_broken_84]
      have e0 := hS.1
      have hc := hS.2.1
      simp (disch := omega) only [li, nI_add, nI_clamp, nI_ltI, nI_leI, nI_eq, inx_iff, a31, nI_1shl', nI_shr', div_bit, tb1, tb0, fa_or, fa_and, nI_not, pk_sub, nI_dec, e0]
      refine ⟨fun h => hP _ _ ⟨rfl, by rw [show i = c by omega]⟩, fun h => ?_⟩
      obtain ⟨s1, s2, s3, b1, b2, b3⟩ := hS.2.2 i h
      simp (disch := omega) only [li, nI_add, nI_clamp, nI_ltI, nI_leI, nI_eq, inx_iff, a31, nI_1shl', nI_shr', div_bit, tb1, tb0, fa_or, fa_and, nI_not, pk_sub, nI_dec, s1, s2, s3]
      have nx : ∀ b : Bool, (decide (fi i = p) && t.testBit (se i) && mkO w (ma i)) = b → G 6 [some (.ref 129), some (.int (nI p)), some (.int (nI t)), some (.int w), some (.int (nI (brk i fi se ma w p t + b.toNat))), some (.int (nI (i + 1)))] [] (sh, mI, mL, mR, n) := fun b hb => by
        have := ih (i + 1) (by omega) (by omega)
        unfold brk at this
        rw [fb_ct_succ, hb, show (if b = true then 1 else 0) = b.toNat by cases b <;> rfl] at this
        exact this
      refine ⟨by omega, fun z => nx false (by simp [z]), fun z => ⟨by omega, fun z1 => nx false (by simp [z1]), fun z1 => ⟨fun z2 => nx true (by simp [z, z1, mkO, z2]), fun z2 => ⟨by omega, fun z3 => nx false (by simp [z, z1, mkO, Int32.not_lt.mpr z2, z3]), fun z3 => nx true (by simp [z, z1, mkO, z3])⟩⟩⟩⟩
  refine hG.run [6] 60 ?_
  simp [wp, stepI, ln, jmp, cmpI, Value.category, rd, tyF, va_rf, st1, st2, clr, isLg, CB, inx_0, inx_1, inx_2, inx_3, inx_4, inx_5, bI_0, bI_1, bI_ok, fin3, tyX12, entL, q0, q_s, dX12_broken_0, dX12_broken_1, dX12_broken_3, dX12_broken_4, dX12_broken_6, dX12_broken_8, dX12_broken_9, fT_12_90, dX12_broken_12, dX12_broken_13, dX12_broken_14, dX12_broken_17, dX12_broken_19, dX12_broken_20, dX12_broken_23, dX12_broken_24, dX12_broken_26, dX12_broken_27, dX12_broken_28, dX12_broken_29, dX12_broken_32, dX12_broken_33, dX12_broken_34, dX12_broken_37, dX12_broken_39, dX12_broken_41, dX12_broken_42, dX12_broken_43, dX12_broken_44, dX12_broken_45, dX12_broken_46, dX12_broken_47, dX12_broken_50, dX12_broken_51, dX12_broken_54, dX12_broken_55, dX12_broken_58, dX12_broken_60, dX12_broken_62, dX12_broken_63, dX12_broken_64, dX12_broken_65, dX12_broken_68, dX12_broken_69, dX12_broken_72, dX12_broken_73, dX12_broken_74, dX12_broken_76, dX12_broken_79, dX12_broken_82, dX12_broken_84]
  exact loop (c + 1) 0 (by omega) (by omega)
/-- the least of values, from 1000 on, over those that a set has not -/
def mnO (t : Nat) (g : Nat → Nat) : Nat → Nat
  | 0 => 1000
  | p + 1 => if t.testBit p then mnO t g p else Nat.min (mnO t g p) (g p)
theorem mnO_s (t : Nat) (g : Nat → Nat) (p : Nat) : mnO t g (p + 1) = if t.testBit p then mnO t g p else Nat.min (mnO t g p) (g p) := rfl
theorem mnO_le (t : Nat) (g : Nat → Nat) : ∀ p, mnO t g p ≤ 1000
  | 0 => Nat.le_refl _
  | p + 1 => by
    unfold mnO
    split
    · exact mnO_le t g p
    · exact Nat.le_trans (Nat.min_le_left _ _) (mnO_le t g p)
/-- the fewest that break behind a set -/
def FewR (np c : Nat) (fi se ma : Nat → Nat) (w : Int32) (F : Nat → Nat) : Prop := F (2 ^ np - 1) = 0 ∧ ∀ t, t < 2 ^ np - 1 → F t = mnO t (fun p => brk c fi se ma w p t + F (t ||| 2 ^ p)) np
theorem or_lt {np t p : Nat} (ht : t < 2 ^ np) (hp : p < np) : t ||| 2 ^ p < 2 ^ np := Nat.or_lt_two_pow ht (Nat.pow_lt_pow_right (by decide) hp)
set_option maxHeartbeats 4000000 in
set_option maxRecDepth 100000 in
theorem c12_fewest (l : Launch) (X : Cx) (d : Nat) (sh : Nat → Option Sh) (mI : Nat → Nat → Int32) (mL : Nat → Nat → Int64) (mR : Nat → Nat → Option Nat) (n : Nat) (hL : ML sh mR) (np : Nat) (hp : PupM mI np) (c : Nat) (fi se ma : Nat → Nat) (hS : SayM mI c fi se ma) (w : Int32) (F : Nat → Nat) (hF : FewR np c fi se ma w F) (hd : 1 ≤ d) : Cn l X yX12_fewest cX12_fewest 5 (some .int) d [.ref 129, .int w] (sh, mI, mL, mR, n) (fun r M' => r = some (.int (nI (F 0))) ∧ ∃ mI', M' = (sh, mI', mL, mR, n) ∧ Eqx [162] mI mI' ∧ ∀ t, t ≤ 2 ^ np - 1 → mI' 162 t = nI (F t)) 0 0 := by
  refine Cn.run 12 false (by decide) rfl (by decide) (by simp [entA, Value.category]) ?_
  intro P G hP hG
  have q0 := hL.1
  have q_few := hL.2 (47, 162, .int, 1024) (by decide)
  dsimp only at q_few
  have q_pupils := hL.2 (10, 131, .int, 6) (by decide)
  dsimp only at q_pupils
  have hpp := hp.2
  have hpw := p2_10 hpp
  have hcc := hS.2.1
  have hFl : ∀ t, t < 2 ^ np → F t ≤ 1000 := fun t ht => by
    by_cases z : t = 2 ^ np - 1
    · rw [z, hF.1]; decide
    · rw [hF.2 t (by omega)]; exact mnO_le _ _ _
  refine hG.run [] 20 ?_
  simp [wp, stepI, ln, jmp, cmpI, Value.category, rd, tyF, va_rf, st1, st2, clr, isLg, CB, inx_0, inx_1, inx_2, inx_3, inx_4, inx_5, bI_0, bI_1, bI_ok, fin3, tyX12, entL, q0, dX12_fewest_0, dX12_fewest_1, dX12_fewest_4, dX12_fewest_5, dX12_fewest_6, fT_12_108, dX12_fewest_9, dX12_fewest_10, dX12_fewest_11, dX12_fewest_12, dX12_fewest_13, dX12_fewest_14, dX12_fewest_15, dX12_fewest_16, dX12_fewest_17, dX12_fewest_20, dX12_fewest_21, dX12_fewest_24, dX12_fewest_25, dX12_fewest_28, dX12_fewest_29, dX12_fewest_30, dX12_fewest_32, dX12_fewest_34, dX12_fewest_35, fT_12_13, dX12_fewest_38, dX12_fewest_39, dX12_fewest_40, dX12_fewest_43, dX12_fewest_44, dX12_fewest_46, dX12_fewest_47, dX12_fewest_48, dX12_fewest_49, dX12_fewest_52, dX12_fewest_53, dX12_fewest_56, dX12_fewest_57, dX12_fewest_58, dX12_fewest_61, dX12_fewest_62, dX12_fewest_63, dX12_fewest_64, dX12_fewest_66, dX12_fewest_67, dX12_fewest_68, dX12_fewest_71, dX12_fewest_72, dX12_fewest_75, dX12_fewest_76, dX12_fewest_77, dX12_fewest_79, dX12_fewest_80, dX12_fewest_81, dX12_fewest_82, dX12_fewest_83, dX12_fewest_86, dX12_fewest_87, dX12_fewest_90, dX12_fewest_93, dX12_fewest_96, dX12_fewest_99, dX12_fewest_100, dX12_fewest_103, dX12_fewest_104, dX12_fewest_105]
  refine hG.callV dX12_fewest_1 mv_12_338 [] [] (c12_everybody l X (d - 1) sh mI mL mR n hL np hp) ⟨_, rfl, rfl⟩ q0 (by omega) rfl (by decide) (by simp [Value.category]) rfl ?_
  rintro r M' ⟨rfl, rfl⟩
  have loop1 : ∀ f i mI1 v4, i < f → i ≤ 2 ^ np - 1 → Eqx [162] mI mI1 → (∀ t, i ≤ t → t ≤ 2 ^ np - 1 → mI1 162 t = nI (F t)) → G 16 [some (.ref 129), some (.int w), some (.int (nI (2 ^ np - 1))), some (.int (nI i - nI 1)), v4] [] (sh, mI1, mL, mR, n) := by
    intro f
    induction f with
    | zero => intro i mI1 v4 h; omega
    | succ f ih =>
      intro i mI1 v4 hf hi h1 h2
      match i, hf, hi, h2 with
      | 0, hf, hi, h2 =>
        refine hG.run [32] 20 ?_
        simp [wp, stepI, ln, jmp, cmpI, Value.category, rd, tyF, va_rf, st1, st2, clr, isLg, CB, inx_0, inx_1, inx_2, inx_3, inx_4, inx_5, bI_0, bI_1, bI_ok, fin3, tyX12, entL, q0, q_few, q_pupils, dX12_fewest_0, dX12_fewest_1, dX12_fewest_4, dX12_fewest_5, dX12_fewest_6, fT_12_108, dX12_fewest_9, dX12_fewest_10, dX12_fewest_11, dX12_fewest_12, dX12_fewest_13, dX12_fewest_14, dX12_fewest_15, dX12_fewest_16, dX12_fewest_17, dX12_fewest_20, dX12_fewest_21, dX12_fewest_24, dX12_fewest_25, dX12_fewest_28, dX12_fewest_29, dX12_fewest_30, dX12_fewest_32, dX12_fewest_34, dX12_fewest_35, fT_12_13, dX12_fewest_38, dX12_fewest_39, dX12_fewest_40, dX12_fewest_43, dX12_fewest_44, dX12_fewest_46, dX12_fewest_47, dX12_fewest_48, dX12_fewest_49, dX12_fewest_52, dX12_fewest_53, dX12_fewest_56, dX12_fewest_57, dX12_fewest_58, dX12_fewest_61, dX12_fewest_62, dX12_fewest_63, dX12_fewest_64, dX12_fewest_66, dX12_fewest_67, dX12_fewest_68, dX12_fewest_71, dX12_fewest_72, dX12_fewest_75, dX12_fewest_76, dX12_fewest_77, dX12_fewest_79, dX12_fewest_80, dX12_fewest_81, dX12_fewest_82, dX12_fewest_83, dX12_fewest_86, dX12_fewest_87, dX12_fewest_90, dX12_fewest_93, dX12_fewest_96, dX12_fewest_99, dX12_fewest_100, dX12_fewest_103, dX12_fewest_104, dX12_fewest_105]
        simp (disch := omega) only [li, nI_add, nI_clamp, nI_ltI, nI_leI, nI_eq, inx_iff, a31, nI_1shl', nI_shr', div_bit, tb1, tb0, fa_or, fa_and, nI_not, pk_sub, nI_dec]
        refine ⟨fun _ => ?_, fun z => absurd z (by decide +kernel)⟩
        rw [h2 0 (by omega) (by omega)]
        exact hP _ _ ⟨rfl, mI1, rfl, h1, fun t ht => h2 t (by omega) ht⟩
      | i + 1, hf, hi, h2 =>
        rw [pk_sub (by omega), Nat.add_sub_cancel]
        have loop2 : ∀ f2 j mI2, np - j < f2 → j ≤ np → Eqx [162] mI mI2 → (∀ t, i + 1 ≤ t → t ≤ 2 ^ np - 1 → mI2 162 t = nI (F t)) → mI2 162 i = nI (mnO i (fun p => brk c fi se ma w p i + F (i ||| 2 ^ p)) j) → G 32 [some (.ref 129), some (.int w), some (.int (nI (2 ^ np - 1))), some (.int (nI i)), some (.int (nI j))] [] (sh, mI2, mL, mR, n) := by
          intro f2
          induction f2 with
          | zero => intro j mI2 h; omega
          | succ f2 ih2 =>
            intro j mI2 hf2 hj g1 g2 g3
            refine hG.run [16, 32] 40 ?_
            simp [wp, stepI, ln, jmp, cmpI, Value.category, rd, tyF, va_rf, st1, st2, clr, isLg, CB, inx_0, inx_1, inx_2, inx_3, inx_4, inx_5, bI_0, bI_1, bI_ok, fin3, tyX12, entL, q0, q_few, q_pupils, dX12_fewest_0, dX12_fewest_1, dX12_fewest_4, dX12_fewest_5, dX12_fewest_6, fT_12_108, dX12_fewest_9, dX12_fewest_10, dX12_fewest_11, dX12_fewest_12, dX12_fewest_13, dX12_fewest_14, dX12_fewest_15, dX12_fewest_16, dX12_fewest_17, dX12_fewest_20, dX12_fewest_21, dX12_fewest_24, dX12_fewest_25, dX12_fewest_28, dX12_fewest_29, dX12_fewest_30, dX12_fewest_32, dX12_fewest_34, dX12_fewest_35, fT_12_13, dX12_fewest_38, dX12_fewest_39, dX12_fewest_40, dX12_fewest_43, dX12_fewest_44, dX12_fewest_46, dX12_fewest_47, dX12_fewest_48, dX12_fewest_49, dX12_fewest_52, dX12_fewest_53, dX12_fewest_56, dX12_fewest_57, dX12_fewest_58, dX12_fewest_61, dX12_fewest_62, dX12_fewest_63, dX12_fewest_64, dX12_fewest_66, dX12_fewest_67, dX12_fewest_68, dX12_fewest_71, dX12_fewest_72, dX12_fewest_75, dX12_fewest_76, dX12_fewest_77, dX12_fewest_79, dX12_fewest_80, dX12_fewest_81, dX12_fewest_82, dX12_fewest_83, dX12_fewest_86, dX12_fewest_87, dX12_fewest_90, dX12_fewest_93, dX12_fewest_96, dX12_fewest_99, dX12_fewest_100, dX12_fewest_103, dX12_fewest_104, dX12_fewest_105]
            have e0 : mI2 131 0 = nI np := (g1 _ _ (by decide)).trans hp.1
            simp (disch := omega) only [li, nI_add, nI_clamp, nI_ltI, nI_leI, nI_eq, inx_iff, a31, nI_1shl', nI_shr', div_bit, tb1, tb0, fa_or, fa_and, nI_not, pk_sub, nI_dec, e0, g3]
            have or1 : j < np → i ||| 2 ^ j < 2 ^ np := fun z => or_lt (by omega) z
            refine ⟨fun h => ?_, fun h => ⟨fun z => ?_, fun z => ⟨by omega, ?_⟩⟩⟩
            · refine ih i mI2 _ (by omega) (by omega) g1 (fun t ht ht2 => ?_)
              by_cases hti : t = i
              · rw [hti, g3, hF.2 i (by omega), show j = np by omega]
              · exact g2 t (by omega) ht2
            · refine ih2 (j + 1) mI2 (by omega) (by omega) g1 g2 ?_
              rw [g3, mnO_s, if_pos (by simpa using z)]
            · have or2 := or1 h
              have or3 : i + 1 ≤ i ||| 2 ^ j := by
                have o1 : i ≤ i ||| 2 ^ j := Nat.left_le_or
                have o2 : i ||| 2 ^ j ≠ i := fun y => by
                  have := congrArg (fun q => q.testBit j) y
                  simp only [Nat.testBit_or, Nat.testBit_two_pow_self, z] at this
                  cases this
                omega
              refine hG.callV dX12_fewest_68 mv_12_353 [.int (nI j), .int (nI i), .int w] [.int (nI (mnO i (fun p => brk c fi se ma w p i + F (i ||| 2 ^ p)) j)), .int (nI i), .ref 162] (c12_broken l X (d - 1) sh mI2 mL mR n hL c fi se ma (hS.eqx g1 (by decide)) w j i (by omega) (by omega)) ⟨_, rfl, rfl⟩ q0 (by omega) rfl (by decide) (by simp [Value.category]) rfl ?_
              rintro r M' ⟨rfl, rfl⟩
              refine hG.run [] 40 ?_
              simp [wp, stepI, ln, jmp, cmpI, Value.category, rd, tyF, va_rf, st1, st2, clr, isLg, CB, inx_0, inx_1, inx_2, inx_3, inx_4, inx_5, bI_0, bI_1, bI_ok, fin3, tyX12, entL, q0, q_few, q_pupils, dX12_fewest_0, dX12_fewest_1, dX12_fewest_4, dX12_fewest_5, dX12_fewest_6, fT_12_108, dX12_fewest_9, dX12_fewest_10, dX12_fewest_11, dX12_fewest_12, dX12_fewest_13, dX12_fewest_14, dX12_fewest_15, dX12_fewest_16, dX12_fewest_17, dX12_fewest_20, dX12_fewest_21, dX12_fewest_24, dX12_fewest_25, dX12_fewest_28, dX12_fewest_29, dX12_fewest_30, dX12_fewest_32, dX12_fewest_34, dX12_fewest_35, fT_12_13, dX12_fewest_38, dX12_fewest_39, dX12_fewest_40, dX12_fewest_43, dX12_fewest_44, dX12_fewest_46, dX12_fewest_47, dX12_fewest_48, dX12_fewest_49, dX12_fewest_52, dX12_fewest_53, dX12_fewest_56, dX12_fewest_57, dX12_fewest_58, dX12_fewest_61, dX12_fewest_62, dX12_fewest_63, dX12_fewest_64, dX12_fewest_66, dX12_fewest_67, dX12_fewest_68, dX12_fewest_71, dX12_fewest_72, dX12_fewest_75, dX12_fewest_76, dX12_fewest_77, dX12_fewest_79, dX12_fewest_80, dX12_fewest_81, dX12_fewest_82, dX12_fewest_83, dX12_fewest_86, dX12_fewest_87, dX12_fewest_90, dX12_fewest_93, dX12_fewest_96, dX12_fewest_99, dX12_fewest_100, dX12_fewest_103, dX12_fewest_104, dX12_fewest_105]
              have l1 := brk_le c fi se ma w j i
              have l2 := hFl _ or2
              have l3 := mnO_le i (fun p => brk c fi se ma w p i + F (i ||| 2 ^ p)) j
              have e5 : mI2 162 (i ||| 2 ^ j) = nI (F (i ||| 2 ^ j)) := g2 _ or3 (by omega)
              simp (disch := omega) only [li, nI_add, nI_clamp, nI_ltI, nI_leI, nI_eq, inx_iff, a31, nI_1shl', nI_shr', div_bit, tb1, tb0, fa_or, fa_and, nI_not, pk_sub, nI_dec, e5]
              refine ⟨by omega, ?_⟩
              refine hG.mmin dX12_fewest_83 ms_12_357.link _ (by omega) (by simp [Value.category]) ?_
              rw [nI_min (by omega) (by omega)]
              refine hG.run [32] 40 ?_
              simp [wp, stepI, ln, jmp, cmpI, Value.category, rd, tyF, va_rf, st1, st2, clr, isLg, CB, inx_0, inx_1, inx_2, inx_3, inx_4, inx_5, bI_0, bI_1, bI_ok, fin3, tyX12, entL, q0, q_few, q_pupils, dX12_fewest_0, dX12_fewest_1, dX12_fewest_4, dX12_fewest_5, dX12_fewest_6, fT_12_108, dX12_fewest_9, dX12_fewest_10, dX12_fewest_11, dX12_fewest_12, dX12_fewest_13, dX12_fewest_14, dX12_fewest_15, dX12_fewest_16, dX12_fewest_17, dX12_fewest_20, dX12_fewest_21, dX12_fewest_24, dX12_fewest_25, dX12_fewest_28, dX12_fewest_29, dX12_fewest_30, dX12_fewest_32, dX12_fewest_34, dX12_fewest_35, fT_12_13, dX12_fewest_38, dX12_fewest_39, dX12_fewest_40, dX12_fewest_43, dX12_fewest_44, dX12_fewest_46, dX12_fewest_47, dX12_fewest_48, dX12_fewest_49, dX12_fewest_52, dX12_fewest_53, dX12_fewest_56, dX12_fewest_57, dX12_fewest_58, dX12_fewest_61, dX12_fewest_62, dX12_fewest_63, dX12_fewest_64, dX12_fewest_66, dX12_fewest_67, dX12_fewest_68, dX12_fewest_71, dX12_fewest_72, dX12_fewest_75, dX12_fewest_76, dX12_fewest_77, dX12_fewest_79, dX12_fewest_80, dX12_fewest_81, dX12_fewest_82, dX12_fewest_83, dX12_fewest_86, dX12_fewest_87, dX12_fewest_90, dX12_fewest_93, dX12_fewest_96, dX12_fewest_99, dX12_fewest_100, dX12_fewest_103, dX12_fewest_104, dX12_fewest_105]
              simp (disch := omega) only [li, nI_add, nI_clamp, nI_ltI, nI_leI, nI_eq, inx_iff, a31, nI_1shl', nI_shr', div_bit, tb1, tb0, fa_or, fa_and, nI_not, pk_sub, nI_dec]
              refine ⟨by omega, ih2 (j + 1) _ (by omega) (by omega) (g1.up (by decide)) (fun t ht ht2 => ?_) ?_⟩
              · rw [up2_ne (by omega)]; exact g2 t ht ht2
              · rw [up2_eq, mnO_s, if_neg (by simp [z])]
        refine hG.run [32] 40 ?_
        simp [wp, stepI, ln, jmp, cmpI, Value.category, rd, tyF, va_rf, st1, st2, clr, isLg, CB, inx_0, inx_1, inx_2, inx_3, inx_4, inx_5, bI_0, bI_1, bI_ok, fin3, tyX12, entL, q0, q_few, q_pupils, dX12_fewest_0, dX12_fewest_1, dX12_fewest_4, dX12_fewest_5, dX12_fewest_6, fT_12_108, dX12_fewest_9, dX12_fewest_10, dX12_fewest_11, dX12_fewest_12, dX12_fewest_13, dX12_fewest_14, dX12_fewest_15, dX12_fewest_16, dX12_fewest_17, dX12_fewest_20, dX12_fewest_21, dX12_fewest_24, dX12_fewest_25, dX12_fewest_28, dX12_fewest_29, dX12_fewest_30, dX12_fewest_32, dX12_fewest_34, dX12_fewest_35, fT_12_13, dX12_fewest_38, dX12_fewest_39, dX12_fewest_40, dX12_fewest_43, dX12_fewest_44, dX12_fewest_46, dX12_fewest_47, dX12_fewest_48, dX12_fewest_49, dX12_fewest_52, dX12_fewest_53, dX12_fewest_56, dX12_fewest_57, dX12_fewest_58, dX12_fewest_61, dX12_fewest_62, dX12_fewest_63, dX12_fewest_64, dX12_fewest_66, dX12_fewest_67, dX12_fewest_68, dX12_fewest_71, dX12_fewest_72, dX12_fewest_75, dX12_fewest_76, dX12_fewest_77, dX12_fewest_79, dX12_fewest_80, dX12_fewest_81, dX12_fewest_82, dX12_fewest_83, dX12_fewest_86, dX12_fewest_87, dX12_fewest_90, dX12_fewest_93, dX12_fewest_96, dX12_fewest_99, dX12_fewest_100, dX12_fewest_103, dX12_fewest_104, dX12_fewest_105]
        simp (disch := omega) only [li, nI_add, nI_clamp, nI_ltI, nI_leI, nI_eq, inx_iff, a31, nI_1shl', nI_shr', div_bit, tb1, tb0, fa_or, fa_and, nI_not, pk_sub, nI_dec]
        refine ⟨fun z => absurd z (by omega), fun _ => ⟨by omega, loop2 (np + 1) 0 _ (by omega) (by omega) (h1.up (by decide)) (fun t ht ht2 => ?_) (by rw [up2_eq]; rfl)⟩⟩
        rw [up2_ne (by omega)]; exact h2 t (by omega) ht2
  refine hG.run [16] 40 ?_
  simp [wp, stepI, ln, jmp, cmpI, Value.category, rd, tyF, va_rf, st1, st2, clr, isLg, CB, inx_0, inx_1, inx_2, inx_3, inx_4, inx_5, bI_0, bI_1, bI_ok, fin3, tyX12, entL, q0, q_few, q_pupils, dX12_fewest_0, dX12_fewest_1, dX12_fewest_4, dX12_fewest_5, dX12_fewest_6, fT_12_108, dX12_fewest_9, dX12_fewest_10, dX12_fewest_11, dX12_fewest_12, dX12_fewest_13, dX12_fewest_14, dX12_fewest_15, dX12_fewest_16, dX12_fewest_17, dX12_fewest_20, dX12_fewest_21, dX12_fewest_24, dX12_fewest_25, dX12_fewest_28, dX12_fewest_29, dX12_fewest_30, dX12_fewest_32, dX12_fewest_34, dX12_fewest_35, fT_12_13, dX12_fewest_38, dX12_fewest_39, dX12_fewest_40, dX12_fewest_43, dX12_fewest_44, dX12_fewest_46, dX12_fewest_47, dX12_fewest_48, dX12_fewest_49, dX12_fewest_52, dX12_fewest_53, dX12_fewest_56, dX12_fewest_57, dX12_fewest_58, dX12_fewest_61, dX12_fewest_62, dX12_fewest_63, dX12_fewest_64, dX12_fewest_66, dX12_fewest_67, dX12_fewest_68, dX12_fewest_71, dX12_fewest_72, dX12_fewest_75, dX12_fewest_76, dX12_fewest_77, dX12_fewest_79, dX12_fewest_80, dX12_fewest_81, dX12_fewest_82, dX12_fewest_83, dX12_fewest_86, dX12_fewest_87, dX12_fewest_90, dX12_fewest_93, dX12_fewest_96, dX12_fewest_99, dX12_fewest_100, dX12_fewest_103, dX12_fewest_104, dX12_fewest_105]
  simp (disch := omega) only [li, nI_add, nI_clamp, nI_ltI, nI_leI, nI_eq, inx_iff, a31, nI_1shl', nI_shr', div_bit, tb1, tb0, fa_or, fa_and, nI_not, pk_sub, nI_dec]
  refine ⟨by omega, ?_⟩
  have := loop1 (2 ^ np) (2 ^ np - 1) (up2 mI 162 (2 ^ np - 1) (nI 0)) none (by omega) (by omega) (Eqx.rf.up (by decide)) (fun t ht ht2 => by rw [show t = 2 ^ np - 1 by omega, up2_eq, hF.1])
  exact this
