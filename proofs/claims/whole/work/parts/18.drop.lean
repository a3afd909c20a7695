theorem mnO_cong {t : Nat} {g g' : Nat → Nat} : ∀ {n : Nat}, (∀ p, p < n → t.testBit p = false → g p = g' p) → mnO t g n = mnO t g' n
  | 0, _ => rfl
  | n + 1, h => by
    unfold mnO
    rw [mnO_cong (n := n) (fun p hp => h p (by omega))]
    split
    · rfl
    · rename_i hb
      rw [h n (by omega) (by simpa using hb)]
theorem or_gt {t p : Nat} (z : t.testBit p = false) : t < t ||| 2 ^ p := by
  have o1 : t ≤ t ||| 2 ^ p := Nat.left_le_or
  have o2 : t ||| 2 ^ p ≠ t := fun y => by
    have := congrArg (fun q => q.testBit p) y
    simp only [Nat.testBit_or, Nat.testBit_two_pow_self, z] at this
    cases this
  omega
/-- the fewest sayings of master w that break behind the set t -/
def fewC (np c : Nat) (fi se ma : Nat → Nat) (w : Int32) (t : Nat) : Nat := if h : t < 2 ^ np - 1 then mnO t (fun p => brk c fi se ma w p t + (if h2 : t.testBit p = false then fewC np c fi se ma w (t ||| 2 ^ p) else 0)) np else 0
termination_by 2 ^ np - 1 - t
decreasing_by have := or_gt h2; omega
theorem fewC_ok (np c : Nat) (fi se ma : Nat → Nat) (w : Int32) : FewR np c fi se ma w (fewC np c fi se ma w) := by
  refine ⟨by rw [fewC, dif_neg (by omega)], fun t ht => ?_⟩
  rw [fewC, dif_pos ht]
  exact mnO_cong fun p _ hb => by rw [dif_pos hb]
def dropA (np c : Nat) (fi se ma : Nat → Nat) (w : Int32) : Int32 := if wth w (-nI 1) (nI 1) then nI (fewC np c fi se ma w 0) else -nI 2
set_option maxHeartbeats 4000000 in
set_option maxRecDepth 100000 in
theorem c12_dropped (l : Launch) (X : Cx) (d : Nat) (sh : Nat → Option Sh) (mI : Nat → Nat → Int32) (mL : Nat → Nat → Int64) (mR : Nat → Nat → Option Nat) (n : Nat) (hL : ML sh mR) (np : Nat) (hp : PupM mI np) (c : Nat) (fi se ma : Nat → Nat) (hS : SayM mI c fi se ma) (w : Int32) (hd : 2 ≤ d) : Cn l X yX12_dropped cX12_dropped 2 (some .int) d [.ref 129, .int w] (sh, mI, mL, mR, n) (fun r M' => r = some (.int (dropA np c fi se ma w)) ∧ ∃ mI', M' = (sh, mI', mL, mR, n) ∧ Eqf [162] [0] mI mI') 0 0 := by
  refine Cn.run 12 false (by decide) rfl (by decide) (by simp [entA, Value.category]) ?_
  intro P G hP hG
  have q0 := hL.1
  refine hG.run [] 20 ?_
  simp [wp, stepI, ln, jmp, cmpI, Value.category, rd, tyF, va_rf, st1, st2, clr, isLg, CB, inx_0, inx_1, inx_2, inx_3, inx_4, inx_5, bI_0, bI_1, bI_ok, fin3, tyX12, entL, q0, okv, wr, finF, clT, TX12, dX12_dropped_0, dX12_dropped_1, dX12_dropped_2, fT_12_135, dX12_dropped_5, dX12_dropped_6, dX12_dropped_7, dX12_dropped_8, dX12_dropped_11, dX12_dropped_14, dX12_dropped_15, dX12_dropped_16, dX12_dropped_19, dX12_dropped_22, dX12_dropped_24]
  have e1 : Eqf [162] [0] mI (up2 mI 129 0 0) := Eqf.rf.upf (by decide)
  generalize up2 mI 129 0 0 = mI0 at e1 ⊢
  refine hG.callS dX12_dropped_8 ms_12_250 [.int w, .int (-1), .int 1] [] (c12_within l X (d - 1) _ w (-1) 1) (by omega) rfl (by decide) (by simp [Value.category]) rfl ?_
  rintro r M' ⟨rfl, rfl⟩
  rw [show wth w (-1) 1 = wth w (-nI 1) (nI 1) from rfl]
  refine hG.run [] 20 ?_
  simp [wp, stepI, ln, jmp, cmpI, Value.category, rd, tyF, va_rf, st1, st2, clr, isLg, CB, inx_0, inx_1, inx_2, inx_3, inx_4, inx_5, bI_0, bI_1, bI_ok, fin3, tyX12, entL, q0, dX12_dropped_0, dX12_dropped_1, dX12_dropped_2, fT_12_135, dX12_dropped_5, dX12_dropped_6, dX12_dropped_7, dX12_dropped_8, dX12_dropped_11, dX12_dropped_14, dX12_dropped_15, dX12_dropped_16, dX12_dropped_19, dX12_dropped_22, dX12_dropped_24]
  refine ⟨fun h => hP _ _ ⟨by simp [dropA, h, li], _, rfl, e1⟩, fun h => ?_⟩
  refine hG.callV dX12_dropped_16 mv_12_363 [.int w] [] (c12_fewest l X (d - 1) sh mI0 mL mR n hL np (hp.eqf e1 (by decide)) c fi se ma (hS.eqf e1 (by decide)) w _ (fewC_ok _ _ _ _ _ _) (by omega)) ⟨_, rfl, rfl⟩ q0 (by omega) rfl (by decide) (by simp [Value.category]) rfl ?_
  rintro r M' ⟨rfl, mI1, rfl, h1, -⟩
  refine hG.run [] 20 ?_
  simp [wp, stepI, ln, jmp, cmpI, Value.category, rd, tyF, va_rf, st1, st2, clr, isLg, CB, inx_0, inx_1, inx_2, inx_3, inx_4, inx_5, bI_0, bI_1, bI_ok, fin3, tyX12, entL, q0, dX12_dropped_0, dX12_dropped_1, dX12_dropped_2, fT_12_135, dX12_dropped_5, dX12_dropped_6, dX12_dropped_7, dX12_dropped_8, dX12_dropped_11, dX12_dropped_14, dX12_dropped_15, dX12_dropped_16, dX12_dropped_19, dX12_dropped_22, dX12_dropped_24]
  exact hP _ _ ⟨by simp [dropA, h], _, rfl, e1.tr (h1.f (by decide))⟩
def sdB (c : Nat) (fi se ma : Nat → Nat) (w a b : Nat) : Bool := decide (∃ k, k < c ∧ ma k = w ∧ fi k = a ∧ se k = b)
def ulB (c : Nat) (fi se ma : Nat → Nat) (a b : Nat) : Bool := sdB c fi se ma 0 a b && sdB c fi se ma 1 b a || sdB c fi se ma 0 b a && sdB c fi se ma 1 a b
def unlA (np c : Nat) (fi se ma : Nat → Nat) : Nat := fb_sm (fun a => fb_sm (fun b => (decide (a < b) && ulB c fi se ma a b).toNat) np) np
theorem fb_sm_0 {f : Nat → Nat} : ∀ {n : Nat}, (∀ k, k < n → f k = 0) → fb_sm f n = 0
  | 0, _ => rfl
  | n + 1, h => by rw [fb_sm_succ, fb_sm_0 (fun k hk => h k (by omega)), h n (by omega)]
set_option maxHeartbeats 4000000 in
set_option maxRecDepth 100000 in
theorem c12_unlike (l : Launch) (X : Cx) (d : Nat) (sh : Nat → Option Sh) (mI : Nat → Nat → Int32) (mL : Nat → Nat → Int64) (mR : Nat → Nat → Option Nat) (n : Nat) (hL : ML sh mR) (np : Nat) (hp : PupM mI np) (c : Nat) (fi se ma : Nat → Nat) (hS : SayM mI c fi se ma) (hd : 1 ≤ d) : Cn l X yX12_unlike cX12_unlike 4 (some .int) d [.ref 129] (sh, mI, mL, mR, n) (fun r M' => r = some (.int (nI (unlA np c fi se ma))) ∧ ∃ mI', M' = (sh, mI', mL, mR, n) ∧ Eqf [] [0] mI mI') 0 0 := by
  refine Cn.run 12 false (by decide) rfl (by decide) (by simp [entA, Value.category]) ?_
  intro P G hP hG
  have q0 := hL.1
  have q_pupils := hL.2 (10, 131, .int, 6) (by decide)
  dsimp only at q_pupils
  have hpp := hp.2
  refine hG.run [9] 20 ?_
  simp [wp, stepI, ln, jmp, cmpI, Value.category, rd, tyF, va_rf, st1, st2, clr, isLg, CB, inx_0, inx_1, inx_2, inx_3, inx_4, inx_5, bI_0, bI_1, bI_ok, fin3, tyX12, entL, q0, okv, wr, finF, clT, TX12, dX12_unlike_0, dX12_unlike_1, dX12_unlike_2, fT_12_135, dX12_unlike_5, dX12_unlike_6, dX12_unlike_7, dX12_unlike_8, dX12_unlike_9, dX12_unlike_10, dX12_unlike_11, fT_12_13, dX12_unlike_14, dX12_unlike_15, dX12_unlike_16, dX12_unlike_19, dX12_unlike_20, dX12_unlike_21, dX12_unlike_22, dX12_unlike_23, dX12_unlike_24, dX12_unlike_25, dX12_unlike_28, dX12_unlike_29, dX12_unlike_30, dX12_unlike_33, dX12_unlike_34, dX12_unlike_35, dX12_unlike_36, dX12_unlike_37, dX12_unlike_38, dX12_unlike_41, dX12_unlike_44, dX12_unlike_45, dX12_unlike_46, dX12_unlike_47, dX12_unlike_48, dX12_unlike_51, dX12_unlike_54, dX12_unlike_55, dX12_unlike_56, dX12_unlike_57, dX12_unlike_58, dX12_unlike_61, dX12_unlike_64, dX12_unlike_65, dX12_unlike_66, dX12_unlike_67, dX12_unlike_68, dX12_unlike_71, dX12_unlike_74, dX12_unlike_75, dX12_unlike_78, dX12_unlike_79, dX12_unlike_80, dX12_unlike_81, dX12_unlike_84, dX12_unlike_87, dX12_unlike_90, dX12_unlike_93, dX12_unlike_94]
  have e1 : Eqf [] [0] mI (up2 mI 129 0 0) := Eqf.rf.upf (by decide)
  generalize up2 mI 129 0 0 = mI0 at e1 ⊢
  have hS0 := hS.eqf e1 (by decide)
  have e0 := (hp.eqf e1 (by decide)).1
  have loop1 : ∀ f i v3, np - i < f → i ≤ np → G 9 [some (.ref 129), some (.int (nI (fb_sm (fun a => fb_sm (fun b => (decide (a < b) && ulB c fi se ma a b).toNat) np) i))), some (.int (nI i)), v3] [] (sh, mI0, mL, mR, n) := by
    intro f
    induction f with
    | zero => intro i v3 h; omega
    | succ f ih =>
      intro i v3 hf hi
      have loop2 : ∀ f2 j, np - j < f2 → j ≤ np → i < j → G 23 [some (.ref 129), some (.int (nI (fb_sm (fun a => fb_sm (fun b => (decide (a < b) && ulB c fi se ma a b).toNat) np) i + fb_sm (fun b => (decide (i < b) && ulB c fi se ma i b).toNat) j))), some (.int (nI i)), some (.int (nI j))] [] (sh, mI0, mL, mR, n) := by
        intro f2
        induction f2 with
        | zero => intro j h; omega
        | succ f2 ih2 =>
          intro j hf2 hj hij
          refine hG.run [9, 23] 30 ?_
          simp [wp, stepI, ln, jmp, cmpI, Value.category, rd, tyF, va_rf, st1, st2, clr, isLg, CB, inx_0, inx_1, inx_2, inx_3, inx_4, inx_5, bI_0, bI_1, bI_ok, fin3, tyX12, entL, q0, q_pupils, dX12_unlike_0, dX12_unlike_1, dX12_unlike_2, fT_12_135, dX12_unlike_5, dX12_unlike_6, dX12_unlike_7, dX12_unlike_8, dX12_unlike_9, dX12_unlike_10, dX12_unlike_11, fT_12_13, dX12_unlike_14, dX12_unlike_15, dX12_unlike_16, dX12_unlike_19, dX12_unlike_20, dX12_unlike_21, dX12_unlike_22, dX12_unlike_23, dX12_unlike_24, dX12_unlike_25, dX12_unlike_28, dX12_unlike_29, dX12_unlike_30, dX12_unlike_33, dX12_unlike_34, dX12_unlike_35, dX12_unlike_36, dX12_unlike_37, dX12_unlike_38, dX12_unlike_41, dX12_unlike_44, dX12_unlike_45, dX12_unlike_46, dX12_unlike_47, dX12_unlike_48, dX12_unlike_51, dX12_unlike_54, dX12_unlike_55, dX12_unlike_56, dX12_unlike_57, dX12_unlike_58, dX12_unlike_61, dX12_unlike_64, dX12_unlike_65, dX12_unlike_66, dX12_unlike_67, dX12_unlike_68, dX12_unlike_71, dX12_unlike_74, dX12_unlike_75, dX12_unlike_78, dX12_unlike_79, dX12_unlike_80, dX12_unlike_81, dX12_unlike_84, dX12_unlike_87, dX12_unlike_90, dX12_unlike_93, dX12_unlike_94]
          simp (disch := omega) only [li, nI_add, nI_clamp, nI_ltI, nI_leI, nI_eq, inx_iff, a31, nI_1shl', nI_shr', div_bit, tb1, tb0, fa_or, fa_and, nI_not, pk_sub, nI_dec, e0]
          refine ⟨fun h => ?_, fun h => ?_⟩
          · have := ih (i + 1) (some (.int (nI j))) (by omega) (by omega)
            rw [fb_sm_succ, show np = j by omega] at this
            rw [show j = np by omega] at this ⊢
            exact this
          · have nx : ∀ b : Bool, ulB c fi se ma i j = b → G 23 [some (.ref 129), some (.int (nI (fb_sm (fun a => fb_sm (fun b => (decide (a < b) && ulB c fi se ma a b).toNat) np) i + fb_sm (fun b => (decide (i < b) && ulB c fi se ma i b).toNat) j + b.toNat))), some (.int (nI i)), some (.int (nI (j + 1)))] [] (sh, mI0, mL, mR, n) := fun b hb => by
              have := ih2 (j + 1) (by omega) (by omega) (by omega)
              rw [fb_sm_succ (fun b => (decide (i < b) && ulB c fi se ma i b).toNat), hb, decide_eq_true hij, Bool.true_and, ← Nat.add_assoc] at this
              exact this
            generalize fb_sm (fun a => fb_sm (fun b => (decide (a < b) && ulB c fi se ma a b).toNat) np) i + fb_sm (fun b => (decide (i < b) && ulB c fi se ma i b).toNat) j = A at nx ⊢
            have hit : ulB c fi se ma i j = true → G 74 [some (.ref 129), some (.int (nI A)), some (.int (nI i)), some (.int (nI j))] [.int (nI A)] (sh, mI0, mL, mR, n) := fun z => by
              have := nx true z
              refine hG.run [9, 23] 30 ?_
              simp [wp, stepI, ln, jmp, cmpI, Value.category, rd, tyF, va_rf, st1, st2, clr, isLg, CB, inx_0, inx_1, inx_2, inx_3, inx_4, inx_5, bI_0, bI_1, bI_ok, fin3, tyX12, entL, q0, q_pupils, dX12_unlike_0, dX12_unlike_1, dX12_unlike_2, fT_12_135, dX12_unlike_5, dX12_unlike_6, dX12_unlike_7, dX12_unlike_8, dX12_unlike_9, dX12_unlike_10, dX12_unlike_11, fT_12_13, dX12_unlike_14, dX12_unlike_15, dX12_unlike_16, dX12_unlike_19, dX12_unlike_20, dX12_unlike_21, dX12_unlike_22, dX12_unlike_23, dX12_unlike_24, dX12_unlike_25, dX12_unlike_28, dX12_unlike_29, dX12_unlike_30, dX12_unlike_33, dX12_unlike_34, dX12_unlike_35, dX12_unlike_36, dX12_unlike_37, dX12_unlike_38, dX12_unlike_41, dX12_unlike_44, dX12_unlike_45, dX12_unlike_46, dX12_unlike_47, dX12_unlike_48, dX12_unlike_51, dX12_unlike_54, dX12_unlike_55, dX12_unlike_56, dX12_unlike_57, dX12_unlike_58, dX12_unlike_61, dX12_unlike_64, dX12_unlike_65, dX12_unlike_66, dX12_unlike_67, dX12_unlike_68, dX12_unlike_71, dX12_unlike_74, dX12_unlike_75, dX12_unlike_78, dX12_unlike_79, dX12_unlike_80, dX12_unlike_81, dX12_unlike_84, dX12_unlike_87, dX12_unlike_90, dX12_unlike_93, dX12_unlike_94]
              simp (disch := omega) only [li, nI_add, nI_clamp, nI_ltI, nI_leI, nI_eq, inx_iff, a31, nI_1shl', nI_shr', div_bit, tb1, tb0, fa_or, fa_and, nI_not, pk_sub, nI_dec]
              exact this
            have miss : ulB c fi se ma i j = false → G 78 [some (.ref 129), some (.int (nI A)), some (.int (nI i)), some (.int (nI j))] [.int (nI A)] (sh, mI0, mL, mR, n) := fun z => by
              have := nx false z
              refine hG.run [9, 23] 30 ?_
              simp [wp, stepI, ln, jmp, cmpI, Value.category, rd, tyF, va_rf, st1, st2, clr, isLg, CB, inx_0, inx_1, inx_2, inx_3, inx_4, inx_5, bI_0, bI_1, bI_ok, fin3, tyX12, entL, q0, q_pupils, dX12_unlike_0, dX12_unlike_1, dX12_unlike_2, fT_12_135, dX12_unlike_5, dX12_unlike_6, dX12_unlike_7, dX12_unlike_8, dX12_unlike_9, dX12_unlike_10, dX12_unlike_11, fT_12_13, dX12_unlike_14, dX12_unlike_15, dX12_unlike_16, dX12_unlike_19, dX12_unlike_20, dX12_unlike_21, dX12_unlike_22, dX12_unlike_23, dX12_unlike_24, dX12_unlike_25, dX12_unlike_28, dX12_unlike_29, dX12_unlike_30, dX12_unlike_33, dX12_unlike_34, dX12_unlike_35, dX12_unlike_36, dX12_unlike_37, dX12_unlike_38, dX12_unlike_41, dX12_unlike_44, dX12_unlike_45, dX12_unlike_46, dX12_unlike_47, dX12_unlike_48, dX12_unlike_51, dX12_unlike_54, dX12_unlike_55, dX12_unlike_56, dX12_unlike_57, dX12_unlike_58, dX12_unlike_61, dX12_unlike_64, dX12_unlike_65, dX12_unlike_66, dX12_unlike_67, dX12_unlike_68, dX12_unlike_71, dX12_unlike_74, dX12_unlike_75, dX12_unlike_78, dX12_unlike_79, dX12_unlike_80, dX12_unlike_81, dX12_unlike_84, dX12_unlike_87, dX12_unlike_90, dX12_unlike_93, dX12_unlike_94]
              simp (disch := omega) only [li, nI_add, nI_clamp, nI_ltI, nI_leI, nI_eq, inx_iff, a31, nI_1shl', nI_shr', div_bit, tb1, tb0, fa_or, fa_and, nI_not, pk_sub, nI_dec]
              exact this
            have call : ∀ w a b, w < 2 → a < 10 → b < 10 → Cn l X yX12_says cX12_says 5 (some .boolean) (d - 1) [.ref 129, .int (nI w), .int (nI a), .int (nI b)] (sh, mI0, mL, mR, n) (fun r M' => M' = (sh, mI0, mL, mR, n) ∧ r = some (.int (bI (sdB c fi se ma w a b)))) 0 0 := fun w a b h1 h2 h3 => c12_says l X (d - 1) sh mI0 mL mR n hL c fi se ma hS0 w a b h1 h2 h3
            have tail : (sdB c fi se ma 0 i j && sdB c fi se ma 1 j i) = false → G 54 [some (.ref 129), some (.int (nI A)), some (.int (nI i)), some (.int (nI j))] [.int (nI A)] (sh, mI0, mL, mR, n) := fun z => by
              refine hG.run [] 30 ?_
              simp [wp, stepI, ln, jmp, cmpI, Value.category, rd, tyF, va_rf, st1, st2, clr, isLg, CB, inx_0, inx_1, inx_2, inx_3, inx_4, inx_5, bI_0, bI_1, bI_ok, fin3, tyX12, entL, q0, q_pupils, dX12_unlike_0, dX12_unlike_1, dX12_unlike_2, fT_12_135, dX12_unlike_5, dX12_unlike_6, dX12_unlike_7, dX12_unlike_8, dX12_unlike_9, dX12_unlike_10, dX12_unlike_11, fT_12_13, dX12_unlike_14, dX12_unlike_15, dX12_unlike_16, dX12_unlike_19, dX12_unlike_20, dX12_unlike_21, dX12_unlike_22, dX12_unlike_23, dX12_unlike_24, dX12_unlike_25, dX12_unlike_28, dX12_unlike_29, dX12_unlike_30, dX12_unlike_33, dX12_unlike_34, dX12_unlike_35, dX12_unlike_36, dX12_unlike_37, dX12_unlike_38, dX12_unlike_41, dX12_unlike_44, dX12_unlike_45, dX12_unlike_46, dX12_unlike_47, dX12_unlike_48, dX12_unlike_51, dX12_unlike_54, dX12_unlike_55, dX12_unlike_56, dX12_unlike_57, dX12_unlike_58, dX12_unlike_61, dX12_unlike_64, dX12_unlike_65, dX12_unlike_66, dX12_unlike_67, dX12_unlike_68, dX12_unlike_71, dX12_unlike_74, dX12_unlike_75, dX12_unlike_78, dX12_unlike_79, dX12_unlike_80, dX12_unlike_81, dX12_unlike_84, dX12_unlike_87, dX12_unlike_90, dX12_unlike_93, dX12_unlike_94]
              refine hG.callV dX12_unlike_58 mv_12_369 [.int (nI 0), .int (nI j), .int (nI i)] [.int (nI A)] (call 0 j i (by omega) (by omega) (by omega)) ⟨_, rfl, rfl⟩ q0 (by omega) rfl (by decide) (by simp [Value.category]) rfl ?_
              rintro r M' ⟨rfl, rfl⟩
              refine hG.run [74, 78] 30 ?_
              simp [wp, stepI, ln, jmp, cmpI, Value.category, rd, tyF, va_rf, st1, st2, clr, isLg, CB, inx_0, inx_1, inx_2, inx_3, inx_4, inx_5, bI_0, bI_1, bI_ok, fin3, tyX12, entL, q0, q_pupils, dX12_unlike_0, dX12_unlike_1, dX12_unlike_2, fT_12_135, dX12_unlike_5, dX12_unlike_6, dX12_unlike_7, dX12_unlike_8, dX12_unlike_9, dX12_unlike_10, dX12_unlike_11, fT_12_13, dX12_unlike_14, dX12_unlike_15, dX12_unlike_16, dX12_unlike_19, dX12_unlike_20, dX12_unlike_21, dX12_unlike_22, dX12_unlike_23, dX12_unlike_24, dX12_unlike_25, dX12_unlike_28, dX12_unlike_29, dX12_unlike_30, dX12_unlike_33, dX12_unlike_34, dX12_unlike_35, dX12_unlike_36, dX12_unlike_37, dX12_unlike_38, dX12_unlike_41, dX12_unlike_44, dX12_unlike_45, dX12_unlike_46, dX12_unlike_47, dX12_unlike_48, dX12_unlike_51, dX12_unlike_54, dX12_unlike_55, dX12_unlike_56, dX12_unlike_57, dX12_unlike_58, dX12_unlike_61, dX12_unlike_64, dX12_unlike_65, dX12_unlike_66, dX12_unlike_67, dX12_unlike_68, dX12_unlike_71, dX12_unlike_74, dX12_unlike_75, dX12_unlike_78, dX12_unlike_79, dX12_unlike_80, dX12_unlike_81, dX12_unlike_84, dX12_unlike_87, dX12_unlike_90, dX12_unlike_93, dX12_unlike_94]
              refine ⟨fun z1 => miss (by simp [ulB, z, z1]), fun z1 => ?_⟩
              refine hG.callV dX12_unlike_68 mv_12_369 [.int (nI 1), .int (nI i), .int (nI j)] [.int (nI A)] (call 1 i j (by omega) (by omega) (by omega)) ⟨_, rfl, rfl⟩ q0 (by omega) rfl (by decide) (by simp [Value.category]) rfl ?_
              rintro r M' ⟨rfl, rfl⟩
              refine hG.run [74, 78] 30 ?_
              simp [wp, stepI, ln, jmp, cmpI, Value.category, rd, tyF, va_rf, st1, st2, clr, isLg, CB, inx_0, inx_1, inx_2, inx_3, inx_4, inx_5, bI_0, bI_1, bI_ok, fin3, tyX12, entL, q0, q_pupils, dX12_unlike_0, dX12_unlike_1, dX12_unlike_2, fT_12_135, dX12_unlike_5, dX12_unlike_6, dX12_unlike_7, dX12_unlike_8, dX12_unlike_9, dX12_unlike_10, dX12_unlike_11, fT_12_13, dX12_unlike_14, dX12_unlike_15, dX12_unlike_16, dX12_unlike_19, dX12_unlike_20, dX12_unlike_21, dX12_unlike_22, dX12_unlike_23, dX12_unlike_24, dX12_unlike_25, dX12_unlike_28, dX12_unlike_29, dX12_unlike_30, dX12_unlike_33, dX12_unlike_34, dX12_unlike_35, dX12_unlike_36, dX12_unlike_37, dX12_unlike_38, dX12_unlike_41, dX12_unlike_44, dX12_unlike_45, dX12_unlike_46, dX12_unlike_47, dX12_unlike_48, dX12_unlike_51, dX12_unlike_54, dX12_unlike_55, dX12_unlike_56, dX12_unlike_57, dX12_unlike_58, dX12_unlike_61, dX12_unlike_64, dX12_unlike_65, dX12_unlike_66, dX12_unlike_67, dX12_unlike_68, dX12_unlike_71, dX12_unlike_74, dX12_unlike_75, dX12_unlike_78, dX12_unlike_79, dX12_unlike_80, dX12_unlike_81, dX12_unlike_84, dX12_unlike_87, dX12_unlike_90, dX12_unlike_93, dX12_unlike_94]
              exact ⟨fun z2 => miss (by simp [ulB, z, z2]), fun z2 => hit (by simp [ulB, z1, z2])⟩
            refine hG.callV dX12_unlike_38 mv_12_369 [.int (nI 0), .int (nI i), .int (nI j)] [.int (nI A)] (call 0 i j (by omega) (by omega) (by omega)) ⟨_, rfl, rfl⟩ q0 (by omega) rfl (by decide) (by simp [Value.category]) rfl ?_
            rintro r M' ⟨rfl, rfl⟩
            refine hG.run [54, 74] 30 ?_
            simp [wp, stepI, ln, jmp, cmpI, Value.category, rd, tyF, va_rf, st1, st2, clr, isLg, CB, inx_0, inx_1, inx_2, inx_3, inx_4, inx_5, bI_0, bI_1, bI_ok, fin3, tyX12, entL, q0, q_pupils, dX12_unlike_0, dX12_unlike_1, dX12_unlike_2, fT_12_135, dX12_unlike_5, dX12_unlike_6, dX12_unlike_7, dX12_unlike_8, dX12_unlike_9, dX12_unlike_10, dX12_unlike_11, fT_12_13, dX12_unlike_14, dX12_unlike_15, dX12_unlike_16, dX12_unlike_19, dX12_unlike_20, dX12_unlike_21, dX12_unlike_22, dX12_unlike_23, dX12_unlike_24, dX12_unlike_25, dX12_unlike_28, dX12_unlike_29, dX12_unlike_30, dX12_unlike_33, dX12_unlike_34, dX12_unlike_35, dX12_unlike_36, dX12_unlike_37, dX12_unlike_38, dX12_unlike_41, dX12_unlike_44, dX12_unlike_45, dX12_unlike_46, dX12_unlike_47, dX12_unlike_48, dX12_unlike_51, dX12_unlike_54, dX12_unlike_55, dX12_unlike_56, dX12_unlike_57, dX12_unlike_58, dX12_unlike_61, dX12_unlike_64, dX12_unlike_65, dX12_unlike_66, dX12_unlike_67, dX12_unlike_68, dX12_unlike_71, dX12_unlike_74, dX12_unlike_75, dX12_unlike_78, dX12_unlike_79, dX12_unlike_80, dX12_unlike_81, dX12_unlike_84, dX12_unlike_87, dX12_unlike_90, dX12_unlike_93, dX12_unlike_94]
            refine ⟨fun z1 => tail (by simp [z1]), fun z1 => ?_⟩
            refine hG.callV dX12_unlike_48 mv_12_369 [.int (nI 1), .int (nI j), .int (nI i)] [.int (nI A)] (call 1 j i (by omega) (by omega) (by omega)) ⟨_, rfl, rfl⟩ q0 (by omega) rfl (by decide) (by simp [Value.category]) rfl ?_
            rintro r M' ⟨rfl, rfl⟩
            refine hG.run [54, 74] 30 ?_
            simp [wp, stepI, ln, jmp, cmpI, Value.category, rd, tyF, va_rf, st1, st2, clr, isLg, CB, inx_0, inx_1, inx_2, inx_3, inx_4, inx_5, bI_0, bI_1, bI_ok, fin3, tyX12, entL, q0, q_pupils, dX12_unlike_0, dX12_unlike_1, dX12_unlike_2, fT_12_135, dX12_unlike_5, dX12_unlike_6, dX12_unlike_7, dX12_unlike_8, dX12_unlike_9, dX12_unlike_10, dX12_unlike_11, fT_12_13, dX12_unlike_14, dX12_unlike_15, dX12_unlike_16, dX12_unlike_19, dX12_unlike_20, dX12_unlike_21, dX12_unlike_22, dX12_unlike_23, dX12_unlike_24, dX12_unlike_25, dX12_unlike_28, dX12_unlike_29, dX12_unlike_30, dX12_unlike_33, dX12_unlike_34, dX12_unlike_35, dX12_unlike_36, dX12_unlike_37, dX12_unlike_38, dX12_unlike_41, dX12_unlike_44, dX12_unlike_45, dX12_unlike_46, dX12_unlike_47, dX12_unlike_48, dX12_unlike_51, dX12_unlike_54, dX12_unlike_55, dX12_unlike_56, dX12_unlike_57, dX12_unlike_58, dX12_unlike_61, dX12_unlike_64, dX12_unlike_65, dX12_unlike_66, dX12_unlike_67, dX12_unlike_68, dX12_unlike_71, dX12_unlike_74, dX12_unlike_75, dX12_unlike_78, dX12_unlike_79, dX12_unlike_80, dX12_unlike_81, dX12_unlike_84, dX12_unlike_87, dX12_unlike_90, dX12_unlike_93, dX12_unlike_94]
            exact ⟨fun z2 => hit (by simp [ulB, z1, z2]), fun z2 => tail (by simp [z2])⟩
      refine hG.run [23] 30 ?_
      simp [wp, stepI, ln, jmp, cmpI, Value.category, rd, tyF, va_rf, st1, st2, clr, isLg, CB, inx_0, inx_1, inx_2, inx_3, inx_4, inx_5, bI_0, bI_1, bI_ok, fin3, tyX12, entL, q0, q_pupils, dX12_unlike_0, dX12_unlike_1, dX12_unlike_2, fT_12_135, dX12_unlike_5, dX12_unlike_6, dX12_unlike_7, dX12_unlike_8, dX12_unlike_9, dX12_unlike_10, dX12_unlike_11, fT_12_13, dX12_unlike_14, dX12_unlike_15, dX12_unlike_16, dX12_unlike_19, dX12_unlike_20, dX12_unlike_21, dX12_unlike_22, dX12_unlike_23, dX12_unlike_24, dX12_unlike_25, dX12_unlike_28, dX12_unlike_29, dX12_unlike_30, dX12_unlike_33, dX12_unlike_34, dX12_unlike_35, dX12_unlike_36, dX12_unlike_37, dX12_unlike_38, dX12_unlike_41, dX12_unlike_44, dX12_unlike_45, dX12_unlike_46, dX12_unlike_47, dX12_unlike_48, dX12_unlike_51, dX12_unlike_54, dX12_unlike_55, dX12_unlike_56, dX12_unlike_57, dX12_unlike_58, dX12_unlike_61, dX12_unlike_64, dX12_unlike_65, dX12_unlike_66, dX12_unlike_67, dX12_unlike_68, dX12_unlike_71, dX12_unlike_74, dX12_unlike_75, dX12_unlike_78, dX12_unlike_79, dX12_unlike_80, dX12_unlike_81, dX12_unlike_84, dX12_unlike_87, dX12_unlike_90, dX12_unlike_93, dX12_unlike_94]
      simp (disch := omega) only [li, nI_add, nI_clamp, nI_ltI, nI_leI, nI_eq, inx_iff, a31, nI_1shl', nI_shr', div_bit, tb1, tb0, fa_or, fa_and, nI_not, pk_sub, nI_dec, e0]
      refine ⟨fun h => hP _ _ ⟨by rw [show i = np by omega]; rfl, _, rfl, e1⟩, fun h => ?_⟩
      have := loop2 (np + 1) (i + 1) (by omega) (by omega) (by omega)
      rw [fb_sm_0 (f := fun b => (decide (i < b) && ulB c fi se ma i b).toNat) (fun k hk => by rw [decide_eq_false (by omega)]; rfl), Nat.add_zero] at this
      exact this
  exact loop1 (np + 1) 0 none (by omega) (by omega)
