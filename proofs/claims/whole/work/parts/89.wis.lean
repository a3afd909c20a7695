/-! Wishing: facts, joined, one step of a law -/
set_option maxHeartbeats 4000000 in
set_option maxRecDepth 100000 in
theorem c9_bit (l : Launch) (X : Cx) (d : Nat) (M : Mm) (b : Bool) : Cn l X yX9_bit cX9_bit 1 (some .int) d [.int (bI b)] M (fun r M' => M' = M ∧ r = some (.int (bI b))) 0 0 := by
  refine Cn.run 9 false (by decide) rfl (by decide) (by simp [entA, Value.category]) ?_
  intro P G hP hG
  refine hG.run [] 20 ?_
  simp [wp, stepI, ln, jmp, cmpI, Value.category, rd, tyF, va_rf, st1, st2, clr, isLg, CB, inx_0, inx_1, inx_2, inx_3, inx_4, inx_5, bI_0, bI_1, bI_ok, fin3, entL, dX9_bit_0, dX9_bit_1, dX9_bit_4, dX9_bit_5, dX9_bit_8, dX9_bit_9]
  cases b
  · exact ⟨fun _ => hP _ _ ⟨rfl, rfl⟩, fun z => by cases z⟩
  · exact ⟨fun z => (by cases z), fun _ => hP _ _ ⟨rfl, rfl⟩⟩
def jnV (x a b : Int32) : Int32 := if x = -nI 7 then bI (!decide (a = nI 0) && !decide (b = nI 0)) else if x = -nI 8 then bI (!decide (a = nI 0) || !decide (b = nI 0)) else if x = -nI 9 then bI (decide (a < b)) else if x = -nI 10 then bI (decide (a = b)) else if x = -nI 11 then a + b else if x = -nI 12 then a - b else a * b
set_option maxHeartbeats 4000000 in
set_option maxRecDepth 100000 in
theorem c9_joined (l : Launch) (X : Cx) (d : Nat) (M : Mm) (x a b : Int32) (hd : 1 ≤ d) : Cn l X yX9_joined cX9_joined 3 (some .int) d [.int x, .int a, .int b] M (fun r M' => M' = M ∧ r = some (.int (jnV x a b))) 0 0 := by
  refine Cn.run 9 false (by decide) rfl (by decide) (by simp [entA, Value.category]) ?_
  intro P G hP hG
  have bt : ∀ (pc : Nat) (hdc : decode cX9_joined pc = .ok (.invokestatic 82, 3)) (q : Bool) (L : List (Option Value)), (G (pc + 3) L [.int (bI q)] M) → G pc L [.int (bI q)] M := fun pc hdc q L h => by
    refine hG.callS hdc ms_9_82 [.int (bI q)] [] (c9_bit l X (d - 1) M q) (by omega) rfl (by decide) (by simp [Value.category]) rfl ?_
    rintro r M' ⟨rfl, rfl⟩
    exact h
  have n7 : ¬ -nI 7 = -nI 8 ∧ ¬ -nI 7 = -nI 9 := by decide
  refine hG.run [53, 70, 84, 98] 60 ?_
  simp [wp, stepI, ln, jmp, cmpI, Value.category, rd, tyF, va_rf, st1, st2, clr, isLg, CB, inx_0, inx_1, inx_2, inx_3, inx_4, inx_5, bI_0, bI_1, bI_ok, fin3, swK, entL, dX9_joined_0, dX9_joined_1, dX9_joined_40, dX9_joined_41, dX9_joined_44, dX9_joined_45, dX9_joined_48, dX9_joined_49, dX9_joined_52, dX9_joined_53, dX9_joined_56, dX9_joined_57, dX9_joined_58, dX9_joined_61, dX9_joined_62, dX9_joined_65, dX9_joined_66, dX9_joined_69, dX9_joined_70, dX9_joined_73, dX9_joined_74, dX9_joined_75, dX9_joined_76, dX9_joined_79, dX9_joined_80, dX9_joined_83, dX9_joined_84, dX9_joined_87, dX9_joined_88, dX9_joined_89, dX9_joined_90, dX9_joined_93, dX9_joined_94, dX9_joined_97, dX9_joined_98, dX9_joined_101, dX9_joined_102, dX9_joined_103, dX9_joined_104, dX9_joined_105, dX9_joined_106, dX9_joined_107, dX9_joined_108, dX9_joined_109, dX9_joined_110, dX9_joined_111, dX9_joined_112, dX9_joined_113]
  have g53 : ∀ q : Bool, x = -nI 7 → q = (!decide (a = nI 0) && !decide (b = nI 0)) → G 53 [some (.int x), some (.int a), some (.int b)] [.int (bI q)] M := fun q hx hq => by
    refine bt 53 dX9_joined_53 q _ ?_
    refine hG.run [] 60 ?_
    simp [wp, stepI, ln, jmp, cmpI, Value.category, rd, tyF, va_rf, st1, st2, clr, isLg, CB, inx_0, inx_1, inx_2, inx_3, inx_4, inx_5, bI_0, bI_1, bI_ok, fin3, entL, dX9_joined_0, dX9_joined_1, dX9_joined_40, dX9_joined_41, dX9_joined_44, dX9_joined_45, dX9_joined_48, dX9_joined_49, dX9_joined_52, dX9_joined_53, dX9_joined_56, dX9_joined_57, dX9_joined_58, dX9_joined_61, dX9_joined_62, dX9_joined_65, dX9_joined_66, dX9_joined_69, dX9_joined_70, dX9_joined_73, dX9_joined_74, dX9_joined_75, dX9_joined_76, dX9_joined_79, dX9_joined_80, dX9_joined_83, dX9_joined_84, dX9_joined_87, dX9_joined_88, dX9_joined_89, dX9_joined_90, dX9_joined_93, dX9_joined_94, dX9_joined_97, dX9_joined_98, dX9_joined_101, dX9_joined_102, dX9_joined_103, dX9_joined_104, dX9_joined_105, dX9_joined_106, dX9_joined_107, dX9_joined_108, dX9_joined_109, dX9_joined_110, dX9_joined_111, dX9_joined_112, dX9_joined_113]
    refine hP _ _ ⟨rfl, ?_⟩
    unfold jnV
    rw [if_pos hx, hq]
  have g70 : ∀ q : Bool, x = -nI 8 → q = (!decide (a = nI 0) || !decide (b = nI 0)) → G 70 [some (.int x), some (.int a), some (.int b)] [.int (bI q)] M := fun q hx hq => by
    refine bt 70 dX9_joined_70 q _ ?_
    refine hG.run [] 60 ?_
    simp [wp, stepI, ln, jmp, cmpI, Value.category, rd, tyF, va_rf, st1, st2, clr, isLg, CB, inx_0, inx_1, inx_2, inx_3, inx_4, inx_5, bI_0, bI_1, bI_ok, fin3, entL, dX9_joined_0, dX9_joined_1, dX9_joined_40, dX9_joined_41, dX9_joined_44, dX9_joined_45, dX9_joined_48, dX9_joined_49, dX9_joined_52, dX9_joined_53, dX9_joined_56, dX9_joined_57, dX9_joined_58, dX9_joined_61, dX9_joined_62, dX9_joined_65, dX9_joined_66, dX9_joined_69, dX9_joined_70, dX9_joined_73, dX9_joined_74, dX9_joined_75, dX9_joined_76, dX9_joined_79, dX9_joined_80, dX9_joined_83, dX9_joined_84, dX9_joined_87, dX9_joined_88, dX9_joined_89, dX9_joined_90, dX9_joined_93, dX9_joined_94, dX9_joined_97, dX9_joined_98, dX9_joined_101, dX9_joined_102, dX9_joined_103, dX9_joined_104, dX9_joined_105, dX9_joined_106, dX9_joined_107, dX9_joined_108, dX9_joined_109, dX9_joined_110, dX9_joined_111, dX9_joined_112, dX9_joined_113]
    refine hP _ _ ⟨rfl, ?_⟩
    unfold jnV
    rw [hx, if_neg (by decide), if_pos rfl, hq]
  have g84 : ∀ q : Bool, x = -nI 9 → q = decide (a < b) → G 84 [some (.int x), some (.int a), some (.int b)] [.int (bI q)] M := fun q hx hq => by
    refine bt 84 dX9_joined_84 q _ ?_
    refine hG.run [] 60 ?_
    simp [wp, stepI, ln, jmp, cmpI, Value.category, rd, tyF, va_rf, st1, st2, clr, isLg, CB, inx_0, inx_1, inx_2, inx_3, inx_4, inx_5, bI_0, bI_1, bI_ok, fin3, entL, dX9_joined_0, dX9_joined_1, dX9_joined_40, dX9_joined_41, dX9_joined_44, dX9_joined_45, dX9_joined_48, dX9_joined_49, dX9_joined_52, dX9_joined_53, dX9_joined_56, dX9_joined_57, dX9_joined_58, dX9_joined_61, dX9_joined_62, dX9_joined_65, dX9_joined_66, dX9_joined_69, dX9_joined_70, dX9_joined_73, dX9_joined_74, dX9_joined_75, dX9_joined_76, dX9_joined_79, dX9_joined_80, dX9_joined_83, dX9_joined_84, dX9_joined_87, dX9_joined_88, dX9_joined_89, dX9_joined_90, dX9_joined_93, dX9_joined_94, dX9_joined_97, dX9_joined_98, dX9_joined_101, dX9_joined_102, dX9_joined_103, dX9_joined_104, dX9_joined_105, dX9_joined_106, dX9_joined_107, dX9_joined_108, dX9_joined_109, dX9_joined_110, dX9_joined_111, dX9_joined_112, dX9_joined_113]
    refine hP _ _ ⟨rfl, ?_⟩
    unfold jnV
    rw [hx, if_neg (by decide), if_neg (by decide), if_pos rfl, hq]
  have g98 : ∀ q : Bool, x = -nI 10 → q = decide (a = b) → G 98 [some (.int x), some (.int a), some (.int b)] [.int (bI q)] M := fun q hx hq => by
    refine bt 98 dX9_joined_98 q _ ?_
    refine hG.run [] 60 ?_
    simp [wp, stepI, ln, jmp, cmpI, Value.category, rd, tyF, va_rf, st1, st2, clr, isLg, CB, inx_0, inx_1, inx_2, inx_3, inx_4, inx_5, bI_0, bI_1, bI_ok, fin3, entL, dX9_joined_0, dX9_joined_1, dX9_joined_40, dX9_joined_41, dX9_joined_44, dX9_joined_45, dX9_joined_48, dX9_joined_49, dX9_joined_52, dX9_joined_53, dX9_joined_56, dX9_joined_57, dX9_joined_58, dX9_joined_61, dX9_joined_62, dX9_joined_65, dX9_joined_66, dX9_joined_69, dX9_joined_70, dX9_joined_73, dX9_joined_74, dX9_joined_75, dX9_joined_76, dX9_joined_79, dX9_joined_80, dX9_joined_83, dX9_joined_84, dX9_joined_87, dX9_joined_88, dX9_joined_89, dX9_joined_90, dX9_joined_93, dX9_joined_94, dX9_joined_97, dX9_joined_98, dX9_joined_101, dX9_joined_102, dX9_joined_103, dX9_joined_104, dX9_joined_105, dX9_joined_106, dX9_joined_107, dX9_joined_108, dX9_joined_109, dX9_joined_110, dX9_joined_111, dX9_joined_112, dX9_joined_113]
    refine hP _ _ ⟨rfl, ?_⟩
    unfold jnV
    rw [hx, if_neg (by decide), if_neg (by decide), if_neg (by decide), if_pos rfl, hq]
  have a0 : ∀ y : Int32, y = 0 ↔ y = nI 0 := fun y => Iff.rfl
  refine ⟨⟨fun h => hP _ _ ⟨rfl, ?_⟩, fun h => hP _ _ ⟨rfl, ?_⟩, fun h => ⟨fun z => g98 false h ?_, fun z => g98 true h ?_⟩, fun h => ⟨fun z => g84 false h ?_, fun z => g84 true h ?_⟩, fun h => ⟨fun z => g70 true h ?_, fun z => ⟨fun z2 => g70 false h ?_, fun z2 => g70 true h ?_⟩⟩, fun h => ⟨fun z => g53 false h ?_, fun z => ⟨fun z2 => g53 false h ?_, fun z2 => g53 true h ?_⟩⟩⟩, fun h => hP _ _ ⟨rfl, ?_⟩⟩
  · unfold jnV
    rw [h]; rfl
  · unfold jnV
    rw [h]; rfl
  · rw [decide_eq_false z]
  · rw [decide_eq_true z]
  · rw [decide_eq_false (Int32.not_lt.mpr z)]
  · rw [decide_eq_true z]
  · rw [decide_eq_false (show ¬ a = nI 0 from z)]; rfl
  · rw [decide_eq_true (show a = nI 0 from z), decide_eq_true (show b = nI 0 from z2)]; rfl
  · rw [decide_eq_false (show ¬ b = nI 0 from z2), Bool.or_comm]; rfl
  · rw [decide_eq_true (show a = nI 0 from z)]; rfl
  · rw [decide_eq_true (show b = nI 0 from z2), Bool.and_comm]; rfl
  · rw [decide_eq_false (show ¬ a = nI 0 from z), decide_eq_false (show ¬ b = nI 0 from z2)]; rfl
  · have ne : ∀ k : Int32, (¬ (k.toInt < -12 ∨ -7 < k.toInt)) → ¬ x = k := fun k hk e => hk (by rw [← e]; exact h)
    unfold jnV
    rw [if_neg (ne _ (by decide)), if_neg (ne _ (by decide)), if_neg (ne _ (by decide)), if_neg (ne _ (by decide)), if_neg (ne _ (by decide)), if_neg (ne _ (by decide))]
/-- who is above whom, as the Ladder at Q holds it -/
def LaA (mI : Nat → Nat → Int32) (Q np : Nat) (fits : Bool) (A : Nat → Nat) : Prop := mI Q 6 = nI fits.toNat ∧ (fits = true → ∀ p, p < np → mI (Q + 2) p = nI (A p) ∧ A p < 1024)
theorem LaA.kp {mI mI' : Nat → Nat → Int32} {Q np : Nat} {fits : Bool} {A : Nat → Nat} (h : LaA mI Q np fits A) (h1 : ∀ k, mI' Q k = mI Q k) (h2 : ∀ k, mI' (Q + 2) k = mI (Q + 2) k) : LaA mI' Q np fits A := ⟨(h1 _).trans h.1, fun z p hp => ⟨(h2 _).trans (h.2 z p hp).1, (h.2 z p hp).2⟩⟩
def facV (lk ta tb : Int32) (u b : Bool) (x : Int32) : Int32 := if x = -nI 1 then lk else if x = -nI 2 then ta else if x = -nI 3 then tb else if x = -nI 4 then bI u else bI b
set_option maxHeartbeats 4000000 in
set_option maxRecDepth 100000 in
theorem c9_factOf (l : Launch) (X : Cx) (d : Nat) (sh : Nat → Option Sh) (mI : Nat → Nat → Int32) (mL : Nat → Nat → Int64) (mR : Nat → Nat → Option Nat) (n : Nat) (C Q : Nat) (hC : OL sh mR C 4 ob4) (hQ : OL sh mR Q 2 ob2) (np : Nat) (hp : ScP mI C np) (lk : Nat → Nat → Nat) (hl : ScL mI C np lk) (ta : Nat → Nat) (hta : ∀ p, p < np → mI (C + 2) p = nI (ta p)) (fits : Bool) (A : Nat → Nat) (hA : LaA mI Q np fits A) (a b : Nat) (ha : a < np) (hb : b < np) (x : Int32) (hd : 1 ≤ d) : Cn l X yX9_factOf cX9_factOf 5 (some .int) d [.ref C, .ref Q, .int (nI a), .int (nI b), .int x] (sh, mI, mL, mR, n) (fun r M' => M' = (sh, mI, mL, mR, n) ∧ r = some (.int (facV (nI (lk a b)) (nI (ta a)) (nI (ta b)) (fits && (A a).testBit b) (fits && (A b).testBit a) x))) 0 0 := by
  refine Cn.run 9 false (by decide) rfl (by decide) (by simp [entA, Value.category]) ?_
  intro P G hP hG
  have q0 := hC.1
  have t0 := hQ.1
  have q_tall := hC.2.2 (1, 2, .int, 10) (by decide)
  dsimp only at q_tall
  have hnp := hp.2
  have ta1 := hta a ha
  have tb1 := hta b hb
  refine hG.run [32, 53, 63] 60 ?_
  simp [wp, stepI, ln, jmp, cmpI, Value.category, rd, tyF, va_rf, st1, st2, clr, isLg, CB, inx_0, inx_1, inx_2, inx_3, inx_4, inx_5, bI_0, bI_1, bI_ok, fin3, tyX9, entL, q0, q_tall, swK, tyX4, dX9_factOf_0, dX9_factOf_2, dX9_factOf_32, dX9_factOf_33, dX9_factOf_34, dX9_factOf_35, dX9_factOf_38, dX9_factOf_39, dX9_factOf_40, fT_9_90, dX9_factOf_43, dX9_factOf_44, dX9_factOf_45, dX9_factOf_46, dX9_factOf_47, dX9_factOf_50, dX9_factOf_51, dX9_factOf_52, dX9_factOf_53, dX9_factOf_54, dX9_factOf_55, dX9_factOf_56, dX9_factOf_59, dX9_factOf_62, dX9_factOf_63, dX9_factOf_64, dX9_factOf_65, dX9_factOf_66, dX9_factOf_69, dX9_factOf_72]
  simp (disch := omega) only [nI_clamp, inx_iff, ta1, tb1]
  refine ⟨⟨fun h => ?_, fun h => ⟨by omega, hP _ _ ⟨rfl, ?_⟩⟩, fun h => ⟨by omega, hP _ _ ⟨rfl, ?_⟩⟩, fun h => ?_⟩, fun h => ?_⟩
  · refine hG.run [] 60 ?_
    simp [wp, stepI, ln, jmp, cmpI, Value.category, rd, tyF, va_rf, st1, st2, clr, isLg, CB, inx_0, inx_1, inx_2, inx_3, inx_4, inx_5, bI_0, bI_1, bI_ok, fin3, tyX9, entL, q0, dX9_factOf_0, dX9_factOf_2, dX9_factOf_32, dX9_factOf_33, dX9_factOf_34, dX9_factOf_35, dX9_factOf_38, dX9_factOf_39, dX9_factOf_40, fT_9_90, dX9_factOf_43, dX9_factOf_44, dX9_factOf_45, dX9_factOf_46, dX9_factOf_47, dX9_factOf_50, dX9_factOf_51, dX9_factOf_52, dX9_factOf_53, dX9_factOf_54, dX9_factOf_55, dX9_factOf_56, dX9_factOf_59, dX9_factOf_62, dX9_factOf_63, dX9_factOf_64, dX9_factOf_65, dX9_factOf_66, dX9_factOf_69, dX9_factOf_72]
    refine hG.callV dX9_factOf_56 mv_9_65 [.int (nI b), .int (nI a)] [] (c2_isAbove l X (d - 1) sh mI mL mR n Q hQ fits hA.1 A np hnp hA.2 b a hb ha) ⟨_, rfl, rfl⟩ t0 (by omega) rfl (by decide) (by simp [Value.category]) rfl ?_
    rintro r M' ⟨rfl, rfl⟩
    refine hG.callS dX9_factOf_59 ms_9_82 [.int (bI (fits && (A a).testBit b))] [] (c9_bit l X (d - 1) _ _) (by omega) rfl (by decide) (by simp [Value.category]) rfl ?_
    rintro r M' ⟨rfl, rfl⟩
    refine hG.run [] 60 ?_
    simp [wp, stepI, ln, jmp, cmpI, Value.category, rd, tyF, va_rf, st1, st2, clr, isLg, CB, inx_0, inx_1, inx_2, inx_3, inx_4, inx_5, bI_0, bI_1, bI_ok, fin3, tyX9, entL, q0, dX9_factOf_0, dX9_factOf_2, dX9_factOf_32, dX9_factOf_33, dX9_factOf_34, dX9_factOf_35, dX9_factOf_38, dX9_factOf_39, dX9_factOf_40, fT_9_90, dX9_factOf_43, dX9_factOf_44, dX9_factOf_45, dX9_factOf_46, dX9_factOf_47, dX9_factOf_50, dX9_factOf_51, dX9_factOf_52, dX9_factOf_53, dX9_factOf_54, dX9_factOf_55, dX9_factOf_56, dX9_factOf_59, dX9_factOf_62, dX9_factOf_63, dX9_factOf_64, dX9_factOf_65, dX9_factOf_66, dX9_factOf_69, dX9_factOf_72]
    refine hP _ _ ⟨rfl, ?_⟩
    unfold facV
    rw [h, if_neg (by decide), if_neg (by decide), if_neg (by decide), if_pos (by decide)]
  · unfold facV
    rw [h, if_neg (by decide), if_neg (by decide), if_pos (by decide)]
  · unfold facV
    rw [h, if_neg (by decide), if_pos (by decide)]
  · refine hG.run [] 60 ?_
    simp [wp, stepI, ln, jmp, cmpI, Value.category, rd, tyF, va_rf, st1, st2, clr, isLg, CB, inx_0, inx_1, inx_2, inx_3, inx_4, inx_5, bI_0, bI_1, bI_ok, fin3, tyX9, entL, q0, dX9_factOf_0, dX9_factOf_2, dX9_factOf_32, dX9_factOf_33, dX9_factOf_34, dX9_factOf_35, dX9_factOf_38, dX9_factOf_39, dX9_factOf_40, fT_9_90, dX9_factOf_43, dX9_factOf_44, dX9_factOf_45, dX9_factOf_46, dX9_factOf_47, dX9_factOf_50, dX9_factOf_51, dX9_factOf_52, dX9_factOf_53, dX9_factOf_54, dX9_factOf_55, dX9_factOf_56, dX9_factOf_59, dX9_factOf_62, dX9_factOf_63, dX9_factOf_64, dX9_factOf_65, dX9_factOf_66, dX9_factOf_69, dX9_factOf_72]
    refine hG.callV dX9_factOf_35 mv_9_74 [.int (nI a), .int (nI b)] [] (c4_likingOf l X (d - 1) sh mI mL mR n C hC np hp lk hl a b ha hb) ⟨_, rfl, rfl⟩ q0 (by omega) rfl (by decide) (by simp [Value.category]) rfl ?_
    rintro r M' ⟨rfl, rfl⟩
    refine hG.run [] 60 ?_
    simp [wp, stepI, ln, jmp, cmpI, Value.category, rd, tyF, va_rf, st1, st2, clr, isLg, CB, inx_0, inx_1, inx_2, inx_3, inx_4, inx_5, bI_0, bI_1, bI_ok, fin3, tyX9, entL, q0, dX9_factOf_0, dX9_factOf_2, dX9_factOf_32, dX9_factOf_33, dX9_factOf_34, dX9_factOf_35, dX9_factOf_38, dX9_factOf_39, dX9_factOf_40, fT_9_90, dX9_factOf_43, dX9_factOf_44, dX9_factOf_45, dX9_factOf_46, dX9_factOf_47, dX9_factOf_50, dX9_factOf_51, dX9_factOf_52, dX9_factOf_53, dX9_factOf_54, dX9_factOf_55, dX9_factOf_56, dX9_factOf_59, dX9_factOf_62, dX9_factOf_63, dX9_factOf_64, dX9_factOf_65, dX9_factOf_66, dX9_factOf_69, dX9_factOf_72]
    refine hP _ _ ⟨rfl, ?_⟩
    unfold facV
    rw [h, if_pos (by decide)]
  · have ne : ∀ k : Int32, (¬ (k.toInt < -4 ∨ -1 < k.toInt)) → ¬ x = k := fun k hk e => hk (by rw [← e]; exact h)
    refine hG.run [] 60 ?_
    simp [wp, stepI, ln, jmp, cmpI, Value.category, rd, tyF, va_rf, st1, st2, clr, isLg, CB, inx_0, inx_1, inx_2, inx_3, inx_4, inx_5, bI_0, bI_1, bI_ok, fin3, tyX9, entL, q0, dX9_factOf_0, dX9_factOf_2, dX9_factOf_32, dX9_factOf_33, dX9_factOf_34, dX9_factOf_35, dX9_factOf_38, dX9_factOf_39, dX9_factOf_40, fT_9_90, dX9_factOf_43, dX9_factOf_44, dX9_factOf_45, dX9_factOf_46, dX9_factOf_47, dX9_factOf_50, dX9_factOf_51, dX9_factOf_52, dX9_factOf_53, dX9_factOf_54, dX9_factOf_55, dX9_factOf_56, dX9_factOf_59, dX9_factOf_62, dX9_factOf_63, dX9_factOf_64, dX9_factOf_65, dX9_factOf_66, dX9_factOf_69, dX9_factOf_72]
    refine hG.callV dX9_factOf_66 mv_9_65 [.int (nI a), .int (nI b)] [] (c2_isAbove l X (d - 1) sh mI mL mR n Q hQ fits hA.1 A np hnp hA.2 a b ha hb) ⟨_, rfl, rfl⟩ t0 (by omega) rfl (by decide) (by simp [Value.category]) rfl ?_
    rintro r M' ⟨rfl, rfl⟩
    refine hG.callS dX9_factOf_69 ms_9_82 [.int (bI (fits && (A b).testBit a))] [] (c9_bit l X (d - 1) _ _) (by omega) rfl (by decide) (by simp [Value.category]) rfl ?_
    rintro r M' ⟨rfl, rfl⟩
    refine hG.run [] 60 ?_
    simp [wp, stepI, ln, jmp, cmpI, Value.category, rd, tyF, va_rf, st1, st2, clr, isLg, CB, inx_0, inx_1, inx_2, inx_3, inx_4, inx_5, bI_0, bI_1, bI_ok, fin3, tyX9, entL, q0, dX9_factOf_0, dX9_factOf_2, dX9_factOf_32, dX9_factOf_33, dX9_factOf_34, dX9_factOf_35, dX9_factOf_38, dX9_factOf_39, dX9_factOf_40, fT_9_90, dX9_factOf_43, dX9_factOf_44, dX9_factOf_45, dX9_factOf_46, dX9_factOf_47, dX9_factOf_50, dX9_factOf_51, dX9_factOf_52, dX9_factOf_53, dX9_factOf_54, dX9_factOf_55, dX9_factOf_56, dX9_factOf_59, dX9_factOf_62, dX9_factOf_63, dX9_factOf_64, dX9_factOf_65, dX9_factOf_66, dX9_factOf_69, dX9_factOf_72]
    refine hP _ _ ⟨rfl, ?_⟩
    unfold facV
    rw [if_neg (ne _ (by decide)), if_neg (ne _ (by decide)), if_neg (ne _ (by decide)), if_neg (ne _ (by decide))]
/-! the stack of a law -/
def upJ (f : Nat → Int32) (k : Nat) (v : Int32) : Nat → Int32 := fun j => if j = k then v else f j
def evS (fa : Int32 → Int32) (x : Int32) (s : Nat × (Nat → Int32)) : Nat × (Nat → Int32) :=
  if -nI 6 < x ∧ s.1 < 40 then (s.1 + 1, upJ s.2 s.1 (if x < nI 0 then fa x else x))
  else if x = -nI 6 ∧ 1 ≤ s.1 then (s.1, upJ s.2 (s.1 - 1) (bI (decide (s.2 (s.1 - 1) = nI 0))))
  else if x < -nI 6 ∧ 2 ≤ s.1 then (s.1 - 1, upJ s.2 (s.1 - 2) (jnV x (s.2 (s.1 - 2)) (s.2 (s.1 - 1))))
  else s
def evN (fa : Int32 → Int32) (w : Nat → Int32) (s : Nat × (Nat → Int32)) : Nat → Nat × (Nat → Int32)
  | 0 => s
  | i + 1 => evS fa (w i) (evN fa w s i)
theorem evN_s (fa : Int32 → Int32) (w : Nat → Int32) (s : Nat × (Nat → Int32)) (i : Nat) : evN fa w s (i + 1) = evS fa (w i) (evN fa w s i) := rfl
theorem evS_le {fa : Int32 → Int32} {x : Int32} {s : Nat × (Nat → Int32)} (h : s.1 ≤ 40) : (evS fa x s).1 ≤ 40 := by
  unfold evS
  split
  · show s.1 + 1 ≤ 40; omega
  · split
    · exact h
    · split
      · show s.1 - 1 ≤ 40; omega
      · exact h
theorem evN_le {fa : Int32 → Int32} {w : Nat → Int32} {s : Nat × (Nat → Int32)} (h : s.1 ≤ 40) : ∀ i, (evN fa w s i).1 ≤ 40
  | 0 => h
  | i + 1 => evS_le (evN_le h i)
theorem up2_J {mI : Nat → Nat → Int32} {A k : Nat} {v : Int32} (f : Nat → Int32) (h : ∀ j, mI A j = f j) : ∀ j, up2 mI A k v A j = upJ f k v j := fun j => by
  unfold upJ
  by_cases e : j = k
  · rw [if_pos e, e, up2_eq]
  · rw [if_neg e, up2_ne (fun z => e z.2)]; exact h j
set_option maxHeartbeats 4000000 in
set_option maxRecDepth 100000 in
theorem c9_lawOf (l : Launch) (X : Cx) (d : Nat) (sh : Nat → Option Sh) (mI : Nat → Nat → Int32) (mL : Nat → Nat → Int64) (mR : Nat → Nat → Option Nat) (n : Nat) (W C Q Wc wl : Nat) (hO : OL sh mR W 9 ob9) (hC : OL sh mR C 4 ob4) (hQ : OL sh mR Q 2 ob2) (hwc : mR C 7 = some Wc) (hWc : sh Wc = some (.inr (.int, wl))) (hwl : wl ≤ 1000) (hWcl : Wc < 1000000000) (d1 : W + 4 < C ∨ C + 5 < W) (d2 : W + 4 < Q ∨ Q + 3 < W) (d3 : W + 4 < Wc ∨ Wc < W) (w : Nat → Int32) (hw : ∀ i, i < wl → mI Wc i = w i) (np : Nat) (hp : ScP mI C np) (lk : Nat → Nat → Nat) (hl : ScL mI C np lk) (ta : Nat → Nat) (hta : ∀ p, p < np → mI (C + 2) p = nI (ta p)) (fits : Bool) (A : Nat → Nat) (hA : LaA mI Q np fits A) (a b : Nat) (ha : a < np) (hb : b < np) (v : Int32) (hv : ∀ st, (evN (facV (nI (lk a b)) (nI (ta a)) (nI (ta b)) (fits && (A a).testBit b) (fits && (A b).testBit a)) w (0, st) wl).2 0 = v) (hd : 2 ≤ d) : Cn l X yX9_lawOf cX9_lawOf 8 (some .int) d [.ref W, .ref C, .ref Q, .int (nI a), .int (nI b)] (sh, mI, mL, mR, n) (fun r M' => r = some (.int v) ∧ ∃ mI', M' = (sh, mI', mL, mR, n) ∧ ∀ x k, x ≠ W + 1 → mI' x k = mI x k) 0 0 := by
  refine Cn.run 9 false (by decide) rfl (by decide) (by simp [entA, Value.category]) ?_
  intro P G hP hG
  have q0 := hO.1
  have q_stack := hO.2.2 (0, 1, .int, 40) (by decide)
  dsimp only at q_stack
  have hSl := hO.2.1
  have x1 : W + 1 < 1000000000 := by omega
  have x21 : ¬ W + 1 = 1000000021 := by omega
  have w21 : ¬ Wc = 1000000021 := by omega
  have u0 := hC.1
  obtain ⟨fa, hfa⟩ : ∃ fa, fa = facV (nI (lk a b)) (nI (ta a)) (nI (ta b)) (fits && (A a).testBit b) (fits && (A b).testBit a) := ⟨_, rfl⟩
  rw [← hfa] at hv
  have i40 : Int32.ofNat 40 = nI 40 := rfl
  have iwl : Int32.ofNat wl = nI wl := rfl
  have loop : ∀ f i m1 v7, wl - i < f → i ≤ wl → (∀ x k, x ≠ W + 1 → m1 x k = mI x k) → (∀ j, m1 (W + 1) j = (evN fa w (0, mI (W + 1)) i).2 j) → G 6 [some (.ref W), some (.ref C), some (.ref Q), some (.int (nI a)), some (.int (nI b)), some (.int (nI (evN fa w (0, mI (W + 1)) i).1)), some (.int (nI i)), v7] [] (sh, m1, mL, mR, n) := by
    intro f
    induction f with
    | zero => intro i m1 v7 h; omega
    | succ f ih =>
      intro i m1 v7 hf hi g1 g2
      have tl := evN_le (fa := fa) (w := w) (s := (0, mI (W + 1))) (Nat.zero_le _) i
      by_cases hi2 : i = wl
      · refine hG.run [16, 172] 60 ?_
        simp [wp, stepI, ln, jmp, cmpI, Value.category, rd, tyF, va_rf, st1, st2, clr, isLg, CB, inx_0, inx_1, inx_2, inx_3, inx_4, inx_5, bI_0, bI_1, bI_ok, fin3, tyX9, entL, q0, u0, hwc, hWc, w21, okT, tyX4, dX9_lawOf_0, dX9_lawOf_1, dX9_lawOf_3, dX9_lawOf_4, dX9_lawOf_6, dX9_lawOf_8, dX9_lawOf_9, fT_9_77, dX9_lawOf_12, dX9_lawOf_13, dX9_lawOf_16, dX9_lawOf_17, dX9_lawOf_20, dX9_lawOf_22, dX9_lawOf_23, dX9_lawOf_25, dX9_lawOf_27, dX9_lawOf_29, dX9_lawOf_32, dX9_lawOf_34, dX9_lawOf_35, fT_9_9, dX9_lawOf_38, dX9_lawOf_39, dX9_lawOf_42, dX9_lawOf_43, dX9_lawOf_46, dX9_lawOf_48, dX9_lawOf_50, dX9_lawOf_53, dX9_lawOf_55, dX9_lawOf_58, dX9_lawOf_59, dX9_lawOf_60, dX9_lawOf_61, dX9_lawOf_63, dX9_lawOf_65, dX9_lawOf_68, dX9_lawOf_69, dX9_lawOf_72, dX9_lawOf_75, dX9_lawOf_77, dX9_lawOf_79, dX9_lawOf_82, dX9_lawOf_84, dX9_lawOf_85, dX9_lawOf_88, dX9_lawOf_89, dX9_lawOf_92, dX9_lawOf_94, dX9_lawOf_95, dX9_lawOf_96, dX9_lawOf_97, dX9_lawOf_100, dX9_lawOf_102, dX9_lawOf_103, dX9_lawOf_104, dX9_lawOf_105, dX9_lawOf_108, dX9_lawOf_109, dX9_lawOf_112, dX9_lawOf_113, dX9_lawOf_116, dX9_lawOf_117, dX9_lawOf_120, dX9_lawOf_122, dX9_lawOf_124, dX9_lawOf_127, dX9_lawOf_129, dX9_lawOf_130, dX9_lawOf_133, dX9_lawOf_136, dX9_lawOf_137, dX9_lawOf_140, dX9_lawOf_142, dX9_lawOf_143, dX9_lawOf_144, dX9_lawOf_146, dX9_lawOf_147, dX9_lawOf_150, dX9_lawOf_152, dX9_lawOf_153, dX9_lawOf_154, dX9_lawOf_155, dX9_lawOf_156, dX9_lawOf_159, dX9_lawOf_161, dX9_lawOf_162, dX9_lawOf_165, dX9_lawOf_166, dX9_lawOf_169, dX9_lawOf_172, dX9_lawOf_173, dX9_lawOf_176, dX9_lawOf_177, dX9_lawOf_178]
        simp (disch := omega) only [li, nI_add, nI_clamp, nI_ltI, nI_leI, nI_eq, inx_iff, a31, nI_1shl', nI_shr', div_bit, tb1, tb0, fa_or, fa_and, nI_not, pk_sub, nI_dec, iwl]
        refine ⟨fun _ => ?_, fun z => by omega⟩
        refine hG.run [] 60 ?_
        simp [wp, stepI, ln, jmp, cmpI, Value.category, rd, tyF, va_rf, st1, st2, clr, isLg, CB, inx_0, inx_1, inx_2, inx_3, inx_4, inx_5, bI_0, bI_1, bI_ok, fin3, tyX9, entL, q0, q_stack, dX9_lawOf_0, dX9_lawOf_1, dX9_lawOf_3, dX9_lawOf_4, dX9_lawOf_6, dX9_lawOf_8, dX9_lawOf_9, fT_9_77, dX9_lawOf_12, dX9_lawOf_13, dX9_lawOf_16, dX9_lawOf_17, dX9_lawOf_20, dX9_lawOf_22, dX9_lawOf_23, dX9_lawOf_25, dX9_lawOf_27, dX9_lawOf_29, dX9_lawOf_32, dX9_lawOf_34, dX9_lawOf_35, fT_9_9, dX9_lawOf_38, dX9_lawOf_39, dX9_lawOf_42, dX9_lawOf_43, dX9_lawOf_46, dX9_lawOf_48, dX9_lawOf_50, dX9_lawOf_53, dX9_lawOf_55, dX9_lawOf_58, dX9_lawOf_59, dX9_lawOf_60, dX9_lawOf_61, dX9_lawOf_63, dX9_lawOf_65, dX9_lawOf_68, dX9_lawOf_69, dX9_lawOf_72, dX9_lawOf_75, dX9_lawOf_77, dX9_lawOf_79, dX9_lawOf_82, dX9_lawOf_84, dX9_lawOf_85, dX9_lawOf_88, dX9_lawOf_89, dX9_lawOf_92, dX9_lawOf_94, dX9_lawOf_95, dX9_lawOf_96, dX9_lawOf_97, dX9_lawOf_100, dX9_lawOf_102, dX9_lawOf_103, dX9_lawOf_104, dX9_lawOf_105, dX9_lawOf_108, dX9_lawOf_109, dX9_lawOf_112, dX9_lawOf_113, dX9_lawOf_116, dX9_lawOf_117, dX9_lawOf_120, dX9_lawOf_122, dX9_lawOf_124, dX9_lawOf_127, dX9_lawOf_129, dX9_lawOf_130, dX9_lawOf_133, dX9_lawOf_136, dX9_lawOf_137, dX9_lawOf_140, dX9_lawOf_142, dX9_lawOf_143, dX9_lawOf_144, dX9_lawOf_146, dX9_lawOf_147, dX9_lawOf_150, dX9_lawOf_152, dX9_lawOf_153, dX9_lawOf_154, dX9_lawOf_155, dX9_lawOf_156, dX9_lawOf_159, dX9_lawOf_161, dX9_lawOf_162, dX9_lawOf_165, dX9_lawOf_166, dX9_lawOf_169, dX9_lawOf_172, dX9_lawOf_173, dX9_lawOf_176, dX9_lawOf_177, dX9_lawOf_178]
        refine hP _ _ ⟨?_, m1, rfl, g1⟩
        rw [g2 0, hi2, hv]
      have nx := ih (i + 1)
      rw [evN_s] at nx
      clear ih
      have wi : m1 Wc i = w i := (g1 _ _ (by omega)).trans (hw i (by omega))
      generalize evN fa w (0, mI (W + 1)) i = s at tl nx g2 ⊢
      have g166 : ∀ m2 s2 v7, evS fa (w i) s = s2 → (∀ x k, x ≠ W + 1 → m2 x k = mI x k) → (∀ j, m2 (W + 1) j = s2.2 j) → G 166 [some (.ref W), some (.ref C), some (.ref Q), some (.int (nI a)), some (.int (nI b)), some (.int (nI s2.1)), some (.int (nI i)), v7] [] (sh, m2, mL, mR, n) := fun m2 s2 v7 e h1 h2 => by
        rw [e] at nx
        refine hG.run [6] 60 ?_
        simp [wp, stepI, ln, jmp, cmpI, Value.category, rd, tyF, va_rf, st1, st2, clr, isLg, CB, inx_0, inx_1, inx_2, inx_3, inx_4, inx_5, bI_0, bI_1, bI_ok, fin3, tyX9, entL, q0, dX9_lawOf_0, dX9_lawOf_1, dX9_lawOf_3, dX9_lawOf_4, dX9_lawOf_6, dX9_lawOf_8, dX9_lawOf_9, fT_9_77, dX9_lawOf_12, dX9_lawOf_13, dX9_lawOf_16, dX9_lawOf_17, dX9_lawOf_20, dX9_lawOf_22, dX9_lawOf_23, dX9_lawOf_25, dX9_lawOf_27, dX9_lawOf_29, dX9_lawOf_32, dX9_lawOf_34, dX9_lawOf_35, fT_9_9, dX9_lawOf_38, dX9_lawOf_39, dX9_lawOf_42, dX9_lawOf_43, dX9_lawOf_46, dX9_lawOf_48, dX9_lawOf_50, dX9_lawOf_53, dX9_lawOf_55, dX9_lawOf_58, dX9_lawOf_59, dX9_lawOf_60, dX9_lawOf_61, dX9_lawOf_63, dX9_lawOf_65, dX9_lawOf_68, dX9_lawOf_69, dX9_lawOf_72, dX9_lawOf_75, dX9_lawOf_77, dX9_lawOf_79, dX9_lawOf_82, dX9_lawOf_84, dX9_lawOf_85, dX9_lawOf_88, dX9_lawOf_89, dX9_lawOf_92, dX9_lawOf_94, dX9_lawOf_95, dX9_lawOf_96, dX9_lawOf_97, dX9_lawOf_100, dX9_lawOf_102, dX9_lawOf_103, dX9_lawOf_104, dX9_lawOf_105, dX9_lawOf_108, dX9_lawOf_109, dX9_lawOf_112, dX9_lawOf_113, dX9_lawOf_116, dX9_lawOf_117, dX9_lawOf_120, dX9_lawOf_122, dX9_lawOf_124, dX9_lawOf_127, dX9_lawOf_129, dX9_lawOf_130, dX9_lawOf_133, dX9_lawOf_136, dX9_lawOf_137, dX9_lawOf_140, dX9_lawOf_142, dX9_lawOf_143, dX9_lawOf_144, dX9_lawOf_146, dX9_lawOf_147, dX9_lawOf_150, dX9_lawOf_152, dX9_lawOf_153, dX9_lawOf_154, dX9_lawOf_155, dX9_lawOf_156, dX9_lawOf_159, dX9_lawOf_161, dX9_lawOf_162, dX9_lawOf_165, dX9_lawOf_166, dX9_lawOf_169, dX9_lawOf_172, dX9_lawOf_173, dX9_lawOf_176, dX9_lawOf_177, dX9_lawOf_178]
        simp (disch := omega) only [li, nI_add, nI_clamp, nI_ltI, nI_leI, nI_eq, inx_iff, a31, nI_1shl', nI_shr', div_bit, tb1, tb0, fa_or, fa_and, nI_not, pk_sub, nI_dec]
        exact nx m2 v7 (by omega) (by omega) h1 h2
      have g75 : ¬ (-nI 6 < w i ∧ s.1 < 40) → G 75 [some (.ref W), some (.ref C), some (.ref Q), some (.int (nI a)), some (.int (nI b)), some (.int (nI s.1)), some (.int (nI i)), some (.int (w i))] [] (sh, m1, mL, mR, n) := fun hn => by
        have g120 : ¬ (w i = -nI 6 ∧ 1 ≤ s.1) → G 120 [some (.ref W), some (.ref C), some (.ref Q), some (.int (nI a)), some (.int (nI b)), some (.int (nI s.1)), some (.int (nI i)), some (.int (w i))] [] (sh, m1, mL, mR, n) := fun hn2 => by
          by_cases hc : w i < -nI 6 ∧ 2 ≤ s.1
          · have e : evS fa (w i) s = (s.1 - 1, upJ s.2 (s.1 - 2) (jnV (w i) (s.2 (s.1 - 2)) (s.2 (s.1 - 1)))) := by
              unfold evS
              rw [if_neg hn, if_neg hn2, if_pos hc]
            have e1 := g2 (s.1 - 2)
            have e2 := g2 (s.1 - 1)
            have ss : s.1 - 1 - 1 = s.1 - 2 := by omega
            have hc1 := hc.1
            have hc2 := hc.2
            refine hG.run [166] 60 ?_
            simp [wp, stepI, ln, jmp, cmpI, Value.category, rd, tyF, va_rf, st1, st2, clr, isLg, CB, inx_0, inx_1, inx_2, inx_3, inx_4, inx_5, bI_0, bI_1, bI_ok, fin3, tyX9, entL, q0, q_stack, dX9_lawOf_0, dX9_lawOf_1, dX9_lawOf_3, dX9_lawOf_4, dX9_lawOf_6, dX9_lawOf_8, dX9_lawOf_9, fT_9_77, dX9_lawOf_12, dX9_lawOf_13, dX9_lawOf_16, dX9_lawOf_17, dX9_lawOf_20, dX9_lawOf_22, dX9_lawOf_23, dX9_lawOf_25, dX9_lawOf_27, dX9_lawOf_29, dX9_lawOf_32, dX9_lawOf_34, dX9_lawOf_35, fT_9_9, dX9_lawOf_38, dX9_lawOf_39, dX9_lawOf_42, dX9_lawOf_43, dX9_lawOf_46, dX9_lawOf_48, dX9_lawOf_50, dX9_lawOf_53, dX9_lawOf_55, dX9_lawOf_58, dX9_lawOf_59, dX9_lawOf_60, dX9_lawOf_61, dX9_lawOf_63, dX9_lawOf_65, dX9_lawOf_68, dX9_lawOf_69, dX9_lawOf_72, dX9_lawOf_75, dX9_lawOf_77, dX9_lawOf_79, dX9_lawOf_82, dX9_lawOf_84, dX9_lawOf_85, dX9_lawOf_88, dX9_lawOf_89, dX9_lawOf_92, dX9_lawOf_94, dX9_lawOf_95, dX9_lawOf_96, dX9_lawOf_97, dX9_lawOf_100, dX9_lawOf_102, dX9_lawOf_103, dX9_lawOf_104, dX9_lawOf_105, dX9_lawOf_108, dX9_lawOf_109, dX9_lawOf_112, dX9_lawOf_113, dX9_lawOf_116, dX9_lawOf_117, dX9_lawOf_120, dX9_lawOf_122, dX9_lawOf_124, dX9_lawOf_127, dX9_lawOf_129, dX9_lawOf_130, dX9_lawOf_133, dX9_lawOf_136, dX9_lawOf_137, dX9_lawOf_140, dX9_lawOf_142, dX9_lawOf_143, dX9_lawOf_144, dX9_lawOf_146, dX9_lawOf_147, dX9_lawOf_150, dX9_lawOf_152, dX9_lawOf_153, dX9_lawOf_154, dX9_lawOf_155, dX9_lawOf_156, dX9_lawOf_159, dX9_lawOf_161, dX9_lawOf_162, dX9_lawOf_165, dX9_lawOf_166, dX9_lawOf_169, dX9_lawOf_172, dX9_lawOf_173, dX9_lawOf_176, dX9_lawOf_177, dX9_lawOf_178]
            simp (disch := omega) only [li, nI_add, nI_clamp, nI_ltI, nI_leI, nI_eq, inx_iff, a31, nI_1shl', nI_shr', div_bit, tb1, tb0, fa_or, fa_and, nI_not, pk_sub, nI_dec, ss, e1, e2]
            refine ⟨fun z => absurd hc1 (Int32.not_lt.mpr z), fun _ => ⟨fun z => by omega, fun _ => ⟨by omega, by omega, ?_⟩⟩⟩
            refine hG.callS dX9_lawOf_162 ms_9_86 [.int (w i), .int (s.2 (s.1 - 2)), .int (s.2 (s.1 - 1))] [.int (nI (s.1 - 2)), .ref (W + 1)] (c9_joined l X (d - 1) _ _ _ _ (by omega)) (by omega) rfl (by decide) (by simp [Value.category]) rfl ?_
            rintro r M' ⟨rfl, rfl⟩
            refine hG.run [166] 60 ?_
            simp [wp, stepI, ln, jmp, cmpI, Value.category, rd, tyF, va_rf, st1, st2, clr, isLg, CB, inx_0, inx_1, inx_2, inx_3, inx_4, inx_5, bI_0, bI_1, bI_ok, fin3, tyX9, entL, q0, q_stack, x1, dX9_lawOf_0, dX9_lawOf_1, dX9_lawOf_3, dX9_lawOf_4, dX9_lawOf_6, dX9_lawOf_8, dX9_lawOf_9, fT_9_77, dX9_lawOf_12, dX9_lawOf_13, dX9_lawOf_16, dX9_lawOf_17, dX9_lawOf_20, dX9_lawOf_22, dX9_lawOf_23, dX9_lawOf_25, dX9_lawOf_27, dX9_lawOf_29, dX9_lawOf_32, dX9_lawOf_34, dX9_lawOf_35, fT_9_9, dX9_lawOf_38, dX9_lawOf_39, dX9_lawOf_42, dX9_lawOf_43, dX9_lawOf_46, dX9_lawOf_48, dX9_lawOf_50, dX9_lawOf_53, dX9_lawOf_55, dX9_lawOf_58, dX9_lawOf_59, dX9_lawOf_60, dX9_lawOf_61, dX9_lawOf_63, dX9_lawOf_65, dX9_lawOf_68, dX9_lawOf_69, dX9_lawOf_72, dX9_lawOf_75, dX9_lawOf_77, dX9_lawOf_79, dX9_lawOf_82, dX9_lawOf_84, dX9_lawOf_85, dX9_lawOf_88, dX9_lawOf_89, dX9_lawOf_92, dX9_lawOf_94, dX9_lawOf_95, dX9_lawOf_96, dX9_lawOf_97, dX9_lawOf_100, dX9_lawOf_102, dX9_lawOf_103, dX9_lawOf_104, dX9_lawOf_105, dX9_lawOf_108, dX9_lawOf_109, dX9_lawOf_112, dX9_lawOf_113, dX9_lawOf_116, dX9_lawOf_117, dX9_lawOf_120, dX9_lawOf_122, dX9_lawOf_124, dX9_lawOf_127, dX9_lawOf_129, dX9_lawOf_130, dX9_lawOf_133, dX9_lawOf_136, dX9_lawOf_137, dX9_lawOf_140, dX9_lawOf_142, dX9_lawOf_143, dX9_lawOf_144, dX9_lawOf_146, dX9_lawOf_147, dX9_lawOf_150, dX9_lawOf_152, dX9_lawOf_153, dX9_lawOf_154, dX9_lawOf_155, dX9_lawOf_156, dX9_lawOf_159, dX9_lawOf_161, dX9_lawOf_162, dX9_lawOf_165, dX9_lawOf_166, dX9_lawOf_169, dX9_lawOf_172, dX9_lawOf_173, dX9_lawOf_176, dX9_lawOf_177, dX9_lawOf_178]
            simp (disch := omega) only [li, nI_add, nI_clamp, nI_ltI, nI_leI, nI_eq, inx_iff, a31, nI_1shl', nI_shr', div_bit, tb1, tb0, fa_or, fa_and, nI_not, pk_sub, nI_dec]
            exact ⟨by omega, g166 _ _ _ e (fun x k hx => by rw [up2_ne (fun y => hx y.1)]; exact g1 x k hx) (up2_J _ g2)⟩
          · have e : evS fa (w i) s = s := by
              unfold evS
              rw [if_neg hn, if_neg hn2, if_neg hc]
            have q := g166 m1 s (some (.int (w i))) e g1 g2
            refine hG.run [133, 166] 60 ?_
            simp [wp, stepI, ln, jmp, cmpI, Value.category, rd, tyF, va_rf, st1, st2, clr, isLg, CB, inx_0, inx_1, inx_2, inx_3, inx_4, inx_5, bI_0, bI_1, bI_ok, fin3, tyX9, entL, q0, dX9_lawOf_0, dX9_lawOf_1, dX9_lawOf_3, dX9_lawOf_4, dX9_lawOf_6, dX9_lawOf_8, dX9_lawOf_9, fT_9_77, dX9_lawOf_12, dX9_lawOf_13, dX9_lawOf_16, dX9_lawOf_17, dX9_lawOf_20, dX9_lawOf_22, dX9_lawOf_23, dX9_lawOf_25, dX9_lawOf_27, dX9_lawOf_29, dX9_lawOf_32, dX9_lawOf_34, dX9_lawOf_35, fT_9_9, dX9_lawOf_38, dX9_lawOf_39, dX9_lawOf_42, dX9_lawOf_43, dX9_lawOf_46, dX9_lawOf_48, dX9_lawOf_50, dX9_lawOf_53, dX9_lawOf_55, dX9_lawOf_58, dX9_lawOf_59, dX9_lawOf_60, dX9_lawOf_61, dX9_lawOf_63, dX9_lawOf_65, dX9_lawOf_68, dX9_lawOf_69, dX9_lawOf_72, dX9_lawOf_75, dX9_lawOf_77, dX9_lawOf_79, dX9_lawOf_82, dX9_lawOf_84, dX9_lawOf_85, dX9_lawOf_88, dX9_lawOf_89, dX9_lawOf_92, dX9_lawOf_94, dX9_lawOf_95, dX9_lawOf_96, dX9_lawOf_97, dX9_lawOf_100, dX9_lawOf_102, dX9_lawOf_103, dX9_lawOf_104, dX9_lawOf_105, dX9_lawOf_108, dX9_lawOf_109, dX9_lawOf_112, dX9_lawOf_113, dX9_lawOf_116, dX9_lawOf_117, dX9_lawOf_120, dX9_lawOf_122, dX9_lawOf_124, dX9_lawOf_127, dX9_lawOf_129, dX9_lawOf_130, dX9_lawOf_133, dX9_lawOf_136, dX9_lawOf_137, dX9_lawOf_140, dX9_lawOf_142, dX9_lawOf_143, dX9_lawOf_144, dX9_lawOf_146, dX9_lawOf_147, dX9_lawOf_150, dX9_lawOf_152, dX9_lawOf_153, dX9_lawOf_154, dX9_lawOf_155, dX9_lawOf_156, dX9_lawOf_159, dX9_lawOf_161, dX9_lawOf_162, dX9_lawOf_165, dX9_lawOf_166, dX9_lawOf_169, dX9_lawOf_172, dX9_lawOf_173, dX9_lawOf_176, dX9_lawOf_177, dX9_lawOf_178]
            simp (disch := omega) only [li, nI_add, nI_clamp, nI_ltI, nI_leI, nI_eq, inx_iff, a31, nI_1shl', nI_shr', div_bit, tb1, tb0, fa_or, fa_and, nI_not, pk_sub, nI_dec]
            refine ⟨fun _ => q, fun z => ⟨fun _ => q, fun z2 => absurd ⟨z, by omega⟩ hc⟩⟩
        by_cases hc : w i = -nI 6 ∧ 1 ≤ s.1
        · have e : evS fa (w i) s = (s.1, upJ s.2 (s.1 - 1) (bI (decide (s.2 (s.1 - 1) = nI 0)))) := by
            unfold evS
            rw [if_neg hn, if_pos hc]
          have e2 := g2 (s.1 - 1)
          have hc1 := hc.1
          have hc2 := hc.2
          have g113 : ∀ q : Bool, q = decide (s.2 (s.1 - 1) = nI 0) → G 113 [some (.ref W), some (.ref C), some (.ref Q), some (.int (nI a)), some (.int (nI b)), some (.int (nI s.1)), some (.int (nI i)), some (.int (w i))] [.int (bI q), .int (nI (s.1 - 1)), .ref (W + 1)] (sh, m1, mL, mR, n) := fun q hq => by
            refine hG.callS dX9_lawOf_113 ms_9_82 [.int (bI q)] [.int (nI (s.1 - 1)), .ref (W + 1)] (c9_bit l X (d - 1) _ _) (by omega) rfl (by decide) (by simp [Value.category]) rfl ?_
            rintro r M' ⟨rfl, rfl⟩
            rw [← hq] at e
            refine hG.run [166] 60 ?_
            simp [wp, stepI, ln, jmp, cmpI, Value.category, rd, tyF, va_rf, st1, st2, clr, isLg, CB, inx_0, inx_1, inx_2, inx_3, inx_4, inx_5, bI_0, bI_1, bI_ok, fin3, tyX9, entL, q0, q_stack, x1, dX9_lawOf_0, dX9_lawOf_1, dX9_lawOf_3, dX9_lawOf_4, dX9_lawOf_6, dX9_lawOf_8, dX9_lawOf_9, fT_9_77, dX9_lawOf_12, dX9_lawOf_13, dX9_lawOf_16, dX9_lawOf_17, dX9_lawOf_20, dX9_lawOf_22, dX9_lawOf_23, dX9_lawOf_25, dX9_lawOf_27, dX9_lawOf_29, dX9_lawOf_32, dX9_lawOf_34, dX9_lawOf_35, fT_9_9, dX9_lawOf_38, dX9_lawOf_39, dX9_lawOf_42, dX9_lawOf_43, dX9_lawOf_46, dX9_lawOf_48, dX9_lawOf_50, dX9_lawOf_53, dX9_lawOf_55, dX9_lawOf_58, dX9_lawOf_59, dX9_lawOf_60, dX9_lawOf_61, dX9_lawOf_63, dX9_lawOf_65, dX9_lawOf_68, dX9_lawOf_69, dX9_lawOf_72, dX9_lawOf_75, dX9_lawOf_77, dX9_lawOf_79, dX9_lawOf_82, dX9_lawOf_84, dX9_lawOf_85, dX9_lawOf_88, dX9_lawOf_89, dX9_lawOf_92, dX9_lawOf_94, dX9_lawOf_95, dX9_lawOf_96, dX9_lawOf_97, dX9_lawOf_100, dX9_lawOf_102, dX9_lawOf_103, dX9_lawOf_104, dX9_lawOf_105, dX9_lawOf_108, dX9_lawOf_109, dX9_lawOf_112, dX9_lawOf_113, dX9_lawOf_116, dX9_lawOf_117, dX9_lawOf_120, dX9_lawOf_122, dX9_lawOf_124, dX9_lawOf_127, dX9_lawOf_129, dX9_lawOf_130, dX9_lawOf_133, dX9_lawOf_136, dX9_lawOf_137, dX9_lawOf_140, dX9_lawOf_142, dX9_lawOf_143, dX9_lawOf_144, dX9_lawOf_146, dX9_lawOf_147, dX9_lawOf_150, dX9_lawOf_152, dX9_lawOf_153, dX9_lawOf_154, dX9_lawOf_155, dX9_lawOf_156, dX9_lawOf_159, dX9_lawOf_161, dX9_lawOf_162, dX9_lawOf_165, dX9_lawOf_166, dX9_lawOf_169, dX9_lawOf_172, dX9_lawOf_173, dX9_lawOf_176, dX9_lawOf_177, dX9_lawOf_178]
            simp (disch := omega) only [li, nI_add, nI_clamp, nI_ltI, nI_leI, nI_eq, inx_iff, a31, nI_1shl', nI_shr', div_bit, tb1, tb0, fa_or, fa_and, nI_not, pk_sub, nI_dec]
            exact ⟨by omega, g166 _ (s.1, upJ s.2 (s.1 - 1) (bI q)) _ e (fun x k hx => by rw [up2_ne (fun y => hx y.1)]; exact g1 x k hx) (up2_J _ g2)⟩
          refine hG.run [113, 120] 60 ?_
          simp [wp, stepI, ln, jmp, cmpI, Value.category, rd, tyF, va_rf, st1, st2, clr, isLg, CB, inx_0, inx_1, inx_2, inx_3, inx_4, inx_5, bI_0, bI_1, bI_ok, fin3, tyX9, entL, q0, q_stack, dX9_lawOf_0, dX9_lawOf_1, dX9_lawOf_3, dX9_lawOf_4, dX9_lawOf_6, dX9_lawOf_8, dX9_lawOf_9, fT_9_77, dX9_lawOf_12, dX9_lawOf_13, dX9_lawOf_16, dX9_lawOf_17, dX9_lawOf_20, dX9_lawOf_22, dX9_lawOf_23, dX9_lawOf_25, dX9_lawOf_27, dX9_lawOf_29, dX9_lawOf_32, dX9_lawOf_34, dX9_lawOf_35, fT_9_9, dX9_lawOf_38, dX9_lawOf_39, dX9_lawOf_42, dX9_lawOf_43, dX9_lawOf_46, dX9_lawOf_48, dX9_lawOf_50, dX9_lawOf_53, dX9_lawOf_55, dX9_lawOf_58, dX9_lawOf_59, dX9_lawOf_60, dX9_lawOf_61, dX9_lawOf_63, dX9_lawOf_65, dX9_lawOf_68, dX9_lawOf_69, dX9_lawOf_72, dX9_lawOf_75, dX9_lawOf_77, dX9_lawOf_79, dX9_lawOf_82, dX9_lawOf_84, dX9_lawOf_85, dX9_lawOf_88, dX9_lawOf_89, dX9_lawOf_92, dX9_lawOf_94, dX9_lawOf_95, dX9_lawOf_96, dX9_lawOf_97, dX9_lawOf_100, dX9_lawOf_102, dX9_lawOf_103, dX9_lawOf_104, dX9_lawOf_105, dX9_lawOf_108, dX9_lawOf_109, dX9_lawOf_112, dX9_lawOf_113, dX9_lawOf_116, dX9_lawOf_117, dX9_lawOf_120, dX9_lawOf_122, dX9_lawOf_124, dX9_lawOf_127, dX9_lawOf_129, dX9_lawOf_130, dX9_lawOf_133, dX9_lawOf_136, dX9_lawOf_137, dX9_lawOf_140, dX9_lawOf_142, dX9_lawOf_143, dX9_lawOf_144, dX9_lawOf_146, dX9_lawOf_147, dX9_lawOf_150, dX9_lawOf_152, dX9_lawOf_153, dX9_lawOf_154, dX9_lawOf_155, dX9_lawOf_156, dX9_lawOf_159, dX9_lawOf_161, dX9_lawOf_162, dX9_lawOf_165, dX9_lawOf_166, dX9_lawOf_169, dX9_lawOf_172, dX9_lawOf_173, dX9_lawOf_176, dX9_lawOf_177, dX9_lawOf_178]
          simp (disch := omega) only [li, nI_add, nI_clamp, nI_ltI, nI_leI, nI_eq, inx_iff, a31, nI_1shl', nI_shr', div_bit, tb1, tb0, fa_or, fa_and, nI_not, pk_sub, nI_dec, e2]
          refine ⟨fun z => absurd hc1 z, fun _ => ⟨fun z => by omega, fun _ => ⟨by omega, fun z => g113 false (by rw [decide_eq_false z]), fun z => g113 true (by rw [decide_eq_true z])⟩⟩⟩
        · have q := g120 hc
          refine hG.run [88, 120] 60 ?_
          simp [wp, stepI, ln, jmp, cmpI, Value.category, rd, tyF, va_rf, st1, st2, clr, isLg, CB, inx_0, inx_1, inx_2, inx_3, inx_4, inx_5, bI_0, bI_1, bI_ok, fin3, tyX9, entL, q0, dX9_lawOf_0, dX9_lawOf_1, dX9_lawOf_3, dX9_lawOf_4, dX9_lawOf_6, dX9_lawOf_8, dX9_lawOf_9, fT_9_77, dX9_lawOf_12, dX9_lawOf_13, dX9_lawOf_16, dX9_lawOf_17, dX9_lawOf_20, dX9_lawOf_22, dX9_lawOf_23, dX9_lawOf_25, dX9_lawOf_27, dX9_lawOf_29, dX9_lawOf_32, dX9_lawOf_34, dX9_lawOf_35, fT_9_9, dX9_lawOf_38, dX9_lawOf_39, dX9_lawOf_42, dX9_lawOf_43, dX9_lawOf_46, dX9_lawOf_48, dX9_lawOf_50, dX9_lawOf_53, dX9_lawOf_55, dX9_lawOf_58, dX9_lawOf_59, dX9_lawOf_60, dX9_lawOf_61, dX9_lawOf_63, dX9_lawOf_65, dX9_lawOf_68, dX9_lawOf_69, dX9_lawOf_72, dX9_lawOf_75, dX9_lawOf_77, dX9_lawOf_79, dX9_lawOf_82, dX9_lawOf_84, dX9_lawOf_85, dX9_lawOf_88, dX9_lawOf_89, dX9_lawOf_92, dX9_lawOf_94, dX9_lawOf_95, dX9_lawOf_96, dX9_lawOf_97, dX9_lawOf_100, dX9_lawOf_102, dX9_lawOf_103, dX9_lawOf_104, dX9_lawOf_105, dX9_lawOf_108, dX9_lawOf_109, dX9_lawOf_112, dX9_lawOf_113, dX9_lawOf_116, dX9_lawOf_117, dX9_lawOf_120, dX9_lawOf_122, dX9_lawOf_124, dX9_lawOf_127, dX9_lawOf_129, dX9_lawOf_130, dX9_lawOf_133, dX9_lawOf_136, dX9_lawOf_137, dX9_lawOf_140, dX9_lawOf_142, dX9_lawOf_143, dX9_lawOf_144, dX9_lawOf_146, dX9_lawOf_147, dX9_lawOf_150, dX9_lawOf_152, dX9_lawOf_153, dX9_lawOf_154, dX9_lawOf_155, dX9_lawOf_156, dX9_lawOf_159, dX9_lawOf_161, dX9_lawOf_162, dX9_lawOf_165, dX9_lawOf_166, dX9_lawOf_169, dX9_lawOf_172, dX9_lawOf_173, dX9_lawOf_176, dX9_lawOf_177, dX9_lawOf_178]
          simp (disch := omega) only [li, nI_add, nI_clamp, nI_ltI, nI_leI, nI_eq, inx_iff, a31, nI_1shl', nI_shr', div_bit, tb1, tb0, fa_or, fa_and, nI_not, pk_sub, nI_dec]
          refine ⟨fun _ => q, fun z => ⟨fun _ => q, fun z2 => absurd ⟨z, by omega⟩ hc⟩⟩
      by_cases hc : -nI 6 < w i ∧ s.1 < 40
      · have hc1 := hc.1
        have hc2 := hc.2
        have e : evS fa (w i) s = (s.1 + 1, upJ s.2 s.1 (if w i < nI 0 then fa (w i) else w i)) := by
          unfold evS
          rw [if_pos hc]
        have g68 : ∀ q, q = (if w i < nI 0 then fa (w i) else w i) → G 68 [some (.ref W), some (.ref C), some (.ref Q), some (.int (nI a)), some (.int (nI b)), some (.int (nI s.1)), some (.int (nI i)), some (.int (w i))] [.int q, .int (nI s.1), .ref (W + 1)] (sh, m1, mL, mR, n) := fun q hq => by
          rw [← hq] at e
          refine hG.run [166] 60 ?_
          simp [wp, stepI, ln, jmp, cmpI, Value.category, rd, tyF, va_rf, st1, st2, clr, isLg, CB, inx_0, inx_1, inx_2, inx_3, inx_4, inx_5, bI_0, bI_1, bI_ok, fin3, tyX9, entL, q0, q_stack, x1, dX9_lawOf_0, dX9_lawOf_1, dX9_lawOf_3, dX9_lawOf_4, dX9_lawOf_6, dX9_lawOf_8, dX9_lawOf_9, fT_9_77, dX9_lawOf_12, dX9_lawOf_13, dX9_lawOf_16, dX9_lawOf_17, dX9_lawOf_20, dX9_lawOf_22, dX9_lawOf_23, dX9_lawOf_25, dX9_lawOf_27, dX9_lawOf_29, dX9_lawOf_32, dX9_lawOf_34, dX9_lawOf_35, fT_9_9, dX9_lawOf_38, dX9_lawOf_39, dX9_lawOf_42, dX9_lawOf_43, dX9_lawOf_46, dX9_lawOf_48, dX9_lawOf_50, dX9_lawOf_53, dX9_lawOf_55, dX9_lawOf_58, dX9_lawOf_59, dX9_lawOf_60, dX9_lawOf_61, dX9_lawOf_63, dX9_lawOf_65, dX9_lawOf_68, dX9_lawOf_69, dX9_lawOf_72, dX9_lawOf_75, dX9_lawOf_77, dX9_lawOf_79, dX9_lawOf_82, dX9_lawOf_84, dX9_lawOf_85, dX9_lawOf_88, dX9_lawOf_89, dX9_lawOf_92, dX9_lawOf_94, dX9_lawOf_95, dX9_lawOf_96, dX9_lawOf_97, dX9_lawOf_100, dX9_lawOf_102, dX9_lawOf_103, dX9_lawOf_104, dX9_lawOf_105, dX9_lawOf_108, dX9_lawOf_109, dX9_lawOf_112, dX9_lawOf_113, dX9_lawOf_116, dX9_lawOf_117, dX9_lawOf_120, dX9_lawOf_122, dX9_lawOf_124, dX9_lawOf_127, dX9_lawOf_129, dX9_lawOf_130, dX9_lawOf_133, dX9_lawOf_136, dX9_lawOf_137, dX9_lawOf_140, dX9_lawOf_142, dX9_lawOf_143, dX9_lawOf_144, dX9_lawOf_146, dX9_lawOf_147, dX9_lawOf_150, dX9_lawOf_152, dX9_lawOf_153, dX9_lawOf_154, dX9_lawOf_155, dX9_lawOf_156, dX9_lawOf_159, dX9_lawOf_161, dX9_lawOf_162, dX9_lawOf_165, dX9_lawOf_166, dX9_lawOf_169, dX9_lawOf_172, dX9_lawOf_173, dX9_lawOf_176, dX9_lawOf_177, dX9_lawOf_178]
          simp (disch := omega) only [li, nI_add, nI_clamp, nI_ltI, nI_leI, nI_eq, inx_iff, a31, nI_1shl', nI_shr', div_bit, tb1, tb0, fa_or, fa_and, nI_not, pk_sub, nI_dec]
          exact ⟨by omega, g166 _ _ _ e (fun x k hx => by rw [up2_ne (fun y => hx y.1)]; exact g1 x k hx) (up2_J _ g2)⟩
        refine hG.run [68, 75, 172] 60 ?_
        simp [wp, stepI, ln, jmp, cmpI, Value.category, rd, tyF, va_rf, st1, st2, clr, isLg, CB, inx_0, inx_1, inx_2, inx_3, inx_4, inx_5, bI_0, bI_1, bI_ok, fin3, tyX9, entL, q0, q_stack, u0, hwc, hWc, w21, x21, okT, tyX4, dX9_lawOf_0, dX9_lawOf_1, dX9_lawOf_3, dX9_lawOf_4, dX9_lawOf_6, dX9_lawOf_8, dX9_lawOf_9, fT_9_77, dX9_lawOf_12, dX9_lawOf_13, dX9_lawOf_16, dX9_lawOf_17, dX9_lawOf_20, dX9_lawOf_22, dX9_lawOf_23, dX9_lawOf_25, dX9_lawOf_27, dX9_lawOf_29, dX9_lawOf_32, dX9_lawOf_34, dX9_lawOf_35, fT_9_9, dX9_lawOf_38, dX9_lawOf_39, dX9_lawOf_42, dX9_lawOf_43, dX9_lawOf_46, dX9_lawOf_48, dX9_lawOf_50, dX9_lawOf_53, dX9_lawOf_55, dX9_lawOf_58, dX9_lawOf_59, dX9_lawOf_60, dX9_lawOf_61, dX9_lawOf_63, dX9_lawOf_65, dX9_lawOf_68, dX9_lawOf_69, dX9_lawOf_72, dX9_lawOf_75, dX9_lawOf_77, dX9_lawOf_79, dX9_lawOf_82, dX9_lawOf_84, dX9_lawOf_85, dX9_lawOf_88, dX9_lawOf_89, dX9_lawOf_92, dX9_lawOf_94, dX9_lawOf_95, dX9_lawOf_96, dX9_lawOf_97, dX9_lawOf_100, dX9_lawOf_102, dX9_lawOf_103, dX9_lawOf_104, dX9_lawOf_105, dX9_lawOf_108, dX9_lawOf_109, dX9_lawOf_112, dX9_lawOf_113, dX9_lawOf_116, dX9_lawOf_117, dX9_lawOf_120, dX9_lawOf_122, dX9_lawOf_124, dX9_lawOf_127, dX9_lawOf_129, dX9_lawOf_130, dX9_lawOf_133, dX9_lawOf_136, dX9_lawOf_137, dX9_lawOf_140, dX9_lawOf_142, dX9_lawOf_143, dX9_lawOf_144, dX9_lawOf_146, dX9_lawOf_147, dX9_lawOf_150, dX9_lawOf_152, dX9_lawOf_153, dX9_lawOf_154, dX9_lawOf_155, dX9_lawOf_156, dX9_lawOf_159, dX9_lawOf_161, dX9_lawOf_162, dX9_lawOf_165, dX9_lawOf_166, dX9_lawOf_169, dX9_lawOf_172, dX9_lawOf_173, dX9_lawOf_176, dX9_lawOf_177, dX9_lawOf_178]
        simp (disch := omega) only [li, nI_add, nI_clamp, nI_ltI, nI_leI, nI_eq, inx_iff, a31, nI_1shl', nI_shr', div_bit, tb1, tb0, fa_or, fa_and, nI_not, pk_sub, nI_dec, iwl, i40, wi]
        refine ⟨fun z => by omega, fun _ => ⟨by omega, fun z => absurd hc1 (Int32.not_lt.mpr z), fun _ => ⟨fun z => by omega, fun _ => ⟨fun z => ?_, fun z => g68 _ (by rw [if_neg (Int32.not_lt.mpr z)])⟩⟩⟩⟩
        refine hG.callS dX9_lawOf_65 ms_9_78 [.ref C, .ref Q, .int (nI a), .int (nI b), .int (w i)] [.int (nI s.1), .ref (W + 1)] (c9_factOf l X (d - 1) sh m1 mL mR n C Q hC hQ np ⟨(g1 _ _ (by omega)).trans hp.1, hp.2⟩ lk (fun x y hx hy => ⟨(g1 _ _ (by omega)).trans (hl x y hx hy).1, (hl x y hx hy).2⟩) ta (fun p hp => (g1 _ _ (by omega)).trans (hta p hp)) fits A (hA.kp (fun k => g1 _ _ (by omega)) (fun k => g1 _ _ (by omega))) a b ha hb (w i) (by omega)) (by omega) rfl (by decide) (by simp [Value.category]) rfl ?_
        rintro r M' ⟨rfl, rfl⟩
        exact g68 _ (by rw [if_pos z, hfa])
      · have q := g75 hc
        refine hG.run [42, 75, 172] 60 ?_
        simp [wp, stepI, ln, jmp, cmpI, Value.category, rd, tyF, va_rf, st1, st2, clr, isLg, CB, inx_0, inx_1, inx_2, inx_3, inx_4, inx_5, bI_0, bI_1, bI_ok, fin3, tyX9, entL, q0, q_stack, u0, hwc, hWc, w21, x21, okT, tyX4, dX9_lawOf_0, dX9_lawOf_1, dX9_lawOf_3, dX9_lawOf_4, dX9_lawOf_6, dX9_lawOf_8, dX9_lawOf_9, fT_9_77, dX9_lawOf_12, dX9_lawOf_13, dX9_lawOf_16, dX9_lawOf_17, dX9_lawOf_20, dX9_lawOf_22, dX9_lawOf_23, dX9_lawOf_25, dX9_lawOf_27, dX9_lawOf_29, dX9_lawOf_32, dX9_lawOf_34, dX9_lawOf_35, fT_9_9, dX9_lawOf_38, dX9_lawOf_39, dX9_lawOf_42, dX9_lawOf_43, dX9_lawOf_46, dX9_lawOf_48, dX9_lawOf_50, dX9_lawOf_53, dX9_lawOf_55, dX9_lawOf_58, dX9_lawOf_59, dX9_lawOf_60, dX9_lawOf_61, dX9_lawOf_63, dX9_lawOf_65, dX9_lawOf_68, dX9_lawOf_69, dX9_lawOf_72, dX9_lawOf_75, dX9_lawOf_77, dX9_lawOf_79, dX9_lawOf_82, dX9_lawOf_84, dX9_lawOf_85, dX9_lawOf_88, dX9_lawOf_89, dX9_lawOf_92, dX9_lawOf_94, dX9_lawOf_95, dX9_lawOf_96, dX9_lawOf_97, dX9_lawOf_100, dX9_lawOf_102, dX9_lawOf_103, dX9_lawOf_104, dX9_lawOf_105, dX9_lawOf_108, dX9_lawOf_109, dX9_lawOf_112, dX9_lawOf_113, dX9_lawOf_116, dX9_lawOf_117, dX9_lawOf_120, dX9_lawOf_122, dX9_lawOf_124, dX9_lawOf_127, dX9_lawOf_129, dX9_lawOf_130, dX9_lawOf_133, dX9_lawOf_136, dX9_lawOf_137, dX9_lawOf_140, dX9_lawOf_142, dX9_lawOf_143, dX9_lawOf_144, dX9_lawOf_146, dX9_lawOf_147, dX9_lawOf_150, dX9_lawOf_152, dX9_lawOf_153, dX9_lawOf_154, dX9_lawOf_155, dX9_lawOf_156, dX9_lawOf_159, dX9_lawOf_161, dX9_lawOf_162, dX9_lawOf_165, dX9_lawOf_166, dX9_lawOf_169, dX9_lawOf_172, dX9_lawOf_173, dX9_lawOf_176, dX9_lawOf_177, dX9_lawOf_178]
        simp (disch := omega) only [li, nI_add, nI_clamp, nI_ltI, nI_leI, nI_eq, inx_iff, a31, nI_1shl', nI_shr', div_bit, tb1, tb0, fa_or, fa_and, nI_not, pk_sub, nI_dec, iwl, i40, wi]
        refine ⟨fun z => by omega, fun _ => ⟨by omega, fun _ => q, fun z => ⟨fun _ => q, fun z2 => absurd ⟨z, z2⟩ hc⟩⟩⟩
  refine hG.run [6] 60 ?_
  simp [wp, stepI, ln, jmp, cmpI, Value.category, rd, tyF, va_rf, st1, st2, clr, isLg, CB, inx_0, inx_1, inx_2, inx_3, inx_4, inx_5, bI_0, bI_1, bI_ok, fin3, tyX9, entL, q0, dX9_lawOf_0, dX9_lawOf_1, dX9_lawOf_3, dX9_lawOf_4, dX9_lawOf_6, dX9_lawOf_8, dX9_lawOf_9, fT_9_77, dX9_lawOf_12, dX9_lawOf_13, dX9_lawOf_16, dX9_lawOf_17, dX9_lawOf_20, dX9_lawOf_22, dX9_lawOf_23, dX9_lawOf_25, dX9_lawOf_27, dX9_lawOf_29, dX9_lawOf_32, dX9_lawOf_34, dX9_lawOf_35, fT_9_9, dX9_lawOf_38, dX9_lawOf_39, dX9_lawOf_42, dX9_lawOf_43, dX9_lawOf_46, dX9_lawOf_48, dX9_lawOf_50, dX9_lawOf_53, dX9_lawOf_55, dX9_lawOf_58, dX9_lawOf_59, dX9_lawOf_60, dX9_lawOf_61, dX9_lawOf_63, dX9_lawOf_65, dX9_lawOf_68, dX9_lawOf_69, dX9_lawOf_72, dX9_lawOf_75, dX9_lawOf_77, dX9_lawOf_79, dX9_lawOf_82, dX9_lawOf_84, dX9_lawOf_85, dX9_lawOf_88, dX9_lawOf_89, dX9_lawOf_92, dX9_lawOf_94, dX9_lawOf_95, dX9_lawOf_96, dX9_lawOf_97, dX9_lawOf_100, dX9_lawOf_102, dX9_lawOf_103, dX9_lawOf_104, dX9_lawOf_105, dX9_lawOf_108, dX9_lawOf_109, dX9_lawOf_112, dX9_lawOf_113, dX9_lawOf_116, dX9_lawOf_117, dX9_lawOf_120, dX9_lawOf_122, dX9_lawOf_124, dX9_lawOf_127, dX9_lawOf_129, dX9_lawOf_130, dX9_lawOf_133, dX9_lawOf_136, dX9_lawOf_137, dX9_lawOf_140, dX9_lawOf_142, dX9_lawOf_143, dX9_lawOf_144, dX9_lawOf_146, dX9_lawOf_147, dX9_lawOf_150, dX9_lawOf_152, dX9_lawOf_153, dX9_lawOf_154, dX9_lawOf_155, dX9_lawOf_156, dX9_lawOf_159, dX9_lawOf_161, dX9_lawOf_162, dX9_lawOf_165, dX9_lawOf_166, dX9_lawOf_169, dX9_lawOf_172, dX9_lawOf_173, dX9_lawOf_176, dX9_lawOf_177, dX9_lawOf_178]
  exact loop (wl + 1) 0 mI _ (by omega) (by omega) (fun _ _ _ => rfl) (fun _ => rfl)
