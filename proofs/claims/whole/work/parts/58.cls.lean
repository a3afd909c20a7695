/-! the class's objects: an object at cell S has its arrays at S + offset -/
def OL (sh : Nat → Option Sh) (mR : Nat → Nat → Option Nat) (S c : Nat) (tb : List (Nat × Nat × FieldType × Nat)) : Prop := sh S = some (.inl c) ∧ S < 100000000 ∧ ∀ x ∈ tb, mR S x.1 = some (S + x.2.1) ∧ sh (S + x.2.1) = some (.inr (x.2.2.1, x.2.2.2))
def ob0 : List (Nat × Nat × FieldType × Nat) := [(0, 1, .long, 25), (1, 2, .long, 25), (2, 3, .int, 5)]
def ob1 : List (Nat × Nat × FieldType × Nat) := [(0, 1, .long, 10), (1, 2, .long, 1024), (2, 3, .int, 1024), (3, 4, .int, 10)]
def ob2 : List (Nat × Nat × FieldType × Nat) := [(0, 1, .int, 10), (1, 2, .int, 10), (2, 3, .int, 10)]
def ob4 : List (Nat × Nat × FieldType × Nat) := [(0, 1, .int, 10), (1, 2, .int, 10), (2, 3, .int, 6), (3, 4, .int, 100)]
def ob6 : List (Nat × Nat × FieldType × Nat) := [(1, 7, .int, 40), (2, 8, .int, 40), (3, 9, .int, 40), (5, 10, .int, 10), (6, 11, .int, 10)]
def ob7 : List (Nat × Nat × FieldType × Nat) := [(1, 1, .long, 100), (2, 2, .int, 10), (3, 3, .long, 1024), (4, 4, .long, 1024), (5, 5, .long, 100)]
def ob9 : List (Nat × Nat × FieldType × Nat) := [(0, 1, .int, 40), (1, 2, .int, 64), (2, 3, .int, 8), (3, 4, .long, 105)]
/-- a school of np pupils at C -/
def ScP (mI : Nat → Nat → Int32) (C np : Nat) : Prop := mI C 4 = nI np ∧ np ≤ 10
def ScK (mI : Nat → Nat → Int32) (C np sl : Nat) (kd : Nat → Nat) : Prop := mI C 6 = nI sl ∧ sl ≤ 3 ∧ ∀ p, p < np → mI (C + 1) p = nI (kd p) ∧ kd p < 5
def ScL (mI : Nat → Nat → Int32) (C np : Nat) (lk : Nat → Nat → Nat) : Prop := ∀ a b, a < np → b < np → mI (C + 4) (10 * a + b) = nI (lk a b) ∧ lk a b ≤ 99
/-- the sayings on a sheet -/
def ShS (mI : Nat → Nat → Int32) (S c : Nat) (fi se ma : Nat → Nat) : Prop := mI S 4 = nI c ∧ c ≤ 40 ∧ ∀ k, k < c → mI (S + 7) k = nI (fi k) ∧ mI (S + 8) k = nI (se k) ∧ mI (S + 9) k = nI (ma k) ∧ fi k < 10 ∧ se k < 10 ∧ ma k < 2
set_option maxHeartbeats 4000000 in
set_option maxRecDepth 100000 in
theorem c4_everyone (l : Launch) (X : Cx) (d : Nat) (sh : Nat → Option Sh) (mI : Nat → Nat → Int32) (mL : Nat → Nat → Int64) (mR : Nat → Nat → Option Nat) (n : Nat) (C : Nat) (hC : OL sh mR C 4 ob4) (np : Nat) (hp : ScP mI C np) : Cn l X yX4_everyone cX4_everyone 1 (some .int) d [.ref C] (sh, mI, mL, mR, n) (fun r M' => M' = (sh, mI, mL, mR, n) ∧ r = some (.int (nI (2 ^ np - 1)))) 0 0 := by
  refine Cn.run 4 false (by decide) rfl (by decide) (by simp [entA, Value.category]) ?_
  intro P G hP hG
  have q0 := hC.1
  obtain ⟨h1, h2⟩ := hp
  have h3 := p2_10 h2
  refine hG.run [] 20 ?_
  simp [wp, stepI, ln, jmp, cmpI, Value.category, rd, tyF, va_rf, st1, st2, clr, isLg, CB, inx_0, inx_1, inx_2, inx_3, inx_4, inx_5, bI_0, bI_1, bI_ok, fin3, tyX4, entL, q0, dX4_everyone_0, dX4_everyone_1, dX4_everyone_2, fT_4_31, dX4_everyone_5, dX4_everyone_6, dX4_everyone_7, dX4_everyone_8]
  simp (disch := omega) only [li, nI_add, nI_clamp, nI_ltI, nI_leI, nI_eq, inx_iff, a31, nI_1shl', nI_shr', div_bit, tb1, tb0, fa_or, fa_and, nI_not, pk_sub, nI_dec, h1]
  exact hP _ _ ⟨rfl, rfl⟩
set_option maxHeartbeats 4000000 in
set_option maxRecDepth 100000 in
theorem c4_slipOf (l : Launch) (X : Cx) (d : Nat) (sh : Nat → Option Sh) (mI : Nat → Nat → Int32) (mL : Nat → Nat → Int64) (mR : Nat → Nat → Option Nat) (n : Nat) (C : Nat) (hC : OL sh mR C 4 ob4) (np : Nat) (hp : ScP mI C np) (sl : Nat) (kd : Nat → Nat) (hK : ScK mI C np sl kd) (p : Nat) (hpn : p < np) : Cn l X yX4_slipOf cX4_slipOf 2 (some .int) d [.ref C, .int (nI p)] (sh, mI, mL, mR, n) (fun r M' => M' = (sh, mI, mL, mR, n) ∧ r = some (.int (nI (offO sl kd p)))) 0 0 := by
  refine Cn.run 4 false (by decide) rfl (by decide) (by simp [entA, Value.category]) ?_
  intro P G hP hG
  have q0 := hC.1
  have q_kind := hC.2.2 (0, 1, .int, 10) (by decide)
  dsimp only at q_kind
  obtain ⟨h1, h2⟩ := hp
  obtain ⟨k1, k2, k3⟩ := hK
  obtain ⟨k4, k5⟩ := k3 p hpn
  refine hG.run [] 20 ?_
  simp [wp, stepI, ln, jmp, cmpI, Value.category, rd, tyF, va_rf, st1, st2, clr, isLg, CB, inx_0, inx_1, inx_2, inx_3, inx_4, inx_5, bI_0, bI_1, bI_ok, fin3, tyX4, entL, q0, q_kind, dX4_slipOf_0, dX4_slipOf_1, fT_4_9, dX4_slipOf_4, dX4_slipOf_5, dX4_slipOf_6, dX4_slipOf_7, dX4_slipOf_10, dX4_slipOf_11, dX4_slipOf_12, fT_4_27, dX4_slipOf_15, dX4_slipOf_16, dX4_slipOf_19, dX4_slipOf_20, dX4_slipOf_23]
  simp (disch := omega) only [li, nI_add, nI_clamp, nI_ltI, nI_leI, nI_eq, inx_iff, a31, nI_1shl', nI_shr', div_bit, tb1, tb0, fa_or, fa_and, nI_not, pk_sub, nI_dec, k1, k4, nI_mul]
  refine ⟨by omega, fun z => hP _ _ ⟨rfl, by unfold offO; rw [if_neg z]⟩, fun z => hP _ _ ⟨rfl, by unfold offO; rw [if_pos z]⟩⟩
set_option maxHeartbeats 4000000 in
set_option maxRecDepth 100000 in
theorem c4_likingOf (l : Launch) (X : Cx) (d : Nat) (sh : Nat → Option Sh) (mI : Nat → Nat → Int32) (mL : Nat → Nat → Int64) (mR : Nat → Nat → Option Nat) (n : Nat) (C : Nat) (hC : OL sh mR C 4 ob4) (np : Nat) (hp : ScP mI C np) (lk : Nat → Nat → Nat) (hl : ScL mI C np lk) (a b : Nat) (ha : a < np) (hb : b < np) : Cn l X yX4_likingOf cX4_likingOf 3 (some .int) d [.ref C, .int (nI a), .int (nI b)] (sh, mI, mL, mR, n) (fun r M' => M' = (sh, mI, mL, mR, n) ∧ r = some (.int (nI (lk a b)))) 0 0 := by
  refine Cn.run 4 false (by decide) rfl (by decide) (by simp [entA, Value.category]) ?_
  intro P G hP hG
  have q0 := hC.1
  have q_liking := hC.2.2 (3, 4, .int, 100) (by decide)
  dsimp only at q_liking
  obtain ⟨h1, h2⟩ := hp
  have k1 := (hl a b ha hb).1
  rw [Nat.mul_comm] at k1
  refine hG.run [] 20 ?_
  simp [wp, stepI, ln, jmp, cmpI, Value.category, rd, tyF, va_rf, st1, st2, clr, isLg, CB, inx_0, inx_1, inx_2, inx_3, inx_4, inx_5, bI_0, bI_1, bI_ok, fin3, tyX4, entL, q0, q_liking, dX4_likingOf_0, dX4_likingOf_1, fT_4_21, dX4_likingOf_4, dX4_likingOf_5, dX4_likingOf_7, dX4_likingOf_8, dX4_likingOf_9, dX4_likingOf_10, dX4_likingOf_11]
  simp (disch := omega) only [li, nI_add, nI_clamp, nI_ltI, nI_leI, nI_eq, inx_iff, a31, nI_1shl', nI_shr', div_bit, tb1, tb0, fa_or, fa_and, nI_not, pk_sub, nI_dec, nI_mul, k1]
  exact ⟨by omega, hP _ _ ⟨rfl, rfl⟩⟩
set_option maxHeartbeats 4000000 in
set_option maxRecDepth 100000 in
theorem c6_isSaid (l : Launch) (X : Cx) (d : Nat) (sh : Nat → Option Sh) (mI : Nat → Nat → Int32) (mL : Nat → Nat → Int64) (mR : Nat → Nat → Option Nat) (n : Nat) (S : Nat) (hO : OL sh mR S 6 ob6) (c : Nat) (fi se ma : Nat → Nat) (hS : ShS mI S c fi se ma) (a b w : Nat) (hw : w < 2) (ha : a < 10) (hb : b < 10) : Cn l X yX6_isSaid cX6_isSaid 5 (some .boolean) d [.ref S, .int (nI a), .int (nI b), .int (nI w)] (sh, mI, mL, mR, n) (fun r M' => M' = (sh, mI, mL, mR, n) ∧ r = some (.int (bI (decide (∃ k, k < c ∧ ma k = w ∧ fi k = a ∧ se k = b))))) 0 0 := by
  refine Cn.run 6 false (by decide) rfl (by decide) (by simp [entA, Value.category]) ?_
  intro P G hP hG
  have q0 := hO.1
  have q_first := hO.2.2 (1, 7, .int, 40) (by decide)
  dsimp only at q_first
  have q_second := hO.2.2 (2, 8, .int, 40) (by decide)
  dsimp only at q_second
  have q_master := hO.2.2 (3, 9, .int, 40) (by decide)
  dsimp only at q_master
  obtain ⟨e0, hc, hk⟩ := hS
  have loop : ∀ f i, c - i < f → i ≤ c → (∀ k, k < i → ¬ (ma k = w ∧ fi k = a ∧ se k = b)) → G 3 [some (.ref S), some (.int (nI a)), some (.int (nI b)), some (.int (nI w)), some (.int (nI i))] [] (sh, mI, mL, mR, n) := by
    intro f
    induction f with
    | zero => intro i h; omega
    | succ f ih =>
      intro i hf hi hal
      have nx : ¬ (ma i = w ∧ fi i = a ∧ se i = b) → i < c → G 3 [some (.ref S), some (.int (nI a)), some (.int (nI b)), some (.int (nI w)), some (.int (nI (i + 1)))] [] (sh, mI, mL, mR, n) := fun z h => ih (i + 1) (by omega) (by omega) (fun k hk => by
        rcases Nat.lt_or_ge k i with y | y
        · exact hal k y
        · rw [show k = i by omega]; exact z)
      refine hG.run [3] 60 ?_
      simp [wp, stepI, ln, jmp, cmpI, Value.category, rd, tyF, va_rf, st1, st2, clr, isLg, CB, inx_0, inx_1, inx_2, inx_3, inx_4, inx_5, bI_0, bI_1, bI_ok, fin3, tyX6, entL, q0, q_first, q_second, q_master, dX6_isSaid_0, dX6_isSaid_1, dX6_isSaid_3, dX6_isSaid_5, dX6_isSaid_6, fT_6_40, dX6_isSaid_9, dX6_isSaid_12, dX6_isSaid_13, fT_6_18, dX6_isSaid_16, dX6_isSaid_18, dX6_isSaid_19, dX6_isSaid_20, dX6_isSaid_23, dX6_isSaid_24, fT_6_22, dX6_isSaid_27, dX6_isSaid_29, dX6_isSaid_30, dX6_isSaid_31, dX6_isSaid_34, dX6_isSaid_35, fT_6_25, dX6_isSaid_38, dX6_isSaid_40, dX6_isSaid_41, dX6_isSaid_42, dX6_isSaid_45, dX6_isSaid_46, dX6_isSaid_47, dX6_isSaid_50, dX6_isSaid_53, dX6_isSaid_54]
      simp (disch := omega) only [li, nI_add, nI_clamp, nI_ltI, nI_leI, nI_eq, inx_iff, a31, nI_1shl', nI_shr', div_bit, tb1, tb0, fa_or, fa_and, nI_not, pk_sub, nI_dec, e0]
      refine ⟨fun h => hP _ _ ⟨rfl, ?_⟩, fun h => ?_⟩
      · rw [decide_eq_false (fun ⟨k, hk, z⟩ => hal k (by omega) z)]; rfl
      obtain ⟨s1, s2, s3, b1, b2, b3⟩ := hk i h
      simp (disch := omega) only [li, nI_add, nI_clamp, nI_ltI, nI_leI, nI_eq, inx_iff, a31, nI_1shl', nI_shr', div_bit, tb1, tb0, fa_or, fa_and, nI_not, pk_sub, nI_dec, s1, s2, s3]
      refine ⟨by omega, fun z => nx (fun y => z y.2.1) h, fun z => ⟨by omega, fun z2 => nx (fun y => z2 y.2.2) h, fun z2 => ⟨by omega, fun z3 => nx (fun y => z3 y.1) h, fun z3 => hP _ _ ⟨rfl, ?_⟩⟩⟩⟩
      rw [decide_eq_true ⟨i, h, z3, z, z2⟩]; rfl
  refine hG.run [3] 60 ?_
  simp [wp, stepI, ln, jmp, cmpI, Value.category, rd, tyF, va_rf, st1, st2, clr, isLg, CB, inx_0, inx_1, inx_2, inx_3, inx_4, inx_5, bI_0, bI_1, bI_ok, fin3, tyX6, entL, q0, dX6_isSaid_0, dX6_isSaid_1, dX6_isSaid_3, dX6_isSaid_5, dX6_isSaid_6, fT_6_40, dX6_isSaid_9, dX6_isSaid_12, dX6_isSaid_13, fT_6_18, dX6_isSaid_16, dX6_isSaid_18, dX6_isSaid_19, dX6_isSaid_20, dX6_isSaid_23, dX6_isSaid_24, fT_6_22, dX6_isSaid_27, dX6_isSaid_29, dX6_isSaid_30, dX6_isSaid_31, dX6_isSaid_34, dX6_isSaid_35, fT_6_25, dX6_isSaid_38, dX6_isSaid_40, dX6_isSaid_41, dX6_isSaid_42, dX6_isSaid_45, dX6_isSaid_46, dX6_isSaid_47, dX6_isSaid_50, dX6_isSaid_53, dX6_isSaid_54]
  exact loop (c + 1) 0 (by omega) (by omega) (fun k h => by omega)
theorem up2_cmI {f : Nat → Nat → Int32} {a k b j : Nat} {v w : Int32} (h : ¬ (a = b ∧ k = j)) : up2 (up2 f a k v) b j w = up2 (up2 f b j w) a k v := by
  funext x y
  unfold up2
  by_cases h1 : x = b ∧ y = j
  · rw [if_pos h1, if_neg (fun z => h ⟨z.1.symm.trans h1.1, z.2.symm.trans h1.2⟩), if_pos h1]
  · rw [if_neg h1]
    by_cases h2 : x = a ∧ y = k
    · rw [if_pos h2, if_pos h2]
    · rw [if_neg h2, if_neg h2, if_neg h1]
/-- who sits where, by a row of seats at cell A (-1: nowhere); st is 1 + the seat -/
def SeR (mI : Nat → Nat → Int32) (A np : Nat) (st : Nat → Nat) : Prop := ∀ p, p < np → mI A p = nI (st p) - nI 1 ∧ st p ≤ 12
def sitF (np : Nat) (st : Nat → Nat) (k : Int32) : Nat := fa_first (fun p => decide (nI (st p) - nI 1 = k)) np
set_option maxHeartbeats 4000000 in
set_option maxRecDepth 100000 in
theorem c6_sitterOn (l : Launch) (X : Cx) (d : Nat) (sh : Nat → Option Sh) (mI : Nat → Nat → Int32) (mL : Nat → Nat → Int64) (mR : Nat → Nat → Option Nat) (n : Nat) (S C : Nat) (hO : OL sh mR S 6 ob6) (hsc : mR S 0 = some C) (hC : sh C = some (.inl 4)) (np : Nat) (hp : ScP mI C np) (st : Nat → Nat) (hT : SeR mI (S + 10) np st) (k : Int32) : Cn l X yX6_sitterOn cX6_sitterOn 3 (some .int) d [.ref S, .int k] (sh, mI, mL, mR, n) (fun r M' => M' = (sh, mI, mL, mR, n) ∧ r = some (.int (if sitF np st k < np then nI (sitF np st k) else -nI 1))) 0 0 := by
  refine Cn.run 6 false (by decide) rfl (by decide) (by simp [entA, Value.category]) ?_
  intro P G hP hG
  have q0 := hO.1
  have q_seat := hO.2.2 (5, 10, .int, 10) (by decide)
  dsimp only at q_seat
  obtain ⟨h1, h2⟩ := hp
  have fle := fa_first_le (fun p => decide (nI (st p) - nI 1 = k)) np
  have loop : ∀ f i, np - i < f → i ≤ sitF np st k → G 2 [some (.ref S), some (.int k), some (.int (nI i))] [] (sh, mI, mL, mR, n) := by
    intro f
    induction f with
    | zero => intro i h h4; unfold sitF at h4; omega
    | succ f ih =>
      intro i hf hi
      have hi' : i ≤ np := by unfold sitF at hi; omega
      refine hG.run [2] 40 ?_
      simp [wp, stepI, ln, jmp, cmpI, Value.category, rd, tyF, va_rf, st1, st2, clr, isLg, CB, inx_0, inx_1, inx_2, inx_3, inx_4, inx_5, bI_0, bI_1, bI_ok, fin3, tyX6, entL, q0, q_seat, hsc, hC, tyX4, dX6_sitterOn_0, dX6_sitterOn_1, dX6_sitterOn_2, dX6_sitterOn_3, dX6_sitterOn_4, fT_6_12, dX6_sitterOn_7, fT_6_50, dX6_sitterOn_10, dX6_sitterOn_13, dX6_sitterOn_14, fT_6_28, dX6_sitterOn_17, dX6_sitterOn_18, dX6_sitterOn_19, dX6_sitterOn_20, dX6_sitterOn_23, dX6_sitterOn_24, dX6_sitterOn_25, dX6_sitterOn_28, dX6_sitterOn_31, dX6_sitterOn_32]
      simp (disch := omega) only [li, nI_add, nI_clamp, nI_ltI, nI_leI, nI_eq, inx_iff, a31, nI_1shl', nI_shr', div_bit, tb1, tb0, fa_or, fa_and, nI_not, pk_sub, nI_dec, h1]
      refine ⟨fun z => hP _ _ ⟨rfl, by rw [if_neg (by omega)]⟩, fun z => ⟨by omega, fun y => ih (i + 1) (by omega) ?_, fun y => hP _ _ ⟨rfl, ?_⟩⟩⟩
      · rw [(hT i z).1] at y
        rcases Nat.lt_or_ge i (sitF np st k) with x | x
        · omega
        · have e : fa_first (fun p => decide (nI (st p) - nI 1 = k)) np = i := by unfold sitF at x hi; omega
          have := fa_first_yes (fun p => decide (nI (st p) - nI 1 = k)) np (by omega)
          rw [e] at this
          exact absurd (of_decide_eq_true this) y
      · rw [(hT i z).1] at y
        have e : sitF np st k = i := lx_first hi' (fun j hj => fa_first_no (fun p => decide (nI (st p) - nI 1 = k)) np j (by unfold sitF at hi; omega)) (fun _ => decide_eq_true y)
        rw [e, if_pos z]
  refine hG.run [2] 40 ?_
  simp [wp, stepI, ln, jmp, cmpI, Value.category, rd, tyF, va_rf, st1, st2, clr, isLg, CB, inx_0, inx_1, inx_2, inx_3, inx_4, inx_5, bI_0, bI_1, bI_ok, fin3, tyX6, entL, q0, dX6_sitterOn_0, dX6_sitterOn_1, dX6_sitterOn_2, dX6_sitterOn_3, dX6_sitterOn_4, fT_6_12, dX6_sitterOn_7, fT_6_50, dX6_sitterOn_10, dX6_sitterOn_13, dX6_sitterOn_14, fT_6_28, dX6_sitterOn_17, dX6_sitterOn_18, dX6_sitterOn_19, dX6_sitterOn_20, dX6_sitterOn_23, dX6_sitterOn_24, dX6_sitterOn_25, dX6_sitterOn_28, dX6_sitterOn_31, dX6_sitterOn_32]
  exact loop (np + 1) 0 (by omega) (Nat.zero_le _)
set_option maxHeartbeats 4000000 in
set_option maxRecDepth 100000 in
theorem c6_placedOf (l : Launch) (X : Cx) (d : Nat) (sh : Nat → Option Sh) (mI : Nat → Nat → Int32) (mL : Nat → Nat → Int64) (mR : Nat → Nat → Option Nat) (n : Nat) (S C A : Nat) (hS6 : sh S = some (.inl 6)) (hA : sh A = some (.inr (.int, 10))) (hsc : mR S 0 = some C) (hC : sh C = some (.inl 4)) (np : Nat) (hp : ScP mI C np) (st : Nat → Nat) (hT : SeR mI A np st) : Cn l X yX6_placedOf cX6_placedOf 4 (some .int) d [.ref S, .ref A] (sh, mI, mL, mR, n) (fun r M' => M' = (sh, mI, mL, mR, n) ∧ r = some (.int (nI (fb_ct (fun p => !decide (st p = 0)) np)))) 0 0 := by
  refine Cn.run 6 false (by decide) rfl (by decide) (by simp [entA, Value.category]) ?_
  intro P G hP hG
  obtain ⟨h1, h2⟩ := hp
  have q0 := hS6
  have loop : ∀ f i, np - i < f → i ≤ np → G 4 [some (.ref S), some (.ref A), some (.int (nI (fb_ct (fun p => !decide (st p = 0)) i))), some (.int (nI i))] [] (sh, mI, mL, mR, n) := by
    intro f
    induction f with
    | zero => intro i h; omega
    | succ f ih =>
      intro i hf hi
      have cle := fb_ct_le (fun p => !decide (st p = 0)) i
      have nx := ih (i + 1)
      rw [fb_ct_succ] at nx
      refine hG.run [4] 40 ?_
      simp [wp, stepI, ln, jmp, cmpI, Value.category, rd, tyF, va_rf, st1, st2, clr, isLg, CB, inx_0, inx_1, inx_2, inx_3, inx_4, inx_5, bI_0, bI_1, bI_ok, fin3, tyX6, entL, q0, hsc, hC, hA, tyX4, dX6_placedOf_0, dX6_placedOf_1, dX6_placedOf_2, dX6_placedOf_3, dX6_placedOf_4, dX6_placedOf_5, dX6_placedOf_6, fT_6_12, dX6_placedOf_9, fT_6_50, dX6_placedOf_12, dX6_placedOf_15, dX6_placedOf_16, dX6_placedOf_17, dX6_placedOf_18, dX6_placedOf_19, dX6_placedOf_22, dX6_placedOf_25, dX6_placedOf_28, dX6_placedOf_31, dX6_placedOf_32]
      simp (disch := omega) only [li, nI_add, nI_clamp, nI_ltI, nI_leI, nI_eq, inx_iff, a31, nI_1shl', nI_shr', div_bit, tb1, tb0, fa_or, fa_and, nI_not, pk_sub, nI_dec, h1]
      refine ⟨fun z => hP _ _ ⟨rfl, by rw [show i = np by omega]⟩, fun z => ?_⟩
      obtain ⟨a1, a2⟩ := hT i z
      have e : mI A i = -nI 1 ↔ st i = 0 := by
        rw [a1]
        refine (by decide +kernel : ∀ s, s ≤ 12 → (nI s - nI 1 = -nI 1 ↔ s = 0)) (st i) a2
      refine ⟨by omega, fun y => ?_, fun y => ?_⟩
      · have := nx (by omega) (by omega)
        rw [decide_eq_true (e.mp y)] at this
        exact this
      · have := nx (by omega) (by omega)
        rw [decide_eq_false (fun w => y (e.mpr w))] at this
        exact this
  refine hG.run [4] 40 ?_
  simp [wp, stepI, ln, jmp, cmpI, Value.category, rd, tyF, va_rf, st1, st2, clr, isLg, CB, inx_0, inx_1, inx_2, inx_3, inx_4, inx_5, bI_0, bI_1, bI_ok, fin3, tyX6, entL, q0, dX6_placedOf_0, dX6_placedOf_1, dX6_placedOf_2, dX6_placedOf_3, dX6_placedOf_4, dX6_placedOf_5, dX6_placedOf_6, fT_6_12, dX6_placedOf_9, fT_6_50, dX6_placedOf_12, dX6_placedOf_15, dX6_placedOf_16, dX6_placedOf_17, dX6_placedOf_18, dX6_placedOf_19, dX6_placedOf_22, dX6_placedOf_25, dX6_placedOf_28, dX6_placedOf_31, dX6_placedOf_32]
  exact loop (np + 1) 0 (by omega) (by omega)
set_option maxHeartbeats 4000000 in
set_option maxRecDepth 100000 in
theorem c6_addSaying (l : Launch) (X : Cx) (d : Nat) (sh : Nat → Option Sh) (mI : Nat → Nat → Int32) (mL : Nat → Nat → Int64) (mR : Nat → Nat → Option Nat) (n : Nat) (S : Nat) (hO : OL sh mR S 6 ob6) (c : Nat) (fi se ma : Nat → Nat) (hS : ShS mI S c fi se ma) (x y w : Nat) (hx : x < 10) (hy : y < 10) (hw : w < 2) (hd : 1 ≤ d) : Cn l X yX6_addSaying cX6_addSaying 4 none d [.ref S, .int (nI x), .int (nI y), .int (nI w)] (sh, mI, mL, mR, n) (fun r M' => r = none ∧ ∃ mI', M' = (sh, mI', mL, mR, n) ∧ (∀ a k, a ≠ S + 7 → a ≠ S + 8 → a ≠ S + 9 → ¬ (a = S ∧ k = 4) → mI' a k = mI a k) ∧ ShS mI' S (heC c) (heF c fi x) (heF c se y) (heF c ma w)) 0 0 := by
  refine Cn.run 6 false (by decide) rfl (by decide) (by simp [entA, Value.category]) ?_
  intro P G hP hG
  have q0 := hO.1
  have q_first := hO.2.2 (1, 7, .int, 40) (by decide)
  dsimp only at q_first
  have q_second := hO.2.2 (2, 8, .int, 40) (by decide)
  dsimp only at q_second
  have q_master := hO.2.2 (3, 9, .int, 40) (by decide)
  dsimp only at q_master
  obtain ⟨e0, hc, hk⟩ := hS
  have hSl := hO.2.1
  have xS : S < 1000000000 := by omega
  have x7 : S + 7 < 1000000000 := by omega
  have x8 : S + 8 < 1000000000 := by omega
  have x9 : S + 9 < 1000000000 := by omega
  have tail : ∀ c1 f1 s1 m1 mI1, c1 ≤ 39 → ShS mI1 S c1 f1 s1 m1 → (∀ a k, a ≠ S + 7 → a ≠ S + 8 → a ≠ S + 9 → ¬ (a = S ∧ k = 4) → mI1 a k = mI a k) → heC c = c1 + 1 → heF c fi x = upN f1 c1 x → heF c se y = upN s1 c1 y → heF c ma w = upN m1 c1 w → G 66 [some (.ref S), some (.int (nI x)), some (.int (nI y)), some (.int (nI w))] [] (sh, mI1, mL, mR, n) := fun c1 f1 s1 m1 mI1 h1 h2 h3 h5 h6 h7 h8 => by
    have e1 := h2.1
    rw [h5, h6, h7, h8] at hP
    refine hG.run [] 80 ?_
    simp [wp, stepI, ln, jmp, cmpI, Value.category, rd, tyF, va_rf, st1, st2, clr, isLg, CB, inx_0, inx_1, inx_2, inx_3, inx_4, inx_5, bI_0, bI_1, bI_ok, fin3, tyX6, entL, q0, q_first, q_second, q_master, okv, wr, finF, clT, TX6, xS, x7, x8, x9, dX6_addSaying_0, dX6_addSaying_1, fT_6_40, dX6_addSaying_4, dX6_addSaying_6, dX6_addSaying_9, dX6_addSaying_10, dX6_addSaying_12, dX6_addSaying_15, dX6_addSaying_16, fT_6_18, dX6_addSaying_19, dX6_addSaying_20, dX6_addSaying_21, dX6_addSaying_24, dX6_addSaying_25, dX6_addSaying_26, dX6_addSaying_29, dX6_addSaying_32, dX6_addSaying_33, fT_6_22, dX6_addSaying_36, dX6_addSaying_37, dX6_addSaying_38, dX6_addSaying_41, dX6_addSaying_42, dX6_addSaying_43, dX6_addSaying_46, dX6_addSaying_49, dX6_addSaying_50, fT_6_25, dX6_addSaying_53, dX6_addSaying_54, dX6_addSaying_55, dX6_addSaying_58, dX6_addSaying_59, dX6_addSaying_60, dX6_addSaying_63, dX6_addSaying_66, dX6_addSaying_67, dX6_addSaying_70, dX6_addSaying_71, dX6_addSaying_74, dX6_addSaying_75, dX6_addSaying_76, dX6_addSaying_77, dX6_addSaying_80, dX6_addSaying_81, dX6_addSaying_84, dX6_addSaying_85, dX6_addSaying_86, dX6_addSaying_87, dX6_addSaying_90, dX6_addSaying_91, dX6_addSaying_94, dX6_addSaying_95, dX6_addSaying_96, dX6_addSaying_97, dX6_addSaying_98, dX6_addSaying_101, dX6_addSaying_102, dX6_addSaying_103, dX6_addSaying_106]
    simp (disch := omega) only [li, nI_add, nI_clamp, nI_ltI, nI_leI, nI_eq, inx_iff, a31, nI_1shl', nI_shr', div_bit, tb1, tb0, fa_or, fa_and, nI_not, pk_sub, nI_dec, e1, up2_eq, up2_ne]
    have fin : P none (sh, up2 (up2 (up2 (up2 mI1 (S + 7) c1 (nI x)) (S + 8) c1 (nI y)) (S + 9) c1 (nI w)) S 4 (nI (c1 + 1)), mL, mR, n) := by
      refine hP _ _ ⟨rfl, _, rfl, fun a k ha hb hc hd => ?_, ?_⟩
      · rw [up2_ne hd, up2_ne (fun z => hc z.1), up2_ne (fun z => hb z.1), up2_ne (fun z => ha z.1)]
        exact h3 a k ha hb hc hd
      · refine ⟨up2_eq _ _ _ _, by omega, fun k hk => ?_⟩
        by_cases e : k = c1
        · subst e
          simp (disch := omega) only [up2_eq, up2_ne, upN_eq]
          exact ⟨trivial, trivial, trivial, hx, hy, hw⟩
        · obtain ⟨a1, a2, a3, a4⟩ := h2.2.2 k (by omega)
          simp (disch := omega) only [up2_eq, up2_ne, upN_ne e]
          exact ⟨a1, a2, a3, a4⟩
    have x40 : c1 < 40 := by omega
    exact ⟨x40, x40, x40, fin⟩
  refine hG.run [66] 60 ?_
  simp [wp, stepI, ln, jmp, cmpI, Value.category, rd, tyF, va_rf, st1, st2, clr, isLg, CB, inx_0, inx_1, inx_2, inx_3, inx_4, inx_5, bI_0, bI_1, bI_ok, fin3, tyX6, entL, q0, q_first, q_second, q_master, okv, wr, finF, clT, TX6, xS, x7, x8, x9, dX6_addSaying_0, dX6_addSaying_1, fT_6_40, dX6_addSaying_4, dX6_addSaying_6, dX6_addSaying_9, dX6_addSaying_10, dX6_addSaying_12, dX6_addSaying_15, dX6_addSaying_16, fT_6_18, dX6_addSaying_19, dX6_addSaying_20, dX6_addSaying_21, dX6_addSaying_24, dX6_addSaying_25, dX6_addSaying_26, dX6_addSaying_29, dX6_addSaying_32, dX6_addSaying_33, fT_6_22, dX6_addSaying_36, dX6_addSaying_37, dX6_addSaying_38, dX6_addSaying_41, dX6_addSaying_42, dX6_addSaying_43, dX6_addSaying_46, dX6_addSaying_49, dX6_addSaying_50, fT_6_25, dX6_addSaying_53, dX6_addSaying_54, dX6_addSaying_55, dX6_addSaying_58, dX6_addSaying_59, dX6_addSaying_60, dX6_addSaying_63, dX6_addSaying_66, dX6_addSaying_67, dX6_addSaying_70, dX6_addSaying_71, dX6_addSaying_74, dX6_addSaying_75, dX6_addSaying_76, dX6_addSaying_77, dX6_addSaying_80, dX6_addSaying_81, dX6_addSaying_84, dX6_addSaying_85, dX6_addSaying_86, dX6_addSaying_87, dX6_addSaying_90, dX6_addSaying_91, dX6_addSaying_94, dX6_addSaying_95, dX6_addSaying_96, dX6_addSaying_97, dX6_addSaying_98, dX6_addSaying_101, dX6_addSaying_102, dX6_addSaying_103, dX6_addSaying_106]
  simp (disch := omega) only [li, nI_add, nI_clamp, nI_ltI, nI_leI, nI_eq, inx_iff, a31, nI_1shl', nI_shr', div_bit, tb1, tb0, fa_or, fa_and, nI_not, pk_sub, nI_dec, e0]
  refine ⟨fun z => tail c fi se ma mI (by omega) ⟨e0, hc, hk⟩ (fun _ _ _ _ _ _ => rfl) (by unfold heC; rw [if_neg (show ¬ c = 40 by omega)]) (by unfold heF; rw [if_neg (show ¬ c = 40 by omega)]) (by unfold heF; rw [if_neg (show ¬ c = 40 by omega)]) (by unfold heF; rw [if_neg (show ¬ c = 40 by omega)]), fun z => ?_⟩
  have hc40 : c = 40 := by omega
  rw [up2_eq]
  refine hG.2.2.2.1 29 44 _ _ (sh, up2 mI S 4 (nI 39), mL, mR, n) (S + 7) (S + 7) 40 40 (nI 1) (nI 0) (nI 39) dX6_addSaying_29 ml_6_44 q_first.2 q_first.2 (by show _ < 1000000000; omega) (by decide +kernel) (by decide +kernel) (by decide +kernel) (by decide +kernel) (by decide +kernel) (by omega) (by simp [Value.category]) ?_
  rw [show (nI 1).toNatClampNeg = 1 from by decide +kernel, show (nI 0).toNatClampNeg = 0 from by decide +kernel, show (nI 39).toNatClampNeg = 39 from by decide +kernel]
  obtain ⟨m1, hm1⟩ : ∃ m, m = cpM (up2 mI S 4 (nI 39)) (S + 7) (S + 7) 1 0 39 := ⟨_, rfl⟩
  have s1 : m1 S 4 = nI 39 := by rw [hm1, cpM_out (fun z => by omega), up2_eq]
  show G 32 _ _ (sh, cpM (up2 mI S 4 (nI 39)) (S + 7) (S + 7) 1 0 39, mL, mR, n)
  rw [← hm1]
  refine hG.run [66] 60 ?_
  simp [wp, stepI, ln, jmp, cmpI, Value.category, rd, tyF, va_rf, st1, st2, clr, isLg, CB, inx_0, inx_1, inx_2, inx_3, inx_4, inx_5, bI_0, bI_1, bI_ok, fin3, tyX6, entL, q0, q_first, q_second, q_master, s1, dX6_addSaying_0, dX6_addSaying_1, fT_6_40, dX6_addSaying_4, dX6_addSaying_6, dX6_addSaying_9, dX6_addSaying_10, dX6_addSaying_12, dX6_addSaying_15, dX6_addSaying_16, fT_6_18, dX6_addSaying_19, dX6_addSaying_20, dX6_addSaying_21, dX6_addSaying_24, dX6_addSaying_25, dX6_addSaying_26, dX6_addSaying_29, dX6_addSaying_32, dX6_addSaying_33, fT_6_22, dX6_addSaying_36, dX6_addSaying_37, dX6_addSaying_38, dX6_addSaying_41, dX6_addSaying_42, dX6_addSaying_43, dX6_addSaying_46, dX6_addSaying_49, dX6_addSaying_50, fT_6_25, dX6_addSaying_53, dX6_addSaying_54, dX6_addSaying_55, dX6_addSaying_58, dX6_addSaying_59, dX6_addSaying_60, dX6_addSaying_63, dX6_addSaying_66, dX6_addSaying_67, dX6_addSaying_70, dX6_addSaying_71, dX6_addSaying_74, dX6_addSaying_75, dX6_addSaying_76, dX6_addSaying_77, dX6_addSaying_80, dX6_addSaying_81, dX6_addSaying_84, dX6_addSaying_85, dX6_addSaying_86, dX6_addSaying_87, dX6_addSaying_90, dX6_addSaying_91, dX6_addSaying_94, dX6_addSaying_95, dX6_addSaying_96, dX6_addSaying_97, dX6_addSaying_98, dX6_addSaying_101, dX6_addSaying_102, dX6_addSaying_103, dX6_addSaying_106]
  simp only [li]
  refine hG.2.2.2.1 46 44 _ _ (sh, m1, mL, mR, n) (S + 8) (S + 8) 40 40 (nI 1) (nI 0) (nI 39) dX6_addSaying_46 ml_6_44 q_second.2 q_second.2 (by show _ < 1000000000; omega) (by decide +kernel) (by decide +kernel) (by decide +kernel) (by decide +kernel) (by decide +kernel) (by omega) (by simp [Value.category]) ?_
  rw [show (nI 1).toNatClampNeg = 1 from by decide +kernel, show (nI 0).toNatClampNeg = 0 from by decide +kernel, show (nI 39).toNatClampNeg = 39 from by decide +kernel]
  obtain ⟨m2, hm2⟩ : ∃ m, m = cpM m1 (S + 8) (S + 8) 1 0 39 := ⟨_, rfl⟩
  have s2 : m2 S 4 = nI 39 := by rw [hm2, cpM_out (fun z => by omega), s1]
  show G 49 _ _ (sh, cpM m1 (S + 8) (S + 8) 1 0 39, mL, mR, n)
  rw [← hm2]
  refine hG.run [66] 60 ?_
  simp [wp, stepI, ln, jmp, cmpI, Value.category, rd, tyF, va_rf, st1, st2, clr, isLg, CB, inx_0, inx_1, inx_2, inx_3, inx_4, inx_5, bI_0, bI_1, bI_ok, fin3, tyX6, entL, q0, q_first, q_second, q_master, s2, dX6_addSaying_0, dX6_addSaying_1, fT_6_40, dX6_addSaying_4, dX6_addSaying_6, dX6_addSaying_9, dX6_addSaying_10, dX6_addSaying_12, dX6_addSaying_15, dX6_addSaying_16, fT_6_18, dX6_addSaying_19, dX6_addSaying_20, dX6_addSaying_21, dX6_addSaying_24, dX6_addSaying_25, dX6_addSaying_26, dX6_addSaying_29, dX6_addSaying_32, dX6_addSaying_33, fT_6_22, dX6_addSaying_36, dX6_addSaying_37, dX6_addSaying_38, dX6_addSaying_41, dX6_addSaying_42, dX6_addSaying_43, dX6_addSaying_46, dX6_addSaying_49, dX6_addSaying_50, fT_6_25, dX6_addSaying_53, dX6_addSaying_54, dX6_addSaying_55, dX6_addSaying_58, dX6_addSaying_59, dX6_addSaying_60, dX6_addSaying_63, dX6_addSaying_66, dX6_addSaying_67, dX6_addSaying_70, dX6_addSaying_71, dX6_addSaying_74, dX6_addSaying_75, dX6_addSaying_76, dX6_addSaying_77, dX6_addSaying_80, dX6_addSaying_81, dX6_addSaying_84, dX6_addSaying_85, dX6_addSaying_86, dX6_addSaying_87, dX6_addSaying_90, dX6_addSaying_91, dX6_addSaying_94, dX6_addSaying_95, dX6_addSaying_96, dX6_addSaying_97, dX6_addSaying_98, dX6_addSaying_101, dX6_addSaying_102, dX6_addSaying_103, dX6_addSaying_106]
  simp only [li]
  refine hG.2.2.2.1 63 44 _ _ (sh, m2, mL, mR, n) (S + 9) (S + 9) 40 40 (nI 1) (nI 0) (nI 39) dX6_addSaying_63 ml_6_44 q_master.2 q_master.2 (by show _ < 1000000000; omega) (by decide +kernel) (by decide +kernel) (by decide +kernel) (by decide +kernel) (by decide +kernel) (by omega) (by simp [Value.category]) ?_
  rw [show (nI 1).toNatClampNeg = 1 from by decide +kernel, show (nI 0).toNatClampNeg = 0 from by decide +kernel, show (nI 39).toNatClampNeg = 39 from by decide +kernel]
  show G 66 _ _ (sh, cpM m2 (S + 9) (S + 9) 1 0 39, mL, mR, n)
  refine tail 39 (fun k => fi (k + 1)) (fun k => se (k + 1)) (fun k => ma (k + 1)) _ (Nat.le_refl _) ⟨?_, by decide, fun k hk2 => ?_⟩ (fun a k ha hb hc hd => ?_) (by unfold heC; rw [if_pos hc40]) (by unfold heF; rw [if_pos hc40]) (by unfold heF; rw [if_pos hc40]) (by unfold heF; rw [if_pos hc40])
  · rw [cpM_out (fun z => by omega), s2]
  · obtain ⟨b1, b2, b3, b4⟩ := hk (k + 1) (by omega)
    refine ⟨?_, ?_, ?_, b4⟩
    · rw [cpM_out (fun z => by omega), hm2, cpM_out (fun z => by omega), hm1, cpM_in (by omega) (by omega), up2_ne (fun z => by omega), show 1 + (k - 0) = k + 1 by omega]; exact b1
    · rw [cpM_out (fun z => by omega), hm2, cpM_in (by omega) (by omega), hm1, cpM_out (fun z => by omega), up2_ne (fun z => by omega), show 1 + (k - 0) = k + 1 by omega]; exact b2
    · rw [cpM_in (by omega) (by omega), hm2, cpM_out (fun z => by omega), hm1, cpM_out (fun z => by omega), up2_ne (fun z => by omega), show 1 + (k - 0) = k + 1 by omega]; exact b3
  · rw [cpM_out (fun z => hc z.1), hm2, cpM_out (fun z => hb z.1), hm1, cpM_out (fun z => ha z.1), up2_ne hd]
