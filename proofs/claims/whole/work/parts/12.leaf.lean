def wth (v a b : Int32) : Bool := decide (a ≤ v ∧ v ≤ b)
def isP (mI : Nat → Nat → Int32) (x : Int32) : Bool := decide (0 ≤ x ∧ x < mI 131 0)
def is2 (mI : Nat → Nat → Int32) (x y : Int32) : Bool := isP mI x && isP mI y && decide (x ≠ y)
def isS (mI : Nat → Nat → Int32) (k : Int32) : Bool := decide (0 ≤ k ∧ k < 2 * mI 132 0)
set_option maxHeartbeats 4000000 in
set_option maxRecDepth 100000 in
theorem c12_within (l : Launch) (X : Cx) (d : Nat) (M : Mm) (v a b : Int32) : Cn l X yX12_within cX12_within 3 (some .boolean) d [.int v, .int a, .int b] M (fun r M' => M' = M ∧ r = some (.int (bI (wth v a b)))) 0 0 := by
  refine Cn.run 12 false (by decide) rfl (by decide) (by simp [entA, Value.category]) ?_
  intro P G hP hG
  refine hG.run [] 20 ?_
  simp [wp, stepI, ln, jmp, cmpI, Value.category, rd, tyF, va_rf, st1, st2, clr, isLg, CB, inx_0, inx_1, inx_2, inx_3, inx_4, inx_5, bI_0, bI_1, bI_ok, fin3, entL, dX12_within_0, dX12_within_1, dX12_within_2, dX12_within_5, dX12_within_6, dX12_within_7, dX12_within_10, dX12_within_11, dX12_within_14, dX12_within_15]
  refine ⟨fun h => hP _ _ ⟨rfl, ?_⟩, fun h => ⟨fun h2 => hP _ _ ⟨rfl, ?_⟩, fun h2 => hP _ _ ⟨rfl, ?_⟩⟩⟩
  · simp [bI, wth, Int32.not_le.mpr h]
  · simp [bI, wth, h, Int32.not_le.mpr h2]
  · simp [bI, wth, h, h2]
set_option maxHeartbeats 4000000 in
set_option maxRecDepth 100000 in
theorem c12_isPupil (l : Launch) (X : Cx) (d : Nat) (sh : Nat → Option Sh) (mI : Nat → Nat → Int32) (mL : Nat → Nat → Int64) (mR : Nat → Nat → Option Nat) (n : Nat) (hL : ML sh mR) (x : Int32) : Cn l X yX12_isPupil cX12_isPupil 2 (some .boolean) d [.ref 129, .int x] (sh, mI, mL, mR, n) (fun r M' => M' = (sh, mI, mL, mR, n) ∧ r = some (.int (bI (isP mI x)))) 0 0 := by
  refine Cn.run 12 false (by decide) rfl (by decide) (by simp [entA, Value.category]) ?_
  intro P G hP hG
  have q0 := hL.1
  have q_pupils := hL.2 (10, 131, .int, 6) (by decide)
  dsimp only at q_pupils
  refine hG.run [] 20 ?_
  simp [wp, stepI, ln, jmp, cmpI, Value.category, rd, tyF, va_rf, st1, st2, clr, isLg, CB, inx_0, inx_1, inx_2, inx_3, inx_4, inx_5, bI_0, bI_1, bI_ok, fin3, tyX12, entL, q0, q_pupils, dX12_isPupil_0, dX12_isPupil_1, dX12_isPupil_4, dX12_isPupil_5, dX12_isPupil_6, fT_12_13, dX12_isPupil_9, dX12_isPupil_10, dX12_isPupil_11, dX12_isPupil_14, dX12_isPupil_15, dX12_isPupil_18, dX12_isPupil_19]
  refine ⟨fun h => hP _ _ ⟨rfl, ?_⟩, fun h => ⟨fun h2 => hP _ _ ⟨rfl, ?_⟩, fun h2 => hP _ _ ⟨rfl, ?_⟩⟩⟩
  · simp [bI, isP, Int32.not_le.mpr h]
  · simp [bI, isP, h, Int32.not_lt.mpr h2]
  · simp [bI, isP, h, h2]
set_option maxHeartbeats 4000000 in
set_option maxRecDepth 100000 in
theorem c12_areTwo (l : Launch) (X : Cx) (d : Nat) (sh : Nat → Option Sh) (mI : Nat → Nat → Int32) (mL : Nat → Nat → Int64) (mR : Nat → Nat → Option Nat) (n : Nat) (hL : ML sh mR) (x y : Int32) (hd : 1 ≤ d) : Cn l X yX12_areTwo cX12_areTwo 3 (some .boolean) d [.ref 129, .int x, .int y] (sh, mI, mL, mR, n) (fun r M' => M' = (sh, mI, mL, mR, n) ∧ r = some (.int (bI (is2 mI x y)))) 0 0 := by
  refine Cn.run 12 false (by decide) rfl (by decide) (by simp [entA, Value.category]) ?_
  intro P G hP hG
  have q0 := hL.1
  refine hG.run [] 20 ?_
  simp [wp, stepI, ln, jmp, cmpI, Value.category, rd, tyF, va_rf, st1, st2, clr, isLg, CB, inx_0, inx_1, inx_2, inx_3, inx_4, inx_5, bI_0, bI_1, bI_ok, fin3, tyX12, entL, q0, dX12_areTwo_0, dX12_areTwo_1, dX12_areTwo_2, dX12_areTwo_5, dX12_areTwo_8, dX12_areTwo_9, dX12_areTwo_10, dX12_areTwo_13, dX12_areTwo_16, dX12_areTwo_17, dX12_areTwo_18, dX12_areTwo_21, dX12_areTwo_22, dX12_areTwo_25, dX12_areTwo_26]
  refine hG.callV dX12_areTwo_2 mv_12_329 [.int x] [] (c12_isPupil l X (d - 1) sh mI mL mR n hL x) ⟨_, rfl, rfl⟩ q0 (by omega) rfl (by decide) (by simp) rfl ?_
  rintro r M' ⟨rfl, rfl⟩
  refine hG.run [] 20 ?_
  simp [wp, stepI, ln, jmp, cmpI, Value.category, rd, tyF, va_rf, st1, st2, clr, isLg, CB, inx_0, inx_1, inx_2, inx_3, inx_4, inx_5, bI_0, bI_1, bI_ok, fin3, tyX12, entL, q0, dX12_areTwo_0, dX12_areTwo_1, dX12_areTwo_2, dX12_areTwo_5, dX12_areTwo_8, dX12_areTwo_9, dX12_areTwo_10, dX12_areTwo_13, dX12_areTwo_16, dX12_areTwo_17, dX12_areTwo_18, dX12_areTwo_21, dX12_areTwo_22, dX12_areTwo_25, dX12_areTwo_26]
  refine ⟨fun h => hP _ _ ⟨rfl, by simp [bI, is2, h]⟩, fun h => ?_⟩
  refine hG.callV dX12_areTwo_10 mv_12_329 [.int y] [] (c12_isPupil l X (d - 1) sh mI mL mR n hL y) ⟨_, rfl, rfl⟩ q0 (by omega) rfl (by decide) (by simp) rfl ?_
  rintro r M' ⟨rfl, rfl⟩
  refine hG.run [] 20 ?_
  simp [wp, stepI, ln, jmp, cmpI, Value.category, rd, tyF, va_rf, st1, st2, clr, isLg, CB, inx_0, inx_1, inx_2, inx_3, inx_4, inx_5, bI_0, bI_1, bI_ok, fin3, tyX12, entL, q0, dX12_areTwo_0, dX12_areTwo_1, dX12_areTwo_2, dX12_areTwo_5, dX12_areTwo_8, dX12_areTwo_9, dX12_areTwo_10, dX12_areTwo_13, dX12_areTwo_16, dX12_areTwo_17, dX12_areTwo_18, dX12_areTwo_21, dX12_areTwo_22, dX12_areTwo_25, dX12_areTwo_26]
  refine ⟨fun h2 => hP _ _ ⟨rfl, by simp [bI, is2, h2]⟩, fun h2 => ⟨fun h3 => hP _ _ ⟨rfl, by simp [bI, is2, h3]⟩, fun h3 => hP _ _ ⟨rfl, by simp [bI, is2, h, h2, h3]⟩⟩⟩
set_option maxHeartbeats 4000000 in
set_option maxRecDepth 100000 in
theorem c12_isSeat (l : Launch) (X : Cx) (d : Nat) (sh : Nat → Option Sh) (mI : Nat → Nat → Int32) (mL : Nat → Nat → Int64) (mR : Nat → Nat → Option Nat) (n : Nat) (hL : ML sh mR) (x : Int32) : Cn l X yX12_isSeat cX12_isSeat 2 (some .boolean) d [.ref 129, .int x] (sh, mI, mL, mR, n) (fun r M' => M' = (sh, mI, mL, mR, n) ∧ r = some (.int (bI (isS mI x)))) 0 0 := by
  refine Cn.run 12 false (by decide) rfl (by decide) (by simp [entA, Value.category]) ?_
  intro P G hP hG
  have q0 := hL.1
  have q_benches := hL.2 (11, 132, .int, 6) (by decide)
  dsimp only at q_benches
  refine hG.run [] 20 ?_
  simp [wp, stepI, ln, jmp, cmpI, Value.category, rd, tyF, va_rf, st1, st2, clr, isLg, CB, inx_0, inx_1, inx_2, inx_3, inx_4, inx_5, bI_0, bI_1, bI_ok, fin3, tyX12, entL, q0, q_benches, dX12_isSeat_0, dX12_isSeat_1, dX12_isSeat_4, dX12_isSeat_5, dX12_isSeat_6, dX12_isSeat_7, fT_12_16, dX12_isSeat_10, dX12_isSeat_11, dX12_isSeat_12, dX12_isSeat_13, dX12_isSeat_16, dX12_isSeat_17, dX12_isSeat_20, dX12_isSeat_21]
  refine ⟨fun h => hP _ _ ⟨rfl, ?_⟩, fun h => ⟨fun h2 => hP _ _ ⟨rfl, ?_⟩, fun h2 => hP _ _ ⟨rfl, ?_⟩⟩⟩
  · simp [bI, isS, Int32.not_le.mpr h]
  · simp [bI, isS, h, Int32.not_lt.mpr h2]
  · simp [bI, isS, h, h2]
set_option maxHeartbeats 4000000 in
set_option maxRecDepth 100000 in
theorem c12_thrown (l : Launch) (X : Cx) (d : Nat) (sh : Nat → Option Sh) (mI : Nat → Nat → Int32) (mL : Nat → Nat → Int64) (mR : Nat → Nat → Option Nat) (n : Nat) (hL : ML sh mR) : Cn l X yX12_thrown cX12_thrown 1 (some .int) d [.ref 129] (sh, mI, mL, mR, n) (fun r M' => M' = (sh, mI, mL, mR, n) ∧ r = some (.int (mI 129 0))) 0 0 := by
  refine Cn.run 12 false (by decide) rfl (by decide) (by simp [entA, Value.category]) ?_
  intro P G hP hG
  have q0 := hL.1
  refine hG.run [] 20 ?_
  simp [wp, stepI, ln, jmp, cmpI, Value.category, rd, tyF, va_rf, st1, st2, clr, isLg, CB, inx_0, inx_1, inx_2, inx_3, inx_4, inx_5, bI_0, bI_1, bI_ok, fin3, tyX12, entL, q0, dX12_thrown_0, dX12_thrown_1, fT_12_135, dX12_thrown_4]
  exact hP _ _ ⟨rfl, rfl⟩
def PupM (mI : Nat → Nat → Int32) (np : Nat) : Prop := mI 131 0 = nI np ∧ np ≤ 10
theorem p2_10 {k : Nat} (h : k ≤ 10) : 1 ≤ 2 ^ k ∧ 2 ^ k ≤ 1024 := by
  have h1 : 2 ^ k ≤ 2 ^ 10 := Nat.pow_le_pow_right (by decide) h
  have h2 : 0 < 2 ^ k := Nat.pow_pos (by decide)
  omega
set_option maxHeartbeats 4000000 in
set_option maxRecDepth 100000 in
theorem c12_everybody (l : Launch) (X : Cx) (d : Nat) (sh : Nat → Option Sh) (mI : Nat → Nat → Int32) (mL : Nat → Nat → Int64) (mR : Nat → Nat → Option Nat) (n : Nat) (hL : ML sh mR) (np : Nat) (hp : PupM mI np) : Cn l X yX12_everybody cX12_everybody 1 (some .int) d [.ref 129] (sh, mI, mL, mR, n) (fun r M' => M' = (sh, mI, mL, mR, n) ∧ r = some (.int (nI (2 ^ np - 1)))) 0 0 := by
  refine Cn.run 12 false (by decide) rfl (by decide) (by simp [entA, Value.category]) ?_
  intro P G hP hG
  have q0 := hL.1
  have q_pupils := hL.2 (10, 131, .int, 6) (by decide)
  dsimp only at q_pupils
  refine hG.run [] 20 ?_
  simp [wp, stepI, ln, jmp, cmpI, Value.category, rd, tyF, va_rf, st1, st2, clr, isLg, CB, inx_0, inx_1, inx_2, inx_3, inx_4, inx_5, bI_0, bI_1, bI_ok, fin3, tyX12, entL, q0, q_pupils, dX12_everybody_0, dX12_everybody_1, dX12_everybody_2, fT_12_13, dX12_everybody_5, dX12_everybody_6, dX12_everybody_7, dX12_everybody_8, dX12_everybody_9, dX12_everybody_10]
  obtain ⟨h1, h2⟩ := hp
  have h3 := p2_10 h2
  simp (disch := omega) only [li, nI_add, nI_clamp, nI_ltI, nI_leI, nI_eq, inx_iff, a31, nI_1shl', nI_shr', div_bit, tb1, tb0, fa_or, fa_and, nI_not, pk_sub, h1]
  exact hP _ _ ⟨rfl, rfl⟩
set_option maxHeartbeats 4000000 in
set_option maxRecDepth 100000 in
theorem c12_says (l : Launch) (X : Cx) (d : Nat) (sh : Nat → Option Sh) (mI : Nat → Nat → Int32) (mL : Nat → Nat → Int64) (mR : Nat → Nat → Option Nat) (n : Nat) (hL : ML sh mR) (c : Nat) (fi se ma : Nat → Nat) (hS : SayM mI c fi se ma) (w a b : Nat) (hw : w < 2) (ha : a < 10) (hb : b < 10) : Cn l X yX12_says cX12_says 5 (some .boolean) d [.ref 129, .int (nI w), .int (nI a), .int (nI b)] (sh, mI, mL, mR, n) (fun r M' => M' = (sh, mI, mL, mR, n) ∧ r = some (.int (bI (decide (∃ k, k < c ∧ ma k = w ∧ fi k = a ∧ se k = b))))) 0 0 := by
  refine Cn.run 12 false (by decide) rfl (by decide) (by simp [entA, Value.category]) ?_
  intro P G hP hG
  have q0 := hL.1
  have q_s := hL.2 (41, 156, .int, 144) (by decide)
  dsimp only at q_s
  have loop : ∀ f i, c - i < f → i ≤ c → (∀ k, k < i → ¬ (ma k = w ∧ fi k = a ∧ se k = b)) → G 3 [some (.ref 129), some (.int (nI w)), some (.int (nI a)), some (.int (nI b)), some (.int (nI i))] [] (sh, mI, mL, mR, n) := by
    intro f
    induction f with
    | zero => intro i h; omega
    | succ f ih =>
      intro i hf hi h1
      refine hG.run [3] 40 ?_
      simp [wp, stepI, ln, jmp, cmpI, Value.category, rd, tyF, va_rf, st1, st2, clr, isLg, CB, inx_0, inx_1, inx_2, inx_3, inx_4, inx_5, bI_0, bI_1, bI_ok, fin3, tyX12, entL, q0, q_s, dX12_says_0, dX12_says_1, dX12_says_3, dX12_says_5, dX12_says_6, fT_12_90, dX12_says_9, dX12_says_10, dX12_says_11, dX12_says_14, dX12_says_15, dX12_says_18, dX12_says_20, dX12_says_22, dX12_says_23, dX12_says_24, dX12_says_25, dX12_says_28, dX12_says_29, dX12_says_32, dX12_says_33, dX12_says_35, dX12_says_36, dX12_says_37, dX12_says_38, dX12_says_41, dX12_says_42, dX12_says_45, dX12_says_47, dX12_says_49, dX12_says_50, dX12_says_51, dX12_says_52, dX12_says_55, dX12_says_56, dX12_says_57, dX12_says_60, dX12_says_63, dX12_says_64]
      have e0 := hS.1
      have hc := hS.2.1
      simp (disch := omega) only [li, nI_add, nI_clamp, nI_ltI, nI_leI, nI_eq, inx_iff, a31, nI_1shl', nI_shr', div_bit, tb1, tb0, fa_or, fa_and, nI_not, pk_sub, e0]
      refine ⟨fun h => ?_, fun h => ?_⟩
      · refine hP _ _ ⟨rfl, ?_⟩
        have : ¬ ∃ k, k < c ∧ ma k = w ∧ fi k = a ∧ se k = b := fun ⟨k, hk, z⟩ => h1 k (by omega) z
        simp [bI, li, this]
      · obtain ⟨s1, s2, s3, b1, b2, b3⟩ := hS.2.2 i h
        simp (disch := omega) only [li, nI_add, nI_clamp, nI_ltI, nI_leI, nI_eq, inx_iff, a31, nI_1shl', nI_shr', div_bit, tb1, tb0, fa_or, fa_and, nI_not, pk_sub, s1, s2, s3]
        have nx : ∀ hz : ¬ (ma i = w ∧ fi i = a ∧ se i = b), G 3 [some (.ref 129), some (.int (nI w)), some (.int (nI a)), some (.int (nI b)), some (.int (nI (i + 1)))] [] (sh, mI, mL, mR, n) := fun hz => ih (i + 1) (by omega) (by omega) (fun k hk => by
          rcases Nat.lt_or_ge k i with z | z
          · exact h1 k z
          · rw [show k = i by omega]; exact hz)
        refine ⟨by omega, fun z => nx (fun y => z y.1), fun z1 => ⟨by omega, fun z => nx (fun y => z y.2.1), fun z2 => ⟨by omega, fun z => nx (fun y => z y.2.2), fun z3 => hP _ _ ⟨rfl, ?_⟩⟩⟩⟩
        have : ∃ k, k < c ∧ ma k = w ∧ fi k = a ∧ se k = b := ⟨i, h, z1, z2, z3⟩
        simp [bI, li, this]
  refine hG.run [3] 40 ?_
  simp [wp, stepI, ln, jmp, cmpI, Value.category, rd, tyF, va_rf, st1, st2, clr, isLg, CB, inx_0, inx_1, inx_2, inx_3, inx_4, inx_5, bI_0, bI_1, bI_ok, fin3, tyX12, entL, q0, dX12_says_0, dX12_says_1, dX12_says_3, dX12_says_5, dX12_says_6, fT_12_90, dX12_says_9, dX12_says_10, dX12_says_11, dX12_says_14, dX12_says_15, dX12_says_18, dX12_says_20, dX12_says_22, dX12_says_23, dX12_says_24, dX12_says_25, dX12_says_28, dX12_says_29, dX12_says_32, dX12_says_33, dX12_says_35, dX12_says_36, dX12_says_37, dX12_says_38, dX12_says_41, dX12_says_42, dX12_says_45, dX12_says_47, dX12_says_49, dX12_says_50, dX12_says_51, dX12_says_52, dX12_says_55, dX12_says_56, dX12_says_57, dX12_says_60, dX12_says_63, dX12_says_64]
  exact loop (c + 1) 0 (by omega) (by omega) (fun k hk => by omega)
set_option maxHeartbeats 4000000 in
set_option maxRecDepth 100000 in
theorem c12_bits (l : Launch) (X : Cx) (d : Nat) (M : Mm) (v : Nat) (hv : v < 2 ^ 31) : Cn l X yX12_bits cX12_bits 3 (some .int) d [.int (nI v)] M (fun r M' => M' = M ∧ r = some (.int (nI (fb_ct (fun k => v.testBit k) 10)))) 0 0 := by
  refine Cn.run 12 false (by decide) rfl (by decide) (by simp [entA, Value.category]) ?_
  intro P G hP hG
  have loop : ∀ f i, 10 - i < f → i ≤ 10 → G 4 [some (.int (nI v)), some (.int (nI (fb_ct (fun k => v.testBit k) i))), some (.int (nI i))] [] M := by
    intro f
    induction f with
    | zero => intro i h; omega
    | succ f ih =>
      intro i hf hi
      have hle := fb_ct_le (fun k => v.testBit k) i
      refine hG.run [4] 40 ?_
      simp [wp, stepI, ln, jmp, cmpI, Value.category, rd, tyF, va_rf, st1, st2, clr, isLg, CB, inx_0, inx_1, inx_2, inx_3, inx_4, inx_5, bI_0, bI_1, bI_ok, fin3, dX12_bits_0, dX12_bits_1, dX12_bits_2, dX12_bits_3, dX12_bits_4, dX12_bits_5, dX12_bits_7, dX12_bits_10, dX12_bits_11, dX12_bits_12, dX12_bits_13, dX12_bits_14, dX12_bits_15, dX12_bits_16, dX12_bits_17, dX12_bits_18, dX12_bits_21, dX12_bits_24, dX12_bits_25]
      simp (disch := omega) only [li, nI_add, nI_clamp, nI_ltI, nI_leI, nI_eq, inx_iff, a31, nI_1shl', nI_shr', div_bit, tb1, tb0, fa_or, fa_and, nI_not, pk_sub]
      refine ⟨fun h => hP _ _ ⟨rfl, by rw [show i = 10 by omega]⟩, fun h => ?_⟩
      have := ih (i + 1) (by omega) (by omega)
      rw [fb_ct_succ, show (if v.testBit i = true then 1 else 0) = (v.testBit i).toNat by cases v.testBit i <;> rfl] at this
      exact this
  refine hG.run [4] 40 ?_
  simp [wp, stepI, ln, jmp, cmpI, Value.category, rd, tyF, va_rf, st1, st2, clr, isLg, CB, inx_0, inx_1, inx_2, inx_3, inx_4, inx_5, bI_0, bI_1, bI_ok, fin3, entL, dX12_bits_0, dX12_bits_1, dX12_bits_2, dX12_bits_3, dX12_bits_4, dX12_bits_5, dX12_bits_7, dX12_bits_10, dX12_bits_11, dX12_bits_12, dX12_bits_13, dX12_bits_14, dX12_bits_15, dX12_bits_16, dX12_bits_17, dX12_bits_18, dX12_bits_21, dX12_bits_24, dX12_bits_25]
  exact loop 11 0 (by omega) (by omega)
