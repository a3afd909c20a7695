theorem l_shr {a k : Nat} (ha : a < 2 ^ 62) (hk : k < 64) : lN a >>> ((nI k).toInt64 &&& 63) = lN (a / 2 ^ k) := by
  refine pf_shr ?_ ha
  rw [wb_c k hk, wb_tb, wb_sm k hk, BitVec.toNat_ofNat, Nat.mod_eq_of_lt (by omega)]
theorem p64 (p : Nat) : 2 ^ (6 * p) = 64 ^ p := by rw [Nat.pow_mul]
/-- the Breaks at cell B -/
def BkM (mI : Nat → Nat → Int32) (mL : Nat → Nat → Int64) (B np c : Nat) (fi se ma : Nat → Nat) (w : Int32) : Prop := mI B 4 = nI np ∧ np ≤ 10 ∧ mI B 5 = nI (2 ^ np - 1) ∧ c ≤ 40 ∧ (∀ k, k < c → fi k < 10) ∧ ∀ t, t < 2 ^ np → mL (B + 2) t = lN (bkW c fi se ma w t)
set_option maxHeartbeats 4000000 in
set_option maxRecDepth 100000 in
theorem c1_withBehind (l : Launch) (X : Cx) (d : Nat) (sh : Nat → Option Sh) (mI : Nat → Nat → Int32) (mL : Nat → Nat → Int64) (mR : Nat → Nat → Option Nat) (n : Nat) (B : Nat) (hO : OL sh mR B 1 ob1) (np c : Nat) (fi se ma : Nat → Nat) (w : Int32) (hM : BkM mI mL B np c fi se ma w) (t p : Nat) (ht : t < 2 ^ np) (hp : p < np) (v : Nat) (hv : mI (B + 3) (t ||| 2 ^ p) = nI v) (hvl : v ≤ 1000) : Cn l X yX1_withBehind cX1_withBehind 3 (some .int) d [.ref B, .int (nI t), .int (nI p)] (sh, mI, mL, mR, n) (fun r M' => M' = (sh, mI, mL, mR, n) ∧ r = some (.int (nI (brk c fi se ma w p t + v)))) 0 0 := by
  refine Cn.run 1 false (by decide) rfl (by decide) (by simp [entA, Value.category]) ?_
  intro P G hP hG
  have q0 := hO.1
  have q_broken := hO.2.2 (1, 2, .long, 1024) (by decide)
  dsimp only at q_broken
  have q_fewestBehind := hO.2.2 (2, 3, .int, 1024) (by decide)
  dsimp only at q_fewestBehind
  obtain ⟨h1, h2, h3, h4, h5, h6⟩ := hM
  have hpw := p2_10 h2
  have b1 := h6 t ht
  have b2 := bkW_lt (w := w) (se := se) (ma := ma) 10 h4 h5 t
  have b3 := bkW_at (w := w) (se := se) (ma := ma) 10 h4 h5 t p (by omega)
  have hor := or_lt ht hp
  have p2 := p2_le10 (k := p) (by omega)
  have bl := brk_le c fi se ma w p t
  generalize bkW c fi se ma w t = W at b1 b2 b3
  have sh1 : (lN W >>> ((nI (6 * p)).toInt64 &&& lN 63)).toInt32 &&& nI 63 = nI (brk c fi se ma w p t) := by
    rw [show lN 63 = (63 : Int64) from rfl, l_shr (Nat.lt_of_lt_of_le b2 (by decide)) (by omega), lN_i, p64, show nI 63 = nI (2 ^ 6 - 1) from rfl, fa_mask, show (2 : Nat) ^ 6 = 64 from rfl, b3]
  refine hG.run [] 40 ?_
  simp [wp, stepI, ln, jmp, cmpI, Value.category, rd, tyF, va_rf, st1, st2, clr, isLg, CB, inx_0, inx_1, inx_2, inx_3, inx_4, inx_5, bI_0, bI_1, bI_ok, fin3, tyX1, entL, q0, q_broken, q_fewestBehind, dX1_withBehind_0, dX1_withBehind_1, fT_1_15, dX1_withBehind_4, dX1_withBehind_5, dX1_withBehind_6, dX1_withBehind_8, dX1_withBehind_9, dX1_withBehind_10, dX1_withBehind_11, cL_1_86, dX1_withBehind_14, dX1_withBehind_15, dX1_withBehind_16, dX1_withBehind_17, fT_1_18, dX1_withBehind_20, dX1_withBehind_21, dX1_withBehind_22, dX1_withBehind_23, dX1_withBehind_24, dX1_withBehind_25, dX1_withBehind_26, dX1_withBehind_27]
  simp (disch := omega) only [li, nI_add, nI_clamp, nI_ltI, nI_leI, nI_eq, inx_iff, a31, nI_1shl', nI_shr', div_bit, tb1, tb0, fa_or, fa_and, nI_not, pk_sub, nI_dec, nI_mul, liL, b1, sh1, hv]
  exact ⟨by omega, by omega, hP _ _ ⟨rfl, rfl⟩⟩
def bbF (t : Nat) (g : Nat → Nat) : Nat → Nat × Nat
  | 0 => (41, 0)
  | i + 1 => if t.testBit i then bbF t g i else if g i < (bbF t g i).1 then (g i, i) else bbF t g i
theorem bbF_s (t : Nat) (g : Nat → Nat) (i : Nat) : bbF t g (i + 1) = if t.testBit i then bbF t g i else if g i < (bbF t g i).1 then (g i, i) else bbF t g i := rfl
theorem bbF_le (t : Nat) (g : Nat → Nat) : ∀ i, (bbF t g i).1 ≤ 41 ∧ (bbF t g i).2 ≤ i
  | 0 => ⟨Nat.le_refl _, Nat.le_refl _⟩
  | i + 1 => by
    have := bbF_le t g i
    rw [bbF_s]
    split
    · omega
    · split
      · exact ⟨by show g i ≤ 41; omega, by show i ≤ i + 1; omega⟩
      · omega
set_option maxHeartbeats 4000000 in
set_option maxRecDepth 100000 in
theorem c1_bestBehind (l : Launch) (X : Cx) (d : Nat) (sh : Nat → Option Sh) (mI : Nat → Nat → Int32) (mL : Nat → Nat → Int64) (mR : Nat → Nat → Option Nat) (n : Nat) (B : Nat) (hO : OL sh mR B 1 ob1) (np c : Nat) (fi se ma : Nat → Nat) (w : Int32) (hM : BkM mI mL B np c fi se ma w) (t : Nat) (ht : t < 2 ^ np) (F : Nat → Nat) (hF : ∀ p, p < np → t.testBit p = false → mI (B + 3) (t ||| 2 ^ p) = nI (F (t ||| 2 ^ p)) ∧ F (t ||| 2 ^ p) ≤ 1000) (hd : 1 ≤ d) : Cn l X yX1_bestBehind cX1_bestBehind 6 (some .int) d [.ref B, .int (nI t)] (sh, mI, mL, mR, n) (fun r M' => M' = (sh, mI, mL, mR, n) ∧ r = some (.int (nI (bbF t (fun p => brk c fi se ma w p t + F (t ||| 2 ^ p)) np).2))) 0 0 := by
  refine Cn.run 1 false (by decide) rfl (by decide) (by simp [entA, Value.category]) ?_
  intro P G hP hG
  have q0 := hO.1
  have hM0 := hM
  obtain ⟨h1, h2, h3, h4, h5, h6⟩ := hM
  have hpw := p2_10 h2
  obtain ⟨g, hg⟩ : ∃ g : Nat → Nat, g = fun p => brk c fi se ma w p t + F (t ||| 2 ^ p) := ⟨_, rfl⟩
  rw [← hg] at hP
  have loop : ∀ f i v5, np - i < f → i ≤ np → G 8 [some (.ref B), some (.int (nI t)), some (.int (nI (bbF t g i).2)), some (.int (nI (bbF t g i).1)), some (.int (nI i)), v5] [] (sh, mI, mL, mR, n) := by
    intro f
    induction f with
    | zero => intro i v5 h; omega
    | succ f ih =>
      intro i v5 hf hi
      have bl := bbF_le t g i
      have nx := ih (i + 1)
      rw [bbF_s] at nx
      refine hG.run [47] 40 ?_
      simp [wp, stepI, ln, jmp, cmpI, Value.category, rd, tyF, va_rf, st1, st2, clr, isLg, CB, inx_0, inx_1, inx_2, inx_3, inx_4, inx_5, bI_0, bI_1, bI_ok, fin3, tyX1, entL, q0, dX1_bestBehind_0, dX1_bestBehind_1, dX1_bestBehind_2, dX1_bestBehind_4, dX1_bestBehind_5, dX1_bestBehind_6, dX1_bestBehind_8, dX1_bestBehind_10, dX1_bestBehind_11, fT_1_44, dX1_bestBehind_14, dX1_bestBehind_17, dX1_bestBehind_18, dX1_bestBehind_20, dX1_bestBehind_21, dX1_bestBehind_22, dX1_bestBehind_23, dX1_bestBehind_26, dX1_bestBehind_27, dX1_bestBehind_28, dX1_bestBehind_30, dX1_bestBehind_33, dX1_bestBehind_35, dX1_bestBehind_37, dX1_bestBehind_38, dX1_bestBehind_41, dX1_bestBehind_43, dX1_bestBehind_44, dX1_bestBehind_46, dX1_bestBehind_47, dX1_bestBehind_50, dX1_bestBehind_53, dX1_bestBehind_54]
      simp (disch := omega) only [li, nI_add, nI_clamp, nI_ltI, nI_leI, nI_eq, inx_iff, a31, nI_1shl', nI_shr', div_bit, tb1, tb0, fa_or, fa_and, nI_not, pk_sub, nI_dec, h1]
      refine ⟨fun z => hP _ _ ⟨rfl, by rw [show i = np by omega]⟩, fun z => ?_⟩
      have g47 : ∀ a b v5, (if t.testBit i then bbF t g i else if g i < (bbF t g i).1 then (g i, i) else bbF t g i) = (a, b) → G 47 [some (.ref B), some (.int (nI t)), some (.int (nI b)), some (.int (nI a)), some (.int (nI i)), v5] [] (sh, mI, mL, mR, n) := fun a b v5 e => by
        rw [e] at nx
        refine hG.run [8] 40 ?_
        simp [wp, stepI, ln, jmp, cmpI, Value.category, rd, tyF, va_rf, st1, st2, clr, isLg, CB, inx_0, inx_1, inx_2, inx_3, inx_4, inx_5, bI_0, bI_1, bI_ok, fin3, tyX1, entL, q0, dX1_bestBehind_0, dX1_bestBehind_1, dX1_bestBehind_2, dX1_bestBehind_4, dX1_bestBehind_5, dX1_bestBehind_6, dX1_bestBehind_8, dX1_bestBehind_10, dX1_bestBehind_11, fT_1_44, dX1_bestBehind_14, dX1_bestBehind_17, dX1_bestBehind_18, dX1_bestBehind_20, dX1_bestBehind_21, dX1_bestBehind_22, dX1_bestBehind_23, dX1_bestBehind_26, dX1_bestBehind_27, dX1_bestBehind_28, dX1_bestBehind_30, dX1_bestBehind_33, dX1_bestBehind_35, dX1_bestBehind_37, dX1_bestBehind_38, dX1_bestBehind_41, dX1_bestBehind_43, dX1_bestBehind_44, dX1_bestBehind_46, dX1_bestBehind_47, dX1_bestBehind_50, dX1_bestBehind_53, dX1_bestBehind_54]
        simp (disch := omega) only [li, nI_add, nI_clamp, nI_ltI, nI_leI, nI_eq, inx_iff, a31, nI_1shl', nI_shr', div_bit, tb1, tb0, fa_or, fa_and, nI_not, pk_sub, nI_dec]
        exact nx _ (by omega) (by omega)
      refine ⟨fun y => g47 _ _ _ (by rw [if_pos (by simpa using y)]), fun y => ?_⟩
      obtain ⟨f1, f2⟩ := hF i z y
      have brl := brk_le c fi se ma w i t
      refine hG.callV dX1_bestBehind_30 mv_1_64 [.int (nI t), .int (nI i)] [] (c1_withBehind l X (d - 1) sh mI mL mR n B hO np c fi se ma w hM0 t i ht z _ f1 f2) ⟨_, rfl, rfl⟩ q0 (by omega) rfl (by decide) (by simp [Value.category]) rfl ?_
      rintro r M' ⟨rfl, rfl⟩
      rw [show brk c fi se ma w i t + F (t ||| 2 ^ i) = g i by rw [hg]]
      have gl : g i ≤ 2000 := by rw [hg]; show brk c fi se ma w i t + F (t ||| 2 ^ i) ≤ 2000; omega
      rw [if_neg (by rw [y]; decide)] at g47
      refine hG.run [47] 40 ?_
      simp [wp, stepI, ln, jmp, cmpI, Value.category, rd, tyF, va_rf, st1, st2, clr, isLg, CB, inx_0, inx_1, inx_2, inx_3, inx_4, inx_5, bI_0, bI_1, bI_ok, fin3, tyX1, entL, q0, dX1_bestBehind_0, dX1_bestBehind_1, dX1_bestBehind_2, dX1_bestBehind_4, dX1_bestBehind_5, dX1_bestBehind_6, dX1_bestBehind_8, dX1_bestBehind_10, dX1_bestBehind_11, fT_1_44, dX1_bestBehind_14, dX1_bestBehind_17, dX1_bestBehind_18, dX1_bestBehind_20, dX1_bestBehind_21, dX1_bestBehind_22, dX1_bestBehind_23, dX1_bestBehind_26, dX1_bestBehind_27, dX1_bestBehind_28, dX1_bestBehind_30, dX1_bestBehind_33, dX1_bestBehind_35, dX1_bestBehind_37, dX1_bestBehind_38, dX1_bestBehind_41, dX1_bestBehind_43, dX1_bestBehind_44, dX1_bestBehind_46, dX1_bestBehind_47, dX1_bestBehind_50, dX1_bestBehind_53, dX1_bestBehind_54]
      simp (disch := omega) only [li, nI_add, nI_clamp, nI_ltI, nI_leI, nI_eq, inx_iff, a31, nI_1shl', nI_shr', div_bit, tb1, tb0, fa_or, fa_and, nI_not, pk_sub, nI_dec]
      refine ⟨fun q => g47 _ _ _ (by rw [if_neg (by omega)]), fun q => g47 _ _ _ (by rw [if_pos q])⟩
  refine hG.run [8] 40 ?_
  simp [wp, stepI, ln, jmp, cmpI, Value.category, rd, tyF, va_rf, st1, st2, clr, isLg, CB, inx_0, inx_1, inx_2, inx_3, inx_4, inx_5, bI_0, bI_1, bI_ok, fin3, tyX1, entL, q0, dX1_bestBehind_0, dX1_bestBehind_1, dX1_bestBehind_2, dX1_bestBehind_4, dX1_bestBehind_5, dX1_bestBehind_6, dX1_bestBehind_8, dX1_bestBehind_10, dX1_bestBehind_11, fT_1_44, dX1_bestBehind_14, dX1_bestBehind_17, dX1_bestBehind_18, dX1_bestBehind_20, dX1_bestBehind_21, dX1_bestBehind_22, dX1_bestBehind_23, dX1_bestBehind_26, dX1_bestBehind_27, dX1_bestBehind_28, dX1_bestBehind_30, dX1_bestBehind_33, dX1_bestBehind_35, dX1_bestBehind_37, dX1_bestBehind_38, dX1_bestBehind_41, dX1_bestBehind_43, dX1_bestBehind_44, dX1_bestBehind_46, dX1_bestBehind_47, dX1_bestBehind_50, dX1_bestBehind_53, dX1_bestBehind_54]
  exact loop (np + 1) 0 _ (by omega) (by omega)
