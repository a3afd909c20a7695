theorem liL (n : Nat) : (OfNat.ofNat n : Int64) = lN n := rfl
theorem lg_cmp0 (x y : Int64) : lg_cmp x y = 0 ↔ x = y := by
  unfold lg_cmp
  by_cases h : x = y
  · subst h
    simp
  · have h2 : ¬ (x > y ∧ x = y) := fun z => h z.2
    by_cases h3 : x > y
    · simp [h3, h]
    · simp [h3, h]
def pOf (fi se : Nat → Nat) (p t off : Nat) : Nat → Nat
  | 0 => 1
  | k + 1 => if fi k = p then pOf fi se p t off k * (if t.testBit (se k) then off else 8 - off) else pOf fi se p t off k
theorem pOf_s (fi se : Nat → Nat) (p t off k : Nat) : pOf fi se p t off (k + 1) = if fi k = p then pOf fi se p t off k * (if t.testBit (se k) then off else 8 - off) else pOf fi se p t off k := rfl
def offO (sl : Nat) (kd : Nat → Nat) (p : Nat) : Nat := if kd p = 3 then 2 * sl else sl
def SlM (mI : Nat → Nat → Int32) (np sl : Nat) (kd : Nat → Nat) : Prop := mI 133 0 = nI sl ∧ sl ≤ 3 ∧ ∀ p, p < np → mI 135 p = nI (kd p) ∧ kd p < 5
set_option maxHeartbeats 4000000 in
set_option maxRecDepth 100000 in
theorem c12_partOf (l : Launch) (X : Cx) (d : Nat) (sh : Nat → Option Sh) (mI : Nat → Nat → Int32) (mL : Nat → Nat → Int64) (mR : Nat → Nat → Option Nat) (n : Nat) (hL : ML sh mR) (np : Nat) (hp : PupM mI np) (c : Nat) (fi se ma : Nat → Nat) (hS : SayM mI c fi se ma) (sl : Nat) (kd : Nat → Nat) (hK : SlM mI np sl kd) (p t : Nat) (hpn : p < np) (ht : t < 1024) : Cn l X yX12_partOf cX12_partOf 7 (some .long) d [.ref 129, .int (nI p), .int (nI t)] (sh, mI, mL, mR, n) (fun r M' => M' = (sh, mI, mL, mR, n) ∧ r = some (.long (lN (pOf fi se p t (offO sl kd p) c)))) 0 0 := by
  refine Cn.run 12 false (by decide) rfl (by decide) (by simp [entA, Value.category]) ?_
  intro P G hP hG
  have q0 := hL.1
  have q_s := hL.2 (41, 156, .int, 144) (by decide)
  dsimp only at q_s
  have q_kind := hL.2 (14, 135, .int, 60) (by decide)
  dsimp only at q_kind
  have q_slip := hL.2 (12, 133, .int, 6) (by decide)
  dsimp only at q_slip
  have hpp := hp.2
  obtain ⟨k1, k2, k3⟩ := hK
  obtain ⟨k4, k5⟩ := k3 p hpn
  have loop : ∀ f i v6, c - i < f → i ≤ c → G 5 [some (.ref 129), some (.int (nI p)), some (.int (nI t)), some (.long (lN (pOf fi se p t (offO sl kd p) i))), none, some (.int (nI i)), v6] [] (sh, mI, mL, mR, n) := by
    intro f
    induction f with
    | zero => intro i v6 h; omega
    | succ f ih =>
      intro i v6 hf hi
      refine hG.run [5] 60 ?_
      simp [wp, stepI, ln, jmp, cmpI, Value.category, rd, tyF, va_rf, st1, st2, clr, isLg, CB, inx_0, inx_1, inx_2, inx_3, inx_4, inx_5, bI_0, bI_1, bI_ok, fin3, tyX12, entL, q0, q_s, q_kind, q_slip, dX12_partOf_0, dX12_partOf_1, dX12_partOf_2, dX12_partOf_3, dX12_partOf_5, dX12_partOf_7, dX12_partOf_8, fT_12_90, dX12_partOf_11, dX12_partOf_12, dX12_partOf_13, dX12_partOf_16, dX12_partOf_17, dX12_partOf_20, dX12_partOf_21, dX12_partOf_23, dX12_partOf_24, dX12_partOf_25, dX12_partOf_26, dX12_partOf_29, dX12_partOf_32, dX12_partOf_33, fT_12_26, dX12_partOf_36, dX12_partOf_37, dX12_partOf_38, dX12_partOf_39, dX12_partOf_42, dX12_partOf_43, dX12_partOf_44, fT_12_19, dX12_partOf_47, dX12_partOf_48, dX12_partOf_49, dX12_partOf_50, dX12_partOf_53, dX12_partOf_54, dX12_partOf_57, dX12_partOf_58, dX12_partOf_59, dX12_partOf_61, dX12_partOf_62, dX12_partOf_63, dX12_partOf_64, dX12_partOf_67, dX12_partOf_69, dX12_partOf_71, dX12_partOf_72, dX12_partOf_73, dX12_partOf_74, dX12_partOf_75, dX12_partOf_76, dX12_partOf_77, dX12_partOf_80, dX12_partOf_82, dX12_partOf_83, dX12_partOf_86, dX12_partOf_88, dX12_partOf_90, dX12_partOf_91, dX12_partOf_92, dX12_partOf_93, dX12_partOf_94, dX12_partOf_97, dX12_partOf_100, dX12_partOf_101]
      have e0 := hS.1
      have hc := hS.2.1
      simp (disch := omega) only [li, nI_add, nI_clamp, nI_ltI, nI_leI, nI_eq, inx_iff, a31, nI_1shl', nI_shr', div_bit, tb1, tb0, fa_or, fa_and, nI_not, pk_sub, nI_dec, e0, k1, k4]
      refine ⟨fun h => hP _ _ ⟨rfl, by rw [show i = c by omega]⟩, fun h => ?_⟩
      obtain ⟨s1, s2, s3, b1, b2, b3⟩ := hS.2.2 i h
      have nx : ∀ w v6, (if fi i = p then pOf fi se p t (offO sl kd p) i * (if t.testBit (se i) then offO sl kd p else 8 - offO sl kd p) else pOf fi se p t (offO sl kd p) i) = w → G 5 [some (.ref 129), some (.int (nI p)), some (.int (nI t)), some (.long (lN w)), none, some (.int (nI (i + 1))), v6] [] (sh, mI, mL, mR, n) := fun w v6 hw => by
        have := ih (i + 1) v6 (by omega) (by omega)
        rw [pOf_s, hw] at this
        exact this
      simp (disch := omega) only [li, nI_add, nI_clamp, nI_ltI, nI_leI, nI_eq, inx_iff, a31, nI_1shl', nI_shr', div_bit, tb1, tb0, fa_or, fa_and, nI_not, pk_sub, nI_dec, s1, s2, pk_mul, nI_l, lN_mul]
      have o1 : ¬ kd p = 3 → offO sl kd p = sl := fun z => by unfold offO; rw [if_neg z]
      have o2 : kd p = 3 → offO sl kd p = 2 * sl := fun z => by unfold offO; rw [if_pos z]
      refine ⟨by omega, fun z => ⟨by omega, fun y => ⟨by omega, fun x => nx _ _ (by rw [if_pos z, if_neg x, o1 y]), fun x => nx _ _ (by rw [if_pos z, if_pos x, o1 y])⟩, fun y => ⟨by omega, fun x => nx _ _ (by rw [if_pos z, if_neg x, o2 y]), fun x => nx _ _ (by rw [if_pos z, if_pos x, o2 y])⟩⟩, fun z => nx _ _ (by rw [if_neg z])⟩
  refine hG.run [5] 60 ?_
  simp [wp, stepI, ln, jmp, cmpI, Value.category, rd, tyF, va_rf, st1, st2, clr, isLg, CB, inx_0, inx_1, inx_2, inx_3, inx_4, inx_5, bI_0, bI_1, bI_ok, fin3, tyX12, entL, q0, q_s, q_kind, q_slip, dX12_partOf_0, dX12_partOf_1, dX12_partOf_2, dX12_partOf_3, dX12_partOf_5, dX12_partOf_7, dX12_partOf_8, fT_12_90, dX12_partOf_11, dX12_partOf_12, dX12_partOf_13, dX12_partOf_16, dX12_partOf_17, dX12_partOf_20, dX12_partOf_21, dX12_partOf_23, dX12_partOf_24, dX12_partOf_25, dX12_partOf_26, dX12_partOf_29, dX12_partOf_32, dX12_partOf_33, fT_12_26, dX12_partOf_36, dX12_partOf_37, dX12_partOf_38, dX12_partOf_39, dX12_partOf_42, dX12_partOf_43, dX12_partOf_44, fT_12_19, dX12_partOf_47, dX12_partOf_48, dX12_partOf_49, dX12_partOf_50, dX12_partOf_53, dX12_partOf_54, dX12_partOf_57, dX12_partOf_58, dX12_partOf_59, dX12_partOf_61, dX12_partOf_62, dX12_partOf_63, dX12_partOf_64, dX12_partOf_67, dX12_partOf_69, dX12_partOf_71, dX12_partOf_72, dX12_partOf_73, dX12_partOf_74, dX12_partOf_75, dX12_partOf_76, dX12_partOf_77, dX12_partOf_80, dX12_partOf_82, dX12_partOf_83, dX12_partOf_86, dX12_partOf_88, dX12_partOf_90, dX12_partOf_91, dX12_partOf_92, dX12_partOf_93, dX12_partOf_94, dX12_partOf_97, dX12_partOf_100, dX12_partOf_101]
  exact loop (c + 1) 0 none (by omega) (by omega)
/-! weights pushed from set to set -/
def psh (np : Nat) (V : Nat → Nat) (g : Nat → Nat → Nat) (i j t : Nat) : Nat := if t = 0 then 1 else fb_sm (fun p => if t.testBit p && (decide (anot t (2 ^ p) < i) || (decide (anot t (2 ^ p) = i) && decide (p < j))) then V (anot t (2 ^ p)) * g p (anot t (2 ^ p)) else 0) np
def PshR (np : Nat) (V : Nat → Nat) (g : Nat → Nat → Nat) : Prop := V 0 = 1 ∧ ∀ t, 0 < t → V t = fb_sm (fun p => if t.testBit p then V (anot t (2 ^ p)) * g p (anot t (2 ^ p)) else 0) np
theorem psh_full {np : Nat} {V : Nat → Nat} {g : Nat → Nat → Nat} (hV : PshR np V g) {i j t : Nat} (h : t ≤ i) : psh np V g i j t = V t := by
  unfold psh
  by_cases h0 : t = 0
  · rw [if_pos h0, h0, hV.1]
  · rw [if_neg h0, hV.2 t (by omega)]
    refine fb_sm_cong fun p _ => ?_
    by_cases hb : t.testBit p = true
    · have := anot_lt hb
      rw [hb, decide_eq_true (show anot t (2 ^ p) < i by omega)]
      rfl
    · rw [if_neg hb, if_neg (by simp [hb])]
theorem psh_end {np : Nat} {V : Nat → Nat} {g : Nat → Nat → Nat} {i t : Nat} : psh np V g i np t = psh np V g (i + 1) 0 t := by
  unfold psh
  split
  · rfl
  · refine fb_sm_cong fun p hp => ?_
    congr 1
    rw [decide_eq_true hp, decide_eq_false (Nat.not_lt_zero p), Bool.and_true, Bool.and_false, Bool.or_false]
    have : (decide (anot t (2 ^ p) < i) || decide (anot t (2 ^ p) = i)) = decide (anot t (2 ^ p) < i + 1) := by
      rw [Bool.eq_iff_iff]
      simp only [Bool.or_eq_true, decide_eq_true_eq]
      omega
    rw [this]
theorem or_anot {i j : Nat} (h : i.testBit j = false) : anot (i ||| 2 ^ j) (2 ^ j) = i := by
  refine Nat.eq_of_testBit_eq fun k => ?_
  rw [anot_bit, Nat.testBit_or, Nat.testBit_two_pow]
  by_cases hk : j = k
  · subst hk; simp [h]
  · simp [hk]
theorem anot_or {t j : Nat} (h : t.testBit j = true) : anot t (2 ^ j) ||| 2 ^ j = t := by
  refine Nat.eq_of_testBit_eq fun k => ?_
  rw [Nat.testBit_or, anot_bit, Nat.testBit_two_pow]
  by_cases hk : j = k
  · subst hk; simp [h]
  · simp [hk]
theorem psh_same {np : Nat} {V : Nat → Nat} {g : Nat → Nat → Nat} {i j t : Nat} (h : t.testBit j = true → anot t (2 ^ j) = i → g j i = 0) : psh np V g i (j + 1) t = psh np V g i j t := by
  unfold psh
  split
  · rfl
  · refine fb_sm_cong fun p hp => ?_
    by_cases hpj : p = j
    · subst hpj
      by_cases hb : t.testBit p = true
      · by_cases he : anot t (2 ^ p) = i
        · rw [he, h hb he, Nat.mul_zero]
          split <;> split <;> rfl
        · rw [decide_eq_false he, Bool.false_and, Bool.false_and]
      · simp [hb]
    · have : decide (p < j + 1) = decide (p < j) := by
        rw [Bool.eq_iff_iff]
        simp only [decide_eq_true_eq]
        omega
      rw [this]
theorem psh_add {np : Nat} {V : Nat → Nat} {g : Nat → Nat → Nat} {i j : Nat} (hj : j < np) (hb : i.testBit j = false) : psh np V g i (j + 1) (i ||| 2 ^ j) = psh np V g i j (i ||| 2 ^ j) + V i * g j i := by
  have hgt := or_gt hb
  unfold psh
  rw [if_neg (by omega), if_neg (by omega)]
  have e : (fun p => if (i ||| 2 ^ j).testBit p && (decide (anot (i ||| 2 ^ j) (2 ^ p) < i) || (decide (anot (i ||| 2 ^ j) (2 ^ p) = i) && decide (p < j + 1))) then V (anot (i ||| 2 ^ j) (2 ^ p)) * g p (anot (i ||| 2 ^ j) (2 ^ p)) else 0) = fun p => if p = j then V i * g j i else (fun p => if (i ||| 2 ^ j).testBit p && (decide (anot (i ||| 2 ^ j) (2 ^ p) < i) || (decide (anot (i ||| 2 ^ j) (2 ^ p) = i) && decide (p < j))) then V (anot (i ||| 2 ^ j) (2 ^ p)) * g p (anot (i ||| 2 ^ j) (2 ^ p)) else 0) p := by
    funext p
    by_cases hpj : p = j
    · subst hpj
      rw [if_pos rfl, or_anot hb, Nat.testBit_or, Nat.testBit_two_pow_self]
      simp
    · rw [if_neg hpj]
      have : decide (p < j + 1) = decide (p < j) := by
        rw [Bool.eq_iff_iff]
        simp only [decide_eq_true_eq]
        omega
      rw [this]
  rw [e]
  have h1 := fb_sm_upd (fun p => if (i ||| 2 ^ j).testBit p && (decide (anot (i ||| 2 ^ j) (2 ^ p) < i) || (decide (anot (i ||| 2 ^ j) (2 ^ p) = i) && decide (p < j))) then V (anot (i ||| 2 ^ j) (2 ^ p)) * g p (anot (i ||| 2 ^ j) (2 ^ p)) else 0) (V i * g j i) (i := j) (n := np) hj
  have h2 : (if (i ||| 2 ^ j).testBit j && (decide (anot (i ||| 2 ^ j) (2 ^ j) < i) || (decide (anot (i ||| 2 ^ j) (2 ^ j) = i) && decide (j < j))) then V (anot (i ||| 2 ^ j) (2 ^ j)) * g j (anot (i ||| 2 ^ j) (2 ^ j)) else 0) = 0 := by
    rw [or_anot hb]
    simp
  rw [h2, Nat.add_zero] at h1
  exact h1
