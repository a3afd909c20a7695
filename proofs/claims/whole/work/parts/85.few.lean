set_option maxHeartbeats 4000000 in
set_option maxRecDepth 100000 in
theorem c0_firstBits (l : Launch) (X : Cx) (d : Nat) (M : Mm) (b : Nat) (hb : b ≤ 64) : Cn l X yX0_firstBits cX0_firstBits 1 (some .long) d [.int (nI b)] M (fun r M' => M' = M ∧ r = some (.long (lN (2 ^ b - 1)))) 0 0 := by
  refine Cn.run 0 false (by decide) rfl (by decide) (by simp [entA, Value.category]) ?_
  intro P G hP hG
  have m1 : (-1 : Int64) = lN (2 ^ 64 - 1) := by decide +kernel
  refine hG.run [] 40 ?_
  simp [wp, stepI, ln, jmp, cmpI, Value.category, rd, tyF, va_rf, st1, st2, clr, isLg, CB, inx_0, inx_1, inx_2, inx_3, inx_4, inx_5, bI_0, bI_1, bI_ok, fin3, entL, dX0_firstBits_0, dX0_firstBits_1, dX0_firstBits_3, dX0_firstBits_6, cL_0_89, dX0_firstBits_9, dX0_firstBits_12, dX0_firstBits_13, dX0_firstBits_14, dX0_firstBits_15, dX0_firstBits_16, dX0_firstBits_17]
  simp (disch := omega) only [li, nI_add, nI_clamp, nI_ltI, nI_leI, nI_eq, inx_iff, a31, nI_1shl', nI_shr', div_bit, tb1, tb0, fa_or, fa_and, nI_not, pk_sub, nI_dec, liL]
  refine ⟨fun z => ?_, fun z => ?_⟩
  · rw [show lN 63 = (63 : Int64) from rfl, wb_shl 1 z, Nat.one_mul, lN_sub (Nat.one_le_two_pow)]
    exact hP _ _ ⟨rfl, rfl⟩
  · have e : b = 64 := by omega
    subst e
    rw [← m1] at hP
    exact hP _ _ ⟨rfl, rfl⟩
theorem lN_z {v : Nat} (h : v < 2 ^ 64) : lN v = lN 0 ↔ v = 0 := ⟨fun z => by
  have := congrArg (fun x : Int64 => x.toBitVec.toNat) z
  rw [wb_tn h, wb_tn (by decide)] at this
  exact this, fun z => by rw [z]⟩
def lwF (R : Nat → Nat → Nat) (s : Nat) (fi se : Nat → Nat) : Nat → Nat
  | 0 => s
  | i + 1 => lwF R s fi se i &&& R (fi i) (se i)
theorem lwF_lt {R : Nat → Nat → Nat} {s : Nat} {fi se : Nat → Nat} {m : Nat} (h : s < m) : ∀ i, lwF R s fi se i < m
  | 0 => h
  | i + 1 => Nat.lt_of_le_of_lt Nat.and_le_left (lwF_lt h i)
theorem f64 : ∀ np, np ≤ 5 → (if nI (fac np) - nI 64 < nI 0 then nI 0 else nI (fac np) - nI 64) = nI (fac np - 64) ∧ (if nI 64 < nI (fac np) then nI 64 else nI (fac np)) = nI (Nat.min (fac np) 64) ∧ Nat.min (fac np) 64 ≤ 64 ∧ fac np - 64 ≤ 64 := by decide +kernel
theorem min5 : ∀ np, np ≤ 5 → (if nI 5 < nI np then nI 5 else nI np) = nI np := by decide +kernel
/-- the orders that are left -/
def lwL (np c : Nat) (fi se : Nat → Nat) : Nat := lwF (rL np (fac np)) (2 ^ Nat.min (fac np) 64 - 1) fi se c
def lwH (np c : Nat) (fi se : Nat → Nat) : Nat := lwF (rH np (fac np)) (2 ^ (fac np - 64) - 1) fi se c
noncomputable def askA (np c : Nat) (fi se : Nat → Nat) : Int32 := if lwL np c fi se = 0 ∧ lwH np c fi se = 0 then -nI 1 else nI (fa_first (fun k => dcd (sfS np (rL np (fac np)) (rH np (fac np)) k (lwL np c fi se) (lwH np c fi se))) 10)
theorem or_z {a b : Nat} : a ||| b = 0 ↔ (a = 0 ∧ b = 0) := by
  constructor
  · intro h
    exact ⟨Nat.le_zero.mp (h ▸ Nat.left_le_or), Nat.le_zero.mp (h ▸ Nat.right_le_or)⟩
  · rintro ⟨h1, h2⟩
    rw [h1, h2]; rfl
set_option maxHeartbeats 4000000 in
set_option maxRecDepth 100000 in
theorem c0_fewestAsks (l : Launch) (X : Cx) (d : Nat) (sh : Nat → Option Sh) (mI : Nat → Nat → Int32) (mL : Nat → Nat → Int64) (mR : Nat → Nat → Option Nat) (n : Nat) (K S C : Nat) (hO : OL sh mR K 0 ob0) (hS6 : OL sh mR S 6 ob6) (hsc : mR S 0 = some C) (hC : OL sh mR C 4 ob4) (d1 : K + 3 < S ∨ S + 11 < K) (d2 : K + 3 < C ∨ C + 5 < K) (np : Nat) (hnp : np ≤ 5) (hp : ScP mI C np) (c : Nat) (fi se ma : Nat → Nat) (hS : ShS mI S c fi se ma) (hV : SayV np c fi se) (hd : 23 ≤ d) : Cn l X yX0_fewestAsks cX0_fewestAsks 9 (some .int) d [.ref K, .ref S] (sh, mI, mL, mR, n) (fun r M' => r = some (.int (askA np c fi se)) ∧ ∃ mI' mL', M' = (sh, mI', mL', mR, n) ∧ (∀ a k, a ≠ K → a ≠ K + 3 → mI' a k = mI a k) ∧ (∀ a k, a ≠ K + 1 → a ≠ K + 2 → mL' a k = mL a k)) 0 0 := by
  refine Cn.run 0 false (by decide) rfl (by decide) (by simp [entA, Value.category]) ?_
  intro P G hP hG
  have q0 := hO.1
  have q_low := hO.2.2 (0, 1, .long, 25) (by decide)
  dsimp only at q_low
  have q_high := hO.2.2 (1, 2, .long, 25) (by decide)
  dsimp only at q_high
  have hSl := hO.2.1
  have xK : K < 1000000000 := by omega
  have t0 := hS6.1
  have u0 := hC.1
  have q_first := hS6.2.2 (1, 7, .int, 40) (by decide)
  have q_second := hS6.2.2 (2, 8, .int, 40) (by decide)
  dsimp only at q_first q_second
  obtain ⟨p1, -⟩ := hp
  obtain ⟨e0, hc, hk⟩ := hS
  obtain ⟨a1, a2, a3, a4⟩ := f64 np hnp
  refine hG.run [] 60 ?_
  simp [wp, stepI, ln, jmp, cmpI, Value.category, rd, tyF, va_rf, st1, st2, clr, isLg, CB, inx_0, inx_1, inx_2, inx_3, inx_4, inx_5, bI_0, bI_1, bI_ok, fin3, tyX0, entL, q0, hsc, t0, u0, tyX6, tyX4, dX0_fewestAsks_0, dX0_fewestAsks_1, dX0_fewestAsks_2, fT_0_22, dX0_fewestAsks_5, fT_0_28, dX0_fewestAsks_8, dX0_fewestAsks_9, dX0_fewestAsks_12, fT_0_40, dX0_fewestAsks_15, dX0_fewestAsks_16, dX0_fewestAsks_19, dX0_fewestAsks_20, dX0_fewestAsks_21, dX0_fewestAsks_23, dX0_fewestAsks_26, dX0_fewestAsks_29, dX0_fewestAsks_30, dX0_fewestAsks_31, dX0_fewestAsks_33, dX0_fewestAsks_34, dX0_fewestAsks_35, dX0_fewestAsks_38, dX0_fewestAsks_41, dX0_fewestAsks_43, dX0_fewestAsks_44, dX0_fewestAsks_46, dX0_fewestAsks_48, dX0_fewestAsks_49, fT_0_52, dX0_fewestAsks_52, dX0_fewestAsks_55, dX0_fewestAsks_56, fT_0_55, dX0_fewestAsks_59, dX0_fewestAsks_61, dX0_fewestAsks_62, dX0_fewestAsks_63, dX0_fewestAsks_64, dX0_fewestAsks_65, fT_0_58, dX0_fewestAsks_68, dX0_fewestAsks_70, dX0_fewestAsks_71, dX0_fewestAsks_72, dX0_fewestAsks_74, dX0_fewestAsks_75, dX0_fewestAsks_76, fT_0_9, dX0_fewestAsks_79, dX0_fewestAsks_81, dX0_fewestAsks_82, dX0_fewestAsks_83, dX0_fewestAsks_84, dX0_fewestAsks_86, dX0_fewestAsks_87, fT_0_15, dX0_fewestAsks_90, dX0_fewestAsks_92, dX0_fewestAsks_93, dX0_fewestAsks_94, dX0_fewestAsks_96, dX0_fewestAsks_99, dX0_fewestAsks_102, dX0_fewestAsks_103, dX0_fewestAsks_105, dX0_fewestAsks_106, dX0_fewestAsks_107, dX0_fewestAsks_108, dX0_fewestAsks_111, dX0_fewestAsks_112, dX0_fewestAsks_113, dX0_fewestAsks_114, dX0_fewestAsks_116, dX0_fewestAsks_118, dX0_fewestAsks_120, dX0_fewestAsks_123, dX0_fewestAsks_124, dX0_fewestAsks_125, dX0_fewestAsks_127, dX0_fewestAsks_129, dX0_fewestAsks_132, dX0_fewestAsks_135, dX0_fewestAsks_138, dX0_fewestAsks_141, dX0_fewestAsks_143]
  rw [p1]
  simp only [li]
  refine hG.mmin dX0_fewestAsks_9 ms_0_34.link [.ref K] (by omega) (by simp [Value.category]) ?_
  rw [min5 np hnp]
  refine hG.run [] 60 ?_
  simp [wp, stepI, ln, jmp, cmpI, Value.category, rd, tyF, va_rf, st1, st2, clr, isLg, CB, inx_0, inx_1, inx_2, inx_3, inx_4, inx_5, bI_0, bI_1, bI_ok, fin3, tyX0, entL, q0, okv, wr, finF, clT, TX0, xK, dX0_fewestAsks_0, dX0_fewestAsks_1, dX0_fewestAsks_2, fT_0_22, dX0_fewestAsks_5, fT_0_28, dX0_fewestAsks_8, dX0_fewestAsks_9, dX0_fewestAsks_12, fT_0_40, dX0_fewestAsks_15, dX0_fewestAsks_16, dX0_fewestAsks_19, dX0_fewestAsks_20, dX0_fewestAsks_21, dX0_fewestAsks_23, dX0_fewestAsks_26, dX0_fewestAsks_29, dX0_fewestAsks_30, dX0_fewestAsks_31, dX0_fewestAsks_33, dX0_fewestAsks_34, dX0_fewestAsks_35, dX0_fewestAsks_38, dX0_fewestAsks_41, dX0_fewestAsks_43, dX0_fewestAsks_44, dX0_fewestAsks_46, dX0_fewestAsks_48, dX0_fewestAsks_49, fT_0_52, dX0_fewestAsks_52, dX0_fewestAsks_55, dX0_fewestAsks_56, fT_0_55, dX0_fewestAsks_59, dX0_fewestAsks_61, dX0_fewestAsks_62, dX0_fewestAsks_63, dX0_fewestAsks_64, dX0_fewestAsks_65, fT_0_58, dX0_fewestAsks_68, dX0_fewestAsks_70, dX0_fewestAsks_71, dX0_fewestAsks_72, dX0_fewestAsks_74, dX0_fewestAsks_75, dX0_fewestAsks_76, fT_0_9, dX0_fewestAsks_79, dX0_fewestAsks_81, dX0_fewestAsks_82, dX0_fewestAsks_83, dX0_fewestAsks_84, dX0_fewestAsks_86, dX0_fewestAsks_87, fT_0_15, dX0_fewestAsks_90, dX0_fewestAsks_92, dX0_fewestAsks_93, dX0_fewestAsks_94, dX0_fewestAsks_96, dX0_fewestAsks_99, dX0_fewestAsks_102, dX0_fewestAsks_103, dX0_fewestAsks_105, dX0_fewestAsks_106, dX0_fewestAsks_107, dX0_fewestAsks_108, dX0_fewestAsks_111, dX0_fewestAsks_112, dX0_fewestAsks_113, dX0_fewestAsks_114, dX0_fewestAsks_116, dX0_fewestAsks_118, dX0_fewestAsks_120, dX0_fewestAsks_123, dX0_fewestAsks_124, dX0_fewestAsks_125, dX0_fewestAsks_127, dX0_fewestAsks_129, dX0_fewestAsks_132, dX0_fewestAsks_135, dX0_fewestAsks_138, dX0_fewestAsks_141, dX0_fewestAsks_143]
  obtain ⟨m1, hm1⟩ : ∃ m, m = up2 mI K 3 (nI np) := ⟨_, rfl⟩
  rw [← hm1]
  have fr1 : ∀ a k, a ≠ K → m1 a k = mI a k := fun a k ha => by rw [hm1, up2_ne (fun z => ha z.1)]
  have pp1 : m1 K 3 = nI np := by rw [hm1, up2_eq]
  refine hG.callV dX0_fewestAsks_16 mv_0_41 [] [] (c0_layOrders l X (d - 1) sh m1 mL mR n K hO np hnp pp1 (by omega)) ⟨_, rfl, rfl⟩ q0 (by omega) rfl (by decide) (by simp [Value.category]) rfl ?_
  rintro r M' ⟨rfl, m2, mL2, rfl, k1, k2, k3⟩
  have fr2 : ∀ a k, a ≠ K → a ≠ K + 3 → m2 a k = mI a k := fun a k h1 h2 => (k1 a k h2).trans (fr1 a k h1)
  have pp2 : m2 K 3 = nI np := (k1 _ _ (by omega)).trans pp1
  refine hG.run [] 60 ?_
  simp [wp, stepI, ln, jmp, cmpI, Value.category, rd, tyF, va_rf, st1, st2, clr, isLg, CB, inx_0, inx_1, inx_2, inx_3, inx_4, inx_5, bI_0, bI_1, bI_ok, fin3, tyX0, entL, q0, dX0_fewestAsks_0, dX0_fewestAsks_1, dX0_fewestAsks_2, fT_0_22, dX0_fewestAsks_5, fT_0_28, dX0_fewestAsks_8, dX0_fewestAsks_9, dX0_fewestAsks_12, fT_0_40, dX0_fewestAsks_15, dX0_fewestAsks_16, dX0_fewestAsks_19, dX0_fewestAsks_20, dX0_fewestAsks_21, dX0_fewestAsks_23, dX0_fewestAsks_26, dX0_fewestAsks_29, dX0_fewestAsks_30, dX0_fewestAsks_31, dX0_fewestAsks_33, dX0_fewestAsks_34, dX0_fewestAsks_35, dX0_fewestAsks_38, dX0_fewestAsks_41, dX0_fewestAsks_43, dX0_fewestAsks_44, dX0_fewestAsks_46, dX0_fewestAsks_48, dX0_fewestAsks_49, fT_0_52, dX0_fewestAsks_52, dX0_fewestAsks_55, dX0_fewestAsks_56, fT_0_55, dX0_fewestAsks_59, dX0_fewestAsks_61, dX0_fewestAsks_62, dX0_fewestAsks_63, dX0_fewestAsks_64, dX0_fewestAsks_65, fT_0_58, dX0_fewestAsks_68, dX0_fewestAsks_70, dX0_fewestAsks_71, dX0_fewestAsks_72, dX0_fewestAsks_74, dX0_fewestAsks_75, dX0_fewestAsks_76, fT_0_9, dX0_fewestAsks_79, dX0_fewestAsks_81, dX0_fewestAsks_82, dX0_fewestAsks_83, dX0_fewestAsks_84, dX0_fewestAsks_86, dX0_fewestAsks_87, fT_0_15, dX0_fewestAsks_90, dX0_fewestAsks_92, dX0_fewestAsks_93, dX0_fewestAsks_94, dX0_fewestAsks_96, dX0_fewestAsks_99, dX0_fewestAsks_102, dX0_fewestAsks_103, dX0_fewestAsks_105, dX0_fewestAsks_106, dX0_fewestAsks_107, dX0_fewestAsks_108, dX0_fewestAsks_111, dX0_fewestAsks_112, dX0_fewestAsks_113, dX0_fewestAsks_114, dX0_fewestAsks_116, dX0_fewestAsks_118, dX0_fewestAsks_120, dX0_fewestAsks_123, dX0_fewestAsks_124, dX0_fewestAsks_125, dX0_fewestAsks_127, dX0_fewestAsks_129, dX0_fewestAsks_132, dX0_fewestAsks_135, dX0_fewestAsks_138, dX0_fewestAsks_141, dX0_fewestAsks_143]
  simp only [li]
  refine hG.mmin dX0_fewestAsks_23 ms_0_34.link [] (by omega) (by simp [Value.category]) ?_
  rw [a2]
  refine hG.callS dX0_fewestAsks_26 ms_0_45 [.int (nI (Nat.min (fac np) 64))] [] (c0_firstBits l X (d - 1) _ _ a3) (by omega) rfl (by decide) (by simp [Value.category]) rfl ?_
  rintro r M' ⟨rfl, rfl⟩
  refine hG.run [] 60 ?_
  simp [wp, stepI, ln, jmp, cmpI, Value.category, rd, tyF, va_rf, st1, st2, clr, isLg, CB, inx_0, inx_1, inx_2, inx_3, inx_4, inx_5, bI_0, bI_1, bI_ok, fin3, tyX0, entL, q0, dX0_fewestAsks_0, dX0_fewestAsks_1, dX0_fewestAsks_2, fT_0_22, dX0_fewestAsks_5, fT_0_28, dX0_fewestAsks_8, dX0_fewestAsks_9, dX0_fewestAsks_12, fT_0_40, dX0_fewestAsks_15, dX0_fewestAsks_16, dX0_fewestAsks_19, dX0_fewestAsks_20, dX0_fewestAsks_21, dX0_fewestAsks_23, dX0_fewestAsks_26, dX0_fewestAsks_29, dX0_fewestAsks_30, dX0_fewestAsks_31, dX0_fewestAsks_33, dX0_fewestAsks_34, dX0_fewestAsks_35, dX0_fewestAsks_38, dX0_fewestAsks_41, dX0_fewestAsks_43, dX0_fewestAsks_44, dX0_fewestAsks_46, dX0_fewestAsks_48, dX0_fewestAsks_49, fT_0_52, dX0_fewestAsks_52, dX0_fewestAsks_55, dX0_fewestAsks_56, fT_0_55, dX0_fewestAsks_59, dX0_fewestAsks_61, dX0_fewestAsks_62, dX0_fewestAsks_63, dX0_fewestAsks_64, dX0_fewestAsks_65, fT_0_58, dX0_fewestAsks_68, dX0_fewestAsks_70, dX0_fewestAsks_71, dX0_fewestAsks_72, dX0_fewestAsks_74, dX0_fewestAsks_75, dX0_fewestAsks_76, fT_0_9, dX0_fewestAsks_79, dX0_fewestAsks_81, dX0_fewestAsks_82, dX0_fewestAsks_83, dX0_fewestAsks_84, dX0_fewestAsks_86, dX0_fewestAsks_87, fT_0_15, dX0_fewestAsks_90, dX0_fewestAsks_92, dX0_fewestAsks_93, dX0_fewestAsks_94, dX0_fewestAsks_96, dX0_fewestAsks_99, dX0_fewestAsks_102, dX0_fewestAsks_103, dX0_fewestAsks_105, dX0_fewestAsks_106, dX0_fewestAsks_107, dX0_fewestAsks_108, dX0_fewestAsks_111, dX0_fewestAsks_112, dX0_fewestAsks_113, dX0_fewestAsks_114, dX0_fewestAsks_116, dX0_fewestAsks_118, dX0_fewestAsks_120, dX0_fewestAsks_123, dX0_fewestAsks_124, dX0_fewestAsks_125, dX0_fewestAsks_127, dX0_fewestAsks_129, dX0_fewestAsks_132, dX0_fewestAsks_135, dX0_fewestAsks_138, dX0_fewestAsks_141, dX0_fewestAsks_143]
  simp only [li]
  refine hG.mmax dX0_fewestAsks_35 ms_0_49.link [] (by omega) (by simp [Value.category]) ?_
  rw [a1]
  refine hG.callS dX0_fewestAsks_38 ms_0_45 [.int (nI (fac np - 64))] [] (c0_firstBits l X (d - 1) _ _ a4) (by omega) rfl (by decide) (by simp [Value.category]) rfl ?_
  rintro r M' ⟨rfl, rfl⟩
  have s1 : 2 ^ Nat.min (fac np) 64 - 1 < 2 ^ 64 := by
    have : 2 ^ Nat.min (fac np) 64 ≤ 2 ^ 64 := Nat.pow_le_pow_right (by decide) a3
    have : 1 ≤ 2 ^ Nat.min (fac np) 64 := Nat.one_le_two_pow
    omega
  have s2 : 2 ^ (fac np - 64) - 1 < 2 ^ 64 := by
    have : 2 ^ (fac np - 64) ≤ 2 ^ 64 := Nat.pow_le_pow_right (by decide) a4
    have : 1 ≤ 2 ^ (fac np - 64) := Nat.one_le_two_pow
    omega
  have last : ∀ v7 v8, G 102 [some (.ref K), some (.ref S), some (.int (nI (fac np))), some (.long (lN (lwL np c fi se))), none, some (.long (lN (lwH np c fi se))), none, v7, v8] [] (sh, m2, mL2, mR, n) := fun v7 v8 => by
    have l1 : lwL np c fi se < 2 ^ 64 := lwF_lt s1 c
    have l2 : lwH np c fi se < 2 ^ 64 := lwF_lt s2 c
    unfold askA at hP
    generalize lwL np c fi se = lo at l1 hP
    generalize lwH np c fi se = hi at l2 hP
    have l3 : lo ||| hi < 2 ^ 64 := Nat.or_lt_two_pow l1 l2
    have z1 : lN (lo ||| hi) = lN 0 ↔ (lo = 0 ∧ hi = 0) := (lN_z l3).trans or_z
    have loop : ∀ f k, ¬ (lo = 0 ∧ hi = 0) → 10 - k < f → k ≤ 10 → (∀ j, j < k → dcd (sfS np (rL np (fac np)) (rH np (fac np)) j lo hi) = false) → G 116 [some (.ref K), some (.ref S), some (.int (nI (fac np))), some (.long (lN lo)), none, some (.long (lN hi)), none, some (.int (nI k)), v8] [] (sh, m2, mL2, mR, n) := by
      intro f
      induction f with
      | zero => intro k hz h; omega
      | succ f ih =>
        intro k hz hf hk10 hno
        rw [if_neg hz] at hP
        refine hG.run [] 60 ?_
        simp [wp, stepI, ln, jmp, cmpI, Value.category, rd, tyF, va_rf, st1, st2, clr, isLg, CB, inx_0, inx_1, inx_2, inx_3, inx_4, inx_5, bI_0, bI_1, bI_ok, fin3, tyX0, entL, q0, dX0_fewestAsks_0, dX0_fewestAsks_1, dX0_fewestAsks_2, fT_0_22, dX0_fewestAsks_5, fT_0_28, dX0_fewestAsks_8, dX0_fewestAsks_9, dX0_fewestAsks_12, fT_0_40, dX0_fewestAsks_15, dX0_fewestAsks_16, dX0_fewestAsks_19, dX0_fewestAsks_20, dX0_fewestAsks_21, dX0_fewestAsks_23, dX0_fewestAsks_26, dX0_fewestAsks_29, dX0_fewestAsks_30, dX0_fewestAsks_31, dX0_fewestAsks_33, dX0_fewestAsks_34, dX0_fewestAsks_35, dX0_fewestAsks_38, dX0_fewestAsks_41, dX0_fewestAsks_43, dX0_fewestAsks_44, dX0_fewestAsks_46, dX0_fewestAsks_48, dX0_fewestAsks_49, fT_0_52, dX0_fewestAsks_52, dX0_fewestAsks_55, dX0_fewestAsks_56, fT_0_55, dX0_fewestAsks_59, dX0_fewestAsks_61, dX0_fewestAsks_62, dX0_fewestAsks_63, dX0_fewestAsks_64, dX0_fewestAsks_65, fT_0_58, dX0_fewestAsks_68, dX0_fewestAsks_70, dX0_fewestAsks_71, dX0_fewestAsks_72, dX0_fewestAsks_74, dX0_fewestAsks_75, dX0_fewestAsks_76, fT_0_9, dX0_fewestAsks_79, dX0_fewestAsks_81, dX0_fewestAsks_82, dX0_fewestAsks_83, dX0_fewestAsks_84, dX0_fewestAsks_86, dX0_fewestAsks_87, fT_0_15, dX0_fewestAsks_90, dX0_fewestAsks_92, dX0_fewestAsks_93, dX0_fewestAsks_94, dX0_fewestAsks_96, dX0_fewestAsks_99, dX0_fewestAsks_102, dX0_fewestAsks_103, dX0_fewestAsks_105, dX0_fewestAsks_106, dX0_fewestAsks_107, dX0_fewestAsks_108, dX0_fewestAsks_111, dX0_fewestAsks_112, dX0_fewestAsks_113, dX0_fewestAsks_114, dX0_fewestAsks_116, dX0_fewestAsks_118, dX0_fewestAsks_120, dX0_fewestAsks_123, dX0_fewestAsks_124, dX0_fewestAsks_125, dX0_fewestAsks_127, dX0_fewestAsks_129, dX0_fewestAsks_132, dX0_fewestAsks_135, dX0_fewestAsks_138, dX0_fewestAsks_141, dX0_fewestAsks_143]
        simp (disch := omega) only [li, nI_add, nI_clamp, nI_ltI, nI_leI, nI_eq, inx_iff, a31, nI_1shl', nI_shr', div_bit, tb1, tb0, fa_or, fa_and, nI_not, pk_sub, nI_dec]
        refine ⟨fun z => hP _ _ ⟨?_, m2, mL2, rfl, fr2, k2⟩, fun z => ?_⟩
        · rw [lx_first (k := k) hk10 hno (fun h => by omega)]
        · refine hG.callV dX0_fewestAsks_129 mv_0_61 [.long (lN lo), .long (lN hi), .int (nI k)] [] (c0_suffice np (rL np (fac np)) (rH np (fac np)) k l X (d - 1) sh m2 mL2 mR n K hO hnp pp2 k3 lo hi l1 l2 (by omega) (by omega)) ⟨_, rfl, rfl⟩ q0 (by omega) rfl (by decide) (by simp [Value.category]) rfl ?_
          rintro r M' ⟨rfl, rfl⟩
          have nx := ih (k + 1) hz (by omega) (by omega)
          generalize hq : dcd (sfS np (rL np (fac np)) (rH np (fac np)) k lo hi) = q
          refine hG.run [116] 60 ?_
          simp [wp, stepI, ln, jmp, cmpI, Value.category, rd, tyF, va_rf, st1, st2, clr, isLg, CB, inx_0, inx_1, inx_2, inx_3, inx_4, inx_5, bI_0, bI_1, bI_ok, fin3, tyX0, entL, q0, dX0_fewestAsks_0, dX0_fewestAsks_1, dX0_fewestAsks_2, fT_0_22, dX0_fewestAsks_5, fT_0_28, dX0_fewestAsks_8, dX0_fewestAsks_9, dX0_fewestAsks_12, fT_0_40, dX0_fewestAsks_15, dX0_fewestAsks_16, dX0_fewestAsks_19, dX0_fewestAsks_20, dX0_fewestAsks_21, dX0_fewestAsks_23, dX0_fewestAsks_26, dX0_fewestAsks_29, dX0_fewestAsks_30, dX0_fewestAsks_31, dX0_fewestAsks_33, dX0_fewestAsks_34, dX0_fewestAsks_35, dX0_fewestAsks_38, dX0_fewestAsks_41, dX0_fewestAsks_43, dX0_fewestAsks_44, dX0_fewestAsks_46, dX0_fewestAsks_48, dX0_fewestAsks_49, fT_0_52, dX0_fewestAsks_52, dX0_fewestAsks_55, dX0_fewestAsks_56, fT_0_55, dX0_fewestAsks_59, dX0_fewestAsks_61, dX0_fewestAsks_62, dX0_fewestAsks_63, dX0_fewestAsks_64, dX0_fewestAsks_65, fT_0_58, dX0_fewestAsks_68, dX0_fewestAsks_70, dX0_fewestAsks_71, dX0_fewestAsks_72, dX0_fewestAsks_74, dX0_fewestAsks_75, dX0_fewestAsks_76, fT_0_9, dX0_fewestAsks_79, dX0_fewestAsks_81, dX0_fewestAsks_82, dX0_fewestAsks_83, dX0_fewestAsks_84, dX0_fewestAsks_86, dX0_fewestAsks_87, fT_0_15, dX0_fewestAsks_90, dX0_fewestAsks_92, dX0_fewestAsks_93, dX0_fewestAsks_94, dX0_fewestAsks_96, dX0_fewestAsks_99, dX0_fewestAsks_102, dX0_fewestAsks_103, dX0_fewestAsks_105, dX0_fewestAsks_106, dX0_fewestAsks_107, dX0_fewestAsks_108, dX0_fewestAsks_111, dX0_fewestAsks_112, dX0_fewestAsks_113, dX0_fewestAsks_114, dX0_fewestAsks_116, dX0_fewestAsks_118, dX0_fewestAsks_120, dX0_fewestAsks_123, dX0_fewestAsks_124, dX0_fewestAsks_125, dX0_fewestAsks_127, dX0_fewestAsks_129, dX0_fewestAsks_132, dX0_fewestAsks_135, dX0_fewestAsks_138, dX0_fewestAsks_141, dX0_fewestAsks_143]
          simp (disch := omega) only [li, nI_add, nI_clamp, nI_ltI, nI_leI, nI_eq, inx_iff, a31, nI_1shl', nI_shr', div_bit, tb1, tb0, fa_or, fa_and, nI_not, pk_sub, nI_dec]
          refine ⟨fun w => hP _ _ ⟨?_, m2, mL2, rfl, fr2, k2⟩, fun w => nx (fun j hj => ?_)⟩
          · rw [lx_first (k := k) hk10 hno (fun _ => by rw [hq]; exact w)]
          · by_cases e : j = k
            · rw [e, hq]; exact w
            · exact hno j (by omega)
    refine hG.run [116] 60 ?_
    simp [wp, stepI, ln, jmp, cmpI, Value.category, rd, tyF, va_rf, st1, st2, clr, isLg, CB, inx_0, inx_1, inx_2, inx_3, inx_4, inx_5, bI_0, bI_1, bI_ok, fin3, tyX0, entL, q0, lg_cmp0, dX0_fewestAsks_0, dX0_fewestAsks_1, dX0_fewestAsks_2, fT_0_22, dX0_fewestAsks_5, fT_0_28, dX0_fewestAsks_8, dX0_fewestAsks_9, dX0_fewestAsks_12, fT_0_40, dX0_fewestAsks_15, dX0_fewestAsks_16, dX0_fewestAsks_19, dX0_fewestAsks_20, dX0_fewestAsks_21, dX0_fewestAsks_23, dX0_fewestAsks_26, dX0_fewestAsks_29, dX0_fewestAsks_30, dX0_fewestAsks_31, dX0_fewestAsks_33, dX0_fewestAsks_34, dX0_fewestAsks_35, dX0_fewestAsks_38, dX0_fewestAsks_41, dX0_fewestAsks_43, dX0_fewestAsks_44, dX0_fewestAsks_46, dX0_fewestAsks_48, dX0_fewestAsks_49, fT_0_52, dX0_fewestAsks_52, dX0_fewestAsks_55, dX0_fewestAsks_56, fT_0_55, dX0_fewestAsks_59, dX0_fewestAsks_61, dX0_fewestAsks_62, dX0_fewestAsks_63, dX0_fewestAsks_64, dX0_fewestAsks_65, fT_0_58, dX0_fewestAsks_68, dX0_fewestAsks_70, dX0_fewestAsks_71, dX0_fewestAsks_72, dX0_fewestAsks_74, dX0_fewestAsks_75, dX0_fewestAsks_76, fT_0_9, dX0_fewestAsks_79, dX0_fewestAsks_81, dX0_fewestAsks_82, dX0_fewestAsks_83, dX0_fewestAsks_84, dX0_fewestAsks_86, dX0_fewestAsks_87, fT_0_15, dX0_fewestAsks_90, dX0_fewestAsks_92, dX0_fewestAsks_93, dX0_fewestAsks_94, dX0_fewestAsks_96, dX0_fewestAsks_99, dX0_fewestAsks_102, dX0_fewestAsks_103, dX0_fewestAsks_105, dX0_fewestAsks_106, dX0_fewestAsks_107, dX0_fewestAsks_108, dX0_fewestAsks_111, dX0_fewestAsks_112, dX0_fewestAsks_113, dX0_fewestAsks_114, dX0_fewestAsks_116, dX0_fewestAsks_118, dX0_fewestAsks_120, dX0_fewestAsks_123, dX0_fewestAsks_124, dX0_fewestAsks_125, dX0_fewestAsks_127, dX0_fewestAsks_129, dX0_fewestAsks_132, dX0_fewestAsks_135, dX0_fewestAsks_138, dX0_fewestAsks_141, dX0_fewestAsks_143]
    simp only [li, liL, fb_orL, z1]
    have z2 := lN_z l1
    have z3 := lN_z l2
    refine ⟨fun z => loop 11 0 (fun w => z (z2.mpr w.1) (z3.mpr w.2)) (by omega) (by omega) (fun j h => by omega), fun z w => hP _ _ ⟨?_, m2, mL2, rfl, fr2, k2⟩⟩
    rw [if_pos ⟨z2.mp z, z3.mp w⟩]
  have loop : ∀ f i v8, c - i < f → i ≤ c → G 46 [some (.ref K), some (.ref S), some (.int (nI (fac np))), some (.long (lN (lwF (rL np (fac np)) (2 ^ Nat.min (fac np) 64 - 1) fi se i))), none, some (.long (lN (lwF (rH np (fac np)) (2 ^ (fac np - 64) - 1) fi se i))), none, some (.int (nI i)), v8] [] (sh, m2, mL2, mR, n) := by
    intro f
    induction f with
    | zero => intro i v8 h; omega
    | succ f ih =>
      intro i v8 hf hi
      have nx := ih (i + 1)
      have g1 : ∀ R s, lwF R s fi se (i + 1) = lwF R s fi se i &&& R (fi i) (se i) := fun _ _ => rfl
      rw [g1, g1] at nx
      have ee : m2 S 4 = nI c := (fr2 _ _ (by omega) (by omega)).trans e0
      refine hG.run [46, 102] 60 ?_
      simp [wp, stepI, ln, jmp, cmpI, Value.category, rd, tyF, va_rf, st1, st2, clr, isLg, CB, inx_0, inx_1, inx_2, inx_3, inx_4, inx_5, bI_0, bI_1, bI_ok, fin3, tyX0, entL, q0, q_low, q_high, t0, tyX6, q_first, q_second, dX0_fewestAsks_0, dX0_fewestAsks_1, dX0_fewestAsks_2, fT_0_22, dX0_fewestAsks_5, fT_0_28, dX0_fewestAsks_8, dX0_fewestAsks_9, dX0_fewestAsks_12, fT_0_40, dX0_fewestAsks_15, dX0_fewestAsks_16, dX0_fewestAsks_19, dX0_fewestAsks_20, dX0_fewestAsks_21, dX0_fewestAsks_23, dX0_fewestAsks_26, dX0_fewestAsks_29, dX0_fewestAsks_30, dX0_fewestAsks_31, dX0_fewestAsks_33, dX0_fewestAsks_34, dX0_fewestAsks_35, dX0_fewestAsks_38, dX0_fewestAsks_41, dX0_fewestAsks_43, dX0_fewestAsks_44, dX0_fewestAsks_46, dX0_fewestAsks_48, dX0_fewestAsks_49, fT_0_52, dX0_fewestAsks_52, dX0_fewestAsks_55, dX0_fewestAsks_56, fT_0_55, dX0_fewestAsks_59, dX0_fewestAsks_61, dX0_fewestAsks_62, dX0_fewestAsks_63, dX0_fewestAsks_64, dX0_fewestAsks_65, fT_0_58, dX0_fewestAsks_68, dX0_fewestAsks_70, dX0_fewestAsks_71, dX0_fewestAsks_72, dX0_fewestAsks_74, dX0_fewestAsks_75, dX0_fewestAsks_76, fT_0_9, dX0_fewestAsks_79, dX0_fewestAsks_81, dX0_fewestAsks_82, dX0_fewestAsks_83, dX0_fewestAsks_84, dX0_fewestAsks_86, dX0_fewestAsks_87, fT_0_15, dX0_fewestAsks_90, dX0_fewestAsks_92, dX0_fewestAsks_93, dX0_fewestAsks_94, dX0_fewestAsks_96, dX0_fewestAsks_99, dX0_fewestAsks_102, dX0_fewestAsks_103, dX0_fewestAsks_105, dX0_fewestAsks_106, dX0_fewestAsks_107, dX0_fewestAsks_108, dX0_fewestAsks_111, dX0_fewestAsks_112, dX0_fewestAsks_113, dX0_fewestAsks_114, dX0_fewestAsks_116, dX0_fewestAsks_118, dX0_fewestAsks_120, dX0_fewestAsks_123, dX0_fewestAsks_124, dX0_fewestAsks_125, dX0_fewestAsks_127, dX0_fewestAsks_129, dX0_fewestAsks_132, dX0_fewestAsks_135, dX0_fewestAsks_138, dX0_fewestAsks_141, dX0_fewestAsks_143]
      simp (disch := omega) only [li, nI_add, nI_clamp, nI_ltI, nI_leI, nI_eq, inx_iff, a31, nI_1shl', nI_shr', div_bit, tb1, tb0, fa_or, fa_and, nI_not, pk_sub, nI_dec, ee]
      refine ⟨fun z => ?_, fun z => ?_⟩
      · have e : i = c := by omega
        rw [e]
        exact last _ _
      · obtain ⟨b1, b2, b3, b4, b5, b6⟩ := hk i z
        obtain ⟨v1, v2, v3⟩ := hV i z
        have x1 : m2 (S + 7) i = nI (fi i) := (fr2 _ _ (by omega) (by omega)).trans b1
        have x2 : m2 (S + 8) i = nI (se i) := (fr2 _ _ (by omega) (by omega)).trans b2
        obtain ⟨r1, r2⟩ := k3 (fi i) (se i) v1 v2
        rw [Nat.mul_comm 5] at r1 r2
        have i40 : i < 40 := by omega
        simp (disch := omega) only [li, nI_add, nI_clamp, nI_ltI, nI_leI, nI_eq, inx_iff, a31, nI_1shl', nI_shr', div_bit, tb1, tb0, fa_or, fa_and, nI_not, pk_sub, nI_dec, x1, x2, nI_mul, r1, r2, fb_andL, i40, true_and]
        first
          | exact ⟨by omega, nx _ (by omega) (by omega)⟩
          | exact ⟨by omega, by omega, nx _ (by omega) (by omega)⟩
          | exact ⟨⟨by omega, by omega⟩, nx _ (by omega) (by omega)⟩
  refine hG.run [46] 60 ?_
  simp [wp, stepI, ln, jmp, cmpI, Value.category, rd, tyF, va_rf, st1, st2, clr, isLg, CB, inx_0, inx_1, inx_2, inx_3, inx_4, inx_5, bI_0, bI_1, bI_ok, fin3, tyX0, entL, q0, dX0_fewestAsks_0, dX0_fewestAsks_1, dX0_fewestAsks_2, fT_0_22, dX0_fewestAsks_5, fT_0_28, dX0_fewestAsks_8, dX0_fewestAsks_9, dX0_fewestAsks_12, fT_0_40, dX0_fewestAsks_15, dX0_fewestAsks_16, dX0_fewestAsks_19, dX0_fewestAsks_20, dX0_fewestAsks_21, dX0_fewestAsks_23, dX0_fewestAsks_26, dX0_fewestAsks_29, dX0_fewestAsks_30, dX0_fewestAsks_31, dX0_fewestAsks_33, dX0_fewestAsks_34, dX0_fewestAsks_35, dX0_fewestAsks_38, dX0_fewestAsks_41, dX0_fewestAsks_43, dX0_fewestAsks_44, dX0_fewestAsks_46, dX0_fewestAsks_48, dX0_fewestAsks_49, fT_0_52, dX0_fewestAsks_52, dX0_fewestAsks_55, dX0_fewestAsks_56, fT_0_55, dX0_fewestAsks_59, dX0_fewestAsks_61, dX0_fewestAsks_62, dX0_fewestAsks_63, dX0_fewestAsks_64, dX0_fewestAsks_65, fT_0_58, dX0_fewestAsks_68, dX0_fewestAsks_70, dX0_fewestAsks_71, dX0_fewestAsks_72, dX0_fewestAsks_74, dX0_fewestAsks_75, dX0_fewestAsks_76, fT_0_9, dX0_fewestAsks_79, dX0_fewestAsks_81, dX0_fewestAsks_82, dX0_fewestAsks_83, dX0_fewestAsks_84, dX0_fewestAsks_86, dX0_fewestAsks_87, fT_0_15, dX0_fewestAsks_90, dX0_fewestAsks_92, dX0_fewestAsks_93, dX0_fewestAsks_94, dX0_fewestAsks_96, dX0_fewestAsks_99, dX0_fewestAsks_102, dX0_fewestAsks_103, dX0_fewestAsks_105, dX0_fewestAsks_106, dX0_fewestAsks_107, dX0_fewestAsks_108, dX0_fewestAsks_111, dX0_fewestAsks_112, dX0_fewestAsks_113, dX0_fewestAsks_114, dX0_fewestAsks_116, dX0_fewestAsks_118, dX0_fewestAsks_120, dX0_fewestAsks_123, dX0_fewestAsks_124, dX0_fewestAsks_125, dX0_fewestAsks_127, dX0_fewestAsks_129, dX0_fewestAsks_132, dX0_fewestAsks_135, dX0_fewestAsks_138, dX0_fewestAsks_141, dX0_fewestAsks_143]
  exact loop (c + 1) 0 _ (by omega) (by omega)
