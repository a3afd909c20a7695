def isW (t : Nat → Nat) (n p w : Nat) : Bool := decide (lxK t n p = 1) && decide (lxWd t n p = w)
def isG (t : Nat → Nat) (n p s : Nat) : Bool := decide (lxK t n p = 3) && decide (t (lxBg t n p) = s)
theorem lxW_lt {t : Nat → Nat} {b : Nat} : ∀ k, (∀ j, j < k → lxL (t (b + j)) = true) → lxW t b k < 27 ^ k
  | 0, _ => by show 0 < 1; decide
  | k + 1, h => by
    have ih := lxW_lt (t := t) (b := b) k (fun j hj => h j (by omega))
    have := lxL_iff.mp (h k (by omega))
    rw [lxW_s, Nat.pow_succ]
    omega
theorem lxK_lt {t : Nat → Nat} {n p : Nat} : lxK t n p < 5 := by
  unfold lxK lxKb
  split
  · decide
  · split
    · split <;> decide
    · split
      · split <;> decide
      · split <;> decide
theorem lxK_1 {t : Nat → Nat} {n p : Nat} (h : lxK t n p = 1) : lxLn t n (lxBg t n p) ≤ 8 ∧ lxBg t n p ≠ n ∧ lxL (t (lxBg t n p)) = true := by
  unfold lxK lxKb at h
  split at h
  · cases h
  · rename_i h1
    split at h
    · rename_i h2
      split at h
      · cases h
      · rename_i h3; exact ⟨by omega, h1, h2⟩
    · split at h
      · split at h <;> cases h
      · split at h <;> cases h
theorem lxWd_lt {t : Nat → Nat} {n p : Nat} (h : lxK t n p = 1) : lxWd t n p < 2 ^ 63 := by
  have h1 := (lxK_1 h).1
  have h2 := lxW_lt (t := t) (b := lxBg t n p) (lxLn t n (lxBg t n p)) (fun j hj => by
    have := fa_first_no (fun k => !lxL (t (lxBg t n p + k))) (n - lxBg t n p) j hj
    simpa using this)
  have h3 : 27 ^ lxLn t n (lxBg t n p) ≤ 27 ^ 8 := Nat.pow_le_pow_right (by decide) h1
  unfold lxWd
  exact Nat.lt_of_lt_of_le h2 (Nat.le_trans h3 (by decide))
theorem lxK_2 {t : Nat → Nat} {n p : Nat} (h : lxK t n p = 2) : lxDn t n (lxBg t n p) ≤ 4 := by
  unfold lxK lxKb at h
  split at h
  · cases h
  · split at h
    · split at h <;> cases h
    · split at h
      · split at h
        · cases h
        · rename_i h3; omega
      · split at h <;> cases h
theorem lxN_lt {t : Nat → Nat} {b : Nat} : ∀ k, (∀ j, j < k → lxD (t (b + j)) = true) → lxN t b k < 10 ^ k
  | 0, _ => by show 0 < 1; decide
  | k + 1, h => by
    have ih := lxN_lt (t := t) (b := b) k (fun j hj => h j (by omega))
    have := lxD_iff.mp (h k (by omega))
    rw [lxN_s, Nat.pow_succ]
    omega
theorem lxNm_lt {t : Nat → Nat} {n p : Nat} (h : lxK t n p = 2) : lxNm t n p < 10000 := by
  have h1 := lxK_2 h
  have h2 := lxN_lt (t := t) (b := lxBg t n p) (lxDn t n (lxBg t n p)) (fun j hj => by
    have := fa_first_no (fun k => !lxD (t (lxBg t n p + k))) (n - lxBg t n p) j hj
    simpa using this)
  have h3 : 10 ^ lxDn t n (lxBg t n p) ≤ 10 ^ 4 := Nat.pow_le_pow_right (by decide) h1
  unfold lxNm
  exact Nat.lt_of_lt_of_le h2 (Nat.le_trans h3 (by decide))
theorem lxK_b {t : Nat → Nat} {n p : Nat} (hp : p ≤ n) (h : lxK t n p ≠ 0) : lxBg t n p < n := by
  have := lxBg_le (t := t) hp
  rcases Nat.lt_or_ge (lxBg t n p) n with y | y
  · exact y
  · refine absurd ?_ h
    unfold lxK lxKb
    rw [if_pos (by omega)]
set_option maxHeartbeats 4000000 in
set_option maxRecDepth 100000 in
theorem c12_isWord (l : Launch) (X : Cx) (d : Nat) (sh : Nat → Option Sh) (mI : Nat → Nat → Int32) (mL : Nat → Nat → Int64) (mR : Nat → Nat → Option Nat) (n : Nat) (hL : ML sh mR) (t : Nat → Nat) (N p : Nat) (hK : TokM mI mL t N p) (w : Nat) (hw : w < 2 ^ 63) : Cn l X yX12_isWord cX12_isWord 3 (some .boolean) d [.ref 129, .long (lN w)] (sh, mI, mL, mR, n) (fun r M' => M' = (sh, mI, mL, mR, n) ∧ r = some (.int (bI (isW t N p w)))) 0 0 := by
  refine Cn.run 12 false (by decide) rfl (by decide) (by simp [entA, Value.category]) ?_
  intro P G hP hG
  have q0 := hL.1
  obtain ⟨k1, k2, k3, k4, k5⟩ := hK
  have kl := lxK_lt (t := t) (n := N) (p := p)
  refine hG.run [] 30 ?_
  simp [wp, stepI, ln, jmp, cmpI, Value.category, rd, tyF, va_rf, st1, st2, clr, isLg, CB, inx_0, inx_1, inx_2, inx_3, inx_4, inx_5, bI_0, bI_1, bI_ok, fin3, tyX12, entL, q0, lg_cmp0, dX12_isWord_0, dX12_isWord_1, fT_12_160, dX12_isWord_4, dX12_isWord_5, dX12_isWord_8, dX12_isWord_9, fT_12_153, dX12_isWord_12, dX12_isWord_13, dX12_isWord_14, dX12_isWord_17, dX12_isWord_18, dX12_isWord_21, dX12_isWord_22]
  simp (disch := omega) only [li, nI_add, nI_clamp, nI_ltI, nI_leI, nI_eq, inx_iff, a31, nI_1shl', nI_shr', div_bit, tb1, tb0, fa_or, fa_and, nI_not, pk_sub, nI_dec, k3]
  refine ⟨fun z => hP _ _ ⟨rfl, by unfold isW; rw [decide_eq_false z]; rfl⟩, fun z => ?_⟩
  rw [k4 z, pk_lEQ (lxWd_lt z) hw]
  exact ⟨fun z2 => hP _ _ ⟨rfl, by unfold isW; rw [decide_eq_false z2, Bool.and_false]; rfl⟩, fun z2 => hP _ _ ⟨rfl, by unfold isW; rw [decide_eq_true z, decide_eq_true z2]; rfl⟩⟩
set_option maxHeartbeats 4000000 in
set_option maxRecDepth 100000 in
theorem c12_isSign (l : Launch) (X : Cx) (d : Nat) (sh : Nat → Option Sh) (mI : Nat → Nat → Int32) (mL : Nat → Nat → Int64) (mR : Nat → Nat → Option Nat) (n : Nat) (hL : ML sh mR) (t : Nat → Nat) (N p : Nat) (hT : TapM mI t N) (hK : TokM mI mL t N p) (hp : p ≤ N) (s : Nat) (hs : s < 128) : Cn l X yX12_isSign cX12_isSign 2 (some .boolean) d [.ref 129, .int (nI s)] (sh, mI, mL, mR, n) (fun r M' => M' = (sh, mI, mL, mR, n) ∧ r = some (.int (bI (isG t N p s)))) 0 0 := by
  refine Cn.run 12 false (by decide) rfl (by decide) (by simp [entA, Value.category]) ?_
  intro P G hP hG
  have q0 := hL.1
  have q_tape := hL.2 (2, 130, .int, 1000) (by decide)
  dsimp only at q_tape
  obtain ⟨k1, k2, k3, k4, k5⟩ := hK
  have kl := lxK_lt (t := t) (n := N) (p := p)
  have hN := hT.2.1
  have hb := lxBg_le (t := t) hp
  refine hG.run [] 30 ?_
  simp [wp, stepI, ln, jmp, cmpI, Value.category, rd, tyF, va_rf, st1, st2, clr, isLg, CB, inx_0, inx_1, inx_2, inx_3, inx_4, inx_5, bI_0, bI_1, bI_ok, fin3, tyX12, entL, q0, q_tape, dX12_isSign_0, dX12_isSign_1, fT_12_160, dX12_isSign_4, dX12_isSign_5, dX12_isSign_8, dX12_isSign_9, fT_12_7, dX12_isSign_12, dX12_isSign_13, fT_12_150, dX12_isSign_16, dX12_isSign_17, dX12_isSign_18, dX12_isSign_21, dX12_isSign_22, dX12_isSign_25, dX12_isSign_26]
  simp (disch := omega) only [li, nI_add, nI_clamp, nI_ltI, nI_leI, nI_eq, inx_iff, a31, nI_1shl', nI_shr', div_bit, tb1, tb0, fa_or, fa_and, nI_not, pk_sub, nI_dec, k3, k1]
  refine ⟨fun z => hP _ _ ⟨rfl, by unfold isG; rw [decide_eq_false z]; rfl⟩, fun z => ?_⟩
  have hbn := lxK_b hp (by rw [z]; decide)
  obtain ⟨w1, w2⟩ := hT.2.2 _ hbn
  simp (disch := omega) only [li, nI_add, nI_clamp, nI_ltI, nI_leI, nI_eq, inx_iff, a31, nI_1shl', nI_shr', div_bit, tb1, tb0, fa_or, fa_and, nI_not, pk_sub, nI_dec, w1]
  exact ⟨by omega, fun z2 => hP _ _ ⟨rfl, by unfold isG; rw [decide_eq_false z2, Bool.and_false]; rfl⟩, fun z2 => hP _ _ ⟨rfl, by unfold isG; rw [decide_eq_true z, decide_eq_true z2]; rfl⟩⟩
set_option maxHeartbeats 4000000 in
set_option maxRecDepth 100000 in
theorem c12_fails (l : Launch) (X : Cx) (d : Nat) (sh : Nat → Option Sh) (mI : Nat → Nat → Int32) (mL : Nat → Nat → Int64) (mR : Nat → Nat → Option Nat) (n : Nat) (hL : ML sh mR) (b : Nat) (hb : mI 129 5 = nI b) (k : Nat) : Cn l X yX12_fails cX12_fails 2 (some .boolean) d [.ref 129, .int (nI k)] (sh, mI, mL, mR, n) (fun r M' => r = some (.int 0) ∧ M' = (sh, up2 mI 129 9 (nI (k + 16 * b)), mL, mR, n)) 0 0 := by
  refine Cn.run 12 false (by decide) rfl (by decide) (by simp [entA, Value.category]) ?_
  intro P G hP hG
  have q0 := hL.1
  refine hG.run [] 30 ?_
  simp [wp, stepI, ln, jmp, cmpI, Value.category, rd, tyF, va_rf, st1, st2, clr, isLg, CB, inx_0, inx_1, inx_2, inx_3, inx_4, inx_5, bI_0, bI_1, bI_ok, fin3, tyX12, entL, q0, okv, wr, finF, clT, TX12, hb, dX12_fails_0, dX12_fails_1, dX12_fails_2, dX12_fails_4, dX12_fails_5, fT_12_150, dX12_fails_8, dX12_fails_9, dX12_fails_10, fT_12_171, dX12_fails_13, dX12_fails_14]
  simp (disch := omega) only [li, nI_add, nI_clamp, nI_ltI, nI_leI, nI_eq, inx_iff, a31, nI_1shl', nI_shr', div_bit, tb1, tb0, fa_or, fa_and, nI_not, pk_sub, nI_dec, nI_mul]
  exact hP _ _ ⟨rfl, rfl⟩
set_option maxHeartbeats 4000000 in
set_option maxRecDepth 100000 in
theorem c12_puts (l : Launch) (X : Cx) (d : Nat) (sh : Nat → Option Sh) (mI : Nat → Nat → Int32) (mL : Nat → Nat → Int64) (mR : Nat → Nat → Option Nat) (n : Nat) (hL : ML sh mR) (k : Nat) (hk : mI 129 23 = nI k) (hkl : k < 6000) (c : Int32) : Cn l X yX12_puts cX12_puts 2 none d [.ref 129, .int c] (sh, mI, mL, mR, n) (fun r M' => r = none ∧ M' = (sh, up2 (up2 mI 141 k c) 129 23 (nI (k + 1)), mL, mR, n)) 0 0 := by
  refine Cn.run 12 false (by decide) rfl (by decide) (by simp [entA, Value.category]) ?_
  intro P G hP hG
  have q0 := hL.1
  have q_codes := hL.2 (20, 141, .int, 6000) (by decide)
  dsimp only at q_codes
  refine hG.run [] 30 ?_
  simp [wp, stepI, ln, jmp, cmpI, Value.category, rd, tyF, va_rf, st1, st2, clr, isLg, CB, inx_0, inx_1, inx_2, inx_3, inx_4, inx_5, bI_0, bI_1, bI_ok, fin3, tyX12, entL, q0, q_codes, okv, wr, finF, clT, TX12, dX12_puts_0, dX12_puts_1, fT_12_44, dX12_puts_4, dX12_puts_5, fT_12_174, dX12_puts_8, dX12_puts_9, dX12_puts_10, dX12_puts_11, dX12_puts_12, dX12_puts_15, dX12_puts_16, dX12_puts_17, dX12_puts_20]
  simp (disch := omega) only [li, nI_add, nI_clamp, nI_ltI, nI_leI, nI_eq, inx_iff, a31, nI_1shl', nI_shr', div_bit, tb1, tb0, fa_or, fa_and, nI_not, pk_sub, nI_dec, hk, up2_eq, up2_ne]
  exact ⟨by omega, hP _ _ ⟨rfl, rfl⟩⟩
def fcW (w : Nat) : Nat := if w = 6562612 then 1 else if w = 394725 then 2 else if w = 8371260 then 3 else if w = 582341 then 4 else if w = 1170473 then 5 else 0
def fcN (t : Nat → Nat) (n p : Nat) : Nat := if lxK t n p = 1 then fcW (lxWd t n p) else 0
set_option maxHeartbeats 4000000 in
set_option maxRecDepth 100000 in
theorem c12_fact (l : Launch) (X : Cx) (d : Nat) (sh : Nat → Option Sh) (mI : Nat → Nat → Int32) (mL : Nat → Nat → Int64) (mR : Nat → Nat → Option Nat) (n : Nat) (hL : ML sh mR) (t : Nat → Nat) (N p : Nat) (hK : TokM mI mL t N p) : Cn l X yX12_fact cX12_fact 1 (some .int) d [.ref 129] (sh, mI, mL, mR, n) (fun r M' => M' = (sh, mI, mL, mR, n) ∧ r = some (.int (nI (fcN t N p)))) 0 0 := by
  refine Cn.run 12 false (by decide) rfl (by decide) (by simp [entA, Value.category]) ?_
  intro P G hP hG
  have q0 := hL.1
  obtain ⟨k1, k2, k3, k4, k5⟩ := hK
  have kl := lxK_lt (t := t) (n := N) (p := p)
  unfold fcN at hP
  refine hG.run [] 60 ?_
  simp [wp, stepI, ln, jmp, cmpI, Value.category, rd, tyF, va_rf, st1, st2, clr, isLg, CB, inx_0, inx_1, inx_2, inx_3, inx_4, inx_5, bI_0, bI_1, bI_ok, fin3, tyX12, entL, q0, lg_cmp0, dX12_fact_0, dX12_fact_1, fT_12_160, dX12_fact_4, dX12_fact_5, dX12_fact_8, dX12_fact_9, dX12_fact_10, dX12_fact_11, fT_12_153, dX12_fact_14, cL_12_177, dX12_fact_17, dX12_fact_18, dX12_fact_21, dX12_fact_22, dX12_fact_23, dX12_fact_24, dX12_fact_27, cL_12_179, dX12_fact_30, dX12_fact_31, dX12_fact_34, dX12_fact_35, dX12_fact_36, dX12_fact_37, dX12_fact_40, cL_12_181, dX12_fact_43, dX12_fact_44, dX12_fact_47, dX12_fact_48, dX12_fact_49, dX12_fact_50, dX12_fact_53, cL_12_183, dX12_fact_56, dX12_fact_57, dX12_fact_60, dX12_fact_61, dX12_fact_62, dX12_fact_63, dX12_fact_66, cL_12_185, dX12_fact_69, dX12_fact_70, dX12_fact_73, dX12_fact_74, dX12_fact_75, dX12_fact_76]
  simp (disch := omega) only [li, nI_add, nI_clamp, nI_ltI, nI_leI, nI_eq, inx_iff, a31, nI_1shl', nI_shr', div_bit, tb1, tb0, fa_or, fa_and, nI_not, pk_sub, nI_dec, k3, liL]
  refine ⟨fun z => ?_, fun z => hP _ _ ⟨rfl, by rw [if_neg z]⟩⟩
  rw [if_pos z] at hP
  have hw := lxWd_lt z
  rw [k4 z]
  generalize lxWd t N p = w at hw hP
  simp (disch := omega) only [pk_lEQ]
  unfold fcW at hP
  refine ⟨fun h1 => ?_, fun h1 => hP _ _ ⟨rfl, by rw [if_pos h1]⟩⟩
  rw [if_neg h1] at hP
  refine ⟨fun h1 => ?_, fun h1 => hP _ _ ⟨rfl, by rw [if_pos h1]⟩⟩
  rw [if_neg h1] at hP
  refine ⟨fun h1 => ?_, fun h1 => hP _ _ ⟨rfl, by rw [if_pos h1]⟩⟩
  rw [if_neg h1] at hP
  refine ⟨fun h1 => ?_, fun h1 => hP _ _ ⟨rfl, by rw [if_pos h1]⟩⟩
  rw [if_neg h1] at hP
  refine ⟨fun h1 => ?_, fun h1 => hP _ _ ⟨rfl, by rw [if_pos h1]⟩⟩
  rw [if_neg h1] at hP
  exact hP _ _ ⟨rfl, rfl⟩
def kpL : List Nat := [8928318, 394725, 1171592, 13550, 12532058, 13903, 243059, 382984, 459791, 8740238, 8868856, 14092, 117696460, 9759162, 10631, 1111, 423]
def kpN (t : Nat → Nat) (n p : Nat) : Bool := !decide (lxK t n p = 1) || decide (lxWd t n p ∈ kpL)
set_option maxHeartbeats 4000000 in
set_option maxRecDepth 100000 in
theorem c12_isKept (l : Launch) (X : Cx) (d : Nat) (sh : Nat → Option Sh) (mI : Nat → Nat → Int32) (mL : Nat → Nat → Int64) (mR : Nat → Nat → Option Nat) (n : Nat) (hL : ML sh mR) (t : Nat → Nat) (N p : Nat) (hK : TokM mI mL t N p) : Cn l X yX12_isKept cX12_isKept 1 (some .boolean) d [.ref 129] (sh, mI, mL, mR, n) (fun r M' => M' = (sh, mI, mL, mR, n) ∧ r = some (.int (bI (kpN t N p)))) 0 0 := by
  refine Cn.run 12 false (by decide) rfl (by decide) (by simp [entA, Value.category]) ?_
  intro P G hP hG
  have q0 := hL.1
  obtain ⟨k1, k2, k3, k4, k5⟩ := hK
  have kl := lxK_lt (t := t) (n := N) (p := p)
  unfold kpN at hP
  refine hG.run [197] 100 ?_
  simp [wp, stepI, ln, jmp, cmpI, Value.category, rd, tyF, va_rf, st1, st2, clr, isLg, CB, inx_0, inx_1, inx_2, inx_3, inx_4, inx_5, bI_0, bI_1, bI_ok, fin3, tyX12, entL, q0, lg_cmp0, dX12_isKept_0, dX12_isKept_1, fT_12_160, dX12_isKept_4, dX12_isKept_5, dX12_isKept_8, dX12_isKept_9, dX12_isKept_10, dX12_isKept_11, fT_12_153, dX12_isKept_14, cL_12_224, dX12_isKept_17, dX12_isKept_18, dX12_isKept_21, dX12_isKept_22, dX12_isKept_25, cL_12_179, dX12_isKept_28, dX12_isKept_29, dX12_isKept_32, dX12_isKept_33, dX12_isKept_36, cL_12_226, dX12_isKept_39, dX12_isKept_40, dX12_isKept_43, dX12_isKept_44, dX12_isKept_47, cL_12_228, dX12_isKept_50, dX12_isKept_51, dX12_isKept_54, dX12_isKept_55, dX12_isKept_58, cL_12_230, dX12_isKept_61, dX12_isKept_62, dX12_isKept_65, dX12_isKept_66, dX12_isKept_69, cL_12_232, dX12_isKept_72, dX12_isKept_73, dX12_isKept_76, dX12_isKept_77, dX12_isKept_80, cL_12_234, dX12_isKept_83, dX12_isKept_84, dX12_isKept_87, dX12_isKept_88, dX12_isKept_91, cL_12_236, dX12_isKept_94, dX12_isKept_95, dX12_isKept_98, dX12_isKept_99, dX12_isKept_102, cL_12_238, dX12_isKept_105, dX12_isKept_106, dX12_isKept_109, dX12_isKept_110, dX12_isKept_113, cL_12_240, dX12_isKept_116, dX12_isKept_117, dX12_isKept_120, dX12_isKept_121, dX12_isKept_124, cL_12_242, dX12_isKept_127, dX12_isKept_128, dX12_isKept_131, dX12_isKept_132, dX12_isKept_135, cL_12_244, dX12_isKept_138, dX12_isKept_139, dX12_isKept_142, dX12_isKept_143, dX12_isKept_146, cL_12_246, dX12_isKept_149, dX12_isKept_150, dX12_isKept_153, dX12_isKept_154, dX12_isKept_157, cL_12_248, dX12_isKept_160, dX12_isKept_161, dX12_isKept_164, dX12_isKept_165, dX12_isKept_168, cL_12_191, dX12_isKept_171, dX12_isKept_172, dX12_isKept_175, dX12_isKept_176, dX12_isKept_179, cL_12_211, dX12_isKept_182, dX12_isKept_183, dX12_isKept_186, dX12_isKept_187, dX12_isKept_190, cL_12_213, dX12_isKept_193, dX12_isKept_194, dX12_isKept_197, dX12_isKept_198, dX12_isKept_201, dX12_isKept_202]
  simp (disch := omega) only [li, nI_add, nI_clamp, nI_ltI, nI_leI, nI_eq, inx_iff, a31, nI_1shl', nI_shr', div_bit, tb1, tb0, fa_or, fa_and, nI_not, pk_sub, nI_dec, k3, liL]
  refine ⟨fun z => ?_, fun z => hP _ _ ⟨rfl, by rw [decide_eq_false z]; rfl⟩⟩
  rw [decide_eq_true z] at hP
  have hw := lxWd_lt z
  rw [k4 z]
  generalize lxWd t N p = w at hw hP
  simp (disch := omega) only [pk_lEQ]
  have yes : w ∈ kpL → G 197 [some (.ref 129)] [] (sh, mI, mL, mR, n) := fun h => by
    refine hG.run [] 30 ?_
    simp [wp, stepI, ln, jmp, cmpI, Value.category, rd, tyF, va_rf, st1, st2, clr, isLg, CB, inx_0, inx_1, inx_2, inx_3, inx_4, inx_5, bI_0, bI_1, bI_ok, fin3, tyX12, entL, q0, dX12_isKept_0, dX12_isKept_1, fT_12_160, dX12_isKept_4, dX12_isKept_5, dX12_isKept_8, dX12_isKept_9, dX12_isKept_10, dX12_isKept_11, fT_12_153, dX12_isKept_14, cL_12_224, dX12_isKept_17, dX12_isKept_18, dX12_isKept_21, dX12_isKept_22, dX12_isKept_25, cL_12_179, dX12_isKept_28, dX12_isKept_29, dX12_isKept_32, dX12_isKept_33, dX12_isKept_36, cL_12_226, dX12_isKept_39, dX12_isKept_40, dX12_isKept_43, dX12_isKept_44, dX12_isKept_47, cL_12_228, dX12_isKept_50, dX12_isKept_51, dX12_isKept_54, dX12_isKept_55, dX12_isKept_58, cL_12_230, dX12_isKept_61, dX12_isKept_62, dX12_isKept_65, dX12_isKept_66, dX12_isKept_69, cL_12_232, dX12_isKept_72, dX12_isKept_73, dX12_isKept_76, dX12_isKept_77, dX12_isKept_80, cL_12_234, dX12_isKept_83, dX12_isKept_84, dX12_isKept_87, dX12_isKept_88, dX12_isKept_91, cL_12_236, dX12_isKept_94, dX12_isKept_95, dX12_isKept_98, dX12_isKept_99, dX12_isKept_102, cL_12_238, dX12_isKept_105, dX12_isKept_106, dX12_isKept_109, dX12_isKept_110, dX12_isKept_113, cL_12_240, dX12_isKept_116, dX12_isKept_117, dX12_isKept_120, dX12_isKept_121, dX12_isKept_124, cL_12_242, dX12_isKept_127, dX12_isKept_128, dX12_isKept_131, dX12_isKept_132, dX12_isKept_135, cL_12_244, dX12_isKept_138, dX12_isKept_139, dX12_isKept_142, dX12_isKept_143, dX12_isKept_146, cL_12_246, dX12_isKept_149, dX12_isKept_150, dX12_isKept_153, dX12_isKept_154, dX12_isKept_157, cL_12_248, dX12_isKept_160, dX12_isKept_161, dX12_isKept_164, dX12_isKept_165, dX12_isKept_168, cL_12_191, dX12_isKept_171, dX12_isKept_172, dX12_isKept_175, dX12_isKept_176, dX12_isKept_179, cL_12_211, dX12_isKept_182, dX12_isKept_183, dX12_isKept_186, dX12_isKept_187, dX12_isKept_190, cL_12_213, dX12_isKept_193, dX12_isKept_194, dX12_isKept_197, dX12_isKept_198, dX12_isKept_201, dX12_isKept_202]
    exact hP _ _ ⟨rfl, by rw [decide_eq_true h]; rfl⟩
  have no : w ∉ kpL → P (some (.int (nI 0))) (sh, mI, mL, mR, n) := fun h => hP _ _ ⟨rfl, by rw [decide_eq_false h]; rfl⟩
  repeat refine ⟨fun h => yes (by rw [h]; decide), fun _ => ?_⟩
  exact ⟨fun _ => no (fun h => by simp [kpL] at h; omega), fun h => yes (by rw [h]; decide)⟩
/-- the first of that name -/
def pnm (np : Nat) (nm : Nat → Nat) (w : Nat) : Nat := fa_first (fun k => decide (nm k = w)) np
def pnI (np : Nat) (nm : Nat → Nat) (w : Nat) : Int32 := if pnm np nm w < np then nI (pnm np nm w) else -nI 1
set_option maxHeartbeats 4000000 in
set_option maxRecDepth 100000 in
theorem c12_pupilNamed (l : Launch) (X : Cx) (d : Nat) (sh : Nat → Option Sh) (mI : Nat → Nat → Int32) (mL : Nat → Nat → Int64) (mR : Nat → Nat → Option Nat) (n : Nat) (hL : ML sh mR) (np : Nat) (nm : Nat → Nat) (h1 : mI 131 1 = nI np) (h2 : np ≤ 10) (h3 : ∀ k, k < np → mL 134 k = lN (nm k) ∧ nm k < 2 ^ 63) (w : Nat) (hw : mL 129 7 = lN w) (hw2 : w < 2 ^ 63) : Cn l X yX12_pupilNamed cX12_pupilNamed 2 (some .int) d [.ref 129] (sh, mI, mL, mR, n) (fun r M' => M' = (sh, mI, mL, mR, n) ∧ r = some (.int (pnI np nm w))) 0 0 := by
  refine Cn.run 12 false (by decide) rfl (by decide) (by simp [entA, Value.category]) ?_
  intro P G hP hG
  have q0 := hL.1
  have q_pupils := hL.2 (10, 131, .int, 6) (by decide)
  dsimp only at q_pupils
  have q_names := hL.2 (13, 134, .long, 10) (by decide)
  dsimp only at q_names
  have fle := fa_first_le (fun k => decide (nm k = w)) np
  have loop : ∀ f i, np - i < f → i ≤ pnm np nm w → G 2 [some (.ref 129), some (.int (nI i))] [] (sh, mI, mL, mR, n) := by
    intro f
    induction f with
    | zero => intro i h h4; unfold pnm at h4; omega
    | succ f ih =>
      intro i hf hi
      have hi' : i ≤ np := by unfold pnm at hi; omega
      refine hG.run [2] 40 ?_
      simp [wp, stepI, ln, jmp, cmpI, Value.category, rd, tyF, va_rf, st1, st2, clr, isLg, CB, inx_0, inx_1, inx_2, inx_3, inx_4, inx_5, bI_0, bI_1, bI_ok, fin3, tyX12, entL, q0, q_pupils, q_names, lg_cmp0, dX12_pupilNamed_0, dX12_pupilNamed_1, dX12_pupilNamed_2, dX12_pupilNamed_3, dX12_pupilNamed_4, fT_12_13, dX12_pupilNamed_7, dX12_pupilNamed_8, dX12_pupilNamed_9, dX12_pupilNamed_12, dX12_pupilNamed_13, fT_12_22, dX12_pupilNamed_16, dX12_pupilNamed_17, dX12_pupilNamed_18, dX12_pupilNamed_19, fT_12_153, dX12_pupilNamed_22, dX12_pupilNamed_23, dX12_pupilNamed_26, dX12_pupilNamed_27, dX12_pupilNamed_28, dX12_pupilNamed_31, dX12_pupilNamed_34, dX12_pupilNamed_35]
      simp (disch := omega) only [li, nI_add, nI_clamp, nI_ltI, nI_leI, nI_eq, inx_iff, a31, nI_1shl', nI_shr', div_bit, tb1, tb0, fa_or, fa_and, nI_not, pk_sub, nI_dec, h1]
      refine ⟨fun z => hP _ _ ⟨rfl, ?_⟩, fun z => ⟨by omega, ?_⟩⟩
      · unfold pnI; rw [if_neg (by omega)]
      · obtain ⟨a1, a2⟩ := h3 i z
        rw [hw, a1, pk_lEQ a2 hw2]
        refine ⟨fun y => ih (i + 1) (by omega) ?_, fun y => hP _ _ ⟨rfl, ?_⟩⟩
        · rcases Nat.lt_or_ge i (pnm np nm w) with x | x
          · omega
          · have e : fa_first (fun k => decide (nm k = w)) np = i := by unfold pnm at x hi; omega
            have := fa_first_yes (fun k => decide (nm k = w)) np (by omega)
            rw [e] at this
            exact absurd (of_decide_eq_true this) y
        · have e : pnm np nm w = i := lx_first hi' (fun j hj => fa_first_no (fun k => decide (nm k = w)) np j (by unfold pnm at hi; omega)) (fun _ => decide_eq_true y)
          unfold pnI
          rw [e, if_pos z]
  refine hG.run [2] 40 ?_
  simp [wp, stepI, ln, jmp, cmpI, Value.category, rd, tyF, va_rf, st1, st2, clr, isLg, CB, inx_0, inx_1, inx_2, inx_3, inx_4, inx_5, bI_0, bI_1, bI_ok, fin3, tyX12, entL, q0, dX12_pupilNamed_0, dX12_pupilNamed_1, dX12_pupilNamed_2, dX12_pupilNamed_3, dX12_pupilNamed_4, fT_12_13, dX12_pupilNamed_7, dX12_pupilNamed_8, dX12_pupilNamed_9, dX12_pupilNamed_12, dX12_pupilNamed_13, fT_12_22, dX12_pupilNamed_16, dX12_pupilNamed_17, dX12_pupilNamed_18, dX12_pupilNamed_19, fT_12_153, dX12_pupilNamed_22, dX12_pupilNamed_23, dX12_pupilNamed_26, dX12_pupilNamed_27, dX12_pupilNamed_28, dX12_pupilNamed_31, dX12_pupilNamed_34, dX12_pupilNamed_35]
  exact loop (np + 1) 0 (by omega) (Nat.zero_le _)
/-- faults -/
abbrev PR : Type := (Nat × Nat) ⊕ (Nat × (Nat → Nat → Nat))
def bf (t : Nat → Nat) (n p : Nat) (o : Option Nat) (f : PR) : PR := match o with | some k => .inl (k, lxBg t n p) | none => f
def nuF (t : Nat → Nat) (n p hi : Nat) : Option Nat := if lxK t n p = 2 then (if lxNm t n p ≤ hi then none else some 4) else some 1
def woF (t : Nat → Nat) (n p w : Nat) : Option Nat := if isW t n p w then none else some 1
def sgF (t : Nat → Nat) (n p s : Nat) : Option Nat := if isG t n p s then none else some 1
def nF : List Nat := [4, 5, 6, 8, 38]
theorem Eqf.fm {S F F2 : List Nat} {f g : Nat → Nat → Int32} (h : Eqf S F f g) (hf : ∀ a ∈ F, a ∈ F2) : Eqf S F2 f g := fun a k ha hk => h a k ha (fun z => hk ⟨z.1, hf _ z.2⟩)
set_option maxHeartbeats 4000000 in
set_option maxRecDepth 100000 in
theorem c12_needsNumber (l : Launch) (X : Cx) (d : Nat) (sh : Nat → Option Sh) (mI : Nat → Nat → Int32) (mL : Nat → Nat → Int64) (mR : Nat → Nat → Option Nat) (n : Nat) (hL : ML sh mR) (t : Nat → Nat) (N p : Nat) (hT : TapM mI t N) (hK : TokM mI mL t N p) (hp : p ≤ N) (hi : Nat) (hhi : hi ≤ 9999) (hd : 2 ≤ d) : Cn l X yX12_needsNumber cX12_needsNumber 3 (some .boolean) d [.ref 129, .int (nI 0), .int (nI hi)] (sh, mI, mL, mR, n) (fun r M' => (nuF t N p hi = none ∧ lxK t N p = 2 ∧ lxNm t N p ≤ hi ∧ r = some (.int 1) ∧ ∃ mI' mL', M' = (sh, mI', mL', mR, n) ∧ Eqf [] nF mI mI' ∧ EqL [129] mL mL' ∧ mI' 129 38 = nI (lxNm t N p) ∧ TokM mI' mL' t N (lxE t N p)) ∨ ∃ k, nuF t N p hi = some k ∧ r = some (.int 0) ∧ M' = (sh, up2 mI 129 9 (nI (k + 16 * lxBg t N p)), mL, mR, n)) 0 0 := by
  refine Cn.run 12 false (by decide) rfl (by decide) (by simp [entA, Value.category]) ?_
  intro P G hP hG
  have q0 := hL.1
  have hK0 := hK
  obtain ⟨k1, k2, k3, k4, k5⟩ := hK
  have kl := lxK_lt (t := t) (n := N) (p := p)
  have hE := lxE_le (t := t) hp
  refine hG.run [] 40 ?_
  simp [wp, stepI, ln, jmp, cmpI, Value.category, rd, tyF, va_rf, st1, st2, clr, isLg, CB, inx_0, inx_1, inx_2, inx_3, inx_4, inx_5, bI_0, bI_1, bI_ok, fin3, tyX12, entL, q0, dX12_needsNumber_0, dX12_needsNumber_1, fT_12_160, dX12_needsNumber_4, dX12_needsNumber_5, dX12_needsNumber_8, dX12_needsNumber_9, dX12_needsNumber_10, dX12_needsNumber_13, dX12_needsNumber_14, dX12_needsNumber_15, fT_12_157, dX12_needsNumber_18, dX12_needsNumber_19, dX12_needsNumber_20, dX12_needsNumber_23, dX12_needsNumber_26, dX12_needsNumber_27, dX12_needsNumber_28, dX12_needsNumber_31, dX12_needsNumber_32, dX12_needsNumber_33, dX12_needsNumber_34, dX12_needsNumber_37, fT_12_254, dX12_needsNumber_40, dX12_needsNumber_41, dX12_needsNumber_44, dX12_needsNumber_45]
  simp (disch := omega) only [li, nI_add, nI_clamp, nI_ltI, nI_leI, nI_eq, inx_iff, a31, nI_1shl', nI_shr', div_bit, tb1, tb0, fa_or, fa_and, nI_not, pk_sub, nI_dec, k3]
  refine ⟨fun z => ?_, fun z => ?_⟩
  · have k5' := k5 z
    have nl := lxNm_lt z
    rw [k5']
    refine hG.callS dX12_needsNumber_20 ms_12_250 [.int (nI (lxNm t N p)), .int (nI 0), .int (nI hi)] [] (c12_within l X (d - 1) _ (nI (lxNm t N p)) (nI 0) (nI hi)) (by omega) rfl (by decide) (by simp [Value.category]) rfl ?_
    rintro r M' ⟨rfl, rfl⟩
    have ew : wth (nI (lxNm t N p)) (nI 0) (nI hi) = decide (lxNm t N p ≤ hi) := by
      unfold wth
      simp (disch := omega) only [li, nI_add, nI_clamp, nI_ltI, nI_leI, nI_eq, inx_iff, a31, nI_1shl', nI_shr', div_bit, tb1, tb0, fa_or, fa_and, nI_not, pk_sub, nI_dec]
      congr 1
      rw [eq_iff_iff]
      omega
    rw [ew]
    refine hG.run [] 40 ?_
    simp [wp, stepI, ln, jmp, cmpI, Value.category, rd, tyF, va_rf, st1, st2, clr, isLg, CB, inx_0, inx_1, inx_2, inx_3, inx_4, inx_5, bI_0, bI_1, bI_ok, fin3, tyX12, entL, q0, okv, wr, finF, clT, TX12, dX12_needsNumber_0, dX12_needsNumber_1, fT_12_160, dX12_needsNumber_4, dX12_needsNumber_5, dX12_needsNumber_8, dX12_needsNumber_9, dX12_needsNumber_10, dX12_needsNumber_13, dX12_needsNumber_14, dX12_needsNumber_15, fT_12_157, dX12_needsNumber_18, dX12_needsNumber_19, dX12_needsNumber_20, dX12_needsNumber_23, dX12_needsNumber_26, dX12_needsNumber_27, dX12_needsNumber_28, dX12_needsNumber_31, dX12_needsNumber_32, dX12_needsNumber_33, dX12_needsNumber_34, dX12_needsNumber_37, fT_12_254, dX12_needsNumber_40, dX12_needsNumber_41, dX12_needsNumber_44, dX12_needsNumber_45]
    simp (disch := omega) only [li, nI_add, nI_clamp, nI_ltI, nI_leI, nI_eq, inx_iff, a31, nI_1shl', nI_shr', div_bit, tb1, tb0, fa_or, fa_and, nI_not, pk_sub, nI_dec, k5']
    refine ⟨fun h => ?_, fun h => ?_⟩
    · have j1 : Eqf [] nF mI (up2 mI 129 38 (nI (lxNm t N p))) := Eqf.rf.upf (by decide)
      have j2 : up2 mI 129 38 (nI (lxNm t N p)) 129 4 = nI (lxE t N p) := by simp (disch := decide) only [up2_eq, up2_ne]; exact k2
      have j3 : up2 mI 129 38 (nI (lxNm t N p)) 129 38 = nI (lxNm t N p) := up2_eq _ _ _ _
      generalize up2 mI 129 38 (nI (lxNm t N p)) = mI1 at j1 j2 j3 ⊢
      refine hG.callV dX12_needsNumber_41 mv_12_208 [] [] (c12_nextToken l X (d - 1) sh mI1 mL mR n hL t N (hT.eqf j1 (by decide) (by decide) (by decide)) (lxE t N p) hE.2 j2 (by omega)) ⟨_, rfl, rfl⟩ q0 (by omega) rfl (by decide) (by simp [Value.category]) rfl ?_
      rintro r M' ⟨rfl, mI2, mL2, rfl, y1, y2, y3⟩
      refine hG.run [] 40 ?_
      simp [wp, stepI, ln, jmp, cmpI, Value.category, rd, tyF, va_rf, st1, st2, clr, isLg, CB, inx_0, inx_1, inx_2, inx_3, inx_4, inx_5, bI_0, bI_1, bI_ok, fin3, tyX12, entL, q0, dX12_needsNumber_0, dX12_needsNumber_1, fT_12_160, dX12_needsNumber_4, dX12_needsNumber_5, dX12_needsNumber_8, dX12_needsNumber_9, dX12_needsNumber_10, dX12_needsNumber_13, dX12_needsNumber_14, dX12_needsNumber_15, fT_12_157, dX12_needsNumber_18, dX12_needsNumber_19, dX12_needsNumber_20, dX12_needsNumber_23, dX12_needsNumber_26, dX12_needsNumber_27, dX12_needsNumber_28, dX12_needsNumber_31, dX12_needsNumber_32, dX12_needsNumber_33, dX12_needsNumber_34, dX12_needsNumber_37, fT_12_254, dX12_needsNumber_40, dX12_needsNumber_41, dX12_needsNumber_44, dX12_needsNumber_45]
      refine hP _ _ (Or.inl ⟨by unfold nuF; rw [if_pos z, if_pos h], z, h, rfl, mI2, mL2, rfl, j1.tr (y1.fm (by decide)), y2, (y1 _ _ (by decide) (fun w => absurd w.2 (by decide))).trans j3, y3⟩)
    · refine hG.callV dX12_needsNumber_28 mv_12_201 [.int (nI 4)] [] (c12_fails l X (d - 1) sh mI mL mR n hL _ k1 4) ⟨_, rfl, rfl⟩ q0 (by omega) rfl (by decide) (by simp [Value.category]) rfl ?_
      rintro r M' ⟨rfl, rfl⟩
      refine hG.run [] 40 ?_
      simp [wp, stepI, ln, jmp, cmpI, Value.category, rd, tyF, va_rf, st1, st2, clr, isLg, CB, inx_0, inx_1, inx_2, inx_3, inx_4, inx_5, bI_0, bI_1, bI_ok, fin3, tyX12, entL, q0, dX12_needsNumber_0, dX12_needsNumber_1, fT_12_160, dX12_needsNumber_4, dX12_needsNumber_5, dX12_needsNumber_8, dX12_needsNumber_9, dX12_needsNumber_10, dX12_needsNumber_13, dX12_needsNumber_14, dX12_needsNumber_15, fT_12_157, dX12_needsNumber_18, dX12_needsNumber_19, dX12_needsNumber_20, dX12_needsNumber_23, dX12_needsNumber_26, dX12_needsNumber_27, dX12_needsNumber_28, dX12_needsNumber_31, dX12_needsNumber_32, dX12_needsNumber_33, dX12_needsNumber_34, dX12_needsNumber_37, fT_12_254, dX12_needsNumber_40, dX12_needsNumber_41, dX12_needsNumber_44, dX12_needsNumber_45]
      exact hP _ _ (Or.inr ⟨4, by unfold nuF; rw [if_pos z, if_neg (by omega)], rfl, rfl⟩)
  · refine hG.callV dX12_needsNumber_10 mv_12_201 [.int (nI 1)] [] (c12_fails l X (d - 1) sh mI mL mR n hL _ k1 1) ⟨_, rfl, rfl⟩ q0 (by omega) rfl (by decide) (by simp [Value.category]) rfl ?_
    rintro r M' ⟨rfl, rfl⟩
    refine hG.run [] 40 ?_
    simp [wp, stepI, ln, jmp, cmpI, Value.category, rd, tyF, va_rf, st1, st2, clr, isLg, CB, inx_0, inx_1, inx_2, inx_3, inx_4, inx_5, bI_0, bI_1, bI_ok, fin3, tyX12, entL, q0, dX12_needsNumber_0, dX12_needsNumber_1, fT_12_160, dX12_needsNumber_4, dX12_needsNumber_5, dX12_needsNumber_8, dX12_needsNumber_9, dX12_needsNumber_10, dX12_needsNumber_13, dX12_needsNumber_14, dX12_needsNumber_15, fT_12_157, dX12_needsNumber_18, dX12_needsNumber_19, dX12_needsNumber_20, dX12_needsNumber_23, dX12_needsNumber_26, dX12_needsNumber_27, dX12_needsNumber_28, dX12_needsNumber_31, dX12_needsNumber_32, dX12_needsNumber_33, dX12_needsNumber_34, dX12_needsNumber_37, fT_12_254, dX12_needsNumber_40, dX12_needsNumber_41, dX12_needsNumber_44, dX12_needsNumber_45]
    exact hP _ _ (Or.inr ⟨1, by unfold nuF; rw [if_neg z], rfl, rfl⟩)
set_option maxHeartbeats 4000000 in
set_option maxRecDepth 100000 in
theorem c12_needsWord (l : Launch) (X : Cx) (d : Nat) (sh : Nat → Option Sh) (mI : Nat → Nat → Int32) (mL : Nat → Nat → Int64) (mR : Nat → Nat → Option Nat) (n : Nat) (hL : ML sh mR) (t : Nat → Nat) (N p : Nat) (hT : TapM mI t N) (hK : TokM mI mL t N p) (hp : p ≤ N) (w : Nat) (hw : w < 2 ^ 63) (hd : 2 ≤ d) : Cn l X yX12_needsWord cX12_needsWord 3 (some .boolean) d [.ref 129, .long (lN w)] (sh, mI, mL, mR, n) (fun r M' => (woF t N p w = none ∧ r = some (.int 1) ∧ ∃ mI' mL', M' = (sh, mI', mL', mR, n) ∧ Eqf [] nF mI mI' ∧ EqL [129] mL mL' ∧ TokM mI' mL' t N (lxE t N p)) ∨ ∃ k, woF t N p w = some k ∧ r = some (.int 0) ∧ M' = (sh, up2 mI 129 9 (nI (k + 16 * lxBg t N p)), mL, mR, n)) 0 0 := by
  refine Cn.run 12 false (by decide) rfl (by decide) (by simp [entA, Value.category]) ?_
  intro P G hP hG
  have q0 := hL.1
  have hE := lxE_le (t := t) hp
  refine hG.run [] 40 ?_
  simp [wp, stepI, ln, jmp, cmpI, Value.category, rd, tyF, va_rf, st1, st2, clr, isLg, CB, inx_0, inx_1, inx_2, inx_3, inx_4, inx_5, bI_0, bI_1, bI_ok, fin3, tyX12, entL, q0, dX12_needsWord_0, dX12_needsWord_1, dX12_needsWord_2, dX12_needsWord_5, dX12_needsWord_8, dX12_needsWord_9, dX12_needsWord_10, dX12_needsWord_13, dX12_needsWord_14, dX12_needsWord_15, dX12_needsWord_18, dX12_needsWord_19]
  refine hG.callV dX12_needsWord_2 mv_12_193 [.long (lN w)] [] (c12_isWord l X (d - 1) sh mI mL mR n hL t N p hK w hw) ⟨_, rfl, rfl⟩ q0 (by omega) rfl (by decide) (by simp [Value.category]) rfl ?_
  rintro r M' ⟨rfl, rfl⟩
  refine hG.run [] 40 ?_
  simp [wp, stepI, ln, jmp, cmpI, Value.category, rd, tyF, va_rf, st1, st2, clr, isLg, CB, inx_0, inx_1, inx_2, inx_3, inx_4, inx_5, bI_0, bI_1, bI_ok, fin3, tyX12, entL, q0, dX12_needsWord_0, dX12_needsWord_1, dX12_needsWord_2, dX12_needsWord_5, dX12_needsWord_8, dX12_needsWord_9, dX12_needsWord_10, dX12_needsWord_13, dX12_needsWord_14, dX12_needsWord_15, dX12_needsWord_18, dX12_needsWord_19]
  simp (disch := omega) only [li, nI_add, nI_clamp, nI_ltI, nI_leI, nI_eq, inx_iff, a31, nI_1shl', nI_shr', div_bit, tb1, tb0, fa_or, fa_and, nI_not, pk_sub, nI_dec]
  refine ⟨fun h => ?_, fun h => ?_⟩
  · refine hG.callV dX12_needsWord_15 mv_12_208 [] [] (c12_nextToken l X (d - 1) sh mI mL mR n hL t N hT (lxE t N p) hE.2 hK.2.1 (by omega)) ⟨_, rfl, rfl⟩ q0 (by omega) rfl (by decide) (by simp [Value.category]) rfl ?_
    rintro r M' ⟨rfl, mI2, mL2, rfl, y1, y2, y3⟩
    refine hG.run [] 40 ?_
    simp [wp, stepI, ln, jmp, cmpI, Value.category, rd, tyF, va_rf, st1, st2, clr, isLg, CB, inx_0, inx_1, inx_2, inx_3, inx_4, inx_5, bI_0, bI_1, bI_ok, fin3, tyX12, entL, q0, dX12_needsWord_0, dX12_needsWord_1, dX12_needsWord_2, dX12_needsWord_5, dX12_needsWord_8, dX12_needsWord_9, dX12_needsWord_10, dX12_needsWord_13, dX12_needsWord_14, dX12_needsWord_15, dX12_needsWord_18, dX12_needsWord_19]
    exact hP _ _ (Or.inl ⟨by unfold woF; rw [h]; rfl, rfl, mI2, mL2, rfl, y1.fm (by decide), y2, y3⟩)
  · refine hG.callV dX12_needsWord_10 mv_12_201 [.int (nI 1)] [] (c12_fails l X (d - 1) sh mI mL mR n hL _ hK.1 1) ⟨_, rfl, rfl⟩ q0 (by omega) rfl (by decide) (by simp [Value.category]) rfl ?_
    rintro r M' ⟨rfl, rfl⟩
    refine hG.run [] 40 ?_
    simp [wp, stepI, ln, jmp, cmpI, Value.category, rd, tyF, va_rf, st1, st2, clr, isLg, CB, inx_0, inx_1, inx_2, inx_3, inx_4, inx_5, bI_0, bI_1, bI_ok, fin3, tyX12, entL, q0, dX12_needsWord_0, dX12_needsWord_1, dX12_needsWord_2, dX12_needsWord_5, dX12_needsWord_8, dX12_needsWord_9, dX12_needsWord_10, dX12_needsWord_13, dX12_needsWord_14, dX12_needsWord_15, dX12_needsWord_18, dX12_needsWord_19]
    exact hP _ _ (Or.inr ⟨1, by unfold woF; rw [h]; rfl, rfl, rfl⟩)
set_option maxHeartbeats 4000000 in
set_option maxRecDepth 100000 in
theorem c12_ends (l : Launch) (X : Cx) (d : Nat) (sh : Nat → Option Sh) (mI : Nat → Nat → Int32) (mL : Nat → Nat → Int64) (mR : Nat → Nat → Option Nat) (n : Nat) (hL : ML sh mR) (t : Nat → Nat) (N p : Nat) (hT : TapM mI t N) (hK : TokM mI mL t N p) (hp : p ≤ N) (hd : 2 ≤ d) : Cn l X yX12_ends cX12_ends 1 (some .boolean) d [.ref 129] (sh, mI, mL, mR, n) (fun r M' => (sgF t N p 59 = none ∧ r = some (.int 1) ∧ ∃ mI' mL', M' = (sh, mI', mL', mR, n) ∧ Eqf [] nF mI mI' ∧ EqL [129] mL mL' ∧ TokM mI' mL' t N (lxE t N p)) ∨ ∃ k, sgF t N p 59 = some k ∧ r = some (.int 0) ∧ M' = (sh, up2 mI 129 9 (nI (k + 16 * lxBg t N p)), mL, mR, n)) 0 0 := by
  refine Cn.run 12 false (by decide) rfl (by decide) (by simp [entA, Value.category]) ?_
  intro P G hP hG
  have q0 := hL.1
  have hE := lxE_le (t := t) hp
  refine hG.run [] 40 ?_
  simp [wp, stepI, ln, jmp, cmpI, Value.category, rd, tyF, va_rf, st1, st2, clr, isLg, CB, inx_0, inx_1, inx_2, inx_3, inx_4, inx_5, bI_0, bI_1, bI_ok, fin3, tyX12, entL, q0, dX12_ends_0, dX12_ends_1, dX12_ends_3, dX12_ends_6, dX12_ends_9, dX12_ends_10, dX12_ends_11, dX12_ends_14, dX12_ends_15, dX12_ends_16, dX12_ends_19, dX12_ends_20]
  simp (disch := omega) only [li, nI_add, nI_clamp, nI_ltI, nI_leI, nI_eq, inx_iff, a31, nI_1shl', nI_shr', div_bit, tb1, tb0, fa_or, fa_and, nI_not, pk_sub, nI_dec]
  refine hG.callV dX12_ends_3 mv_12_197 [.int (nI 59)] [] (c12_isSign l X (d - 1) sh mI mL mR n hL t N p hT hK hp 59 (by decide)) ⟨_, rfl, rfl⟩ q0 (by omega) rfl (by decide) (by simp [Value.category]) rfl ?_
  rintro r M' ⟨rfl, rfl⟩
  refine hG.run [] 40 ?_
  simp [wp, stepI, ln, jmp, cmpI, Value.category, rd, tyF, va_rf, st1, st2, clr, isLg, CB, inx_0, inx_1, inx_2, inx_3, inx_4, inx_5, bI_0, bI_1, bI_ok, fin3, tyX12, entL, q0, dX12_ends_0, dX12_ends_1, dX12_ends_3, dX12_ends_6, dX12_ends_9, dX12_ends_10, dX12_ends_11, dX12_ends_14, dX12_ends_15, dX12_ends_16, dX12_ends_19, dX12_ends_20]
  simp (disch := omega) only [li, nI_add, nI_clamp, nI_ltI, nI_leI, nI_eq, inx_iff, a31, nI_1shl', nI_shr', div_bit, tb1, tb0, fa_or, fa_and, nI_not, pk_sub, nI_dec]
  refine ⟨fun h => ?_, fun h => ?_⟩
  · refine hG.callV dX12_ends_16 mv_12_208 [] [] (c12_nextToken l X (d - 1) sh mI mL mR n hL t N hT (lxE t N p) hE.2 hK.2.1 (by omega)) ⟨_, rfl, rfl⟩ q0 (by omega) rfl (by decide) (by simp [Value.category]) rfl ?_
    rintro r M' ⟨rfl, mI2, mL2, rfl, y1, y2, y3⟩
    refine hG.run [] 40 ?_
    simp [wp, stepI, ln, jmp, cmpI, Value.category, rd, tyF, va_rf, st1, st2, clr, isLg, CB, inx_0, inx_1, inx_2, inx_3, inx_4, inx_5, bI_0, bI_1, bI_ok, fin3, tyX12, entL, q0, dX12_ends_0, dX12_ends_1, dX12_ends_3, dX12_ends_6, dX12_ends_9, dX12_ends_10, dX12_ends_11, dX12_ends_14, dX12_ends_15, dX12_ends_16, dX12_ends_19, dX12_ends_20]
    exact hP _ _ (Or.inl ⟨by unfold sgF; rw [h]; rfl, rfl, mI2, mL2, rfl, y1.fm (by decide), y2, y3⟩)
  · refine hG.callV dX12_ends_11 mv_12_201 [.int (nI 1)] [] (c12_fails l X (d - 1) sh mI mL mR n hL _ hK.1 1) ⟨_, rfl, rfl⟩ q0 (by omega) rfl (by decide) (by simp [Value.category]) rfl ?_
    rintro r M' ⟨rfl, rfl⟩
    refine hG.run [] 40 ?_
    simp [wp, stepI, ln, jmp, cmpI, Value.category, rd, tyF, va_rf, st1, st2, clr, isLg, CB, inx_0, inx_1, inx_2, inx_3, inx_4, inx_5, bI_0, bI_1, bI_ok, fin3, tyX12, entL, q0, dX12_ends_0, dX12_ends_1, dX12_ends_3, dX12_ends_6, dX12_ends_9, dX12_ends_10, dX12_ends_11, dX12_ends_14, dX12_ends_15, dX12_ends_16, dX12_ends_19, dX12_ends_20]
    exact hP _ _ (Or.inr ⟨1, by unfold sgF; rw [h]; rfl, rfl, rfl⟩)
def knI (t : Nat → Nat) (n p : Nat) : Int32 := if isW t n p 8740238 then nI 0 else if isW t n p 8868856 then nI 1 else if isW t n p 14092 then nI 2 else if isW t n p 117696460 then nI 3 else if isW t n p 9759162 then nI 4 else -nI 1
set_option maxHeartbeats 4000000 in
set_option maxRecDepth 100000 in
theorem c12_kindAt (l : Launch) (X : Cx) (d : Nat) (sh : Nat → Option Sh) (mI : Nat → Nat → Int32) (mL : Nat → Nat → Int64) (mR : Nat → Nat → Option Nat) (n : Nat) (hL : ML sh mR) (t : Nat → Nat) (N p : Nat) (hK : TokM mI mL t N p) (hd : 1 ≤ d) : Cn l X yX12_kindAt cX12_kindAt 1 (some .int) d [.ref 129] (sh, mI, mL, mR, n) (fun r M' => M' = (sh, mI, mL, mR, n) ∧ r = some (.int (knI t N p))) 0 0 := by
  refine Cn.run 12 false (by decide) rfl (by decide) (by simp [entA, Value.category]) ?_
  intro P G hP hG
  have q0 := hL.1
  unfold knI at hP
  refine hG.run [] 40 ?_
  simp [wp, stepI, ln, jmp, cmpI, Value.category, rd, tyF, va_rf, st1, st2, clr, isLg, CB, inx_0, inx_1, inx_2, inx_3, inx_4, inx_5, bI_0, bI_1, bI_ok, fin3, tyX12, entL, q0, dX12_kindAt_0, dX12_kindAt_1, cL_12_240, dX12_kindAt_4, dX12_kindAt_7, dX12_kindAt_10, dX12_kindAt_11, dX12_kindAt_14, dX12_kindAt_15, cL_12_242, dX12_kindAt_18, dX12_kindAt_21, dX12_kindAt_24, dX12_kindAt_25, dX12_kindAt_28, dX12_kindAt_29, cL_12_244, dX12_kindAt_32, dX12_kindAt_35, dX12_kindAt_38, dX12_kindAt_39, dX12_kindAt_42, dX12_kindAt_43, cL_12_246, dX12_kindAt_46, dX12_kindAt_49, dX12_kindAt_52, dX12_kindAt_53, dX12_kindAt_56, dX12_kindAt_57, cL_12_248, dX12_kindAt_60, dX12_kindAt_63, dX12_kindAt_66, dX12_kindAt_67, dX12_kindAt_70, dX12_kindAt_71]
  refine hG.callV dX12_kindAt_4 mv_12_193 [.long (lN 8740238)] [] (c12_isWord l X (d - 1) sh mI mL mR n hL t N p hK 8740238 (by decide)) ⟨_, rfl, rfl⟩ q0 (by omega) rfl (by decide) (by simp [Value.category]) rfl ?_
  rintro r M' ⟨rfl, rfl⟩
  refine hG.run [] 40 ?_
  simp [wp, stepI, ln, jmp, cmpI, Value.category, rd, tyF, va_rf, st1, st2, clr, isLg, CB, inx_0, inx_1, inx_2, inx_3, inx_4, inx_5, bI_0, bI_1, bI_ok, fin3, tyX12, entL, q0, dX12_kindAt_0, dX12_kindAt_1, cL_12_240, dX12_kindAt_4, dX12_kindAt_7, dX12_kindAt_10, dX12_kindAt_11, dX12_kindAt_14, dX12_kindAt_15, cL_12_242, dX12_kindAt_18, dX12_kindAt_21, dX12_kindAt_24, dX12_kindAt_25, dX12_kindAt_28, dX12_kindAt_29, cL_12_244, dX12_kindAt_32, dX12_kindAt_35, dX12_kindAt_38, dX12_kindAt_39, dX12_kindAt_42, dX12_kindAt_43, cL_12_246, dX12_kindAt_46, dX12_kindAt_49, dX12_kindAt_52, dX12_kindAt_53, dX12_kindAt_56, dX12_kindAt_57, cL_12_248, dX12_kindAt_60, dX12_kindAt_63, dX12_kindAt_66, dX12_kindAt_67, dX12_kindAt_70, dX12_kindAt_71]
  simp (disch := omega) only [li, nI_add, nI_clamp, nI_ltI, nI_leI, nI_eq, inx_iff, a31, nI_1shl', nI_shr', div_bit, tb1, tb0, fa_or, fa_and, nI_not, pk_sub, nI_dec]
  refine ⟨fun h => ?_, fun h => by rw [h] at hP; exact hP _ _ ⟨rfl, rfl⟩⟩
  rw [h] at hP
  simp only [Bool.false_eq_true, if_false] at hP
  refine hG.callV dX12_kindAt_18 mv_12_193 [.long (lN 8868856)] [] (c12_isWord l X (d - 1) sh mI mL mR n hL t N p hK 8868856 (by decide)) ⟨_, rfl, rfl⟩ q0 (by omega) rfl (by decide) (by simp [Value.category]) rfl ?_
  rintro r M' ⟨rfl, rfl⟩
  refine hG.run [] 40 ?_
  simp [wp, stepI, ln, jmp, cmpI, Value.category, rd, tyF, va_rf, st1, st2, clr, isLg, CB, inx_0, inx_1, inx_2, inx_3, inx_4, inx_5, bI_0, bI_1, bI_ok, fin3, tyX12, entL, q0, dX12_kindAt_0, dX12_kindAt_1, cL_12_240, dX12_kindAt_4, dX12_kindAt_7, dX12_kindAt_10, dX12_kindAt_11, dX12_kindAt_14, dX12_kindAt_15, cL_12_242, dX12_kindAt_18, dX12_kindAt_21, dX12_kindAt_24, dX12_kindAt_25, dX12_kindAt_28, dX12_kindAt_29, cL_12_244, dX12_kindAt_32, dX12_kindAt_35, dX12_kindAt_38, dX12_kindAt_39, dX12_kindAt_42, dX12_kindAt_43, cL_12_246, dX12_kindAt_46, dX12_kindAt_49, dX12_kindAt_52, dX12_kindAt_53, dX12_kindAt_56, dX12_kindAt_57, cL_12_248, dX12_kindAt_60, dX12_kindAt_63, dX12_kindAt_66, dX12_kindAt_67, dX12_kindAt_70, dX12_kindAt_71]
  simp (disch := omega) only [li, nI_add, nI_clamp, nI_ltI, nI_leI, nI_eq, inx_iff, a31, nI_1shl', nI_shr', div_bit, tb1, tb0, fa_or, fa_and, nI_not, pk_sub, nI_dec]
  refine ⟨fun h => ?_, fun h => by rw [h] at hP; exact hP _ _ ⟨rfl, rfl⟩⟩
  rw [h] at hP
  simp only [Bool.false_eq_true, if_false] at hP
  refine hG.callV dX12_kindAt_32 mv_12_193 [.long (lN 14092)] [] (c12_isWord l X (d - 1) sh mI mL mR n hL t N p hK 14092 (by decide)) ⟨_, rfl, rfl⟩ q0 (by omega) rfl (by decide) (by simp [Value.category]) rfl ?_
  rintro r M' ⟨rfl, rfl⟩
  refine hG.run [] 40 ?_
  simp [wp, stepI, ln, jmp, cmpI, Value.category, rd, tyF, va_rf, st1, st2, clr, isLg, CB, inx_0, inx_1, inx_2, inx_3, inx_4, inx_5, bI_0, bI_1, bI_ok, fin3, tyX12, entL, q0, dX12_kindAt_0, dX12_kindAt_1, cL_12_240, dX12_kindAt_4, dX12_kindAt_7, dX12_kindAt_10, dX12_kindAt_11, dX12_kindAt_14, dX12_kindAt_15, cL_12_242, dX12_kindAt_18, dX12_kindAt_21, dX12_kindAt_24, dX12_kindAt_25, dX12_kindAt_28, dX12_kindAt_29, cL_12_244, dX12_kindAt_32, dX12_kindAt_35, dX12_kindAt_38, dX12_kindAt_39, dX12_kindAt_42, dX12_kindAt_43, cL_12_246, dX12_kindAt_46, dX12_kindAt_49, dX12_kindAt_52, dX12_kindAt_53, dX12_kindAt_56, dX12_kindAt_57, cL_12_248, dX12_kindAt_60, dX12_kindAt_63, dX12_kindAt_66, dX12_kindAt_67, dX12_kindAt_70, dX12_kindAt_71]
  simp (disch := omega) only [li, nI_add, nI_clamp, nI_ltI, nI_leI, nI_eq, inx_iff, a31, nI_1shl', nI_shr', div_bit, tb1, tb0, fa_or, fa_and, nI_not, pk_sub, nI_dec]
  refine ⟨fun h => ?_, fun h => by rw [h] at hP; exact hP _ _ ⟨rfl, rfl⟩⟩
  rw [h] at hP
  simp only [Bool.false_eq_true, if_false] at hP
  refine hG.callV dX12_kindAt_46 mv_12_193 [.long (lN 117696460)] [] (c12_isWord l X (d - 1) sh mI mL mR n hL t N p hK 117696460 (by decide)) ⟨_, rfl, rfl⟩ q0 (by omega) rfl (by decide) (by simp [Value.category]) rfl ?_
  rintro r M' ⟨rfl, rfl⟩
  refine hG.run [] 40 ?_
  simp [wp, stepI, ln, jmp, cmpI, Value.category, rd, tyF, va_rf, st1, st2, clr, isLg, CB, inx_0, inx_1, inx_2, inx_3, inx_4, inx_5, bI_0, bI_1, bI_ok, fin3, tyX12, entL, q0, dX12_kindAt_0, dX12_kindAt_1, cL_12_240, dX12_kindAt_4, dX12_kindAt_7, dX12_kindAt_10, dX12_kindAt_11, dX12_kindAt_14, dX12_kindAt_15, cL_12_242, dX12_kindAt_18, dX12_kindAt_21, dX12_kindAt_24, dX12_kindAt_25, dX12_kindAt_28, dX12_kindAt_29, cL_12_244, dX12_kindAt_32, dX12_kindAt_35, dX12_kindAt_38, dX12_kindAt_39, dX12_kindAt_42, dX12_kindAt_43, cL_12_246, dX12_kindAt_46, dX12_kindAt_49, dX12_kindAt_52, dX12_kindAt_53, dX12_kindAt_56, dX12_kindAt_57, cL_12_248, dX12_kindAt_60, dX12_kindAt_63, dX12_kindAt_66, dX12_kindAt_67, dX12_kindAt_70, dX12_kindAt_71]
  simp (disch := omega) only [li, nI_add, nI_clamp, nI_ltI, nI_leI, nI_eq, inx_iff, a31, nI_1shl', nI_shr', div_bit, tb1, tb0, fa_or, fa_and, nI_not, pk_sub, nI_dec]
  refine ⟨fun h => ?_, fun h => by rw [h] at hP; exact hP _ _ ⟨rfl, rfl⟩⟩
  rw [h] at hP
  simp only [Bool.false_eq_true, if_false] at hP
  refine hG.callV dX12_kindAt_60 mv_12_193 [.long (lN 9759162)] [] (c12_isWord l X (d - 1) sh mI mL mR n hL t N p hK 9759162 (by decide)) ⟨_, rfl, rfl⟩ q0 (by omega) rfl (by decide) (by simp [Value.category]) rfl ?_
  rintro r M' ⟨rfl, rfl⟩
  refine hG.run [] 40 ?_
  simp [wp, stepI, ln, jmp, cmpI, Value.category, rd, tyF, va_rf, st1, st2, clr, isLg, CB, inx_0, inx_1, inx_2, inx_3, inx_4, inx_5, bI_0, bI_1, bI_ok, fin3, tyX12, entL, q0, dX12_kindAt_0, dX12_kindAt_1, cL_12_240, dX12_kindAt_4, dX12_kindAt_7, dX12_kindAt_10, dX12_kindAt_11, dX12_kindAt_14, dX12_kindAt_15, cL_12_242, dX12_kindAt_18, dX12_kindAt_21, dX12_kindAt_24, dX12_kindAt_25, dX12_kindAt_28, dX12_kindAt_29, cL_12_244, dX12_kindAt_32, dX12_kindAt_35, dX12_kindAt_38, dX12_kindAt_39, dX12_kindAt_42, dX12_kindAt_43, cL_12_246, dX12_kindAt_46, dX12_kindAt_49, dX12_kindAt_52, dX12_kindAt_53, dX12_kindAt_56, dX12_kindAt_57, cL_12_248, dX12_kindAt_60, dX12_kindAt_63, dX12_kindAt_66, dX12_kindAt_67, dX12_kindAt_70, dX12_kindAt_71]
  simp (disch := omega) only [li, nI_add, nI_clamp, nI_ltI, nI_leI, nI_eq, inx_iff, a31, nI_1shl', nI_shr', div_bit, tb1, tb0, fa_or, fa_and, nI_not, pk_sub, nI_dec]
  refine ⟨fun h => ?_, fun h => by rw [h] at hP; exact hP _ _ ⟨rfl, rfl⟩⟩
  rw [h] at hP
  simp only [Bool.false_eq_true, if_false] at hP
  exact hP _ _ ⟨rfl, rfl⟩
