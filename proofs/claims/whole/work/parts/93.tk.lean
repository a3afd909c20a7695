/-! the class's Tokens: words by another base -/
def cvW : Nat → Nat → Nat
  | 0, _ => 0
  | f + 1, v => if v = 0 then 0 else cvW f (v / 27) * 32 + v % 27
def cwW : Nat → Nat → Nat
  | 0, _ => 0
  | f + 1, v => if v = 0 then 0 else cwW f (v / 32) * 27 + v % 32
/-- the same word in the class's base -/
def lxV (t : Nat → Nat) (b : Nat) : Nat → Nat
  | 0 => 0
  | k + 1 => lxV t b k * 32 + (t (b + k) - 96)
theorem lxV_s (t : Nat → Nat) (b k : Nat) : lxV t b (k + 1) = lxV t b k * 32 + (t (b + k) - 96) := rfl
def ltr (t : Nat → Nat) (b k : Nat) : Prop := ∀ j, j < k → 97 ≤ t (b + j) ∧ t (b + j) ≤ 122
theorem lx_cv {t : Nat → Nat} {b : Nat} : ∀ f k, ltr t b k → k ≤ f → cvW f (lxW t b k) = lxV t b k ∧ cwW f (lxV t b k) = lxW t b k
  | 0, k, _, hk => by rw [show k = 0 by omega]; exact ⟨rfl, rfl⟩
  | f + 1, 0, _, _ => ⟨rfl, rfl⟩
  | f + 1, k + 1, h, hk => by
    obtain ⟨h1, h2⟩ := lx_cv f k (fun j hj => h j (by omega)) (by omega)
    obtain ⟨a1, a2⟩ := h k (by omega)
    rw [lxW_s, lxV_s]
    constructor
    · show (if lxW t b k * 27 + (t (b + k) - 96) = 0 then 0 else _) = _
      rw [if_neg (by omega), show (lxW t b k * 27 + (t (b + k) - 96)) / 27 = lxW t b k by omega, show (lxW t b k * 27 + (t (b + k) - 96)) % 27 = t (b + k) - 96 by omega, h1]
    · show (if lxV t b k * 32 + (t (b + k) - 96) = 0 then 0 else _) = _
      rw [if_neg (by omega), show (lxV t b k * 32 + (t (b + k) - 96)) / 32 = lxV t b k by omega, show (lxV t b k * 32 + (t (b + k) - 96)) % 32 = t (b + k) - 96 by omega, h2]
def cv8 (v : Nat) : Nat := cvW 8 v
/-- a word of at most eight letters -/
def vw8 (v : Nat) : Prop := cwW 8 (cv8 v) = v ∧ cv8 v < 2 ^ 40
theorem lxV_lt {t : Nat → Nat} {b : Nat} : ∀ k, ltr t b k → lxV t b k < 32 ^ k
  | 0, _ => by show 0 < 1; decide
  | k + 1, h => by
    have ih := lxV_lt k (fun j hj => h j (by omega))
    obtain ⟨a1, a2⟩ := h k (by omega)
    rw [lxV_s, Nat.pow_succ]
    omega
theorem vw_inj {a b : Nat} (ha : vw8 a) (hb : vw8 b) (h : cv8 a = cv8 b) : a = b := by rw [← ha.1, ← hb.1, h]
theorem lxLn_ltr {t : Nat → Nat} {n b : Nat} : ltr t b (lxLn t n b) := fun j hj => by
  have := fa_first_no (fun k => !lxL (t (b + k))) (n - b) j hj
  have h2 : lxL (t (b + j)) = true := by simpa using this
  exact lxL_iff.mp h2
theorem lxWd_v {t : Nat → Nat} {n p : Nat} (h : lxK t n p = 1) : vw8 (lxWd t n p) ∧ cv8 (lxWd t n p) = lxV t (lxBg t n p) (lxLn t n (lxBg t n p)) := by
  have hl : lxLn t n (lxBg t n p) ≤ 8 := by
    unfold lxK lxKb at h
    split at h
    · cases h
    · split at h
      · split at h
        · cases h
        · omega
      · split at h
        · split at h <;> cases h
        · split at h <;> cases h
  obtain ⟨e1, e2⟩ := lx_cv 8 (lxLn t n (lxBg t n p)) lxLn_ltr hl
  have l := lxV_lt (lxLn t n (lxBg t n p)) (lxLn_ltr (t := t) (n := n) (b := lxBg t n p))
  have l2 : 32 ^ lxLn t n (lxBg t n p) ≤ 32 ^ 8 := Nat.pow_le_pow_right (by decide) hl
  unfold vw8 cv8 lxWd
  rw [e1]
  exact ⟨⟨e2, Nat.lt_of_lt_of_le l l2⟩, rfl⟩
def w27 : List Nat := [8928318, 1171592, 13903, 243059, 382984, 459791, 13550, 12532058, 8740238, 8868856, 14092, 117696460, 9759162, 10631, 1111, 423, 394725, 6562612, 8371260, 582341, 1170473]
/-- which of the class's words (21: none) -/
def wix (v : Nat) : Nat := fa_first (fun i => decide (w27.getD i 0 = v)) 21
theorem w_code : ∀ i, i < 21 → wdV i 0 = .long (lN (cv8 (w27.getD i 0))) ∧ cv8 (w27.getD i 0) < 2 ^ 40 ∧ cwW 8 (cv8 (w27.getD i 0)) = w27.getD i 0 := by decide +kernel
set_option maxHeartbeats 4000000 in
set_option maxRecDepth 100000 in
theorem c8_isLetter (l : Launch) (X : Cx) (d : Nat) (M : Mm) (s : Nat) (hs : s < 128) : Cn l X yX8_isLetter cX8_isLetter 1 (some .boolean) d [.int (nI s)] M (fun r M' => M' = M ∧ r = some (.int (bI (lxL s)))) 0 0 := by
  refine Cn.run 8 false (by decide) rfl (by decide) (by simp [entA, Value.category]) ?_
  intro P G hP hG
  refine hG.run [] 40 ?_
  simp [wp, stepI, ln, jmp, cmpI, Value.category, rd, tyF, va_rf, st1, st2, clr, isLg, CB, inx_0, inx_1, inx_2, inx_3, inx_4, inx_5, bI_0, bI_1, bI_ok, fin3, entL, dX8_isLetter_0, dX8_isLetter_1, dX8_isLetter_3, dX8_isLetter_6, dX8_isLetter_7, dX8_isLetter_9, dX8_isLetter_12, dX8_isLetter_13, dX8_isLetter_16, dX8_isLetter_17]
  simp (disch := omega) only [li, nI_add, nI_clamp, nI_ltI, nI_leI, nI_eq, inx_iff, a31, nI_1shl', nI_shr', div_bit, tb1, tb0, fa_or, fa_and, nI_not, pk_sub, nI_dec]
  unfold lxL at hP
  refine ⟨fun z => hP _ _ ⟨rfl, ?_⟩, fun z => ⟨fun z2 => hP _ _ ⟨rfl, ?_⟩, fun z2 => hP _ _ ⟨rfl, ?_⟩⟩⟩
  · rw [decide_eq_false (by omega)]; rfl
  · rw [decide_eq_false (show ¬ s ≤ 122 by omega), Bool.and_false]; rfl
  · rw [decide_eq_true z, decide_eq_true z2]; rfl
set_option maxHeartbeats 4000000 in
set_option maxRecDepth 100000 in
theorem c8_isDigit (l : Launch) (X : Cx) (d : Nat) (M : Mm) (s : Nat) (hs : s < 128) : Cn l X yX8_isDigit cX8_isDigit 1 (some .boolean) d [.int (nI s)] M (fun r M' => M' = M ∧ r = some (.int (bI (lxD s)))) 0 0 := by
  refine Cn.run 8 false (by decide) rfl (by decide) (by simp [entA, Value.category]) ?_
  intro P G hP hG
  refine hG.run [] 40 ?_
  simp [wp, stepI, ln, jmp, cmpI, Value.category, rd, tyF, va_rf, st1, st2, clr, isLg, CB, inx_0, inx_1, inx_2, inx_3, inx_4, inx_5, bI_0, bI_1, bI_ok, fin3, entL, dX8_isDigit_0, dX8_isDigit_1, dX8_isDigit_3, dX8_isDigit_6, dX8_isDigit_7, dX8_isDigit_9, dX8_isDigit_12, dX8_isDigit_13, dX8_isDigit_16, dX8_isDigit_17]
  simp (disch := omega) only [li, nI_add, nI_clamp, nI_ltI, nI_leI, nI_eq, inx_iff, a31, nI_1shl', nI_shr', div_bit, tb1, tb0, fa_or, fa_and, nI_not, pk_sub, nI_dec]
  unfold lxD at hP
  refine ⟨fun z => hP _ _ ⟨rfl, ?_⟩, fun z => ⟨fun z2 => hP _ _ ⟨rfl, ?_⟩, fun z2 => hP _ _ ⟨rfl, ?_⟩⟩⟩
  · rw [decide_eq_false (by omega)]; rfl
  · rw [decide_eq_false (show ¬ s ≤ 57 by omega), Bool.and_false]; rfl
  · rw [decide_eq_true z, decide_eq_true z2]; rfl
theorem sg_tab : ∀ s, s < 128 → ∀ P : Bool → Prop, ((nI s).toInt = s) := fun s hs _ => nI_toInt (by omega)
set_option maxHeartbeats 4000000 in
set_option maxRecDepth 100000 in
theorem c8_isSign (l : Launch) (X : Cx) (d : Nat) (M : Mm) (s : Nat) (hs : s < 128) : Cn l X yX8_isSign cX8_isSign 1 (some .boolean) d [.int (nI s)] M (fun r M' => M' = M ∧ r = some (.int (bI (lxS s)))) 0 0 := by
  refine Cn.run 8 false (by decide) rfl (by decide) (by simp [entA, Value.category]) ?_
  intro P G hP hG
  refine hG.run [] 40 ?_
  simp [wp, stepI, ln, jmp, cmpI, Value.category, rd, tyF, va_rf, st1, st2, clr, isLg, CB, inx_0, inx_1, inx_2, inx_3, inx_4, inx_5, bI_0, bI_1, bI_ok, fin3, swK, entL, dX8_isSign_0, dX8_isSign_1, dX8_isSign_104, dX8_isSign_105, dX8_isSign_106, dX8_isSign_107]
  simp (disch := omega) only [li, nI_add, nI_clamp, nI_ltI, nI_leI, nI_eq, inx_iff, a31, nI_1shl', nI_shr', div_bit, tb1, tb0, fa_or, fa_and, nI_not, pk_sub, nI_dec, nI_toInt]
  have yes : lxS s = true → P (some (.int (nI 1))) M := fun h => hP _ _ ⟨rfl, by rw [h]; rfl⟩
  have no : lxS s = false → P (some (.int (nI 0))) M := fun h => hP _ _ ⟨rfl, by rw [h]; rfl⟩
  refine ⟨?_, fun h => no ?_⟩
  · refine ⟨fun h => yes (by rw [h]; rfl), fun h => yes (by rw [h]; rfl), fun h => yes (by rw [h]; rfl), fun h => yes (by rw [h]; rfl), fun h => no (by rw [h]; rfl), fun h => yes (by rw [h]; rfl), fun h => no (by rw [h]; rfl), fun h => no (by rw [h]; rfl), fun h => no (by rw [h]; rfl), fun h => no (by rw [h]; rfl), fun h => no (by rw [h]; rfl), fun h => no (by rw [h]; rfl), fun h => no (by rw [h]; rfl), fun h => no (by rw [h]; rfl), fun h => no (by rw [h]; rfl), fun h => no (by rw [h]; rfl), fun h => no (by rw [h]; rfl), fun h => no (by rw [h]; rfl), fun h => no (by rw [h]; rfl), fun h => yes (by rw [h]; rfl), fun h => yes (by rw [h]; rfl), fun h => yes (by rw [h]; rfl)⟩
  · cases e : lxS s with
    | false => rfl
    | true =>
      have := lxS_iff.mp e
      omega
/-- the Tokens at K over the signs at TP -/
def TkL (sh : Nat → Option Sh) (mR : Nat → Nat → Option Nat) (K TP : Nat) : Prop := sh K = some (.inl 8) ∧ K < 100000000 ∧ mR K 0 = some TP ∧ sh TP = some (.inr (.byte, 1000)) ∧ TP < 100000000 ∧ TP ≠ K
def TkT (mI : Nat → Nat → Int32) (K TP : Nat) (t : Nat → Nat) (N : Nat) : Prop := mI K 1 = nI N ∧ N ≤ 1000 ∧ ∀ k, k < N → mI TP k = nI (t k) ∧ t k < 128
set_option maxHeartbeats 4000000 in
set_option maxRecDepth 100000 in
theorem c8_takeNumber (l : Launch) (X : Cx) (d : Nat) (sh : Nat → Option Sh) (mI : Nat → Nat → Int32) (mL : Nat → Nat → Int64) (mR : Nat → Nat → Option Nat) (n : Nat) (K TP : Nat) (hL : TkL sh mR K TP) (t : Nat → Nat) (N : Nat) (hT : TkT mI K TP t N) (b : Nat) (hb : b ≤ N) (he : mI K 2 = nI b) (hpl : mI K 3 = nI b) (hd : 1 ≤ d) : Cn l X yX8_takeNumber cX8_takeNumber 1 none d [.ref K] (sh, mI, mL, mR, n) (fun r M' => r = none ∧ ∃ mI', M' = (sh, mI', mL, mR, n) ∧ (∀ a k, ¬ (a = K ∧ (k = 2 ∨ k = 4 ∨ k = 5)) → mI' a k = mI a k) ∧ mI' K 2 = nI (b + lxDn t N b) ∧ mI' K 4 = nI (if lxDn t N b ≤ 4 then 3 else 1) ∧ mI' K 5 = nI (lxN t b (lxDn t N b))) 0 0 := by
  refine Cn.run 8 false (by decide) rfl (by decide) (by simp [entA, Value.category]) ?_
  intro P G hP hG
  obtain ⟨q0, hKl, r0, s0, hTl, hne⟩ := hL
  have xK : K < 1000000000 := by omega
  obtain ⟨t1, t2, t3⟩ := hT
  have dl : lxDn t N b ≤ N - b := fa_first_le _ _
  have last : ∀ m1, (∀ a k, ¬ (a = K ∧ (k = 2 ∨ k = 4 ∨ k = 5)) → m1 a k = mI a k) → m1 K 2 = nI (b + lxDn t N b) → m1 K 5 = nI (lxN t b (lxDn t N b)) → G 68 [some (.ref K)] [] (sh, m1, mL, mR, n) := fun m1 g1 g2 g3 => by
    have pl1 : m1 K 3 = nI b := (g1 _ _ (by omega)).trans hpl
    have fin : ∀ v, v = nI (if lxDn t N b ≤ 4 then 3 else 1) → P none (sh, up2 m1 K 4 v, mL, mR, n) := fun v hv => hP _ _ ⟨rfl, _, rfl, fun a k h => by rw [up2_ne (fun y => h ⟨y.1, Or.inr (Or.inl y.2)⟩)]; exact g1 a k h, by rw [up2_ne (fun y => by cases y.2)]; exact g2, by rw [up2_eq, hv], by rw [up2_ne (fun y => by cases y.2)]; exact g3⟩
    refine hG.run [] 60 ?_
    simp [wp, stepI, ln, jmp, cmpI, Value.category, rd, tyF, va_rf, st1, st2, clr, isLg, CB, inx_0, inx_1, inx_2, inx_3, inx_4, inx_5, bI_0, bI_1, bI_ok, fin3, tyX8, entL, q0, okv, wr, finF, clT, TX8, xK, dX8_takeNumber_0, dX8_takeNumber_1, dX8_takeNumber_2, fT_8_76, dX8_takeNumber_5, dX8_takeNumber_6, fT_8_25, dX8_takeNumber_9, dX8_takeNumber_10, fT_8_21, dX8_takeNumber_13, dX8_takeNumber_16, dX8_takeNumber_17, fT_8_9, dX8_takeNumber_20, dX8_takeNumber_21, dX8_takeNumber_24, dX8_takeNumber_25, dX8_takeNumber_28, dX8_takeNumber_31, dX8_takeNumber_32, dX8_takeNumber_33, dX8_takeNumber_36, dX8_takeNumber_38, dX8_takeNumber_39, dX8_takeNumber_40, dX8_takeNumber_43, dX8_takeNumber_44, dX8_takeNumber_47, dX8_takeNumber_48, dX8_takeNumber_50, dX8_takeNumber_51, dX8_takeNumber_52, dX8_takeNumber_55, dX8_takeNumber_56, dX8_takeNumber_57, dX8_takeNumber_60, dX8_takeNumber_61, dX8_takeNumber_62, dX8_takeNumber_65, dX8_takeNumber_68, dX8_takeNumber_69, dX8_takeNumber_70, dX8_takeNumber_73, dX8_takeNumber_74, fT_8_35, dX8_takeNumber_77, dX8_takeNumber_78, dX8_takeNumber_79, dX8_takeNumber_82, dX8_takeNumber_83, dX8_takeNumber_86, dX8_takeNumber_87, fT_8_38, dX8_takeNumber_90]
    rw [g2, pl1]
    have e : b + lxDn t N b - b = lxDn t N b := by omega
    simp (disch := omega) only [li, nI_add, nI_clamp, nI_ltI, nI_leI, nI_eq, inx_iff, a31, nI_1shl', nI_shr', div_bit, tb1, tb0, fa_or, fa_and, nI_not, pk_sub, nI_dec, e]
    refine ⟨fun z => fin _ (by rw [if_neg (by omega)]), fun z => fin _ (by rw [if_pos (by omega)])⟩
  have loop : ∀ f i m1, lxDn t N b - i < f → i ≤ lxDn t N b → (∀ a k, ¬ (a = K ∧ (k = 2 ∨ k = 4 ∨ k = 5)) → m1 a k = mI a k) → m1 K 2 = nI (b + i) → m1 K 5 = nI (lxN t b i) → G 5 [some (.ref K)] [] (sh, m1, mL, mR, n) := by
    intro f
    induction f with
    | zero => intro i m1 h; omega
    | succ f ih =>
      intro i m1 hf hi g1 g2 g3
      have sz : m1 K 1 = nI N := (g1 _ _ (by omega)).trans t1
      by_cases hiN : b + i < N
      · obtain ⟨a1, a2⟩ := t3 (b + i) hiN
        have a3 : m1 TP (b + i) = nI (t (b + i)) := (g1 _ _ (fun z => hne z.1)).trans a1
        refine hG.run [68] 60 ?_
        simp [wp, stepI, ln, jmp, cmpI, Value.category, rd, tyF, va_rf, st1, st2, clr, isLg, CB, inx_0, inx_1, inx_2, inx_3, inx_4, inx_5, bI_0, bI_1, bI_ok, fin3, tyX8, entL, q0, r0, s0, dX8_takeNumber_0, dX8_takeNumber_1, dX8_takeNumber_2, fT_8_76, dX8_takeNumber_5, dX8_takeNumber_6, fT_8_25, dX8_takeNumber_9, dX8_takeNumber_10, fT_8_21, dX8_takeNumber_13, dX8_takeNumber_16, dX8_takeNumber_17, fT_8_9, dX8_takeNumber_20, dX8_takeNumber_21, dX8_takeNumber_24, dX8_takeNumber_25, dX8_takeNumber_28, dX8_takeNumber_31, dX8_takeNumber_32, dX8_takeNumber_33, dX8_takeNumber_36, dX8_takeNumber_38, dX8_takeNumber_39, dX8_takeNumber_40, dX8_takeNumber_43, dX8_takeNumber_44, dX8_takeNumber_47, dX8_takeNumber_48, dX8_takeNumber_50, dX8_takeNumber_51, dX8_takeNumber_52, dX8_takeNumber_55, dX8_takeNumber_56, dX8_takeNumber_57, dX8_takeNumber_60, dX8_takeNumber_61, dX8_takeNumber_62, dX8_takeNumber_65, dX8_takeNumber_68, dX8_takeNumber_69, dX8_takeNumber_70, dX8_takeNumber_73, dX8_takeNumber_74, fT_8_35, dX8_takeNumber_77, dX8_takeNumber_78, dX8_takeNumber_79, dX8_takeNumber_82, dX8_takeNumber_83, dX8_takeNumber_86, dX8_takeNumber_87, fT_8_38, dX8_takeNumber_90]
        simp (disch := omega) only [li, nI_add, nI_clamp, nI_ltI, nI_leI, nI_eq, inx_iff, a31, nI_1shl', nI_shr', div_bit, tb1, tb0, fa_or, fa_and, nI_not, pk_sub, nI_dec, sz, g2, a3]
        refine ⟨fun z => by omega, fun _ => ⟨by omega, ?_⟩⟩
        refine hG.callS dX8_takeNumber_25 ms_8_48 [.int (nI (t (b + i)))] [] (c8_isDigit l X (d - 1) _ _ a2) (by omega) rfl (by decide) (by simp [Value.category]) rfl ?_
        rintro r M' ⟨rfl, rfl⟩
        cases hdg : lxD (t (b + i)) with
        | false =>
          have e : i = lxDn t N b := by
            rcases Nat.lt_or_ge i (lxDn t N b) with y | y
            · have := fa_first_no (fun k => !lxD (t (b + k))) (N - b) i y
              rw [hdg] at this; cases this
            · omega
          have q := last m1 g1 (by rw [← e]; exact g2) (by rw [← e]; exact g3)
          refine hG.run [68] 60 ?_
          simp [wp, stepI, ln, jmp, cmpI, Value.category, rd, tyF, va_rf, st1, st2, clr, isLg, CB, inx_0, inx_1, inx_2, inx_3, inx_4, inx_5, bI_0, bI_1, bI_ok, fin3, tyX8, entL, q0, dX8_takeNumber_0, dX8_takeNumber_1, dX8_takeNumber_2, fT_8_76, dX8_takeNumber_5, dX8_takeNumber_6, fT_8_25, dX8_takeNumber_9, dX8_takeNumber_10, fT_8_21, dX8_takeNumber_13, dX8_takeNumber_16, dX8_takeNumber_17, fT_8_9, dX8_takeNumber_20, dX8_takeNumber_21, dX8_takeNumber_24, dX8_takeNumber_25, dX8_takeNumber_28, dX8_takeNumber_31, dX8_takeNumber_32, dX8_takeNumber_33, dX8_takeNumber_36, dX8_takeNumber_38, dX8_takeNumber_39, dX8_takeNumber_40, dX8_takeNumber_43, dX8_takeNumber_44, dX8_takeNumber_47, dX8_takeNumber_48, dX8_takeNumber_50, dX8_takeNumber_51, dX8_takeNumber_52, dX8_takeNumber_55, dX8_takeNumber_56, dX8_takeNumber_57, dX8_takeNumber_60, dX8_takeNumber_61, dX8_takeNumber_62, dX8_takeNumber_65, dX8_takeNumber_68, dX8_takeNumber_69, dX8_takeNumber_70, dX8_takeNumber_73, dX8_takeNumber_74, fT_8_35, dX8_takeNumber_77, dX8_takeNumber_78, dX8_takeNumber_79, dX8_takeNumber_82, dX8_takeNumber_83, dX8_takeNumber_86, dX8_takeNumber_87, fT_8_38, dX8_takeNumber_90]
          first
            | exact q
            | exact ⟨fun _ => q, fun z => absurd trivial z⟩
        | true =>
          have e : i < lxDn t N b := by
            rcases Nat.lt_or_ge i (lxDn t N b) with y | y
            · exact y
            · have h2 : lxDn t N b = i := by omega
              have := fa_first_yes (fun k => !lxD (t (b + k))) (N - b) (by show lxDn t N b < N - b; omega)
              have h3 : (!lxD (t (b + lxDn t N b))) = true := this
              rw [h2, hdg] at h3; cases h3
          obtain ⟨d1, d2⟩ := lxD_iff.mp hdg
          have nx := ih (i + 1) (up2 (up2 m1 K 5 (nI (lxN t b (i + 1)))) K 2 (nI (b + i + 1))) (by omega) (by omega) (fun a k h => by rw [up2_ne (fun y => h ⟨y.1, Or.inl y.2⟩), up2_ne (fun y => h ⟨y.1, Or.inr (Or.inr y.2)⟩)]; exact g1 a k h) (by rw [up2_eq]; rfl) (by rw [up2_ne (fun y => by cases y.2), up2_eq])
          rw [lxN_s] at nx
          refine hG.run [5] 60 ?_
          simp [wp, stepI, ln, jmp, cmpI, Value.category, rd, tyF, va_rf, st1, st2, clr, isLg, CB, inx_0, inx_1, inx_2, inx_3, inx_4, inx_5, bI_0, bI_1, bI_ok, fin3, tyX8, entL, q0, r0, s0, okv, wr, finF, clT, TX8, xK, dX8_takeNumber_0, dX8_takeNumber_1, dX8_takeNumber_2, fT_8_76, dX8_takeNumber_5, dX8_takeNumber_6, fT_8_25, dX8_takeNumber_9, dX8_takeNumber_10, fT_8_21, dX8_takeNumber_13, dX8_takeNumber_16, dX8_takeNumber_17, fT_8_9, dX8_takeNumber_20, dX8_takeNumber_21, dX8_takeNumber_24, dX8_takeNumber_25, dX8_takeNumber_28, dX8_takeNumber_31, dX8_takeNumber_32, dX8_takeNumber_33, dX8_takeNumber_36, dX8_takeNumber_38, dX8_takeNumber_39, dX8_takeNumber_40, dX8_takeNumber_43, dX8_takeNumber_44, dX8_takeNumber_47, dX8_takeNumber_48, dX8_takeNumber_50, dX8_takeNumber_51, dX8_takeNumber_52, dX8_takeNumber_55, dX8_takeNumber_56, dX8_takeNumber_57, dX8_takeNumber_60, dX8_takeNumber_61, dX8_takeNumber_62, dX8_takeNumber_65, dX8_takeNumber_68, dX8_takeNumber_69, dX8_takeNumber_70, dX8_takeNumber_73, dX8_takeNumber_74, fT_8_35, dX8_takeNumber_77, dX8_takeNumber_78, dX8_takeNumber_79, dX8_takeNumber_82, dX8_takeNumber_83, dX8_takeNumber_86, dX8_takeNumber_87, fT_8_38, dX8_takeNumber_90]
          simp (disch := omega) only [li, nI_add, nI_clamp, nI_ltI, nI_leI, nI_eq, inx_iff, a31, nI_1shl', nI_shr', div_bit, tb1, tb0, fa_or, fa_and, nI_not, pk_sub, nI_dec, g2, g3, a3, nI_mul, up2_eq, up2_ne]
          first
            | exact nx
            | exact ⟨by omega, nx⟩
      · have e : i = lxDn t N b := by omega
        have q := last m1 g1 (by rw [← e]; exact g2) (by rw [← e]; exact g3)
        refine hG.run [16, 68] 60 ?_
        simp [wp, stepI, ln, jmp, cmpI, Value.category, rd, tyF, va_rf, st1, st2, clr, isLg, CB, inx_0, inx_1, inx_2, inx_3, inx_4, inx_5, bI_0, bI_1, bI_ok, fin3, tyX8, entL, q0, dX8_takeNumber_0, dX8_takeNumber_1, dX8_takeNumber_2, fT_8_76, dX8_takeNumber_5, dX8_takeNumber_6, fT_8_25, dX8_takeNumber_9, dX8_takeNumber_10, fT_8_21, dX8_takeNumber_13, dX8_takeNumber_16, dX8_takeNumber_17, fT_8_9, dX8_takeNumber_20, dX8_takeNumber_21, dX8_takeNumber_24, dX8_takeNumber_25, dX8_takeNumber_28, dX8_takeNumber_31, dX8_takeNumber_32, dX8_takeNumber_33, dX8_takeNumber_36, dX8_takeNumber_38, dX8_takeNumber_39, dX8_takeNumber_40, dX8_takeNumber_43, dX8_takeNumber_44, dX8_takeNumber_47, dX8_takeNumber_48, dX8_takeNumber_50, dX8_takeNumber_51, dX8_takeNumber_52, dX8_takeNumber_55, dX8_takeNumber_56, dX8_takeNumber_57, dX8_takeNumber_60, dX8_takeNumber_61, dX8_takeNumber_62, dX8_takeNumber_65, dX8_takeNumber_68, dX8_takeNumber_69, dX8_takeNumber_70, dX8_takeNumber_73, dX8_takeNumber_74, fT_8_35, dX8_takeNumber_77, dX8_takeNumber_78, dX8_takeNumber_79, dX8_takeNumber_82, dX8_takeNumber_83, dX8_takeNumber_86, dX8_takeNumber_87, fT_8_38, dX8_takeNumber_90]
        simp (disch := omega) only [li, nI_add, nI_clamp, nI_ltI, nI_leI, nI_eq, inx_iff, a31, nI_1shl', nI_shr', div_bit, tb1, tb0, fa_or, fa_and, nI_not, pk_sub, nI_dec, sz, g2]
        exact ⟨fun _ => q, fun z => by omega⟩
  refine hG.run [5] 60 ?_
  simp [wp, stepI, ln, jmp, cmpI, Value.category, rd, tyF, va_rf, st1, st2, clr, isLg, CB, inx_0, inx_1, inx_2, inx_3, inx_4, inx_5, bI_0, bI_1, bI_ok, fin3, tyX8, entL, q0, okv, wr, finF, clT, TX8, xK, dX8_takeNumber_0, dX8_takeNumber_1, dX8_takeNumber_2, fT_8_76, dX8_takeNumber_5, dX8_takeNumber_6, fT_8_25, dX8_takeNumber_9, dX8_takeNumber_10, fT_8_21, dX8_takeNumber_13, dX8_takeNumber_16, dX8_takeNumber_17, fT_8_9, dX8_takeNumber_20, dX8_takeNumber_21, dX8_takeNumber_24, dX8_takeNumber_25, dX8_takeNumber_28, dX8_takeNumber_31, dX8_takeNumber_32, dX8_takeNumber_33, dX8_takeNumber_36, dX8_takeNumber_38, dX8_takeNumber_39, dX8_takeNumber_40, dX8_takeNumber_43, dX8_takeNumber_44, dX8_takeNumber_47, dX8_takeNumber_48, dX8_takeNumber_50, dX8_takeNumber_51, dX8_takeNumber_52, dX8_takeNumber_55, dX8_takeNumber_56, dX8_takeNumber_57, dX8_takeNumber_60, dX8_takeNumber_61, dX8_takeNumber_62, dX8_takeNumber_65, dX8_takeNumber_68, dX8_takeNumber_69, dX8_takeNumber_70, dX8_takeNumber_73, dX8_takeNumber_74, fT_8_35, dX8_takeNumber_77, dX8_takeNumber_78, dX8_takeNumber_79, dX8_takeNumber_82, dX8_takeNumber_83, dX8_takeNumber_86, dX8_takeNumber_87, fT_8_38, dX8_takeNumber_90]
  simp only [li]
  exact loop (lxDn t N b + 1) 0 _ (by omega) (Nat.zero_le _) (fun a k h => up2_ne (fun y => h ⟨y.1, Or.inr (Or.inr y.2)⟩)) (by rw [up2_ne (fun y => by cases y.2)]; exact he) (up2_eq _ _ _ _)
