/-! what the Reader takes -/
theorem wix_w27 : ∀ i, i < 21 → wix (w27.getD i 0) = i := by decide +kernel
theorem wrd_is {t : Nat → Nat} {N p i : Nat} (hi : i < 21) : isW t N p (w27.getD i 0) = true ↔ (lxK t N p = 1 ∧ wix (lxWd t N p) = i) := by
  unfold isW
  rw [Bool.and_eq_true, decide_eq_true_iff, decide_eq_true_iff]
  refine and_congr_right (fun _ => ⟨fun h => by rw [h]; exact wix_w27 i hi, fun h => ?_⟩)
  rw [← h]
  exact (wix_yes (by omega)).symm
/-- the Reader's cells that any taking may change -/
def rdW (R a k : Nat) : Prop := (a = R + 13 ∧ (k = 2 ∨ k = 3 ∨ k = 4 ∨ k = 5)) ∨ (a = R ∧ (k = 10 ∨ k = 8 ∨ k = 9))
theorem RdD.fr {mI mI' : Nat → Nat → Int32} {mL mL' : Nat → Nat → Int64} {R C : Nat} {D : DD} (h : RdD mI mL R C D) (hd : R + 17 < C ∨ C + 5 < R) (h1 : ∀ a k, ¬ rdW R a k → mI' a k = mI a k) (h2 : ∀ a k, ¬ (a = R + 13 ∧ k = 6) → mL' a k = mL a k) : RdD mI' mL' R C D := by
  unfold rdW at h1
  obtain ⟨⟨a1, a2, a3, a4, a5, a6⟩, b, c, d, e, f⟩ := h
  refine ⟨⟨(h1 _ _ (by omega)).trans a1, (h1 _ _ (by omega)).trans a2, (h1 _ _ (by omega)).trans a3, (h1 _ _ (by omega)).trans a4, (h1 _ _ (by omega)).trans a5, (h1 _ _ (by omega)).trans a6⟩, fun p hp => ⟨(h2 _ _ (by omega)).trans (b p hp).1, (b p hp).2.1, (h1 _ _ (by omega)).trans (b p hp).2.2.1, (h1 _ _ (by omega)).trans (b p hp).2.2.2⟩, fun k hk => (h1 _ _ (by omega)).trans (c k hk), fun k hk => ⟨(h1 _ _ (by omega)).trans (d k hk).1, (h1 _ _ (by omega)).trans (d k hk).2.1, (h1 _ _ (by omega)).trans (d k hk).2.2⟩, fun i hi => (h1 _ _ (by omega)).trans (e i hi), fun a ha => ?_⟩
  obtain ⟨lt, f1, f2⟩ := f a ha
  exact ⟨lt, (h1 _ _ (by omega)).trans f1, f2⟩
/-- what a taking leaves: f none = taken, some e = the fault -/
def TkP (sh : Nat → Option Sh) (mI : Nat → Nat → Int32) (mL : Nat → Nat → Int64) (mR : Nat → Nat → Option Nat) (n R C TP : Nat) (t : Nat → Nat) (N p : Nat) (f : Option Nat) (E : (Nat → Nat → Int32) → Prop) (r : Option Value) (M' : Mm) : Prop := ∃ mI' mL' mR', M' = (sh, mI', mL', mR', n) ∧ (∀ a k, ¬ rdW R a k → mI' a k = mI a k) ∧ (∀ a k, ¬ (a = R + 13 ∧ k = 6) → mL' a k = mL a k) ∧ (∀ a k, ¬ (a = R + 13 ∧ k = 7) → mR' a k = mR a k) ∧ (f = none → r = some (.int (nI 1)) ∧ RsM sh mI' mL' mR' R C TP t N (lxE t N p) ∧ mI' R 10 = mI R 10 ∧ E mI') ∧ ∀ e, f = some e → r = some (.int (nI 0)) ∧ mI' R 10 = nI (e + 16 * lxBg t N p)
theorem RsM.fr {sh : Nat → Option Sh} {mI mI' : Nat → Nat → Int32} {mL mL' : Nat → Nat → Int64} {mR mR' : Nat → Nat → Option Nat} {R C TP : Nat} {t : Nat → Nat} {N p : Nat} (h : RsM sh mI mL mR R C TP t N p) (h1 : ∀ k, mI' (R + 13) k = mI (R + 13) k) (h2 : ∀ k, mI' TP k = mI TP k) (h3 : mL' (R + 13) 6 = mL (R + 13) 6) (h4 : ∀ a k, mR' a k = mR a k) : RsM sh mI' mL' mR' R C TP t N p := by
  obtain ⟨g1, g2, g3, g4⟩ := h
  refine ⟨g1.mR (fun a k _ _ => h4 a k), ⟨(h1 _).trans g2.1, g2.2.1, fun k hk => ⟨(h2 _).trans (g2.2.2 k hk).1, (g2.2.2 k hk).2⟩⟩, ⟨(h1 _).trans g3.1, (h1 _).trans g3.2.1, (h1 _).trans g3.2.2.1, fun z => (h1 _).trans (g3.2.2.2.1 z), fun z => h3.trans (g3.2.2.2.2.1 z), (h4 _ _).trans g3.2.2.2.2.2⟩, g4⟩
theorem TkP.bad {sh : Nat → Option Sh} {mI mI1 : Nat → Nat → Int32} {mL : Nat → Nat → Int64} {mR : Nat → Nat → Option Nat} {n R C TP : Nat} {t : Nat → Nat} {N p : Nat} {f : Option Nat} {E : (Nat → Nat → Int32) → Prop} (e : Nat) (hf : f = some e) (h1 : ∀ a k, ¬ rdW R a k → mI1 a k = mI a k) : TkP sh mI mL mR n R C TP t N p f E (some (.int (nI 0))) (sh, up2 mI1 R 10 (nI (e + 16 * lxBg t N p)), mL, mR, n) := by
  refine ⟨up2 mI1 R 10 (nI (e + 16 * lxBg t N p)), mL, mR, rfl, fun a k h => ?_, fun _ _ _ => rfl, fun _ _ _ => rfl, fun z => ?_, fun e' he => ⟨rfl, ?_⟩⟩
  · rw [up2_ne (fun y => h (Or.inr ⟨y.1, Or.inl y.2⟩))]; exact h1 a k h
  · rw [hf] at z; cases z
  · rw [hf] at he; cases he; exact up2_eq ..
theorem TkP.ok {sh : Nat → Option Sh} {mI mI1 mI2 : Nat → Nat → Int32} {mL mL2 : Nat → Nat → Int64} {mR mR2 : Nat → Nat → Option Nat} {n R C TP : Nat} {t : Nat → Nat} {N p : Nat} {f : Option Nat} {E : (Nat → Nat → Int32) → Prop} (hf : f = none) (hS : RsM sh mI1 mL mR R C TP t N p) (h1 : ∀ a k, ¬ rdW R a k → mI1 a k = mI a k) (k1 : ∀ a k, ¬ (a = R + 13 ∧ (k = 2 ∨ k = 3 ∨ k = 4 ∨ k = 5)) → mI2 a k = mI1 a k) (k2 : ∀ a k, ¬ (a = R + 13 ∧ k = 6) → mL2 a k = mL a k) (k3 : ∀ a k, ¬ (a = R + 13 ∧ k = 7) → mR2 a k = mR a k) (k4 : TsM mI2 mL2 mR2 (R + 13) t N (lxE t N p)) (h0 : mI1 R 10 = mI R 10) (hE : E mI2) : TkP sh mI mL mR n R C TP t N p f E (some (.int (nI 1))) (sh, mI2, mL2, mR2, n) := by
  refine ⟨mI2, mL2, mR2, rfl, fun a k h => (k1 a k (fun y => h (Or.inl y))).trans (h1 a k h), k2, k3, fun _ => ⟨rfl, hS.nx k1 k3 k4, (k1 _ _ (by omega)).trans h0, hE⟩, fun e he => ?_⟩
  rw [hf] at he; cases he
set_option maxHeartbeats 4000000 in
set_option maxRecDepth 100000 in
theorem c3_takeWord (l : Launch) (X : Cx) (d : Nat) (sh : Nat → Option Sh) (mI : Nat → Nat → Int32) (mL : Nat → Nat → Int64) (mR : Nat → Nat → Option Nat) (n : Nat) (R C TP : Nat) (t : Nat → Nat) (N p : Nat) (hS : RsM sh mI mL mR R C TP t N p) (i : Nat) (hi : i < 21) (w : Nat) (hw : w = 1000000000 + i) (hd : 3 ≤ d) : Cn l X yX3_takeWord cX3_takeWord 2 (some .boolean) d [.ref R, .ref w] (sh, mI, mL, mR, n) (TkP sh mI mL mR n R C TP t N p (woF t N p (w27.getD i 0)) (fun _ => True)) 0 0 := by
  refine Cn.run 3 false (by decide) rfl (by decide) (by simp [entA, Value.category]) ?_
  intro P G hP hG
  have hS0 := hS
  obtain ⟨g1, g2, g3, g4⟩ := hS
  have q0 := g1.1
  have r1 := g1.2.2.2.1
  have k0 := g1.2.2.2.2.2.2.2.2.2.2.1.1
  have h6 := g3.2.2.2.2.2
  have wi := wrd_is (t := t) (N := N) (p := p) hi
  have yes : woF t N p (w27.getD i 0) = none → G 17 [some (.ref R), some (.ref w)] [] (sh, mI, mL, mR, n) := fun hf => by
    refine hG.run [21] 40 ?_
    simp [wp, stepI, ln, jmp, cmpI, Value.category, rd, tyF, vrs, vrn, ex_rr, ex_rn, ex_nr, ex_nn, okA_s, okA_n, st1, st2, clr, isLg, CB, inx_0, inx_1, inx_2, inx_3, inx_4, inx_5, bI_0, bI_1, bI_ok, fin3, tyX3, entL, q0, r1, k0, tyX8, dX3_takeWord_0, dX3_takeWord_1, fT_3_21, dX3_takeWord_4, fT_3_74, dX3_takeWord_7, dX3_takeWord_8, dX3_takeWord_11, dX3_takeWord_12, dX3_takeWord_13, dX3_takeWord_16, dX3_takeWord_17, dX3_takeWord_18, dX3_takeWord_21, dX3_takeWord_24, dX3_takeWord_25]
    refine hG.callV dX3_takeWord_21 mv_3_123 [] [] (c8_step l X (d - 1) sh mI mL mR n (R + 13) TP g1.2.2.2.2.2.2.2.2.2.2.1 t N g2 (lxE t N p) (lxE_le g4).2 g3.1 (by omega)) ⟨_, rfl, rfl⟩ k0 (by omega) rfl (by decide) (by simp [Value.category]) rfl ?_
    rintro r M' ⟨rfl, mI2, mL2, mR2, rfl, k1, k2, k3, k4⟩
    refine hG.run [] 60 ?_
    simp [wp, stepI, ln, jmp, cmpI, Value.category, rd, tyF, vrs, vrn, ex_rr, ex_rn, ex_nr, ex_nn, okA_s, okA_n, st1, st2, clr, isLg, CB, inx_0, inx_1, inx_2, inx_3, inx_4, inx_5, bI_0, bI_1, bI_ok, fin3, tyX3, entL, q0, dX3_takeWord_0, dX3_takeWord_1, fT_3_21, dX3_takeWord_4, fT_3_74, dX3_takeWord_7, dX3_takeWord_8, dX3_takeWord_11, dX3_takeWord_12, dX3_takeWord_13, dX3_takeWord_16, dX3_takeWord_17, dX3_takeWord_18, dX3_takeWord_21, dX3_takeWord_24, dX3_takeWord_25]
    exact hP _ _ (TkP.ok hf hS0 (fun _ _ _ => rfl) k1 k2 k3 k4 rfl trivial)
  have no : woF t N p (w27.getD i 0) = some 1 → G 11 [some (.ref R), some (.ref w)] [] (sh, mI, mL, mR, n) := fun hf => by
    refine hG.run [13] 40 ?_
    simp [wp, stepI, ln, jmp, cmpI, Value.category, rd, tyF, vrs, vrn, ex_rr, ex_rn, ex_nr, ex_nn, okA_s, okA_n, st1, st2, clr, isLg, CB, inx_0, inx_1, inx_2, inx_3, inx_4, inx_5, bI_0, bI_1, bI_ok, fin3, tyX3, entL, q0, dX3_takeWord_0, dX3_takeWord_1, fT_3_21, dX3_takeWord_4, fT_3_74, dX3_takeWord_7, dX3_takeWord_8, dX3_takeWord_11, dX3_takeWord_12, dX3_takeWord_13, dX3_takeWord_16, dX3_takeWord_17, dX3_takeWord_18, dX3_takeWord_21, dX3_takeWord_24, dX3_takeWord_25]
    simp only [li]
    refine hG.callV dX3_takeWord_13 mv_3_116 [.int (nI 1)] [] (c3_wrong l X (d - 1) sh mI mL mR n R C TP t N p hS0 1) ⟨_, rfl, rfl⟩ q0 (by omega) rfl (by decide) (by simp [Value.category]) rfl ?_
    rintro r M' ⟨rfl, rfl⟩
    refine hG.run [] 60 ?_
    simp [wp, stepI, ln, jmp, cmpI, Value.category, rd, tyF, vrs, vrn, ex_rr, ex_rn, ex_nr, ex_nn, okA_s, okA_n, st1, st2, clr, isLg, CB, inx_0, inx_1, inx_2, inx_3, inx_4, inx_5, bI_0, bI_1, bI_ok, fin3, tyX3, entL, q0, dX3_takeWord_0, dX3_takeWord_1, fT_3_21, dX3_takeWord_4, fT_3_74, dX3_takeWord_7, dX3_takeWord_8, dX3_takeWord_11, dX3_takeWord_12, dX3_takeWord_13, dX3_takeWord_16, dX3_takeWord_17, dX3_takeWord_18, dX3_takeWord_21, dX3_takeWord_24, dX3_takeWord_25]
    exact ⟨Or.inl rfl, hP _ _ (TkP.bad 1 hf (fun _ _ _ => rfl))⟩
  have w22 : w < 1000000022 := by rw [hw]; exact Nat.lt_succ_of_lt (Nat.add_lt_add_left hi 1000000000)
  by_cases hk : lxK t N p = 1
  · rw [if_pos hk] at h6
    unfold wrd at h6
    by_cases hw1 : wix (lxWd t N p) < 21
    · rw [if_pos hw1] at h6
      obtain ⟨x, hx⟩ : ∃ x, x = 1000000000 + wix (lxWd t N p) := ⟨_, rfl⟩
      rw [← hx] at h6
      have x22 : x < 1000000022 := by rw [hx]; exact Nat.lt_succ_of_lt (Nat.add_lt_add_left hw1 1000000000)
      have ex : x = w ↔ wix (lxWd t N p) = i := by rw [hx, hw]; exact Nat.add_left_cancel_iff
      refine hG.run [11, 17] 40 ?_
      simp [wp, stepI, ln, jmp, cmpI, Value.category, rd, tyF, vrs, vrn, ex_rr, ex_rn, ex_nr, ex_nn, okA_s, okA_n, st1, st2, clr, isLg, CB, inx_0, inx_1, inx_2, inx_3, inx_4, inx_5, bI_0, bI_1, bI_ok, fin3, tyX3, entL, q0, r1, k0, tyX8, h6, dX3_takeWord_0, dX3_takeWord_1, fT_3_21, dX3_takeWord_4, fT_3_74, dX3_takeWord_7, dX3_takeWord_8, dX3_takeWord_11, dX3_takeWord_12, dX3_takeWord_13, dX3_takeWord_16, dX3_takeWord_17, dX3_takeWord_18, dX3_takeWord_21, dX3_takeWord_24, dX3_takeWord_25]
      refine ⟨⟨x22, w22⟩, fun z => yes ?_, fun z => no ?_⟩
      · unfold woF; rw [wi.mpr ⟨hk, ex.mp z⟩]; rfl
      · unfold woF; rw [if_neg (fun y => z (ex.mpr (wi.mp y).2))]
    · rw [if_neg hw1] at h6
      refine hG.run [11, 17] 40 ?_
      simp [wp, stepI, ln, jmp, cmpI, Value.category, rd, tyF, vrs, vrn, ex_rr, ex_rn, ex_nr, ex_nn, okA_s, okA_n, st1, st2, clr, isLg, CB, inx_0, inx_1, inx_2, inx_3, inx_4, inx_5, bI_0, bI_1, bI_ok, fin3, tyX3, entL, q0, r1, k0, tyX8, h6, dX3_takeWord_0, dX3_takeWord_1, fT_3_21, dX3_takeWord_4, fT_3_74, dX3_takeWord_7, dX3_takeWord_8, dX3_takeWord_11, dX3_takeWord_12, dX3_takeWord_13, dX3_takeWord_16, dX3_takeWord_17, dX3_takeWord_18, dX3_takeWord_21, dX3_takeWord_24, dX3_takeWord_25]
      refine ⟨w22, no ?_⟩
      unfold woF; rw [if_neg (fun y => hw1 (by have := (wi.mp y).2; omega))]
  · rw [if_neg hk] at h6
    refine hG.run [11, 17] 40 ?_
    simp [wp, stepI, ln, jmp, cmpI, Value.category, rd, tyF, vrs, vrn, ex_rr, ex_rn, ex_nr, ex_nn, okA_s, okA_n, st1, st2, clr, isLg, CB, inx_0, inx_1, inx_2, inx_3, inx_4, inx_5, bI_0, bI_1, bI_ok, fin3, tyX3, entL, q0, r1, k0, tyX8, h6, dX3_takeWord_0, dX3_takeWord_1, fT_3_21, dX3_takeWord_4, fT_3_74, dX3_takeWord_7, dX3_takeWord_8, dX3_takeWord_11, dX3_takeWord_12, dX3_takeWord_13, dX3_takeWord_16, dX3_takeWord_17, dX3_takeWord_18, dX3_takeWord_21, dX3_takeWord_24, dX3_takeWord_25]
    refine ⟨w22, no ?_⟩
    unfold woF; rw [if_neg (fun y => hk (wi.mp y).1)]
set_option maxHeartbeats 4000000 in
set_option maxRecDepth 100000 in
theorem c3_takeSign (l : Launch) (X : Cx) (d : Nat) (sh : Nat → Option Sh) (mI : Nat → Nat → Int32) (mL : Nat → Nat → Int64) (mR : Nat → Nat → Option Nat) (n : Nat) (R C TP : Nat) (t : Nat → Nat) (N p : Nat) (hS : RsM sh mI mL mR R C TP t N p) (s : Nat) (hs : 40 ≤ s) (hs2 : s < 128) (hd : 3 ≤ d) : Cn l X yX3_takeSign cX3_takeSign 2 (some .boolean) d [.ref R, .int (nI s)] (sh, mI, mL, mR, n) (TkP sh mI mL mR n R C TP t N p (sgF t N p s) (fun _ => True)) 0 0 := by
  refine Cn.run 3 false (by decide) rfl (by decide) (by simp [entA, Value.category]) ?_
  intro P G hP hG
  have hS0 := hS
  obtain ⟨g1, g2, g3, g4⟩ := hS
  have q0 := g1.1
  have r1 := g1.2.2.2.1
  have k0 := g1.2.2.2.2.2.2.2.2.2.2.1.1
  have kd := g3.2.2.1
  have ci := ckd_iff (t := t) (N := N) (p := p)
  have cl := ci.2.2.2.2
  have wi := ci.2.2.2.1 s hs
  have yes : sgF t N p s = none → G 17 [some (.ref R), some (.int (nI s))] [] (sh, mI, mL, mR, n) := fun hf => by
    refine hG.run [21] 40 ?_
    simp [wp, stepI, ln, jmp, cmpI, Value.category, rd, tyF, vrs, vrn, ex_rr, ex_rn, ex_nr, ex_nn, okA_s, okA_n, st1, st2, clr, isLg, CB, inx_0, inx_1, inx_2, inx_3, inx_4, inx_5, bI_0, bI_1, bI_ok, fin3, tyX3, entL, q0, r1, k0, tyX8, dX3_takeSign_0, dX3_takeSign_1, fT_3_21, dX3_takeSign_4, fT_3_67, dX3_takeSign_7, dX3_takeSign_8, dX3_takeSign_11, dX3_takeSign_12, dX3_takeSign_13, dX3_takeSign_16, dX3_takeSign_17, dX3_takeSign_18, dX3_takeSign_21, dX3_takeSign_24, dX3_takeSign_25]
    refine hG.callV dX3_takeSign_21 mv_3_123 [] [] (c8_step l X (d - 1) sh mI mL mR n (R + 13) TP g1.2.2.2.2.2.2.2.2.2.2.1 t N g2 (lxE t N p) (lxE_le g4).2 g3.1 (by omega)) ⟨_, rfl, rfl⟩ k0 (by omega) rfl (by decide) (by simp [Value.category]) rfl ?_
    rintro r M' ⟨rfl, mI2, mL2, mR2, rfl, k1, k2, k3, k4⟩
    refine hG.run [] 60 ?_
    simp [wp, stepI, ln, jmp, cmpI, Value.category, rd, tyF, vrs, vrn, ex_rr, ex_rn, ex_nr, ex_nn, okA_s, okA_n, st1, st2, clr, isLg, CB, inx_0, inx_1, inx_2, inx_3, inx_4, inx_5, bI_0, bI_1, bI_ok, fin3, tyX3, entL, q0, dX3_takeSign_0, dX3_takeSign_1, fT_3_21, dX3_takeSign_4, fT_3_67, dX3_takeSign_7, dX3_takeSign_8, dX3_takeSign_11, dX3_takeSign_12, dX3_takeSign_13, dX3_takeSign_16, dX3_takeSign_17, dX3_takeSign_18, dX3_takeSign_21, dX3_takeSign_24, dX3_takeSign_25]
    exact hP _ _ (TkP.ok hf hS0 (fun _ _ _ => rfl) k1 k2 k3 k4 rfl trivial)
  have no : sgF t N p s = some 1 → G 11 [some (.ref R), some (.int (nI s))] [] (sh, mI, mL, mR, n) := fun hf => by
    refine hG.run [13] 40 ?_
    simp [wp, stepI, ln, jmp, cmpI, Value.category, rd, tyF, vrs, vrn, ex_rr, ex_rn, ex_nr, ex_nn, okA_s, okA_n, st1, st2, clr, isLg, CB, inx_0, inx_1, inx_2, inx_3, inx_4, inx_5, bI_0, bI_1, bI_ok, fin3, tyX3, entL, q0, dX3_takeSign_0, dX3_takeSign_1, fT_3_21, dX3_takeSign_4, fT_3_67, dX3_takeSign_7, dX3_takeSign_8, dX3_takeSign_11, dX3_takeSign_12, dX3_takeSign_13, dX3_takeSign_16, dX3_takeSign_17, dX3_takeSign_18, dX3_takeSign_21, dX3_takeSign_24, dX3_takeSign_25]
    simp only [li]
    refine hG.callV dX3_takeSign_13 mv_3_116 [.int (nI 1)] [] (c3_wrong l X (d - 1) sh mI mL mR n R C TP t N p hS0 1) ⟨_, rfl, rfl⟩ q0 (by omega) rfl (by decide) (by simp [Value.category]) rfl ?_
    rintro r M' ⟨rfl, rfl⟩
    refine hG.run [] 60 ?_
    simp [wp, stepI, ln, jmp, cmpI, Value.category, rd, tyF, vrs, vrn, ex_rr, ex_rn, ex_nr, ex_nn, okA_s, okA_n, st1, st2, clr, isLg, CB, inx_0, inx_1, inx_2, inx_3, inx_4, inx_5, bI_0, bI_1, bI_ok, fin3, tyX3, entL, q0, dX3_takeSign_0, dX3_takeSign_1, fT_3_21, dX3_takeSign_4, fT_3_67, dX3_takeSign_7, dX3_takeSign_8, dX3_takeSign_11, dX3_takeSign_12, dX3_takeSign_13, dX3_takeSign_16, dX3_takeSign_17, dX3_takeSign_18, dX3_takeSign_21, dX3_takeSign_24, dX3_takeSign_25]
    exact ⟨Or.inl rfl, hP _ _ (TkP.bad 1 hf (fun _ _ _ => rfl))⟩
  refine hG.run [11, 17] 40 ?_
  simp [wp, stepI, ln, jmp, cmpI, Value.category, rd, tyF, vrs, vrn, ex_rr, ex_rn, ex_nr, ex_nn, okA_s, okA_n, st1, st2, clr, isLg, CB, inx_0, inx_1, inx_2, inx_3, inx_4, inx_5, bI_0, bI_1, bI_ok, fin3, tyX3, entL, q0, r1, k0, tyX8, dX3_takeSign_0, dX3_takeSign_1, fT_3_21, dX3_takeSign_4, fT_3_67, dX3_takeSign_7, dX3_takeSign_8, dX3_takeSign_11, dX3_takeSign_12, dX3_takeSign_13, dX3_takeSign_16, dX3_takeSign_17, dX3_takeSign_18, dX3_takeSign_21, dX3_takeSign_24, dX3_takeSign_25]
  rw [kd]
  simp (disch := omega) only [li, nI_add, nI_clamp, nI_ltI, nI_leI, nI_eq, inx_iff, a31, nI_1shl', nI_shr', div_bit, tb1, tb0, fa_or, fa_and, nI_not, pk_sub, nI_dec]
  refine ⟨fun z => yes ?_, fun z => no ?_⟩
  · unfold sgF; rw [wi.mp z]; rfl
  · unfold sgF; rw [if_neg (fun y => z (wi.mpr y))]
set_option maxHeartbeats 4000000 in
set_option maxRecDepth 100000 in
theorem c3_takeNumber (l : Launch) (X : Cx) (d : Nat) (sh : Nat → Option Sh) (mI : Nat → Nat → Int32) (mL : Nat → Nat → Int64) (mR : Nat → Nat → Option Nat) (n : Nat) (R C TP : Nat) (t : Nat → Nat) (N p : Nat) (hS : RsM sh mI mL mR R C TP t N p) (s : Nat) (hs2 : s < 1000) (hd : 3 ≤ d) : Cn l X yX3_takeNumber cX3_takeNumber 2 (some .boolean) d [.ref R, .int (nI s)] (sh, mI, mL, mR, n) (TkP sh mI mL mR n R C TP t N p (nuF t N p s) (fun mI' => mI' R 8 = nI (lxNm t N p))) 0 0 := by
  refine Cn.run 3 false (by decide) rfl (by decide) (by simp [entA, Value.category]) ?_
  intro P G hP hG
  have hS0 := hS
  obtain ⟨g1, g2, g3, g4⟩ := hS
  have q0 := g1.1
  have xR : R < 1000000000 := by have := g1.2.1; omega
  have r1 := g1.2.2.2.1
  have k0 := g1.2.2.2.2.2.2.2.2.2.2.1.1
  have kd := g3.2.2.1
  have ci := ckd_iff (t := t) (N := N) (p := p)
  have cl := ci.2.2.2.2
  have wi := ci.2.2.1
  by_cases hk : lxK t N p = 2
  · have nm := g3.2.2.2.1 hk
    have nl : lxNm t N p < 10000 := lxNm_lt hk
    by_cases hle : lxNm t N p ≤ s
    · have hf : nuF t N p s = none := by unfold nuF; rw [if_pos hk, if_pos hle]
      refine hG.run [49] 60 ?_
      simp [wp, stepI, ln, jmp, cmpI, Value.category, rd, tyF, vrs, vrn, ex_rr, ex_rn, ex_nr, ex_nn, okA_s, okA_n, st1, st2, clr, isLg, CB, inx_0, inx_1, inx_2, inx_3, inx_4, inx_5, bI_0, bI_1, bI_ok, fin3, tyX3, entL, q0, r1, k0, tyX8, okv, wr, finF, clT, TX3, xR, dX3_takeNumber_0, dX3_takeNumber_1, fT_3_21, dX3_takeNumber_4, fT_3_67, dX3_takeNumber_7, dX3_takeNumber_8, dX3_takeNumber_11, dX3_takeNumber_12, dX3_takeNumber_13, dX3_takeNumber_16, dX3_takeNumber_17, dX3_takeNumber_18, dX3_takeNumber_21, fT_3_226, dX3_takeNumber_24, dX3_takeNumber_25, dX3_takeNumber_28, dX3_takeNumber_29, dX3_takeNumber_30, dX3_takeNumber_33, dX3_takeNumber_34, dX3_takeNumber_35, dX3_takeNumber_36, dX3_takeNumber_39, dX3_takeNumber_42, fT_3_153, dX3_takeNumber_45, dX3_takeNumber_46, dX3_takeNumber_49, dX3_takeNumber_52, dX3_takeNumber_53]
      rw [kd, nm]
      simp (disch := omega) only [li, nI_add, nI_clamp, nI_ltI, nI_leI, nI_eq, inx_iff, a31, nI_1shl', nI_shr', div_bit, tb1, tb0, fa_or, fa_and, nI_not, pk_sub, nI_dec]
      refine ⟨fun _ => ⟨fun _ => ?_, fun z => absurd z (by omega)⟩, fun z => absurd (wi.mpr hk) z⟩
      obtain ⟨mI1, hmI1⟩ : ∃ m, m = up2 mI R 8 (nI (lxNm t N p)) := ⟨_, rfl⟩
      rw [← hmI1]
      have f1 : ∀ a k, ¬ (a = R ∧ k = 8) → mI1 a k = mI a k := fun a k h => by rw [hmI1, up2_ne h]
      have S1 : RsM sh mI1 mL mR R C TP t N p := hS0.fr (fun k => f1 _ _ (by omega)) (fun k => f1 _ _ (by have := g1.2.2.2.2.2.2.2.2.2.2.2.2.1; omega)) rfl (fun _ _ => rfl)
      obtain ⟨g1, g2, g3, g4⟩ := S1
      refine hG.callV dX3_takeNumber_49 mv_3_123 [] [] (c8_step l X (d - 1) sh mI1 mL mR n (R + 13) TP g1.2.2.2.2.2.2.2.2.2.2.1 t N g2 (lxE t N p) (lxE_le g4).2 g3.1 (by omega)) ⟨_, rfl, rfl⟩ k0 (by omega) rfl (by decide) (by simp [Value.category]) rfl ?_
      rintro r M' ⟨rfl, mI2, mL2, mR2, rfl, k1, k2, k3, k4⟩
      refine hG.run [] 60 ?_
      simp [wp, stepI, ln, jmp, cmpI, Value.category, rd, tyF, vrs, vrn, ex_rr, ex_rn, ex_nr, ex_nn, okA_s, okA_n, st1, st2, clr, isLg, CB, inx_0, inx_1, inx_2, inx_3, inx_4, inx_5, bI_0, bI_1, bI_ok, fin3, tyX3, entL, q0, dX3_takeNumber_0, dX3_takeNumber_1, fT_3_21, dX3_takeNumber_4, fT_3_67, dX3_takeNumber_7, dX3_takeNumber_8, dX3_takeNumber_11, dX3_takeNumber_12, dX3_takeNumber_13, dX3_takeNumber_16, dX3_takeNumber_17, dX3_takeNumber_18, dX3_takeNumber_21, fT_3_226, dX3_takeNumber_24, dX3_takeNumber_25, dX3_takeNumber_28, dX3_takeNumber_29, dX3_takeNumber_30, dX3_takeNumber_33, dX3_takeNumber_34, dX3_takeNumber_35, dX3_takeNumber_36, dX3_takeNumber_39, dX3_takeNumber_42, fT_3_153, dX3_takeNumber_45, dX3_takeNumber_46, dX3_takeNumber_49, dX3_takeNumber_52, dX3_takeNumber_53]
      exact hP _ _ (TkP.ok hf ⟨g1, g2, g3, g4⟩ (fun a k h => f1 a k (fun y => h (Or.inr ⟨y.1, Or.inr (Or.inl y.2)⟩))) k1 k2 k3 k4 (f1 _ _ (by omega)) (by
        rw [k1 _ _ (by omega), hmI1, up2_eq]))
    · have hf : nuF t N p s = some 4 := by unfold nuF; rw [if_pos hk, if_neg hle]
      refine hG.run [30] 60 ?_
      simp [wp, stepI, ln, jmp, cmpI, Value.category, rd, tyF, vrs, vrn, ex_rr, ex_rn, ex_nr, ex_nn, okA_s, okA_n, st1, st2, clr, isLg, CB, inx_0, inx_1, inx_2, inx_3, inx_4, inx_5, bI_0, bI_1, bI_ok, fin3, tyX3, entL, q0, r1, k0, tyX8, okv, wr, finF, clT, TX3, xR, dX3_takeNumber_0, dX3_takeNumber_1, fT_3_21, dX3_takeNumber_4, fT_3_67, dX3_takeNumber_7, dX3_takeNumber_8, dX3_takeNumber_11, dX3_takeNumber_12, dX3_takeNumber_13, dX3_takeNumber_16, dX3_takeNumber_17, dX3_takeNumber_18, dX3_takeNumber_21, fT_3_226, dX3_takeNumber_24, dX3_takeNumber_25, dX3_takeNumber_28, dX3_takeNumber_29, dX3_takeNumber_30, dX3_takeNumber_33, dX3_takeNumber_34, dX3_takeNumber_35, dX3_takeNumber_36, dX3_takeNumber_39, dX3_takeNumber_42, fT_3_153, dX3_takeNumber_45, dX3_takeNumber_46, dX3_takeNumber_49, dX3_takeNumber_52, dX3_takeNumber_53]
      rw [kd, nm]
      simp (disch := omega) only [li, nI_add, nI_clamp, nI_ltI, nI_leI, nI_eq, inx_iff, a31, nI_1shl', nI_shr', div_bit, tb1, tb0, fa_or, fa_and, nI_not, pk_sub, nI_dec]
      refine ⟨fun _ => ⟨fun z => absurd z hle, fun _ => ?_⟩, fun z => absurd (wi.mpr hk) z⟩
      refine hG.callV dX3_takeNumber_30 mv_3_116 [.int (nI 4)] [] (c3_wrong l X (d - 1) sh mI mL mR n R C TP t N p hS0 4) ⟨_, rfl, rfl⟩ q0 (by omega) rfl (by decide) (by simp [Value.category]) rfl ?_
      rintro r M' ⟨rfl, rfl⟩
      refine hG.run [] 60 ?_
      simp [wp, stepI, ln, jmp, cmpI, Value.category, rd, tyF, vrs, vrn, ex_rr, ex_rn, ex_nr, ex_nn, okA_s, okA_n, st1, st2, clr, isLg, CB, inx_0, inx_1, inx_2, inx_3, inx_4, inx_5, bI_0, bI_1, bI_ok, fin3, tyX3, entL, q0, dX3_takeNumber_0, dX3_takeNumber_1, fT_3_21, dX3_takeNumber_4, fT_3_67, dX3_takeNumber_7, dX3_takeNumber_8, dX3_takeNumber_11, dX3_takeNumber_12, dX3_takeNumber_13, dX3_takeNumber_16, dX3_takeNumber_17, dX3_takeNumber_18, dX3_takeNumber_21, fT_3_226, dX3_takeNumber_24, dX3_takeNumber_25, dX3_takeNumber_28, dX3_takeNumber_29, dX3_takeNumber_30, dX3_takeNumber_33, dX3_takeNumber_34, dX3_takeNumber_35, dX3_takeNumber_36, dX3_takeNumber_39, dX3_takeNumber_42, fT_3_153, dX3_takeNumber_45, dX3_takeNumber_46, dX3_takeNumber_49, dX3_takeNumber_52, dX3_takeNumber_53]
      exact ⟨Or.inl rfl, hP _ _ (TkP.bad 4 hf (fun _ _ _ => rfl))⟩
  · have hf : nuF t N p s = some 1 := by unfold nuF; rw [if_neg hk]
    refine hG.run [13, 17] 60 ?_
    simp [wp, stepI, ln, jmp, cmpI, Value.category, rd, tyF, vrs, vrn, ex_rr, ex_rn, ex_nr, ex_nn, okA_s, okA_n, st1, st2, clr, isLg, CB, inx_0, inx_1, inx_2, inx_3, inx_4, inx_5, bI_0, bI_1, bI_ok, fin3, tyX3, entL, q0, r1, k0, tyX8, dX3_takeNumber_0, dX3_takeNumber_1, fT_3_21, dX3_takeNumber_4, fT_3_67, dX3_takeNumber_7, dX3_takeNumber_8, dX3_takeNumber_11, dX3_takeNumber_12, dX3_takeNumber_13, dX3_takeNumber_16, dX3_takeNumber_17, dX3_takeNumber_18, dX3_takeNumber_21, fT_3_226, dX3_takeNumber_24, dX3_takeNumber_25, dX3_takeNumber_28, dX3_takeNumber_29, dX3_takeNumber_30, dX3_takeNumber_33, dX3_takeNumber_34, dX3_takeNumber_35, dX3_takeNumber_36, dX3_takeNumber_39, dX3_takeNumber_42, fT_3_153, dX3_takeNumber_45, dX3_takeNumber_46, dX3_takeNumber_49, dX3_takeNumber_52, dX3_takeNumber_53]
    rw [kd]
    simp (disch := omega) only [li, nI_add, nI_clamp, nI_ltI, nI_leI, nI_eq, inx_iff, a31, nI_1shl', nI_shr', div_bit, tb1, tb0, fa_or, fa_and, nI_not, pk_sub, nI_dec]
    refine ⟨fun z => absurd (wi.mp z) hk, fun _ => ?_⟩
    refine hG.callV dX3_takeNumber_13 mv_3_116 [.int (nI 1)] [] (c3_wrong l X (d - 1) sh mI mL mR n R C TP t N p hS0 1) ⟨_, rfl, rfl⟩ q0 (by omega) rfl (by decide) (by simp [Value.category]) rfl ?_
    rintro r M' ⟨rfl, rfl⟩
    refine hG.run [] 60 ?_
    simp [wp, stepI, ln, jmp, cmpI, Value.category, rd, tyF, vrs, vrn, ex_rr, ex_rn, ex_nr, ex_nn, okA_s, okA_n, st1, st2, clr, isLg, CB, inx_0, inx_1, inx_2, inx_3, inx_4, inx_5, bI_0, bI_1, bI_ok, fin3, tyX3, entL, q0, dX3_takeNumber_0, dX3_takeNumber_1, fT_3_21, dX3_takeNumber_4, fT_3_67, dX3_takeNumber_7, dX3_takeNumber_8, dX3_takeNumber_11, dX3_takeNumber_12, dX3_takeNumber_13, dX3_takeNumber_16, dX3_takeNumber_17, dX3_takeNumber_18, dX3_takeNumber_21, fT_3_226, dX3_takeNumber_24, dX3_takeNumber_25, dX3_takeNumber_28, dX3_takeNumber_29, dX3_takeNumber_30, dX3_takeNumber_33, dX3_takeNumber_34, dX3_takeNumber_35, dX3_takeNumber_36, dX3_takeNumber_39, dX3_takeNumber_42, fT_3_153, dX3_takeNumber_45, dX3_takeNumber_46, dX3_takeNumber_49, dX3_takeNumber_52, dX3_takeNumber_53]
    exact ⟨Or.inl rfl, hP _ _ (TkP.bad 1 hf (fun _ _ _ => rfl))⟩
/-- the fault of a pupil's name, where fst is the one told before -/
def tpF (t : Nat → Nat) (N p np : Nat) (nm : Nat → Nat) (fst : Int32) : Option Nat := if kpN t N p then some 1 else if pnm np nm (lxWd t N p) < np then (if nI (pnm np nm (lxWd t N p)) = fst then some 3 else none) else some 2
set_option maxHeartbeats 4000000 in
set_option maxRecDepth 100000 in
theorem c3_takePupil (l : Launch) (X : Cx) (d : Nat) (sh : Nat → Option Sh) (mI : Nat → Nat → Int32) (mL : Nat → Nat → Int64) (mR : Nat → Nat → Option Nat) (n : Nat) (R C TP : Nat) (t : Nat → Nat) (N p : Nat) (hS : RsM sh mI mL mR R C TP t N p) (D : DD) (hD : RdD mI mL R C D) (hV : DrV D) (fst : Int32) (hd : 3 ≤ d) : Cn l X yX3_takePupil cX3_takePupil 2 (some .boolean) d [.ref R, .int fst] (sh, mI, mL, mR, n) (TkP sh mI mL mR n R C TP t N p (tpF t N p (D 0 0) (D 1) fst) (fun mI' => mI' R 9 = nI (pnm (D 0 0) (D 1) (lxWd t N p)))) 0 0 := by
  refine Cn.run 3 false (by decide) rfl (by decide) (by simp [entA, Value.category]) ?_
  intro P G hP hG
  have hS0 := hS
  obtain ⟨g1, g2, g3, g4⟩ := hS
  have q0 := g1.1
  have xR : R < 1000000000 := by have := g1.2.1; omega
  have r1 := g1.2.2.2.1
  have k0 := g1.2.2.2.2.2.2.2.2.2.2.1.1
  have n10 : D 0 0 ≤ 10 := hV.1.1
  refine hG.run [4] 60 ?_
  simp [wp, stepI, ln, jmp, cmpI, Value.category, rd, tyF, vrs, vrn, ex_rr, ex_rn, ex_nr, ex_nn, okA_s, okA_n, st1, st2, clr, isLg, CB, inx_0, inx_1, inx_2, inx_3, inx_4, inx_5, bI_0, bI_1, bI_ok, fin3, tyX3, entL, q0, r1, k0, tyX8, dX3_takePupil_0, dX3_takePupil_1, fT_3_21, dX3_takePupil_4, dX3_takePupil_7, dX3_takePupil_10, dX3_takePupil_11, dX3_takePupil_12, dX3_takePupil_15, dX3_takePupil_16, dX3_takePupil_17, dX3_takePupil_18, dX3_takePupil_19, dX3_takePupil_22, fT_3_129, dX3_takePupil_25, dX3_takePupil_28, fT_3_174, dX3_takePupil_31, dX3_takePupil_32, dX3_takePupil_35, dX3_takePupil_36, dX3_takePupil_39, dX3_takePupil_40, dX3_takePupil_41, dX3_takePupil_44, dX3_takePupil_45, dX3_takePupil_46, dX3_takePupil_49, dX3_takePupil_50, dX3_takePupil_53, dX3_takePupil_54, dX3_takePupil_55, dX3_takePupil_58, dX3_takePupil_59, dX3_takePupil_60, dX3_takePupil_63, dX3_takePupil_66, dX3_takePupil_67]
  refine hG.callV dX3_takePupil_4 mv_3_126 [] [] (c8_isName l X (d - 1) sh mI mL mR n (R + 13) k0 t N p g3) ⟨_, rfl, rfl⟩ k0 (by omega) rfl (by decide) (by simp [Value.category]) rfl ?_
  rintro r M' ⟨rfl, rfl⟩
  cases hn : kpN t N p with
  | true =>
    have hf : tpF t N p (D 0 0) (D 1) fst = some 1 := by unfold tpF; rw [hn]; rfl
    have nb : nmB t N p = false := by unfold nmB; rw [hn]; rfl
    rw [nb]
    refine hG.run [12] 60 ?_
    simp [wp, stepI, ln, jmp, cmpI, Value.category, rd, tyF, vrs, vrn, ex_rr, ex_rn, ex_nr, ex_nn, okA_s, okA_n, st1, st2, clr, isLg, CB, inx_0, inx_1, inx_2, inx_3, inx_4, inx_5, bI_0, bI_1, bI_ok, fin3, tyX3, entL, q0, r1, k0, tyX8, dX3_takePupil_0, dX3_takePupil_1, fT_3_21, dX3_takePupil_4, dX3_takePupil_7, dX3_takePupil_10, dX3_takePupil_11, dX3_takePupil_12, dX3_takePupil_15, dX3_takePupil_16, dX3_takePupil_17, dX3_takePupil_18, dX3_takePupil_19, dX3_takePupil_22, fT_3_129, dX3_takePupil_25, dX3_takePupil_28, fT_3_174, dX3_takePupil_31, dX3_takePupil_32, dX3_takePupil_35, dX3_takePupil_36, dX3_takePupil_39, dX3_takePupil_40, dX3_takePupil_41, dX3_takePupil_44, dX3_takePupil_45, dX3_takePupil_46, dX3_takePupil_49, dX3_takePupil_50, dX3_takePupil_53, dX3_takePupil_54, dX3_takePupil_55, dX3_takePupil_58, dX3_takePupil_59, dX3_takePupil_60, dX3_takePupil_63, dX3_takePupil_66, dX3_takePupil_67]
    simp only [li]
    refine hG.callV dX3_takePupil_12 mv_3_116 [.int (nI 1)] [] (c3_wrong l X (d - 1) sh mI mL mR n R C TP t N p hS0 1) ⟨_, rfl, rfl⟩ q0 (by omega) rfl (by decide) (by simp [Value.category]) rfl ?_
    rintro r M' ⟨rfl, rfl⟩
    refine hG.run [] 60 ?_
    simp [wp, stepI, ln, jmp, cmpI, Value.category, rd, tyF, vrs, vrn, ex_rr, ex_rn, ex_nr, ex_nn, okA_s, okA_n, st1, st2, clr, isLg, CB, inx_0, inx_1, inx_2, inx_3, inx_4, inx_5, bI_0, bI_1, bI_ok, fin3, tyX3, entL, q0, dX3_takePupil_0, dX3_takePupil_1, fT_3_21, dX3_takePupil_4, dX3_takePupil_7, dX3_takePupil_10, dX3_takePupil_11, dX3_takePupil_12, dX3_takePupil_15, dX3_takePupil_16, dX3_takePupil_17, dX3_takePupil_18, dX3_takePupil_19, dX3_takePupil_22, fT_3_129, dX3_takePupil_25, dX3_takePupil_28, fT_3_174, dX3_takePupil_31, dX3_takePupil_32, dX3_takePupil_35, dX3_takePupil_36, dX3_takePupil_39, dX3_takePupil_40, dX3_takePupil_41, dX3_takePupil_44, dX3_takePupil_45, dX3_takePupil_46, dX3_takePupil_49, dX3_takePupil_50, dX3_takePupil_53, dX3_takePupil_54, dX3_takePupil_55, dX3_takePupil_58, dX3_takePupil_59, dX3_takePupil_60, dX3_takePupil_63, dX3_takePupil_66, dX3_takePupil_67]
    exact ⟨Or.inl rfl, hP _ _ (TkP.bad 1 hf (fun _ _ _ => rfl))⟩
  | false =>
    have nb : nmB t N p = true := by unfold nmB; rw [hn]; rfl
    have hk : lxK t N p = 1 := by
      unfold kpN at hn
      rw [Bool.or_eq_false_iff] at hn
      have := hn.1
      simpa using this
    have v8 := (lxWd_v hk).1
    have nm := g3.2.2.2.2.1 hk
    rw [nb]
    refine hG.run [25] 60 ?_
    simp [wp, stepI, ln, jmp, cmpI, Value.category, rd, tyF, vrs, vrn, ex_rr, ex_rn, ex_nr, ex_nn, okA_s, okA_n, st1, st2, clr, isLg, CB, inx_0, inx_1, inx_2, inx_3, inx_4, inx_5, bI_0, bI_1, bI_ok, fin3, tyX3, entL, q0, r1, k0, tyX8, dX3_takePupil_0, dX3_takePupil_1, fT_3_21, dX3_takePupil_4, dX3_takePupil_7, dX3_takePupil_10, dX3_takePupil_11, dX3_takePupil_12, dX3_takePupil_15, dX3_takePupil_16, dX3_takePupil_17, dX3_takePupil_18, dX3_takePupil_19, dX3_takePupil_22, fT_3_129, dX3_takePupil_25, dX3_takePupil_28, fT_3_174, dX3_takePupil_31, dX3_takePupil_32, dX3_takePupil_35, dX3_takePupil_36, dX3_takePupil_39, dX3_takePupil_40, dX3_takePupil_41, dX3_takePupil_44, dX3_takePupil_45, dX3_takePupil_46, dX3_takePupil_49, dX3_takePupil_50, dX3_takePupil_53, dX3_takePupil_54, dX3_takePupil_55, dX3_takePupil_58, dX3_takePupil_59, dX3_takePupil_60, dX3_takePupil_63, dX3_takePupil_66, dX3_takePupil_67]
    rw [nm]
    refine hG.callV dX3_takePupil_25 mv_3_133 [.long (lN (cv8 (lxWd t N p)))] [.ref R] (c3_pupilNamed l X (d - 1) sh mI mL mR n R C TP g1 D hD hV _ v8) ⟨_, rfl, rfl⟩ q0 (by omega) rfl (by decide) (by simp [Value.category]) rfl ?_
    rintro r M' ⟨rfl, rfl⟩
    obtain ⟨mI1, hmI1⟩ : ∃ m, m = up2 mI R 9 (pnI (D 0 0) (D 1) (lxWd t N p)) := ⟨_, rfl⟩
    have f1 : ∀ a k, ¬ (a = R ∧ k = 9) → mI1 a k = mI a k := fun a k h => by rw [hmI1, up2_ne h]
    have f2 : ∀ a k, ¬ rdW R a k → mI1 a k = mI a k := fun a k h => f1 a k (fun y => h (Or.inr ⟨y.1, Or.inr (Or.inr y.2)⟩))
    have S1 : RsM sh mI1 mL mR R C TP t N p := hS0.fr (fun k => f1 _ _ (by omega)) (fun k => f1 _ _ (by have := g1.2.2.2.2.2.2.2.2.2.2.2.2.1; omega)) rfl (fun _ _ => rfl)
    have w1 : mI1 R 9 = pnI (D 0 0) (D 1) (lxWd t N p) := by rw [hmI1, up2_eq]
    obtain ⟨u, hu⟩ : ∃ u, u = pnm (D 0 0) (D 1) (lxWd t N p) := ⟨_, rfl⟩
    refine hG.run [31] 60 ?_
    simp [wp, stepI, ln, jmp, cmpI, Value.category, rd, tyF, vrs, vrn, ex_rr, ex_rn, ex_nr, ex_nn, okA_s, okA_n, st1, st2, clr, isLg, CB, inx_0, inx_1, inx_2, inx_3, inx_4, inx_5, bI_0, bI_1, bI_ok, fin3, tyX3, entL, q0, r1, k0, tyX8, okv, wr, finF, clT, TX3, xR, dX3_takePupil_0, dX3_takePupil_1, fT_3_21, dX3_takePupil_4, dX3_takePupil_7, dX3_takePupil_10, dX3_takePupil_11, dX3_takePupil_12, dX3_takePupil_15, dX3_takePupil_16, dX3_takePupil_17, dX3_takePupil_18, dX3_takePupil_19, dX3_takePupil_22, fT_3_129, dX3_takePupil_25, dX3_takePupil_28, fT_3_174, dX3_takePupil_31, dX3_takePupil_32, dX3_takePupil_35, dX3_takePupil_36, dX3_takePupil_39, dX3_takePupil_40, dX3_takePupil_41, dX3_takePupil_44, dX3_takePupil_45, dX3_takePupil_46, dX3_takePupil_49, dX3_takePupil_50, dX3_takePupil_53, dX3_takePupil_54, dX3_takePupil_55, dX3_takePupil_58, dX3_takePupil_59, dX3_takePupil_60, dX3_takePupil_63, dX3_takePupil_66, dX3_takePupil_67]
    rw [← hmI1]
    by_cases hl : pnm (D 0 0) (D 1) (lxWd t N p) < D 0 0
    · have e1 : pnI (D 0 0) (D 1) (lxWd t N p) = nI u := by unfold pnI; rw [if_pos hl, hu]
      rw [e1] at w1
      have um : ¬ nI u = -1 := fun z => by
        have : ∀ x : Fin 10, ¬ nI x.val = -1 := by decide
        exact this ⟨u, by omega⟩ z
      by_cases hq : nI u = fst
      · have hf : tpF t N p (D 0 0) (D 1) fst = some 3 := by unfold tpF; rw [hn, if_pos hl, ← hu, if_pos hq]; rfl
        refine hG.run [41, 55] 60 ?_
        simp [wp, stepI, ln, jmp, cmpI, Value.category, rd, tyF, vrs, vrn, ex_rr, ex_rn, ex_nr, ex_nn, okA_s, okA_n, st1, st2, clr, isLg, CB, inx_0, inx_1, inx_2, inx_3, inx_4, inx_5, bI_0, bI_1, bI_ok, fin3, tyX3, entL, q0, r1, k0, tyX8, w1, dX3_takePupil_0, dX3_takePupil_1, fT_3_21, dX3_takePupil_4, dX3_takePupil_7, dX3_takePupil_10, dX3_takePupil_11, dX3_takePupil_12, dX3_takePupil_15, dX3_takePupil_16, dX3_takePupil_17, dX3_takePupil_18, dX3_takePupil_19, dX3_takePupil_22, fT_3_129, dX3_takePupil_25, dX3_takePupil_28, fT_3_174, dX3_takePupil_31, dX3_takePupil_32, dX3_takePupil_35, dX3_takePupil_36, dX3_takePupil_39, dX3_takePupil_40, dX3_takePupil_41, dX3_takePupil_44, dX3_takePupil_45, dX3_takePupil_46, dX3_takePupil_49, dX3_takePupil_50, dX3_takePupil_53, dX3_takePupil_54, dX3_takePupil_55, dX3_takePupil_58, dX3_takePupil_59, dX3_takePupil_60, dX3_takePupil_63, dX3_takePupil_66, dX3_takePupil_67]
        refine ⟨fun _ => ⟨fun z => absurd hq z, fun _ => ?_⟩, fun z => absurd z um⟩
        simp only [li]
        refine hG.callV dX3_takePupil_55 mv_3_116 [.int (nI 3)] [] (c3_wrong l X (d - 1) sh mI1 mL mR n R C TP t N p S1 3) ⟨_, rfl, rfl⟩ q0 (by omega) rfl (by decide) (by simp [Value.category]) rfl ?_
        rintro r M' ⟨rfl, rfl⟩
        refine hG.run [] 60 ?_
        simp [wp, stepI, ln, jmp, cmpI, Value.category, rd, tyF, vrs, vrn, ex_rr, ex_rn, ex_nr, ex_nn, okA_s, okA_n, st1, st2, clr, isLg, CB, inx_0, inx_1, inx_2, inx_3, inx_4, inx_5, bI_0, bI_1, bI_ok, fin3, tyX3, entL, q0, dX3_takePupil_0, dX3_takePupil_1, fT_3_21, dX3_takePupil_4, dX3_takePupil_7, dX3_takePupil_10, dX3_takePupil_11, dX3_takePupil_12, dX3_takePupil_15, dX3_takePupil_16, dX3_takePupil_17, dX3_takePupil_18, dX3_takePupil_19, dX3_takePupil_22, fT_3_129, dX3_takePupil_25, dX3_takePupil_28, fT_3_174, dX3_takePupil_31, dX3_takePupil_32, dX3_takePupil_35, dX3_takePupil_36, dX3_takePupil_39, dX3_takePupil_40, dX3_takePupil_41, dX3_takePupil_44, dX3_takePupil_45, dX3_takePupil_46, dX3_takePupil_49, dX3_takePupil_50, dX3_takePupil_53, dX3_takePupil_54, dX3_takePupil_55, dX3_takePupil_58, dX3_takePupil_59, dX3_takePupil_60, dX3_takePupil_63, dX3_takePupil_66, dX3_takePupil_67]
        exact ⟨Or.inl rfl, hP _ _ (TkP.bad 3 hf f2)⟩
      · have hf : tpF t N p (D 0 0) (D 1) fst = none := by unfold tpF; rw [hn, if_pos hl, ← hu, if_neg hq]; rfl
        refine hG.run [63, 55, 41] 60 ?_
        simp [wp, stepI, ln, jmp, cmpI, Value.category, rd, tyF, vrs, vrn, ex_rr, ex_rn, ex_nr, ex_nn, okA_s, okA_n, st1, st2, clr, isLg, CB, inx_0, inx_1, inx_2, inx_3, inx_4, inx_5, bI_0, bI_1, bI_ok, fin3, tyX3, entL, q0, r1, k0, tyX8, w1, dX3_takePupil_0, dX3_takePupil_1, fT_3_21, dX3_takePupil_4, dX3_takePupil_7, dX3_takePupil_10, dX3_takePupil_11, dX3_takePupil_12, dX3_takePupil_15, dX3_takePupil_16, dX3_takePupil_17, dX3_takePupil_18, dX3_takePupil_19, dX3_takePupil_22, fT_3_129, dX3_takePupil_25, dX3_takePupil_28, fT_3_174, dX3_takePupil_31, dX3_takePupil_32, dX3_takePupil_35, dX3_takePupil_36, dX3_takePupil_39, dX3_takePupil_40, dX3_takePupil_41, dX3_takePupil_44, dX3_takePupil_45, dX3_takePupil_46, dX3_takePupil_49, dX3_takePupil_50, dX3_takePupil_53, dX3_takePupil_54, dX3_takePupil_55, dX3_takePupil_58, dX3_takePupil_59, dX3_takePupil_60, dX3_takePupil_63, dX3_takePupil_66, dX3_takePupil_67]
        refine ⟨fun _ => ⟨fun _ => ?_, fun z => absurd z hq⟩, fun z => absurd z um⟩
        obtain ⟨g1, g2, g3, g4⟩ := S1
        refine hG.callV dX3_takePupil_63 mv_3_123 [] [] (c8_step l X (d - 1) sh mI1 mL mR n (R + 13) TP g1.2.2.2.2.2.2.2.2.2.2.1 t N g2 (lxE t N p) (lxE_le g4).2 g3.1 (by omega)) ⟨_, rfl, rfl⟩ k0 (by omega) rfl (by decide) (by simp [Value.category]) rfl ?_
        rintro r M' ⟨rfl, mI2, mL2, mR2, rfl, k1, k2, k3, k4⟩
        refine hG.run [] 60 ?_
        simp [wp, stepI, ln, jmp, cmpI, Value.category, rd, tyF, vrs, vrn, ex_rr, ex_rn, ex_nr, ex_nn, okA_s, okA_n, st1, st2, clr, isLg, CB, inx_0, inx_1, inx_2, inx_3, inx_4, inx_5, bI_0, bI_1, bI_ok, fin3, tyX3, entL, q0, dX3_takePupil_0, dX3_takePupil_1, fT_3_21, dX3_takePupil_4, dX3_takePupil_7, dX3_takePupil_10, dX3_takePupil_11, dX3_takePupil_12, dX3_takePupil_15, dX3_takePupil_16, dX3_takePupil_17, dX3_takePupil_18, dX3_takePupil_19, dX3_takePupil_22, fT_3_129, dX3_takePupil_25, dX3_takePupil_28, fT_3_174, dX3_takePupil_31, dX3_takePupil_32, dX3_takePupil_35, dX3_takePupil_36, dX3_takePupil_39, dX3_takePupil_40, dX3_takePupil_41, dX3_takePupil_44, dX3_takePupil_45, dX3_takePupil_46, dX3_takePupil_49, dX3_takePupil_50, dX3_takePupil_53, dX3_takePupil_54, dX3_takePupil_55, dX3_takePupil_58, dX3_takePupil_59, dX3_takePupil_60, dX3_takePupil_63, dX3_takePupil_66, dX3_takePupil_67]
        exact hP _ _ (TkP.ok hf ⟨g1, g2, g3, g4⟩ f2 k1 k2 k3 k4 (f1 _ _ (by omega)) (by
          rw [k1 _ _ (by omega), w1, hu]))
    · have hf : tpF t N p (D 0 0) (D 1) fst = some 2 := by unfold tpF; rw [hn, if_neg hl]; rfl
      have e1 : pnI (D 0 0) (D 1) (lxWd t N p) = -nI 1 := by unfold pnI; rw [if_neg hl]
      rw [e1] at w1
      refine hG.run [41, 55, 63] 60 ?_
      simp [wp, stepI, ln, jmp, cmpI, Value.category, rd, tyF, vrs, vrn, ex_rr, ex_rn, ex_nr, ex_nn, okA_s, okA_n, st1, st2, clr, isLg, CB, inx_0, inx_1, inx_2, inx_3, inx_4, inx_5, bI_0, bI_1, bI_ok, fin3, tyX3, entL, q0, r1, k0, tyX8, w1, dX3_takePupil_0, dX3_takePupil_1, fT_3_21, dX3_takePupil_4, dX3_takePupil_7, dX3_takePupil_10, dX3_takePupil_11, dX3_takePupil_12, dX3_takePupil_15, dX3_takePupil_16, dX3_takePupil_17, dX3_takePupil_18, dX3_takePupil_19, dX3_takePupil_22, fT_3_129, dX3_takePupil_25, dX3_takePupil_28, fT_3_174, dX3_takePupil_31, dX3_takePupil_32, dX3_takePupil_35, dX3_takePupil_36, dX3_takePupil_39, dX3_takePupil_40, dX3_takePupil_41, dX3_takePupil_44, dX3_takePupil_45, dX3_takePupil_46, dX3_takePupil_49, dX3_takePupil_50, dX3_takePupil_53, dX3_takePupil_54, dX3_takePupil_55, dX3_takePupil_58, dX3_takePupil_59, dX3_takePupil_60, dX3_takePupil_63, dX3_takePupil_66, dX3_takePupil_67]
      refine ⟨fun z => absurd rfl z, fun _ => ?_⟩
      simp only [li]
      refine hG.callV dX3_takePupil_41 mv_3_116 [.int (nI 2)] [] (c3_wrong l X (d - 1) sh mI1 mL mR n R C TP t N p S1 2) ⟨_, rfl, rfl⟩ q0 (by omega) rfl (by decide) (by simp [Value.category]) rfl ?_
      rintro r M' ⟨rfl, rfl⟩
      refine hG.run [] 60 ?_
      simp [wp, stepI, ln, jmp, cmpI, Value.category, rd, tyF, vrs, vrn, ex_rr, ex_rn, ex_nr, ex_nn, okA_s, okA_n, st1, st2, clr, isLg, CB, inx_0, inx_1, inx_2, inx_3, inx_4, inx_5, bI_0, bI_1, bI_ok, fin3, tyX3, entL, q0, dX3_takePupil_0, dX3_takePupil_1, fT_3_21, dX3_takePupil_4, dX3_takePupil_7, dX3_takePupil_10, dX3_takePupil_11, dX3_takePupil_12, dX3_takePupil_15, dX3_takePupil_16, dX3_takePupil_17, dX3_takePupil_18, dX3_takePupil_19, dX3_takePupil_22, fT_3_129, dX3_takePupil_25, dX3_takePupil_28, fT_3_174, dX3_takePupil_31, dX3_takePupil_32, dX3_takePupil_35, dX3_takePupil_36, dX3_takePupil_39, dX3_takePupil_40, dX3_takePupil_41, dX3_takePupil_44, dX3_takePupil_45, dX3_takePupil_46, dX3_takePupil_49, dX3_takePupil_50, dX3_takePupil_53, dX3_takePupil_54, dX3_takePupil_55, dX3_takePupil_58, dX3_takePupil_59, dX3_takePupil_60, dX3_takePupil_63, dX3_takePupil_66, dX3_takePupil_67]
      exact ⟨Or.inl rfl, hP _ _ (TkP.bad 2 hf f2)⟩
