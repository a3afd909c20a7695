/-! the row is a row of all -/
theorem rowN_ok {np c : Nat} {fi se ma : Nat → Nat} (hc : c ≤ 40) (hnp : np ≤ 10) {i : Nat} (hi : i < np) : rowN np c fi se ma i < np ∧ (rwT np c fi se ma (-nI 1) (fewC np c fi se ma (-nI 1)) i).testBit (rowN np c fi se ma i) = false := by
  have hF := fewC_ok np c fi se ma (-nI 1)
  obtain ⟨h1, h2⟩ := rwT_ok hF hc hnp i (by omega)
  have h3 : rwT np c fi se ma (-nI 1) (fewC np c fi se ma (-nI 1)) i < 2 ^ np - 1 := by
    rcases Nat.lt_or_ge (rwT np c fi se ma (-nI 1) (fewC np c fi se ma (-nI 1)) i) (2 ^ np - 1) with z | z
    · exact z
    · have e : rwT np c fi se ma (-nI 1) (fewC np c fi se ma (-nI 1)) i = 2 ^ np - 1 := by omega
      have : cnp np (2 ^ np - 1) = np := fb_ct_all.mpr fun k hk => by rw [Nat.testBit_two_pow_sub_one, decide_eq_true hk]
      rw [e, this] at h2
      omega
  have h4 := nxP_ok hF hc hnp h3
  have h5 := fa_first_yes (nxB c fi se ma (-nI 1) (fewC np c fi se ma (-nI 1)) (rwT np c fi se ma (-nI 1) (fewC np c fi se ma (-nI 1)) i)) np h4
  unfold nxB at h5
  simp only [Bool.and_eq_true, Bool.not_eq_true'] at h5
  exact ⟨h4, h5.1⟩
theorem rwT_in {np c : Nat} {fi se ma : Nat → Nat} {w : Int32} {F : Nat → Nat} : ∀ j i, i < j → (rwT np c fi se ma w F j).testBit (nxP np c fi se ma w F (rwT np c fi se ma w F i)) = true
  | 0, i, h => by omega
  | j + 1, i, h => by
    rw [rwT, Nat.testBit_or]
    rcases Nat.lt_or_ge i j with y | y
    · rw [rwT_in j i y]; rfl
    · rw [show i = j by omega, Nat.testBit_two_pow, decide_eq_true rfl, Bool.or_true]
theorem rowN_inj {np c : Nat} {fi se ma : Nat → Nat} (hc : c ≤ 40) (hnp : np ≤ 10) {i j : Nat} (hij : i < j) (hj : j < np) : rowN np c fi se ma i ≠ rowN np c fi se ma j := fun e => by
  have h1 := (rowN_ok (fi := fi) (se := se) (ma := ma) hc hnp hj).2
  have h2 := rwT_in (np := np) (c := c) (fi := fi) (se := se) (ma := ma) (w := -nI 1) (F := fewC np c fi se ma (-nI 1)) j i hij
  rw [← e] at h1
  unfold rowN at h1
  rw [h1] at h2
  cases h2
theorem rowN_on {np c : Nat} {fi se ma : Nat → Nat} (hc : c ≤ 40) (hnp : np ≤ 10) {p : Nat} (hp : p < np) : ∃ i, i < np ∧ rowN np c fi se ma i = p := fb_onto (fun i hi => (rowN_ok hc hnp hi).1) (fun i j hij hj => rowN_inj hc hnp hij hj) hp
/-- the place in a row -/
def plN (rw : Nat → Nat) (np p : Nat) : Nat := fa_first (fun i => decide (rw i = p)) np
theorem plN_lt {rw : Nat → Nat} {np p : Nat} (h : ∃ i, i < np ∧ rw i = p) : plN rw np p < np ∧ rw (plN rw np p) = p := by
  obtain ⟨i, hi, e⟩ := h
  have h1 := fa_first_le (fun i => decide (rw i = p)) np
  have h2 : plN rw np p < np := by
    rcases Nat.lt_or_ge (plN rw np p) np with y | y
    · exact y
    · have := fa_first_no (fun i => decide (rw i = p)) np i (by unfold plN at y; omega)
      rw [decide_eq_true e] at this; cases this
  exact ⟨h2, of_decide_eq_true (fa_first_yes (fun i => decide (rw i = p)) np h2)⟩
set_option maxHeartbeats 4000000 in
set_option maxRecDepth 100000 in
theorem c12_placeOf (l : Launch) (X : Cx) (d : Nat) (sh : Nat → Option Sh) (mI : Nat → Nat → Int32) (mL : Nat → Nat → Int64) (mR : Nat → Nat → Option Nat) (n : Nat) (hL : ML sh mR) (np : Nat) (hnp : np ≤ 10) (rw : Nat → Nat) (hr : ∀ i, i < np → mI 163 i = nI (rw i) ∧ rw i < np) (p : Nat) (hpn : p < np) (hx : ∃ i, i < np ∧ rw i = p) : Cn l X yX12_placeOf cX12_placeOf 3 (some .int) d [.ref 129, .int (nI p)] (sh, mI, mL, mR, n) (fun r M' => M' = (sh, mI, mL, mR, n) ∧ r = some (.int (nI (plN rw np p)))) 0 0 := by
  refine Cn.run 12 false (by decide) rfl (by decide) (by simp [entA, Value.category]) ?_
  intro P G hP hG
  have q0 := hL.1
  have q_rowBest := hL.2 (48, 163, .int, 10) (by decide)
  dsimp only at q_rowBest
  obtain ⟨h1, h2⟩ := plN_lt hx
  have loop : ∀ f i, plN rw np p - i < f → i ≤ plN rw np p → G 2 [some (.ref 129), some (.int (nI p)), some (.int (nI i))] [] (sh, mI, mL, mR, n) := by
    intro f
    induction f with
    | zero => intro i h; omega
    | succ f ih =>
      intro i hf hi
      obtain ⟨r1, r2⟩ := hr i (by omega)
      refine hG.run [2] 30 ?_
      simp [wp, stepI, ln, jmp, cmpI, Value.category, rd, tyF, va_rf, st1, st2, clr, isLg, CB, inx_0, inx_1, inx_2, inx_3, inx_4, inx_5, bI_0, bI_1, bI_ok, fin3, tyX12, entL, q0, q_rowBest, dX12_placeOf_0, dX12_placeOf_1, dX12_placeOf_2, dX12_placeOf_3, fT_12_111, dX12_placeOf_6, dX12_placeOf_7, dX12_placeOf_8, dX12_placeOf_9, dX12_placeOf_12, dX12_placeOf_15, dX12_placeOf_18, dX12_placeOf_19]
      simp (disch := omega) only [li, nI_add, nI_clamp, nI_ltI, nI_leI, nI_eq, inx_iff, a31, nI_1shl', nI_shr', div_bit, tb1, tb0, fa_or, fa_and, nI_not, pk_sub, nI_dec, r1]
      have nxt : ¬ rw i = p → i + 1 ≤ plN rw np p := fun z => by
        rcases Nat.lt_or_ge i (plN rw np p) with y | y
        · omega
        · exact absurd (by rw [show i = plN rw np p by omega]; exact h2) z
      refine ⟨by omega, fun z => hP _ _ ⟨rfl, ?_⟩, fun z => ih (i + 1) (by have := nxt z; omega) (nxt z)⟩
      · have : i = plN rw np p := by
          rcases Nat.lt_or_ge i (plN rw np p) with y | y
          · have := fa_first_no (fun i => decide (rw i = p)) np i y
            rw [decide_eq_true z] at this; cases this
          · omega
        rw [this]
  refine hG.run [2] 30 ?_
  simp [wp, stepI, ln, jmp, cmpI, Value.category, rd, tyF, va_rf, st1, st2, clr, isLg, CB, inx_0, inx_1, inx_2, inx_3, inx_4, inx_5, bI_0, bI_1, bI_ok, fin3, tyX12, entL, q0, dX12_placeOf_0, dX12_placeOf_1, dX12_placeOf_2, dX12_placeOf_3, fT_12_111, dX12_placeOf_6, dX12_placeOf_7, dX12_placeOf_8, dX12_placeOf_9, dX12_placeOf_12, dX12_placeOf_15, dX12_placeOf_18, dX12_placeOf_19]
  exact loop 11 0 (by omega) (by omega)
/-- one saying more; the first goes where there are forty -/
def heC (c : Nat) : Nat := if c = 40 then 40 else c + 1
def heF (c : Nat) (f : Nat → Nat) (x : Nat) : Nat → Nat := if c = 40 then upN (fun k => f (k + 1)) 39 x else upN f c x
theorem upN_eq (f : Nat → Nat) (i v : Nat) : upN f i v i = v := if_pos rfl
theorem upN_ne {f : Nat → Nat} {i v k : Nat} (h : k ≠ i) : upN f i v k = f k := if_neg h
set_option maxHeartbeats 4000000 in
set_option maxRecDepth 100000 in
theorem c12_hears (l : Launch) (X : Cx) (d : Nat) (sh : Nat → Option Sh) (mI : Nat → Nat → Int32) (mL : Nat → Nat → Int64) (mR : Nat → Nat → Option Nat) (n : Nat) (hL : ML sh mR) (c : Nat) (fi se ma : Nat → Nat) (hS : SayM mI c fi se ma) (x y : Nat) (hx : x < 10) (hy : y < 10) : Cn l X yX12_hears cX12_hears 4 none d [.ref 129, .int (nI x), .int (nI y)] (sh, mI, mL, mR, n) (fun r M' => r = none ∧ ∃ mI', M' = (sh, mI', mL, mR, n) ∧ Eqx [156] mI mI' ∧ (∀ k, 121 ≤ k → mI' 156 k = mI 156 k) ∧ SayM mI' (heC c) (heF c fi x) (heF c se y) (heF c ma 0)) 0 0 := by
  refine Cn.run 12 false (by decide) rfl (by decide) (by simp [entA, Value.category]) ?_
  intro P G hP hG
  have q0 := hL.1
  have q_s := hL.2 (41, 156, .int, 144) (by decide)
  dsimp only at q_s
  have hcc := hS.2.1
  have tail : ∀ c1 f1 s1 m1 mI1 v3, c1 ≤ 39 → SayM mI1 c1 f1 s1 m1 → Eqx [156] mI mI1 → (∀ k, 121 ≤ k → mI1 156 k = mI 156 k) → heC c = c1 + 1 → heF c fi x = upN f1 c1 x → heF c se y = upN s1 c1 y → heF c ma 0 = upN m1 c1 0 → G 91 [some (.ref 129), some (.int (nI x)), some (.int (nI y)), v3] [] (sh, mI1, mL, mR, n) := fun c1 f1 s1 m1 mI1 v3 h1 h2 h3 h4 h5 h6 h7 h8 => by
    have e0 := h2.1
    rw [h5, h6, h7, h8] at hP
    refine hG.run [] 80 ?_
    simp [wp, stepI, ln, jmp, cmpI, Value.category, rd, tyF, va_rf, st1, st2, clr, isLg, CB, inx_0, inx_1, inx_2, inx_3, inx_4, inx_5, bI_0, bI_1, bI_ok, fin3, tyX12, entL, q0, q_s, dX12_hears_0, dX12_hears_1, fT_12_90, dX12_hears_4, dX12_hears_5, dX12_hears_6, dX12_hears_8, dX12_hears_11, dX12_hears_12, dX12_hears_13, dX12_hears_14, dX12_hears_16, dX12_hears_19, dX12_hears_20, dX12_hears_23, dX12_hears_24, dX12_hears_25, dX12_hears_26, dX12_hears_27, dX12_hears_30, dX12_hears_31, dX12_hears_32, dX12_hears_33, dX12_hears_34, dX12_hears_35, dX12_hears_36, dX12_hears_37, dX12_hears_38, dX12_hears_41, dX12_hears_43, dX12_hears_44, dX12_hears_45, dX12_hears_46, dX12_hears_49, dX12_hears_51, dX12_hears_52, dX12_hears_53, dX12_hears_54, dX12_hears_55, dX12_hears_56, dX12_hears_57, dX12_hears_58, dX12_hears_61, dX12_hears_63, dX12_hears_64, dX12_hears_65, dX12_hears_66, dX12_hears_69, dX12_hears_71, dX12_hears_72, dX12_hears_73, dX12_hears_74, dX12_hears_75, dX12_hears_76, dX12_hears_77, dX12_hears_80, dX12_hears_83, dX12_hears_84, dX12_hears_87, dX12_hears_88, dX12_hears_90, dX12_hears_91, dX12_hears_92, dX12_hears_95, dX12_hears_96, dX12_hears_97, dX12_hears_100, dX12_hears_101, dX12_hears_102, dX12_hears_103, dX12_hears_104, dX12_hears_105, dX12_hears_106, dX12_hears_109, dX12_hears_111, dX12_hears_112, dX12_hears_115, dX12_hears_116, dX12_hears_117, dX12_hears_118, dX12_hears_119, dX12_hears_120, dX12_hears_121, dX12_hears_124, dX12_hears_126, dX12_hears_127, dX12_hears_130, dX12_hears_131, dX12_hears_132, dX12_hears_133, dX12_hears_134, dX12_hears_135, dX12_hears_136, dX12_hears_139, dX12_hears_140, dX12_hears_141, dX12_hears_142, dX12_hears_143, dX12_hears_144, dX12_hears_145]
    simp (disch := omega) only [li, nI_add, nI_clamp, nI_ltI, nI_leI, nI_eq, inx_iff, a31, nI_1shl', nI_shr', div_bit, tb1, tb0, fa_or, fa_and, nI_not, pk_sub, nI_dec, e0, up2_eq, up2_ne]
    refine ⟨by omega, by omega, by omega, hP _ _ ⟨rfl, _, rfl, (((h3.up (by decide)).up (by decide)).up (by decide)).up (by decide), fun k hk => ?_, ?_⟩⟩
    · simp (disch := omega) only [up2_eq, up2_ne]; exact h4 k hk
    · refine ⟨up2_eq _ _ _ _, by omega, fun k hk => ?_⟩
      by_cases e : k = c1
      · subst e
        simp (disch := omega) only [up2_eq, up2_ne, upN_eq]
        exact ⟨trivial, trivial, trivial, hx, hy, by decide⟩
      · obtain ⟨a1, a2, a3, a4⟩ := h2.2.2 k (by omega)
        simp (disch := omega) only [up2_eq, up2_ne, upN_ne e]
        exact ⟨a1, a2, a3, a4⟩
  have loop : c = 40 → ∀ f k mI1, 39 - k < f → k ≤ 39 → Eqx [156] mI mI1 → (∀ j, 121 ≤ j → mI1 156 j = mI 156 j) → (∀ j, j < 40 → mI1 156 (1 + j) = nI (if j < k then fi (j + 1) else fi j) ∧ mI1 156 (41 + j) = nI (if j < k then se (j + 1) else se j) ∧ mI1 156 (81 + j) = nI (if j < k then ma (j + 1) else ma j)) → G 13 [some (.ref 129), some (.int (nI x)), some (.int (nI y)), some (.int (nI k))] [] (sh, mI1, mL, mR, n) := by
    intro hc f
    induction f with
    | zero => intro k mI1 h; omega
    | succ f ih =>
      intro k mI1 hf hk g1 g2 g3
      have lst : k = 39 → G 91 [some (.ref 129), some (.int (nI x)), some (.int (nI y)), some (.int (nI k))] [] (sh, up2 mI1 156 0 (nI 39), mL, mR, n) := fun e => by
        refine tail 39 (fun j => fi (j + 1)) (fun j => se (j + 1)) (fun j => ma (j + 1)) _ _ (by omega) ⟨up2_eq _ _ _ _, by decide, fun j hj => ?_⟩ (g1.up (by decide)) (fun j hj => ?_) (by unfold heC; rw [if_pos hc]) (by unfold heF; rw [if_pos hc]) (by unfold heF; rw [if_pos hc]) (by unfold heF; rw [if_pos hc])
        · obtain ⟨a1, a2, a3⟩ := g3 j (by omega)
          rw [if_pos (by omega)] at a1 a2 a3
          simp (disch := omega) only [up2_eq, up2_ne]
          exact ⟨a1, a2, a3, (hS.2.2 (j + 1) (by omega)).2.2.2⟩
        · simp (disch := omega) only [up2_eq, up2_ne]; exact g2 j hj
      refine hG.run [13, 91] 80 ?_
      simp [wp, stepI, ln, jmp, cmpI, Value.category, rd, tyF, va_rf, st1, st2, clr, isLg, CB, inx_0, inx_1, inx_2, inx_3, inx_4, inx_5, bI_0, bI_1, bI_ok, fin3, tyX12, entL, q0, q_s, dX12_hears_0, dX12_hears_1, fT_12_90, dX12_hears_4, dX12_hears_5, dX12_hears_6, dX12_hears_8, dX12_hears_11, dX12_hears_12, dX12_hears_13, dX12_hears_14, dX12_hears_16, dX12_hears_19, dX12_hears_20, dX12_hears_23, dX12_hears_24, dX12_hears_25, dX12_hears_26, dX12_hears_27, dX12_hears_30, dX12_hears_31, dX12_hears_32, dX12_hears_33, dX12_hears_34, dX12_hears_35, dX12_hears_36, dX12_hears_37, dX12_hears_38, dX12_hears_41, dX12_hears_43, dX12_hears_44, dX12_hears_45, dX12_hears_46, dX12_hears_49, dX12_hears_51, dX12_hears_52, dX12_hears_53, dX12_hears_54, dX12_hears_55, dX12_hears_56, dX12_hears_57, dX12_hears_58, dX12_hears_61, dX12_hears_63, dX12_hears_64, dX12_hears_65, dX12_hears_66, dX12_hears_69, dX12_hears_71, dX12_hears_72, dX12_hears_73, dX12_hears_74, dX12_hears_75, dX12_hears_76, dX12_hears_77, dX12_hears_80, dX12_hears_83, dX12_hears_84, dX12_hears_87, dX12_hears_88, dX12_hears_90, dX12_hears_91, dX12_hears_92, dX12_hears_95, dX12_hears_96, dX12_hears_97, dX12_hears_100, dX12_hears_101, dX12_hears_102, dX12_hears_103, dX12_hears_104, dX12_hears_105, dX12_hears_106, dX12_hears_109, dX12_hears_111, dX12_hears_112, dX12_hears_115, dX12_hears_116, dX12_hears_117, dX12_hears_118, dX12_hears_119, dX12_hears_120, dX12_hears_121, dX12_hears_124, dX12_hears_126, dX12_hears_127, dX12_hears_130, dX12_hears_131, dX12_hears_132, dX12_hears_133, dX12_hears_134, dX12_hears_135, dX12_hears_136, dX12_hears_139, dX12_hears_140, dX12_hears_141, dX12_hears_142, dX12_hears_143, dX12_hears_144, dX12_hears_145]
      simp (disch := omega) only [li, nI_add, nI_clamp, nI_ltI, nI_leI, nI_eq, inx_iff, a31, nI_1shl', nI_shr', div_bit, tb1, tb0, fa_or, fa_and, nI_not, pk_sub, nI_dec, up2_eq, up2_ne]
      refine ⟨fun z => lst (by omega), fun z => ?_⟩
      obtain ⟨a1, a2, a3⟩ := g3 (k + 1) (by omega)
      rw [if_neg (by omega)] at a1 a2 a3
      refine ⟨by omega, by omega, by omega, by omega, by omega, by omega, ih (k + 1) _ (by omega) (by omega) (((g1.up (by decide)).up (by decide)).up (by decide)) (fun j hj => ?_) (fun j hj => ?_)⟩
      · simp (disch := omega) only [up2_eq, up2_ne]; exact g2 j hj
      · by_cases e : j = k
        · subst e
          rw [if_pos (by omega), if_pos (by omega), if_pos (by omega)]
          simp (disch := omega) only [up2_eq, up2_ne]
          exact ⟨a1, a2, a3⟩
        · have ee : (j < k + 1) = (j < k) := by rw [eq_iff_iff]; omega
          simp (disch := omega) only [up2_eq, up2_ne, ee]
          exact g3 j hj
  have e0 := hS.1
  refine hG.run [13, 91] 80 ?_
  simp [wp, stepI, ln, jmp, cmpI, Value.category, rd, tyF, va_rf, st1, st2, clr, isLg, CB, inx_0, inx_1, inx_2, inx_3, inx_4, inx_5, bI_0, bI_1, bI_ok, fin3, tyX12, entL, q0, q_s, dX12_hears_0, dX12_hears_1, fT_12_90, dX12_hears_4, dX12_hears_5, dX12_hears_6, dX12_hears_8, dX12_hears_11, dX12_hears_12, dX12_hears_13, dX12_hears_14, dX12_hears_16, dX12_hears_19, dX12_hears_20, dX12_hears_23, dX12_hears_24, dX12_hears_25, dX12_hears_26, dX12_hears_27, dX12_hears_30, dX12_hears_31, dX12_hears_32, dX12_hears_33, dX12_hears_34, dX12_hears_35, dX12_hears_36, dX12_hears_37, dX12_hears_38, dX12_hears_41, dX12_hears_43, dX12_hears_44, dX12_hears_45, dX12_hears_46, dX12_hears_49, dX12_hears_51, dX12_hears_52, dX12_hears_53, dX12_hears_54, dX12_hears_55, dX12_hears_56, dX12_hears_57, dX12_hears_58, dX12_hears_61, dX12_hears_63, dX12_hears_64, dX12_hears_65, dX12_hears_66, dX12_hears_69, dX12_hears_71, dX12_hears_72, dX12_hears_73, dX12_hears_74, dX12_hears_75, dX12_hears_76, dX12_hears_77, dX12_hears_80, dX12_hears_83, dX12_hears_84, dX12_hears_87, dX12_hears_88, dX12_hears_90, dX12_hears_91, dX12_hears_92, dX12_hears_95, dX12_hears_96, dX12_hears_97, dX12_hears_100, dX12_hears_101, dX12_hears_102, dX12_hears_103, dX12_hears_104, dX12_hears_105, dX12_hears_106, dX12_hears_109, dX12_hears_111, dX12_hears_112, dX12_hears_115, dX12_hears_116, dX12_hears_117, dX12_hears_118, dX12_hears_119, dX12_hears_120, dX12_hears_121, dX12_hears_124, dX12_hears_126, dX12_hears_127, dX12_hears_130, dX12_hears_131, dX12_hears_132, dX12_hears_133, dX12_hears_134, dX12_hears_135, dX12_hears_136, dX12_hears_139, dX12_hears_140, dX12_hears_141, dX12_hears_142, dX12_hears_143, dX12_hears_144, dX12_hears_145]
  simp (disch := omega) only [li, nI_add, nI_clamp, nI_ltI, nI_leI, nI_eq, inx_iff, a31, nI_1shl', nI_shr', div_bit, tb1, tb0, fa_or, fa_and, nI_not, pk_sub, nI_dec, e0]
  refine ⟨fun z => tail c fi se ma mI _ (by omega) hS (fun _ _ _ => rfl) (fun _ _ => rfl) (by unfold heC; rw [if_neg z]) (by unfold heF; rw [if_neg z]) (by unfold heF; rw [if_neg z]) (by unfold heF; rw [if_neg z]), fun z => loop z 40 0 mI (by omega) (by omega) (fun _ _ _ => rfl) (fun _ _ => rfl) (fun j hj => ?_)⟩
  obtain ⟨a1, a2, a3, a4⟩ := hS.2.2 j (by omega)
  exact ⟨a1, a2, a3⟩
/-- a number drawn -/
def drw (g : Nat) : Nat := (g * 1103515245 + 12345) % 2147483648
theorem drw_lt (g : Nat) : drw g < 2147483648 := Nat.mod_lt _ (by decide)
set_option maxHeartbeats 4000000 in
set_option maxRecDepth 100000 in
theorem c12_draws (l : Launch) (X : Cx) (d : Nat) (sh : Nat → Option Sh) (mI : Nat → Nat → Int32) (mL : Nat → Nat → Int64) (mR : Nat → Nat → Option Nat) (n : Nat) (hL : ML sh mR) (g : Nat) (hg : mL 129 60 = lN g) (hgl : g < 2147483648) (m : Nat) (hm : 0 < m) (hm2 : m ≤ 10) : Cn l X yX12_draws cX12_draws 2 (some .int) d [.ref 129, .int (nI m)] (sh, mI, mL, mR, n) (fun r M' => M' = (sh, mI, up2 mL 129 60 (lN (drw g)), mR, n) ∧ r = some (.int (nI (drw g / 65536 % m)))) 0 0 := by
  refine Cn.run 12 false (by decide) rfl (by decide) (by simp [entA, Value.category]) ?_
  intro P G hP hG
  have q0 := hL.1
  have hd := drw_lt g
  refine hG.run [] 40 ?_
  simp [wp, stepI, ln, jmp, cmpI, Value.category, rd, tyF, va_rf, st1, st2, clr, isLg, CB, inx_0, inx_1, inx_2, inx_3, inx_4, inx_5, bI_0, bI_1, bI_ok, fin3, tyX12, entL, q0, okv, wr, finF, clT, TX12, hg, dX12_draws_0, dX12_draws_1, dX12_draws_2, fT_12_440, dX12_draws_5, cL_12_443, dX12_draws_8, dX12_draws_9, cL_12_445, dX12_draws_12, dX12_draws_13, cL_12_447, dX12_draws_16, dX12_draws_17, dX12_draws_20, dX12_draws_21, dX12_draws_24, cL_12_449, dX12_draws_27, dX12_draws_28, dX12_draws_29, dX12_draws_30, dX12_draws_31, dX12_draws_32]
  simp (disch := omega) only [liL, lN_mul, lN_add, nI_l, pk_lRem, pk_lDiv, up2_eq, pk_lEQ, lN_i]
  have x1 : lN (g * 1103515245 + 12345) - lN ((g * 1103515245 + 12345) / 2147483648 * 2147483648) = lN (drw g) := by
    rw [lN_sub (by omega)]
    unfold drw
    congr 1
    omega
  rw [x1]
  simp (disch := omega) only [pk_lDiv, lN_i, nI_mul]
  have x2 := Nat.div_add_mod' (drw g / 65536) m
  rw [pk_sub (Nat.div_mul_le_self _ _), show drw g / 65536 - drw g / 65536 / m * m = drw g / 65536 % m by omega]
  exact ⟨by omega, hP _ _ ⟨rfl, rfl⟩⟩
