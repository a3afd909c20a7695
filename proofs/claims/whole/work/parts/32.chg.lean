/-- seats and plans as numbers, one more than the seat; 0: none -/
def SeaM (mI : Nat → Nat → Int32) (np : Nat) (st pl : Nat → Nat) : Prop := ∀ p, p < np → mI 156 (121 + p) = nI (st p) ∧ st p ≤ 12 ∧ mI 156 (131 + p) = nI (pl p) ∧ pl p ≤ 12
theorem SeaM.eqf {S F : List Nat} {mI mI' : Nat → Nat → Int32} {np : Nat} {st pl : Nat → Nat} (h : SeaM mI np st pl) (he : Eqf S F mI mI') (hs : 156 ∉ S) : SeaM mI' np st pl := fun p hp => by
  obtain ⟨a1, a2, a3, a4⟩ := h p hp
  exact ⟨(he _ _ hs (fun z => by cases z.1)).trans a1, a2, (he _ _ hs (fun z => by cases z.1)).trans a3, a4⟩
def sitN (np : Nat) (st : Nat → Nat) (v : Nat) : Nat := fa_first (fun p => decide (st p = v)) np
theorem fa_first_cong {p q : Nat → Bool} : ∀ {n : Nat}, (∀ k, k < n → p k = q k) → fa_first p n = fa_first q n
  | 0, _ => rfl
  | n + 1, h => by
    have ih := fa_first_cong (p := p) (q := q) (n := n) (fun k hk => h k (by omega))
    unfold fa_first
    rw [ih, h n (by omega)]
theorem nI_m1 {a b : Nat} (ha : a ≤ 12) (hb : b ≤ 12) : nI a - nI 1 = nI b - nI 1 ↔ a = b := ⟨fun h => by
  have : nI a = nI b := by
    have e := congrArg (fun x => x + nI 1) h
    simpa [Int32.sub_add_cancel] using e
  exact (nI_eq (by omega) (by omega)).mp this, fun h => by rw [h]⟩
theorem sitC_N {mI : Nat → Nat → Int32} {np : Nat} {st pl : Nat → Nat} (h : SeaM mI np st pl) {v : Nat} (hv : v ≤ 12) : sitC mI np (nI v - nI 1) = sitN np st v := fa_first_cong fun k hk => by
  obtain ⟨a1, a2, -⟩ := h k hk
  rw [a1]
  exact decide_eq_decide.mpr (nI_m1 a2 hv)
/-- a walk from seat to seat -/
def chW (np : Nat) (st pl : Nat → Nat) (p : Nat) : Nat → Nat → Nat → Nat × Nat
  | 0, q, l => (q, l)
  | f + 1, q, l => if sitN np st (pl q) < np then (if sitN np st (pl q) = p then (p, Nat.min l p) else chW np st pl p f (sitN np st (pl q)) (Nat.min l (sitN np st (pl q)))) else (np, l)
theorem chW_0 (np : Nat) (st pl : Nat → Nat) (p q l : Nat) : chW np st pl p 0 q l = (q, l) := rfl
theorem chW_s (np : Nat) (st pl : Nat → Nat) (p f q l : Nat) : chW np st pl p (f + 1) q l = if sitN np st (pl q) < np then (if sitN np st (pl q) = p then (p, Nat.min l p) else chW np st pl p f (sitN np st (pl q)) (Nat.min l (sitN np st (pl q)))) else (np, l) := rfl
def oI (np q : Nat) : Int32 := if q < np then nI q else -nI 1
def chR (np : Nat) (st pl : Nat → Nat) (p : Nat) : Bool := decide ((chW np st pl p (np + 1) p p).1 = p) && decide ((chW np st pl p (np + 1) p p).2 = p)
def chOk (np : Nat) (st pl : Nat → Nat) : Bool := decide (∀ p, p < np → st p ≠ 0 ∧ pl p ≠ 0)
def chN (np : Nat) (st pl : Nat → Nat) : Nat := fb_ct (fun p => !decide (st p = pl p)) np
def chG (np : Nat) (st pl : Nat → Nat) : Nat := fb_ct (fun p => !decide (st p = pl p) && chR np st pl p) np
def chgA (np : Nat) (st pl : Nat → Nat) : Int32 := if chOk np st pl then nI (chN np st pl - chG np st pl) else -nI 1
theorem oI_eq {np q p : Nat} (h : np ≤ 10) (hp : p < np) (hq : q ≤ np) : oI np q = nI p ↔ q = p := by
  unfold oI
  split
  · exact nI_eq (by omega) (by omega)
  · refine ⟨fun z => absurd z (fun w => ?_), fun z => by omega⟩
    exact nI_ne_m1 (x := p) (by omega) (w.symm)
theorem m1_lt : -nI 1 < nI 0 := by decide +kernel
theorem chW_le {np : Nat} {st pl : Nat → Nat} {p : Nat} (hp : p < np) : ∀ f q l, q < np → l < np → (chW np st pl p f q l).1 ≤ np ∧ (chW np st pl p f q l).2 < np
  | 0, q, l, hq, hl => ⟨Nat.le_of_lt hq, hl⟩
  | f + 1, q, l, hq, hl => by
    have m : ∀ x, Nat.min l x < np := fun x => Nat.lt_of_le_of_lt (Nat.min_le_left _ _) hl
    rw [chW_s]
    split
    · split
      · exact ⟨Nat.le_of_lt hp, m _⟩
      · exact chW_le hp f _ _ (by assumption) (m _)
    · exact ⟨Nat.le_refl _, hl⟩
set_option maxHeartbeats 4000000 in
set_option maxRecDepth 100000 in
theorem c12_changes (l : Launch) (X : Cx) (d : Nat) (sh : Nat → Option Sh) (mI : Nat → Nat → Int32) (mL : Nat → Nat → Int64) (mR : Nat → Nat → Option Nat) (n : Nat) (hL : ML sh mR) (np : Nat) (hp : PupM mI np) (st pl : Nat → Nat) (hT : SeaM mI np st pl) (hd : 1 ≤ d) : Cn l X yX12_changes cX12_changes 7 (some .int) d [.ref 129] (sh, mI, mL, mR, n) (fun r M' => r = some (.int (chgA np st pl)) ∧ M' = (sh, thr mI, mL, mR, n)) 0 0 := by
  refine Cn.run 12 false (by decide) rfl (by decide) (by simp [entA, Value.category]) ?_
  intro P G hP hG
  have q0 := hL.1
  have q_s := hL.2 (41, 156, .int, 144) (by decide)
  dsimp only at q_s
  have q_pupils := hL.2 (10, 131, .int, 6) (by decide)
  dsimp only at q_pupils
  have hpp := hp.2
  have e1 := thr_eqf mI
  have hp0 := hp.eqf e1 (by decide)
  have hT0 := hT.eqf e1 (by decide)
  have e0 := hp0.1
  have loop3 : chOk np st pl = true → ∀ f i v4 v5 v6, np - i < f → i ≤ np → G 56 [some (.ref 129), some (.int (nI (fb_ct (fun p => !decide (st p = pl p)) i))), some (.int (nI (fb_ct (fun p => !decide (st p = pl p) && chR np st pl p) i))), some (.int (nI i)), v4, v5, v6] [] (sh, thr mI, mL, mR, n) := by
    intro hok f
    induction f with
    | zero => intro i v4 v5 v6 h; omega
    | succ f ih =>
      intro i v4 v5 v6 hf hi
      have c1 := fb_ct_le (fun p => !decide (st p = pl p)) i
      have c2 := fb_ct_le (fun p => !decide (st p = pl p) && chR np st pl p) i
      have c3 : fb_ct (fun p => !decide (st p = pl p) && chR np st pl p) i ≤ fb_ct (fun p => !decide (st p = pl p)) i := fb_ct_sub fun k _ hk => by simp only [Bool.and_eq_true] at hk; exact hk.1
      refine hG.run [103, 56] 60 ?_
      simp [wp, stepI, ln, jmp, cmpI, Value.category, rd, tyF, va_rf, st1, st2, clr, isLg, CB, inx_0, inx_1, inx_2, inx_3, inx_4, inx_5, bI_0, bI_1, bI_ok, fin3, tyX12, entL, q0, q_s, q_pupils, dX12_changes_0, dX12_changes_1, dX12_changes_2, fT_12_135, dX12_changes_5, dX12_changes_6, dX12_changes_7, dX12_changes_8, dX12_changes_9, fT_12_13, dX12_changes_12, dX12_changes_13, dX12_changes_14, dX12_changes_17, dX12_changes_18, fT_12_90, dX12_changes_21, dX12_changes_23, dX12_changes_24, dX12_changes_25, dX12_changes_26, dX12_changes_29, dX12_changes_30, dX12_changes_33, dX12_changes_36, dX12_changes_37, dX12_changes_38, dX12_changes_39, dX12_changes_42, dX12_changes_43, dX12_changes_44, dX12_changes_47, dX12_changes_50, dX12_changes_51, dX12_changes_52, dX12_changes_53, dX12_changes_54, dX12_changes_55, dX12_changes_56, dX12_changes_57, dX12_changes_58, dX12_changes_61, dX12_changes_62, dX12_changes_63, dX12_changes_66, dX12_changes_67, dX12_changes_70, dX12_changes_72, dX12_changes_73, dX12_changes_74, dX12_changes_75, dX12_changes_76, dX12_changes_79, dX12_changes_82, dX12_changes_83, dX12_changes_84, dX12_changes_85, dX12_changes_88, dX12_changes_91, dX12_changes_94, dX12_changes_95, dX12_changes_97, dX12_changes_98, dX12_changes_100, dX12_changes_101, dX12_changes_103, dX12_changes_105, dX12_changes_106, dX12_changes_109, dX12_changes_110, dX12_changes_111, dX12_changes_114, dX12_changes_116, dX12_changes_119, dX12_changes_120, dX12_changes_121, dX12_changes_124, dX12_changes_127, dX12_changes_129, dX12_changes_130, dX12_changes_131, dX12_changes_132, dX12_changes_133, dX12_changes_136, dX12_changes_138, dX12_changes_140, dX12_changes_143, dX12_changes_145, dX12_changes_147, dX12_changes_150, dX12_changes_152, dX12_changes_154, dX12_changes_155, dX12_changes_158, dX12_changes_161, dX12_changes_164, dX12_changes_167, dX12_changes_168, dX12_changes_170, dX12_changes_171, dX12_changes_174, dX12_changes_176, dX12_changes_177, dX12_changes_180, dX12_changes_181, dX12_changes_184, dX12_changes_185, dX12_changes_186, dX12_changes_187, dX12_changes_190, dX12_changes_193, dX12_changes_194, dX12_changes_195, dX12_changes_196]
      simp (disch := omega) only [li, nI_add, nI_clamp, nI_ltI, nI_leI, nI_eq, inx_iff, a31, nI_1shl', nI_shr', div_bit, tb1, tb0, fa_or, fa_and, nI_not, pk_sub, nI_dec, e0]
      refine ⟨fun h => hP _ _ ⟨?_, rfl⟩, fun h => ?_⟩
      · unfold chgA; rw [hok, if_pos rfl, show i = np by omega]; rfl
      obtain ⟨a1, a2, a3, a4⟩ := hT0 i h
      simp (disch := omega) only [li, nI_add, nI_clamp, nI_ltI, nI_leI, nI_eq, inx_iff, a31, nI_1shl', nI_shr', div_bit, tb1, tb0, fa_or, fa_and, nI_not, pk_sub, nI_dec, a1, a3]
      have nx := ih (i + 1)
      rw [fb_ct_succ, fb_ct_succ] at nx
      refine ⟨by omega, by omega, fun z => ?_, fun z => ?_⟩
      · have e : (!decide (st i = pl i)) = true := by simp [z]
        rw [e] at nx
        simp only [Bool.true_and, if_true] at nx
        have after : ∀ v6 q l, (q, l) = chW np st pl i (np + 1) i i → G 167 [some (.ref 129), some (.int (nI (fb_ct (fun p => !decide (st p = pl p)) i + 1))), some (.int (nI (fb_ct (fun p => !decide (st p = pl p) && chR np st pl p) i))), some (.int (nI i)), some (.int (oI np q)), some (.int (nI l)), v6] [] (sh, thr mI, mL, mR, n) := fun v6 q l hw => by
          have b1 := chW_le (st := st) (pl := pl) h (np + 1) i i h h
          rw [← hw] at b1
          have b2 : q ≤ np := b1.1
          have b3 : l < np := b1.2
          have er : chR np st pl i = (decide (q = i) && decide (l = i)) := by unfold chR; rw [← hw]
          rw [er] at nx
          refine hG.run [56] 60 ?_
          simp [wp, stepI, ln, jmp, cmpI, Value.category, rd, tyF, va_rf, st1, st2, clr, isLg, CB, inx_0, inx_1, inx_2, inx_3, inx_4, inx_5, bI_0, bI_1, bI_ok, fin3, tyX12, entL, q0, q_s, q_pupils, dX12_changes_0, dX12_changes_1, dX12_changes_2, fT_12_135, dX12_changes_5, dX12_changes_6, dX12_changes_7, dX12_changes_8, dX12_changes_9, fT_12_13, dX12_changes_12, dX12_changes_13, dX12_changes_14, dX12_changes_17, dX12_changes_18, fT_12_90, dX12_changes_21, dX12_changes_23, dX12_changes_24, dX12_changes_25, dX12_changes_26, dX12_changes_29, dX12_changes_30, dX12_changes_33, dX12_changes_36, dX12_changes_37, dX12_changes_38, dX12_changes_39, dX12_changes_42, dX12_changes_43, dX12_changes_44, dX12_changes_47, dX12_changes_50, dX12_changes_51, dX12_changes_52, dX12_changes_53, dX12_changes_54, dX12_changes_55, dX12_changes_56, dX12_changes_57, dX12_changes_58, dX12_changes_61, dX12_changes_62, dX12_changes_63, dX12_changes_66, dX12_changes_67, dX12_changes_70, dX12_changes_72, dX12_changes_73, dX12_changes_74, dX12_changes_75, dX12_changes_76, dX12_changes_79, dX12_changes_82, dX12_changes_83, dX12_changes_84, dX12_changes_85, dX12_changes_88, dX12_changes_91, dX12_changes_94, dX12_changes_95, dX12_changes_97, dX12_changes_98, dX12_changes_100, dX12_changes_101, dX12_changes_103, dX12_changes_105, dX12_changes_106, dX12_changes_109, dX12_changes_110, dX12_changes_111, dX12_changes_114, dX12_changes_116, dX12_changes_119, dX12_changes_120, dX12_changes_121, dX12_changes_124, dX12_changes_127, dX12_changes_129, dX12_changes_130, dX12_changes_131, dX12_changes_132, dX12_changes_133, dX12_changes_136, dX12_changes_138, dX12_changes_140, dX12_changes_143, dX12_changes_145, dX12_changes_147, dX12_changes_150, dX12_changes_152, dX12_changes_154, dX12_changes_155, dX12_changes_158, dX12_changes_161, dX12_changes_164, dX12_changes_167, dX12_changes_168, dX12_changes_170, dX12_changes_171, dX12_changes_174, dX12_changes_176, dX12_changes_177, dX12_changes_180, dX12_changes_181, dX12_changes_184, dX12_changes_185, dX12_changes_186, dX12_changes_187, dX12_changes_190, dX12_changes_193, dX12_changes_194, dX12_changes_195, dX12_changes_196]
          simp (disch := omega) only [li, nI_add, nI_clamp, nI_ltI, nI_leI, nI_eq, inx_iff, a31, nI_1shl', nI_shr', div_bit, tb1, tb0, fa_or, fa_and, nI_not, pk_sub, nI_dec]
          rw [oI_eq hpp h b2]
          refine ⟨fun y => ?_, fun y => ⟨fun y2 => ?_, fun y2 => ?_⟩⟩
          · rw [show (decide (q = i) && decide (l = i)) = false by simp [y]] at nx
            exact nx _ _ _ (by omega) (by omega)
          · rw [show (decide (q = i) && decide (l = i)) = false by simp [y2]] at nx
            exact nx _ _ _ (by omega) (by omega)
          · rw [show (decide (q = i) && decide (l = i)) = true by simp [y, y2]] at nx
            exact nx _ _ _ (by omega) (by omega)
        have loop4 : ∀ g k q l, g = np + 1 - k → k ≤ np + 1 → q < np → l < np → chW np st pl i g q l = chW np st pl i (np + 1) i i → G 103 [some (.ref 129), some (.int (nI (fb_ct (fun p => !decide (st p = pl p)) i + 1))), some (.int (nI (fb_ct (fun p => !decide (st p = pl p) && chR np st pl p) i))), some (.int (nI i)), some (.int (nI q)), some (.int (nI l)), some (.int (nI k))] [] (sh, thr mI, mL, mR, n) := by
          intro g
          induction g with
          | zero =>
            intro k q l hg hk hq hl hw
            have k0 : k = np + 1 := by omega
            subst k0
            refine hG.run [103, 167] 60 ?_
            simp [wp, stepI, ln, jmp, cmpI, Value.category, rd, tyF, va_rf, st1, st2, clr, isLg, CB, inx_0, inx_1, inx_2, inx_3, inx_4, inx_5, bI_0, bI_1, bI_ok, fin3, tyX12, entL, q0, q_s, q_pupils, dX12_changes_0, dX12_changes_1, dX12_changes_2, fT_12_135, dX12_changes_5, dX12_changes_6, dX12_changes_7, dX12_changes_8, dX12_changes_9, fT_12_13, dX12_changes_12, dX12_changes_13, dX12_changes_14, dX12_changes_17, dX12_changes_18, fT_12_90, dX12_changes_21, dX12_changes_23, dX12_changes_24, dX12_changes_25, dX12_changes_26, dX12_changes_29, dX12_changes_30, dX12_changes_33, dX12_changes_36, dX12_changes_37, dX12_changes_38, dX12_changes_39, dX12_changes_42, dX12_changes_43, dX12_changes_44, dX12_changes_47, dX12_changes_50, dX12_changes_51, dX12_changes_52, dX12_changes_53, dX12_changes_54, dX12_changes_55, dX12_changes_56, dX12_changes_57, dX12_changes_58, dX12_changes_61, dX12_changes_62, dX12_changes_63, dX12_changes_66, dX12_changes_67, dX12_changes_70, dX12_changes_72, dX12_changes_73, dX12_changes_74, dX12_changes_75, dX12_changes_76, dX12_changes_79, dX12_changes_82, dX12_changes_83, dX12_changes_84, dX12_changes_85, dX12_changes_88, dX12_changes_91, dX12_changes_94, dX12_changes_95, dX12_changes_97, dX12_changes_98, dX12_changes_100, dX12_changes_101, dX12_changes_103, dX12_changes_105, dX12_changes_106, dX12_changes_109, dX12_changes_110, dX12_changes_111, dX12_changes_114, dX12_changes_116, dX12_changes_119, dX12_changes_120, dX12_changes_121, dX12_changes_124, dX12_changes_127, dX12_changes_129, dX12_changes_130, dX12_changes_131, dX12_changes_132, dX12_changes_133, dX12_changes_136, dX12_changes_138, dX12_changes_140, dX12_changes_143, dX12_changes_145, dX12_changes_147, dX12_changes_150, dX12_changes_152, dX12_changes_154, dX12_changes_155, dX12_changes_158, dX12_changes_161, dX12_changes_164, dX12_changes_167, dX12_changes_168, dX12_changes_170, dX12_changes_171, dX12_changes_174, dX12_changes_176, dX12_changes_177, dX12_changes_180, dX12_changes_181, dX12_changes_184, dX12_changes_185, dX12_changes_186, dX12_changes_187, dX12_changes_190, dX12_changes_193, dX12_changes_194, dX12_changes_195, dX12_changes_196]
            simp (disch := omega) only [li, nI_add, nI_clamp, nI_ltI, nI_leI, nI_eq, inx_iff, a31, nI_1shl', nI_shr', div_bit, tb1, tb0, fa_or, fa_and, nI_not, pk_sub, nI_dec, e0]
            refine ⟨fun _ => ?_, fun y => by omega⟩
            have := after (some (.int (nI (np + 1)))) q l hw
            unfold oI at this
            rw [if_pos hq] at this
            exact this
          | succ g ihg =>
            intro k q l hg hk hq hl hw
            refine hG.run [103, 167] 60 ?_
            simp [wp, stepI, ln, jmp, cmpI, Value.category, rd, tyF, va_rf, st1, st2, clr, isLg, CB, inx_0, inx_1, inx_2, inx_3, inx_4, inx_5, bI_0, bI_1, bI_ok, fin3, tyX12, entL, q0, q_s, q_pupils, dX12_changes_0, dX12_changes_1, dX12_changes_2, fT_12_135, dX12_changes_5, dX12_changes_6, dX12_changes_7, dX12_changes_8, dX12_changes_9, fT_12_13, dX12_changes_12, dX12_changes_13, dX12_changes_14, dX12_changes_17, dX12_changes_18, fT_12_90, dX12_changes_21, dX12_changes_23, dX12_changes_24, dX12_changes_25, dX12_changes_26, dX12_changes_29, dX12_changes_30, dX12_changes_33, dX12_changes_36, dX12_changes_37, dX12_changes_38, dX12_changes_39, dX12_changes_42, dX12_changes_43, dX12_changes_44, dX12_changes_47, dX12_changes_50, dX12_changes_51, dX12_changes_52, dX12_changes_53, dX12_changes_54, dX12_changes_55, dX12_changes_56, dX12_changes_57, dX12_changes_58, dX12_changes_61, dX12_changes_62, dX12_changes_63, dX12_changes_66, dX12_changes_67, dX12_changes_70, dX12_changes_72, dX12_changes_73, dX12_changes_74, dX12_changes_75, dX12_changes_76, dX12_changes_79, dX12_changes_82, dX12_changes_83, dX12_changes_84, dX12_changes_85, dX12_changes_88, dX12_changes_91, dX12_changes_94, dX12_changes_95, dX12_changes_97, dX12_changes_98, dX12_changes_100, dX12_changes_101, dX12_changes_103, dX12_changes_105, dX12_changes_106, dX12_changes_109, dX12_changes_110, dX12_changes_111, dX12_changes_114, dX12_changes_116, dX12_changes_119, dX12_changes_120, dX12_changes_121, dX12_changes_124, dX12_changes_127, dX12_changes_129, dX12_changes_130, dX12_changes_131, dX12_changes_132, dX12_changes_133, dX12_changes_136, dX12_changes_138, dX12_changes_140, dX12_changes_143, dX12_changes_145, dX12_changes_147, dX12_changes_150, dX12_changes_152, dX12_changes_154, dX12_changes_155, dX12_changes_158, dX12_changes_161, dX12_changes_164, dX12_changes_167, dX12_changes_168, dX12_changes_170, dX12_changes_171, dX12_changes_174, dX12_changes_176, dX12_changes_177, dX12_changes_180, dX12_changes_181, dX12_changes_184, dX12_changes_185, dX12_changes_186, dX12_changes_187, dX12_changes_190, dX12_changes_193, dX12_changes_194, dX12_changes_195, dX12_changes_196]
            simp (disch := omega) only [li, nI_add, nI_clamp, nI_ltI, nI_leI, nI_eq, inx_iff, a31, nI_1shl', nI_shr', div_bit, tb1, tb0, fa_or, fa_and, nI_not, pk_sub, nI_dec, e0]
            refine ⟨fun y => by omega, fun _ => ⟨fun y => by omega, fun _ => ?_⟩⟩
            obtain ⟨x1, x2, x3, x4⟩ := hT0 q hq
            simp (disch := omega) only [li, nI_add, nI_clamp, nI_ltI, nI_leI, nI_eq, inx_iff, a31, nI_1shl', nI_shr', div_bit, tb1, tb0, fa_or, fa_and, nI_not, pk_sub, nI_dec, x3]
            refine ⟨by omega, ?_⟩
            refine hG.callV dX12_changes_133 mv_12_416 [.int (nI (pl q) - nI 1)] [] (c12_sitter _ X (d - 1) sh (thr mI) mL mR n hL np hp0 (nI (pl q) - nI 1)) ⟨_, rfl, rfl⟩ q0 (by omega) rfl (by decide) (by simp [Value.category]) rfl ?_
            rintro r M' ⟨rfl, rfl⟩
            rw [show sitA (thr mI) np (nI (pl q) - nI 1) = oI np (sitN np st (pl q)) by unfold sitA oI; rw [sitC_N hT0 x4]]
            rw [chW_s] at hw
            by_cases y : sitN np st (pl q) < np
            · rw [if_pos y] at hw
              have o : oI np (sitN np st (pl q)) = nI (sitN np st (pl q)) := if_pos y
              rw [o]
              have m : Nat.min l (sitN np st (pl q)) < np := Nat.lt_of_le_of_lt (Nat.min_le_left _ _) hl
              refine hG.run [103, 167] 60 ?_
              simp [wp, stepI, ln, jmp, cmpI, Value.category, rd, tyF, va_rf, st1, st2, clr, isLg, CB, inx_0, inx_1, inx_2, inx_3, inx_4, inx_5, bI_0, bI_1, bI_ok, fin3, tyX12, entL, q0, q_s, q_pupils, dX12_changes_0, dX12_changes_1, dX12_changes_2, fT_12_135, dX12_changes_5, dX12_changes_6, dX12_changes_7, dX12_changes_8, dX12_changes_9, fT_12_13, dX12_changes_12, dX12_changes_13, dX12_changes_14, dX12_changes_17, dX12_changes_18, fT_12_90, dX12_changes_21, dX12_changes_23, dX12_changes_24, dX12_changes_25, dX12_changes_26, dX12_changes_29, dX12_changes_30, dX12_changes_33, dX12_changes_36, dX12_changes_37, dX12_changes_38, dX12_changes_39, dX12_changes_42, dX12_changes_43, dX12_changes_44, dX12_changes_47, dX12_changes_50, dX12_changes_51, dX12_changes_52, dX12_changes_53, dX12_changes_54, dX12_changes_55, dX12_changes_56, dX12_changes_57, dX12_changes_58, dX12_changes_61, dX12_changes_62, dX12_changes_63, dX12_changes_66, dX12_changes_67, dX12_changes_70, dX12_changes_72, dX12_changes_73, dX12_changes_74, dX12_changes_75, dX12_changes_76, dX12_changes_79, dX12_changes_82, dX12_changes_83, dX12_changes_84, dX12_changes_85, dX12_changes_88, dX12_changes_91, dX12_changes_94, dX12_changes_95, dX12_changes_97, dX12_changes_98, dX12_changes_100, dX12_changes_101, dX12_changes_103, dX12_changes_105, dX12_changes_106, dX12_changes_109, dX12_changes_110, dX12_changes_111, dX12_changes_114, dX12_changes_116, dX12_changes_119, dX12_changes_120, dX12_changes_121, dX12_changes_124, dX12_changes_127, dX12_changes_129, dX12_changes_130, dX12_changes_131, dX12_changes_132, dX12_changes_133, dX12_changes_136, dX12_changes_138, dX12_changes_140, dX12_changes_143, dX12_changes_145, dX12_changes_147, dX12_changes_150, dX12_changes_152, dX12_changes_154, dX12_changes_155, dX12_changes_158, dX12_changes_161, dX12_changes_164, dX12_changes_167, dX12_changes_168, dX12_changes_170, dX12_changes_171, dX12_changes_174, dX12_changes_176, dX12_changes_177, dX12_changes_180, dX12_changes_181, dX12_changes_184, dX12_changes_185, dX12_changes_186, dX12_changes_187, dX12_changes_190, dX12_changes_193, dX12_changes_194, dX12_changes_195, dX12_changes_196]
              simp (disch := omega) only [li, nI_add, nI_clamp, nI_ltI, nI_leI, nI_eq, inx_iff, a31, nI_1shl', nI_shr', div_bit, tb1, tb0, fa_or, fa_and, nI_not, pk_sub, nI_dec, e0]
              refine ⟨fun y2 => by omega, fun _ => hG.mmin dX12_changes_147 ms_12_357.link [] (by omega) (by simp [Value.category]) ?_⟩
              rw [nI_min (by omega) (by omega)]
              refine hG.run [103, 167] 60 ?_
              simp [wp, stepI, ln, jmp, cmpI, Value.category, rd, tyF, va_rf, st1, st2, clr, isLg, CB, inx_0, inx_1, inx_2, inx_3, inx_4, inx_5, bI_0, bI_1, bI_ok, fin3, tyX12, entL, q0, q_s, q_pupils, dX12_changes_0, dX12_changes_1, dX12_changes_2, fT_12_135, dX12_changes_5, dX12_changes_6, dX12_changes_7, dX12_changes_8, dX12_changes_9, fT_12_13, dX12_changes_12, dX12_changes_13, dX12_changes_14, dX12_changes_17, dX12_changes_18, fT_12_90, dX12_changes_21, dX12_changes_23, dX12_changes_24, dX12_changes_25, dX12_changes_26, dX12_changes_29, dX12_changes_30, dX12_changes_33, dX12_changes_36, dX12_changes_37, dX12_changes_38, dX12_changes_39, dX12_changes_42, dX12_changes_43, dX12_changes_44, dX12_changes_47, dX12_changes_50, dX12_changes_51, dX12_changes_52, dX12_changes_53, dX12_changes_54, dX12_changes_55, dX12_changes_56, dX12_changes_57, dX12_changes_58, dX12_changes_61, dX12_changes_62, dX12_changes_63, dX12_changes_66, dX12_changes_67, dX12_changes_70, dX12_changes_72, dX12_changes_73, dX12_changes_74, dX12_changes_75, dX12_changes_76, dX12_changes_79, dX12_changes_82, dX12_changes_83, dX12_changes_84, dX12_changes_85, dX12_changes_88, dX12_changes_91, dX12_changes_94, dX12_changes_95, dX12_changes_97, dX12_changes_98, dX12_changes_100, dX12_changes_101, dX12_changes_103, dX12_changes_105, dX12_changes_106, dX12_changes_109, dX12_changes_110, dX12_changes_111, dX12_changes_114, dX12_changes_116, dX12_changes_119, dX12_changes_120, dX12_changes_121, dX12_changes_124, dX12_changes_127, dX12_changes_129, dX12_changes_130, dX12_changes_131, dX12_changes_132, dX12_changes_133, dX12_changes_136, dX12_changes_138, dX12_changes_140, dX12_changes_143, dX12_changes_145, dX12_changes_147, dX12_changes_150, dX12_changes_152, dX12_changes_154, dX12_changes_155, dX12_changes_158, dX12_changes_161, dX12_changes_164, dX12_changes_167, dX12_changes_168, dX12_changes_170, dX12_changes_171, dX12_changes_174, dX12_changes_176, dX12_changes_177, dX12_changes_180, dX12_changes_181, dX12_changes_184, dX12_changes_185, dX12_changes_186, dX12_changes_187, dX12_changes_190, dX12_changes_193, dX12_changes_194, dX12_changes_195, dX12_changes_196]
              simp (disch := omega) only [li, nI_add, nI_clamp, nI_ltI, nI_leI, nI_eq, inx_iff, a31, nI_1shl', nI_shr', div_bit, tb1, tb0, fa_or, fa_and, nI_not, pk_sub, nI_dec, e0]
              refine ⟨fun y3 => ?_, fun y3 => ?_⟩
              · rw [if_neg y3] at hw
                exact ihg (k + 1) _ _ (by omega) (by omega) y m hw
              · rw [if_pos y3] at hw
                have := after (some (.int (nI k))) i (Nat.min l i) hw
                rw [show oI np i = nI i from if_pos h] at this
                rw [y3]
                exact this
            · rw [if_neg y] at hw
              have o : oI np (sitN np st (pl q)) = -nI 1 := if_neg y
              rw [o]
              have o2 : oI np np = -nI 1 := if_neg (by omega)
              have := after (some (.int (nI (k + 1)))) np l hw
              rw [o2] at this
              refine hG.run [103, 167] 60 ?_
              simp [wp, stepI, ln, jmp, cmpI, Value.category, rd, tyF, va_rf, st1, st2, clr, isLg, CB, inx_0, inx_1, inx_2, inx_3, inx_4, inx_5, bI_0, bI_1, bI_ok, fin3, tyX12, entL, q0, q_s, q_pupils, dX12_changes_0, dX12_changes_1, dX12_changes_2, fT_12_135, dX12_changes_5, dX12_changes_6, dX12_changes_7, dX12_changes_8, dX12_changes_9, fT_12_13, dX12_changes_12, dX12_changes_13, dX12_changes_14, dX12_changes_17, dX12_changes_18, fT_12_90, dX12_changes_21, dX12_changes_23, dX12_changes_24, dX12_changes_25, dX12_changes_26, dX12_changes_29, dX12_changes_30, dX12_changes_33, dX12_changes_36, dX12_changes_37, dX12_changes_38, dX12_changes_39, dX12_changes_42, dX12_changes_43, dX12_changes_44, dX12_changes_47, dX12_changes_50, dX12_changes_51, dX12_changes_52, dX12_changes_53, dX12_changes_54, dX12_changes_55, dX12_changes_56, dX12_changes_57, dX12_changes_58, dX12_changes_61, dX12_changes_62, dX12_changes_63, dX12_changes_66, dX12_changes_67, dX12_changes_70, dX12_changes_72, dX12_changes_73, dX12_changes_74, dX12_changes_75, dX12_changes_76, dX12_changes_79, dX12_changes_82, dX12_changes_83, dX12_changes_84, dX12_changes_85, dX12_changes_88, dX12_changes_91, dX12_changes_94, dX12_changes_95, dX12_changes_97, dX12_changes_98, dX12_changes_100, dX12_changes_101, dX12_changes_103, dX12_changes_105, dX12_changes_106, dX12_changes_109, dX12_changes_110, dX12_changes_111, dX12_changes_114, dX12_changes_116, dX12_changes_119, dX12_changes_120, dX12_changes_121, dX12_changes_124, dX12_changes_127, dX12_changes_129, dX12_changes_130, dX12_changes_131, dX12_changes_132, dX12_changes_133, dX12_changes_136, dX12_changes_138, dX12_changes_140, dX12_changes_143, dX12_changes_145, dX12_changes_147, dX12_changes_150, dX12_changes_152, dX12_changes_154, dX12_changes_155, dX12_changes_158, dX12_changes_161, dX12_changes_164, dX12_changes_167, dX12_changes_168, dX12_changes_170, dX12_changes_171, dX12_changes_174, dX12_changes_176, dX12_changes_177, dX12_changes_180, dX12_changes_181, dX12_changes_184, dX12_changes_185, dX12_changes_186, dX12_changes_187, dX12_changes_190, dX12_changes_193, dX12_changes_194, dX12_changes_195, dX12_changes_196]
              simp (disch := omega) only [li, nI_add, nI_clamp, nI_ltI, nI_leI, nI_eq, inx_iff, a31, nI_1shl', nI_shr', div_bit, tb1, tb0, fa_or, fa_and, nI_not, pk_sub, nI_dec, e0]
              have w1 : -nI 1 ≠ nI i := fun w => nI_ne_m1 (x := i) (by omega) w.symm
              refine ⟨fun _ => ⟨fun _ => ?_, fun w => absurd w w1⟩, fun w => absurd w (by decide +kernel)⟩
              refine hG.run [103, 167] 60 ?_
              simp [wp, stepI, ln, jmp, cmpI, Value.category, rd, tyF, va_rf, st1, st2, clr, isLg, CB, inx_0, inx_1, inx_2, inx_3, inx_4, inx_5, bI_0, bI_1, bI_ok, fin3, tyX12, entL, q0, q_s, q_pupils, dX12_changes_0, dX12_changes_1, dX12_changes_2, fT_12_135, dX12_changes_5, dX12_changes_6, dX12_changes_7, dX12_changes_8, dX12_changes_9, fT_12_13, dX12_changes_12, dX12_changes_13, dX12_changes_14, dX12_changes_17, dX12_changes_18, fT_12_90, dX12_changes_21, dX12_changes_23, dX12_changes_24, dX12_changes_25, dX12_changes_26, dX12_changes_29, dX12_changes_30, dX12_changes_33, dX12_changes_36, dX12_changes_37, dX12_changes_38, dX12_changes_39, dX12_changes_42, dX12_changes_43, dX12_changes_44, dX12_changes_47, dX12_changes_50, dX12_changes_51, dX12_changes_52, dX12_changes_53, dX12_changes_54, dX12_changes_55, dX12_changes_56, dX12_changes_57, dX12_changes_58, dX12_changes_61, dX12_changes_62, dX12_changes_63, dX12_changes_66, dX12_changes_67, dX12_changes_70, dX12_changes_72, dX12_changes_73, dX12_changes_74, dX12_changes_75, dX12_changes_76, dX12_changes_79, dX12_changes_82, dX12_changes_83, dX12_changes_84, dX12_changes_85, dX12_changes_88, dX12_changes_91, dX12_changes_94, dX12_changes_95, dX12_changes_97, dX12_changes_98, dX12_changes_100, dX12_changes_101, dX12_changes_103, dX12_changes_105, dX12_changes_106, dX12_changes_109, dX12_changes_110, dX12_changes_111, dX12_changes_114, dX12_changes_116, dX12_changes_119, dX12_changes_120, dX12_changes_121, dX12_changes_124, dX12_changes_127, dX12_changes_129, dX12_changes_130, dX12_changes_131, dX12_changes_132, dX12_changes_133, dX12_changes_136, dX12_changes_138, dX12_changes_140, dX12_changes_143, dX12_changes_145, dX12_changes_147, dX12_changes_150, dX12_changes_152, dX12_changes_154, dX12_changes_155, dX12_changes_158, dX12_changes_161, dX12_changes_164, dX12_changes_167, dX12_changes_168, dX12_changes_170, dX12_changes_171, dX12_changes_174, dX12_changes_176, dX12_changes_177, dX12_changes_180, dX12_changes_181, dX12_changes_184, dX12_changes_185, dX12_changes_186, dX12_changes_187, dX12_changes_190, dX12_changes_193, dX12_changes_194, dX12_changes_195, dX12_changes_196]
              simp (disch := omega) only [li, nI_add, nI_clamp, nI_ltI, nI_leI, nI_eq, inx_iff, a31, nI_1shl', nI_shr', div_bit, tb1, tb0, fa_or, fa_and, nI_not, pk_sub, nI_dec, e0]
              exact ⟨fun _ => this, fun _ => ⟨fun _ => this, fun w => absurd w (by decide +kernel)⟩⟩
        exact loop4 (np + 1) 0 i i (by omega) (by omega) h h rfl
      · have e : (!decide (st i = pl i)) = false := by simp [z]
        rw [e] at nx
        exact nx _ _ _ (by omega) (by omega)
  have loop0 : ∀ f i v2 v3 v4 v5 v6, np - i < f → i ≤ np → (∀ p, p < i → st p ≠ 0 ∧ pl p ≠ 0) → G 7 [some (.ref 129), some (.int (nI i)), v2, v3, v4, v5, v6] [] (sh, thr mI, mL, mR, n) := by
    intro f
    induction f with
    | zero => intro i v2 v3 v4 v5 v6 h; omega
    | succ f ih =>
      intro i v2 v3 v4 v5 v6 hf hi hal
      refine hG.run [7, 56] 60 ?_
      simp [wp, stepI, ln, jmp, cmpI, Value.category, rd, tyF, va_rf, st1, st2, clr, isLg, CB, inx_0, inx_1, inx_2, inx_3, inx_4, inx_5, bI_0, bI_1, bI_ok, fin3, tyX12, entL, q0, q_s, q_pupils, dX12_changes_0, dX12_changes_1, dX12_changes_2, fT_12_135, dX12_changes_5, dX12_changes_6, dX12_changes_7, dX12_changes_8, dX12_changes_9, fT_12_13, dX12_changes_12, dX12_changes_13, dX12_changes_14, dX12_changes_17, dX12_changes_18, fT_12_90, dX12_changes_21, dX12_changes_23, dX12_changes_24, dX12_changes_25, dX12_changes_26, dX12_changes_29, dX12_changes_30, dX12_changes_33, dX12_changes_36, dX12_changes_37, dX12_changes_38, dX12_changes_39, dX12_changes_42, dX12_changes_43, dX12_changes_44, dX12_changes_47, dX12_changes_50, dX12_changes_51, dX12_changes_52, dX12_changes_53, dX12_changes_54, dX12_changes_55, dX12_changes_56, dX12_changes_57, dX12_changes_58, dX12_changes_61, dX12_changes_62, dX12_changes_63, dX12_changes_66, dX12_changes_67, dX12_changes_70, dX12_changes_72, dX12_changes_73, dX12_changes_74, dX12_changes_75, dX12_changes_76, dX12_changes_79, dX12_changes_82, dX12_changes_83, dX12_changes_84, dX12_changes_85, dX12_changes_88, dX12_changes_91, dX12_changes_94, dX12_changes_95, dX12_changes_97, dX12_changes_98, dX12_changes_100, dX12_changes_101, dX12_changes_103, dX12_changes_105, dX12_changes_106, dX12_changes_109, dX12_changes_110, dX12_changes_111, dX12_changes_114, dX12_changes_116, dX12_changes_119, dX12_changes_120, dX12_changes_121, dX12_changes_124, dX12_changes_127, dX12_changes_129, dX12_changes_130, dX12_changes_131, dX12_changes_132, dX12_changes_133, dX12_changes_136, dX12_changes_138, dX12_changes_140, dX12_changes_143, dX12_changes_145, dX12_changes_147, dX12_changes_150, dX12_changes_152, dX12_changes_154, dX12_changes_155, dX12_changes_158, dX12_changes_161, dX12_changes_164, dX12_changes_167, dX12_changes_168, dX12_changes_170, dX12_changes_171, dX12_changes_174, dX12_changes_176, dX12_changes_177, dX12_changes_180, dX12_changes_181, dX12_changes_184, dX12_changes_185, dX12_changes_186, dX12_changes_187, dX12_changes_190, dX12_changes_193, dX12_changes_194, dX12_changes_195, dX12_changes_196]
      simp (disch := omega) only [li, nI_add, nI_clamp, nI_ltI, nI_leI, nI_eq, inx_iff, a31, nI_1shl', nI_shr', div_bit, tb1, tb0, fa_or, fa_and, nI_not, pk_sub, nI_dec, e0]
      refine ⟨fun h => ?_, fun h => ?_⟩
      · exact loop3 (by unfold chOk; rw [decide_eq_true_eq]; intro p hp; exact hal p (by omega)) (np + 1) 0 _ _ _ (by omega) (by omega)
      obtain ⟨a1, a2, a3, a4⟩ := hT0 i h
      simp (disch := omega) only [li, nI_add, nI_clamp, nI_ltI, nI_leI, nI_eq, inx_iff, a31, nI_1shl', nI_shr', div_bit, tb1, tb0, fa_or, fa_and, nI_not, pk_sub, nI_dec, a1, a3]
      have no : (st i = 0 ∨ pl i = 0) → P (some (.int (-nI 1))) (sh, thr mI, mL, mR, n) := fun z => hP _ _ ⟨by
        unfold chgA
        rw [if_neg]
        unfold chOk
        rw [decide_eq_true_eq]
        intro y
        have := y i h
        omega, rfl⟩
      refine ⟨by omega, fun z => no (Or.inl z), fun z => ⟨by omega, fun z2 => ?_, fun z2 => no (Or.inr z2)⟩⟩
      exact ih (i + 1) _ _ _ _ _ (by omega) (by omega) (fun p hp => by
        rcases Nat.lt_or_ge p i with y | y
        · exact hal p y
        · rw [show p = i by omega]; exact ⟨z, z2⟩)
  refine hG.run [7] 20 ?_
  simp [wp, stepI, ln, jmp, cmpI, Value.category, rd, tyF, va_rf, st1, st2, clr, isLg, CB, inx_0, inx_1, inx_2, inx_3, inx_4, inx_5, bI_0, bI_1, bI_ok, fin3, tyX12, entL, q0, okv, wr, finF, clT, TX12, dX12_changes_0, dX12_changes_1, dX12_changes_2, fT_12_135, dX12_changes_5, dX12_changes_6, dX12_changes_7, dX12_changes_8, dX12_changes_9, fT_12_13, dX12_changes_12, dX12_changes_13, dX12_changes_14, dX12_changes_17, dX12_changes_18, fT_12_90, dX12_changes_21, dX12_changes_23, dX12_changes_24, dX12_changes_25, dX12_changes_26, dX12_changes_29, dX12_changes_30, dX12_changes_33, dX12_changes_36, dX12_changes_37, dX12_changes_38, dX12_changes_39, dX12_changes_42, dX12_changes_43, dX12_changes_44, dX12_changes_47, dX12_changes_50, dX12_changes_51, dX12_changes_52, dX12_changes_53, dX12_changes_54, dX12_changes_55, dX12_changes_56, dX12_changes_57, dX12_changes_58, dX12_changes_61, dX12_changes_62, dX12_changes_63, dX12_changes_66, dX12_changes_67, dX12_changes_70, dX12_changes_72, dX12_changes_73, dX12_changes_74, dX12_changes_75, dX12_changes_76, dX12_changes_79, dX12_changes_82, dX12_changes_83, dX12_changes_84, dX12_changes_85, dX12_changes_88, dX12_changes_91, dX12_changes_94, dX12_changes_95, dX12_changes_97, dX12_changes_98, dX12_changes_100, dX12_changes_101, dX12_changes_103, dX12_changes_105, dX12_changes_106, dX12_changes_109, dX12_changes_110, dX12_changes_111, dX12_changes_114, dX12_changes_116, dX12_changes_119, dX12_changes_120, dX12_changes_121, dX12_changes_124, dX12_changes_127, dX12_changes_129, dX12_changes_130, dX12_changes_131, dX12_changes_132, dX12_changes_133, dX12_changes_136, dX12_changes_138, dX12_changes_140, dX12_changes_143, dX12_changes_145, dX12_changes_147, dX12_changes_150, dX12_changes_152, dX12_changes_154, dX12_changes_155, dX12_changes_158, dX12_changes_161, dX12_changes_164, dX12_changes_167, dX12_changes_168, dX12_changes_170, dX12_changes_171, dX12_changes_174, dX12_changes_176, dX12_changes_177, dX12_changes_180, dX12_changes_181, dX12_changes_184, dX12_changes_185, dX12_changes_186, dX12_changes_187, dX12_changes_190, dX12_changes_193, dX12_changes_194, dX12_changes_195, dX12_changes_196]
  rw [show up2 mI 129 0 0 = thr mI from rfl]
  exact loop0 (np + 1) 0 _ _ _ _ _ (by omega) (by omega) (fun p hp => by omega)
