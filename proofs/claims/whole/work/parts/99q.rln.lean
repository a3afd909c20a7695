/-! a line -/
def kpD (D D' : DD) : Prop := D' 0 5 = D 0 5 ∧ D' 0 6 = D 0 6 ∧ D' 10 = D 10
theorem kpD.up {D D' : DD} (h : kpD D D') {a k v : Nat} (ha : a ≠ 10) (hk : ¬ (a = 0 ∧ (k = 5 ∨ k = 6))) : kpD D (up2 D' a k v) := ⟨(up2_ne (by omega)).trans h.1, (up2_ne (by omega)).trans h.2.1, (funext (fun j => up2_ne (fun z => ha z.1.symm))).trans h.2.2⟩
theorem kpD.rf {D : DD} : kpD D D := ⟨rfl, rfl, rfl⟩
theorem rdSlip_k {t : Nat → Nat} {n p : Nat} {D : DD} {q : Nat × DD} (h : rdSlip t n p D = .inr q) : kpD D q.2 := by
  unfold rdSlip rdSlipB at h
  split at h
  · have h := Sum.inr.inj (bf_r (bf_r h).2).2
    subst h
    exact (kpD.rf.up (by decide) (by decide)).up (by decide) (by decide)
  · cases h
theorem rdBench_k {t : Nat → Nat} {n p p1 p2 p3 p4 p5 : Nat} {D : DD} {q : Nat × DD} (h : rdBenchB t n D p p1 p2 p3 p4 p5 = .inr q) : kpD D q.2 := by
  unfold rdBenchB at h
  split at h
  · cases h
  · have h := Sum.inr.inj (bf_r (bf_r (bf_r (bf_r (bf_r h).2).2).2).2).2
    subst h
    exact (kpD.rf.up (by decide) (by omega)).up (by decide) (by decide)
theorem rdPupil_k {t : Nat → Nat} {n p p1 p2 p3 p4 p5 : Nat} {D : DD} {q : Nat × DD} (h : rdPupilB t n D p p1 p2 p3 p4 p5 = .inr q) : kpD D q.2 := by
  unfold rdPupilB at h
  split at h
  · cases h
  · have h := Sum.inr.inj (bf_r (bf_r (bf_r (bf_r (bf_r h).2).2).2).2).2
    subst h
    exact (((kpD.rf.up (by decide) (by omega)).up (by decide) (by omega)).up (by decide) (by omega)).up (by decide) (by decide)
theorem rdSay_k {t : Nat → Nat} {n p p1 p2 p3 p4 : Nat} {D : DD} {q : Nat × DD} (h : rdSayB t n D p p1 p2 p3 p4 = .inr q) : kpD D q.2 := by
  unfold rdSayB at h
  split at h
  · cases h
  · have h := Sum.inr.inj (bf_r (bf_r (bf_r (bf_r h).2).2).2).2
    subst h
    exact (((kpD.rf.up (by decide) (by omega)).up (by decide) (by omega)).up (by decide) (by omega)).up (by decide) (by decide)
theorem rdLike_k {t : Nat → Nat} {n p1 p2 p3 p4 : Nat} {D : DD} {q : Nat × DD} (h : rdLikeB t n D p1 p2 p3 p4 = .inr q) : kpD D q.2 := by
  unfold rdLikeB at h
  have h := Sum.inr.inj (bf_r (bf_r (bf_r (bf_r (bf_r h).2).2).2).2).2
  subst h
  exact (kpD.rf.up (by decide) (by omega)).up (by decide) (by omega)
theorem isW_ff {t : Nat → Nat} {N p w : Nat} (h : ¬ isW t N p w = true) : isW t N p w = false := bf_t h
set_option maxHeartbeats 800000 in
set_option maxRecDepth 100000 in
theorem c3_readWish1 (l : Launch) (X : Cx) (d : Nat) (sh : Nat → Option Sh) (mI : Nat → Nat → Int32) (mL : Nat → Nat → Int64) (mR : Nat → Nat → Option Nat) (n : Nat) (R C TP : Nat) (t : Nat → Nat) (N p : Nat) (hS : RsM sh mI mL mR R C TP t N p) (D : DD) (hD : RdD mI mL R C D) (hV : DrV D) (h5 : ¬ D 0 5 = 0) (hd : 1 ≤ d) : Cn l X yX3_readWish cX3_readWish 1 (some .boolean) d [.ref R] (sh, mI, mL, mR, n) (fun r M' => r = some (.int (nI 0)) ∧ LgP sh mI mL mR n R C TP t N (rdWish t N p D) r M') 0 0 := by
  refine Cn.run 3 false (by decide) rfl (by decide) (by simp [entA, Value.category]) ?_
  intro P G hP hG
  unfold rdWish rdWishB at hP
  rw [if_neg h5] at hP
  have q0 := hS.1.1
  have st := hD.1.2.2.2.2.2
  have d5 : D 0 5 ≤ 1 := hV.1.2.2.2.2.2.1
  rw [show D 0 5 = 1 by omega] at st
  refine hG.run [9] 60 ?_
  simp [wp, stepI, ln, jmp, cmpI, Value.category, rd, tyF, vrs, vrn, ex_rr, ex_rn, ex_nr, ex_nn, okA_s, okA_n, st1, st2, clr, isLg, CB, inx_0, inx_1, inx_2, inx_3, inx_4, inx_5, bI_0, bI_1, bI_ok, fin3, tyX3, entL, q0, st, nI00, nI10, dX3_readWish_0, dX3_readWish_1, fT_3_57, dX3_readWish_4, dX3_readWish_7, dX3_readWish_8, dX3_readWish_9, dX3_readWish_12, dX3_readWish_13, dX3_readWish_14, dX3_readWish_15, dX3_readWish_18, dX3_readWish_19, dX3_readWish_20, fT_3_187, dX3_readWish_23, dX3_readWish_24, fT_3_21, dX3_readWish_27, dX3_readWish_30, dX3_readWish_31, dX3_readWish_32, dX3_readWish_33, dX3_readWish_36, dX3_readWish_39, dX3_readWish_40, dX3_readWish_42, dX3_readWish_45, dX3_readWish_48, dX3_readWish_49, dX3_readWish_50, dX3_readWish_51, fT_3_12, dX3_readWish_54, fT_3_39, dX3_readWish_57, dX3_readWish_58, fT_3_33, dX3_readWish_61, dX3_readWish_62, dX3_readWish_65, dX3_readWish_68, fT_3_198, dX3_readWish_71, dX3_readWish_72]
  simp only [li]
  refine hG.callV dX3_readWish_9 mv_3_116 [.int (nI 3)] [] (c3_wrong l X (d - 1) sh mI mL mR n R C TP t N p hS 3) ⟨_, rfl, rfl⟩ q0 (by omega) rfl (by decide) (by simp [Value.category]) rfl ?_
  rintro r M' ⟨rfl, rfl⟩
  have qq := hP _ _ ⟨rfl, LgP.bad (e := (3, lxBg t N p)) (lnF.up (C := C) _ (by unfold lnW; omega)) rfl (up2_eq ..)⟩
  refine hG.run [] 60 ?_
  simp [wp, stepI, ln, jmp, cmpI, Value.category, rd, tyF, vrs, vrn, ex_rr, ex_rn, ex_nr, ex_nn, okA_s, okA_n, st1, st2, clr, isLg, CB, inx_0, inx_1, inx_2, inx_3, inx_4, inx_5, bI_0, bI_1, bI_ok, fin3, tyX3, entL, q0, dX3_readWish_0, dX3_readWish_1, fT_3_57, dX3_readWish_4, dX3_readWish_7, dX3_readWish_8, dX3_readWish_9, dX3_readWish_12, dX3_readWish_13, dX3_readWish_14, dX3_readWish_15, dX3_readWish_18, dX3_readWish_19, dX3_readWish_20, fT_3_187, dX3_readWish_23, dX3_readWish_24, fT_3_21, dX3_readWish_27, dX3_readWish_30, dX3_readWish_31, dX3_readWish_32, dX3_readWish_33, dX3_readWish_36, dX3_readWish_39, dX3_readWish_40, dX3_readWish_42, dX3_readWish_45, dX3_readWish_48, dX3_readWish_49, dX3_readWish_50, dX3_readWish_51, fT_3_12, dX3_readWish_54, fT_3_39, dX3_readWish_57, dX3_readWish_58, fT_3_33, dX3_readWish_61, dX3_readWish_62, dX3_readWish_65, dX3_readWish_68, fT_3_198, dX3_readWish_71, dX3_readWish_72]
  exact ⟨Or.inl rfl, qq⟩
set_option maxHeartbeats 800000 in
set_option maxRecDepth 100000 in
theorem c3_readLine (l : Launch) (X : Cx) (d : Nat) (sh : Nat → Option Sh) (mI : Nat → Nat → Int32) (mL : Nat → Nat → Int64) (mR : Nat → Nat → Option Nat) (n : Nat) (R C TP : Nat) (t : Nat → Nat) (N p : Nat) (hS : RsM sh mI mL mR R C TP t N p) (D : DD) (hD : RdD mI mL R C D) (hV : DrV D) (hw : WiR sh mI mR C n (D 0 6) (D 10)) (hn : R + 17 < n ∧ C + 5 < n ∧ TP < n) (hn2 : n < 10000000) (hRC : R + 17 < C) (hd : 60 ≤ d) (mc ms : Nat) (hm : isW t N p 459791 = true → D 0 5 = 0 → 1 ≤ mc ∧ 1000 ≤ ms) : Cn l X yX3_readLine cX3_readLine 2 (some .boolean) d [.ref R] (sh, mI, mL, mR, n) (LgP sh mI mL mR n R C TP t N (rdLn t N p D)) mc ms := by
  refine Cn.runA 3 false (by decide) rfl (by decide) (by simp [entA, Value.category]) ?_
  intro P G hP hG
  have S0 := hS
  obtain ⟨g1, g2, g3, g4⟩ := hS
  have q0 := g1.1
  have r1 := g1.2.2.2.1
  have k0 := g1.2.2.2.2.2.2.2.2.2.2.1.1
  have h6 := g3.2.2.2.2.2
  unfold rdLn at hP
  have e0 : isW t N p 8928318 = true ↔ _ := wrd_is (t := t) (N := N) (p := p) (i := 0) (by decide)
  have e1 : isW t N p 1171592 = true ↔ _ := wrd_is (t := t) (N := N) (p := p) (i := 1) (by decide)
  have e2 : isW t N p 13903 = true ↔ _ := wrd_is (t := t) (N := N) (p := p) (i := 2) (by decide)
  have e3 : isW t N p 243059 = true ↔ _ := wrd_is (t := t) (N := N) (p := p) (i := 3) (by decide)
  have e4 : isW t N p 382984 = true ↔ _ := wrd_is (t := t) (N := N) (p := p) (i := 4) (by decide)
  have e5 : isW t N p 459791 = true ↔ _ := wrd_is (t := t) (N := N) (p := p) (i := 5) (by decide)
  have none84 : (¬ isW t N p 8928318 = true) → (¬ isW t N p 1171592 = true) → (¬ isW t N p 13903 = true) → (¬ isW t N p 243059 = true) → (¬ isW t N p 382984 = true) → (¬ isW t N p 459791 = true) → ∀ v1, G 0 0 84 [some (.ref R), v1] [.int (nI 1), .ref R] (sh, mI, mL, mR, n) := fun z0 z1 z2 z3 z4 z5 v1 => by
    rw [if_neg z0, if_neg z1, if_neg z2, if_neg z3, if_neg z4, if_neg z5] at hP
    refine hG.callV dX3_readLine_84 mv_3_116 [.int (nI 1)] [] (c3_wrong l X (d - 1) sh mI mL mR n R C TP t N p S0 1) ⟨_, rfl, rfl⟩ q0 (by omega) rfl (by decide) (by simp [Value.category]) rfl ?_
    rintro r M' ⟨rfl, rfl⟩
    have qq := hP _ _ (LgP.bad (e := (1, lxBg t N p)) (lnF.up (C := C) _ (by unfold lnW; omega)) rfl (up2_eq ..))
    refine hG.run [] 60 ?_
    simp [wp, stepI, ln, jmp, cmpI, Value.category, rd, tyF, vrs, vrn, ex_rr, ex_rn, ex_nr, ex_nn, okA_s, okA_n, st1, st2, clr, isLg, CB, inx_0, inx_1, inx_2, inx_3, inx_4, inx_5, bI_0, bI_1, bI_ok, fin3, tyX3, entL, q0, dX3_readLine_0, dX3_readLine_1, fT_3_21, dX3_readLine_4, fT_3_74, dX3_readLine_7, dX3_readLine_8, dX3_readLine_9, sT_3_78, dX3_readLine_12, dX3_readLine_15, dX3_readLine_16, dX3_readLine_19, dX3_readLine_20, dX3_readLine_21, sT_3_86, dX3_readLine_24, dX3_readLine_27, dX3_readLine_28, dX3_readLine_31, dX3_readLine_32, dX3_readLine_33, sT_3_92, dX3_readLine_36, dX3_readLine_39, dX3_readLine_40, dX3_readLine_43, dX3_readLine_44, dX3_readLine_45, sT_3_98, dX3_readLine_48, dX3_readLine_51, dX3_readLine_52, dX3_readLine_55, dX3_readLine_56, dX3_readLine_57, sT_3_104, dX3_readLine_60, dX3_readLine_63, dX3_readLine_64, dX3_readLine_67, dX3_readLine_68, dX3_readLine_69, sT_3_110, dX3_readLine_72, dX3_readLine_75, dX3_readLine_76, dX3_readLine_79, dX3_readLine_82, dX3_readLine_83, dX3_readLine_84, dX3_readLine_87]
    exact ⟨Or.inl rfl, qq⟩
  have g16 : isW t N p 8928318 = true → ∀ v1, G 0 0 16 [some (.ref R), v1] [.ref R] (sh, mI, mL, mR, n) := fun zz v1 => by
    rw [if_pos zz] at hP
    refine hG.callV dX3_readLine_16 mv_3_83 [] [] (c3_readPupil l X (d - 1) sh mI mL mR n R C TP t N p S0 D hD hV (by omega)) ⟨_, rfl, rfl⟩ q0 (by omega) rfl (by decide) (by simp [Value.category]) rfl ?_
    intro r M' hT
    have qq := hP _ _ (hT.g hw hRC (fun x hx => (rdPupil_k hx).2))
    obtain ⟨mI', mL', mR', rfl, -, b1, b2⟩ := hT
    cases hq : rdPupil t N p D with
    | inl e =>
      obtain ⟨rfl, -⟩ := b2 e hq
      refine hG.run [] 60 ?_
      simp [wp, stepI, ln, jmp, cmpI, Value.category, rd, tyF, vrs, vrn, ex_rr, ex_rn, ex_nr, ex_nn, okA_s, okA_n, st1, st2, clr, isLg, CB, inx_0, inx_1, inx_2, inx_3, inx_4, inx_5, bI_0, bI_1, bI_ok, fin3, tyX3, entL, q0, dX3_readLine_0, dX3_readLine_1, fT_3_21, dX3_readLine_4, fT_3_74, dX3_readLine_7, dX3_readLine_8, dX3_readLine_9, sT_3_78, dX3_readLine_12, dX3_readLine_15, dX3_readLine_16, dX3_readLine_19, dX3_readLine_20, dX3_readLine_21, sT_3_86, dX3_readLine_24, dX3_readLine_27, dX3_readLine_28, dX3_readLine_31, dX3_readLine_32, dX3_readLine_33, sT_3_92, dX3_readLine_36, dX3_readLine_39, dX3_readLine_40, dX3_readLine_43, dX3_readLine_44, dX3_readLine_45, sT_3_98, dX3_readLine_48, dX3_readLine_51, dX3_readLine_52, dX3_readLine_55, dX3_readLine_56, dX3_readLine_57, sT_3_104, dX3_readLine_60, dX3_readLine_63, dX3_readLine_64, dX3_readLine_67, dX3_readLine_68, dX3_readLine_69, sT_3_110, dX3_readLine_72, dX3_readLine_75, dX3_readLine_76, dX3_readLine_79, dX3_readLine_82, dX3_readLine_83, dX3_readLine_84, dX3_readLine_87]
      exact ⟨Or.inl rfl, qq⟩
    | inr x =>
      obtain ⟨rfl, -⟩ := b1 x hq
      refine hG.run [] 60 ?_
      simp [wp, stepI, ln, jmp, cmpI, Value.category, rd, tyF, vrs, vrn, ex_rr, ex_rn, ex_nr, ex_nn, okA_s, okA_n, st1, st2, clr, isLg, CB, inx_0, inx_1, inx_2, inx_3, inx_4, inx_5, bI_0, bI_1, bI_ok, fin3, tyX3, entL, q0, dX3_readLine_0, dX3_readLine_1, fT_3_21, dX3_readLine_4, fT_3_74, dX3_readLine_7, dX3_readLine_8, dX3_readLine_9, sT_3_78, dX3_readLine_12, dX3_readLine_15, dX3_readLine_16, dX3_readLine_19, dX3_readLine_20, dX3_readLine_21, sT_3_86, dX3_readLine_24, dX3_readLine_27, dX3_readLine_28, dX3_readLine_31, dX3_readLine_32, dX3_readLine_33, sT_3_92, dX3_readLine_36, dX3_readLine_39, dX3_readLine_40, dX3_readLine_43, dX3_readLine_44, dX3_readLine_45, sT_3_98, dX3_readLine_48, dX3_readLine_51, dX3_readLine_52, dX3_readLine_55, dX3_readLine_56, dX3_readLine_57, sT_3_104, dX3_readLine_60, dX3_readLine_63, dX3_readLine_64, dX3_readLine_67, dX3_readLine_68, dX3_readLine_69, sT_3_110, dX3_readLine_72, dX3_readLine_75, dX3_readLine_76, dX3_readLine_79, dX3_readLine_82, dX3_readLine_83, dX3_readLine_84, dX3_readLine_87]
      exact ⟨Or.inr rfl, qq⟩
  have g28 : (¬ isW t N p 8928318 = true) → isW t N p 1171592 = true → ∀ v1, G 0 0 28 [some (.ref R), v1] [.ref R] (sh, mI, mL, mR, n) := fun z0 zz v1 => by
    rw [if_neg z0, if_pos zz] at hP
    refine hG.callV dX3_readLine_28 mv_3_89 [] [] (c3_readBench l X (d - 1) sh mI mL mR n R C TP t N p S0 D hD hV (by omega)) ⟨_, rfl, rfl⟩ q0 (by omega) rfl (by decide) (by simp [Value.category]) rfl ?_
    intro r M' hT
    have qq := hP _ _ (hT.g hw hRC (fun x hx => (rdBench_k hx).2))
    obtain ⟨mI', mL', mR', rfl, -, b1, b2⟩ := hT
    cases hq : rdBench t N p D with
    | inl e =>
      obtain ⟨rfl, -⟩ := b2 e hq
      refine hG.run [] 60 ?_
      simp [wp, stepI, ln, jmp, cmpI, Value.category, rd, tyF, vrs, vrn, ex_rr, ex_rn, ex_nr, ex_nn, okA_s, okA_n, st1, st2, clr, isLg, CB, inx_0, inx_1, inx_2, inx_3, inx_4, inx_5, bI_0, bI_1, bI_ok, fin3, tyX3, entL, q0, dX3_readLine_0, dX3_readLine_1, fT_3_21, dX3_readLine_4, fT_3_74, dX3_readLine_7, dX3_readLine_8, dX3_readLine_9, sT_3_78, dX3_readLine_12, dX3_readLine_15, dX3_readLine_16, dX3_readLine_19, dX3_readLine_20, dX3_readLine_21, sT_3_86, dX3_readLine_24, dX3_readLine_27, dX3_readLine_28, dX3_readLine_31, dX3_readLine_32, dX3_readLine_33, sT_3_92, dX3_readLine_36, dX3_readLine_39, dX3_readLine_40, dX3_readLine_43, dX3_readLine_44, dX3_readLine_45, sT_3_98, dX3_readLine_48, dX3_readLine_51, dX3_readLine_52, dX3_readLine_55, dX3_readLine_56, dX3_readLine_57, sT_3_104, dX3_readLine_60, dX3_readLine_63, dX3_readLine_64, dX3_readLine_67, dX3_readLine_68, dX3_readLine_69, sT_3_110, dX3_readLine_72, dX3_readLine_75, dX3_readLine_76, dX3_readLine_79, dX3_readLine_82, dX3_readLine_83, dX3_readLine_84, dX3_readLine_87]
      exact ⟨Or.inl rfl, qq⟩
    | inr x =>
      obtain ⟨rfl, -⟩ := b1 x hq
      refine hG.run [] 60 ?_
      simp [wp, stepI, ln, jmp, cmpI, Value.category, rd, tyF, vrs, vrn, ex_rr, ex_rn, ex_nr, ex_nn, okA_s, okA_n, st1, st2, clr, isLg, CB, inx_0, inx_1, inx_2, inx_3, inx_4, inx_5, bI_0, bI_1, bI_ok, fin3, tyX3, entL, q0, dX3_readLine_0, dX3_readLine_1, fT_3_21, dX3_readLine_4, fT_3_74, dX3_readLine_7, dX3_readLine_8, dX3_readLine_9, sT_3_78, dX3_readLine_12, dX3_readLine_15, dX3_readLine_16, dX3_readLine_19, dX3_readLine_20, dX3_readLine_21, sT_3_86, dX3_readLine_24, dX3_readLine_27, dX3_readLine_28, dX3_readLine_31, dX3_readLine_32, dX3_readLine_33, sT_3_92, dX3_readLine_36, dX3_readLine_39, dX3_readLine_40, dX3_readLine_43, dX3_readLine_44, dX3_readLine_45, sT_3_98, dX3_readLine_48, dX3_readLine_51, dX3_readLine_52, dX3_readLine_55, dX3_readLine_56, dX3_readLine_57, sT_3_104, dX3_readLine_60, dX3_readLine_63, dX3_readLine_64, dX3_readLine_67, dX3_readLine_68, dX3_readLine_69, sT_3_110, dX3_readLine_72, dX3_readLine_75, dX3_readLine_76, dX3_readLine_79, dX3_readLine_82, dX3_readLine_83, dX3_readLine_84, dX3_readLine_87]
      exact ⟨Or.inr rfl, qq⟩
  have g40 : (¬ isW t N p 8928318 = true) → (¬ isW t N p 1171592 = true) → isW t N p 13903 = true → ∀ v1, G 0 0 40 [some (.ref R), v1] [.ref R] (sh, mI, mL, mR, n) := fun z0 z1 zz v1 => by
    rw [if_neg z0, if_neg z1, if_pos zz] at hP
    refine hG.callV dX3_readLine_40 mv_3_95 [] [] (c3_readSaying l X (d - 1) sh mI mL mR n R C TP t N p S0 D hD hV (by omega)) ⟨_, rfl, rfl⟩ q0 (by omega) rfl (by decide) (by simp [Value.category]) rfl ?_
    intro r M' hT
    have qq := hP _ _ (hT.g hw hRC (fun x hx => (rdSay_k hx).2))
    obtain ⟨mI', mL', mR', rfl, -, b1, b2⟩ := hT
    cases hq : rdSay t N p D with
    | inl e =>
      obtain ⟨rfl, -⟩ := b2 e hq
      refine hG.run [] 60 ?_
      simp [wp, stepI, ln, jmp, cmpI, Value.category, rd, tyF, vrs, vrn, ex_rr, ex_rn, ex_nr, ex_nn, okA_s, okA_n, st1, st2, clr, isLg, CB, inx_0, inx_1, inx_2, inx_3, inx_4, inx_5, bI_0, bI_1, bI_ok, fin3, tyX3, entL, q0, dX3_readLine_0, dX3_readLine_1, fT_3_21, dX3_readLine_4, fT_3_74, dX3_readLine_7, dX3_readLine_8, dX3_readLine_9, sT_3_78, dX3_readLine_12, dX3_readLine_15, dX3_readLine_16, dX3_readLine_19, dX3_readLine_20, dX3_readLine_21, sT_3_86, dX3_readLine_24, dX3_readLine_27, dX3_readLine_28, dX3_readLine_31, dX3_readLine_32, dX3_readLine_33, sT_3_92, dX3_readLine_36, dX3_readLine_39, dX3_readLine_40, dX3_readLine_43, dX3_readLine_44, dX3_readLine_45, sT_3_98, dX3_readLine_48, dX3_readLine_51, dX3_readLine_52, dX3_readLine_55, dX3_readLine_56, dX3_readLine_57, sT_3_104, dX3_readLine_60, dX3_readLine_63, dX3_readLine_64, dX3_readLine_67, dX3_readLine_68, dX3_readLine_69, sT_3_110, dX3_readLine_72, dX3_readLine_75, dX3_readLine_76, dX3_readLine_79, dX3_readLine_82, dX3_readLine_83, dX3_readLine_84, dX3_readLine_87]
      exact ⟨Or.inl rfl, qq⟩
    | inr x =>
      obtain ⟨rfl, -⟩ := b1 x hq
      refine hG.run [] 60 ?_
      simp [wp, stepI, ln, jmp, cmpI, Value.category, rd, tyF, vrs, vrn, ex_rr, ex_rn, ex_nr, ex_nn, okA_s, okA_n, st1, st2, clr, isLg, CB, inx_0, inx_1, inx_2, inx_3, inx_4, inx_5, bI_0, bI_1, bI_ok, fin3, tyX3, entL, q0, dX3_readLine_0, dX3_readLine_1, fT_3_21, dX3_readLine_4, fT_3_74, dX3_readLine_7, dX3_readLine_8, dX3_readLine_9, sT_3_78, dX3_readLine_12, dX3_readLine_15, dX3_readLine_16, dX3_readLine_19, dX3_readLine_20, dX3_readLine_21, sT_3_86, dX3_readLine_24, dX3_readLine_27, dX3_readLine_28, dX3_readLine_31, dX3_readLine_32, dX3_readLine_33, sT_3_92, dX3_readLine_36, dX3_readLine_39, dX3_readLine_40, dX3_readLine_43, dX3_readLine_44, dX3_readLine_45, sT_3_98, dX3_readLine_48, dX3_readLine_51, dX3_readLine_52, dX3_readLine_55, dX3_readLine_56, dX3_readLine_57, sT_3_104, dX3_readLine_60, dX3_readLine_63, dX3_readLine_64, dX3_readLine_67, dX3_readLine_68, dX3_readLine_69, sT_3_110, dX3_readLine_72, dX3_readLine_75, dX3_readLine_76, dX3_readLine_79, dX3_readLine_82, dX3_readLine_83, dX3_readLine_84, dX3_readLine_87]
      exact ⟨Or.inr rfl, qq⟩
  have g52 : (¬ isW t N p 8928318 = true) → (¬ isW t N p 1171592 = true) → (¬ isW t N p 13903 = true) → isW t N p 243059 = true → ∀ v1, G 0 0 52 [some (.ref R), v1] [.ref R] (sh, mI, mL, mR, n) := fun z0 z1 z2 zz v1 => by
    rw [if_neg z0, if_neg z1, if_neg z2, if_pos zz] at hP
    refine hG.callV dX3_readLine_52 mv_3_101 [] [] (c3_readLiking l X (d - 1) sh mI mL mR n R C TP t N p S0 D hD hV (by omega)) ⟨_, rfl, rfl⟩ q0 (by omega) rfl (by decide) (by simp [Value.category]) rfl ?_
    intro r M' hT
    have qq := hP _ _ (hT.g hw hRC (fun x hx => (rdLike_k hx).2))
    obtain ⟨mI', mL', mR', rfl, -, b1, b2⟩ := hT
    cases hq : rdLike t N p D with
    | inl e =>
      obtain ⟨rfl, -⟩ := b2 e hq
      refine hG.run [] 60 ?_
      simp [wp, stepI, ln, jmp, cmpI, Value.category, rd, tyF, vrs, vrn, ex_rr, ex_rn, ex_nr, ex_nn, okA_s, okA_n, st1, st2, clr, isLg, CB, inx_0, inx_1, inx_2, inx_3, inx_4, inx_5, bI_0, bI_1, bI_ok, fin3, tyX3, entL, q0, dX3_readLine_0, dX3_readLine_1, fT_3_21, dX3_readLine_4, fT_3_74, dX3_readLine_7, dX3_readLine_8, dX3_readLine_9, sT_3_78, dX3_readLine_12, dX3_readLine_15, dX3_readLine_16, dX3_readLine_19, dX3_readLine_20, dX3_readLine_21, sT_3_86, dX3_readLine_24, dX3_readLine_27, dX3_readLine_28, dX3_readLine_31, dX3_readLine_32, dX3_readLine_33, sT_3_92, dX3_readLine_36, dX3_readLine_39, dX3_readLine_40, dX3_readLine_43, dX3_readLine_44, dX3_readLine_45, sT_3_98, dX3_readLine_48, dX3_readLine_51, dX3_readLine_52, dX3_readLine_55, dX3_readLine_56, dX3_readLine_57, sT_3_104, dX3_readLine_60, dX3_readLine_63, dX3_readLine_64, dX3_readLine_67, dX3_readLine_68, dX3_readLine_69, sT_3_110, dX3_readLine_72, dX3_readLine_75, dX3_readLine_76, dX3_readLine_79, dX3_readLine_82, dX3_readLine_83, dX3_readLine_84, dX3_readLine_87]
      exact ⟨Or.inl rfl, qq⟩
    | inr x =>
      obtain ⟨rfl, -⟩ := b1 x hq
      refine hG.run [] 60 ?_
      simp [wp, stepI, ln, jmp, cmpI, Value.category, rd, tyF, vrs, vrn, ex_rr, ex_rn, ex_nr, ex_nn, okA_s, okA_n, st1, st2, clr, isLg, CB, inx_0, inx_1, inx_2, inx_3, inx_4, inx_5, bI_0, bI_1, bI_ok, fin3, tyX3, entL, q0, dX3_readLine_0, dX3_readLine_1, fT_3_21, dX3_readLine_4, fT_3_74, dX3_readLine_7, dX3_readLine_8, dX3_readLine_9, sT_3_78, dX3_readLine_12, dX3_readLine_15, dX3_readLine_16, dX3_readLine_19, dX3_readLine_20, dX3_readLine_21, sT_3_86, dX3_readLine_24, dX3_readLine_27, dX3_readLine_28, dX3_readLine_31, dX3_readLine_32, dX3_readLine_33, sT_3_92, dX3_readLine_36, dX3_readLine_39, dX3_readLine_40, dX3_readLine_43, dX3_readLine_44, dX3_readLine_45, sT_3_98, dX3_readLine_48, dX3_readLine_51, dX3_readLine_52, dX3_readLine_55, dX3_readLine_56, dX3_readLine_57, sT_3_104, dX3_readLine_60, dX3_readLine_63, dX3_readLine_64, dX3_readLine_67, dX3_readLine_68, dX3_readLine_69, sT_3_110, dX3_readLine_72, dX3_readLine_75, dX3_readLine_76, dX3_readLine_79, dX3_readLine_82, dX3_readLine_83, dX3_readLine_84, dX3_readLine_87]
      exact ⟨Or.inr rfl, qq⟩
  have g64 : (¬ isW t N p 8928318 = true) → (¬ isW t N p 1171592 = true) → (¬ isW t N p 13903 = true) → (¬ isW t N p 243059 = true) → isW t N p 382984 = true → ∀ v1, G 0 0 64 [some (.ref R), v1] [.ref R] (sh, mI, mL, mR, n) := fun z0 z1 z2 z3 zz v1 => by
    rw [if_neg z0, if_neg z1, if_neg z2, if_neg z3, if_pos zz] at hP
    refine hG.callV dX3_readLine_64 mv_3_107 [] [] (c3_readSlip l X (d - 1) sh mI mL mR n R C TP t N p S0 D hD hV (by omega)) ⟨_, rfl, rfl⟩ q0 (by omega) rfl (by decide) (by simp [Value.category]) rfl ?_
    intro r M' hT
    have qq := hP _ _ (hT.g hw hRC (fun x hx => (rdSlip_k hx).2))
    obtain ⟨mI', mL', mR', rfl, -, b1, b2⟩ := hT
    cases hq : rdSlip t N p D with
    | inl e =>
      obtain ⟨rfl, -⟩ := b2 e hq
      refine hG.run [] 60 ?_
      simp [wp, stepI, ln, jmp, cmpI, Value.category, rd, tyF, vrs, vrn, ex_rr, ex_rn, ex_nr, ex_nn, okA_s, okA_n, st1, st2, clr, isLg, CB, inx_0, inx_1, inx_2, inx_3, inx_4, inx_5, bI_0, bI_1, bI_ok, fin3, tyX3, entL, q0, dX3_readLine_0, dX3_readLine_1, fT_3_21, dX3_readLine_4, fT_3_74, dX3_readLine_7, dX3_readLine_8, dX3_readLine_9, sT_3_78, dX3_readLine_12, dX3_readLine_15, dX3_readLine_16, dX3_readLine_19, dX3_readLine_20, dX3_readLine_21, sT_3_86, dX3_readLine_24, dX3_readLine_27, dX3_readLine_28, dX3_readLine_31, dX3_readLine_32, dX3_readLine_33, sT_3_92, dX3_readLine_36, dX3_readLine_39, dX3_readLine_40, dX3_readLine_43, dX3_readLine_44, dX3_readLine_45, sT_3_98, dX3_readLine_48, dX3_readLine_51, dX3_readLine_52, dX3_readLine_55, dX3_readLine_56, dX3_readLine_57, sT_3_104, dX3_readLine_60, dX3_readLine_63, dX3_readLine_64, dX3_readLine_67, dX3_readLine_68, dX3_readLine_69, sT_3_110, dX3_readLine_72, dX3_readLine_75, dX3_readLine_76, dX3_readLine_79, dX3_readLine_82, dX3_readLine_83, dX3_readLine_84, dX3_readLine_87]
      exact ⟨Or.inl rfl, qq⟩
    | inr x =>
      obtain ⟨rfl, -⟩ := b1 x hq
      refine hG.run [] 60 ?_
      simp [wp, stepI, ln, jmp, cmpI, Value.category, rd, tyF, vrs, vrn, ex_rr, ex_rn, ex_nr, ex_nn, okA_s, okA_n, st1, st2, clr, isLg, CB, inx_0, inx_1, inx_2, inx_3, inx_4, inx_5, bI_0, bI_1, bI_ok, fin3, tyX3, entL, q0, dX3_readLine_0, dX3_readLine_1, fT_3_21, dX3_readLine_4, fT_3_74, dX3_readLine_7, dX3_readLine_8, dX3_readLine_9, sT_3_78, dX3_readLine_12, dX3_readLine_15, dX3_readLine_16, dX3_readLine_19, dX3_readLine_20, dX3_readLine_21, sT_3_86, dX3_readLine_24, dX3_readLine_27, dX3_readLine_28, dX3_readLine_31, dX3_readLine_32, dX3_readLine_33, sT_3_92, dX3_readLine_36, dX3_readLine_39, dX3_readLine_40, dX3_readLine_43, dX3_readLine_44, dX3_readLine_45, sT_3_98, dX3_readLine_48, dX3_readLine_51, dX3_readLine_52, dX3_readLine_55, dX3_readLine_56, dX3_readLine_57, sT_3_104, dX3_readLine_60, dX3_readLine_63, dX3_readLine_64, dX3_readLine_67, dX3_readLine_68, dX3_readLine_69, sT_3_110, dX3_readLine_72, dX3_readLine_75, dX3_readLine_76, dX3_readLine_79, dX3_readLine_82, dX3_readLine_83, dX3_readLine_84, dX3_readLine_87]
      exact ⟨Or.inr rfl, qq⟩
  have g76 : (¬ isW t N p 8928318 = true) → (¬ isW t N p 1171592 = true) → (¬ isW t N p 13903 = true) → (¬ isW t N p 243059 = true) → (¬ isW t N p 382984 = true) → isW t N p 459791 = true → ∀ v1, G 0 0 76 [some (.ref R), v1] [.ref R] (sh, mI, mL, mR, n) := fun z0 z1 z2 z3 z4 zz v1 => by
    rw [if_neg z0, if_neg z1, if_neg z2, if_neg z3, if_neg z4, if_pos zz] at hP
    have hk : lxK t N p ≠ 0 := isW_k zz
    by_cases h5 : D 0 5 = 0
    · have hmm := hm zz h5
      refine hG.callV dX3_readLine_76 mv_3_113 [] [] (c3_readWish l X (d - 1) sh mI mL mR n R C TP t N p S0 D hD hV hn hn2 hRC h5 hk (by omega)) ⟨_, rfl, rfl⟩ q0 (by omega) rfl (by decide) (by simp [Value.category]) rfl ?_ (by omega) (by omega)
      intro r M' hT
      have qq := hP _ _ hT
      obtain ⟨sh', mI', mL', mR', n', rfl, -, -, -, -, -, b1, b2⟩ := hT
      cases hq : rdWish t N p D with
      | inl e =>
        obtain ⟨rfl, -⟩ := b2 e hq
        refine hG.run [] 60 ?_ (by omega) (by omega)
        simp [wp, stepI, ln, jmp, cmpI, Value.category, rd, tyF, vrs, vrn, ex_rr, ex_rn, ex_nr, ex_nn, okA_s, okA_n, st1, st2, clr, isLg, CB, inx_0, inx_1, inx_2, inx_3, inx_4, inx_5, bI_0, bI_1, bI_ok, fin3, tyX3, entL, dX3_readLine_0, dX3_readLine_1, fT_3_21, dX3_readLine_4, fT_3_74, dX3_readLine_7, dX3_readLine_8, dX3_readLine_9, sT_3_78, dX3_readLine_12, dX3_readLine_15, dX3_readLine_16, dX3_readLine_19, dX3_readLine_20, dX3_readLine_21, sT_3_86, dX3_readLine_24, dX3_readLine_27, dX3_readLine_28, dX3_readLine_31, dX3_readLine_32, dX3_readLine_33, sT_3_92, dX3_readLine_36, dX3_readLine_39, dX3_readLine_40, dX3_readLine_43, dX3_readLine_44, dX3_readLine_45, sT_3_98, dX3_readLine_48, dX3_readLine_51, dX3_readLine_52, dX3_readLine_55, dX3_readLine_56, dX3_readLine_57, sT_3_104, dX3_readLine_60, dX3_readLine_63, dX3_readLine_64, dX3_readLine_67, dX3_readLine_68, dX3_readLine_69, sT_3_110, dX3_readLine_72, dX3_readLine_75, dX3_readLine_76, dX3_readLine_79, dX3_readLine_82, dX3_readLine_83, dX3_readLine_84, dX3_readLine_87]
        exact ⟨Or.inl rfl, qq⟩
      | inr x =>
        obtain ⟨rfl, -⟩ := b1 x hq
        refine hG.run [] 60 ?_ (by omega) (by omega)
        simp [wp, stepI, ln, jmp, cmpI, Value.category, rd, tyF, vrs, vrn, ex_rr, ex_rn, ex_nr, ex_nn, okA_s, okA_n, st1, st2, clr, isLg, CB, inx_0, inx_1, inx_2, inx_3, inx_4, inx_5, bI_0, bI_1, bI_ok, fin3, tyX3, entL, dX3_readLine_0, dX3_readLine_1, fT_3_21, dX3_readLine_4, fT_3_74, dX3_readLine_7, dX3_readLine_8, dX3_readLine_9, sT_3_78, dX3_readLine_12, dX3_readLine_15, dX3_readLine_16, dX3_readLine_19, dX3_readLine_20, dX3_readLine_21, sT_3_86, dX3_readLine_24, dX3_readLine_27, dX3_readLine_28, dX3_readLine_31, dX3_readLine_32, dX3_readLine_33, sT_3_92, dX3_readLine_36, dX3_readLine_39, dX3_readLine_40, dX3_readLine_43, dX3_readLine_44, dX3_readLine_45, sT_3_98, dX3_readLine_48, dX3_readLine_51, dX3_readLine_52, dX3_readLine_55, dX3_readLine_56, dX3_readLine_57, sT_3_104, dX3_readLine_60, dX3_readLine_63, dX3_readLine_64, dX3_readLine_67, dX3_readLine_68, dX3_readLine_69, sT_3_110, dX3_readLine_72, dX3_readLine_75, dX3_readLine_76, dX3_readLine_79, dX3_readLine_82, dX3_readLine_83, dX3_readLine_84, dX3_readLine_87]
        exact ⟨Or.inr rfl, qq⟩
    · refine hG.callV dX3_readLine_76 mv_3_113 [] [] (c3_readWish1 l X (d - 1) sh mI mL mR n R C TP t N p S0 D hD hV h5 (by omega)) ⟨_, rfl, rfl⟩ q0 (by omega) rfl (by decide) (by simp [Value.category]) rfl ?_
      rintro r M' ⟨rfl, hT⟩
      have qq := hP _ _ hT
      obtain ⟨sh', mI', mL', mR', n', rfl, -⟩ := hT
      refine hG.run [] 60 ?_
      simp [wp, stepI, ln, jmp, cmpI, Value.category, rd, tyF, vrs, vrn, ex_rr, ex_rn, ex_nr, ex_nn, okA_s, okA_n, st1, st2, clr, isLg, CB, inx_0, inx_1, inx_2, inx_3, inx_4, inx_5, bI_0, bI_1, bI_ok, fin3, tyX3, entL, q0, dX3_readLine_0, dX3_readLine_1, fT_3_21, dX3_readLine_4, fT_3_74, dX3_readLine_7, dX3_readLine_8, dX3_readLine_9, sT_3_78, dX3_readLine_12, dX3_readLine_15, dX3_readLine_16, dX3_readLine_19, dX3_readLine_20, dX3_readLine_21, sT_3_86, dX3_readLine_24, dX3_readLine_27, dX3_readLine_28, dX3_readLine_31, dX3_readLine_32, dX3_readLine_33, sT_3_92, dX3_readLine_36, dX3_readLine_39, dX3_readLine_40, dX3_readLine_43, dX3_readLine_44, dX3_readLine_45, sT_3_98, dX3_readLine_48, dX3_readLine_51, dX3_readLine_52, dX3_readLine_55, dX3_readLine_56, dX3_readLine_57, sT_3_104, dX3_readLine_60, dX3_readLine_63, dX3_readLine_64, dX3_readLine_67, dX3_readLine_68, dX3_readLine_69, sT_3_110, dX3_readLine_72, dX3_readLine_75, dX3_readLine_76, dX3_readLine_79, dX3_readLine_82, dX3_readLine_83, dX3_readLine_84, dX3_readLine_87]
      exact ⟨Or.inl rfl, qq⟩
  by_cases hk : lxK t N p = 1
  · rw [if_pos hk] at h6
    unfold wrd at h6
    by_cases hwx : wix (lxWd t N p) < 21
    · rw [if_pos hwx] at h6
      obtain ⟨x, hx⟩ : ∃ x, x = 1000000000 + wix (lxWd t N p) := ⟨_, rfl⟩
      rw [← hx] at h6
      have x22 : x < 1000000022 := by rw [hx]; exact Nat.lt_succ_of_lt (Nat.add_lt_add_left hwx 1000000000)
      have y0 : x = 1000000000 ↔ wix (lxWd t N p) = 0 := by rw [hx]; exact Nat.add_left_cancel_iff (n := 1000000000) (k := 0)
      have y1 : x = 1000000001 ↔ wix (lxWd t N p) = 1 := by rw [hx]; exact Nat.add_left_cancel_iff (n := 1000000000) (k := 1)
      have y2 : x = 1000000002 ↔ wix (lxWd t N p) = 2 := by rw [hx]; exact Nat.add_left_cancel_iff (n := 1000000000) (k := 2)
      have y3 : x = 1000000003 ↔ wix (lxWd t N p) = 3 := by rw [hx]; exact Nat.add_left_cancel_iff (n := 1000000000) (k := 3)
      have y4 : x = 1000000004 ↔ wix (lxWd t N p) = 4 := by rw [hx]; exact Nat.add_left_cancel_iff (n := 1000000000) (k := 4)
      have y5 : x = 1000000005 ↔ wix (lxWd t N p) = 5 := by rw [hx]; exact Nat.add_left_cancel_iff (n := 1000000000) (k := 5)
      have a0 : x = 1000000000 ↔ isW t N p 8928318 = true := by rw [y0, e0]; exact ⟨fun z => ⟨hk, z⟩, fun z => z.2⟩
      have a1 : x = 1000000001 ↔ isW t N p 1171592 = true := by rw [y1, e1]; exact ⟨fun z => ⟨hk, z⟩, fun z => z.2⟩
      have a2 : x = 1000000002 ↔ isW t N p 13903 = true := by rw [y2, e2]; exact ⟨fun z => ⟨hk, z⟩, fun z => z.2⟩
      have a3 : x = 1000000003 ↔ isW t N p 243059 = true := by rw [y3, e3]; exact ⟨fun z => ⟨hk, z⟩, fun z => z.2⟩
      have a4 : x = 1000000004 ↔ isW t N p 382984 = true := by rw [y4, e4]; exact ⟨fun z => ⟨hk, z⟩, fun z => z.2⟩
      have a5 : x = 1000000005 ↔ isW t N p 459791 = true := by rw [y5, e5]; exact ⟨fun z => ⟨hk, z⟩, fun z => z.2⟩
      clear y0 y1 y2 y3 y4 y5 e0 e1 e2 e3 e4 e5 hx
      refine hG.run [16, 28, 40, 52, 64, 76, 84] 90 ?_
      simp [wp, stepI, ln, jmp, cmpI, Value.category, rd, tyF, vrs, vrn, ex_rr, ex_rn, ex_nr, ex_nn, okA_s, okA_n, st1, st2, clr, isLg, CB, inx_0, inx_1, inx_2, inx_3, inx_4, inx_5, bI_0, bI_1, bI_ok, fin3, tyX3, entL, q0, r1, k0, tyX8, h6, dX3_readLine_0, dX3_readLine_1, fT_3_21, dX3_readLine_4, fT_3_74, dX3_readLine_7, dX3_readLine_8, dX3_readLine_9, sT_3_78, dX3_readLine_12, dX3_readLine_15, dX3_readLine_16, dX3_readLine_19, dX3_readLine_20, dX3_readLine_21, sT_3_86, dX3_readLine_24, dX3_readLine_27, dX3_readLine_28, dX3_readLine_31, dX3_readLine_32, dX3_readLine_33, sT_3_92, dX3_readLine_36, dX3_readLine_39, dX3_readLine_40, dX3_readLine_43, dX3_readLine_44, dX3_readLine_45, sT_3_98, dX3_readLine_48, dX3_readLine_51, dX3_readLine_52, dX3_readLine_55, dX3_readLine_56, dX3_readLine_57, sT_3_104, dX3_readLine_60, dX3_readLine_63, dX3_readLine_64, dX3_readLine_67, dX3_readLine_68, dX3_readLine_69, sT_3_110, dX3_readLine_72, dX3_readLine_75, dX3_readLine_76, dX3_readLine_79, dX3_readLine_82, dX3_readLine_83, dX3_readLine_84, dX3_readLine_87]
      exact ⟨x22, fun z0 => ⟨x22, fun z1 => ⟨x22, fun z2 => ⟨x22, fun z3 => ⟨x22, fun z4 => ⟨x22, fun z5 => none84 (fun y => z0 (a0.mpr y)) (fun y => z1 (a1.mpr y)) (fun y => z2 (a2.mpr y)) (fun y => z3 (a3.mpr y)) (fun y => z4 (a4.mpr y)) (fun y => z5 (a5.mpr y)) _, fun z5 => g76 (fun y => z0 (a0.mpr y)) (fun y => z1 (a1.mpr y)) (fun y => z2 (a2.mpr y)) (fun y => z3 (a3.mpr y)) (fun y => z4 (a4.mpr y)) (a5.mp z5) _⟩, fun z4 => g64 (fun y => z0 (a0.mpr y)) (fun y => z1 (a1.mpr y)) (fun y => z2 (a2.mpr y)) (fun y => z3 (a3.mpr y)) (a4.mp z4) _⟩, fun z3 => g52 (fun y => z0 (a0.mpr y)) (fun y => z1 (a1.mpr y)) (fun y => z2 (a2.mpr y)) (a3.mp z3) _⟩, fun z2 => g40 (fun y => z0 (a0.mpr y)) (fun y => z1 (a1.mpr y)) (a2.mp z2) _⟩, fun z1 => g28 (fun y => z0 (a0.mpr y)) (a1.mp z1) _⟩, fun z0 => g16 (a0.mp z0) _⟩
    · rw [if_neg hwx] at h6
      have q := none84 (fun y => hwx (by have := (e0.mp y).2; omega)) (fun y => hwx (by have := (e1.mp y).2; omega)) (fun y => hwx (by have := (e2.mp y).2; omega)) (fun y => hwx (by have := (e3.mp y).2; omega)) (fun y => hwx (by have := (e4.mp y).2; omega)) (fun y => hwx (by have := (e5.mp y).2; omega)) (some .null)
      refine hG.run [7] 90 ?_
      simp [wp, stepI, ln, jmp, cmpI, Value.category, rd, tyF, vrs, vrn, ex_rr, ex_rn, ex_nr, ex_nn, okA_s, okA_n, st1, st2, clr, isLg, CB, inx_0, inx_1, inx_2, inx_3, inx_4, inx_5, bI_0, bI_1, bI_ok, fin3, tyX3, entL, q0, r1, k0, tyX8, h6, dX3_readLine_0, dX3_readLine_1, fT_3_21, dX3_readLine_4, fT_3_74, dX3_readLine_7, dX3_readLine_8, dX3_readLine_9, sT_3_78, dX3_readLine_12, dX3_readLine_15, dX3_readLine_16, dX3_readLine_19, dX3_readLine_20, dX3_readLine_21, sT_3_86, dX3_readLine_24, dX3_readLine_27, dX3_readLine_28, dX3_readLine_31, dX3_readLine_32, dX3_readLine_33, sT_3_92, dX3_readLine_36, dX3_readLine_39, dX3_readLine_40, dX3_readLine_43, dX3_readLine_44, dX3_readLine_45, sT_3_98, dX3_readLine_48, dX3_readLine_51, dX3_readLine_52, dX3_readLine_55, dX3_readLine_56, dX3_readLine_57, sT_3_104, dX3_readLine_60, dX3_readLine_63, dX3_readLine_64, dX3_readLine_67, dX3_readLine_68, dX3_readLine_69, sT_3_110, dX3_readLine_72, dX3_readLine_75, dX3_readLine_76, dX3_readLine_79, dX3_readLine_82, dX3_readLine_83, dX3_readLine_84, dX3_readLine_87]
      refine hG.astn dX3_readLine_7 (by simp) ?_
      refine hG.run [84] 90 ?_
      simp [wp, stepI, ln, jmp, cmpI, Value.category, rd, tyF, vrs, vrn, ex_rr, ex_rn, ex_nr, ex_nn, okA_s, okA_n, st1, st2, clr, isLg, CB, inx_0, inx_1, inx_2, inx_3, inx_4, inx_5, bI_0, bI_1, bI_ok, fin3, tyX3, entL, q0, r1, k0, tyX8, h6, dX3_readLine_0, dX3_readLine_1, fT_3_21, dX3_readLine_4, fT_3_74, dX3_readLine_7, dX3_readLine_8, dX3_readLine_9, sT_3_78, dX3_readLine_12, dX3_readLine_15, dX3_readLine_16, dX3_readLine_19, dX3_readLine_20, dX3_readLine_21, sT_3_86, dX3_readLine_24, dX3_readLine_27, dX3_readLine_28, dX3_readLine_31, dX3_readLine_32, dX3_readLine_33, sT_3_92, dX3_readLine_36, dX3_readLine_39, dX3_readLine_40, dX3_readLine_43, dX3_readLine_44, dX3_readLine_45, sT_3_98, dX3_readLine_48, dX3_readLine_51, dX3_readLine_52, dX3_readLine_55, dX3_readLine_56, dX3_readLine_57, sT_3_104, dX3_readLine_60, dX3_readLine_63, dX3_readLine_64, dX3_readLine_67, dX3_readLine_68, dX3_readLine_69, sT_3_110, dX3_readLine_72, dX3_readLine_75, dX3_readLine_76, dX3_readLine_79, dX3_readLine_82, dX3_readLine_83, dX3_readLine_84, dX3_readLine_87]
      exact q
  · rw [if_neg hk] at h6
    have q := none84 (fun y => hk (e0.mp y).1) (fun y => hk (e1.mp y).1) (fun y => hk (e2.mp y).1) (fun y => hk (e3.mp y).1) (fun y => hk (e4.mp y).1) (fun y => hk (e5.mp y).1) (some .null)
    refine hG.run [7] 90 ?_
    simp [wp, stepI, ln, jmp, cmpI, Value.category, rd, tyF, vrs, vrn, ex_rr, ex_rn, ex_nr, ex_nn, okA_s, okA_n, st1, st2, clr, isLg, CB, inx_0, inx_1, inx_2, inx_3, inx_4, inx_5, bI_0, bI_1, bI_ok, fin3, tyX3, entL, q0, r1, k0, tyX8, h6, dX3_readLine_0, dX3_readLine_1, fT_3_21, dX3_readLine_4, fT_3_74, dX3_readLine_7, dX3_readLine_8, dX3_readLine_9, sT_3_78, dX3_readLine_12, dX3_readLine_15, dX3_readLine_16, dX3_readLine_19, dX3_readLine_20, dX3_readLine_21, sT_3_86, dX3_readLine_24, dX3_readLine_27, dX3_readLine_28, dX3_readLine_31, dX3_readLine_32, dX3_readLine_33, sT_3_92, dX3_readLine_36, dX3_readLine_39, dX3_readLine_40, dX3_readLine_43, dX3_readLine_44, dX3_readLine_45, sT_3_98, dX3_readLine_48, dX3_readLine_51, dX3_readLine_52, dX3_readLine_55, dX3_readLine_56, dX3_readLine_57, sT_3_104, dX3_readLine_60, dX3_readLine_63, dX3_readLine_64, dX3_readLine_67, dX3_readLine_68, dX3_readLine_69, sT_3_110, dX3_readLine_72, dX3_readLine_75, dX3_readLine_76, dX3_readLine_79, dX3_readLine_82, dX3_readLine_83, dX3_readLine_84, dX3_readLine_87]
    refine hG.astn dX3_readLine_7 (by simp) ?_
    refine hG.run [84] 90 ?_
    simp [wp, stepI, ln, jmp, cmpI, Value.category, rd, tyF, vrs, vrn, ex_rr, ex_rn, ex_nr, ex_nn, okA_s, okA_n, st1, st2, clr, isLg, CB, inx_0, inx_1, inx_2, inx_3, inx_4, inx_5, bI_0, bI_1, bI_ok, fin3, tyX3, entL, q0, r1, k0, tyX8, h6, dX3_readLine_0, dX3_readLine_1, fT_3_21, dX3_readLine_4, fT_3_74, dX3_readLine_7, dX3_readLine_8, dX3_readLine_9, sT_3_78, dX3_readLine_12, dX3_readLine_15, dX3_readLine_16, dX3_readLine_19, dX3_readLine_20, dX3_readLine_21, sT_3_86, dX3_readLine_24, dX3_readLine_27, dX3_readLine_28, dX3_readLine_31, dX3_readLine_32, dX3_readLine_33, sT_3_92, dX3_readLine_36, dX3_readLine_39, dX3_readLine_40, dX3_readLine_43, dX3_readLine_44, dX3_readLine_45, sT_3_98, dX3_readLine_48, dX3_readLine_51, dX3_readLine_52, dX3_readLine_55, dX3_readLine_56, dX3_readLine_57, sT_3_104, dX3_readLine_60, dX3_readLine_63, dX3_readLine_64, dX3_readLine_67, dX3_readLine_68, dX3_readLine_69, sT_3_110, dX3_readLine_72, dX3_readLine_75, dX3_readLine_76, dX3_readLine_79, dX3_readLine_82, dX3_readLine_83, dX3_readLine_84, dX3_readLine_87]
    exact q
