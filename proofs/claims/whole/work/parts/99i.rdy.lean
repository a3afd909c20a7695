/-! a level -/
theorem jn_z : (nI 0 = 0) = True := eq_true rfl
set_option maxHeartbeats 800000 in
set_option maxRecDepth 100000 in
theorem c3_readLevel (l : Launch) (X : Cx) (t : Nat → Nat) (N f : Nat) (hOk : ∀ g, g ≤ f → ROk l X t N g) : RLk l X t N (f + 1) := by
  intro d sh mI mL mR n R C TP lv dp p c q hS hc hcp hlv hdp hd hq
  refine Cn.run 3 false (by decide) rfl (by decide) (by simp [entA, Value.category]) ?_
  intro P G hP hG
  have S0 := hS
  obtain ⟨g1, g2, g3, g4⟩ := hS
  have q0 := g1.1
  have xR : R < 1000000000 := by have := g1.2.1; omega
  have N1 : N ≤ 1000 := g2.2.1
  have dt := g1.2.2.2.2.2.2.2.2.2.2.2.2.1
  have l4 : lv < 4 := by omega
  rw [cp_v l4] at hq
  unfold cpV at hq
  obtain ⟨mo, hmo⟩ : ∃ mo, mo = (if lv = 1 then 1 else 1000) := ⟨_, rfl⟩
  have mo1 : mo ≤ 1000 ∧ 1 ≤ mo := by rw [hmo]; split <;> omega
  rw [← hmo] at hq
  have out : ∀ (i : Nat) (v6 : Option Value) (mI1 : Nat → Nat → Int32) (mL1 : Nat → Nat → Int64) (mR1 : Nat → Nat → Option Nat), i ≤ 1000 → P (some (.int (nI 0))) (sh, mI1, mL1, mR1, n) → G 24 [some (.ref R), some (.int (nI lv)), some (.int (nI dp)), some (.int (nI mo)), some (.int (nI 0)), some (.int (nI i)), v6] [] (sh, mI1, mL1, mR1, n) := fun i v6 mI1 mL1 mR1 hi hp => by
    refine hG.run [] 60 ?_
    simp [wp, stepI, ln, jmp, cmpI, Value.category, rd, tyF, vrs, vrn, ex_rr, ex_rn, ex_nr, ex_nn, okA_s, okA_n, st1, st2, clr, isLg, CB, inx_0, inx_1, inx_2, inx_3, inx_4, inx_5, bI_0, bI_1, bI_ok, fin3, tyX3, entL, q0, nI00, nI10, dX3_readLevel_0, dX3_readLevel_1, dX3_readLevel_2, dX3_readLevel_5, dX3_readLevel_6, dX3_readLevel_9, dX3_readLevel_12, dX3_readLevel_13, dX3_readLevel_14, dX3_readLevel_15, dX3_readLevel_16, dX3_readLevel_19, dX3_readLevel_21, dX3_readLevel_22, dX3_readLevel_24, dX3_readLevel_26, dX3_readLevel_27, dX3_readLevel_30, dX3_readLevel_32, dX3_readLevel_35, dX3_readLevel_36, dX3_readLevel_37, dX3_readLevel_40, dX3_readLevel_42, dX3_readLevel_44, dX3_readLevel_47, dX3_readLevel_48, dX3_readLevel_49, dX3_readLevel_50, fT_3_21, dX3_readLevel_53, dX3_readLevel_56, dX3_readLevel_57, dX3_readLevel_58, dX3_readLevel_59, dX3_readLevel_62, dX3_readLevel_65, dX3_readLevel_66, dX3_readLevel_68, dX3_readLevel_71, dX3_readLevel_74, dX3_readLevel_75, dX3_readLevel_78, dX3_readLevel_79, dX3_readLevel_81, dX3_readLevel_84, dX3_readLevel_87, dX3_readLevel_89]
    exact ⟨fun _ => hp, fun _ => hp⟩
  have loop : ∀ g, g ≤ f → ∀ (i r p1 : Nat) (mI1 : Nat → Nat → Int32) (mL1 : Nat → Nat → Int64) (mR1 : Nat → Nat → Option Nat) (s : List Int32) (q1 : CR) (v6 : Option Value), cp t N g (5 + lv) dp r p1 = some q1 → q = glu s q1 → i + r = mo → RsM sh mI1 mL1 mR1 R C TP t N p1 → WiF R c mI mL mR mI1 mL1 mR1 → WiS R mI1 c s → mI1 R 10 = mI R 10 → c + s.length ≤ p1 → G 24 [some (.ref R), some (.int (nI lv)), some (.int (nI dp)), some (.int (nI mo)), some (.int (nI 1)), some (.int (nI i)), v6] [] (sh, mI1, mL1, mR1, n) := by
    intro g
    induction g with
    | zero => intro _ i r p1 mI1 mL1 mR1 s q1 v6 h; rw [cp_0] at h; cases h
    | succ g ih =>
      intro hg i r p1 mI1 mL1 mR1 s q1 v6 h hqq hir S1 F1 W1 z1 hr
      rw [cp_o (by omega)] at h
      unfold cpO at h
      have e5 : 5 + lv - 5 = lv := by omega
      have e4 : 5 + lv - 4 = lv + 1 := by omega
      rw [e5, e4] at h
      have good : q1 = .inr (p1, []) → P (some (.int (nI 1))) (sh, mI1, mL1, mR1, n) := fun hq1 => hP _ _ (WiP.good (x := (p1, s)) F1 (by rw [hqq, hq1]; show Sum.inr (p1, s ++ []) = _; rw [List.append_nil]) S1 z1 W1)
      by_cases hr0 : r = 0
      · rw [if_pos (Or.inl hr0)] at h
        have qq := good (Option.some.inj h).symm
        refine hG.run [] 60 ?_
        simp [wp, stepI, ln, jmp, cmpI, Value.category, rd, tyF, vrs, vrn, ex_rr, ex_rn, ex_nr, ex_nn, okA_s, okA_n, st1, st2, clr, isLg, CB, inx_0, inx_1, inx_2, inx_3, inx_4, inx_5, bI_0, bI_1, bI_ok, fin3, tyX3, entL, q0, nI00, nI10, dX3_readLevel_0, dX3_readLevel_1, dX3_readLevel_2, dX3_readLevel_5, dX3_readLevel_6, dX3_readLevel_9, dX3_readLevel_12, dX3_readLevel_13, dX3_readLevel_14, dX3_readLevel_15, dX3_readLevel_16, dX3_readLevel_19, dX3_readLevel_21, dX3_readLevel_22, dX3_readLevel_24, dX3_readLevel_26, dX3_readLevel_27, dX3_readLevel_30, dX3_readLevel_32, dX3_readLevel_35, dX3_readLevel_36, dX3_readLevel_37, dX3_readLevel_40, dX3_readLevel_42, dX3_readLevel_44, dX3_readLevel_47, dX3_readLevel_48, dX3_readLevel_49, dX3_readLevel_50, fT_3_21, dX3_readLevel_53, dX3_readLevel_56, dX3_readLevel_57, dX3_readLevel_58, dX3_readLevel_59, dX3_readLevel_62, dX3_readLevel_65, dX3_readLevel_66, dX3_readLevel_68, dX3_readLevel_71, dX3_readLevel_74, dX3_readLevel_75, dX3_readLevel_78, dX3_readLevel_79, dX3_readLevel_81, dX3_readLevel_84, dX3_readLevel_87, dX3_readLevel_89]
        simp (disch := omega) only [li, nI_add, nI_clamp, nI_ltI, nI_leI, nI_eq, inx_iff, a31, nI_1shl', nI_shr', div_bit, tb1, tb0, fa_or, fa_and, nI_not, pk_sub, nI_dec]
        exact ⟨fun _ => ⟨trivial, qq⟩, fun z => absurd z (by omega)⟩
      have r1 := S1.1.2.2.2.1
      have k0 := S1.1.2.2.2.2.2.2.2.2.2.2.1.1
      refine hG.run [37, 87] 60 ?_
      simp [wp, stepI, ln, jmp, cmpI, Value.category, rd, tyF, vrs, vrn, ex_rr, ex_rn, ex_nr, ex_nn, okA_s, okA_n, st1, st2, clr, isLg, CB, inx_0, inx_1, inx_2, inx_3, inx_4, inx_5, bI_0, bI_1, bI_ok, fin3, tyX3, entL, q0, nI00, nI10, dX3_readLevel_0, dX3_readLevel_1, dX3_readLevel_2, dX3_readLevel_5, dX3_readLevel_6, dX3_readLevel_9, dX3_readLevel_12, dX3_readLevel_13, dX3_readLevel_14, dX3_readLevel_15, dX3_readLevel_16, dX3_readLevel_19, dX3_readLevel_21, dX3_readLevel_22, dX3_readLevel_24, dX3_readLevel_26, dX3_readLevel_27, dX3_readLevel_30, dX3_readLevel_32, dX3_readLevel_35, dX3_readLevel_36, dX3_readLevel_37, dX3_readLevel_40, dX3_readLevel_42, dX3_readLevel_44, dX3_readLevel_47, dX3_readLevel_48, dX3_readLevel_49, dX3_readLevel_50, fT_3_21, dX3_readLevel_53, dX3_readLevel_56, dX3_readLevel_57, dX3_readLevel_58, dX3_readLevel_59, dX3_readLevel_62, dX3_readLevel_65, dX3_readLevel_66, dX3_readLevel_68, dX3_readLevel_71, dX3_readLevel_74, dX3_readLevel_75, dX3_readLevel_78, dX3_readLevel_79, dX3_readLevel_81, dX3_readLevel_84, dX3_readLevel_87, dX3_readLevel_89]
      simp (disch := omega) only [li, nI_add, nI_clamp, nI_ltI, nI_leI, nI_eq, inx_iff, a31, nI_1shl', nI_shr', div_bit, tb1, tb0, fa_or, fa_and, nI_not, pk_sub, nI_dec]
      refine ⟨fun z => absurd z (by omega), fun _ => ?_⟩
      refine hG.callV dX3_readLevel_37 mv_3_204 [.int (nI lv)] [] (c3_joinerOf l X (d - 1) sh mI1 mL1 mR1 n R C TP t N p1 S1 lv l4) ⟨_, rfl, rfl⟩ q0 (by omega) rfl (by decide) (by simp [Value.category]) rfl ?_
      rintro r' M' ⟨rfl, rfl⟩
      obtain ⟨jv, hjv⟩ : ∃ j, j = jnF t N p1 lv := ⟨_, rfl⟩
      rw [← hjv] at h ⊢
      by_cases hj : jv = nI 0
      · rw [if_pos (Or.inr hj)] at h
        have qq := good (Option.some.inj h).symm
        rw [hj]
        refine hG.run [] 60 ?_
        simp [wp, stepI, ln, jmp, cmpI, Value.category, rd, tyF, vrs, vrn, ex_rr, ex_rn, ex_nr, ex_nn, okA_s, okA_n, st1, st2, clr, isLg, CB, inx_0, inx_1, inx_2, inx_3, inx_4, inx_5, bI_0, bI_1, bI_ok, fin3, tyX3, entL, q0, nI00, nI10, dX3_readLevel_0, dX3_readLevel_1, dX3_readLevel_2, dX3_readLevel_5, dX3_readLevel_6, dX3_readLevel_9, dX3_readLevel_12, dX3_readLevel_13, dX3_readLevel_14, dX3_readLevel_15, dX3_readLevel_16, dX3_readLevel_19, dX3_readLevel_21, dX3_readLevel_22, dX3_readLevel_24, dX3_readLevel_26, dX3_readLevel_27, dX3_readLevel_30, dX3_readLevel_32, dX3_readLevel_35, dX3_readLevel_36, dX3_readLevel_37, dX3_readLevel_40, dX3_readLevel_42, dX3_readLevel_44, dX3_readLevel_47, dX3_readLevel_48, dX3_readLevel_49, dX3_readLevel_50, fT_3_21, dX3_readLevel_53, dX3_readLevel_56, dX3_readLevel_57, dX3_readLevel_58, dX3_readLevel_59, dX3_readLevel_62, dX3_readLevel_65, dX3_readLevel_66, dX3_readLevel_68, dX3_readLevel_71, dX3_readLevel_74, dX3_readLevel_75, dX3_readLevel_78, dX3_readLevel_79, dX3_readLevel_81, dX3_readLevel_84, dX3_readLevel_87, dX3_readLevel_89]
        exact qq
      rw [if_neg (fun y => y.elim hr0 hj)] at h
      have pk := lxE_s S1.2.2.2 (jnF_k (t := t) (N := N) (p := p1) (lv := lv) (by rw [← hjv]; exact hj))
      obtain ⟨p2, hp2⟩ : ∃ x, x = lxE t N p1 := ⟨_, rfl⟩
      rw [← hp2] at h pk
      have hj0 : (jv = 0) = False := eq_false hj
      refine hG.run [53] 60 ?_
      simp [wp, stepI, ln, jmp, cmpI, Value.category, rd, tyF, vrs, vrn, ex_rr, ex_rn, ex_nr, ex_nn, okA_s, okA_n, st1, st2, clr, isLg, CB, inx_0, inx_1, inx_2, inx_3, inx_4, inx_5, bI_0, bI_1, bI_ok, fin3, tyX3, entL, q0, nI00, nI10, r1, k0, hj0, dX3_readLevel_0, dX3_readLevel_1, dX3_readLevel_2, dX3_readLevel_5, dX3_readLevel_6, dX3_readLevel_9, dX3_readLevel_12, dX3_readLevel_13, dX3_readLevel_14, dX3_readLevel_15, dX3_readLevel_16, dX3_readLevel_19, dX3_readLevel_21, dX3_readLevel_22, dX3_readLevel_24, dX3_readLevel_26, dX3_readLevel_27, dX3_readLevel_30, dX3_readLevel_32, dX3_readLevel_35, dX3_readLevel_36, dX3_readLevel_37, dX3_readLevel_40, dX3_readLevel_42, dX3_readLevel_44, dX3_readLevel_47, dX3_readLevel_48, dX3_readLevel_49, dX3_readLevel_50, fT_3_21, dX3_readLevel_53, dX3_readLevel_56, dX3_readLevel_57, dX3_readLevel_58, dX3_readLevel_59, dX3_readLevel_62, dX3_readLevel_65, dX3_readLevel_66, dX3_readLevel_68, dX3_readLevel_71, dX3_readLevel_74, dX3_readLevel_75, dX3_readLevel_78, dX3_readLevel_79, dX3_readLevel_81, dX3_readLevel_84, dX3_readLevel_87, dX3_readLevel_89]
      refine hG.callV dX3_readLevel_53 mv_3_123 [] [] (c8_step l X (d - 1) sh mI1 mL1 mR1 n (R + 13) TP S1.1.2.2.2.2.2.2.2.2.2.2.1 t N S1.2.1 (lxE t N p1) (lxE_le S1.2.2.2).2 S1.2.2.1.1 (by omega)) ⟨_, rfl, rfl⟩ k0 (by omega) rfl (by decide) (by simp [Value.category]) rfl ?_
      rintro r' M' ⟨rfl, mI2, mL2, mR2, rfl, k1, k2, k3, k4⟩
      have S2 := S1.nx k1 k3 k4
      rw [← hp2] at S2
      have k1' : ∀ a k, ¬ rdW R a k → mI2 a k = mI1 a k := fun a k h => k1 a k (fun y => h (Or.inl y))
      have F2 : WiF R c mI mL mR mI2 mL2 mR2 := F1.trans (WiF.tk (c := c) k1' k2 k3) (Nat.le_refl _)
      have W2 := W1.tk k1'
      have z2 : mI2 R 10 = mI R 10 := (k1 _ _ (by omega)).trans z1
      refine hG.run [59] 60 ?_
      simp [wp, stepI, ln, jmp, cmpI, Value.category, rd, tyF, vrs, vrn, ex_rr, ex_rn, ex_nr, ex_nn, okA_s, okA_n, st1, st2, clr, isLg, CB, inx_0, inx_1, inx_2, inx_3, inx_4, inx_5, bI_0, bI_1, bI_ok, fin3, tyX3, entL, q0, dX3_readLevel_0, dX3_readLevel_1, dX3_readLevel_2, dX3_readLevel_5, dX3_readLevel_6, dX3_readLevel_9, dX3_readLevel_12, dX3_readLevel_13, dX3_readLevel_14, dX3_readLevel_15, dX3_readLevel_16, dX3_readLevel_19, dX3_readLevel_21, dX3_readLevel_22, dX3_readLevel_24, dX3_readLevel_26, dX3_readLevel_27, dX3_readLevel_30, dX3_readLevel_32, dX3_readLevel_35, dX3_readLevel_36, dX3_readLevel_37, dX3_readLevel_40, dX3_readLevel_42, dX3_readLevel_44, dX3_readLevel_47, dX3_readLevel_48, dX3_readLevel_49, dX3_readLevel_50, fT_3_21, dX3_readLevel_53, dX3_readLevel_56, dX3_readLevel_57, dX3_readLevel_58, dX3_readLevel_59, dX3_readLevel_62, dX3_readLevel_65, dX3_readLevel_66, dX3_readLevel_68, dX3_readLevel_71, dX3_readLevel_74, dX3_readLevel_75, dX3_readLevel_78, dX3_readLevel_79, dX3_readLevel_81, dX3_readLevel_84, dX3_readLevel_87, dX3_readLevel_89]
      rcases cpB_i h with ⟨e, h1, h2⟩ | ⟨y, h1, h2⟩
      · refine hG.callV dX3_readLevel_59 mv_3_201 [.int (nI lv), .int (nI dp)] [] (hOk g (by omega) (d - 1) sh mI2 mL2 mR2 n R C TP lv dp p2 (c + s.length) _ S2 W2.1 (by omega) (by omega) hdp (by omega) h1) ⟨_, rfl, rfl⟩ q0 (by omega) rfl (by decide) (by simp [Value.category]) rfl ?_
        rintro r' M' ⟨mI3, mL3, mR3, rfl, F3, b1, b2⟩
        obtain ⟨rfl, b3⟩ := b2 e rfl
        have qq := hP _ _ (WiP.bad (e := e) (F2.trans F3 (by omega)) (by rw [hqq, h2]; rfl) b3)
        have o := out (i + 1) (some (.int jv)) mI3 mL3 mR3 (by omega) qq
        refine hG.run [24] 60 ?_
        simp [wp, stepI, ln, jmp, cmpI, Value.category, rd, tyF, vrs, vrn, ex_rr, ex_rn, ex_nr, ex_nn, okA_s, okA_n, st1, st2, clr, isLg, CB, inx_0, inx_1, inx_2, inx_3, inx_4, inx_5, bI_0, bI_1, bI_ok, fin3, tyX3, entL, q0, nI00, nI10, dX3_readLevel_0, dX3_readLevel_1, dX3_readLevel_2, dX3_readLevel_5, dX3_readLevel_6, dX3_readLevel_9, dX3_readLevel_12, dX3_readLevel_13, dX3_readLevel_14, dX3_readLevel_15, dX3_readLevel_16, dX3_readLevel_19, dX3_readLevel_21, dX3_readLevel_22, dX3_readLevel_24, dX3_readLevel_26, dX3_readLevel_27, dX3_readLevel_30, dX3_readLevel_32, dX3_readLevel_35, dX3_readLevel_36, dX3_readLevel_37, dX3_readLevel_40, dX3_readLevel_42, dX3_readLevel_44, dX3_readLevel_47, dX3_readLevel_48, dX3_readLevel_49, dX3_readLevel_50, fT_3_21, dX3_readLevel_53, dX3_readLevel_56, dX3_readLevel_57, dX3_readLevel_58, dX3_readLevel_59, dX3_readLevel_62, dX3_readLevel_65, dX3_readLevel_66, dX3_readLevel_68, dX3_readLevel_71, dX3_readLevel_74, dX3_readLevel_75, dX3_readLevel_78, dX3_readLevel_79, dX3_readLevel_81, dX3_readLevel_84, dX3_readLevel_87, dX3_readLevel_89]
        simp (disch := omega) only [li, nI_add, nI_clamp, nI_ltI, nI_leI, nI_eq, inx_iff, a31, nI_1shl', nI_shr', div_bit, tb1, tb0, fa_or, fa_and, nI_not, pk_sub, nI_dec]
        exact o
      · refine hG.callV dX3_readLevel_59 mv_3_201 [.int (nI lv), .int (nI dp)] [] (hOk g (by omega) (d - 1) sh mI2 mL2 mR2 n R C TP lv dp p2 (c + s.length) _ S2 W2.1 (by omega) (by omega) hdp (by omega) h1) ⟨_, rfl, rfl⟩ q0 (by omega) rfl (by decide) (by simp [Value.category]) rfl ?_
        rintro r' M' ⟨mI3, mL3, mR3, rfl, F3, b1, b2⟩
        obtain ⟨rfl, S3, z3, W3⟩ := b1 y rfl
        have ln3 := cp_len _ _ _ _ _ _ pk.2 h1
        obtain ⟨q2, h3, h5⟩ := wcG_i h2
        have W3' := W2.app F3 W3
        have F3' := F2.trans F3 (by omega)
        have l3 : (s ++ y.2).length = s.length + y.2.length := List.length_append
        refine hG.run [68] 60 ?_
        simp [wp, stepI, ln, jmp, cmpI, Value.category, rd, tyF, vrs, vrn, ex_rr, ex_rn, ex_nr, ex_nn, okA_s, okA_n, st1, st2, clr, isLg, CB, inx_0, inx_1, inx_2, inx_3, inx_4, inx_5, bI_0, bI_1, bI_ok, fin3, tyX3, entL, q0, nI00, nI10, dX3_readLevel_0, dX3_readLevel_1, dX3_readLevel_2, dX3_readLevel_5, dX3_readLevel_6, dX3_readLevel_9, dX3_readLevel_12, dX3_readLevel_13, dX3_readLevel_14, dX3_readLevel_15, dX3_readLevel_16, dX3_readLevel_19, dX3_readLevel_21, dX3_readLevel_22, dX3_readLevel_24, dX3_readLevel_26, dX3_readLevel_27, dX3_readLevel_30, dX3_readLevel_32, dX3_readLevel_35, dX3_readLevel_36, dX3_readLevel_37, dX3_readLevel_40, dX3_readLevel_42, dX3_readLevel_44, dX3_readLevel_47, dX3_readLevel_48, dX3_readLevel_49, dX3_readLevel_50, fT_3_21, dX3_readLevel_53, dX3_readLevel_56, dX3_readLevel_57, dX3_readLevel_58, dX3_readLevel_59, dX3_readLevel_62, dX3_readLevel_65, dX3_readLevel_66, dX3_readLevel_68, dX3_readLevel_71, dX3_readLevel_74, dX3_readLevel_75, dX3_readLevel_78, dX3_readLevel_79, dX3_readLevel_81, dX3_readLevel_84, dX3_readLevel_87, dX3_readLevel_89]
        refine hG.callV dX3_readLevel_68 mv_3_208 [.int jv] [] (c3_putStep l X (d - 1) sh mI3 mL3 mR3 n R C TP S3.1 (c + (s ++ y.2).length) W3'.1 (by omega) jv) ⟨_, rfl, rfl⟩ q0 (by omega) rfl (by decide) (by simp [Value.category]) rfl ?_
        rintro r' M' ⟨rfl, rfl⟩
        obtain ⟨mI4, hm4⟩ : ∃ m, m = up2 (up2 mI3 (R + 17) (c + (s ++ y.2).length) jv) R 5 (nI (c + (s ++ y.2).length + 1)) := ⟨_, rfl⟩
        rw [← hm4]
        have f4 : ∀ a k, a ≠ R + 17 → ¬ (a = R ∧ k = 5) → mI4 a k = mI3 a k := fun a k y z => by rw [hm4, up2_ne z, up2_ne (fun x => y x.1)]
        have S4 : RsM sh mI4 mL3 mR3 R C TP t N y.1 := S3.fr (fun k => f4 _ _ (by omega) (by omega)) (fun k => f4 _ _ (by omega) (by omega)) rfl (fun _ _ => rfl)
        have W4 := W3'.put jv hm4
        have F4 := F3'.trans (WiF.put (c := c) (mL := mL3) (mR := mR3) jv _ hm4 (by omega)) (Nat.le_refl _)
        have l4' : ((s ++ y.2) ++ [jv]).length = s.length + y.2.length + 1 := by rw [List.length_append, l3]; rfl
        have nx := ih (by omega) (i + 1) (r - 1) y.1 mI4 mL3 mR3 ((s ++ y.2) ++ [jv]) q2 (some (.int jv)) h3 (by
          rw [hqq, h5]
          rcases q2 with e | w
          · rfl
          · show Sum.inr (w.1, s ++ ((y.2 ++ [jv]) ++ w.2)) = Sum.inr (w.1, ((s ++ y.2) ++ [jv]) ++ w.2)
            simp only [List.append_assoc]) (by omega) S4 F4 W4 (((f4 _ _ (by omega) (by omega)).trans z3).trans z2) (by omega)
        refine hG.run [24] 60 ?_
        simp [wp, stepI, ln, jmp, cmpI, Value.category, rd, tyF, vrs, vrn, ex_rr, ex_rn, ex_nr, ex_nn, okA_s, okA_n, st1, st2, clr, isLg, CB, inx_0, inx_1, inx_2, inx_3, inx_4, inx_5, bI_0, bI_1, bI_ok, fin3, tyX3, entL, q0, nI00, nI10, dX3_readLevel_0, dX3_readLevel_1, dX3_readLevel_2, dX3_readLevel_5, dX3_readLevel_6, dX3_readLevel_9, dX3_readLevel_12, dX3_readLevel_13, dX3_readLevel_14, dX3_readLevel_15, dX3_readLevel_16, dX3_readLevel_19, dX3_readLevel_21, dX3_readLevel_22, dX3_readLevel_24, dX3_readLevel_26, dX3_readLevel_27, dX3_readLevel_30, dX3_readLevel_32, dX3_readLevel_35, dX3_readLevel_36, dX3_readLevel_37, dX3_readLevel_40, dX3_readLevel_42, dX3_readLevel_44, dX3_readLevel_47, dX3_readLevel_48, dX3_readLevel_49, dX3_readLevel_50, fT_3_21, dX3_readLevel_53, dX3_readLevel_56, dX3_readLevel_57, dX3_readLevel_58, dX3_readLevel_59, dX3_readLevel_62, dX3_readLevel_65, dX3_readLevel_66, dX3_readLevel_68, dX3_readLevel_71, dX3_readLevel_74, dX3_readLevel_75, dX3_readLevel_78, dX3_readLevel_79, dX3_readLevel_81, dX3_readLevel_84, dX3_readLevel_87, dX3_readLevel_89]
        simp (disch := omega) only [li, nI_add, nI_clamp, nI_ltI, nI_leI, nI_eq, inx_iff, a31, nI_1shl', nI_shr', div_bit, tb1, tb0, fa_or, fa_and, nI_not, pk_sub, nI_dec]
        exact nx
  have g13 : G 13 [some (.ref R), some (.int (nI lv)), some (.int (nI dp)), some (.int (nI mo)), none, none, none] [] (sh, mI, mL, mR, n) := by
    refine hG.run [16] 60 ?_
    simp [wp, stepI, ln, jmp, cmpI, Value.category, rd, tyF, vrs, vrn, ex_rr, ex_rn, ex_nr, ex_nn, okA_s, okA_n, st1, st2, clr, isLg, CB, inx_0, inx_1, inx_2, inx_3, inx_4, inx_5, bI_0, bI_1, bI_ok, fin3, tyX3, entL, q0, dX3_readLevel_0, dX3_readLevel_1, dX3_readLevel_2, dX3_readLevel_5, dX3_readLevel_6, dX3_readLevel_9, dX3_readLevel_12, dX3_readLevel_13, dX3_readLevel_14, dX3_readLevel_15, dX3_readLevel_16, dX3_readLevel_19, dX3_readLevel_21, dX3_readLevel_22, dX3_readLevel_24, dX3_readLevel_26, dX3_readLevel_27, dX3_readLevel_30, dX3_readLevel_32, dX3_readLevel_35, dX3_readLevel_36, dX3_readLevel_37, dX3_readLevel_40, dX3_readLevel_42, dX3_readLevel_44, dX3_readLevel_47, dX3_readLevel_48, dX3_readLevel_49, dX3_readLevel_50, fT_3_21, dX3_readLevel_53, dX3_readLevel_56, dX3_readLevel_57, dX3_readLevel_58, dX3_readLevel_59, dX3_readLevel_62, dX3_readLevel_65, dX3_readLevel_66, dX3_readLevel_68, dX3_readLevel_71, dX3_readLevel_74, dX3_readLevel_75, dX3_readLevel_78, dX3_readLevel_79, dX3_readLevel_81, dX3_readLevel_84, dX3_readLevel_87, dX3_readLevel_89]
    rcases cpB_i hq with ⟨e, h1, h2⟩ | ⟨y, h1, h2⟩
    · refine hG.callV dX3_readLevel_16 mv_3_201 [.int (nI lv), .int (nI dp)] [] (hOk f (Nat.le_refl _) (d - 1) sh mI mL mR n R C TP lv dp p c _ S0 hc hcp (by omega) hdp (by omega) h1) ⟨_, rfl, rfl⟩ q0 (by omega) rfl (by decide) (by simp [Value.category]) rfl ?_
      rintro r' M' ⟨mI3, mL3, mR3, rfl, F3, b1, b2⟩
      obtain ⟨rfl, b3⟩ := b2 e rfl
      have o := out 0 none mI3 mL3 mR3 (by omega) (hP _ _ (WiP.bad F3 h2 b3))
      refine hG.run [24] 60 ?_
      simp [wp, stepI, ln, jmp, cmpI, Value.category, rd, tyF, vrs, vrn, ex_rr, ex_rn, ex_nr, ex_nn, okA_s, okA_n, st1, st2, clr, isLg, CB, inx_0, inx_1, inx_2, inx_3, inx_4, inx_5, bI_0, bI_1, bI_ok, fin3, tyX3, entL, q0, dX3_readLevel_0, dX3_readLevel_1, dX3_readLevel_2, dX3_readLevel_5, dX3_readLevel_6, dX3_readLevel_9, dX3_readLevel_12, dX3_readLevel_13, dX3_readLevel_14, dX3_readLevel_15, dX3_readLevel_16, dX3_readLevel_19, dX3_readLevel_21, dX3_readLevel_22, dX3_readLevel_24, dX3_readLevel_26, dX3_readLevel_27, dX3_readLevel_30, dX3_readLevel_32, dX3_readLevel_35, dX3_readLevel_36, dX3_readLevel_37, dX3_readLevel_40, dX3_readLevel_42, dX3_readLevel_44, dX3_readLevel_47, dX3_readLevel_48, dX3_readLevel_49, dX3_readLevel_50, fT_3_21, dX3_readLevel_53, dX3_readLevel_56, dX3_readLevel_57, dX3_readLevel_58, dX3_readLevel_59, dX3_readLevel_62, dX3_readLevel_65, dX3_readLevel_66, dX3_readLevel_68, dX3_readLevel_71, dX3_readLevel_74, dX3_readLevel_75, dX3_readLevel_78, dX3_readLevel_79, dX3_readLevel_81, dX3_readLevel_84, dX3_readLevel_87, dX3_readLevel_89]
      exact o
    · refine hG.callV dX3_readLevel_16 mv_3_201 [.int (nI lv), .int (nI dp)] [] (hOk f (Nat.le_refl _) (d - 1) sh mI mL mR n R C TP lv dp p c _ S0 hc hcp (by omega) hdp (by omega) h1) ⟨_, rfl, rfl⟩ q0 (by omega) rfl (by decide) (by simp [Value.category]) rfl ?_
      rintro r' M' ⟨mI3, mL3, mR3, rfl, F3, b1, b2⟩
      obtain ⟨rfl, S3, z3, W3⟩ := b1 y rfl
      have ln3 := cp_len _ _ _ _ _ _ g4 h1
      obtain ⟨q2, h3, h5⟩ := wcG_i h2
      have nx := loop f (Nat.le_refl _) 0 mo y.1 mI3 mL3 mR3 y.2 q2 none h3 h5 (by omega) S3 F3 W3 z3 (by omega)
      refine hG.run [24] 60 ?_
      simp [wp, stepI, ln, jmp, cmpI, Value.category, rd, tyF, vrs, vrn, ex_rr, ex_rn, ex_nr, ex_nn, okA_s, okA_n, st1, st2, clr, isLg, CB, inx_0, inx_1, inx_2, inx_3, inx_4, inx_5, bI_0, bI_1, bI_ok, fin3, tyX3, entL, q0, dX3_readLevel_0, dX3_readLevel_1, dX3_readLevel_2, dX3_readLevel_5, dX3_readLevel_6, dX3_readLevel_9, dX3_readLevel_12, dX3_readLevel_13, dX3_readLevel_14, dX3_readLevel_15, dX3_readLevel_16, dX3_readLevel_19, dX3_readLevel_21, dX3_readLevel_22, dX3_readLevel_24, dX3_readLevel_26, dX3_readLevel_27, dX3_readLevel_30, dX3_readLevel_32, dX3_readLevel_35, dX3_readLevel_36, dX3_readLevel_37, dX3_readLevel_40, dX3_readLevel_42, dX3_readLevel_44, dX3_readLevel_47, dX3_readLevel_48, dX3_readLevel_49, dX3_readLevel_50, fT_3_21, dX3_readLevel_53, dX3_readLevel_56, dX3_readLevel_57, dX3_readLevel_58, dX3_readLevel_59, dX3_readLevel_62, dX3_readLevel_65, dX3_readLevel_66, dX3_readLevel_68, dX3_readLevel_71, dX3_readLevel_74, dX3_readLevel_75, dX3_readLevel_78, dX3_readLevel_79, dX3_readLevel_81, dX3_readLevel_84, dX3_readLevel_87, dX3_readLevel_89]
      exact nx
  by_cases h1 : lv = 1
  · rw [if_pos h1] at hmo
    subst hmo h1
    refine hG.run [13] 60 ?_
    simp [wp, stepI, ln, jmp, cmpI, Value.category, rd, tyF, vrs, vrn, ex_rr, ex_rn, ex_nr, ex_nn, okA_s, okA_n, st1, st2, clr, isLg, CB, inx_0, inx_1, inx_2, inx_3, inx_4, inx_5, bI_0, bI_1, bI_ok, fin3, tyX3, entL, q0, dX3_readLevel_0, dX3_readLevel_1, dX3_readLevel_2, dX3_readLevel_5, dX3_readLevel_6, dX3_readLevel_9, dX3_readLevel_12, dX3_readLevel_13, dX3_readLevel_14, dX3_readLevel_15, dX3_readLevel_16, dX3_readLevel_19, dX3_readLevel_21, dX3_readLevel_22, dX3_readLevel_24, dX3_readLevel_26, dX3_readLevel_27, dX3_readLevel_30, dX3_readLevel_32, dX3_readLevel_35, dX3_readLevel_36, dX3_readLevel_37, dX3_readLevel_40, dX3_readLevel_42, dX3_readLevel_44, dX3_readLevel_47, dX3_readLevel_48, dX3_readLevel_49, dX3_readLevel_50, fT_3_21, dX3_readLevel_53, dX3_readLevel_56, dX3_readLevel_57, dX3_readLevel_58, dX3_readLevel_59, dX3_readLevel_62, dX3_readLevel_65, dX3_readLevel_66, dX3_readLevel_68, dX3_readLevel_71, dX3_readLevel_74, dX3_readLevel_75, dX3_readLevel_78, dX3_readLevel_79, dX3_readLevel_81, dX3_readLevel_84, dX3_readLevel_87, dX3_readLevel_89]
    first
      | exact g13
      | exact ⟨fun z => absurd rfl z, fun _ => g13⟩
  · rw [if_neg h1] at hmo
    subst hmo
    refine hG.run [13] 60 ?_
    simp [wp, stepI, ln, jmp, cmpI, Value.category, rd, tyF, vrs, vrn, ex_rr, ex_rn, ex_nr, ex_nn, okA_s, okA_n, st1, st2, clr, isLg, CB, inx_0, inx_1, inx_2, inx_3, inx_4, inx_5, bI_0, bI_1, bI_ok, fin3, tyX3, entL, q0, dX3_readLevel_0, dX3_readLevel_1, dX3_readLevel_2, dX3_readLevel_5, dX3_readLevel_6, dX3_readLevel_9, dX3_readLevel_12, dX3_readLevel_13, dX3_readLevel_14, dX3_readLevel_15, dX3_readLevel_16, dX3_readLevel_19, dX3_readLevel_21, dX3_readLevel_22, dX3_readLevel_24, dX3_readLevel_26, dX3_readLevel_27, dX3_readLevel_30, dX3_readLevel_32, dX3_readLevel_35, dX3_readLevel_36, dX3_readLevel_37, dX3_readLevel_40, dX3_readLevel_42, dX3_readLevel_44, dX3_readLevel_47, dX3_readLevel_48, dX3_readLevel_49, dX3_readLevel_50, fT_3_21, dX3_readLevel_53, dX3_readLevel_56, dX3_readLevel_57, dX3_readLevel_58, dX3_readLevel_59, dX3_readLevel_62, dX3_readLevel_65, dX3_readLevel_66, dX3_readLevel_68, dX3_readLevel_71, dX3_readLevel_74, dX3_readLevel_75, dX3_readLevel_78, dX3_readLevel_79, dX3_readLevel_81, dX3_readLevel_84, dX3_readLevel_87, dX3_readLevel_89]
    simp (disch := omega) only [li, nI_add, nI_clamp, nI_ltI, nI_leI, nI_eq, inx_iff, a31, nI_1shl', nI_shr', div_bit, tb1, tb0, fa_or, fa_and, nI_not, pk_sub, nI_dec]
    exact ⟨fun _ => g13, fun z => absurd z h1⟩
theorem c3_rd (l : Launch) (X : Cx) (t : Nat → Nat) (N : Nat) : ∀ f, (∀ g, g ≤ f → RPk l X t N g) ∧ ∀ g, g ≤ f → RLk l X t N g := by
  intro f
  induction f with
  | zero =>
    refine ⟨fun g hg => ?_, fun g hg => ?_⟩
    · have : g = 0 := by omega
      subst this
      intro d sh mI mL mR n R C TP dp p c q _ _ _ _ _ h
      rw [cp_0] at h; cases h
    · have : g = 0 := by omega
      subst this
      intro d sh mI mL mR n R C TP lv dp p c q _ _ _ _ _ _ h
      rw [cp_0] at h; cases h
  | succ f ih =>
    have ho : ∀ g, g ≤ f → ROk l X t N g := fun g hg => c3_readOperand l X t N g (ih.1 g hg) (ih.2 g hg)
    have a := c3_readPart l X t N f (ho f (Nat.le_refl _)) (ih.2 f (Nat.le_refl _))
    have b := c3_readLevel l X t N f ho
    refine ⟨fun g hg => ?_, fun g hg => ?_⟩
    · by_cases h : g = f + 1
      · rw [h]; exact a
      · exact ih.1 g (by omega)
    · by_cases h : g = f + 1
      · rw [h]; exact b
      · exact ih.2 g (by omega)
