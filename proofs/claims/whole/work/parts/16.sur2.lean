theorem abv_lt {np c : Nat} {fi se : Nat → Nat} (h : ∀ k, k < c → fi k < 10) (p : Nat) : abv np c fi se p < 1024 := clR_lt (fun x => by split; exact ahd_lt h; decide) np p
theorem isP_nat {mI : Nat → Nat → Int32} {np : Nat} (hp : PupM mI np) {x : Int32} (h : isP mI x = true) : ∃ k, k < np ∧ x = nI k := by
  unfold isP at h
  rw [decide_eq_true_eq, hp.1] at h
  have hpp := hp.2
  obtain ⟨k, hk, rfl⟩ := nI_of (x := x) (by rw [Int32.not_lt]; exact h.1)
  exact ⟨k, (nI_ltI hk (by omega)).mp h.2, rfl⟩
theorem isP_nI {mI : Nat → Nat → Int32} {np : Nat} (hp : PupM mI np) {k : Nat} (h : k < np) : isP mI (nI k) = true := by
  have hpp := hp.2
  unfold isP
  rw [decide_eq_true_eq, hp.1]
  exact ⟨nI_pos' (by omega), nI_lt h (by omega)⟩
theorem isP_eqf {S F : List Nat} {mI mI' : Nat → Nat → Int32} (he : Eqf S F mI mI') (hs : 131 ∉ S) (x : Int32) : isP mI' x = isP mI x := by
  unfold isP
  rw [he _ _ hs (fun z => by cases z.1)]
theorem is2_eqf {S F : List Nat} {mI mI' : Nat → Nat → Int32} (he : Eqf S F mI mI') (hs : 131 ∉ S) (x y : Int32) : is2 mI' x y = is2 mI x y := by
  unfold is2
  rw [isP_eqf he hs, isP_eqf he hs]
/-- what sure answers -/
def sureA (mI : Nat → Nat → Int32) (np c : Nat) (fi se : Nat → Nat) (x y : Int32) : Int32 := if is2 mI x y && decide (0 < ordN np c fi se) then (if (abv np c fi se y.toNatClampNeg).testBit x.toNatClampNeg then 1 else if (abv np c fi se x.toNatClampNeg).testBit y.toNatClampNeg then 2 else 0) else -1
set_option maxHeartbeats 4000000 in
set_option maxRecDepth 100000 in
theorem c12_sure (l : Launch) (X : Cx) (d : Nat) (sh : Nat → Option Sh) (mI : Nat → Nat → Int32) (mL : Nat → Nat → Int64) (mR : Nat → Nat → Option Nat) (n : Nat) (hL : ML sh mR) (np : Nat) (hp : PupM mI np) (c : Nat) (fi se ma : Nat → Nat) (hS : SayM mI c fi se ma) (hd : 3 ≤ d) (x y : Int32) : Cn l X yX12_sure cX12_sure 3 (some .int) d [.ref 129, .int x, .int y] (sh, mI, mL, mR, n) (fun r M' => r = some (.int (sureA mI np c fi se x y)) ∧ ∃ mI', M' = (sh, mI', mL, mR, n) ∧ Eqf [159, 160, 161] [0] mI mI') 0 0 := by
  refine Cn.run 12 false (by decide) rfl (by decide) (by simp [entA, Value.category]) ?_
  intro P G hP hG
  have q0 := hL.1
  have q_above := hL.2 (46, 161, .int, 10) (by decide)
  dsimp only at q_above
  have hpp := hp.2
  have hfi : ∀ k, k < c → fi k < 10 := fun k hk => (hS.2.2 k hk).2.2.2.1
  refine hG.run [] 20 ?_
  simp [wp, stepI, ln, jmp, cmpI, Value.category, rd, tyF, va_rf, st1, st2, clr, isLg, CB, inx_0, inx_1, inx_2, inx_3, inx_4, inx_5, bI_0, bI_1, bI_ok, fin3, tyX12, entL, q0, okv, wr, finF, clT, TX12, dX12_sure_0, dX12_sure_1, dX12_sure_2, fT_12_135, dX12_sure_5, dX12_sure_6, dX12_sure_7, dX12_sure_8, dX12_sure_11, dX12_sure_14, dX12_sure_15, dX12_sure_18, dX12_sure_21, dX12_sure_22, dX12_sure_23, dX12_sure_24, fT_12_105, dX12_sure_27, dX12_sure_28, dX12_sure_29, dX12_sure_30, dX12_sure_31, dX12_sure_32, dX12_sure_33, dX12_sure_34, dX12_sure_37, dX12_sure_38, dX12_sure_41, dX12_sure_42, dX12_sure_45, dX12_sure_46, dX12_sure_47, dX12_sure_48, dX12_sure_49, dX12_sure_50, dX12_sure_51, dX12_sure_52, dX12_sure_55, dX12_sure_56, dX12_sure_59, dX12_sure_60]
  have e1 : Eqf [159, 160, 161] [0] mI (up2 mI 129 0 0) := Eqf.rf.upf (by decide)
  generalize up2 mI 129 0 0 = mI0 at e1 ⊢
  refine hG.callV dX12_sure_8 mv_12_332 [.int x, .int y] [] (c12_areTwo l X (d - 1) sh mI0 mL mR n hL x y (by omega)) ⟨_, rfl, rfl⟩ q0 (by omega) rfl (by decide) (by simp [Value.category]) rfl ?_
  rintro r M' ⟨rfl, rfl⟩
  rw [is2_eqf e1 (by decide)]
  refine hG.run [] 20 ?_
  simp [wp, stepI, ln, jmp, cmpI, Value.category, rd, tyF, va_rf, st1, st2, clr, isLg, CB, inx_0, inx_1, inx_2, inx_3, inx_4, inx_5, bI_0, bI_1, bI_ok, fin3, tyX12, entL, q0, dX12_sure_0, dX12_sure_1, dX12_sure_2, fT_12_135, dX12_sure_5, dX12_sure_6, dX12_sure_7, dX12_sure_8, dX12_sure_11, dX12_sure_14, dX12_sure_15, dX12_sure_18, dX12_sure_21, dX12_sure_22, dX12_sure_23, dX12_sure_24, fT_12_105, dX12_sure_27, dX12_sure_28, dX12_sure_29, dX12_sure_30, dX12_sure_31, dX12_sure_32, dX12_sure_33, dX12_sure_34, dX12_sure_37, dX12_sure_38, dX12_sure_41, dX12_sure_42, dX12_sure_45, dX12_sure_46, dX12_sure_47, dX12_sure_48, dX12_sure_49, dX12_sure_50, dX12_sure_51, dX12_sure_52, dX12_sure_55, dX12_sure_56, dX12_sure_59, dX12_sure_60]
  refine ⟨fun h => hP _ _ ⟨by simp [sureA, h], _, rfl, e1⟩, fun h => ?_⟩
  refine hG.callV dX12_sure_15 mv_12_347 [] [] (c12_isSure l X (d - 1) sh mI0 mL mR n hL np (hp.eqf e1 (by decide)) c fi se ma (hS.eqf e1 (by decide)) (by omega)) ⟨_, rfl, rfl⟩ q0 (by omega) rfl (by decide) (by simp [Value.category]) rfl ?_
  rintro r M' ⟨rfl, mI1, rfl, h1, -, h3, -⟩
  have e2 := e1.tr (h1.f (T := [159, 160, 161]) (F := [0]) (by decide))
  have h9 := h
  unfold is2 at h9
  simp only [Bool.and_eq_true, decide_eq_true_eq] at h9
  obtain ⟨a, ha, rfl⟩ := isP_nat hp h9.1.1
  obtain ⟨b, hb, rfl⟩ := isP_nat hp h9.1.2
  have b1 := abv_lt (np := np) (se := se) hfi a
  have b2 := abv_lt (np := np) (se := se) hfi b
  refine hG.run [] 40 ?_
  simp [wp, stepI, ln, jmp, cmpI, Value.category, rd, tyF, va_rf, st1, st2, clr, isLg, CB, inx_0, inx_1, inx_2, inx_3, inx_4, inx_5, bI_0, bI_1, bI_ok, fin3, tyX12, entL, q0, q_above, dX12_sure_0, dX12_sure_1, dX12_sure_2, fT_12_135, dX12_sure_5, dX12_sure_6, dX12_sure_7, dX12_sure_8, dX12_sure_11, dX12_sure_14, dX12_sure_15, dX12_sure_18, dX12_sure_21, dX12_sure_22, dX12_sure_23, dX12_sure_24, fT_12_105, dX12_sure_27, dX12_sure_28, dX12_sure_29, dX12_sure_30, dX12_sure_31, dX12_sure_32, dX12_sure_33, dX12_sure_34, dX12_sure_37, dX12_sure_38, dX12_sure_41, dX12_sure_42, dX12_sure_45, dX12_sure_46, dX12_sure_47, dX12_sure_48, dX12_sure_49, dX12_sure_50, dX12_sure_51, dX12_sure_52, dX12_sure_55, dX12_sure_56, dX12_sure_59, dX12_sure_60]
  simp (disch := omega) only [li, nI_add, nI_clamp, nI_ltI, nI_leI, nI_eq, inx_iff, a31, nI_1shl', nI_shr', div_bit, tb1, tb0, fa_or, fa_and, nI_not, pk_sub, h3]
  refine ⟨fun z => hP _ _ ⟨by simp [sureA, z], _, rfl, e2⟩, fun z => ⟨by omega, fun z1 => ⟨by omega, fun z2 => hP _ _ ⟨?_, _, rfl, e2⟩, fun z2 => hP _ _ ⟨?_, _, rfl, e2⟩⟩, fun z1 => hP _ _ ⟨?_, _, rfl, e2⟩⟩⟩
  all_goals simp (disch := omega) [sureA, h, z, z1, nI_clamp, li]
  · trace_state
    sorry
  all_goals sorry
