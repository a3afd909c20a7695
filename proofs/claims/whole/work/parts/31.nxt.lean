def nxA (np c : Nat) (fi se : Nat → Nat) (w : Int32) : Int32 := if wth w (nI 0) (nI 2) && decide (2 ≤ ordN np c fi se) then (match nxtO np c fi se np with
  | none => nI 0
  | some q => if w = nI 0 then nI q.2.1 else if w = nI 1 then nI q.2.2 else nI q.1) else -nI 1
set_option maxHeartbeats 4000000 in
set_option maxRecDepth 100000 in
theorem c12_next (l : Launch) (X : Cx) (d : Nat) (sh : Nat → Option Sh) (mI : Nat → Nat → Int32) (mL : Nat → Nat → Int64) (mR : Nat → Nat → Option Nat) (n : Nat) (hL : ML sh mR) (np : Nat) (hp : PupM mI np) (c : Nat) (fi se ma : Nat → Nat) (hS : SayM mI c fi se ma) (hN : 2 ≤ ordN np c fi se → nxtO np c fi se np ≠ none) (w : Int32) (hd : 4 ≤ d) : Cn l X yX12_next cX12_next 2 (some .int) d [.ref 129, .int w] (sh, mI, mL, mR, n) (fun r M' => r = some (.int (nxA np c fi se w)) ∧ ∃ mI', M' = (sh, mI', mL, mR, n) ∧ Eqf [159, 160, 161] [50, 51, 52, 0] mI mI') 0 0 := by
  refine Cn.run 12 false (by decide) rfl (by decide) (by simp [entA, Value.category]) ?_
  intro P G hP hG
  have q0 := hL.1
  refine hG.run [] 20 ?_
  simp [wp, stepI, ln, jmp, cmpI, Value.category, rd, tyF, va_rf, st1, st2, clr, isLg, CB, inx_0, inx_1, inx_2, inx_3, inx_4, inx_5, bI_0, bI_1, bI_ok, fin3, tyX12, entL, q0, okv, wr, finF, clT, TX12, dX12_next_0, dX12_next_1, dX12_next_2, fT_12_135, dX12_next_5, dX12_next_6, dX12_next_7, dX12_next_8, dX12_next_11, dX12_next_14, dX12_next_15, dX12_next_18, dX12_next_21, dX12_next_22, dX12_next_23, dX12_next_24, dX12_next_27, dX12_next_28, fT_12_391, dX12_next_31, dX12_next_34, dX12_next_35, dX12_next_36, dX12_next_39, dX12_next_40, fT_12_394, dX12_next_43, dX12_next_46, dX12_next_47, fT_12_385, dX12_next_50]
  have e1 : Eqf [159, 160, 161] [50, 51, 52, 0] mI (up2 mI 129 0 0) := Eqf.rf.upf (by decide)
  generalize up2 mI 129 0 0 = mI0 at e1 ⊢
  refine hG.callS dX12_next_8 ms_12_250 [.int w, .int 0, .int 2] [] (c12_within l X (d - 1) _ w 0 2) (by omega) rfl (by decide) (by simp [Value.category]) rfl ?_
  rintro r M' ⟨rfl, rfl⟩
  rw [show wth w 0 2 = wth w (nI 0) (nI 2) from rfl]
  refine hG.run [] 20 ?_
  simp [wp, stepI, ln, jmp, cmpI, Value.category, rd, tyF, va_rf, st1, st2, clr, isLg, CB, inx_0, inx_1, inx_2, inx_3, inx_4, inx_5, bI_0, bI_1, bI_ok, fin3, tyX12, entL, q0, dX12_next_0, dX12_next_1, dX12_next_2, fT_12_135, dX12_next_5, dX12_next_6, dX12_next_7, dX12_next_8, dX12_next_11, dX12_next_14, dX12_next_15, dX12_next_18, dX12_next_21, dX12_next_22, dX12_next_23, dX12_next_24, dX12_next_27, dX12_next_28, fT_12_391, dX12_next_31, dX12_next_34, dX12_next_35, dX12_next_36, dX12_next_39, dX12_next_40, fT_12_394, dX12_next_43, dX12_next_46, dX12_next_47, fT_12_385, dX12_next_50]
  refine ⟨fun h => hP _ _ ⟨by simp [nxA, h, li], _, rfl, e1⟩, fun h => ?_⟩
  refine hG.callV dX12_next_15 mv_12_397 [] [] (c12_looks l X (d - 1) sh mI0 mL mR n hL np (hp.eqf e1 (by decide)) c fi se ma (hS.eqf e1 (by decide)) (by omega)) ⟨_, rfl, rfl⟩ q0 (by omega) rfl (by decide) (by simp [Value.category]) rfl ?_
  rintro r M' ⟨rfl, mI1, rfl, h1, h2⟩
  have e2 := e1.tr (fun a k ha hk => h1 a k ha (fun z => hk ⟨z.1, by have := z.2; simp at this ⊢; omega⟩))
  refine hG.run [] 20 ?_
  simp [wp, stepI, ln, jmp, cmpI, Value.category, rd, tyF, va_rf, st1, st2, clr, isLg, CB, inx_0, inx_1, inx_2, inx_3, inx_4, inx_5, bI_0, bI_1, bI_ok, fin3, tyX12, entL, q0, dX12_next_0, dX12_next_1, dX12_next_2, fT_12_135, dX12_next_5, dX12_next_6, dX12_next_7, dX12_next_8, dX12_next_11, dX12_next_14, dX12_next_15, dX12_next_18, dX12_next_21, dX12_next_22, dX12_next_23, dX12_next_24, dX12_next_27, dX12_next_28, fT_12_391, dX12_next_31, dX12_next_34, dX12_next_35, dX12_next_36, dX12_next_39, dX12_next_40, fT_12_394, dX12_next_43, dX12_next_46, dX12_next_47, fT_12_385, dX12_next_50]
  refine ⟨fun h3 => ?_, fun h3 => hP _ _ ⟨by unfold nxA; rw [if_neg (by simp; intro _; omega)]; rfl, _, rfl, e2⟩⟩
  have h4 := h2 h3
  cases hs : nxtO np c fi se np with
  | none => exact absurd hs (hN h3)
  | some q =>
    rw [hs] at h4
    obtain ⟨g1, -, g2, g3⟩ := h4
    simp (disch := omega) only [li, nI_add, nI_clamp, nI_ltI, nI_leI, nI_eq, inx_iff, a31, nI_1shl', nI_shr', div_bit, tb1, tb0, fa_or, fa_and, nI_not, pk_sub, nI_dec, g1, g2, g3]
    refine ⟨fun z => ⟨fun z2 => ?_, fun z2 => ?_⟩, fun z => ?_⟩
    · exact hP _ _ ⟨by unfold nxA; rw [if_pos (by simp [h, h3]), hs]; dsimp only; rw [if_neg z, if_neg z2], _, rfl, e2⟩
    · exact hP _ _ ⟨by unfold nxA; rw [if_pos (by simp [h, h3]), hs]; dsimp only; rw [if_neg z, if_pos z2], _, rfl, e2⟩
    · exact hP _ _ ⟨by unfold nxA; rw [if_pos (by simp [h, h3]), hs]; dsimp only; rw [if_pos z], _, rfl, e2⟩
