/-! steps of a wish -/
set_option maxHeartbeats 4000000 in
set_option maxRecDepth 100000 in
theorem c3_putStep (l : Launch) (X : Cx) (d : Nat) (sh : Nat → Option Sh) (mI : Nat → Nat → Int32) (mL : Nat → Nat → Int64) (mR : Nat → Nat → Option Nat) (n : Nat) (R C TP : Nat) (hL : RdL sh mR R C TP) (c : Nat) (hc : mI R 5 = nI c) (hc2 : c < 1000) (v : Int32) : Cn l X yX3_putStep cX3_putStep 2 (some .boolean) d [.ref R, .int v] (sh, mI, mL, mR, n) (fun r M' => r = some (.int (nI 1)) ∧ M' = (sh, up2 (up2 mI (R + 17) c v) R 5 (nI (c + 1)), mL, mR, n)) 0 0 := by
  refine Cn.run 3 false (by decide) rfl (by decide) (by simp [entA, Value.category]) ?_
  intro P G hP hG
  have q0 := hL.1
  have xR : R < 1000000000 := by have := hL.2.1; omega
  have xs : R + 17 < 1000000000 := by have := hL.2.1; omega
  have rs := hL.2.2.2.2.2.2.1
  have ns : ¬ (R + 17) = 1000000021 := by omega
  have i1000 : Int32.ofNat 1000 = nI 1000 := rfl
  have q := hP _ _ ⟨rfl, rfl⟩
  refine hG.run [] 60 ?_
  simp [wp, stepI, ln, jmp, cmpI, Value.category, rd, tyF, vrs, vrn, ex_rr, ex_rn, ex_nr, ex_nn, okA_s, okA_n, st1, st2, clr, isLg, CB, inx_0, inx_1, inx_2, inx_3, inx_4, inx_5, bI_0, bI_1, bI_ok, fin3, tyX3, entL, q0, rs, okv, wr, finF, clT, TX3, xR, xs, ns, i1000, okT, dX3_putStep_0, dX3_putStep_1, fT_3_187, dX3_putStep_4, dX3_putStep_5, fT_3_33, dX3_putStep_8, dX3_putStep_9, dX3_putStep_12, dX3_putStep_13, dX3_putStep_16, dX3_putStep_17, dX3_putStep_20, dX3_putStep_21, dX3_putStep_22, dX3_putStep_23, dX3_putStep_24, dX3_putStep_27, dX3_putStep_28, dX3_putStep_29, dX3_putStep_32, dX3_putStep_33]
  rw [show ∀ w, up2 mI (R + 17) (mI R 5).toNatClampNeg w R 5 = mI R 5 from fun w => up2_ne (by omega), hc]
  simp (disch := omega) only [li, nI_add, nI_clamp, nI_ltI, nI_leI, nI_eq, inx_iff, a31, nI_1shl', nI_shr', div_bit, tb1, tb0, fa_or, fa_and, nI_not, pk_sub, nI_dec]
  exact ⟨fun z => by omega, fun _ => ⟨hc2, q⟩⟩
