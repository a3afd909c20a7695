set_option maxHeartbeats 2000000 in
theorem c12_isPupil (l : Launch) (X : Cx) (d : Nat) (sh : Nat → Option Sh) (mI : Nat → Nat → Int32) (mL : Nat → Nat → Int64) (mR : Nat → Nat → Option Nat) (n : Nat) (hL : ML sh mR) (x : Int32) : Cn l X yX12_isPupil cX12_isPupil 2 (some .boolean) d [.ref 129, .int x] (sh, mI, mL, mR, n) (fun r M' => M' = (sh, mI, mL, mR, n) ∧ r = some (.int (if 0 ≤ x ∧ x < mI 131 0 then 1 else 0))) 0 0 := by
  refine Cn.of 12 false (by decide) rfl (by decide) (by simp [entA, Value.category]) ?_
  intro p e s m args below meth c C0
  refine wp_sound C0 ⟨Nat.le_refl _, Nat.le_refl _⟩ [] 20 _ _ _ _ ?_
  have q0 := hL.1
  have q1 := hL.2 (10, 131, .int, 6) (by decide)
  simp [wp, stepI, ln, jmp, cmpI, entL, Value.category, rd, tyF, tyX12, va_rf, q0, q1, inx, dX12_isPupil_0, dX12_isPupil_1, dX12_isPupil_4, dX12_isPupil_5, dX12_isPupil_6, fT_12_13, dX12_isPupil_9, dX12_isPupil_10, dX12_isPupil_11, dX12_isPupil_14, dX12_isPupil_15, dX12_isPupil_18, dX12_isPupil_19]
  done
