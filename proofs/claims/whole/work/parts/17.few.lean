/-- a saying counts for a master (w below 0: for both) -/
def mkO (w : Int32) (x : Nat) : Bool := decide (w < 0) || decide (nI x = w)
/-- how many of the sayings of p break if the set stands ahead -/
def brk (c : Nat) (fi se ma : Nat → Nat) (w : Int32) (p t : Nat) : Nat := fb_ct (fun k => decide (fi k = p) && t.testBit (se k) && mkO w (ma k)) c
theorem brk_le (c : Nat) (fi se ma : Nat → Nat) (w : Int32) (p t : Nat) : brk c fi se ma w p t ≤ c := fb_ct_le _ _
set_option maxHeartbeats 4000000 in
set_option maxRecDepth 100000 in
theorem c12_broken (l : Launch) (X : Cx) (d : Nat) (sh : Nat → Option Sh) (mI : Nat → Nat → Int32) (mL : Nat → Nat → Int64) (mR : Nat → Nat → Option Nat) (n : Nat) (hL : ML sh mR) (c : Nat) (fi se ma : Nat → Nat) (hS : SayM mI c fi se ma) (w : Int32) (p t : Nat) (hp : p < 10) (ht : t < 1024) : Cn l X yX12_broken cX12_broken 6 (some .int) d [.ref 129, .int (nI p), .int (nI t), .int w] (sh, mI, mL, mR, n) (fun r M' => M' = (sh, mI, mL, mR, n) ∧ r = some (.int (nI (brk c fi se ma w p t)))) 0 0 := by
  refine Cn.run 12 false (by decide) rfl (by decide) (by simp [entA, Value.category]) ?_
  intro P G hP hG
  have q0 := hL.1
  have q_s := hL.2 (41, 156, .int, 144) (by decide)
  dsimp only at q_s
  have loop : ∀ f i, c - i < f → i ≤ c → G 6 [some (.ref 129), some (.int (nI p)), some (.int (nI t)), some (.int w), some (.int (nI (brk i fi se ma w p t))), some (.int (nI i))] [] (sh, mI, mL, mR, n) := by
    intro f
    induction f with
    | zero => intro i h; omega
    | succ f ih =>
      intro i hf hi
      refine hG.run [6] 60 ?_
      simp [wp, stepI, ln, jmp, cmpI, Value.category, rd, tyF, va_rf, st1, st2, clr, isLg, CB, inx_0, inx_1, inx_2, inx_3, inx_4, inx_5, bI_0, bI_1, bI_ok, fin3, tyX12, entL, q0, q_s, dX12_broken_0, dX12_broken_1, dX12_broken_3, dX12_broken_4, dX12_broken_6, dX12_broken_8, dX12_broken_9, fT_12_90, dX12_broken_12, dX12_broken_13, dX12_broken_14, dX12_broken_17, dX12_broken_19, dX12_broken_20, dX12_broken_23, dX12_broken_24, dX12_broken_26, dX12_broken_27, dX12_broken_28, dX12_broken_29, dX12_broken_32, dX12_broken_33, dX12_broken_34, dX12_broken_37, dX12_broken_39, dX12_broken_41, dX12_broken_42, dX12_broken_43, dX12_broken_44, dX12_broken_45, dX12_broken_46, dX12_broken_47, dX12_broken_50, dX12_broken_51, dX12_broken_54, dX12_broken_55, dX12_broken_58, dX12_broken_60, dX12_broken_62, dX12_broken_63, dX12_broken_64, dX12_broken_65, dX12_broken_68, dX12_broken_69, dX12_broken_72, dX12_broken_73, dX12_broken_74, dX12_broken_76, dX12_broken_79, dX12_broken_82, dX12_broken_84]
      have e0 := hS.1
      have hc := hS.2.1
      simp (disch := omega) only [li, nI_add, nI_clamp, nI_ltI, nI_leI, nI_eq, inx_iff, a31, nI_1shl', nI_shr', div_bit, tb1, tb0, fa_or, fa_and, nI_not, pk_sub, e0]
      refine ⟨fun h => hP _ _ ⟨rfl, by rw [show i = c by omega]⟩, fun h => ?_⟩
      obtain ⟨s1, s2, s3, b1, b2, b3⟩ := hS.2.2 i h
      simp (disch := omega) only [li, nI_add, nI_clamp, nI_ltI, nI_leI, nI_eq, inx_iff, a31, nI_1shl', nI_shr', div_bit, tb1, tb0, fa_or, fa_and, nI_not, pk_sub, s1, s2, s3]
      have nx : ∀ b : Bool, (decide (fi i = p) && t.testBit (se i) && mkO w (ma i)) = b → G 6 [some (.ref 129), some (.int (nI p)), some (.int (nI t)), some (.int w), some (.int (nI (brk i fi se ma w p t + b.toNat))), some (.int (nI (i + 1)))] [] (sh, mI, mL, mR, n) := fun b hb => by
        have := ih (i + 1) (by omega) (by omega)
        unfold brk at this
        rw [fb_ct_succ, hb, show (if b = true then 1 else 0) = b.toNat by cases b <;> rfl] at this
        exact this
      trace_state
      sorry
  refine hG.run [6] 60 ?_
  simp [wp, stepI, ln, jmp, cmpI, Value.category, rd, tyF, va_rf, st1, st2, clr, isLg, CB, inx_0, inx_1, inx_2, inx_3, inx_4, inx_5, bI_0, bI_1, bI_ok, fin3, tyX12, entL, q0, q_s, dX12_broken_0, dX12_broken_1, dX12_broken_3, dX12_broken_4, dX12_broken_6, dX12_broken_8, dX12_broken_9, fT_12_90, dX12_broken_12, dX12_broken_13, dX12_broken_14, dX12_broken_17, dX12_broken_19, dX12_broken_20, dX12_broken_23, dX12_broken_24, dX12_broken_26, dX12_broken_27, dX12_broken_28, dX12_broken_29, dX12_broken_32, dX12_broken_33, dX12_broken_34, dX12_broken_37, dX12_broken_39, dX12_broken_41, dX12_broken_42, dX12_broken_43, dX12_broken_44, dX12_broken_45, dX12_broken_46, dX12_broken_47, dX12_broken_50, dX12_broken_51, dX12_broken_54, dX12_broken_55, dX12_broken_58, dX12_broken_60, dX12_broken_62, dX12_broken_63, dX12_broken_64, dX12_broken_65, dX12_broken_68, dX12_broken_69, dX12_broken_72, dX12_broken_73, dX12_broken_74, dX12_broken_76, dX12_broken_79, dX12_broken_82, dX12_broken_84]
  exact loop (c + 1) 0 (by omega) (by omega)
