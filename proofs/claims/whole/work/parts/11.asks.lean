/-- who is said to stand above p, of the first k sayings, without those that ok leaves out -/
def ahd (fi se : Nat → Nat) (ok : Nat → Bool) (p : Nat) : Nat → Nat
  | 0 => 0
  | k + 1 => if ok (fi k) && ok (se k) && se k == p then ahd fi se ok p k ||| 2 ^ fi k else ahd fi se ok p k
def SayM (mI : Nat → Nat → Int32) (c : Nat) (fi se ma : Nat → Nat) : Prop := mI 156 0 = nI c ∧ c ≤ 40 ∧ ∀ k, k < c → mI 156 (1 + k) = nI (fi k) ∧ mI 156 (41 + k) = nI (se k) ∧ mI 156 (81 + k) = nI (ma k) ∧ fi k < 10 ∧ se k < 10 ∧ ma k < 2
set_option maxHeartbeats 2000000 in
theorem c12_asks (l : Launch) (X : Cx) (d : Nat) (sh : Nat → Option Sh) (mI : Nat → Nat → Int32) (mL : Nat → Nat → Int64) (mR : Nat → Nat → Option Nat) (n : Nat) (hL : ML sh mR) (c : Nat) (fi se ma : Nat → Nat) (hS : SayM mI c fi se ma) (but : Int32) : Cn l X yX12_asks cX12_asks 3 none d [.ref 129, .int but] (sh, mI, mL, mR, n) (fun r M' => r = none ∧ ∃ mI', M' = (sh, mI', mL, mR, n) ∧ Eqx [159] mI mI' ∧ ∀ p, p < 10 → mI' 159 p = nI (ahd fi se (fun x => decide (nI x ≠ but)) p c)) 0 0 := by
  refine Cn.of 12 false (by decide) rfl (by decide) (by simp [entA, Value.category]) ?_
  intro p e s m args below meth c0 C0
  have q0 := hL.1
  have q1 := hL.2 (44, 159, .int, 10) (by decide)
  have q2 := hL.2 (41, 156, .int, 144) (by decide)
  dsimp only at q1 q2
  have loop1 : ∀ f i mI1, 10 - i < f → i ≤ 10 → Eqx [159] mI mI1 → (∀ p, p < i → mI1 159 p = 0) → WG p l e (rmm d 0 0) s m args below meth c0 X 3 (fun r M' => r = none ∧ ∃ mI', M' = (sh, mI', mL, mR, n) ∧ Eqx [159] mI mI' ∧ ∀ p, p < 10 → mI' 159 p = nI (ahd fi se (fun x => decide (nI x ≠ but)) p c)) 0 0 0 0 2 [some (.ref 129), some (.int but), some (.int (nI i))] [] (sh, mI1, mL, mR, n) := by
    intro f
    induction f with
    | zero => intro i mI1 h; omega
    | succ f ih =>
      intro i mI1 hf hi h1 h2
      refine wp_sound C0 ⟨Nat.le_refl _, Nat.le_refl _⟩ [2, 23] 30 2 _ _ _ ?_
      simp [wp, stepI, ln, jmp, cmpI, entL, Value.category, rd, tyF, tyX12, va_rf, st1, clr, isLg, q0, q1, q2, dX12_asks_0, dX12_asks_1, dX12_asks_2, dX12_asks_3, dX12_asks_5, dX12_asks_8, dX12_asks_9, fT_12_99, dX12_asks_12, dX12_asks_13, dX12_asks_14, dX12_asks_15, dX12_asks_18, dX12_asks_21, dX12_asks_22, dX12_asks_23, dX12_asks_24, dX12_asks_25, fT_12_90, dX12_asks_28, dX12_asks_29, dX12_asks_30, dX12_asks_33, dX12_asks_34, dX12_asks_37, dX12_asks_38, dX12_asks_39, dX12_asks_40, dX12_asks_41, dX12_asks_42, dX12_asks_45, dX12_asks_46, dX12_asks_49, dX12_asks_51, dX12_asks_52, dX12_asks_53, dX12_asks_54, dX12_asks_55, dX12_asks_58, dX12_asks_59, dX12_asks_62, dX12_asks_63, dX12_asks_66, dX12_asks_68, dX12_asks_69, dX12_asks_70, dX12_asks_71, dX12_asks_72, dX12_asks_73, dX12_asks_74, dX12_asks_75, dX12_asks_78, dX12_asks_79, dX12_asks_80, dX12_asks_81, dX12_asks_82, dX12_asks_83, dX12_asks_84, dX12_asks_85, dX12_asks_88, dX12_asks_91]
      sorry
  sorry
