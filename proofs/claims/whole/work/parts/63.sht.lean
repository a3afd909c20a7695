/-! one sheet copied from another -/
def cpS (mI : Nat → Nat → Int32) (S T : Nat) : Nat → Nat → Int32 := cpM (cpM (cpM (cpM (cpM (up2 mI S 4 (mI T 4)) (T + 7) (S + 7) 0 0 40) (T + 8) (S + 8) 0 0 40) (T + 9) (S + 9) 0 0 40) (T + 10) (S + 10) 0 0 10) (T + 11) (S + 11) 0 0 10
set_option maxHeartbeats 4000000 in
set_option maxRecDepth 100000 in
theorem c6_copyFrom (l : Launch) (X : Cx) (d : Nat) (sh : Nat → Option Sh) (mI : Nat → Nat → Int32) (mL : Nat → Nat → Int64) (mR : Nat → Nat → Option Nat) (n : Nat) (S T C : Nat) (hS : OL sh mR S 6 ob6) (hT : OL sh mR T 6 ob6) (hne : S + 11 < T ∨ T + 11 < S) (hsc : mR T 0 = some C) (hd : 1 ≤ d) : Cn l X yX6_copyFrom cX6_copyFrom 2 none d [.ref S, .ref T] (sh, mI, mL, mR, n) (fun r M' => r = none ∧ M' = (sh, cpS mI S T, mL, up2 mR S 0 (some C), n)) 0 0 := by
  refine Cn.run 6 false (by decide) rfl (by decide) (by simp [entA, Value.category]) ?_
  intro P G hP hG
  have q0 := hS.1
  have q_first := hS.2.2 (1, 7, .int, 40) (by decide)
  dsimp only at q_first
  have q_second := hS.2.2 (2, 8, .int, 40) (by decide)
  dsimp only at q_second
  have q_master := hS.2.2 (3, 9, .int, 40) (by decide)
  dsimp only at q_master
  have q_seat := hS.2.2 (5, 10, .int, 10) (by decide)
  dsimp only at q_seat
  have q_planned := hS.2.2 (6, 11, .int, 10) (by decide)
  dsimp only at q_planned
  have hSl := hS.2.1
  have xS : S < 1000000000 := by omega
  have t0 := hT.1
  have t_first := hT.2.2 (1, 7, .int, 40) (by decide)
  dsimp only at t_first
  have t_second := hT.2.2 (2, 8, .int, 40) (by decide)
  dsimp only at t_second
  have t_master := hT.2.2 (3, 9, .int, 40) (by decide)
  dsimp only at t_master
  have t_seat := hT.2.2 (5, 10, .int, 10) (by decide)
  dsimp only at t_seat
  have t_planned := hT.2.2 (6, 11, .int, 10) (by decide)
  dsimp only at t_planned
  have r1 : ∀ x k, ¬ (x = S ∧ k = 0) → up2 mR S 0 (some C) x k = mR x k := fun x k h => up2_ne h
  have u_first : up2 mR S 0 (some C) S 1 = some (S + 7) := (r1 _ _ (fun z => by cases z.2)).trans q_first.1
  have v_first : up2 mR S 0 (some C) T 1 = some (T + 7) := (r1 _ _ (fun z => by omega)).trans t_first.1
  have u_second : up2 mR S 0 (some C) S 2 = some (S + 8) := (r1 _ _ (fun z => by cases z.2)).trans q_second.1
  have v_second : up2 mR S 0 (some C) T 2 = some (T + 8) := (r1 _ _ (fun z => by omega)).trans t_second.1
  have u_master : up2 mR S 0 (some C) S 3 = some (S + 9) := (r1 _ _ (fun z => by cases z.2)).trans q_master.1
  have v_master : up2 mR S 0 (some C) T 3 = some (T + 9) := (r1 _ _ (fun z => by omega)).trans t_master.1
  have u_seat : up2 mR S 0 (some C) S 5 = some (S + 10) := (r1 _ _ (fun z => by cases z.2)).trans q_seat.1
  have v_seat : up2 mR S 0 (some C) T 5 = some (T + 10) := (r1 _ _ (fun z => by omega)).trans t_seat.1
  have u_planned : up2 mR S 0 (some C) S 6 = some (S + 11) := (r1 _ _ (fun z => by cases z.2)).trans q_planned.1
  have v_planned : up2 mR S 0 (some C) T 6 = some (T + 11) := (r1 _ _ (fun z => by omega)).trans t_planned.1
  refine hG.run [] 40 ?_
  simp [wp, stepI, ln, jmp, cmpI, Value.category, rd, tyF, va_rf, st1, st2, clr, isLg, CB, inx_0, inx_1, inx_2, inx_3, inx_4, inx_5, bI_0, bI_1, bI_ok, fin3, tyX6, entL, q0, okv, wr, finF, clT, TX6, xS, t0, hsc, dX6_copyFrom_0, dX6_copyFrom_1, dX6_copyFrom_2, fT_6_12, dX6_copyFrom_5, dX6_copyFrom_8, dX6_copyFrom_9, dX6_copyFrom_10, fT_6_40, dX6_copyFrom_13, dX6_copyFrom_16, dX6_copyFrom_17, fT_6_18, dX6_copyFrom_20, dX6_copyFrom_21, dX6_copyFrom_22, dX6_copyFrom_25, dX6_copyFrom_26, dX6_copyFrom_28, dX6_copyFrom_31, dX6_copyFrom_32, fT_6_22, dX6_copyFrom_35, dX6_copyFrom_36, dX6_copyFrom_37, dX6_copyFrom_40, dX6_copyFrom_41, dX6_copyFrom_43, dX6_copyFrom_46, dX6_copyFrom_47, fT_6_25, dX6_copyFrom_50, dX6_copyFrom_51, dX6_copyFrom_52, dX6_copyFrom_55, dX6_copyFrom_56, dX6_copyFrom_58, dX6_copyFrom_61, dX6_copyFrom_62, fT_6_28, dX6_copyFrom_65, dX6_copyFrom_66, dX6_copyFrom_67, dX6_copyFrom_70, dX6_copyFrom_71, dX6_copyFrom_73, dX6_copyFrom_76, dX6_copyFrom_77, fT_6_31, dX6_copyFrom_80, dX6_copyFrom_81, dX6_copyFrom_82, dX6_copyFrom_85, dX6_copyFrom_86, dX6_copyFrom_88, dX6_copyFrom_91]
  unfold cpS at hP
  generalize up2 mR S 0 (some C) = mR2 at u_first v_first u_second v_second u_master v_master u_seat v_seat u_planned v_planned hP ⊢
  generalize up2 mI S 4 (mI T 4) = m0 at hP ⊢
  rw [u_first, v_first]
  have c0 : (nI 0).toNatClampNeg = 0 := by decide +kernel
  have c40 : (nI 40).toNatClampNeg = 40 := by decide +kernel
  have c10 : (nI 10).toNatClampNeg = 10 := by decide +kernel
  refine hG.2.2.2.1 28 44 _ _ (sh, m0, mL, mR2, n) (T + 7) (S + 7) 40 40 (nI 0) (nI 0) (nI 40) dX6_copyFrom_28 ml_6_44 t_first.2 q_first.2 (by show _ < 1000000000; omega) (by decide +kernel) (by decide +kernel) (by decide +kernel) (by decide +kernel) (by decide +kernel) (by omega) (by simp [Value.category]) ?_
  rw [c0, c40]
  show G 31 _ _ (sh, cpM m0 (T + 7) (S + 7) 0 0 40, mL, mR2, n)
  generalize cpM m0 (T + 7) (S + 7) 0 0 40 = m1 at hP ⊢
  refine hG.run [] 40 ?_
  simp [wp, stepI, ln, jmp, cmpI, Value.category, rd, tyF, va_rf, st1, st2, clr, isLg, CB, inx_0, inx_1, inx_2, inx_3, inx_4, inx_5, bI_0, bI_1, bI_ok, fin3, tyX6, entL, q0, t0, u_second, v_second, dX6_copyFrom_0, dX6_copyFrom_1, dX6_copyFrom_2, fT_6_12, dX6_copyFrom_5, dX6_copyFrom_8, dX6_copyFrom_9, dX6_copyFrom_10, fT_6_40, dX6_copyFrom_13, dX6_copyFrom_16, dX6_copyFrom_17, fT_6_18, dX6_copyFrom_20, dX6_copyFrom_21, dX6_copyFrom_22, dX6_copyFrom_25, dX6_copyFrom_26, dX6_copyFrom_28, dX6_copyFrom_31, dX6_copyFrom_32, fT_6_22, dX6_copyFrom_35, dX6_copyFrom_36, dX6_copyFrom_37, dX6_copyFrom_40, dX6_copyFrom_41, dX6_copyFrom_43, dX6_copyFrom_46, dX6_copyFrom_47, fT_6_25, dX6_copyFrom_50, dX6_copyFrom_51, dX6_copyFrom_52, dX6_copyFrom_55, dX6_copyFrom_56, dX6_copyFrom_58, dX6_copyFrom_61, dX6_copyFrom_62, fT_6_28, dX6_copyFrom_65, dX6_copyFrom_66, dX6_copyFrom_67, dX6_copyFrom_70, dX6_copyFrom_71, dX6_copyFrom_73, dX6_copyFrom_76, dX6_copyFrom_77, fT_6_31, dX6_copyFrom_80, dX6_copyFrom_81, dX6_copyFrom_82, dX6_copyFrom_85, dX6_copyFrom_86, dX6_copyFrom_88, dX6_copyFrom_91]
  refine hG.2.2.2.1 43 44 _ _ (sh, m1, mL, mR2, n) (T + 8) (S + 8) 40 40 (nI 0) (nI 0) (nI 40) dX6_copyFrom_43 ml_6_44 t_second.2 q_second.2 (by show _ < 1000000000; omega) (by decide +kernel) (by decide +kernel) (by decide +kernel) (by decide +kernel) (by decide +kernel) (by omega) (by simp [Value.category]) ?_
  rw [c0, c40]
  show G 46 _ _ (sh, cpM m1 (T + 8) (S + 8) 0 0 40, mL, mR2, n)
  generalize cpM m1 (T + 8) (S + 8) 0 0 40 = m2 at hP ⊢
  refine hG.run [] 40 ?_
  simp [wp, stepI, ln, jmp, cmpI, Value.category, rd, tyF, va_rf, st1, st2, clr, isLg, CB, inx_0, inx_1, inx_2, inx_3, inx_4, inx_5, bI_0, bI_1, bI_ok, fin3, tyX6, entL, q0, t0, u_master, v_master, dX6_copyFrom_0, dX6_copyFrom_1, dX6_copyFrom_2, fT_6_12, dX6_copyFrom_5, dX6_copyFrom_8, dX6_copyFrom_9, dX6_copyFrom_10, fT_6_40, dX6_copyFrom_13, dX6_copyFrom_16, dX6_copyFrom_17, fT_6_18, dX6_copyFrom_20, dX6_copyFrom_21, dX6_copyFrom_22, dX6_copyFrom_25, dX6_copyFrom_26, dX6_copyFrom_28, dX6_copyFrom_31, dX6_copyFrom_32, fT_6_22, dX6_copyFrom_35, dX6_copyFrom_36, dX6_copyFrom_37, dX6_copyFrom_40, dX6_copyFrom_41, dX6_copyFrom_43, dX6_copyFrom_46, dX6_copyFrom_47, fT_6_25, dX6_copyFrom_50, dX6_copyFrom_51, dX6_copyFrom_52, dX6_copyFrom_55, dX6_copyFrom_56, dX6_copyFrom_58, dX6_copyFrom_61, dX6_copyFrom_62, fT_6_28, dX6_copyFrom_65, dX6_copyFrom_66, dX6_copyFrom_67, dX6_copyFrom_70, dX6_copyFrom_71, dX6_copyFrom_73, dX6_copyFrom_76, dX6_copyFrom_77, fT_6_31, dX6_copyFrom_80, dX6_copyFrom_81, dX6_copyFrom_82, dX6_copyFrom_85, dX6_copyFrom_86, dX6_copyFrom_88, dX6_copyFrom_91]
  refine hG.2.2.2.1 58 44 _ _ (sh, m2, mL, mR2, n) (T + 9) (S + 9) 40 40 (nI 0) (nI 0) (nI 40) dX6_copyFrom_58 ml_6_44 t_master.2 q_master.2 (by show _ < 1000000000; omega) (by decide +kernel) (by decide +kernel) (by decide +kernel) (by decide +kernel) (by decide +kernel) (by omega) (by simp [Value.category]) ?_
  rw [c0, c40]
  show G 61 _ _ (sh, cpM m2 (T + 9) (S + 9) 0 0 40, mL, mR2, n)
  generalize cpM m2 (T + 9) (S + 9) 0 0 40 = m3 at hP ⊢
  refine hG.run [] 40 ?_
  simp [wp, stepI, ln, jmp, cmpI, Value.category, rd, tyF, va_rf, st1, st2, clr, isLg, CB, inx_0, inx_1, inx_2, inx_3, inx_4, inx_5, bI_0, bI_1, bI_ok, fin3, tyX6, entL, q0, t0, u_seat, v_seat, dX6_copyFrom_0, dX6_copyFrom_1, dX6_copyFrom_2, fT_6_12, dX6_copyFrom_5, dX6_copyFrom_8, dX6_copyFrom_9, dX6_copyFrom_10, fT_6_40, dX6_copyFrom_13, dX6_copyFrom_16, dX6_copyFrom_17, fT_6_18, dX6_copyFrom_20, dX6_copyFrom_21, dX6_copyFrom_22, dX6_copyFrom_25, dX6_copyFrom_26, dX6_copyFrom_28, dX6_copyFrom_31, dX6_copyFrom_32, fT_6_22, dX6_copyFrom_35, dX6_copyFrom_36, dX6_copyFrom_37, dX6_copyFrom_40, dX6_copyFrom_41, dX6_copyFrom_43, dX6_copyFrom_46, dX6_copyFrom_47, fT_6_25, dX6_copyFrom_50, dX6_copyFrom_51, dX6_copyFrom_52, dX6_copyFrom_55, dX6_copyFrom_56, dX6_copyFrom_58, dX6_copyFrom_61, dX6_copyFrom_62, fT_6_28, dX6_copyFrom_65, dX6_copyFrom_66, dX6_copyFrom_67, dX6_copyFrom_70, dX6_copyFrom_71, dX6_copyFrom_73, dX6_copyFrom_76, dX6_copyFrom_77, fT_6_31, dX6_copyFrom_80, dX6_copyFrom_81, dX6_copyFrom_82, dX6_copyFrom_85, dX6_copyFrom_86, dX6_copyFrom_88, dX6_copyFrom_91]
  refine hG.2.2.2.1 73 44 _ _ (sh, m3, mL, mR2, n) (T + 10) (S + 10) 10 10 (nI 0) (nI 0) (nI 10) dX6_copyFrom_73 ml_6_44 t_seat.2 q_seat.2 (by show _ < 1000000000; omega) (by decide +kernel) (by decide +kernel) (by decide +kernel) (by decide +kernel) (by decide +kernel) (by omega) (by simp [Value.category]) ?_
  rw [c0, c10]
  show G 76 _ _ (sh, cpM m3 (T + 10) (S + 10) 0 0 10, mL, mR2, n)
  generalize cpM m3 (T + 10) (S + 10) 0 0 10 = m4 at hP ⊢
  refine hG.run [] 40 ?_
  simp [wp, stepI, ln, jmp, cmpI, Value.category, rd, tyF, va_rf, st1, st2, clr, isLg, CB, inx_0, inx_1, inx_2, inx_3, inx_4, inx_5, bI_0, bI_1, bI_ok, fin3, tyX6, entL, q0, t0, u_planned, v_planned, dX6_copyFrom_0, dX6_copyFrom_1, dX6_copyFrom_2, fT_6_12, dX6_copyFrom_5, dX6_copyFrom_8, dX6_copyFrom_9, dX6_copyFrom_10, fT_6_40, dX6_copyFrom_13, dX6_copyFrom_16, dX6_copyFrom_17, fT_6_18, dX6_copyFrom_20, dX6_copyFrom_21, dX6_copyFrom_22, dX6_copyFrom_25, dX6_copyFrom_26, dX6_copyFrom_28, dX6_copyFrom_31, dX6_copyFrom_32, fT_6_22, dX6_copyFrom_35, dX6_copyFrom_36, dX6_copyFrom_37, dX6_copyFrom_40, dX6_copyFrom_41, dX6_copyFrom_43, dX6_copyFrom_46, dX6_copyFrom_47, fT_6_25, dX6_copyFrom_50, dX6_copyFrom_51, dX6_copyFrom_52, dX6_copyFrom_55, dX6_copyFrom_56, dX6_copyFrom_58, dX6_copyFrom_61, dX6_copyFrom_62, fT_6_28, dX6_copyFrom_65, dX6_copyFrom_66, dX6_copyFrom_67, dX6_copyFrom_70, dX6_copyFrom_71, dX6_copyFrom_73, dX6_copyFrom_76, dX6_copyFrom_77, fT_6_31, dX6_copyFrom_80, dX6_copyFrom_81, dX6_copyFrom_82, dX6_copyFrom_85, dX6_copyFrom_86, dX6_copyFrom_88, dX6_copyFrom_91]
  refine hG.2.2.2.1 88 44 _ _ (sh, m4, mL, mR2, n) (T + 11) (S + 11) 10 10 (nI 0) (nI 0) (nI 10) dX6_copyFrom_88 ml_6_44 t_planned.2 q_planned.2 (by show _ < 1000000000; omega) (by decide +kernel) (by decide +kernel) (by decide +kernel) (by decide +kernel) (by decide +kernel) (by omega) (by simp [Value.category]) ?_
  rw [c0, c10]
  show G 91 _ _ (sh, cpM m4 (T + 11) (S + 11) 0 0 10, mL, mR2, n)
  generalize cpM m4 (T + 11) (S + 11) 0 0 10 = m5 at hP ⊢
  refine hG.run [] 40 ?_
  simp [wp, stepI, ln, jmp, cmpI, Value.category, rd, tyF, va_rf, st1, st2, clr, isLg, CB, inx_0, inx_1, inx_2, inx_3, inx_4, inx_5, bI_0, bI_1, bI_ok, fin3, tyX6, entL, q0, dX6_copyFrom_0, dX6_copyFrom_1, dX6_copyFrom_2, fT_6_12, dX6_copyFrom_5, dX6_copyFrom_8, dX6_copyFrom_9, dX6_copyFrom_10, fT_6_40, dX6_copyFrom_13, dX6_copyFrom_16, dX6_copyFrom_17, fT_6_18, dX6_copyFrom_20, dX6_copyFrom_21, dX6_copyFrom_22, dX6_copyFrom_25, dX6_copyFrom_26, dX6_copyFrom_28, dX6_copyFrom_31, dX6_copyFrom_32, fT_6_22, dX6_copyFrom_35, dX6_copyFrom_36, dX6_copyFrom_37, dX6_copyFrom_40, dX6_copyFrom_41, dX6_copyFrom_43, dX6_copyFrom_46, dX6_copyFrom_47, fT_6_25, dX6_copyFrom_50, dX6_copyFrom_51, dX6_copyFrom_52, dX6_copyFrom_55, dX6_copyFrom_56, dX6_copyFrom_58, dX6_copyFrom_61, dX6_copyFrom_62, fT_6_28, dX6_copyFrom_65, dX6_copyFrom_66, dX6_copyFrom_67, dX6_copyFrom_70, dX6_copyFrom_71, dX6_copyFrom_73, dX6_copyFrom_76, dX6_copyFrom_77, fT_6_31, dX6_copyFrom_80, dX6_copyFrom_81, dX6_copyFrom_82, dX6_copyFrom_85, dX6_copyFrom_86, dX6_copyFrom_88, dX6_copyFrom_91]
  exact hP _ _ ⟨rfl, rfl⟩
/-! rings of seats -/
def sitT (np : Nat) (st pl : Nat → Nat) (p : Nat) : Nat := sitF np st (nI (pl p) - nI 1)
/-- where p comes to after k steps (np: nobody sits there) -/
def rgT (np : Nat) (st pl : Nat → Nat) (p : Nat) : Nat → Nat
  | 0 => p
  | k + 1 => if rgT np st pl p k < np then sitT np st pl (rgT np st pl p k) else np
/-- does p lead a ring: f steps left, at q -/
def ldR (np : Nat) (st pl : Nat → Nat) (p : Nat) : Nat → Nat → Bool
  | 0, _ => false
  | f + 1, q => if sitT np st pl q < np then (if sitT np st pl q = p then true else if sitT np st pl q < p then false else ldR np st pl p f (sitT np st pl q)) else false
theorem ldR_s (np : Nat) (st pl : Nat → Nat) (p f q : Nat) : ldR np st pl p (f + 1) q = if sitT np st pl q < np then (if sitT np st pl q = p then true else if sitT np st pl q < p then false else ldR np st pl p f (sitT np st pl q)) else false := rfl
set_option maxHeartbeats 4000000 in
set_option maxRecDepth 100000 in
theorem c6_leadsRing (l : Launch) (X : Cx) (d : Nat) (sh : Nat → Option Sh) (mI : Nat → Nat → Int32) (mL : Nat → Nat → Int64) (mR : Nat → Nat → Option Nat) (n : Nat) (S C : Nat) (hO : OL sh mR S 6 ob6) (hsc : mR S 0 = some C) (hC : sh C = some (.inl 4)) (np : Nat) (hp : ScP mI C np) (st pl : Nat → Nat) (hT : SeR mI (S + 10) np st) (hU : SeR mI (S + 11) np pl) (p : Nat) (hpn : p < np) (hd : 1 ≤ d) : Cn l X yX6_leadsRing cX6_leadsRing 4 (some .boolean) d [.ref S, .int (nI p)] (sh, mI, mL, mR, n) (fun r M' => M' = (sh, mI, mL, mR, n) ∧ r = some (.int (bI (ldR np st pl p np p)))) 0 0 := by
  refine Cn.run 6 false (by decide) rfl (by decide) (by simp [entA, Value.category]) ?_
  intro P G hP hG
  have q0 := hO.1
  have q_planned := hO.2.2 (6, 11, .int, 10) (by decide)
  dsimp only at q_planned
  have hp0 := hp
  obtain ⟨h1, h2⟩ := hp
  have m10 : -nI 1 < nI 0 := by decide +kernel
  have loop : ∀ f i q, np - i < f → i ≤ np → q < np → ldR np st pl p (np - i) q = ldR np st pl p np p → G 4 [some (.ref S), some (.int (nI p)), some (.int (nI q)), some (.int (nI i))] [] (sh, mI, mL, mR, n) := by
    intro f
    induction f with
    | zero => intro i q h; omega
    | succ f ih =>
      intro i q hf hi hq he
      obtain ⟨u1, u2⟩ := hU q hq
      refine hG.run [] 40 ?_
      simp [wp, stepI, ln, jmp, cmpI, Value.category, rd, tyF, va_rf, st1, st2, clr, isLg, CB, inx_0, inx_1, inx_2, inx_3, inx_4, inx_5, bI_0, bI_1, bI_ok, fin3, tyX6, entL, q0, q_planned, hsc, hC, tyX4, dX6_leadsRing_0, dX6_leadsRing_1, dX6_leadsRing_2, dX6_leadsRing_3, dX6_leadsRing_4, dX6_leadsRing_5, dX6_leadsRing_6, fT_6_12, dX6_leadsRing_9, fT_6_50, dX6_leadsRing_12, dX6_leadsRing_15, dX6_leadsRing_16, dX6_leadsRing_17, fT_6_31, dX6_leadsRing_20, dX6_leadsRing_21, dX6_leadsRing_22, dX6_leadsRing_25, dX6_leadsRing_26, dX6_leadsRing_27, dX6_leadsRing_28, dX6_leadsRing_31, dX6_leadsRing_32, dX6_leadsRing_33, dX6_leadsRing_34, dX6_leadsRing_35, dX6_leadsRing_38, dX6_leadsRing_39, dX6_leadsRing_40, dX6_leadsRing_43, dX6_leadsRing_46, dX6_leadsRing_47]
      simp (disch := omega) only [li, nI_add, nI_clamp, nI_ltI, nI_leI, nI_eq, inx_iff, a31, nI_1shl', nI_shr', div_bit, tb1, tb0, fa_or, fa_and, nI_not, pk_sub, nI_dec, h1, u1]
      refine ⟨fun z => hP _ _ ⟨rfl, ?_⟩, fun z => ⟨by omega, ?_⟩⟩
      · rw [← he, show np - i = 0 by omega]; rfl
      rw [show np - i = (np - (i + 1)) + 1 by omega, ldR_s] at he
      refine hG.callV dX6_leadsRing_22 mv_6_57 [.int (nI (pl q) - nI 1)] [] (c6_sitterOn l X (d - 1) sh mI mL mR n S C hO hsc hC np hp0 st hT (nI (pl q) - nI 1)) ⟨_, rfl, rfl⟩ q0 (by omega) rfl (by decide) (by simp [Value.category]) rfl ?_
      rintro r M' ⟨rfl, rfl⟩
      rw [show sitF np st (nI (pl q) - nI 1) = sitT np st pl q from rfl]
      by_cases hs : sitT np st pl q < np
      · rw [if_pos hs] at he ⊢
        refine hG.run [4] 40 ?_
        simp [wp, stepI, ln, jmp, cmpI, Value.category, rd, tyF, va_rf, st1, st2, clr, isLg, CB, inx_0, inx_1, inx_2, inx_3, inx_4, inx_5, bI_0, bI_1, bI_ok, fin3, tyX6, entL, q0, dX6_leadsRing_0, dX6_leadsRing_1, dX6_leadsRing_2, dX6_leadsRing_3, dX6_leadsRing_4, dX6_leadsRing_5, dX6_leadsRing_6, fT_6_12, dX6_leadsRing_9, fT_6_50, dX6_leadsRing_12, dX6_leadsRing_15, dX6_leadsRing_16, dX6_leadsRing_17, fT_6_31, dX6_leadsRing_20, dX6_leadsRing_21, dX6_leadsRing_22, dX6_leadsRing_25, dX6_leadsRing_26, dX6_leadsRing_27, dX6_leadsRing_28, dX6_leadsRing_31, dX6_leadsRing_32, dX6_leadsRing_33, dX6_leadsRing_34, dX6_leadsRing_35, dX6_leadsRing_38, dX6_leadsRing_39, dX6_leadsRing_40, dX6_leadsRing_43, dX6_leadsRing_46, dX6_leadsRing_47]
        simp (disch := omega) only [li, nI_add, nI_clamp, nI_ltI, nI_leI, nI_eq, inx_iff, a31, nI_1shl', nI_shr', div_bit, tb1, tb0, fa_or, fa_and, nI_not, pk_sub, nI_dec]
        refine ⟨fun y => ⟨fun y2 => ?_, fun y2 => hP _ _ ⟨rfl, ?_⟩⟩, fun y => hP _ _ ⟨rfl, ?_⟩⟩
        · rw [if_neg y, if_neg (by omega)] at he
          exact ih (i + 1) _ (by omega) (by omega) hs he
        · rw [← he, if_neg y, if_pos y2]; rfl
        · rw [← he, if_pos y]; rfl
      · rw [if_neg hs] at he ⊢
        have hne : ¬ -nI 1 = nI p := fun e => nI_ne_m1 (x := p) (by omega) e.symm
        have hlt : -nI 1 < nI p := Int32.lt_of_lt_of_le m10 ((nI_leI (by omega) (by omega)).mpr (Nat.zero_le _))
        refine hG.run [4] 40 ?_
        simp [wp, stepI, ln, jmp, cmpI, Value.category, rd, tyF, va_rf, st1, st2, clr, isLg, CB, inx_0, inx_1, inx_2, inx_3, inx_4, inx_5, bI_0, bI_1, bI_ok, fin3, tyX6, entL, q0, dX6_leadsRing_0, dX6_leadsRing_1, dX6_leadsRing_2, dX6_leadsRing_3, dX6_leadsRing_4, dX6_leadsRing_5, dX6_leadsRing_6, fT_6_12, dX6_leadsRing_9, fT_6_50, dX6_leadsRing_12, dX6_leadsRing_15, dX6_leadsRing_16, dX6_leadsRing_17, fT_6_31, dX6_leadsRing_20, dX6_leadsRing_21, dX6_leadsRing_22, dX6_leadsRing_25, dX6_leadsRing_26, dX6_leadsRing_27, dX6_leadsRing_28, dX6_leadsRing_31, dX6_leadsRing_32, dX6_leadsRing_33, dX6_leadsRing_34, dX6_leadsRing_35, dX6_leadsRing_38, dX6_leadsRing_39, dX6_leadsRing_40, dX6_leadsRing_43, dX6_leadsRing_46, dX6_leadsRing_47]
        simp (disch := omega) only [li, nI_add, nI_clamp, nI_ltI, nI_leI, nI_eq, inx_iff, a31, nI_1shl', nI_shr', div_bit, tb1, tb0, fa_or, fa_and, nI_not, pk_sub, nI_dec]
        refine ⟨fun y => ⟨fun y2 => absurd hlt (Int32.not_lt.mpr y2), fun y2 => hP _ _ ⟨rfl, by rw [← he]; rfl⟩⟩, fun y => absurd y hne⟩
  refine hG.run [4] 40 ?_
  simp [wp, stepI, ln, jmp, cmpI, Value.category, rd, tyF, va_rf, st1, st2, clr, isLg, CB, inx_0, inx_1, inx_2, inx_3, inx_4, inx_5, bI_0, bI_1, bI_ok, fin3, tyX6, entL, q0, dX6_leadsRing_0, dX6_leadsRing_1, dX6_leadsRing_2, dX6_leadsRing_3, dX6_leadsRing_4, dX6_leadsRing_5, dX6_leadsRing_6, fT_6_12, dX6_leadsRing_9, fT_6_50, dX6_leadsRing_12, dX6_leadsRing_15, dX6_leadsRing_16, dX6_leadsRing_17, fT_6_31, dX6_leadsRing_20, dX6_leadsRing_21, dX6_leadsRing_22, dX6_leadsRing_25, dX6_leadsRing_26, dX6_leadsRing_27, dX6_leadsRing_28, dX6_leadsRing_31, dX6_leadsRing_32, dX6_leadsRing_33, dX6_leadsRing_34, dX6_leadsRing_35, dX6_leadsRing_38, dX6_leadsRing_39, dX6_leadsRing_40, dX6_leadsRing_43, dX6_leadsRing_46, dX6_leadsRing_47]
  exact loop (np + 1) 0 p (by omega) (by omega) hpn rfl
set_option maxHeartbeats 4000000 in
set_option maxRecDepth 100000 in
theorem c6_ringsOfSeats (l : Launch) (X : Cx) (d : Nat) (sh : Nat → Option Sh) (mI : Nat → Nat → Int32) (mL : Nat → Nat → Int64) (mR : Nat → Nat → Option Nat) (n : Nat) (S C : Nat) (hO : OL sh mR S 6 ob6) (hsc : mR S 0 = some C) (hC : sh C = some (.inl 4)) (np : Nat) (hp : ScP mI C np) (st pl : Nat → Nat) (hT : SeR mI (S + 10) np st) (hU : SeR mI (S + 11) np pl) (hd : 2 ≤ d) : Cn l X yX6_ringsOfSeats cX6_ringsOfSeats 3 (some .int) d [.ref S] (sh, mI, mL, mR, n) (fun r M' => M' = (sh, mI, mL, mR, n) ∧ r = some (.int (nI (fb_ct (fun p => ldR np st pl p np p) np)))) 0 0 := by
  refine Cn.run 6 false (by decide) rfl (by decide) (by simp [entA, Value.category]) ?_
  intro P G hP hG
  have q0 := hO.1
  have hp0 := hp
  obtain ⟨h1, h2⟩ := hp
  have loop : ∀ f i, np - i < f → i ≤ np → G 4 [some (.ref S), some (.int (nI (fb_ct (fun p => ldR np st pl p np p) i))), some (.int (nI i))] [] (sh, mI, mL, mR, n) := by
    intro f
    induction f with
    | zero => intro i h; omega
    | succ f ih =>
      intro i hf hi
      have nx := ih (i + 1)
      rw [fb_ct_succ] at nx
      refine hG.run [] 40 ?_
      simp [wp, stepI, ln, jmp, cmpI, Value.category, rd, tyF, va_rf, st1, st2, clr, isLg, CB, inx_0, inx_1, inx_2, inx_3, inx_4, inx_5, bI_0, bI_1, bI_ok, fin3, tyX6, entL, q0, hsc, hC, tyX4, dX6_ringsOfSeats_0, dX6_ringsOfSeats_1, dX6_ringsOfSeats_2, dX6_ringsOfSeats_3, dX6_ringsOfSeats_4, dX6_ringsOfSeats_5, dX6_ringsOfSeats_6, fT_6_12, dX6_ringsOfSeats_9, fT_6_50, dX6_ringsOfSeats_12, dX6_ringsOfSeats_15, dX6_ringsOfSeats_16, dX6_ringsOfSeats_17, dX6_ringsOfSeats_20, dX6_ringsOfSeats_23, dX6_ringsOfSeats_26, dX6_ringsOfSeats_29, dX6_ringsOfSeats_32, dX6_ringsOfSeats_33]
      simp (disch := omega) only [li, nI_add, nI_clamp, nI_ltI, nI_leI, nI_eq, inx_iff, a31, nI_1shl', nI_shr', div_bit, tb1, tb0, fa_or, fa_and, nI_not, pk_sub, nI_dec, h1]
      refine ⟨fun z => hP _ _ ⟨rfl, by rw [show i = np by omega]⟩, fun z => ?_⟩
      refine hG.callV dX6_ringsOfSeats_17 mv_6_53 [.int (nI i)] [] (c6_leadsRing l X (d - 1) sh mI mL mR n S C hO hsc hC np hp0 st pl hT hU i z (by omega)) ⟨_, rfl, rfl⟩ q0 (by omega) rfl (by decide) (by simp [Value.category]) rfl ?_
      rintro r M' ⟨rfl, rfl⟩
      generalize ldR np st pl i np i = b at nx ⊢
      cases b with
      | false =>
        refine hG.run [4] 40 ?_
        simp [wp, stepI, ln, jmp, cmpI, Value.category, rd, tyF, va_rf, st1, st2, clr, isLg, CB, inx_0, inx_1, inx_2, inx_3, inx_4, inx_5, bI_0, bI_1, bI_ok, fin3, tyX6, entL, q0, dX6_ringsOfSeats_0, dX6_ringsOfSeats_1, dX6_ringsOfSeats_2, dX6_ringsOfSeats_3, dX6_ringsOfSeats_4, dX6_ringsOfSeats_5, dX6_ringsOfSeats_6, fT_6_12, dX6_ringsOfSeats_9, fT_6_50, dX6_ringsOfSeats_12, dX6_ringsOfSeats_15, dX6_ringsOfSeats_16, dX6_ringsOfSeats_17, dX6_ringsOfSeats_20, dX6_ringsOfSeats_23, dX6_ringsOfSeats_26, dX6_ringsOfSeats_29, dX6_ringsOfSeats_32, dX6_ringsOfSeats_33]
        simp (disch := omega) only [li, nI_add, nI_clamp, nI_ltI, nI_leI, nI_eq, inx_iff, a31, nI_1shl', nI_shr', div_bit, tb1, tb0, fa_or, fa_and, nI_not, pk_sub, nI_dec]
        exact nx (by omega) (by omega)
      | true =>
        refine hG.run [4] 40 ?_
        simp [wp, stepI, ln, jmp, cmpI, Value.category, rd, tyF, va_rf, st1, st2, clr, isLg, CB, inx_0, inx_1, inx_2, inx_3, inx_4, inx_5, bI_0, bI_1, bI_ok, fin3, tyX6, entL, q0, dX6_ringsOfSeats_0, dX6_ringsOfSeats_1, dX6_ringsOfSeats_2, dX6_ringsOfSeats_3, dX6_ringsOfSeats_4, dX6_ringsOfSeats_5, dX6_ringsOfSeats_6, fT_6_12, dX6_ringsOfSeats_9, fT_6_50, dX6_ringsOfSeats_12, dX6_ringsOfSeats_15, dX6_ringsOfSeats_16, dX6_ringsOfSeats_17, dX6_ringsOfSeats_20, dX6_ringsOfSeats_23, dX6_ringsOfSeats_26, dX6_ringsOfSeats_29, dX6_ringsOfSeats_32, dX6_ringsOfSeats_33]
        simp (disch := omega) only [li, nI_add, nI_clamp, nI_ltI, nI_leI, nI_eq, inx_iff, a31, nI_1shl', nI_shr', div_bit, tb1, tb0, fa_or, fa_and, nI_not, pk_sub, nI_dec]
        exact nx (by omega) (by omega)
  refine hG.run [4] 40 ?_
  simp [wp, stepI, ln, jmp, cmpI, Value.category, rd, tyF, va_rf, st1, st2, clr, isLg, CB, inx_0, inx_1, inx_2, inx_3, inx_4, inx_5, bI_0, bI_1, bI_ok, fin3, tyX6, entL, q0, dX6_ringsOfSeats_0, dX6_ringsOfSeats_1, dX6_ringsOfSeats_2, dX6_ringsOfSeats_3, dX6_ringsOfSeats_4, dX6_ringsOfSeats_5, dX6_ringsOfSeats_6, fT_6_12, dX6_ringsOfSeats_9, fT_6_50, dX6_ringsOfSeats_12, dX6_ringsOfSeats_15, dX6_ringsOfSeats_16, dX6_ringsOfSeats_17, dX6_ringsOfSeats_20, dX6_ringsOfSeats_23, dX6_ringsOfSeats_26, dX6_ringsOfSeats_29, dX6_ringsOfSeats_32, dX6_ringsOfSeats_33]
  exact loop (np + 1) 0 (by omega) (by omega)
