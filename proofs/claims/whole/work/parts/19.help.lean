/-- orders that fit without the sayings that name p -/
def ordB (np c : Nat) (fi se : Nat → Nat) (p : Nat) : Nat := fitC np (2 ^ np - 1) (fun q => ahd fi se (fun x => decide (x ≠ p)) q c) (2 ^ np - 1)
def hlp (np c : Nat) (fi se : Nat → Nat) : Nat → Nat
  | 0 => 0
  | i + 1 => if 0 < ordB np c fi se i then hlp np c fi se i ||| 2 ^ i else hlp np c fi se i
theorem hlp_s (np c : Nat) (fi se : Nat → Nat) (i : Nat) : hlp np c fi se (i + 1) = if 0 < ordB np c fi se i then hlp np c fi se i ||| 2 ^ i else hlp np c fi se i := rfl
def helpA (np c : Nat) (fi se : Nat → Nat) : Nat := if 0 < ordN np c fi se then 0 else hlp np c fi se np
theorem hlp_lt {np c : Nat} {fi se : Nat → Nat} : ∀ {i : Nat}, i ≤ 10 → hlp np c fi se i < 1024
  | 0, _ => by show 0 < 1024; decide
  | i + 1, h => by
    unfold hlp
    split
    · exact Nat.or_lt_two_pow (n := 10) (hlp_lt (by omega)) (by have := p2_le10 (k := i) (by omega); omega)
    · exact hlp_lt (by omega)
set_option maxHeartbeats 4000000 in
set_option maxRecDepth 100000 in
theorem c12_helped (l : Launch) (X : Cx) (d : Nat) (sh : Nat → Option Sh) (mI : Nat → Nat → Int32) (mL : Nat → Nat → Int64) (mR : Nat → Nat → Option Nat) (n : Nat) (hL : ML sh mR) (np : Nat) (hp : PupM mI np) (c : Nat) (fi se ma : Nat → Nat) (hS : SayM mI c fi se ma) (hd : 2 ≤ d) : Cn l X yX12_helped cX12_helped 3 (some .int) d [.ref 129] (sh, mI, mL, mR, n) (fun r M' => r = some (.int (nI (helpA np c fi se))) ∧ ∃ mI', M' = (sh, mI', mL, mR, n) ∧ Eqf [159, 160] [0] mI mI') 0 0 := by
  refine Cn.run 12 false (by decide) rfl (by decide) (by simp [entA, Value.category]) ?_
  intro P G hP hG
  have q0 := hL.1
  have q_pupils := hL.2 (10, 131, .int, 6) (by decide)
  dsimp only at q_pupils
  have hpp := hp.2
  have hpw := p2_10 hpp
  have hfi : ∀ k, k < c → fi k < 10 := fun k hk => (hS.2.2 k hk).2.2.2.1
  have hos : ordN np c fi se ≤ 3628800 := ordN_small hpp
  refine hG.run [] 20 ?_
  simp [wp, stepI, ln, jmp, cmpI, Value.category, rd, tyF, va_rf, st1, st2, clr, isLg, CB, inx_0, inx_1, inx_2, inx_3, inx_4, inx_5, bI_0, bI_1, bI_ok, fin3, tyX12, entL, q0, okv, wr, finF, clT, TX12, dX12_helped_0, dX12_helped_1, dX12_helped_2, fT_12_135, dX12_helped_5, dX12_helped_6, dX12_helped_9, dX12_helped_12, dX12_helped_13, dX12_helped_14, dX12_helped_15, dX12_helped_16, dX12_helped_17, dX12_helped_18, dX12_helped_19, dX12_helped_20, fT_12_13, dX12_helped_23, dX12_helped_24, dX12_helped_25, dX12_helped_28, dX12_helped_29, dX12_helped_30, dX12_helped_33, dX12_helped_34, dX12_helped_35, dX12_helped_36, dX12_helped_39, dX12_helped_42, dX12_helped_45, dX12_helped_46, dX12_helped_47, dX12_helped_48, dX12_helped_51, dX12_helped_52, dX12_helped_53, dX12_helped_54, dX12_helped_57, dX12_helped_60, dX12_helped_61]
  have e1 : Eqf [159, 160] [0] mI (up2 mI 129 0 0) := Eqf.rf.upf (by decide)
  generalize up2 mI 129 0 0 = mI0 at e1 ⊢
  refine hG.callV dX12_helped_6 mv_12_344 [] [] (c12_fittingAll l X (d - 1) sh mI0 mL mR n hL np (hp.eqf e1 (by decide)) c fi se ma (hS.eqf e1 (by decide)) (by omega)) ⟨_, rfl, rfl⟩ q0 (by omega) rfl (by decide) (by simp [Value.category]) rfl ?_
  rintro r M' ⟨rfl, mI1, rfl, h1, -, -⟩
  have e2 := e1.tr (h1.f (T := [159, 160]) (F := [0]) (by decide))
  have loop : ordN np c fi se = 0 → ∀ f i mI2, np - i < f → i ≤ np → Eqf [159, 160] [0] mI mI2 → G 18 [some (.ref 129), some (.int (nI (hlp np c fi se i))), some (.int (nI i))] [] (sh, mI2, mL, mR, n) := by
    intro hz f
    induction f with
    | zero => intro i mI2 h; omega
    | succ f ih =>
      intro i mI2 hf hi g1
      have e0 := (hp.eqf g1 (by decide)).1
      refine hG.run [18] 30 ?_
      simp [wp, stepI, ln, jmp, cmpI, Value.category, rd, tyF, va_rf, st1, st2, clr, isLg, CB, inx_0, inx_1, inx_2, inx_3, inx_4, inx_5, bI_0, bI_1, bI_ok, fin3, tyX12, entL, q0, q_pupils, dX12_helped_0, dX12_helped_1, dX12_helped_2, fT_12_135, dX12_helped_5, dX12_helped_6, dX12_helped_9, dX12_helped_12, dX12_helped_13, dX12_helped_14, dX12_helped_15, dX12_helped_16, dX12_helped_17, dX12_helped_18, dX12_helped_19, dX12_helped_20, fT_12_13, dX12_helped_23, dX12_helped_24, dX12_helped_25, dX12_helped_28, dX12_helped_29, dX12_helped_30, dX12_helped_33, dX12_helped_34, dX12_helped_35, dX12_helped_36, dX12_helped_39, dX12_helped_42, dX12_helped_45, dX12_helped_46, dX12_helped_47, dX12_helped_48, dX12_helped_51, dX12_helped_52, dX12_helped_53, dX12_helped_54, dX12_helped_57, dX12_helped_60, dX12_helped_61]
      simp (disch := omega) only [li, nI_add, nI_clamp, nI_ltI, nI_leI, nI_eq, inx_iff, a31, nI_1shl', nI_shr', div_bit, tb1, tb0, fa_or, fa_and, nI_not, pk_sub, nI_dec, e0]
      refine ⟨fun h => hP _ _ ⟨by rw [show i = np by omega]; simp [helpA, hz], _, rfl, g1⟩, fun h => ?_⟩
      refine hG.callV dX12_helped_30 mv_12_335 [.int (nI i)] [] (c12_asks l X (d - 1) sh mI2 mL mR n hL c fi se ma (hS.eqf g1 (by decide)) (nI i)) ⟨_, rfl, rfl⟩ q0 (by omega) rfl (by decide) (by simp [Value.category]) rfl ?_
      rintro r M' ⟨rfl, mI3, rfl, h3, h4⟩
      have g2 := g1.tr (h3.f (T := [159, 160]) (F := [0]) (by decide))
      refine hG.run [18] 30 ?_
      simp [wp, stepI, ln, jmp, cmpI, Value.category, rd, tyF, va_rf, st1, st2, clr, isLg, CB, inx_0, inx_1, inx_2, inx_3, inx_4, inx_5, bI_0, bI_1, bI_ok, fin3, tyX12, entL, q0, q_pupils, dX12_helped_0, dX12_helped_1, dX12_helped_2, fT_12_135, dX12_helped_5, dX12_helped_6, dX12_helped_9, dX12_helped_12, dX12_helped_13, dX12_helped_14, dX12_helped_15, dX12_helped_16, dX12_helped_17, dX12_helped_18, dX12_helped_19, dX12_helped_20, fT_12_13, dX12_helped_23, dX12_helped_24, dX12_helped_25, dX12_helped_28, dX12_helped_29, dX12_helped_30, dX12_helped_33, dX12_helped_34, dX12_helped_35, dX12_helped_36, dX12_helped_39, dX12_helped_42, dX12_helped_45, dX12_helped_46, dX12_helped_47, dX12_helped_48, dX12_helped_51, dX12_helped_52, dX12_helped_53, dX12_helped_54, dX12_helped_57, dX12_helped_60, dX12_helped_61]
      refine hG.callV dX12_helped_36 mv_12_338 [] [.ref 129, .int (nI (hlp np c fi se i))] (c12_everybody l X (d - 1) sh mI3 mL mR n hL np (hp.eqf g2 (by decide))) ⟨_, rfl, rfl⟩ q0 (by omega) rfl (by decide) (by simp [Value.category]) rfl ?_
      rintro r M' ⟨rfl, rfl⟩
      have ea : ∀ q, ahd fi se (fun x => decide (nI x ≠ nI i)) q c = ahd fi se (fun x => decide (x ≠ i)) q c := fun q => ahd_cong fun k hk => by
        obtain ⟨-, -, -, b1, b2, -⟩ := hS.2.2 k hk
        have j1 : nI (fi k) = nI i ↔ fi k = i := nI_eq (by omega) (by omega)
        have j2 : nI (se k) = nI i ↔ se k = i := nI_eq (by omega) (by omega)
        simp [j1, j2]
      have ha : ∀ q, q < 10 → mI3 159 q = nI (ahd fi se (fun x => decide (x ≠ i)) q c) ∧ ahd fi se (fun x => decide (x ≠ i)) q c < 1024 := fun q hq => ⟨by rw [h4 q hq, ea], ahd_lt hfi⟩
      refine hG.run [18] 30 ?_
      simp [wp, stepI, ln, jmp, cmpI, Value.category, rd, tyF, va_rf, st1, st2, clr, isLg, CB, inx_0, inx_1, inx_2, inx_3, inx_4, inx_5, bI_0, bI_1, bI_ok, fin3, tyX12, entL, q0, q_pupils, dX12_helped_0, dX12_helped_1, dX12_helped_2, fT_12_135, dX12_helped_5, dX12_helped_6, dX12_helped_9, dX12_helped_12, dX12_helped_13, dX12_helped_14, dX12_helped_15, dX12_helped_16, dX12_helped_17, dX12_helped_18, dX12_helped_19, dX12_helped_20, fT_12_13, dX12_helped_23, dX12_helped_24, dX12_helped_25, dX12_helped_28, dX12_helped_29, dX12_helped_30, dX12_helped_33, dX12_helped_34, dX12_helped_35, dX12_helped_36, dX12_helped_39, dX12_helped_42, dX12_helped_45, dX12_helped_46, dX12_helped_47, dX12_helped_48, dX12_helped_51, dX12_helped_52, dX12_helped_53, dX12_helped_54, dX12_helped_57, dX12_helped_60, dX12_helped_61]
      refine hG.callV dX12_helped_39 mv_12_341 [.int (nI (2 ^ np - 1))] [.int (nI (hlp np c fi se i))] (c12_fitting l X (d - 1) sh mI3 mL mR n hL np (hp.eqf g2 (by decide)) (fun q => ahd fi se (fun x => decide (x ≠ i)) q c) _ ha (2 ^ np - 1) (by omega) (fitC_ok _ _ _)) ⟨_, rfl, rfl⟩ q0 (by omega) rfl (by decide) (by simp [Value.category]) rfl ?_
      rintro r M' ⟨rfl, mI4, rfl, h5, -⟩
      have g3 := g2.tr (h5.f (T := [159, 160]) (F := [0]) (by decide))
      have hb : fitC np (2 ^ np - 1) (fun q => ahd fi se (fun x => decide (x ≠ i)) q c) (2 ^ np - 1) ≤ 3628800 := fitC_small hpp (by omega)
      have hx : fitC np (2 ^ np - 1) (fun q => ahd fi se (fun x => decide (x ≠ i)) q c) (2 ^ np - 1) = ordB np c fi se i := rfl
      rw [hx] at hb ⊢
      have go := ih (i + 1) mI4 (by omega) (by omega) g3
      refine hG.run [18] 30 ?_
      simp [wp, stepI, ln, jmp, cmpI, Value.category, rd, tyF, va_rf, st1, st2, clr, isLg, CB, inx_0, inx_1, inx_2, inx_3, inx_4, inx_5, bI_0, bI_1, bI_ok, fin3, tyX12, entL, q0, q_pupils, dX12_helped_0, dX12_helped_1, dX12_helped_2, fT_12_135, dX12_helped_5, dX12_helped_6, dX12_helped_9, dX12_helped_12, dX12_helped_13, dX12_helped_14, dX12_helped_15, dX12_helped_16, dX12_helped_17, dX12_helped_18, dX12_helped_19, dX12_helped_20, fT_12_13, dX12_helped_23, dX12_helped_24, dX12_helped_25, dX12_helped_28, dX12_helped_29, dX12_helped_30, dX12_helped_33, dX12_helped_34, dX12_helped_35, dX12_helped_36, dX12_helped_39, dX12_helped_42, dX12_helped_45, dX12_helped_46, dX12_helped_47, dX12_helped_48, dX12_helped_51, dX12_helped_52, dX12_helped_53, dX12_helped_54, dX12_helped_57, dX12_helped_60, dX12_helped_61]
      simp (disch := omega) only [li, nI_add, nI_clamp, nI_ltI, nI_leI, nI_eq, inx_iff, a31, nI_1shl', nI_shr', div_bit, tb1, tb0, fa_or, fa_and, nI_not, pk_sub, nI_dec]
      rw [hlp_s] at go
      refine ⟨fun z => ?_, fun z => ?_⟩
      · rw [if_neg (by omega)] at go; exact go
      · rw [if_pos z] at go; exact go
  refine hG.run [18] 30 ?_
  simp [wp, stepI, ln, jmp, cmpI, Value.category, rd, tyF, va_rf, st1, st2, clr, isLg, CB, inx_0, inx_1, inx_2, inx_3, inx_4, inx_5, bI_0, bI_1, bI_ok, fin3, tyX12, entL, q0, q_pupils, dX12_helped_0, dX12_helped_1, dX12_helped_2, fT_12_135, dX12_helped_5, dX12_helped_6, dX12_helped_9, dX12_helped_12, dX12_helped_13, dX12_helped_14, dX12_helped_15, dX12_helped_16, dX12_helped_17, dX12_helped_18, dX12_helped_19, dX12_helped_20, fT_12_13, dX12_helped_23, dX12_helped_24, dX12_helped_25, dX12_helped_28, dX12_helped_29, dX12_helped_30, dX12_helped_33, dX12_helped_34, dX12_helped_35, dX12_helped_36, dX12_helped_39, dX12_helped_42, dX12_helped_45, dX12_helped_46, dX12_helped_47, dX12_helped_48, dX12_helped_51, dX12_helped_52, dX12_helped_53, dX12_helped_54, dX12_helped_57, dX12_helped_60, dX12_helped_61]
  simp (disch := omega) only [li, nI_add, nI_clamp, nI_ltI, nI_leI, nI_eq, inx_iff, a31, nI_1shl', nI_shr', div_bit, tb1, tb0, fa_or, fa_and, nI_not, pk_sub, nI_dec]
  refine ⟨fun h => loop (by omega) (np + 1) 0 mI1 (by omega) (by omega) e2, fun h => hP _ _ ⟨by simp [helpA, h, li], _, rfl, e2⟩⟩
