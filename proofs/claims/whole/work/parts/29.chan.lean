/-- how many sayings name p first -/
def cfN (fi : Nat → Nat) (c p : Nat) : Nat := fb_ct (fun k => decide (fi k = p)) c
theorem pOf_le {fi se : Nat → Nat} {p t off : Nat} (ho : off ≤ 6) : ∀ k, pOf fi se p t off k ≤ 8 ^ cfN fi k p
  | 0 => by simp [pOf, cfN, fb_ct]
  | k + 1 => by
    have ih := pOf_le (fi := fi) (se := se) (p := p) (t := t) ho k
    unfold cfN at ih ⊢
    rw [pOf_s, fb_ct_succ]
    by_cases h : fi k = p
    · have hd : (if decide (fi k = p) = true then 1 else 0) = 1 := by rw [decide_eq_true h]; rfl
      rw [if_pos h, hd, Nat.pow_add, Nat.pow_one]
      refine Nat.mul_le_mul ih ?_
      split <;> omega
    · have hd : (if decide (fi k = p) = true then 1 else 0) = 0 := by rw [decide_eq_false h]; rfl
      rw [if_neg h, hd, Nat.add_zero]
      exact ih
theorem one_sum (x : Nat) : ∀ np, fb_sm (fun p => if x = p then 1 else 0) np ≤ 1
  | 0 => by simp [fb_sm]
  | np + 1 => by
    rw [fb_sm_succ]
    have ih := one_sum x np
    by_cases h : x = np
    · rw [if_pos h, fb_sm_0 (fun k hk => if_neg (by omega))]
      omega
    · rw [if_neg h]; exact ih
theorem cf_sum (fi : Nat → Nat) (np : Nat) : ∀ c, fb_sm (cfN fi c) np ≤ c
  | 0 => Nat.le_of_eq (fb_sm_0 (fun k _ => rfl))
  | c + 1 => by
    have ih := cf_sum fi np c
    have e : cfN fi (c + 1) = fun p => cfN fi c p + (if fi c = p then 1 else 0) := by
      funext p
      unfold cfN
      rw [fb_ct_succ]
      by_cases h : fi c = p <;> simp [h]
    rw [e, fb_sm_add]
    have := one_sum (fi c) np
    omega
def sfN (fi : Nat → Nat) (np c t : Nat) : Nat := fb_sm (fun p => if t.testBit p then cfN fi c p else 0) np
theorem sfN_anot {fi : Nat → Nat} {np c t p : Nat} (hp : p < np) (h : t.testBit p = true) : sfN fi np c (anot t (2 ^ p)) + cfN fi c p = sfN fi np c t := by
  unfold sfN
  have e : (fun q => if (anot t (2 ^ p)).testBit q then cfN fi c q else 0) = fun q => if q = p then 0 else (fun q => if t.testBit q then cfN fi c q else 0) q := by
    funext q
    rw [anot_bit, Nat.testBit_two_pow]
    by_cases hq : q = p
    · subst hq; simp
    · rw [if_neg hq]
      have : ¬ p = q := fun z => hq z.symm
      simp [this]
  rw [e]
  have := fb_sm_upd (fun q => if t.testBit q then cfN fi c q else 0) 0 (i := p) (n := np) hp
  simp only [h] at this
  simpa using this
theorem psh_le {np c : Nat} {fi : Nat → Nat} {g : Nat → Nat → Nat} (hnp : np ≤ 10) (hg : ∀ p u, g p u ≤ 8 ^ cfN fi c p) : ∀ t, t < 1024 → pshC np g t ≤ fac (pcn t) * 8 ^ sfN fi np c t := by
  intro t
  induction t using Nat.strongRecOn with
  | _ t ih =>
    intro ht
    rw [pshC]
    split
    · exact Nat.le_trans (by decide : 1 ≤ fac 0 * 1) (Nat.mul_le_mul (fac_mono (Nat.zero_le _)) (Nat.pow_pos (by decide)))
    · have h1 : ∀ n, n ≤ np → fb_sm (fun p => if h : t.testBit p = true then pshC np g (anot t (2 ^ p)) * g p (anot t (2 ^ p)) else 0) n ≤ fb_ct (fun k => t.testBit k) n * (fac (pcn t - 1) * 8 ^ sfN fi np c t) := by
        intro n
        induction n with
        | zero => intro _; simp [fb_sm, fb_ct]
        | succ n ihn =>
          intro hn
          rw [fb_sm_succ, fb_ct_succ, Nat.add_mul]
          refine Nat.add_le_add (ihn (by omega)) ?_
          split
          · rename_i hc
            rw [Nat.one_mul]
            have h2 := pcn_anot ht hc
            have h3 := ih _ (anot_lt hc) (Nat.lt_of_le_of_lt (anot_le _ _) ht)
            have h4 := sfN_anot (fi := fi) (c := c) (np := np) (t := t) (p := n) (by omega) hc
            rw [show pcn t - 1 = pcn (anot t (2 ^ n)) by omega, ← h4, Nat.pow_add, ← Nat.mul_assoc]
            exact Nat.mul_le_mul h3 (hg _ _)
          · exact Nat.zero_le _
      refine Nat.le_trans (h1 np (Nat.le_refl _)) (Nat.le_trans (Nat.mul_le_mul_right _ (fb_ct_mono _ hnp)) ?_)
      show pcn t * (fac (pcn t - 1) * 8 ^ sfN fi np c t) ≤ _
      rw [← Nat.mul_assoc]
      refine Nat.mul_le_mul_right _ ?_
      cases hk : pcn t with
      | zero => simp [fac]
      | succ k => exact Nat.le_refl _
theorem sfN_le {fi : Nat → Nat} {np c t : Nat} : sfN fi np c t ≤ c := by
  refine Nat.le_trans (fb_sm_le fun p _ => ?_) (cf_sum fi np c)
  split
  · exact Nat.le_refl _
  · exact Nat.zero_le _
/-- the weights of the orders that al lets count -/
def weiV (np c : Nat) (fi se : Nat → Nat) (sl : Nat) (kd : Nat → Nat) (al : Nat → Nat → Bool) (t : Nat) : Nat := pshC np (fun p u => if al p u then pOf fi se p u (offO sl kd p) c else 0) t
theorem weiV_lt {np c : Nat} {fi se : Nat → Nat} {sl : Nat} {kd : Nat → Nat} {al : Nat → Nat → Bool} (hnp : np ≤ 10) (hc : c ≤ 12) (hs : sl ≤ 3) {t : Nat} (ht : t < 1024) : weiV np c fi se sl kd al t < 2 ^ 63 := by
  have ho : ∀ p, offO sl kd p ≤ 6 := fun p => by unfold offO; split <;> omega
  have h1 := psh_le (np := np) (c := c) (fi := fi) (g := fun p u => if al p u then pOf fi se p u (offO sl kd p) c else 0) hnp (fun p u => by
    split
    · exact pOf_le (ho p) c
    · exact Nat.zero_le _) t ht
  have h2 : fac (pcn t) ≤ 3628800 := Nat.le_trans (fac_mono (pcn_le t)) (by decide)
  have h3 : 8 ^ sfN fi np c t ≤ 8 ^ 12 := Nat.pow_le_pow_right (by decide) (Nat.le_trans sfN_le hc)
  exact Nat.lt_of_le_of_lt (Nat.le_trans h1 (Nat.mul_le_mul h2 h3)) (by decide)
def alT (_ _ : Nat) : Bool := true
def alB (a b p u : Nat) : Bool := !decide (p = b) || u.testBit a
theorem alT_ok {np : Nat} (h : np ≤ 10) : AlO np (-nI 1) (-nI 1) alT := fun p u hp _ => ⟨fun z => absurd z (nI_ne_m1 (by omega)), fun _ => rfl⟩
theorem alB_ok {np a b : Nat} (h : np ≤ 10) (ha : a < np) (hb : b < np) : AlO np (nI a) (nI b) (alB a b) := fun p u hp hu => by
  have e : nI p = nI b ↔ p = b := nI_eq (by omega) (by omega)
  rw [e]
  refine ⟨fun z => ?_, fun z => by simp [alB, z]⟩
  simp (disch := omega) only [li, nI_add, nI_clamp, nI_ltI, nI_leI, nI_eq, inx_iff, a31, nI_1shl', nI_shr', div_bit, tb1, tb0, fa_or, fa_and, nI_not, pk_sub, nI_dec]
  simp [alB, z]
def chA (mI : Nat → Nat → Int32) (np c : Nat) (fi se : Nat → Nat) (sl : Nat) (kd : Nat → Nat) (x y w : Int32) : Int64 := if is2 mI x y && wth w (nI 0) (nI 1) && decide (c ≤ 12) && !decide (weiV np c fi se sl kd alT (2 ^ np - 1) = 0) then lN ((if w = nI 0 then weiV np c fi se sl kd (alB x.toNatClampNeg y.toNatClampNeg) (2 ^ np - 1) else weiV np c fi se sl kd alT (2 ^ np - 1)) / Nat.gcd (weiV np c fi se sl kd (alB x.toNatClampNeg y.toNatClampNeg) (2 ^ np - 1)) (weiV np c fi se sl kd alT (2 ^ np - 1))) else -lN 1
theorem SlM.eqf {S F : List Nat} {mI mI' : Nat → Nat → Int32} {np sl : Nat} {kd : Nat → Nat} (h : SlM mI np sl kd) (he : Eqf S F mI mI') (h1 : 133 ∉ S) (h2 : 135 ∉ S) : SlM mI' np sl kd := ⟨(he _ _ h1 (fun z => by cases z.1)).trans h.1, h.2.1, fun p hp => ⟨(he _ _ h2 (fun z => by cases z.1)).trans (h.2.2 p hp).1, (h.2.2 p hp).2⟩⟩
set_option maxHeartbeats 4000000 in
set_option maxRecDepth 100000 in
theorem c12_chance (l : Launch) (X : Cx) (d : Nat) (sh : Nat → Option Sh) (mI : Nat → Nat → Int32) (mL : Nat → Nat → Int64) (mR : Nat → Nat → Option Nat) (n : Nat) (hL : ML sh mR) (np : Nat) (hp : PupM mI np) (c : Nat) (fi se ma : Nat → Nat) (hS : SayM mI c fi se ma) (sl : Nat) (kd : Nat → Nat) (hK : SlM mI np sl kd) (x y w : Int32) (hd : 2 ≤ d) : Cn l X yX12_chance cX12_chance 8 (some .long) d [.ref 129, .int x, .int y, .int w] (sh, mI, mL, mR, n) (fun r M' => r = some (.long (chA mI np c fi se sl kd x y w)) ∧ ∃ mL', M' = (sh, thr mI, mL', mR, n) ∧ EqL [164] mL mL') 0 0 := by
  refine Cn.run 12 false (by decide) rfl (by decide) (by simp [entA, Value.category]) ?_
  intro P G hP hG
  have q0 := hL.1
  have q_s := hL.2 (41, 156, .int, 144) (by decide)
  dsimp only at q_s
  have hpp := hp.2
  have hcc := hS.2.1
  have hpw := p2_10 hpp
  refine hG.run [] 20 ?_
  simp [wp, stepI, ln, jmp, cmpI, Value.category, rd, tyF, va_rf, st1, st2, clr, isLg, CB, inx_0, inx_1, inx_2, inx_3, inx_4, inx_5, bI_0, bI_1, bI_ok, fin3, tyX12, entL, q0, okv, wr, finF, clT, TX12, dX12_chance_0, dX12_chance_1, dX12_chance_2, fT_12_135, dX12_chance_5, dX12_chance_6, dX12_chance_7, dX12_chance_8, dX12_chance_11, dX12_chance_14, dX12_chance_15, dX12_chance_16, dX12_chance_17, dX12_chance_20, dX12_chance_23, dX12_chance_24, fT_12_90, dX12_chance_27, dX12_chance_28, dX12_chance_29, dX12_chance_31, dX12_chance_34, cL_12_376, dX12_chance_37, dX12_chance_38, dX12_chance_39, dX12_chance_40, dX12_chance_41, dX12_chance_44, dX12_chance_46, dX12_chance_48, dX12_chance_49, dX12_chance_50, dX12_chance_53, dX12_chance_56, dX12_chance_57, dX12_chance_58, dX12_chance_59, dX12_chance_60, dX12_chance_63, dX12_chance_65, dX12_chance_66, dX12_chance_69, dX12_chance_71, dX12_chance_74, dX12_chance_76, dX12_chance_78, dX12_chance_80, dX12_chance_83, dX12_chance_84]
  rw [show up2 mI 129 0 0 = thr mI from rfl]
  have e1 := thr_eqf mI
  have hS0 := hS.eqf e1 (by decide)
  have hp0 := hp.eqf e1 (by decide)
  have hK0 := hK.eqf e1 (by decide) (by decide)
  have e0 := hS0.1
  refine hG.callV dX12_chance_8 mv_12_332 [.int x, .int y] [] (c12_areTwo l X (d - 1) sh (thr mI) mL mR n hL x y (by omega)) ⟨_, rfl, rfl⟩ q0 (by omega) rfl (by decide) (by simp [Value.category]) rfl ?_
  rintro r M' ⟨rfl, rfl⟩
  rw [is2_eqf e1 (by decide)]
  refine hG.run [] 20 ?_
  simp [wp, stepI, ln, jmp, cmpI, Value.category, rd, tyF, va_rf, st1, st2, clr, isLg, CB, inx_0, inx_1, inx_2, inx_3, inx_4, inx_5, bI_0, bI_1, bI_ok, fin3, tyX12, entL, q0, dX12_chance_0, dX12_chance_1, dX12_chance_2, fT_12_135, dX12_chance_5, dX12_chance_6, dX12_chance_7, dX12_chance_8, dX12_chance_11, dX12_chance_14, dX12_chance_15, dX12_chance_16, dX12_chance_17, dX12_chance_20, dX12_chance_23, dX12_chance_24, fT_12_90, dX12_chance_27, dX12_chance_28, dX12_chance_29, dX12_chance_31, dX12_chance_34, cL_12_376, dX12_chance_37, dX12_chance_38, dX12_chance_39, dX12_chance_40, dX12_chance_41, dX12_chance_44, dX12_chance_46, dX12_chance_48, dX12_chance_49, dX12_chance_50, dX12_chance_53, dX12_chance_56, dX12_chance_57, dX12_chance_58, dX12_chance_59, dX12_chance_60, dX12_chance_63, dX12_chance_65, dX12_chance_66, dX12_chance_69, dX12_chance_71, dX12_chance_74, dX12_chance_76, dX12_chance_78, dX12_chance_80, dX12_chance_83, dX12_chance_84]
  refine ⟨fun h => hP _ _ ⟨by simp [chA, h, liL], mL, rfl, EqL.rf⟩, fun h => ?_⟩
  refine hG.callS dX12_chance_17 ms_12_250 [.int w, .int 0, .int 1] [] (c12_within l X (d - 1) _ w 0 1) (by omega) rfl (by decide) (by simp [Value.category]) rfl ?_
  rintro r M' ⟨rfl, rfl⟩
  rw [show wth w 0 1 = wth w (nI 0) (nI 1) from rfl]
  refine hG.run [] 20 ?_
  simp [wp, stepI, ln, jmp, cmpI, Value.category, rd, tyF, va_rf, st1, st2, clr, isLg, CB, inx_0, inx_1, inx_2, inx_3, inx_4, inx_5, bI_0, bI_1, bI_ok, fin3, tyX12, entL, q0, q_s, dX12_chance_0, dX12_chance_1, dX12_chance_2, fT_12_135, dX12_chance_5, dX12_chance_6, dX12_chance_7, dX12_chance_8, dX12_chance_11, dX12_chance_14, dX12_chance_15, dX12_chance_16, dX12_chance_17, dX12_chance_20, dX12_chance_23, dX12_chance_24, fT_12_90, dX12_chance_27, dX12_chance_28, dX12_chance_29, dX12_chance_31, dX12_chance_34, cL_12_376, dX12_chance_37, dX12_chance_38, dX12_chance_39, dX12_chance_40, dX12_chance_41, dX12_chance_44, dX12_chance_46, dX12_chance_48, dX12_chance_49, dX12_chance_50, dX12_chance_53, dX12_chance_56, dX12_chance_57, dX12_chance_58, dX12_chance_59, dX12_chance_60, dX12_chance_63, dX12_chance_65, dX12_chance_66, dX12_chance_69, dX12_chance_71, dX12_chance_74, dX12_chance_76, dX12_chance_78, dX12_chance_80, dX12_chance_83, dX12_chance_84]
  refine ⟨fun h2 => hP _ _ ⟨by simp [chA, h2, liL], mL, rfl, EqL.rf⟩, fun h2 => ?_⟩
  simp (disch := omega) only [li, nI_add, nI_clamp, nI_ltI, nI_leI, nI_eq, inx_iff, a31, nI_1shl', nI_shr', div_bit, tb1, tb0, fa_or, fa_and, nI_not, pk_sub, nI_dec, e0]
  refine ⟨fun hc => ?_, fun hc => hP _ _ ⟨?_, mL, rfl, EqL.rf⟩⟩
  · have h9 := h
    unfold is2 at h9
    simp only [Bool.and_eq_true, decide_eq_true_eq] at h9
    obtain ⟨a, ha, rfl⟩ := isP_nat hp h9.1.1
    obtain ⟨b, hb, rfl⟩ := isP_nat hp h9.1.2
    refine hG.callV dX12_chance_41 mv_12_378 [.int (-nI 1), .int (-nI 1)] [] (c12_weighing l X (d - 1) sh (thr mI) mL mR n hL np hp0 c fi se ma hS0 sl kd hK0 (-nI 1) (-nI 1) alT (alT_ok hpp) _ (pshC_ok _ _) (by omega)) ⟨_, rfl, rfl⟩ q0 (by omega) rfl (by decide) (by simp [Value.category]) rfl ?_
    rintro r M' ⟨rfl, mL1, rfl, h1⟩
    rw [show pshC np (fun p u => if alT p u = true then pOf fi se p u (offO sl kd p) c else 0) (2 ^ np - 1) = weiV np c fi se sl kd alT (2 ^ np - 1) from rfl]
    have b1 := weiV_lt (np := np) (c := c) (fi := fi) (se := se) (kd := kd) (al := alT) hpp hc hK.2.1 (t := 2 ^ np - 1) (by omega)
    have b2 := weiV_lt (np := np) (c := c) (fi := fi) (se := se) (kd := kd) (al := alB a b) hpp hc hK.2.1 (t := 2 ^ np - 1) (by omega)
    have y0 : ∀ v, v < 2 ^ 63 → (lN v = 0 ↔ v = 0) := fun v hv => pk_lEQ (b := 0) hv (by decide)
    refine hG.run [] 20 ?_
    simp [wp, stepI, ln, jmp, cmpI, Value.category, rd, tyF, va_rf, st1, st2, clr, isLg, CB, inx_0, inx_1, inx_2, inx_3, inx_4, inx_5, bI_0, bI_1, bI_ok, fin3, tyX12, entL, q0, q_s, lg_cmp0, dX12_chance_0, dX12_chance_1, dX12_chance_2, fT_12_135, dX12_chance_5, dX12_chance_6, dX12_chance_7, dX12_chance_8, dX12_chance_11, dX12_chance_14, dX12_chance_15, dX12_chance_16, dX12_chance_17, dX12_chance_20, dX12_chance_23, dX12_chance_24, fT_12_90, dX12_chance_27, dX12_chance_28, dX12_chance_29, dX12_chance_31, dX12_chance_34, cL_12_376, dX12_chance_37, dX12_chance_38, dX12_chance_39, dX12_chance_40, dX12_chance_41, dX12_chance_44, dX12_chance_46, dX12_chance_48, dX12_chance_49, dX12_chance_50, dX12_chance_53, dX12_chance_56, dX12_chance_57, dX12_chance_58, dX12_chance_59, dX12_chance_60, dX12_chance_63, dX12_chance_65, dX12_chance_66, dX12_chance_69, dX12_chance_71, dX12_chance_74, dX12_chance_76, dX12_chance_78, dX12_chance_80, dX12_chance_83, dX12_chance_84]
    rw [y0 _ b1]
    refine ⟨fun z => ?_, fun z => hP _ _ ⟨?_, mL1, rfl, h1⟩⟩
    · refine hG.callV dX12_chance_60 mv_12_378 [.int (nI a), .int (nI b)] [] (c12_weighing l X (d - 1) sh (thr mI) mL1 mR n hL np hp0 c fi se ma hS0 sl kd hK0 (nI a) (nI b) (alB a b) (alB_ok hpp ha hb) _ (pshC_ok _ _) (by omega)) ⟨_, rfl, rfl⟩ q0 (by omega) rfl (by decide) (by simp [Value.category]) rfl ?_
      rintro r M' ⟨rfl, mL2, rfl, h3⟩
      rw [show pshC np (fun p u => if alB a b p u = true then pOf fi se p u (offO sl kd p) c else 0) (2 ^ np - 1) = weiV np c fi se sl kd (alB a b) (2 ^ np - 1) from rfl]
      refine hG.run [76] 20 ?_
      simp [wp, stepI, ln, jmp, cmpI, Value.category, rd, tyF, va_rf, st1, st2, clr, isLg, CB, inx_0, inx_1, inx_2, inx_3, inx_4, inx_5, bI_0, bI_1, bI_ok, fin3, tyX12, entL, q0, q_s, dX12_chance_0, dX12_chance_1, dX12_chance_2, fT_12_135, dX12_chance_5, dX12_chance_6, dX12_chance_7, dX12_chance_8, dX12_chance_11, dX12_chance_14, dX12_chance_15, dX12_chance_16, dX12_chance_17, dX12_chance_20, dX12_chance_23, dX12_chance_24, fT_12_90, dX12_chance_27, dX12_chance_28, dX12_chance_29, dX12_chance_31, dX12_chance_34, cL_12_376, dX12_chance_37, dX12_chance_38, dX12_chance_39, dX12_chance_40, dX12_chance_41, dX12_chance_44, dX12_chance_46, dX12_chance_48, dX12_chance_49, dX12_chance_50, dX12_chance_53, dX12_chance_56, dX12_chance_57, dX12_chance_58, dX12_chance_59, dX12_chance_60, dX12_chance_63, dX12_chance_65, dX12_chance_66, dX12_chance_69, dX12_chance_71, dX12_chance_74, dX12_chance_76, dX12_chance_78, dX12_chance_80, dX12_chance_83, dX12_chance_84]
      generalize hA : weiV np c fi se sl kd alT (2 ^ np - 1) = A at b1 z hP ⊢
      generalize hB : weiV np c fi se sl kd (alB a b) (2 ^ np - 1) = B at b2 hP ⊢
      have gp : 0 < Nat.gcd B A := Nat.gcd_pos_of_pos_right _ (by omega)
      have gl : Nat.gcd B A < 2 ^ 63 := Nat.lt_of_le_of_lt (Nat.gcd_le_right _ (by omega)) b1
      have fin : ∀ v, v < 2 ^ 63 → chA mI np c fi se sl kd (nI a) (nI b) w = lN (v / Nat.gcd B A) → G 76 [some (.ref 129), some (.int (nI a)), some (.int (nI b)), some (.int w), some (.long (lN A)), none, some (.long (lN B)), none] [.long (lN v)] (sh, thr mI, mL2, mR, n) := fun v hv hx => by
        refine hG.run [] 20 ?_
        simp [wp, stepI, ln, jmp, cmpI, Value.category, rd, tyF, va_rf, st1, st2, clr, isLg, CB, inx_0, inx_1, inx_2, inx_3, inx_4, inx_5, bI_0, bI_1, bI_ok, fin3, tyX12, entL, q0, q_s, dX12_chance_0, dX12_chance_1, dX12_chance_2, fT_12_135, dX12_chance_5, dX12_chance_6, dX12_chance_7, dX12_chance_8, dX12_chance_11, dX12_chance_14, dX12_chance_15, dX12_chance_16, dX12_chance_17, dX12_chance_20, dX12_chance_23, dX12_chance_24, fT_12_90, dX12_chance_27, dX12_chance_28, dX12_chance_29, dX12_chance_31, dX12_chance_34, cL_12_376, dX12_chance_37, dX12_chance_38, dX12_chance_39, dX12_chance_40, dX12_chance_41, dX12_chance_44, dX12_chance_46, dX12_chance_48, dX12_chance_49, dX12_chance_50, dX12_chance_53, dX12_chance_56, dX12_chance_57, dX12_chance_58, dX12_chance_59, dX12_chance_60, dX12_chance_63, dX12_chance_65, dX12_chance_66, dX12_chance_69, dX12_chance_71, dX12_chance_74, dX12_chance_76, dX12_chance_78, dX12_chance_80, dX12_chance_83, dX12_chance_84]
        refine hG.callS dX12_chance_80 ms_12_381 [.long (lN B), .long (lN A)] [.long (lN v)] (c12_gcd l X (d - 1) _ B A b2 b1) (by omega) rfl (by decide) (by simp [Value.category]) rfl ?_
        rintro r M' ⟨rfl, rfl⟩
        refine hG.run [] 20 ?_
        simp [wp, stepI, ln, jmp, cmpI, Value.category, rd, tyF, va_rf, st1, st2, clr, isLg, CB, inx_0, inx_1, inx_2, inx_3, inx_4, inx_5, bI_0, bI_1, bI_ok, fin3, tyX12, entL, q0, q_s, dX12_chance_0, dX12_chance_1, dX12_chance_2, fT_12_135, dX12_chance_5, dX12_chance_6, dX12_chance_7, dX12_chance_8, dX12_chance_11, dX12_chance_14, dX12_chance_15, dX12_chance_16, dX12_chance_17, dX12_chance_20, dX12_chance_23, dX12_chance_24, fT_12_90, dX12_chance_27, dX12_chance_28, dX12_chance_29, dX12_chance_31, dX12_chance_34, cL_12_376, dX12_chance_37, dX12_chance_38, dX12_chance_39, dX12_chance_40, dX12_chance_41, dX12_chance_44, dX12_chance_46, dX12_chance_48, dX12_chance_49, dX12_chance_50, dX12_chance_53, dX12_chance_56, dX12_chance_57, dX12_chance_58, dX12_chance_59, dX12_chance_60, dX12_chance_63, dX12_chance_65, dX12_chance_66, dX12_chance_69, dX12_chance_71, dX12_chance_74, dX12_chance_76, dX12_chance_78, dX12_chance_80, dX12_chance_83, dX12_chance_84]
        rw [y0 _ gl, pk_lDiv hv gp gl, ← hx]
        exact ⟨by omega, hP _ _ ⟨rfl, mL2, rfl, h1.tr h3⟩⟩
      have val : chA mI np c fi se sl kd (nI a) (nI b) w = lN ((if w = nI 0 then B else A) / Nat.gcd B A) := by
        unfold chA
        rw [nI_clamp (by omega), nI_clamp (by omega), hA, hB, h, h2, decide_eq_true hc, decide_eq_false z]
        rfl
      refine ⟨fun q => fin _ b1 (by rw [val, if_neg (show ¬ w = nI 0 from q)]), fun q => fin _ b2 (by rw [val, if_pos (show w = nI 0 from q)])⟩
    · unfold chA
      rw [z, decide_eq_true rfl]
      simp [liL]
  · unfold chA
    rw [decide_eq_false (by omega)]
    simp [liL]
