theorem DrM.wiT {mI : Nat → Nat → Int32} {mL : Nat → Nat → Int64} {D : DD} (h : DrM mI mL D) : DrM (up2 mI 129 25 (nI 1)) mL (up2 D 0 5 1) := by
  obtain ⟨⟨a1, a2, a3, a4, a5, a6, a7, a8, a9⟩, b, c, dd, e, f, g⟩ := h
  refine ⟨⟨?_, ?_, ?_, ?_, ?_, ?_, ?_, ?_, fun z => ?_⟩, fun p hp => ⟨?_, ?_, ?_⟩, fun k hk => ?_, fun k hk => ⟨?_, ?_, ?_⟩, fun k h1 h2 => ?_, fun i hi => ⟨?_, ?_⟩, fun i hi => ?_⟩
  all_goals try simp (disch := omega) only [up2_eq, up2_ne] at *
  all_goals first | done | assumption | exact a9 z | exact (b p hp).1 | exact (b p hp).2.1 | exact (b p hp).2.2 | exact c k hk | exact (dd k hk).1 | exact (dd k hk).2.1 | exact (dd k hk).2.2 | exact e k h1 h2 | exact (f i hi).1 | exact (f i hi).2 | exact g i hi | (cases z)
theorem DrM.wiV {mI : Nat → Nat → Int32} {mL : Nat → Nat → Int64} {D : DD} (h : DrM mI mL D) {op : Nat → Nat} {cp : Nat → Bool} {cs : List Nat} (hw : WsM mI 0 op cp cs) (h5 : D 0 5 = 1) : DrM (up2 mI 140 1 (nI (1000 + cs.length))) mL (wsD D cs) := by
  obtain ⟨⟨a1, a2, a3, a4, a5, a6, a7, a8, a9⟩, b, c, dd, e, f, g⟩ := h
  have e1 : ∀ x k, x ≠ 140 → up2 mI 140 1 (nI (1000 + cs.length)) x k = mI x k := fun x k hx => up2_ne (fun z => hx z.1)
  refine ⟨⟨(e1 _ _ (by decide)).trans a1, (e1 _ _ (by decide)).trans a2, (e1 _ _ (by decide)).trans a3, (e1 _ _ (by decide)).trans a4, (e1 _ _ (by decide)).trans a5, (e1 _ _ (by decide)).trans a6, (e1 _ _ (by decide)).trans a7, up2_eq _ _ _ _, fun z => ?_⟩, fun p hp => ⟨(b p hp).1, (e1 _ _ (by decide)).trans (b p hp).2.1, (e1 _ _ (by decide)).trans (b p hp).2.2⟩, fun k hk => (e1 _ _ (by decide)).trans (c k hk), fun k hk => ⟨(e1 _ _ (by decide)).trans (dd k hk).1, (e1 _ _ (by decide)).trans (dd k hk).2.1, (e1 _ _ (by decide)).trans (dd k hk).2.2⟩, fun k h1 h2 => (e1 _ _ (by decide)).trans (e k h1 h2), fun i hi => ⟨(e1 _ _ (by decide)).trans (f i hi).1, (e1 _ _ (by decide)).trans (f i hi).2⟩, fun i hi => (e1 _ _ (by decide)).trans (hw.2.2.2.2 i hi)⟩
  have z' : D 0 5 = 0 := z
  omega
set_option maxHeartbeats 4000000 in
set_option maxRecDepth 100000 in
theorem c12_readsWish (l : Launch) (X : Cx) (d : Nat) (sh : Nat → Option Sh) (mI : Nat → Nat → Int32) (mL : Nat → Nat → Int64) (mR : Nat → Nat → Option Nat) (n : Nat) (hL : ML sh mR) (t : Nat → Nat) (N p : Nat) (D : DD) (hV : DrV D) (mI0 : Nat → Nat → Int32) (mL0 : Nat → Nat → Int64) (hM : LsM mI0 mL0 t N p D mI mL) (hd : 3 ≤ d) : Cn l X yX12_readsWish cX12_readsWish 1 (some .boolean) d [.ref 129] (sh, mI, mL, mR, n) (fun r M' => LnP sh mR n mI0 mL0 t N (rdWish t N p D) r M') 0 0 := by
  refine Cn.run 12 false (by decide) rfl (by decide) (by simp [entA, Value.category]) ?_
  intro P G hP hG
  have q0 := hL.1
  have q_lineTo := hL.2 (19, 140, .int, 6) (by decide)
  dsimp only at q_lineTo
  have h4 : D 0 5 ≤ 1 := hV.1.2.2.2.2.2.1
  have a5 : mI 129 25 = nI (D 0 5) := hM.2.2.2.2.1.1.2.2.2.2.2.1
  unfold rdWish rdWishB at hP
  refine hG.run [13] 40 ?_
  simp [wp, stepI, ln, jmp, cmpI, Value.category, rd, tyF, va_rf, st1, st2, clr, isLg, CB, inx_0, inx_1, inx_2, inx_3, inx_4, inx_5, bI_0, bI_1, bI_ok, fin3, tyX12, entL, q0, dX12_readsWish_0, dX12_readsWish_1, fT_12_290, dX12_readsWish_4, dX12_readsWish_7, dX12_readsWish_8, dX12_readsWish_9, dX12_readsWish_12, dX12_readsWish_13, dX12_readsWish_14, dX12_readsWish_15, dX12_readsWish_18, dX12_readsWish_19, dX12_readsWish_22, dX12_readsWish_23, dX12_readsWish_26, dX12_readsWish_29, dX12_readsWish_30, dX12_readsWish_31, dX12_readsWish_32, fT_12_41, dX12_readsWish_35, dX12_readsWish_36, dX12_readsWish_37, fT_12_174, dX12_readsWish_40, dX12_readsWish_41, dX12_readsWish_42]
  simp (disch := omega) only [li, nI_add, nI_clamp, nI_ltI, nI_leI, nI_eq, inx_iff, a31, nI_1shl', nI_shr', div_bit, tb1, tb0, fa_or, fa_and, nI_not, pk_sub, nI_dec, a5]
  refine ⟨fun z => ?_, fun z => ?_⟩
  · rw [if_pos z] at hP
    have hc0 : mI 129 23 = nI 1000 := hM.2.2.2.2.1.1.2.2.2.2.2.2.2.2 z
    have e1 : LsM mI0 mL0 t N p (up2 D 0 5 1) (up2 mI 129 25 (nI 1)) mL := by
      obtain ⟨h1, h2, h3, h4, h5, h6⟩ := hM
      have ef : Eqf [] [25] mI (up2 mI 129 25 (nI 1)) := Eqf.rf.upf (by decide)
      exact ⟨h1.tr (ef.r (by decide)), h2, h3.eqf ef (by decide) (by decide) (by decide), h4.eqf ef (by decide), h5.wiT, h6⟩
    have hc1 : up2 mI 129 25 (nI 1) 129 23 = nI 1000 := (up2_ne (fun w => by cases w.2)).trans hc0
    have d5 : up2 D 0 5 1 0 5 = 1 := up2_eq _ _ _ _
    have d6 : up2 D 0 5 1 0 6 = 0 := (up2_ne (fun w => by cases w.2)).trans (hV.1.2.2.2.2.2.2.2 z)
    generalize up2 D 0 5 1 = D1 at e1 d5 d6 hP
    refine hG.run [] 40 ?_
    simp [wp, stepI, ln, jmp, cmpI, Value.category, rd, tyF, va_rf, st1, st2, clr, isLg, CB, inx_0, inx_1, inx_2, inx_3, inx_4, inx_5, bI_0, bI_1, bI_ok, fin3, tyX12, entL, q0, okv, wr, finF, clT, TX12, dX12_readsWish_0, dX12_readsWish_1, fT_12_290, dX12_readsWish_4, dX12_readsWish_7, dX12_readsWish_8, dX12_readsWish_9, dX12_readsWish_12, dX12_readsWish_13, dX12_readsWish_14, dX12_readsWish_15, dX12_readsWish_18, dX12_readsWish_19, dX12_readsWish_22, dX12_readsWish_23, dX12_readsWish_26, dX12_readsWish_29, dX12_readsWish_30, dX12_readsWish_31, dX12_readsWish_32, fT_12_41, dX12_readsWish_35, dX12_readsWish_36, dX12_readsWish_37, fT_12_174, dX12_readsWish_40, dX12_readsWish_41, dX12_readsWish_42]
    simp only [li]
    generalize up2 mI 129 25 (nI 1) = mI1 at e1 hc1 ⊢
    refine hG.callV dX12_readsWish_19 mv_12_208 [] [] (c12_nextToken l X (d - 1) sh mI1 mL mR n hL t N e1.2.2.1 (lxE t N p) (lxE_le e1.2.2.2.2.2).2 e1.2.2.2.1.2.1 (by omega)) ⟨_, rfl, rfl⟩ q0 (by omega) rfl (by decide) (by simp [Value.category]) rfl ?_
    rintro r M' ⟨rfl, mI2, mL2, rfl, y1, y2, y3⟩
    have e2 := e1.nx y1 (by decide) y2 y3
    have hc2 := (y1 129 23 (by decide) (fun w => absurd w.2 (by decide))).trans hc1
    generalize lxE t N p = p1 at e2 hP
    refine hG.run [] 40 ?_
    simp [wp, stepI, ln, jmp, cmpI, Value.category, rd, tyF, va_rf, st1, st2, clr, isLg, CB, inx_0, inx_1, inx_2, inx_3, inx_4, inx_5, bI_0, bI_1, bI_ok, fin3, tyX12, entL, q0, dX12_readsWish_0, dX12_readsWish_1, fT_12_290, dX12_readsWish_4, dX12_readsWish_7, dX12_readsWish_8, dX12_readsWish_9, dX12_readsWish_12, dX12_readsWish_13, dX12_readsWish_14, dX12_readsWish_15, dX12_readsWish_18, dX12_readsWish_19, dX12_readsWish_22, dX12_readsWish_23, dX12_readsWish_26, dX12_readsWish_29, dX12_readsWish_30, dX12_readsWish_31, dX12_readsWish_32, fT_12_41, dX12_readsWish_35, dX12_readsWish_36, dX12_readsWish_37, fT_12_174, dX12_readsWish_40, dX12_readsWish_41, dX12_readsWish_42]
    refine hG.callV dX12_readsWish_23 mv_12_293 [] [] (c12_reads l X (d - 1) sh mI2 mL2 mR n hL t N p1 D1 d5 d6 mI0 mL0 e2 hc2 (by omega)) ⟨_, rfl, rfl⟩ q0 (by omega) rfl (by decide) (by simp [Value.category]) rfl ?_
    rintro r M' (⟨k, q, mI3, mL3, hr, rfl, rfl, e3⟩ | ⟨p', cs, op, cp, mI3, mL3, hr, rfl, rfl, e3, w3, l3⟩)
    · rw [hr] at hP
      refine hG.run [] 40 ?_
      simp [wp, stepI, ln, jmp, cmpI, Value.category, rd, tyF, va_rf, st1, st2, clr, isLg, CB, inx_0, inx_1, inx_2, inx_3, inx_4, inx_5, bI_0, bI_1, bI_ok, fin3, tyX12, entL, q0, dX12_readsWish_0, dX12_readsWish_1, fT_12_290, dX12_readsWish_4, dX12_readsWish_7, dX12_readsWish_8, dX12_readsWish_9, dX12_readsWish_12, dX12_readsWish_13, dX12_readsWish_14, dX12_readsWish_15, dX12_readsWish_18, dX12_readsWish_19, dX12_readsWish_22, dX12_readsWish_23, dX12_readsWish_26, dX12_readsWish_29, dX12_readsWish_30, dX12_readsWish_31, dX12_readsWish_32, fT_12_41, dX12_readsWish_35, dX12_readsWish_36, dX12_readsWish_37, fT_12_174, dX12_readsWish_40, dX12_readsWish_41, dX12_readsWish_42]
      exact hP _ _ (e3.bad k)
    · rw [hr] at hP
      have hc3 := w3.2.2.2.1
      have e4 : LsM mI0 mL0 t N p' (wsD D1 cs) (up2 mI3 140 1 (nI (1000 + cs.length))) mL3 := by
        obtain ⟨h1, h2, h3, h4, h5, h6⟩ := e3
        exact ⟨h1.up (by decide), h2, h3.upx (by decide) (by decide), h4.upx (by decide), h5.wiV w3 d5, h6⟩
      refine hG.run [] 40 ?_
      simp [wp, stepI, ln, jmp, cmpI, Value.category, rd, tyF, va_rf, st1, st2, clr, isLg, CB, inx_0, inx_1, inx_2, inx_3, inx_4, inx_5, bI_0, bI_1, bI_ok, fin3, tyX12, entL, q0, q_lineTo, dX12_readsWish_0, dX12_readsWish_1, fT_12_290, dX12_readsWish_4, dX12_readsWish_7, dX12_readsWish_8, dX12_readsWish_9, dX12_readsWish_12, dX12_readsWish_13, dX12_readsWish_14, dX12_readsWish_15, dX12_readsWish_18, dX12_readsWish_19, dX12_readsWish_22, dX12_readsWish_23, dX12_readsWish_26, dX12_readsWish_29, dX12_readsWish_30, dX12_readsWish_31, dX12_readsWish_32, fT_12_41, dX12_readsWish_35, dX12_readsWish_36, dX12_readsWish_37, fT_12_174, dX12_readsWish_40, dX12_readsWish_41, dX12_readsWish_42]
      rw [hc3]
      exact hP _ _ e4.good
  · rw [if_neg z] at hP
    refine hG.callV dX12_readsWish_9 mv_12_201 [.int (nI 3)] [] (c12_fails l X (d - 1) sh mI mL mR n hL _ hM.2.2.2.1.1 3) ⟨_, rfl, rfl⟩ q0 (by omega) rfl (by decide) (by simp [Value.category]) rfl ?_
    rintro r M' ⟨rfl, rfl⟩
    refine hG.run [] 40 ?_
    simp [wp, stepI, ln, jmp, cmpI, Value.category, rd, tyF, va_rf, st1, st2, clr, isLg, CB, inx_0, inx_1, inx_2, inx_3, inx_4, inx_5, bI_0, bI_1, bI_ok, fin3, tyX12, entL, q0, dX12_readsWish_0, dX12_readsWish_1, fT_12_290, dX12_readsWish_4, dX12_readsWish_7, dX12_readsWish_8, dX12_readsWish_9, dX12_readsWish_12, dX12_readsWish_13, dX12_readsWish_14, dX12_readsWish_15, dX12_readsWish_18, dX12_readsWish_19, dX12_readsWish_22, dX12_readsWish_23, dX12_readsWish_26, dX12_readsWish_29, dX12_readsWish_30, dX12_readsWish_31, dX12_readsWish_32, fT_12_41, dX12_readsWish_35, dX12_readsWish_36, dX12_readsWish_37, fT_12_174, dX12_readsWish_40, dX12_readsWish_41, dX12_readsWish_42]
    exact hP _ _ (hM.bad 3)
def rdLn (t : Nat → Nat) (n p : Nat) (D : DD) : PR := if isW t n p 8928318 then rdPupil t n p D else if isW t n p 1171592 then rdBench t n p D else if isW t n p 13903 then rdSay t n p D else if isW t n p 243059 then rdLike t n p D else if isW t n p 382984 then rdSlip t n p D else if isW t n p 459791 then rdWish t n p D else .inl (1, lxBg t n p)
theorem lxE_mo {t : Nat → Nat} {n p b : Nat} (h : b ≤ p ∧ p ≤ n) : b ≤ lxE t n p ∧ lxE t n p ≤ n := by
  have h1 := lxBg_le (t := t) h.2
  have h2 := lxE_le (t := t) h.2
  omega
theorem rdLn_ok {t : Nat → Nat} {n p : Nat} {D : DD} {q : Nat × DD} (hV : DrV D) (hn : n ≤ 1000) (hp : p ≤ n) (hk : lxK t n p ≠ 0) (h : rdLn t n p D = .inr q) : DrV q.2 ∧ p < q.1 ∧ q.1 ≤ n := by
  have b0 := lxBg_le (t := t) hp
  have b1 := lxE_gt hp hk
  have b2 := lxE_le (t := t) hp
  have c1 : p + 1 ≤ lxE t n p ∧ lxE t n p ≤ n := by omega
  unfold rdLn at h
  split at h
  · obtain ⟨h1, h2⟩ := rdPupil_ok hV h
    have := lxE_mo (t := t) (lxE_mo (t := t) (lxE_mo (t := t) (lxE_mo (t := t) (lxE_mo (t := t) c1))))
    rw [← h2] at this
    exact ⟨h1, this.1, this.2⟩
  · split at h
    · obtain ⟨h1, h2⟩ := rdBench_ok hV h
      have := lxE_mo (t := t) (lxE_mo (t := t) (lxE_mo (t := t) (lxE_mo (t := t) (lxE_mo (t := t) c1))))
      rw [← h2] at this
      exact ⟨h1, this.1, this.2⟩
    · split at h
      · obtain ⟨h1, h2⟩ := rdSay_ok hV h
        have := lxE_mo (t := t) (lxE_mo (t := t) (lxE_mo (t := t) (lxE_mo (t := t) c1)))
        rw [← h2] at this
        exact ⟨h1, this.1, this.2⟩
      · split at h
        · obtain ⟨h1, h2⟩ := rdLike_ok hV h
          have := lxE_mo (t := t) (lxE_mo (t := t) (lxE_mo (t := t) (lxE_mo (t := t) c1)))
          rw [← h2] at this
          exact ⟨h1, this.1, this.2⟩
        · split at h
          · obtain ⟨h1, h2⟩ := rdSlip_ok hV h
            have := lxE_mo (t := t) (lxE_mo (t := t) c1)
            rw [← h2] at this
            exact ⟨h1, this.1, this.2⟩
          · split at h
            · obtain ⟨h1, h2, h3⟩ := rdWish_ok hV hn hp h
              exact ⟨h1, by omega, h3⟩
            · cases h
def rdAll (t : Nat → Nat) (n : Nat) : Nat → Nat → DD → PR
  | 0, _, _ => .inl (0, 0)
  | f + 1, p, D => if lxK t n p = 0 then .inr (p, D) else match rdLn t n p D with | .inl e => .inl e | .inr q => rdAll t n f q.1 q.2
theorem rdAll_0 {t : Nat → Nat} {n f p : Nat} {D : DD} (h : lxK t n p = 0) : rdAll t n (f + 1) p D = .inr (p, D) := by
  show (if lxK t n p = 0 then _ else _) = _
  rw [if_pos h]
theorem rdAll_l {t : Nat → Nat} {n f p : Nat} {D : DD} {e : Nat × Nat} (h : lxK t n p ≠ 0) (hl : rdLn t n p D = .inl e) : rdAll t n (f + 1) p D = .inl e := by
  show (if lxK t n p = 0 then _ else (match rdLn t n p D with | .inl e => (Sum.inl e : PR) | .inr q => rdAll t n f q.1 q.2)) = _
  rw [if_neg h, hl]
theorem rdAll_r {t : Nat → Nat} {n f p : Nat} {D : DD} {q : Nat × DD} (h : lxK t n p ≠ 0) (hl : rdLn t n p D = .inr q) : rdAll t n (f + 1) p D = rdAll t n f q.1 q.2 := by
  show (if lxK t n p = 0 then _ else (match rdLn t n p D with | .inl e => (Sum.inl e : PR) | .inr q => rdAll t n f q.1 q.2)) = _
  rw [if_neg h, hl]
theorem rdAll_ok {t : Nat → Nat} {n : Nat} (hn : n ≤ 1000) : ∀ (f p : Nat) (D : DD) (q : Nat × DD), DrV D → p ≤ n → rdAll t n f p D = .inr q → DrV q.2
  | 0, p, D, q, _, _, h => by cases h
  | f + 1, p, D, q, hV, hp, h => by
    by_cases hk : lxK t n p = 0
    · rw [rdAll_0 hk] at h
      have h := Sum.inr.inj h
      subst h
      exact hV
    · cases hl : rdLn t n p D with
      | inl e => rw [rdAll_l hk hl] at h; cases h
      | inr q2 =>
        rw [rdAll_r hk hl] at h
        obtain ⟨h1, h2, h3⟩ := rdLn_ok hV hn hp hk hl
        exact rdAll_ok hn f q2.1 q2.2 q h1 h3 h
