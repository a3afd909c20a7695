/-! hidden: returning and throwing -/
def hiB (A : DD) (x : Int32) : Bool := aP A x && decide (A 11 x.toNatClampNeg ≠ 0)
theorem ScA.t2 {sh : Nat → Option Sh} {mI : Nat → Nat → Int32} {mR : Nat → Nat → Option Nat} {n C : Nat} {A : DD} (h : ScA sh mI mR n C A) (hV : AsV A) : ScT2 mI C (A 0 0) (A 0 1) (A 3) (A 4) := ⟨fun p hp => ⟨(h.2.2.2.2.1 p hp).2, (hV.2.1 p hp).2⟩, hV.1.2.1, fun k hk => ⟨h.2.2.2.2.2.1 k hk, hV.2.2.1 k (by have := hV.1.2.1; omega)⟩⟩
set_option maxHeartbeats 800000 in
set_option maxRecDepth 100000 in
theorem c11_hiddenT (l : Launch) (X : Cx) (d : Nat) (sh : Nat → Option Sh) (mI : Nat → Nat → Int32) (mL : Nat → Nat → Int64) (mR : Nat → Nat → Option Nat) (n : Nat) (hB : BL sh mR) (C : Nat) (A : DD) (hV : AsV A) (hS : ShA sh mI mR n 20 C A) (x : Int32) (hh : hiB A x = true) (hd : 3 ≤ d) : Cn l X yX11_hidden cX11_hidden 2 (some .int) d [.ref 0, .int x] (sh, mI, mL, mR, n) (fun r M' => hiB A x = true ∧ r = some (.int (nI (hidN (A 0 0) (A 11) (A 3) (A 4) x.toNatClampNeg))) ∧ M' = (sh, mI, mL, mR, n)) 1 6 := by
  refine Cn.runA 11 false (by decide) rfl (by decide) (by simp [entA, Value.category]) ?_
  intro P G hP hG
  have q0 := hB.1
  have b3 := hB.2.2.2.1.1
  have o6 := hB.2.2.2.1.2
  have s6 := o6.1
  have hnp := hV.1.1
  have ks := o6.2.2 (5, 10, .int, 10) (by decide)
  dsimp only at ks
  obtain ⟨z1, z2, z3, z4, -⟩ := hS.s hV
  have hh' := hh
  unfold hiB at hh'
  rw [Bool.and_eq_true] at hh'
  obtain ⟨p, hp, rfl⟩ := aP_i hV hh'.1
  have hs0 := of_decide_eq_true hh'.2
  have cl : (nI p).toNatClampNeg = p := nI_clamp (by omega)
  rw [cl] at hs0 hP
  have vp := (hS.2.2.2.2 p hp).1
  have sn : ¬ nI (A 11 p) - nI 1 = -nI 1 := fun z => hs0 ((nI_s0 (z2 p hp).2).mp z)
  have q := hP _ _ ⟨hh, rfl, rfl⟩
  refine hG.run [] 20 ?_
  simp [wp, stepI, ln, jmp, cmpI, Value.category, rd, tyF, va_rf, st1, st2, clr, isLg, CB, inx_0, inx_1, inx_2, inx_3, inx_4, inx_5, bI_0, bI_1, bI_ok, fin3, tyX11, entL, q0, dX11_hidden_0, dX11_hidden_1, dX11_hidden_2, dX11_hidden_5, dX11_hidden_8, dX11_hidden_9, fT_11_23, dX11_hidden_12, fT_11_117, dX11_hidden_15, dX11_hidden_16, dX11_hidden_17, dX11_hidden_18, dX11_hidden_21, dX11_hidden_24, dX11_hidden_25, dX11_hidden_28, dX11_hidden_29, dX11_hidden_30, dX11_hidden_33, dX11_hidden_34, dX11_hidden_37]
  refine hG.callV dX11_hidden_2 mv_11_100 [.int (nI p)] [] (c11_isPupil l X (d - 1) sh mI mL mR n hB C A hS (nI p)) ⟨_, rfl, rfl⟩ q0 (by omega) rfl (by decide) (by simp [Value.category]) rfl ?_
  rintro r M' ⟨rfl, rfl⟩
  rw [hh'.1]
  have g29 : G 0 0 29 [some (.ref 0), some (.int (nI p))] [] (sh, mI, mL, mR, n) := by
    refine hG.run [] 20 ?_
    simp [wp, stepI, ln, jmp, cmpI, Value.category, rd, tyF, va_rf, st1, st2, clr, isLg, CB, inx_0, inx_1, inx_2, inx_3, inx_4, inx_5, bI_0, bI_1, bI_ok, fin3, tyX11, entL, q0, b3, dX11_hidden_0, dX11_hidden_1, dX11_hidden_2, dX11_hidden_5, dX11_hidden_8, dX11_hidden_9, fT_11_23, dX11_hidden_12, fT_11_117, dX11_hidden_15, dX11_hidden_16, dX11_hidden_17, dX11_hidden_18, dX11_hidden_21, dX11_hidden_24, dX11_hidden_25, dX11_hidden_28, dX11_hidden_29, dX11_hidden_30, dX11_hidden_33, dX11_hidden_34, dX11_hidden_37]
    refine hG.callV dX11_hidden_34 mv_11_226 [.int (nI p)] [] (c6_tallerAhead2 l X (d - 1) sh mI mL mR n 20 C o6 hS.1 hS.2.1.1 (A 0 0) z1 (A 0 1) (A 3) (A 4) (hS.2.1.t2 hV) (A 11) z2 (fun p hp => (hV.2.2.2.2.2.2.1 p hp).1) p hp hs0 (by omega)) ⟨_, rfl, rfl⟩ s6 (by omega) rfl (by decide) (by simp [Value.category]) rfl ?_
    rintro r M' ⟨rfl, rfl⟩
    refine hG.run [] 20 ?_
    simp [wp, stepI, ln, jmp, cmpI, Value.category, rd, tyF, va_rf, st1, st2, clr, isLg, CB, inx_0, inx_1, inx_2, inx_3, inx_4, inx_5, bI_0, bI_1, bI_ok, fin3, tyX11, entL, q0, dX11_hidden_0, dX11_hidden_1, dX11_hidden_2, dX11_hidden_5, dX11_hidden_8, dX11_hidden_9, fT_11_23, dX11_hidden_12, fT_11_117, dX11_hidden_15, dX11_hidden_16, dX11_hidden_17, dX11_hidden_18, dX11_hidden_21, dX11_hidden_24, dX11_hidden_25, dX11_hidden_28, dX11_hidden_29, dX11_hidden_30, dX11_hidden_33, dX11_hidden_34, dX11_hidden_37]
    exact q
  refine hG.run [21, 29] 20 ?_
  simp [wp, stepI, ln, jmp, cmpI, Value.category, rd, tyF, va_rf, st1, st2, clr, isLg, CB, inx_0, inx_1, inx_2, inx_3, inx_4, inx_5, bI_0, bI_1, bI_ok, fin3, tyX11, entL, q0, b3, s6, ks, tyX6, okT, dX11_hidden_0, dX11_hidden_1, dX11_hidden_2, dX11_hidden_5, dX11_hidden_8, dX11_hidden_9, fT_11_23, dX11_hidden_12, fT_11_117, dX11_hidden_15, dX11_hidden_16, dX11_hidden_17, dX11_hidden_18, dX11_hidden_21, dX11_hidden_24, dX11_hidden_25, dX11_hidden_28, dX11_hidden_29, dX11_hidden_30, dX11_hidden_33, dX11_hidden_34, dX11_hidden_37]
  simp (disch := omega) only [li, nI_add, nI_clamp, nI_ltI, nI_leI, nI_eq, inx_iff, a31, nI_1shl', nI_shr', div_bit, tb1, tb0, fa_or, fa_and, nI_not, pk_sub, nI_dec, vp]
  exact ⟨by omega, fun _ => g29, fun z => absurd ((pk_sub (by omega)).trans z) sn⟩
theorem va_Cl : Cond.classLink RL 13 nsE ∈ gtbl := tbp_mem (p := 5) (i := 56) (by decide +kernel) rfl
set_option maxHeartbeats 1600000 in
set_option maxRecDepth 100000 in
theorem c11_hidden (l : Launch) (hlt : l.stackTraces = false) (X : Cx) (d : Nat) (sh : Nat → Option Sh) (mI : Nat → Nat → Int32) (mL : Nat → Nat → Int64) (mR : Nat → Nat → Option Nat) (n : Nat) (hB : BL sh mR) (C : Nat) (A : DD) (hV : AsV A) (hS : ShA sh mI mR n 20 C A) (x : Int32) (hd : 9 ≤ d) : vx_Met l yX11_hidden (wsm yX11_hidden cX11_hidden 2 (some .int)) (rmm d 1 6) (PreX X [.ref 0, .int x] (sh, mI, mL, mR, n)) (QP X (fun r M' => hiB A x = true ∧ r = some (.int (nI (hidN (A 0 0) (A 11) (A 3) (A 4) x.toNatClampNeg))) ∧ M' = (sh, mI, mL, mR, n))) (fun E _ t => E = nsE ∧ hiB A x = false ∧ ∃ n', n ≤ n' ∧ Rel X (sh, mI, mL, mR, n') t.heap) 1 6 (fun z => X.1.size ≤ z) := by
  cases hh : hiB A x with
  | true =>
    have h := c11_hiddenT l X d sh mI mL mR n hB C A hV hS x hh (by omega)
    unfold Cn Met at h
    rw [hh] at h
    refine MetFree.mono h (fun _ _ z => z.1) (fun _ _ _ _ _ z => z) ?_
    intro a st o t _ hq
    exact Or.inl hq
  | false =>
    refine vx_ofW (cc := cX11_hidden) (maxL := 2) (ret := some .int) (by decide) rfl ?_
    intro p e s m args below meth c s₁ B hml htb hv
    obtain ⟨⟨rfl, hR, hK⟩, hZ⟩ := hv
    have hts := atoms_spec (ws := wsm yX11_hidden cX11_hidden 2 (some .int)) B.pre
    have htg : ∀ w ∈ gtbl, w.before (([.ref 0, .int x] : List Value).map (mv X)).toArray s = true := fun w hw => hts w (List.mem_cons_of_mem _ hw)
    have hown : s.vm.findClass (RN 11) = some m.cls := findClass_of_methodNamed B.named
    have C0 : Ct p s m (([.ref 0, .int x] : List Value).map (mv X)).toArray meth c X 11 false cX11_hidden 2 (some .int) := ⟨B.exec, B.bytes, B.returns, hml, hown, htg, B.notSynchronized, hK, fun z => by cases z⟩
    have q0 := hB.1
    have b3 := hB.2.2.2.1.1
    have o6 := hB.2.2.2.1.2
    have s6 := o6.1
    have hnp := hV.1.1
    have ks := o6.2.2 (5, 10, .int, 10) (by decide)
    dsimp only at ks
    obtain ⟨z1, z2, z3, z4, -⟩ := hS.s hV
    rw [lg_entry_eq]
    have thr : WQ p l e (rmm d 1 6) s m (([.ref 0, .int x] : List Value).map (mv X)).toArray below meth c X 2 (vx_MQ below (QP X (fun r M' => False ∧ r = some (.int (nI (hidN (A 0 0) (A 11) (A 3) (A 4) x.toNatClampNeg))) ∧ M' = (sh, mI, mL, mR, n))) (fun E _ t => E = nsE ∧ True ∧ ∃ n', n ≤ n' ∧ Rel X (sh, mI, mL, mR, n') t.heap) (([.ref 0, .int x] : List Value).map (mv X)).toArray s 1 6 (fun z => X.1.size ≤ z)) 0 0 21 [some (.ref 0), some (.int x)] [] (sh, mI, mL, mR, n) := by
      intro H locs ls hRel hL hl
      have hS1 : va_S (nA X) s.heap H locs := ⟨by rw [hR.1, hRel.1]; exact Nat.le_refl _, fun q hq hn => by
        have hq' : q < X.1.size := Nat.lt_of_not_le hn
        rw [hRel.2.1 q hq', hR.2.1 q hq'], hL⟩
      refine vx_throw0 (cc := cX11_hidden) (own := RX11) (cls := nsE) (names := ["java/lang/RuntimeException", "java/lang/Exception"]) (ik := 223) (ic := 225) (A := nA X) B.exec B.bytes hlt hown (by decide +kernel) (by decide +kernel) (htg _ (ex_tb (w := Cond.classLink RX11 223 nsE) (List.mem_append_left _ (List.mem_of_getElem? (i := 61) (by decide +kernel))) rfl)) (htg _ (ex_tb (w := Cond.initialized nsE) (List.mem_append_right _ (List.mem_of_getElem? (i := 23) (by decide +kernel))) rfl)) (vx_hat (L := exA) (fun w hw => htg w (ex_tb (exA_t w hw) (List.mem_filter.mp hw).2)) exA_b (vx_c (va_Nw.use rfl hZ.1) (vx_c (va_Nw.use rfl hZ.2.1) (vx_c (va_Nw.use rfl hZ.2.2.1) (vx_c (va_Nw.use rfl hZ.2.2.2.1) vx_n))))) exA_g (hZ.2.2.2.2.1.kept (fun a ha _ => hR.2.1 a ha)) (hZ.2.2.2.2.2.kept (fun a ha _ => hR.2.1 a ha)) hS1 (hl.1.trans hml.symm) dX11_hidden_21 dX11_hidden_24 dX11_hidden_25 dX11_hidden_28 (fun y hy => (htb y hy).elim) ?_ ?_ ?_ ?_ B.notSynchronized ?_ hL (by decide) (by decide)
      · show 2 + 3 < d; omega
      · show 0 + (13 * (2 + 1) + 42) ≤ 40 * d; omega
      · show 0 + 1 ≤ 1; omega
      · show 0 + 6 ≤ 6; omega
      · intro t _ h1 h2
        exact ⟨rfl, trivial, hRel.more h1 h2⟩
    have go : WQ p l e (rmm d 1 6) s m (([.ref 0, .int x] : List Value).map (mv X)).toArray below meth c X 2 (vx_MQ below (QP X (fun r M' => False ∧ r = some (.int (nI (hidN (A 0 0) (A 11) (A 3) (A 4) x.toNatClampNeg))) ∧ M' = (sh, mI, mL, mR, n))) (fun E _ t => E = nsE ∧ True ∧ ∃ n', n ≤ n' ∧ Rel X (sh, mI, mL, mR, n') t.heap) (([.ref 0, .int x] : List Value).map (mv X)).toArray s 1 6 (fun z => X.1.size ≤ z)) 0 0 0 [some (.ref 0), some (.int x)] [] (sh, mI, mL, mR, n) := by
      refine WQ.ald C0 dX11_hidden_0 rfl (WQ.ild C0 dX11_hidden_1 rfl ?_)
      refine WQ.callV C0 dX11_hidden_2 mv_11_100 (As := [.int x]) (rest := []) rfl (c11_isPupil l X (d - 1) sh mI mL mR n hB C A hS x) ⟨_, rfl, rfl⟩ q0 ⟨by show d - 1 + 1 ≤ d; omega, by show 8 + (2 + 11) + 40 * (d - 1) ≤ 40 * d; omega⟩ (by simp) ⟨by show 0 + 0 ≤ 1; omega, by show 0 + 0 ≤ 6; omega⟩ rfl ?_
      rintro r M' ⟨rfl, rfl⟩
      refine WQ.ieq C0 dX11_hidden_5 (by decide) (fun _ => thr) (fun hz => ?_)
      have ha : aP A x = true := by
        cases h : aP A x with
        | true => rfl
        | false => rw [h] at hz; exact absurd rfl hz
      obtain ⟨q, hq, rfl⟩ := aP_i hV ha
      have cl : (nI q).toNatClampNeg = q := nI_clamp (by omega)
      have s0 : A 11 q = 0 := by
        unfold hiB at hh
        rw [ha, cl, Bool.true_and] at hh
        exact Classical.byContradiction (fun z => (of_decide_eq_false hh) z)
      refine WQ.ald C0 dX11_hidden_8 rfl (WQ.getf C0 dX11_hidden_9 fT_11_23 q0 ?_)
      rw [show rd (tyF 11 3) (sh, mI, mL, mR, n) 0 3 = .ref 20 by simp [rd, tyF, tyX11, va_rf, b3]]
      refine WQ.getf C0 dX11_hidden_12 fT_11_117 s6 ?_
      rw [show rd (tyF 6 5) (sh, mI, mL, mR, n) 20 5 = .ref 30 by simp [rd, tyF, tyX6, va_rf, ks.1]]
      refine WQ.ild C0 dX11_hidden_15 rfl (WQ.iald C0 dX11_hidden_16 ks.2 ((inx_iff (by omega)).mpr (by omega)) (WQ.icn C0 dX11_hidden_17 (WQ.cne C0 dX11_hidden_18 (by decide) (fun z => absurd ?_ z) (fun _ => thr))))
      show mI 30 (nI q).toNatClampNeg = -1
      rw [cl]
      exact (hS.2.2.2.2 q hq).1.trans (by rw [s0]; rfl)
    have e1 : (false = true) = False := by simp
    have e2 : (false = false) = True := by simp
    rw [e1, e2]
    exact go s.heap [] _ hR (fun z hz => by cases hz) (hasL_entry (by simp [entA, Value.category]))
