def fitC (np who : Nat) (ah : Nat → Nat) (t : Nat) : Nat := if t = 0 then 1 else if anot t who = 0 then fb_sm (fun p => if h : t.testBit p = true ∧ anot (ah p &&& who) (anot t (2 ^ p)) = 0 then fitC np who ah (anot t (2 ^ p)) else 0) np else 0
termination_by t
decreasing_by exact anot_lt h.1
theorem fitC_ok (np who : Nat) (ah : Nat → Nat) : FitR np who ah (fitC np who ah) := by
  refine ⟨by rw [fitC]; rfl, fun t h1 h2 => ?_⟩
  rw [fitC, if_neg (by omega)]
  congr 1
  refine fb_sm_cong fun p _ => ?_
  by_cases hc : t.testBit p = true ∧ anot (ah p &&& who) (anot t (2 ^ p)) = 0
  · rw [dif_pos hc, if_pos (by simp [hc.1, hc.2])]
  · rw [dif_neg hc, if_neg (by simpa using hc)]
theorem ahd_lt {fi se : Nat → Nat} {ok : Nat → Bool} {p : Nat} : ∀ {c : Nat}, (∀ k, k < c → fi k < 10) → ahd fi se ok p c < 1024
  | 0, _ => by simp [ahd]
  | c + 1, h => by
    have ih := ahd_lt (fi := fi) (se := se) (ok := ok) (p := p) (c := c) (fun k hk => h k (by omega))
    unfold ahd
    split
    · refine Nat.or_lt_two_pow (n := 10) ih ?_
      have := p2_le10 (h c (by omega))
      omega
    · exact ih
theorem ahd_cong {fi se : Nat → Nat} {ok ok' : Nat → Bool} {p : Nat} : ∀ {c : Nat}, (∀ k, k < c → ok (fi k) = ok' (fi k) ∧ ok (se k) = ok' (se k)) → ahd fi se ok p c = ahd fi se ok' p c
  | 0, _ => rfl
  | c + 1, h => by
    unfold ahd
    rw [ahd_cong (c := c) (fun k hk => h k (by omega)), (h c (by omega)).1, (h c (by omega)).2]
/-- who is said to stand above, by all sayings -/
def ahA (fi se : Nat → Nat) (c p : Nat) : Nat := ahd fi se (fun _ => true) p c
/-- how many orders fit -/
def ordN (np c : Nat) (fi se : Nat → Nat) : Nat := fitC np (2 ^ np - 1) (ahA fi se c) (2 ^ np - 1)
theorem nI_ne_m1 {x : Nat} (h : x < 10) : nI x ≠ -1 := (by decide +kernel : ∀ x, x < 10 → nI x ≠ -1) x h
theorem SayM.eqx {S : List Nat} {mI mI' : Nat → Nat → Int32} {c : Nat} {fi se ma : Nat → Nat} (h : SayM mI c fi se ma) (he : Eqx S mI mI') (hs : 156 ∉ S) : SayM mI' c fi se ma := ⟨(he _ _ hs).trans h.1, h.2.1, fun k hk => by
  obtain ⟨a1, a2, a3, a4⟩ := h.2.2 k hk
  exact ⟨(he _ _ hs).trans a1, (he _ _ hs).trans a2, (he _ _ hs).trans a3, a4⟩⟩
theorem PupM.eqx {S : List Nat} {mI mI' : Nat → Nat → Int32} {np : Nat} (h : PupM mI np) (he : Eqx S mI mI') (hs : 131 ∉ S) : PupM mI' np := ⟨(he _ _ hs).trans h.1, h.2⟩
set_option maxHeartbeats 4000000 in
set_option maxRecDepth 100000 in
theorem c12_fittingAll (l : Launch) (X : Cx) (d : Nat) (sh : Nat → Option Sh) (mI : Nat → Nat → Int32) (mL : Nat → Nat → Int64) (mR : Nat → Nat → Option Nat) (n : Nat) (hL : ML sh mR) (np : Nat) (hp : PupM mI np) (c : Nat) (fi se ma : Nat → Nat) (hS : SayM mI c fi se ma) (hd : 1 ≤ d) : Cn l X yX12_fittingAll cX12_fittingAll 1 (some .int) d [.ref 129] (sh, mI, mL, mR, n) (fun r M' => r = some (.int (nI (ordN np c fi se))) ∧ ∃ mI', M' = (sh, mI', mL, mR, n) ∧ Eqx [159, 160] mI mI' ∧ (∀ p, p < 10 → mI' 159 p = nI (ahA fi se c p)) ∧ ∀ t, t ≤ 2 ^ np - 1 → mI' 160 t = nI (fitC np (2 ^ np - 1) (ahA fi se c) t)) 0 0 := by
  refine Cn.run 12 false (by decide) rfl (by decide) (by simp [entA, Value.category]) ?_
  intro P G hP hG
  have q0 := hL.1
  have hpw := p2_10 hp.2
  have ea : ∀ p, ahd fi se (fun x => decide (nI x ≠ -1)) p c = ahA fi se c p := fun p => ahd_cong fun k hk => by
    obtain ⟨-, -, -, b1, b2, -⟩ := hS.2.2 k hk
    simp [nI_ne_m1 b1, nI_ne_m1 b2]
  refine hG.run [] 20 ?_
  simp [wp, stepI, ln, jmp, cmpI, Value.category, rd, tyF, va_rf, st1, st2, clr, isLg, CB, inx_0, inx_1, inx_2, inx_3, inx_4, inx_5, bI_0, bI_1, bI_ok, fin3, tyX12, entL, q0, dX12_fittingAll_0, dX12_fittingAll_1, dX12_fittingAll_2, dX12_fittingAll_5, dX12_fittingAll_6, dX12_fittingAll_7, dX12_fittingAll_10, dX12_fittingAll_13]
  refine hG.callV dX12_fittingAll_2 mv_12_335 [.int (-1)] [] (c12_asks l X (d - 1) sh mI mL mR n hL c fi se ma hS (-1)) ⟨_, rfl, rfl⟩ q0 (by omega) rfl (by decide) (by simp [Value.category]) rfl ?_
  rintro r M' ⟨rfl, mI1, rfl, h1, h2⟩
  refine hG.run [] 20 ?_
  simp [wp, stepI, ln, jmp, cmpI, Value.category, rd, tyF, va_rf, st1, st2, clr, isLg, CB, inx_0, inx_1, inx_2, inx_3, inx_4, inx_5, bI_0, bI_1, bI_ok, fin3, tyX12, entL, q0, dX12_fittingAll_0, dX12_fittingAll_1, dX12_fittingAll_2, dX12_fittingAll_5, dX12_fittingAll_6, dX12_fittingAll_7, dX12_fittingAll_10, dX12_fittingAll_13]
  refine hG.callV dX12_fittingAll_7 mv_12_338 [] [.ref 129] (c12_everybody l X (d - 1) sh mI1 mL mR n hL np (hp.eqx h1 (by decide))) ⟨_, rfl, rfl⟩ q0 (by omega) rfl (by decide) (by simp [Value.category]) rfl ?_
  rintro r M' ⟨rfl, rfl⟩
  refine hG.run [] 20 ?_
  simp [wp, stepI, ln, jmp, cmpI, Value.category, rd, tyF, va_rf, st1, st2, clr, isLg, CB, inx_0, inx_1, inx_2, inx_3, inx_4, inx_5, bI_0, bI_1, bI_ok, fin3, tyX12, entL, q0, dX12_fittingAll_0, dX12_fittingAll_1, dX12_fittingAll_2, dX12_fittingAll_5, dX12_fittingAll_6, dX12_fittingAll_7, dX12_fittingAll_10, dX12_fittingAll_13]
  have ha : ∀ p, p < 10 → mI1 159 p = nI (ahA fi se c p) ∧ ahA fi se c p < 1024 := fun p hp => ⟨by rw [h2 p hp, ea], ahd_lt fun k hk => (hS.2.2 k hk).2.2.2.1⟩
  refine hG.callV dX12_fittingAll_10 mv_12_341 [.int (nI (2 ^ np - 1))] [] (c12_fitting l X (d - 1) sh mI1 mL mR n hL np (hp.eqx h1 (by decide)) (ahA fi se c) _ ha (2 ^ np - 1) (by omega) (fitC_ok _ _ _)) ⟨_, rfl, rfl⟩ q0 (by omega) rfl (by decide) (by simp [Value.category]) rfl ?_
  rintro r M' ⟨rfl, mI2, rfl, h3, h4⟩
  refine hG.run [] 20 ?_
  simp [wp, stepI, ln, jmp, cmpI, Value.category, rd, tyF, va_rf, st1, st2, clr, isLg, CB, inx_0, inx_1, inx_2, inx_3, inx_4, inx_5, bI_0, bI_1, bI_ok, fin3, tyX12, entL, q0, dX12_fittingAll_0, dX12_fittingAll_1, dX12_fittingAll_2, dX12_fittingAll_5, dX12_fittingAll_6, dX12_fittingAll_7, dX12_fittingAll_10, dX12_fittingAll_13]
  exact hP _ _ ⟨rfl, mI2, rfl, (h1.mono (by decide)).tr (h3.mono (by decide)), fun p hp => by rw [h3 _ _ (by decide), (ha p hp).1], h4⟩
/-- the same but for cells and for fields of the Model -/
def Eqf (S F : List Nat) (f g : Nat → Nat → Int32) : Prop := ∀ a k, a ∉ S → ¬ (a = 129 ∧ k ∈ F) → g a k = f a k
theorem Eqf.rf {S F : List Nat} {f : Nat → Nat → Int32} : Eqf S F f f := fun _ _ _ _ => rfl
theorem Eqf.tr {S F : List Nat} {f g h : Nat → Nat → Int32} (h1 : Eqf S F f g) (h2 : Eqf S F g h) : Eqf S F f h := fun a k ha hk => (h2 a k ha hk).trans (h1 a k ha hk)
theorem Eqf.upf {S F : List Nat} {f g : Nat → Nat → Int32} {k : Nat} {v : Int32} (h : Eqf S F f g) (ha : k ∈ F) : Eqf S F f (up2 g 129 k v) := fun b j hb hj => by
  have hn : ¬ (b = 129 ∧ j = k) := fun z => hj ⟨z.1, by rw [z.2]; exact ha⟩
  rw [up2_ne hn]
  exact h b j hb hj
theorem Eqx.f {S T F : List Nat} {f g : Nat → Nat → Int32} (h : Eqx S f g) (hs : ∀ a ∈ S, a ∈ T) : Eqf T F f g := fun a k ha _ => h a k (fun z => ha (hs a z))
theorem SayM.eqf {S F : List Nat} {mI mI' : Nat → Nat → Int32} {c : Nat} {fi se ma : Nat → Nat} (h : SayM mI c fi se ma) (he : Eqf S F mI mI') (hs : 156 ∉ S) : SayM mI' c fi se ma := ⟨(he _ _ hs (fun z => by cases z.1)).trans h.1, h.2.1, fun k hk => by
  obtain ⟨a1, a2, a3, a4⟩ := h.2.2 k hk
  exact ⟨(he _ _ hs (fun z => by cases z.1)).trans a1, (he _ _ hs (fun z => by cases z.1)).trans a2, (he _ _ hs (fun z => by cases z.1)).trans a3, a4⟩⟩
theorem PupM.eqf {S F : List Nat} {mI mI' : Nat → Nat → Int32} {np : Nat} (h : PupM mI np) (he : Eqf S F mI mI') (hs : 131 ∉ S) : PupM mI' np := ⟨(he _ _ hs (fun z => by cases z.1)).trans h.1, h.2⟩
set_option maxHeartbeats 4000000 in
set_option maxRecDepth 100000 in
theorem c12_orders (l : Launch) (X : Cx) (d : Nat) (sh : Nat → Option Sh) (mI : Nat → Nat → Int32) (mL : Nat → Nat → Int64) (mR : Nat → Nat → Option Nat) (n : Nat) (hL : ML sh mR) (np : Nat) (hp : PupM mI np) (c : Nat) (fi se ma : Nat → Nat) (hS : SayM mI c fi se ma) (hd : 2 ≤ d) : Cn l X yX12_orders cX12_orders 1 (some .int) d [.ref 129] (sh, mI, mL, mR, n) (fun r M' => r = some (.int (nI (ordN np c fi se))) ∧ ∃ mI', M' = (sh, mI', mL, mR, n) ∧ Eqf [159, 160] [0] mI mI') 0 0 := by
  refine Cn.run 12 false (by decide) rfl (by decide) (by simp [entA, Value.category]) ?_
  intro P G hP hG
  have q0 := hL.1
  refine hG.run [] 20 ?_
  simp [wp, stepI, ln, jmp, cmpI, Value.category, rd, tyF, va_rf, st1, st2, clr, isLg, CB, inx_0, inx_1, inx_2, inx_3, inx_4, inx_5, bI_0, bI_1, bI_ok, fin3, tyX12, entL, q0, okv, wr, finF, clT, TX12, dX12_orders_0, dX12_orders_1, dX12_orders_2, fT_12_135, dX12_orders_5, dX12_orders_6, dX12_orders_9]
  have e1 : Eqf [159, 160] [0] mI (up2 mI 129 0 0) := Eqf.rf.upf (by decide)
  refine hG.callV dX12_orders_6 mv_12_344 [] [] (c12_fittingAll l X (d - 1) sh (up2 mI 129 0 0) mL mR n hL np (hp.eqf e1 (by decide)) c fi se ma (hS.eqf e1 (by decide)) (by omega)) ⟨_, rfl, rfl⟩ q0 (by omega) rfl (by decide) (by simp [Value.category]) rfl ?_
  rintro r M' ⟨rfl, mI1, rfl, h1, -⟩
  refine hG.run [] 20 ?_
  simp [wp, stepI, ln, jmp, cmpI, Value.category, rd, tyF, va_rf, st1, st2, clr, isLg, CB, inx_0, inx_1, inx_2, inx_3, inx_4, inx_5, bI_0, bI_1, bI_ok, fin3, tyX12, entL, q0, dX12_orders_0, dX12_orders_1, dX12_orders_2, fT_12_135, dX12_orders_5, dX12_orders_6, dX12_orders_9]
  exact hP _ _ ⟨rfl, mI1, rfl, e1.tr (h1.f (by decide))⟩
