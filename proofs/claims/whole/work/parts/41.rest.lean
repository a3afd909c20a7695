/-- codes whose value is ev, whatever the memory -/
def WEv (wn : Nat) (cd : Nat → Nat) (ev : Int32 → Int32 → Int32 → Bool → Bool → Int32) : Prop := 0 < wn → ∀ m l ta tb u b, WkOk (valM m l ta tb u b) wn cd ∧ wkE (valM m l ta tb u b) wn cd 146 0 = ev l ta tb u b
def wisW (kd : Nat → Nat) (wn : Nat) (ev : Int32 → Int32 → Int32 → Bool → Bool → Int32) (lk : Nat → Nat → Nat) (ta : Nat → Nat) (A : Nat → Nat) (a b : Nat) : Int32 := kndA (kd a) (lk a b) ((A a).testBit b) (if 0 < wn then ev (nI (lk a b)) (nI (ta a)) (nI (ta b)) ((A a).testBit b) ((A b).testBit a) else nI (lk a b))
def wiL : List Nat := [155, 146, 147, 148, 149, 150, 151, 152, 153, 154]
theorem wk_ok0 (m : Nat → Nat → Int32) {wn : Nat} (cd : Nat → Nat) (h : ¬ 0 < wn) : WkOk m wn cd := fun i hi => by omega
theorem c12_wishing' (l : Launch) (X : Cx) (d : Nat) (sh : Nat → Option Sh) (mI : Nat → Nat → Int32) (mL : Nat → Nat → Int64) (mR : Nat → Nat → Option Nat) (n : Nat) (hL : ML sh mR) (np : Nat) (hp : PupM mI np) (sl : Nat) (kd ta ro : Nat → Nat) (hK : SlM mI np sl kd) (hT : TalM mI np ta ro) (lk : Nat → Nat → Nat) (hl : LikM mI np lk) (wn : Nat) (cd : Nat → Nat) (hW : WisM mI wn cd) (ev : Int32 → Int32 → Int32 → Bool → Bool → Int32) (hE : WEv wn cd ev) (A : Nat → Nat) (hA : ∀ p, p < 10 → mI 161 p = nI (A p) ∧ A p < 1024) (a b : Nat) (ha : a < np) (hb : b < np) (hd : 3 ≤ d) : Cn l X yX12_wishing cX12_wishing 6 (some .int) d [.ref 129, .int (nI a), .int (nI b)] (sh, mI, mL, mR, n) (fun r M' => r = some (.int (wisW kd wn ev lk ta A a b)) ∧ ∃ mI', M' = (sh, mI', mL, mR, n) ∧ Eqx wiL mI mI') 0 0 := by
  by_cases h : 0 < wn
  · have := c12_wishing l X d sh mI mL mR n hL np hp sl kd ta ro hK hT lk hl wn cd hW A hA a b ha hb ((hE h _ _ _ _ _ _).1) hd
    unfold wisV at this
    rw [if_pos h, (hE h _ _ _ _ _ _).2] at this
    unfold wisW
    rw [if_pos h]
    exact this
  · have := c12_wishing l X d sh mI mL mR n hL np hp sl kd ta ro hK hT lk hl wn cd hW A hA a b ha hb (wk_ok0 _ _ h) hd
    unfold wisV at this
    rw [if_neg h] at this
    unfold wisW
    rw [if_neg h]
    exact this
def wisA (mI : Nat → Nat → Int32) (np c : Nat) (fi se : Nat → Nat) (kd : Nat → Nat) (wn : Nat) (ev : Int32 → Int32 → Int32 → Bool → Bool → Int32) (lk : Nat → Nat → Nat) (ta : Nat → Nat) (x y : Int32) : Int32 := if is2 mI x y then wisW kd wn ev lk ta (abv np c fi se) x.toNatClampNeg y.toNatClampNeg else -nI 1
theorem SlM.eqx {S : List Nat} {mI mI' : Nat → Nat → Int32} {np sl : Nat} {kd : Nat → Nat} (h : SlM mI np sl kd) (he : Eqx S mI mI') (h1 : 133 ∉ S) (h2 : 135 ∉ S) : SlM mI' np sl kd := ⟨(he _ _ h1).trans h.1, h.2.1, fun p hp => ⟨(he _ _ h2).trans (h.2.2 p hp).1, (h.2.2 p hp).2⟩⟩
set_option maxHeartbeats 4000000 in
set_option maxRecDepth 100000 in
theorem c12_wishes (l : Launch) (X : Cx) (d : Nat) (sh : Nat → Option Sh) (mI : Nat → Nat → Int32) (mL : Nat → Nat → Int64) (mR : Nat → Nat → Option Nat) (n : Nat) (hL : ML sh mR) (np : Nat) (hp : PupM mI np) (c : Nat) (fi se ma : Nat → Nat) (hS : SayM mI c fi se ma) (sl : Nat) (kd ta ro : Nat → Nat) (hK : SlM mI np sl kd) (hT : TalM mI np ta ro) (lk : Nat → Nat → Nat) (hl : LikM mI np lk) (wn : Nat) (cd : Nat → Nat) (hW : WisM mI wn cd) (ev : Int32 → Int32 → Int32 → Bool → Bool → Int32) (hE : WEv wn cd ev) (x y : Int32) (hd : 4 ≤ d) : Cn l X yX12_wishes cX12_wishes 3 (some .int) d [.ref 129, .int x, .int y] (sh, mI, mL, mR, n) (fun r M' => r = some (.int (wisA mI np c fi se kd wn ev lk ta x y)) ∧ ∃ mI', M' = (sh, mI', mL, mR, n) ∧ Eqf (159 :: 160 :: 161 :: wiL) [0] mI mI') 0 0 := by
  refine Cn.run 12 false (by decide) rfl (by decide) (by simp [entA, Value.category]) ?_
  intro P G hP hG
  have q0 := hL.1
  have hpp := hp.2
  have hfi : ∀ k, k < c → fi k < 10 := fun k hk => (hS.2.2 k hk).2.2.2.1
  refine hG.run [] 20 ?_
  simp [wp, stepI, ln, jmp, cmpI, Value.category, rd, tyF, va_rf, st1, st2, clr, isLg, CB, inx_0, inx_1, inx_2, inx_3, inx_4, inx_5, bI_0, bI_1, bI_ok, fin3, tyX12, entL, q0, okv, wr, finF, clT, TX12, dX12_wishes_0, dX12_wishes_1, dX12_wishes_2, fT_12_135, dX12_wishes_5, dX12_wishes_6, dX12_wishes_7, dX12_wishes_8, dX12_wishes_11, dX12_wishes_14, dX12_wishes_15, dX12_wishes_16, dX12_wishes_17, dX12_wishes_20, dX12_wishes_21, dX12_wishes_22, dX12_wishes_23, dX12_wishes_24, dX12_wishes_27]
  have e1 : Eqf (159 :: 160 :: 161 :: wiL) [0] mI (up2 mI 129 0 0) := Eqf.rf.upf (by decide)
  generalize up2 mI 129 0 0 = mI0 at e1 ⊢
  refine hG.callV dX12_wishes_8 mv_12_332 [.int x, .int y] [] (c12_areTwo l X (d - 1) sh mI0 mL mR n hL x y (by omega)) ⟨_, rfl, rfl⟩ q0 (by omega) rfl (by decide) (by simp [Value.category]) rfl ?_
  rintro r M' ⟨rfl, rfl⟩
  rw [is2_eqf e1 (by decide)]
  refine hG.run [] 20 ?_
  simp [wp, stepI, ln, jmp, cmpI, Value.category, rd, tyF, va_rf, st1, st2, clr, isLg, CB, inx_0, inx_1, inx_2, inx_3, inx_4, inx_5, bI_0, bI_1, bI_ok, fin3, tyX12, entL, q0, dX12_wishes_0, dX12_wishes_1, dX12_wishes_2, fT_12_135, dX12_wishes_5, dX12_wishes_6, dX12_wishes_7, dX12_wishes_8, dX12_wishes_11, dX12_wishes_14, dX12_wishes_15, dX12_wishes_16, dX12_wishes_17, dX12_wishes_20, dX12_wishes_21, dX12_wishes_22, dX12_wishes_23, dX12_wishes_24, dX12_wishes_27]
  refine ⟨fun h => ?_, fun h => hP _ _ ⟨by simp [wisA, h, li], _, rfl, e1⟩⟩
  refine hG.callV dX12_wishes_17 mv_12_347 [] [] (c12_isSure l X (d - 1) sh mI0 mL mR n hL np (hp.eqf e1 (by decide)) c fi se ma (hS.eqf e1 (by decide)) (by omega)) ⟨_, rfl, rfl⟩ q0 (by omega) rfl (by decide) (by simp [Value.category]) rfl ?_
  rintro r M' ⟨rfl, mI2, rfl, h2, h3, h4, -⟩
  have f2 := e1.tr (h2.f (T := 159 :: 160 :: 161 :: wiL) (F := [0]) (by decide))
  have h9 := h
  unfold is2 at h9
  simp only [Bool.and_eq_true, decide_eq_true_eq] at h9
  obtain ⟨a, ha, rfl⟩ := isP_nat hp h9.1.1
  obtain ⟨b, hb, rfl⟩ := isP_nat hp h9.1.2
  refine hG.run [] 20 ?_
  simp [wp, stepI, ln, jmp, cmpI, Value.category, rd, tyF, va_rf, st1, st2, clr, isLg, CB, inx_0, inx_1, inx_2, inx_3, inx_4, inx_5, bI_0, bI_1, bI_ok, fin3, tyX12, entL, q0, dX12_wishes_0, dX12_wishes_1, dX12_wishes_2, fT_12_135, dX12_wishes_5, dX12_wishes_6, dX12_wishes_7, dX12_wishes_8, dX12_wishes_11, dX12_wishes_14, dX12_wishes_15, dX12_wishes_16, dX12_wishes_17, dX12_wishes_20, dX12_wishes_21, dX12_wishes_22, dX12_wishes_23, dX12_wishes_24, dX12_wishes_27]
  refine hG.callV dX12_wishes_24 mv_12_422 [.int (nI a), .int (nI b)] [] (c12_wishing' l X (d - 1) sh mI2 mL mR n hL np (hp.eqf f2 (by decide)) sl kd ta ro (hK.eqf f2 (by decide) (by decide)) (hT.eqf f2 (by decide) (by decide)) lk (hl.eqf f2 (by decide)) wn cd (hW.eqf f2 (by decide) (by decide) (by decide)) ev hE (abv np c fi se) (fun p hp => ⟨h4 p hp, abv_lt hfi p⟩) a b ha hb (by omega)) ⟨_, rfl, rfl⟩ q0 (by omega) rfl (by decide) (by simp [Value.category]) rfl ?_
  rintro r M' ⟨rfl, mI3, rfl, h5⟩
  refine hG.run [] 20 ?_
  simp [wp, stepI, ln, jmp, cmpI, Value.category, rd, tyF, va_rf, st1, st2, clr, isLg, CB, inx_0, inx_1, inx_2, inx_3, inx_4, inx_5, bI_0, bI_1, bI_ok, fin3, tyX12, entL, q0, dX12_wishes_0, dX12_wishes_1, dX12_wishes_2, fT_12_135, dX12_wishes_5, dX12_wishes_6, dX12_wishes_7, dX12_wishes_8, dX12_wishes_11, dX12_wishes_14, dX12_wishes_15, dX12_wishes_16, dX12_wishes_17, dX12_wishes_20, dX12_wishes_21, dX12_wishes_22, dX12_wishes_23, dX12_wishes_24, dX12_wishes_27]
  refine hP _ _ ⟨?_, _, rfl, f2.tr (h5.f (fun x hx => List.mem_cons_of_mem _ (List.mem_cons_of_mem _ (List.mem_cons_of_mem _ hx))))⟩
  unfold wisA
  rw [if_pos h, nI_clamp (by omega), nI_clamp (by omega)]
def blk (w : Nat → Nat) (W : Nat → Nat → Int32) (a b : Nat) : Prop := ¬ w a = b ∧ W a (w a) < W a b ∧ W b (w b) < W b a
def atR (np : Nat) (w : Nat → Nat) (W : Nat → Nat → Int32) : Prop := ∀ a b, a < np → b < np → a < b → ¬ blk w W a b
noncomputable def atRB (np : Nat) (w : Nat → Nat) (W : Nat → Nat → Int32) : Bool := @decide (atR np w W) (Classical.propDecidable _)
theorem atRB_t {np : Nat} {w : Nat → Nat} {W : Nat → Nat → Int32} : atRB np w W = true ↔ atR np w W := @decide_eq_true_iff _ (Classical.propDecidable _)
theorem atRB_f {np : Nat} {w : Nat → Nat} {W : Nat → Nat → Int32} (h : ¬ atR np w W) : atRB np w W = false := @decide_eq_false _ (Classical.propDecidable _) h
set_option maxHeartbeats 4000000 in
set_option maxRecDepth 100000 in
theorem c12_areAtRest (l : Launch) (X : Cx) (d : Nat) (sh : Nat → Option Sh) (mI : Nat → Nat → Int32) (mL : Nat → Nat → Int64) (mR : Nat → Nat → Option Nat) (n : Nat) (hL : ML sh mR) (np : Nat) (hp : PupM mI np) (w : Nat → Nat) (hw : ∀ p, p < np → mI 167 p = nI (w p) ∧ w p < np) (W : Nat → Nat → Int32) (hWi : ∀ a b, a < np → b < np → mI 168 (10 * a + b) = W a b) : Cn l X yX12_areAtRest cX12_areAtRest 3 (some .boolean) d [.ref 129] (sh, mI, mL, mR, n) (fun r M' => M' = (sh, mI, mL, mR, n) ∧ r = some (.int (bI (atRB np w W)))) 0 0 := by
  refine Cn.run 12 false (by decide) rfl (by decide) (by simp [entA, Value.category]) ?_
  intro P G hP hG
  have q0 := hL.1
  have q_pupils := hL.2 (10, 131, .int, 6) (by decide)
  dsimp only at q_pupils
  have q_with := hL.2 (55, 167, .int, 10) (by decide)
  dsimp only at q_with
  have q_wishOf := hL.2 (56, 168, .int, 100) (by decide)
  dsimp only at q_wishOf
  have hpp := hp.2
  have e0 := hp.1
  have loop1 : ∀ f i v2, np - i < f → i ≤ np → (∀ a b, a < i → b < np → a < b → ¬ blk w W a b) → G 2 [some (.ref 129), some (.int (nI i)), v2] [] (sh, mI, mL, mR, n) := by
    intro f
    induction f with
    | zero => intro i v2 h; omega
    | succ f ih =>
      intro i v2 hf hi hal
      have loop2 : i < np → ∀ f2 j, np - j < f2 → j ≤ np → i < j → (∀ b, b < j → i < b → ¬ blk w W i b) → G 16 [some (.ref 129), some (.int (nI i)), some (.int (nI j))] [] (sh, mI, mL, mR, n) := by
        intro hin f2
        induction f2 with
        | zero => intro j h; omega
        | succ f2 ih2 =>
          intro j hf2 hj hij hal2
          refine hG.run [2, 16] 60 ?_
          simp [wp, stepI, ln, jmp, cmpI, Value.category, rd, tyF, va_rf, st1, st2, clr, isLg, CB, inx_0, inx_1, inx_2, inx_3, inx_4, inx_5, bI_0, bI_1, bI_ok, fin3, tyX12, entL, q0, q_pupils, q_with, q_wishOf, dX12_areAtRest_0, dX12_areAtRest_1, dX12_areAtRest_2, dX12_areAtRest_3, dX12_areAtRest_4, fT_12_13, dX12_areAtRest_7, dX12_areAtRest_8, dX12_areAtRest_9, dX12_areAtRest_12, dX12_areAtRest_13, dX12_areAtRest_14, dX12_areAtRest_15, dX12_areAtRest_16, dX12_areAtRest_17, dX12_areAtRest_18, dX12_areAtRest_21, dX12_areAtRest_22, dX12_areAtRest_23, dX12_areAtRest_26, dX12_areAtRest_27, fT_12_123, dX12_areAtRest_30, dX12_areAtRest_31, dX12_areAtRest_32, dX12_areAtRest_33, dX12_areAtRest_36, dX12_areAtRest_37, fT_12_126, dX12_areAtRest_40, dX12_areAtRest_42, dX12_areAtRest_43, dX12_areAtRest_44, dX12_areAtRest_45, dX12_areAtRest_46, dX12_areAtRest_47, dX12_areAtRest_48, dX12_areAtRest_51, dX12_areAtRest_53, dX12_areAtRest_54, dX12_areAtRest_55, dX12_areAtRest_56, dX12_areAtRest_59, dX12_areAtRest_60, dX12_areAtRest_61, dX12_areAtRest_62, dX12_areAtRest_63, dX12_areAtRest_66, dX12_areAtRest_67, dX12_areAtRest_70, dX12_areAtRest_72, dX12_areAtRest_73, dX12_areAtRest_74, dX12_areAtRest_75, dX12_areAtRest_76, dX12_areAtRest_77, dX12_areAtRest_78, dX12_areAtRest_81, dX12_areAtRest_83, dX12_areAtRest_84, dX12_areAtRest_85, dX12_areAtRest_86, dX12_areAtRest_89, dX12_areAtRest_90, dX12_areAtRest_91, dX12_areAtRest_92, dX12_areAtRest_93, dX12_areAtRest_96, dX12_areAtRest_97, dX12_areAtRest_98, dX12_areAtRest_101, dX12_areAtRest_104, dX12_areAtRest_107, dX12_areAtRest_110, dX12_areAtRest_111]
          simp (disch := omega) only [li, nI_add, nI_clamp, nI_ltI, nI_leI, nI_eq, inx_iff, a31, nI_1shl', nI_shr', div_bit, tb1, tb0, fa_or, fa_and, nI_not, pk_sub, nI_dec, e0, nI_mul]
          refine ⟨fun h => ih (i + 1) _ (by omega) (by omega) (fun a b ha hb hab => ?_), fun h => ?_⟩
          · rcases Nat.lt_or_ge a i with y | y
            · exact hal a b y hb hab
            · rw [show a = i by omega] at hab ⊢; exact hal2 b (by omega) hab
          have nx : ¬ blk w W i j → G 16 [some (.ref 129), some (.int (nI i)), some (.int (nI (j + 1)))] [] (sh, mI, mL, mR, n) := fun z => ih2 (j + 1) (by omega) (by omega) (by omega) (fun b hb hib => by
            rcases Nat.lt_or_ge b j with y | y
            · exact hal2 b y hib
            · rw [show b = j by omega]; exact z)
          obtain ⟨w1, w2⟩ := hw i hin
          obtain ⟨w3, w4⟩ := hw j h
          have x1 := hWi i j hin h
          have x2 := hWi i (w i) hin w2
          have x3 := hWi j i h hin
          have x4 := hWi j (w j) h w4
          simp (disch := omega) only [li, nI_add, nI_clamp, nI_ltI, nI_leI, nI_eq, inx_iff, a31, nI_1shl', nI_shr', div_bit, tb1, tb0, fa_or, fa_and, nI_not, pk_sub, nI_dec, w1, w3, x1, x2, x3, x4]
          refine ⟨by omega, fun z => nx (fun y => y.1 z), fun z => ⟨by omega, by omega, by omega, fun z2 => nx (fun y => Int32.not_lt.mpr z2 y.2.1), fun z2 => ⟨by omega, by omega, by omega, fun z3 => nx (fun y => Int32.not_lt.mpr z3 y.2.2), fun z3 => hP _ _ ⟨rfl, ?_⟩⟩⟩⟩
          rw [atRB_f (fun y => y i j hin h hij ⟨z, z2, z3⟩)]; rfl
      refine hG.run [16] 60 ?_
      simp [wp, stepI, ln, jmp, cmpI, Value.category, rd, tyF, va_rf, st1, st2, clr, isLg, CB, inx_0, inx_1, inx_2, inx_3, inx_4, inx_5, bI_0, bI_1, bI_ok, fin3, tyX12, entL, q0, q_pupils, dX12_areAtRest_0, dX12_areAtRest_1, dX12_areAtRest_2, dX12_areAtRest_3, dX12_areAtRest_4, fT_12_13, dX12_areAtRest_7, dX12_areAtRest_8, dX12_areAtRest_9, dX12_areAtRest_12, dX12_areAtRest_13, dX12_areAtRest_14, dX12_areAtRest_15, dX12_areAtRest_16, dX12_areAtRest_17, dX12_areAtRest_18, dX12_areAtRest_21, dX12_areAtRest_22, dX12_areAtRest_23, dX12_areAtRest_26, dX12_areAtRest_27, fT_12_123, dX12_areAtRest_30, dX12_areAtRest_31, dX12_areAtRest_32, dX12_areAtRest_33, dX12_areAtRest_36, dX12_areAtRest_37, fT_12_126, dX12_areAtRest_40, dX12_areAtRest_42, dX12_areAtRest_43, dX12_areAtRest_44, dX12_areAtRest_45, dX12_areAtRest_46, dX12_areAtRest_47, dX12_areAtRest_48, dX12_areAtRest_51, dX12_areAtRest_53, dX12_areAtRest_54, dX12_areAtRest_55, dX12_areAtRest_56, dX12_areAtRest_59, dX12_areAtRest_60, dX12_areAtRest_61, dX12_areAtRest_62, dX12_areAtRest_63, dX12_areAtRest_66, dX12_areAtRest_67, dX12_areAtRest_70, dX12_areAtRest_72, dX12_areAtRest_73, dX12_areAtRest_74, dX12_areAtRest_75, dX12_areAtRest_76, dX12_areAtRest_77, dX12_areAtRest_78, dX12_areAtRest_81, dX12_areAtRest_83, dX12_areAtRest_84, dX12_areAtRest_85, dX12_areAtRest_86, dX12_areAtRest_89, dX12_areAtRest_90, dX12_areAtRest_91, dX12_areAtRest_92, dX12_areAtRest_93, dX12_areAtRest_96, dX12_areAtRest_97, dX12_areAtRest_98, dX12_areAtRest_101, dX12_areAtRest_104, dX12_areAtRest_107, dX12_areAtRest_110, dX12_areAtRest_111]
      simp (disch := omega) only [li, nI_add, nI_clamp, nI_ltI, nI_leI, nI_eq, inx_iff, a31, nI_1shl', nI_shr', div_bit, tb1, tb0, fa_or, fa_and, nI_not, pk_sub, nI_dec, e0]
      refine ⟨fun h => hP _ _ ⟨rfl, ?_⟩, fun h => loop2 h (np + 1) (i + 1) (by omega) (by omega) (by omega) (fun b hb hib => by omega)⟩
      rw [atRB_t.mpr (fun a b ha hb hab => hal a b (by omega) hb hab)]; rfl
  refine hG.run [2] 60 ?_
  simp [wp, stepI, ln, jmp, cmpI, Value.category, rd, tyF, va_rf, st1, st2, clr, isLg, CB, inx_0, inx_1, inx_2, inx_3, inx_4, inx_5, bI_0, bI_1, bI_ok, fin3, tyX12, entL, q0, dX12_areAtRest_0, dX12_areAtRest_1, dX12_areAtRest_2, dX12_areAtRest_3, dX12_areAtRest_4, fT_12_13, dX12_areAtRest_7, dX12_areAtRest_8, dX12_areAtRest_9, dX12_areAtRest_12, dX12_areAtRest_13, dX12_areAtRest_14, dX12_areAtRest_15, dX12_areAtRest_16, dX12_areAtRest_17, dX12_areAtRest_18, dX12_areAtRest_21, dX12_areAtRest_22, dX12_areAtRest_23, dX12_areAtRest_26, dX12_areAtRest_27, fT_12_123, dX12_areAtRest_30, dX12_areAtRest_31, dX12_areAtRest_32, dX12_areAtRest_33, dX12_areAtRest_36, dX12_areAtRest_37, fT_12_126, dX12_areAtRest_40, dX12_areAtRest_42, dX12_areAtRest_43, dX12_areAtRest_44, dX12_areAtRest_45, dX12_areAtRest_46, dX12_areAtRest_47, dX12_areAtRest_48, dX12_areAtRest_51, dX12_areAtRest_53, dX12_areAtRest_54, dX12_areAtRest_55, dX12_areAtRest_56, dX12_areAtRest_59, dX12_areAtRest_60, dX12_areAtRest_61, dX12_areAtRest_62, dX12_areAtRest_63, dX12_areAtRest_66, dX12_areAtRest_67, dX12_areAtRest_70, dX12_areAtRest_72, dX12_areAtRest_73, dX12_areAtRest_74, dX12_areAtRest_75, dX12_areAtRest_76, dX12_areAtRest_77, dX12_areAtRest_78, dX12_areAtRest_81, dX12_areAtRest_83, dX12_areAtRest_84, dX12_areAtRest_85, dX12_areAtRest_86, dX12_areAtRest_89, dX12_areAtRest_90, dX12_areAtRest_91, dX12_areAtRest_92, dX12_areAtRest_93, dX12_areAtRest_96, dX12_areAtRest_97, dX12_areAtRest_98, dX12_areAtRest_101, dX12_areAtRest_104, dX12_areAtRest_107, dX12_areAtRest_110, dX12_areAtRest_111]
  exact loop1 (np + 1) 0 none (by omega) (by omega) (fun a b ha => by omega)
