def okR (np : Nat) : Bool := !decide (np = 0) && decide (np % 2 = 0) && decide (np ≤ 8)
theorem Eqf.upx {S F : List Nat} {f g : Nat → Nat → Int32} {a k : Nat} {v : Int32} (h : Eqf S F f g) (ha : a ∈ S) : Eqf S F f (up2 g a k v) := fun b j hb hj => by
  have hn : ¬ (b = a ∧ j = k) := fun z => hb (by rw [z.1]; exact ha)
  rw [up2_ne hn]
  exact h b j hb hj
/-- the wishes of all -/
def rsW (np c : Nat) (fi se kd : Nat → Nat) (wn : Nat) (ev : Int32 → Int32 → Int32 → Bool → Bool → Int32) (lk : Nat → Nat → Nat) (ta : Nat → Nat) (a b : Nat) : Int32 := if a = b then nI 0 else wisW kd wn ev lk ta (abv np c fi se) a b
/-- what the search for rests ends in -/
noncomputable def rstS (np : Nat) (W : Nat → Nat → Int32) (i : Int32) (r0 : Nat → Int32) : PS := prF np W i 5 (2 ^ np - 1) (fun _ => 0, 0, r0)
theorem nI_r2 {a : Nat} (h : a ≤ 12) : nI a - nI a / nI 2 * nI 2 = nI (a % 2) := (by decide +kernel : ∀ a, a ≤ 12 → nI a - nI a / nI 2 * nI 2 = nI (a % 2)) a h
theorem pcn_all {np : Nat} (h : np ≤ 8) : pcn (2 ^ np - 1) < 2 * 5 := (by decide +kernel : ∀ k, k ≤ 8 → pcn (2 ^ k - 1) < 2 * 5) np h
theorem all_bit {np p : Nat} (h1 : np ≤ 8) (h : p < np) : (2 ^ np - 1).testBit p = true := (by decide +kernel : ∀ k, k ≤ 8 → ∀ q, q < k → (2 ^ k - 1).testBit q = true) np h1 p h
def rsL : List Nat := 167 :: 169 :: 168 :: 159 :: 160 :: 161 :: wiL
set_option maxHeartbeats 4000000 in
set_option maxRecDepth 100000 in
theorem c12_resting (l : Launch) (X : Cx) (d : Nat) (sh : Nat → Option Sh) (mI : Nat → Nat → Int32) (mL : Nat → Nat → Int64) (mR : Nat → Nat → Option Nat) (n : Nat) (hL : ML sh mR) (np : Nat) (hp : PupM mI np) (c : Nat) (fi se ma : Nat → Nat) (hS : SayM mI c fi se ma) (sl : Nat) (kd ta ro : Nat → Nat) (hK : SlM mI np sl kd) (hT : TalM mI np ta ro) (lk : Nat → Nat → Nat) (hl : LikM mI np lk) (wn : Nat) (cd : Nat → Nat) (hW : WisM mI wn cd) (ev : Int32 → Int32 → Int32 → Bool → Bool → Int32) (hE : WEv wn cd ev) (i : Int32) (hd : 7 ≤ d) : Cn l X yX12_resting cX12_resting 4 (some .boolean) d [.ref 129, .int i] (sh, mI, mL, mR, n) (fun r M' => r = some (.int (bI (okR np))) ∧ ∃ mI', M' = (sh, mI', mL, mR, n) ∧ Eqf rsL [57, 58] mI mI' ∧ (okR np = true → mI' 129 57 = nI (rstS np (rsW np c fi se kd wn ev lk ta) i (mI 169)).2.1 ∧ ∀ p, p < np → mI' 169 p = (rstS np (rsW np c fi se kd wn ev lk ta) i (mI 169)).2.2 p)) 0 0 := by
  refine Cn.run 12 false (by decide) rfl (by decide) (by simp [entA, Value.category]) ?_
  intro P G hP hG
  have q0 := hL.1
  have q_pupils := hL.2 (10, 131, .int, 6) (by decide)
  dsimp only at q_pupils
  have q_wishOf := hL.2 (56, 168, .int, 100) (by decide)
  dsimp only at q_wishOf
  have hpp := hp.2
  have e0 := hp.1
  have hfi : ∀ k, k < c → fi k < 10 := fun k hk => (hS.2.2 k hk).2.2.2.1
  have no : okR np = false → P (some (.int 0)) (sh, mI, mL, mR, n) := fun z => hP _ _ ⟨by rw [z]; rfl, mI, rfl, Eqf.rf, fun w => by rw [z] at w; cases w⟩
  refine hG.run [] 60 ?_
  simp [wp, stepI, ln, jmp, cmpI, Value.category, rd, tyF, va_rf, st1, st2, clr, isLg, CB, inx_0, inx_1, inx_2, inx_3, inx_4, inx_5, bI_0, bI_1, bI_ok, fin3, tyX12, entL, q0, q_pupils, dX12_resting_0, dX12_resting_1, fT_12_13, dX12_resting_4, dX12_resting_5, dX12_resting_6, dX12_resting_9, dX12_resting_10, dX12_resting_13, dX12_resting_14, dX12_resting_15, dX12_resting_16, dX12_resting_17, dX12_resting_18, dX12_resting_21, dX12_resting_22, dX12_resting_25, dX12_resting_26, dX12_resting_27, dX12_resting_29, dX12_resting_32, dX12_resting_33, dX12_resting_34, dX12_resting_35, dX12_resting_38, dX12_resting_39, dX12_resting_40, dX12_resting_41, dX12_resting_42, dX12_resting_43, dX12_resting_46, dX12_resting_47, dX12_resting_48, dX12_resting_51, dX12_resting_52, dX12_resting_53, dX12_resting_54, dX12_resting_55, dX12_resting_58, dX12_resting_59, dX12_resting_60, dX12_resting_63, dX12_resting_64, fT_12_126, dX12_resting_67, dX12_resting_69, dX12_resting_70, dX12_resting_71, dX12_resting_72, dX12_resting_73, dX12_resting_74, dX12_resting_75, dX12_resting_78, dX12_resting_79, dX12_resting_82, dX12_resting_83, dX12_resting_84, dX12_resting_85, dX12_resting_88, dX12_resting_89, dX12_resting_92, dX12_resting_95, dX12_resting_98, dX12_resting_101, dX12_resting_102, dX12_resting_103, fT_12_428, dX12_resting_106, dX12_resting_107, dX12_resting_108, fT_12_431, dX12_resting_111, dX12_resting_112, dX12_resting_113, dX12_resting_116, dX12_resting_119, dX12_resting_120]
  simp (disch := omega) only [li, nI_add, nI_clamp, nI_ltI, nI_leI, nI_eq, inx_iff, a31, nI_1shl', nI_shr', div_bit, tb1, tb0, fa_or, fa_and, nI_not, pk_sub, nI_dec, e0, nI_r2]
  refine ⟨fun h => no (by simp [okR, h]), fun h0 => ⟨fun h => no (by simp [okR, h]), fun h1 => ⟨fun h8 => ?_, fun h => no (by simp [okR]; omega)⟩⟩⟩
  have ok : okR np = true := by simp [okR]; omega
  refine hG.callV dX12_resting_35 mv_12_347 [] [] (c12_isSure l X (d - 1) sh mI mL mR n hL np hp c fi se ma hS (by omega)) ⟨_, rfl, rfl⟩ q0 (by omega) rfl (by decide) (by simp [Value.category]) rfl ?_
  rintro r M' ⟨rfl, mI1, rfl, h2, h3, h4, -⟩
  have f1 : Eqf rsL [57, 58] mI mI1 := h2.f (by decide)
  have stay : ∀ m, Eqf rsL [57, 58] mI m → PupM m np ∧ SlM m np sl kd ∧ TalM m np ta ro ∧ LikM m np lk ∧ WisM m wn cd := fun m f2 => ⟨hp.eqf f2 (by decide), hK.eqf f2 (by decide) (by decide), hT.eqf f2 (by decide) (by decide), hl.eqf f2 (by decide), hW.eqf f2 (by decide) (by decide) (by decide)⟩
  have last : ∀ mI2 v2 v3, Eqf rsL [57, 58] mI mI2 → (∀ p, mI2 169 p = mI 169 p) → (∀ a b, a < np → b < np → mI2 168 (10 * a + b) = rsW np c fi se kd wn ev lk ta a b) → G 101 [some (.ref 129), some (.int i), v2, v3] [] (sh, mI2, mL, mR, n) := fun mI2 v2 v3 f2 g2 g3 => by
    refine hG.run [] 60 ?_
    simp [wp, stepI, ln, jmp, cmpI, Value.category, rd, tyF, va_rf, st1, st2, clr, isLg, CB, inx_0, inx_1, inx_2, inx_3, inx_4, inx_5, bI_0, bI_1, bI_ok, fin3, tyX12, entL, q0, okv, wr, finF, clT, TX12, dX12_resting_0, dX12_resting_1, fT_12_13, dX12_resting_4, dX12_resting_5, dX12_resting_6, dX12_resting_9, dX12_resting_10, dX12_resting_13, dX12_resting_14, dX12_resting_15, dX12_resting_16, dX12_resting_17, dX12_resting_18, dX12_resting_21, dX12_resting_22, dX12_resting_25, dX12_resting_26, dX12_resting_27, dX12_resting_29, dX12_resting_32, dX12_resting_33, dX12_resting_34, dX12_resting_35, dX12_resting_38, dX12_resting_39, dX12_resting_40, dX12_resting_41, dX12_resting_42, dX12_resting_43, dX12_resting_46, dX12_resting_47, dX12_resting_48, dX12_resting_51, dX12_resting_52, dX12_resting_53, dX12_resting_54, dX12_resting_55, dX12_resting_58, dX12_resting_59, dX12_resting_60, dX12_resting_63, dX12_resting_64, fT_12_126, dX12_resting_67, dX12_resting_69, dX12_resting_70, dX12_resting_71, dX12_resting_72, dX12_resting_73, dX12_resting_74, dX12_resting_75, dX12_resting_78, dX12_resting_79, dX12_resting_82, dX12_resting_83, dX12_resting_84, dX12_resting_85, dX12_resting_88, dX12_resting_89, dX12_resting_92, dX12_resting_95, dX12_resting_98, dX12_resting_101, dX12_resting_102, dX12_resting_103, fT_12_428, dX12_resting_106, dX12_resting_107, dX12_resting_108, fT_12_431, dX12_resting_111, dX12_resting_112, dX12_resting_113, dX12_resting_116, dX12_resting_119, dX12_resting_120]
    have f3 : Eqf rsL [57, 58] mI (up2 (up2 mI2 129 57 0) 129 58 i) := (f2.upf (by decide)).upf (by decide)
    have hs : PrM (up2 (up2 mI2 129 57 0) 129 58 i) np (2 ^ np - 1) i (fun _ => 0, 0, mI 169) := by
      refine ⟨fun p hp hb => ?_, ?_, ?_, fun p hp => ?_⟩
      · rw [all_bit h8 hp] at hb; cases hb
      · rw [up2_ne (fun w => by cases w.2), up2_eq]; rfl
      · exact up2_eq _ _ _ _
      · rw [up2_ne (fun w => by cases w.1), up2_ne (fun w => by cases w.1)]; exact g2 p
    have g3' : ∀ a b, a < np → b < np → (up2 (up2 mI2 129 57 0) 129 58 i) 168 (10 * a + b) = rsW np c fi se kd wn ev lk ta a b := fun a b ha hb => by
      rw [up2_ne (fun w => by cases w.1), up2_ne (fun w => by cases w.1)]; exact g3 a b ha hb
    generalize up2 (up2 mI2 129 57 0) 129 58 i = mI3 at f3 hs g3' ⊢
    have hp3 := (stay mI3 f3).1
    refine hG.callV dX12_resting_113 mv_12_338 [] [.ref 129] (c12_everybody l X (d - 1) sh mI3 mL mR n hL np hp3) ⟨_, rfl, rfl⟩ q0 (by omega) rfl (by decide) (by simp [Value.category]) rfl ?_
    rintro r M' ⟨rfl, rfl⟩
    have hpw := p2_10 hpp
    refine hG.run [] 60 ?_
    simp [wp, stepI, ln, jmp, cmpI, Value.category, rd, tyF, va_rf, st1, st2, clr, isLg, CB, inx_0, inx_1, inx_2, inx_3, inx_4, inx_5, bI_0, bI_1, bI_ok, fin3, tyX12, entL, q0, dX12_resting_0, dX12_resting_1, fT_12_13, dX12_resting_4, dX12_resting_5, dX12_resting_6, dX12_resting_9, dX12_resting_10, dX12_resting_13, dX12_resting_14, dX12_resting_15, dX12_resting_16, dX12_resting_17, dX12_resting_18, dX12_resting_21, dX12_resting_22, dX12_resting_25, dX12_resting_26, dX12_resting_27, dX12_resting_29, dX12_resting_32, dX12_resting_33, dX12_resting_34, dX12_resting_35, dX12_resting_38, dX12_resting_39, dX12_resting_40, dX12_resting_41, dX12_resting_42, dX12_resting_43, dX12_resting_46, dX12_resting_47, dX12_resting_48, dX12_resting_51, dX12_resting_52, dX12_resting_53, dX12_resting_54, dX12_resting_55, dX12_resting_58, dX12_resting_59, dX12_resting_60, dX12_resting_63, dX12_resting_64, fT_12_126, dX12_resting_67, dX12_resting_69, dX12_resting_70, dX12_resting_71, dX12_resting_72, dX12_resting_73, dX12_resting_74, dX12_resting_75, dX12_resting_78, dX12_resting_79, dX12_resting_82, dX12_resting_83, dX12_resting_84, dX12_resting_85, dX12_resting_88, dX12_resting_89, dX12_resting_92, dX12_resting_95, dX12_resting_98, dX12_resting_101, dX12_resting_102, dX12_resting_103, fT_12_428, dX12_resting_106, dX12_resting_107, dX12_resting_108, fT_12_431, dX12_resting_111, dX12_resting_112, dX12_resting_113, dX12_resting_116, dX12_resting_119, dX12_resting_120]
    refine hG.callV dX12_resting_116 mv_12_434 [.int (nI (2 ^ np - 1))] [] (c12_pairs np (rsW np c fi se kd wn ev lk ta) i 5 l X (d - 1) sh mI3 mL mR n hL hp3 g3' (2 ^ np - 1) (Nat.sub_lt (Nat.pow_pos (by decide)) (by decide)) _ hs (pcn_all h8) (by show 0 + 10 ^ 5 ≤ 1000000; decide) (by omega)) ⟨_, rfl, rfl⟩ q0 (by omega) rfl (by decide) (by simp [Value.category]) rfl ?_
    rintro r M' ⟨rfl, mI4, rfl, x1, x2⟩
    refine hG.run [] 60 ?_
    simp [wp, stepI, ln, jmp, cmpI, Value.category, rd, tyF, va_rf, st1, st2, clr, isLg, CB, inx_0, inx_1, inx_2, inx_3, inx_4, inx_5, bI_0, bI_1, bI_ok, fin3, tyX12, entL, q0, dX12_resting_0, dX12_resting_1, fT_12_13, dX12_resting_4, dX12_resting_5, dX12_resting_6, dX12_resting_9, dX12_resting_10, dX12_resting_13, dX12_resting_14, dX12_resting_15, dX12_resting_16, dX12_resting_17, dX12_resting_18, dX12_resting_21, dX12_resting_22, dX12_resting_25, dX12_resting_26, dX12_resting_27, dX12_resting_29, dX12_resting_32, dX12_resting_33, dX12_resting_34, dX12_resting_35, dX12_resting_38, dX12_resting_39, dX12_resting_40, dX12_resting_41, dX12_resting_42, dX12_resting_43, dX12_resting_46, dX12_resting_47, dX12_resting_48, dX12_resting_51, dX12_resting_52, dX12_resting_53, dX12_resting_54, dX12_resting_55, dX12_resting_58, dX12_resting_59, dX12_resting_60, dX12_resting_63, dX12_resting_64, fT_12_126, dX12_resting_67, dX12_resting_69, dX12_resting_70, dX12_resting_71, dX12_resting_72, dX12_resting_73, dX12_resting_74, dX12_resting_75, dX12_resting_78, dX12_resting_79, dX12_resting_82, dX12_resting_83, dX12_resting_84, dX12_resting_85, dX12_resting_88, dX12_resting_89, dX12_resting_92, dX12_resting_95, dX12_resting_98, dX12_resting_101, dX12_resting_102, dX12_resting_103, fT_12_428, dX12_resting_106, dX12_resting_107, dX12_resting_108, fT_12_431, dX12_resting_111, dX12_resting_112, dX12_resting_113, dX12_resting_116, dX12_resting_119, dX12_resting_120]
    refine hP _ _ ⟨by rw [ok]; rfl, mI4, rfl, f3.tr (fun a k ha hk => x1 a k (fun w => ha ?_) (fun w => hk ⟨w.1, ?_⟩)), fun _ => ⟨x2.2.1, x2.2.2.2⟩⟩
    · rcases List.mem_cons.mp w with w | w
      · rw [w]; decide
      · rw [List.mem_singleton.mp w]; decide
    · rw [List.mem_singleton.mp w.2]; decide
  have loop1 : ∀ f a mI2 v3, np - a < f → a ≤ np → Eqf rsL [57, 58] mI mI2 → (∀ p, mI2 169 p = mI 169 p) → (∀ p, p < 10 → mI2 161 p = nI (abv np c fi se p)) → (∀ a' b, a' < a → b < np → mI2 168 (10 * a' + b) = rsW np c fi se kd wn ev lk ta a' b) → G 41 [some (.ref 129), some (.int i), some (.int (nI a)), v3] [] (sh, mI2, mL, mR, n) := by
    intro f
    induction f with
    | zero => intro a mI2 v3 h; omega
    | succ f ih =>
      intro a mI2 v3 hf ha f2 g2 gA g3
      have loop2 : a < np → ∀ f2 b mI2, np - b < f2 → b ≤ np → Eqf rsL [57, 58] mI mI2 → (∀ p, mI2 169 p = mI 169 p) → (∀ p, p < 10 → mI2 161 p = nI (abv np c fi se p)) → (∀ a' b, a' < a → b < np → mI2 168 (10 * a' + b) = rsW np c fi se kd wn ev lk ta a' b) → (∀ b', b' < b → mI2 168 (10 * a + b') = rsW np c fi se kd wn ev lk ta a b') → G 53 [some (.ref 129), some (.int i), some (.int (nI a)), some (.int (nI b))] [] (sh, mI2, mL, mR, n) := by
        intro han f2
        induction f2 with
        | zero => intro b mI2 h; omega
        | succ f2 ih2 =>
          intro b mI2 hf2 hb f2 g2 gA g3 g4
          obtain ⟨s1, s2, s3, s4, s5⟩ := stay mI2 f2
          have e2 := s1.1
          have nx : ∀ mI3 v, Eqx wiL mI2 mI3 → v = rsW np c fi se kd wn ev lk ta a b → b < np → G 88 [some (.ref 129), some (.int i), some (.int (nI a)), some (.int (nI b))] [.int v, .int (nI (10 * a + b)), .ref 168] (sh, mI3, mL, mR, n) := fun mI3 v x1 hv hbn => by
            refine hG.run [53] 60 ?_
            simp [wp, stepI, ln, jmp, cmpI, Value.category, rd, tyF, va_rf, st1, st2, clr, isLg, CB, inx_0, inx_1, inx_2, inx_3, inx_4, inx_5, bI_0, bI_1, bI_ok, fin3, tyX12, entL, q0, q_wishOf, dX12_resting_0, dX12_resting_1, fT_12_13, dX12_resting_4, dX12_resting_5, dX12_resting_6, dX12_resting_9, dX12_resting_10, dX12_resting_13, dX12_resting_14, dX12_resting_15, dX12_resting_16, dX12_resting_17, dX12_resting_18, dX12_resting_21, dX12_resting_22, dX12_resting_25, dX12_resting_26, dX12_resting_27, dX12_resting_29, dX12_resting_32, dX12_resting_33, dX12_resting_34, dX12_resting_35, dX12_resting_38, dX12_resting_39, dX12_resting_40, dX12_resting_41, dX12_resting_42, dX12_resting_43, dX12_resting_46, dX12_resting_47, dX12_resting_48, dX12_resting_51, dX12_resting_52, dX12_resting_53, dX12_resting_54, dX12_resting_55, dX12_resting_58, dX12_resting_59, dX12_resting_60, dX12_resting_63, dX12_resting_64, fT_12_126, dX12_resting_67, dX12_resting_69, dX12_resting_70, dX12_resting_71, dX12_resting_72, dX12_resting_73, dX12_resting_74, dX12_resting_75, dX12_resting_78, dX12_resting_79, dX12_resting_82, dX12_resting_83, dX12_resting_84, dX12_resting_85, dX12_resting_88, dX12_resting_89, dX12_resting_92, dX12_resting_95, dX12_resting_98, dX12_resting_101, dX12_resting_102, dX12_resting_103, fT_12_428, dX12_resting_106, dX12_resting_107, dX12_resting_108, fT_12_431, dX12_resting_111, dX12_resting_112, dX12_resting_113, dX12_resting_116, dX12_resting_119, dX12_resting_120]
            simp (disch := omega) only [li, nI_add, nI_clamp, nI_ltI, nI_leI, nI_eq, inx_iff, a31, nI_1shl', nI_shr', div_bit, tb1, tb0, fa_or, fa_and, nI_not, pk_sub, nI_dec]
            have f4 : Eqf rsL [57, 58] mI mI3 := f2.tr (x1.f (fun x hx => by unfold rsL; simp only [List.mem_cons]; exact Or.inr (Or.inr (Or.inr (Or.inr (Or.inr (Or.inr hx)))))))
            refine ⟨by omega, ih2 (b + 1) _ (by omega) (by omega) (f4.upx (by decide)) (fun p => ?_) (fun p hp => ?_) (fun a' b' ha' hb' => ?_) (fun b' hb' => ?_)⟩
            · rw [up2_ne (fun w => by cases w.1), x1 _ _ (by decide)]; exact g2 p
            · rw [up2_ne (fun w => by cases w.1), x1 _ _ (by decide)]; exact gA p hp
            · rw [up2_ne (fun w => by omega), x1 _ _ (by decide)]; exact g3 a' b' ha' hb'
            · by_cases e : b' = b
              · rw [e, up2_eq]; exact hv
              · rw [up2_ne (fun w => by omega), x1 _ _ (by decide)]; exact g4 b' (by omega)
          refine hG.run [41, 53, 88] 60 ?_
          simp [wp, stepI, ln, jmp, cmpI, Value.category, rd, tyF, va_rf, st1, st2, clr, isLg, CB, inx_0, inx_1, inx_2, inx_3, inx_4, inx_5, bI_0, bI_1, bI_ok, fin3, tyX12, entL, q0, q_pupils, q_wishOf, dX12_resting_0, dX12_resting_1, fT_12_13, dX12_resting_4, dX12_resting_5, dX12_resting_6, dX12_resting_9, dX12_resting_10, dX12_resting_13, dX12_resting_14, dX12_resting_15, dX12_resting_16, dX12_resting_17, dX12_resting_18, dX12_resting_21, dX12_resting_22, dX12_resting_25, dX12_resting_26, dX12_resting_27, dX12_resting_29, dX12_resting_32, dX12_resting_33, dX12_resting_34, dX12_resting_35, dX12_resting_38, dX12_resting_39, dX12_resting_40, dX12_resting_41, dX12_resting_42, dX12_resting_43, dX12_resting_46, dX12_resting_47, dX12_resting_48, dX12_resting_51, dX12_resting_52, dX12_resting_53, dX12_resting_54, dX12_resting_55, dX12_resting_58, dX12_resting_59, dX12_resting_60, dX12_resting_63, dX12_resting_64, fT_12_126, dX12_resting_67, dX12_resting_69, dX12_resting_70, dX12_resting_71, dX12_resting_72, dX12_resting_73, dX12_resting_74, dX12_resting_75, dX12_resting_78, dX12_resting_79, dX12_resting_82, dX12_resting_83, dX12_resting_84, dX12_resting_85, dX12_resting_88, dX12_resting_89, dX12_resting_92, dX12_resting_95, dX12_resting_98, dX12_resting_101, dX12_resting_102, dX12_resting_103, fT_12_428, dX12_resting_106, dX12_resting_107, dX12_resting_108, fT_12_431, dX12_resting_111, dX12_resting_112, dX12_resting_113, dX12_resting_116, dX12_resting_119, dX12_resting_120]
          simp (disch := omega) only [li, nI_add, nI_clamp, nI_ltI, nI_leI, nI_eq, inx_iff, a31, nI_1shl', nI_shr', div_bit, tb1, tb0, fa_or, fa_and, nI_not, pk_sub, nI_dec, e2, nI_mul]
          refine ⟨fun z => ih (a + 1) mI2 _ (by omega) (by omega) f2 g2 gA (fun a' b' ha' hb' => ?_), fun z => ⟨fun z2 => ?_, fun z2 => ?_⟩⟩
          · rcases Nat.lt_or_ge a' a with y | y
            · exact g3 a' b' y hb'
            · rw [show a' = a by omega]; exact g4 b' (by omega)
          · refine hG.callV dX12_resting_85 mv_12_422 [.int (nI a), .int (nI b)] [.int (nI (10 * a + b)), .ref 168] (c12_wishing' l X (d - 1) sh mI2 mL mR n hL np s1 sl kd ta ro s2 s3 lk s4 wn cd s5 ev hE (abv np c fi se) (fun p hp => ⟨gA p hp, abv_lt hfi p⟩) a b han z (by omega)) ⟨_, rfl, rfl⟩ q0 (by omega) rfl (by decide) (by simp [Value.category]) rfl ?_
            rintro r M' ⟨rfl, mI3, rfl, x1⟩
            exact nx mI3 _ x1 (by unfold rsW; rw [if_neg z2]) z
          · exact nx mI2 _ (fun _ _ _ => rfl) (by unfold rsW; rw [if_pos z2]) z
      have e2 := (stay mI2 f2).1.1
      refine hG.run [53, 101] 60 ?_
      simp [wp, stepI, ln, jmp, cmpI, Value.category, rd, tyF, va_rf, st1, st2, clr, isLg, CB, inx_0, inx_1, inx_2, inx_3, inx_4, inx_5, bI_0, bI_1, bI_ok, fin3, tyX12, entL, q0, q_pupils, dX12_resting_0, dX12_resting_1, fT_12_13, dX12_resting_4, dX12_resting_5, dX12_resting_6, dX12_resting_9, dX12_resting_10, dX12_resting_13, dX12_resting_14, dX12_resting_15, dX12_resting_16, dX12_resting_17, dX12_resting_18, dX12_resting_21, dX12_resting_22, dX12_resting_25, dX12_resting_26, dX12_resting_27, dX12_resting_29, dX12_resting_32, dX12_resting_33, dX12_resting_34, dX12_resting_35, dX12_resting_38, dX12_resting_39, dX12_resting_40, dX12_resting_41, dX12_resting_42, dX12_resting_43, dX12_resting_46, dX12_resting_47, dX12_resting_48, dX12_resting_51, dX12_resting_52, dX12_resting_53, dX12_resting_54, dX12_resting_55, dX12_resting_58, dX12_resting_59, dX12_resting_60, dX12_resting_63, dX12_resting_64, fT_12_126, dX12_resting_67, dX12_resting_69, dX12_resting_70, dX12_resting_71, dX12_resting_72, dX12_resting_73, dX12_resting_74, dX12_resting_75, dX12_resting_78, dX12_resting_79, dX12_resting_82, dX12_resting_83, dX12_resting_84, dX12_resting_85, dX12_resting_88, dX12_resting_89, dX12_resting_92, dX12_resting_95, dX12_resting_98, dX12_resting_101, dX12_resting_102, dX12_resting_103, fT_12_428, dX12_resting_106, dX12_resting_107, dX12_resting_108, fT_12_431, dX12_resting_111, dX12_resting_112, dX12_resting_113, dX12_resting_116, dX12_resting_119, dX12_resting_120]
      simp (disch := omega) only [li, nI_add, nI_clamp, nI_ltI, nI_leI, nI_eq, inx_iff, a31, nI_1shl', nI_shr', div_bit, tb1, tb0, fa_or, fa_and, nI_not, pk_sub, nI_dec, e2]
      refine ⟨fun z => last mI2 _ _ f2 g2 (fun a' b' ha' hb' => g3 a' b' (by omega) hb'), fun z => loop2 z (np + 1) 0 mI2 (by omega) (by omega) f2 g2 gA g3 (fun b' h => by omega)⟩
  refine hG.run [41] 60 ?_
  simp [wp, stepI, ln, jmp, cmpI, Value.category, rd, tyF, va_rf, st1, st2, clr, isLg, CB, inx_0, inx_1, inx_2, inx_3, inx_4, inx_5, bI_0, bI_1, bI_ok, fin3, tyX12, entL, q0, dX12_resting_0, dX12_resting_1, fT_12_13, dX12_resting_4, dX12_resting_5, dX12_resting_6, dX12_resting_9, dX12_resting_10, dX12_resting_13, dX12_resting_14, dX12_resting_15, dX12_resting_16, dX12_resting_17, dX12_resting_18, dX12_resting_21, dX12_resting_22, dX12_resting_25, dX12_resting_26, dX12_resting_27, dX12_resting_29, dX12_resting_32, dX12_resting_33, dX12_resting_34, dX12_resting_35, dX12_resting_38, dX12_resting_39, dX12_resting_40, dX12_resting_41, dX12_resting_42, dX12_resting_43, dX12_resting_46, dX12_resting_47, dX12_resting_48, dX12_resting_51, dX12_resting_52, dX12_resting_53, dX12_resting_54, dX12_resting_55, dX12_resting_58, dX12_resting_59, dX12_resting_60, dX12_resting_63, dX12_resting_64, fT_12_126, dX12_resting_67, dX12_resting_69, dX12_resting_70, dX12_resting_71, dX12_resting_72, dX12_resting_73, dX12_resting_74, dX12_resting_75, dX12_resting_78, dX12_resting_79, dX12_resting_82, dX12_resting_83, dX12_resting_84, dX12_resting_85, dX12_resting_88, dX12_resting_89, dX12_resting_92, dX12_resting_95, dX12_resting_98, dX12_resting_101, dX12_resting_102, dX12_resting_103, fT_12_428, dX12_resting_106, dX12_resting_107, dX12_resting_108, fT_12_431, dX12_resting_111, dX12_resting_112, dX12_resting_113, dX12_resting_116, dX12_resting_119, dX12_resting_120]
  exact loop1 (np + 1) 0 mI1 none (by omega) (by omega) f1 (fun p => h2 _ _ (by decide)) h4 (fun a' b' h => by omega)
noncomputable def rtsA (np : Nat) (W : Nat → Nat → Int32) : Nat := (rstS np W (-nI 1) (fun _ => nI 0)).2.1
theorem fdB_fst {R : PS → PS → Prop} {g g' : Nat → PS → PS} (h : ∀ b s s', R s s' → R (g b s) (g' b s')) : ∀ k s s', R s s' → R (fdB g k s) (fdB g' k s')
  | 0, _, _, hr => hr
  | k + 1, s, s', hr => h k _ _ (fdB_fst h k s s' hr)
/-- what stood in the row of the wanted counts for nothing once it is found -/
def RI (i : Int32) (s s' : PS) : Prop := s.1 = s'.1 ∧ s.2.1 = s'.2.1 ∧ ∀ k, k < s.2.1 → nI k = i → s.2.2 = s'.2.2
theorem prF_ri {np : Nat} {W : Nat → Nat → Int32} {i : Int32} : ∀ (f t : Nat) (s s' : PS), RI i s s' → RI i (prF np W i f t s) (prF np W i f t s')
  | 0, _, _, _, hr => hr
  | f + 1, t, s, s', hr => by
    rw [prF_s, prF_s]
    split
    · obtain ⟨h1, h2, h3⟩ := hr
      rw [← h1]
      split
      · refine ⟨rfl, by show s.2.1 + 1 = s'.2.1 + 1; rw [h2], fun k hk hi => ?_⟩
        show (if nI s.2.1 = i then fun p => nI (s.1 p) else s.2.2) = (if nI s'.2.1 = i then fun p => nI (s.1 p) else s'.2.2)
        rw [← h2]
        split
        · rfl
        · rename_i hn
          refine h3 k ?_ hi
          have hk' : k < s.2.1 + 1 := hk
          rcases Nat.lt_or_ge k s.2.1 with y | y
          · exact y
          · exact absurd (by rw [show s.2.1 = k by omega]; exact hi) hn
      · exact ⟨h1, h2, h3⟩
    · refine fdB_fst (fun b s s' hr => ?_) np s s' hr
      rw [prG_d, prG_d]
      split
      · refine prF_ri f _ _ _ ?_
        exact ⟨by show upN _ _ _ = upN _ _ _; rw [hr.1], hr.2.1, hr.2.2⟩
      · exact hr
noncomputable def rstA (mI : Nat → Nat → Int32) (np : Nat) (W : Nat → Nat → Int32) (i y : Int32) : Int32 := if (decide (nI 0 ≤ i) && isP mI y && okR np && decide (i < nI (rstS np W i (fun _ => nI 0)).2.1)) = true then (rstS np W i (fun _ => nI 0)).2.2 y.toNatClampNeg else -nI 1
set_option maxHeartbeats 4000000 in
set_option maxRecDepth 100000 in
theorem c12_rests (l : Launch) (X : Cx) (d : Nat) (sh : Nat → Option Sh) (mI : Nat → Nat → Int32) (mL : Nat → Nat → Int64) (mR : Nat → Nat → Option Nat) (n : Nat) (hL : ML sh mR) (np : Nat) (hp : PupM mI np) (c : Nat) (fi se ma : Nat → Nat) (hS : SayM mI c fi se ma) (sl : Nat) (kd ta ro : Nat → Nat) (hK : SlM mI np sl kd) (hT : TalM mI np ta ro) (lk : Nat → Nat → Nat) (hl : LikM mI np lk) (wn : Nat) (cd : Nat → Nat) (hW : WisM mI wn cd) (ev : Int32 → Int32 → Int32 → Bool → Bool → Int32) (hE : WEv wn cd ev) (hd : 8 ≤ d) : Cn l X yX12_rests cX12_rests 1 (some .int) d [.ref 129] (sh, mI, mL, mR, n) (fun r M' => r = some (.int (if okR np then nI (rtsA np (rsW np c fi se kd wn ev lk ta)) else -nI 1)) ∧ ∃ mI', M' = (sh, mI', mL, mR, n) ∧ Eqf rsL [0, 57, 58] mI mI') 0 0 := by
  refine Cn.run 12 false (by decide) rfl (by decide) (by simp [entA, Value.category]) ?_
  intro P G hP hG
  have q0 := hL.1
  refine hG.run [] 20 ?_
  simp [wp, stepI, ln, jmp, cmpI, Value.category, rd, tyF, va_rf, st1, st2, clr, isLg, CB, inx_0, inx_1, inx_2, inx_3, inx_4, inx_5, bI_0, bI_1, bI_ok, fin3, tyX12, entL, q0, okv, wr, finF, clT, TX12, dX12_rests_0, dX12_rests_1, dX12_rests_2, fT_12_135, dX12_rests_5, dX12_rests_6, dX12_rests_7, dX12_rests_10, dX12_rests_13, dX12_rests_14, fT_12_428, dX12_rests_17, dX12_rests_20, dX12_rests_21]
  have e1 : Eqf rsL [0, 57, 58] mI (up2 mI 129 0 0) := Eqf.rf.upf (by decide)
  generalize up2 mI 129 0 0 = mI0 at e1 ⊢
  refine hG.callV dX12_rests_7 mv_12_437 [.int (-nI 1)] [] (c12_resting l X (d - 1) sh mI0 mL mR n hL np (hp.eqf e1 (by decide)) c fi se ma (hS.eqf e1 (by decide)) sl kd ta ro (hK.eqf e1 (by decide) (by decide)) (hT.eqf e1 (by decide) (by decide)) lk (hl.eqf e1 (by decide)) wn cd (hW.eqf e1 (by decide) (by decide) (by decide)) ev hE (-nI 1) (by omega)) ⟨_, rfl, rfl⟩ q0 (by omega) rfl (by decide) (by simp [Value.category]) rfl ?_
  rintro r M' ⟨rfl, mI2, rfl, h2, h3⟩
  have f2 : Eqf rsL [0, 57, 58] mI mI2 := e1.tr (fun a k ha hk => h2 a k ha (fun w => hk ⟨w.1, List.mem_cons_of_mem _ w.2⟩))
  refine hG.run [] 20 ?_
  simp [wp, stepI, ln, jmp, cmpI, Value.category, rd, tyF, va_rf, st1, st2, clr, isLg, CB, inx_0, inx_1, inx_2, inx_3, inx_4, inx_5, bI_0, bI_1, bI_ok, fin3, tyX12, entL, q0, dX12_rests_0, dX12_rests_1, dX12_rests_2, fT_12_135, dX12_rests_5, dX12_rests_6, dX12_rests_7, dX12_rests_10, dX12_rests_13, dX12_rests_14, fT_12_428, dX12_rests_17, dX12_rests_20, dX12_rests_21]
  refine ⟨fun z => hP _ _ ⟨by rw [z]; rfl, _, rfl, f2⟩, fun z => hP _ _ ⟨?_, _, rfl, f2⟩⟩
  rw [z, (h3 z).1]
  have := (prF_ri (np := np) (W := rsW np c fi se kd wn ev lk ta) (i := -nI 1) 5 (2 ^ np - 1) (fun _ => 0, 0, mI0 169) (fun _ => 0, 0, fun _ => nI 0) ⟨rfl, rfl, fun k hk => absurd hk (Nat.not_lt_zero _)⟩).2.1
  show some (Value.int (nI (prF np (rsW np c fi se kd wn ev lk ta) (-nI 1) 5 (2 ^ np - 1) (fun _ => 0, 0, mI0 169)).2.1)) = _
  rw [this]
  rfl
set_option maxHeartbeats 4000000 in
set_option maxRecDepth 100000 in
theorem c12_rest (l : Launch) (X : Cx) (d : Nat) (sh : Nat → Option Sh) (mI : Nat → Nat → Int32) (mL : Nat → Nat → Int64) (mR : Nat → Nat → Option Nat) (n : Nat) (hL : ML sh mR) (np : Nat) (hp : PupM mI np) (c : Nat) (fi se ma : Nat → Nat) (hS : SayM mI c fi se ma) (sl : Nat) (kd ta ro : Nat → Nat) (hK : SlM mI np sl kd) (hT : TalM mI np ta ro) (lk : Nat → Nat → Nat) (hl : LikM mI np lk) (wn : Nat) (cd : Nat → Nat) (hW : WisM mI wn cd) (ev : Int32 → Int32 → Int32 → Bool → Bool → Int32) (hE : WEv wn cd ev) (x y : Int32) (hd : 8 ≤ d) : Cn l X yX12_rest cX12_rest 3 (some .int) d [.ref 129, .int x, .int y] (sh, mI, mL, mR, n) (fun r M' => r = some (.int (rstA mI np (rsW np c fi se kd wn ev lk ta) x y)) ∧ ∃ mI', M' = (sh, mI', mL, mR, n) ∧ Eqf rsL [0, 57, 58] mI mI') 0 0 := by
  refine Cn.run 12 false (by decide) rfl (by decide) (by simp [entA, Value.category]) ?_
  intro P G hP hG
  have q0 := hL.1
  have q_restWith := hL.2 (59, 169, .int, 10) (by decide)
  dsimp only at q_restWith
  have hpp := hp.2
  refine hG.run [] 30 ?_
  simp [wp, stepI, ln, jmp, cmpI, Value.category, rd, tyF, va_rf, st1, st2, clr, isLg, CB, inx_0, inx_1, inx_2, inx_3, inx_4, inx_5, bI_0, bI_1, bI_ok, fin3, tyX12, entL, q0, okv, wr, finF, clT, TX12, dX12_rest_0, dX12_rest_1, dX12_rest_2, fT_12_135, dX12_rest_5, dX12_rest_6, dX12_rest_9, dX12_rest_10, dX12_rest_11, dX12_rest_14, dX12_rest_17, dX12_rest_18, dX12_rest_19, dX12_rest_22, dX12_rest_25, dX12_rest_26, dX12_rest_27, fT_12_428, dX12_rest_30, dX12_rest_33, dX12_rest_34, fT_12_129, dX12_rest_37, dX12_rest_38, dX12_rest_39, dX12_rest_42, dX12_rest_43]
  simp (disch := omega) only [li, nI_add, nI_clamp, nI_ltI, nI_leI, nI_eq, inx_iff, a31, nI_1shl', nI_shr', div_bit, tb1, tb0, fa_or, fa_and, nI_not, pk_sub, nI_dec]
  have e1 : Eqf rsL [0, 57, 58] mI (up2 mI 129 0 (nI 0)) := Eqf.rf.upf (by decide)
  generalize up2 mI 129 0 (nI 0) = mI0 at e1 ⊢
  refine ⟨fun z => hP _ _ ⟨?_, _, rfl, e1⟩, fun z => ?_⟩
  · unfold rstA; rw [decide_eq_false (Int32.not_le.mpr z)]; rfl
  obtain ⟨j, hj, rfl⟩ := nI_of (x := x) (by rw [Int32.not_lt]; exact z)
  refine hG.callV dX12_rest_11 mv_12_329 [.int y] [] (c12_isPupil l X (d - 1) sh mI0 mL mR n hL y) ⟨_, rfl, rfl⟩ q0 (by omega) rfl (by decide) (by simp [Value.category]) rfl ?_
  rintro r M' ⟨rfl, rfl⟩
  have ip : isP mI0 y = isP mI y := isP_eqf e1 (by decide) y
  rw [ip]
  refine hG.run [] 30 ?_
  simp [wp, stepI, ln, jmp, cmpI, Value.category, rd, tyF, va_rf, st1, st2, clr, isLg, CB, inx_0, inx_1, inx_2, inx_3, inx_4, inx_5, bI_0, bI_1, bI_ok, fin3, tyX12, entL, q0, dX12_rest_0, dX12_rest_1, dX12_rest_2, fT_12_135, dX12_rest_5, dX12_rest_6, dX12_rest_9, dX12_rest_10, dX12_rest_11, dX12_rest_14, dX12_rest_17, dX12_rest_18, dX12_rest_19, dX12_rest_22, dX12_rest_25, dX12_rest_26, dX12_rest_27, fT_12_428, dX12_rest_30, dX12_rest_33, dX12_rest_34, fT_12_129, dX12_rest_37, dX12_rest_38, dX12_rest_39, dX12_rest_42, dX12_rest_43]
  refine ⟨fun zp => hP _ _ ⟨?_, _, rfl, e1⟩, fun zp => ?_⟩
  · unfold rstA; rw [zp, Bool.and_false]; rfl
  refine hG.callV dX12_rest_19 mv_12_437 [.int (nI j)] [] (c12_resting l X (d - 1) sh mI0 mL mR n hL np (hp.eqf e1 (by decide)) c fi se ma (hS.eqf e1 (by decide)) sl kd ta ro (hK.eqf e1 (by decide) (by decide)) (hT.eqf e1 (by decide) (by decide)) lk (hl.eqf e1 (by decide)) wn cd (hW.eqf e1 (by decide) (by decide) (by decide)) ev hE (nI j) (by omega)) ⟨_, rfl, rfl⟩ q0 (by omega) rfl (by decide) (by simp [Value.category]) rfl ?_
  rintro r M' ⟨rfl, mI2, rfl, h2, h3⟩
  have f2 : Eqf rsL [0, 57, 58] mI mI2 := e1.tr (fun a k ha hk => h2 a k ha (fun w => hk ⟨w.1, List.mem_cons_of_mem _ w.2⟩))
  refine hG.run [] 30 ?_
  simp [wp, stepI, ln, jmp, cmpI, Value.category, rd, tyF, va_rf, st1, st2, clr, isLg, CB, inx_0, inx_1, inx_2, inx_3, inx_4, inx_5, bI_0, bI_1, bI_ok, fin3, tyX12, entL, q0, q_restWith, dX12_rest_0, dX12_rest_1, dX12_rest_2, fT_12_135, dX12_rest_5, dX12_rest_6, dX12_rest_9, dX12_rest_10, dX12_rest_11, dX12_rest_14, dX12_rest_17, dX12_rest_18, dX12_rest_19, dX12_rest_22, dX12_rest_25, dX12_rest_26, dX12_rest_27, fT_12_428, dX12_rest_30, dX12_rest_33, dX12_rest_34, fT_12_129, dX12_rest_37, dX12_rest_38, dX12_rest_39, dX12_rest_42, dX12_rest_43]
  refine ⟨fun z2 => hP _ _ ⟨?_, _, rfl, f2⟩, fun z2 => ?_⟩
  · unfold rstA; rw [z2, Bool.and_false]; rfl
  obtain ⟨p, hpn, rfl⟩ := isP_nat hp zp
  obtain ⟨y1, y2⟩ := h3 z2
  have y3 := y2 p hpn
  obtain ⟨r1, r2, r3⟩ := prF_ri (np := np) (W := rsW np c fi se kd wn ev lk ta) (i := nI j) 5 (2 ^ np - 1) (fun _ => 0, 0, mI0 169) (fun _ => 0, 0, fun _ => nI 0) ⟨rfl, rfl, fun k hk => absurd hk (Nat.not_lt_zero _)⟩
  have bd := prF_n hpp (W := rsW np c fi se kd wn ev lk ta) (i := nI j) 5 (2 ^ np - 1) (fun _ => 0, 0, mI0 169)
  have y1' : mI2 129 57 = nI (prF np (rsW np c fi se kd wn ev lk ta) (nI j) 5 (2 ^ np - 1) (fun _ => 0, 0, mI0 169)).2.1 := y1
  have y3' : mI2 169 p = (prF np (rsW np c fi se kd wn ev lk ta) (nI j) 5 (2 ^ np - 1) (fun _ => 0, 0, mI0 169)).2.2 p := y3
  have un : rstA mI np (rsW np c fi se kd wn ev lk ta) (nI j) (nI p) = if nI j < nI (prF np (rsW np c fi se kd wn ev lk ta) (nI j) 5 (2 ^ np - 1) (fun _ => 0, 0, mI0 169)).2.1 then (prF np (rsW np c fi se kd wn ev lk ta) (nI j) 5 (2 ^ np - 1) (fun _ => 0, 0, fun _ => nI 0)).2.2 p else -nI 1 := by
    unfold rstA
    rw [decide_eq_true z, zp, z2, nI_clamp (by omega)]
    unfold rstS
    rw [← r2]
    simp only [Bool.true_and, Bool.and_true, decide_eq_true_eq]
  simp (disch := omega) only [li, nI_add, nI_clamp, nI_ltI, nI_leI, nI_eq, inx_iff, a31, nI_1shl', nI_shr', div_bit, tb1, tb0, fa_or, fa_and, nI_not, pk_sub, nI_dec, y1']
  refine ⟨fun z3 => hP _ _ ⟨?_, _, rfl, f2⟩, fun z3 => ⟨by omega, hP _ _ ⟨?_, _, rfl, f2⟩⟩⟩
  · rw [un, if_neg (Int32.not_lt.mpr z3)]
  · rw [un, if_pos z3, y3']
    have bd' : (prF np (rsW np c fi se kd wn ev lk ta) (nI j) 5 (2 ^ np - 1) (fun _ => 0, 0, mI0 169)).2.1 ≤ 0 + 10 ^ 5 := bd
    rw [r3 j ((nI_ltI (by omega) (by omega)).mp z3) rfl]
