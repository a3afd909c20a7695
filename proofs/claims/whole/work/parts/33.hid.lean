/-- kinds, heights and rows of benches -/
def TalM (mI : Nat → Nat → Int32) (np : Nat) (ta ro : Nat → Nat) : Prop := (∀ p, p < np → mI 136 p = nI (ta p) ∧ ta p ≤ 99) ∧ ∀ k, k < 6 → mI 137 k = nI (ro k) ∧ ro k ≤ 9
theorem TalM.eqf {S F : List Nat} {mI mI' : Nat → Nat → Int32} {np : Nat} {ta ro : Nat → Nat} (h : TalM mI np ta ro) (he : Eqf S F mI mI') (h1 : 136 ∉ S) (h2 : 137 ∉ S) : TalM mI' np ta ro := ⟨fun p hp => ⟨(he _ _ h1 (fun z => by cases z.1)).trans (h.1 p hp).1, (h.1 p hp).2⟩, fun p hp => ⟨(he _ _ h2 (fun z => by cases z.1)).trans (h.2 p hp).1, (h.2 p hp).2⟩⟩
def hidP (st ta ro : Nat → Nat) (a p : Nat) : Bool := decide (st p ≠ 0) && decide ((st p - 1) % 2 = (st a - 1) % 2) && decide (ta a < ta p) && decide (ro ((st p - 1) / 2) < ro ((st a - 1) / 2))
def hidN (np : Nat) (st ta ro : Nat → Nat) (a : Nat) : Nat := fb_ct (hidP st ta ro a) np
def hidB (mI : Nat → Nat → Int32) (st : Nat → Nat) (x : Int32) : Bool := isP mI x && decide (st x.toNatClampNeg ≠ 0)
def hidA (mI : Nat → Nat → Int32) (np : Nat) (st ta ro : Nat → Nat) (x : Int32) : Int32 := if hidB mI st x then nI (hidN np st ta ro x.toNatClampNeg) else nI 0
theorem nI_dv2 {a : Nat} (h : a ≤ 12) : nI a / nI 2 = nI (a / 2) := (by decide +kernel : ∀ a, a ≤ 12 → nI a / nI 2 = nI (a / 2)) a h
theorem nI_md2 {a : Nat} (h : a ≤ 12) : nI a - nI (a / 2) * nI 2 = nI (a % 2) := (by decide +kernel : ∀ a, a ≤ 12 → nI a - nI (a / 2) * nI 2 = nI (a % 2)) a h
set_option maxHeartbeats 4000000 in
set_option maxRecDepth 100000 in
theorem c12_hidden (l : Launch) (X : Cx) (d : Nat) (sh : Nat → Option Sh) (mI : Nat → Nat → Int32) (mL : Nat → Nat → Int64) (mR : Nat → Nat → Option Nat) (n : Nat) (hL : ML sh mR) (np : Nat) (hp : PupM mI np) (st pl ta ro : Nat → Nat) (hT : SeaM mI np st pl) (hA : TalM mI np ta ro) (x : Int32) (hd : 1 ≤ d) : Cn l X yX12_hidden cX12_hidden 6 (some .int) d [.ref 129, .int x] (sh, mI, mL, mR, n) (fun r M' => r = some (.int (hidA mI np st ta ro x)) ∧ M' = (sh, up2 mI 129 0 (if hidB mI st x then nI 0 else nI 1), mL, mR, n)) 0 0 := by
  refine Cn.run 12 false (by decide) rfl (by decide) (by simp [entA, Value.category]) ?_
  intro P G hP hG
  have q0 := hL.1
  have q_s := hL.2 (41, 156, .int, 144) (by decide)
  dsimp only at q_s
  have q_pupils := hL.2 (10, 131, .int, 6) (by decide)
  dsimp only at q_pupils
  have q_tall := hL.2 (15, 136, .int, 60) (by decide)
  dsimp only at q_tall
  have q_rowOf := hL.2 (16, 137, .int, 36) (by decide)
  dsimp only at q_rowOf
  have hpp := hp.2
  refine hG.run [] 60 ?_
  simp [wp, stepI, ln, jmp, cmpI, Value.category, rd, tyF, va_rf, st1, st2, clr, isLg, CB, inx_0, inx_1, inx_2, inx_3, inx_4, inx_5, bI_0, bI_1, bI_ok, fin3, tyX12, entL, q0, q_s, q_pupils, okv, wr, finF, clT, TX12, dX12_hidden_0, dX12_hidden_1, dX12_hidden_2, dX12_hidden_3, dX12_hidden_6, dX12_hidden_9, dX12_hidden_10, fT_12_90, dX12_hidden_13, dX12_hidden_15, dX12_hidden_16, dX12_hidden_17, dX12_hidden_18, dX12_hidden_21, dX12_hidden_22, dX12_hidden_25, dX12_hidden_26, fT_12_135, dX12_hidden_29, dX12_hidden_30, dX12_hidden_33, dX12_hidden_34, dX12_hidden_37, dX12_hidden_38, dX12_hidden_39, dX12_hidden_40, dX12_hidden_43, dX12_hidden_45, dX12_hidden_46, dX12_hidden_47, dX12_hidden_48, dX12_hidden_49, dX12_hidden_50, dX12_hidden_51, dX12_hidden_52, dX12_hidden_53, dX12_hidden_54, dX12_hidden_56, dX12_hidden_58, dX12_hidden_59, fT_12_13, dX12_hidden_62, dX12_hidden_63, dX12_hidden_64, dX12_hidden_67, dX12_hidden_68, dX12_hidden_71, dX12_hidden_73, dX12_hidden_75, dX12_hidden_76, dX12_hidden_77, dX12_hidden_78, dX12_hidden_79, dX12_hidden_81, dX12_hidden_82, dX12_hidden_84, dX12_hidden_87, dX12_hidden_89, dX12_hidden_90, dX12_hidden_91, dX12_hidden_92, dX12_hidden_93, dX12_hidden_94, dX12_hidden_97, dX12_hidden_98, fT_12_29, dX12_hidden_101, dX12_hidden_103, dX12_hidden_104, dX12_hidden_105, dX12_hidden_108, dX12_hidden_109, dX12_hidden_110, dX12_hidden_113, dX12_hidden_114, fT_12_32, dX12_hidden_117, dX12_hidden_119, dX12_hidden_120, dX12_hidden_121, dX12_hidden_122, dX12_hidden_123, dX12_hidden_126, dX12_hidden_127, dX12_hidden_128, dX12_hidden_129, dX12_hidden_130, dX12_hidden_133, dX12_hidden_134, dX12_hidden_137, dX12_hidden_138, dX12_hidden_139, dX12_hidden_140, dX12_hidden_143, dX12_hidden_146, dX12_hidden_147]
  refine hG.callV dX12_hidden_3 mv_12_329 [.int x] [.ref 129] (c12_isPupil l X (d - 1) sh mI mL mR n hL x) ⟨_, rfl, rfl⟩ q0 (by omega) rfl (by decide) (by simp [Value.category]) rfl ?_
  rintro r M' ⟨rfl, rfl⟩
  have no : hidB mI st x = false → P (some (.int (nI 0))) (sh, up2 mI 129 0 (nI 1), mL, mR, n) := fun z => hP _ _ ⟨by unfold hidA; rw [z]; rfl, by rw [z]; rfl⟩
  refine hG.run [56] 60 ?_
  simp [wp, stepI, ln, jmp, cmpI, Value.category, rd, tyF, va_rf, st1, st2, clr, isLg, CB, inx_0, inx_1, inx_2, inx_3, inx_4, inx_5, bI_0, bI_1, bI_ok, fin3, tyX12, entL, q0, q_s, q_pupils, okv, wr, finF, clT, TX12, dX12_hidden_0, dX12_hidden_1, dX12_hidden_2, dX12_hidden_3, dX12_hidden_6, dX12_hidden_9, dX12_hidden_10, fT_12_90, dX12_hidden_13, dX12_hidden_15, dX12_hidden_16, dX12_hidden_17, dX12_hidden_18, dX12_hidden_21, dX12_hidden_22, dX12_hidden_25, dX12_hidden_26, fT_12_135, dX12_hidden_29, dX12_hidden_30, dX12_hidden_33, dX12_hidden_34, dX12_hidden_37, dX12_hidden_38, dX12_hidden_39, dX12_hidden_40, dX12_hidden_43, dX12_hidden_45, dX12_hidden_46, dX12_hidden_47, dX12_hidden_48, dX12_hidden_49, dX12_hidden_50, dX12_hidden_51, dX12_hidden_52, dX12_hidden_53, dX12_hidden_54, dX12_hidden_56, dX12_hidden_58, dX12_hidden_59, fT_12_13, dX12_hidden_62, dX12_hidden_63, dX12_hidden_64, dX12_hidden_67, dX12_hidden_68, dX12_hidden_71, dX12_hidden_73, dX12_hidden_75, dX12_hidden_76, dX12_hidden_77, dX12_hidden_78, dX12_hidden_79, dX12_hidden_81, dX12_hidden_82, dX12_hidden_84, dX12_hidden_87, dX12_hidden_89, dX12_hidden_90, dX12_hidden_91, dX12_hidden_92, dX12_hidden_93, dX12_hidden_94, dX12_hidden_97, dX12_hidden_98, fT_12_29, dX12_hidden_101, dX12_hidden_103, dX12_hidden_104, dX12_hidden_105, dX12_hidden_108, dX12_hidden_109, dX12_hidden_110, dX12_hidden_113, dX12_hidden_114, fT_12_32, dX12_hidden_117, dX12_hidden_119, dX12_hidden_120, dX12_hidden_121, dX12_hidden_122, dX12_hidden_123, dX12_hidden_126, dX12_hidden_127, dX12_hidden_128, dX12_hidden_129, dX12_hidden_130, dX12_hidden_133, dX12_hidden_134, dX12_hidden_137, dX12_hidden_138, dX12_hidden_139, dX12_hidden_140, dX12_hidden_143, dX12_hidden_146, dX12_hidden_147]
  refine ⟨fun h => ⟨fun w => absurd (up2_eq _ _ _ _) w, fun _ => no (by simp [hidB, h])⟩, fun h => ?_⟩
  obtain ⟨a, ha, rfl⟩ := isP_nat hp h
  have hh : hidB mI st (nI a) = decide (st a ≠ 0) := by unfold hidB; rw [h, nI_clamp (by omega)]; rfl
  obtain ⟨a1, a2, a3, a4⟩ := hT a ha
  simp (disch := omega) only [li, nI_add, nI_clamp, nI_ltI, nI_leI, nI_eq, inx_iff, a31, nI_1shl', nI_shr', div_bit, tb1, tb0, fa_or, fa_and, nI_not, pk_sub, nI_dec, up2_eq, up2_ne, a1]
  refine ⟨by omega, fun z => ⟨fun w => absurd trivial w, fun _ => no (by rw [hh]; simp; omega)⟩, fun z => ⟨fun _ => ⟨by omega, ?_⟩, fun w => by omega⟩⟩
  have hs : hidB mI st (nI a) = true := by rw [hh]; simp; omega
  simp (disch := omega) only [li, nI_add, nI_clamp, nI_ltI, nI_leI, nI_eq, inx_iff, a31, nI_1shl', nI_shr', div_bit, tb1, tb0, fa_or, fa_and, nI_not, pk_sub, nI_dec]
  have ef : Eqf [] [0] mI (up2 mI 129 0 (nI 0)) := Eqf.rf.upf (by decide)
  have y1 : hidA mI np st ta ro (nI a) = nI (hidN np st ta ro a) := by unfold hidA; rw [hs, if_pos rfl, nI_clamp (by omega)]
  rw [hs] at hP
  simp only [if_true] at hP
  generalize up2 mI 129 0 (nI 0) = mI0 at ef hP ⊢
  have hp0 := hp.eqf ef (by decide)
  have hT0 := hT.eqf ef (by decide)
  have hA0 := hA.eqf ef (by decide) (by decide)
  have e0 := hp0.1
  have loop : ∀ f i v5, np - i < f → i ≤ np → G 56 [some (.ref 129), some (.int (nI a)), some (.int (nI (st a - 1))), some (.int (nI (fb_ct (hidP st ta ro a) i))), some (.int (nI i)), v5] [] (sh, mI0, mL, mR, n) := by
    intro f
    induction f with
    | zero => intro i v5 h; omega
    | succ f ih =>
      intro i v5 hf hi
      have c1 := fb_ct_le (hidP st ta ro a) i
      have nx := ih (i + 1)
      rw [fb_ct_succ] at nx
      refine hG.run [56] 60 ?_
      simp [wp, stepI, ln, jmp, cmpI, Value.category, rd, tyF, va_rf, st1, st2, clr, isLg, CB, inx_0, inx_1, inx_2, inx_3, inx_4, inx_5, bI_0, bI_1, bI_ok, fin3, tyX12, entL, q0, q_s, q_pupils, q_tall, q_rowOf, dX12_hidden_0, dX12_hidden_1, dX12_hidden_2, dX12_hidden_3, dX12_hidden_6, dX12_hidden_9, dX12_hidden_10, fT_12_90, dX12_hidden_13, dX12_hidden_15, dX12_hidden_16, dX12_hidden_17, dX12_hidden_18, dX12_hidden_21, dX12_hidden_22, dX12_hidden_25, dX12_hidden_26, fT_12_135, dX12_hidden_29, dX12_hidden_30, dX12_hidden_33, dX12_hidden_34, dX12_hidden_37, dX12_hidden_38, dX12_hidden_39, dX12_hidden_40, dX12_hidden_43, dX12_hidden_45, dX12_hidden_46, dX12_hidden_47, dX12_hidden_48, dX12_hidden_49, dX12_hidden_50, dX12_hidden_51, dX12_hidden_52, dX12_hidden_53, dX12_hidden_54, dX12_hidden_56, dX12_hidden_58, dX12_hidden_59, fT_12_13, dX12_hidden_62, dX12_hidden_63, dX12_hidden_64, dX12_hidden_67, dX12_hidden_68, dX12_hidden_71, dX12_hidden_73, dX12_hidden_75, dX12_hidden_76, dX12_hidden_77, dX12_hidden_78, dX12_hidden_79, dX12_hidden_81, dX12_hidden_82, dX12_hidden_84, dX12_hidden_87, dX12_hidden_89, dX12_hidden_90, dX12_hidden_91, dX12_hidden_92, dX12_hidden_93, dX12_hidden_94, dX12_hidden_97, dX12_hidden_98, fT_12_29, dX12_hidden_101, dX12_hidden_103, dX12_hidden_104, dX12_hidden_105, dX12_hidden_108, dX12_hidden_109, dX12_hidden_110, dX12_hidden_113, dX12_hidden_114, fT_12_32, dX12_hidden_117, dX12_hidden_119, dX12_hidden_120, dX12_hidden_121, dX12_hidden_122, dX12_hidden_123, dX12_hidden_126, dX12_hidden_127, dX12_hidden_128, dX12_hidden_129, dX12_hidden_130, dX12_hidden_133, dX12_hidden_134, dX12_hidden_137, dX12_hidden_138, dX12_hidden_139, dX12_hidden_140, dX12_hidden_143, dX12_hidden_146, dX12_hidden_147]
      simp (disch := omega) only [li, nI_add, nI_clamp, nI_ltI, nI_leI, nI_eq, inx_iff, a31, nI_1shl', nI_shr', div_bit, tb1, tb0, fa_or, fa_and, nI_not, pk_sub, nI_dec, e0]
      refine ⟨fun h => hP _ _ ⟨?_, rfl⟩, fun h => ?_⟩
      · rw [y1]; unfold hidN; rw [show i = np by omega]
      obtain ⟨b1, b2, -⟩ := hT0 i h
      obtain ⟨t1, t2⟩ := hA0.1 i h
      obtain ⟨t3, t4⟩ := hA0.1 a ha
      refine ⟨by omega, ?_⟩
      rw [b1]
      have key : ∀ b : Bool, hidP st ta ro a i = b → ∀ v5, G 56 [some (.ref 129), some (.int (nI a)), some (.int (nI (st a - 1))), some (.int (nI (fb_ct (hidP st ta ro a) i + (if b = true then 1 else 0)))), some (.int (nI (i + 1))), v5] [] (sh, mI0, mL, mR, n) := fun b hb v5 => by
        rw [← hb]; exact nx v5 (by omega) (by omega)
      by_cases z0 : st i = 0
      · rw [z0]
        refine ⟨fun _ => key false (by simp [hidP, z0]) _, fun w => absurd w (by decide +kernel)⟩
      · simp (disch := omega) only [li, nI_add, nI_clamp, nI_ltI, nI_leI, nI_eq, inx_iff, a31, nI_1shl', nI_shr', div_bit, tb1, tb0, fa_or, fa_and, nI_not, pk_sub, nI_dec, nI_dv2, nI_md2, t1, t3]
        obtain ⟨r1, r2⟩ := hA0.2 ((st i - 1) / 2) (by omega)
        obtain ⟨r3, r4⟩ := hA0.2 ((st a - 1) / 2) (by omega)
        simp (disch := omega) only [li, nI_add, nI_clamp, nI_ltI, nI_leI, nI_eq, inx_iff, a31, nI_1shl', nI_shr', div_bit, tb1, tb0, fa_or, fa_and, nI_not, pk_sub, nI_dec, r1, r3]
        have g0 : ¬ st i - 1 < 0 := by omega
        refine ⟨fun w => by omega, fun _ => ⟨fun w => key false (by simp [hidP, w]) _, fun w => ⟨by omega, by omega, fun w2 => key false (by unfold hidP; rw [decide_eq_false (p := ta a < ta i) (by omega)]; simp) _, fun w2 => ⟨by omega, by omega, fun w3 => key false (by unfold hidP; rw [decide_eq_false (p := ro _ < ro _) (by omega)]; simp) _, fun w3 => key true (by simp [hidP, z0, w, w2, w3]) _⟩⟩⟩⟩
  exact loop (np + 1) 0 none (by omega) (by omega)
