theorem layI_o {mI : Nat → Nat → Int32} {f t a k : Nat} (h : a ≠ 131) (h1 : a ≠ 132) (h2 : a ≠ 133) (h3 : a ≠ 135) (h4 : a ≠ 136) (h5 : a ≠ 137) (h6 : a ≠ 138) (h7 : a ≠ 139) (h8 : a ≠ 140) (h9 : a ≠ 141) : layI mI f t a k = mI a k := by
  unfold layI lay8
  rw [up2_ne (by omega), up2_ne (by omega), cpM_out (by omega), cpM_out (by omega), cpM_out (by omega), cpM_out (by omega), cpM_out (by omega), cpM_out (by omega), cpM_out (by omega), cpM_out (by omega)]
theorem layI_1 {mI : Nat → Nat → Int32} {f t s : Nat} : layI mI f t 131 s = (if s = t then mI 131 f else mI 131 s) ∧ layI mI f t 132 s = (if s = t then mI 132 f else mI 132 s) ∧ layI mI f t 133 s = (if s = t then mI 133 f else mI 133 s) := by
  unfold layI lay8
  by_cases e : s = t
  · subst e
    rw [if_pos rfl, if_pos rfl, if_pos rfl]
    refine ⟨?_, ?_, ?_⟩
    · rw [up2_ne (by omega), up2_ne (by omega), cpM_out (by omega), cpM_out (by omega), cpM_out (by omega), cpM_out (by omega), cpM_out (by omega), cpM_out (by omega), cpM_out (by omega), cpM_in (by omega) (by omega), Nat.sub_self, Nat.add_zero]
    · rw [up2_ne (by omega), up2_ne (by omega), cpM_out (by omega), cpM_out (by omega), cpM_out (by omega), cpM_out (by omega), cpM_out (by omega), cpM_out (by omega), cpM_in (by omega) (by omega), cpM_out (by omega), Nat.sub_self, Nat.add_zero]
    · rw [up2_ne (by omega), up2_ne (by omega), cpM_out (by omega), cpM_out (by omega), cpM_out (by omega), cpM_out (by omega), cpM_out (by omega), cpM_in (by omega) (by omega), cpM_out (by omega), cpM_out (by omega), Nat.sub_self, Nat.add_zero]
  · rw [if_neg e, if_neg e, if_neg e]
    refine ⟨?_, ?_, ?_⟩ <;> rw [up2_ne (by omega), up2_ne (by omega), cpM_out (by omega), cpM_out (by omega), cpM_out (by omega), cpM_out (by omega), cpM_out (by omega), cpM_out (by omega), cpM_out (by omega), cpM_out (by omega)]
theorem layI_2 {mI : Nat → Nat → Int32} {f t s p : Nat} (hp : p < 10) : layI mI f t 135 (10 * s + p) = (if s = t then mI 135 (10 * f + p) else mI 135 (10 * s + p)) ∧ layI mI f t 136 (10 * s + p) = (if s = t then mI 136 (10 * f + p) else mI 136 (10 * s + p)) := by
  unfold layI lay8
  by_cases e : s = t
  · subst e
    rw [if_pos rfl, if_pos rfl]
    refine ⟨?_, ?_⟩
    · rw [up2_ne (by omega), up2_ne (by omega), cpM_out (by omega), cpM_out (by omega), cpM_out (by omega), cpM_out (by omega), cpM_in (by omega) (by omega), cpM_out (by omega), cpM_out (by omega), cpM_out (by omega), Nat.add_sub_cancel_left]
    · rw [up2_ne (by omega), up2_ne (by omega), cpM_out (by omega), cpM_out (by omega), cpM_out (by omega), cpM_in (by omega) (by omega), cpM_out (by omega), cpM_out (by omega), cpM_out (by omega), cpM_out (by omega), Nat.add_sub_cancel_left]
  · rw [if_neg e, if_neg e]
    refine ⟨?_, ?_⟩ <;> rw [up2_ne (by omega), up2_ne (by omega), cpM_out (by omega), cpM_out (by omega), cpM_out (by omega), cpM_out (by omega), cpM_out (by omega), cpM_out (by omega), cpM_out (by omega), cpM_out (by omega)]
theorem layI_3 {mI : Nat → Nat → Int32} {f t s p : Nat} (hp : p < 6) : layI mI f t 137 (6 * s + p) = (if s = t then mI 137 (6 * f + p) else mI 137 (6 * s + p)) := by
  unfold layI lay8
  by_cases e : s = t
  · subst e
    rw [if_pos rfl, up2_ne (by omega), up2_ne (by omega), cpM_out (by omega), cpM_out (by omega), cpM_in (by omega) (by omega), cpM_out (by omega), cpM_out (by omega), cpM_out (by omega), cpM_out (by omega), cpM_out (by omega), Nat.add_sub_cancel_left]
  · rw [if_neg e, up2_ne (by omega), up2_ne (by omega), cpM_out (by omega), cpM_out (by omega), cpM_out (by omega), cpM_out (by omega), cpM_out (by omega), cpM_out (by omega), cpM_out (by omega), cpM_out (by omega)]
theorem layI_4 {mI : Nat → Nat → Int32} {f t s p : Nat} (hp : p < 100) : layI mI f t 138 (100 * s + p) = (if s = t then mI 138 (100 * f + p) else mI 138 (100 * s + p)) := by
  unfold layI lay8
  by_cases e : s = t
  · subst e
    rw [if_pos rfl, up2_ne (by omega), up2_ne (by omega), cpM_out (by omega), cpM_in (by omega) (by omega), cpM_out (by omega), cpM_out (by omega), cpM_out (by omega), cpM_out (by omega), cpM_out (by omega), cpM_out (by omega), Nat.add_sub_cancel_left]
  · rw [if_neg e, up2_ne (by omega), up2_ne (by omega), cpM_out (by omega), cpM_out (by omega), cpM_out (by omega), cpM_out (by omega), cpM_out (by omega), cpM_out (by omega), cpM_out (by omega), cpM_out (by omega)]
theorem layI_5 {mI : Nat → Nat → Int32} {f t s p : Nat} (hp : p < 1000) : layI mI f t 141 (1000 * s + p) = (if s = t then mI 141 (1000 * f + p) else mI 141 (1000 * s + p)) := by
  unfold layI lay8
  by_cases e : s = t
  · subst e
    rw [if_pos rfl, up2_ne (by omega), up2_ne (by omega), cpM_in (by omega) (by omega), cpM_out (by omega), cpM_out (by omega), cpM_out (by omega), cpM_out (by omega), cpM_out (by omega), cpM_out (by omega), cpM_out (by omega), Nat.add_sub_cancel_left]
  · rw [if_neg e, up2_ne (by omega), up2_ne (by omega), cpM_out (by omega), cpM_out (by omega), cpM_out (by omega), cpM_out (by omega), cpM_out (by omega), cpM_out (by omega), cpM_out (by omega), cpM_out (by omega)]
theorem layI_6 {mI : Nat → Nat → Int32} {f t : Nat} : layI mI f t 139 t = nI (1000 * t) ∧ layI mI f t 140 t = nI (1000 * t) + mI 140 f - mI 139 f ∧ ∀ s, s ≠ t → layI mI f t 139 s = mI 139 s ∧ layI mI f t 140 s = mI 140 s := by
  unfold layI
  refine ⟨by rw [up2_ne (by omega), up2_eq], up2_eq .., fun s e => ⟨?_, ?_⟩⟩
  · unfold lay8
    rw [up2_ne (by omega), up2_ne (by omega), cpM_out (by omega), cpM_out (by omega), cpM_out (by omega), cpM_out (by omega), cpM_out (by omega), cpM_out (by omega), cpM_out (by omega), cpM_out (by omega)]
  · unfold lay8
    rw [up2_ne (by omega), up2_ne (by omega), cpM_out (by omega), cpM_out (by omega), cpM_out (by omega), cpM_out (by omega), cpM_out (by omega), cpM_out (by omega), cpM_out (by omega), cpM_out (by omega)]
theorem MdS.lay {mI : Nat → Nat → Int32} {f t : Nat} {A : DD} (h : MdS mI f A) (hnp : A 0 0 ≤ 10) (hwn : A 0 6 ≤ 1000) (hf : f < 6) (ht : t < 6) : MdS (layI mI f t) t A := by
  obtain ⟨⟨a1, a2, a3⟩, a4, a5, a6, ⟨a7, a8⟩, a9⟩ := h
  obtain ⟨b1, b2, b3⟩ := layI_1 (mI := mI) (f := f) (t := t) (s := t)
  rw [if_pos rfl] at b1 b2 b3
  obtain ⟨c1, c2, -⟩ := layI_6 (mI := mI) (f := f) (t := t)
  refine ⟨⟨b1.trans a1, b2.trans a2, b3.trans a3⟩, fun p hp => ?_, fun k hk => ?_, fun i hi => ?_, ⟨c1, ?_⟩, fun i hi => ?_⟩
  · obtain ⟨d1, d2⟩ := layI_2 (mI := mI) (f := f) (t := t) (s := t) (p := p) (by omega)
    rw [if_pos rfl] at d1 d2
    exact ⟨d1.trans (a4 p hp).1, d2.trans (a4 p hp).2⟩
  · have d1 := layI_3 (mI := mI) (f := f) (t := t) (s := t) hk
    rw [if_pos rfl] at d1
    exact d1.trans (a5 k hk)
  · have d1 := layI_4 (mI := mI) (f := f) (t := t) (s := t) hi
    rw [if_pos rfl] at d1
    exact d1.trans (a6 i hi)
  · rw [c2, a7, a8, nI_add, pk_sub (by omega)]
    congr 1
    omega
  · have d1 := layI_5 (mI := mI) (f := f) (t := t) (s := t) (p := i) (by omega)
    rw [if_pos rfl] at d1
    exact d1.trans (a9 i hi)
theorem MdS.layo {mI : Nat → Nat → Int32} {f t s : Nat} {A : DD} (h : MdS mI s A) (hnp : A 0 0 ≤ 10) (hwn : A 0 6 ≤ 1000) (hs : s ≠ t) : MdS (layI mI f t) s A := by
  obtain ⟨⟨a1, a2, a3⟩, a4, a5, a6, ⟨a7, a8⟩, a9⟩ := h
  obtain ⟨b1, b2, b3⟩ := layI_1 (mI := mI) (f := f) (t := t) (s := s)
  rw [if_neg hs] at b1 b2 b3
  obtain ⟨-, -, c3⟩ := layI_6 (mI := mI) (f := f) (t := t)
  refine ⟨⟨b1.trans a1, b2.trans a2, b3.trans a3⟩, fun p hp => ?_, fun k hk => ?_, fun i hi => ?_, ⟨(c3 s hs).1.trans a7, (c3 s hs).2.trans a8⟩, fun i hi => ?_⟩
  · obtain ⟨d1, d2⟩ := layI_2 (mI := mI) (f := f) (t := t) (s := s) (p := p) (by omega)
    rw [if_neg hs] at d1 d2
    exact ⟨d1.trans (a4 p hp).1, d2.trans (a4 p hp).2⟩
  · have d1 := layI_3 (mI := mI) (f := f) (t := t) (s := s) hk
    rw [if_neg hs] at d1
    exact d1.trans (a5 k hk)
  · have d1 := layI_4 (mI := mI) (f := f) (t := t) (s := s) hi
    rw [if_neg hs] at d1
    exact d1.trans (a6 i hi)
  · have d1 := layI_5 (mI := mI) (f := f) (t := t) (s := s) (p := i) (by omega)
    rw [if_neg hs] at d1
    exact d1.trans (a9 i hi)
theorem MdR.cp {mI : Nat → Nat → Int32} {F T a b : Nat} {A : DD} (h : MdR mI F a A) (hnp : A 0 0 ≤ 10) (hc : A 0 2 ≤ 40) : MdR (cpM mI F T a b 144) T b A := by
  obtain ⟨a1, a2, a3⟩ := h
  have g : ∀ j, j < 144 → cpM mI F T a b 144 T (b + j) = mI F (a + j) := fun j hj => by rw [cpM_in (by omega) (by omega), Nat.add_sub_cancel_left]
  refine ⟨(g 0 (by decide)).trans a1, fun k hk => ⟨(g _ (by omega)).trans (a2 k hk).1, (g _ (by omega)).trans (a2 k hk).2.1, (g _ (by omega)).trans (a2 k hk).2.2⟩, fun p hp => ⟨(g _ (by omega)).trans (a3 p hp).1, (g _ (by omega)).trans (a3 p hp).2⟩⟩
theorem MdR.fr {mI mI' : Nat → Nat → Int32} {a b : Nat} {A : DD} (h : MdR mI a b A) (he : ∀ j, j < 144 → mI' a (b + j) = mI a (b + j)) (hnp : A 0 0 ≤ 10) (hc : A 0 2 ≤ 40) : MdR mI' a b A := by
  obtain ⟨a1, a2, a3⟩ := h
  exact ⟨(he 0 (by decide)).trans a1, fun k hk => ⟨(he _ (by omega)).trans (a2 k hk).1, (he _ (by omega)).trans (a2 k hk).2.1, (he _ (by omega)).trans (a2 k hk).2.2⟩, fun p hp => ⟨(he _ (by omega)).trans (a3 p hp).1, (he _ (by omega)).trans (a3 p hp).2⟩⟩
theorem MdS.fr {mI mI' : Nat → Nat → Int32} {s : Nat} {A : DD} (h : MdS mI s A) (he : ∀ a k, (131 ≤ a ∧ a ≤ 141) → mI' a k = mI a k) : MdS mI' s A := by
  obtain ⟨⟨a1, a2, a3⟩, a4, a5, a6, ⟨a7, a8⟩, a9⟩ := h
  exact ⟨⟨(he _ _ (by omega)).trans a1, (he _ _ (by omega)).trans a2, (he _ _ (by omega)).trans a3⟩, fun p hp => ⟨(he _ _ (by omega)).trans (a4 p hp).1, (he _ _ (by omega)).trans (a4 p hp).2⟩, fun k hk => (he _ _ (by omega)).trans (a5 k hk), fun i hi => (he _ _ (by omega)).trans (a6 i hi), ⟨(he _ _ (by omega)).trans a7, (he _ _ (by omega)).trans a8⟩, fun i hi => (he _ _ (by omega)).trans (a9 i hi)⟩
def uN (v : Int64) : Nat := v.toUInt64.toNat
theorem uN_lt (v : Int64) : uN v < 2 ^ 64 := v.toUInt64.toNat_lt
theorem lN_u (v : Int64) : lN (uN v) = v := by
  apply Int64.toBitVec_inj.mp
  show BitVec.ofNat 64 v.toBitVec.toNat = v.toBitVec
  rw [BitVec.ofNat_toNat, BitVec.setWidth_eq]
theorem c11_feed2 (l : Launch) (X : Cx) (d : Nat) (sh : Nat → Option Sh) (mI : Nat → Nat → Int32) (mL : Nat → Nat → Int64) (mR : Nat → Nat → Option Nat) (n : Nat) (hB : BL sh mR) (x : TP) (hx : TcM mI x) (a b c : Int64) (hd : 1 ≤ d) : Cn l X yX11_feed cX11_feed 7 (some .int) d [.ref 0, .long a, .long b, .long c] (sh, mI, mL, mR, n) (fun r M' => r = some (.int (nI (fdN (uN a) (uN b) (uN c) x 24).2)) ∧ ∃ mI', M' = (sh, mI', mL, mR, n) ∧ (∀ b k, b ≠ 1 → ¬ (b = 0 ∧ k = 1) → mI' b k = mI b k) ∧ TcM mI' (fdN (uN a) (uN b) (uN c) x 24)) 0 0 := by
  have := c11_feed l X d sh mI mL mR n hB x hx (uN a) (uN b) (uN c) (uN_lt a) (uN_lt b) (uN_lt c) hd
  rw [lN_u, lN_u, lN_u] at this
  exact this
theorem c12_feed2 (l : Launch) (X : Cx) (d : Nat) (sh : Nat → Option Sh) (mI : Nat → Nat → Int32) (mL : Nat → Nat → Int64) (mR : Nat → Nat → Option Nat) (n : Nat) (hL : ML sh mR) (x : TP) (hx : TpM mI x) (a b c : Int64) : Cn l X yX12_feed cX12_feed 11 (some .int) d [.ref 129, .long a, .long b, .long c] (sh, mI, mL, mR, n) (fun r M' => r = some (.int (nI (fdN (uN a) (uN b) (uN c) x 24).2)) ∧ ∃ mI', M' = (sh, mI', mL, mR, n) ∧ Eqf [130] [0, 1] mI mI' ∧ TpM mI' (fdN (uN a) (uN b) (uN c) x 24)) 0 0 := by
  have := c12_feed l X d sh mI mL mR n hL x hx (uN a) (uN b) (uN c) (uN_lt a) (uN_lt b) (uN_lt c)
  rw [lN_u, lN_u, lN_u] at this
  exact this
set_option maxHeartbeats 1600000 in
set_option maxRecDepth 100000 in
theorem lw_0 (l : Launch) (X : Cx) (N : Nat) (xs : Nat → Int32) (P : Option Value → Mm → Prop) (G : Nat → Nat → Nat → List (Option Value) → List Value → Mm → Prop) (hG : GL l X N xs P G) (sh : Nat → Option Sh) (mI : Nat → Nat → Int32) (mL : Nat → Nat → Int64) (mR : Nat → Nat → Option Nat) (n k q i : Nat) (v5 v6 : Option Value) (hN : N ≤ 3584) (hi : i + 7 ≤ N) (hk : k + 7 ≤ 601024) (hq : q + 1135 ≤ 7293034) (hnk : n ≤ k) (hsc : sh 1000000022 = some (.inr (.int, N))) (hxs : ∀ j, mI 1000000022 j = xs j) (hL : ML sh mR) (h171 : sh 171 = some (.inr (.long, 1))) (A : DD) (Am : Nat → DD) (lf : Nat → Nat) (x : TP) (hC : CI sh mI mL mR n A Am lf x) (hM : MI2 mI A Am lf x) (nx : ∀ v5 v6 M', JJ M' → G (k + 7) (q + 1135) 1081 (lL i v5 v6) [] M') : G k q 164 (lL i v5 v6) [] (sh, mI, mL, mR, n) := by
  obtain ⟨hGa, hWd, hbd, hfx, hcl⟩ := hG
  have q0 := hC.1.1
  have m0 := hL.1
  have hB := hC.1
  have hV := hC.2.2.1
  obtain ⟨C, hS⟩ := hC.2.2.2.1
  have hK := hC.2.2.2.2.1
  unfold lL at nx ⊢
  have hT := hC.2.2.2.2.2.2.1
  have hds := hC.2.2.2.2.2.2.2
  have h172 := hC.2.1
  refine hGa.run [232] 60 ?_
  simp [wp, stepI, ln, jmp, cmpI, Value.category, rd, tyF, va_rf, st1, st2, clr, isLg, CB, inx_0, inx_1, inx_2, inx_3, inx_4, inx_5, bI_0, bI_1, bI_ok, fin3, q0, m0, hsc, dL_law_164, dL_law_165, dL_law_166, dL_law_168, dL_law_169, dL_law_170, dL_law_171, dL_law_172, dL_law_174, dL_law_175, dL_law_176, dL_law_178, dL_law_179, dL_law_180, dL_law_181, dL_law_182, cL_13_19, dL_law_185, dL_law_186, dL_law_187, dL_law_188, dL_law_190, dL_law_191, dL_law_192, dL_law_193, dL_law_194, dL_law_196, dL_law_197, dL_law_198, dL_law_200, dL_law_201, dL_law_202, dL_law_203, dL_law_204, dL_law_207, dL_law_208, dL_law_209, dL_law_210, dL_law_212, dL_law_213, dL_law_214, dL_law_215, dL_law_216, dL_law_218, dL_law_219, dL_law_220, dL_law_222, dL_law_224, dL_law_225, dL_law_226, dL_law_227, dL_law_230, dL_law_231, dL_law_232]
  simp (disch := omega) only [li, nI_add, nI_clamp, nI_ltI, nI_leI, nI_eq, inx_iff, a31, nI_1shl', nI_shr', div_bit, tb1, tb0, fa_or, fa_and, nI_not, pk_sub, nI_dec, hxs]
  refine ⟨by omega, by omega, by omega, by omega, by omega, by omega, ?_⟩
  refine hGa.callV dL_law_232 mv_13_21 [.long _, .long _, .long _] [] (c11_feed2 l X 2000 sh mI mL mR n hB x hT _ _ _ (by decide)) ⟨_, rfl, rfl⟩ q0 (by decide) rfl (by decide) (by simp [Value.category]) rfl ?_
  rintro r M' ⟨rfl, mI1, rfl, f1, T1⟩
  have hxs1 : ∀ j, mI1 1000000022 j = xs j := fun j => (f1 _ _ (by omega) (by omega)).trans (hxs j)
  have P1 : TpM mI1 x := ⟨(f1 _ _ (by omega) (by omega)).trans hM.2.2.2.1.1, hM.2.2.2.1.2.1, fun k hk => ⟨(f1 _ _ (by omega) (by omega)).trans (hM.2.2.2.1.2.2 k hk).1, (hM.2.2.2.1.2.2 k hk).2⟩⟩
  refine hGa.run [303] 60 ?_
  simp [wp, stepI, ln, jmp, cmpI, Value.category, rd, tyF, va_rf, st1, st2, clr, isLg, CB, inx_0, inx_1, inx_2, inx_3, inx_4, inx_5, bI_0, bI_1, bI_ok, fin3, q0, m0, hsc, dL_law_235, dL_law_236, dL_law_237, dL_law_239, dL_law_240, dL_law_241, dL_law_242, dL_law_243, dL_law_245, dL_law_246, dL_law_247, dL_law_249, dL_law_250, dL_law_251, dL_law_252, dL_law_253, cL_13_19, dL_law_256, dL_law_257, dL_law_258, dL_law_259, dL_law_261, dL_law_262, dL_law_263, dL_law_264, dL_law_265, dL_law_267, dL_law_268, dL_law_269, dL_law_271, dL_law_272, dL_law_273, dL_law_274, dL_law_275, dL_law_278, dL_law_279, dL_law_280, dL_law_281, dL_law_283, dL_law_284, dL_law_285, dL_law_286, dL_law_287, dL_law_289, dL_law_290, dL_law_291, dL_law_293, dL_law_295, dL_law_296, dL_law_297, dL_law_298, dL_law_301, dL_law_302, dL_law_303]
  simp (disch := omega) only [li, nI_add, nI_clamp, nI_ltI, nI_leI, nI_eq, inx_iff, a31, nI_1shl', nI_shr', div_bit, tb1, tb0, fa_or, fa_and, nI_not, pk_sub, nI_dec, hxs1]
  refine ⟨by omega, by omega, by omega, by omega, by omega, by omega, ?_⟩
  refine hGa.callV dL_law_303 mv_13_25 [.long _, .long _, .long _] [_] (c12_feed2 l X 2000 sh mI1 mL mR n hL x P1 _ _ _) ⟨_, rfl, rfl⟩ m0 (by decide) rfl (by decide) (by simp [Value.category]) rfl ?_
  rintro r M' ⟨rfl, mI2, rfl, e2, T2⟩
  generalize fdN _ _ _ x 24 = x2 at T1 T2 ⊢
  have o2 := eqf_o e2 (by decide)
  have hh : ∀ a k, ¬ (a = 1) → ¬ (a = 0 ∧ k = 1) → ¬ (129 ≤ a ∧ a ≤ 170) → mI2 a k = mI a k := fun a k h1 h2 h3 => (o2 a k h3).trans (f1 a k h1 h2)
  have S2 : ShA sh mI2 mR n 20 C A := hS.fr3 (Nat.le_refl _) (by omega) (fun _ _ => rfl) rfl (fun _ _ _ _ => rfl) (fun a k h _ => hh a k (by omega) (by omega) (by omega))
  have C2 : CI sh mI2 mL mR n A Am lf x2 := hC.set2 (Nat.le_refl _) (fun _ _ => rfl) hB hV S2 (hK.fr (fun a k h1 h2 => hh a k (by omega) (by omega) (by omega)) (fun _ _ _ _ => rfl)) (fun a k _ h1 h2 h3 h4 h5 => hh a k (by omega) (by omega) (by omega)) (fun _ _ _ _ _ _ => rfl) ⟨(o2 _ _ (by omega)).trans T1.1, T1.2.1, fun k hk => ⟨(o2 _ _ (by omega)).trans (T1.2.2 k hk).1, (T1.2.2 k hk).2⟩⟩ (fun p hp => ⟨(hh _ _ (by omega) (by omega) (by omega)).trans (hds p hp).1, (hh _ _ (by omega) (by omega) (by omega)).trans (hds p hp).2⟩)
  have M2 : MI2 mI2 A Am lf x2 := by
    have hz : MI2 (fun a k => if a = 130 ∨ (a = 129 ∧ k = 1) then mI a k else mI2 a k) A Am lf x := hM.fr (fun a k z => by
      by_cases e : a = 130 ∨ (a = 129 ∧ k = 1)
      · rw [if_pos e]
      · rw [if_neg e]
        refine (e2 a k (fun w => e (Or.inl (List.mem_singleton.mp w))) (fun w => ?_)).trans (f1 a k (by unfold mdC at z; omega) (by unfold mdC at z; omega))
        have : k = 0 ∨ k = 1 := by simpa using w.2
        unfold mdC at z
        omega)
    obtain ⟨z1, z2, z3, z4, ro, z5⟩ := hz
    have g : ∀ a k, ¬ (a = 130 ∨ (a = 129 ∧ k = 1)) → mI2 a k = (fun a k => if a = 130 ∨ (a = 129 ∧ k = 1) then mI a k else mI2 a k) a k := fun a k e => (if_neg e).symm
    refine ⟨z1.fr (fun a k h => g a k (by omega)), ⟨(g _ _ (by omega)).trans z2.1, fun k hk => ⟨(g _ _ (by omega)).trans (z2.2.1 k hk).1, (g _ _ (by omega)).trans (z2.2.1 k hk).2.1, (g _ _ (by omega)).trans (z2.2.1 k hk).2.2⟩, fun p hp => ⟨(g _ _ (by omega)).trans (z2.2.2 p hp).1, (g _ _ (by omega)).trans (z2.2.2 p hp).2⟩⟩, fun m hm => ⟨(g _ _ (by omega)).trans (z3 m hm).1, (z3 m hm).2.1, fun y => ⟨((z3 m hm).2.2 y).1.fr (fun a k h => g a k (by omega)), ⟨(g _ _ (by omega)).trans ((z3 m hm).2.2 y).2.1, fun k hk => ⟨(g _ _ (by omega)).trans (((z3 m hm).2.2 y).2.2.1 k hk).1, (g _ _ (by omega)).trans (((z3 m hm).2.2 y).2.2.1 k hk).2.1, (g _ _ (by omega)).trans (((z3 m hm).2.2 y).2.2.1 k hk).2.2⟩, fun p hp => ⟨(g _ _ (by omega)).trans (((z3 m hm).2.2 y).2.2.2 p hp).1, (g _ _ (by omega)).trans (((z3 m hm).2.2 y).2.2.2 p hp).2⟩⟩⟩⟩, T2, ro, fun k hk => ⟨(g _ _ (by omega)).trans (z5 k hk).1, (z5 k hk).2⟩⟩
  have fin := hWd _ _ _ _ _ _ _ _ (show k + 0 + 0 ≤ k + 7 by omega) (show q + 0 + 0 ≤ q + 1135 by omega) (nx v5 v6 (sh, mI2, mL, mR, n) (⟨hL, h171, A, Am, lf, x2, C2, M2⟩))
  refine hGa.run [1081] 60 ?_
  simp [wp, stepI, ln, jmp, cmpI, Value.category, rd, tyF, va_rf, st1, st2, clr, isLg, CB, inx_0, inx_1, inx_2, inx_3, inx_4, inx_5, bI_0, bI_1, bI_ok, fin3, q0, m0, hsc, dL_law_306, dL_law_309, dL_law_310, dL_law_311]
  exact fin
set_option maxHeartbeats 1600000 in
set_option maxRecDepth 100000 in
theorem lw_20 (l : Launch) (X : Cx) (N : Nat) (xs : Nat → Int32) (P : Option Value → Mm → Prop) (G : Nat → Nat → Nat → List (Option Value) → List Value → Mm → Prop) (hlt : l.stackTraces = false) (hG : GL l X N xs P G) (sh : Nat → Option Sh) (mI : Nat → Nat → Int32) (mL : Nat → Nat → Int64) (mR : Nat → Nat → Option Nat) (n k q i : Nat) (v5 v6 : Option Value) (hN : N ≤ 3584) (hi : i + 7 ≤ N) (hk : k + 7 ≤ 601024) (hq : q + 1135 ≤ 7293034) (hnk : n ≤ k) (hsc : sh 1000000022 = some (.inr (.int, N))) (hxs : ∀ j, mI 1000000022 j = xs j) (hL : ML sh mR) (h171 : sh 171 = some (.inr (.long, 1))) (A : DD) (Am : Nat → DD) (lf : Nat → Nat) (x : TP) (hC : CI sh mI mL mR n A Am lf x) (hM : MI2 mI A Am lf x) (nx : ∀ v5 v6 M', JJ M' → G (k + 7) (q + 1135) 1081 (lL i v5 v6) [] M') : G k q 823 (lL i v5 v6) [] (sh, mI, mL, mR, n) := by
  obtain ⟨hGa, hWd, hbd, hfx, hcl⟩ := hG
  have q0 := hC.1.1
  have m0 := hL.1
  have hB := hC.1
  have hV := hC.2.2.1
  obtain ⟨C, hS⟩ := hC.2.2.2.1
  have hK := hC.2.2.2.2.1
  unfold lL at nx ⊢
  obtain ⟨p1, p2, p3, p4, p5, p6, p7, p8⟩ := hM.m hV
  refine hGa.run [831] 60 ?_
  simp [wp, stepI, ln, jmp, cmpI, Value.category, rd, tyF, va_rf, st1, st2, clr, isLg, CB, inx_0, inx_1, inx_2, inx_3, inx_4, inx_5, bI_0, bI_1, bI_ok, fin3, q0, m0, hsc, dL_law_823, dL_law_824, dL_law_825, dL_law_827, dL_law_828, dL_law_829, dL_law_830, dL_law_831]
  simp (disch := omega) only [li, nI_add, nI_clamp, nI_ltI, nI_leI, nI_eq, inx_iff, a31, nI_1shl', nI_shr', div_bit, tb1, tb0, fa_or, fa_and, nI_not, pk_sub, nI_dec, hxs]
  refine ⟨by omega, ?_⟩
  refine hcl _ _ _ _ _ _ [.ref 0, .int (xs (i + 1)), .ref 171] [] 2000 _ dL_law_831 (cL_hid l hlt X 2000 sh mI mL mR n hB C A hV hS 171 h171 (by decide) (xs (i + 1)) (by decide)) (by decide) rfl (by simp) rfl ?_ (by omega) (by omega)
  rintro r M' ⟨hy, hn⟩
  have eB : hidB mI (A 11) (xs (i + 1)) = hiB A (xs (i + 1)) := by unfold hidB hiB; rw [isP_A p1]
  have go : ∀ (b : Bool) (mL1 : Nat → Nat → Int64) (n1 : Nat), hiB A (xs (i + 1)) = b → n ≤ n1 → (∀ a k, a ≠ 171 → mL1 a k = mL a k) → (b = true → mL1 171 0 = (nI (hidN (A 0 0) (A 11) (A 3) (A 4) (xs (i + 1)).toNatClampNeg)).toInt64) → G (k + 1) (q + 6) 834 [some (.ref 1000000022), some (.ref 0), some (.ref 129), some (.ref 171), some (.int (nI i)), v5, v6] [.int (if b then nI 0 else nI 1)] (sh, mI, mL1, mR, n1) := by
    intro b mL1 n1 hb hn1 hl1 hv
    refine hGa.run [843] 60 ?_
    simp [wp, stepI, ln, jmp, cmpI, Value.category, rd, tyF, va_rf, st1, st2, clr, isLg, CB, inx_0, inx_1, inx_2, inx_3, inx_4, inx_5, bI_0, bI_1, bI_ok, fin3, q0, m0, hsc, dL_law_834, dL_law_836, dL_law_837, dL_law_838, dL_law_840, dL_law_841, dL_law_842, dL_law_843]
    simp (disch := omega) only [li, nI_add, nI_clamp, nI_ltI, nI_leI, nI_eq, inx_iff, a31, nI_1shl', nI_shr', div_bit, tb1, tb0, fa_or, fa_and, nI_not, pk_sub, nI_dec, hxs]
    refine ⟨by omega, ?_⟩
    refine hGa.callV dL_law_843 mv_13_113 [.int (xs (i + 1))] [] (c12_hidden l X 2000 sh mI mL1 mR n1 hL (A 0 0) p1 (A 11) (A 12) (A 3) (A 4) p7 p4 (xs (i + 1)) (by decide)) ⟨_, rfl, rfl⟩ m0 (by decide) rfl (by decide) (by simp [Value.category]) rfl ?_
    rintro r M' ⟨rfl, rfl⟩
    have o2 : ∀ a j, ¬ (129 ≤ a ∧ a ≤ 170) → up2 mI 129 0 (if hidB mI (A 11) (xs (i + 1)) then nI 0 else nI 1) a j = mI a j := fun a j h => up2_ne (by omega)
    have o3 : up2 mI 129 0 (if hidB mI (A 11) (xs (i + 1)) then nI 0 else nI 1) 129 0 = (if b then nI 0 else nI 1) := by rw [up2_eq, eB, hb]
    have M2 : MI2 (up2 mI 129 0 (if hidB mI (A 11) (xs (i + 1)) then nI 0 else nI 1)) A Am lf x := hM.fr (fun a k z => up2_ne (by unfold mdC at z; omega))
    generalize up2 mI 129 0 (if hidB mI (A 11) (xs (i + 1)) then nI 0 else nI 1) = mI2 at o2 o3 M2 ⊢
    have C2 : CI sh mI2 mL1 mR n1 A Am lf x := hC.gen hn1 (fun _ _ => rfl) (fun a k _ h1 h2 => o2 a k h2) (fun _ _ _ _ => rfl) (hK.fr (fun a k h1 h2 => o2 a k (by omega)) (fun a k h1 h2 => hl1 a k (by omega)))
    have fin := fun v5 v6 => hWd _ _ _ _ _ _ _ _ (show k + 1 + 0 + 0 ≤ k + 7 by omega) (show q + 6 + 0 + 0 ≤ q + 1135 by omega) (nx v5 v6 (sh, mI2, mL1, mR, n1) ⟨hL, h171, A, Am, lf, x, C2, M2⟩)
    have hA : hidA mI (A 0 0) (A 11) (A 3) (A 4) (xs (i + 1)) = if b then nI (hidN (A 0 0) (A 11) (A 3) (A 4) (xs (i + 1)).toNatClampNeg) else nI 0 := by unfold hidA; rw [eB, hb]
    rw [hA]
    refine hGa.run [849] 60 ?_
    simp [wp, stepI, ln, jmp, cmpI, Value.category, rd, tyF, va_rf, st1, st2, clr, isLg, CB, inx_0, inx_1, inx_2, inx_3, inx_4, inx_5, bI_0, bI_1, bI_ok, fin3, q0, m0, hsc, dL_law_846, dL_law_848, dL_law_849]
    refine hGa.callV dL_law_849 mv_13_114 [] [] (c12_thrown l X 2000 sh mI2 mL1 mR n1 hL) ⟨_, rfl, rfl⟩ m0 (by decide) rfl (by decide) (by simp [Value.category]) rfl ?_
    rintro r M' ⟨rfl, rfl⟩
    rw [o3]
    cases b with
    | true =>
      have hv := hv rfl
      have fin := fin (some (.int (nI 0))) (some (.int (nI (hidN (A 0 0) (A 11) (A 3) (A 4) (xs (i + 1)).toNatClampNeg))))
      rw [if_pos rfl, if_pos rfl] at *
      refine hGa.run [1081] 60 ?_
      simp [wp, stepI, ln, jmp, cmpI, Value.category, rd, tyF, va_rf, st1, st2, clr, isLg, CB, inx_0, inx_1, inx_2, inx_3, inx_4, inx_5, bI_0, bI_1, bI_ok, fin3, q0, m0, hsc, h171, hv, lg_cmp0, okT, dL_law_852, dL_law_854, dL_law_857, dL_law_858, dL_law_859, dL_law_861, dL_law_864, dL_law_865, dL_law_866, dL_law_867, dL_law_869, dL_law_870, dL_law_871, dL_law_874, dL_law_875, dL_law_876]
      exact ⟨fun _ => fin, fun _ => fin⟩
    | false =>
      have fin := fin (some (.int (nI 1))) (some (.int (nI 0)))
      rw [if_neg (by decide), if_neg (by decide)]
      refine hGa.run [1081] 60 ?_
      simp [wp, stepI, ln, jmp, cmpI, Value.category, rd, tyF, va_rf, st1, st2, clr, isLg, CB, inx_0, inx_1, inx_2, inx_3, inx_4, inx_5, bI_0, bI_1, bI_ok, fin3, q0, m0, hsc, h171, lg_cmp0, okT, dL_law_852, dL_law_854, dL_law_857, dL_law_858, dL_law_859, dL_law_861, dL_law_864, dL_law_865, dL_law_866, dL_law_867, dL_law_869, dL_law_870, dL_law_871, dL_law_874, dL_law_875, dL_law_876]
      exact ⟨fun _ => fin, fun z => absurd z (by decide)⟩
  cases hb : hiB A (xs (i + 1)) with
  | true =>
    obtain ⟨rfl, rfl⟩ := hy hb
    exact go true _ n hb (Nat.le_refl _) (fun a k h => up2_ne (fun z => h z.1)) (fun _ => up2_eq ..)
  | false =>
    obtain ⟨rfl, n1, hn1, rfl⟩ := hn hb
    exact go false mL n1 hb hn1 (fun _ _ _ => rfl) (fun z => by cases z)
