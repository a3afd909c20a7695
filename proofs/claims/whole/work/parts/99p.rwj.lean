/-! the Reader where cells come -/
theorem OL.al {sh sh' : Nat → Option Sh} {mR mR' : Nat → Nat → Option Nat} {S c n b : Nat} {tb : List (Nat × Nat × FieldType × Nat)} (h : OL sh mR S c tb) (hb : ∀ x ∈ tb, x.2.1 ≤ b) (hn : S + b < n) (hs : ∀ a, a < n → sh' a = sh a) (hr : ∀ x ∈ tb, mR' S x.1 = mR S x.1) : OL sh' mR' S c tb := by
  obtain ⟨h1, h2, h3⟩ := h
  refine ⟨(hs _ (by omega)).trans h1, h2, fun x hx => ⟨(hr x hx).trans (h3 x hx).1, ?_⟩⟩
  have := hb x hx
  exact (hs _ (by omega)).trans (h3 x hx).2
theorem RdL.al {sh sh' : Nat → Option Sh} {mR mR' : Nat → Nat → Option Nat} {R C TP n : Nat} (h : RdL sh mR R C TP) (hn : R + 17 < n ∧ C + 5 < n ∧ TP < n) (hs : ∀ a, a < n → sh' a = sh a) (hr : ∀ a k, a < n → ¬ (a = C ∧ k = 7) → mR' a k = mR a k) : RdL sh' mR' R C TP := by
  obtain ⟨h1, h2, h3, h4, h5, h6, h7, h8, h9, h10, h11, h12, h13, h14⟩ := h
  refine ⟨(hs _ (by omega)).trans h1, h2, (hr _ _ (by omega) (by omega)).trans h3, (hr _ _ (by omega) (by omega)).trans h4, ⟨(hr _ _ (by omega) (by omega)).trans h5.1, (hs _ (by omega)).trans h5.2⟩, ⟨(hr _ _ (by omega) (by omega)).trans h6.1, (hs _ (by omega)).trans h6.2⟩, ⟨(hr _ _ (by omega) (by omega)).trans h7.1, (hs _ (by omega)).trans h7.2⟩, h8.al (b := 11) (by decide) (by omega) hs (fun x hx => hr _ _ (by omega) (by omega)), (hr _ _ (by omega) (by omega)).trans h9, h10.al (b := 4) (by decide) (by omega) hs (fun x hx => hr _ _ (by omega) (fun z => ?_)), ⟨(hs _ (by omega)).trans h11.1, h11.2.1, (hr _ _ (by omega) (by omega)).trans h11.2.2.1, (hs _ (by omega)).trans h11.2.2.2.1, h11.2.2.2.2⟩, h12, h13, h14⟩
  have : ∀ x ∈ ob4, x.1 ≠ 7 := by decide
  exact this x hx z.2
theorem RsM.al {sh sh' : Nat → Option Sh} {mI mI' : Nat → Nat → Int32} {mL mL' : Nat → Nat → Int64} {mR mR' : Nat → Nat → Option Nat} {R C TP n : Nat} {t : Nat → Nat} {N p : Nat} (h : RsM sh mI mL mR R C TP t N p) (hn : R + 17 < n ∧ C + 5 < n ∧ TP < n) (hs : ∀ a, a < n → sh' a = sh a) (hi : ∀ a k, a < n → mI' a k = mI a k) (hl : ∀ a k, a < n → mL' a k = mL a k) (hr : ∀ a k, a < n → ¬ (a = C ∧ k = 7) → mR' a k = mR a k) : RsM sh' mI' mL' mR' R C TP t N p := by
  obtain ⟨g1, g2, g3, g4⟩ := h
  have dd := g1.2.2.2.2.2.2.2.2.2.2.2.1
  exact ⟨g1.al hn hs hr, ⟨(hi _ _ (by omega)).trans g2.1, g2.2.1, fun k hk => ⟨(hi _ _ (by omega)).trans (g2.2.2 k hk).1, (g2.2.2 k hk).2⟩⟩, ⟨(hi _ _ (by omega)).trans g3.1, (hi _ _ (by omega)).trans g3.2.1, (hi _ _ (by omega)).trans g3.2.2.1, fun z => (hi _ _ (by omega)).trans (g3.2.2.2.1 z), fun z => (hl _ _ (by omega)).trans (g3.2.2.2.2.1 z), (hr _ _ (by omega) (by omega)).trans g3.2.2.2.2.2⟩, g4⟩
theorem RdD.al {mI mI' : Nat → Nat → Int32} {mL mL' : Nat → Nat → Int64} {R C n : Nat} {D : DD} (h : RdD mI mL R C D) (hn : R + 17 < n ∧ C + 5 < n) (he : ∀ a k, a < n → mI' a k = mI a k) (hl : ∀ a k, a < n → mL' a k = mL a k) : RdD mI' mL' R C D := by
  obtain ⟨⟨a1, a2, a3, a4, a5, a6⟩, b, c, d, e, f⟩ := h
  exact ⟨⟨(he _ _ (by omega)).trans a1, (he _ _ (by omega)).trans a2, (he _ _ (by omega)).trans a3, (he _ _ (by omega)).trans a4, (he _ _ (by omega)).trans a5, (he _ _ (by omega)).trans a6⟩, fun p hp => ⟨(hl _ _ (by omega)).trans (b p hp).1, (b p hp).2.1, (he _ _ (by omega)).trans (b p hp).2.2.1, (he _ _ (by omega)).trans (b p hp).2.2.2⟩, fun k hk => (he _ _ (by omega)).trans (c k hk), fun k hk => ⟨(he _ _ (by omega)).trans (d k hk).1, (he _ _ (by omega)).trans (d k hk).2.1, (he _ _ (by omega)).trans (d k hk).2.2⟩, fun i hi => (he _ _ (by omega)).trans (e i hi), fun a ha => by
    obtain ⟨lt, f1, f2⟩ := f a ha
    exact ⟨lt, (he _ _ (by omega)).trans f1, f2⟩⟩
theorem RdD.wt {mI mI' : Nat → Nat → Int32} {mL : Nat → Nat → Int64} {R C : Nat} {D : DD} (h : RdD mI mL R C D) (hd : R + 17 < C ∨ C + 5 < R) (hm : mI' = up2 (up2 mI R 7 (nI 1)) R 5 (nI 0)) : RdD mI' mL R C (up2 D 0 5 1) := by
  obtain ⟨a1, a2, a3, a4, a5, a6⟩ := h.1
  have f1 : ∀ a k, ¬ (a = R ∧ k = 7) → ¬ (a = R ∧ k = 5) → mI' a k = mI a k := fun a k y z => by rw [hm, up2_ne z, up2_ne y]
  refine h.sc hd (fun a k z _ => f1 a k (fun y => z y.1) (fun y => z y.1)) (fun i hi => funext (fun k => up2_ne (fun y => hi y.1))) ⟨up2_ne (fun y => by cases y.2), up2_ne (fun y => by cases y.2), up2_ne (fun y => by cases y.2)⟩ ⟨?_, ?_, ?_, ?_, ?_, ?_⟩
  · rw [f1 _ _ (by omega) (by omega), up2_ne (fun y => by cases y.2)]; exact a1
  · rw [f1 _ _ (by omega) (by omega), up2_ne (fun y => by cases y.2)]; exact a2
  · rw [f1 _ _ (by omega) (by omega), up2_ne (fun y => by cases y.2)]; exact a3
  · rw [f1 _ _ (by omega) (by omega), up2_ne (fun y => by cases y.2)]; exact a4
  · rw [f1 _ _ (by omega) (by omega), up2_ne (fun y => by cases y.2)]; exact a5
  · rw [hm, up2_ne (fun y => by cases y.2), up2_eq, up2_eq]
theorem RdD.wf {mI mI' : Nat → Nat → Int32} {mL mL' : Nat → Nat → Int64} {mR mR' : Nat → Nat → Option Nat} {R C c : Nat} {D : DD} (h : RdD mI mL R C D) (hd : R + 17 < C ∨ C + 5 < R) (hF : WiF R c mI mL mR mI' mL' mR') : RdD mI' mL' R C D := by
  obtain ⟨h1, -, h2, -⟩ := hF
  unfold rdW at h1
  obtain ⟨⟨a1, a2, a3, a4, a5, a6⟩, b, c, d, e, f⟩ := h
  refine ⟨⟨(h1 _ _ (by omega) (by omega) (by omega)).trans a1, (h1 _ _ (by omega) (by omega) (by omega)).trans a2, (h1 _ _ (by omega) (by omega) (by omega)).trans a3, (h1 _ _ (by omega) (by omega) (by omega)).trans a4, (h1 _ _ (by omega) (by omega) (by omega)).trans a5, (h1 _ _ (by omega) (by omega) (by omega)).trans a6⟩, fun p hp => ⟨(h2 _ _ (by omega)).trans (b p hp).1, (b p hp).2.1, (h1 _ _ (by omega) (by omega) (by omega)).trans (b p hp).2.2.1, (h1 _ _ (by omega) (by omega) (by omega)).trans (b p hp).2.2.2⟩, fun k hk => (h1 _ _ (by omega) (by omega) (by omega)).trans (c k hk), fun k hk => ⟨(h1 _ _ (by omega) (by omega) (by omega)).trans (d k hk).1, (h1 _ _ (by omega) (by omega) (by omega)).trans (d k hk).2.1, (h1 _ _ (by omega) (by omega) (by omega)).trans (d k hk).2.2⟩, fun i hi => (h1 _ _ (by omega) (by omega) (by omega)).trans (e i hi), fun a ha => ?_⟩
  obtain ⟨lt, f1, f2⟩ := f a ha
  exact ⟨lt, (h1 _ _ (by omega) (by omega) (by omega)).trans f1, f2⟩
theorem WiF.ln {R C c : Nat} {mI mI' : Nat → Nat → Int32} {mL mL' : Nat → Nat → Int64} {mR mR' : Nat → Nat → Option Nat} (h : WiF R c mI mL mR mI' mL' mR') : lnF R C mI mL mR mI' mL' mR' := ⟨fun a k z => h.1 a k (fun y => z (by unfold rdW at y; unfold lnW; omega)) (fun y => z (by unfold lnW; omega)) (fun y => z (by unfold lnW; omega)), fun a k z _ => h.2.2.1 a k z, h.2.2.2⟩
theorem LgP.bad {sh : Nat → Option Sh} {mI mI1 : Nat → Nat → Int32} {mL mL1 : Nat → Nat → Int64} {mR mR1 : Nat → Nat → Option Nat} {n R C TP : Nat} {t : Nat → Nat} {N : Nat} {q : PR} {e : Nat × Nat} (hF : lnF R C mI mL mR mI1 mL1 mR1) (hq : q = .inl e) (hf : mI1 R 10 = nI (e.1 + 16 * e.2)) : LgP sh mI mL mR n R C TP t N q (some (.int (nI 0))) (sh, mI1, mL1, mR1, n) := by
  refine ⟨sh, mI1, mL1, mR1, n, rfl, ⟨Nat.le_refl _, by omega⟩, fun _ _ => rfl, fun a k _ z => hF.1 a k z, fun a k _ z y => hF.2.1 a k z y, fun a k _ z _ => hF.2.2 a k z, fun x hx => ?_, fun e' he => ?_⟩
  · rw [hq] at hx; cases hx
  · rw [hq] at he
    have := Sum.inl.inj he
    subst this
    exact ⟨rfl, hf⟩
set_option maxHeartbeats 800000 in
set_option maxRecDepth 100000 in
theorem c3_readWish (l : Launch) (X : Cx) (d : Nat) (sh : Nat → Option Sh) (mI : Nat → Nat → Int32) (mL : Nat → Nat → Int64) (mR : Nat → Nat → Option Nat) (n : Nat) (R C TP : Nat) (t : Nat → Nat) (N p : Nat) (hS : RsM sh mI mL mR R C TP t N p) (D : DD) (hD : RdD mI mL R C D) (hV : DrV D) (hn : R + 17 < n ∧ C + 5 < n ∧ TP < n) (hn2 : n < 10000000) (hRC : R + 17 < C) (h5 : D 0 5 = 0) (hk : lxK t N p ≠ 0) (hd : 59 ≤ d) : Cn l X yX3_readWish cX3_readWish 1 (some .boolean) d [.ref R] (sh, mI, mL, mR, n) (LgP sh mI mL mR n R C TP t N (rdWish t N p D)) 1 1000 := by
  refine Cn.runA 3 false (by decide) rfl (by decide) (by simp [entA, Value.category]) ?_
  intro P G hP hG
  unfold rdWish rdWishB at hP
  rw [if_pos h5] at hP
  have S0 := hS
  obtain ⟨g1, g2, g3, g4⟩ := hS
  have pk := lxE_s g4 hk
  obtain ⟨p1, hp1⟩ : ∃ x, x = lxE t N p := ⟨_, rfl⟩
  rw [← hp1] at hP pk
  have q0 := g1.1
  have xR : R < 1000000000 := by have := g1.2.1; omega
  have r0 := g1.2.2.1
  have r1 := g1.2.2.2.1
  have k0 := g1.2.2.2.2.2.2.2.2.2.2.1.1
  have di := g1.2.2.2.2.2.2.2.2.2.2.2.1
  have dt := g1.2.2.2.2.2.2.2.2.2.2.2.2.1
  have st := hD.1.2.2.2.2.2
  rw [h5] at st
  have N1 : N ≤ 1000 := g2.2.1
  refine hG.run [27] 60 ?_
  simp [wp, stepI, ln, jmp, cmpI, Value.category, rd, tyF, vrs, vrn, ex_rr, ex_rn, ex_nr, ex_nn, okA_s, okA_n, st1, st2, clr, isLg, CB, inx_0, inx_1, inx_2, inx_3, inx_4, inx_5, bI_0, bI_1, bI_ok, fin3, tyX3, entL, q0, r0, r1, k0, tyX8, st, okv, wr, finF, clT, TX3, xR, dX3_readWish_0, dX3_readWish_1, fT_3_57, dX3_readWish_4, dX3_readWish_7, dX3_readWish_8, dX3_readWish_9, dX3_readWish_12, dX3_readWish_13, dX3_readWish_14, dX3_readWish_15, dX3_readWish_18, dX3_readWish_19, dX3_readWish_20, fT_3_187, dX3_readWish_23, dX3_readWish_24, fT_3_21, dX3_readWish_27, dX3_readWish_30, dX3_readWish_31, dX3_readWish_32, dX3_readWish_33, dX3_readWish_36, dX3_readWish_39, dX3_readWish_40, dX3_readWish_42, dX3_readWish_45, dX3_readWish_48, dX3_readWish_49, dX3_readWish_50, dX3_readWish_51, fT_3_12, dX3_readWish_54, fT_3_39, dX3_readWish_57, dX3_readWish_58, fT_3_33, dX3_readWish_61, dX3_readWish_62, dX3_readWish_65, dX3_readWish_68, fT_3_198, dX3_readWish_71, dX3_readWish_72]
  simp only [li]
  obtain ⟨mI1, hmI1⟩ : ∃ m, m = up2 (up2 mI R 7 (nI 1)) R 5 (nI 0) := ⟨_, rfl⟩
  rw [← hmI1]
  refine ⟨fun _ => ?_, fun z => absurd trivial z⟩
  have f1 : ∀ a k, ¬ (a = R ∧ k = 7) → ¬ (a = R ∧ k = 5) → mI1 a k = mI a k := fun a k y z => by rw [hmI1, up2_ne z, up2_ne y]
  have S1 : RsM sh mI1 mL mR R C TP t N p := S0.fr (fun k => f1 _ _ (by omega) (by omega)) (fun k => f1 _ _ (by omega) (by omega)) rfl (fun _ _ => rfl)
  have D1 : RdD mI1 mL R C (up2 D 0 5 1) := hD.wt di hmI1
  have F1 : lnF R C mI mL mR mI1 mL mR := by rw [hmI1]; exact (lnF.up _ (by unfold lnW; omega)).trans (lnF.up _ (by unfold lnW; omega))
  refine hG.callV dX3_readWish_27 mv_3_123 [] [] (c8_step l X (d - 1) sh mI1 mL mR n (R + 13) TP S1.1.2.2.2.2.2.2.2.2.2.2.1 t N S1.2.1 (lxE t N p) (lxE_le g4).2 S1.2.2.1.1 (by omega)) ⟨_, rfl, rfl⟩ k0 (by omega) rfl (by decide) (by simp [Value.category]) rfl ?_
  rintro r M' ⟨rfl, mI2, mL2, mR2, rfl, k1, k2, k3, k4⟩
  have S2 := S1.nx k1 k3 k4
  rw [← hp1] at S2
  have D2 := D1.nx di k1 k2
  have F2 := F1.trans (lnF.tk (C := C) (fun a k h => k1 a k (fun y => h (Or.inl y))) k2 k3)
  have z2 : mI2 R 10 = mI R 10 := (k1 _ _ (by omega)).trans (f1 _ _ (by omega) (by omega))
  have c2 : mI2 R 5 = nI 0 := (k1 _ _ (by omega)).trans (by rw [hmI1, up2_eq])
  obtain ⟨q, hq⟩ := cp_fuel (t := t) (N := N) (10 * (N - p1) + 5) 0 0 0 p1 pk.2 (by rw [if_pos (by decide)]; omega)
  have ww := wish_w N1 pk.2 (by omega) hq
  refine hG.run [33] 60 ?_
  simp [wp, stepI, ln, jmp, cmpI, Value.category, rd, tyF, vrs, vrn, ex_rr, ex_rn, ex_nr, ex_nn, okA_s, okA_n, st1, st2, clr, isLg, CB, inx_0, inx_1, inx_2, inx_3, inx_4, inx_5, bI_0, bI_1, bI_ok, fin3, tyX3, entL, q0, dX3_readWish_0, dX3_readWish_1, fT_3_57, dX3_readWish_4, dX3_readWish_7, dX3_readWish_8, dX3_readWish_9, dX3_readWish_12, dX3_readWish_13, dX3_readWish_14, dX3_readWish_15, dX3_readWish_18, dX3_readWish_19, dX3_readWish_20, fT_3_187, dX3_readWish_23, dX3_readWish_24, fT_3_21, dX3_readWish_27, dX3_readWish_30, dX3_readWish_31, dX3_readWish_32, dX3_readWish_33, dX3_readWish_36, dX3_readWish_39, dX3_readWish_40, dX3_readWish_42, dX3_readWish_45, dX3_readWish_48, dX3_readWish_49, dX3_readWish_50, dX3_readWish_51, fT_3_12, dX3_readWish_54, fT_3_39, dX3_readWish_57, dX3_readWish_58, fT_3_33, dX3_readWish_61, dX3_readWish_62, dX3_readWish_65, dX3_readWish_68, fT_3_198, dX3_readWish_71, dX3_readWish_72]
  simp only [li]
  refine hG.callV dX3_readWish_33 mv_3_190 [.int (nI 0), .int (nI 0)] [] ((c3_rd l X t N _).2 _ (Nat.le_refl _) (d - 1) sh mI2 mL2 mR2 n R C TP 0 0 p1 0 q S2 c2 (Nat.zero_le _) (by omega) (by omega) (by omega) hq) ⟨_, rfl, rfl⟩ q0 (by omega) rfl (by decide) (by simp [Value.category]) rfl ?_
  rintro r M' ⟨mI3, mL3, mR3, rfl, F3, b1, b2⟩
  rcases q with e | x
  · obtain ⟨rfl, b3⟩ := b2 e rfl
    have w1 := ww.1 e rfl
    have qq := hP _ _ (LgP.bad (F2.trans F3.ln) (by rw [w1]) b3)
    refine hG.run [] 60 ?_
    simp [wp, stepI, ln, jmp, cmpI, Value.category, rd, tyF, vrs, vrn, ex_rr, ex_rn, ex_nr, ex_nn, okA_s, okA_n, st1, st2, clr, isLg, CB, inx_0, inx_1, inx_2, inx_3, inx_4, inx_5, bI_0, bI_1, bI_ok, fin3, tyX3, entL, q0, nI00, nI10, dX3_readWish_0, dX3_readWish_1, fT_3_57, dX3_readWish_4, dX3_readWish_7, dX3_readWish_8, dX3_readWish_9, dX3_readWish_12, dX3_readWish_13, dX3_readWish_14, dX3_readWish_15, dX3_readWish_18, dX3_readWish_19, dX3_readWish_20, fT_3_187, dX3_readWish_23, dX3_readWish_24, fT_3_21, dX3_readWish_27, dX3_readWish_30, dX3_readWish_31, dX3_readWish_32, dX3_readWish_33, dX3_readWish_36, dX3_readWish_39, dX3_readWish_40, dX3_readWish_42, dX3_readWish_45, dX3_readWish_48, dX3_readWish_49, dX3_readWish_50, dX3_readWish_51, fT_3_12, dX3_readWish_54, fT_3_39, dX3_readWish_57, dX3_readWish_58, fT_3_33, dX3_readWish_61, dX3_readWish_62, dX3_readWish_65, dX3_readWish_68, fT_3_198, dX3_readWish_71, dX3_readWish_72]
    exact qq
  obtain ⟨rfl, S3, z3, W3⟩ := b1 x rfl
  have lnx := cp_len _ _ _ _ _ _ pk.2 hq
  have D3 := D2.wf di F3
  have F3' := F2.trans (F3.ln (C := C))
  refine hG.run [42] 60 ?_
  simp [wp, stepI, ln, jmp, cmpI, Value.category, rd, tyF, vrs, vrn, ex_rr, ex_rn, ex_nr, ex_nn, okA_s, okA_n, st1, st2, clr, isLg, CB, inx_0, inx_1, inx_2, inx_3, inx_4, inx_5, bI_0, bI_1, bI_ok, fin3, tyX3, entL, q0, nI00, nI10, dX3_readWish_0, dX3_readWish_1, fT_3_57, dX3_readWish_4, dX3_readWish_7, dX3_readWish_8, dX3_readWish_9, dX3_readWish_12, dX3_readWish_13, dX3_readWish_14, dX3_readWish_15, dX3_readWish_18, dX3_readWish_19, dX3_readWish_20, fT_3_187, dX3_readWish_23, dX3_readWish_24, fT_3_21, dX3_readWish_27, dX3_readWish_30, dX3_readWish_31, dX3_readWish_32, dX3_readWish_33, dX3_readWish_36, dX3_readWish_39, dX3_readWish_40, dX3_readWish_42, dX3_readWish_45, dX3_readWish_48, dX3_readWish_49, dX3_readWish_50, dX3_readWish_51, fT_3_12, dX3_readWish_54, fT_3_39, dX3_readWish_57, dX3_readWish_58, fT_3_33, dX3_readWish_61, dX3_readWish_62, dX3_readWish_65, dX3_readWish_68, fT_3_198, dX3_readWish_71, dX3_readWish_72]
  simp only [li]
  refine hG.callV dX3_readWish_42 mv_3_156 [.int (nI 59)] [] (c3_takeSign l X (d - 1) sh mI3 mL3 mR3 n R C TP t N x.1 S3 59 (by omega) (by omega) (by omega)) ⟨_, rfl, rfl⟩ q0 (by omega) rfl (by decide) (by simp [Value.category]) rfl ?_
  rintro r M' ⟨mI4, mL4, mR4, rfl, a1, a2, a3, a4, a5⟩
  have F4 := F3'.trans (lnF.tk (C := C) a1 a2 a3)
  cases hs : sgF t N x.1 59 with
  | some e =>
    have w1 := (ww.2 x rfl).1 e hs
    obtain ⟨rfl, b5⟩ := a5 e hs
    have qq := hP _ _ (LgP.bad F4 (by rw [w1]) b5)
    refine hG.run [] 60 ?_
    simp [wp, stepI, ln, jmp, cmpI, Value.category, rd, tyF, vrs, vrn, ex_rr, ex_rn, ex_nr, ex_nn, okA_s, okA_n, st1, st2, clr, isLg, CB, inx_0, inx_1, inx_2, inx_3, inx_4, inx_5, bI_0, bI_1, bI_ok, fin3, tyX3, entL, q0, nI00, nI10, dX3_readWish_0, dX3_readWish_1, fT_3_57, dX3_readWish_4, dX3_readWish_7, dX3_readWish_8, dX3_readWish_9, dX3_readWish_12, dX3_readWish_13, dX3_readWish_14, dX3_readWish_15, dX3_readWish_18, dX3_readWish_19, dX3_readWish_20, fT_3_187, dX3_readWish_23, dX3_readWish_24, fT_3_21, dX3_readWish_27, dX3_readWish_30, dX3_readWish_31, dX3_readWish_32, dX3_readWish_33, dX3_readWish_36, dX3_readWish_39, dX3_readWish_40, dX3_readWish_42, dX3_readWish_45, dX3_readWish_48, dX3_readWish_49, dX3_readWish_50, dX3_readWish_51, fT_3_12, dX3_readWish_54, fT_3_39, dX3_readWish_57, dX3_readWish_58, fT_3_33, dX3_readWish_61, dX3_readWish_62, dX3_readWish_65, dX3_readWish_68, fT_3_198, dX3_readWish_71, dX3_readWish_72]
    exact qq
  | none =>
    obtain ⟨cs, w1, w2⟩ := (ww.2 x rfl).2 hs
    obtain ⟨rfl, S4, z4, -⟩ := a4 hs
    have D4 := D3.fr di a1 a2
    have W4 := W3.tk a1
    rw [w1] at hP
    have m0 := S4.1.2.2.1
    have s6 := S4.1.2.2.2.2.2.2.2.1.1
    have m1 := S4.1.2.2.2.2.2.2.2.2.1
    have c4 := S4.1.2.2.2.2.2.2.2.2.2.1.1
    have ms := S4.1.2.2.2.2.2.2.1
    have xC : C < 1000000000 := by omega
    have ct := W4.1
    rw [Nat.zero_add] at ct
    refine hG.run [65] 60 ?_
    simp [wp, stepI, ln, jmp, cmpI, Value.category, rd, tyF, vrs, vrn, ex_rr, ex_rn, ex_nr, ex_nn, okA_s, okA_n, st1, st2, clr, isLg, CB, inx_0, inx_1, inx_2, inx_3, inx_4, inx_5, bI_0, bI_1, bI_ok, fin3, tyX3, entL, q0, nI00, nI10, m0, s6, m1, c4, ms, tyX6, tyX4, dX3_readWish_0, dX3_readWish_1, fT_3_57, dX3_readWish_4, dX3_readWish_7, dX3_readWish_8, dX3_readWish_9, dX3_readWish_12, dX3_readWish_13, dX3_readWish_14, dX3_readWish_15, dX3_readWish_18, dX3_readWish_19, dX3_readWish_20, fT_3_187, dX3_readWish_23, dX3_readWish_24, fT_3_21, dX3_readWish_27, dX3_readWish_30, dX3_readWish_31, dX3_readWish_32, dX3_readWish_33, dX3_readWish_36, dX3_readWish_39, dX3_readWish_40, dX3_readWish_42, dX3_readWish_45, dX3_readWish_48, dX3_readWish_49, dX3_readWish_50, dX3_readWish_51, fT_3_12, dX3_readWish_54, fT_3_39, dX3_readWish_57, dX3_readWish_58, fT_3_33, dX3_readWish_61, dX3_readWish_62, dX3_readWish_65, dX3_readWish_68, fT_3_198, dX3_readWish_71, dX3_readWish_72]
    rw [ct]
    refine hG.callS dX3_readWish_65 ms_3_194 [.ref (R + 17), .int (nI x.2.length)] [.ref C] (cJ_copyOf l X (d - 1) sh mI4 mL4 mR4 n (R + 17) 1000 ms.2 (by omega) (by omega) (by omega) x.2.length (by omega) (by omega)) (by omega) rfl (by decide) (by simp [Value.category]) rfl ?_ (by omega) (by omega)
    rintro r M' ⟨rfl, mI5, rfl, e1, e2⟩
    have c45 : (upS sh n (.inr (.int, x.2.length))) C = some (.inl 4) := by unfold upS; rw [if_neg (by omega)]; exact c4
    have wi0 : WiR (upS sh n (.inr (.int, x.2.length))) mI5 (up2 (up0 mR4 n none) C 7 (some n)) C (n + 1) cs.length (fun i => cs.getD i 0) := ⟨n, x.2, up2_eq .., by unfold upS; rw [if_pos rfl], by omega, by omega, by omega, fun i hi => (e2 i hi).trans (by have := W4.2 i hi; rw [Nat.zero_add] at this; exact this), Or.inr ⟨w2.ne, cs, rfl, fun _ _ => rfl, w2⟩⟩
    have fs : ∀ a, a < n → (upS sh n (.inr (.int, x.2.length))) a = sh a := fun a ha => by unfold upS; rw [if_neg (by omega)]
    have fr : ∀ a k, a < n → ¬ (a = C ∧ k = 7) → up2 (up0 mR4 n none) C 7 (some n) a k = mR4 a k := fun a k ha hz => by rw [up2_ne hz]; unfold up0; rw [if_neg (by omega)]
    have fl : ∀ a k, a < n → up0 mL4 n 0 a k = mL4 a k := fun a k ha => by unfold up0; rw [if_neg (by omega)]
    have fi : ∀ a k, a < n → mI5 a k = mI4 a k := fun a k ha => e1 a k (by omega)
    have S5 := S4.al hn fs fi fl fr
    have D5 : RdD mI5 (up0 mL4 n 0) R C (wsD (up2 D 0 5 1) cs) := RdD.wsd (D4.al ⟨hn.1, hn.2.1⟩ fi fl) (fun _ _ => rfl)
    have qq := hP (some (.int (nI 1))) _ ⟨_, mI5, up0 mL4 n 0, up2 (up0 mR4 n none) C 7 (some n), n + 1, rfl, ⟨by omega, by omega⟩, fs, fun a k ha hz => (fi a k ha).trans (F4.1 a k hz), fun a k ha hz hy => (fl a k ha).trans (F4.2.1 a k hz hy), fun a k ha hz hy => (fr a k ha hy).trans (F4.2.2 a k hz), fun y hy => by
      have hy := Sum.inr.inj hy
      subst hy
      exact ⟨rfl, S5, D5, wi0, (fi _ _ (by omega)).trans ((z4.trans z3).trans z2)⟩, fun e he => by cases he⟩
    refine hG.run [] 60 ?_
    simp [wp, stepI, ln, jmp, cmpI, Value.category, rd, tyF, vrs, vrn, ex_rr, ex_rn, ex_nr, ex_nn, okA_s, okA_n, st1, st2, clr, isLg, CB, inx_0, inx_1, inx_2, inx_3, inx_4, inx_5, bI_0, bI_1, bI_ok, fin3, tyX3, entL, q0, c45, okv, wr, finF, clT, TX4, xC, tyX4, dX3_readWish_0, dX3_readWish_1, fT_3_57, dX3_readWish_4, dX3_readWish_7, dX3_readWish_8, dX3_readWish_9, dX3_readWish_12, dX3_readWish_13, dX3_readWish_14, dX3_readWish_15, dX3_readWish_18, dX3_readWish_19, dX3_readWish_20, fT_3_187, dX3_readWish_23, dX3_readWish_24, fT_3_21, dX3_readWish_27, dX3_readWish_30, dX3_readWish_31, dX3_readWish_32, dX3_readWish_33, dX3_readWish_36, dX3_readWish_39, dX3_readWish_40, dX3_readWish_42, dX3_readWish_45, dX3_readWish_48, dX3_readWish_49, dX3_readWish_50, dX3_readWish_51, fT_3_12, dX3_readWish_54, fT_3_39, dX3_readWish_57, dX3_readWish_58, fT_3_33, dX3_readWish_61, dX3_readWish_62, dX3_readWish_65, dX3_readWish_68, fT_3_198, dX3_readWish_71, dX3_readWish_72]
    exact qq
