/-! the draft of a school: D 0 counts (0 pupils, 1 benches, 2 sayings, 3 slip, 4 slip told, 5 wish told, 6 codes), D 1 names, D 2 kinds, D 3 heights, D 4 rows, D 5 D 6 D 7 sayings, D 8 likings, D 9 likings told, D 10 codes -/
abbrev DD : Type := Nat → Nat → Nat
def DrV (D : DD) : Prop := (D 0 0 ≤ 10 ∧ D 0 1 ≤ 6 ∧ D 0 2 ≤ 40 ∧ D 0 3 ≤ 3 ∧ D 0 4 ≤ 1 ∧ D 0 5 ≤ 1 ∧ D 0 6 ≤ 1000 ∧ (D 0 5 = 0 → D 0 6 = 0)) ∧ (∀ p, p < D 0 0 → D 1 p < 2 ^ 63 ∧ D 2 p < 5 ∧ D 3 p ≤ 99) ∧ (∀ k, k < 6 → D 4 k ≤ 9) ∧ (∀ k, k < D 0 2 → D 5 k < D 0 0 ∧ D 6 k < D 0 0 ∧ D 5 k ≠ D 6 k ∧ D 7 k < 2) ∧ (∀ i, i < 100 → D 8 i ≤ 99 ∧ D 9 i ≤ 1) ∧ ∀ i, i < D 0 6 → D 10 i ≤ 10099
def DrM (mI : Nat → Nat → Int32) (mL : Nat → Nat → Int64) (D : DD) : Prop := (mI 131 1 = nI (D 0 0) ∧ mI 132 1 = nI (D 0 1) ∧ mI 142 0 = nI (D 0 2) ∧ mI 133 1 = nI (D 0 3) ∧ mI 129 24 = nI (D 0 4) ∧ mI 129 25 = nI (D 0 5) ∧ mI 139 1 = nI 1000 ∧ mI 140 1 = nI (1000 + D 0 6) ∧ (D 0 5 = 0 → mI 129 23 = nI 1000)) ∧ (∀ p, p < D 0 0 → mL 134 p = lN (D 1 p) ∧ mI 135 (10 + p) = nI (D 2 p) ∧ mI 136 (10 + p) = nI (D 3 p)) ∧ (∀ k, k < 6 → mI 137 (6 + k) = nI (D 4 k)) ∧ (∀ k, k < D 0 2 → mI 142 (1 + k) = nI (D 5 k) ∧ mI 142 (41 + k) = nI (D 6 k) ∧ mI 142 (81 + k) = nI (D 7 k)) ∧ (∀ k, 121 ≤ k → k < 144 → mI 142 k = nI 0) ∧ (∀ i, i < 100 → mI 138 (100 + i) = nI (D 8 i) ∧ mI 143 i = nI (D 9 i)) ∧ ∀ i, i < D 0 6 → mI 141 (1000 + i) = nI (D 10 i)
def noF : List Nat := [24, 25, 23]
theorem DrM.eqf {F : List Nat} {mI mI' : Nat → Nat → Int32} {mL mL' : Nat → Nat → Int64} {D : DD} (h : DrM mI mL D) (he : Eqf [] F mI mI') (hF : ∀ k ∈ noF, k ∉ F) (hl : EqL [129] mL mL') : DrM mI' mL' D := by
  have e1 : ∀ a k, a ≠ 129 → mI' a k = mI a k := fun a k ha => he a k (by simp) (fun z => ha z.1)
  have e2 : ∀ k, k ∈ noF → mI' 129 k = mI 129 k := fun k hk => he _ k (by simp) (fun z => hF k hk z.2)
  have e3 : ∀ a k, a ≠ 129 → mL' a k = mL a k := fun a k ha => hl a k (by simpa using ha)
  obtain ⟨⟨a1, a2, a3, a4, a5, a6, a7, a8, a9⟩, b, c, dd, e, f, g⟩ := h
  refine ⟨⟨?_, ?_, ?_, ?_, ?_, ?_, ?_, ?_, fun z => ?_⟩, fun p hp => ⟨?_, ?_, ?_⟩, fun k hk => ?_, fun k hk => ⟨?_, ?_, ?_⟩, fun k h1 h2 => ?_, fun i hi => ⟨?_, ?_⟩, fun i hi => ?_⟩
  · rw [e1 _ _ (by decide)]; exact a1
  · rw [e1 _ _ (by decide)]; exact a2
  · rw [e1 _ _ (by decide)]; exact a3
  · rw [e1 _ _ (by decide)]; exact a4
  · rw [e2 _ (by decide)]; exact a5
  · rw [e2 _ (by decide)]; exact a6
  · rw [e1 _ _ (by decide)]; exact a7
  · rw [e1 _ _ (by decide)]; exact a8
  · rw [e2 _ (by decide)]; exact a9 z
  · rw [e3 _ _ (by decide)]; exact (b p hp).1
  · rw [e1 _ _ (by decide)]; exact (b p hp).2.1
  · rw [e1 _ _ (by decide)]; exact (b p hp).2.2
  · rw [e1 _ _ (by decide)]; exact c k hk
  · rw [e1 _ _ (by decide)]; exact (dd k hk).1
  · rw [e1 _ _ (by decide)]; exact (dd k hk).2.1
  · rw [e1 _ _ (by decide)]; exact (dd k hk).2.2
  · rw [e1 _ _ (by decide)]; exact e k h1 h2
  · rw [e1 _ _ (by decide)]; exact (f i hi).1
  · rw [e1 _ _ (by decide)]; exact (f i hi).2
  · rw [e1 _ _ (by decide)]; exact g i hi
/-- what a reader may change -/
def rdR (a k : Nat) : Bool := (decide (a = 129) && decide (k ∈ [4, 5, 6, 8, 9, 23, 24, 25, 38, 39, 40])) || decide (a ∈ [142, 143, 144, 145]) || (decide (a ∈ [131, 132, 133, 139, 140]) && decide (k = 1)) || (decide (a ∈ [135, 136]) && (decide (10 ≤ k) && decide (k < 20))) || (decide (a = 137) && (decide (6 ≤ k) && decide (k < 12))) || (decide (a = 138) && (decide (100 ≤ k) && decide (k < 200))) || (decide (a = 141) && (decide (1000 ≤ k) && decide (k < 2000)))
/-- rows of benches that a reading may have told -/
def RwO (f : Nat → Nat → Int32) : Prop := ∀ k, k < 6 → ∃ v : Nat, v ≤ 9 ∧ f 137 (6 + k) = nI v
def EqR (f g : Nat → Nat → Int32) : Prop := (∀ a k, rdR a k = false → g a k = f a k) ∧ (RwO f → RwO g)
theorem EqR.rf {f : Nat → Nat → Int32} : EqR f f := ⟨fun _ _ _ => rfl, fun h => h⟩
theorem EqR.tr {f g h : Nat → Nat → Int32} (h1 : EqR f g) (h2 : EqR g h) : EqR f h := ⟨fun a k hk => (h2.1 a k hk).trans (h1.1 a k hk), fun z => h2.2 (h1.2 z)⟩
theorem EqR.up0 {f g : Nat → Nat → Int32} {a k : Nat} {v : Int32} (h : ∀ a k, rdR a k = false → g a k = f a k) (ha : rdR a k = true) : ∀ b j, rdR b j = false → up2 g a k v b j = f b j := fun b j hb => by
  have hn : ¬ (b = a ∧ j = k) := fun z => by rw [z.1, z.2, ha] at hb; cases hb
  rw [up2_ne hn]
  exact h b j hb
theorem EqR.up {f g : Nat → Nat → Int32} {a k : Nat} {v : Int32} (h : EqR f g) (ha : rdR a k = true) (hn : a ≠ 137 := by decide) : EqR f (up2 g a k v) := ⟨EqR.up0 h.1 ha, fun z j hj => by
  obtain ⟨w, h1, h2⟩ := h.2 z j hj
  exact ⟨w, h1, (up2_ne (fun y => hn y.1.symm)).trans h2⟩⟩
theorem EqR.upw {f g : Nat → Nat → Int32} {k w : Nat} (h : EqR f g) (ha : rdR 137 k = true) (hw : w ≤ 9) : EqR f (up2 g 137 k (nI w)) := ⟨EqR.up0 h.1 ha, fun z j hj => by
  by_cases e : 6 + j = k
  · exact ⟨w, hw, by rw [e, up2_eq]⟩
  · obtain ⟨u, h1, h2⟩ := h.2 z j hj
    exact ⟨u, h1, (up2_ne (fun y => e y.2)).trans h2⟩⟩
theorem Eqf.r {F : List Nat} {f g : Nat → Nat → Int32} (h : Eqf [] F f g) (hF : ∀ k ∈ F, rdR 129 k = true) : EqR f g := ⟨fun a k hk => h a k (by simp) (fun z => by rw [z.1, hF k z.2] at hk; cases hk), fun z j hj => by
  obtain ⟨u, h1, h2⟩ := z j hj
  exact ⟨u, h1, (h _ _ (by simp) (fun y => by cases y.1)).trans h2⟩⟩
theorem rd_kind {k : Nat} (h : k < 10) : rdR 135 (10 + k) = true := (by decide +kernel : ∀ k, k < 10 → rdR 135 (10 + k) = true) k h
theorem rd_tall {k : Nat} (h : k < 10) : rdR 136 (10 + k) = true := (by decide +kernel : ∀ k, k < 10 → rdR 136 (10 + k) = true) k h
theorem rd_row {k : Nat} (h : k < 6) : rdR 137 (6 + k) = true := (by decide +kernel : ∀ k, k < 6 → rdR 137 (6 + k) = true) k h
theorem rd_lik {k : Nat} (h : k < 100) : rdR 138 (100 + k) = true := (by decide +kernel : ∀ k, k < 100 → rdR 138 (100 + k) = true) k h
theorem rd_cod {k : Nat} (h : k < 1000) : rdR 141 (1000 + k) = true := by
  unfold rdR
  rw [decide_eq_true (show 141 = 141 from rfl), decide_eq_true (show 1000 ≤ 1000 + k by omega), decide_eq_true (show 1000 + k < 2000 by omega)]
  simp
theorem rd_rr (k : Nat) : rdR 142 k = true := by unfold rdR; simp
theorem rd_lt (k : Nat) : rdR 143 k = true := by unfold rdR; simp
theorem rd_op (k : Nat) : rdR 144 k = true := by unfold rdR; simp
theorem rd_cp (k : Nat) : rdR 145 k = true := by unfold rdR; simp
theorem TokM.eqf {F : List Nat} {mI mI' : Nat → Nat → Int32} {mL : Nat → Nat → Int64} {t : Nat → Nat} {N p : Nat} (h : TokM mI mL t N p) (he : Eqf [] F mI mI') (hF : ∀ k ∈ [5, 4, 6, 8], k ∉ F) : TokM mI' mL t N p := by
  have e2 : ∀ k, k ∈ [5, 4, 6, 8] → mI' 129 k = mI 129 k := fun k hk => he _ k (by simp) (fun z => hF k hk z.2)
  obtain ⟨h1, h2, h3, h4, h5⟩ := h
  exact ⟨(e2 _ (by decide)).trans h1, (e2 _ (by decide)).trans h2, (e2 _ (by decide)).trans h3, h4, fun z => (e2 _ (by decide)).trans (h5 z)⟩
theorem TokM.upx {mI : Nat → Nat → Int32} {mL : Nat → Nat → Int64} {t : Nat → Nat} {N p a k : Nat} {v : Int32} (h : TokM mI mL t N p) (ha : a ≠ 129) : TokM (up2 mI a k v) mL t N p := by
  have e2 : ∀ j, up2 mI a k v 129 j = mI 129 j := fun j => up2_ne (fun z => ha z.1.symm)
  obtain ⟨h1, h2, h3, h4, h5⟩ := h
  exact ⟨(e2 _).trans h1, (e2 _).trans h2, (e2 _).trans h3, h4, fun z => (e2 _).trans (h5 z)⟩
theorem TapM.upx {mI : Nat → Nat → Int32} {t : Nat → Nat} {N a k : Nat} {v : Int32} (h : TapM mI t N) (ha : a ≠ 129) (hb : a ≠ 130) : TapM (up2 mI a k v) t N := by
  obtain ⟨h1, h2, h3⟩ := h
  exact ⟨(up2_ne (fun z => ha z.1.symm)).trans h1, h2, fun j hj => ⟨(up2_ne (fun z => hb z.1.symm)).trans (h3 j hj).1, (h3 j hj).2⟩⟩
/-- how a line ends -/
def LnP (sh : Nat → Option Sh) (mR : Nat → Nat → Option Nat) (n : Nat) (mI : Nat → Nat → Int32) (mL : Nat → Nat → Int64) (t : Nat → Nat) (N : Nat) (pr : PR) (r : Option Value) (M' : Mm) : Prop := ∃ mI' mL', M' = (sh, mI', mL', mR, n) ∧ EqR mI mI' ∧ EqL [129, 134] mL mL' ∧ match pr with | .inl e => r = some (.int 0) ∧ mI' 129 9 = nI (e.1 + 16 * e.2) | .inr q => r = some (.int 1) ∧ TapM mI' t N ∧ TokM mI' mL' t N q.1 ∧ DrM mI' mL' q.2
/-- in the midst of a line -/
def LsM (mI : Nat → Nat → Int32) (mL : Nat → Nat → Int64) (t : Nat → Nat) (N q : Nat) (D : DD) (mI' : Nat → Nat → Int32) (mL' : Nat → Nat → Int64) : Prop := EqR mI mI' ∧ EqL [129, 134] mL mL' ∧ TapM mI' t N ∧ TokM mI' mL' t N q ∧ DrM mI' mL' D ∧ q ≤ N
theorem EqL.mo {f g : Nat → Nat → Int64} (h : EqL [129] f g) : EqL [129, 134] f g := fun a k ha => h a k (fun z => ha (by rw [List.mem_singleton.mp z]; decide))
theorem LsM.nx {mI mI' mI2 : Nat → Nat → Int32} {mL mL' mL2 : Nat → Nat → Int64} {t : Nat → Nat} {N q : Nat} {D : DD} {F : List Nat} (h : LsM mI mL t N q D mI' mL') (he : Eqf [] F mI' mI2) (hF : ∀ k ∈ F, k ∈ nF) (hl : EqL [129] mL' mL2) (hk : TokM mI2 mL2 t N (lxE t N q)) : LsM mI mL t N (lxE t N q) D mI2 mL2 := by
  obtain ⟨h1, h2, h3, h4, h5, h6⟩ := h
  have he' := he.fm hF
  exact ⟨h1.tr (he'.r (by decide)), h2.tr hl.mo, h3.eqf he' (by decide) (by decide) (by decide), hk, h5.eqf he' (by decide) hl, (lxE_le h6).2⟩
theorem LsM.bad {sh : Nat → Option Sh} {mR : Nat → Nat → Option Nat} {n : Nat} {mI mI' : Nat → Nat → Int32} {mL mL' : Nat → Nat → Int64} {t : Nat → Nat} {N q : Nat} {D : DD} (h : LsM mI mL t N q D mI' mL') (k : Nat) : LnP sh mR n mI mL t N (.inl (k, lxBg t N q)) (some (.int 0)) (sh, up2 mI' 129 9 (nI (k + 16 * lxBg t N q)), mL', mR, n) := ⟨_, _, rfl, h.1.up (by decide), h.2.1, rfl, up2_eq _ _ _ _⟩
theorem LsM.good {sh : Nat → Option Sh} {mR : Nat → Nat → Option Nat} {n : Nat} {mI mI' : Nat → Nat → Int32} {mL mL' : Nat → Nat → Int64} {t : Nat → Nat} {N q : Nat} {D : DD} (h : LsM mI mL t N q D mI' mL') : LnP sh mR n mI mL t N (.inr (q, D)) (some (.int 1)) (sh, mI', mL', mR, n) := ⟨_, _, rfl, h.1, h.2.1, rfl, h.2.2.1, h.2.2.2.1, h.2.2.2.2.1⟩
theorem bf_n (t : Nat → Nat) (n p : Nat) (f : PR) : bf t n p none f = f := rfl
theorem bf_s (t : Nat → Nat) (n p k : Nat) (f : PR) : bf t n p (some k) f = .inl (k, lxBg t n p) := rfl
/-! the line of the slip -/
def rdSlipB (t : Nat → Nat) (n : Nat) (D : DD) (p p1 p2 : Nat) : PR := if D 0 4 = 0 then bf t n p1 (nuF t n p1 3) (bf t n p2 (sgF t n p2 59) (.inr (lxE t n p2, up2 (up2 D 0 4 1) 0 3 (lxNm t n p1)))) else .inl (3, lxBg t n p)
def rdSlip (t : Nat → Nat) (n p : Nat) (D : DD) : PR := rdSlipB t n D p (lxE t n p) (lxE t n (lxE t n p))
theorem DrM.slT {mI : Nat → Nat → Int32} {mL : Nat → Nat → Int64} {D : DD} (h : DrM mI mL D) {v : Nat} : DrM (up2 mI 129 24 (nI v)) mL (up2 D 0 4 v) := by
  obtain ⟨⟨a1, a2, a3, a4, a5, a6, a7, a8, a9⟩, b, c, dd, e, f, g⟩ := h
  refine ⟨⟨?_, ?_, ?_, ?_, ?_, ?_, ?_, ?_, fun z => ?_⟩, fun p hp => ⟨?_, ?_, ?_⟩, fun k hk => ?_, fun k hk => ⟨?_, ?_, ?_⟩, fun k h1 h2 => ?_, fun i hi => ⟨?_, ?_⟩, fun i hi => ?_⟩
  all_goals simp (disch := omega) only [up2_eq, up2_ne] at *
  all_goals first | done | assumption | exact a9 z | exact (b p hp).1 | exact (b p hp).2.1 | exact (b p hp).2.2 | exact c k hk | exact (dd k hk).1 | exact (dd k hk).2.1 | exact (dd k hk).2.2 | exact e k h1 h2 | exact (f i hi).1 | exact (f i hi).2 | exact g i hi
theorem DrM.slV {mI : Nat → Nat → Int32} {mL : Nat → Nat → Int64} {D : DD} (h : DrM mI mL D) {v : Nat} : DrM (up2 mI 133 1 (nI v)) mL (up2 D 0 3 v) := by
  obtain ⟨⟨a1, a2, a3, a4, a5, a6, a7, a8, a9⟩, b, c, dd, e, f, g⟩ := h
  refine ⟨⟨?_, ?_, ?_, ?_, ?_, ?_, ?_, ?_, fun z => ?_⟩, fun p hp => ⟨?_, ?_, ?_⟩, fun k hk => ?_, fun k hk => ⟨?_, ?_, ?_⟩, fun k h1 h2 => ?_, fun i hi => ⟨?_, ?_⟩, fun i hi => ?_⟩
  all_goals simp (disch := omega) only [up2_eq, up2_ne] at *
  all_goals first | done | assumption | exact a9 z | exact (b p hp).1 | exact (b p hp).2.1 | exact (b p hp).2.2 | exact c k hk | exact (dd k hk).1 | exact (dd k hk).2.1 | exact (dd k hk).2.2 | exact e k h1 h2 | exact (f i hi).1 | exact (f i hi).2 | exact g i hi
set_option maxHeartbeats 4000000 in
set_option maxRecDepth 100000 in
theorem c12_readsSlip (l : Launch) (X : Cx) (d : Nat) (sh : Nat → Option Sh) (mI : Nat → Nat → Int32) (mL : Nat → Nat → Int64) (mR : Nat → Nat → Option Nat) (n : Nat) (hL : ML sh mR) (t : Nat → Nat) (N p : Nat) (D : DD) (hV : DrV D) (mI0 : Nat → Nat → Int32) (mL0 : Nat → Nat → Int64) (hM : LsM mI0 mL0 t N p D mI mL) (hd : 3 ≤ d) : Cn l X yX12_readsSlip cX12_readsSlip 1 (some .boolean) d [.ref 129] (sh, mI, mL, mR, n) (fun r M' => LnP sh mR n mI0 mL0 t N (rdSlip t N p D) r M') 0 0 := by
  refine Cn.run 12 false (by decide) rfl (by decide) (by simp [entA, Value.category]) ?_
  intro P G hP hG
  have q0 := hL.1
  have q_slip := hL.2 (12, 133, .int, 6) (by decide)
  dsimp only at q_slip
  have h4 : D 0 4 ≤ 1 := hV.1.2.2.2.2.1
  have a5 : mI 129 24 = nI (D 0 4) := hM.2.2.2.2.1.1.2.2.2.2.1
  unfold rdSlip rdSlipB at hP
  refine hG.run [13] 40 ?_
  simp [wp, stepI, ln, jmp, cmpI, Value.category, rd, tyF, va_rf, st1, st2, clr, isLg, CB, inx_0, inx_1, inx_2, inx_3, inx_4, inx_5, bI_0, bI_1, bI_ok, fin3, tyX12, entL, q0, okv, wr, finF, clT, TX12, dX12_readsSlip_0, dX12_readsSlip_1, fT_12_286, dX12_readsSlip_4, dX12_readsSlip_7, dX12_readsSlip_8, dX12_readsSlip_9, dX12_readsSlip_12, dX12_readsSlip_13, dX12_readsSlip_14, dX12_readsSlip_15, dX12_readsSlip_18, dX12_readsSlip_19, dX12_readsSlip_22, dX12_readsSlip_23, dX12_readsSlip_24, dX12_readsSlip_25, dX12_readsSlip_28, dX12_readsSlip_31, dX12_readsSlip_32, dX12_readsSlip_33, dX12_readsSlip_34, fT_12_19, dX12_readsSlip_37, dX12_readsSlip_38, dX12_readsSlip_39, fT_12_254, dX12_readsSlip_42, dX12_readsSlip_43, dX12_readsSlip_44, dX12_readsSlip_47]
  simp (disch := omega) only [li, nI_add, nI_clamp, nI_ltI, nI_leI, nI_eq, inx_iff, a31, nI_1shl', nI_shr', div_bit, tb1, tb0, fa_or, fa_and, nI_not, pk_sub, nI_dec, a5]
  refine ⟨fun z => ?_, fun z => ?_⟩
  · rw [if_pos z] at hP
    have e1 : LsM mI0 mL0 t N p (up2 D 0 4 1) (up2 mI 129 24 (nI 1)) mL := by
      obtain ⟨h1, h2, h3, h4, h5, h6⟩ := hM
      have ef : Eqf [] [24] mI (up2 mI 129 24 (nI 1)) := Eqf.rf.upf (by decide)
      exact ⟨h1.tr (ef.r (by decide)), h2, h3.eqf ef (by decide) (by decide) (by decide), h4.eqf ef (by decide), h5.slT, h6⟩
    refine hG.run [] 40 ?_
    simp [wp, stepI, ln, jmp, cmpI, Value.category, rd, tyF, va_rf, st1, st2, clr, isLg, CB, inx_0, inx_1, inx_2, inx_3, inx_4, inx_5, bI_0, bI_1, bI_ok, fin3, tyX12, entL, q0, okv, wr, finF, clT, TX12, dX12_readsSlip_0, dX12_readsSlip_1, fT_12_286, dX12_readsSlip_4, dX12_readsSlip_7, dX12_readsSlip_8, dX12_readsSlip_9, dX12_readsSlip_12, dX12_readsSlip_13, dX12_readsSlip_14, dX12_readsSlip_15, dX12_readsSlip_18, dX12_readsSlip_19, dX12_readsSlip_22, dX12_readsSlip_23, dX12_readsSlip_24, dX12_readsSlip_25, dX12_readsSlip_28, dX12_readsSlip_31, dX12_readsSlip_32, dX12_readsSlip_33, dX12_readsSlip_34, fT_12_19, dX12_readsSlip_37, dX12_readsSlip_38, dX12_readsSlip_39, fT_12_254, dX12_readsSlip_42, dX12_readsSlip_43, dX12_readsSlip_44, dX12_readsSlip_47]
    simp only [li]
    generalize up2 mI 129 24 (nI 1) = mI1 at e1 ⊢
    refine hG.callV dX12_readsSlip_19 mv_12_208 [] [] (c12_nextToken l X (d - 1) sh mI1 mL mR n hL t N e1.2.2.1 (lxE t N p) (lxE_le e1.2.2.2.2.2).2 e1.2.2.2.1.2.1 (by omega)) ⟨_, rfl, rfl⟩ q0 (by omega) rfl (by decide) (by simp [Value.category]) rfl ?_
    rintro r M' ⟨rfl, mI2, mL2, rfl, y1, y2, y3⟩
    have e2 := e1.nx y1 (by decide) y2 y3
    generalize lxE t N p = p1 at e2 hP
    refine hG.run [] 40 ?_
    simp [wp, stepI, ln, jmp, cmpI, Value.category, rd, tyF, va_rf, st1, st2, clr, isLg, CB, inx_0, inx_1, inx_2, inx_3, inx_4, inx_5, bI_0, bI_1, bI_ok, fin3, tyX12, entL, q0, dX12_readsSlip_0, dX12_readsSlip_1, fT_12_286, dX12_readsSlip_4, dX12_readsSlip_7, dX12_readsSlip_8, dX12_readsSlip_9, dX12_readsSlip_12, dX12_readsSlip_13, dX12_readsSlip_14, dX12_readsSlip_15, dX12_readsSlip_18, dX12_readsSlip_19, dX12_readsSlip_22, dX12_readsSlip_23, dX12_readsSlip_24, dX12_readsSlip_25, dX12_readsSlip_28, dX12_readsSlip_31, dX12_readsSlip_32, dX12_readsSlip_33, dX12_readsSlip_34, fT_12_19, dX12_readsSlip_37, dX12_readsSlip_38, dX12_readsSlip_39, fT_12_254, dX12_readsSlip_42, dX12_readsSlip_43, dX12_readsSlip_44, dX12_readsSlip_47]
    simp only [li]
    refine hG.callV dX12_readsSlip_25 mv_12_270 [.int (nI 0), .int (nI 3)] [] (c12_needsNumber l X (d - 1) sh mI2 mL2 mR n hL t N p1 e2.2.2.1 e2.2.2.2.1 e2.2.2.2.2.2 3 (by omega) (by omega)) ⟨_, rfl, rfl⟩ q0 (by omega) rfl (by decide) (by simp [Value.category]) rfl ?_
    rintro r M' (⟨h5, -, h6, rfl, mI3, mL3, rfl, y1, y2, y3, y4⟩ | ⟨k, h5, rfl, rfl⟩)
    · rw [h5, bf_n] at hP
      have e3 := e2.nx y1 (by decide) y2 y4
      generalize lxE t N p1 = p2 at e3 hP
      have e4 : LsM mI0 mL0 t N p2 (up2 (up2 D 0 4 1) 0 3 (lxNm t N p1)) (up2 mI3 133 1 (nI (lxNm t N p1))) mL3 := by
        obtain ⟨h1, h2, h3, h4, h5, h6⟩ := e3
        exact ⟨h1.up (by decide), h2, h3.upx (by decide) (by decide), h4.upx (by decide), h5.slV, h6⟩
      refine hG.run [] 40 ?_
      simp [wp, stepI, ln, jmp, cmpI, Value.category, rd, tyF, va_rf, st1, st2, clr, isLg, CB, inx_0, inx_1, inx_2, inx_3, inx_4, inx_5, bI_0, bI_1, bI_ok, fin3, tyX12, entL, q0, q_slip, dX12_readsSlip_0, dX12_readsSlip_1, fT_12_286, dX12_readsSlip_4, dX12_readsSlip_7, dX12_readsSlip_8, dX12_readsSlip_9, dX12_readsSlip_12, dX12_readsSlip_13, dX12_readsSlip_14, dX12_readsSlip_15, dX12_readsSlip_18, dX12_readsSlip_19, dX12_readsSlip_22, dX12_readsSlip_23, dX12_readsSlip_24, dX12_readsSlip_25, dX12_readsSlip_28, dX12_readsSlip_31, dX12_readsSlip_32, dX12_readsSlip_33, dX12_readsSlip_34, fT_12_19, dX12_readsSlip_37, dX12_readsSlip_38, dX12_readsSlip_39, fT_12_254, dX12_readsSlip_42, dX12_readsSlip_43, dX12_readsSlip_44, dX12_readsSlip_47]
      rw [y3]
      generalize up2 mI3 133 1 (nI (lxNm t N p1)) = mI4 at e4 ⊢
      refine hG.callV dX12_readsSlip_44 mv_12_274 [] [] (c12_ends l X (d - 1) sh mI4 mL3 mR n hL t N p2 e4.2.2.1 e4.2.2.2.1 e4.2.2.2.2.2 (by omega)) ⟨_, rfl, rfl⟩ q0 (by omega) rfl (by decide) (by simp [Value.category]) rfl ?_
      rintro r M' (⟨h7, rfl, mI5, mL5, rfl, y1, y2, y4⟩ | ⟨k, h7, rfl, rfl⟩)
      · rw [h7, bf_n] at hP
        refine hG.run [] 40 ?_
        simp [wp, stepI, ln, jmp, cmpI, Value.category, rd, tyF, va_rf, st1, st2, clr, isLg, CB, inx_0, inx_1, inx_2, inx_3, inx_4, inx_5, bI_0, bI_1, bI_ok, fin3, tyX12, entL, q0, dX12_readsSlip_0, dX12_readsSlip_1, fT_12_286, dX12_readsSlip_4, dX12_readsSlip_7, dX12_readsSlip_8, dX12_readsSlip_9, dX12_readsSlip_12, dX12_readsSlip_13, dX12_readsSlip_14, dX12_readsSlip_15, dX12_readsSlip_18, dX12_readsSlip_19, dX12_readsSlip_22, dX12_readsSlip_23, dX12_readsSlip_24, dX12_readsSlip_25, dX12_readsSlip_28, dX12_readsSlip_31, dX12_readsSlip_32, dX12_readsSlip_33, dX12_readsSlip_34, fT_12_19, dX12_readsSlip_37, dX12_readsSlip_38, dX12_readsSlip_39, fT_12_254, dX12_readsSlip_42, dX12_readsSlip_43, dX12_readsSlip_44, dX12_readsSlip_47]
        exact hP _ _ (e4.nx y1 (by decide) y2 y4).good
      · rw [h7, bf_s] at hP
        refine hG.run [] 40 ?_
        simp [wp, stepI, ln, jmp, cmpI, Value.category, rd, tyF, va_rf, st1, st2, clr, isLg, CB, inx_0, inx_1, inx_2, inx_3, inx_4, inx_5, bI_0, bI_1, bI_ok, fin3, tyX12, entL, q0, dX12_readsSlip_0, dX12_readsSlip_1, fT_12_286, dX12_readsSlip_4, dX12_readsSlip_7, dX12_readsSlip_8, dX12_readsSlip_9, dX12_readsSlip_12, dX12_readsSlip_13, dX12_readsSlip_14, dX12_readsSlip_15, dX12_readsSlip_18, dX12_readsSlip_19, dX12_readsSlip_22, dX12_readsSlip_23, dX12_readsSlip_24, dX12_readsSlip_25, dX12_readsSlip_28, dX12_readsSlip_31, dX12_readsSlip_32, dX12_readsSlip_33, dX12_readsSlip_34, fT_12_19, dX12_readsSlip_37, dX12_readsSlip_38, dX12_readsSlip_39, fT_12_254, dX12_readsSlip_42, dX12_readsSlip_43, dX12_readsSlip_44, dX12_readsSlip_47]
        exact hP _ _ (e4.bad k)
    · rw [h5, bf_s] at hP
      refine hG.run [] 40 ?_
      simp [wp, stepI, ln, jmp, cmpI, Value.category, rd, tyF, va_rf, st1, st2, clr, isLg, CB, inx_0, inx_1, inx_2, inx_3, inx_4, inx_5, bI_0, bI_1, bI_ok, fin3, tyX12, entL, q0, dX12_readsSlip_0, dX12_readsSlip_1, fT_12_286, dX12_readsSlip_4, dX12_readsSlip_7, dX12_readsSlip_8, dX12_readsSlip_9, dX12_readsSlip_12, dX12_readsSlip_13, dX12_readsSlip_14, dX12_readsSlip_15, dX12_readsSlip_18, dX12_readsSlip_19, dX12_readsSlip_22, dX12_readsSlip_23, dX12_readsSlip_24, dX12_readsSlip_25, dX12_readsSlip_28, dX12_readsSlip_31, dX12_readsSlip_32, dX12_readsSlip_33, dX12_readsSlip_34, fT_12_19, dX12_readsSlip_37, dX12_readsSlip_38, dX12_readsSlip_39, fT_12_254, dX12_readsSlip_42, dX12_readsSlip_43, dX12_readsSlip_44, dX12_readsSlip_47]
      exact hP _ _ (e2.bad k)
  · rw [if_neg z] at hP
    refine hG.callV dX12_readsSlip_9 mv_12_201 [.int (nI 3)] [] (c12_fails l X (d - 1) sh mI mL mR n hL _ hM.2.2.2.1.1 3) ⟨_, rfl, rfl⟩ q0 (by omega) rfl (by decide) (by simp [Value.category]) rfl ?_
    rintro r M' ⟨rfl, rfl⟩
    refine hG.run [] 40 ?_
    simp [wp, stepI, ln, jmp, cmpI, Value.category, rd, tyF, va_rf, st1, st2, clr, isLg, CB, inx_0, inx_1, inx_2, inx_3, inx_4, inx_5, bI_0, bI_1, bI_ok, fin3, tyX12, entL, q0, dX12_readsSlip_0, dX12_readsSlip_1, fT_12_286, dX12_readsSlip_4, dX12_readsSlip_7, dX12_readsSlip_8, dX12_readsSlip_9, dX12_readsSlip_12, dX12_readsSlip_13, dX12_readsSlip_14, dX12_readsSlip_15, dX12_readsSlip_18, dX12_readsSlip_19, dX12_readsSlip_22, dX12_readsSlip_23, dX12_readsSlip_24, dX12_readsSlip_25, dX12_readsSlip_28, dX12_readsSlip_31, dX12_readsSlip_32, dX12_readsSlip_33, dX12_readsSlip_34, fT_12_19, dX12_readsSlip_37, dX12_readsSlip_38, dX12_readsSlip_39, fT_12_254, dX12_readsSlip_42, dX12_readsSlip_43, dX12_readsSlip_44, dX12_readsSlip_47]
    exact hP _ _ (hM.bad 3)
