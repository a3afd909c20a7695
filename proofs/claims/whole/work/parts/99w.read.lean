/-! the Reader reads a school -/
theorem Kt.ol {M : Mm} {sh : Nat → Option Sh} {mI : Nat → Nat → Int32} {mL : Nat → Nat → Int64} {mR : Nat → Nat → Option Nat} {n S : Nat} {V : RM} (h : Kt M S V (sh, mI, mL, mR, n)) {c o : Nat} {tb : List (Nat × Nat × FieldType × Nat)} (ho : o < V.1) (hc : V.2.1 o = .inl c) (hS : S + o < 100000000) (ht : ∀ x ∈ tb, V.2.2.2 o x.1 = some (o + x.2.1) ∧ o + x.2.1 < V.1 ∧ V.2.1 (o + x.2.1) = .inr (x.2.2.1, x.2.2.2)) : OL sh mR (S + o) c tb := by
  refine ⟨?_, hS, fun x hx => ⟨?_, ?_⟩⟩
  · have := (h.2.2.2 o ho).1
    rw [hc] at this; exact this
  · have := ((h.2.2.2 o ho).2 x.1).2.2
    rw [(ht x hx).1] at this
    rw [Nat.add_assoc]; exact this
  · have := (h.2.2.2 (o + x.2.1) (ht x hx).2.1).1
    rw [(ht x hx).2.2] at this
    rw [Nat.add_assoc]; exact this
theorem bf_l {t : Nat → Nat} {n p : Nat} {o : Option Nat} {f : PR} {e : Nat × Nat} (h : bf t n p o f = .inl e) : (∃ k, o = some k ∧ e = (k, lxBg t n p)) ∨ (o = none ∧ f = .inl e) := by
  cases o with
  | none => exact Or.inr ⟨rfl, h⟩
  | some k => exact Or.inl ⟨k, rfl, (Sum.inl.inj h).symm⟩
def kd15 (o : Option Nat) : Prop := ∀ k, o = some k → 1 ≤ k ∧ k ≤ 5
theorem bf_k {t : Nat → Nat} {n p : Nat} {o : Option Nat} {f : PR} (ho : kd15 o) (hf : ∀ e, f = .inl e → 1 ≤ e.1 ∧ e.1 ≤ 5) : ∀ e, bf t n p o f = .inl e → 1 ≤ e.1 ∧ e.1 ≤ 5 := fun e h => by
  rcases bf_l h with ⟨k, h1, h2⟩ | ⟨-, h2⟩
  · rw [h2]; exact ho k h1
  · exact hf e h2
theorem kd_nu {t : Nat → Nat} {n p hi : Nat} : kd15 (nuF t n p hi) := fun k h => by
  unfold nuF at h
  split at h
  · split at h
    · cases h
    · cases h; omega
  · cases h; omega
theorem kd_wo {t : Nat → Nat} {n p w : Nat} : kd15 (woF t n p w) := fun k h => by
  unfold woF at h
  split at h
  · cases h
  · cases h; omega
theorem kd_sg {t : Nat → Nat} {n p w : Nat} : kd15 (sgF t n p w) := fun k h => by
  unfold sgF at h
  split at h
  · cases h
  · cases h; omega
theorem kd_ite {c : Prop} [Decidable c] {a b : Option Nat} (ha : kd15 a) (hb : kd15 b) : kd15 (if c then a else b) := by
  split
  · exact ha
  · exact hb
theorem kd_s {k : Nat} (h : 1 ≤ k ∧ k ≤ 5) : kd15 (some k) := fun j hj => by cases hj; exact h
theorem kd_n : kd15 none := fun j hj => by cases hj
theorem inr_k {x : Nat × DD} : ∀ e, (Sum.inr x : PR) = .inl e → 1 ≤ e.1 ∧ e.1 ≤ 5 := fun e h => by cases h
theorem cp_bad {t : Nat → Nat} {N : Nat} : ∀ f m d r p e, cp t N f m d r p = some (.inl e) → 1 ≤ e.1 ∧ e.1 ≤ 5 := by
  intro f
  induction f with
  | zero => intro m d r p e h; rw [cp_0] at h; cases h
  | succ f ih =>
    intro m d r p e h
    rcases Nat.lt_trichotomy m 4 with hm | hm | hm
    · rw [cp_v hm] at h
      rcases cpB_i h with ⟨e', h1, h2⟩ | ⟨y, h1, h2⟩
      · cases h2; exact ih _ _ _ _ _ h1
      · obtain ⟨z, h3, h4⟩ := wcG_i h2
        rcases z with e' | z
        · cases h4; exact ih _ _ _ _ _ h3
        · cases h4
    · subst hm
      rw [cp_4] at h
      unfold cpP at h
      split at h
      · cases h; exact ⟨Nat.le_refl 1, by show 1 ≤ 5; omega⟩
      split at h
      · cases h; exact ⟨by show 1 ≤ 5; omega, Nat.le_refl 5⟩
      split at h
      · cases h
      split at h
      · rcases cpB_i h with ⟨e', h1, h2⟩ | ⟨y, h1, h2⟩
        · cases h2; exact ih _ _ _ _ _ h1
        · cases h2
      · rcases cpB_i h with ⟨e', h1, h2⟩ | ⟨y, h1, h2⟩
        · cases h2; exact ih _ _ _ _ _ h1
        · cases hs : sgF t N y.1 41 with
          | some k => rw [hs] at h2; cases h2; exact kd_sg k hs
          | none => rw [hs] at h2; cases h2
    · rw [cp_o hm] at h
      unfold cpO at h
      split at h
      · cases h
      · rcases cpB_i h with ⟨e', h1, h2⟩ | ⟨y, h1, h2⟩
        · cases h2; exact ih _ _ _ _ _ h1
        · obtain ⟨z, h3, h4⟩ := wcG_i h2
          rcases z with e' | z
          · cases h4; exact ih _ _ _ _ _ h3
          · cases h4
theorem rdLn_bad {t : Nat → Nat} {N p : Nat} {D : DD} (hN : N ≤ 1000) (hp : p ≤ N) : ∀ e, rdLn t N p D = .inl e → 1 ≤ e.1 ∧ e.1 ≤ 5 := by
  intro e h
  unfold rdLn at h
  split at h
  · unfold rdPupil rdPupilB at h
    split at h
    · cases h; exact ⟨by show 1 ≤ 5; omega, Nat.le_refl 5⟩
    · exact bf_k (kd_ite (kd_s (by decide)) (kd_ite (kd_s (by decide)) kd_n)) (bf_k (kd_ite kd_n (kd_s (by decide))) (bf_k kd_wo (bf_k kd_nu (bf_k kd_sg inr_k)))) e h
  split at h
  · unfold rdBench rdBenchB at h
    split at h
    · cases h; exact ⟨by show 1 ≤ 5; omega, Nat.le_refl 5⟩
    · exact bf_k kd_wo (bf_k kd_nu (bf_k kd_wo (bf_k kd_nu (bf_k kd_sg inr_k)))) e h
  have k1 : ∀ p np nm, kd15 (tw1 t N p np nm) := fun p np nm => by
    unfold tw1
    exact kd_ite (kd_s (by decide)) (kd_ite kd_n (kd_s (by decide)))
  have k2 : ∀ p p2 np nm, kd15 (tw2 t N p p2 np nm) := fun p p2 np nm => by
    unfold tw2
    exact kd_ite (kd_s (by decide)) (kd_ite (kd_ite (kd_s (by decide)) kd_n) (kd_s (by decide)))
  split at h
  · unfold rdSay rdSayB at h
    split at h
    · cases h; exact ⟨by show 1 ≤ 5; omega, Nat.le_refl 5⟩
    · exact bf_k (k1 _ _ _) (bf_k (k2 _ _ _ _) (bf_k kd_nu (bf_k kd_sg inr_k))) e h
  split at h
  · unfold rdLike rdLikeB at h
    exact bf_k (k1 _ _ _) (bf_k (k2 _ _ _ _) (bf_k (kd_ite kd_n (kd_s (by decide))) (bf_k kd_nu (bf_k kd_sg inr_k)))) e h
  split at h
  · unfold rdSlip rdSlipB at h
    split at h
    · exact bf_k kd_nu (bf_k kd_sg inr_k) e h
    · cases h; exact ⟨by show 1 ≤ 3; omega, by show 3 ≤ 5; omega⟩
  split at h
  · rename_i hw
    unfold rdWish rdWishB at h
    split at h
    · have pk := lxE_s hp (isW_k hw)
      obtain ⟨p1, hp1⟩ : ∃ x, x = lxE t N p := ⟨_, rfl⟩
      rw [← hp1] at h pk
      obtain ⟨q, hq⟩ := cp_fuel (t := t) (N := N) (10 * (N - p1) + 5) 0 0 0 p1 pk.2 (by rw [if_pos (by decide)]; omega)
      have ww := wish_w hN pk.2 (by omega) hq
      rcases q with e' | x
      · rw [ww.1 e' rfl] at h
        cases h
        exact cp_bad _ _ _ _ _ _ hq
      · cases hs : sgF t N x.1 59 with
        | some k =>
          rw [(ww.2 x rfl).1 k hs] at h
          cases h
          exact kd_sg k hs
        | none =>
          obtain ⟨cs, w1, -⟩ := (ww.2 x rfl).2 hs
          rw [w1] at h; cases h
    · cases h; exact ⟨by show 1 ≤ 3; omega, by show 3 ≤ 5; omega⟩
  · cases h; exact ⟨Nat.le_refl 1, by show 1 ≤ 5; omega⟩
theorem flt_ne {a b : Nat} (h : 1 ≤ a ∧ a ≤ 5) : ¬ nI (a + 16 * b) = nI 0 := fun z => by
  have z2 := congrArg (fun x : Int32 => x.toBitVec.toNat % 16) z
  have e : ∀ k : Nat, (nI k).toBitVec.toNat % 16 = k % 16 := fun k => by
    show (BitVec.ofNat 32 k).toNat % 16 = k % 16
    rw [BitVec.toNat_ofNat]
    omega
  have z3 : (nI (a + 16 * b)).toBitVec.toNat % 16 = (nI 0).toBitVec.toNat % 16 := z2
  rw [e, e] at z3
  omega
/-- the Reader's own cells -/
def RdB (sh : Nat → Option Sh) (mR : Nat → Nat → Option Nat) (R : Nat) : Prop := sh R = some (.inl 3) ∧ R < 1000000 ∧ mR R 0 = some (R + 1) ∧ mR R 1 = some (R + 13) ∧ (mR R 2 = some (R + 15) ∧ sh (R + 15) = some (.inr (.long, 10))) ∧ (mR R 3 = some (R + 16) ∧ sh (R + 16) = some (.inr (.int, 10))) ∧ (mR R 4 = some (R + 17) ∧ sh (R + 17) = some (.inr (.int, 1000))) ∧ OL sh mR (R + 1) 6 ob6 ∧ sh (R + 13) = some (.inl 8)
theorem RdL.b {sh : Nat → Option Sh} {mR : Nat → Nat → Option Nat} {R C TP : Nat} (h : RdL sh mR R C TP) : RdB sh mR R := ⟨h.1, h.2.1, h.2.2.1, h.2.2.2.1, h.2.2.2.2.1, h.2.2.2.2.2.1, h.2.2.2.2.2.2.1, h.2.2.2.2.2.2.2.1, h.2.2.2.2.2.2.2.2.2.2.1.1⟩
def rdC (R a : Nat) : Prop := (R ≤ a ∧ a ≤ R + 10) ∨ (R + 13 ≤ a ∧ a ≤ R + 17)
/-- the wish is told once -/
theorem rdLn_5 {t : Nat → Nat} {N p : Nat} {D : DD} {q : Nat × DD} (h : rdLn t N p D = .inr q) : (isW t N p 459791 = true → D 0 5 = 0 → q.2 0 5 = 1) ∧ (¬ (isW t N p 459791 = true ∧ D 0 5 = 0) → q.2 0 5 = D 0 5) := by
  have key : (isW t N p 459791 = true → ∀ w, w ≠ 459791 → isW t N p w = false) := fun h w hw => isW_o h hw
  unfold rdLn at h
  by_cases h0 : isW t N p 8928318 = true
  · rw [if_pos h0] at h
    exact ⟨fun z => by (have := key z 8928318 (by decide); rw [h0] at this; cases this), fun _ => (rdPupil_k h).1⟩
  rw [if_neg h0] at h
  by_cases h1 : isW t N p 1171592 = true
  · rw [if_pos h1] at h
    exact ⟨fun z => by (have := key z 1171592 (by decide); rw [h1] at this; cases this), fun _ => (rdBench_k h).1⟩
  rw [if_neg h1] at h
  by_cases h2 : isW t N p 13903 = true
  · rw [if_pos h2] at h
    exact ⟨fun z => by (have := key z 13903 (by decide); rw [h2] at this; cases this), fun _ => (rdSay_k h).1⟩
  rw [if_neg h2] at h
  by_cases h3 : isW t N p 243059 = true
  · rw [if_pos h3] at h
    exact ⟨fun z => by (have := key z 243059 (by decide); rw [h3] at this; cases this), fun _ => (rdLike_k h).1⟩
  rw [if_neg h3] at h
  by_cases h4 : isW t N p 382984 = true
  · rw [if_pos h4] at h
    exact ⟨fun z => by (have := key z 382984 (by decide); rw [h4] at this; cases this), fun _ => (rdSlip_k h).1⟩
  rw [if_neg h4] at h
  by_cases h5 : isW t N p 459791 = true
  · rw [if_pos h5] at h
    unfold rdWish rdWishB at h
    by_cases d5 : D 0 5 = 0
    · rw [if_pos d5] at h
      cases hr : wsR t N (N + 1 - lxE t N p) (lxE t N p, 0, true, fun _ => 0, fun _ => false, []) with
      | inl e => rw [hr] at h; cases h
      | inr r =>
        rw [hr] at h
        have h := Sum.inr.inj h
        subst h
        exact ⟨fun _ _ => rfl, fun z => absurd ⟨h5, d5⟩ z⟩
    · rw [if_neg d5] at h; cases h
  · rw [if_neg h5] at h; cases h
/-- what reading leaves -/
def RdP (sh : Nat → Option Sh) (mI : Nat → Nat → Int32) (mL : Nat → Nat → Int64) (mR : Nat → Nat → Option Nat) (n R TP : Nat) (t : Nat → Nat) (N : Nat) (ro : Nat → Nat) (r : Option Value) (M' : Mm) : Prop := ∃ sh' mI' mL' mR' n', M' = (sh', mI', mL', mR', n') ∧ (n + 6 ≤ n' ∧ n' ≤ n + 1010) ∧ (∀ a, a < n → sh' a = sh a) ∧ (∀ a k, a < n → ¬ rdC R a → mI' a k = mI a k ∧ mL' a k = mL a k ∧ mR' a k = mR a k) ∧ RdB sh' mR' R ∧ match rdAll t N (N + 1) 0 (drZ ro) with | .inl e => r = some (.int (nI (e.1 + 16 * e.2))) ∧ ¬ nI (e.1 + 16 * e.2) = nI 0 | .inr q => r = some (.int (nI 0)) ∧ RdL sh' mR' R n TP ∧ RdD mI' mL' R n q.2 ∧ WiR sh' mI' mR' n n' (q.2 0 6) (q.2 10)
