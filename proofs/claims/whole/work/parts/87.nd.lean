/-! the needs, by how much is known -/
theorem bsJ_cong {N N' : Nat → Nat} {k a s s' : Nat} (hs : s = s') : ∀ b, (∀ y, y < b → a < y → opB k a y = true → N (clo k a y) = N' (clo k a y) ∧ N (clo k y a) = N' (clo k y a)) → bsJ N k a s b = bsJ N' k a s' b
  | 0, _ => hs
  | b + 1, h => by
    rw [bsJ_s, bsJ_s, bsJ_cong hs b (fun y hy => h y (by omega))]
    by_cases e : (decide (a < b) && opB k a b) = true
    · rw [if_pos e, if_pos e]
      simp only [Bool.and_eq_true, decide_eq_true_eq] at e
      obtain ⟨h1, h2⟩ := h b (by omega) e.1 e.2
      unfold vaN
      rw [h1, h2]
    · rw [if_neg e, if_neg e]
theorem bsO_cong {N N' : Nat → Nat} {np k : Nat} : ∀ m, (∀ a b, a < m → b < np → a < b → opB k a b = true → N (clo k a b) = N' (clo k a b) ∧ N (clo k b a) = N' (clo k b a)) → bsO N np k m = bsO N' np k m
  | 0, _ => rfl
  | m + 1, h => bsJ_cong (bsO_cong m (fun a b ha => h a b (by omega))) np (fun y hy h1 h2 => h m y (by omega) hy h1 h2)
def ndF (np : Nat) : Nat → Nat → Nat
  | 0, _ => 0
  | f + 1, k => if onO np k np then bsO (ndF np f) np k np else 0
theorem ndF_s (np f k : Nat) : ndF np (f + 1) k = if onO np k np then bsO (ndF np f) np k np else 0 := rfl
theorem op_kb {k a b : Nat} (h : opB k a b = true) : kb k a b = false ∧ kb k b a = false := by
  unfold opB at h
  rw [Bool.and_eq_true] at h
  exact ⟨by simpa using h.1, by simpa using h.2⟩
theorem ndF_st {np : Nat} (hnp : np ≤ 5) : ∀ f f' k, PO np k → 25 - cbt k < f → 25 - cbt k < f' → ndF np f k = ndF np f' k
  | 0, f', k, hk, h, _ => by omega
  | f + 1, 0, k, hk, _, h => by omega
  | f + 1, f' + 1, k, hk, h, h' => by
    rw [ndF_s, ndF_s]
    congr 1
    refine bsO_cong np fun a b ha hb hab ho => ?_
    obtain ⟨k1, k2⟩ := op_kb ho
    have c1 := cbt_clo (k := k) (a := a) (b := b) (by omega) (by omega) k1
    have c2 := cbt_clo (k := k) (a := b) (b := a) (by omega) (by omega) k2
    have l1 := cbt_le (clo k a b)
    have l2 := cbt_le (clo k b a)
    exact ⟨ndF_st hnp f f' _ (clo_PO hk (by omega) (by omega) ha hb (by omega) k1 k2) (by omega) (by omega), ndF_st hnp f f' _ (clo_PO hk (by omega) (by omega) hb ha (by omega) k2 k1) (by omega) (by omega)⟩
def ndN (np k : Nat) : Nat := ndF np 26 k
theorem ndN_ok {np : Nat} (hnp : np ≤ 5) : NdR np (ndN np) := fun k hk => by
  have := ndF_st hnp 26 27 k hk (by omega) (by omega)
  unfold ndN
  rw [this, ndF_s]
theorem bsJ_iff {N : Nat → Nat} {k a s v : Nat} : ∀ b, bsJ N k a s b ≤ v ↔ (s ≤ v ∨ ∃ y, y < b ∧ a < y ∧ opB k a y = true ∧ vaN N k a y ≤ v)
  | 0 => ⟨fun h => Or.inl h, fun h => h.elim id (fun ⟨y, h, _⟩ => by omega)⟩
  | b + 1 => by
    have ih := bsJ_iff (N := N) (k := k) (a := a) (s := s) (v := v) b
    rw [bsJ_s]
    by_cases e : (decide (a < b) && opB k a b) = true
    · rw [if_pos e]
      simp only [Bool.and_eq_true, decide_eq_true_eq] at e
      have mn : Nat.min (bsJ N k a s b) (vaN N k a b) ≤ v ↔ (bsJ N k a s b ≤ v ∨ vaN N k a b ≤ v) := by
        show min (bsJ N k a s b) (vaN N k a b) ≤ v ↔ _
        omega
      rw [mn, ih]
      constructor
      · rintro ((h | ⟨y, h1, h2⟩) | h)
        · exact Or.inl h
        · exact Or.inr ⟨y, by omega, h2⟩
        · exact Or.inr ⟨b, by omega, e.1, e.2, h⟩
      · rintro (h | ⟨y, h1, h2, h3, h4⟩)
        · exact Or.inl (Or.inl h)
        · by_cases hy : y = b
          · rw [hy] at h4; exact Or.inr h4
          · exact Or.inl (Or.inr ⟨y, by omega, h2, h3, h4⟩)
    · rw [if_neg e, ih]
      constructor
      · rintro (h | ⟨y, h1, h2⟩)
        · exact Or.inl h
        · exact Or.inr ⟨y, by omega, h2⟩
      · rintro (h | ⟨y, h1, h2, h3, h4⟩)
        · exact Or.inl h
        · by_cases hy : y = b
          · rw [hy] at h2 h3
            exact absurd (by rw [decide_eq_true h2, h3]; rfl) e
          · exact Or.inr ⟨y, by omega, h2, h3, h4⟩
theorem bsO_iff {N : Nat → Nat} {np k v : Nat} (hv : v < 100) : ∀ m, bsO N np k m ≤ v ↔ ∃ a b, a < m ∧ b < np ∧ a < b ∧ opB k a b = true ∧ vaN N k a b ≤ v
  | 0 => ⟨fun h => by
      have : (100 : Nat) ≤ v := h
      omega, fun ⟨a, b, h, _⟩ => by omega⟩
  | m + 1 => by
    show bsJ N k m (bsO N np k m) np ≤ v ↔ _
    rw [bsJ_iff, bsO_iff hv m]
    constructor
    · rintro (⟨a, b, h1, h2⟩ | ⟨y, h1, h2⟩)
      · exact ⟨a, b, by omega, h2⟩
      · exact ⟨m, y, by omega, h1, h2⟩
    · rintro ⟨a, b, h1, h2, h3, h4, h5⟩
      by_cases e : a = m
      · rw [e] at h3 h4 h5
        exact Or.inr ⟨b, h2, h3, h4, h5⟩
      · exact Or.inl ⟨a, b, by omega, h2, h3, h4, h5⟩
theorem onJ_iff {k a : Nat} {s : Bool} : ∀ b, onJ k a s b = true ↔ (s = true ∨ ∃ y, y < b ∧ a < y ∧ opB k a y = true)
  | 0 => ⟨fun h => Or.inl h, fun h => h.elim id (fun ⟨y, h, _⟩ => by omega)⟩
  | b + 1 => by
    have ih := onJ_iff (k := k) (a := a) (s := s) b
    rw [onJ_s]
    by_cases e : (decide (a < b) && opB k a b) = true
    · rw [if_pos e]
      simp only [Bool.and_eq_true, decide_eq_true_eq] at e
      exact ⟨fun _ => Or.inr ⟨b, by omega, e.1, e.2⟩, fun _ => rfl⟩
    · rw [if_neg e, ih]
      constructor
      · rintro (h | ⟨y, h1, h2⟩)
        · exact Or.inl h
        · exact Or.inr ⟨y, by omega, h2⟩
      · rintro (h | ⟨y, h1, h2, h3⟩)
        · exact Or.inl h
        · by_cases hy : y = b
          · rw [hy] at h2 h3
            exact absurd (by rw [decide_eq_true h2, h3]; rfl) e
          · exact Or.inr ⟨y, by omega, h2, h3⟩
theorem onO_iff {np k : Nat} : ∀ m, onO np k m = true ↔ ∃ a b, a < m ∧ b < np ∧ a < b ∧ opB k a b = true
  | 0 => ⟨fun h => (by cases h), fun ⟨a, b, h, _⟩ => by omega⟩
  | m + 1 => by
    show onJ k m (onO np k m) np = true ↔ _
    rw [onJ_iff, onO_iff m]
    constructor
    · rintro (⟨a, b, h1, h2⟩ | ⟨y, h1, h2⟩)
      · exact ⟨a, b, by omega, h2⟩
      · exact ⟨m, y, by omega, h1, h2⟩
    · rintro ⟨a, b, h1, h2, h3, h4⟩
      by_cases e : a = m
      · rw [e] at h3 h4
        exact Or.inr ⟨b, h2, h3, h4⟩
      · exact Or.inl ⟨a, b, by omega, h2, h3, h4⟩
/-- no pair is open -/
def tot (np k : Nat) : Prop := ∀ a b, a < b → b < np → opB k a b = false
theorem nd_0 {np k : Nat} {N : Nat → Nat} (hN : NdR np N) (hk : PO np k) (h : tot np k) : N k = 0 := by
  rw [hN k hk, if_neg]
  intro z
  obtain ⟨a, b, h1, h2, h3, h4⟩ := (onO_iff np).mp z
  rw [h a b h3 h2] at h4; cases h4
theorem nd_S {np k v : Nat} {N : Nat → Nat} (hN : NdR np N) (hk : PO np k) (h : ¬ tot np k) (hv : v < 100) : N k ≤ v ↔ ∃ a b, a < b ∧ b < np ∧ opB k a b = true ∧ vaN N k a b ≤ v := by
  have ho : onO np k np = true := (onO_iff np).mpr (Classical.byContradiction fun z => h (fun a b h1 h2 => by
    cases e : opB k a b with
    | false => rfl
    | true => exact absurd ⟨a, b, by omega, h2, h1, e⟩ z))
  rw [hN k hk, if_pos ho, bsO_iff hv]
  constructor
  · rintro ⟨a, b, h1, h2, h3, h4⟩
    exact ⟨a, b, h3, h2, h4⟩
  · rintro ⟨a, b, h1, h2, h3⟩
    exact ⟨a, b, by omega, h2, h1, h3⟩
theorem cbt_10 {np k : Nat} (h : PO np k) : cbt k ≤ 10 := by
  have an : ∀ x y, x < 5 → y < 5 → (kb k x y).toNat + (kb k y x).toNat ≤ 1 := fun x y hx hy => by
    cases e1 : kb k x y with
    | false => cases kb k y x <;> decide
    | true =>
      cases e2 : kb k y x with
      | false => decide
      | true =>
        have := h.2.2.2 x y x hx hy hx e1 e2
        rw [h.2.2.1 x hx] at this; cases this
  have dz : ∀ x, x < 5 → (kb k x x).toNat = 0 := fun x hx => by rw [h.2.2.1 x hx]; rfl
  have a01 := an 0 1 (by decide) (by decide)
  have a02 := an 0 2 (by decide) (by decide)
  have a03 := an 0 3 (by decide) (by decide)
  have a04 := an 0 4 (by decide) (by decide)
  have a12 := an 1 2 (by decide) (by decide)
  have a13 := an 1 3 (by decide) (by decide)
  have a14 := an 1 4 (by decide) (by decide)
  have a23 := an 2 3 (by decide) (by decide)
  have a24 := an 2 4 (by decide) (by decide)
  have a34 := an 3 4 (by decide) (by decide)
  have d0 := dz 0 (by decide)
  have d1 := dz 1 (by decide)
  have d2 := dz 2 (by decide)
  have d3 := dz 3 (by decide)
  have d4 := dz 4 (by decide)
  have tn : ∀ b : Bool, (if b = true then 1 else 0) = b.toNat := fun b => by cases b <;> rfl
  unfold cbt
  simp only [fb_ct, tn]
  simp only [kb, Nat.reduceMul, Nat.reduceAdd] at a01 a02 a03 a04 a12 a13 a14 a23 a24 a34 d0 d1 d2 d3 d4
  omega
theorem nd_10 {np : Nat} {N : Nat → Nat} (hnp : np ≤ 5) (hN : NdR np N) : ∀ f k, PO np k → 10 - cbt k ≤ f → N k ≤ 10 - cbt k
  | 0, k, hk, h => by
    have hc := cbt_10 hk
    rcases Classical.em (tot np k) with z | z
    · rw [nd_0 hN hk z]; exact Nat.zero_le _
    · exfalso
      refine z (fun a b h1 h2 => ?_)
      cases e : opB k a b with
      | false => rfl
      | true =>
        obtain ⟨k1, k2⟩ := op_kb e
        have c1 := cbt_clo (k := k) (a := a) (b := b) (by omega) (by omega) k1
        have := cbt_10 (clo_PO hk (by omega) (by omega) (by omega) h2 (by omega) k1 k2)
        omega
  | f + 1, k, hk, h => by
    have hc := cbt_10 hk
    rcases Classical.em (tot np k) with z | z
    · rw [nd_0 hN hk z]; exact Nat.zero_le _
    · refine (nd_S hN hk z (by omega)).mpr ?_
      refine Classical.byContradiction fun w => z (fun a b h1 h2 => ?_)
      cases e : opB k a b with
      | false => rfl
      | true =>
        exfalso
        refine w ⟨a, b, h1, h2, e, ?_⟩
        obtain ⟨k1, k2⟩ := op_kb e
        have p1 := clo_PO hk (by omega) (by omega) (show a < np by omega) h2 (by omega) k1 k2
        have p2 := clo_PO hk (by omega) (by omega) h2 (show a < np by omega) (by omega) k2 k1
        have c1 := cbt_clo (k := k) (a := a) (b := b) (by omega) (by omega) k1
        have c2 := cbt_clo (k := k) (a := b) (b := a) (by omega) (by omega) k2
        have t1 := cbt_10 p1
        have t2 := cbt_10 p2
        have n1 := nd_10 hnp hN f _ p1 (by omega)
        have n2 := nd_10 hnp hN f _ p2 (by omega)
        unfold vaN
        have : Nat.max (N (clo k a b)) (N (clo k b a)) ≤ 10 - cbt k - 1 := Nat.max_le.mpr ⟨by omega, by omega⟩
        omega
/-! orders by number are all the orders -/
theorem fac_s (p : Nat) : fac (p + 1) = (p + 1) * fac p := rfl
theorem fac_pos : ∀ p, 0 < fac p
  | 0 => by decide
  | p + 1 => Nat.mul_pos (by omega) (fac_pos p)
theorem plV_add : ∀ p o t q, plV p (o + fac p * t) q = plV p o q
  | 0, o, t, q => rfl
  | p + 1, o, t, q => by
    have e1 : o + fac (p + 1) * t = o + fac p * ((p + 1) * t) := by rw [fac_s, Nat.mul_comm (p + 1) (fac p), Nat.mul_assoc]
    have e2 : (o + fac p * ((p + 1) * t)) / fac p % (p + 1) = o / fac p % (p + 1) := by
      rw [Nat.add_mul_div_left _ _ (fac_pos p), Nat.add_mul_mod_self_left]
    rw [plV_s, plV_s, e1, e2, plV_add p o ((p + 1) * t) q]
theorem plV_inj : ∀ p o x y, x < p → y < p → x ≠ y → plV p o x ≠ plV p o y
  | 0, o, x, y, h, _, _ => by omega
  | p + 1, o, x, y, hx, hy, hne => by
    rw [plV_s, plV_s]
    by_cases h1 : x < p
    · rw [if_pos h1]
      by_cases h2 : y < p
      · rw [if_pos h2]
        have := plV_inj p o x y h1 h2 hne
        split <;> split <;> omega
      · rw [if_neg h2]
        split <;> omega
    · rw [if_neg h1]
      by_cases h2 : y < p
      · rw [if_pos h2]
        split <;> omega
      · omega
theorem plV_onto : ∀ p (v : Nat → Nat), (∀ q, q < p → v q < p) → (∀ x y, x < p → y < p → x ≠ y → v x ≠ v y) → ∃ o, o < fac p ∧ ∀ q, q < p → plV p o q = v q
  | 0, v, _, _ => ⟨0, by decide, fun q h => by omega⟩
  | p + 1, v, h1, h2 => by
    have hv := h1 p (by omega)
    obtain ⟨o, ho, hq⟩ := plV_onto p (fun q => if v p < v q then v q - 1 else v q) (fun q hq => by
      have := h1 q (by omega)
      have := h2 q p (by omega) (by omega) (by omega)
      try dsimp only
      split <;> omega) (fun x y hx hy hxy => by
      have a1 := h2 x y (by omega) (by omega) hxy
      have a2 := h2 x p (by omega) (by omega) (by omega)
      have a3 := h2 y p (by omega) (by omega) (by omega)
      try dsimp only
      split <;> split <;> omega)
    have e2 : (o + fac p * v p) / fac p % (p + 1) = v p := by
      rw [Nat.add_mul_div_left _ _ (fac_pos p), Nat.div_eq_of_lt ho, Nat.zero_add, Nat.mod_eq_of_lt hv]
    refine ⟨o + fac p * v p, ?_, fun q hq2 => ?_⟩
    · rw [fac_s]
      have : fac p * v p ≤ fac p * p := Nat.mul_le_mul_left _ (by omega)
      have e : (p + 1) * fac p = fac p * p + fac p := by rw [Nat.add_mul, Nat.one_mul, Nat.mul_comm]
      omega
    · rw [plV_s, e2, plV_add]
      by_cases hqp : q < p
      · rw [if_pos hqp, hq q hqp]
        have := h2 q p (by omega) (by omega) (by omega)
        split <;> split <;> omega
      · rw [if_neg hqp, show q = p by omega]
theorem plV_one : ∀ p o o', o < fac p → o' < fac p → (∀ q, q < p → plV p o q = plV p o' q) → o = o'
  | 0, o, o', h1, h2, _ => by
    have : fac 0 = 1 := rfl
    omega
  | p + 1, o, o', h1, h2, h => by
    have hp := h p (by omega)
    rw [plV_s, plV_s, if_neg (Nat.lt_irrefl p), if_neg (Nat.lt_irrefl p)] at hp
    have q1 : o / fac p < p + 1 := Nat.div_lt_of_lt_mul (by rw [Nat.mul_comm]; exact h1)
    have q2 : o' / fac p < p + 1 := Nat.div_lt_of_lt_mul (by rw [Nat.mul_comm]; exact h2)
    have m := fun o : Nat => plV_add p (o % fac p) (o / fac p)
    have e : ∀ o, o % fac p + fac p * (o / fac p) = o := fun o => Nat.mod_add_div _ _
    have r : o % fac p = o' % fac p := plV_one p _ _ (Nat.mod_lt _ (fac_pos p)) (Nat.mod_lt _ (fac_pos p)) (fun q hq => by
      have a := h q (by omega)
      rw [plV_s, plV_s, if_pos hq, if_pos hq, hp] at a
      have b1 := m o q
      have b2 := m o' q
      rw [e] at b1 b2
      rw [← b1, ← b2]
      split at a <;> split at a <;> omega)
    rw [Nat.mod_eq_of_lt q1, Nat.mod_eq_of_lt q2] at hp
    rw [← e o, ← e o', r, hp]
theorem rank_f {n : Nat} {f : Nat → Nat} (h1 : ∀ i, i < n → f i < n) (h2 : ∀ i j, i < j → j < n → f i ≠ f j) : ∀ v, v ≤ n → fb_ct (fun y => decide (f y < v)) n = v
  | 0, _ => fb_ct_zero.mpr (fun k _ => decide_eq_false (Nat.not_lt_zero _))
  | v + 1, hv => by
    obtain ⟨i, hi, e⟩ := fb_onto h1 h2 (show v < n by omega)
    have ih := rank_f h1 h2 v (by omega)
    have up := fb_ct_upd (fun y => decide (f y < v)) true (i := i) (n := n) hi
    rw [ih, decide_eq_false (show ¬ f i < v by omega)] at up
    simp only [Bool.false_eq_true, if_false, if_true, Nat.add_zero] at up
    rw [← up]
    refine fb_ct_cong fun k hk => ?_
    by_cases ek : k = i
    · rw [if_pos ek, ek, e, decide_eq_true (by omega)]
    · rw [if_neg ek]
      refine decide_eq_decide.mpr ?_
      have : f k ≠ v := fun z => by
        rcases Nat.lt_or_ge k i with y | y
        · exact h2 k i y hi (z.trans e.symm)
        · exact h2 i k (by omega) hk (e.trans z.symm)
      omega
