/-! rings of seats: the class's count is the reference's -/
theorem sitT_N {np : Nat} {st pl : Nat → Nat} (h1 : ∀ p, p < np → st p ≤ 12) {q : Nat} (h2 : pl q ≤ 12) : sitT np st pl q = sitN np st (pl q) := fa_first_cong fun k hk => decide_eq_decide.mpr (nI_m1 (h1 k hk) h2)
theorem sitN_lt {np : Nat} {st : Nat → Nat} {v : Nat} (h : sitN np st v < np) : st (sitN np st v) = v := of_decide_eq_true (fa_first_yes (fun p => decide (st p = v)) np h)
theorem sitN_le {np : Nat} {st : Nat → Nat} {v : Nat} : sitN np st v ≤ np := fa_first_le _ _
theorem sitN_own {np : Nat} {st : Nat → Nat} {p : Nat} (hi : ∀ p q, p < np → q < np → st p = st q → p = q) (hp : p < np) : sitN np st (st p) = p := by
  have hl : sitN np st (st p) < np := by
    rcases Nat.lt_or_ge (sitN np st (st p)) np with y | y
    · exact y
    · have := fa_first_no (fun q => decide (st q = st p)) np p (by unfold sitN at y; omega)
      rw [decide_eq_true rfl] at this; cases this
  exact hi _ _ hl hp (sitN_lt hl)
/-- where p comes to after k steps -/
def obt (np : Nat) (st pl : Nat → Nat) (p : Nat) : Nat → Nat
  | 0 => p
  | k + 1 => sitN np st (pl (obt np st pl p k))
theorem ldR_N {np : Nat} {st pl : Nat → Nat} (h1 : ∀ p, p < np → st p ≤ 12) (h2 : ∀ p, p < np → pl p ≤ 12) {p q f : Nat} (hq : q < np) : ldR np st pl p (f + 1) q = if sitN np st (pl q) < np then (if sitN np st (pl q) = p then true else if sitN np st (pl q) < p then false else ldR np st pl p f (sitN np st (pl q))) else false := by
  rw [ldR_s, sitT_N h1 (h2 q hq)]
theorem ldR_obt {np : Nat} {st pl : Nat → Nat} (h1 : ∀ p, p < np → st p ≤ 12) (h2 : ∀ p, p < np → pl p ≤ 12) {p : Nat} : ∀ f i, obt np st pl p i < np → (ldR np st pl p f (obt np st pl p i) = true ↔ ∃ k, i < k ∧ k ≤ i + f ∧ obt np st pl p k = p ∧ obt np st pl p k < np ∧ ∀ j, i < j → j < k → p < obt np st pl p j ∧ obt np st pl p j < np)
  | 0, i, hi => ⟨fun h => (by cases h), fun ⟨k, a, b, _⟩ => by omega⟩
  | f + 1, i, hi => by
    rw [ldR_N h1 h2 hi]
    have e : sitN np st (pl (obt np st pl p i)) = obt np st pl p (i + 1) := rfl
    rw [e]
    by_cases hl : obt np st pl p (i + 1) < np
    · rw [if_pos hl]
      by_cases hp : obt np st pl p (i + 1) = p
      · rw [if_pos hp]
        exact ⟨fun _ => ⟨i + 1, by omega, by omega, hp, hl, fun j a b => by omega⟩, fun _ => rfl⟩
      · rw [if_neg hp]
        by_cases hlt : obt np st pl p (i + 1) < p
        · rw [if_pos hlt]
          refine ⟨fun h => (by cases h), fun ⟨k, a, b, c, d, e2⟩ => ?_⟩
          by_cases hk : k = i + 1
          · rw [hk] at c; exact absurd c hp
          · have := e2 (i + 1) (by omega) (by omega)
            omega
        · rw [if_neg hlt, ldR_obt h1 h2 f (i + 1) hl]
          constructor
          · rintro ⟨k, a, b, c, d, e2⟩
            refine ⟨k, by omega, by omega, c, d, fun j x y => ?_⟩
            by_cases hj : j = i + 1
            · rw [hj]; exact ⟨by omega, hl⟩
            · exact e2 j (by omega) y
          · rintro ⟨k, a, b, c, d, e2⟩
            by_cases hk : k = i + 1
            · rw [hk] at c; exact absurd c hp
            · exact ⟨k, by omega, by omega, c, d, fun j x y => e2 j (by omega) y⟩
    · rw [if_neg hl]
      refine ⟨fun h => (by cases h), fun ⟨k, a, b, c, d, e2⟩ => ?_⟩
      by_cases hk : k = i + 1
      · rw [hk] at d; exact absurd d hl
      · exact absurd (e2 (i + 1) (by omega) (by omega)).2 hl
theorem chW_snd {np : Nat} {st pl : Nat → Nat} {p : Nat} : ∀ f q l, (chW np st pl p f q l).2 ≤ l
  | 0, q, l => Nat.le_refl _
  | f + 1, q, l => by
    rw [chW_s]
    split
    · split
      · exact Nat.min_le_left _ _
      · exact Nat.le_trans (chW_snd f _ _) (Nat.min_le_left _ _)
    · exact Nat.le_refl _
theorem ld_ch1 {np : Nat} {st pl : Nat → Nat} (h1 : ∀ p, p < np → st p ≤ 12) (h2 : ∀ p, p < np → pl p ≤ 12) {p : Nat} : ∀ f q, q < np → ldR np st pl p f q = true → chW np st pl p f q p = (p, p)
  | 0, q, hq, h => by cases h
  | f + 1, q, hq, h => by
    rw [ldR_N h1 h2 hq] at h
    rw [chW_s]
    by_cases hl : sitN np st (pl q) < np
    · rw [if_pos hl] at h ⊢
      by_cases hp : sitN np st (pl q) = p
      · rw [if_pos hp]
        show (p, Nat.min p p) = (p, p)
        rw [show Nat.min p p = p from Nat.min_self p]
      · rw [if_neg hp] at h ⊢
        by_cases hlt : sitN np st (pl q) < p
        · rw [if_pos hlt] at h; cases h
        · rw [if_neg hlt] at h
          rw [show Nat.min p (sitN np st (pl q)) = p from Nat.min_eq_left (by omega)]
          exact ld_ch1 h1 h2 f _ hl h
    · rw [if_neg hl] at h; cases h
theorem ld_ch2 {np : Nat} {st pl : Nat → Nat} (h1 : ∀ p, p < np → st p ≤ 12) (h2 : ∀ p, p < np → pl p ≤ 12) {p : Nat} (hp : p < np) : ∀ f q l, q < np → (f = 0 → q ≠ p) → (chW np st pl p f q l).1 = p → (chW np st pl p f q l).2 = p → ldR np st pl p f q = true
  | 0, q, l, hq, hn, a, b => absurd a (hn rfl)
  | f + 1, q, l, hq, hn, a, b => by
    rw [ldR_N h1 h2 hq]
    rw [chW_s] at a b
    by_cases hl : sitN np st (pl q) < np
    · rw [if_pos hl] at a b ⊢
      by_cases hx : sitN np st (pl q) = p
      · rw [if_pos hx]
      · rw [if_neg hx] at a b ⊢
        have h3 := chW_snd (np := np) (st := st) (pl := pl) (p := p) f (sitN np st (pl q)) (Nat.min l (sitN np st (pl q)))
        have h4 : Nat.min l (sitN np st (pl q)) ≤ sitN np st (pl q) := Nat.min_le_right _ _
        rw [if_neg (by omega)]
        exact ld_ch2 h1 h2 hp f _ _ hl (fun _ => hx) a b
    · rw [if_neg hl] at a
      have : np = p := a
      omega
theorem obt_inj {np : Nat} {st pl : Nat → Nat} (hp : ∀ p q, p < np → q < np → pl p = pl q → p = q) {p : Nat} : ∀ i j, (∀ k, k ≤ i + j → obt np st pl p k < np) → obt np st pl p i = obt np st pl p (i + j) → p = obt np st pl p j
  | 0, j, h, e => by rw [Nat.zero_add] at e; exact e
  | i + 1, j, h, e => by
    refine obt_inj hp i j (fun k hk => h k (by omega)) ?_
    have e2 : obt np st pl p (i + 1 + j) = sitN np st (pl (obt np st pl p (i + j))) := by rw [show i + 1 + j = i + j + 1 by omega]; rfl
    have e1 : obt np st pl p (i + 1) = sitN np st (pl (obt np st pl p i)) := rfl
    have l1 := h (i + 1) (by omega)
    have l2 := h (i + 1 + j) (by omega)
    rw [e1] at l1
    rw [e2] at l2
    refine hp _ _ (h i (by omega)) (h (i + j) (by omega)) ?_
    rw [← sitN_lt l1, ← sitN_lt l2, ← e1, ← e2, e]
theorem ring_np {np : Nat} {st pl : Nat → Nat} (h1 : ∀ p, p < np → st p ≤ 12) (h2 : ∀ p, p < np → pl p ≤ 12) (hi : ∀ p q, p < np → q < np → pl p = pl q → p = q) {p : Nat} (hp : p < np) : ldR np st pl p (np + 1) p = true ↔ ldR np st pl p np p = true := by
  have a1 := ldR_obt h1 h2 (p := p) (np + 1) 0 hp
  have a2 := ldR_obt h1 h2 (p := p) np 0 hp
  have e0 : obt np st pl p 0 = p := rfl
  rw [e0] at a1 a2
  rw [a1, a2]
  constructor
  · rintro ⟨k, b1, b2, b3, b4, b5⟩
    refine ⟨k, b1, ?_, b3, b4, b5⟩
    have lt : ∀ j, j < k → obt np st pl p j < np := fun j hj => by
      rcases Nat.eq_zero_or_pos j with z | z
      · rw [z]; exact hp
      · exact (b5 j z hj).2
    have := fb_holes np k (obt np st pl p) lt (fun i j hij hj z => by
      have := obt_inj hi (p := p) i (j - i) (fun x hx => lt x (by omega)) (by rw [show i + (j - i) = j by omega]; exact z)
      have := (b5 (j - i) (by omega) (by omega)).1
      omega)
    omega
  · rintro ⟨k, b1, b2, b3⟩
    exact ⟨k, b1, by omega, b3⟩
theorem ring_eq {np : Nat} {st pl : Nat → Nat} (h1 : ∀ p, p < np → st p ≤ 12) (h2 : ∀ p, p < np → pl p ≤ 12) (hs : ∀ p q, p < np → q < np → st p = st q → p = q) (hi : ∀ p q, p < np → q < np → pl p = pl q → p = q) {p : Nat} (hp : p < np) : ldR np st pl p np p = (decide (st p = pl p) || (!decide (st p = pl p) && chR np st pl p)) := by
  by_cases e : st p = pl p
  · rw [decide_eq_true e, Bool.true_or]
    obtain ⟨f, hf⟩ : ∃ f, np = f + 1 := ⟨np - 1, by omega⟩
    have : ldR np st pl p (f + 1) p = true := by
      rw [ldR_N h1 h2 hp, ← e, sitN_own hs hp, if_pos hp, if_pos rfl]
    rw [← hf] at this
    exact this
  · rw [decide_eq_false e]
    show ldR np st pl p np p = chR np st pl p
    rw [Bool.eq_iff_iff, ← ring_np h1 h2 hi hp]
    unfold chR
    constructor
    · intro h
      rw [ld_ch1 h1 h2 (np + 1) p hp h, decide_eq_true rfl]
      rfl
    · intro h
      rw [Bool.and_eq_true] at h
      exact ld_ch2 h1 h2 hp (np + 1) p p hp (fun z => by omega) (of_decide_eq_true h.1) (of_decide_eq_true h.2)
theorem chg_eq {np : Nat} {st pl : Nat → Nat} (h1 : ∀ p, p < np → st p ≤ 12) (h2 : ∀ p, p < np → pl p ≤ 12) (hs : ∀ p q, p < np → q < np → st p = st q → p = q) (hi : ∀ p q, p < np → q < np → pl p = pl q → p = q) : np - fb_ct (fun p => ldR np st pl p np p) np = chN np st pl - chG np st pl := by
  have e1 : fb_ct (fun p => ldR np st pl p np p) np = fb_ct (fun p => decide (st p = pl p)) np + chG np st pl := by
    unfold chG
    rw [← fb_ct_or (fun k _ z => by
      have := z.2
      rw [z.1] at this
      cases this)]
    exact fb_ct_cong fun p hp => ring_eq h1 h2 hs hi hp
  have e2 := fb_ct_not (fun p => decide (st p = pl p)) np
  have e3 : fb_ct (fun k => !decide (st k = pl k)) np = chN np st pl := rfl
  omega
