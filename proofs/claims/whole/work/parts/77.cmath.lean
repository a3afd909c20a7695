/-! the line that peel leaves, and what climbs along it -/
theorem plT_sub {np : Nat} {sa : Nat → Nat} {t : Nat} : ∀ i, sbs (plT np sa t i) t
  | 0 => fun _ h => h
  | i + 1 => fun j hj => by
    have : (anot (plT np sa t i) (2 ^ bst np sa (plT np sa t i))).testBit j = true := hj
    rw [an_bit, Bool.and_eq_true] at this
    exact plT_sub i j this.1
theorem plT_le {np : Nat} {sa : Nat → Nat} {t : Nat} : ∀ i, plT np sa t i ≤ t
  | 0 => Nat.le_refl _
  | i + 1 => Nat.le_trans (anot_le _ _) (plT_le i)
theorem line_fr {np : Nat} {sa : Nat → Nat} {t : Nat} (ht : t < 2 ^ np) (hA : Acy sa t) {i : Nat} (h0 : plT np sa t i ≠ 0) : plLn np sa t i < np ∧ frP sa (plT np sa t i) (plLn np sa t i) = true := by
  obtain ⟨p, hp, hm⟩ := hA _ h0 (plT_sub i)
  have hpn := bit_np (Nat.lt_of_le_of_lt (plT_le i) ht) hp
  have hb := bst_lt (np := np) (sa := sa) (t := plT np sa t i) hpn (by unfold frP; rw [hp, decide_eq_true hm]; rfl)
  exact ⟨hb, fa_first_yes _ np hb⟩
theorem line_pc {np : Nat} {sa : Nat → Nat} {t : Nat} (hnp : np ≤ 10) (ht : t < 2 ^ np) (hA : Acy sa t) : ∀ i, i ≤ pcn t → pcn (plT np sa t i) + i = pcn t
  | 0, _ => rfl
  | i + 1, h => by
    have ih := line_pc hnp ht hA i (by omega)
    have h0 : plT np sa t i ≠ 0 := fun z => by rw [z, show pcn 0 = 0 by decide] at ih; omega
    obtain ⟨h1, h2⟩ := line_fr ht hA h0
    have hb : (plT np sa t i).testBit (plLn np sa t i) = true := by unfold frP at h2; rw [Bool.and_eq_true] at h2; exact h2.1
    have := pc_an hnp (Nat.lt_of_le_of_lt (plT_le i) ht) hb
    show pcn (anot (plT np sa t i) (2 ^ plLn np sa t i)) + (i + 1) = pcn t
    omega
theorem line_ne {np : Nat} {sa : Nat → Nat} {t : Nat} (hnp : np ≤ 10) (ht : t < 2 ^ np) (hA : Acy sa t) {i : Nat} (h : i < pcn t) : plT np sa t i ≠ 0 := fun z => by
  have := line_pc hnp ht hA i (by omega)
  rw [z, show pcn 0 = 0 by decide] at this
  omega
theorem line_out {np : Nat} {sa : Nat → Nat} {t p : Nat} (hp : t.testBit p = true) : ∀ k, (plT np sa t k).testBit p = false → ∃ i, i < k ∧ plLn np sa t i = p
  | 0, h => by
    have : t.testBit p = false := h
    rw [hp] at this; cases this
  | k + 1, h => by
    have h' : (anot (plT np sa t k) (2 ^ plLn np sa t k)).testBit p = false := h
    rw [an_bit] at h'
    cases hk : (plT np sa t k).testBit p with
    | false =>
      obtain ⟨i, h1, h2⟩ := line_out hp k hk
      exact ⟨i, by omega, h2⟩
    | true =>
      rw [hk, Bool.true_and] at h'
      exact ⟨k, by omega, of_decide_eq_true (by simpa using h')⟩
theorem line_nin {np : Nat} {sa : Nat → Nat} {t j : Nat} : ∀ k, j < k → (plT np sa t k).testBit (plLn np sa t j) = false
  | 0, h => by omega
  | k + 1, h => by
    show (anot (plT np sa t k) (2 ^ plLn np sa t k)).testBit (plLn np sa t j) = false
    rw [an_bit]
    by_cases e : j = k
    · rw [e, decide_eq_true rfl, Bool.not_true, Bool.and_false]
    · rw [line_nin k (by omega), Bool.false_and]
theorem line_all {np : Nat} {sa : Nat → Nat} {t p : Nat} (hnp : np ≤ 10) (ht : t < 2 ^ np) (hA : Acy sa t) (hp : t.testBit p = true) : ∃ i, i < pcn t ∧ plLn np sa t i = p := by
  refine line_out hp (pcn t) ?_
  have := line_pc hnp ht hA (pcn t) (Nat.le_refl _)
  rw [pc_0 hnp (Nat.lt_of_le_of_lt (plT_le _) ht) (show pcn (plT np sa t (pcn t)) = 0 by omega)]
  simp
theorem line_above {np : Nat} {sa : Nat → Nat} {t i q : Nat} (hnp : np ≤ 10) (ht : t < 2 ^ np) (hA : Acy sa t) (hi : i < pcn t) (hq : t.testBit q = true) (hs : (sa (plLn np sa t i)).testBit q = true) : ∃ j, j < i ∧ plLn np sa t j = q := by
  refine line_out hq i ?_
  have h2 := (line_fr ht hA (line_ne hnp ht hA hi)).2
  unfold frP at h2
  rw [Bool.and_eq_true] at h2
  exact and0.mp (of_decide_eq_true h2.2) q hs
theorem line_inj {np : Nat} {sa : Nat → Nat} {t i j : Nat} (hnp : np ≤ 10) (ht : t < 2 ^ np) (hA : Acy sa t) (hj : j < pcn t) (h : i < j) : plLn np sa t i ≠ plLn np sa t j := fun z => by
  have h1 := line_nin (np := np) (sa := sa) (t := t) j h
  have h2 := (line_fr ht hA (line_ne hnp ht hA hj)).2
  unfold frP at h2
  rw [Bool.and_eq_true, ← z, h1] at h2
  cases h2.1
/-- above: said to be, or above one who is -/
def FixC (np : Nat) (sa Z : Nat → Nat) : Prop := ∀ p, p < np → ∀ r, (Z p).testBit r = true ↔ ((sa p).testBit r = true ∨ ∃ q, q < np ∧ (sa p).testBit q = true ∧ (Z q).testBit r = true)
theorem orF_bit {s x : Nat} {A : Nat → Nat} {r : Nat} : ∀ k, (orF s x A k).testBit r = true ↔ (s.testBit r = true ∨ ∃ q, q < k ∧ x.testBit q = true ∧ (A q).testBit r = true)
  | 0 => ⟨fun h => Or.inl h, fun h => by
      rcases h with h | ⟨q, h1, _⟩
      · exact h
      · omega⟩
  | k + 1 => by
    rw [orF_s]
    have ih := orF_bit (s := s) (x := x) (A := A) (r := r) k
    by_cases hx : x.testBit k = true
    · rw [if_pos hx, Nat.testBit_or, Bool.or_eq_true, ih]
      constructor
      · rintro ((h | ⟨q, h1, h2⟩) | h)
        · exact Or.inl h
        · exact Or.inr ⟨q, by omega, h2⟩
        · exact Or.inr ⟨k, by omega, hx, h⟩
      · rintro (h | ⟨q, h1, h2, h3⟩)
        · exact Or.inl (Or.inl h)
        · by_cases e : q = k
          · rw [e] at h3; exact Or.inr h3
          · exact Or.inl (Or.inr ⟨q, by omega, h2, h3⟩)
    · rw [if_neg hx, ih]
      constructor
      · rintro (h | ⟨q, h1, h2⟩)
        · exact Or.inl h
        · exact Or.inr ⟨q, by omega, h2⟩
      · rintro (h | ⟨q, h1, h2, h3⟩)
        · exact Or.inl h
        · by_cases e : q = k
          · rw [e] at h2; exact absurd h2 hx
          · exact Or.inr ⟨q, by omega, h2, h3⟩
theorem clI_late {np : Nat} {sa A : Nat → Nat} {t : Nat} (hnp : np ≤ 10) (ht : t < 2 ^ np) (hA : Acy sa t) {j : Nat} : ∀ i, j < i → i ≤ pcn t → clI np sa (plLn np sa t) A i (plLn np sa t j) = clI np sa (plLn np sa t) A (j + 1) (plLn np sa t j)
  | 0, h, _ => by omega
  | i + 1, h, hi => by
    by_cases e : j = i
    · rw [e]
    · rw [clI_s]
      show (if plLn np sa t j = plLn np sa t i then _ else _) = _
      rw [if_neg (line_inj hnp ht hA (by omega) (by omega)), clI_late hnp ht hA i (by omega) (by omega)]
theorem clI_fix {np : Nat} {sa A : Nat → Nat} (hnp : np ≤ 10) (hA : Acy sa (2 ^ np - 1)) : FixC np sa (clI np sa (plLn np sa (2 ^ np - 1)) A np) := by
  have hpw := p2_10 hnp
  have ht : 2 ^ np - 1 < 2 ^ np := by omega
  have hpc := pcn_ev hnp
  intro p hp r
  obtain ⟨i, hi, e⟩ := line_all hnp ht hA (p := p) (by rw [full_bit, decide_eq_true hp])
  have z1 : ∀ j, j < np → clI np sa (plLn np sa (2 ^ np - 1)) A np (plLn np sa (2 ^ np - 1) j) = clI np sa (plLn np sa (2 ^ np - 1)) A (j + 1) (plLn np sa (2 ^ np - 1) j) := fun j hj => clI_late hnp ht hA np hj (by omega)
  rw [← e, z1 i (by omega), clI_s]
  show Nat.testBit (if plLn np sa (2 ^ np - 1) i = plLn np sa (2 ^ np - 1) i then _ else _) r = true ↔ _
  rw [if_pos rfl, orF_bit]
  have key : ∀ q, q < np → (sa (plLn np sa (2 ^ np - 1) i)).testBit q = true → clI np sa (plLn np sa (2 ^ np - 1)) A i q = clI np sa (plLn np sa (2 ^ np - 1)) A np q := fun q hq hs => by
    obtain ⟨j, hj, e2⟩ := line_above hnp ht hA hi (by rw [full_bit, decide_eq_true hq]) hs
    rw [← e2, z1 j (by omega), clI_late hnp ht hA i hj (by omega)]
  constructor
  · rintro (h | ⟨q, h1, h2, h3⟩)
    · exact Or.inl h
    · exact Or.inr ⟨q, h1, h2, by rw [← key q h1 h2]; exact h3⟩
  · rintro (h | ⟨q, h1, h2, h3⟩)
    · exact Or.inl h
    · exact Or.inr ⟨q, h1, h2, by rw [key q h1 h2]; exact h3⟩
theorem FixC.tr {np : Nat} {sa Z : Nat → Nat} (hA : Acy sa (2 ^ np - 1)) (hZ : FixC np sa Z) : ∀ p, p < np → ∀ q r, q < np → (Z p).testBit q = true → (Z q).testBit r = true → (Z p).testBit r = true := by
  refine hA.ind fun p hp ih q r hq h1 h2 => ?_
  rcases (hZ p hp q).mp h1 with h | ⟨x, hx, h3, h4⟩
  · exact (hZ p hp r).mpr (Or.inr ⟨q, hq, h, h2⟩)
  · exact (hZ p hp r).mpr (Or.inr ⟨x, hx, h3, ih x hx h3 q r hq h4 h2⟩)
/-! the reference's closure -/
def Sb (np : Nat) (A Z : Nat → Nat) : Prop := ∀ p, p < np → ∀ r, (A p).testBit r = true → (Z p).testBit r = true
theorem Sb.rf {np : Nat} {A : Nat → Nat} : Sb np A A := fun _ _ _ h => h
theorem Sb.tr {np : Nat} {A B C : Nat → Nat} (h1 : Sb np A B) (h2 : Sb np B C) : Sb np A C := fun p hp r h => h2 p hp r (h1 p hp r h)
theorem cl1_up {np : Nat} {A : Nat → Nat} {p q : Nat} : Sb np A (cl1 A p q) := fun x _ r h => by
  unfold cl1 upN
  split
  · dsimp only
    split
    · rename_i e
      rw [Nat.testBit_or, ← e, h]; rfl
    · exact h
  · exact h
theorem clQ_up {np : Nat} {A : Nat → Nat} {p : Nat} : ∀ q, Sb np A (clQ A p q)
  | 0 => Sb.rf
  | q + 1 => (clQ_up q).tr cl1_up
theorem clP_up {np m : Nat} {A : Nat → Nat} : ∀ p, Sb np A (clP A m p)
  | 0 => Sb.rf
  | p + 1 => (clP_up p).tr (clQ_up m)
theorem clR_up {np m : Nat} {A : Nat → Nat} : ∀ r, Sb np A (clR A m r)
  | 0 => Sb.rf
  | r + 1 => (clR_up r).tr (clP_up m)
theorem cl1_in {np : Nat} {A Z : Nat → Nat} {p q : Nat} (hp : p < np) (hq : q < np) (hT : ∀ p, p < np → ∀ q r, q < np → (Z p).testBit q = true → (Z q).testBit r = true → (Z p).testBit r = true) (h : Sb np A Z) : Sb np (cl1 A p q) Z := fun x hx r hr => by
  unfold cl1 upN at hr
  split at hr
  · rename_i hb
    dsimp only at hr
    split at hr
    · rename_i e
      rw [Nat.testBit_or, Bool.or_eq_true] at hr
      rw [e]
      rcases hr with hr | hr
      · exact h p hp r hr
      · exact hT p hp q r hq (h p hp q hb) (h q hq r hr)
    · exact h x hx r hr
  · exact h x hx r hr
theorem clQ_in {np : Nat} {A Z : Nat → Nat} {p : Nat} (hp : p < np) (hT : ∀ p, p < np → ∀ q r, q < np → (Z p).testBit q = true → (Z q).testBit r = true → (Z p).testBit r = true) (h : Sb np A Z) : ∀ q, q ≤ np → Sb np (clQ A p q) Z
  | 0, _ => h
  | q + 1, hq => cl1_in hp (by omega) hT (clQ_in hp hT h q (by omega))
theorem clP_in {np : Nat} {A Z : Nat → Nat} (hT : ∀ p, p < np → ∀ q r, q < np → (Z p).testBit q = true → (Z q).testBit r = true → (Z p).testBit r = true) (h : Sb np A Z) : ∀ p, p ≤ np → Sb np (clP A np p) Z
  | 0, _ => h
  | p + 1, hp => clQ_in (by omega) hT (clP_in hT h p (by omega)) np (Nat.le_refl _)
theorem clR_in {np : Nat} {A Z : Nat → Nat} (hT : ∀ p, p < np → ∀ q r, q < np → (Z p).testBit q = true → (Z q).testBit r = true → (Z p).testBit r = true) (h : Sb np A Z) : ∀ r, Sb np (clR A np r) Z
  | 0 => h
  | r + 1 => clP_in hT (clR_in hT h r) np (Nat.le_refl _)
theorem clQ_get {np : Nat} {A : Nat → Nat} {p q r : Nat} (hp : p < np) (hq : q < np) (h1 : (A p).testBit q = true) (h2 : (A q).testBit r = true) : ∀ k, q < k → (clQ A p k p).testBit r = true
  | 0, h => by omega
  | k + 1, h => by
    by_cases e : q = k
    · have b1 : (clQ A p k p).testBit k = true := clQ_up k p hp k (by rw [← e]; exact h1)
      have b2 : (clQ A p k k).testBit r = true := clQ_up (np := np) k k (by omega) r (by rw [← e]; exact h2)
      show (cl1 (clQ A p k) p k p).testBit r = true
      unfold cl1 upN
      rw [if_pos b1]
      try dsimp only
      rw [if_pos rfl, Nat.testBit_or, b2, Bool.or_true]
    · exact cl1_up p hp r (clQ_get hp hq h1 h2 k (by omega))
theorem clP_get {np : Nat} {A : Nat → Nat} {p q r : Nat} (hp : p < np) (hq : q < np) (h1 : (A p).testBit q = true) (h2 : (A q).testBit r = true) : ∀ k, p < k → (clP A np k p).testBit r = true
  | 0, h => by omega
  | k + 1, h => by
    by_cases e : p = k
    · subst e
      exact clQ_get hp hq (clP_up p p hp q h1) (clP_up p q hq r h2) np hq
    · exact clQ_up np p hp r (clP_get hp hq h1 h2 k (by omega))
theorem clR_fix {np : Nat} {sa Z : Nat → Nat} (hnp : np ≤ 10) (hA : Acy sa (2 ^ np - 1)) (hb : ∀ p r, (sa p).testBit r = true → r < np) (hZ : FixC np sa Z) : ∀ p, p < np → ∀ r, (clR sa np np p).testBit r = true ↔ (Z p).testBit r = true := by
  have hpw := p2_10 hnp
  have ht : 2 ^ np - 1 < 2 ^ np := by omega
  have hpc := pcn_ev hnp
  intro p hp r
  constructor
  · exact fun h => clR_in (hZ.tr hA) (fun x hx r h => (hZ x hx r).mpr (Or.inl h)) np p hp r h
  · have main : ∀ k i, i < np → i ≤ k → ∀ r, (Z (plLn np sa (2 ^ np - 1) i)).testBit r = true → (clR sa np k (plLn np sa (2 ^ np - 1) i)).testBit r = true := by
      intro k
      induction k with
      | zero =>
        intro i hi hik r hr
        have hl := (line_fr ht hA (line_ne hnp ht hA (show i < pcn (2 ^ np - 1) by omega))).1
        have no : ∀ q, (sa (plLn np sa (2 ^ np - 1) i)).testBit q = true → False := fun q hq => by
          obtain ⟨j, hj, _⟩ := line_above hnp ht hA (show i < pcn (2 ^ np - 1) by omega) (by rw [full_bit, decide_eq_true (hb _ _ hq)]) hq
          omega
        rcases (hZ _ hl r).mp hr with h | ⟨q, _, h, _⟩
        · exact absurd h (fun z => no _ z)
        · exact absurd h (fun z => no _ z)
      | succ k ih =>
        intro i hi hik r hr
        have hl := (line_fr ht hA (line_ne hnp ht hA (show i < pcn (2 ^ np - 1) by omega))).1
        rcases (hZ _ hl r).mp hr with h | ⟨q, hq, h, h3⟩
        · exact clR_up (k + 1) _ hl r h
        · obtain ⟨j, hj, e⟩ := line_above hnp ht hA (show i < pcn (2 ^ np - 1) by omega) (by rw [full_bit, decide_eq_true hq]) h
          have h4 := ih j (by omega) (by omega) r (by rw [e]; exact h3)
          rw [e] at h4
          exact clP_get hl hq (clR_up k _ hl q h) h4 np hl
    intro h
    obtain ⟨i, hi, e⟩ := line_all hnp ht hA (p := p) (by rw [full_bit, decide_eq_true hp])
    rw [← e]
    exact main np i (by omega) (by omega) r (by rw [e]; exact h)
theorem ahA_np {np c : Nat} {fi se : Nat → Nat} (h : SayV np c fi se) (p r : Nat) (hb : (ahA fi se c p).testBit r = true) : r < np := by
  obtain ⟨k, h1, h2, h3⟩ := ahA_bit.mp hb
  rw [← h3]; exact (h k h1).1
theorem abv_fix {np c : Nat} {fi se : Nat → Nat} (hnp : np ≤ 10) (h : SayV np c fi se) (ho : 0 < ordN np c fi se) : FixC np (ahA fi se c) (abv np c fi se) := by
  have hA := (ord_acy hnp).mp ho
  have e : abv np c fi se = clR (ahA fi se c) np np := by
    unfold abv
    congr 1
    funext p
    rw [if_pos ho]
  have hZ := clI_fix (A := fun _ => 0) hnp hA
  have hx := clR_fix hnp hA (ahA_np h) hZ
  intro p hp r
  rw [e, hx p hp r, hZ p hp r]
  constructor
  · rintro (h | ⟨q, h1, h2, h3⟩)
    · exact Or.inl h
    · exact Or.inr ⟨q, h1, h2, (hx q h1 r).mpr h3⟩
  · rintro (h | ⟨q, h1, h2, h3⟩)
    · exact Or.inl h
    · exact Or.inr ⟨q, h1, h2, (hx q h1 r).mp h3⟩
theorem FixC.uniq {np : Nat} {sa Y Z : Nat → Nat} (hA : Acy sa (2 ^ np - 1)) (hY : FixC np sa Y) (hZ : FixC np sa Z) : ∀ p, p < np → Y p = Z p := by
  have : ∀ p, p < np → ∀ r, (Y p).testBit r = true ↔ (Z p).testBit r = true := by
    refine hA.ind fun p hp ih r => ?_
    rw [hY p hp r, hZ p hp r]
    constructor
    · rintro (h | ⟨q, h1, h2, h3⟩)
      · exact Or.inl h
      · exact Or.inr ⟨q, h1, h2, (ih q h1 h2 r).mp h3⟩
    · rintro (h | ⟨q, h1, h2, h3⟩)
      · exact Or.inl h
      · exact Or.inr ⟨q, h1, h2, (ih q h1 h2 r).mpr h3⟩
  intro p hp
  exact Nat.eq_of_testBit_eq fun r => Bool.eq_iff_iff.mpr (this p hp r)
/-- what the class climbs to is the reference's closure -/
theorem clI_abv {np c : Nat} {fi se A : Nat → Nat} (hnp : np ≤ 10) (h : SayV np c fi se) (ho : 0 < ordN np c fi se) : ∀ p, p < np → clI np (ahA fi se c) (plLn np (ahA fi se c) (2 ^ np - 1)) A np p = abv np c fi se p :=
  FixC.uniq ((ord_acy hnp).mp ho) (clI_fix hnp ((ord_acy hnp).mp ho)) (abv_fix hnp h ho)
theorem clQ_0 {p : Nat} : ∀ q, clQ (fun _ => 0) p q = fun _ => 0
  | 0 => rfl
  | q + 1 => by
    show cl1 (clQ (fun _ => 0) p q) p q = _
    rw [clQ_0 q]
    unfold cl1
    simp
theorem clP_0 {np : Nat} : ∀ p, clP (fun _ => 0) np p = fun _ => 0
  | 0 => rfl
  | p + 1 => by
    show clQ (clP (fun _ => 0) np p) p np = _
    rw [clP_0 p, clQ_0]
theorem clR_0 {np : Nat} : ∀ r, clR (fun _ => 0) np r = fun _ => 0
  | 0 => rfl
  | r + 1 => by
    show clP (clR (fun _ => 0) np r) np np = _
    rw [clR_0 r, clP_0]
theorem abv_0 {np c : Nat} {fi se : Nat → Nat} (ho : ¬ 0 < ordN np c fi se) (p : Nat) : abv np c fi se p = 0 := by
  unfold abv
  have : (fun p => if 0 < ordN np c fi se then ahA fi se c p else 0) = fun _ => 0 := by
    funext p
    rw [if_neg ho]
  rw [this, clR_0]
