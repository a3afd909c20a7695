/-! sure pairs and counts -/
theorem setN_bit (f : Nat → Bool) : ∀ k i, (setN f k).testBit i = (decide (i < k) && f i)
  | 0, i => by simp [setN]
  | k + 1, i => by
    have ih := setN_bit f k i
    rw [setN_s]
    by_cases e : k = i
    · subst e
      cases hk : f k with
      | true => rw [if_pos rfl, or_bit, ih]; simp
      | false => rw [if_neg (by decide), ih]; simp
    · have h2 : decide (i < k + 1) = decide (i < k) := decide_eq_decide.mpr (by omega)
      rw [h2, ← ih]
      split
      · rw [or_bit, decide_eq_false e, Bool.or_false]
      · rfl
theorem mkset (np : Nat) (P : Nat → Prop) : ∃ s : Nat, (∀ i, s.testBit i = true ↔ (i < np ∧ P i)) := by
  refine ⟨setN (fun x => @decide (P x) (Classical.propDecidable _)) np, fun i => ?_⟩
  rw [setN_bit, Bool.and_eq_true]
  simp
theorem cntW_W (np c : Nat) (fi se : Nat → Nat) (a b : Nat) : cntW np c fi se a b = fitW np (upN (ahA fi se c) b (ahA fi se c b ||| 2 ^ a)) (2 ^ np - 1) := rfl
theorem up_bit {sa : Nat → Nat} {a b p i : Nat} : (upN sa b (sa b ||| 2 ^ a) p).testBit i = true ↔ ((sa p).testBit i = true ∨ (p = b ∧ i = a)) := by
  unfold upN
  by_cases e : p = b
  · rw [if_pos e, or_bit, Bool.or_eq_true, e]
    constructor
    · rintro (h | h)
      · exact Or.inl h
      · exact Or.inr ⟨rfl, (of_decide_eq_true h).symm⟩
    · rintro (h | h)
      · exact Or.inl h
      · exact Or.inr (decide_eq_true h.2.symm)
  · rw [if_neg e]
    exact ⟨fun h => Or.inl h, fun h => h.elim id (fun z => absurd z.1 e)⟩
theorem sure_cnt {np c : Nat} {fi se : Nat → Nat} {a b : Nat} (hnp : np ≤ 10) (h : SayV np c fi se) (ho : 0 < ordN np c fi se) (ha : a < np) (hb : b < np) (hz : (abv np c fi se b).testBit a = true) : cntW np c fi se b a = 0 := by
  have hpw := p2_10 hnp
  have hA := (ord_acy hnp).mp ho
  have hZ := abv_fix hnp h ho
  have hT := hZ.tr hA
  refine Nat.eq_zero_of_not_pos fun hpos => ?_
  rw [cntW_W] at hpos
  have hA' := (fitW_pos hnp (by omega)).mp hpos
  obtain ⟨s, hs⟩ := mkset np (fun x => x = a ∨ ((abv np c fi se x).testBit a = true ∧ (x = b ∨ (abv np c fi se b).testBit x = true)))
  obtain ⟨p, hp, hm⟩ := hA' s (ne0_bit (i := a) ((hs a).mpr ⟨ha, Or.inl rfl⟩)) (fun i hi => by rw [full_bit]; exact decide_eq_true ((hs i).mp hi).1)
  have no : ∀ q, s.testBit q = true → ((ahA fi se c p).testBit q = true ∨ (p = a ∧ q = b)) → False := fun q hq hq2 => by
    have := and0.mp hm q (up_bit.mpr hq2)
    rw [hq] at this; cases this
  have hbs : s.testBit b = true := (hs b).mpr ⟨hb, Or.inr ⟨hz, Or.inl rfl⟩⟩
  obtain ⟨hpn, hp2⟩ := (hs p).mp hp
  rcases hp2 with e | ⟨e1, e2⟩
  · exact no b hbs (Or.inr ⟨e, rfl⟩)
  · rcases (hZ p hpn a).mp e1 with h1 | ⟨q, hq, h1, h2⟩
    · exact no a ((hs a).mpr ⟨ha, Or.inl rfl⟩) (Or.inl h1)
    · refine no q ((hs q).mpr ⟨hq, Or.inr ⟨h2, ?_⟩⟩) (Or.inl h1)
      have hpq : (abv np c fi se p).testBit q = true := (hZ p hpn q).mpr (Or.inl h1)
      rcases e2 with e2 | e2
      · rw [e2] at hpq; exact Or.inr hpq
      · exact Or.inr (hT b hb p q hpn e2 hpq)
theorem unsure_cnt {np c : Nat} {fi se : Nat → Nat} {a b : Nat} (hnp : np ≤ 10) (h : SayV np c fi se) (ho : 0 < ordN np c fi se) (ha : a < np) (hb : b < np) (hab : a ≠ b) (hz : (abv np c fi se a).testBit b = false) : 0 < cntW np c fi se a b := by
  have hpw := p2_10 hnp
  have hA := (ord_acy hnp).mp ho
  have hZ := abv_fix hnp h ho
  have hT := hZ.tr hA
  rw [cntW_W]
  refine (fitW_pos hnp (by omega)).mpr fun s h0 hs => ?_
  obtain ⟨m, hm, hmin⟩ := hA s h0 hs
  have fin : ∀ x, s.testBit x = true → ahA fi se c x &&& s = 0 → (x = b → s.testBit a = false) → ∃ p, s.testBit p = true ∧ upN (ahA fi se c) b (ahA fi se c b ||| 2 ^ a) p &&& s = 0 := fun x hx h1 h2 => ⟨x, hx, and0.mpr fun i hi => by
    rcases up_bit.mp hi with h3 | ⟨h3, h4⟩
    · exact and0.mp h1 i h3
    · rw [h4]; exact h2 h3⟩
  by_cases e : m = b ∧ s.testBit a = true
  · obtain ⟨s', hs'⟩ := mkset np (fun x => s.testBit x = true ∧ (x = a ∨ (abv np c fi se a).testBit x = true))
    obtain ⟨m', hm', hmin'⟩ := hA s' (ne0_bit (i := a) ((hs' a).mpr ⟨ha, e.2, Or.inl rfl⟩)) (fun i hi => by rw [full_bit]; exact decide_eq_true ((hs' i).mp hi).1)
    obtain ⟨k1, k2, k3⟩ := (hs' m').mp hm'
    refine fin m' k2 (and0.mpr fun y hy => ?_) (fun z => ?_)
    · cases hys : s.testBit y with
      | false => rfl
      | true =>
        have hyn := ahA_np h _ _ hy
        have hmy : (abv np c fi se m').testBit y = true := (hZ m' k1 y).mpr (Or.inl hy)
        have : s'.testBit y = true := (hs' y).mpr ⟨hyn, hys, Or.inr (by
          rcases k3 with k3 | k3
          · rw [← k3]; exact hmy
          · exact hT a ha m' y k1 k3 hmy)⟩
        have h2 := and0.mp hmin' y hy
        rw [this] at h2; cases h2
    · rcases k3 with k3 | k3
      · exact absurd (k3.symm.trans z) hab
      · rw [z, hz] at k3; cases k3
  · refine fin m hm hmin (fun z => ?_)
    cases hsa : s.testBit a with
    | false => rfl
    | true => exact absurd ⟨z, hsa⟩ e
theorem fb_sm_le1 {f : Nat → Nat} : ∀ {n : Nat}, (∀ k, k < n → f k ≤ 1) → (∀ i j, i < n → j < n → f i ≠ 0 → f j ≠ 0 → i = j) → fb_sm f n ≤ 1
  | 0, _, _ => Nat.zero_le _
  | n + 1, h1, h2 => by
    rw [fb_sm_succ]
    by_cases e : f n = 0
    · rw [e, Nat.add_zero]
      exact fb_sm_le1 (fun k hk => h1 k (by omega)) (fun i j hi hj => h2 i j (by omega) (by omega))
    · rw [fb_sm_0 (fun k hk => Classical.byContradiction fun z => by
        have := h2 k n (by omega) (by omega) z e
        omega), Nat.zero_add]
      exact h1 n (by omega)
theorem unsure_ex {np c : Nat} {fi se : Nat → Nat} (hnp : np ≤ 10) (h : SayV np c fi se) (ho : 2 ≤ ordN np c fi se) : ∃ a b, a < b ∧ b < np ∧ (abv np c fi se a).testBit b = false ∧ (abv np c fi se b).testBit a = false := by
  have hpw := p2_10 hnp
  have hA := (ord_acy hnp).mp (show 0 < ordN np c fi se by omega)
  have hZ := abv_fix hnp h (by omega)
  refine Classical.byContradiction fun hno => ?_
  have cmp : ∀ a b, a < np → b < np → a ≠ b → (abv np c fi se a).testBit b = true ∨ (abv np c fi se b).testBit a = true := fun a b ha hb hab => by
    cases h1 : (abv np c fi se a).testBit b with
    | true => exact Or.inl rfl
    | false =>
      cases h2 : (abv np c fi se b).testBit a with
      | true => exact Or.inr rfl
      | false =>
        exfalso
        rcases Nat.lt_or_ge a b with y | y
        · exact hno ⟨a, b, y, hb, h1, h2⟩
        · exact hno ⟨b, a, by omega, ha, h2, h1⟩
  have main : ∀ f t, t < 2 ^ np → pcn t ≤ f → (∀ x y, x < np → t.testBit x = false → (abv np c fi se x).testBit y = true → t.testBit y = false) → fitW np (ahA fi se c) t ≤ 1 := by
    intro f
    induction f with
    | zero =>
      intro t ht hf hD
      rw [pc_0 hnp ht (by omega), fitW_0]; exact Nat.le_refl _
    | succ f ih =>
      intro t ht hf hD
      by_cases h0 : t = 0
      · rw [h0, fitW_0]; exact Nat.le_refl _
      · rw [fitW_e ht h0]
        have fr : ∀ b, frP (ahA fi se c) t b = true → t.testBit b = true ∧ (∀ i, (ahA fi se c b).testBit i = true → t.testBit i = false) := fun b hb => by
          unfold frP at hb
          rw [Bool.and_eq_true] at hb
          exact ⟨hb.1, and0.mp (of_decide_eq_true hb.2)⟩
        have up : ∀ b y, b < np → frP (ahA fi se c) t b = true → (abv np c fi se b).testBit y = true → t.testBit y = false := fun b y hbn hb hy => by
          rcases (hZ b hbn y).mp hy with z | ⟨q, hq, z1, z2⟩
          · exact (fr b hb).2 y z
          · exact hD q y hq ((fr b hb).2 q z1) z2
        refine fb_sm_le1 (fun b hb => ?_) (fun i j hi hj h1 h2 => ?_)
        · split
          · rename_i hfb
            have htb := (fr b hfb).1
            have := pc_an hnp ht htb
            refine ih _ (by have := anot_lt htb; omega) (by omega) (fun x y hx h1 h2 => ?_)
            rw [an_bit] at h1 ⊢
            by_cases e : b = x
            · rw [up b y hb hfb (by rw [e]; exact h2), Bool.false_and]
            · rw [decide_eq_false e, Bool.not_false, Bool.and_true] at h1
              rw [hD x y hx h1 h2, Bool.false_and]
          · exact Nat.zero_le _
        · by_cases e : i = j
          · exact e
          · have hi2 : frP (ahA fi se c) t i = true := by
              cases hh : frP (ahA fi se c) t i with
              | true => rfl
              | false => rw [hh] at h1; exact absurd rfl h1
            have hj2 : frP (ahA fi se c) t j = true := by
              cases hh : frP (ahA fi se c) t j with
              | true => rfl
              | false => rw [hh] at h2; exact absurd rfl h2
            exfalso
            rcases cmp i j hi hj e with z | z
            · have := up i j hi hi2 z
              rw [(fr j hj2).1] at this; cases this
            · have := up j i hj hj2 z
              rw [(fr i hi2).1] at this; cases this
  have := main (pcn (2 ^ np - 1)) (2 ^ np - 1) (by omega) (Nat.le_refl _) (fun x y hx h1 _ => by rw [full_bit, decide_eq_true hx] at h1; cases h1)
  have e : fitW np (ahA fi se c) (2 ^ np - 1) = ordN np c fi se := rfl
  omega
/-! the best question is the reference's -/
theorem bq_nxt1 {np c : Nat} {fi se : Nat → Nat} {a b : Nat} (hnp : np ≤ 10) (h : SayV np c fi se) (ho : 0 < ordN np c fi se) (ha : a < np) (hb : b < np) (hab : a ≠ b) {A : Nat → Nat → Nat} (h1 : A a b = cntW np c fi se a b) (h2 : A b a = cntW np c fi se b a) {s : Option (Nat × Nat × Nat)} (hs : bqF (ordN np c fi se) s ≤ ordN np c fi se) : bq1 A (ordN np c fi se) a b s = nxt1 np c fi se a b s := by
  have sum := cnt_sum ha hb hab h
  unfold bq1 nxt1 lftW
  rw [h1, h2]
  have e0 : ordN np c fi se - cntW np c fi se a b = cntW np c fi se b a := by omega
  rw [e0]
  have mx : ∀ x y : Nat, Nat.max x y = if x ≤ y then y else x := fun x y => by
    by_cases z : x ≤ y
    · rw [if_pos z]; exact Nat.max_eq_right z
    · rw [if_neg z]; exact Nat.max_eq_left (by omega)
  by_cases hsr : ((abv np c fi se a).testBit b || (abv np c fi se b).testBit a) = true
  · rw [if_pos hsr, if_neg]
    rw [Bool.or_eq_true] at hsr
    rw [mx]
    rcases hsr with z | z
    · have := sure_cnt hnp h ho hb ha z
      split <;> omega
    · have := sure_cnt hnp h ho ha hb z
      split <;> omega
  · rw [if_neg hsr]
    have u1 : (abv np c fi se a).testBit b = false := by
      cases hh : (abv np c fi se a).testBit b with
      | false => rfl
      | true => rw [hh] at hsr; exact absurd rfl hsr
    have u2 : (abv np c fi se b).testBit a = false := by
      cases hh : (abv np c fi se b).testBit a with
      | false => rfl
      | true => rw [hh, Bool.or_true] at hsr; exact absurd rfl hsr
    have p1 := unsure_cnt hnp h ho ha hb hab u1
    have p2 := unsure_cnt hnp h ho hb ha (fun z => hab z.symm) u2
    cases s with
    | none =>
      rw [if_pos]
      show Nat.max _ _ < ordN np c fi se
      rw [mx]
      split <;> omega
    | some q =>
      show (if _ < q.1 then _ else _) = _
      by_cases z : q.1 ≤ Nat.max (cntW np c fi se a b) (cntW np c fi se b a)
      · rw [if_neg (by omega)]
        simp only [z, if_true]
      · rw [if_pos (by omega)]
        simp only [z, if_false]
theorem bq_nxt {np c : Nat} {fi se : Nat → Nat} (hnp : np ≤ 10) (h : SayV np c fi se) (ho : 0 < ordN np c fi se) {A : Nat → Nat → Nat} (hA : ∀ a b, a < np → b < np → a ≠ b → A a b = cntW np c fi se a b) : ∀ k, k ≤ np → bqO A (ordN np c fi se) np k = nxtO np c fi se k
  | 0, _ => rfl
  | k + 1, hk => by
    have ih := bq_nxt hnp h ho hA k (by omega)
    have hl := bqO_lt (A := A) (all := ordN np c fi se) (np := np) k
    show bqJ2 A (ordN np c fi se) k (bqO A (ordN np c fi se) np k) np = nxtJ np c fi se k (nxtO np c fi se k) np
    rw [← ih]
    have : ∀ b, b ≤ np → bqJ2 A (ordN np c fi se) k (bqO A (ordN np c fi se) np k) b = nxtJ np c fi se k (bqO A (ordN np c fi se) np k) b := by
      intro b
      induction b with
      | zero => intro _; rfl
      | succ b ihb =>
        intro hb
        rw [bqJ2_s, nxtJ_s, ← ihb (by omega)]
        by_cases e : k < b
        · rw [if_pos e, if_pos e, bq_nxt1 hnp h ho (by omega) (by omega) (by omega) (hA k b (by omega) (by omega) (by omega)) (hA b k (by omega) (by omega) (by omega)) (bqJ2_lt hl b)]
        · rw [if_neg e, if_neg e]
    exact this np (Nat.le_refl _)
theorem nxt1_some {np c : Nat} {fi se : Nat → Nat} {a b : Nat} {s : Option (Nat × Nat × Nat)} (h : s ≠ none) : nxt1 np c fi se a b s ≠ none := by
  unfold nxt1
  cases s with
  | none => exact absurd rfl h
  | some q =>
    split
    · exact h
    · dsimp only
      split <;> exact fun z => by cases z
theorem nxtJ_some {np c : Nat} {fi se : Nat → Nat} {a : Nat} {s : Option (Nat × Nat × Nat)} (h : s ≠ none) : ∀ b, nxtJ np c fi se a s b ≠ none
  | 0 => h
  | b + 1 => by
    rw [nxtJ_s]
    split
    · exact nxt1_some (nxtJ_some h b)
    · exact nxtJ_some h b
theorem nxtJ_hit {np c : Nat} {fi se : Nat → Nat} {a b : Nat} {s : Option (Nat × Nat × Nat)} (hab : a < b) (h1 : (abv np c fi se a).testBit b = false) (h2 : (abv np c fi se b).testBit a = false) : ∀ k, b < k → nxtJ np c fi se a s k ≠ none
  | 0, h => by omega
  | k + 1, h => by
    rw [nxtJ_s]
    by_cases e : b = k
    · subst e
      rw [if_pos hab]
      unfold nxt1
      rw [h1, h2]
      cases nxtJ np c fi se a s b with
      | none => exact fun z => by cases z
      | some q =>
        dsimp only
        rw [if_neg (by decide)]
        split <;> exact fun z => by cases z
    · have := nxtJ_hit (s := s) hab h1 h2 k (by omega)
      split
      · exact nxt1_some this
      · exact this
theorem nxtO_ne {np c : Nat} {fi se : Nat → Nat} (hnp : np ≤ 10) (h : SayV np c fi se) (ho : 2 ≤ ordN np c fi se) : nxtO np c fi se np ≠ none := by
  obtain ⟨a, b, h1, h2, h3, h4⟩ := unsure_ex hnp h ho
  have : ∀ k, a < k → nxtO np c fi se k ≠ none := by
    intro k
    induction k with
    | zero => intro z; omega
    | succ k ih =>
      intro z
      by_cases e : a = k
      · subst e
        exact nxtJ_hit h1 h3 h4 np h2
      · exact nxtJ_some (ih (by omega)) np
  exact this np (by omega)
