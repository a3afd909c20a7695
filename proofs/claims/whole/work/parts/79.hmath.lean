/-! who is helped, where a new one may stand -/
theorem ahd_bit {fi se : Nat → Nat} {ok : Nat → Bool} {p i : Nat} : ∀ {c : Nat}, (ahd fi se ok p c).testBit i = true ↔ ∃ k, k < c ∧ se k = p ∧ fi k = i ∧ ok (fi k) = true ∧ ok (se k) = true
  | 0 => by simp [ahd]
  | c + 1 => by
    have ih := ahd_bit (fi := fi) (se := se) (ok := ok) (p := p) (i := i) (c := c)
    show (if ok (fi c) && ok (se c) && se c == p then ahd fi se ok p c ||| 2 ^ fi c else ahd fi se ok p c).testBit i = true ↔ _
    constructor
    · intro h
      by_cases e : (ok (fi c) && ok (se c) && se c == p) = true
      · rw [if_pos e, or_bit, Bool.or_eq_true] at h
        simp only [Bool.and_eq_true, beq_iff_eq] at e
        rcases h with h | h
        · obtain ⟨k, a, b⟩ := ih.mp h
          exact ⟨k, by omega, b⟩
        · exact ⟨c, by omega, e.2, of_decide_eq_true h, e.1⟩
      · rw [if_neg e] at h
        obtain ⟨k, a, b⟩ := ih.mp h
        exact ⟨k, by omega, b⟩
    · rintro ⟨k, a, b, e2, e3, e4⟩
      by_cases hk : k = c
      · subst hk
        rw [if_pos (by simp [b, e3, e4] at *; simp [e3, e4]), or_bit, decide_eq_true e2, Bool.or_true]
      · have := ih.mpr ⟨k, by omega, b, e2, e3, e4⟩
        split
        · rw [or_bit, this]; rfl
        · exact this
theorem ahB_bit {fi se : Nat → Nat} {c a q i : Nat} (hq : q ≠ a) (hi : i ≠ a) : (ahd fi se (fun x => decide (x ≠ a)) q c).testBit i = (ahA fi se c q).testBit i := by
  rw [Bool.eq_iff_iff, ahd_bit, ahA_bit]
  constructor
  · rintro ⟨k, h1, h2, h3, _⟩
    exact ⟨k, h1, h2, h3⟩
  · rintro ⟨k, h1, h2, h3⟩
    exact ⟨k, h1, h2, h3, by rw [h3]; exact decide_eq_true hi, by rw [h2]; exact decide_eq_true hq⟩
theorem who_bit {np a i : Nat} : (anot (2 ^ np - 1) (2 ^ a)).testBit i = true ↔ (i < np ∧ i ≠ a) := by
  rw [an_bit, full_bit]
  simp only [Bool.and_eq_true, decide_eq_true_eq, Bool.not_eq_true', decide_eq_false_iff_not]
  exact ⟨fun h => ⟨h.1, fun z => h.2 z.symm⟩, fun h => ⟨h.1, fun z => h.2 z.symm⟩⟩
theorem who_lt {np a : Nat} : anot (2 ^ np - 1) (2 ^ a) < 2 ^ np := by
  have := anot_le (2 ^ np - 1) (2 ^ a)
  have : 1 ≤ 2 ^ np := Nat.one_le_two_pow
  omega
theorem ordB_pl {np c : Nat} {fi se : Nat → Nat} {p : Nat} (hnp : np ≤ 10) : 0 < ordB np c fi se p ↔ ¬ plA np (ahA fi se c) 10 (anot (2 ^ np - 1) (2 ^ p)) 1 = 0 := by
  have hpw := p2_10 hnp
  have e1 : 0 < ordB np c fi se p ↔ Acy (fun q => ahd fi se (fun x => decide (x ≠ p)) q c) (2 ^ np - 1) := fitW_pos hnp (by omega)
  have e2 : (¬ plA np (ahA fi se c) 10 (anot (2 ^ np - 1) (2 ^ p)) 1 = 0) ↔ Acy (ahA fi se c) (anot (2 ^ np - 1) (2 ^ p)) := by
    rw [plA_10 hnp who_lt, ← fitW_pos hnp who_lt]
    by_cases z : fitW np (ahA fi se c) (anot (2 ^ np - 1) (2 ^ p)) = 0
    · rw [if_pos z]
      exact ⟨fun y => absurd rfl y, fun y => by omega⟩
    · rw [if_neg z]
      refine ⟨fun _ => by omega, fun _ => ?_⟩
      split <;> decide
  rw [e1, e2]
  constructor
  · intro h s h0 hs
    obtain ⟨m, hm, hmin⟩ := h s h0 (fun i hi => by rw [full_bit]; exact decide_eq_true (who_bit.mp (hs i hi)).1)
    refine ⟨m, hm, and0.mpr fun i hi => ?_⟩
    cases hsi : s.testBit i with
    | false => rfl
    | true =>
      have := and0.mp hmin i (by rw [ahB_bit (who_bit.mp (hs m hm)).2 (who_bit.mp (hs i hsi)).2]; exact hi)
      rw [hsi] at this; cases this
  · intro h s h0 hs
    have hz : ∀ i, (ahd fi se (fun x => decide (x ≠ p)) p c).testBit i = false := fun i => by
      cases hb : (ahd fi se (fun x => decide (x ≠ p)) p c).testBit i with
      | false => rfl
      | true =>
        obtain ⟨k, h1, h2, h3, h4, h5⟩ := ahd_bit.mp hb
        rw [h2] at h5
        exact absurd rfl (of_decide_eq_true h5)
    by_cases hp : s.testBit p = true
    · exact ⟨p, hp, and0.mpr fun i hi => by rw [hz i] at hi; cases hi⟩
    · have hs' : sbs s (anot (2 ^ np - 1) (2 ^ p)) := fun i hi => who_bit.mpr ⟨by
        have := hs i hi
        rw [full_bit] at this
        exact of_decide_eq_true this, fun z => hp (by rw [← z]; exact hi)⟩
      obtain ⟨m, hm, hmin⟩ := h s h0 hs'
      refine ⟨m, hm, and0.mpr fun i hi => ?_⟩
      cases hsi : s.testBit i with
      | false => rfl
      | true =>
        have := and0.mp hmin i (by rw [← ahB_bit (who_bit.mp (hs' m hm)).2 (who_bit.mp (hs' i hsi)).2]; exact hi)
        rw [hsi] at this; cases this
theorem hlp_set {np c : Nat} {fi se : Nat → Nat} (hnp : np ≤ 10) : ∀ k, hlp np c fi se k = setN (fun p => !decide (plA np (ahA fi se c) 10 (anot (2 ^ np - 1) (2 ^ p)) 1 = 0)) k
  | 0 => rfl
  | k + 1 => by
    rw [hlp_s, setN_s, hlp_set hnp k]
    have := ordB_pl (np := np) (c := c) (fi := fi) (se := se) (p := k) hnp
    by_cases z : plA np (ahA fi se c) 10 (anot (2 ^ np - 1) (2 ^ k)) 1 = 0
    · rw [if_neg (fun y => this.mp y z), if_neg (by rw [decide_eq_true z]; decide)]
    · rw [if_pos (this.mpr z), if_pos (by rw [decide_eq_false z]; rfl)]
/-! where a new one may stand -/
theorem fitC_cong {np who : Nat} {ah ah' : Nat → Nat} (h : ∀ p, who.testBit p = true → ∀ i, who.testBit i = true → (ah p).testBit i = (ah' p).testBit i) : ∀ t, fitC np who ah t = fitC np who ah' t := by
  intro t
  induction t using Nat.strongRecOn with
  | _ t ih =>
    by_cases h0 : t = 0
    · rw [h0, fitC, fitC]; rfl
    · by_cases hs : sbs t who
      · rw [fitC_e h0 hs, fitC_e h0 hs]
        refine fb_sm_cong fun p _ => ?_
        have e : ah p &&& who = ah' p &&& who ∨ ¬ t.testBit p = true := by
          by_cases hp : t.testBit p = true
          · refine Or.inl (Nat.eq_of_testBit_eq fun i => ?_)
            rw [Nat.testBit_and, Nat.testBit_and]
            cases hi : who.testBit i with
            | false => rw [Bool.and_false, Bool.and_false]
            | true => rw [h p (hs p hp) i hi]
          · exact Or.inr hp
        rcases e with e | e
        · rw [e]
          by_cases hc : t.testBit p = true ∧ anot (ah' p &&& who) (anot t (2 ^ p)) = 0
          · rw [if_pos hc, if_pos hc, ih _ (anot_lt hc.1)]
          · rw [if_neg hc, if_neg hc]
        · rw [if_neg (fun y => e y.1), if_neg (fun y => e y.1)]
      · have : ¬ anot t who = 0 := fun z => hs (anot_0.mp z)
        rw [fitC, fitC, if_neg h0, if_neg h0, if_neg this, if_neg this]
theorem newR_W {np c : Nat} {fi se : Nat → Nat} {a : Nat} (t : Nat) : newR np c fi se a t = fitC np (anot (2 ^ np - 1) (2 ^ a)) (ahA fi se c) t := fitC_cong (fun p hp i hi => ahB_bit (who_bit.mp hp).2 (who_bit.mp hi).2) t
theorem pc_who {np a : Nat} (hnp : np ≤ 10) (ha : a < np) : pcn (anot (2 ^ np - 1) (2 ^ a)) = np - 1 := by
  have hpw := p2_10 hnp
  have := pc_an hnp (t := 2 ^ np - 1) (p := a) (by omega) (by rw [full_bit, decide_eq_true ha])
  rw [pcn_ev hnp] at this
  omega
/-- those who stand first -/
def frs (np : Nat) (sa : Nat → Nat) (t i : Nat) : Nat := anot t (plT np sa t i)
theorem frs_bit {np : Nat} {sa : Nat → Nat} {t i j : Nat} : (frs np sa t i).testBit j = (t.testBit j && !(plT np sa t i).testBit j) := anot_bit _ _ _
theorem frs_sub {np : Nat} {sa : Nat → Nat} {t i : Nat} : sbs (frs np sa t i) t := fun j hj => by
  rw [frs_bit, Bool.and_eq_true] at hj; exact hj.1
theorem frs_s {np : Nat} {sa : Nat → Nat} {t i : Nat} (ht : t < 2 ^ np) (hA : Acy sa t) (h0 : plT np sa t i ≠ 0) : (frs np sa t (i + 1)).testBit (plLn np sa t i) = true ∧ anot (frs np sa t (i + 1)) (2 ^ plLn np sa t i) = frs np sa t i ∧ (∀ j, (sa (plLn np sa t i)).testBit j = true → t.testBit j = true → (frs np sa t i).testBit j = true) := by
  obtain ⟨h1, h2⟩ := line_fr ht hA h0
  unfold frP at h2
  rw [Bool.and_eq_true] at h2
  have e : ∀ j, (plT np sa t (i + 1)).testBit j = ((plT np sa t i).testBit j && !decide (plLn np sa t i = j)) := fun j => an_bit _ _ _
  refine ⟨?_, Nat.eq_of_testBit_eq fun j => ?_, fun j hj hj2 => ?_⟩
  · rw [frs_bit, e, plT_sub i _ h2.1, decide_eq_true rfl, Bool.not_true, Bool.and_false]; rfl
  · rw [an_bit, frs_bit, frs_bit, e]
    by_cases z : plLn np sa t i = j
    · rw [← z, h2.1, decide_eq_true rfl]
      simp
    · rw [decide_eq_false z]
      simp
  · rw [frs_bit, hj2, and0.mp (of_decide_eq_true h2.2) j hj]; rfl
theorem frs_full {np : Nat} {sa : Nat → Nat} {t : Nat} (hnp : np ≤ 10) (ht : t < 2 ^ np) (hA : Acy sa t) : frs np sa t (pcn t) = t := by
  have := line_pc hnp ht hA (pcn t) (Nat.le_refl _)
  have z := pc_0 hnp (Nat.lt_of_le_of_lt (plT_le _) ht) (show pcn (plT np sa t (pcn t)) = 0 by omega)
  refine Nat.eq_of_testBit_eq fun j => ?_
  rw [frs_bit, z]
  simp
theorem frs_0 {np : Nat} {sa : Nat → Nat} {t : Nat} : frs np sa t 0 = 0 := Nat.eq_of_testBit_eq fun j => by
  rw [frs_bit]
  show (t.testBit j && !t.testBit j) = _
  cases t.testBit j <;> simp
theorem frs_in {np : Nat} {sa : Nat → Nat} {t i j : Nat} (hnp : np ≤ 10) (ht : t < 2 ^ np) (hA : Acy sa t) (hj : j < pcn t) : (frs np sa t i).testBit (plLn np sa t j) = decide (j < i) := by
  obtain ⟨h1, h2⟩ := line_fr ht hA (line_ne hnp ht hA hj)
  unfold frP at h2
  rw [Bool.and_eq_true] at h2
  rw [frs_bit, plT_sub j _ h2.1, Bool.true_and]
  by_cases e : j < i
  · rw [line_nin i e, decide_eq_true e]; rfl
  · rw [decide_eq_false e]
    have mono : ∀ k, sbs (plT np sa t (i + k)) (plT np sa t i) := by
      intro k
      induction k with
      | zero => exact fun _ z => z
      | succ k ih => exact fun x hx => ih x (by
          have : (anot (plT np sa t (i + k)) (2 ^ bst np sa (plT np sa t (i + k)))).testBit x = true := hx
          rw [an_bit, Bool.and_eq_true] at this
          exact this.1)
    have := mono (j - i) (plLn np sa t j) (by rw [show i + (j - i) = j by omega]; exact h2.1)
    rw [this]; rfl
theorem frs_fit {np : Nat} {sa : Nat → Nat} {t : Nat} (hnp : np ≤ 10) (ht : t < 2 ^ np) (h1 : fitW np sa t = 1) : ∀ i, i ≤ pcn t → fitC np t sa (frs np sa t i) = 1 := by
  have hA : Acy sa t := (fitW_pos hnp ht).mp (by omega)
  have step : ∀ i, i < pcn t → fitC np t sa (frs np sa t i) ≤ fitC np t sa (frs np sa t (i + 1)) := fun i hi => by
    have h0 := line_ne hnp ht hA hi
    obtain ⟨a1, a2, a3⟩ := frs_s ht hA h0
    have hl := (line_fr ht hA h0).1
    rw [fitC_e (ne0_bit a1) frs_sub]
    have := fb_sm_part (fun p => if (frs np sa t (i + 1)).testBit p = true ∧ anot (sa p &&& t) (anot (frs np sa t (i + 1)) (2 ^ p)) = 0 then fitC np t sa (anot (frs np sa t (i + 1)) (2 ^ p)) else 0) hl
    rw [if_pos ⟨a1, by
      rw [a2]
      exact anot_0.mpr fun j hj => by
        rw [Nat.testBit_and, Bool.and_eq_true] at hj
        exact a3 j hj.1 hj.2⟩, a2] at this
    omega
  have up : ∀ k i, i + k = pcn t → fitC np t sa (frs np sa t i) ≤ 1 := by
    intro k
    induction k with
    | zero =>
      intro i hi
      rw [show i = pcn t by omega, frs_full hnp ht hA]
      exact Nat.le_of_eq h1
    | succ k ih => intro i hi; exact Nat.le_trans (step i (by omega)) (ih (i + 1) (by omega))
  have lo : ∀ i, i ≤ pcn t → 1 ≤ fitC np t sa (frs np sa t i) := by
    intro i
    induction i with
    | zero => intro _; rw [frs_0, fitC]; exact Nat.le_refl _
    | succ i ih => intro hi; exact Nat.le_trans (ih (by omega)) (step i (by omega))
  intro i hi
  have := up (pcn t - i) i (by omega)
  have := lo i hi
  omega
theorem frs_lst {np c : Nat} {fi se : Nat → Nat} {a : Nat} (hnp : np ≤ 10) (h1 : fitW np (ahA fi se c) (anot (2 ^ np - 1) (2 ^ a)) = 1) {i : Nat} (hi : i < pcn (anot (2 ^ np - 1) (2 ^ a))) : lstN np (whoO np a) (ahB fi se c a) (newR np c fi se a) (frs np (ahA fi se c) (anot (2 ^ np - 1) (2 ^ a)) (i + 1)) = plLn np (ahA fi se c) (anot (2 ^ np - 1) (2 ^ a)) i := by
  have ht := who_lt (np := np) (a := a)
  have hA : Acy (ahA fi se c) (anot (2 ^ np - 1) (2 ^ a)) := (fitW_pos hnp ht).mp (by omega)
  have h0 := line_ne hnp ht hA hi
  obtain ⟨a1, a2, a3⟩ := frs_s ht hA h0
  have hl := (line_fr ht hA h0).1
  have f1 := frs_fit hnp ht h1 i (by omega)
  have f2 := frs_fit hnp ht h1 (i + 1) (by omega)
  have hR : ∀ t, newR np c fi se a t = fitC np (anot (2 ^ np - 1) (2 ^ a)) (ahA fi se c) t := newR_W
  have iff : ∀ p, lstP (whoO np a) (ahB fi se c a) (newR np c fi se a) (frs np (ahA fi se c) (anot (2 ^ np - 1) (2 ^ a)) (i + 1)) p = true ↔ ((frs np (ahA fi se c) (anot (2 ^ np - 1) (2 ^ a)) (i + 1)).testBit p = true ∧ fitC np (anot (2 ^ np - 1) (2 ^ a)) (ahA fi se c) (anot (frs np (ahA fi se c) (anot (2 ^ np - 1) (2 ^ a)) (i + 1)) (2 ^ p)) ≠ 0 ∧ anot (ahA fi se c p &&& anot (2 ^ np - 1) (2 ^ a)) (anot (frs np (ahA fi se c) (anot (2 ^ np - 1) (2 ^ a)) (i + 1)) (2 ^ p)) = 0) := fun p => by
    unfold lstP
    rw [hR]
    by_cases hp : (frs np (ahA fi se c) (anot (2 ^ np - 1) (2 ^ a)) (i + 1)).testBit p = true
    · have e : ahB fi se c a p &&& whoO np a = ahA fi se c p &&& anot (2 ^ np - 1) (2 ^ a) := Nat.eq_of_testBit_eq fun j => by
        rw [Nat.testBit_and, Nat.testBit_and]
        show ((ahB fi se c a p).testBit j && (anot (2 ^ np - 1) (2 ^ a)).testBit j) = _
        cases hj : (anot (2 ^ np - 1) (2 ^ a)).testBit j with
        | false => rw [Bool.and_false, Bool.and_false]
        | true =>
          show ((ahd fi se (fun x => decide (x ≠ a)) p c).testBit j && true) = _
          rw [ahB_bit (who_bit.mp (frs_sub p hp)).2 (who_bit.mp hj).2]
      rw [e]
      simp only [Bool.and_eq_true, Bool.not_eq_true', decide_eq_false_iff_not, decide_eq_true_eq]
      exact ⟨fun z => ⟨z.1.1, z.1.2, z.2⟩, fun z => ⟨⟨z.1, z.2.1⟩, z.2.2⟩⟩
    · simp only [Bool.and_eq_true, hp]
      exact ⟨fun z => (by cases z.1.1), fun z => (by cases z.1)⟩
  have yes : lstP (whoO np a) (ahB fi se c a) (newR np c fi se a) (frs np (ahA fi se c) (anot (2 ^ np - 1) (2 ^ a)) (i + 1)) (plLn np (ahA fi se c) (anot (2 ^ np - 1) (2 ^ a)) i) = true := (iff _).mpr ⟨a1, by rw [a2, f1]; decide, by
    rw [a2]
    exact anot_0.mpr fun j hj => by
      rw [Nat.testBit_and, Bool.and_eq_true] at hj
      exact a3 j hj.1 hj.2⟩
  have uniq : ∀ p, p < np → lstP (whoO np a) (ahB fi se c a) (newR np c fi se a) (frs np (ahA fi se c) (anot (2 ^ np - 1) (2 ^ a)) (i + 1)) p = true → p = plLn np (ahA fi se c) (anot (2 ^ np - 1) (2 ^ a)) i := fun p hp hy => by
    obtain ⟨b1, b2, b3⟩ := (iff p).mp hy
    rw [fitC_e (ne0_bit a1) frs_sub] at f2
    refine fb_ct_uniq (p := fun q => decide ((if (frs np (ahA fi se c) (anot (2 ^ np - 1) (2 ^ a)) (i + 1)).testBit q = true ∧ anot (ahA fi se c q &&& anot (2 ^ np - 1) (2 ^ a)) (anot (frs np (ahA fi se c) (anot (2 ^ np - 1) (2 ^ a)) (i + 1)) (2 ^ q)) = 0 then fitC np (anot (2 ^ np - 1) (2 ^ a)) (ahA fi se c) (anot (frs np (ahA fi se c) (anot (2 ^ np - 1) (2 ^ a)) (i + 1)) (2 ^ q)) else 0) ≠ 0)) (n := np) ?_ hp hl ?_ ?_
    · have ge := fb_sm_ge (p := fun q => decide ((if (frs np (ahA fi se c) (anot (2 ^ np - 1) (2 ^ a)) (i + 1)).testBit q = true ∧ anot (ahA fi se c q &&& anot (2 ^ np - 1) (2 ^ a)) (anot (frs np (ahA fi se c) (anot (2 ^ np - 1) (2 ^ a)) (i + 1)) (2 ^ q)) = 0 then fitC np (anot (2 ^ np - 1) (2 ^ a)) (ahA fi se c) (anot (frs np (ahA fi se c) (anot (2 ^ np - 1) (2 ^ a)) (i + 1)) (2 ^ q)) else 0) ≠ 0)) (f := fun q => if (frs np (ahA fi se c) (anot (2 ^ np - 1) (2 ^ a)) (i + 1)).testBit q = true ∧ anot (ahA fi se c q &&& anot (2 ^ np - 1) (2 ^ a)) (anot (frs np (ahA fi se c) (anot (2 ^ np - 1) (2 ^ a)) (i + 1)) (2 ^ q)) = 0 then fitC np (anot (2 ^ np - 1) (2 ^ a)) (ahA fi se c) (anot (frs np (ahA fi se c) (anot (2 ^ np - 1) (2 ^ a)) (i + 1)) (2 ^ q)) else 0) (n := np) (fun k _ hk => Nat.one_le_iff_ne_zero.mpr (of_decide_eq_true hk))
      have le : ∀ (b : Bool) (x : Nat), (if b = true then x else 0) ≤ x := fun b x => by cases b <;> simp
      exact Nat.le_trans ge (Nat.le_trans (fb_sm_le fun k _ => le _ _) (Nat.le_of_eq f2))
    · rw [if_pos ⟨b1, b3⟩]
      exact decide_eq_true b2
    · rw [if_pos ⟨a1, by
        rw [a2]
        exact anot_0.mpr fun j hj => by
          rw [Nat.testBit_and, Bool.and_eq_true] at hj
          exact a3 j hj.1 hj.2⟩, a2, f1]
      rfl
  have lt : lstN np (whoO np a) (ahB fi se c a) (newR np c fi se a) (frs np (ahA fi se c) (anot (2 ^ np - 1) (2 ^ a)) (i + 1)) < np := by
    rcases Nat.lt_or_ge (lstN np (whoO np a) (ahB fi se c a) (newR np c fi se a) (frs np (ahA fi se c) (anot (2 ^ np - 1) (2 ^ a)) (i + 1))) np with y | y
    · exact y
    · have := fa_first_no (lstP (whoO np a) (ahB fi se c a) (newR np c fi se a) (frs np (ahA fi se c) (anot (2 ^ np - 1) (2 ^ a)) (i + 1))) np (plLn np (ahA fi se c) (anot (2 ^ np - 1) (2 ^ a)) i) (by unfold lstN at y; omega)
      rw [yes] at this; cases this
  exact uniq _ lt (fa_first_yes _ np lt)
/-- how many places: those from the least to the greatest -/
theorem plcF_ct {can : Nat → Bool} {lst U : Nat → Nat} {m : Nat} (h0 : U 0 = 0) (hU : ∀ i, i < m → U (i + 1) ≠ 0 ∧ anot (U (i + 1)) (2 ^ lst (U (i + 1))) = U i) : ∀ k f, k ≤ m → k < f → plcF can lst f (U k) = fb_ct (fun j => can (U j)) (k + 1)
  | 0, f, _, hf => by
    obtain ⟨f', rfl⟩ : ∃ f', f = f' + 1 := ⟨f - 1, by omega⟩
    rw [plcF_s, h0, if_pos rfl, fb_ct_succ, h0]
    show _ + 0 = 0 + _
    omega
  | k + 1, f, hk, hf => by
    obtain ⟨f', rfl⟩ : ∃ f', f = f' + 1 := ⟨f - 1, by omega⟩
    obtain ⟨h1, h2⟩ := hU k (by omega)
    rw [plcF_s, if_neg h1, h2, plcF_ct h0 hU k f' (by omega) (by omega), fb_ct_succ (fun j => can (U j)) (k + 1)]
    omega
theorem ct_range {lo hi : Nat} : ∀ m, hi ≤ m → lo ≤ m → fb_ct (fun j => decide (lo ≤ j) && decide (j ≤ hi)) (m + 1) = hi + 1 - lo
  | m, h1, h2 => by
    have : ∀ k, fb_ct (fun j => decide (lo ≤ j) && decide (j ≤ hi)) k = (if k ≤ hi + 1 then k else hi + 1) - lo := by
      intro k
      induction k with
      | zero => simp [fb_ct]
      | succ k ih =>
        rw [fb_ct_succ, ih]
        by_cases z : lo ≤ k ∧ k ≤ hi
        · have hb : (decide (lo ≤ k) && decide (k ≤ hi)) = true := by rw [decide_eq_true z.1, decide_eq_true z.2]; rfl
          rw [hb]
          simp only [if_true]
          split <;> split <;> omega
        · have hb : (decide (lo ≤ k) && decide (k ≤ hi)) = false := by
            by_cases y : lo ≤ k
            · rw [decide_eq_false (fun x => z ⟨y, x⟩), Bool.and_false]
            · rw [decide_eq_false y, Bool.false_and]
          rw [hb]
          simp only [Bool.false_eq_true, if_false]
          split <;> split <;> omega
    rw [this (m + 1)]
    split <;> omega
theorem plLo_iff {sa lw : Nat → Nat} {p j : Nat} : ∀ n, plLo sa lw p n ≤ j ↔ ∀ i, i < n → (sa p).testBit (lw i) = true → i + 1 ≤ j
  | 0 => ⟨fun _ i hi => by omega, fun _ => Nat.zero_le _⟩
  | n + 1 => by
    have ih := plLo_iff (sa := sa) (lw := lw) (p := p) (j := j) n
    show (if (sa p).testBit (lw n) then n + 1 else plLo sa lw p n) ≤ j ↔ _
    by_cases hb : (sa p).testBit (lw n) = true
    · rw [if_pos hb]
      exact ⟨fun h i hi _ => by omega, fun h => h n (by omega) hb⟩
    · rw [if_neg hb, ih]
      constructor
      · intro h i hi hi2
        by_cases e : i = n
        · rw [e] at hi2; exact absurd hi2 hb
        · exact h i (by omega) hi2
      · exact fun h i hi => h i (by omega)
theorem plHi_iff {sa lw : Nat → Nat} {p m j : Nat} : ∀ n, j ≤ plHi sa lw p m n ↔ (j ≤ m ∧ ∀ i, i < n → (sa (lw i)).testBit p = true → j ≤ i)
  | 0 => ⟨fun h => ⟨h, fun i hi => by omega⟩, fun h => h.1⟩
  | n + 1 => by
    have ih := plHi_iff (sa := sa) (lw := lw) (p := p) (m := m) (j := j) n
    show j ≤ (if (sa (lw n)).testBit p then Nat.min (plHi sa lw p m n) n else plHi sa lw p m n) ↔ _
    by_cases hb : (sa (lw n)).testBit p = true
    · rw [if_pos hb]
      constructor
      · intro h
        have h1 : j ≤ plHi sa lw p m n := Nat.le_trans h (Nat.min_le_left _ _)
        have h2 : j ≤ n := Nat.le_trans h (Nat.min_le_right _ _)
        refine ⟨(ih.mp h1).1, fun i hi hi2 => ?_⟩
        by_cases e : i = n
        · omega
        · exact (ih.mp h1).2 i (by omega) hi2
      · intro h
        exact Nat.le_min.mpr ⟨ih.mpr ⟨h.1, fun i hi => h.2 i (by omega)⟩, h.2 n (by omega) hb⟩
    · rw [if_neg hb, ih]
      constructor
      · intro h
        refine ⟨h.1, fun i hi hi2 => ?_⟩
        by_cases e : i = n
        · rw [e] at hi2; exact absurd hi2 hb
        · exact h.2 i (by omega) hi2
      · exact fun h => ⟨h.1, fun i hi => h.2 i (by omega)⟩
theorem canK_iff {fi se : Nat → Nat} {a t : Nat} : ∀ c, canK fi se a t c = true ↔ ∀ k, k < c → (fi k = a → t.testBit (se k) = false) ∧ (se k = a → t.testBit (fi k) = true)
  | 0 => ⟨fun _ k hk => by omega, fun _ => rfl⟩
  | c + 1 => by
    have ih := canK_iff (fi := fi) (se := se) (a := a) (t := t) c
    have one : canS fi se a t c = true ↔ ((fi c = a → t.testBit (se c) = false) ∧ (se c = a → t.testBit (fi c) = true)) := by
      unfold canS
      by_cases h1 : fi c = a <;> by_cases h2 : se c = a <;> simp [h1, h2]
    rw [canK_s, Bool.and_eq_true, ih, one]
    constructor
    · rintro ⟨h1, h2⟩ k hk
      by_cases e : k = c
      · rw [e]; exact h2
      · exact h1 k (by omega)
    · exact fun h => ⟨fun k hk => h k (by omega), h c (by omega)⟩
theorem new_plc {np c : Nat} {fi se : Nat → Nat} {a : Nat} (hnp : np ≤ 10) (h : SayV np c fi se) (ha : a < np) (h1 : fitW np (ahA fi se c) (anot (2 ^ np - 1) (2 ^ a)) = 1) : newP np c fi se a = plcA np (ahA fi se c) a := by
  have ht := who_lt (np := np) (a := a)
  have hA : Acy (ahA fi se c) (anot (2 ^ np - 1) (2 ^ a)) := (fitW_pos hnp ht).mp (by omega)
  have hpc := pc_who hnp ha
  have e1 : plA np (ahA fi se c) 10 (anot (2 ^ np - 1) (2 ^ a)) 1 = 1 := by rw [plA_10 hnp ht, if_neg (by omega), if_pos h1]
  unfold newP plcA
  rw [if_pos e1]
  have e2 := plcF_ct (can := fun t => canK fi se a t c) (lst := lstN np (whoO np a) (ahB fi se c a) (newR np c fi se a)) (U := frs np (ahA fi se c) (anot (2 ^ np - 1) (2 ^ a))) (m := np - 1) frs_0 (fun i hi => by
    obtain ⟨a1, a2, a3⟩ := frs_s ht hA (line_ne hnp ht hA (show i < pcn (anot (2 ^ np - 1) (2 ^ a)) by omega))
    rw [frs_lst hnp h1 (by omega)]
    exact ⟨ne0_bit a1, a2⟩) (np - 1) 11 (Nat.le_refl _) (by omega)
  have e3 : frs np (ahA fi se c) (anot (2 ^ np - 1) (2 ^ a)) (np - 1) = whoO np a := by
    have := frs_full hnp ht hA
    rw [hpc] at this
    exact this
  rw [e3] at e2
  rw [e2]
  refine Eq.trans (fb_ct_cong fun j hj => ?_) (ct_range (np - 1) (plHi_le _ _ _ _ _) (plLo_le _ _ _ _))
  rw [Bool.eq_iff_iff, canK_iff, Bool.and_eq_true, decide_eq_true_eq, decide_eq_true_eq, plLo_iff, plHi_iff]
  have lin : ∀ x, x < np → x ≠ a → ∃ i, i < np - 1 ∧ plLn np (ahA fi se c) (anot (2 ^ np - 1) (2 ^ a)) i = x := fun x hx hxa => by
    obtain ⟨i, hi, e⟩ := line_all hnp ht hA (p := x) (who_bit.mpr ⟨hx, hxa⟩)
    exact ⟨i, by omega, e⟩
  constructor
  · intro hc
    refine ⟨fun i hi hb => ?_, by omega, fun i hi hb => ?_⟩
    · obtain ⟨k, k1, k2, k3⟩ := ahA_bit.mp hb
      have := (hc k k1).2 k2
      rw [k3, frs_in hnp ht hA (by omega)] at this
      have := of_decide_eq_true this
      omega
    · obtain ⟨k, k1, k2, k3⟩ := ahA_bit.mp hb
      have := (hc k k1).1 k3
      rw [k2, frs_in hnp ht hA (by omega)] at this
      have := of_decide_eq_false this
      omega
  · rintro ⟨c1, c2, c3⟩ k hk
    obtain ⟨v1, v2, v3⟩ := h k hk
    refine ⟨fun e => ?_, fun e => ?_⟩
    · obtain ⟨i, hi, e4⟩ := lin (se k) v2 (fun z => v3 (e.trans z.symm))
      have := c3 i hi (by rw [e4]; exact ahA_bit.mpr ⟨k, hk, rfl, e⟩)
      rw [← e4, frs_in hnp ht hA (by omega)]
      exact decide_eq_false (by omega)
    · obtain ⟨i, hi, e4⟩ := lin (fi k) v1 (fun z => v3 (z.trans e.symm))
      have := c1 i hi (by rw [e4]; exact ahA_bit.mpr ⟨k, hk, e, rfl⟩)
      rw [← e4, frs_in hnp ht hA (by omega)]
      exact decide_eq_true (by omega)
