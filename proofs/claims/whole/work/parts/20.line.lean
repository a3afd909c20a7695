def cnp (np t : Nat) : Nat := fb_ct (fun k => t.testBit k) np
theorem cnp_or {np t p : Nat} (hp : p < np) (h : t.testBit p = false) : cnp np (t ||| 2 ^ p) = cnp np t + 1 := by
  have e : (fun k => (t ||| 2 ^ p).testBit k) = fun k => if k = p then true else t.testBit k := by
    funext k
    rw [Nat.testBit_or, Nat.testBit_two_pow]
    by_cases hk : k = p
    · subst hk; simp
    · rw [if_neg hk]
      have : ¬ p = k := fun z => hk z.symm
      simp [this]
  unfold cnp
  rw [e]
  have := fb_ct_upd (fun k => t.testBit k) true (i := p) (n := np) hp
  simp only [h] at this
  simpa using this
theorem cnp_full {np t : Nat} (ht : t < 2 ^ np) (h : cnp np t = np) : t = 2 ^ np - 1 := by
  refine Nat.eq_of_testBit_eq fun i => ?_
  rw [Nat.testBit_two_pow_sub_one]
  by_cases hi : i < np
  · rw [fb_ct_all.mp h i hi, decide_eq_true hi]
  · rw [decide_eq_false hi]
    exact Nat.testBit_lt_two_pow (Nat.lt_of_lt_of_le ht (Nat.pow_le_pow_right (by decide) (by omega)))
theorem cnp_hole {np t : Nat} (ht : t < 2 ^ np - 1) : ∃ p, p < np ∧ t.testBit p = false := by
  have hle := fb_ct_le (fun k => t.testBit k) np
  have hne : cnp np t ≠ np := fun z => by have := cnp_full (by omega) z; omega
  by_cases hx : ∃ p, p < np ∧ t.testBit p = false
  · exact hx
  · exact absurd (fb_ct_all.mpr fun k hk => by
      cases hb : t.testBit k with
      | true => rfl
      | false => exact absurd ⟨k, hk, hb⟩ hx) hne
theorem mnO_low {t : Nat} {g : Nat → Nat} : ∀ {n p : Nat}, p < n → t.testBit p = false → mnO t g n ≤ g p
  | n + 1, p, hp, hb => by
    rw [mnO_s]
    by_cases hpn : p = n
    · subst hpn
      rw [if_neg (by simp [hb])]
      exact Nat.min_le_right _ _
    · have ih := mnO_low (g := g) (n := n) (p := p) (by omega) hb
      split
      · exact ih
      · exact Nat.le_trans (Nat.min_le_left _ _) ih
theorem mnO_at {t : Nat} {g : Nat → Nat} : ∀ {n : Nat}, mnO t g n = 1000 ∨ ∃ p, p < n ∧ t.testBit p = false ∧ mnO t g n = g p
  | 0 => Or.inl rfl
  | n + 1 => by
    have ih := mnO_at (t := t) (g := g) (n := n)
    rw [mnO_s]
    split
    · rcases ih with ih | ⟨p, h1, h2, h3⟩
      · exact Or.inl ih
      · exact Or.inr ⟨p, by omega, h2, h3⟩
    · rename_i hb
      rcases Nat.le_total (mnO t g n) (g n) with z | z
      · rw [show Nat.min (mnO t g n) (g n) = mnO t g n from Nat.min_eq_left z]
        rcases ih with ih | ⟨p, h1, h2, h3⟩
        · exact Or.inl ih
        · exact Or.inr ⟨p, by omega, h2, h3⟩
      · rw [show Nat.min (mnO t g n) (g n) = g n from Nat.min_eq_right z]
        exact Or.inr ⟨n, by omega, by simpa using hb, rfl⟩
theorem few_le {np c : Nat} {fi se ma : Nat → Nat} {w : Int32} {F : Nat → Nat} (hF : FewR np c fi se ma w F) (hc : c ≤ 40) : ∀ z t, t < 2 ^ np → np - cnp np t ≤ z → F t ≤ 40 * (np - cnp np t) := by
  intro z
  induction z with
  | zero =>
    intro t ht h
    have hle : cnp np t ≤ np := fb_ct_le _ _
    rw [cnp_full ht (by omega), hF.1]
    exact Nat.zero_le _
  | succ z ih =>
    intro t ht h
    by_cases hx : t = 2 ^ np - 1
    · rw [hx, hF.1]; exact Nat.zero_le _
    · obtain ⟨p, hp, hb⟩ := cnp_hole (np := np) (t := t) (by omega)
      have h1 := cnp_or hp hb
      have h2 := ih (t ||| 2 ^ p) (or_lt ht hp) (by omega)
      have h3 : F t ≤ brk c fi se ma w p t + F (t ||| 2 ^ p) := by
        rw [hF.2 t (by omega)]
        exact mnO_low (g := fun p => brk c fi se ma w p t + F (t ||| 2 ^ p)) hp hb
      have h4 := brk_le c fi se ma w p t
      have hle : cnp np (t ||| 2 ^ p) ≤ np := fb_ct_le _ _
      omega
/-- may p stand next behind the set t? -/
def nxB (c : Nat) (fi se ma : Nat → Nat) (w : Int32) (F : Nat → Nat) (t p : Nat) : Bool := !t.testBit p && decide (brk c fi se ma w p t + F (t ||| 2 ^ p) = F t)
def nxP (np c : Nat) (fi se ma : Nat → Nat) (w : Int32) (F : Nat → Nat) (t : Nat) : Nat := fa_first (nxB c fi se ma w F t) np
def rwT (np c : Nat) (fi se ma : Nat → Nat) (w : Int32) (F : Nat → Nat) : Nat → Nat
  | 0 => 0
  | i + 1 => rwT np c fi se ma w F i ||| 2 ^ nxP np c fi se ma w F (rwT np c fi se ma w F i)
theorem nxP_ok {np c : Nat} {fi se ma : Nat → Nat} {w : Int32} {F : Nat → Nat} (hF : FewR np c fi se ma w F) (hc : c ≤ 40) (hnp : np ≤ 10) {t : Nat} (ht : t < 2 ^ np - 1) : nxP np c fi se ma w F t < np := by
  have h1 := few_le hF hc np t (by omega) (by omega)
  rcases mnO_at (t := t) (g := fun p => brk c fi se ma w p t + F (t ||| 2 ^ p)) (n := np) with h | ⟨p, hp, hb, h⟩
  · rw [← hF.2 t ht] at h; omega
  · rw [← hF.2 t ht] at h
    have hle := fa_first_le (nxB c fi se ma w F t) np
    rcases Nat.lt_or_ge (nxP np c fi se ma w F t) np with z | z
    · exact z
    · have hno := fa_first_no (nxB c fi se ma w F t) np p (by unfold nxP at z; omega)
      unfold nxB at hno
      rw [hb, decide_eq_true h.symm] at hno
      cases hno
theorem rwT_ok {np c : Nat} {fi se ma : Nat → Nat} {w : Int32} {F : Nat → Nat} (hF : FewR np c fi se ma w F) (hc : c ≤ 40) (hnp : np ≤ 10) : ∀ i, i ≤ np → rwT np c fi se ma w F i < 2 ^ np ∧ cnp np (rwT np c fi se ma w F i) = i
  | 0, _ => by
    refine ⟨by show 0 < 2 ^ np; exact Nat.pow_pos (by decide), ?_⟩
    show cnp np 0 = 0
    unfold cnp
    rw [fb_ct_zero]
    intro k _
    exact Nat.zero_testBit k
  | i + 1, h => by
    obtain ⟨h1, h2⟩ := rwT_ok hF hc hnp i (by omega)
    have h3 : rwT np c fi se ma w F i < 2 ^ np - 1 := by
      rcases Nat.lt_or_ge (rwT np c fi se ma w F i) (2 ^ np - 1) with z | z
      · exact z
      · have e : rwT np c fi se ma w F i = 2 ^ np - 1 := by omega
        have : cnp np (2 ^ np - 1) = np := fb_ct_all.mpr fun k hk => by rw [Nat.testBit_two_pow_sub_one, decide_eq_true hk]
        rw [e, this] at h2
        omega
    have h4 := nxP_ok hF hc hnp h3
    have h5 := fa_first_yes (nxB c fi se ma w F (rwT np c fi se ma w F i)) np h4
    unfold nxB at h5
    simp only [Bool.and_eq_true, Bool.not_eq_true'] at h5
    exact ⟨or_lt h1 h4, by rw [rwT, cnp_or h4 h5.1, h2]⟩
