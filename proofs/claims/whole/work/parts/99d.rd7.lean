/-! pupils -/
theorem fT_3137 : fT 3 137 = none := rfl
theorem wK_v : ∀ i, i < 21 → wdK i = if 8 ≤ i ∧ i ≤ 12 then nI (i - 8) else -nI 1 := by decide +kernel
theorem kn_v {t : Nat → Nat} {N p : Nat} : knN t N p = if lxK t N p = 1 ∧ 8 ≤ wix (lxWd t N p) ∧ wix (lxWd t N p) ≤ 12 then wix (lxWd t N p) - 8 else 5 := by
  have e8 : isW t N p 8740238 = true ↔ _ := wrd_is (t := t) (N := N) (p := p) (i := 8) (by decide)
  have e9 : isW t N p 8868856 = true ↔ _ := wrd_is (t := t) (N := N) (p := p) (i := 9) (by decide)
  have e10 : isW t N p 14092 = true ↔ _ := wrd_is (t := t) (N := N) (p := p) (i := 10) (by decide)
  have e11 : isW t N p 117696460 = true ↔ _ := wrd_is (t := t) (N := N) (p := p) (i := 11) (by decide)
  have e12 : isW t N p 9759162 = true ↔ _ := wrd_is (t := t) (N := N) (p := p) (i := 12) (by decide)
  unfold knN
  simp only [e8, e9, e10, e11, e12]
  generalize wix (lxWd t N p) = i
  by_cases hk : lxK t N p = 1
  · simp only [hk, true_and]
    by_cases h : 8 ≤ i ∧ i ≤ 12
    · rw [if_pos h]
      have : i = 8 ∨ i = 9 ∨ i = 10 ∨ i = 11 ∨ i = 12 := by omega
      rcases this with rfl | rfl | rfl | rfl | rfl <;> rfl
    · rw [if_neg h, if_neg (by omega), if_neg (by omega), if_neg (by omega), if_neg (by omega), if_neg (by omega)]
  · simp only [hk, false_and, if_false]
/-- one more pupil -/
theorem RdD.pu {mI mI' : Nat → Nat → Int32} {mL : Nat → Nat → Int64} {R C : Nat} {D : DD} (h : RdD mI mL R C D) (hd : R + 17 < C ∨ C + 5 < R) (v k x : Nat) (hm : mI' = up2 (up2 mI (C + 2) (D 0 0) (nI x)) C 4 (nI (D 0 0 + 1))) (hn : mL (R + 15) (D 0 0) = lN (cv8 v)) (hv : vw8 v) (hk : mI (C + 1) (D 0 0) = nI k) : RdD mI' mL R C (up2 (up2 (up2 (up2 D 1 (D 0 0) v) 2 (D 0 0) k) 3 (D 0 0) x) 0 0 (D 0 0 + 1)) := by
  obtain ⟨⟨a1, a2, a3, a4, a5, a6⟩, b, c, d, e, f⟩ := h
  obtain ⟨np, hnp⟩ : ∃ np, np = D 0 0 := ⟨_, rfl⟩
  rw [← hnp] at hm hn hk b ⊢
  obtain ⟨D', hD'⟩ : ∃ D', D' = up2 (up2 (up2 (up2 D 1 np v) 2 np k) 3 np x) 0 0 (np + 1) := ⟨_, rfl⟩
  rw [← hD']
  have hD : ∀ i, i ≠ 0 → i ≠ 1 → i ≠ 2 → i ≠ 3 → D' i = D i := fun i z0 z1 z2 z3 => funext (fun k => by rw [hD', up2_ne (fun w => z0 w.1), up2_ne (fun w => z3 w.1), up2_ne (fun w => z2 w.1), up2_ne (fun w => z1 w.1)])
  have h0 : ∀ k, k ≠ 0 → D' 0 k = D 0 k := fun k z => by rw [hD', up2_ne (fun w => z w.2), up2_ne (fun w => by cases w.1), up2_ne (fun w => by cases w.1), up2_ne (fun w => by cases w.1)]
  have h00 : D' 0 0 = np + 1 := by rw [hD']; exact up2_eq ..
  have q1 : D' 1 np = v := by rw [hD', up2_ne (fun w => by cases w.1), up2_ne (fun w => by cases w.1), up2_ne (fun w => by cases w.1), up2_eq]
  have q2 : D' 2 np = k := by rw [hD', up2_ne (fun w => by cases w.1), up2_ne (fun w => by cases w.1), up2_eq]
  have q3 : D' 3 np = x := by rw [hD', up2_ne (fun w => by cases w.1), up2_eq]
  have qq : ∀ i p, i ≠ 0 → p ≠ np → D' i p = D i p := fun i p zi z => by rw [hD', up2_ne (fun w => zi w.1), up2_ne (fun w => z w.2), up2_ne (fun w => z w.2), up2_ne (fun w => z w.2)]
  clear hD'
  have g1 : ∀ a k, ¬ (a = C ∧ k = 4) → ¬ (a = C + 2 ∧ k = np) → mI' a k = mI a k := fun a k z y => by rw [hm, up2_ne z, up2_ne y]
  refine ⟨⟨?_, ?_, ?_, ?_, ?_, ?_⟩, ?_, ?_, ?_, ?_, ?_⟩
  · rw [h00, hm, up2_eq]
  · rw [h0 1 (by decide), g1 _ _ (by omega) (by omega)]; exact a2
  · rw [h0 2 (by decide), g1 _ _ (by omega) (by omega)]; exact a3
  · rw [h0 3 (by decide), g1 _ _ (by omega) (by omega)]; exact a4
  · rw [h0 4 (by decide), g1 _ _ (by omega) (by omega)]; exact a5
  · rw [h0 5 (by decide), g1 _ _ (by omega) (by omega)]; exact a6
  · rw [h00]
    intro p hp
    by_cases z : p = np
    · rw [z, q1, q2, q3, g1 _ _ (by omega) (by omega)]
      exact ⟨hn, hv, hk, by rw [hm, up2_ne (by omega), up2_eq]⟩
    · rw [qq 1 p (by decide) z, qq 2 p (by decide) z, qq 3 p (by decide) z]
      obtain ⟨b1, b2, b3, b4⟩ := b p (by omega)
      exact ⟨b1, b2, (g1 _ _ (by omega) (by omega)).trans b3, (g1 _ _ (by omega) (by omega)).trans b4⟩
  · rw [h0 1 (by decide), hD 4 (by decide) (by decide) (by decide) (by decide)]
    exact fun k hk => (g1 _ _ (by omega) (by omega)).trans (c k hk)
  · rw [h0 2 (by decide), hD 5 (by decide) (by decide) (by decide) (by decide), hD 6 (by decide) (by decide) (by decide) (by decide), hD 7 (by decide) (by decide) (by decide) (by decide)]
    exact fun k hk => ⟨(g1 _ _ (by omega) (by omega)).trans (d k hk).1, (g1 _ _ (by omega) (by omega)).trans (d k hk).2.1, (g1 _ _ (by omega) (by omega)).trans (d k hk).2.2⟩
  · rw [hD 8 (by decide) (by decide) (by decide) (by decide)]
    exact fun i hi => (g1 _ _ (by omega) (by omega)).trans (e i hi)
  · rw [hD 9 (by decide) (by decide) (by decide) (by decide)]
    intro a ha
    obtain ⟨lt, f1, f2⟩ := f a ha
    exact ⟨lt, (g1 _ _ (by omega) (by omega)).trans f1, f2⟩
