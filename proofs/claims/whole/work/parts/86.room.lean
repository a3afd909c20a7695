/-! there are fewer than 8192 partial orders of five -/
def dg3 (i e : Nat) : Nat := i / 3 ^ e % 3
def al3 (a b c : Nat) : Bool := Nat.testBit 122583903 (9 * a + 3 * b + c)
def okM (m : Nat) : Bool := al3 (dg3 m 0) (dg3 m 1) (dg3 m 2) && (al3 (dg3 m 0) (dg3 m 3) (dg3 m 4) && (al3 (dg3 m 1) (dg3 m 3) (dg3 m 5) && al3 (dg3 m 2) (dg3 m 4) (dg3 m 5)))
def okJ (m j : Nat) : Bool := al3 (dg3 m 0) (dg3 j 0) (dg3 j 1) && (al3 (dg3 m 1) (dg3 j 0) (dg3 j 2) && (al3 (dg3 m 2) (dg3 j 1) (dg3 j 2) && (al3 (dg3 m 3) (dg3 j 0) (dg3 j 3) && (al3 (dg3 m 4) (dg3 j 1) (dg3 j 3) && al3 (dg3 m 5) (dg3 j 2) (dg3 j 3)))))
theorem po_count : fb_sm (fun m => if okM m then fb_ct (okJ m) 81 else 0) 729 ≤ 8191 := by decide +kernel
theorem ct_sm (p : Nat → Bool) (w : Nat) : ∀ n, fb_ct p (w * n) = fb_sm (fun m => fb_ct (fun j => p (w * m + j)) w) n
  | 0 => rfl
  | n + 1 => by rw [fb_sm_succ, ← ct_sm p w n, Nat.mul_succ, fb_ct_split]
def rr (k x y : Nat) : Nat := if kb k x y then 1 else if kb k y x then 2 else 0
theorem rr_le (k x y : Nat) : rr k x y ≤ 2 := by
  unfold rr
  split
  · omega
  · split <;> omega
def cdM (k : Nat) : Nat := rr k 0 1 + 3 * rr k 0 2 + 9 * rr k 1 2 + 27 * rr k 0 3 + 81 * rr k 1 3 + 243 * rr k 2 3
def cdJ (k : Nat) : Nat := rr k 0 4 + 3 * rr k 1 4 + 9 * rr k 2 4 + 27 * rr k 3 4
theorem cd_dg (k : Nat) : (cdM k < 729 ∧ cdJ k < 81) ∧ (dg3 (cdM k) 0 = rr k 0 1 ∧ dg3 (cdM k) 1 = rr k 0 2 ∧ dg3 (cdM k) 2 = rr k 1 2 ∧ dg3 (cdM k) 3 = rr k 0 3 ∧ dg3 (cdM k) 4 = rr k 1 3 ∧ dg3 (cdM k) 5 = rr k 2 3) ∧ dg3 (cdJ k) 0 = rr k 0 4 ∧ dg3 (cdJ k) 1 = rr k 1 4 ∧ dg3 (cdJ k) 2 = rr k 2 4 ∧ dg3 (cdJ k) 3 = rr k 3 4 := by
  have a0 := rr_le k 0 1
  have a1 := rr_le k 0 2
  have a2 := rr_le k 1 2
  have a3 := rr_le k 0 3
  have a4 := rr_le k 1 3
  have a5 := rr_le k 2 3
  have b0 := rr_le k 0 4
  have b1 := rr_le k 1 4
  have b2 := rr_le k 2 4
  have b3 := rr_le k 3 4
  unfold dg3 cdM cdJ
  simp only [show (3 : Nat) ^ 0 = 1 from rfl, show (3 : Nat) ^ 1 = 3 from rfl, show (3 : Nat) ^ 2 = 9 from rfl, show (3 : Nat) ^ 3 = 27 from rfl, show (3 : Nat) ^ 4 = 81 from rfl, show (3 : Nat) ^ 5 = 243 from rfl, Nat.div_one]
  refine ⟨⟨by omega, by omega⟩, ⟨by omega, by omega, by omega, by omega, by omega, by omega⟩, by omega, by omega, by omega, by omega⟩
theorem tri_b : ∀ a a' b b' c c' : Bool, (a && a') = false → (b && b') = false → (c && c') = false → (a && c && !b) = false → (a' && c' && !b') = false → (b && c' && !a) = false → (c && b' && !a') = false → (a' && b && !c) = false → (b' && a && !c') = false → al3 (if a then 1 else if a' then 2 else 0) (if b then 1 else if b' then 2 else 0) (if c then 1 else if c' then 2 else 0) = true := by
  intro a a' b b' c c'
  cases a <;> cases a' <;> cases b <;> cases b' <;> cases c <;> cases c' <;> decide
theorem tri_ok {np k x y z : Nat} (h : PO np k) (hx : x < 5) (hy : y < 5) (hz : z < 5) : al3 (rr k x y) (rr k x z) (rr k y z) = true := by
  obtain ⟨h1, h2, h3, h4⟩ := h
  have an : ∀ u v, u < 5 → v < 5 → (kb k u v && kb k v u) = false := fun u v hu hv => by
    cases e1 : kb k u v with
    | false => rfl
    | true =>
      cases e2 : kb k v u with
      | false => rfl
      | true =>
        have := h4 u v u hu hv hu e1 e2
        rw [h3 u hu] at this; cases this
  have tr : ∀ u v w, u < 5 → v < 5 → w < 5 → (kb k u v && kb k v w && !kb k u w) = false := fun u v w hu hv hw => by
    cases e1 : kb k u v with
    | false => rfl
    | true =>
      cases e2 : kb k v w with
      | false => rfl
      | true => rw [h4 u v w hu hv hw e1 e2]; rfl
  unfold rr
  have sw : ∀ p q r : Bool, (p && q && !r) = false → (q && p && !r) = false := by decide
  exact tri_b _ _ _ _ _ _ (an x y hx hy) (an x z hx hz) (an y z hy hz) (tr x y z hx hy hz) (sw _ _ _ (tr z y x hz hy hx)) (tr x z y hx hz hy) (tr y z x hy hz hx) (tr y x z hy hx hz) (tr z x y hz hx hy)
theorem rr_kb {np k k' : Nat} (h : PO np k) (h' : PO np k') {x y : Nat} (hx : x < 5) (hy : y < 5) (e : rr k x y = rr k' x y) : kb k x y = kb k' x y ∧ kb k y x = kb k' y x := by
  have an : ∀ k, PO np k → kb k x y = true → kb k y x = false := fun k h e1 => by
    cases e2 : kb k y x with
    | false => rfl
    | true =>
      have := h.2.2.2 x y x hx hy hx e1 e2
      rw [h.2.2.1 x hx] at this; cases this
  unfold rr at e
  cases a : kb k x y <;> cases b : kb k y x <;> cases c : kb k' x y <;> cases d : kb k' y x <;> simp only [a, b, c, d] at e <;> first
    | exact ⟨rfl, rfl⟩
    | (exfalso; simp at e; done)
    | (exfalso; have := an k h a; rw [b] at this; cases this; done)
    | (exfalso; have := an k' h' c; rw [d] at this; cases this; done)
theorem cd_inj {np k k' : Nat} (h : PO np k) (h' : PO np k') (e1 : cdM k = cdM k') (e2 : cdJ k = cdJ k') : k = k' := by
  obtain ⟨-, ⟨a0, a1, a2, a3, a4, a5⟩, b0, b1, b2, b3⟩ := cd_dg k
  obtain ⟨-, ⟨c0, c1, c2, c3, c4, c5⟩, d0, d1, d2, d3⟩ := cd_dg k'
  rw [e1] at a0 a1 a2 a3 a4 a5
  rw [e2] at b0 b1 b2 b3
  have q01 := rr_kb h h' (x := 0) (y := 1) (by decide) (by decide) (a0.symm.trans c0)
  have q02 := rr_kb h h' (x := 0) (y := 2) (by decide) (by decide) (a1.symm.trans c1)
  have q12 := rr_kb h h' (x := 1) (y := 2) (by decide) (by decide) (a2.symm.trans c2)
  have q03 := rr_kb h h' (x := 0) (y := 3) (by decide) (by decide) (a3.symm.trans c3)
  have q13 := rr_kb h h' (x := 1) (y := 3) (by decide) (by decide) (a4.symm.trans c4)
  have q23 := rr_kb h h' (x := 2) (y := 3) (by decide) (by decide) (a5.symm.trans c5)
  have q04 := rr_kb h h' (x := 0) (y := 4) (by decide) (by decide) (b0.symm.trans d0)
  have q14 := rr_kb h h' (x := 1) (y := 4) (by decide) (by decide) (b1.symm.trans d1)
  have q24 := rr_kb h h' (x := 2) (y := 4) (by decide) (by decide) (b2.symm.trans d2)
  have q34 := rr_kb h h' (x := 3) (y := 4) (by decide) (by decide) (b3.symm.trans d3)
  have all : ∀ x y, x < 5 → y < 5 → kb k x y = kb k' x y := fun x y hx hy => by
    have dx : ∀ z, z < 5 → kb k z z = kb k' z z := fun z hz => by rw [h.2.2.1 z hz, h'.2.2.1 z hz]
    have hx5 : x = 0 ∨ x = 1 ∨ x = 2 ∨ x = 3 ∨ x = 4 := by omega
    have hy5 : y = 0 ∨ y = 1 ∨ y = 2 ∨ y = 3 ∨ y = 4 := by omega
    rcases hx5 with rfl | rfl | rfl | rfl | rfl <;> rcases hy5 with rfl | rfl | rfl | rfl | rfl <;> first
      | exact dx _ (by decide)
      | exact q01.1 | exact q01.2 | exact q02.1 | exact q02.2 | exact q12.1 | exact q12.2 | exact q03.1 | exact q03.2 | exact q13.1 | exact q13.2 | exact q23.1 | exact q23.2 | exact q04.1 | exact q04.2 | exact q14.1 | exact q14.2 | exact q24.1 | exact q24.2 | exact q34.1 | exact q34.2
  refine Nat.eq_of_testBit_eq fun i => ?_
  rcases Nat.lt_or_ge i 25 with y | y
  · have := all (i / 5) (i % 5) (by omega) (by omega)
    unfold kb at this
    rw [show 5 * (i / 5) + i % 5 = i by omega] at this
    exact this
  · rw [Nat.testBit_lt_two_pow (Nat.lt_of_lt_of_le h.1 (Nat.pow_le_pow_right (by decide) y)), Nat.testBit_lt_two_pow (Nat.lt_of_lt_of_le h'.1 (Nat.pow_le_pow_right (by decide) y))]
theorem roomy (np : Nat) : Roomy np := by
  intro K h1 h2
  refine Classical.byContradiction fun hno => ?_
  have nz : ∀ j, j < 8192 → K j ≠ 0 := fun j hj z => hno ⟨j, hj, z⟩
  obtain ⟨ok, hok⟩ : ∃ ok : Nat → Bool, ok = fun i => okM (i / 81) && okJ (i / 81) (i % 81) := ⟨_, rfl⟩
  have tot : fb_ct ok (81 * 729) ≤ 8191 := by
    rw [ct_sm]
    refine Nat.le_trans (Nat.le_of_eq (fb_sm_cong fun m _ => ?_)) po_count
    have e : fb_ct (fun j => ok (81 * m + j)) 81 = fb_ct (fun j => okM m && okJ m j) 81 := fb_ct_cong fun j hj => by
      rw [hok]
      dsimp only
      rw [show (81 * m + j) / 81 = m by omega, show (81 * m + j) % 81 = j by omega]
    rw [e]
    cases okM m with
    | true => rfl
    | false => exact fb_ct_zero.mpr (fun _ _ => rfl)
  obtain ⟨cd, hcd⟩ : ∃ cd : Nat → Nat, cd = fun k => 81 * cdM k + cdJ k := ⟨_, rfl⟩
  have cok : ∀ k, PO np k → ok (cd k) = true ∧ cd k < 81 * 729 := fun k hk => by
    obtain ⟨⟨l1, l2⟩, ⟨a0, a1, a2, a3, a4, a5⟩, b0, b1, b2, b3⟩ := cd_dg k
    rw [hok, hcd]
    dsimp only
    rw [show (81 * cdM k + cdJ k) / 81 = cdM k by omega, show (81 * cdM k + cdJ k) % 81 = cdJ k by omega]
    refine ⟨?_, by omega⟩
    unfold okM okJ
    rw [a0, a1, a2, a3, a4, a5, b0, b1, b2, b3]
    have t := fun x y z (hx : x < 5) (hy : y < 5) (hz : z < 5) => tri_ok hk hx hy hz
    rw [t 0 1 2 (by decide) (by decide) (by decide), t 0 1 3 (by decide) (by decide) (by decide), t 0 2 3 (by decide) (by decide) (by decide), t 1 2 3 (by decide) (by decide) (by decide), t 0 1 4 (by decide) (by decide) (by decide), t 0 2 4 (by decide) (by decide) (by decide), t 1 2 4 (by decide) (by decide) (by decide), t 0 3 4 (by decide) (by decide) (by decide), t 1 3 4 (by decide) (by decide) (by decide), t 2 3 4 (by decide) (by decide) (by decide)]
    rfl
  have := fb_holes 8191 8192 (fun j => fb_ct ok (cd (K j - 1))) (fun j hj => by
    obtain ⟨c1, c2⟩ := cok _ (h1 j hj (nz j hj))
    have m := fb_ct_mono ok (show cd (K j - 1) + 1 ≤ 81 * 729 by omega)
    rw [fb_ct_succ, c1] at m
    simp only [if_true] at m
    show fb_ct ok (cd (K j - 1)) < 8191
    omega) (fun i j hij hj e => by
    have pi := h1 i (by omega) (nz i (by omega))
    have pj := h1 j hj (nz j hj)
    have e2 := fb_ct_kth_one (cok _ pi).1 (cok _ pj).1 e
    rw [hcd] at e2
    dsimp only at e2
    obtain ⟨⟨l1, l2⟩, -⟩ := cd_dg (K i - 1)
    obtain ⟨⟨l3, l4⟩, -⟩ := cd_dg (K j - 1)
    have e3 := cd_inj pi pj (by omega) (by omega)
    have n1 := nz i (by omega)
    have n2 := nz j hj
    have := h2 i j (by omega) hj n1 (by omega)
    omega)
  omega
