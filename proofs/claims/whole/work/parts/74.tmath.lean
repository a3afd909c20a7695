/-! weights by sets: two ways to share the weight out -/
theorem fb_sm_mul (f : Nat → Nat) (c : Nat) : ∀ n, fb_sm (fun k => f k * c) n = fb_sm f n * c
  | 0 => by simp [fb_sm]
  | n + 1 => by rw [fb_sm_succ, fb_sm_succ, fb_sm_mul f c n, Nat.add_mul]
theorem fb_sm_mulL (f : Nat → Nat) (c : Nat) : ∀ n, fb_sm (fun k => c * f k) n = c * fb_sm f n
  | 0 => by simp [fb_sm]
  | n + 1 => by rw [fb_sm_succ, fb_sm_succ, fb_sm_mulL f c n, Nat.mul_add]
theorem fb_sm_one {n x v : Nat} (h : x < n) : fb_sm (fun k => if k = x then v else 0) n = v := by
  have := fb_sm_upd (fun _ => 0) v (i := x) (n := n) h
  rw [fb_sm_0 (f := fun _ => 0) (fun _ _ => rfl)] at this
  simpa using this
theorem prX_mul (f g : Nat → Nat) : ∀ n, prX (fun k => f k * g k) n = prX f n * prX g n
  | 0 => rfl
  | n + 1 => by
    rw [prX_s, prX_s, prX_s, prX_mul f g n]
    ac_rfl
theorem prX_all1 {f : Nat → Nat} {n : Nat} (h : ∀ k, k < n → f k = 1) : prX f n = 1 := prX_1 (i := 0) (Nat.zero_le _) (fun k _ hk => h k hk)
theorem prX_one {x v : Nat} : ∀ {n : Nat}, x < n → prX (fun o => if o = x then v else 1) n = v
  | 0, h => by omega
  | n + 1, h => by
    rw [prX_s]
    by_cases e : n = x
    · rw [if_pos e, prX_all1 (fun k hk => if_neg (by omega)), Nat.one_mul]
    · rw [if_neg e, Nat.mul_one, prX_one (by omega)]
theorem prX_pos {f : Nat → Nat} : ∀ {n : Nat}, (∀ k, k < n → 0 < f k) → 0 < prX f n
  | 0, _ => Nat.one_pos
  | n + 1, h => Nat.mul_pos (prX_pos (fun k hk => h k (by omega))) (h n (by omega))
theorem prX_0 {f : Nat → Nat} {k : Nat} (hf : f k = 0) : ∀ {n : Nat}, k < n → prX f n = 0
  | 0, h => by omega
  | n + 1, h => by
    rw [prX_s]
    by_cases e : k = n
    · rw [← e, hf, Nat.mul_zero]
    · rw [prX_0 hf (by omega), Nat.zero_mul]
theorem prX_le1 {f : Nat → Nat} : ∀ {n : Nat}, (∀ k, k < n → f k ≤ 1) → prX f n ≤ 1
  | 0, _ => Nat.le_refl _
  | n + 1, h => Nat.mul_le_mul (prX_le1 (fun k hk => h k (by omega))) (h n (by omega))
theorem PshR.uniq {np : Nat} {V W : Nat → Nat} {g g' : Nat → Nat → Nat} (h1 : PshR np V g) (h2 : PshR np W g') (hg : ∀ p u, p < np → u < 2 ^ np → u.testBit p = false → g p u = g' p u) : ∀ t, t < 2 ^ np → V t = W t := by
  intro t
  induction t using Nat.strongRecOn with
  | _ t ih =>
    intro ht
    rcases Nat.eq_zero_or_pos t with z | z
    · rw [z, h1.1, h2.1]
    · rw [h1.2 t z, h2.2 t z]
      refine fb_sm_cong fun p hp => ?_
      split
      · rename_i hb
        have := anot_lt hb
        rw [ih _ this (by omega), hg p _ hp (by omega) (by rw [anot_bit, Nat.testBit_two_pow_self]; simp)]
      · rfl
theorem PshR.times {np : Nat} {V W X : Nat → Nat} {g1 g2 : Nat → Nat → Nat} (h1 : PshR np V g1) (h2 : PshR np W g2) (h0 : X 0 = 1) (hX : ∀ p u, p < np → u < 2 ^ np → u.testBit p = false → g1 p u * X (u ||| 2 ^ p) = X u * g2 p u) : ∀ t, t < 2 ^ np → W t = V t * X t := by
  intro t
  induction t using Nat.strongRecOn with
  | _ t ih =>
    intro ht
    rcases Nat.eq_zero_or_pos t with z | z
    · rw [z, h1.1, h2.1, h0]
    · rw [h1.2 t z, h2.2 t z, ← fb_sm_mul]
      refine fb_sm_cong fun p hp => ?_
      split
      · rename_i hb
        have hl := anot_lt hb
        have := hX p (anot t (2 ^ p)) hp (by omega) (by rw [anot_bit, Nat.testBit_two_pow_self]; simp)
        rw [anot_or hb] at this
        rw [ih _ hl (by omega), Nat.mul_assoc, ← this, Nat.mul_assoc]
      · rw [Nat.zero_mul]
theorem PshR.le {np : Nat} {V W : Nat → Nat} {g g' : Nat → Nat → Nat} (h1 : PshR np V g) (h2 : PshR np W g') (hg : ∀ p u, g p u ≤ g' p u) : ∀ t, V t ≤ W t := by
  intro t
  induction t using Nat.strongRecOn with
  | _ t ih =>
    rcases Nat.eq_zero_or_pos t with z | z
    · rw [z, h1.1, h2.1]; exact Nat.le_refl _
    · rw [h1.2 t z, h2.2 t z]
      refine fb_sm_le fun p hp => ?_
      split
      · rename_i hb
        exact Nat.mul_le_mul (ih _ (anot_lt hb)) (hg _ _)
      · exact Nat.le_refl _
/-! the Tally's shares, by sayings -/
def gK (sp : Bool) (sl : Nat) (kd fi se : Nat → Nat) (p u k : Nat) : Nat := (if u.testBit (fi k) = true ∧ se k = p then (if sp then 8 - offO sl kd (fi k) else 1) else 1) * (if u.testBit (se k) = true ∧ fi k = p then (if sp then offO sl kd (fi k) else 0) else 1)
theorem gX_gK {sp : Bool} {sl : Nat} {kd fi se : Nat → Nat} {np p u : Nat} : ∀ {c : Nat}, (∀ k, k < c → fi k < np ∧ se k < np) → gX (faX sp sl kd fi se c) np p u = prX (gK sp sl kd fi se p u) c
  | 0, _ => prX_all1 (fun o _ => by
      show (if u.testBit o = true then 1 else 1) = 1
      split <;> rfl)
  | c + 1, h => by
    obtain ⟨f1, f2⟩ := h c (by omega)
    have one : ∀ x w v, x < np → prX (fun o => if u.testBit o = true then (if x = o ∧ w = p then v else 1) else 1) np = if u.testBit x = true ∧ w = p then v else 1 := fun x w v hx => by
      by_cases e : u.testBit x = true ∧ w = p
      · rw [if_pos e]
        refine (prX_cong fun o _ => ?_).trans (prX_one (x := x) (v := v) hx)
        by_cases eo : o = x
        · rw [if_pos eo, eo, if_pos e.1, if_pos ⟨rfl, e.2⟩]
        · rw [if_neg eo]
          split
          · rw [if_neg (fun z => eo z.1.symm)]
          · rfl
      · rw [if_neg e]
        refine prX_all1 fun o _ => ?_
        split
        · rename_i hb
          rw [if_neg (fun z => e ⟨by rw [z.1]; exact hb, z.2⟩)]
        · rfl
    rw [prX_s, ← gX_gK (c := c) (fun k hk => h k (by omega))]
    unfold gK gX
    rw [← one (fi c) (se c) _ f1, ← one (se c) (fi c) _ f2, ← Nat.mul_assoc, ← prX_mul, ← prX_mul]
    refine prX_cong fun o _ => ?_
    show (if u.testBit o = true then faX sp sl kd fi se (c + 1) o p else 1) = _
    rw [faX_s]
    split <;> simp
def xS (sl : Nat) (kd fi se : Nat → Nat) (u k : Nat) : Nat := if u.testBit (fi k) = true ∧ u.testBit (se k) = false then 8 - offO sl kd (fi k) else 1
def pK (fi se : Nat → Nat) (p t off k : Nat) : Nat := if fi k = p then (if t.testBit (se k) then off else 8 - off) else 1
theorem pOf_pK {fi se : Nat → Nat} {p t off : Nat} : ∀ c, pOf fi se p t off c = prX (pK fi se p t off) c
  | 0 => rfl
  | c + 1 => by
    rw [pOf_s, prX_s, pOf_pK c]
    unfold pK
    split
    · rfl
    · rw [Nat.mul_one]
theorem or_bit (u p i : Nat) : (u ||| 2 ^ p).testBit i = (u.testBit i || decide (p = i)) := by rw [Nat.testBit_or, Nat.testBit_two_pow]
/-- what the class shares out against what the reference does, with slips -/
theorem sharesS {sl : Nat} {kd fi se : Nat → Nat} {c p u : Nat} (hfs : ∀ k, k < c → fi k ≠ se k) (hb : u.testBit p = false) : prX (gK true sl kd fi se p u) c * prX (xS sl kd fi se (u ||| 2 ^ p)) c = prX (xS sl kd fi se u) c * pOf fi se p u (offO sl kd p) c := by
  rw [pOf_pK, ← prX_mul, ← prX_mul]
  refine prX_cong fun k hk => ?_
  have ne := hfs k hk
  unfold gK xS pK
  simp only [or_bit, if_true]
  by_cases h1 : fi k = p
  · have h2 : ¬ se k = p := fun z => ne (h1.trans z.symm)
    have h3 : ¬ p = se k := fun z => h2 z.symm
    rw [h1, hb]
    cases hse : u.testBit (se k) <;> simp [h2, h3]
  · have h1' : ¬ p = fi k := fun z => h1 z.symm
    by_cases h2 : se k = p
    · rw [h2, hb]
      cases hfi : u.testBit (fi k) <;> simp [h1, h1']
    · have h2' : ¬ p = se k := fun z => h2 z.symm
      cases hfi : u.testBit (fi k) <;> cases hse : u.testBit (se k) <;> simp [h1, h1', h2, h2']
def xF (fi se : Nat → Nat) (u k : Nat) : Nat := if u.testBit (se k) = true ∧ u.testBit (fi k) = false then 0 else 1
def fK (fi se : Nat → Nat) (p u k : Nat) : Nat := if se k = p ∧ u.testBit (fi k) = false then 0 else 1
/-- the same where only the orders that fit count -/
theorem sharesF {sl : Nat} {kd fi se : Nat → Nat} {c p u : Nat} (hfs : ∀ k, k < c → fi k ≠ se k) (hb : u.testBit p = false) : prX (gK false sl kd fi se p u) c * prX (xF fi se (u ||| 2 ^ p)) c = prX (xF fi se u) c * prX (fK fi se p u) c := by
  rw [← prX_mul, ← prX_mul]
  refine prX_cong fun k hk => ?_
  have ne := hfs k hk
  unfold gK xF fK
  simp only [or_bit, Bool.false_eq_true, if_false]
  by_cases h1 : fi k = p
  · have h2 : ¬ se k = p := fun z => ne (h1.trans z.symm)
    have h3 : ¬ p = se k := fun z => h2 z.symm
    rw [h1, hb]
    cases hse : u.testBit (se k) <;> simp [h2, h3]
  · have h1' : ¬ p = fi k := fun z => h1 z.symm
    by_cases h2 : se k = p
    · rw [h2, hb]
      cases hfi : u.testBit (fi k) <;> simp [h1, h1']
    · have h2' : ¬ p = se k := fun z => h2 z.symm
      cases hfi : u.testBit (fi k) <;> cases hse : u.testBit (se k) <;> simp [h1, h1', h2, h2']
theorem ahA_bit {fi se : Nat → Nat} {p i : Nat} : ∀ {c : Nat}, (ahA fi se c p).testBit i = true ↔ ∃ k, k < c ∧ se k = p ∧ fi k = i
  | 0 => by
    rw [ahA_0]
    simp
  | c + 1 => by
    rw [ahA_s]
    have ih := ahA_bit (fi := fi) (se := se) (p := p) (i := i) (c := c)
    constructor
    · intro h
      by_cases e : se c = p
      · rw [if_pos e, or_bit, Bool.or_eq_true] at h
        rcases h with h | h
        · obtain ⟨k, a, b⟩ := ih.mp h
          exact ⟨k, by omega, b⟩
        · exact ⟨c, by omega, e, of_decide_eq_true h⟩
      · rw [if_neg e] at h
        obtain ⟨k, a, b⟩ := ih.mp h
        exact ⟨k, by omega, b⟩
    · rintro ⟨k, a, b, e2⟩
      by_cases hk : k = c
      · subst hk
        rw [if_pos b, or_bit, decide_eq_true e2, Bool.or_true]
      · have := ih.mpr ⟨k, by omega, b, e2⟩
        split
        · rw [or_bit, this]; rfl
        · exact this
theorem full_bit {np i : Nat} : (2 ^ np - 1).testBit i = decide (i < np) := Nat.testBit_two_pow_sub_one np i
theorem fK_fit {fi se : Nat → Nat} {np c p u : Nat} (h : ∀ k, k < c → fi k < np) : (if anot (ahA fi se c p &&& (2 ^ np - 1)) u = 0 then 1 else 0) = prX (fK fi se p u) c := by
  by_cases hx : ∃ k, k < c ∧ se k = p ∧ u.testBit (fi k) = false
  · obtain ⟨k, h1, h2, h3⟩ := hx
    rw [prX_0 (k := k) (by unfold fK; rw [if_pos ⟨h2, h3⟩]) h1, if_neg]
    intro z
    have := anot_0.mp z (fi k) (by rw [Nat.testBit_and, full_bit, decide_eq_true (h k h1), Bool.and_true]; exact ahA_bit.mpr ⟨k, h1, h2, rfl⟩)
    rw [h3] at this; cases this
  · rw [prX_all1 (fun k hk => by
      unfold fK
      rw [if_neg (fun z => hx ⟨k, hk, z.1, z.2⟩)]), if_pos]
    refine anot_0.mpr fun i hi => ?_
    rw [Nat.testBit_and, Bool.and_eq_true] at hi
    obtain ⟨k, h1, h2, h3⟩ := ahA_bit.mp hi.1
    cases hb : u.testBit i with
    | true => rfl
    | false => exact absurd ⟨k, h1, h2, by rw [h3]; exact hb⟩ hx
/-- orders that fit, as weights -/
theorem fitC_psh {np : Nat} (ah : Nat → Nat) {W : Nat → Nat} {g : Nat → Nat → Nat} (hW : PshR np W g) (hg : ∀ p u, p < np → u < 2 ^ np → u.testBit p = false → g p u = if anot (ah p &&& (2 ^ np - 1)) u = 0 then 1 else 0) : ∀ t, t < 2 ^ np → fitC np (2 ^ np - 1) ah t = W t := by
  have hF := fitC_ok np (2 ^ np - 1) ah
  intro t
  induction t using Nat.strongRecOn with
  | _ t ih =>
    intro ht
    rcases Nat.eq_zero_or_pos t with z | z
    · rw [z, hF.1, hW.1]
    · have h0 : anot t (2 ^ np - 1) = 0 := anot_0.mpr fun i hi => by
        rw [full_bit]
        refine decide_eq_true ?_
        rcases Nat.lt_or_ge i np with y | y
        · exact y
        · rw [Nat.testBit_lt_two_pow (Nat.lt_of_lt_of_le ht (Nat.pow_le_pow_right (by decide) y))] at hi; cases hi
      rw [hF.2 t z (by omega), hW.2 t z, if_pos h0]
      refine fb_sm_cong fun p hp => ?_
      by_cases hb : t.testBit p = true
      · have hl := anot_lt hb
        rw [if_pos hb, hg p _ hp (by omega) (by rw [anot_bit, Nat.testBit_two_pow_self]; simp), ih _ hl (by omega), hb]
        by_cases hz : anot (ah p &&& (2 ^ np - 1)) (anot t (2 ^ p)) = 0
        · rw [decide_eq_true hz, if_pos hz, Nat.mul_one]; rfl
        · rw [decide_eq_false hz, if_neg hz, Nat.mul_zero]; rfl
      · rw [if_neg hb, if_neg (by simp [hb])]
/-! the pair that stands in the one order or in the other -/
theorem fwd {np : Nat} {V V' B : Nat → Nat} {g : Nat → Nat → Nat} {o q : Nat} (hq : q < np) (hoq : o ≠ q) (hV : PshR np V g) (hV' : PshR np V' (fun p u => if alB o q p u then g p u else 0)) (hB : BkR np V g B) : ahT np V g B o q = V' (2 ^ np - 1) := by
  have h1 : ∀ t, t < 2 ^ np → t.testBit q = false → V' t = V t := by
    intro t
    induction t using Nat.strongRecOn with
    | _ t ih =>
      intro ht hb
      rcases Nat.eq_zero_or_pos t with z | z
      · rw [z, hV.1, hV'.1]
      · rw [hV.2 t z, hV'.2 t z]
        refine fb_sm_cong fun p hp => ?_
        split
        · rename_i hpb
          have hl := anot_lt hpb
          have hpq : p ≠ q := fun z => by rw [z, hb] at hpb; cases hpb
          have : alB o q p (anot t (2 ^ p)) = true := by unfold alB; rw [decide_eq_false hpq]; rfl
          dsimp only
          rw [this, if_pos rfl, ih _ hl (by omega) (by rw [anot_bit, hb]; rfl)]
        · rfl
  have h2 : ∀ t, V' t ≤ V t := hV'.le hV (fun p u => by split; exact Nat.le_refl _; exact Nat.zero_le _)
  obtain ⟨g', hg'⟩ : ∃ g' : Nat → Nat → Nat, g' = fun p u => if alB o q p u then g p u else 0 := ⟨_, rfl⟩
  rw [← hg'] at hV'
  obtain ⟨Ps, hPs⟩ : ∃ Ps : Nat → Nat → Nat, Ps = fun i j => fb_sm (fun t => if i < t ∧ t.testBit q = true then psh np V' g' i j t * B t else 0) (2 ^ np) := ⟨_, rfl⟩
  have sj : ∀ i j, i < 2 ^ np - 1 → j < np → Ps i (j + 1) = Ps i j + (if i.testBit j = false ∧ (i ||| 2 ^ j).testBit q = true then V' i * g' j i * B (i ||| 2 ^ j) else 0) := by
    intro i j hi hj
    rw [hPs]
    show fb_sm _ _ = fb_sm _ _ + _
    by_cases hb : i.testBit j = false
    · have og := or_gt hb
      have ol := or_lt (np := np) (t := i) (p := j) (by omega) hj
      have e : (fun t => if i < t ∧ t.testBit q = true then psh np V' g' i (j + 1) t * B t else 0) = fun t => (fun t => if i < t ∧ t.testBit q = true then psh np V' g' i j t * B t else 0) t + (fun t => if t = i ||| 2 ^ j then (if (i ||| 2 ^ j).testBit q = true then V' i * g' j i * B (i ||| 2 ^ j) else 0) else 0) t := by
        funext t
        by_cases ht : t = i ||| 2 ^ j
        · subst ht
          dsimp only
          rw [if_pos rfl, psh_add hj hb]
          by_cases hz : (i ||| 2 ^ j).testBit q = true
          · simp only [hz, og, and_self, if_true]
            rw [Nat.add_mul]
          · simp [hz]
        · dsimp only
          rw [if_neg ht, psh_same (fun y1 y2 => absurd (by rw [← y2, anot_or y1]) ht)]
          rfl
      rw [e, fb_sm_add, fb_sm_one ol]
      simp only [hb, true_and]
    · rw [if_neg (fun z => hb z.1), Nat.add_zero]
      refine fb_sm_cong fun t _ => ?_
      rw [psh_same (fun y1 y2 => absurd (by rw [← y2, anot_bit, Nat.testBit_two_pow_self]; simp) hb)]
  have sJ : ∀ i, i < 2 ^ np - 1 → ∀ j, j ≤ np → Ps i j = Ps i 0 + fb_sm (fun j => if i.testBit j = false ∧ (i ||| 2 ^ j).testBit q = true then V' i * g' j i * B (i ||| 2 ^ j) else 0) j := by
    intro i hi j
    induction j with
    | zero => intro _; rfl
    | succ j ih => intro hj; rw [sj i j hi (by omega), ih (by omega), fb_sm_succ, Nat.add_assoc]
  obtain ⟨Ph, hPh⟩ : ∃ Ph : Nat → Nat, Ph = fun i => fb_sm (fun t => if i ≤ t ∧ t.testBit q = true then psh np V' g' i 0 t * B t else 0) (2 ^ np) := ⟨_, rfl⟩
  have nx : ∀ i, i < 2 ^ np - 1 → Ps i np = Ph (i + 1) := fun i hi => by
    rw [hPs, hPh]
    refine fb_sm_cong fun t _ => ?_
    rw [psh_end]
    rfl
  have dn : ∀ i, i < 2 ^ np → Ph i = (if i.testBit q = true then V' i * B i else 0) + Ps i 0 := fun i hi => by
    rw [hPs, hPh]
    show fb_sm _ _ = _ + fb_sm _ _
    have e : (fun t => if i ≤ t ∧ t.testBit q = true then psh np V' g' i 0 t * B t else 0) = fun t => (fun t => if t = i then (if i.testBit q = true then V' i * B i else 0) else 0) t + (fun t => if i < t ∧ t.testBit q = true then psh np V' g' i 0 t * B t else 0) t := by
      funext t
      by_cases ht : t = i
      · subst ht
        dsimp only
        rw [if_pos rfl, if_neg (show ¬ (t < t ∧ t.testBit q = true) from fun z => by omega), Nat.add_zero, psh_full hV' (Nat.le_refl t)]
        simp only [Nat.le_refl, true_and]
      · dsimp only
        rw [if_neg ht, Nat.zero_add]
        have : (i ≤ t ∧ t.testBit q = true) ↔ (i < t ∧ t.testBit q = true) := ⟨fun z => ⟨by omega, z.2⟩, fun z => ⟨by omega, z.2⟩⟩
        simp only [this]
    rw [e, fb_sm_add, fb_sm_one hi]
  have key : ∀ i, i < 2 ^ np - 1 → Ph (i + 1) = Ph i + ahF V g B o q i := by
    intro i hi
    rw [← nx i hi, sJ i hi np (Nat.le_refl _), dn i (by omega)]
    cases hb : i.testBit q with
    | true =>
      have e1 : ahF V g B o q i = 0 := by unfold ahF; rw [if_neg (fun z => by rw [hb] at z; cases z.1)]
      rw [e1, Nat.add_zero, if_pos rfl, Nat.add_comm]
      congr 1
      have e2 : fb_sm (fun j => if i.testBit j = false ∧ (i ||| 2 ^ j).testBit q = true then V' i * g' j i * B (i ||| 2 ^ j) else 0) np = V' i * fb_sm (fun p => if i.testBit p then 0 else g p i * B (i ||| 2 ^ p)) np := by
        rw [← fb_sm_mulL]
        refine fb_sm_cong fun j hj => ?_
        have h3 : (i ||| 2 ^ j).testBit q = true := by rw [or_bit, hb]; rfl
        cases hj2 : i.testBit j with
        | true => simp
        | false =>
          have hjq : j ≠ q := fun z => by rw [z, hb] at hj2; cases hj2
          have h4 : g' j i = g j i := by
            rw [hg']
            show (if alB o q j i then g j i else 0) = _
            unfold alB
            rw [decide_eq_false hjq]; rfl
          rw [if_pos ⟨rfl, h3⟩, h4, if_neg (by decide), Nat.mul_assoc]
      rw [e2]
      by_cases hz : V i = 0
      · have := h2 i
        rw [show V' i = 0 by omega, Nat.zero_mul, Nat.zero_mul]
      · rw [hB.2 i hi, if_neg hz]
    | false =>
      rw [if_neg (by decide), Nat.zero_add]
      congr 1
      have e2 : fb_sm (fun j => if i.testBit j = false ∧ (i ||| 2 ^ j).testBit q = true then V' i * g' j i * B (i ||| 2 ^ j) else 0) np = fb_sm (fun j => if j = q then V' i * g' q i * B (i ||| 2 ^ q) else 0) np := by
        refine fb_sm_cong fun j hj => ?_
        by_cases hjq : j = q
        · subst hjq
          rw [if_pos rfl, if_pos ⟨hb, by rw [or_bit, decide_eq_true rfl, Bool.or_true]⟩]
        · rw [if_neg hjq, if_neg (fun z => by rw [or_bit, hb, decide_eq_false hjq] at z; cases z.2)]
      rw [e2, fb_sm_one hq, h1 i (by omega) hb, hg']
      unfold ahF
      show V i * (if alB o q q i then g q i else 0) * _ = _
      unfold alB
      rw [decide_eq_true rfl]
      simp only [Bool.not_true, Bool.false_or, hb, true_and]
      split
      · rw [Nat.mul_assoc]
      · rw [Nat.mul_zero, Nat.zero_mul]
  have sum : ∀ i, i ≤ 2 ^ np - 1 → Ph i + sfm (ahF V g B o q) i (2 ^ np - 1) = Ph (2 ^ np - 1) := by
    have : ∀ k i, i + k = 2 ^ np - 1 → Ph i + sfm (ahF V g B o q) i (2 ^ np - 1) = Ph (2 ^ np - 1) := by
      intro k
      induction k with
      | zero => intro i h; rw [show i = 2 ^ np - 1 by omega, sfm_0, Nat.add_zero]
      | succ k ih =>
        intro i h
        rw [sfm_s (by omega), ← Nat.add_assoc, ← key i (by omega)]
        exact ih (i + 1) (by omega)
    exact fun i hi => this (2 ^ np - 1 - i) i (by omega)
  have hpw : 1 ≤ 2 ^ np := Nat.one_le_two_pow
  have z0 : Ph 0 = 0 := by
    rw [hPh]
    refine fb_sm_0 fun t ht => ?_
    rw [psh_0]
    by_cases hz : t = 0
    · subst hz; simp
    · simp [hz]
  have zN : Ph (2 ^ np - 1) = V' (2 ^ np - 1) := by
    rw [dn _ (by omega), if_pos (by rw [full_bit, decide_eq_true hq]), hB.1, Nat.mul_one]
    have : Ps (2 ^ np - 1) 0 = 0 := by
      rw [hPs]
      refine fb_sm_0 fun t ht => ?_
      rw [if_neg (fun z => by omega)]
    rw [this, Nat.add_zero]
  have := sum 0 (Nat.zero_le _)
  rw [z0, Nat.zero_add, zN] at this
  exact this
