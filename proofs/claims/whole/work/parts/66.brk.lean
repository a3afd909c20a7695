/-! counts side by side, six bits each -/
def sm6 (ok : Nat → Bool) (fi : Nat → Nat) : Nat → Nat
  | 0 => 0
  | k + 1 => sm6 ok fi k + (if ok k then 64 ^ fi k else 0)
theorem sm6_s (ok : Nat → Bool) (fi : Nat → Nat) (k : Nat) : sm6 ok fi (k + 1) = sm6 ok fi k + (if ok k then 64 ^ fi k else 0) := rfl
def dg (f : Nat → Nat) : Nat → Nat
  | 0 => 0
  | m + 1 => dg f m + f m * 64 ^ m
theorem dg_s (f : Nat → Nat) (m : Nat) : dg f (m + 1) = dg f m + f m * 64 ^ m := rfl
theorem dg_0 : ∀ m, dg (fun _ => 0) m = 0
  | 0 => rfl
  | m + 1 => by rw [dg_s, dg_0 m]; simp
theorem dg_up (f g : Nat → Nat) (i : Nat) : ∀ m, (∀ p, g p = f p + (if p = i then 1 else 0)) → i < m → dg g m = dg f m + 64 ^ i
  | 0, _, h => by omega
  | m + 1, hg, h => by
    rw [dg_s, dg_s, hg m]
    by_cases e : m = i
    · subst e
      have : ∀ k, k ≤ m → dg g k = dg f k := by
        intro k
        induction k with
        | zero => intro _; rfl
        | succ k ih => intro hk; rw [dg_s, dg_s, ih (by omega), hg k, if_neg (by omega), Nat.add_zero]
      rw [this m (Nat.le_refl _), if_pos rfl, Nat.add_mul, Nat.one_mul]
      omega
    · rw [dg_up f g i m hg (by omega), if_neg e, Nat.add_zero]
      omega
theorem dg_lt {f : Nat → Nat} : ∀ m, (∀ p, p < m → f p < 64) → dg f m < 64 ^ m
  | 0, _ => by show 0 < 1; decide
  | m + 1, h => by
    have ih := dg_lt m (fun p hp => h p (by omega))
    have hm := h m (by omega)
    rw [dg_s, Nat.pow_succ]
    have : f m * 64 ^ m ≤ 63 * 64 ^ m := Nat.mul_le_mul_right _ (by omega)
    omega
theorem dg_at {f : Nat → Nat} {p : Nat} : ∀ m, (∀ p, p < m → f p < 64) → p < m → dg f m / 64 ^ p % 64 = f p
  | 0, _, h => by omega
  | m + 1, hf, h => by
    rw [dg_s]
    have hl := dg_lt m (fun p hp => hf p (by omega))
    by_cases e : p = m
    · subst e
      rw [Nat.add_mul_div_right _ _ (Nat.pow_pos (by decide)), Nat.div_eq_of_lt hl, Nat.zero_add, Nat.mod_eq_of_lt (hf p (by omega))]
    · have ih := dg_at m (fun p hp => hf p (by omega)) (show p < m by omega)
      have e2 : f m * 64 ^ m = (f m * 64 ^ (m - p - 1) * 64) * 64 ^ p := by
        rw [Nat.mul_assoc, Nat.mul_assoc]
        congr 1
        rw [show 64 * 64 ^ p = 64 ^ (p + 1) by rw [Nat.pow_succ, Nat.mul_comm], ← Nat.pow_add]
        congr 1
        omega
      rw [e2, Nat.add_mul_div_right _ _ (Nat.pow_pos (by decide)), Nat.add_mul_mod_self_right]
      exact ih
theorem sm6_dg {ok : Nat → Bool} {fi : Nat → Nat} (m : Nat) : ∀ c, (∀ k, k < c → fi k < m) → sm6 ok fi c = dg (fun p => fb_ct (fun k => ok k && decide (fi k = p)) c) m := by
  intro c
  induction c with
  | zero =>
    intro _
    have e : (fun p => fb_ct (fun k => ok k && decide (fi k = p)) 0) = fun _ => 0 := rfl
    rw [e, dg_0]
    rfl
  | succ c ih =>
    intro h
    rw [sm6_s, ih (fun k hk => h k (by omega))]
    cases hk : ok c with
    | false =>
      simp only [Bool.false_eq_true, if_false, Nat.add_zero]
      congr 1
      funext p
      rw [fb_ct_succ, hk]
      simp
    | true =>
      simp only [if_true]
      refine (dg_up _ _ (fi c) m (fun p => ?_) (h c (by omega))).symm
      rw [fb_ct_succ, hk, Bool.true_and]
      by_cases e : p = fi c
      · rw [if_pos e, decide_eq_true e.symm]; rfl
      · rw [if_neg e, decide_eq_false (fun w => e w.symm)]; rfl
/-- what is said against q; what breaks behind the set t, of each one -/
def agW (c : Nat) (fi se ma : Nat → Nat) (w : Int32) (q : Nat) : Nat := sm6 (fun k => decide (se k = q) && mkO w (ma k)) fi c
def bkW (c : Nat) (fi se ma : Nat → Nat) (w : Int32) (t : Nat) : Nat := sm6 (fun k => t.testBit (se k) && mkO w (ma k)) fi c
theorem bkW_lt {c : Nat} {fi se ma : Nat → Nat} {w : Int32} (m : Nat) (hc : c ≤ 40) (hfi : ∀ k, k < c → fi k < m) (t : Nat) : bkW c fi se ma w t < 64 ^ m := by
  unfold bkW
  rw [sm6_dg m c hfi]
  refine dg_lt m (fun p _ => ?_)
  have := fb_ct_le (fun k => (t.testBit (se k) && mkO w (ma k)) && decide (fi k = p)) c
  show fb_ct (fun k => (t.testBit (se k) && mkO w (ma k)) && decide (fi k = p)) c < 64
  omega
theorem bkW_at {c : Nat} {fi se ma : Nat → Nat} {w : Int32} (m : Nat) (hc : c ≤ 40) (hfi : ∀ k, k < c → fi k < m) (t p : Nat) (hp : p < m) : bkW c fi se ma w t / 64 ^ p % 64 = brk c fi se ma w p t := by
  unfold bkW
  rw [sm6_dg m c hfi, dg_at m (fun p _ => ?_) hp]
  · unfold brk
    refine fb_ct_cong fun k _ => ?_
    cases t.testBit (se k) <;> cases mkO w (ma k) <;> cases decide (fi k = p) <;> rfl
  · have := fb_ct_le (fun k => (t.testBit (se k) && mkO w (ma k)) && decide (fi k = p)) c
    show fb_ct (fun k => (t.testBit (se k) && mkO w (ma k)) && decide (fi k = p)) c < 64
    omega
theorem bkW_anot {fi se ma : Nat → Nat} {w : Int32} {t q : Nat} (h : t.testBit q = true) : ∀ c, bkW c fi se ma w t = bkW c fi se ma w (anot t (2 ^ q)) + agW c fi se ma w q
  | 0 => rfl
  | c + 1 => by
    have ih := bkW_anot (fi := fi) (se := se) (ma := ma) (w := w) h c
    unfold bkW agW at ih ⊢
    rw [sm6_s, sm6_s, sm6_s, ih, anot_bit, Nat.testBit_two_pow]
    by_cases e : q = se c
    · rw [← e, h, decide_eq_true rfl]
      cases mkO w (ma c) <;> simp <;> omega
    · rw [decide_eq_false e, decide_eq_false (fun z => e z.symm)]
      simp only [Bool.not_false, Bool.and_true, Bool.false_and, Bool.false_eq_true, if_false, Nat.add_zero]
      omega
theorem bkW_0 (c : Nat) (fi se ma : Nat → Nat) (w : Int32) : bkW c fi se ma w 0 = 0 := by
  unfold bkW
  induction c with
  | zero => rfl
  | succ c ih => rw [sm6_s, ih]; simp
