/-! orders by their first one; sets without a ring -/
theorem fb_sm_swap (f : Nat → Nat → Nat) (m : Nat) : ∀ n, fb_sm (fun i => fb_sm (fun j => f i j) m) n = fb_sm (fun j => fb_sm (fun i => f i j) n) m
  | 0 => (fb_sm_0 (fun _ _ => rfl)).symm
  | n + 1 => by
    rw [fb_sm_succ, fb_sm_swap f m n, ← fb_sm_add]
    rfl
def sbs (s t : Nat) : Prop := ∀ i, s.testBit i = true → t.testBit i = true
theorem and0 {a b : Nat} : a &&& b = 0 ↔ ∀ i, a.testBit i = true → b.testBit i = false := by
  constructor
  · intro h i hi
    have : (a &&& b).testBit i = false := by rw [h]; simp
    rw [Nat.testBit_and, hi, Bool.true_and] at this
    exact this
  · intro h
    refine Nat.eq_of_testBit_eq fun i => ?_
    rw [Nat.testBit_and]
    cases ha : a.testBit i with
    | false => simp
    | true => rw [h i ha]; simp
theorem bit_ex {t : Nat} (h : t ≠ 0) : ∃ i, t.testBit i = true := by
  rcases Classical.em (∃ i, t.testBit i = true) with z | z
  · exact z
  · refine absurd (Nat.eq_of_testBit_eq fun i => ?_) h
    cases hb : t.testBit i with
    | false => simp
    | true => exact absurd ⟨i, hb⟩ z
theorem ne0_bit {t i : Nat} (h : t.testBit i = true) : t ≠ 0 := fun z => by rw [z] at h; simp at h
theorem bit_np {t np i : Nat} (ht : t < 2 ^ np) (h : t.testBit i = true) : i < np := by
  rcases Nat.lt_or_ge i np with y | y
  · exact y
  · rw [Nat.testBit_lt_two_pow (Nat.lt_of_lt_of_le ht (Nat.pow_le_pow_right (by decide) y))] at h; cases h
theorem an_bit (t p i : Nat) : (anot t (2 ^ p)).testBit i = (t.testBit i && !decide (p = i)) := by rw [anot_bit, Nat.testBit_two_pow]
theorem an_an (t p b : Nat) : anot (anot t (2 ^ p)) (2 ^ b) = anot (anot t (2 ^ b)) (2 ^ p) := Nat.eq_of_testBit_eq fun i => by
  rw [an_bit, an_bit, an_bit, an_bit]
  cases t.testBit i <;> cases decide (p = i) <;> cases decide (b = i) <;> rfl
theorem fitC_e {np who : Nat} {sa : Nat → Nat} {t : Nat} (h0 : t ≠ 0) (hs : sbs t who) : fitC np who sa t = fb_sm (fun p => if t.testBit p = true ∧ anot (sa p &&& who) (anot t (2 ^ p)) = 0 then fitC np who sa (anot t (2 ^ p)) else 0) np := by
  rw [fitC, if_neg h0, if_pos (anot_0.mpr hs)]
  refine fb_sm_cong fun p _ => ?_
  by_cases hc : t.testBit p = true ∧ anot (sa p &&& who) (anot t (2 ^ p)) = 0
  · rw [dif_pos hc, if_pos hc]
  · rw [dif_neg hc, if_neg hc]
theorem sbs_an {t who p : Nat} (h : sbs t who) : sbs (anot t (2 ^ p)) who := fun i hi => h i (by rw [an_bit, Bool.and_eq_true] at hi; exact hi.1)
theorem fit_first {np : Nat} {sa : Nat → Nat} {who : Nat} (hw : who < 2 ^ np) : ∀ t, t ≠ 0 → sbs t who → fitC np who sa t = fb_sm (fun b => if t.testBit b = true ∧ sa b &&& who = 0 then fitC np (anot who (2 ^ b)) sa (anot t (2 ^ b)) else 0) np := by
  intro t
  induction t using Nat.strongRecOn with
  | _ t ih =>
    intro h0 hs
    rw [fitC_e h0 hs]
    by_cases h1 : ∃ p, t = 2 ^ p
    · obtain ⟨p, hp⟩ := h1
      refine fb_sm_cong fun q hq => ?_
      by_cases hb : t.testBit q = true
      · have e : q = p := by
          rw [hp, Nat.testBit_two_pow] at hb
          exact (of_decide_eq_true hb).symm
        have ez : anot t (2 ^ q) = 0 := Nat.eq_of_testBit_eq fun i => by
          rw [an_bit, hp, Nat.testBit_two_pow, e]
          cases decide (p = i) <;> simp
        rw [ez]
        have e2 : anot (sa q &&& who) 0 = 0 ↔ sa q &&& who = 0 := by
          rw [anot_0, and0]
          constructor
          · intro z i hi
            cases hw2 : who.testBit i with
            | false => rfl
            | true =>
              have := z i (by rw [Nat.testBit_and, hi, hw2]; rfl)
              simp at this
          · intro z i hi
            rw [Nat.testBit_and, Bool.and_eq_true] at hi
            rw [z i hi.1] at hi
            cases hi.2
        have e3 : ∀ w, fitC np w sa 0 = 1 := fun w => by rw [fitC]; rfl
        by_cases hz : sa q &&& who = 0
        · rw [if_pos ⟨hb, e2.mpr hz⟩, if_pos ⟨hb, hz⟩, e3, e3]
        · rw [if_neg (fun y => hz (e2.mp y.2)), if_neg (fun y => hz y.2)]
      · rw [if_neg (fun y => hb y.1), if_neg (fun y => hb y.1)]
    · have nz : ∀ p, anot t (2 ^ p) ≠ 0 := fun p z => by
        obtain ⟨i, hi⟩ := bit_ex h0
        refine h1 ⟨p, Nat.eq_of_testBit_eq fun j => ?_⟩
        have hj : ∀ j, t.testBit j = true → p = j := fun j hj => by
          have : (anot t (2 ^ p)).testBit j = false := by rw [z]; simp
          rw [an_bit, hj, Bool.true_and] at this
          have h2 : decide (p = j) = true := by simpa using this
          exact of_decide_eq_true h2
        rw [Nat.testBit_two_pow]
        cases hjb : t.testBit j with
        | true => rw [decide_eq_true (hj j hjb)]
        | false => rw [decide_eq_false (fun y => by rw [← hj i hi] at hi; rw [← y, hi] at hjb; cases hjb)]
      have e1 : fb_sm (fun p => if t.testBit p = true ∧ anot (sa p &&& who) (anot t (2 ^ p)) = 0 then fitC np who sa (anot t (2 ^ p)) else 0) np = fb_sm (fun p => fb_sm (fun b => if (t.testBit p = true ∧ anot (sa p &&& who) (anot t (2 ^ p)) = 0) ∧ (anot t (2 ^ p)).testBit b = true ∧ sa b &&& who = 0 then fitC np (anot who (2 ^ b)) sa (anot (anot t (2 ^ p)) (2 ^ b)) else 0) np) np := by
        refine fb_sm_cong fun p hp => ?_
        by_cases hc : t.testBit p = true ∧ anot (sa p &&& who) (anot t (2 ^ p)) = 0
        · rw [if_pos hc, ih _ (anot_lt hc.1) (nz p) (sbs_an hs)]
          refine fb_sm_cong fun b _ => ?_
          simp only [hc, true_and, and_self]
        · rw [if_neg hc]
          exact (fb_sm_0 (fun b _ => if_neg (fun y => hc y.1))).symm
      rw [e1, fb_sm_swap]
      refine fb_sm_cong fun b hb => ?_
      by_cases hc : t.testBit b = true ∧ sa b &&& who = 0
      · rw [if_pos hc, fitC_e (nz b) (fun i hi => by
          rw [an_bit, Bool.and_eq_true] at hi ⊢
          exact ⟨hs i hi.1, hi.2⟩)]
        refine fb_sm_cong fun p hp => ?_
        by_cases hpb : p = b
        · rw [if_neg (fun y => by
            have := y.2.1
            rw [an_bit, hpb, decide_eq_true rfl, Bool.not_true, Bool.and_false] at this
            cases this), if_neg (fun y => by
            have := y.1
            rw [an_bit, hpb, decide_eq_true rfl, Bool.not_true, Bool.and_false] at this
            cases this)]
        · have k1 : (anot t (2 ^ p)).testBit b = true := by rw [an_bit, hc.1, decide_eq_false hpb]; rfl
          have k2 : (anot t (2 ^ b)).testBit p = t.testBit p := by rw [an_bit, decide_eq_false (fun y => hpb y.symm)]; simp
          have k3 : anot (sa p &&& anot who (2 ^ b)) (anot (anot t (2 ^ b)) (2 ^ p)) = 0 ↔ anot (sa p &&& who) (anot t (2 ^ p)) = 0 := by
            rw [anot_0, anot_0]
            constructor
            · intro z i hi
              rw [Nat.testBit_and, Bool.and_eq_true] at hi
              by_cases hib : b = i
              · rw [← hib]; exact k1
              · have := z i (by rw [Nat.testBit_and, hi.1, an_bit, hi.2, decide_eq_false hib]; rfl)
                rw [an_an, an_bit, Bool.and_eq_true] at this
                exact this.1
            · intro z i hi
              rw [Nat.testBit_and, an_bit, Bool.and_eq_true, Bool.and_eq_true] at hi
              rw [an_an, an_bit, hi.2.2, Bool.and_true]
              exact z i (by rw [Nat.testBit_and, hi.1, hi.2.1]; rfl)
          by_cases hx : t.testBit p = true ∧ anot (sa p &&& who) (anot t (2 ^ p)) = 0
          · rw [if_pos ⟨hx, k1, hc.2⟩, if_pos ⟨by rw [k2]; exact hx.1, k3.mpr hx.2⟩, an_an]
          · rw [if_neg (fun y => hx y.1), if_neg (fun y => hx ⟨by rw [← k2]; exact y.1, k3.mp y.2⟩)]
      · rw [if_neg hc]
        refine fb_sm_0 fun p _ => if_neg (fun y => hc ⟨?_, y.2.2⟩)
        have := y.2.1
        rw [an_bit, Bool.and_eq_true] at this
        exact this.1
/-- the orders of a set -/
def fitW (np : Nat) (sa : Nat → Nat) (t : Nat) : Nat := fitC np t sa t
theorem fitW_0 (np : Nat) (sa : Nat → Nat) : fitW np sa 0 = 1 := by unfold fitW; rw [fitC]; rfl
theorem fitW_e {np : Nat} {sa : Nat → Nat} {t : Nat} (ht : t < 2 ^ np) (h0 : t ≠ 0) : fitW np sa t = fb_sm (fun b => if frP sa t b then fitW np sa (anot t (2 ^ b)) else 0) np := by
  unfold fitW
  rw [fit_first ht t h0 (fun _ h => h)]
  refine fb_sm_cong fun b _ => ?_
  unfold frP
  by_cases h1 : t.testBit b = true ∧ sa b &&& t = 0
  · rw [if_pos h1, h1.1, decide_eq_true h1.2]; rfl
  · rw [if_neg h1, if_neg (fun y => h1 (by
      rw [Bool.and_eq_true] at y
      exact ⟨y.1, of_decide_eq_true y.2⟩))]
/-- no ring in t -/
def Acy (sa : Nat → Nat) (t : Nat) : Prop := ∀ s, s ≠ 0 → sbs s t → ∃ p, s.testBit p = true ∧ sa p &&& s = 0
theorem Acy.sub {sa : Nat → Nat} {s t : Nat} (h : Acy sa t) (hs : sbs s t) : Acy sa s := fun u h0 hu => h u h0 (fun i hi => hs i (hu i hi))
theorem Acy.of_min {sa : Nat → Nat} {t b : Nat} (hf : frP sa t b = true) (h : Acy sa (anot t (2 ^ b))) : Acy sa t := by
  intro s h0 hs
  unfold frP at hf
  rw [Bool.and_eq_true] at hf
  have hf2 := and0.mp (of_decide_eq_true hf.2)
  by_cases hb : s.testBit b = true
  · refine ⟨b, hb, and0.mpr fun i hi => ?_⟩
    cases hsi : s.testBit i with
    | false => rfl
    | true => exact absurd (hf2 i hi) (by rw [hs i hsi]; decide)
  · refine h s h0 (fun i hi => ?_)
    rw [an_bit, hs i hi, decide_eq_false (fun y => hb (by rw [y]; exact hi))]; rfl
theorem pc_an {np t p : Nat} (hnp : np ≤ 10) (ht : t < 2 ^ np) (h : t.testBit p = true) : pcn (anot t (2 ^ p)) + 1 = pcn t := pcn_anot (by have := p2_10 hnp; omega) h
theorem pc_0 {np t : Nat} (hnp : np ≤ 10) (ht : t < 2 ^ np) (h : pcn t = 0) : t = 0 := by
  refine Nat.eq_of_testBit_eq fun i => ?_
  cases hb : t.testBit i with
  | false => simp
  | true =>
    have := pc_an hnp ht hb
    omega
theorem fitW_acy {np : Nat} {sa : Nat → Nat} (hnp : np ≤ 10) : ∀ f t, t < 2 ^ np → pcn t ≤ f → (0 < fitW np sa t ↔ Acy sa t) := by
  intro f
  induction f with
  | zero =>
    intro t ht hf
    rw [pc_0 hnp ht (by omega), fitW_0]
    exact ⟨fun _ s h0 hs => by
      obtain ⟨i, hi⟩ := bit_ex h0
      have := hs i hi
      simp at this, fun _ => Nat.one_pos⟩
  | succ f ih =>
    intro t ht hf
    by_cases h0 : t = 0
    · rw [h0, fitW_0]
      exact ⟨fun _ s h0 hs => by
        obtain ⟨i, hi⟩ := bit_ex h0
        have := hs i hi
        simp at this, fun _ => Nat.one_pos⟩
    · rw [fitW_e ht h0]
      constructor
      · intro h
        rcases Classical.em (∃ b, b < np ∧ frP sa t b = true ∧ 0 < fitW np sa (anot t (2 ^ b))) with z | z
        · obtain ⟨b, hb, hfb, hw⟩ := z
          have htb : t.testBit b = true := by unfold frP at hfb; rw [Bool.and_eq_true] at hfb; exact hfb.1
          have := pc_an hnp ht htb
          exact Acy.of_min hfb ((ih _ (by have := anot_lt htb; omega) (by omega)).mp hw)
        · rw [fb_sm_0 (fun b hb => by
            split
            · rename_i hfb
              rcases Nat.eq_zero_or_pos (fitW np sa (anot t (2 ^ b))) with y | y
              · exact y
              · exact absurd ⟨b, hb, hfb, y⟩ z
            · rfl)] at h
          exact absurd h (Nat.lt_irrefl _)
      · intro h
        obtain ⟨p, hp, hm⟩ := h t h0 (fun _ z => z)
        have hpn := bit_np ht hp
        have hfp : frP sa t p = true := by unfold frP; rw [hp, decide_eq_true hm]; rfl
        have := pc_an hnp ht hp
        have hw := (ih (anot t (2 ^ p)) (by have := anot_lt hp; omega) (by omega)).mpr (h.sub (fun i hi => by rw [an_bit, Bool.and_eq_true] at hi; exact hi.1))
        have := fb_sm_part (fun b => if frP sa t b then fitW np sa (anot t (2 ^ b)) else 0) hpn
        rw [if_pos hfp] at this
        omega
theorem fitW_pos {np : Nat} {sa : Nat → Nat} (hnp : np ≤ 10) {t : Nat} (ht : t < 2 ^ np) : 0 < fitW np sa t ↔ Acy sa t := fitW_acy hnp _ t ht (Nat.le_refl _)
theorem fb_sm_ge {p : Nat → Bool} {f : Nat → Nat} : ∀ {n : Nat}, (∀ k, k < n → p k = true → 1 ≤ f k) → fb_ct p n ≤ fb_sm (fun k => if p k then f k else 0) n
  | 0, _ => Nat.le_refl _
  | n + 1, h => by
    rw [fb_ct_succ, fb_sm_succ]
    refine Nat.add_le_add (fb_sm_ge (fun k hk => h k (by omega))) ?_
    split
    · rename_i hp
      exact h n (by omega) hp
    · exact Nat.le_refl _
theorem fb_ct_uniq {p : Nat → Bool} {n i j : Nat} (h : fb_ct p n ≤ 1) (hi : i < n) (hj : j < n) (pi : p i = true) (pj : p j = true) : i = j := by
  refine fb_ct_kth_one pi pj ?_
  have h1 : fb_ct p (i + 1) ≤ fb_ct p n := fb_ct_mono _ (by omega)
  have h2 : fb_ct p (j + 1) ≤ fb_ct p n := fb_ct_mono _ (by omega)
  rw [fb_ct_succ, pi] at h1
  rw [fb_ct_succ, pj] at h2
  simp only [if_true] at h1 h2
  omega
theorem bst_lt {np : Nat} {sa : Nat → Nat} {t p : Nat} (hp : p < np) (h : frP sa t p = true) : bst np sa t < np := by
  rcases Nat.lt_or_ge (bst np sa t) np with y | y
  · exact y
  · have := fa_first_no (frP sa t) np p (by unfold bst at y; omega)
    rw [h] at this; cases this
theorem plA_fit {np : Nat} {sa : Nat → Nat} (hnp : np ≤ 10) : ∀ f t a, t < 2 ^ np → pcn t ≤ f → (a = 1 ∨ a = 2) → plA np sa f t a = if fitW np sa t = 0 then 0 else if fitW np sa t = 1 then a else 2 := by
  intro f
  induction f with
  | zero =>
    intro t a ht hf ha
    rw [pc_0 hnp ht (by omega), fitW_0]
    rfl
  | succ f ih =>
    intro t a ht hf ha
    rw [plA_s]
    by_cases h0 : t = 0
    · rw [if_pos h0, h0, fitW_0]; rfl
    · rw [if_neg h0]
      by_cases hb : bst np sa t < np
      · have hfb : frP sa t (bst np sa t) = true := fa_first_yes (frP sa t) np hb
        have htb := bst_in hb
        have hpc := pc_an hnp ht htb
        have hlt : anot t (2 ^ bst np sa t) < 2 ^ np := by have := anot_lt htb; omega
        rw [if_pos hb, ih _ _ hlt (by omega) (by split; exact Or.inr rfl; exact ha)]
        have hac : fitW np sa (anot t (2 ^ bst np sa t)) = 0 ↔ fitW np sa t = 0 := by
          have p1 := fitW_pos (sa := sa) hnp ht
          have p2 := fitW_pos (sa := sa) hnp hlt
          constructor
          · intro z
            rcases Nat.eq_zero_or_pos (fitW np sa t) with y | y
            · exact y
            · have := p2.mpr ((p1.mp y).sub (fun i hi => by rw [an_bit, Bool.and_eq_true] at hi; exact hi.1))
              omega
          · intro z
            rcases Nat.eq_zero_or_pos (fitW np sa (anot t (2 ^ bst np sa t))) with y | y
            · exact y
            · have := p1.mpr (Acy.of_min hfb (p2.mp y))
              omega
        by_cases hz : fitW np sa t = 0
        · rw [if_pos hz, if_pos (hac.mpr hz)]
        · rw [if_neg hz, if_neg (fun y => hz (hac.mp y))]
          have hA : Acy sa t := (fitW_pos hnp ht).mp (by omega)
          by_cases h2 : 2 ≤ fb_ct (frP sa t) np
          · rw [if_pos h2]
            have : fb_ct (frP sa t) np ≤ fitW np sa t := by
              rw [fitW_e ht h0]
              refine fb_sm_ge fun k hk hfk => ?_
              have htk : t.testBit k = true := by unfold frP at hfk; rw [Bool.and_eq_true] at hfk; exact hfk.1
              exact (fitW_pos hnp (by have := anot_lt htk; omega)).mpr (hA.sub (fun i hi => by rw [an_bit, Bool.and_eq_true] at hi; exact hi.1))
            rw [if_neg (show ¬ fitW np sa t = 1 by omega)]
            split <;> rfl
          · rw [if_neg h2]
            have : fitW np sa t = fitW np sa (anot t (2 ^ bst np sa t)) := by
              rw [fitW_e ht h0, ← fb_sm_one (v := fitW np sa (anot t (2 ^ bst np sa t))) hb]
              refine fb_sm_cong fun k hk => ?_
              by_cases e : k = bst np sa t
              · rw [if_pos e, e, if_pos hfb]
              · rw [if_neg e, if_neg (fun y => e (fb_ct_uniq (by omega) hk hb y hfb))]
            rw [this]
      · rw [if_neg hb]
        have : fitW np sa t = 0 := by
          rw [fitW_e ht h0]
          exact fb_sm_0 fun k hk => if_neg (fun y => hb (bst_lt hk y))
        rw [this]; rfl
theorem plA_10 {np : Nat} {sa : Nat → Nat} (hnp : np ≤ 10) {t : Nat} (ht : t < 2 ^ np) : plA np sa 10 t 1 = if fitW np sa t = 0 then 0 else if fitW np sa t = 1 then 1 else 2 := plA_fit hnp 10 t 1 ht (pcn_le t) (Or.inl rfl)
theorem plA_ord {np c : Nat} {fi se : Nat → Nat} (hnp : np ≤ 10) : plA np (ahA fi se c) 10 (2 ^ np - 1) 1 = if ordN np c fi se = 0 then 0 else if ordN np c fi se = 1 then 1 else 2 := plA_10 hnp (by have := p2_10 hnp; omega)
theorem ord_acy {np c : Nat} {fi se : Nat → Nat} (hnp : np ≤ 10) : 0 < ordN np c fi se ↔ Acy (ahA fi se c) (2 ^ np - 1) := fitW_pos hnp (by have := p2_10 hnp; omega)
/-- what holds of one if it holds of all above him -/
theorem Acy.ind {sa : Nat → Nat} {np : Nat} (h : Acy sa (2 ^ np - 1)) {P : Nat → Prop} (hP : ∀ p, p < np → (∀ q, q < np → (sa p).testBit q = true → P q) → P p) : ∀ p, p < np → P p := by
  intro p hp
  rcases Classical.em (P p) with y | y
  · exact y
  · exfalso
    obtain ⟨f, hf⟩ : ∃ f : Nat → Bool, ∀ x, f x = true ↔ ¬ P x := ⟨fun x => @decide (¬ P x) (Classical.propDecidable _), fun x => by simp⟩
    have bit : ∀ k i, (setN f k).testBit i = (decide (i < k) && f i) := by
      intro k
      induction k with
      | zero => intro i; simp [setN]
      | succ k ih =>
        intro i
        rw [setN_s]
        split
        · rename_i hk
          rw [or_bit, ih]
          by_cases e : k = i
          · subst e; simp [hk]
          · have : (i < k + 1) ↔ i < k := by omega
            simp [e, this]
        · rename_i hk
          rw [ih]
          by_cases e : k = i
          · subst e
            have : f k = false := by simpa using hk
            simp [this]
          · have : (i < k + 1) ↔ i < k := by omega
            simp [this]
    have hb : (setN f np).testBit p = true := by rw [bit, decide_eq_true hp, (hf p).mpr y]; rfl
    obtain ⟨m, h1, h2⟩ := h (setN f np) (ne0_bit hb) (fun i hi => by
      rw [bit, Bool.and_eq_true] at hi
      rw [full_bit]; exact hi.1)
    rw [bit, Bool.and_eq_true] at h1
    refine (hf m).mp h1.2 (hP m (of_decide_eq_true h1.1) (fun q hq hs => ?_))
    have := and0.mp h2 q hs
    rw [bit, decide_eq_true hq, Bool.true_and] at this
    rcases Classical.em (P q) with z | z
    · exact z
    · rw [(hf q).mpr z] at this; cases this
