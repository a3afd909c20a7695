/-! sets of orders as bits of two longs -/
def memO (lo hi o : Nat) : Bool := if o < 64 then lo.testBit o else hi.testBit (o - 64)
theorem card_mem (lo hi : Nat) : pcL lo + pcL hi = fb_ct (memO lo hi) 128 := by
  rw [show 128 = 64 + 64 from rfl, fb_ct_split]
  have a : pcL lo = fb_ct (memO lo hi) 64 := fb_ct_cong fun k hk => by
    unfold memO
    rw [if_pos hk]
  have b : pcL hi = fb_ct (fun k => memO lo hi (64 + k)) 64 := fb_ct_cong fun k hk => by
    unfold memO
    rw [if_neg (by omega), show 64 + k - 64 = k by omega]
  rw [a, b]
def Rep (lo hi : Nat) (P : Nat → Prop) : Prop := lo < 2 ^ 64 ∧ hi < 2 ^ 64 ∧ ∀ o, memO lo hi o = true ↔ P o
theorem Rep.lt {lo hi : Nat} {P : Nat → Prop} (h : Rep lo hi P) {o : Nat} (ho : P o) : o < 128 := by
  have := (h.2.2 o).mpr ho
  rcases Nat.lt_or_ge o 128 with y | y
  · exact y
  · unfold memO at this
    rw [if_neg (by omega), Nat.testBit_lt_two_pow (Nat.lt_of_lt_of_le h.2.1 (Nat.pow_le_pow_right (by decide) (by omega)))] at this
    cases this
theorem fb_ct_le1 {p : Nat → Bool} : ∀ {n : Nat}, (∀ i j, i < n → j < n → p i = true → p j = true → i = j) → fb_ct p n ≤ 1
  | 0, _ => Nat.zero_le _
  | n + 1, h => by
    have ih := fb_ct_le1 (p := p) (n := n) (fun i j hi hj => h i j (by omega) (by omega))
    rw [fb_ct_succ]
    cases e : p n with
    | false => exact ih
    | true =>
      rw [fb_ct_zero.mpr (fun k hk => by
        cases e2 : p k with
        | false => rfl
        | true =>
          have := h k n (by omega) (by omega) e2 e
          omega)]
      decide
theorem Rep.le1 {lo hi : Nat} {P : Nat → Prop} (h : Rep lo hi P) : pcL lo + pcL hi ≤ 1 ↔ ∀ o o', P o → P o' → o = o' := by
  rw [card_mem]
  constructor
  · exact fun hc o o' h1 h2 => fb_ct_uniq hc (h.lt h1) (h.lt h2) ((h.2.2 o).mpr h1) ((h.2.2 o').mpr h2)
  · exact fun hu => fb_ct_le1 (fun i j _ _ h1 h2 => hu i j ((h.2.2 i).mp h1) ((h.2.2 j).mp h2))
theorem Rep.pos {lo hi : Nat} {P : Nat → Prop} (h : Rep lo hi P) : 0 < pcL lo + pcL hi ↔ ∃ o, P o := by
  rw [card_mem, fb_ct_pos]
  constructor
  · rintro ⟨o, h1, h2⟩
    exact ⟨o, (h.2.2 o).mp h2⟩
  · rintro ⟨o, h1⟩
    exact ⟨o, h.lt h1, (h.2.2 o).mpr h1⟩
theorem memO_and (lo hi a b o : Nat) : memO (lo &&& a) (hi &&& b) o = (memO lo hi o && memO a b o) := by
  unfold memO
  split <;> rw [Nat.testBit_and]
theorem memO_anot (lo hi a b o : Nat) : memO (anot lo a) (anot hi b) o = (memO lo hi o && !memO a b o) := by
  unfold memO
  split <;> rw [anot_bit]
theorem mem_r (np F x y o : Nat) : memO (rL np F x y) (rH np F x y) o = true ↔ (o < F ∧ plV np o x < plV np o y) := by
  unfold memO rL rH
  split
  · rename_i h
    rw [setN_bit, Bool.and_eq_true, decide_eq_true_eq, decide_eq_true_eq]
    have : o < Nat.min F 64 ↔ o < F := by
      show o < min F 64 ↔ _
      omega
    rw [this]
  · rename_i h
    rw [setN_bit, Bool.and_eq_true, decide_eq_true_eq, decide_eq_true_eq, show 64 + (o - 64) = o by omega]
    have : o - 64 < F - 64 ↔ o < F := by omega
    rw [this]
theorem Rep.an {lo hi a b : Nat} {P Q : Nat → Prop} (h : Rep lo hi P) (hQ : ∀ o, memO a b o = true ↔ Q o) : Rep (lo &&& a) (hi &&& b) (fun o => P o ∧ Q o) := ⟨Nat.lt_of_le_of_lt Nat.and_le_left h.1, Nat.lt_of_le_of_lt Nat.and_le_left h.2.1, fun o => by rw [memO_and, Bool.and_eq_true, h.2.2 o, hQ o]⟩
theorem Rep.mn {lo hi a b : Nat} {P Q : Nat → Prop} (h : Rep lo hi P) (hQ : ∀ o, memO a b o = true ↔ Q o) : Rep (anot lo (lo &&& a)) (anot hi (hi &&& b)) (fun o => P o ∧ ¬ Q o) := ⟨Nat.lt_of_le_of_lt (anot_le _ _) h.1, Nat.lt_of_le_of_lt (anot_le _ _) h.2.1, fun o => by
  have q := hQ o
  have p := h.2.2 o
  show _ ↔ (P o ∧ ¬ Q o)
  rw [memO_anot, memO_and, ← q, ← p]
  cases memO lo hi o <;> cases memO a b o <;> simp⟩
theorem Rep.eqv {lo hi : Nat} {P Q : Nat → Prop} (h : Rep lo hi P) (hQ : ∀ o, P o ↔ Q o) : Rep lo hi Q := ⟨h.1, h.2.1, fun o => (h.2.2 o).trans (hQ o)⟩
theorem card_sp (lo hi a b : Nat) : (pcL (lo &&& a) + pcL (hi &&& b)) + (pcL (anot lo (lo &&& a)) + pcL (anot hi (hi &&& b))) = pcL lo + pcL hi := by
  rw [card_mem, card_mem, card_mem, ← fb_ct_or (fun k _ z => by
    rw [memO_anot, memO_and] at z
    revert z
    cases memO lo hi k <;> cases memO a b k <;> simp)]
  refine fb_ct_cong fun k _ => ?_
  rw [memO_anot, memO_and]
  cases memO lo hi k <;> cases memO a b k <;> rfl
/-- the orders that fit what is known -/
def Exo (np k o : Nat) : Prop := o < fac np ∧ ∀ x y, x < np → y < np → kb k x y = true → plV np o x < plV np o y
theorem Exo_clo {np k a b o : Nat} (hnp : np ≤ 5) (ha : a < np) (hb : b < np) : Exo np (clo k a b) o ↔ (Exo np k o ∧ plV np o a < plV np o b) := by
  constructor
  · rintro ⟨h1, h2⟩
    refine ⟨⟨h1, fun x y hx hy hk => h2 x y hx hy (by rw [clo_kb (by omega) (by omega), hk]; rfl)⟩, h2 a b ha hb ?_⟩
    rw [clo_kb (by omega) (by omega)]
    unfold clB
    rw [decide_eq_true rfl, decide_eq_true rfl]
    simp
  · rintro ⟨⟨h1, h2⟩, h3⟩
    refine ⟨h1, fun x y hx hy hk => ?_⟩
    rw [clo_kb (by omega) (by omega), Bool.or_eq_true] at hk
    rcases hk with hk | hk
    · exact h2 x y hx hy hk
    · unfold clB at hk
      simp only [Bool.and_eq_true, Bool.or_eq_true, decide_eq_true_eq] at hk
      have e1 : plV np o x ≤ plV np o a := by
        rcases hk.1 with e | e
        · rw [e]; exact Nat.le_refl _
        · exact Nat.le_of_lt (h2 x a hx ha e)
      have e2 : plV np o b ≤ plV np o y := by
        rcases hk.2 with e | e
        · rw [e]; exact Nat.le_refl _
        · exact Nat.le_of_lt (h2 b y hb hy e)
      omega
theorem PO_acy {np k : Nat} (hnp : np ≤ 5) (h : PO np k) {sa : Nat → Nat} (hs : ∀ p q, p < np → q < np → ((sa p).testBit q = true ↔ kb k q p = true)) : Acy sa (2 ^ np - 1) := by
  intro s
  induction s using Nat.strongRecOn with
  | _ s ih =>
    intro h0 hsub
    have bn : ∀ i, s.testBit i = true → i < np := fun i hi => by
      have := hsub i hi
      rw [full_bit] at this
      exact of_decide_eq_true this
    obtain ⟨p, hp⟩ := bit_ex h0
    obtain ⟨s', hs'⟩ := mkset np (fun x => s.testBit x = true ∧ kb k x p = true)
    by_cases hz : s' = 0
    · refine ⟨p, hp, and0.mpr fun i hi => ?_⟩
      cases hb : s.testBit i with
      | false => rfl
      | true =>
        have := (hs' i).mpr ⟨bn i hb, hb, (hs p i (bn p hp) (bn i hb)).mp hi⟩
        rw [hz] at this; simp at this
    · have hp' : s'.testBit p = false := by
        cases e : s'.testBit p with
        | false => rfl
        | true =>
          have := ((hs' p).mp e).2.2
          rw [h.2.2.1 p (by have := bn p hp; omega)] at this; cases this
      have hle : s' &&& s = s' := Nat.eq_of_testBit_eq fun i => by
        rw [Nat.testBit_and]
        cases e : s'.testBit i with
        | false => rfl
        | true => rw [((hs' i).mp e).2.1]; rfl
      have hlt : s' < s := by
        have h1 : s' ≤ s := by rw [← hle]; exact Nat.and_le_right
        have h2 : s' ≠ s := fun z => by rw [z, hp] at hp'; cases hp'
        omega
      obtain ⟨m, hm, hmin⟩ := ih s' hlt hz (fun i hi => hsub i ((hs' i).mp hi).2.1)
      obtain ⟨m1, m2, m3⟩ := (hs' m).mp hm
      refine ⟨m, m2, and0.mpr fun i hi => ?_⟩
      cases hb : s.testBit i with
      | false => rfl
      | true =>
        have hin := bn i hb
        have hpn := bn p hp
        have hk := (hs m i m1 hin).mp hi
        have := and0.mp hmin i hi
        rw [(hs' i).mpr ⟨hin, hb, h.2.2.2 i m p (by omega) (by omega) (by omega) hk m3⟩] at this
        cases this
theorem Exo_ex {np k : Nat} (hnp : np ≤ 5) (h : PO np k) : ∃ o, Exo np k o := by
  have hpw := p2_10 (show np ≤ 10 by omega)
  obtain ⟨sa, hsa⟩ : ∃ sa : Nat → Nat, sa = fun p => setN (fun q => kb k q p) np := ⟨_, rfl⟩
  have hs : ∀ p q, p < np → q < np → ((sa p).testBit q = true ↔ kb k q p = true) := fun p q hp hq => by
    rw [hsa]
    dsimp only
    rw [setN_bit, decide_eq_true hq, Bool.true_and]
  have hA := PO_acy hnp h hs
  have ht : 2 ^ np - 1 < 2 ^ np := by omega
  have h10 : np ≤ 10 := by omega
  have hpc := pcn_ev h10
  obtain ⟨lw, hlw⟩ : ∃ lw, lw = plLn np sa (2 ^ np - 1) := ⟨_, rfl⟩
  have l1 : ∀ i, i < np → lw i < np := fun i hi => by rw [hlw]; exact (line_fr ht hA (line_ne h10 ht hA (by omega))).1
  have l2 : ∀ i j, i < j → j < np → lw i ≠ lw j := fun i j hij hj => by rw [hlw]; exact line_inj h10 ht hA (by omega) hij
  have pos := fun p (hp : p < np) => plN_lt (fb_onto l1 l2 hp)
  obtain ⟨o, ho, hv⟩ := plV_onto np (plN lw np) (fun q hq => (pos q hq).1) (fun x y hx hy hxy e => hxy (by rw [← (pos x hx).2, ← (pos y hy).2, e]))
  refine ⟨o, ho, fun x y hx hy hk => ?_⟩
  rw [hv x hx, hv y hy]
  obtain ⟨i1, i2⟩ := pos y hy
  have := line_above h10 ht hA (i := plN lw np y) (q := x) (by omega) (by rw [full_bit, decide_eq_true hx]) (by
    rw [← hlw, i2]
    exact (hs y x hy hx).mpr hk)
  obtain ⟨j, hj, e⟩ := this
  rw [← hlw] at e
  obtain ⟨x1, x2⟩ := pos x hx
  have : plN lw np x = j := by
    rcases Nat.lt_trichotomy (plN lw np x) j with z | z | z
    · exact absurd (x2.trans e.symm) (l2 _ _ z (by omega))
    · exact z
    · exact absurd (e.trans x2.symm) (l2 _ _ z x1)
  omega
theorem Exo_tot {np k : Nat} (h : tot np k) {o o' : Nat} (h1 : Exo np k o) (h2 : Exo np k o') : o = o' := by
  refine plV_one np o o' h1.1 h2.1 (fun q hq => ?_)
  have r := fun o => rank_f (n := np) (f := plV np o) (fun i hi => plV_lt np o i hi) (fun i j hij hj => plV_inj np o i j (by omega) hj (by omega))
  have e1 := r o (plV np o q) (Nat.le_of_lt (plV_lt np o q hq))
  have e2 := r o' (plV np o' q) (Nat.le_of_lt (plV_lt np o' q hq))
  rw [← e1, ← e2]
  refine fb_ct_cong fun y hy => decide_eq_decide.mpr ?_
  by_cases hyq : y = q
  · rw [hyq]
    exact ⟨fun z => absurd z (Nat.lt_irrefl _), fun z => absurd z (Nat.lt_irrefl _)⟩
  · have cmp : kb k y q = true ∨ kb k q y = true := by
      rcases Nat.lt_or_ge y q with z | z
      · have := h y q z hq
        unfold opB at this
        cases a : kb k y q <;> cases b : kb k q y <;> simp [a, b] at this ⊢
      · have := h q y (by omega) hy
        unfold opB at this
        cases a : kb k y q <;> cases b : kb k q y <;> simp [a, b] at this ⊢
    rcases cmp with z | z
    · exact ⟨fun _ => h2.2 y q hy hq z, fun _ => h1.2 y q hy hq z⟩
    · have a := h1.2 q y hq hy z
      have b := h2.2 q y hq hy z
      exact ⟨fun _ => by omega, fun _ => by omega⟩
theorem card_tot {np k lo hi : Nat} (hnp : np ≤ 5) (hk : PO np k) (hr : Rep lo hi (Exo np k)) : pcL lo + pcL hi ≤ 1 ↔ tot np k := by
  rw [hr.le1]
  constructor
  · intro hu a b hab hb
    cases e : opB k a b with
    | false => rfl
    | true =>
      exfalso
      obtain ⟨k1, k2⟩ := op_kb e
      obtain ⟨o1, h1⟩ := Exo_ex hnp (clo_PO hk (by omega) (by omega) (show a < np by omega) hb (by omega) k1 k2)
      obtain ⟨o2, h2⟩ := Exo_ex hnp (clo_PO hk (by omega) (by omega) hb (show a < np by omega) (by omega) k2 k1)
      rw [Exo_clo hnp (by omega) hb] at h1
      rw [Exo_clo hnp hb (by omega)] at h2
      have := hu o1 o2 h1.1 h2.1
      rw [this] at h1
      omega
  · exact fun h o o' h1 h2 => Exo_tot h h1 h2
/-- the two halves of an open pair -/
theorem halves {np k lo hi a b : Nat} (hnp : np ≤ 5) (hab : a < b) (hb : b < np) (hr : Rep lo hi (Exo np k)) : Rep (lo &&& rL np (fac np) a b) (hi &&& rH np (fac np) a b) (Exo np (clo k a b)) ∧ Rep (anot lo (lo &&& rL np (fac np) a b)) (anot hi (hi &&& rH np (fac np) a b)) (Exo np (clo k b a)) := by
  constructor
  · refine (hr.an (mem_r np (fac np) a b)).eqv fun o => ?_
    rw [Exo_clo hnp (by omega) hb]
    exact ⟨fun z => ⟨z.1, z.2.2⟩, fun z => ⟨z.1, z.1.1, z.2⟩⟩
  · refine (hr.mn (mem_r np (fac np) a b)).eqv fun o => ?_
    rw [Exo_clo hnp hb (by omega)]
    have := plV_inj np o a b (by omega) hb (by omega)
    exact ⟨fun z => ⟨z.1, by
      have : ¬ plV np o a < plV np o b := fun w => z.2 ⟨z.1.1, w⟩
      omega⟩, fun z => ⟨z.1, fun w => by omega⟩⟩
theorem va_le {N : Nat → Nat} {k a b j : Nat} : vaN N k a b ≤ j + 1 ↔ (N (clo k a b) ≤ j ∧ N (clo k b a) ≤ j) := by
  unfold vaN
  show 1 + max (N (clo k a b)) (N (clo k b a)) ≤ j + 1 ↔ _
  omega
theorem card_nd {np : Nat} {N : Nat → Nat} (hnp : np ≤ 5) (hN : NdR np N) : ∀ j, j < 50 → ∀ k lo hi, PO np k → Rep lo hi (Exo np k) → N k ≤ j → pcL lo + pcL hi ≤ 2 ^ j
  | 0, _, k, lo, hi, hk, hr, hn => by
    rcases Classical.em (tot np k) with z | z
    · exact (card_tot hnp hk hr).mpr z
    · obtain ⟨a, b, h1, h2, h3, h4⟩ := (nd_S hN hk z (by decide)).mp hn
      unfold vaN at h4
      omega
  | j + 1, hj, k, lo, hi, hk, hr, hn => by
    have hp : 2 ^ (j + 1) = 2 ^ j + 2 ^ j := by rw [Nat.pow_succ]; omega
    have hp1 : 1 ≤ 2 ^ j := Nat.one_le_two_pow
    rcases Classical.em (tot np k) with z | z
    · have := (card_tot hnp hk hr).mpr z
      omega
    · obtain ⟨a, b, h1, h2, h3, h4⟩ := (nd_S hN hk z (by omega)).mp hn
      obtain ⟨n1, n2⟩ := va_le.mp h4
      obtain ⟨k1, k2⟩ := op_kb h3
      obtain ⟨r1, r2⟩ := halves hnp h1 h2 hr
      have c1 := card_nd hnp hN j (by omega) _ _ _ (clo_PO hk (by omega) (by omega) (show a < np by omega) h2 (by omega) k1 k2) r1 n1
      have c2 := card_nd hnp hN j (by omega) _ _ _ (clo_PO hk (by omega) (by omega) h2 (show a < np by omega) (by omega) k2 k1) r2 n2
      have := card_sp lo hi (rL np (fac np) a b) (rH np (fac np) a b)
      omega
theorem suf_iff {np : Nat} {N : Nat → Nat} (hnp : np ≤ 5) (hN : NdR np N) : ∀ j, j < 50 → ∀ k lo hi, PO np k → Rep lo hi (Exo np k) → (sfS np (rL np (fac np)) (rH np (fac np)) j lo hi ↔ N k ≤ j)
  | 0, _, k, lo, hi, hk, hr => by
    show pcL lo + pcL hi ≤ 1 ↔ _
    rw [card_tot hnp hk hr]
    refine ⟨fun z => Nat.le_of_eq (nd_0 hN hk z), fun hn => Classical.byContradiction fun z => ?_⟩
    obtain ⟨a, b, h1, h2, h3, h4⟩ := (nd_S hN hk z (by decide)).mp hn
    unfold vaN at h4
    omega
  | j + 1, hj, k, lo, hi, hk, hr => by
    have ct := card_tot hnp hk hr
    rcases Classical.em (tot np k) with z | z
    · exact ⟨fun _ => by rw [nd_0 hN hk z]; exact Nat.zero_le _, fun _ => Or.inl (ct.mpr z)⟩
    · rw [nd_S hN hk z (by omega)]
      constructor
      · rintro (h | ⟨h0, a, b, h1, h2, h3, h4, h5⟩)
        · exact absurd (ct.mp h) z
        · have op : opB k a b = true := by
            unfold opB
            cases e1 : kb k a b with
            | true =>
              exfalso
              have sub : pcL (lo &&& rL np (fac np) a b) + pcL (hi &&& rH np (fac np) a b) = pcL lo + pcL hi := by
                rw [card_mem, card_mem]
                refine fb_ct_cong fun o _ => ?_
                rw [memO_and]
                cases e2 : memO lo hi o with
                | false => rfl
                | true =>
                  have ex := (hr.2.2 o).mp e2
                  rw [(mem_r np (fac np) a b o).mpr ⟨ex.1, ex.2 a b (by omega) h2 e1⟩]; rfl
              have := h3.2.1
              omega
            | false =>
              cases e3 : kb k b a with
              | false => rfl
              | true =>
                exfalso
                have := h3.1
                rw [((hr.an (mem_r np (fac np) a b))).pos] at this
                obtain ⟨o, x1, x2⟩ := this
                have := x1.2 b a h2 (by omega) e3
                omega
          obtain ⟨k1, k2⟩ := op_kb op
          obtain ⟨r1, r2⟩ := halves hnp h1 h2 hr
          exact ⟨a, b, h1, h2, op, va_le.mpr ⟨(suf_iff hnp hN j (by omega) _ _ _ (clo_PO hk (by omega) (by omega) (show a < np by omega) h2 (by omega) k1 k2) r1).mp h4, (suf_iff hnp hN j (by omega) _ _ _ (clo_PO hk (by omega) (by omega) h2 (show a < np by omega) (by omega) k2 k1) r2).mp h5⟩⟩
      · rintro ⟨a, b, h1, h2, h3, h4⟩
        obtain ⟨n1, n2⟩ := va_le.mp h4
        obtain ⟨k1, k2⟩ := op_kb h3
        obtain ⟨r1, r2⟩ := halves hnp h1 h2 hr
        have p1 := clo_PO hk (by omega) (by omega) (show a < np by omega) h2 (by omega) k1 k2
        have p2 := clo_PO hk (by omega) (by omega) h2 (show a < np by omega) (by omega) k2 k1
        have c1 := card_nd hnp hN j (by omega) _ _ _ p1 r1 n1
        have c2 := card_nd hnp hN j (by omega) _ _ _ p2 r2 n2
        have sp := card_sp lo hi (rL np (fac np) a b) (rH np (fac np) a b)
        have e1 := r1.pos.mpr (Exo_ex hnp p1)
        have e2 := r2.pos.mpr (Exo_ex hnp p2)
        have hp : 2 ^ (j + 1) = 2 ^ j + 2 ^ j := by rw [Nat.pow_succ]; omega
        refine Or.inr ⟨by omega, a, b, h1, h2, ⟨e1, by omega, ?_⟩, (suf_iff hnp hN j (by omega) _ _ _ p1 r1).mpr n1, (suf_iff hnp hN j (by omega) _ _ _ p2 r2).mpr n2⟩
        exact Nat.max_le.mpr ⟨c1, by omega⟩
/-! what the class finds is what the reference needs -/
theorem kn_bitJ {A : Nat → Nat} {p s x y : Nat} (hp : p < 5) (hx : x < 5) (hy : y < 5) : ∀ q, q ≤ 5 → ((knJ A p s q).testBit (5 * x + y) = true ↔ (s.testBit (5 * x + y) = true ∨ (y = p ∧ x < q ∧ (A p).testBit x = true)))
  | 0, _ => ⟨fun h => Or.inl h, fun h => h.elim id (fun z => by omega)⟩
  | q + 1, hq => by
    have ih := kn_bitJ (A := A) (p := p) (s := s) (x := x) (y := y) hp hx hy q (by omega)
    rw [knJ_s]
    by_cases hb : (A p).testBit q = true
    · rw [if_pos hb, or_bit, Bool.or_eq_true, ih, decide_eq_true_eq]
      constructor
      · rintro ((h | ⟨h1, h2, h3⟩) | h)
        · exact Or.inl h
        · exact Or.inr ⟨h1, by omega, h3⟩
        · have e1 : x = q := by omega
          have e2 : y = p := by omega
          exact Or.inr ⟨e2, by omega, by rw [e1]; exact hb⟩
      · rintro (h | ⟨h1, h2, h3⟩)
        · exact Or.inl (Or.inl h)
        · by_cases e : x = q
          · exact Or.inr (by omega)
          · exact Or.inl (Or.inr ⟨h1, by omega, h3⟩)
    · rw [if_neg hb, ih]
      constructor
      · rintro (h | ⟨h1, h2, h3⟩)
        · exact Or.inl h
        · exact Or.inr ⟨h1, by omega, h3⟩
      · rintro (h | ⟨h1, h2, h3⟩)
        · exact Or.inl h
        · by_cases e : x = q
          · rw [e] at h3; exact absurd h3 hb
          · exact Or.inr ⟨h1, by omega, h3⟩
theorem kn_bit {A : Nat → Nat} {np x y : Nat} (hnp : np ≤ 5) (hx : x < 5) (hy : y < 5) : ∀ m, m ≤ 5 → ((knO A np m).testBit (5 * x + y) = true ↔ (y < m ∧ x < np ∧ (A y).testBit x = true))
  | 0, _ => by
    show (0 : Nat).testBit (5 * x + y) = true ↔ _
    constructor
    · intro h; simp at h
    · intro h; omega
  | m + 1, hm => by
    show (knJ A m (knO A np m) np).testBit (5 * x + y) = true ↔ _
    rw [kn_bitJ (by omega) hx hy np hnp, kn_bit hnp hx hy m (by omega)]
    constructor
    · rintro (⟨h1, h2⟩ | ⟨h1, h2, h3⟩)
      · exact ⟨by omega, h2⟩
      · exact ⟨by omega, h2, by rw [h1]; exact h3⟩
    · rintro ⟨h1, h2, h3⟩
      by_cases e : y = m
      · exact Or.inr ⟨e, h2, by rw [← e]; exact h3⟩
      · exact Or.inl ⟨by omega, h2, h3⟩
theorem abv_ir {np c : Nat} {fi se : Nat → Nat} (hnp : np ≤ 10) (h : SayV np c fi se) (ho : 0 < ordN np c fi se) {p : Nat} (hp : p < np) : (abv np c fi se p).testBit p = false := by
  have hA := (ord_acy hnp).mp ho
  have hZ := abv_fix hnp h ho
  have hT := hZ.tr hA
  cases e : (abv np c fi se p).testBit p with
  | false => rfl
  | true =>
    exfalso
    obtain ⟨s, hs⟩ := mkset np (fun x => (abv np c fi se p).testBit x = true ∧ (abv np c fi se x).testBit p = true)
    obtain ⟨m, hm, hmin⟩ := hA s (ne0_bit (i := p) ((hs p).mpr ⟨hp, e, e⟩)) (fun i hi => by rw [full_bit]; exact decide_eq_true ((hs i).mp hi).1)
    obtain ⟨m1, m2, m3⟩ := (hs m).mp hm
    have no : ∀ q, s.testBit q = true → (ahA fi se c m).testBit q = true → False := fun q h1 h2 => by
      have := and0.mp hmin q h2
      rw [h1] at this; cases this
    rcases (hZ m m1 p).mp m3 with z | ⟨q, hq, z1, z2⟩
    · exact no p ((hs p).mpr ⟨hp, e, e⟩) z
    · exact no q ((hs q).mpr ⟨hq, hT p hp m q m1 m2 ((hZ m m1 q).mpr (Or.inl z1)), z2⟩) z1
theorem kn_PO {np c : Nat} {fi se : Nat → Nat} (hnp : np ≤ 5) (h : SayV np c fi se) (ho : 0 < ordN np c fi se) : PO np (knO (abv np c fi se) np np) := by
  have h10 : np ≤ 10 := by omega
  have hA := (ord_acy h10).mp ho
  have hZ := abv_fix h10 h ho
  have hT := hZ.tr hA
  have bit : ∀ x y, x < 5 → y < 5 → (kb (knO (abv np c fi se) np np) x y = true ↔ (y < np ∧ x < np ∧ (abv np c fi se y).testBit x = true)) := fun x y hx hy => kn_bit hnp hx hy np hnp
  refine ⟨knO_lt hnp hnp, fun x y hx hy hk => ?_, fun x hx => ?_, fun x y z hx hy hz h1 h2 => ?_⟩
  · have := (bit x y hx hy).mp hk
    exact ⟨this.2.1, this.1⟩
  · cases e : kb (knO (abv np c fi se) np np) x x with
    | false => rfl
    | true =>
      obtain ⟨a1, a2, a3⟩ := (bit x x hx hx).mp e
      rw [abv_ir h10 h ho a1] at a3; cases a3
  · obtain ⟨a1, a2, a3⟩ := (bit x y hx hy).mp h1
    obtain ⟨b1, b2, b3⟩ := (bit y z hy hz).mp h2
    exact (bit x z hx hz).mpr ⟨b1, a2, hT z b1 y x b2 b3 a3⟩
theorem lw_rep {np : Nat} {fi se : Nat → Nat} (hnp : np ≤ 5) : ∀ c, Rep (lwL np c fi se) (lwH np c fi se) (fun o => o < fac np ∧ ∀ k, k < c → plV np o (fi k) < plV np o (se k))
  | 0 => by
    obtain ⟨a1, a2, a3, a4⟩ := f64 np hnp
    have s1 : 2 ^ Nat.min (fac np) 64 - 1 < 2 ^ 64 := by
      have : 2 ^ Nat.min (fac np) 64 ≤ 2 ^ 64 := Nat.pow_le_pow_right (by decide) a3
      have : 1 ≤ 2 ^ Nat.min (fac np) 64 := Nat.one_le_two_pow
      omega
    have s2 : 2 ^ (fac np - 64) - 1 < 2 ^ 64 := by
      have : 2 ^ (fac np - 64) ≤ 2 ^ 64 := Nat.pow_le_pow_right (by decide) a4
      have : 1 ≤ 2 ^ (fac np - 64) := Nat.one_le_two_pow
      omega
    refine ⟨s1, s2, fun o => ?_⟩
    have e : (memO (lwL np 0 fi se) (lwH np 0 fi se) o = true) ↔ o < fac np := by
      show memO (2 ^ Nat.min (fac np) 64 - 1) (2 ^ (fac np - 64) - 1) o = true ↔ _
      unfold memO
      split
      · rw [full_bit, decide_eq_true_eq]
        show o < min (fac np) 64 ↔ _
        omega
      · rw [full_bit, decide_eq_true_eq]
        omega
    rw [e]
    exact ⟨fun z => ⟨z, fun k hk => by omega⟩, fun z => z.1⟩
  | c + 1 => by
    have := (lw_rep (fi := fi) (se := se) hnp c).an (mem_r np (fac np) (fi c) (se c))
    refine this.eqv fun o => ?_
    constructor
    · rintro ⟨⟨h1, h2⟩, h3, h4⟩
      refine ⟨h1, fun k hk => ?_⟩
      by_cases e : k = c
      · rw [e]; exact h4
      · exact h2 k (by omega)
    · rintro ⟨h1, h2⟩
      exact ⟨⟨h1, fun k hk => h2 k (by omega)⟩, h1, h2 c (by omega)⟩
theorem plV_acy {np c o : Nat} {fi se : Nat → Nat} (h : SayV np c fi se) (ho : ∀ k, k < c → plV np o (fi k) < plV np o (se k)) : Acy (ahA fi se c) (2 ^ np - 1) := by
  intro s h0 hs
  have bn : ∀ i, s.testBit i = true → i < np := fun i hi => by
    have := hs i hi
    rw [full_bit] at this
    exact of_decide_eq_true this
  have : ∀ v, (∃ p, s.testBit p = true ∧ plV np o p < v) → ∃ p, s.testBit p = true ∧ ∀ q, s.testBit q = true → plV np o p ≤ plV np o q := by
    intro v
    induction v with
    | zero => rintro ⟨p, _, z⟩; omega
    | succ v ih =>
      rintro ⟨p, hp, hv⟩
      rcases Classical.em (∃ q, s.testBit q = true ∧ plV np o q < v) with z | z
      · exact ih z
      · refine ⟨p, hp, fun q hq => ?_⟩
        rcases Nat.lt_or_ge (plV np o q) v with y | y
        · exact absurd ⟨q, hq, y⟩ z
        · omega
  obtain ⟨p0, hp0⟩ := bit_ex h0
  obtain ⟨p, hp, hm⟩ := this (plV np o p0 + 1) ⟨p0, hp0, by omega⟩
  refine ⟨p, hp, and0.mpr fun i hi => ?_⟩
  cases e : s.testBit i with
  | false => rfl
  | true =>
    obtain ⟨k, k1, k2, k3⟩ := ahA_bit.mp hi
    have a := ho k k1
    have b := hm i e
    rw [k2, k3] at a
    omega
theorem exo_say {np c o : Nat} {fi se : Nat → Nat} (hnp : np ≤ 5) (h : SayV np c fi se) (ho : 0 < ordN np c fi se) : (o < fac np ∧ ∀ k, k < c → plV np o (fi k) < plV np o (se k)) ↔ Exo np (knO (abv np c fi se) np np) o := by
  have h10 : np ≤ 10 := by omega
  have hA := (ord_acy h10).mp ho
  have hZ := abv_fix h10 h ho
  constructor
  · rintro ⟨h1, h2⟩
    have main : ∀ p, p < np → ∀ q, q < np → (abv np c fi se p).testBit q = true → plV np o q < plV np o p := by
      refine hA.ind fun p hp ih q hq hz => ?_
      rcases (hZ p hp q).mp hz with z | ⟨x, hx, z1, z2⟩
      · obtain ⟨k, k1, k2, k3⟩ := ahA_bit.mp z
        have := h2 k k1
        rw [k2, k3] at this
        exact this
      · have a := ih x hx z1 q hq z2
        obtain ⟨k, k1, k2, k3⟩ := ahA_bit.mp z1
        have b := h2 k k1
        rw [k2, k3] at b
        omega
    refine ⟨h1, fun x y hx hy hk => ?_⟩
    have := (kn_bit (A := abv np c fi se) hnp (show x < 5 by omega) (show y < 5 by omega) np hnp).mp hk
    exact main y hy x hx this.2.2
  · rintro ⟨h1, h2⟩
    refine ⟨h1, fun k hk => ?_⟩
    obtain ⟨v1, v2, v3⟩ := h k hk
    refine h2 _ _ v1 v2 ((kn_bit (A := abv np c fi se) hnp (show fi k < 5 by omega) (show se k < 5 by omega) np hnp).mpr ⟨v2, v1, ?_⟩)
    exact (hZ _ v2 _).mpr (Or.inl (ahA_bit.mpr ⟨k, hk, rfl, rfl⟩))
theorem ask_ned {np c : Nat} {fi se : Nat → Nat} (hnp : np ≤ 5) (h : SayV np c fi se) : askA np c fi se = nedA np c fi se (ndN np) := by
  have h10 : np ≤ 10 := by omega
  have hr := lw_rep (fi := fi) (se := se) hnp c
  unfold askA nedA
  rcases Nat.eq_zero_or_pos (ordN np c fi se) with z | z
  · rw [if_neg (show ¬ (np ≤ 5 ∧ 0 < ordN np c fi se) from fun w => by omega), if_pos]
    have none : ¬ 0 < pcL (lwL np c fi se) + pcL (lwH np c fi se) := fun w => by
      obtain ⟨o, h1, h2⟩ := hr.pos.mp w
      have := (ord_acy h10).mpr (plV_acy h h2)
      omega
    have zero : ∀ x, x < 2 ^ 64 → pcL x = 0 → x = 0 := fun x hx hp => by
      refine Nat.eq_of_testBit_eq fun i => ?_
      rw [Nat.zero_testBit]
      rcases Nat.lt_or_ge i 64 with y | y
      · exact fb_ct_zero.mp hp i y
      · exact Nat.testBit_lt_two_pow (Nat.lt_of_lt_of_le hx (Nat.pow_le_pow_right (by decide) y))
    exact ⟨zero _ hr.1 (by omega), zero _ hr.2.1 (by omega)⟩
  · have hk := kn_PO hnp h z
    have hr2 := hr.eqv (fun o => exo_say (o := o) hnp h z)
    have hN := ndN_ok hnp
    rw [if_pos (show np ≤ 5 ∧ 0 < ordN np c fi se from ⟨hnp, z⟩), if_neg]
    · have n10 := nd_10 hnp hN 10 _ hk (by omega)
      have e : fa_first (fun k => dcd (sfS np (rL np (fac np)) (rH np (fac np)) k (lwL np c fi se) (lwH np c fi se))) 10 = ndN np (knO (abv np c fi se) np np) := lx_first (by omega) (fun j hj => dcd_f (fun w => by
        have := (suf_iff hnp hN j (by omega) _ _ _ hk hr2).mp w
        omega)) (fun hj => dcd_t ((suf_iff hnp hN _ (by omega) _ _ _ hk hr2).mpr (Nat.le_refl _)))
      rw [e]
    · rintro ⟨w1, w2⟩
      have := hr2.pos.mpr (Exo_ex hnp hk)
      rw [w1, w2] at this
      exact absurd this (by decide)
