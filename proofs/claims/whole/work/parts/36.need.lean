/-- a strict order of np, as bits 5 * x + y -/
def PO (np k : Nat) : Prop := k < 2 ^ 25 ∧ (∀ x y, x < 5 → y < 5 → kb k x y = true → x < np ∧ y < np) ∧ (∀ x, x < 5 → kb k x x = false) ∧ ∀ x y z, x < 5 → y < 5 → z < 5 → kb k x y = true → kb k y z = true → kb k x z = true
theorem clF_bit (k a b j : Nat) : ∀ i, (clF k a b i).testBit j = (k.testBit j || (decide (j < i) && clB k a b (j / 5) (j % 5)))
  | 0 => by simp [clF]
  | i + 1 => by
    rw [clF_s]
    split
    · rename_i h
      rw [Nat.testBit_or, clF_bit k a b j i, Nat.testBit_two_pow]
      by_cases e : i = j
      · subst e; simp [h]
      · rw [decide_eq_false e, Bool.or_false, show decide (j < i + 1) = decide (j < i) from decide_eq_decide.mpr (by omega)]
    · rename_i h
      rw [clF_bit k a b j i]
      by_cases e : i = j
      · subst e; simp [h]
      · rw [show decide (j < i + 1) = decide (j < i) from decide_eq_decide.mpr (by omega)]
theorem clo_kb {k a b x y : Nat} (hx : x < 5) (hy : y < 5) : kb (clo k a b) x y = (kb k x y || clB k a b x y) := by
  unfold kb clo
  rw [clF_bit, show (5 * x + y) / 5 = x by omega, show (5 * x + y) % 5 = y by omega, decide_eq_true (by omega), Bool.true_and]
theorem clo_PO {np k a b : Nat} (h : PO np k) (ha : a < 5) (hb : b < 5) (han : a < np) (hbn : b < np) (hne : a ≠ b) (h1 : kb k a b = false) (h2 : kb k b a = false) : PO np (clo k a b) := by
  obtain ⟨p1, p2, p3, p4⟩ := h
  have cb : ∀ {x y}, clB k a b x y = true ↔ (x = a ∨ kb k x a = true) ∧ (y = b ∨ kb k b y = true) := by
    intro x y; unfold clB; simp [Bool.or_eq_true]
  refine ⟨clF_lt p1 (Nat.le_refl _), fun x y hx hy hk => ?_, fun x hx => ?_, fun x y z hx hy hz k1 k2 => ?_⟩
  · rw [clo_kb hx hy, Bool.or_eq_true, cb] at hk
    rcases hk with hk | ⟨u, v⟩
    · exact p2 x y hx hy hk
    · refine ⟨?_, ?_⟩
      · rcases u with u | u
        · omega
        · exact (p2 x a hx ha u).1
      · rcases v with v | v
        · omega
        · exact (p2 b y hb hy v).2
  · rw [clo_kb hx hx, p3 x hx, Bool.false_or, Bool.eq_false_iff]
    intro w
    rw [cb] at w
    obtain ⟨u, v⟩ := w
    rcases u with u | u <;> rcases v with v | v
    · omega
    · rw [u] at v; rw [v] at h2; cases h2
    · rw [v] at u; rw [u] at h2; cases h2
    · have := p4 b x a hb hx ha v u
      rw [this] at h2; cases h2
  · rw [clo_kb hx hz, Bool.or_eq_true, cb]
    rw [clo_kb hx hy, Bool.or_eq_true, cb] at k1
    rw [clo_kb hy hz, Bool.or_eq_true, cb] at k2
    rcases k1 with k1 | ⟨u1, v1⟩ <;> rcases k2 with k2 | ⟨u2, v2⟩
    · exact Or.inl (p4 x y z hx hy hz k1 k2)
    · refine Or.inr ⟨Or.inr ?_, v2⟩
      rcases u2 with u2 | u2
      · rw [← u2]; exact k1
      · exact p4 x y a hx hy ha k1 u2
    · refine Or.inr ⟨u1, Or.inr ?_⟩
      rcases v1 with v1 | v1
      · rw [← v1]; exact k2
      · exact p4 b y z hb hy hz v1 k2
    · exact Or.inr ⟨u1, v2⟩
theorem clo_gt {k a b : Nat} (ha : a < 5) (hb : b < 5) (h1 : kb k a b = false) : k < clo k a b := by
  have h : ∀ i, (k ||| clo k a b).testBit i = (clo k a b).testBit i := fun i => by
    rw [Nat.testBit_or]
    unfold clo
    rw [clF_bit]
    cases k.testBit i <;> simp
  have e : k ||| clo k a b = clo k a b := Nat.eq_of_testBit_eq h
  have le : k ≤ clo k a b := by
    have := Nat.left_le_or (n := k) (m := clo k a b)
    rw [e] at this; exact this
  rcases Nat.lt_or_ge k (clo k a b) with y | y
  · exact y
  · have : k = clo k a b := by omega
    have t := clo_kb (k := k) (a := a) (b := b) ha hb
    rw [← this, h1] at t
    simp [clB] at t
/-- what a question costs, by N -/
def vaN (N : Nat → Nat) (k a b : Nat) : Nat := 1 + Nat.max (N (clo k a b)) (N (clo k b a))
def opB (k a b : Nat) : Bool := !kb k a b && !kb k b a
def bsJ (N : Nat → Nat) (k a s : Nat) : Nat → Nat
  | 0 => s
  | b + 1 => if decide (a < b) && opB k a b then Nat.min (bsJ N k a s b) (vaN N k a b) else bsJ N k a s b
def bsO (N : Nat → Nat) (np k : Nat) : Nat → Nat
  | 0 => 100
  | a + 1 => bsJ N k a (bsO N np k a) np
def onJ (k a : Nat) (s : Bool) : Nat → Bool
  | 0 => s
  | b + 1 => if decide (a < b) && opB k a b then true else onJ k a s b
def onO (np k : Nat) : Nat → Bool
  | 0 => false
  | a + 1 => onJ k a (onO np k a) np
theorem bsJ_s (N : Nat → Nat) (k a s b : Nat) : bsJ N k a s (b + 1) = if decide (a < b) && opB k a b then Nat.min (bsJ N k a s b) (vaN N k a b) else bsJ N k a s b := rfl
theorem onJ_s (k a : Nat) (s : Bool) (b : Nat) : onJ k a s (b + 1) = if decide (a < b) && opB k a b then true else onJ k a s b := rfl
theorem bsJ_le {N : Nat → Nat} {k a s : Nat} : ∀ b, bsJ N k a s b ≤ s
  | 0 => Nat.le_refl _
  | b + 1 => by
    rw [bsJ_s]
    split
    · exact Nat.le_trans (Nat.min_le_left _ _) (bsJ_le b)
    · exact bsJ_le b
theorem bsO_le {N : Nat → Nat} {np k : Nat} : ∀ a, bsO N np k a ≤ 100
  | 0 => Nat.le_refl _
  | a + 1 => Nat.le_trans (bsJ_le np) (bsO_le a)
theorem bsJ_0 {N : Nat → Nat} {k a s : Nat} : ∀ {b : Nat}, b ≤ a + 1 → bsJ N k a s b = s
  | 0, _ => rfl
  | b + 1, h => by rw [bsJ_s, if_neg (by simp; omega), bsJ_0 (by omega)]
theorem onJ_0 {k a : Nat} {s : Bool} : ∀ {b : Nat}, b ≤ a + 1 → onJ k a s b = s
  | 0, _ => rfl
  | b + 1, h => by rw [onJ_s, if_neg (by simp; omega), onJ_0 (by omega)]
def NdR (np : Nat) (N : Nat → Nat) : Prop := ∀ k, PO np k → N k = if onO np k np then bsO N np k np else 0
theorem NdR.le {np : Nat} {N : Nat → Nat} (h : NdR np N) {k : Nat} (hk : PO np k) : N k ≤ 100 := by
  rw [h k hk]
  split
  · exact bsO_le _
  · exact Nat.zero_le _
/-- where the search for k begins -/
def hsh (k : Nat) : Nat := k * 40503 % 2 ^ 32 / 2 ^ 7 % 8192
theorem hsh_lt (k : Nat) : hsh k < 8192 := Nat.mod_lt _ (by decide)
theorem nI_mod (x : Nat) : nI (x % 2 ^ 32) = nI x := by
  unfold nI
  apply Int32.toBitVec.inj
  apply BitVec.eq_of_toNat_eq
  simp
theorem hs_ok (k : Nat) : (((nI k).toUInt32 * (nI 40503).toUInt32) >>> ((nI 7).toUInt32 &&& (nI 31).toUInt32)).toInt32 = nI (k * 40503 % 2 ^ 32 / 2 ^ 7) := by
  rw [show (nI k).toUInt32 * (nI 40503).toUInt32 = (nI (k * 40503 % 2 ^ 32)).toUInt32 by rw [nI_mod, ← nI_mul]; rfl]
  exact pk_ushrN (Nat.mod_lt _ (by decide)) (nI 7) 7 (by decide)
theorem hs_ok2 (k : Nat) : nI (k * 40503 % 2 ^ 32 / 2 ^ 7) - nI (k * 40503 % 2 ^ 32 / 2 ^ 7) / nI 8192 * nI 8192 = nI (hsh k) := pk_rem (by omega) (by decide) (by decide)
theorem at_next {a : Nat} (h : a < 8192) : nI (a + 1) - nI (a + 1) / nI 8192 * nI 8192 = nI ((a + 1) % 8192) := pk_rem (by omega) (by decide) (by decide)
/-- the table of what was worked out -/
def HT (np : Nat) (N : Nat → Nat) (mI : Nat → Nat → Int32) (K : Nat → Nat) : Prop := (∀ j, j < 8192 → mI 165 j = nI (K j) ∧ K j ≤ 2 ^ 25 ∧ (K j ≠ 0 → PO np (K j - 1) ∧ mI 166 j = nI (N (K j - 1)))) ∧ (∀ i j, i < 8192 → j < 8192 → K i ≠ 0 → K i = K j → i = j) ∧ ∀ j, j < 8192 → K j ≠ 0 → ∃ s, s < 8192 ∧ j = (hsh (K j - 1) + s) % 8192 ∧ ∀ s', s' < s → K ((hsh (K j - 1) + s') % 8192) ≠ 0
def KE (m : Nat) (K K' : Nat → Nat) : Prop := ∀ j, j < 8192 → K' j = K j ∨ (K j = 0 ∧ m < K' j)
theorem KE.rf {m : Nat} {K : Nat → Nat} : KE m K K := fun _ _ => Or.inl rfl
theorem KE.tr {m m' : Nat} {K K' K'' : Nat → Nat} (h : KE m K K') (h2 : KE m' K' K'') (hm : m ≤ m') : KE m K K'' := fun j hj => by
  rcases h j hj with a | ⟨a, b⟩ <;> rcases h2 j hj with c | ⟨c, d⟩
  · exact Or.inl (c.trans a)
  · exact Or.inr ⟨a ▸ c, by omega⟩
  · exact Or.inr ⟨a, by omega⟩
  · omega
/-- a table of strict orders is never full -/
def Roomy (np : Nat) : Prop := ∀ K : Nat → Nat, (∀ j, j < 8192 → K j ≠ 0 → PO np (K j - 1)) → (∀ i j, i < 8192 → j < 8192 → K i ≠ 0 → K i = K j → i = j) → ∃ j, j < 8192 ∧ K j = 0
theorem HT.room {np : Nat} {N : Nat → Nat} {mI : Nat → Nat → Int32} {K : Nat → Nat} (h : HT np N mI K) (hr : Roomy np) (b : Nat) : ∃ s, s < 8192 ∧ K ((hsh b + s) % 8192) = 0 := by
  obtain ⟨j, hj, e⟩ := hr K (fun j hj z => ((h.1 j hj).2.2 z).1) h.2.1
  have hh := hsh_lt b
  refine ⟨(j + 8192 - hsh b) % 8192, Nat.mod_lt _ (by decide), ?_⟩
  rw [show (hsh b + (j + 8192 - hsh b) % 8192) % 8192 = j by omega]
  exact e
theorem HT.none {np : Nat} {N : Nat → Nat} {mI : Nat → Nat → Int32} {K : Nat → Nat} (h : HT np N mI K) {k s : Nat} (hs : K ((hsh k + s) % 8192) = 0) (hn : ∀ s', s' < s → K ((hsh k + s') % 8192) ≠ k + 1) : ∀ j, j < 8192 → K j ≠ k + 1 := fun j hj e => by
  obtain ⟨s1, h1, h2, h3⟩ := h.2.2 j hj (by omega)
  rw [show K j - 1 = k by omega] at h2 h3
  rcases Nat.lt_or_ge s s1 with y | y
  · exact h3 s y hs
  · rcases Nat.lt_or_ge s1 s with w | w
    · exact hn s1 w (by rw [← h2]; exact e)
    · rw [show s = s1 by omega, ← h2] at hs; omega
theorem HT.put {np : Nat} {N : Nat → Nat} {mI : Nat → Nat → Int32} {K : Nat → Nat} (h : HT np N mI K) {k s : Nat} (hk : PO np k) (hs8 : s < 8192) (hs : K ((hsh k + s) % 8192) = 0) (hn : ∀ s', s' < s → K ((hsh k + s') % 8192) ≠ 0) (hno : ∀ j, j < 8192 → K j ≠ k + 1) : HT np N (up2 (up2 mI 165 ((hsh k + s) % 8192) (nI (k + 1))) 166 ((hsh k + s) % 8192) (nI (N k))) (upN K ((hsh k + s) % 8192) (k + 1)) := by
  have hk1 := hk.1
  generalize hv : (hsh k + s) % 8192 = v at hs ⊢
  have hv8 : v < 8192 := by omega
  have u1 : ∀ j, upN K v (k + 1) j = if j = v then k + 1 else K j := fun _ => rfl
  have nz : ∀ j, K j ≠ 0 → upN K v (k + 1) j ≠ 0 := fun j z => by
    rw [u1]; split
    · omega
    · exact z
  refine ⟨fun j hj => ?_, fun i j hi hj z e => ?_, fun j hj z => ?_⟩
  · rw [u1]
    by_cases e : j = v
    · rw [if_pos e, e, up2_ne (fun w => by cases w.1), up2_eq, up2_eq]
      exact ⟨rfl, by omega, fun _ => ⟨hk, rfl⟩⟩
    · rw [if_neg e, up2_ne (fun w => by cases w.1), up2_ne (fun w => e w.2), up2_ne (fun w => e w.2), up2_ne (fun w => by cases w.1)]
      exact h.1 j hj
  · rw [u1, u1] at e
    rw [u1] at z
    by_cases a : i = v <;> by_cases b : j = v
    · omega
    · rw [if_pos a, if_neg b] at e; exact absurd e.symm (hno j hj)
    · rw [if_neg a, if_pos b] at e; exact absurd e (hno i hi)
    · rw [if_neg a, if_neg b] at e; rw [if_neg a] at z; exact h.2.1 i j hi hj z e
  · rw [u1] at z ⊢
    by_cases a : j = v
    · rw [if_pos a, show k + 1 - 1 = k by omega]
      exact ⟨s, hs8, by omega, fun s' hs' => nz _ (hn s' hs')⟩
    · rw [if_neg a] at z ⊢
      obtain ⟨s1, h1, h2, h3⟩ := h.2.2 j hj z
      exact ⟨s1, h1, h2, fun s' hs' => nz _ (h3 s' hs')⟩
def cbt (k : Nat) : Nat := fb_ct (fun i => k.testBit i) 25
theorem cbt_le (k : Nat) : cbt k ≤ 25 := fb_ct_le _ _
theorem fb_ct_lt {p q : Nat → Bool} {i : Nat} (hi : p i = false) (hq : q i = true) : ∀ {n : Nat}, i < n → (∀ k, k < n → p k = true → q k = true) → fb_ct p n < fb_ct q n
  | 0, h, _ => by omega
  | n + 1, h, hs => by
    rw [fb_ct_succ, fb_ct_succ]
    by_cases e : i = n
    · subst e
      rw [hi, hq]
      have := fb_ct_sub (p := p) (q := q) (n := i) (fun k hk => hs k (by omega))
      simp; omega
    · have := fb_ct_lt hi hq (n := n) (by omega) (fun k hk => hs k (by omega))
      have h2 := hs n (by omega)
      cases hp : p n with
      | false => simp; omega
      | true => rw [h2 hp]; simp; omega
theorem cbt_clo {k a b : Nat} (ha : a < 5) (hb : b < 5) (h1 : kb k a b = false) : cbt k < cbt (clo k a b) := by
  refine fb_ct_lt (i := 5 * a + b) h1 ?_ (by omega) (fun j _ hj => ?_)
  · show kb (clo k a b) a b = true
    rw [clo_kb ha hb]
    simp [clB]
  · show (clF k a b 25).testBit j = true
    rw [clF_bit, hj]; rfl
set_option maxHeartbeats 4000000 in
set_option maxRecDepth 100000 in
theorem c12_needs (np : Nat) (hn5 : np ≤ 5) (hr : Roomy np) (N : Nat → Nat) (hN : NdR np N) : ∀ (fu : Nat) (l : Launch) (X : Cx) (d : Nat) (sh : Nat → Option Sh) (mI : Nat → Nat → Int32) (mL : Nat → Nat → Int64) (mR : Nat → Nat → Option Nat) (n : Nat) (hL : ML sh mR) (hp : PupM mI np) (k : Nat) (hk : PO np k) (K : Nat → Nat) (hK : HT np N mI K) (hfu : 25 - cbt k < fu) (hd : fu + 1 ≤ d), Cn l X yX12_needs cX12_needs 9 (some .int) d [.ref 129, .int (nI k)] (sh, mI, mL, mR, n) (fun r M' => r = some (.int (nI (N k))) ∧ ∃ mI' K', M' = (sh, mI', mL, mR, n) ∧ Eqx [165, 166] mI mI' ∧ HT np N mI' K' ∧ KE k K K') 0 0 := by
  intro fu
  induction fu with
  | zero => intro l X d sh mI mL mR n hL hp k hk K hK h; omega
  | succ fu ihf =>
  intro l X d sh mI mL mR n hL hp k hk K hK hfu hd
  refine Cn.run 12 false (by decide) rfl (by decide) (by simp [entA, Value.category]) ?_
  intro P G hP hG
  have q0 := hL.1
  have q_knownKey := hL.2 (53, 165, .int, 8192) (by decide)
  dsimp only at q_knownKey
  have q_knownNeeds := hL.2 (54, 166, .int, 8192) (by decide)
  dsimp only at q_knownNeeds
  have q_pupils := hL.2 (10, 131, .int, 6) (by decide)
  dsimp only at q_pupils
  have hk1 := hk.1
  have hNk := hN k hk
  have tail : ∀ (best : Nat) (op : Bool) (v2 : Int32) v5 v6 v7 v8 mI1 K1, N k = (if op then best else 0) → best ≤ 100 → Eqx [165, 166] mI mI1 → HT np N mI1 K1 → KE (k + 1) K K1 → (∀ j, j < 8192 → K j ≠ k + 1) → G 192 [some (.ref 129), some (.int (nI k)), some (.int v2), some (.int (nI best)), some (.int (bI op)), v5, v6, v7, v8] [] (sh, mI1, mL, mR, n) := by
    intro best op v2 v5 v6 v7 v8 mI1 K1 hb hb100 g1 g2 g3 g4
    have hno : ∀ j, j < 8192 → K1 j ≠ k + 1 := fun j hj => by
      rcases g3 j hj with a | ⟨a, b⟩
      · rw [a]; exact g4 j hj
      · omega
    obtain ⟨s0, hs0, hz0⟩ := g2.room hr k
    have loop : ∀ f s, s0 - s < f → s ≤ s0 → (∀ s', s' < s → K1 ((hsh k + s') % 8192) ≠ 0) → G 216 [some (.ref 129), some (.int (nI k)), some (.int (nI ((hsh k + s) % 8192))), some (.int (nI (N k))), some (.int (bI op)), v5, v6, v7, v8] [] (sh, mI1, mL, mR, n) := by
      intro f
      induction f with
      | zero => intro s h; omega
      | succ f ih =>
        intro s hf hs hal
        have hat : (hsh k + s) % 8192 < 8192 := Nat.mod_lt _ (by decide)
        obtain ⟨y1, y2, y3⟩ := g2.1 _ hat
        refine hG.run [216] 60 ?_
        simp [wp, stepI, ln, jmp, cmpI, Value.category, rd, tyF, va_rf, st1, st2, clr, isLg, CB, inx_0, inx_1, inx_2, inx_3, inx_4, inx_5, bI_0, bI_1, bI_ok, fin3, tyX12, entL, q0, q_knownKey, q_knownNeeds, dX12_needs_0, dX12_needs_1, cI_12_403, dX12_needs_4, dX12_needs_5, dX12_needs_7, dX12_needs_8, dX12_needs_11, dX12_needs_12, dX12_needs_13, dX12_needs_14, fT_12_117, dX12_needs_17, dX12_needs_18, dX12_needs_19, dX12_needs_22, dX12_needs_23, dX12_needs_26, dX12_needs_27, dX12_needs_28, dX12_needs_29, dX12_needs_30, dX12_needs_31, dX12_needs_34, dX12_needs_35, dX12_needs_36, dX12_needs_37, dX12_needs_40, dX12_needs_41, dX12_needs_42, dX12_needs_45, dX12_needs_46, dX12_needs_49, dX12_needs_50, dX12_needs_51, dX12_needs_54, dX12_needs_55, fT_12_120, dX12_needs_58, dX12_needs_59, dX12_needs_60, dX12_needs_61, dX12_needs_63, dX12_needs_64, dX12_needs_65, dX12_needs_67, dX12_needs_68, dX12_needs_70, dX12_needs_72, dX12_needs_73, fT_12_13, dX12_needs_76, dX12_needs_77, dX12_needs_78, dX12_needs_81, dX12_needs_83, dX12_needs_84, dX12_needs_85, dX12_needs_87, dX12_needs_89, dX12_needs_90, dX12_needs_93, dX12_needs_94, dX12_needs_95, dX12_needs_98, dX12_needs_99, dX12_needs_101, dX12_needs_103, dX12_needs_106, dX12_needs_107, dX12_needs_109, dX12_needs_111, dX12_needs_114, dX12_needs_115, dX12_needs_118, dX12_needs_121, dX12_needs_122, dX12_needs_124, dX12_needs_125, dX12_needs_126, dX12_needs_127, dX12_needs_129, dX12_needs_131, dX12_needs_134, dX12_needs_137, dX12_needs_139, dX12_needs_141, dX12_needs_142, dX12_needs_143, dX12_needs_144, dX12_needs_147, dX12_needs_148, dX12_needs_151, dX12_needs_152, dX12_needs_154, dX12_needs_155, dX12_needs_156, dX12_needs_157, dX12_needs_159, dX12_needs_161, dX12_needs_164, dX12_needs_167, dX12_needs_170, dX12_needs_171, dX12_needs_173, dX12_needs_174, dX12_needs_176, dX12_needs_179, dX12_needs_180, dX12_needs_183, dX12_needs_186, dX12_needs_189, dX12_needs_192, dX12_needs_194, dX12_needs_197, dX12_needs_198, dX12_needs_201, dX12_needs_202, dX12_needs_203, dX12_needs_204, dX12_needs_207, dX12_needs_208, dX12_needs_210, dX12_needs_211, dX12_needs_214, dX12_needs_215, dX12_needs_216, dX12_needs_217, dX12_needs_220, dX12_needs_221, dX12_needs_222, dX12_needs_225, dX12_needs_226, dX12_needs_227, dX12_needs_228, dX12_needs_231, dX12_needs_232, dX12_needs_233, dX12_needs_236, dX12_needs_237, dX12_needs_240, dX12_needs_241, dX12_needs_242, dX12_needs_243, dX12_needs_244, dX12_needs_245, dX12_needs_246, dX12_needs_249, dX12_needs_250, dX12_needs_251, dX12_needs_252, dX12_needs_253]
        simp (disch := omega) only [li, nI_add, nI_clamp, nI_ltI, nI_leI, nI_eq, inx_iff, a31, nI_1shl', nI_shr', div_bit, tb1, tb0, fa_or, fa_and, nI_not, pk_sub, nI_dec, y1, at_next]
        refine ⟨by omega, fun z => ?_, fun z => ?_⟩
        · refine ⟨by omega, hP _ _ ⟨rfl, _, _, rfl, ?_, g2.put hk (by omega) z hal hno, ?_⟩⟩
          · intro a j ha
            have n1 : ¬ (a = 165 ∧ j = (hsh k + s) % 8192) := fun w => ha (by rw [w.1]; decide)
            have n2 : ¬ (a = 166 ∧ j = (hsh k + s) % 8192) := fun w => ha (by rw [w.1]; decide)
            rw [up2_ne n2, up2_ne n1]
            exact g1 a j ha
          · intro j hj
            show upN K1 ((hsh k + s) % 8192) (k + 1) j = K j ∨ _
            by_cases e : j = (hsh k + s) % 8192
            · have e2 : upN K1 ((hsh k + s) % 8192) (k + 1) j = k + 1 := if_pos e
              rw [e2]
              rcases g3 j hj with a | ⟨a, b⟩
              · right; rw [← a, e]; exact ⟨z, by omega⟩
              · rw [← e] at z; omega
            · have e2 : upN K1 ((hsh k + s) % 8192) (k + 1) j = K1 j := if_neg e
              rw [e2]
              rcases g3 j hj with a | ⟨a, b⟩
              · exact Or.inl a
              · exact Or.inr ⟨a, by omega⟩
        · have := ih (s + 1) (by
            rcases Nat.lt_or_ge s s0 with w | w
            · omega
            · rw [show s = s0 by omega] at z; exact absurd hz0 z) (by
            rcases Nat.lt_or_ge s s0 with w | w
            · omega
            · rw [show s = s0 by omega] at z; exact absurd hz0 z) (fun s' hs' => by
            rcases Nat.lt_or_ge s' s with w | w
            · exact hal s' w
            · rw [show s' = s by omega]; exact z)
          rw [show (hsh k + (s + 1)) % 8192 = ((hsh k + s) % 8192 + 1) % 8192 by omega] at this
          exact this
    have go := loop (s0 + 1) 0 (by omega) (by omega) (fun s' h => by omega)
    rw [Nat.add_zero, Nat.mod_eq_of_lt (hsh_lt k)] at go
    refine hG.run [216] 60 ?_
    simp [wp, stepI, ln, jmp, cmpI, Value.category, rd, tyF, va_rf, st1, st2, clr, isLg, CB, inx_0, inx_1, inx_2, inx_3, inx_4, inx_5, bI_0, bI_1, bI_ok, fin3, tyX12, entL, q0, q_knownKey, q_knownNeeds, dX12_needs_0, dX12_needs_1, cI_12_403, dX12_needs_4, dX12_needs_5, dX12_needs_7, dX12_needs_8, dX12_needs_11, dX12_needs_12, dX12_needs_13, dX12_needs_14, fT_12_117, dX12_needs_17, dX12_needs_18, dX12_needs_19, dX12_needs_22, dX12_needs_23, dX12_needs_26, dX12_needs_27, dX12_needs_28, dX12_needs_29, dX12_needs_30, dX12_needs_31, dX12_needs_34, dX12_needs_35, dX12_needs_36, dX12_needs_37, dX12_needs_40, dX12_needs_41, dX12_needs_42, dX12_needs_45, dX12_needs_46, dX12_needs_49, dX12_needs_50, dX12_needs_51, dX12_needs_54, dX12_needs_55, fT_12_120, dX12_needs_58, dX12_needs_59, dX12_needs_60, dX12_needs_61, dX12_needs_63, dX12_needs_64, dX12_needs_65, dX12_needs_67, dX12_needs_68, dX12_needs_70, dX12_needs_72, dX12_needs_73, fT_12_13, dX12_needs_76, dX12_needs_77, dX12_needs_78, dX12_needs_81, dX12_needs_83, dX12_needs_84, dX12_needs_85, dX12_needs_87, dX12_needs_89, dX12_needs_90, dX12_needs_93, dX12_needs_94, dX12_needs_95, dX12_needs_98, dX12_needs_99, dX12_needs_101, dX12_needs_103, dX12_needs_106, dX12_needs_107, dX12_needs_109, dX12_needs_111, dX12_needs_114, dX12_needs_115, dX12_needs_118, dX12_needs_121, dX12_needs_122, dX12_needs_124, dX12_needs_125, dX12_needs_126, dX12_needs_127, dX12_needs_129, dX12_needs_131, dX12_needs_134, dX12_needs_137, dX12_needs_139, dX12_needs_141, dX12_needs_142, dX12_needs_143, dX12_needs_144, dX12_needs_147, dX12_needs_148, dX12_needs_151, dX12_needs_152, dX12_needs_154, dX12_needs_155, dX12_needs_156, dX12_needs_157, dX12_needs_159, dX12_needs_161, dX12_needs_164, dX12_needs_167, dX12_needs_170, dX12_needs_171, dX12_needs_173, dX12_needs_174, dX12_needs_176, dX12_needs_179, dX12_needs_180, dX12_needs_183, dX12_needs_186, dX12_needs_189, dX12_needs_192, dX12_needs_194, dX12_needs_197, dX12_needs_198, dX12_needs_201, dX12_needs_202, dX12_needs_203, dX12_needs_204, dX12_needs_207, dX12_needs_208, dX12_needs_210, dX12_needs_211, dX12_needs_214, dX12_needs_215, dX12_needs_216, dX12_needs_217, dX12_needs_220, dX12_needs_221, dX12_needs_222, dX12_needs_225, dX12_needs_226, dX12_needs_227, dX12_needs_228, dX12_needs_231, dX12_needs_232, dX12_needs_233, dX12_needs_236, dX12_needs_237, dX12_needs_240, dX12_needs_241, dX12_needs_242, dX12_needs_243, dX12_needs_244, dX12_needs_245, dX12_needs_246, dX12_needs_249, dX12_needs_250, dX12_needs_251, dX12_needs_252, dX12_needs_253]
    simp (disch := omega) only [li, nI_add, nI_clamp, nI_ltI, nI_leI, nI_eq, inx_iff, a31, nI_1shl', nI_shr', div_bit, tb1, tb0, fa_or, fa_and, nI_not, pk_sub, nI_dec, hs_ok, hs_ok2]
    refine ⟨fun z => ?_, fun z => ?_⟩
    · rw [z] at hb go ⊢
      rw [hb] at go
      exact go
    · rw [z] at hb go ⊢
      rw [hb] at go
      exact go
  have main : (∀ j, j < 8192 → K j ≠ k + 1) → ∀ v2, G 61 [some (.ref 129), some (.int (nI k)), some (.int v2), none, none, none, none, none, none] [] (sh, mI, mL, mR, n) := by
    intro hno v2
    have e0 := hp.1
    have loop1 : ∀ f i v6 v7 v8 mI1 K1, np - i < f → i ≤ np → Eqx [165, 166] mI mI1 → HT np N mI1 K1 → KE (k + 1) K K1 → G 70 [some (.ref 129), some (.int (nI k)), some (.int v2), some (.int (nI (bsO N np k i))), some (.int (bI (onO np k i))), some (.int (nI i)), v6, v7, v8] [] (sh, mI1, mL, mR, n) := by
      intro f
      induction f with
      | zero => intro i v6 v7 v8 mI1 K1 h; omega
      | succ f ih =>
        intro i v6 v7 v8 mI1 K1 hf hi g1 g2 g3
        have loop2 : i < np → ∀ f2 j v7 v8 mI1 K1, np - j < f2 → j ≤ np → i < j → Eqx [165, 166] mI mI1 → HT np N mI1 K1 → KE (k + 1) K K1 → G 87 [some (.ref 129), some (.int (nI k)), some (.int v2), some (.int (nI (bsJ N k i (bsO N np k i) j))), some (.int (bI (onJ k i (onO np k i) j))), some (.int (nI i)), some (.int (nI j)), v7, v8] [] (sh, mI1, mL, mR, n) := by
          intro hin f2
          induction f2 with
          | zero => intro j v7 v8 mI1 K1 h; omega
          | succ f2 ih2 =>
            intro j v7 v8 mI1 K1 hf2 hj hij g1 g2 g3
            have e1 := (hp.eqx g1 (by decide)).1
            have bb := Nat.le_trans (bsJ_le (N := N) (k := k) (a := i) (s := bsO N np k i) j) (bsO_le i)
            refine hG.run [70, 87] 60 ?_
            simp [wp, stepI, ln, jmp, cmpI, Value.category, rd, tyF, va_rf, st1, st2, clr, isLg, CB, inx_0, inx_1, inx_2, inx_3, inx_4, inx_5, bI_0, bI_1, bI_ok, fin3, tyX12, entL, q0, q_pupils, dX12_needs_0, dX12_needs_1, cI_12_403, dX12_needs_4, dX12_needs_5, dX12_needs_7, dX12_needs_8, dX12_needs_11, dX12_needs_12, dX12_needs_13, dX12_needs_14, fT_12_117, dX12_needs_17, dX12_needs_18, dX12_needs_19, dX12_needs_22, dX12_needs_23, dX12_needs_26, dX12_needs_27, dX12_needs_28, dX12_needs_29, dX12_needs_30, dX12_needs_31, dX12_needs_34, dX12_needs_35, dX12_needs_36, dX12_needs_37, dX12_needs_40, dX12_needs_41, dX12_needs_42, dX12_needs_45, dX12_needs_46, dX12_needs_49, dX12_needs_50, dX12_needs_51, dX12_needs_54, dX12_needs_55, fT_12_120, dX12_needs_58, dX12_needs_59, dX12_needs_60, dX12_needs_61, dX12_needs_63, dX12_needs_64, dX12_needs_65, dX12_needs_67, dX12_needs_68, dX12_needs_70, dX12_needs_72, dX12_needs_73, fT_12_13, dX12_needs_76, dX12_needs_77, dX12_needs_78, dX12_needs_81, dX12_needs_83, dX12_needs_84, dX12_needs_85, dX12_needs_87, dX12_needs_89, dX12_needs_90, dX12_needs_93, dX12_needs_94, dX12_needs_95, dX12_needs_98, dX12_needs_99, dX12_needs_101, dX12_needs_103, dX12_needs_106, dX12_needs_107, dX12_needs_109, dX12_needs_111, dX12_needs_114, dX12_needs_115, dX12_needs_118, dX12_needs_121, dX12_needs_122, dX12_needs_124, dX12_needs_125, dX12_needs_126, dX12_needs_127, dX12_needs_129, dX12_needs_131, dX12_needs_134, dX12_needs_137, dX12_needs_139, dX12_needs_141, dX12_needs_142, dX12_needs_143, dX12_needs_144, dX12_needs_147, dX12_needs_148, dX12_needs_151, dX12_needs_152, dX12_needs_154, dX12_needs_155, dX12_needs_156, dX12_needs_157, dX12_needs_159, dX12_needs_161, dX12_needs_164, dX12_needs_167, dX12_needs_170, dX12_needs_171, dX12_needs_173, dX12_needs_174, dX12_needs_176, dX12_needs_179, dX12_needs_180, dX12_needs_183, dX12_needs_186, dX12_needs_189, dX12_needs_192, dX12_needs_194, dX12_needs_197, dX12_needs_198, dX12_needs_201, dX12_needs_202, dX12_needs_203, dX12_needs_204, dX12_needs_207, dX12_needs_208, dX12_needs_210, dX12_needs_211, dX12_needs_214, dX12_needs_215, dX12_needs_216, dX12_needs_217, dX12_needs_220, dX12_needs_221, dX12_needs_222, dX12_needs_225, dX12_needs_226, dX12_needs_227, dX12_needs_228, dX12_needs_231, dX12_needs_232, dX12_needs_233, dX12_needs_236, dX12_needs_237, dX12_needs_240, dX12_needs_241, dX12_needs_242, dX12_needs_243, dX12_needs_244, dX12_needs_245, dX12_needs_246, dX12_needs_249, dX12_needs_250, dX12_needs_251, dX12_needs_252, dX12_needs_253]
            simp (disch := omega) only [li, nI_add, nI_clamp, nI_ltI, nI_leI, nI_eq, inx_iff, a31, nI_1shl', nI_shr', div_bit, tb1, tb0, fa_or, fa_and, nI_not, pk_sub, nI_dec, e1]
            refine ⟨fun h => ?_, fun h => ?_⟩
            · have := ih (i + 1) (some (.int (nI j))) v7 v8 mI1 K1 (by omega) (by omega) g1 g2 g3
              rw [show j = np by omega] at this ⊢
              exact this
            have nx := ih2 (j + 1)
            rw [bsJ_s, onJ_s] at nx
            refine hG.callS dX12_needs_103 ms_12_400 [.int (nI k), .int (nI i), .int (nI j)] [] (c12_bit l X (d - 1) _ k i j hk1 (by omega) (by omega)) (by omega) rfl (by decide) (by simp [Value.category]) rfl ?_
            rintro r M' ⟨rfl, rfl⟩
            refine hG.run [70, 87] 60 ?_
            simp [wp, stepI, ln, jmp, cmpI, Value.category, rd, tyF, va_rf, st1, st2, clr, isLg, CB, inx_0, inx_1, inx_2, inx_3, inx_4, inx_5, bI_0, bI_1, bI_ok, fin3, tyX12, entL, q0, q_pupils, dX12_needs_0, dX12_needs_1, cI_12_403, dX12_needs_4, dX12_needs_5, dX12_needs_7, dX12_needs_8, dX12_needs_11, dX12_needs_12, dX12_needs_13, dX12_needs_14, fT_12_117, dX12_needs_17, dX12_needs_18, dX12_needs_19, dX12_needs_22, dX12_needs_23, dX12_needs_26, dX12_needs_27, dX12_needs_28, dX12_needs_29, dX12_needs_30, dX12_needs_31, dX12_needs_34, dX12_needs_35, dX12_needs_36, dX12_needs_37, dX12_needs_40, dX12_needs_41, dX12_needs_42, dX12_needs_45, dX12_needs_46, dX12_needs_49, dX12_needs_50, dX12_needs_51, dX12_needs_54, dX12_needs_55, fT_12_120, dX12_needs_58, dX12_needs_59, dX12_needs_60, dX12_needs_61, dX12_needs_63, dX12_needs_64, dX12_needs_65, dX12_needs_67, dX12_needs_68, dX12_needs_70, dX12_needs_72, dX12_needs_73, fT_12_13, dX12_needs_76, dX12_needs_77, dX12_needs_78, dX12_needs_81, dX12_needs_83, dX12_needs_84, dX12_needs_85, dX12_needs_87, dX12_needs_89, dX12_needs_90, dX12_needs_93, dX12_needs_94, dX12_needs_95, dX12_needs_98, dX12_needs_99, dX12_needs_101, dX12_needs_103, dX12_needs_106, dX12_needs_107, dX12_needs_109, dX12_needs_111, dX12_needs_114, dX12_needs_115, dX12_needs_118, dX12_needs_121, dX12_needs_122, dX12_needs_124, dX12_needs_125, dX12_needs_126, dX12_needs_127, dX12_needs_129, dX12_needs_131, dX12_needs_134, dX12_needs_137, dX12_needs_139, dX12_needs_141, dX12_needs_142, dX12_needs_143, dX12_needs_144, dX12_needs_147, dX12_needs_148, dX12_needs_151, dX12_needs_152, dX12_needs_154, dX12_needs_155, dX12_needs_156, dX12_needs_157, dX12_needs_159, dX12_needs_161, dX12_needs_164, dX12_needs_167, dX12_needs_170, dX12_needs_171, dX12_needs_173, dX12_needs_174, dX12_needs_176, dX12_needs_179, dX12_needs_180, dX12_needs_183, dX12_needs_186, dX12_needs_189, dX12_needs_192, dX12_needs_194, dX12_needs_197, dX12_needs_198, dX12_needs_201, dX12_needs_202, dX12_needs_203, dX12_needs_204, dX12_needs_207, dX12_needs_208, dX12_needs_210, dX12_needs_211, dX12_needs_214, dX12_needs_215, dX12_needs_216, dX12_needs_217, dX12_needs_220, dX12_needs_221, dX12_needs_222, dX12_needs_225, dX12_needs_226, dX12_needs_227, dX12_needs_228, dX12_needs_231, dX12_needs_232, dX12_needs_233, dX12_needs_236, dX12_needs_237, dX12_needs_240, dX12_needs_241, dX12_needs_242, dX12_needs_243, dX12_needs_244, dX12_needs_245, dX12_needs_246, dX12_needs_249, dX12_needs_250, dX12_needs_251, dX12_needs_252, dX12_needs_253]
            refine hG.callS dX12_needs_111 ms_12_400 [.int (nI k), .int (nI j), .int (nI i)] [.int (nI (kb k i j).toNat)] (c12_bit l X (d - 1) _ k j i hk1 (by omega) (by omega)) (by omega) rfl (by decide) (by simp [Value.category]) rfl ?_
            rintro r M' ⟨rfl, rfl⟩
            have t1 : (kb k i j).toNat ≤ 1 := Bool.toNat_le _
            have t2 : (kb k j i).toNat ≤ 1 := Bool.toNat_le _
            refine hG.run [70, 87] 60 ?_
            simp [wp, stepI, ln, jmp, cmpI, Value.category, rd, tyF, va_rf, st1, st2, clr, isLg, CB, inx_0, inx_1, inx_2, inx_3, inx_4, inx_5, bI_0, bI_1, bI_ok, fin3, tyX12, entL, q0, q_pupils, dX12_needs_0, dX12_needs_1, cI_12_403, dX12_needs_4, dX12_needs_5, dX12_needs_7, dX12_needs_8, dX12_needs_11, dX12_needs_12, dX12_needs_13, dX12_needs_14, fT_12_117, dX12_needs_17, dX12_needs_18, dX12_needs_19, dX12_needs_22, dX12_needs_23, dX12_needs_26, dX12_needs_27, dX12_needs_28, dX12_needs_29, dX12_needs_30, dX12_needs_31, dX12_needs_34, dX12_needs_35, dX12_needs_36, dX12_needs_37, dX12_needs_40, dX12_needs_41, dX12_needs_42, dX12_needs_45, dX12_needs_46, dX12_needs_49, dX12_needs_50, dX12_needs_51, dX12_needs_54, dX12_needs_55, fT_12_120, dX12_needs_58, dX12_needs_59, dX12_needs_60, dX12_needs_61, dX12_needs_63, dX12_needs_64, dX12_needs_65, dX12_needs_67, dX12_needs_68, dX12_needs_70, dX12_needs_72, dX12_needs_73, fT_12_13, dX12_needs_76, dX12_needs_77, dX12_needs_78, dX12_needs_81, dX12_needs_83, dX12_needs_84, dX12_needs_85, dX12_needs_87, dX12_needs_89, dX12_needs_90, dX12_needs_93, dX12_needs_94, dX12_needs_95, dX12_needs_98, dX12_needs_99, dX12_needs_101, dX12_needs_103, dX12_needs_106, dX12_needs_107, dX12_needs_109, dX12_needs_111, dX12_needs_114, dX12_needs_115, dX12_needs_118, dX12_needs_121, dX12_needs_122, dX12_needs_124, dX12_needs_125, dX12_needs_126, dX12_needs_127, dX12_needs_129, dX12_needs_131, dX12_needs_134, dX12_needs_137, dX12_needs_139, dX12_needs_141, dX12_needs_142, dX12_needs_143, dX12_needs_144, dX12_needs_147, dX12_needs_148, dX12_needs_151, dX12_needs_152, dX12_needs_154, dX12_needs_155, dX12_needs_156, dX12_needs_157, dX12_needs_159, dX12_needs_161, dX12_needs_164, dX12_needs_167, dX12_needs_170, dX12_needs_171, dX12_needs_173, dX12_needs_174, dX12_needs_176, dX12_needs_179, dX12_needs_180, dX12_needs_183, dX12_needs_186, dX12_needs_189, dX12_needs_192, dX12_needs_194, dX12_needs_197, dX12_needs_198, dX12_needs_201, dX12_needs_202, dX12_needs_203, dX12_needs_204, dX12_needs_207, dX12_needs_208, dX12_needs_210, dX12_needs_211, dX12_needs_214, dX12_needs_215, dX12_needs_216, dX12_needs_217, dX12_needs_220, dX12_needs_221, dX12_needs_222, dX12_needs_225, dX12_needs_226, dX12_needs_227, dX12_needs_228, dX12_needs_231, dX12_needs_232, dX12_needs_233, dX12_needs_236, dX12_needs_237, dX12_needs_240, dX12_needs_241, dX12_needs_242, dX12_needs_243, dX12_needs_244, dX12_needs_245, dX12_needs_246, dX12_needs_249, dX12_needs_250, dX12_needs_251, dX12_needs_252, dX12_needs_253]
            simp (disch := omega) only [li, nI_add, nI_clamp, nI_ltI, nI_leI, nI_eq, inx_iff, a31, nI_1shl', nI_shr', div_bit, tb1, tb0, fa_or, fa_and, nI_not, pk_sub, nI_dec]
            refine ⟨fun z => ?_, fun z => ?_⟩
            · have o1 : kb k i j = false := by
                cases w : kb k i j with
                | false => rfl
                | true => rw [w] at z; simp at z
              have o2 : kb k j i = false := by
                cases w : kb k j i with
                | false => rfl
                | true => rw [w] at z; simp at z
              have op : (decide (i < j) && opB k i j) = true := by simp [opB, o1, o2, hij]
              rw [if_pos op, if_pos op] at nx
              have p1 := clo_PO hk (a := i) (b := j) (by omega) (by omega) (by omega) (by omega) (by omega) o1 o2
              have p2 := clo_PO hk (a := j) (b := i) (by omega) (by omega) (by omega) (by omega) (by omega) o2 o1
              have l1 := hN.le p1
              have l2 := hN.le p2
              have c1 := cbt_clo (k := k) (a := i) (b := j) (by omega) (by omega) o1
              have c2 := cbt_clo (k := k) (a := j) (b := i) (by omega) (by omega) o2
              have cl1 := cbt_le (clo k i j)
              have cl2 := cbt_le (clo k j i)
              have w1 := clo_gt (k := k) (a := i) (b := j) (by omega) (by omega) o1
              have w2 := clo_gt (k := k) (a := j) (b := i) (by omega) (by omega) o2
              refine hG.callV dX12_needs_131 mv_12_404 [.int (nI k), .int (nI i), .int (nI j)] [.ref 129] (c12_closes l X (d - 1) sh mI1 mL mR n hL k i j hk1 (by omega) (by omega) (by omega)) ⟨_, rfl, rfl⟩ q0 (by omega) rfl (by decide) (by simp [Value.category]) rfl ?_
              rintro r M' ⟨rfl, rfl⟩
              refine hG.callV dX12_needs_134 mv_12_407 [.int (nI (clo k i j))] [] (ihf l X (d - 1) sh mI1 mL mR n hL (hp.eqx g1 (by decide)) (clo k i j) p1 K1 g2 (by omega) (by omega)) ⟨_, rfl, rfl⟩ q0 (by omega) rfl (by decide) (by simp [Value.category]) rfl ?_
              rintro r M' ⟨rfl, mI2, K2, rfl, r1, r2, r3⟩
              have g4 : Eqx [165, 166] mI mI2 := fun a j ha => (r1 a j ha).trans (g1 a j ha)
              have g5 : KE (k + 1) K K2 := g3.tr r3 (by omega)
              have fin : ∀ (x : Nat) mI3 K3, x ≤ 101 → Nat.min (bsJ N k i (bsO N np k i) j) x = Nat.min (bsJ N k i (bsO N np k i) j) (vaN N k i j) → Eqx [165, 166] mI mI3 → HT np N mI3 K3 → KE (k + 1) K K3 → G 171 [some (.ref 129), some (.int (nI k)), some (.int v2), some (.int (nI (bsJ N k i (bsO N np k i) j))), some (.int (nI 1)), some (.int (nI i)), some (.int (nI j)), some (.int (nI (N (clo k i j)))), v8] [.int (nI x)] (sh, mI3, mL, mR, n) := fun x mI3 K3 hx he a1 a2 a3 => by
                refine hG.run [87] 60 ?_
                simp [wp, stepI, ln, jmp, cmpI, Value.category, rd, tyF, va_rf, st1, st2, clr, isLg, CB, inx_0, inx_1, inx_2, inx_3, inx_4, inx_5, bI_0, bI_1, bI_ok, fin3, tyX12, entL, q0, dX12_needs_0, dX12_needs_1, cI_12_403, dX12_needs_4, dX12_needs_5, dX12_needs_7, dX12_needs_8, dX12_needs_11, dX12_needs_12, dX12_needs_13, dX12_needs_14, fT_12_117, dX12_needs_17, dX12_needs_18, dX12_needs_19, dX12_needs_22, dX12_needs_23, dX12_needs_26, dX12_needs_27, dX12_needs_28, dX12_needs_29, dX12_needs_30, dX12_needs_31, dX12_needs_34, dX12_needs_35, dX12_needs_36, dX12_needs_37, dX12_needs_40, dX12_needs_41, dX12_needs_42, dX12_needs_45, dX12_needs_46, dX12_needs_49, dX12_needs_50, dX12_needs_51, dX12_needs_54, dX12_needs_55, fT_12_120, dX12_needs_58, dX12_needs_59, dX12_needs_60, dX12_needs_61, dX12_needs_63, dX12_needs_64, dX12_needs_65, dX12_needs_67, dX12_needs_68, dX12_needs_70, dX12_needs_72, dX12_needs_73, fT_12_13, dX12_needs_76, dX12_needs_77, dX12_needs_78, dX12_needs_81, dX12_needs_83, dX12_needs_84, dX12_needs_85, dX12_needs_87, dX12_needs_89, dX12_needs_90, dX12_needs_93, dX12_needs_94, dX12_needs_95, dX12_needs_98, dX12_needs_99, dX12_needs_101, dX12_needs_103, dX12_needs_106, dX12_needs_107, dX12_needs_109, dX12_needs_111, dX12_needs_114, dX12_needs_115, dX12_needs_118, dX12_needs_121, dX12_needs_122, dX12_needs_124, dX12_needs_125, dX12_needs_126, dX12_needs_127, dX12_needs_129, dX12_needs_131, dX12_needs_134, dX12_needs_137, dX12_needs_139, dX12_needs_141, dX12_needs_142, dX12_needs_143, dX12_needs_144, dX12_needs_147, dX12_needs_148, dX12_needs_151, dX12_needs_152, dX12_needs_154, dX12_needs_155, dX12_needs_156, dX12_needs_157, dX12_needs_159, dX12_needs_161, dX12_needs_164, dX12_needs_167, dX12_needs_170, dX12_needs_171, dX12_needs_173, dX12_needs_174, dX12_needs_176, dX12_needs_179, dX12_needs_180, dX12_needs_183, dX12_needs_186, dX12_needs_189, dX12_needs_192, dX12_needs_194, dX12_needs_197, dX12_needs_198, dX12_needs_201, dX12_needs_202, dX12_needs_203, dX12_needs_204, dX12_needs_207, dX12_needs_208, dX12_needs_210, dX12_needs_211, dX12_needs_214, dX12_needs_215, dX12_needs_216, dX12_needs_217, dX12_needs_220, dX12_needs_221, dX12_needs_222, dX12_needs_225, dX12_needs_226, dX12_needs_227, dX12_needs_228, dX12_needs_231, dX12_needs_232, dX12_needs_233, dX12_needs_236, dX12_needs_237, dX12_needs_240, dX12_needs_241, dX12_needs_242, dX12_needs_243, dX12_needs_244, dX12_needs_245, dX12_needs_246, dX12_needs_249, dX12_needs_250, dX12_needs_251, dX12_needs_252, dX12_needs_253]
                refine hG.mmin dX12_needs_176 ms_12_357.link [] (by omega) (by simp [Value.category]) ?_
                rw [nI_min (by omega) (by omega), he]
                refine hG.run [87] 60 ?_
                simp [wp, stepI, ln, jmp, cmpI, Value.category, rd, tyF, va_rf, st1, st2, clr, isLg, CB, inx_0, inx_1, inx_2, inx_3, inx_4, inx_5, bI_0, bI_1, bI_ok, fin3, tyX12, entL, q0, dX12_needs_0, dX12_needs_1, cI_12_403, dX12_needs_4, dX12_needs_5, dX12_needs_7, dX12_needs_8, dX12_needs_11, dX12_needs_12, dX12_needs_13, dX12_needs_14, fT_12_117, dX12_needs_17, dX12_needs_18, dX12_needs_19, dX12_needs_22, dX12_needs_23, dX12_needs_26, dX12_needs_27, dX12_needs_28, dX12_needs_29, dX12_needs_30, dX12_needs_31, dX12_needs_34, dX12_needs_35, dX12_needs_36, dX12_needs_37, dX12_needs_40, dX12_needs_41, dX12_needs_42, dX12_needs_45, dX12_needs_46, dX12_needs_49, dX12_needs_50, dX12_needs_51, dX12_needs_54, dX12_needs_55, fT_12_120, dX12_needs_58, dX12_needs_59, dX12_needs_60, dX12_needs_61, dX12_needs_63, dX12_needs_64, dX12_needs_65, dX12_needs_67, dX12_needs_68, dX12_needs_70, dX12_needs_72, dX12_needs_73, fT_12_13, dX12_needs_76, dX12_needs_77, dX12_needs_78, dX12_needs_81, dX12_needs_83, dX12_needs_84, dX12_needs_85, dX12_needs_87, dX12_needs_89, dX12_needs_90, dX12_needs_93, dX12_needs_94, dX12_needs_95, dX12_needs_98, dX12_needs_99, dX12_needs_101, dX12_needs_103, dX12_needs_106, dX12_needs_107, dX12_needs_109, dX12_needs_111, dX12_needs_114, dX12_needs_115, dX12_needs_118, dX12_needs_121, dX12_needs_122, dX12_needs_124, dX12_needs_125, dX12_needs_126, dX12_needs_127, dX12_needs_129, dX12_needs_131, dX12_needs_134, dX12_needs_137, dX12_needs_139, dX12_needs_141, dX12_needs_142, dX12_needs_143, dX12_needs_144, dX12_needs_147, dX12_needs_148, dX12_needs_151, dX12_needs_152, dX12_needs_154, dX12_needs_155, dX12_needs_156, dX12_needs_157, dX12_needs_159, dX12_needs_161, dX12_needs_164, dX12_needs_167, dX12_needs_170, dX12_needs_171, dX12_needs_173, dX12_needs_174, dX12_needs_176, dX12_needs_179, dX12_needs_180, dX12_needs_183, dX12_needs_186, dX12_needs_189, dX12_needs_192, dX12_needs_194, dX12_needs_197, dX12_needs_198, dX12_needs_201, dX12_needs_202, dX12_needs_203, dX12_needs_204, dX12_needs_207, dX12_needs_208, dX12_needs_210, dX12_needs_211, dX12_needs_214, dX12_needs_215, dX12_needs_216, dX12_needs_217, dX12_needs_220, dX12_needs_221, dX12_needs_222, dX12_needs_225, dX12_needs_226, dX12_needs_227, dX12_needs_228, dX12_needs_231, dX12_needs_232, dX12_needs_233, dX12_needs_236, dX12_needs_237, dX12_needs_240, dX12_needs_241, dX12_needs_242, dX12_needs_243, dX12_needs_244, dX12_needs_245, dX12_needs_246, dX12_needs_249, dX12_needs_250, dX12_needs_251, dX12_needs_252, dX12_needs_253]
                simp (disch := omega) only [li, nI_add, nI_clamp, nI_ltI, nI_leI, nI_eq, inx_iff, a31, nI_1shl', nI_shr', div_bit, tb1, tb0, fa_or, fa_and, nI_not, pk_sub, nI_dec]
                exact nx _ _ mI3 K3 (by omega) (by omega) (by omega) a1 a2 a3
              have v1 : vaN N k i j = 1 + Nat.max (N (clo k i j)) (N (clo k j i)) := rfl
              have v2' : N (clo k i j) ≤ Nat.max (N (clo k i j)) (N (clo k j i)) := Nat.le_max_left _ _
              have v3 : Nat.max (N (clo k i j)) (N (clo k j i)) ≤ 100 := Nat.max_le.mpr ⟨l1, l2⟩
              refine hG.run [87, 171] 60 ?_
              simp [wp, stepI, ln, jmp, cmpI, Value.category, rd, tyF, va_rf, st1, st2, clr, isLg, CB, inx_0, inx_1, inx_2, inx_3, inx_4, inx_5, bI_0, bI_1, bI_ok, fin3, tyX12, entL, q0, dX12_needs_0, dX12_needs_1, cI_12_403, dX12_needs_4, dX12_needs_5, dX12_needs_7, dX12_needs_8, dX12_needs_11, dX12_needs_12, dX12_needs_13, dX12_needs_14, fT_12_117, dX12_needs_17, dX12_needs_18, dX12_needs_19, dX12_needs_22, dX12_needs_23, dX12_needs_26, dX12_needs_27, dX12_needs_28, dX12_needs_29, dX12_needs_30, dX12_needs_31, dX12_needs_34, dX12_needs_35, dX12_needs_36, dX12_needs_37, dX12_needs_40, dX12_needs_41, dX12_needs_42, dX12_needs_45, dX12_needs_46, dX12_needs_49, dX12_needs_50, dX12_needs_51, dX12_needs_54, dX12_needs_55, fT_12_120, dX12_needs_58, dX12_needs_59, dX12_needs_60, dX12_needs_61, dX12_needs_63, dX12_needs_64, dX12_needs_65, dX12_needs_67, dX12_needs_68, dX12_needs_70, dX12_needs_72, dX12_needs_73, fT_12_13, dX12_needs_76, dX12_needs_77, dX12_needs_78, dX12_needs_81, dX12_needs_83, dX12_needs_84, dX12_needs_85, dX12_needs_87, dX12_needs_89, dX12_needs_90, dX12_needs_93, dX12_needs_94, dX12_needs_95, dX12_needs_98, dX12_needs_99, dX12_needs_101, dX12_needs_103, dX12_needs_106, dX12_needs_107, dX12_needs_109, dX12_needs_111, dX12_needs_114, dX12_needs_115, dX12_needs_118, dX12_needs_121, dX12_needs_122, dX12_needs_124, dX12_needs_125, dX12_needs_126, dX12_needs_127, dX12_needs_129, dX12_needs_131, dX12_needs_134, dX12_needs_137, dX12_needs_139, dX12_needs_141, dX12_needs_142, dX12_needs_143, dX12_needs_144, dX12_needs_147, dX12_needs_148, dX12_needs_151, dX12_needs_152, dX12_needs_154, dX12_needs_155, dX12_needs_156, dX12_needs_157, dX12_needs_159, dX12_needs_161, dX12_needs_164, dX12_needs_167, dX12_needs_170, dX12_needs_171, dX12_needs_173, dX12_needs_174, dX12_needs_176, dX12_needs_179, dX12_needs_180, dX12_needs_183, dX12_needs_186, dX12_needs_189, dX12_needs_192, dX12_needs_194, dX12_needs_197, dX12_needs_198, dX12_needs_201, dX12_needs_202, dX12_needs_203, dX12_needs_204, dX12_needs_207, dX12_needs_208, dX12_needs_210, dX12_needs_211, dX12_needs_214, dX12_needs_215, dX12_needs_216, dX12_needs_217, dX12_needs_220, dX12_needs_221, dX12_needs_222, dX12_needs_225, dX12_needs_226, dX12_needs_227, dX12_needs_228, dX12_needs_231, dX12_needs_232, dX12_needs_233, dX12_needs_236, dX12_needs_237, dX12_needs_240, dX12_needs_241, dX12_needs_242, dX12_needs_243, dX12_needs_244, dX12_needs_245, dX12_needs_246, dX12_needs_249, dX12_needs_250, dX12_needs_251, dX12_needs_252, dX12_needs_253]
              simp (disch := omega) only [li, nI_add, nI_clamp, nI_ltI, nI_leI, nI_eq, inx_iff, a31, nI_1shl', nI_shr', div_bit, tb1, tb0, fa_or, fa_and, nI_not, pk_sub, nI_dec]
              refine ⟨fun y => ?_, fun y => fin _ mI2 K2 (by omega) ?_ g4 r2 g5⟩
              · refine hG.callV dX12_needs_161 mv_12_404 [.int (nI k), .int (nI j), .int (nI i)] [.ref 129, .int (nI (N (clo k i j))), .int (nI 1)] (c12_closes l X (d - 1) sh mI2 mL mR n hL k j i hk1 (by omega) (by omega) (by omega)) ⟨_, rfl, rfl⟩ q0 (by omega) rfl (by decide) (by simp [Value.category]) rfl ?_
                rintro r M' ⟨rfl, rfl⟩
                refine hG.callV dX12_needs_164 mv_12_407 [.int (nI (clo k j i))] [.int (nI (N (clo k i j))), .int (nI 1)] (ihf l X (d - 1) sh mI2 mL mR n hL (hp.eqx g4 (by decide)) (clo k j i) p2 K2 r2 (by omega) (by omega)) ⟨_, rfl, rfl⟩ q0 (by omega) rfl (by decide) (by simp [Value.category]) rfl ?_
                rintro r M' ⟨rfl, mI3, K3, rfl, x1, x2, x3⟩
                refine hG.mmax dX12_needs_167 ms_12_388.link [.int (nI 1)] (by omega) (by simp [Value.category]) ?_
                rw [nI_max (by omega) (by omega)]
                refine hG.run [87, 171] 60 ?_
                simp [wp, stepI, ln, jmp, cmpI, Value.category, rd, tyF, va_rf, st1, st2, clr, isLg, CB, inx_0, inx_1, inx_2, inx_3, inx_4, inx_5, bI_0, bI_1, bI_ok, fin3, tyX12, entL, q0, dX12_needs_0, dX12_needs_1, cI_12_403, dX12_needs_4, dX12_needs_5, dX12_needs_7, dX12_needs_8, dX12_needs_11, dX12_needs_12, dX12_needs_13, dX12_needs_14, fT_12_117, dX12_needs_17, dX12_needs_18, dX12_needs_19, dX12_needs_22, dX12_needs_23, dX12_needs_26, dX12_needs_27, dX12_needs_28, dX12_needs_29, dX12_needs_30, dX12_needs_31, dX12_needs_34, dX12_needs_35, dX12_needs_36, dX12_needs_37, dX12_needs_40, dX12_needs_41, dX12_needs_42, dX12_needs_45, dX12_needs_46, dX12_needs_49, dX12_needs_50, dX12_needs_51, dX12_needs_54, dX12_needs_55, fT_12_120, dX12_needs_58, dX12_needs_59, dX12_needs_60, dX12_needs_61, dX12_needs_63, dX12_needs_64, dX12_needs_65, dX12_needs_67, dX12_needs_68, dX12_needs_70, dX12_needs_72, dX12_needs_73, fT_12_13, dX12_needs_76, dX12_needs_77, dX12_needs_78, dX12_needs_81, dX12_needs_83, dX12_needs_84, dX12_needs_85, dX12_needs_87, dX12_needs_89, dX12_needs_90, dX12_needs_93, dX12_needs_94, dX12_needs_95, dX12_needs_98, dX12_needs_99, dX12_needs_101, dX12_needs_103, dX12_needs_106, dX12_needs_107, dX12_needs_109, dX12_needs_111, dX12_needs_114, dX12_needs_115, dX12_needs_118, dX12_needs_121, dX12_needs_122, dX12_needs_124, dX12_needs_125, dX12_needs_126, dX12_needs_127, dX12_needs_129, dX12_needs_131, dX12_needs_134, dX12_needs_137, dX12_needs_139, dX12_needs_141, dX12_needs_142, dX12_needs_143, dX12_needs_144, dX12_needs_147, dX12_needs_148, dX12_needs_151, dX12_needs_152, dX12_needs_154, dX12_needs_155, dX12_needs_156, dX12_needs_157, dX12_needs_159, dX12_needs_161, dX12_needs_164, dX12_needs_167, dX12_needs_170, dX12_needs_171, dX12_needs_173, dX12_needs_174, dX12_needs_176, dX12_needs_179, dX12_needs_180, dX12_needs_183, dX12_needs_186, dX12_needs_189, dX12_needs_192, dX12_needs_194, dX12_needs_197, dX12_needs_198, dX12_needs_201, dX12_needs_202, dX12_needs_203, dX12_needs_204, dX12_needs_207, dX12_needs_208, dX12_needs_210, dX12_needs_211, dX12_needs_214, dX12_needs_215, dX12_needs_216, dX12_needs_217, dX12_needs_220, dX12_needs_221, dX12_needs_222, dX12_needs_225, dX12_needs_226, dX12_needs_227, dX12_needs_228, dX12_needs_231, dX12_needs_232, dX12_needs_233, dX12_needs_236, dX12_needs_237, dX12_needs_240, dX12_needs_241, dX12_needs_242, dX12_needs_243, dX12_needs_244, dX12_needs_245, dX12_needs_246, dX12_needs_249, dX12_needs_250, dX12_needs_251, dX12_needs_252, dX12_needs_253]
                simp (disch := omega) only [li, nI_add, nI_clamp, nI_ltI, nI_leI, nI_eq, inx_iff, a31, nI_1shl', nI_shr', div_bit, tb1, tb0, fa_or, fa_and, nI_not, pk_sub, nI_dec]
                exact fin (1 + Nat.max (N (clo k i j)) (N (clo k j i))) mI3 K3 (by omega) rfl (fun a j ha => (x1 a j ha).trans (g4 a j ha)) x2 (g5.tr x3 (by omega))
              · rw [show Nat.min (bsJ N k i (bsO N np k i) j) (bsJ N k i (bsO N np k i) j) = bsJ N k i (bsO N np k i) j from Nat.min_self _]
                exact (Nat.min_eq_left (by omega)).symm
            · have op : ¬ (decide (i < j) && opB k i j) = true := by
                unfold opB
                cases w : kb k i j <;> cases w2 : kb k j i <;> simp
                rw [w, w2] at z; simp at z
              rw [if_neg op, if_neg op] at nx
              exact nx _ _ mI1 K1 (by omega) (by omega) (by omega) g1 g2 g3
        have e1 := (hp.eqx g1 (by decide)).1
        refine hG.run [87, 192] 60 ?_
        simp [wp, stepI, ln, jmp, cmpI, Value.category, rd, tyF, va_rf, st1, st2, clr, isLg, CB, inx_0, inx_1, inx_2, inx_3, inx_4, inx_5, bI_0, bI_1, bI_ok, fin3, tyX12, entL, q0, q_pupils, dX12_needs_0, dX12_needs_1, cI_12_403, dX12_needs_4, dX12_needs_5, dX12_needs_7, dX12_needs_8, dX12_needs_11, dX12_needs_12, dX12_needs_13, dX12_needs_14, fT_12_117, dX12_needs_17, dX12_needs_18, dX12_needs_19, dX12_needs_22, dX12_needs_23, dX12_needs_26, dX12_needs_27, dX12_needs_28, dX12_needs_29, dX12_needs_30, dX12_needs_31, dX12_needs_34, dX12_needs_35, dX12_needs_36, dX12_needs_37, dX12_needs_40, dX12_needs_41, dX12_needs_42, dX12_needs_45, dX12_needs_46, dX12_needs_49, dX12_needs_50, dX12_needs_51, dX12_needs_54, dX12_needs_55, fT_12_120, dX12_needs_58, dX12_needs_59, dX12_needs_60, dX12_needs_61, dX12_needs_63, dX12_needs_64, dX12_needs_65, dX12_needs_67, dX12_needs_68, dX12_needs_70, dX12_needs_72, dX12_needs_73, fT_12_13, dX12_needs_76, dX12_needs_77, dX12_needs_78, dX12_needs_81, dX12_needs_83, dX12_needs_84, dX12_needs_85, dX12_needs_87, dX12_needs_89, dX12_needs_90, dX12_needs_93, dX12_needs_94, dX12_needs_95, dX12_needs_98, dX12_needs_99, dX12_needs_101, dX12_needs_103, dX12_needs_106, dX12_needs_107, dX12_needs_109, dX12_needs_111, dX12_needs_114, dX12_needs_115, dX12_needs_118, dX12_needs_121, dX12_needs_122, dX12_needs_124, dX12_needs_125, dX12_needs_126, dX12_needs_127, dX12_needs_129, dX12_needs_131, dX12_needs_134, dX12_needs_137, dX12_needs_139, dX12_needs_141, dX12_needs_142, dX12_needs_143, dX12_needs_144, dX12_needs_147, dX12_needs_148, dX12_needs_151, dX12_needs_152, dX12_needs_154, dX12_needs_155, dX12_needs_156, dX12_needs_157, dX12_needs_159, dX12_needs_161, dX12_needs_164, dX12_needs_167, dX12_needs_170, dX12_needs_171, dX12_needs_173, dX12_needs_174, dX12_needs_176, dX12_needs_179, dX12_needs_180, dX12_needs_183, dX12_needs_186, dX12_needs_189, dX12_needs_192, dX12_needs_194, dX12_needs_197, dX12_needs_198, dX12_needs_201, dX12_needs_202, dX12_needs_203, dX12_needs_204, dX12_needs_207, dX12_needs_208, dX12_needs_210, dX12_needs_211, dX12_needs_214, dX12_needs_215, dX12_needs_216, dX12_needs_217, dX12_needs_220, dX12_needs_221, dX12_needs_222, dX12_needs_225, dX12_needs_226, dX12_needs_227, dX12_needs_228, dX12_needs_231, dX12_needs_232, dX12_needs_233, dX12_needs_236, dX12_needs_237, dX12_needs_240, dX12_needs_241, dX12_needs_242, dX12_needs_243, dX12_needs_244, dX12_needs_245, dX12_needs_246, dX12_needs_249, dX12_needs_250, dX12_needs_251, dX12_needs_252, dX12_needs_253]
        simp (disch := omega) only [li, nI_add, nI_clamp, nI_ltI, nI_leI, nI_eq, inx_iff, a31, nI_1shl', nI_shr', div_bit, tb1, tb0, fa_or, fa_and, nI_not, pk_sub, nI_dec, e1]
        refine ⟨fun h => ?_, fun h => ?_⟩
        · rw [show i = np by omega]
          exact tail _ _ _ _ _ _ _ mI1 K1 hNk (bsO_le _) g1 g2 g3 hno
        · have := loop2 h (np + 1) (i + 1) v7 v8 mI1 K1 (by omega) (by omega) (by omega) g1 g2 g3
          rw [bsJ_0 (by omega), onJ_0 (by omega)] at this
          exact this
    refine hG.run [70] 60 ?_
    simp [wp, stepI, ln, jmp, cmpI, Value.category, rd, tyF, va_rf, st1, st2, clr, isLg, CB, inx_0, inx_1, inx_2, inx_3, inx_4, inx_5, bI_0, bI_1, bI_ok, fin3, tyX12, entL, q0, dX12_needs_0, dX12_needs_1, cI_12_403, dX12_needs_4, dX12_needs_5, dX12_needs_7, dX12_needs_8, dX12_needs_11, dX12_needs_12, dX12_needs_13, dX12_needs_14, fT_12_117, dX12_needs_17, dX12_needs_18, dX12_needs_19, dX12_needs_22, dX12_needs_23, dX12_needs_26, dX12_needs_27, dX12_needs_28, dX12_needs_29, dX12_needs_30, dX12_needs_31, dX12_needs_34, dX12_needs_35, dX12_needs_36, dX12_needs_37, dX12_needs_40, dX12_needs_41, dX12_needs_42, dX12_needs_45, dX12_needs_46, dX12_needs_49, dX12_needs_50, dX12_needs_51, dX12_needs_54, dX12_needs_55, fT_12_120, dX12_needs_58, dX12_needs_59, dX12_needs_60, dX12_needs_61, dX12_needs_63, dX12_needs_64, dX12_needs_65, dX12_needs_67, dX12_needs_68, dX12_needs_70, dX12_needs_72, dX12_needs_73, fT_12_13, dX12_needs_76, dX12_needs_77, dX12_needs_78, dX12_needs_81, dX12_needs_83, dX12_needs_84, dX12_needs_85, dX12_needs_87, dX12_needs_89, dX12_needs_90, dX12_needs_93, dX12_needs_94, dX12_needs_95, dX12_needs_98, dX12_needs_99, dX12_needs_101, dX12_needs_103, dX12_needs_106, dX12_needs_107, dX12_needs_109, dX12_needs_111, dX12_needs_114, dX12_needs_115, dX12_needs_118, dX12_needs_121, dX12_needs_122, dX12_needs_124, dX12_needs_125, dX12_needs_126, dX12_needs_127, dX12_needs_129, dX12_needs_131, dX12_needs_134, dX12_needs_137, dX12_needs_139, dX12_needs_141, dX12_needs_142, dX12_needs_143, dX12_needs_144, dX12_needs_147, dX12_needs_148, dX12_needs_151, dX12_needs_152, dX12_needs_154, dX12_needs_155, dX12_needs_156, dX12_needs_157, dX12_needs_159, dX12_needs_161, dX12_needs_164, dX12_needs_167, dX12_needs_170, dX12_needs_171, dX12_needs_173, dX12_needs_174, dX12_needs_176, dX12_needs_179, dX12_needs_180, dX12_needs_183, dX12_needs_186, dX12_needs_189, dX12_needs_192, dX12_needs_194, dX12_needs_197, dX12_needs_198, dX12_needs_201, dX12_needs_202, dX12_needs_203, dX12_needs_204, dX12_needs_207, dX12_needs_208, dX12_needs_210, dX12_needs_211, dX12_needs_214, dX12_needs_215, dX12_needs_216, dX12_needs_217, dX12_needs_220, dX12_needs_221, dX12_needs_222, dX12_needs_225, dX12_needs_226, dX12_needs_227, dX12_needs_228, dX12_needs_231, dX12_needs_232, dX12_needs_233, dX12_needs_236, dX12_needs_237, dX12_needs_240, dX12_needs_241, dX12_needs_242, dX12_needs_243, dX12_needs_244, dX12_needs_245, dX12_needs_246, dX12_needs_249, dX12_needs_250, dX12_needs_251, dX12_needs_252, dX12_needs_253]
    exact loop1 (np + 1) 0 none none none mI K (by omega) (by omega) (fun _ _ _ => rfl) hK KE.rf
  obtain ⟨s0, hs0, hz0⟩ := hK.room hr k
  have loop : ∀ f s, s0 - s < f → s ≤ s0 → (∀ s', s' < s → K ((hsh k + s') % 8192) ≠ k + 1) → G 13 [some (.ref 129), some (.int (nI k)), some (.int (nI ((hsh k + s) % 8192))), none, none, none, none, none, none] [] (sh, mI, mL, mR, n) := by
    intro f
    induction f with
    | zero => intro s h; omega
    | succ f ih =>
      intro s hf hs hal
      have hat : (hsh k + s) % 8192 < 8192 := Nat.mod_lt _ (by decide)
      obtain ⟨y1, y2, y3⟩ := hK.1 _ hat
      refine hG.run [13, 61] 60 ?_
      simp [wp, stepI, ln, jmp, cmpI, Value.category, rd, tyF, va_rf, st1, st2, clr, isLg, CB, inx_0, inx_1, inx_2, inx_3, inx_4, inx_5, bI_0, bI_1, bI_ok, fin3, tyX12, entL, q0, q_knownKey, q_knownNeeds, dX12_needs_0, dX12_needs_1, cI_12_403, dX12_needs_4, dX12_needs_5, dX12_needs_7, dX12_needs_8, dX12_needs_11, dX12_needs_12, dX12_needs_13, dX12_needs_14, fT_12_117, dX12_needs_17, dX12_needs_18, dX12_needs_19, dX12_needs_22, dX12_needs_23, dX12_needs_26, dX12_needs_27, dX12_needs_28, dX12_needs_29, dX12_needs_30, dX12_needs_31, dX12_needs_34, dX12_needs_35, dX12_needs_36, dX12_needs_37, dX12_needs_40, dX12_needs_41, dX12_needs_42, dX12_needs_45, dX12_needs_46, dX12_needs_49, dX12_needs_50, dX12_needs_51, dX12_needs_54, dX12_needs_55, fT_12_120, dX12_needs_58, dX12_needs_59, dX12_needs_60, dX12_needs_61, dX12_needs_63, dX12_needs_64, dX12_needs_65, dX12_needs_67, dX12_needs_68, dX12_needs_70, dX12_needs_72, dX12_needs_73, fT_12_13, dX12_needs_76, dX12_needs_77, dX12_needs_78, dX12_needs_81, dX12_needs_83, dX12_needs_84, dX12_needs_85, dX12_needs_87, dX12_needs_89, dX12_needs_90, dX12_needs_93, dX12_needs_94, dX12_needs_95, dX12_needs_98, dX12_needs_99, dX12_needs_101, dX12_needs_103, dX12_needs_106, dX12_needs_107, dX12_needs_109, dX12_needs_111, dX12_needs_114, dX12_needs_115, dX12_needs_118, dX12_needs_121, dX12_needs_122, dX12_needs_124, dX12_needs_125, dX12_needs_126, dX12_needs_127, dX12_needs_129, dX12_needs_131, dX12_needs_134, dX12_needs_137, dX12_needs_139, dX12_needs_141, dX12_needs_142, dX12_needs_143, dX12_needs_144, dX12_needs_147, dX12_needs_148, dX12_needs_151, dX12_needs_152, dX12_needs_154, dX12_needs_155, dX12_needs_156, dX12_needs_157, dX12_needs_159, dX12_needs_161, dX12_needs_164, dX12_needs_167, dX12_needs_170, dX12_needs_171, dX12_needs_173, dX12_needs_174, dX12_needs_176, dX12_needs_179, dX12_needs_180, dX12_needs_183, dX12_needs_186, dX12_needs_189, dX12_needs_192, dX12_needs_194, dX12_needs_197, dX12_needs_198, dX12_needs_201, dX12_needs_202, dX12_needs_203, dX12_needs_204, dX12_needs_207, dX12_needs_208, dX12_needs_210, dX12_needs_211, dX12_needs_214, dX12_needs_215, dX12_needs_216, dX12_needs_217, dX12_needs_220, dX12_needs_221, dX12_needs_222, dX12_needs_225, dX12_needs_226, dX12_needs_227, dX12_needs_228, dX12_needs_231, dX12_needs_232, dX12_needs_233, dX12_needs_236, dX12_needs_237, dX12_needs_240, dX12_needs_241, dX12_needs_242, dX12_needs_243, dX12_needs_244, dX12_needs_245, dX12_needs_246, dX12_needs_249, dX12_needs_250, dX12_needs_251, dX12_needs_252, dX12_needs_253]
      simp (disch := omega) only [li, nI_add, nI_clamp, nI_ltI, nI_leI, nI_eq, inx_iff, a31, nI_1shl', nI_shr', div_bit, tb1, tb0, fa_or, fa_and, nI_not, pk_sub, nI_dec, y1, at_next]
      refine ⟨hat, fun z => ⟨hat, fun _ => main (hK.none z hal) _, fun w => absurd z w⟩, fun z => ⟨hat, fun z2 => ⟨hat, fun w => absurd w z, fun _ => ⟨hat, hP _ _ ⟨?_, mI, K, rfl, fun _ _ _ => rfl, hK, KE.rf⟩⟩⟩, fun z2 => ?_⟩⟩
      · rw [(y3 z).2, z2]; rfl
      · have := ih (s + 1) (by
          rcases Nat.lt_or_ge s s0 with w | w
          · omega
          · rw [show s = s0 by omega] at z; exact absurd hz0 z) (by
          rcases Nat.lt_or_ge s s0 with w | w
          · omega
          · rw [show s = s0 by omega] at z; exact absurd hz0 z) (fun s' hs' => by
          rcases Nat.lt_or_ge s' s with w | w
          · exact hal s' w
          · rw [show s' = s by omega]; exact z2)
        rw [show (hsh k + (s + 1)) % 8192 = ((hsh k + s) % 8192 + 1) % 8192 by omega] at this
        exact this
  have go := loop (s0 + 1) 0 (by omega) (by omega) (fun s' h => by omega)
  rw [Nat.add_zero, Nat.mod_eq_of_lt (hsh_lt k)] at go
  refine hG.run [13] 60 ?_
  simp [wp, stepI, ln, jmp, cmpI, Value.category, rd, tyF, va_rf, st1, st2, clr, isLg, CB, inx_0, inx_1, inx_2, inx_3, inx_4, inx_5, bI_0, bI_1, bI_ok, fin3, tyX12, entL, q0, dX12_needs_0, dX12_needs_1, cI_12_403, dX12_needs_4, dX12_needs_5, dX12_needs_7, dX12_needs_8, dX12_needs_11, dX12_needs_12, dX12_needs_13, dX12_needs_14, fT_12_117, dX12_needs_17, dX12_needs_18, dX12_needs_19, dX12_needs_22, dX12_needs_23, dX12_needs_26, dX12_needs_27, dX12_needs_28, dX12_needs_29, dX12_needs_30, dX12_needs_31, dX12_needs_34, dX12_needs_35, dX12_needs_36, dX12_needs_37, dX12_needs_40, dX12_needs_41, dX12_needs_42, dX12_needs_45, dX12_needs_46, dX12_needs_49, dX12_needs_50, dX12_needs_51, dX12_needs_54, dX12_needs_55, fT_12_120, dX12_needs_58, dX12_needs_59, dX12_needs_60, dX12_needs_61, dX12_needs_63, dX12_needs_64, dX12_needs_65, dX12_needs_67, dX12_needs_68, dX12_needs_70, dX12_needs_72, dX12_needs_73, fT_12_13, dX12_needs_76, dX12_needs_77, dX12_needs_78, dX12_needs_81, dX12_needs_83, dX12_needs_84, dX12_needs_85, dX12_needs_87, dX12_needs_89, dX12_needs_90, dX12_needs_93, dX12_needs_94, dX12_needs_95, dX12_needs_98, dX12_needs_99, dX12_needs_101, dX12_needs_103, dX12_needs_106, dX12_needs_107, dX12_needs_109, dX12_needs_111, dX12_needs_114, dX12_needs_115, dX12_needs_118, dX12_needs_121, dX12_needs_122, dX12_needs_124, dX12_needs_125, dX12_needs_126, dX12_needs_127, dX12_needs_129, dX12_needs_131, dX12_needs_134, dX12_needs_137, dX12_needs_139, dX12_needs_141, dX12_needs_142, dX12_needs_143, dX12_needs_144, dX12_needs_147, dX12_needs_148, dX12_needs_151, dX12_needs_152, dX12_needs_154, dX12_needs_155, dX12_needs_156, dX12_needs_157, dX12_needs_159, dX12_needs_161, dX12_needs_164, dX12_needs_167, dX12_needs_170, dX12_needs_171, dX12_needs_173, dX12_needs_174, dX12_needs_176, dX12_needs_179, dX12_needs_180, dX12_needs_183, dX12_needs_186, dX12_needs_189, dX12_needs_192, dX12_needs_194, dX12_needs_197, dX12_needs_198, dX12_needs_201, dX12_needs_202, dX12_needs_203, dX12_needs_204, dX12_needs_207, dX12_needs_208, dX12_needs_210, dX12_needs_211, dX12_needs_214, dX12_needs_215, dX12_needs_216, dX12_needs_217, dX12_needs_220, dX12_needs_221, dX12_needs_222, dX12_needs_225, dX12_needs_226, dX12_needs_227, dX12_needs_228, dX12_needs_231, dX12_needs_232, dX12_needs_233, dX12_needs_236, dX12_needs_237, dX12_needs_240, dX12_needs_241, dX12_needs_242, dX12_needs_243, dX12_needs_244, dX12_needs_245, dX12_needs_246, dX12_needs_249, dX12_needs_250, dX12_needs_251, dX12_needs_252, dX12_needs_253]
  simp (disch := omega) only [li, nI_add, nI_clamp, nI_ltI, nI_leI, nI_eq, inx_iff, a31, nI_1shl', nI_shr', div_bit, tb1, tb0, fa_or, fa_and, nI_not, pk_sub, nI_dec, hs_ok, hs_ok2]
  exact go
