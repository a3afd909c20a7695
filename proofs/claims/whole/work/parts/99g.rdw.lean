/-! the wish: what the class reads of it, with fuel; mode 4 a part, 0 to 3 a level, 5 to 8 a level's loop -/
abbrev CR : Type := (Nat × Nat) ⊕ (Nat × List Int32)
def wcF (t : Nat → Nat) (N p : Nat) : Int32 := if lxK t N p = 1 ∧ wix (lxWd t N p) < 21 then wdF (wix (lxWd t N p)) else nI 0
def wpB (t : Nat → Nat) (N p : Nat) : Bool := decide (lxK t N p = 2) || !decide (wcF t N p = nI 0)
def stV (t : Nat → Nat) (N p : Nat) : Int32 := if lxK t N p = 2 then nI (lxNm t N p) else wcF t N p
def cpB (x : Option CR) (k : Nat × List Int32 → Option CR) : Option CR := match x with | none => none | some (.inl e) => some (.inl e) | some (.inr y) => k y
def glu (l : List Int32) (q : CR) : CR := match q with | .inl e => .inl e | .inr y => .inr (y.1, l ++ y.2)
def wcG (l : List Int32) (x : Option CR) : Option CR := match x with | none => none | some q => some (glu l q)
def cpP (t : Nat → Nat) (N : Nat) (g : Nat → Nat → Nat → Nat → Option CR) (d p : Nat) : Option CR := if wpB t N p = false ∧ isW t N p 10631 = false ∧ isG t N p 40 = false then some (.inl (1, lxBg t N p)) else if 5 ≤ d then some (.inl (5, lxBg t N p)) else if wpB t N p = true then some (.inr (lxE t N p, [stV t N p])) else if isW t N p 10631 = true then cpB (g 4 (d + 1) 0 (lxE t N p)) (fun x => some (.inr (x.1, x.2 ++ [-nI 6]))) else cpB (g 0 (d + 1) 0 (lxE t N p)) (fun x => match sgF t N x.1 41 with | some e => some (.inl (e, lxBg t N x.1)) | none => some (.inr (lxE t N x.1, x.2)))
def cpV (g : Nat → Nat → Nat → Nat → Option CR) (m d p : Nat) : Option CR := cpB (g (m + 1) d 0 p) (fun x => wcG x.2 (g (5 + m) d (if m = 1 then 1 else 1000) x.1))
def cpO (t : Nat → Nat) (N : Nat) (g : Nat → Nat → Nat → Nat → Option CR) (m d r p : Nat) : Option CR := if r = 0 ∨ jnF t N p (m - 5) = nI 0 then some (.inr (p, [])) else cpB (g (m - 4) d 0 (lxE t N p)) (fun x => wcG (x.2 ++ [jnF t N p (m - 5)]) (g m d (r - 1) x.1))
def cp (t : Nat → Nat) (N : Nat) : Nat → Nat → Nat → Nat → Nat → Option CR
  | 0 => fun _ _ _ _ => none
  | f + 1 => fun m d r p => if m = 4 then cpP t N (cp t N f) d p else if m < 4 then cpV (cp t N f) m d p else cpO t N (cp t N f) m d r p
theorem cp_0 {t : Nat → Nat} {N m d r p : Nat} : cp t N 0 m d r p = none := rfl
theorem cp_s {t : Nat → Nat} {N f m d r p : Nat} : cp t N (f + 1) m d r p = if m = 4 then cpP t N (cp t N f) d p else if m < 4 then cpV (cp t N f) m d p else cpO t N (cp t N f) m d r p := rfl
theorem cp_4 {t : Nat → Nat} {N f d r p : Nat} : cp t N (f + 1) 4 d r p = cpP t N (cp t N f) d p := by rw [cp_s, if_pos rfl]
theorem cp_v {t : Nat → Nat} {N f m d r p : Nat} (h : m < 4) : cp t N (f + 1) m d r p = cpV (cp t N f) m d p := by rw [cp_s, if_neg (by omega), if_pos h]
theorem cp_o {t : Nat → Nat} {N f m d r p : Nat} (h : 4 < m) : cp t N (f + 1) m d r p = cpO t N (cp t N f) m d r p := by rw [cp_s, if_neg (by omega), if_neg (by omega)]
theorem cpB_i {x : Option CR} {k : Nat × List Int32 → Option CR} {q : CR} (h : cpB x k = some q) : (∃ e, x = some (.inl e) ∧ q = .inl e) ∨ ∃ y, x = some (.inr y) ∧ k y = some q := by
  rcases x with _ | (e | y)
  · cases h
  · exact Or.inl ⟨e, rfl, (Option.some.inj h).symm⟩
  · exact Or.inr ⟨y, rfl, h⟩
theorem wcG_i {l : List Int32} {x : Option CR} {q : CR} (h : wcG l x = some q) : ∃ y, x = some y ∧ q = glu l y := by
  rcases x with _ | y
  · cases h
  · exact ⟨y, rfl, (Option.some.inj h).symm⟩
theorem wsW_k {t : Nat → Nat} {N p v : Nat} (h : isW t N p v = true) : lxK t N p = 1 := by
  unfold isW at h
  rw [Bool.and_eq_true] at h
  exact of_decide_eq_true h.1
theorem wsG_k {t : Nat → Nat} {N p v : Nat} (h : isG t N p v = true) : lxK t N p = 3 := by
  unfold isG at h
  rw [Bool.and_eq_true] at h
  exact of_decide_eq_true h.1
theorem wpB_k {t : Nat → Nat} {N p : Nat} (h : wpB t N p = true) : lxK t N p = 2 ∨ lxK t N p = 1 := by
  unfold wpB at h
  rw [Bool.or_eq_true] at h
  rcases h with h | h
  · exact Or.inl (of_decide_eq_true h)
  · by_cases hk : lxK t N p = 1
    · exact Or.inr hk
    · unfold wcF at h
      rw [if_neg (fun y => hk y.1)] at h
      exact absurd h (by decide)
theorem jnF_k {t : Nat → Nat} {N p lv : Nat} (h : ¬ jnF t N p lv = nI 0) : lxK t N p ≠ 0 := by
  intro hk
  have w : ∀ v, isW t N p v = false := fun v => by
    cases z : isW t N p v with
    | false => rfl
    | true => have := wsW_k z; omega
  have g : ∀ v, isG t N p v = false := fun v => by
    cases z : isG t N p v with
    | false => rfl
    | true => have := wsG_k z; omega
  apply h
  unfold jnF
  simp only [w, g, Bool.false_eq_true, if_false, ite_self]
theorem lxE_s {t : Nat → Nat} {N p : Nat} (hp : p ≤ N) (hk : lxK t N p ≠ 0) : p + 1 ≤ lxE t N p ∧ lxE t N p ≤ N := by
  have h1 := lxBg_le (t := t) hp
  have h2 := lxE_le (t := t) hp
  have h3 := lxE_gt hp hk
  omega
theorem lxE_m {t : Nat → Nat} {N p : Nat} (hp : p ≤ N) : p ≤ lxE t N p ∧ lxE t N p ≤ N := by
  have h1 := lxBg_le (t := t) hp
  have h2 := lxE_le (t := t) hp
  omega
theorem cp_len {t : Nat → Nat} {N : Nat} : ∀ f m d r p x, p ≤ N → cp t N f m d r p = some (.inr x) → p ≤ x.1 ∧ x.1 ≤ N ∧ x.2.length ≤ x.1 - p := by
  intro f
  induction f with
  | zero => intro m d r p x _ h; rw [cp_0] at h; cases h
  | succ f ih =>
    intro m d r p x hp h
    rcases Nat.lt_trichotomy m 4 with hm | hm | hm
    · rw [cp_v hm] at h
      unfold cpV at h
      rcases cpB_i h with ⟨e, -, h2⟩ | ⟨y, h1, h2⟩
      · cases h2
      · obtain ⟨z, h3, h4⟩ := wcG_i h2
        obtain ⟨a1, a2, a3⟩ := ih _ _ _ _ y hp h1
        rcases z with e | z
        · cases h4
        · obtain ⟨b1, b2, b3⟩ := ih _ _ _ _ z a2 h3
          have h5 := Sum.inr.inj h4
          subst h5
          refine ⟨by omega, b2, ?_⟩
          show (y.2 ++ z.2).length ≤ z.1 - p
          rw [List.length_append]
          omega
    · rw [hm, cp_4] at h
      unfold cpP at h
      by_cases c1 : wpB t N p = false ∧ isW t N p 10631 = false ∧ isG t N p 40 = false
      · rw [if_pos c1] at h; cases h
      rw [if_neg c1] at h
      by_cases c2 : 5 ≤ d
      · rw [if_pos c2] at h; cases h
      rw [if_neg c2] at h
      by_cases c3 : wpB t N p = true
      · rw [if_pos c3] at h
        have hk : lxK t N p ≠ 0 := by have := wpB_k c3; omega
        have := lxE_s hp hk
        have h5 := Sum.inr.inj (Option.some.inj h)
        subst h5
        exact ⟨by show p ≤ lxE t N p; omega, this.2, by show 1 ≤ lxE t N p - p; omega⟩
      rw [if_neg c3] at h
      by_cases c4 : isW t N p 10631 = true
      · rw [if_pos c4] at h
        have hk : lxK t N p ≠ 0 := by have := wsW_k c4; omega
        have e1 := lxE_s hp hk
        rcases cpB_i h with ⟨e, -, h2⟩ | ⟨y, h1, h2⟩
        · cases h2
        · obtain ⟨a1, a2, a3⟩ := ih _ _ _ _ y e1.2 h1
          have h5 := Sum.inr.inj (Option.some.inj h2)
          subst h5
          refine ⟨by show p ≤ y.1; omega, a2, ?_⟩
          show (y.2 ++ [-nI 6]).length ≤ y.1 - p
          rw [List.length_append]
          show y.2.length + 1 ≤ y.1 - p
          omega
      · rw [if_neg c4] at h
        rcases cpB_i h with ⟨e, -, h2⟩ | ⟨y, h1, h2⟩
        · cases h2
        · obtain ⟨a1, a2, a3⟩ := ih _ _ _ _ y (lxE_m hp).2 h1
          have e1 := lxE_m (t := t) hp
          have e2 := lxE_m (t := t) a2
          cases hs : sgF t N y.1 41 with
          | some e => rw [hs] at h2; cases h2
          | none =>
            rw [hs] at h2
            have h5 := Sum.inr.inj (Option.some.inj h2)
            subst h5
            refine ⟨by show p ≤ lxE t N y.1; omega, e2.2, ?_⟩
            show y.2.length ≤ lxE t N y.1 - p
            omega
    · rw [cp_o hm] at h
      unfold cpO at h
      by_cases c1 : r = 0 ∨ jnF t N p (m - 5) = nI 0
      · rw [if_pos c1] at h
        have h5 := Sum.inr.inj (Option.some.inj h)
        subst h5
        exact ⟨Nat.le_refl _, hp, Nat.zero_le _⟩
      rw [if_neg c1] at h
      have e1 := lxE_s hp (jnF_k (fun z => c1 (Or.inr z)))
      rcases cpB_i h with ⟨e, -, h2⟩ | ⟨y, h1, h2⟩
      · cases h2
      · obtain ⟨z, h3, h4⟩ := wcG_i h2
        obtain ⟨a1, a2, a3⟩ := ih _ _ _ _ y e1.2 h1
        rcases z with e | z
        · cases h4
        · obtain ⟨b1, b2, b3⟩ := ih _ _ _ _ z a2 h3
          have h5 := Sum.inr.inj h4
          subst h5
          refine ⟨by show p ≤ z.1; omega, b2, ?_⟩
          show ((y.2 ++ [jnF t N p (m - 5)]) ++ z.2).length ≤ z.1 - p
          rw [List.length_append, List.length_append]
          show y.2.length + 1 + z.2.length ≤ z.1 - p
          omega
/-- the cells that the wish's reading may change -/
def WiF (R c : Nat) (mI : Nat → Nat → Int32) (mL : Nat → Nat → Int64) (mR : Nat → Nat → Option Nat) (mI' : Nat → Nat → Int32) (mL' : Nat → Nat → Int64) (mR' : Nat → Nat → Option Nat) : Prop := (∀ a k, ¬ rdW R a k → ¬ (a = R ∧ k = 5) → a ≠ R + 17 → mI' a k = mI a k) ∧ (∀ k, k < c → mI' (R + 17) k = mI (R + 17) k) ∧ (∀ a k, ¬ (a = R + 13 ∧ k = 6) → mL' a k = mL a k) ∧ ∀ a k, ¬ (a = R + 13 ∧ k = 7) → mR' a k = mR a k
theorem WiF.refl {R c : Nat} {mI : Nat → Nat → Int32} {mL : Nat → Nat → Int64} {mR : Nat → Nat → Option Nat} : WiF R c mI mL mR mI mL mR := ⟨fun _ _ _ _ _ => rfl, fun _ _ => rfl, fun _ _ _ => rfl, fun _ _ _ => rfl⟩
theorem WiF.trans {R c c' : Nat} {mI mI1 mI2 : Nat → Nat → Int32} {mL mL1 mL2 : Nat → Nat → Int64} {mR mR1 mR2 : Nat → Nat → Option Nat} (h : WiF R c mI mL mR mI1 mL1 mR1) (g : WiF R c' mI1 mL1 mR1 mI2 mL2 mR2) (hc : c ≤ c') : WiF R c mI mL mR mI2 mL2 mR2 := ⟨fun a k z y x => (g.1 a k z y x).trans (h.1 a k z y x), fun k hk => (g.2.1 k (by omega)).trans (h.2.1 k hk), fun a k z => (g.2.2.1 a k z).trans (h.2.2.1 a k z), fun a k z => (g.2.2.2 a k z).trans (h.2.2.2 a k z)⟩
theorem WiF.tk {R c : Nat} {mI mI' : Nat → Nat → Int32} {mL mL' : Nat → Nat → Int64} {mR mR' : Nat → Nat → Option Nat} (h1 : ∀ a k, ¬ rdW R a k → mI' a k = mI a k) (h2 : ∀ a k, ¬ (a = R + 13 ∧ k = 6) → mL' a k = mL a k) (h3 : ∀ a k, ¬ (a = R + 13 ∧ k = 7) → mR' a k = mR a k) : WiF R c mI mL mR mI' mL' mR' := ⟨fun a k z _ _ => h1 a k z, fun k _ => h1 _ _ (by unfold rdW; omega), h2, h3⟩
/-- the steps that stand there -/
def WiS (R : Nat) (mI : Nat → Nat → Int32) (c : Nat) (s : List Int32) : Prop := mI R 5 = nI (c + s.length) ∧ ∀ i, i < s.length → mI (R + 17) (c + i) = s.getD i 0
theorem WiS.tk {R c : Nat} {mI mI' : Nat → Nat → Int32} {s : List Int32} (h : WiS R mI c s) (h1 : ∀ a k, ¬ rdW R a k → mI' a k = mI a k) : WiS R mI' c s := ⟨(h1 _ _ (by unfold rdW; omega)).trans h.1, fun i hi => (h1 _ _ (by unfold rdW; omega)).trans (h.2 i hi)⟩
theorem getD_ap1 {s u : List Int32} {i : Nat} (h : i < s.length) : (s ++ u).getD i 0 = s.getD i 0 := by
  simp [List.getD_eq_getElem?_getD, List.getElem?_append_left h]
theorem getD_ap2 {s u : List Int32} {i : Nat} (h : s.length ≤ i) : (s ++ u).getD i 0 = u.getD (i - s.length) 0 := by
  simp [List.getD_eq_getElem?_getD, List.getElem?_append_right h]
theorem WiS.app {R c : Nat} {mI mI' : Nat → Nat → Int32} {mL mL' : Nat → Nat → Int64} {mR mR' : Nat → Nat → Option Nat} {s u : List Int32} (h : WiS R mI c s) (hF : WiF R (c + s.length) mI mL mR mI' mL' mR') (g : WiS R mI' (c + s.length) u) : WiS R mI' c (s ++ u) := by
  refine ⟨?_, fun i hi => ?_⟩
  · rw [g.1, List.length_append, Nat.add_assoc]
  · rw [List.length_append] at hi
    by_cases hs : i < s.length
    · rw [getD_ap1 hs, hF.2.1 _ (by omega)]; exact h.2 i hs
    · rw [getD_ap2 (by omega), ← g.2 (i - s.length) (by omega)]
      congr 1
      omega
theorem WiS.put {R c : Nat} {mI mI' : Nat → Nat → Int32} {s : List Int32} (h : WiS R mI c s) (v : Int32) (hm : mI' = up2 (up2 mI (R + 17) (c + s.length) v) R 5 (nI (c + s.length + 1))) : WiS R mI' c (s ++ [v]) := by
  refine ⟨?_, fun i hi => ?_⟩
  · rw [hm, up2_eq, List.length_append]; rfl
  · rw [List.length_append] at hi
    have hi' : i < s.length + 1 := hi
    rw [hm, up2_ne (by omega)]
    by_cases hs : i = s.length
    · rw [hs, up2_eq, getD_ap2 (Nat.le_refl _), Nat.sub_self]; rfl
    · rw [up2_ne (by omega), getD_ap1 (by omega)]; exact h.2 i (by omega)
theorem WiF.put {R c c' : Nat} {mI mI' : Nat → Nat → Int32} {mL : Nat → Nat → Int64} {mR : Nat → Nat → Option Nat} (v w : Int32) (hm : mI' = up2 (up2 mI (R + 17) c' v) R 5 w) (hc : c ≤ c') : WiF R c mI mL mR mI' mL mR := ⟨fun a k _ y x => by rw [hm, up2_ne y, up2_ne (fun z => x z.1)], fun k hk => by rw [hm, up2_ne (by omega), up2_ne (by omega)], fun _ _ _ => rfl, fun _ _ _ => rfl⟩
/-- what a part or a level leaves -/
def WiP (sh : Nat → Option Sh) (mI : Nat → Nat → Int32) (mL : Nat → Nat → Int64) (mR : Nat → Nat → Option Nat) (n R C TP : Nat) (t : Nat → Nat) (N c : Nat) (q : CR) (r : Option Value) (M' : Mm) : Prop := ∃ mI' mL' mR', M' = (sh, mI', mL', mR', n) ∧ WiF R c mI mL mR mI' mL' mR' ∧ (∀ x, q = .inr x → r = some (.int (nI 1)) ∧ RsM sh mI' mL' mR' R C TP t N x.1 ∧ mI' R 10 = mI R 10 ∧ WiS R mI' c x.2) ∧ ∀ e, q = .inl e → r = some (.int (nI 0)) ∧ mI' R 10 = nI (e.1 + 16 * e.2)
theorem WiP.good {sh : Nat → Option Sh} {mI mI1 : Nat → Nat → Int32} {mL mL1 : Nat → Nat → Int64} {mR mR1 : Nat → Nat → Option Nat} {n R C TP : Nat} {t : Nat → Nat} {N c : Nat} {q : CR} {x : Nat × List Int32} (hF : WiF R c mI mL mR mI1 mL1 mR1) (hq : q = .inr x) (hS : RsM sh mI1 mL1 mR1 R C TP t N x.1) (h0 : mI1 R 10 = mI R 10) (hW : WiS R mI1 c x.2) : WiP sh mI mL mR n R C TP t N c q (some (.int (nI 1))) (sh, mI1, mL1, mR1, n) := by
  refine ⟨mI1, mL1, mR1, rfl, hF, fun y hy => ?_, fun e he => ?_⟩
  · rw [hq] at hy
    have := Sum.inr.inj hy
    subst this
    exact ⟨rfl, hS, h0, hW⟩
  · rw [hq] at he; cases he
theorem WiP.bad {sh : Nat → Option Sh} {mI mI1 : Nat → Nat → Int32} {mL mL1 : Nat → Nat → Int64} {mR mR1 : Nat → Nat → Option Nat} {n R C TP : Nat} {t : Nat → Nat} {N c : Nat} {q : CR} {e : Nat × Nat} (hF : WiF R c mI mL mR mI1 mL1 mR1) (hq : q = .inl e) (hf : mI1 R 10 = nI (e.1 + 16 * e.2)) : WiP sh mI mL mR n R C TP t N c q (some (.int (nI 0))) (sh, mI1, mL1, mR1, n) := by
  refine ⟨mI1, mL1, mR1, rfl, hF, fun y hy => ?_, fun e' he => ?_⟩
  · rw [hq] at hy; cases hy
  · rw [hq] at he
    have := Sum.inl.inj he
    subst this
    exact ⟨rfl, hf⟩
theorem WiP.wr {sh : Nat → Option Sh} {mI mI1 : Nat → Nat → Int32} {mL mL1 : Nat → Nat → Int64} {mR mR1 : Nat → Nat → Option Nat} {n R C TP : Nat} {t : Nat → Nat} {N c k b : Nat} {q : CR} (hF : WiF R c mI mL mR mI1 mL1 mR1) (hq : q = .inl (k, b)) : WiP sh mI mL mR n R C TP t N c q (some (.int (nI 0))) (sh, up2 mI1 R 10 (nI (k + 16 * b)), mL1, mR1, n) :=
  WiP.bad (hF.trans (WiF.tk (c := c) (fun a j h => up2_ne (fun y => h (Or.inr ⟨y.1, Or.inl y.2⟩))) (fun _ _ _ => rfl) (fun _ _ _ => rfl)) (Nat.le_refl _)) hq (up2_eq ..)
