/-! the joint memory -/
def KpI (mI : Nat → Nat → Int32) (mL : Nat → Nat → Int64) (A : DD) : Prop := LdI mI A ∧ TlI mI mL 37 A false ∧ TlI mI mL 43 A true ∧ BrI mI A ∧ WsI mI mL A
def ldC (a : Nat) : Prop := 33 ≤ a ∧ a ≤ 36
theorem KpI.fr {mI mI' : Nat → Nat → Int32} {mL mL' : Nat → Nat → Int64} {A : DD} (h : KpI mI mL A) (hi : ∀ a k, 33 ≤ a → a ≤ 62 → mI' a k = mI a k) (hl : ∀ a k, 33 ≤ a → a ≤ 62 → mL' a k = mL a k) : KpI mI' mL' A := ⟨h.1.fr (fun a k h1 h2 _ => hi a k (by omega) (by omega)), h.2.1.fr (fun a k h1 h2 => hi a k (by omega) (by omega)) (fun a k h1 h2 => hl a k (by omega) (by omega)), h.2.2.1.fr (fun a k h1 h2 => hi a k (by omega) (by omega)) (fun a k h1 h2 => hl a k (by omega) (by omega)), h.2.2.2.1.fr (fun a k h1 h2 => hi a k (by omega) (by omega)), h.2.2.2.2.fr (fun k => hi _ k (by omega) (by omega)) (fun k => hl _ k (by omega) (by omega))⟩
theorem KpI.ld {mI mI' : Nat → Nat → Int32} {mL : Nat → Nat → Int64} {A : DD} (h : KpI mI mL A) (hI : LdI mI' A) (hi : ∀ a k, ¬ (33 ≤ a ∧ a ≤ 36) → a ≠ 59 → mI' a k = mI a k) : KpI mI' mL A := ⟨hI, h.2.1.fr (fun a k h1 h2 => hi a k (by omega) (by omega)) (fun _ _ _ _ => rfl), h.2.2.1.fr (fun a k h1 h2 => hi a k (by omega) (by omega)) (fun _ _ _ _ => rfl), h.2.2.2.1.fr (fun a k h1 h2 => hi a k (by omega) (by omega)), h.2.2.2.2.fr (fun k => hi _ k (by omega) (by omega)) (fun _ => rfl)⟩
theorem KpI.br {mI mI' : Nat → Nat → Int32} {mL mL' : Nat → Nat → Int64} {A : DD} (h : KpI mI mL A) (hI : BrI mI' A) (hi : ∀ a k, ¬ (49 ≤ a ∧ a ≤ 53) → ¬ (63 ≤ a ∧ a ≤ 80) → mI' a k = mI a k) (hl : ∀ a k, ¬ (49 ≤ a ∧ a ≤ 53) → a ≠ 63 → mL' a k = mL a k) : KpI mI' mL' A := ⟨h.1.fr (fun a k h1 h2 _ => hi a k (by omega) (by omega)), h.2.1.fr (fun a k h1 h2 => hi a k (by omega) (by omega)) (fun a k h1 h2 => hl a k (by omega) (by omega)), h.2.2.1.fr (fun a k h1 h2 => hi a k (by omega) (by omega)) (fun a k h1 h2 => hl a k (by omega) (by omega)), hI, h.2.2.2.2.fr (fun k => hi _ k (by omega) (by omega)) (fun k => hl _ k (by omega) (by omega))⟩
theorem KpI.t1 {mI mI' : Nat → Nat → Int32} {mL mL' : Nat → Nat → Int64} {A : DD} (h : KpI mI mL A) (hI : TlI mI' mL' 37 A false) (hi : ∀ a k, ¬ (37 ≤ a ∧ a ≤ 42) → mI' a k = mI a k) (hl : ∀ a k, ¬ (37 ≤ a ∧ a ≤ 42) → mL' a k = mL a k) : KpI mI' mL' A := ⟨h.1.fr (fun a k h1 h2 _ => hi a k (by omega)), hI, h.2.2.1.fr (fun a k h1 h2 => hi a k (by omega)) (fun a k h1 h2 => hl a k (by omega)), h.2.2.2.1.fr (fun a k h1 h2 => hi a k (by omega)), h.2.2.2.2.fr (fun k => hi _ k (by omega)) (fun k => hl _ k (by omega))⟩
theorem KpI.t2 {mI mI' : Nat → Nat → Int32} {mL mL' : Nat → Nat → Int64} {A : DD} (h : KpI mI mL A) (hI : TlI mI' mL' 43 A true) (hi : ∀ a k, ¬ (43 ≤ a ∧ a ≤ 48) → mI' a k = mI a k) (hl : ∀ a k, ¬ (43 ≤ a ∧ a ≤ 48) → mL' a k = mL a k) : KpI mI' mL' A := ⟨h.1.fr (fun a k h1 h2 _ => hi a k (by omega)), h.2.1.fr (fun a k h1 h2 => hi a k (by omega)) (fun a k h1 h2 => hl a k (by omega)), hI, h.2.2.2.1.fr (fun a k h1 h2 => hi a k (by omega)), h.2.2.2.2.fr (fun k => hi _ k (by omega)) (fun k => hl _ k (by omega))⟩
theorem KpI.ws {mI mI' : Nat → Nat → Int32} {mL mL' : Nat → Nat → Int64} {A : DD} (h : KpI mI mL A) (hI : LdI mI' A) (hW : WsI mI' mL' A) (hi : ∀ a k, ¬ (33 ≤ a ∧ a ≤ 36) → ¬ (58 ≤ a ∧ a ≤ 61) → mI' a k = mI a k) (hl : ∀ a k, a ≠ 62 → mL' a k = mL a k) : KpI mI' mL' A := ⟨hI, h.2.1.fr (fun a k h1 h2 => hi a k (by omega) (by omega)) (fun a k h1 h2 => hl a k (by omega)), h.2.2.1.fr (fun a k h1 h2 => hi a k (by omega) (by omega)) (fun a k h1 h2 => hl a k (by omega)), h.2.2.2.1.fr (fun a k h1 h2 => hi a k (by omega) (by omega)), hW⟩
/-- all is forgotten: nothing is kept of any school -/
theorem KpI.fg {mI : Nat → Nat → Int32} {mL : Nat → Nat → Int64} {A : DD} (h : KpI mI mL A) (A' : DD) : KpI (fgI mI) mL A' := ⟨⟨h.1.1, Or.inl rfl⟩, ⟨h.2.1.1, Or.inl rfl⟩, ⟨h.2.2.1.1, Or.inl rfl⟩, Or.inl rfl, Or.inl rfl⟩
theorem fgI_o {mI : Nat → Nat → Int32} {a k : Nat} (h : ¬ (33 ≤ a ∧ a ≤ 58)) : fgI mI a k = mI a k := by
  unfold fgI
  rw [up2_ne (by omega), up2_ne (by omega), up2_ne (by omega), up2_ne (by omega), up2_ne (by omega), up2_ne (by omega), up2_ne (by omega)]
/-- the class's half -/
def CI (sh : Nat → Option Sh) (mI : Nat → Nat → Int32) (mL : Nat → Nat → Int64) (mR : Nat → Nat → Option Nat) (n : Nat) (A : DD) (Am : Nat → DD) (lf : Nat → Nat) (x : TP) : Prop := BL sh mR ∧ 172 ≤ n ∧ AsV A ∧ (∃ C, ShA sh mI mR n 20 C A) ∧ KpI mI mL A ∧ (∀ m, m < 4 → mI (81 + 12 * m) 7 = nI (lf m) ∧ (∃ C, mR (81 + 12 * m) 0 = some C) ∧ (lf m = 1 → AsV (Am m) ∧ ∃ C, ShA sh mI mR n (81 + 12 * m) C (Am m))) ∧ TcM mI x ∧ ∀ p, p < 10 → mI 13 p = -nI 1 ∧ mI 14 p = -nI 1
theorem CI.gen {sh sh' : Nat → Option Sh} {mI mI' : Nat → Nat → Int32} {mL mL' : Nat → Nat → Int64} {mR mR' : Nat → Nat → Option Nat} {n n' : Nat} {A : DD} {Am : Nat → DD} {lf : Nat → Nat} {x : TP} (h : CI sh mI mL mR n A Am lf x) (hn : n ≤ n') (hs : ∀ a, a < n → sh' a = sh a) (hi0 : ∀ a k, a < n → ¬ (33 ≤ a ∧ a ≤ 80) → ¬ (129 ≤ a ∧ a ≤ 170) → mI' a k = mI a k) (hr : ∀ a k, a < n → ¬ (a = 64 ∧ k = 0) → mR' a k = mR a k) (hk : KpI mI' mL' A) : CI sh' mI' mL' mR' n' A Am lf x := by
  obtain ⟨h1, h2, h3, ⟨C, h4⟩, h5, h6, h7, h8⟩ := h
  refine ⟨h1.fr (fun a ha => hs a (by omega)) (h1.2.2.1.2.fr (fun a ha => hs a (by omega)) (fun a k _ _ => hr a k (by omega) (by omega))) (fun a k ha _ hz => hr a k (by omega) (by omega)), by omega, h3, ⟨C, h4.fr3 hn (by omega) hs (hr _ _ (by omega) (by omega)) (fun a k hz ha => hr a k ha (by omega)) (fun a k hz ha => hi0 a k ha (by omega) (by omega))⟩, hk, fun m hm => ?_, ⟨(hi0 _ _ (by omega) (by omega) (by omega)).trans h7.1, h7.2.1, fun k hk => ⟨(hi0 _ _ (by omega) (by omega) (by omega)).trans (h7.2.2 k hk).1, (h7.2.2 k hk).2⟩⟩, fun p hp => ⟨(hi0 _ _ (by omega) (by omega) (by omega)).trans (h8 p hp).1, (hi0 _ _ (by omega) (by omega) (by omega)).trans (h8 p hp).2⟩⟩
  obtain ⟨g1, ⟨C2, g2⟩, g3⟩ := h6 m hm
  refine ⟨(hi0 _ _ (by omega) (by omega) (by omega)).trans g1, ⟨C2, (hr _ _ (by omega) (by omega)).trans g2⟩, fun z => ?_⟩
  obtain ⟨v1, C3, v2⟩ := g3 z
  exact ⟨v1, C3, v2.fr3 hn (by omega) hs (hr _ _ (by omega) (by omega)) (fun a k hz ha => hr a k ha (by omega)) (fun a k hz ha => hi0 a k ha (by omega) (by omega))⟩
/-- the reference's half -/
def MdS (mI : Nat → Nat → Int32) (s : Nat) (A : DD) : Prop := (mI 131 s = nI (A 0 0) ∧ mI 132 s = nI (A 0 1) ∧ mI 133 s = nI (A 0 3)) ∧ (∀ p, p < A 0 0 → mI 135 (10 * s + p) = nI (A 2 p) ∧ mI 136 (10 * s + p) = nI (A 3 p)) ∧ (∀ k, k < 6 → mI 137 (6 * s + k) = nI (A 4 k)) ∧ (∀ i, i < 100 → mI 138 (100 * s + i) = nI (A 8 i)) ∧ (mI 139 s = nI (1000 * s) ∧ mI 140 s = nI (1000 * s + A 0 6)) ∧ ∀ i, i < A 0 6 → mI 141 (1000 * s + i) = nI (A 10 i)
def MdR (mI : Nat → Nat → Int32) (a b : Nat) (A : DD) : Prop := mI a b = nI (A 0 2) ∧ (∀ k, k < A 0 2 → mI a (b + (1 + k)) = nI (A 5 k) ∧ mI a (b + (41 + k)) = nI (A 6 k) ∧ mI a (b + (81 + k)) = nI (A 7 k)) ∧ ∀ p, p < A 0 0 → mI a (b + (121 + p)) = nI (A 11 p) ∧ mI a (b + (131 + p)) = nI (A 12 p)
def MI2 (mI : Nat → Nat → Int32) (A : DD) (Am : Nat → DD) (lf : Nat → Nat) (x : TP) : Prop := MdS mI 0 A ∧ MdR mI 156 0 A ∧ (∀ m, m < 4 → mI 170 m = nI (lf m) ∧ lf m ≤ 1 ∧ (lf m = 1 → MdS mI (2 + m) (Am m) ∧ MdR mI 158 (144 * m) (Am m))) ∧ TpM mI x ∧ ∃ ro : Nat → Nat, ∀ k, k < 6 → mI 137 (6 + k) = nI (ro k) ∧ ro k ≤ 9
/-- cells of the reference that its state is -/
def mdC (a k : Nat) : Prop := a = 131 ∨ a = 132 ∨ a = 133 ∨ a = 135 ∨ a = 136 ∨ a = 137 ∨ a = 138 ∨ a = 139 ∨ a = 140 ∨ a = 141 ∨ a = 156 ∨ a = 158 ∨ a = 170 ∨ a = 130 ∨ (a = 129 ∧ k = 1)
theorem MI2.fr {mI mI' : Nat → Nat → Int32} {A : DD} {Am : Nat → DD} {lf : Nat → Nat} {x : TP} (h : MI2 mI A Am lf x) (he : ∀ a k, mdC a k → mI' a k = mI a k) : MI2 mI' A Am lf x := by
  have g : ∀ a, (a = 131 ∨ a = 132 ∨ a = 133 ∨ a = 135 ∨ a = 136 ∨ a = 137 ∨ a = 138 ∨ a = 139 ∨ a = 140 ∨ a = 141 ∨ a = 156 ∨ a = 158 ∨ a = 170 ∨ a = 130) → ∀ k, mI' a k = mI a k := fun a ha k => he a k (by unfold mdC; omega)
  have fS : ∀ s B, MdS mI s B → MdS mI' s B := fun s B ⟨⟨a1, a2, a3⟩, a4, a5, a6, ⟨a7, a8⟩, a9⟩ => ⟨⟨(g _ (by omega) _).trans a1, (g _ (by omega) _).trans a2, (g _ (by omega) _).trans a3⟩, fun p hp => ⟨(g _ (by omega) _).trans (a4 p hp).1, (g _ (by omega) _).trans (a4 p hp).2⟩, fun k hk => (g _ (by omega) _).trans (a5 k hk), fun i hi => (g _ (by omega) _).trans (a6 i hi), ⟨(g _ (by omega) _).trans a7, (g _ (by omega) _).trans a8⟩, fun i hi => (g _ (by omega) _).trans (a9 i hi)⟩
  have fR : ∀ a b B, (a = 156 ∨ a = 158) → MdR mI a b B → MdR mI' a b B := fun a b B ha ⟨a1, a2, a3⟩ => ⟨(g _ (by omega) _).trans a1, fun k hk => ⟨(g _ (by omega) _).trans (a2 k hk).1, (g _ (by omega) _).trans (a2 k hk).2.1, (g _ (by omega) _).trans (a2 k hk).2.2⟩, fun p hp => ⟨(g _ (by omega) _).trans (a3 p hp).1, (g _ (by omega) _).trans (a3 p hp).2⟩⟩
  obtain ⟨h1, h2, h3, ⟨h4, h5, h6⟩, ro, h7⟩ := h
  exact ⟨fS _ _ h1, fR _ _ _ (Or.inl rfl) h2, fun m hm => ⟨(g _ (by omega) _).trans (h3 m hm).1, (h3 m hm).2.1, fun z => ⟨fS _ _ ((h3 m hm).2.2 z).1, fR _ _ _ (Or.inr rfl) ((h3 m hm).2.2 z).2⟩⟩, ⟨(he _ _ (by unfold mdC; omega)).trans h4, h5, fun k hk => ⟨(g _ (by omega) _).trans (h6 k hk).1, (h6 k hk).2⟩⟩, ro, fun k hk => ⟨(g _ (by omega) _).trans (h7 k hk).1, (h7 k hk).2⟩⟩
theorem MI2.eqf {mI mI' : Nat → Nat → Int32} {A : DD} {Am : Nat → DD} {lf : Nat → Nat} {x : TP} {S F : List Nat} (h : MI2 mI A Am lf x) (he : Eqf S F mI mI') (hS : ∀ a ∈ S, a = 159 ∨ a = 160 ∨ a = 161 ∨ a = 162 ∨ a = 163 ∨ a = 157 ∨ a = 165 ∨ a = 166 ∨ a = 167 ∨ a = 168 ∨ a = 169 ∨ (146 ≤ a ∧ a ≤ 155)) (hF : 1 ∉ F) : MI2 mI' A Am lf x := h.fr (fun a k hz => he a k (fun z => by
  have := hS a z
  unfold mdC at hz
  omega) (fun z => by
  unfold mdC at hz
  rcases z with ⟨rfl, z⟩
  have : k = 1 := by omega
  rw [this] at z
  exact hF z))
theorem MI2.m {mI : Nat → Nat → Int32} {A : DD} {Am : Nat → DD} {lf : Nat → Nat} {x : TP} (h : MI2 mI A Am lf x) (hV : AsV A) : PupM mI (A 0 0) ∧ SayM mI (A 0 2) (A 5) (A 6) (A 7) ∧ SlM mI (A 0 0) (A 0 3) (A 2) ∧ TalM mI (A 0 0) (A 3) (A 4) ∧ LikM mI (A 0 0) (aLk A) ∧ WisM mI (A 0 6) (A 10) ∧ SeaM mI (A 0 0) (A 11) (A 12) ∧ mI 132 0 = nI (A 0 1) := by
  obtain ⟨⟨v1, v2, v3, v4, v5⟩, w1, w2, w3, w4, w5, w6, w7⟩ := hV
  obtain ⟨⟨⟨a1, a2, a3⟩, a4, a5, a6, ⟨a7, a8⟩, a9⟩, ⟨b1, b2, b3⟩, -⟩ := h
  simp only [Nat.mul_zero, Nat.zero_add] at a4 a5 a6 a7 a8 a9 b2 b3
  refine ⟨⟨a1, v1⟩, ⟨b1, v3, fun k hk => ⟨(b2 k hk).1, (b2 k hk).2.1, (b2 k hk).2.2, by have := (w3 k hk).1; omega, by have := (w3 k hk).2.1; omega, (w3 k hk).2.2.2⟩⟩, ⟨a3, v4, fun p hp => ⟨(a4 p hp).1, (w1 p hp).1⟩⟩, ⟨fun p hp => ⟨(a4 p hp).2, (w1 p hp).2⟩, fun k hk => ⟨a5 k hk, w2 k hk⟩⟩, fun a b ha hb => ⟨a6 _ (by omega), w4 _ (by omega)⟩, ⟨a7, a8, v5, fun i hi => ⟨a9 i hi, w5 i hi⟩⟩, fun p hp => ⟨(b3 p hp).1, by have := (w6 p hp).1; omega, (b3 p hp).2, by have := (w6 p hp).2; omega⟩, a2⟩
theorem isP_A {mI : Nat → Nat → Int32} {A : DD} (h : PupM mI (A 0 0)) (x : Int32) : isP mI x = aP A x := by
  unfold isP aP isP
  rw [h.1]
theorem is2_A {mI : Nat → Nat → Int32} {A : DD} (h : PupM mI (A 0 0)) (x y : Int32) : is2 mI x y = a2 A x y := by
  unfold is2 a2
  rw [isP_A h, isP_A h]
def JJ (M : Mm) : Prop := ML M.1 M.2.2.2.1 ∧ M.1 171 = some (.inr (.long, 1)) ∧ ∃ A Am lf x, CI M.1 M.2.1 M.2.2.1 M.2.2.2.1 M.2.2.2.2 A Am lf x ∧ MI2 M.2.1 A Am lf x
theorem mlT_c : ∀ x ∈ mlT, 129 ≤ x.2.1 ∧ x.2.1 ≤ 170 := by decide
theorem ML.fr {sh sh' : Nat → Option Sh} {mR mR' : Nat → Nat → Option Nat} (h : ML sh mR) (hs : ∀ a, a < 172 → sh' a = sh a) (hr : ∀ k, mR' 129 k = mR 129 k) : ML sh' mR' := ⟨(hs _ (by decide)).trans h.1, fun x hx => ⟨(hr _).trans (h.2 x hx).1, (hs _ (by have := mlT_c x hx; omega)).trans (h.2 x hx).2⟩⟩
theorem jj_r {sh : Nat → Option Sh} {mI mI1 mI2 : Nat → Nat → Int32} {mL mL1 mL2 : Nat → Nat → Int64} {mR mR1 : Nat → Nat → Option Nat} {n : Nat} {A : DD} {Am : Nat → DD} {lf : Nat → Nat} {x : TP} (h : CI sh mI mL mR n A Am lf x) (hL : ML sh mR) (h171 : sh 171 = some (.inr (.long, 1))) (hi : ∀ a k, ¬ (33 ≤ a ∧ a ≤ 80) → mI1 a k = mI a k) (hr : ∀ a k, ¬ (a = 64 ∧ k = 0) → mR1 a k = mR a k) (hk : KpI mI1 mL1 A) (hi2 : ∀ a k, ¬ (129 ≤ a ∧ a ≤ 170) → mI2 a k = mI1 a k) (hl2 : ∀ a k, ¬ (129 ≤ a ∧ a ≤ 171) → mL2 a k = mL1 a k) (hm : MI2 mI2 A Am lf x) : JJ (sh, mI2, mL2, mR1, n) :=
  ⟨hL.fr (fun _ _ => rfl) (fun k => hr _ _ (by omega)), h171, A, Am, lf, x, h.gen (Nat.le_refl _) (fun _ _ => rfl) (fun a k _ h1 h2 => (hi2 a k h2).trans (hi a k h1)) (fun a k _ h1 => hr a k h1) (hk.fr (fun a k h1 h2 => hi2 a k (by omega)) (fun a k h1 h2 => hl2 a k (by omega))), hm⟩
theorem eqf_o {S F : List Nat} {f g : Nat → Nat → Int32} (he : Eqf S F f g) (hS : ∀ a ∈ S, 129 ≤ a ∧ a ≤ 170) : ∀ a k, ¬ (129 ≤ a ∧ a ≤ 170) → g a k = f a k := fun a k h => he a k (fun z => h (hS a z)) (fun z => h (by omega))
theorem thr_o (mI : Nat → Nat → Int32) : ∀ a k, ¬ (129 ≤ a ∧ a ≤ 170) → thr mI a k = mI a k := eqf_o (thr_eqf mI) (fun a h => by cases h)
theorem MI2.cl {mI mI1 : Nat → Nat → Int32} {A : DD} {Am : Nat → DD} {lf : Nat → Nat} {x : TP} (h : MI2 mI A Am lf x) (hi : ∀ a k, ¬ (33 ≤ a ∧ a ≤ 80) → mI1 a k = mI a k) : MI2 mI1 A Am lf x := h.fr (fun a k z => hi a k (by unfold mdC at z; omega))
theorem MI2.th {mI : Nat → Nat → Int32} {A : DD} {Am : Nat → DD} {lf : Nat → Nat} {x : TP} (h : MI2 mI A Am lf x) : MI2 (thr mI) A Am lf x := h.eqf (thr_eqf mI) (fun a h => by cases h) (by decide)
/-! the walk of the law -/
def SCC : Nat := 1000000022
def fixM (N : Nat) (xs : Nat → Int32) (M : Mm) : Mm := (fun a => if a = SCC then some (.inr (.int, N)) else M.1 a, fun a k => if a = SCC then xs k else M.2.1 a k, M.2.2.1, M.2.2.2.1, M.2.2.2.2)
def GL (l : Launch) (X : Cx) (N : Nat) (xs : Nat → Int32) (P : Option Value → Mm → Prop) (G : Nat → Nat → Nat → List (Option Value) → List Value → Mm → Prop) : Prop :=
  Ga l X 13 false code (some .boolean) 2048 601024 7293034 P G ∧ (∀ k q k' q' pc L st M, k ≤ k' → q ≤ q' → G k' q' pc L st M → G k q pc L st M) ∧ (∀ k q pc L st M, (M.2.2.2.2 ≤ k → G k q pc L st M) → G k q pc L st M) ∧ (∀ k q pc L st M, G k q pc L st (fixM N xs M) → G k q pc L st M) ∧
  ∀ (k q pc : Nat) (L : List (Option Value)) (M : Mm) (st As rest : List Value) (d' : Nat) (Post' : Option Value → Mm → Prop), decode code pc = .ok (.invokestatic 108, 3) → CnH l X d' As M Post' → d' + 1 ≤ 2048 → As.length = 3 → (rest.map (fun v => v.category)).sum ≤ 8 → st = As.reverse ++ rest → (∀ r M', Post' r M' → G (k + 1) (q + 6) (pc + 3) L (r.toList ++ rest) M') → k + 1 ≤ 601024 → q + 6 ≤ 7293034 → G k q pc L st M
def lL (i : Nat) (v5 v6 : Option Value) : List (Option Value) := [some (.ref 1000000022), some (.ref 0), some (.ref 129), some (.ref 171), some (.int (nI i)), v5, v6]
theorem KpI.nd {mI mI' : Nat → Nat → Int32} {mL mL' : Nat → Nat → Int64} {A : DD} (h : KpI mI mL A) (hi : ∀ a k, ¬ (54 ≤ a ∧ a ≤ 57) → mI' a k = mI a k) (hl : ∀ a k, ¬ (54 ≤ a ∧ a ≤ 57) → mL' a k = mL a k) : KpI mI' mL' A := ⟨h.1.fr (fun a k h1 h2 _ => hi a k (by omega)), h.2.1.fr (fun a k h1 h2 => hi a k (by omega)) (fun a k h1 h2 => hl a k (by omega)), h.2.2.1.fr (fun a k h1 h2 => hi a k (by omega)) (fun a k h1 h2 => hl a k (by omega)), h.2.2.2.1.fr (fun a k h1 h2 => hi a k (by omega)), h.2.2.2.2.fr (fun k => hi _ k (by omega)) (fun k => hl _ k (by omega))⟩
/-! the two answers are one -/
theorem sure_e {mI : Nat → Nat → Int32} {A : DD} (h : PupM mI (A 0 0)) (x y : Int32) : sureA mI (A 0 0) (A 0 2) (A 5) (A 6) x y = aSur A x y := by unfold sureA aSur; rw [is2_A h]
theorem span_e {mI : Nat → Nat → Int32} {A : DD} (h : PupM mI (A 0 0)) (x y : Int32) : spanA mI (A 0 0) (A 0 2) (A 5) (A 6) x y = aSpan A x y := by unfold spanA aSpan; rw [isP_A h]
theorem row_e {mI : Nat → Nat → Int32} {A : DD} (h : PupM mI (A 0 0)) (x : Int32) : rowA mI (A 0 0) (A 0 2) (A 5) (A 6) (A 7) x = aRow A x := by unfold rowA aRow; rw [isP_A h]
theorem new_e {mI : Nat → Nat → Int32} {A : DD} (h : PupM mI (A 0 0)) (x : Int32) : newA mI (A 0 0) (A 0 2) (A 5) (A 6) x = aNew A x := by unfold newA aNew; rw [isP_A h]
theorem chance_e {mI : Nat → Nat → Int32} {A : DD} (h : PupM mI (A 0 0)) (x y w : Int32) : chA mI (A 0 0) (A 0 2) (A 5) (A 6) (A 0 3) (A 2) x y w = aCh A x y w := by unfold chA aCh aW aWB; rw [is2_A h]
theorem wish_e {mI : Nat → Nat → Int32} {A : DD} (h : PupM mI (A 0 0)) (x y : Int32) : wisA mI (A 0 0) (A 0 2) (A 5) (A 6) (A 2) (A 0 6) (evD (A 0 6) (A 10)) (aLk A) (A 3) x y = aWi A x y := by unfold wisA aWi; rw [is2_A h]
theorem rest_e {mI : Nat → Nat → Int32} {A : DD} (h : PupM mI (A 0 0)) (x y : Int32) : rstA mI (A 0 0) (rsW (A 0 0) (A 0 2) (A 5) (A 6) (A 2) (A 0 6) (evD (A 0 6) (A 10)) (aLk A) (A 3)) x y = aRst A x y := by unfold rstA aRst aV; rw [isP_A h]
theorem pup_e {mI : Nat → Nat → Int32} {A : DD} {Am : Nat → DD} {lf : Nat → Nat} {t : TP} (h : MI2 mI A Am lf t) (hV : AsV A) (x w : Int32) : pupilA mI x w = aPup A x w := by
  obtain ⟨p1, p2, p3, p4, p5, p6, p7, p8⟩ := h.m hV
  unfold pupilA aPup
  rw [isP_A p1]
  cases hx : aP A x with
  | false => rfl
  | true =>
    obtain ⟨p, hp, rfl⟩ := aP_i hV hx
    have hnp := hV.1.1
    rw [nI_clamp (by omega), (p3.2.2 p hp).1, (p4.1 p hp).1, (p7 p hp).1, (p7 p hp).2.2.1]
theorem lt_0n : ∀ s, s ≤ 12 → decide (nI 0 < nI s) = !decide (s = 0) := by decide +kernel
theorem cnt_e {mI : Nat → Nat → Int32} {A : DD} {Am : Nat → DD} {lf : Nat → Nat} {t : TP} (h : MI2 mI A Am lf t) (hV : AsV A) (w : Int32) : cntA mI (A 0 0) w = aCnt A t.2 w := by
  obtain ⟨p1, p2, p3, p4, p5, p6, p7, p8⟩ := h.m hV
  have a1 : plcN mI 121 (A 0 0) = fb_ct (fun p => !decide (A 11 p = 0)) (A 0 0) := fb_ct_cong (fun p hp => by
    show decide (nI 0 < mI 156 (121 + p)) = _
    rw [(p7 p hp).1, lt_0n _ (p7 p hp).2.1])
  have a2 : plcN mI 131 (A 0 0) = fb_ct (fun p => !decide (A 12 p = 0)) (A 0 0) := fb_ct_cong (fun p hp => by
    show decide (nI 0 < mI 156 (131 + p)) = _
    rw [(p7 p hp).2.2.1, lt_0n _ (p7 p hp).2.2.2])
  have a3 : mI 129 1 = nI t.2 := h.2.2.2.1.1
  unfold cntA aCnt
  rw [p8, p2.1, p3.1, a3]
  cases hw : wth w (nI 0) (nI 6) with
  | false => rfl
  | true =>
    obtain ⟨j, hj, rfl⟩ := wth_i hw (by decide)
    have : j = 0 ∨ j = 1 ∨ j = 2 ∨ j = 3 ∨ j = 4 ∨ j = 5 ∨ j = 6 := by omega
    rcases this with rfl | rfl | rfl | rfl | rfl | rfl | rfl
    · rfl
    · rfl
    · rfl
    · rfl
    · rw [← a1]; rfl
    · rw [← a2]; rfl
    · rfl
