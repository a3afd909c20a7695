/-! the wish as a whole: class and reference -/
def wRl (u : List Int32) (cs : List Nat) : Prop := ∀ fa, ∃ v, gE fa u 0 v ∧ gS fa cs 0 0 v
/-- the wish that the school at C has -/
def WiR (sh : Nat → Option Sh) (mI : Nat → Nat → Int32) (mR : Nat → Nat → Option Nat) (C n wn : Nat) (cd : Nat → Nat) : Prop := ∃ (Wc : Nat) (u : List Int32), mR C 7 = some Wc ∧ sh Wc = some (.inr (.int, u.length)) ∧ u.length ≤ 1000 ∧ C + 5 ≤ Wc ∧ Wc < n ∧ (∀ i, i < u.length → mI Wc i = u.getD i 0) ∧ ((wn = 0 ∧ u = [-nI 1]) ∨ (0 < wn ∧ ∃ cs : List Nat, cs.length = wn ∧ (∀ i, i < wn → cd i = cs.getD i 0) ∧ wRl u cs))
theorem gS_ne {fa : Int32 → Int32} {v : Int32} (h : gS fa [] 0 0 v) : False := by
  have key : ∀ z : Int32, z = v := fun z => by
    obtain ⟨m, hm⟩ : ∃ m : Nat → Nat → Int32, m = fun a k => if a = 155 then fa (-nI k) else if a = 152 then z else if a = 151 then nI 20 else nI 0 := ⟨_, rfl⟩
    have e : ∀ a k, a ≠ 155 → a ≠ 152 → a ≠ 151 → m a k = nI 0 := fun a k h1 h2 h3 => by rw [hm]; show (if a = 155 then _ else if a = 152 then _ else if a = 151 then _ else _) = _; rw [if_neg h1, if_neg h2, if_neg h3]
    have e1 : ∀ k, m 155 k = fa (-nI k) := fun k => by rw [hm]; rfl
    have e2 : m 152 0 = z := by rw [hm]; rfl
    have e3 : m 151 0 = nI 20 := by rw [hm]; rfl
    clear hm
    obtain ⟨-, m2, h2, -, h4⟩ := h m (fun c _ _ => e1 c) (Or.inl rfl) ⟨fun _ => e _ _ (by decide) (by decide) (by decide), fun _ => ⟨e _ _ (by decide) (by decide) (by decide), e3⟩, fun _ => e _ _ (by decide) (by decide) (by decide), fun _ => e _ _ (by decide) (by decide) (by decide)⟩
    have h5 : m = m2 := congrArg Prod.snd h2
    rw [← h5] at h4
    have h6 : rO 0 m 0 = v := h4
    rw [rO_0, tsV4_0 (by rw [sms_n (by decide) (by decide)]; exact e _ _ (by decide) (by decide) (by decide)), tsV2_0 (by rw [sms_n (by decide) (by decide)]; exact e _ _ (by decide) (by decide) (by decide)), sms_s] at h6
    unfold pS at h6
    rw [e3, if_neg n20, e _ _ (by decide) (by decide) (by decide), e2, i0_add] at h6
    exact h6
  have := (key (nI 0)).trans (key (nI 1)).symm
  exact absurd this (by decide)
theorem wRl.ne {u : List Int32} {cs : List Nat} (h : wRl u cs) : 0 < cs.length := by
  rcases cs with _ | ⟨c, cs⟩
  · obtain ⟨v, -, h2⟩ := h (fun x => x)
    exact (gS_ne h2).elim
  · exact Nat.succ_pos _
/-- the walk of the wish, class against reference -/
theorem wish_w {t : Nat → Nat} {N p1 f : Nat} {q : CR} (hN : N ≤ 1000) (hp : p1 ≤ N) (hp1 : 1 ≤ p1) (h : cp t N f 0 0 0 p1 = some q) : (∀ e, q = .inl e → wsR t N (N + 1 - p1) (p1, 0, true, fun _ => 0, fun _ => false, []) = .inl e) ∧ ∀ x, q = .inr x → (∀ e, sgF t N x.1 59 = some e → wsR t N (N + 1 - p1) (p1, 0, true, fun _ => 0, fun _ => false, []) = .inl (e, lxBg t N x.1)) ∧ (sgF t N x.1 59 = none → ∃ cs, wsR t N (N + 1 - p1) (p1, 0, true, fun _ => 0, fun _ => false, []) = .inr (lxE t N x.1, cs) ∧ wRl x.2 cs) := by
  have main : ∀ fa, _ := fun fa => (c3_all (t := t) hN fa f).2.1 0 0 p1 (fun _ => 0) (fun _ => false) [] q (by decide) (by decide) hp hp1 rfl (fun _ => rfl) h
  refine ⟨fun e he => (main (fun x => x)).1 e he _ (by show N + 1 ≤ N + 1 - p1 + p1; omega), fun x hx => ?_⟩
  have ln := cp_len _ _ _ _ _ _ hp (hx ▸ h)
  have run : ∀ fa, ∃ cs' v, gE fa x.2 0 v ∧ gS fa cs' 0 0 v ∧ wsR t N (N + 1 - p1) (p1, 0, true, fun _ => 0, fun _ => false, []) = (if isG t N x.1 59 = true then .inr (lxE t N x.1, cs') else .inl (1, lxBg t N x.1)) := fun fa => by
    obtain ⟨cs', op', cb', v, b1, -, -, -, b5, b6, b7⟩ := (main fa).2 x hx
    refine ⟨cs', v, b6, b7, ?_⟩
    obtain ⟨F', g1, g2⟩ := b1 (N + 1 - p1) (by show N + 1 ≤ N + 1 - p1 + p1; omega)
    have ws := ws_sf (op := op') (cs := [] ++ cs') b5
    rw [if_neg (fun z => absurd z.2 (by decide))] at ws
    have g1' : N + 1 ≤ F' + x.1 := g1
    rw [g2]
    cases F' with
    | zero => omega
    | succ F' =>
      by_cases hg : isG t N x.1 59 = true
      · rw [if_pos ⟨rfl, hg⟩] at ws
        rw [wsR_l ws, if_pos hg]; rfl
      · rw [if_neg (fun z => hg z.2)] at ws
        rw [wsR_l ws, if_neg hg]
  refine ⟨fun e he => ?_, fun hn => ?_⟩
  · have hg : ¬ isG t N x.1 59 = true := fun z => by unfold sgF at he; rw [if_pos z] at he; cases he
    have he1 : e = 1 := by unfold sgF at he; rw [if_neg hg] at he; exact (Option.some.inj he).symm
    obtain ⟨cs', v, -, -, h3⟩ := run (fun x => x)
    rw [if_neg hg] at h3
    rw [h3, he1]
  · have hg : isG t N x.1 59 = true := bt_f (fun z => by unfold sgF at hn; rw [z] at hn; cases hn)
    obtain ⟨cs, v, -, -, h3⟩ := run (fun x => x)
    rw [if_pos hg] at h3
    refine ⟨cs, h3, fun fa => ?_⟩
    obtain ⟨cs2, v2, k1, k2, k3⟩ := run fa
    rw [if_pos hg, h3] at k3
    have k4 := congrArg Prod.snd (Sum.inr.inj k3)
    have k5 : cs = cs2 := k4
    rw [← k5] at k2
    exact ⟨v2, k1, k2⟩
/-- what any line leaves -/
def LgP (sh : Nat → Option Sh) (mI : Nat → Nat → Int32) (mL : Nat → Nat → Int64) (mR : Nat → Nat → Option Nat) (n R C TP : Nat) (t : Nat → Nat) (N : Nat) (q : PR) (r : Option Value) (M' : Mm) : Prop := ∃ sh' mI' mL' mR' n', M' = (sh', mI', mL', mR', n') ∧ (n ≤ n' ∧ n' ≤ n + 1) ∧ (∀ a, a < n → sh' a = sh a) ∧ (∀ a k, a < n → ¬ lnW R C a → mI' a k = mI a k) ∧ (∀ a k, a < n → ¬ (a = R + 13 ∧ k = 6) → a ≠ R + 15 → mL' a k = mL a k) ∧ (∀ a k, a < n → ¬ (a = R + 13 ∧ k = 7) → ¬ (a = C ∧ k = 7) → mR' a k = mR a k) ∧ (∀ x, q = .inr x → r = some (.int (nI 1)) ∧ RsM sh' mI' mL' mR' R C TP t N x.1 ∧ RdD mI' mL' R C x.2 ∧ WiR sh' mI' mR' C n' (x.2 0 6) (x.2 10) ∧ mI' R 10 = mI R 10) ∧ ∀ e, q = .inl e → r = some (.int (nI 0)) ∧ mI' R 10 = nI (e.1 + 16 * e.2)
/-- the lines that are not the wish -/
theorem LiP.g {sh : Nat → Option Sh} {mI : Nat → Nat → Int32} {mL : Nat → Nat → Int64} {mR : Nat → Nat → Option Nat} {n R C TP : Nat} {t : Nat → Nat} {N : Nat} {q : PR} {r : Option Value} {M' : Mm} {D : DD} (h : LiP sh mI mL mR n R C TP t N q r M') (hw : WiR sh mI mR C n (D 0 6) (D 10)) (hRC : R + 17 < C) (hq : ∀ x, q = .inr x → x.2 0 6 = D 0 6 ∧ x.2 10 = D 10) : LgP sh mI mL mR n R C TP t N q r M' := by
  obtain ⟨mI', mL', mR', rfl, ⟨f1, f2, f3⟩, h1, h2⟩ := h
  refine ⟨sh, mI', mL', mR', n, rfl, ⟨Nat.le_refl _, by omega⟩, fun _ _ => rfl, fun a k _ z => f1 a k z, fun a k _ z y => f2 a k z y, fun a k _ z _ => f3 a k z, fun x hx => ?_, h2⟩
  obtain ⟨a1, a2, a3, a4⟩ := h1 x hx
  obtain ⟨b1, b2⟩ := hq x hx
  refine ⟨a1, a2, a3, ?_, a4⟩
  obtain ⟨Wc, u, c1, c2, c3, c4, c5, c6, c7⟩ := hw
  refine ⟨Wc, u, (f3 _ _ (by omega)).trans c1, c2, c3, c4, c5, fun i hi => (f1 _ _ (fun z => by unfold lnW at z; omega)).trans (c6 i hi), ?_⟩
  rw [b1, b2]; exact c7
theorem RdD.wsd {mI mI' : Nat → Nat → Int32} {mL : Nat → Nat → Int64} {R C : Nat} {D : DD} {cs : List Nat} (h : RdD mI mL R C (up2 D 0 5 1)) (he : ∀ a k, mI' a k = mI a k) : RdD mI' mL R C (wsD (up2 D 0 5 1) cs) := by
  obtain ⟨⟨a1, a2, a3, a4, a5, a6⟩, b, c, d, e, f⟩ := h
  exact ⟨⟨(he _ _).trans a1, (he _ _).trans a2, (he _ _).trans a3, (he _ _).trans a4, (he _ _).trans a5, (he _ _).trans a6⟩, fun p hp => ⟨(b p hp).1, (b p hp).2.1, (he _ _).trans (b p hp).2.2.1, (he _ _).trans (b p hp).2.2.2⟩, fun k hk => (he _ _).trans (c k hk), fun k hk => ⟨(he _ _).trans (d k hk).1, (he _ _).trans (d k hk).2.1, (he _ _).trans (d k hk).2.2⟩, fun i hi => (he _ _).trans (e i hi), fun a ha => by
    obtain ⟨lt, f1, f2⟩ := f a ha
    exact ⟨lt, (he _ _).trans f1, f2⟩⟩
