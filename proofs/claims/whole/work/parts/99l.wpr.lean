/-! the joint induction -/
def PcP (t : Nat → Nat) (N : Nat) (fa : Int32 → Int32) (f : Nat) : Prop := ∀ (dp p : Nat) (op : Nat → Nat) (cb : Nat → Bool) (cs : List Nat) (q : CR), dp ≤ 5 → p ≤ N → cp t N f 4 dp 0 p = some q → (∀ e, q = .inl e → Flt t N (p, dp, true, op, cb, cs) e) ∧ ∀ x, q = .inr x → ∃ cs' op' cb' v, Rch t N (p, dp, true, op, cb, cs) (x.1, popd op dp, false, op', cb', cs ++ cs') ∧ (∀ k, k ≤ dp → op' k = op k) ∧ (∀ k, k ≤ dp → cb' k = cb k) ∧ gE fa x.2 (4 * dp + 4) v ∧ g4 fa cs' dp v
def LcP (t : Nat → Nat) (N : Nat) (fa : Int32 → Int32) (f : Nat) : Prop := ∀ (lv dp p : Nat) (op : Nat → Nat) (cb : Nat → Bool) (cs : List Nat) (q : CR), lv ≤ 4 → dp ≤ 5 → p ≤ N → 1 ≤ p → popd op dp = dp → (lv ≤ 1 → cb dp = false) → cp t N f lv dp 0 p = some q → (∀ e, q = .inl e → Flt t N (p, dp, true, op, cb, cs) e) ∧ ∀ x, q = .inr x → ∃ cs' op' cb' v, Rch t N (p, dp, true, op, cb, cs) (x.1, dp, false, op', cb', cs ++ cs') ∧ (∀ k, k ≤ dp → op' k = op k) ∧ (∀ k, k < dp → cb' k = cb k) ∧ (2 ≤ lv → cb' dp = cb dp) ∧ sfP t N lv dp cb' x.1 ∧ gE fa x.2 (4 * dp + lv) v ∧ gS fa cs' lv dp v
def OcP (t : Nat → Nat) (N : Nat) (fa : Int32 → Int32) (f : Nat) : Prop := ∀ (lv dp r p : Nat) (op : Nat → Nat) (cb : Nat → Bool) (cs : List Nat) (T : Int32) (q : CR), lv < 4 → dp ≤ 5 → p ≤ N → popd op dp = dp → sfP t N (lv + 1) dp cb p → (lv = 1 → (r = 1 ∧ cb dp = false) ∨ (r = 0 ∧ cb dp = true)) → (lv ≠ 1 → N < r + p) → cp t N f (5 + lv) dp r p = some q → (∀ e, q = .inl e → Flt t N (p, dp, false, op, cb, cs) e) ∧ ∀ x, q = .inr x → ∃ cs' op' cb' v, Rch t N (p, dp, false, op, cb, cs) (x.1, dp, false, op', cb', cs ++ cs') ∧ (∀ k, k ≤ dp → op' k = op k) ∧ (∀ k, k < dp → cb' k = cb k) ∧ (2 ≤ lv → cb' dp = cb dp) ∧ sfP t N lv dp cb' x.1 ∧ gL fa x.2 (4 * dp + lv) T v ∧ gO fa cs' lv dp T v r
theorem popd_cg {op op' : Nat → Nat} : ∀ k, (∀ j, j ≤ k → op' j = op j) → popd op' k = popd op k
  | 0, _ => rfl
  | k + 1, h => by rw [popd_s, popd_s, h _ (Nat.le_refl _), popd_cg k (fun j hj => h j (by omega))]
theorem upB_eq (f : Nat → Bool) (i : Nat) (v : Bool) : upB f i v i = v := if_pos rfl
theorem upB_ne {f : Nat → Bool} {i k : Nat} {v : Bool} (h : k ≠ i) : upB f i v k = f k := if_neg h
theorem cbN_ne {lv dp k : Nat} {cb : Nat → Bool} (h : k ≠ dp) : cbN lv dp cb k = cb k := by
  unfold cbN
  split
  · exact upB_ne h
  · split
    · exact upB_ne h
    · rfl
theorem sf4 {t : Nat → Nat} {N D p : Nat} {cb : Nat → Bool} : sfP t N 4 D cb p := ⟨fun z => absurd z (by decide), fun z => absurd z (by decide), fun z => absurd z (by decide), fun z => absurd z (by decide)⟩
/-- the reference wants a part -/
theorem ws_t {t : Nat → Nat} {N p dp : Nat} {op : Nat → Nat} {cb : Nat → Bool} {cs : List Nat} : wsP t N (p, dp, true, op, cb, cs) = if wpB t N p = false ∧ isW t N p 10631 = false ∧ isG t N p 40 = false then .inl (.inl (1, lxBg t N p)) else if dp = 5 then .inl (.inl (5, lxBg t N p)) else if isW t N p 10631 = true ∨ isG t N p 40 = true then .inr (lxE t N p, dp + 1, true, upN op (dp + 1) (if isW t N p 10631 then 1 else 2), upB cb (dp + 1) false, cs ++ [if isW t N p 10631 then 30 else 28]) else .inr (lxE t N p, popd op dp, false, op, cb, cs ++ [if 0 < fcN t N p then fcN t N p else 100 + lxNm t N p]) := by
  have e : (fcN t N p = 0 ∧ isW t N p 10631 = false ∧ isG t N p 40 = false ∧ lxK t N p ≠ 2) ↔ (wpB t N p = false ∧ isW t N p 10631 = false ∧ isG t N p 40 = false) := by
    have w := wpB_fc (t := t) (N := N) (p := p)
    constructor
    · rintro ⟨h1, h2, h3, h4⟩
      exact ⟨bf_t (fun z => (w.mp z).elim h4 (fun y => y h1)), h2, h3⟩
    · rintro ⟨h1, h2, h3⟩
      have n : ¬ (lxK t N p = 2 ∨ fcN t N p ≠ 0) := fun z => by rw [w.mpr z] at h1; cases h1
      exact ⟨by omega, h2, h3, fun z => n (Or.inl z)⟩
  unfold wsP
  rw [if_pos rfl]
  simp only [e]
theorem c3_pc {t : Nat → Nat} {N : Nat} {fa : Int32 → Int32} {f : Nat} (hP : PcP t N fa f) (hL : LcP t N fa f) : PcP t N fa (f + 1) := by
  intro dp p op cb cs q hdp hp h
  rw [cp_4] at h
  unfold cpP at h
  have wt := ws_t (t := t) (N := N) (p := p) (dp := dp) (op := op) (cb := cb) (cs := cs)
  by_cases c1 : wpB t N p = false ∧ isW t N p 10631 = false ∧ isG t N p 40 = false
  · rw [if_pos c1] at h wt
    have hq := Option.some.inj h
    subst hq
    refine ⟨fun e he => ?_, fun x hx => by cases hx⟩
    have he := Sum.inl.inj he
    subst he
    exact Flt.st wt hp
  rw [if_neg c1] at h wt
  by_cases c2 : 5 ≤ dp
  · rw [if_pos c2] at h
    rw [if_pos (show dp = 5 by omega)] at wt
    have hq := Option.some.inj h
    subst hq
    refine ⟨fun e he => ?_, fun x hx => by cases hx⟩
    have he := Sum.inl.inj he
    subst he
    exact Flt.st wt hp
  rw [if_neg c2] at h
  rw [if_neg (show ¬ dp = 5 by omega)] at wt
  by_cases c3 : wpB t N p = true
  · rw [if_pos c3] at h
    obtain ⟨o1, o2⟩ := wpB_o c3
    rw [if_neg (by rw [o1, o2]; decide)] at wt
    have hq := Option.some.inj h
    subst hq
    refine ⟨fun e he => (by cases he), fun x hx => ?_⟩
    have hx := Sum.inr.inj hx
    subst hx
    refine ⟨_, op, cb, if lxK t N p = 2 then nI (lxNm t N p) else fa (-nI (fcN t N p)), Rch.st wt hp, fun _ _ => rfl, fun _ _ => rfl, ?_, ?_⟩
    · show gE fa [stV t N p] (4 * dp + 4) _
      unfold stV
      by_cases hk : lxK t N p = 2
      · rw [if_pos hk, if_pos hk]
        have nl := lxNm_lt hk
        have n0 : ¬ nI (lxNm t N p) < nI 0 := fun z => by have := (nI_ltI (by omega) (by omega)).mp z; omega
        refine gE_1 (by omega) ?_ (by rw [if_neg n0])
        exact Int32.lt_of_lt_of_le (show -nI 6 < nI 0 by decide) (Int32.not_lt.mp n0)
      · rw [if_neg hk, if_neg hk, wcF_fc]
        have fl := fcN_le t N p
        have f0 : fcN t N p ≠ 0 := by
          rcases wpB_fc.mp c3 with z | z
          · exact absurd z hk
          · exact z
        have := (nfc_0 ⟨fcN t N p, Nat.lt_succ_of_le fl⟩).2 f0
        exact gE_1 (by omega) this.1 (by rw [if_pos this.2])
    · have fl := fcN_le t N p
      by_cases hk : lxK t N p = 2
      · have f0 : fcN t N p = 0 := by unfold fcN; rw [if_neg (by omega)]
        rw [f0, if_pos hk, if_neg (by omega)]
        refine g4_c (by omega) (by omega) (fun m _ => ?_)
        rw [if_pos (by omega), Nat.add_sub_cancel_left]
      · have f0 : fcN t N p ≠ 0 := by
          rcases wpB_fc.mp c3 with z | z
          · exact absurd z hk
          · exact z
        rw [if_neg hk, if_pos (by omega)]
        refine g4_c (by omega) (by omega) (fun m hm => ?_)
        rw [if_neg (by omega), if_pos (by omega)]
        exact hm _ (by omega) fl
  rw [if_neg c3] at h
  by_cases c4 : isW t N p 10631 = true
  · rw [if_pos c4] at h
    rw [if_pos (Or.inl c4), c4, if_pos rfl, if_pos rfl] at wt
    have e1 := lxE_s hp (isW_k c4)
    rcases cpB_i h with ⟨e, h1, h2⟩ | ⟨y, h1, h2⟩
    · obtain ⟨a1, -⟩ := hP (dp + 1) (lxE t N p) _ _ _ _ (by omega) e1.2 h1
      refine ⟨fun e' he => ?_, fun x hx => by rw [h2] at hx; cases hx⟩
      rw [h2] at he
      have he := Sum.inl.inj he
      subst he
      exact (Rch.st wt hp).flt (a1 e rfl)
    · obtain ⟨-, a2⟩ := hP (dp + 1) (lxE t N p) (upN op (dp + 1) 1) (upB cb (dp + 1) false) (cs ++ [30]) _ (by omega) e1.2 h1
      obtain ⟨cs', op', cb', v, b1, b2, b3, b4, b5⟩ := a2 y rfl
      have hq := Option.some.inj h2
      subst hq
      refine ⟨fun e he => (by cases he), fun x hx => ?_⟩
      have hx := Sum.inr.inj hx
      subst hx
      have pd : popd (upN op (dp + 1) 1) (dp + 1) = popd op dp := by
        rw [popd_s, if_pos (upN_eq ..)]
        exact popd_cg dp (fun j hj => upN_ne (by omega))
      rw [pd, List.append_assoc] at b1
      refine ⟨_, op', cb', _, (Rch.st wt hp).trans b1, fun k hk => (b2 k (by omega)).trans (upN_ne (by omega)), fun k hk => (b3 k (by omega)).trans (upB_ne (by omega)), gE_not (fun h st hl => b4 h st (by omega)), g4_not (by omega) b5⟩
  rw [if_neg c4] at h
  have c5 : isG t N p 40 = true := bt_f (fun z => c1 ⟨bf_t c3, bf_t c4, z⟩)
  rw [if_pos (Or.inr c5), if_neg c4, if_neg c4] at wt
  have e1 := lxE_s hp (isG_k c5)
  have pd : popd (upN op (dp + 1) 2) (dp + 1) = dp + 1 := by rw [popd_s, upN_eq, if_neg (by decide)]
  rcases cpB_i h with ⟨e, h1, h2⟩ | ⟨y, h1, h2⟩
  · obtain ⟨a1, -⟩ := hL 0 (dp + 1) (lxE t N p) _ _ _ _ (by omega) (by omega) e1.2 (by omega) pd (fun _ => upB_eq cb (dp + 1) false) h1
    refine ⟨fun e' he => ?_, fun x hx => by rw [h2] at hx; cases hx⟩
    rw [h2] at he
    have he := Sum.inl.inj he
    subst he
    exact (Rch.st wt hp).flt (a1 e rfl)
  · obtain ⟨-, a2⟩ := hL 0 (dp + 1) (lxE t N p) (upN op (dp + 1) 2) (upB cb (dp + 1) false) (cs ++ [28]) _ (by omega) (by omega) e1.2 (by omega) pd (fun _ => upB_eq cb (dp + 1) false) h1
    obtain ⟨cs', op', cb', v, b1, b2, b3, -, b4, b5, b6⟩ := a2 y rfl
    have ln := cp_len _ _ _ _ _ _ e1.2 h1
    have ws := ws_sf (op := op') (cs := (cs ++ [28]) ++ cs') b4
    cases hs : sgF t N y.1 41 with
    | some e =>
      rw [hs] at h2
      have hg : isG t N y.1 41 = false := bf_t (fun z => by unfold sgF at hs; rw [if_pos z] at hs; cases hs)
      have he1 : e = 1 := by unfold sgF at hs; rw [hg] at hs; exact (Option.some.inj hs).symm
      subst he1
      rw [if_neg (fun z => by rw [hg] at z; cases z.1), if_neg (by omega)] at ws
      have hq := Option.some.inj h2
      subst hq
      refine ⟨fun e he => ?_, fun x hx => by cases hx⟩
      have he := Sum.inl.inj he
      subst he
      exact ((Rch.st wt hp).trans b1).flt (Flt.st ws ln.2.1)
    | none =>
      rw [hs] at h2
      have hg : isG t N y.1 41 = true := bt_f (fun z => by unfold sgF at hs; rw [z] at hs; cases hs)
      rw [if_pos ⟨hg, Nat.succ_pos _⟩] at ws
      have hq := Option.some.inj h2
      subst hq
      refine ⟨fun e he => (by cases he), fun x hx => ?_⟩
      have hx := Sum.inr.inj hx
      subst hx
      have pd2 : popd op' (dp + 1 - 1) = popd op dp := popd_cg dp (fun j hj => (b2 j (by omega)).trans (upN_ne (by omega)))
      rw [pd2] at ws
      have r3 := ((Rch.st wt hp).trans b1).trans (Rch.st ws ln.2.1)
      rw [List.append_assoc, List.append_assoc] at r3
      refine ⟨_, op', cb', v, r3, fun k hk => (b2 k (by omega)).trans (upN_ne (by omega)), fun k hk => (b3 k (by omega)).trans (upB_ne (by omega)), fun h st hl => b5 h st (by omega), ?_⟩
      exact g4_par (by omega) b6
theorem c3_lc {t : Nat → Nat} {N : Nat} (hN : N ≤ 1000) {fa : Int32 → Int32} {f : Nat} (hP : PcP t N fa (f + 1)) (hL : LcP t N fa f) (hO : OcP t N fa f) : LcP t N fa (f + 1) := by
  intro lv dp p op cb cs q hlv hdp hp hp1 hpd hcb h
  by_cases h4 : lv = 4
  · subst h4
    obtain ⟨a1, a2⟩ := hP dp p op cb cs q hdp hp h
    refine ⟨a1, fun x hx => ?_⟩
    obtain ⟨cs', op', cb', v, b1, b2, b3, b4, b5⟩ := a2 x hx
    rw [hpd] at b1
    exact ⟨cs', op', cb', v, b1, b2, fun k hk => b3 k (by omega), fun _ => b3 dp (Nat.le_refl _), sf4, b4, b5.s⟩
  have l4 : lv < 4 := by omega
  rw [cp_v l4] at h
  unfold cpV at h
  rcases cpB_i h with ⟨e, h1, h2⟩ | ⟨y, h1, h2⟩
  · obtain ⟨a1, -⟩ := hL (lv + 1) dp p op cb cs _ (by omega) hdp hp hp1 hpd (fun z => hcb (by omega)) h1
    refine ⟨fun e' he => ?_, fun x hx => by rw [h2] at hx; cases hx⟩
    rw [h2] at he
    have he := Sum.inl.inj he
    subst he
    exact a1 e rfl
  · obtain ⟨-, a2⟩ := hL (lv + 1) dp p op cb cs _ (by omega) hdp hp hp1 hpd (fun z => hcb (by omega)) h1
    obtain ⟨cs1, op1, cb1, v1, b1, b2, b3, b4, b5, b6, b7⟩ := a2 y rfl
    have ln := cp_len _ _ _ _ _ _ hp h1
    obtain ⟨q2, h3, h5⟩ := wcG_i h2
    have pd1 : popd op1 dp = dp := (popd_cg dp b2).trans hpd
    obtain ⟨d1, d2⟩ := hO lv dp (if lv = 1 then 1 else 1000) y.1 op1 cb1 (cs ++ cs1) v1 q2 l4 hdp ln.2.1 pd1 b5 (fun z => by
      subst z
      exact Or.inl ⟨rfl, (b4 (by decide)).trans (hcb (by decide))⟩) (fun z => by rw [if_neg z]; omega) h3
    rcases q2 with e | x2
    · have h5' : q = .inl e := h5
      refine ⟨fun e' he => ?_, fun x hx => by rw [h5'] at hx; cases hx⟩
      rw [h5'] at he
      have he := Sum.inl.inj he
      subst he
      exact b1.flt (d1 e rfl)
    · have h5' : q = .inr (x2.1, y.2 ++ x2.2) := h5
      obtain ⟨cs2, op2, cb2, v2, k1, k2, k3, k4, k5, k6, k7⟩ := d2 x2 rfl
      refine ⟨fun e' he => (by rw [h5'] at he; cases he), fun x hx => ?_⟩
      rw [h5'] at hx
      have hx := Sum.inr.inj hx
      subst hx
      have r2 := b1.trans k1
      rw [List.append_assoc] at r2
      exact ⟨cs1 ++ cs2, op2, cb2, v2, r2, fun k hk => (k2 k hk).trans (b2 k hk), fun k hk => (k3 k hk).trans (b3 k hk), fun z => (k4 z).trans (b4 (by omega)), k5, gE_lv b6 (by omega) k6, gS_lv l4 b7 k7⟩
theorem c3_oc {t : Nat → Nat} {N : Nat} {fa : Int32 → Int32} {f : Nat} (hL : LcP t N fa f) (hO : OcP t N fa f) : OcP t N fa (f + 1) := by
  intro lv dp r p op cb cs T q l4 hdp hp hpd hsf hr1 hr h
  rw [cp_o (by omega)] at h
  unfold cpO at h
  rw [show 5 + lv - 5 = lv by omega, show 5 + lv - 4 = lv + 1 by omega] at h
  have hl4 : lv = 0 ∨ lv = 1 ∨ lv = 2 ∨ lv = 3 := by omega
  by_cases c1 : r = 0 ∨ jnF t N p lv = nI 0
  · rw [if_pos c1] at h
    have hq := Option.some.inj h
    subst hq
    refine ⟨fun e he => (by cases he), fun x hx => ?_⟩
    have hx := Sum.inr.inj hx
    subst hx
    refine ⟨[], op, cb, T, by rw [List.append_nil]; exact Rch.refl, fun _ _ => rfl, fun _ _ => rfl, fun _ => rfl, ?_, gL_0, gO_0⟩
    have hj : lv ≠ 1 → jnF t N p lv = nI 0 := fun z => by
      rcases c1 with y | y
      · have := hr z; omega
      · exact y
    have hj1 : lv = 1 → jnF t N p lv = nI 0 ∨ cb dp = true := fun z => by
      rcases c1 with y | y
      · rcases hr1 z with w | w
        · omega
        · exact Or.inr w.2
      · exact Or.inl y
    obtain ⟨s3, s2, s1, s0⟩ := hsf
    rcases hl4 with rfl | rfl | rfl | rfl
    · exact ⟨fun _ => s3 (by decide), fun _ => s2 (by decide), fun _ => s1 (by decide), fun _ => hj (by decide)⟩
    · exact ⟨fun _ => s3 (by decide), fun _ => s2 (by decide), fun _ => hj1 rfl, fun z => absurd z (by decide)⟩
    · exact ⟨fun _ => s3 (by decide), fun _ => hj (by decide), fun z => absurd z (by decide), fun z => absurd z (by decide)⟩
    · exact ⟨fun _ => hj (by decide), fun z => absurd z (by decide), fun z => absurd z (by decide), fun z => absurd z (by decide)⟩
  rw [if_neg c1] at h
  have r0 : r ≠ 0 := fun z => c1 (Or.inl z)
  have j0 : ¬ jnF t N p lv = nI 0 := fun z => c1 (Or.inr z)
  have rc : lv = 1 → r = 1 ∧ cb dp = false := fun z => by
    rcases hr1 z with w | w
    · exact w
    · exact absurd w.1 r0
  obtain ⟨c, jc, wt⟩ := jn_ws (t := t) (N := N) (p := p) (op := op) (cs := cs) l4 j0 (fun z => (rc z).2)
  have e1 := lxE_s hp (jnF_k j0)
  have cb1 : lv + 1 ≤ 1 → cbN lv dp cb dp = false := fun z => by
    have : lv = 0 := by omega
    subst this
    exact upB_eq cb dp false
  rcases cpB_i h with ⟨e, h1, h2⟩ | ⟨y, h1, h2⟩
  · obtain ⟨a1, -⟩ := hL (lv + 1) dp (lxE t N p) op (cbN lv dp cb) (cs ++ [c]) _ (by omega) hdp e1.2 (by omega) hpd cb1 h1
    refine ⟨fun e' he => ?_, fun x hx => by rw [h2] at hx; cases hx⟩
    rw [h2] at he
    have he := Sum.inl.inj he
    subst he
    exact (Rch.st wt hp).flt (a1 e rfl)
  · obtain ⟨-, a2⟩ := hL (lv + 1) dp (lxE t N p) op (cbN lv dp cb) (cs ++ [c]) _ (by omega) hdp e1.2 (by omega) hpd cb1 h1
    obtain ⟨cs1, op1, cb2, v1, b1, b2, b3, b4, b5, b6, b7⟩ := a2 y rfl
    have ln := cp_len _ _ _ _ _ _ e1.2 h1
    obtain ⟨q2, h3, h5⟩ := wcG_i h2
    have pd1 : popd op1 dp = dp := (popd_cg dp b2).trans hpd
    obtain ⟨d1, d2⟩ := hO lv dp (r - 1) y.1 op1 cb2 ((cs ++ [c]) ++ cs1) (jnV (jnF t N p lv) T v1) q2 l4 hdp ln.2.1 pd1 b5 (fun z => by
      have z2 := (rc z).1
      subst z
      exact Or.inr ⟨by omega, (b4 (by decide)).trans (upB_eq cb dp true)⟩) (fun z => by have := hr z; omega) h3
    rcases q2 with e | x2
    · have h5' : q = .inl e := h5
      refine ⟨fun e' he => ?_, fun x hx => by rw [h5'] at hx; cases hx⟩
      rw [h5'] at he
      have he := Sum.inl.inj he
      subst he
      exact ((Rch.st wt hp).trans b1).flt (d1 e rfl)
    · have h5' : q = .inr (x2.1, (y.2 ++ [jnF t N p lv]) ++ x2.2) := h5
      obtain ⟨cs2, op2, cb3, v2, k1, k2, k3, k4, k5, k6, k7⟩ := d2 x2 rfl
      refine ⟨fun e' he => (by rw [h5'] at he; cases he), fun x hx => ?_⟩
      rw [h5'] at hx
      have hx := Sum.inr.inj hx
      subst hx
      have r2 := ((Rch.st wt hp).trans b1).trans k1
      rw [List.append_assoc, List.append_assoc] at r2
      refine ⟨c :: (cs1 ++ cs2), op2, cb3, v2, r2, fun k hk => (k2 k hk).trans (b2 k hk), fun k hk => (k3 k hk).trans ((b3 k hk).trans (cbN_ne (by omega))), fun z => (k4 z).trans ((b4 (by omega)).trans ?_), k5, gL_s (fun h st hl => b6 h st (by omega)) (jc_lt jc).1 k6, gO_s l4 hdp jc r0 (fun z => (rc z).1) b7 k7⟩
      unfold cbN
      rw [if_neg (by omega), if_neg (by omega)]
theorem c3_all {t : Nat → Nat} {N : Nat} (hN : N ≤ 1000) (fa : Int32 → Int32) : ∀ f, PcP t N fa f ∧ LcP t N fa f ∧ OcP t N fa f
  | 0 => ⟨fun _ _ _ _ _ _ _ _ h => (by rw [cp_0] at h; cases h), fun _ _ _ _ _ _ _ _ _ _ _ _ _ h => (by rw [cp_0] at h; cases h), fun _ _ _ _ _ _ _ _ _ _ _ _ _ _ _ _ h => (by rw [cp_0] at h; cases h)⟩
  | f + 1 => by
    obtain ⟨h1, h2, h3⟩ := c3_all hN fa f
    have a := c3_pc h1 h2
    exact ⟨a, c3_lc hN a h2 h3, c3_oc h2 h3⟩
/-- there is always fuel -/
theorem cp_fuel {t : Nat → Nat} {N : Nat} : ∀ (f m d r p : Nat), p ≤ N → 10 * (N - p) + (if m < 4 then 5 - m else 1) ≤ f → ∃ q, cp t N f m d r p = some q := by
  intro f
  induction f with
  | zero => intro m d r p _ h; split at h <;> omega
  | succ f ih =>
    intro m d r p hp h
    rcases Nat.lt_trichotomy m 4 with hm | hm | hm
    · rw [if_pos hm] at h
      rw [cp_v hm]
      unfold cpV
      obtain ⟨q1, h1⟩ := ih (m + 1) d 0 p hp (by split <;> omega)
      rw [h1]
      rcases q1 with e | y
      · exact ⟨_, rfl⟩
      · have ln := cp_len _ _ _ _ _ _ hp h1
        obtain ⟨q2, h2⟩ := ih (5 + m) d (if m = 1 then 1 else 1000) y.1 ln.2.1 (by rw [if_neg (by omega)]; omega)
        show ∃ q, wcG y.2 (cp t N f (5 + m) d (if m = 1 then 1 else 1000) y.1) = some q
        rw [h2]
        exact ⟨_, rfl⟩
    · subst hm
      rw [if_neg (by omega)] at h
      rw [cp_4]
      unfold cpP
      by_cases c1 : wpB t N p = false ∧ isW t N p 10631 = false ∧ isG t N p 40 = false
      · rw [if_pos c1]; exact ⟨_, rfl⟩
      rw [if_neg c1]
      by_cases c2 : 5 ≤ d
      · rw [if_pos c2]; exact ⟨_, rfl⟩
      rw [if_neg c2]
      by_cases c3 : wpB t N p = true
      · rw [if_pos c3]; exact ⟨_, rfl⟩
      rw [if_neg c3]
      by_cases c4 : isW t N p 10631 = true
      · rw [if_pos c4]
        have e1 := lxE_s hp (isW_k c4)
        obtain ⟨q1, h1⟩ := ih 4 (d + 1) 0 (lxE t N p) e1.2 (by rw [if_neg (by omega)]; omega)
        rw [h1]
        rcases q1 with e | y
        · exact ⟨_, rfl⟩
        · exact ⟨_, rfl⟩
      · rw [if_neg c4]
        have c5 : isG t N p 40 = true := bt_f (fun z => c1 ⟨bf_t c3, bf_t c4, z⟩)
        have e1 := lxE_s hp (isG_k c5)
        obtain ⟨q1, h1⟩ := ih 0 (d + 1) 0 (lxE t N p) e1.2 (by rw [if_pos (by omega)]; omega)
        rw [h1]
        rcases q1 with e | y
        · exact ⟨_, rfl⟩
        · show ∃ q, (match sgF t N y.1 41 with | some e => some (Sum.inl (e, lxBg t N y.1)) | none => some (Sum.inr (lxE t N y.1, y.2))) = some q
          cases sgF t N y.1 41 <;> exact ⟨_, rfl⟩
    · rw [if_neg (by omega)] at h
      rw [cp_o hm]
      unfold cpO
      by_cases c1 : r = 0 ∨ jnF t N p (m - 5) = nI 0
      · rw [if_pos c1]; exact ⟨_, rfl⟩
      rw [if_neg c1]
      have e1 := lxE_s hp (jnF_k (fun z => c1 (Or.inr z)))
      obtain ⟨q1, h1⟩ := ih (m - 4) d 0 (lxE t N p) e1.2 (by split <;> omega)
      rw [h1]
      rcases q1 with e | y
      · exact ⟨_, rfl⟩
      · have ln := cp_len _ _ _ _ _ _ e1.2 h1
        obtain ⟨q2, h2⟩ := ih m d (r - 1) y.1 ln.2.1 (by rw [if_neg (by omega)]; omega)
        show ∃ q, wcG (y.2 ++ [jnF t N p (m - 5)]) (cp t N f m d (r - 1) y.1) = some q
        rw [h2]
        exact ⟨_, rfl⟩
