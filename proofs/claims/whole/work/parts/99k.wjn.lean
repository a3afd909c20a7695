/-! class and reference read the wish alike -/
theorem wF_v : ∀ i, i < 21 → wdF i = -nI (fcW (w27.getD i 0)) := by decide +kernel
theorem fcW_in {v : Nat} (h : ¬ wix v < 21) : fcW v = 0 := by
  have w : ∀ i, i < 21 → w27.getD i 0 ≠ v := fun i hi => wix_no (by omega)
  unfold fcW
  rw [if_neg (fun z => w 17 (by decide) z.symm), if_neg (fun z => w 16 (by decide) z.symm), if_neg (fun z => w 18 (by decide) z.symm), if_neg (fun z => w 19 (by decide) z.symm), if_neg (fun z => w 20 (by decide) z.symm)]
theorem wcF_fc {t : Nat → Nat} {N p : Nat} : wcF t N p = -nI (fcN t N p) := by
  unfold wcF fcN
  by_cases hk : lxK t N p = 1
  · rw [if_pos hk]
    by_cases hw : wix (lxWd t N p) < 21
    · rw [if_pos ⟨hk, hw⟩, wF_v _ hw, wix_yes hw]
    · rw [if_neg (fun z => hw z.2), fcW_in hw]; rfl
  · rw [if_neg (fun z => hk z.1), if_neg hk]; rfl
theorem nfc_0 : ∀ c : Fin 6, (-nI c.val = nI 0 ↔ c.val = 0) ∧ (c.val ≠ 0 → (-nI 6 < -nI c.val ∧ -nI c.val < nI 0)) := by decide
theorem wpB_fc {t : Nat → Nat} {N p : Nat} : wpB t N p = true ↔ (lxK t N p = 2 ∨ fcN t N p ≠ 0) := by
  unfold wpB
  rw [Bool.or_eq_true, decide_eq_true_iff, Bool.not_eq_true', decide_eq_false_iff_not, wcF_fc, (nfc_0 ⟨fcN t N p, Nat.lt_succ_of_le (fcN_le t N p)⟩).1]
theorem bf_t {b : Bool} (h : ¬ b = true) : b = false := by
  cases b with
  | false => rfl
  | true => exact absurd rfl h
theorem bt_f {b : Bool} (h : ¬ b = false) : b = true := by
  cases b with
  | false => exact absurd rfl h
  | true => rfl
theorem isG_o {t : Nat → Nat} {N p s u : Nat} (h : isG t N p s = true) (hu : u ≠ s) : isG t N p u = false := bf_t (fun z => by
  unfold isG at h z
  rw [Bool.and_eq_true, decide_eq_true_iff, decide_eq_true_iff] at h z
  omega)
theorem isW_o {t : Nat → Nat} {N p s u : Nat} (h : isW t N p s = true) (hu : u ≠ s) : isW t N p u = false := bf_t (fun z => by
  unfold isW at h z
  rw [Bool.and_eq_true, decide_eq_true_iff, decide_eq_true_iff] at h z
  omega)
theorem isG_w {t : Nat → Nat} {N p s u : Nat} (h : isG t N p s = true) : isW t N p u = false := bf_t (fun z => by
  have := wsG_k h
  have := wsW_k z
  omega)
theorem isW_g {t : Nat → Nat} {N p s u : Nat} (h : isW t N p s = true) : isG t N p u = false := bf_t (fun z => by
  have := wsG_k z
  have := wsW_k h
  omega)
theorem wpB_o {t : Nat → Nat} {N p : Nat} (h : wpB t N p = true) : isW t N p 10631 = false ∧ ∀ s, isG t N p s = false := by
  rw [wpB_fc] at h
  refine ⟨bf_t (fun z => ?_), fun s => bf_t (fun z => ?_)⟩
  · have k := wsW_k z
    rcases h with h | h
    · omega
    · unfold isW at z
      rw [Bool.and_eq_true, decide_eq_true_iff, decide_eq_true_iff] at z
      unfold fcN at h
      rw [if_pos k, z.2] at h
      exact h rfl
  · have k := wsG_k z
    rcases h with h | h
    · omega
    · unfold fcN at h
      rw [if_neg (by omega)] at h
      exact h rfl
/-! the steps -/
theorem upJ_eq (f : Nat → Int32) (k : Nat) (v : Int32) : upJ f k v k = v := if_pos rfl
theorem upJ_ne {f : Nat → Int32} {k j : Nat} {v : Int32} (h : j ≠ k) : upJ f k v j = f j := if_neg h
theorem gE_1 {fa : Int32 → Int32} {x v : Int32} {hb : Nat} (hh : hb < 40) (hx : -nI 6 < x) (hv : (if x < nI 0 then fa x else x) = v) : gE fa [x] hb v := by
  intro h st hl
  refine ⟨_, ?_, upJ_eq st h v, fun j hj => upJ_ne (by omega)⟩
  rw [evF_1]
  unfold evS
  rw [if_pos ⟨hx, show h < 40 by omega⟩, hv]
theorem gE_not {fa : Int32 → Int32} {u : List Int32} {v : Int32} {hb : Nat} (h : gE fa u hb v) : gE fa (u ++ [-nI 6]) hb (oB (decide (v = nI 0))) := by
  intro k st hl
  obtain ⟨st', h1, h2, h3⟩ := h k st hl
  refine ⟨upJ st' k (oB (decide (v = nI 0))), ?_, upJ_eq .., fun j hj => (upJ_ne (by omega)).trans (h3 j hj)⟩
  rw [evF_ap, h1, evF_1]
  unfold evS
  rw [if_neg (fun z => absurd z.1 (by decide)), if_pos ⟨rfl, Nat.le_add_left ..⟩]
  show (k + 1, upJ st' k (bI (decide (st' k = nI 0)))) = _
  rw [h2, oB_bI]
theorem gE_lv {fa : Int32 → Int32} {u w : List Int32} {T v : Int32} {hb hc : Nat} (h : gE fa u hc T) (hbc : hb ≤ hc) (g : gL fa w hb T v) : gE fa (u ++ w) hb v := by
  intro k st hl
  obtain ⟨st', h1, h2, h3⟩ := h k st (by omega)
  obtain ⟨st2, k1, k2, k3⟩ := g k st' hl h2
  refine ⟨st2, ?_, k2, fun j hj => (k3 j hj).trans (h3 j hj)⟩
  rw [evF_ap, h1]; exact k1
theorem gL_0 {fa : Int32 → Int32} {T : Int32} {hb : Nat} : gL fa [] hb T T := fun _ st _ hT => ⟨st, rfl, hT, fun _ _ => rfl⟩
theorem jc_lt {lv c : Nat} {j : Int32} (h : jcP lv c j) : j < -nI 6 ∧ c ≠ 29 := by
  rcases h with ⟨-, rfl, rfl⟩ | ⟨-, rfl, rfl⟩ | ⟨-, rfl, rfl⟩ | ⟨-, rfl, rfl⟩ | ⟨-, rfl, rfl⟩ | ⟨-, rfl, rfl⟩ | ⟨-, rfl, rfl⟩ <;> decide
theorem gL_s {fa : Int32 → Int32} {u w : List Int32} {T v v2 j : Int32} {hb : Nat} (h : gE fa u (hb + 1) v2) (hj : j < -nI 6) (g : gL fa w hb (jnV j T v2) v) : gL fa ((u ++ [j]) ++ w) hb T v := by
  intro k st hl hT
  obtain ⟨st1, h1, h2, h3⟩ := h (k + 1) st (by omega)
  have e : evF fa [j] (k + 1 + 1, st1) = (k + 1, upJ st1 k (jnV j (st1 k) (st1 (k + 1)))) := by
    rw [evF_1]
    unfold evS
    have n1 : ¬ -nI 6 < j := fun z => absurd hj (Int32.not_lt.mpr (Int32.le_of_lt z))
    rw [if_neg (fun z => n1 z.1), if_neg (fun z => by rw [z.1] at hj; exact absurd hj (by decide)), if_pos ⟨hj, by show 2 ≤ k + 1 + 1; omega⟩]
    rfl
  have e1 : st1 k = T := (h3 k (by omega)).trans hT
  rw [e1, h2] at e
  obtain ⟨st2, k1, k2, k3⟩ := g k (upJ st1 k (jnV j T v2)) hl (upJ_eq ..)
  refine ⟨st2, ?_, k2, fun i hi => (k3 i hi).trans ((upJ_ne (by omega)).trans (h3 i (by omega)))⟩
  rw [evF_ap, evF_ap, h1, e]; exact k1
/-! the codes -/
theorem gS_lv {fa : Int32 → Int32} {cs ds : List Nat} {lv D r : Nat} {T v : Int32} (hl : lv < 4) (h : gS fa cs (lv + 1) D T) (g : gO fa ds lv D T v r) : gS fa (cs ++ ds) lv D v := by
  intro m hh hn hI
  obtain ⟨h1, m2, h2, h3, h4⟩ := h m hh hn ⟨fun _ => hI.1 (by omega), fun _ => hI.2.1 (by omega), fun _ => hI.2.2.1 (by omega), fun _ => hI.2.2.2 (by omega)⟩
  obtain ⟨k1, m3, k2, k3, k4⟩ := g m2 (h3.hv (by omega) hh) (h3.nb hn) (lv_st hl hI h3 h4) (fun z _ => by
    subst z
    exact (h3 149 D (by omega) (fun z => absurd z.2 (by decide))).trans (hI.2.2.1 (by decide)))
  refine ⟨okL_ap _ _ _ h1 (by rw [h2]; exact k1), m3, by rw [wkF_ap, h2]; exact k2, (h3.mono (by omega) (by omega)).trans k3, ?_⟩
  unfold rO4
  rw [if_neg (by omega)]; exact k4
theorem gO_0 {fa : Int32 → Int32} {lv D r : Nat} {T : Int32} : gO fa [] lv D T T r := fun m _ _ hO _ => ⟨trivial, m, rfl, wFr.refl, hO⟩
theorem gO_s {fa : Int32 → Int32} {cs ds : List Nat} {lv D r c : Nat} {T v v2 j : Int32} (hl : lv < 4) (hD : D ≤ 5) (hj : jcP lv c j) (hr : r ≠ 0) (hr1 : lv = 1 → r = 1) (h : gS fa cs (lv + 1) D v2) (g : gO fa ds lv D (jnV j T v2) v (r - 1)) : gO fa (c :: (cs ++ ds)) lv D T v r := by
  intro m hh hn hO h1
  obtain ⟨m', e1, e2, e3, e4⟩ := jn_ok hj hO (fun z => h1 z hr)
  obtain ⟨k1, m2, k2, k3, k4⟩ := h m' (e3.hv (by omega) hh) (e3.nb hn) e2
  obtain ⟨q1, m3, q2, q3, q4⟩ := g m2 (k3.hv (by omega) (e3.hv (by omega) hh)) (k3.nb (e3.nb hn)) (e4 m2 v2 k3 k4) (fun z y => absurd (hr1 z) (by omega))
  refine ⟨⟨hD, fun z => absurd z (jc_lt hj).2, ?_⟩, m3, ?_, (e3.trans (k3.mono (by omega) (by omega))).trans q3, q4⟩
  · rw [e1]
    exact okL_ap _ _ _ k1 (by rw [k2]; exact q1)
  · show wkF (cs ++ ds) (wkS c (D, m)) = _
    rw [e1, wkF_ap, k2]; exact q2
/-! the walk of the reference -/
def Rch (t : Nat → Nat) (N : Nat) (s s' : WS) : Prop := ∀ F, N + 1 ≤ F + s.1 → ∃ F', N + 1 ≤ F' + s'.1 ∧ wsR t N F s = wsR t N F' s'
def Flt (t : Nat → Nat) (N : Nat) (s : WS) (e : Nat × Nat) : Prop := ∀ F, N + 1 ≤ F + s.1 → wsR t N F s = .inl e
theorem Rch.refl {t : Nat → Nat} {N : Nat} {s : WS} : Rch t N s s := fun F hF => ⟨F, hF, rfl⟩
theorem Rch.trans {t : Nat → Nat} {N : Nat} {s s1 s2 : WS} (h : Rch t N s s1) (g : Rch t N s1 s2) : Rch t N s s2 := fun F hF => by
  obtain ⟨F1, h1, h2⟩ := h F hF
  obtain ⟨F2, h3, h4⟩ := g F1 h1
  exact ⟨F2, h3, h2.trans h4⟩
theorem Rch.flt {t : Nat → Nat} {N : Nat} {s s1 : WS} {e : Nat × Nat} (h : Rch t N s s1) (g : Flt t N s1 e) : Flt t N s e := fun F hF => by
  obtain ⟨F1, h1, h2⟩ := h F hF
  rw [h2]; exact g F1 h1
theorem Rch.st {t : Nat → Nat} {N : Nat} {s s' : WS} (h : wsP t N s = .inr s') (hp : s.1 ≤ N) : Rch t N s s' := fun F hF => by
  obtain ⟨h1, h2, -⟩ := wsP_r h
  have := lxE_s hp h2
  cases F with
  | zero => omega
  | succ F => exact ⟨F, by rw [h1]; omega, wsR_r h⟩
theorem Flt.st {t : Nat → Nat} {N : Nat} {s : WS} {e : Nat × Nat} (h : wsP t N s = .inl (.inl e)) (hp : s.1 ≤ N) : Flt t N s e := fun F hF => by
  cases F with
  | zero => omega
  | succ F => exact wsR_l h
/-- the loops stand still -/
def sfP (t : Nat → Nat) (N lv D : Nat) (cb : Nat → Bool) (p : Nat) : Prop := (lv ≤ 3 → jnF t N p 3 = nI 0) ∧ (lv ≤ 2 → jnF t N p 2 = nI 0) ∧ (lv ≤ 1 → jnF t N p 1 = nI 0 ∨ cb D = true) ∧ (lv ≤ 0 → jnF t N p 0 = nI 0)
theorem jnF_3 {t : Nat → Nat} {N p : Nat} : jnF t N p 3 = if isG t N p 42 then -nI 13 else nI 0 := rfl
theorem jnF_2 {t : Nat → Nat} {N p : Nat} : jnF t N p 2 = if isG t N p 43 then -nI 11 else if isG t N p 45 then -nI 12 else nI 0 := rfl
theorem jnF_1 {t : Nat → Nat} {N p : Nat} : jnF t N p 1 = if isG t N p 60 then -nI 9 else if isG t N p 61 then -nI 10 else nI 0 := rfl
theorem jnF_0 {t : Nat → Nat} {N p : Nat} : jnF t N p 0 = if isW t N p 1111 then -nI 7 else if isW t N p 423 then -nI 8 else nI 0 := rfl
def cbN (lv dp : Nat) (cb : Nat → Bool) : Nat → Bool := if lv = 0 then upB cb dp false else if lv = 1 then upB cb dp true else cb
theorem jn_ws {t : Nat → Nat} {N p lv dp : Nat} {op : Nat → Nat} {cb : Nat → Bool} {cs : List Nat} (hl : lv < 4) (hj : ¬ jnF t N p lv = nI 0) (hc : lv = 1 → cb dp = false) : ∃ c, jcP lv c (jnF t N p lv) ∧ wsP t N (p, dp, false, op, cb, cs) = .inr (lxE t N p, dp, true, op, cbN lv dp cb, cs ++ [c]) := by
  have hl4 : lv = 0 ∨ lv = 1 ∨ lv = 2 ∨ lv = 3 := by omega
  rcases hl4 with rfl | rfl | rfl | rfl
  · rw [jnF_0] at hj ⊢
    cases h1 : isW t N p 1111 with
    | true =>
      refine ⟨26, Or.inl ⟨rfl, rfl, rfl⟩, ?_⟩
      simp [wsP, isW_g h1, h1, cbN]
    | false =>
      rw [h1] at hj
      cases h2 : isW t N p 423 with
      | true =>
        refine ⟨27, Or.inr (Or.inl ⟨rfl, rfl, rfl⟩), ?_⟩
        simp [wsP, isW_g h2, h1, h2, cbN]
      | false => rw [h2] at hj; exact absurd rfl hj
  · rw [jnF_1] at hj ⊢
    have hc := hc rfl
    cases h1 : isG t N p 60 with
    | true =>
      refine ⟨24, Or.inr (Or.inr (Or.inl ⟨rfl, rfl, rfl⟩)), ?_⟩
      simp [wsP, isG_o h1 (show 43 ≠ 60 by decide), isG_o h1 (show 45 ≠ 60 by decide), isG_o h1 (show 42 ≠ 60 by decide), h1, hc, cbN]
    | false =>
      rw [h1] at hj
      cases h2 : isG t N p 61 with
      | true =>
        refine ⟨25, Or.inr (Or.inr (Or.inr (Or.inl ⟨rfl, rfl, rfl⟩))), ?_⟩
        simp [wsP, isG_o h2 (show 43 ≠ 61 by decide), isG_o h2 (show 45 ≠ 61 by decide), isG_o h2 (show 42 ≠ 61 by decide), h1, h2, hc, cbN]
      | false => rw [h2] at hj; exact absurd rfl hj
  · rw [jnF_2] at hj ⊢
    cases h1 : isG t N p 43 with
    | true =>
      refine ⟨20, Or.inr (Or.inr (Or.inr (Or.inr (Or.inl ⟨rfl, rfl, rfl⟩)))), ?_⟩
      simp [wsP, h1, cbN]
    | false =>
      rw [h1] at hj
      cases h2 : isG t N p 45 with
      | true =>
        refine ⟨21, Or.inr (Or.inr (Or.inr (Or.inr (Or.inr (Or.inl ⟨rfl, rfl, rfl⟩))))), ?_⟩
        simp [wsP, h1, h2, cbN]
      | false => rw [h2] at hj; exact absurd rfl hj
  · rw [jnF_3] at hj ⊢
    cases h1 : isG t N p 42 with
    | true =>
      refine ⟨22, Or.inr (Or.inr (Or.inr (Or.inr (Or.inr (Or.inr ⟨rfl, rfl, rfl⟩))))), ?_⟩
      simp [wsP, h1, cbN, isG_o h1 (show 43 ≠ 42 by decide), isG_o h1 (show 45 ≠ 42 by decide)]
    | false => rw [h1] at hj; exact absurd rfl hj
/-- no joiner stands there -/
theorem ws_sf {t : Nat → Nat} {N p dp : Nat} {op : Nat → Nat} {cb : Nat → Bool} {cs : List Nat} (h : sfP t N 0 dp cb p) : wsP t N (p, dp, false, op, cb, cs) = if isG t N p 41 = true ∧ 0 < dp then .inr (lxE t N p, popd op (dp - 1), false, op, cb, cs ++ [29]) else if dp = 0 ∧ isG t N p 59 = true then .inl (.inr (lxE t N p, cs)) else .inl (.inl (1, lxBg t N p)) := by
  obtain ⟨h3, h2, h1, h0⟩ := h
  have h3 := h3 (by decide)
  have h2 := h2 (by decide)
  have h1 := h1 (by decide)
  have h0 := h0 (by decide)
  rw [jnF_3] at h3
  rw [jnF_2] at h2
  rw [jnF_1] at h1
  rw [jnF_0] at h0
  have a42 : isG t N p 42 = false := bf_t (fun z => by rw [z] at h3; exact absurd h3 (by decide))
  have a43 : isG t N p 43 = false := bf_t (fun z => by rw [z, if_pos rfl] at h2; exact absurd h2 (by decide))
  have a45 : isG t N p 45 = false := bf_t (fun z => by rw [a43, z] at h2; exact absurd h2 (by decide))
  have w1 : isW t N p 1111 = false := bf_t (fun z => by rw [z, if_pos rfl] at h0; exact absurd h0 (by decide))
  have w2 : isW t N p 423 = false := bf_t (fun z => by rw [w1, z] at h0; exact absurd h0 (by decide))
  have a6 : ¬ ((isG t N p 60 = true ∨ isG t N p 61 = true) ∧ cb dp = false) := fun z => by
    rcases h1 with y | y
    · rcases z.1 with x | x
      · rw [x, if_pos rfl] at y; exact absurd y (by decide)
      · have a60 : isG t N p 60 = false := isG_o x (by decide)
        rw [a60, x] at y; exact absurd y (by decide)
    · rw [y] at z; cases z.2
  unfold wsP
  rw [if_neg (show ¬ false = true by decide), if_neg (by rw [a42, a43, a45]; decide), if_neg a6, if_neg (by rw [w1, w2]; decide)]
