/-! the wish's value: class and reference -/
theorem okL_at : ∀ (cs : List Nat) (s : WKS), okL cs s → ∀ i, i < cs.length → (wkF (cs.take i) s).1 ≤ 5 ∧ (cs.getD i 0 = 29 → 1 ≤ (wkF (cs.take i) s).1)
  | [], _, _, i, hi => absurd hi (Nat.not_lt_zero _)
  | _ :: _, _, h, 0, _ => ⟨h.1, h.2.1⟩
  | _ :: cs, s, h, i + 1, hi => okL_at cs (wkS _ s) h.2.2 i (Nat.lt_of_succ_lt_succ hi)
theorem gd_el {α : Type} (x : List α) (d : α) {i : Nat} (h : i < x.length) : x.getD i d = x[i] := by rw [List.getD_eq_getElem?_getD, List.getElem?_eq_getElem h, Option.getD_some]
theorem wkN_F {cd : Nat → Nat} {s : WKS} {cs : List Nat} (h : ∀ i, i < cs.length → cd i = cs.getD i 0) : ∀ i, i ≤ cs.length → wkN cd s i = wkF (cs.take i) s
  | 0, _ => rfl
  | i + 1, hi => by
    have hi' : i < cs.length := hi
    show wkS (cd i) (wkN cd s i) = _
    rw [wkN_F h i (Nat.le_of_lt hi'), h i hi', gd_el _ _ hi', ← List.take_append_getElem hi', wkF_ap, wkF_1]
theorem evN_F {fa : Int32 → Int32} {s : Nat × (Nat → Int32)} (u : List Int32) : ∀ i, i ≤ u.length → evN fa (fun i => u.getD i 0) s i = evF fa (u.take i) s
  | 0, _ => rfl
  | i + 1, hi => by
    have hi' : i < u.length := hi
    show evS fa (u.getD i 0) (evN fa (fun i => u.getD i 0) s i) = _
    rw [evN_F u i (Nat.le_of_lt hi'), gd_el _ _ hi', ← List.take_append_getElem hi', evF_ap, evF_1]
def evD (wn : Nat) (cd : Nat → Nat) (l ta tb : Int32) (u b : Bool) : Int32 := wkE (valM (fun _ _ => nI 0) l ta tb u b) wn cd 146 0
theorem opn_hv (m : Nat → Nat → Int32) (l ta tb : Int32) (u b : Bool) : hvP (facV l ta tb u b) (opnM (valM m l ta tb u b) 0) := by
  intro c h1 h2
  have : c = 1 ∨ c = 2 ∨ c = 3 ∨ c = 4 ∨ c = 5 := by omega
  rcases this with rfl | rfl | rfl | rfl | rfl
  · rfl
  · rfl
  · rfl
  · cases u <;> rfl
  · cases b <;> rfl
theorem wRl.val {x : List Int32} {cs : List Nat} (h : wRl x cs) {cd : Nat → Nat} (hc : ∀ i, i < cs.length → cd i = cs.getD i 0) (l ta tb : Int32) (u b : Bool) : ∃ v, (∀ m, WkOk (valM m l ta tb u b) cs.length cd ∧ wkE (valM m l ta tb u b) cs.length cd 146 0 = v) ∧ ∀ st, (evN (facV l ta tb u b) (fun i => x.getD i 0) (0, st) x.length).2 0 = v := by
  obtain ⟨v, h1, h2⟩ := h (facV l ta tb u b)
  refine ⟨v, fun m => ?_, fun st => ?_⟩
  · obtain ⟨k1, m2, k2, -, k4⟩ := h2 (opnM (valM m l ta tb u b) 0) (opn_hv m l ta tb u b) (Or.inl rfl) ⟨fun _ => rfl, fun _ => ⟨rfl, rfl⟩, fun _ => rfl, fun _ => rfl⟩
    refine ⟨fun i hi => ?_, ?_⟩
    · rw [wkN_F hc i (Nat.le_of_lt hi), hc i hi]
      exact okL_at cs _ k1 i hi
    · unfold wkE
      rw [wkN_F hc _ (Nat.le_refl _), List.take_length]
      show tstM (wkF cs (0, opnM (valM m l ta tb u b) 0)).2 0 146 0 = v
      rw [k2, tst_k]
      exact k4
  · obtain ⟨st', e1, e2, -⟩ := h1 0 st (Nat.le_refl _)
    rw [evN_F x _ (Nat.le_refl _), List.take_length, e1]
    exact e2
theorem WiR.ev {sh : Nat → Option Sh} {mI : Nat → Nat → Int32} {mR : Nat → Nat → Option Nat} {C n wn : Nat} {cd : Nat → Nat} (h : WiR sh mI mR C n wn cd) : WEv wn cd (evD wn cd) ∧ ∃ Wc wl w, mR C 7 = some Wc ∧ sh Wc = some (.inr (.int, wl)) ∧ wl ≤ 1000 ∧ C + 5 ≤ Wc ∧ Wc < n ∧ (∀ i, i < wl → mI Wc i = w i) ∧ ∀ l ta tb up b st, (evN (facV l ta tb up b) w (0, st) wl).2 0 = if 0 < wn then evD wn cd l ta tb up b else l := by
  obtain ⟨Wc, x, w1, w2, w3, w4, w5, w6, w7⟩ := h
  rcases w7 with ⟨h0, hx⟩ | ⟨h0, cs, hl, hc, hr⟩
  · refine ⟨fun z => by omega, Wc, x.length, fun i => x.getD i 0, w1, w2, w3, w4, w5, w6, fun l ta tb up b st => ?_⟩
    rw [if_neg (by omega), hx]
    rfl
  · subst hl
    refine ⟨fun _ m l ta tb u b => ?_, Wc, x.length, fun i => x.getD i 0, w1, w2, w3, w4, w5, w6, fun l ta tb up b st => ?_⟩
    · obtain ⟨v, k1, -⟩ := hr.val hc l ta tb u b
      exact ⟨(k1 m).1, (k1 m).2.trans (k1 (fun _ _ => nI 0)).2.symm⟩
    · obtain ⟨v, k1, k2⟩ := hr.val hc l ta tb up b
      rw [if_pos h0]
      exact (k2 st).trans (k1 (fun _ _ => nI 0)).2.symm
/-- codes of what is kept are small -/
theorem cpF_lt (np : Nat) (V : Nat → Nat → Int32) : ∀ f t w s, (∀ q, w q < 16) → np ≤ 16 → (∀ k, k < s.1 → s.2 k < 16 ^ np) → ∀ k, k < (cpF np V f t w s).1 → (cpF np V f t w s).2 k < 16 ^ np
  | 0, _, _, _, _, _, h => h
  | f + 1, t, w, s, hw, hn, h => by
    rw [cpF_s]
    by_cases e : t = 0
    · rw [if_pos e]
      unfold kpS
      split
      · intro k hk
        have hk' : k < s.1 + 1 := hk
        show upN s.2 s.1 (pk16 w np) k < 16 ^ np
        by_cases e2 : k = s.1
        · rw [e2, upN_eq]; exact pk16_lt np (fun p _ => hw p)
        · rw [upN_ne e2]; exact h k (by omega)
      · exact h
    · rw [if_neg e]
      have key : ∀ b, b ≤ np → ∀ k, k < (fdK (cpG np V f t w) b s).1 → (fdK (cpG np V f t w) b s).2 k < 16 ^ np := by
        intro b
        induction b with
        | zero => intro _; exact h
        | succ b ih =>
          intro hb
          rw [fdK_s]
          unfold cpG
          split
          · rename_i z
            rw [Bool.and_eq_true] at z
            have z1 : lowN t < b := of_decide_eq_true z.1
            refine cpF_lt np V f _ _ _ (fun q => ?_) hn (ih (by omega))
            unfold upN
            split
            · omega
            · split
              · omega
              · exact hw q
          · exact ih (by omega)
      exact key np (Nat.le_refl _)
theorem kpA_lt {np : Nat} (hn : np ≤ 8) (V : Nat → Nat → Int32) : ∀ k, k < (kpA np V).1 → (kpA np V).2 k < 2 ^ 62 := fun k hk => by
  have := cpF_lt np V _ _ _ _ (fun _ => by decide) (by omega) (fun k hk => absurd hk (Nat.not_lt_zero _)) k hk
  have e : 16 ^ np ≤ 16 ^ 8 := Nat.pow_le_pow_right (by decide) hn
  have e2 : (16 : Nat) ^ 8 < 2 ^ 62 := by decide
  exact Nat.lt_of_lt_of_le this (by omega)
theorem kpA_105 {np : Nat} (hn : np ≤ 8) (hev : np % 2 = 0) (V : Nat → Nat → Int32) : (kpA np V).1 ≤ 105 := by
  have := cpF_n (np := np) (by omega) V (np / 2) (2 ^ np - 1) (fun _ => 0) (0, fun _ => 0) (by have := Nat.two_pow_pos np; omega) (by
    have : np = 0 ∨ np = 2 ∨ np = 4 ∨ np = 6 ∨ np = 8 := by omega
    rcases this with rfl | rfl | rfl | rfl | rfl <;> decide +kernel)
  refine Nat.le_trans this ?_
  have : np = 0 ∨ np = 2 ∨ np = 4 ∨ np = 6 ∨ np = 8 := by omega
  rcases this with rfl | rfl | rfl | rfl | rfl <;> decide
def aLk (A : DD) (a b : Nat) : Nat := A 8 (10 * a + b)
def aV (A : DD) : Nat → Nat → Int32 := rsW (A 0 0) (A 0 2) (A 5) (A 6) (A 2) (A 0 6) (evD (A 0 6) (A 10)) (aLk A) (A 3)
def aWi (A : DD) (x y : Int32) : Int32 := if a2 A x y then wisW (A 2) (A 0 6) (evD (A 0 6) (A 10)) (aLk A) (A 3) (abv (A 0 0) (A 0 2) (A 5) (A 6)) x.toNatClampNeg y.toNatClampNeg else -nI 1
theorem ab_f {A : DD} (a b : Nat) : (decide (0 < ordN (A 0 0) (A 0 2) (A 5) (A 6)) && (abv (A 0 0) (A 0 2) (A 5) (A 6) a).testBit b) = (abv (A 0 0) (A 0 2) (A 5) (A 6) a).testBit b := by
  by_cases h : 0 < ordN (A 0 0) (A 0 2) (A 5) (A 6)
  · rw [decide_eq_true h, Bool.true_and]
  · rw [abv_0 h, Nat.zero_testBit, Bool.and_false]
set_option maxHeartbeats 800000 in
set_option maxRecDepth 100000 in
theorem c11_wishes (l : Launch) (X : Cx) (d : Nat) (sh : Nat → Option Sh) (mI : Nat → Nat → Int32) (mL : Nat → Nat → Int64) (mR : Nat → Nat → Option Nat) (n : Nat) (hn : n ≤ 1000000000) (hB : BL sh mR) (C : Nat) (A : DD) (hV : AsV A) (hS : ShA sh mI mR n 20 C A) (hI : LdI mI A) (x y : Int32) (hd : 4 ≤ d) : Cn l X yX11_wishes cX11_wishes 3 (some .int) d [.ref 0, .int x, .int y] (sh, mI, mL, mR, n) (fun r M' => r = some (.int (aWi A x y)) ∧ ∃ mI', M' = (sh, mI', mL, mR, n) ∧ (∀ a k, ¬ (33 ≤ a ∧ a ≤ 36) → a ≠ 59 → mI' a k = mI a k) ∧ LdI mI' A) 0 0 := by
  refine Cn.run 11 false (by decide) rfl (by decide) (by simp [entA, Value.category]) ?_
  intro P G hP hG
  have q0 := hB.1
  have b3 := hB.2.2.2.1.1
  have b5 := hB.2.2.2.2.2.1.1
  have o2 := hB.2.2.2.2.2.1.2
  have b10 := hB.2.2.2.2.2.2.2.2.2.2.1.1
  have o9 := hB.2.2.2.2.2.2.2.2.2.2.1.2
  have s9 := o9.1
  have s6 := hB.2.2.2.1.2.1
  have s2 := o2.1
  have sc := hS.1
  have o4 := hS.2.1.1
  have c4 := o4.1
  have cr := hS.2.1.c
  have hnp := hV.1.1
  refine hG.run [] 20 ?_
  simp [wp, stepI, ln, jmp, cmpI, Value.category, rd, tyF, va_rf, st1, st2, clr, isLg, CB, inx_0, inx_1, inx_2, inx_3, inx_4, inx_5, bI_0, bI_1, bI_ok, fin3, tyX11, entL, q0, dX11_wishes_0, dX11_wishes_1, dX11_wishes_2, dX11_wishes_3, dX11_wishes_6, dX11_wishes_9, dX11_wishes_10, dX11_wishes_11, dX11_wishes_12, fT_11_34, dX11_wishes_15, dX11_wishes_16, fT_11_23, dX11_wishes_19, dX11_wishes_22, dX11_wishes_23, fT_11_67, dX11_wishes_26, dX11_wishes_27, dX11_wishes_30, fT_11_104, dX11_wishes_33, dX11_wishes_34, dX11_wishes_37, dX11_wishes_38, dX11_wishes_39, dX11_wishes_42]
  refine hG.callV dX11_wishes_3 mv_11_123 [.int x, .int y] [] (c11_areTwo l X (d - 1) sh mI mL mR n hB C A hS x y (by omega)) ⟨_, rfl, rfl⟩ q0 (by omega) rfl (by decide) (by simp [Value.category]) rfl ?_
  rintro r M' ⟨rfl, rfl⟩
  cases h2 : a2 A x y with
  | false =>
    have q := hP _ _ ⟨rfl, mI, rfl, fun _ _ _ _ => rfl, hI⟩
    have e : aWi A x y = -1 := by unfold aWi; rw [h2]; rfl
    rw [e] at q
    refine hG.run [11] 20 ?_
    simp [wp, stepI, ln, jmp, cmpI, Value.category, rd, tyF, va_rf, st1, st2, clr, isLg, CB, inx_0, inx_1, inx_2, inx_3, inx_4, inx_5, bI_0, bI_1, bI_ok, fin3, tyX11, entL, q0, dX11_wishes_0, dX11_wishes_1, dX11_wishes_2, dX11_wishes_3, dX11_wishes_6, dX11_wishes_9, dX11_wishes_10, dX11_wishes_11, dX11_wishes_12, fT_11_34, dX11_wishes_15, dX11_wishes_16, fT_11_23, dX11_wishes_19, dX11_wishes_22, dX11_wishes_23, fT_11_67, dX11_wishes_26, dX11_wishes_27, dX11_wishes_30, fT_11_104, dX11_wishes_33, dX11_wishes_34, dX11_wishes_37, dX11_wishes_38, dX11_wishes_39, dX11_wishes_42]
    exact q
  | true =>
    obtain ⟨p, q, hp, hq, hpq, rfl, rfl⟩ := a2_i hV h2
    refine hG.run [19] 20 ?_
    simp [wp, stepI, ln, jmp, cmpI, Value.category, rd, tyF, va_rf, st1, st2, clr, isLg, CB, inx_0, inx_1, inx_2, inx_3, inx_4, inx_5, bI_0, bI_1, bI_ok, fin3, tyX11, entL, q0, b3, b5, dX11_wishes_0, dX11_wishes_1, dX11_wishes_2, dX11_wishes_3, dX11_wishes_6, dX11_wishes_9, dX11_wishes_10, dX11_wishes_11, dX11_wishes_12, fT_11_34, dX11_wishes_15, dX11_wishes_16, fT_11_23, dX11_wishes_19, dX11_wishes_22, dX11_wishes_23, fT_11_67, dX11_wishes_26, dX11_wishes_27, dX11_wishes_30, fT_11_104, dX11_wishes_33, dX11_wishes_34, dX11_wishes_37, dX11_wishes_38, dX11_wishes_39, dX11_wishes_42]
    refine hG.callV dX11_wishes_19 mv_11_150 [.ref 20] [] (c2_now l X (d - 1) sh mI mL mR n hB C A hV hS hI (by omega)) ⟨_, rfl, rfl⟩ s2 (by omega) rfl (by decide) (by simp [Value.category]) rfl ?_
    rintro r M' ⟨rfl, mI1, rfl, f1, R1, I1⟩
    have S1 := hS.fr (fun a k h => f1 a k (by omega))
    obtain ⟨z1, z2, z3, z4, z5, z6⟩ := S1.s hV
    obtain ⟨-, Wc, wl, w, w1, w2, w3, w4, w5, w6, w7⟩ := S1.2.1.2.2.2.2.2.2.2.ev
    have kw := S1.2.1.w w1 w4
    refine hG.run [39] 20 ?_
    simp [wp, stepI, ln, jmp, cmpI, Value.category, rd, tyF, va_rf, st1, st2, clr, isLg, CB, inx_0, inx_1, inx_2, inx_3, inx_4, inx_5, bI_0, bI_1, bI_ok, fin3, tyX11, entL, q0, b3, b5, b10, s6, sc, tyX6, dX11_wishes_0, dX11_wishes_1, dX11_wishes_2, dX11_wishes_3, dX11_wishes_6, dX11_wishes_9, dX11_wishes_10, dX11_wishes_11, dX11_wishes_12, fT_11_34, dX11_wishes_15, dX11_wishes_16, fT_11_23, dX11_wishes_19, dX11_wishes_22, dX11_wishes_23, fT_11_67, dX11_wishes_26, dX11_wishes_27, dX11_wishes_30, fT_11_104, dX11_wishes_33, dX11_wishes_34, dX11_wishes_37, dX11_wishes_38, dX11_wishes_39, dX11_wishes_42]
    refine hG.callV dX11_wishes_39 mv_11_229 [.ref C, .ref 33, .int (nI p), .int (nI q)] [] (c9_wishOf l X (d - 1) sh mI1 mL mR n 58 C 33 Wc wl o9 o4 o2 w1 w2 w3 (by omega) (by omega) (by omega) (by omega) w w6 (A 0 0) z1 (A 0 3) (A 2) z5 (aLk A) z6 (A 3) (fun p hp => (S1.2.1.2.2.2.2.1 p hp).2) _ _ R1.2.2 p q hp hq _ (fun st => w7 _ _ _ _ _ st) (by omega)) ⟨_, rfl, rfl⟩ s9 (by omega) rfl (by decide) (by simp [Value.category]) rfl ?_
    rintro r M' ⟨rfl, mI2, rfl, f2⟩
    have qq := hP _ _ ⟨rfl, mI2, rfl, fun a k h1 h2 => (f2 a k (by omega)).trans (f1 a k h1), I1.fr (fun a k h1 h2 h3 => f2 a k (by omega))⟩
    have e : aWi A (nI p) (nI q) = kndA (A 2 p) (aLk A p q) (decide (0 < ordN (A 0 0) (A 0 2) (A 5) (A 6)) && (abv (A 0 0) (A 0 2) (A 5) (A 6) p).testBit q) (if 0 < A 0 6 then evD (A 0 6) (A 10) (nI (aLk A p q)) (nI (A 3 p)) (nI (A 3 q)) (decide (0 < ordN (A 0 0) (A 0 2) (A 5) (A 6)) && (abv (A 0 0) (A 0 2) (A 5) (A 6) p).testBit q) (decide (0 < ordN (A 0 0) (A 0 2) (A 5) (A 6)) && (abv (A 0 0) (A 0 2) (A 5) (A 6) q).testBit p) else nI (aLk A p q)) := by
      unfold aWi
      rw [h2, if_pos rfl, nI_clamp (by omega), nI_clamp (by omega), ab_f, ab_f]; rfl
    rw [e] at qq
    refine hG.run [] 20 ?_
    simp [wp, stepI, ln, jmp, cmpI, Value.category, rd, tyF, va_rf, st1, st2, clr, isLg, CB, inx_0, inx_1, inx_2, inx_3, inx_4, inx_5, bI_0, bI_1, bI_ok, fin3, tyX11, entL, q0, dX11_wishes_0, dX11_wishes_1, dX11_wishes_2, dX11_wishes_3, dX11_wishes_6, dX11_wishes_9, dX11_wishes_10, dX11_wishes_11, dX11_wishes_12, fT_11_34, dX11_wishes_15, dX11_wishes_16, fT_11_23, dX11_wishes_19, dX11_wishes_22, dX11_wishes_23, fT_11_67, dX11_wishes_26, dX11_wishes_27, dX11_wishes_30, fT_11_104, dX11_wishes_33, dX11_wishes_34, dX11_wishes_37, dX11_wishes_38, dX11_wishes_39, dX11_wishes_42]
    exact qq
def WsR (mI : Nat → Nat → Int32) (mL : Nat → Nat → Int64) (A : DD) : Prop := mI 58 5 = nI 1 ∧ KpM mI mL 58 (kpA (A 0 0) (aV A))
def WsI (mI : Nat → Nat → Int32) (mL : Nat → Nat → Int64) (A : DD) : Prop := mI 58 5 = nI 0 ∨ WsR mI mL A
theorem WsI.fr {mI mI' : Nat → Nat → Int32} {mL mL' : Nat → Nat → Int64} {A : DD} (h : WsI mI mL A) (hi : ∀ k, mI' 58 k = mI 58 k) (hl : ∀ k, mL' 62 k = mL 62 k) : WsI mI' mL' A := by
  rcases h with h | ⟨h1, h2, h3, h4⟩
  · exact Or.inl ((hi _).trans h)
  · exact Or.inr ⟨(hi _).trans h1, (hi _).trans h2, h3, fun k hk => (hl _).trans (h4 k hk)⟩
set_option maxHeartbeats 1600000 in
set_option maxRecDepth 100000 in
theorem c11_findRests (l : Launch) (X : Cx) (d : Nat) (sh : Nat → Option Sh) (mI : Nat → Nat → Int32) (mL : Nat → Nat → Int64) (mR : Nat → Nat → Option Nat) (n : Nat) (hn : n ≤ 1000000000) (hB : BL sh mR) (C : Nat) (A : DD) (hV : AsV A) (hS : ShA sh mI mR n 20 C A) (hI : LdI mI A) (hW : WsI mI mL A) (hd : 12 ≤ d) : Cn l X yX11_findRests cX11_findRests 2 (some .boolean) d [.ref 0] (sh, mI, mL, mR, n) (fun r M' => r = some (.int (bI (okR (A 0 0)))) ∧ ∃ mI' mL', M' = (sh, mI', mL', mR, n) ∧ (∀ a k, ¬ (33 ≤ a ∧ a ≤ 36) → ¬ (58 ≤ a ∧ a ≤ 61) → mI' a k = mI a k) ∧ (∀ a k, a ≠ 62 → mL' a k = mL a k) ∧ LdI mI' A ∧ WsI mI' mL' A ∧ (okR (A 0 0) = true → WsR mI' mL' A)) 0 0 := by
  refine Cn.run 11 false (by decide) rfl (by decide) (by simp [entA, Value.category]) ?_
  intro P G hP hG
  have q0 := hB.1
  have b3 := hB.2.2.2.1.1
  have b5 := hB.2.2.2.2.2.1.1
  have o2 := hB.2.2.2.2.2.1.2
  have b10 := hB.2.2.2.2.2.2.2.2.2.2.1.1
  have o9 := hB.2.2.2.2.2.2.2.2.2.2.1.2
  have s9 := o9.1
  have s6 := hB.2.2.2.1.2.1
  have s2 := o2.1
  have sc := hS.1
  have o4 := hS.2.1.1
  have c4 := o4.1
  have cp := hS.2.1.2.2.2.1.1
  have cr := hS.2.1.c
  have hnp := hV.1.1
  have rm : nI (A 0 0) - nI (A 0 0) / nI 2 * nI 2 = nI (A 0 0 % 2) := (by decide +kernel : ∀ v, v ≤ 10 → nI v - nI v / nI 2 * nI 2 = nI (v % 2)) _ hnp
  have no : okR (A 0 0) = false → P (some (.int 0)) (sh, mI, mL, mR, n) := fun z => hP _ _ ⟨by rw [z]; rfl, mI, mL, rfl, fun _ _ _ _ => rfl, fun _ _ _ => rfl, hI, hW, fun z2 => absurd (z.symm.trans z2) (by decide)⟩
  have no28 : okR (A 0 0) = false → G 28 [some (.ref 0), some (.int (nI (A 0 0)))] [] (sh, mI, mL, mR, n) := fun z => by
    have q := no z
    refine hG.run [] 20 ?_
    simp [wp, stepI, ln, jmp, cmpI, Value.category, rd, tyF, va_rf, st1, st2, clr, isLg, CB, inx_0, inx_1, inx_2, inx_3, inx_4, inx_5, bI_0, bI_1, bI_ok, fin3, tyX11, entL, q0, dX11_findRests_0, dX11_findRests_1, fT_11_23, dX11_findRests_4, fT_11_104, dX11_findRests_7, fT_11_180, dX11_findRests_10, dX11_findRests_11, dX11_findRests_12, dX11_findRests_13, dX11_findRests_16, dX11_findRests_17, dX11_findRests_19, dX11_findRests_22, dX11_findRests_23, dX11_findRests_24, dX11_findRests_25, dX11_findRests_28, dX11_findRests_29, dX11_findRests_30, dX11_findRests_31, fT_11_34, dX11_findRests_34, dX11_findRests_35, dX11_findRests_38, dX11_findRests_41, dX11_findRests_42, fT_11_67, dX11_findRests_45, dX11_findRests_46, dX11_findRests_49, dX11_findRests_52, dX11_findRests_53, dX11_findRests_56, dX11_findRests_59, dX11_findRests_60]
    exact q
  have go : okR (A 0 0) = true → G 30 [some (.ref 0), some (.int (nI (A 0 0)))] [] (sh, mI, mL, mR, n) := fun z => by
    have zz := z
    unfold okR at zz
    rw [Bool.and_eq_true, Bool.and_eq_true] at zz
    have ev : A 0 0 % 2 = 0 := of_decide_eq_true zz.1.2
    have n8 : A 0 0 ≤ 8 := of_decide_eq_true zz.2
    refine hG.run [] 20 ?_
    simp [wp, stepI, ln, jmp, cmpI, Value.category, rd, tyF, va_rf, st1, st2, clr, isLg, CB, inx_0, inx_1, inx_2, inx_3, inx_4, inx_5, bI_0, bI_1, bI_ok, fin3, tyX11, entL, q0, b3, b5, dX11_findRests_0, dX11_findRests_1, fT_11_23, dX11_findRests_4, fT_11_104, dX11_findRests_7, fT_11_180, dX11_findRests_10, dX11_findRests_11, dX11_findRests_12, dX11_findRests_13, dX11_findRests_16, dX11_findRests_17, dX11_findRests_19, dX11_findRests_22, dX11_findRests_23, dX11_findRests_24, dX11_findRests_25, dX11_findRests_28, dX11_findRests_29, dX11_findRests_30, dX11_findRests_31, fT_11_34, dX11_findRests_34, dX11_findRests_35, dX11_findRests_38, dX11_findRests_41, dX11_findRests_42, fT_11_67, dX11_findRests_45, dX11_findRests_46, dX11_findRests_49, dX11_findRests_52, dX11_findRests_53, dX11_findRests_56, dX11_findRests_59, dX11_findRests_60]
    refine hG.callV dX11_findRests_38 mv_11_150 [.ref 20] [] (c2_now l X (d - 1) sh mI mL mR n hB C A hV hS hI (by omega)) ⟨_, rfl, rfl⟩ s2 (by omega) rfl (by decide) (by simp [Value.category]) rfl ?_
    rintro r M' ⟨rfl, mI1, rfl, f1, R1, I1⟩
    have S1 := hS.fr (fun a k h => f1 a k (by omega))
    obtain ⟨z1, z2, z3, z4, z5, z6⟩ := S1.s hV
    obtain ⟨-, Wc, wl, w, w1, w2, w3, w4, w5, w6, w7⟩ := S1.2.1.2.2.2.2.2.2.2.ev
    have kw := S1.2.1.w w1 w4
    have W1 : WsI mI1 mL A := hW.fr (fun k => f1 _ _ (by omega)) (fun _ => rfl)
    have st : Cn l X yX9_study cX9_study 5 none (d - 1) [.ref 58, .ref C, .ref 33] (sh, mI1, mL, mR, n) (fun r M' => r = none ∧ ∃ mI' mL', M' = (sh, mI', mL', mR, n) ∧ (∀ a k, ¬ (58 ≤ a ∧ a ≤ 61) → mI' a k = mI1 a k) ∧ (∀ a k, a ≠ 62 → mL' a k = mL a k) ∧ WsR mI' mL' A) 0 0 := by
      rcases W1 with h | h
      · refine (c9_study l X (d - 1) sh mI1 mL mR n 58 C 33 Wc wl o9 o4 o2 w1 w2 w3 (by omega) (by omega) (by omega) (by omega) w w6 (A 0 0) z1 n8 ev (A 0 3) (A 2) z5 (aLk A) z6 (A 3) (fun p hp => (S1.2.1.2.2.2.2.1 p hp).2) _ _ R1.2.2 (fun a b => if 0 < A 0 6 then evD (A 0 6) (A 10) (nI (aLk A a b)) (nI (A 3 a)) (nI (A 3 b)) (decide (0 < ordN (A 0 0) (A 0 2) (A 5) (A 6)) && (abv (A 0 0) (A 0 2) (A 5) (A 6) a).testBit b) (decide (0 < ordN (A 0 0) (A 0 2) (A 5) (A 6)) && (abv (A 0 0) (A 0 2) (A 5) (A 6) b).testBit a) else nI (aLk A a b)) (fun a b _ _ st => w7 _ _ _ _ _ st) (aV A) (fun a b => ?_) h (by omega)).weak ?_
        · by_cases e : a = b
          · rw [if_pos e]; unfold aV rsW; rw [if_pos e]
          · rw [if_neg e, ab_f, ab_f]; unfold aV rsW; rw [if_neg e]; rfl
        · rintro r M' ⟨rfl, mI2, mL2, rfl, f2, f3, f4, f5⟩
          exact ⟨rfl, mI2, mL2, rfl, fun a k h => f2 a k (by omega) (by omega) (by omega) (by omega), fun a k h => f3 a k (by omega), f4, f5⟩
      · refine (c9_studyR l X (d - 1) sh mI1 mL mR n 58 C 33 o9 h.1).weak ?_
        rintro r M' ⟨rfl, rfl⟩
        exact ⟨rfl, mI1, mL, rfl, fun _ _ _ => rfl, fun _ _ _ => rfl, h⟩
    refine hG.run [] 20 ?_
    simp [wp, stepI, ln, jmp, cmpI, Value.category, rd, tyF, va_rf, st1, st2, clr, isLg, CB, inx_0, inx_1, inx_2, inx_3, inx_4, inx_5, bI_0, bI_1, bI_ok, fin3, tyX11, entL, q0, b3, b5, b10, s6, sc, tyX6, dX11_findRests_0, dX11_findRests_1, fT_11_23, dX11_findRests_4, fT_11_104, dX11_findRests_7, fT_11_180, dX11_findRests_10, dX11_findRests_11, dX11_findRests_12, dX11_findRests_13, dX11_findRests_16, dX11_findRests_17, dX11_findRests_19, dX11_findRests_22, dX11_findRests_23, dX11_findRests_24, dX11_findRests_25, dX11_findRests_28, dX11_findRests_29, dX11_findRests_30, dX11_findRests_31, fT_11_34, dX11_findRests_34, dX11_findRests_35, dX11_findRests_38, dX11_findRests_41, dX11_findRests_42, fT_11_67, dX11_findRests_45, dX11_findRests_46, dX11_findRests_49, dX11_findRests_52, dX11_findRests_53, dX11_findRests_56, dX11_findRests_59, dX11_findRests_60]
    refine hG.callV dX11_findRests_56 mv_11_272 [.ref C, .ref 33] [] st ⟨_, rfl, rfl⟩ s9 (by omega) rfl (by decide) (by simp [Value.category]) rfl ?_
    rintro r M' ⟨rfl, mI2, mL2, rfl, f2, f3, W2⟩
    have qq := hP (some (.int 1)) _ ⟨by rw [z]; rfl, mI2, mL2, rfl, fun a k h1 h2 => (f2 a k h2).trans (f1 a k h1), f3, I1.fr (fun a k h1 h2 h3 => f2 a k (by omega)), Or.inr W2, fun _ => W2⟩
    refine hG.run [] 20 ?_
    simp [wp, stepI, ln, jmp, cmpI, Value.category, rd, tyF, va_rf, st1, st2, clr, isLg, CB, inx_0, inx_1, inx_2, inx_3, inx_4, inx_5, bI_0, bI_1, bI_ok, fin3, tyX11, entL, q0, dX11_findRests_0, dX11_findRests_1, fT_11_23, dX11_findRests_4, fT_11_104, dX11_findRests_7, fT_11_180, dX11_findRests_10, dX11_findRests_11, dX11_findRests_12, dX11_findRests_13, dX11_findRests_16, dX11_findRests_17, dX11_findRests_19, dX11_findRests_22, dX11_findRests_23, dX11_findRests_24, dX11_findRests_25, dX11_findRests_28, dX11_findRests_29, dX11_findRests_30, dX11_findRests_31, fT_11_34, dX11_findRests_34, dX11_findRests_35, dX11_findRests_38, dX11_findRests_41, dX11_findRests_42, fT_11_67, dX11_findRests_45, dX11_findRests_46, dX11_findRests_49, dX11_findRests_52, dX11_findRests_53, dX11_findRests_56, dX11_findRests_59, dX11_findRests_60]
    exact qq
  have okf : ¬ (2 ≤ A 0 0 ∧ A 0 0 ≤ 8 ∧ A 0 0 % 2 = 0) → okR (A 0 0) = false := fun z => (by decide : ∀ v, v ≤ 10 → ¬ (2 ≤ v ∧ v ≤ 8 ∧ v % 2 = 0) → okR v = false) _ hnp z
  have okt : 2 ≤ A 0 0 ∧ A 0 0 ≤ 8 ∧ A 0 0 % 2 = 0 → okR (A 0 0) = true := fun z => (by decide : ∀ v, v ≤ 10 → (2 ≤ v ∧ v ≤ 8 ∧ v % 2 = 0) → okR v = true) _ hnp z
  refine hG.run [28, 30] 20 ?_
  simp [wp, stepI, ln, jmp, cmpI, Value.category, rd, tyF, va_rf, st1, st2, clr, isLg, CB, inx_0, inx_1, inx_2, inx_3, inx_4, inx_5, bI_0, bI_1, bI_ok, fin3, tyX11, entL, q0, b3, s6, sc, c4, cp, tyX6, tyX4, dX11_findRests_0, dX11_findRests_1, fT_11_23, dX11_findRests_4, fT_11_104, dX11_findRests_7, fT_11_180, dX11_findRests_10, dX11_findRests_11, dX11_findRests_12, dX11_findRests_13, dX11_findRests_16, dX11_findRests_17, dX11_findRests_19, dX11_findRests_22, dX11_findRests_23, dX11_findRests_24, dX11_findRests_25, dX11_findRests_28, dX11_findRests_29, dX11_findRests_30, dX11_findRests_31, fT_11_34, dX11_findRests_34, dX11_findRests_35, dX11_findRests_38, dX11_findRests_41, dX11_findRests_42, fT_11_67, dX11_findRests_45, dX11_findRests_46, dX11_findRests_49, dX11_findRests_52, dX11_findRests_53, dX11_findRests_56, dX11_findRests_59, dX11_findRests_60]
  simp (disch := omega) only [li, nI_add, nI_clamp, nI_ltI, nI_leI, nI_eq, inx_iff, a31, nI_1shl', nI_shr', div_bit, tb1, tb0, fa_or, fa_and, nI_not, pk_sub, nI_dec]
  rw [rm]
  simp (disch := omega) only [li, nI_add, nI_clamp, nI_ltI, nI_leI, nI_eq, inx_iff, a31, nI_1shl', nI_shr', div_bit, tb1, tb0, fa_or, fa_and, nI_not, pk_sub, nI_dec]
  refine ⟨fun z => no28 (okf (by omega)), fun h1 => ⟨fun z => no28 (okf (by omega)), fun h2 => ⟨fun h3 => go (okt (by omega)), fun h3 => no28 (okf (by omega))⟩⟩⟩
