/-! the Asking at cell K: orders by number -/
def plV : Nat → Nat → Nat → Nat
  | 0, _, _ => 0
  | p + 1, o, q => if q < p then (if o / fac p % (p + 1) ≤ plV p o q then plV p o q + 1 else plV p o q) else o / fac p % (p + 1)
theorem plV_s (p o q : Nat) : plV (p + 1) o q = if q < p then (if o / fac p % (p + 1) ≤ plV p o q then plV p o q + 1 else plV p o q) else o / fac p % (p + 1) := rfl
theorem plV_lt : ∀ p o q, q < p → plV p o q < p
  | 0, o, q, h => by omega
  | p + 1, o, q, h => by
    have hm : o / fac p % (p + 1) < p + 1 := Nat.mod_lt _ (by omega)
    rw [plV_s]
    split
    · have := plV_lt p o q (by assumption)
      split <;> omega
    · exact hm
theorem fac5 : ∀ p, p ≤ 5 → 1 ≤ fac p ∧ fac p ≤ 120 := by decide
set_option maxHeartbeats 4000000 in
set_option maxRecDepth 100000 in
theorem c0_placeBy (l : Launch) (X : Cx) (d : Nat) (sh : Nat → Option Sh) (mI : Nat → Nat → Int32) (mL : Nat → Nat → Int64) (mR : Nat → Nat → Option Nat) (n : Nat) (K : Nat) (hO : OL sh mR K 0 ob0) (np : Nat) (hnp : np ≤ 5) (hp : mI K 3 = nI np) (o : Nat) (ho : o < 120) : Cn l X yX0_placeBy cX0_placeBy 6 none d [.ref K, .int (nI o)] (sh, mI, mL, mR, n) (fun r M' => r = none ∧ ∃ mI', M' = (sh, mI', mL, mR, n) ∧ (∀ a k, a ≠ K + 3 → mI' a k = mI a k) ∧ ∀ q, q < np → mI' (K + 3) q = nI (plV np o q)) 0 0 := by
  refine Cn.run 0 false (by decide) rfl (by decide) (by simp [entA, Value.category]) ?_
  intro P G hP hG
  have q0 := hO.1
  have q_place := hO.2.2 (2, 3, .int, 5) (by decide)
  dsimp only at q_place
  have hSl := hO.2.1
  have xP : K + 3 < 1000000000 := by omega
  have loop1 : ∀ f p m1 v4 v5, np - p < f → p ≤ np → (∀ a k, a ≠ K + 3 → m1 a k = mI a k) → (∀ q, q < p → m1 (K + 3) q = nI (plV p o q)) → G 4 [some (.ref K), some (.int (nI o)), some (.int (nI (o / fac p))), some (.int (nI p)), v4, v5] [] (sh, m1, mL, mR, n) := by
    intro f
    induction f with
    | zero => intro p m1 v4 v5 h; omega
    | succ f ih =>
      intro p m1 v4 v5 hf hpn g1 g2
      have e1 : m1 K 3 = nI np := (g1 _ _ (by omega)).trans hp
      have hq : o / fac p ≤ o := Nat.div_le_self _ _
      have nx := ih (p + 1)
      rw [show o / fac (p + 1) = o / fac p / (p + 1) by rw [Nat.div_div_eq_div_mul, Nat.mul_comm]; rfl] at nx
      have hm : o / fac p % (p + 1) < p + 1 := Nat.mod_lt _ (by omega)
      have hr : nI (o / fac p) - nI (o / fac p) / nI (p + 1) * nI (p + 1) = nI (o / fac p % (p + 1)) := pk_rem (by omega) (by omega) (by omega)
      have hdv : nI (o / fac p) / nI (p + 1) = nI (o / fac p / (p + 1)) := pk_div (by omega) (by omega) (by omega)
      have ne : ¬ nI (p + 1) = nI 0 := fun z => by
        have := (nI_eq (by omega) (by omega)).mp z
        omega
      clear ih
      refine hG.run [28] 60 ?_
      simp [wp, stepI, ln, jmp, cmpI, Value.category, rd, tyF, va_rf, st1, st2, clr, isLg, CB, inx_0, inx_1, inx_2, inx_3, inx_4, inx_5, bI_0, bI_1, bI_ok, fin3, tyX0, entL, q0, dX0_placeBy_0, dX0_placeBy_1, dX0_placeBy_2, dX0_placeBy_3, dX0_placeBy_4, dX0_placeBy_5, dX0_placeBy_6, fT_0_40, dX0_placeBy_9, dX0_placeBy_12, dX0_placeBy_13, dX0_placeBy_14, dX0_placeBy_15, dX0_placeBy_16, dX0_placeBy_17, dX0_placeBy_19, dX0_placeBy_20, dX0_placeBy_21, dX0_placeBy_22, dX0_placeBy_23, dX0_placeBy_24, dX0_placeBy_25, dX0_placeBy_26, dX0_placeBy_28, dX0_placeBy_30, dX0_placeBy_31, dX0_placeBy_34, dX0_placeBy_35, fT_0_18, dX0_placeBy_38, dX0_placeBy_40, dX0_placeBy_41, dX0_placeBy_43, dX0_placeBy_46, dX0_placeBy_47, dX0_placeBy_50, dX0_placeBy_52, dX0_placeBy_53, dX0_placeBy_54, dX0_placeBy_55, dX0_placeBy_56, dX0_placeBy_57, dX0_placeBy_60, dX0_placeBy_63, dX0_placeBy_64, dX0_placeBy_67, dX0_placeBy_68, dX0_placeBy_70, dX0_placeBy_71, dX0_placeBy_74, dX0_placeBy_77]
      simp (disch := omega) only [li, nI_add, nI_clamp, nI_ltI, nI_leI, nI_eq, inx_iff, a31, nI_1shl', nI_shr', div_bit, tb1, tb0, fa_or, fa_and, nI_not, pk_sub, nI_dec, e1]
      refine ⟨fun z => hP _ _ ⟨rfl, m1, rfl, g1, by rw [show p = np by omega] at g2; exact g2⟩, fun z => ⟨by omega, ?_⟩⟩
      rw [hr, hdv]
      have hpv := plV_s p o
      generalize o / fac p % (p + 1) = at0 at nx hm hpv ⊢
      have loop2 : ∀ f2 q m2, p - q < f2 → q ≤ p → (∀ a k, a ≠ K + 3 → m2 a k = mI a k) → (∀ x, x < q → m2 (K + 3) x = nI (plV (p + 1) o x)) → (∀ x, q ≤ x → x < p → m2 (K + 3) x = nI (plV p o x)) → G 28 [some (.ref K), some (.int (nI o)), some (.int (nI (o / fac p / (p + 1)))), some (.int (nI p)), some (.int (nI at0)), some (.int (nI q))] [] (sh, m2, mL, mR, n) := by
        intro f2
        induction f2 with
        | zero => intro q m2 h; omega
        | succ f2 ih2 =>
          intro q m2 hf2 hqp w1 w2 w3
          refine hG.run [28, 34, 57, 63] 60 ?_
          simp [wp, stepI, ln, jmp, cmpI, Value.category, rd, tyF, va_rf, st1, st2, clr, isLg, CB, inx_0, inx_1, inx_2, inx_3, inx_4, inx_5, bI_0, bI_1, bI_ok, fin3, tyX0, entL, q0, dX0_placeBy_0, dX0_placeBy_1, dX0_placeBy_2, dX0_placeBy_3, dX0_placeBy_4, dX0_placeBy_5, dX0_placeBy_6, fT_0_40, dX0_placeBy_9, dX0_placeBy_12, dX0_placeBy_13, dX0_placeBy_14, dX0_placeBy_15, dX0_placeBy_16, dX0_placeBy_17, dX0_placeBy_19, dX0_placeBy_20, dX0_placeBy_21, dX0_placeBy_22, dX0_placeBy_23, dX0_placeBy_24, dX0_placeBy_25, dX0_placeBy_26, dX0_placeBy_28, dX0_placeBy_30, dX0_placeBy_31, dX0_placeBy_34, dX0_placeBy_35, fT_0_18, dX0_placeBy_38, dX0_placeBy_40, dX0_placeBy_41, dX0_placeBy_43, dX0_placeBy_46, dX0_placeBy_47, dX0_placeBy_50, dX0_placeBy_52, dX0_placeBy_53, dX0_placeBy_54, dX0_placeBy_55, dX0_placeBy_56, dX0_placeBy_57, dX0_placeBy_60, dX0_placeBy_63, dX0_placeBy_64, dX0_placeBy_67, dX0_placeBy_68, dX0_placeBy_70, dX0_placeBy_71, dX0_placeBy_74, dX0_placeBy_77]
          simp (disch := omega) only [li, nI_add, nI_clamp, nI_ltI, nI_leI, nI_eq, inx_iff, a31, nI_1shl', nI_shr', div_bit, tb1, tb0, fa_or, fa_and, nI_not, pk_sub, nI_dec]
          refine ⟨fun y => ?_, fun y => ?_⟩
          · refine hG.run [4] 60 ?_
            simp [wp, stepI, ln, jmp, cmpI, Value.category, rd, tyF, va_rf, st1, st2, clr, isLg, CB, inx_0, inx_1, inx_2, inx_3, inx_4, inx_5, bI_0, bI_1, bI_ok, fin3, tyX0, entL, q0, q_place, xP, dX0_placeBy_0, dX0_placeBy_1, dX0_placeBy_2, dX0_placeBy_3, dX0_placeBy_4, dX0_placeBy_5, dX0_placeBy_6, fT_0_40, dX0_placeBy_9, dX0_placeBy_12, dX0_placeBy_13, dX0_placeBy_14, dX0_placeBy_15, dX0_placeBy_16, dX0_placeBy_17, dX0_placeBy_19, dX0_placeBy_20, dX0_placeBy_21, dX0_placeBy_22, dX0_placeBy_23, dX0_placeBy_24, dX0_placeBy_25, dX0_placeBy_26, dX0_placeBy_28, dX0_placeBy_30, dX0_placeBy_31, dX0_placeBy_34, dX0_placeBy_35, fT_0_18, dX0_placeBy_38, dX0_placeBy_40, dX0_placeBy_41, dX0_placeBy_43, dX0_placeBy_46, dX0_placeBy_47, dX0_placeBy_50, dX0_placeBy_52, dX0_placeBy_53, dX0_placeBy_54, dX0_placeBy_55, dX0_placeBy_56, dX0_placeBy_57, dX0_placeBy_60, dX0_placeBy_63, dX0_placeBy_64, dX0_placeBy_67, dX0_placeBy_68, dX0_placeBy_70, dX0_placeBy_71, dX0_placeBy_74, dX0_placeBy_77]
            simp (disch := omega) only [li, nI_add, nI_clamp, nI_ltI, nI_leI, nI_eq, inx_iff, a31, nI_1shl', nI_shr', div_bit, tb1, tb0, fa_or, fa_and, nI_not, pk_sub, nI_dec]
            refine ⟨by omega, nx _ _ _ (by omega) (by omega) (fun a k ha => by rw [up2_ne (fun z => ha z.1)]; exact w1 a k ha) (fun x hx => ?_)⟩
            by_cases e : x = p
            · rw [e, up2_eq, hpv p, if_neg (by omega)]
            · rw [up2_ne (fun z => e z.2)]; exact w2 x (by omega)
          · have x1 := w3 q (Nat.le_refl _) y
            have pl := plV_lt p o q y
            have hpq := hpv q
            rw [if_pos y] at hpq
            have g57 : ∀ m3, (∀ a k, a ≠ K + 3 → m3 a k = mI a k) → (∀ x, x < q + 1 → m3 (K + 3) x = nI (plV (p + 1) o x)) → (∀ x, q + 1 ≤ x → x < p → m3 (K + 3) x = nI (plV p o x)) → G 57 [some (.ref K), some (.int (nI o)), some (.int (nI (o / fac p / (p + 1)))), some (.int (nI p)), some (.int (nI at0)), some (.int (nI q))] [] (sh, m3, mL, mR, n) := fun m3 t1 t2 t3 => by
              refine hG.run [28] 60 ?_
              simp [wp, stepI, ln, jmp, cmpI, Value.category, rd, tyF, va_rf, st1, st2, clr, isLg, CB, inx_0, inx_1, inx_2, inx_3, inx_4, inx_5, bI_0, bI_1, bI_ok, fin3, tyX0, entL, q0, dX0_placeBy_0, dX0_placeBy_1, dX0_placeBy_2, dX0_placeBy_3, dX0_placeBy_4, dX0_placeBy_5, dX0_placeBy_6, fT_0_40, dX0_placeBy_9, dX0_placeBy_12, dX0_placeBy_13, dX0_placeBy_14, dX0_placeBy_15, dX0_placeBy_16, dX0_placeBy_17, dX0_placeBy_19, dX0_placeBy_20, dX0_placeBy_21, dX0_placeBy_22, dX0_placeBy_23, dX0_placeBy_24, dX0_placeBy_25, dX0_placeBy_26, dX0_placeBy_28, dX0_placeBy_30, dX0_placeBy_31, dX0_placeBy_34, dX0_placeBy_35, fT_0_18, dX0_placeBy_38, dX0_placeBy_40, dX0_placeBy_41, dX0_placeBy_43, dX0_placeBy_46, dX0_placeBy_47, dX0_placeBy_50, dX0_placeBy_52, dX0_placeBy_53, dX0_placeBy_54, dX0_placeBy_55, dX0_placeBy_56, dX0_placeBy_57, dX0_placeBy_60, dX0_placeBy_63, dX0_placeBy_64, dX0_placeBy_67, dX0_placeBy_68, dX0_placeBy_70, dX0_placeBy_71, dX0_placeBy_74, dX0_placeBy_77]
              simp (disch := omega) only [li, nI_add, nI_clamp, nI_ltI, nI_leI, nI_eq, inx_iff, a31, nI_1shl', nI_shr', div_bit, tb1, tb0, fa_or, fa_and, nI_not, pk_sub, nI_dec]
              exact ih2 (q + 1) m3 (by omega) (by omega) t1 t2 t3
            refine hG.run [57] 60 ?_
            simp [wp, stepI, ln, jmp, cmpI, Value.category, rd, tyF, va_rf, st1, st2, clr, isLg, CB, inx_0, inx_1, inx_2, inx_3, inx_4, inx_5, bI_0, bI_1, bI_ok, fin3, tyX0, entL, q0, q_place, xP, dX0_placeBy_0, dX0_placeBy_1, dX0_placeBy_2, dX0_placeBy_3, dX0_placeBy_4, dX0_placeBy_5, dX0_placeBy_6, fT_0_40, dX0_placeBy_9, dX0_placeBy_12, dX0_placeBy_13, dX0_placeBy_14, dX0_placeBy_15, dX0_placeBy_16, dX0_placeBy_17, dX0_placeBy_19, dX0_placeBy_20, dX0_placeBy_21, dX0_placeBy_22, dX0_placeBy_23, dX0_placeBy_24, dX0_placeBy_25, dX0_placeBy_26, dX0_placeBy_28, dX0_placeBy_30, dX0_placeBy_31, dX0_placeBy_34, dX0_placeBy_35, fT_0_18, dX0_placeBy_38, dX0_placeBy_40, dX0_placeBy_41, dX0_placeBy_43, dX0_placeBy_46, dX0_placeBy_47, dX0_placeBy_50, dX0_placeBy_52, dX0_placeBy_53, dX0_placeBy_54, dX0_placeBy_55, dX0_placeBy_56, dX0_placeBy_57, dX0_placeBy_60, dX0_placeBy_63, dX0_placeBy_64, dX0_placeBy_67, dX0_placeBy_68, dX0_placeBy_70, dX0_placeBy_71, dX0_placeBy_74, dX0_placeBy_77]
            simp (disch := omega) only [li, nI_add, nI_clamp, nI_ltI, nI_leI, nI_eq, inx_iff, a31, nI_1shl', nI_shr', div_bit, tb1, tb0, fa_or, fa_and, nI_not, pk_sub, nI_dec, x1]
            refine ⟨by omega, fun u => ?_, fun u => ?_⟩
            · rw [if_neg (by omega)] at hpq
              refine g57 m2 w1 (fun x hx => ?_) (fun x h1 h2 => w3 x (by omega) h2)
              by_cases e : x = q
              · rw [e, x1, hpq]
              · exact w2 x (by omega)
            · rw [if_pos (by omega)] at hpq
              refine ⟨by omega, g57 _ (fun a k ha => by rw [up2_ne (fun z => ha z.1)]; exact w1 a k ha) (fun x hx => ?_) (fun x h1 h2 => by rw [up2_ne (fun z => by omega)]; exact w3 x (by omega) h2)⟩
              by_cases e : x = q
              · rw [e, up2_eq, hpq]
              · rw [up2_ne (fun z => e z.2)]; exact w2 x (by omega)
      exact loop2 (p + 1) 0 m1 (by omega) (by omega) g1 (fun x h => by omega) (fun x _ hx => g2 x hx)
  refine hG.run [4] 60 ?_
  simp [wp, stepI, ln, jmp, cmpI, Value.category, rd, tyF, va_rf, st1, st2, clr, isLg, CB, inx_0, inx_1, inx_2, inx_3, inx_4, inx_5, bI_0, bI_1, bI_ok, fin3, tyX0, entL, q0, dX0_placeBy_0, dX0_placeBy_1, dX0_placeBy_2, dX0_placeBy_3, dX0_placeBy_4, dX0_placeBy_5, dX0_placeBy_6, fT_0_40, dX0_placeBy_9, dX0_placeBy_12, dX0_placeBy_13, dX0_placeBy_14, dX0_placeBy_15, dX0_placeBy_16, dX0_placeBy_17, dX0_placeBy_19, dX0_placeBy_20, dX0_placeBy_21, dX0_placeBy_22, dX0_placeBy_23, dX0_placeBy_24, dX0_placeBy_25, dX0_placeBy_26, dX0_placeBy_28, dX0_placeBy_30, dX0_placeBy_31, dX0_placeBy_34, dX0_placeBy_35, fT_0_18, dX0_placeBy_38, dX0_placeBy_40, dX0_placeBy_41, dX0_placeBy_43, dX0_placeBy_46, dX0_placeBy_47, dX0_placeBy_50, dX0_placeBy_52, dX0_placeBy_53, dX0_placeBy_54, dX0_placeBy_55, dX0_placeBy_56, dX0_placeBy_57, dX0_placeBy_60, dX0_placeBy_63, dX0_placeBy_64, dX0_placeBy_67, dX0_placeBy_68, dX0_placeBy_70, dX0_placeBy_71, dX0_placeBy_74, dX0_placeBy_77]
  have := loop1 (np + 1) 0 mI none none (by omega) (by omega) (fun _ _ _ => rfl) (fun q h => by omega)
  rw [show o / fac 0 = o from Nat.div_one o] at this
  exact this
set_option maxHeartbeats 4000000 in
set_option maxRecDepth 100000 in
theorem c0_noteAhead (l : Launch) (X : Cx) (d : Nat) (sh : Nat → Option Sh) (mI : Nat → Nat → Int32) (mL : Nat → Nat → Int64) (mR : Nat → Nat → Option Nat) (n : Nat) (K : Nat) (hO : OL sh mR K 0 ob0) (j o : Nat) (hj : j < 25) (ho : o < 120) (x y : Nat) (hx : mL (K + 1) j = lN x) (hy : mL (K + 2) j = lN y) : Cn l X yX0_noteAhead cX0_noteAhead 3 none d [.ref K, .int (nI j), .int (nI o)] (sh, mI, mL, mR, n) (fun r M' => r = none ∧ ∃ mL', M' = (sh, mI, mL', mR, n) ∧ (∀ a k, (a ≠ K + 1 ∧ a ≠ K + 2) ∨ k ≠ j → mL' a k = mL a k) ∧ mL' (K + 1) j = lN (if o < 64 then x ||| 2 ^ o else x) ∧ mL' (K + 2) j = lN (if o < 64 then y else y ||| 2 ^ (o - 64))) 0 0 := by
  refine Cn.run 0 false (by decide) rfl (by decide) (by simp [entA, Value.category]) ?_
  intro P G hP hG
  have q0 := hO.1
  have q_low := hO.2.2 (0, 1, .long, 25) (by decide)
  dsimp only at q_low
  have q_high := hO.2.2 (1, 2, .long, 25) (by decide)
  dsimp only at q_high
  have hSl := hO.2.1
  have x1 : K + 1 < 1000000000 := by omega
  have x2 : K + 2 < 1000000000 := by omega
  refine hG.run [] 60 ?_
  simp [wp, stepI, ln, jmp, cmpI, Value.category, rd, tyF, va_rf, st1, st2, clr, isLg, CB, inx_0, inx_1, inx_2, inx_3, inx_4, inx_5, bI_0, bI_1, bI_ok, fin3, tyX0, entL, q0, q_low, q_high, x1, x2, dX0_noteAhead_0, dX0_noteAhead_1, dX0_noteAhead_3, dX0_noteAhead_6, dX0_noteAhead_7, fT_0_9, dX0_noteAhead_10, dX0_noteAhead_11, dX0_noteAhead_12, dX0_noteAhead_13, dX0_noteAhead_14, dX0_noteAhead_15, dX0_noteAhead_16, dX0_noteAhead_17, dX0_noteAhead_18, dX0_noteAhead_21, dX0_noteAhead_22, fT_0_15, dX0_noteAhead_25, dX0_noteAhead_26, dX0_noteAhead_27, dX0_noteAhead_28, dX0_noteAhead_29, dX0_noteAhead_30, dX0_noteAhead_32, dX0_noteAhead_33, dX0_noteAhead_34, dX0_noteAhead_35, dX0_noteAhead_36]
  simp (disch := omega) only [li, nI_add, nI_clamp, nI_ltI, nI_leI, nI_eq, inx_iff, a31, nI_1shl', nI_shr', div_bit, tb1, tb0, fa_or, fa_and, nI_not, pk_sub, nI_dec, liL, hx, hy]
  refine ⟨fun z => ⟨by omega, ?_⟩, fun z => ⟨by omega, ?_⟩⟩
  · rw [pk_sub z, show lN 63 = (63 : Int64) from rfl, wb_shl 1 (show o - 64 < 64 by omega), Nat.one_mul, fb_orL]
    refine hP _ _ ⟨rfl, _, rfl, fun a k h => up2_ne (fun w => by omega), ?_, ?_⟩
    · rw [up2_ne (fun w => by omega), hx, if_neg (by omega)]
    · rw [up2_eq, if_neg (by omega)]
  · rw [show lN 63 = (63 : Int64) from rfl, wb_shl 1 z, Nat.one_mul, fb_orL]
    refine hP _ _ ⟨rfl, _, rfl, fun a k h => up2_ne (fun w => by omega), ?_, ?_⟩
    · rw [up2_eq, if_pos z]
    · rw [up2_ne (fun w => by omega), hy, if_pos z]
/-- which orders, of the first k, put x ahead of y -/
def rL (np k x y : Nat) : Nat := setN (fun i => decide (plV np i x < plV np i y)) (Nat.min k 64)
def rH (np k x y : Nat) : Nat := setN (fun i => decide (plV np (64 + i) x < plV np (64 + i) y)) (k - 64)
theorem rL_s {np o x y : Nat} : rL np (o + 1) x y = if plV np o x < plV np o y ∧ o < 64 then rL np o x y ||| 2 ^ o else rL np o x y := by
  unfold rL
  by_cases h : o < 64
  · rw [show Nat.min (o + 1) 64 = o + 1 from Nat.min_eq_left (by omega), show Nat.min o 64 = o from Nat.min_eq_left (by omega), setN_s]
    by_cases z : plV np o x < plV np o y
    · rw [if_pos (decide_eq_true z), if_pos ⟨z, h⟩]
    · rw [if_neg (by rw [decide_eq_false z]; decide), if_neg (fun w => z w.1)]
  · rw [show Nat.min (o + 1) 64 = 64 from Nat.min_eq_right (by omega), show Nat.min o 64 = 64 from Nat.min_eq_right (by omega), if_neg (fun w => h w.2)]
theorem rH_s {np o x y : Nat} : rH np (o + 1) x y = if plV np o x < plV np o y ∧ ¬ o < 64 then rH np o x y ||| 2 ^ (o - 64) else rH np o x y := by
  unfold rH
  by_cases h : o < 64
  · rw [show o + 1 - 64 = 0 by omega, show o - 64 = 0 by omega, if_neg (fun w => w.2 h)]
  · rw [show o + 1 - 64 = (o - 64) + 1 by omega, setN_s]
    have e : 64 + (o - 64) = o := by omega
    rw [e]
    by_cases z : plV np o x < plV np o y
    · rw [if_pos (decide_eq_true z), if_pos ⟨z, h⟩]
    · rw [if_neg (by rw [decide_eq_false z]; decide), if_neg (fun w => z w.1)]
/-- the rows of the Asking, where a of the orders are laid and, of the pairs behind j, one more -/
def AsM (mL : Nat → Nat → Int64) (K np o a b : Nat) : Prop := ∀ x y, x < np → y < np → mL (K + 1) (5 * x + y) = lN (rL np (if x < a ∨ (x = a ∧ y < b) then o + 1 else o) x y) ∧ mL (K + 2) (5 * x + y) = lN (rH np (if x < a ∨ (x = a ∧ y < b) then o + 1 else o) x y)
set_option maxHeartbeats 4000000 in
set_option maxRecDepth 100000 in
theorem c0_layOrders (l : Launch) (X : Cx) (d : Nat) (sh : Nat → Option Sh) (mI : Nat → Nat → Int32) (mL : Nat → Nat → Int64) (mR : Nat → Nat → Option Nat) (n : Nat) (K : Nat) (hO : OL sh mR K 0 ob0) (np : Nat) (hnp : np ≤ 5) (hp : mI K 3 = nI np) (hd : 1 ≤ d) : Cn l X yX0_layOrders cX0_layOrders 5 (some .int) d [.ref K] (sh, mI, mL, mR, n) (fun r M' => r = some (.int (nI (fac np))) ∧ ∃ mI' mL', M' = (sh, mI', mL', mR, n) ∧ (∀ a k, a ≠ K + 3 → mI' a k = mI a k) ∧ (∀ a k, a ≠ K + 1 → a ≠ K + 2 → mL' a k = mL a k) ∧ ∀ x y, x < np → y < np → mL' (K + 1) (5 * x + y) = lN (rL np (fac np) x y) ∧ mL' (K + 2) (5 * x + y) = lN (rH np (fac np) x y)) 0 0 := by
  refine Cn.run 0 false (by decide) rfl (by decide) (by simp [entA, Value.category]) ?_
  intro P G hP hG
  have q0 := hO.1
  have q_low := hO.2.2 (0, 1, .long, 25) (by decide)
  dsimp only at q_low
  have q_high := hO.2.2 (1, 2, .long, 25) (by decide)
  dsimp only at q_high
  have q_place := hO.2.2 (2, 3, .int, 5) (by decide)
  dsimp only at q_place
  have hSl := hO.2.1
  have x1 : K + 1 < 1000000000 := by omega
  have x2 : K + 2 < 1000000000 := by omega
  have fl := fac5 np hnp
  have loop2 : ∀ f o m1 mL1 v3 v4, fac np - o < f → o ≤ fac np → (∀ a k, a ≠ K + 3 → m1 a k = mI a k) → (∀ a k, a ≠ K + 1 → a ≠ K + 2 → mL1 a k = mL a k) → AsM mL1 K np o 0 0 → G 40 [some (.ref K), some (.int (nI (fac np))), some (.int (nI o)), v3, v4] [] (sh, m1, mL1, mR, n) := by
    intro f
    induction f with
    | zero => intro o m1 mL1 v3 v4 h; omega
    | succ f ih =>
      intro o m1 mL1 v3 v4 hf ho g1 g2 g3
      refine hG.run [] 60 ?_
      simp [wp, stepI, ln, jmp, cmpI, Value.category, rd, tyF, va_rf, st1, st2, clr, isLg, CB, inx_0, inx_1, inx_2, inx_3, inx_4, inx_5, bI_0, bI_1, bI_ok, fin3, tyX0, entL, q0, dX0_layOrders_0, dX0_layOrders_1, fT_0_9, dX0_layOrders_4, dX0_layOrders_5, dX0_layOrders_8, dX0_layOrders_9, fT_0_15, dX0_layOrders_12, dX0_layOrders_13, dX0_layOrders_16, dX0_layOrders_17, dX0_layOrders_18, dX0_layOrders_19, dX0_layOrders_20, dX0_layOrders_21, dX0_layOrders_22, fT_0_40, dX0_layOrders_25, dX0_layOrders_28, dX0_layOrders_29, dX0_layOrders_30, dX0_layOrders_31, dX0_layOrders_32, dX0_layOrders_35, dX0_layOrders_38, dX0_layOrders_39, dX0_layOrders_40, dX0_layOrders_41, dX0_layOrders_42, dX0_layOrders_45, dX0_layOrders_46, dX0_layOrders_47, dX0_layOrders_50, dX0_layOrders_51, dX0_layOrders_52, dX0_layOrders_53, dX0_layOrders_54, dX0_layOrders_57, dX0_layOrders_60, dX0_layOrders_61, dX0_layOrders_63, dX0_layOrders_65, dX0_layOrders_66, dX0_layOrders_69, dX0_layOrders_72, dX0_layOrders_73, fT_0_18, dX0_layOrders_76, dX0_layOrders_77, dX0_layOrders_78, dX0_layOrders_79, dX0_layOrders_82, dX0_layOrders_84, dX0_layOrders_85, dX0_layOrders_88, dX0_layOrders_89, dX0_layOrders_90, dX0_layOrders_91, dX0_layOrders_92, dX0_layOrders_94, dX0_layOrders_95, dX0_layOrders_96, dX0_layOrders_99, dX0_layOrders_102, dX0_layOrders_105, dX0_layOrders_108, dX0_layOrders_111, dX0_layOrders_114, dX0_layOrders_117, dX0_layOrders_118]
      simp (disch := omega) only [li, nI_add, nI_clamp, nI_ltI, nI_leI, nI_eq, inx_iff, a31, nI_1shl', nI_shr', div_bit, tb1, tb0, fa_or, fa_and, nI_not, pk_sub, nI_dec]
      refine ⟨fun z => hP _ _ ⟨rfl, m1, mL1, rfl, g1, g2, fun x y hx hy => ?_⟩, fun z => ?_⟩
      · have := g3 x y hx hy
        rw [if_neg (by omega), show o = fac np by omega] at this
        exact this
      refine hG.callV dX0_layOrders_47 mv_0_71 [.int (nI o)] [] (c0_placeBy l X (d - 1) sh m1 mL1 mR n K hO np hnp ((g1 _ _ (by omega)).trans hp) o (by omega)) ⟨_, rfl, rfl⟩ q0 (by omega) rfl (by decide) (by simp [Value.category]) rfl ?_
      rintro r M' ⟨rfl, m2, rfl, h1, h2⟩
      have h3 : ∀ a k, a ≠ K + 3 → m2 a k = mI a k := fun a k ha => (h1 a k ha).trans (g1 a k ha)
      have e1 : m2 K 3 = nI np := (h3 _ _ (by omega)).trans hp
      have nx1 := ih (o + 1)
      clear ih h1
      have loop3 : ∀ f3 a mL2 v4, np - a < f3 → a ≤ np → (∀ a k, a ≠ K + 1 → a ≠ K + 2 → mL2 a k = mL a k) → AsM mL2 K np o a 0 → G 52 [some (.ref K), some (.int (nI (fac np))), some (.int (nI o)), some (.int (nI a)), v4] [] (sh, m2, mL2, mR, n) := by
        intro f3
        induction f3 with
        | zero => intro a mL2 v4 h; omega
        | succ f3 ih3 =>
          intro a mL2 v4 hf3 ha w1 w2
          have nx2 := ih3 (a + 1)
          clear ih3
          have loop4 : ∀ f4 b mL3, a < np → np - b < f4 → b ≤ np → (∀ a k, a ≠ K + 1 → a ≠ K + 2 → mL3 a k = mL a k) → AsM mL3 K np o a b → G 63 [some (.ref K), some (.int (nI (fac np))), some (.int (nI o)), some (.int (nI a)), some (.int (nI b))] [] (sh, m2, mL3, mR, n) := by
            intro f4
            induction f4 with
            | zero => intro b mL3 han h; omega
            | succ f4 ih4 =>
              intro b mL3 han hf4 hb t1 t2
              have g99 : b < np → ∀ mL4, (∀ a k, a ≠ K + 1 → a ≠ K + 2 → mL4 a k = mL a k) → AsM mL4 K np o a (b + 1) → G 99 [some (.ref K), some (.int (nI (fac np))), some (.int (nI o)), some (.int (nI a)), some (.int (nI b))] [] (sh, m2, mL4, mR, n) := fun hbn mL4 s1 s2 => by
                refine hG.run [63] 60 ?_
                simp [wp, stepI, ln, jmp, cmpI, Value.category, rd, tyF, va_rf, st1, st2, clr, isLg, CB, inx_0, inx_1, inx_2, inx_3, inx_4, inx_5, bI_0, bI_1, bI_ok, fin3, tyX0, entL, q0, dX0_layOrders_0, dX0_layOrders_1, fT_0_9, dX0_layOrders_4, dX0_layOrders_5, dX0_layOrders_8, dX0_layOrders_9, fT_0_15, dX0_layOrders_12, dX0_layOrders_13, dX0_layOrders_16, dX0_layOrders_17, dX0_layOrders_18, dX0_layOrders_19, dX0_layOrders_20, dX0_layOrders_21, dX0_layOrders_22, fT_0_40, dX0_layOrders_25, dX0_layOrders_28, dX0_layOrders_29, dX0_layOrders_30, dX0_layOrders_31, dX0_layOrders_32, dX0_layOrders_35, dX0_layOrders_38, dX0_layOrders_39, dX0_layOrders_40, dX0_layOrders_41, dX0_layOrders_42, dX0_layOrders_45, dX0_layOrders_46, dX0_layOrders_47, dX0_layOrders_50, dX0_layOrders_51, dX0_layOrders_52, dX0_layOrders_53, dX0_layOrders_54, dX0_layOrders_57, dX0_layOrders_60, dX0_layOrders_61, dX0_layOrders_63, dX0_layOrders_65, dX0_layOrders_66, dX0_layOrders_69, dX0_layOrders_72, dX0_layOrders_73, fT_0_18, dX0_layOrders_76, dX0_layOrders_77, dX0_layOrders_78, dX0_layOrders_79, dX0_layOrders_82, dX0_layOrders_84, dX0_layOrders_85, dX0_layOrders_88, dX0_layOrders_89, dX0_layOrders_90, dX0_layOrders_91, dX0_layOrders_92, dX0_layOrders_94, dX0_layOrders_95, dX0_layOrders_96, dX0_layOrders_99, dX0_layOrders_102, dX0_layOrders_105, dX0_layOrders_108, dX0_layOrders_111, dX0_layOrders_114, dX0_layOrders_117, dX0_layOrders_118]
                simp (disch := omega) only [li, nI_add, nI_clamp, nI_ltI, nI_leI, nI_eq, inx_iff, a31, nI_1shl', nI_shr', div_bit, tb1, tb0, fa_or, fa_and, nI_not, pk_sub, nI_dec]
                exact ih4 (b + 1) mL4 han (by omega) (by omega) s1 s2
              by_cases hbn : b < np
              · have p1 := h2 a han
                have p2 := h2 b hbn
                have l1 := plV_lt np o a han
                have l2 := plV_lt np o b hbn
                obtain ⟨u1, u2⟩ := t2 a b han hbn
                rw [if_neg (show ¬ (a < a ∨ (a = a ∧ b < b)) by omega)] at u1 u2
                have grow : ∀ mL4, (∀ c k, (c ≠ K + 1 ∧ c ≠ K + 2) ∨ k ≠ 5 * a + b → mL4 c k = mL3 c k) → mL4 (K + 1) (5 * a + b) = lN (rL np (o + 1) a b) → mL4 (K + 2) (5 * a + b) = lN (rH np (o + 1) a b) → AsM mL4 K np o a (b + 1) := fun mL4 s1 s2 s3 x y hx hy => by
                  by_cases e : x = a ∧ y = b
                  · rw [e.1, e.2, if_pos (Or.inr ⟨rfl, by omega⟩)]; exact ⟨s2, s3⟩
                  · have c1 : (x < a ∨ (x = a ∧ y < b + 1)) ↔ (x < a ∨ (x = a ∧ y < b)) := by omega
                    rw [s1 _ _ (Or.inr (by omega)), s1 _ _ (Or.inr (by omega))]
                    simp only [c1]
                    exact t2 x y hx hy
                refine hG.run [99] 60 ?_
                simp [wp, stepI, ln, jmp, cmpI, Value.category, rd, tyF, va_rf, st1, st2, clr, isLg, CB, inx_0, inx_1, inx_2, inx_3, inx_4, inx_5, bI_0, bI_1, bI_ok, fin3, tyX0, entL, q0, q_place, dX0_layOrders_0, dX0_layOrders_1, fT_0_9, dX0_layOrders_4, dX0_layOrders_5, dX0_layOrders_8, dX0_layOrders_9, fT_0_15, dX0_layOrders_12, dX0_layOrders_13, dX0_layOrders_16, dX0_layOrders_17, dX0_layOrders_18, dX0_layOrders_19, dX0_layOrders_20, dX0_layOrders_21, dX0_layOrders_22, fT_0_40, dX0_layOrders_25, dX0_layOrders_28, dX0_layOrders_29, dX0_layOrders_30, dX0_layOrders_31, dX0_layOrders_32, dX0_layOrders_35, dX0_layOrders_38, dX0_layOrders_39, dX0_layOrders_40, dX0_layOrders_41, dX0_layOrders_42, dX0_layOrders_45, dX0_layOrders_46, dX0_layOrders_47, dX0_layOrders_50, dX0_layOrders_51, dX0_layOrders_52, dX0_layOrders_53, dX0_layOrders_54, dX0_layOrders_57, dX0_layOrders_60, dX0_layOrders_61, dX0_layOrders_63, dX0_layOrders_65, dX0_layOrders_66, dX0_layOrders_69, dX0_layOrders_72, dX0_layOrders_73, fT_0_18, dX0_layOrders_76, dX0_layOrders_77, dX0_layOrders_78, dX0_layOrders_79, dX0_layOrders_82, dX0_layOrders_84, dX0_layOrders_85, dX0_layOrders_88, dX0_layOrders_89, dX0_layOrders_90, dX0_layOrders_91, dX0_layOrders_92, dX0_layOrders_94, dX0_layOrders_95, dX0_layOrders_96, dX0_layOrders_99, dX0_layOrders_102, dX0_layOrders_105, dX0_layOrders_108, dX0_layOrders_111, dX0_layOrders_114, dX0_layOrders_117, dX0_layOrders_118]
                simp (disch := omega) only [li, nI_add, nI_clamp, nI_ltI, nI_leI, nI_eq, inx_iff, a31, nI_1shl', nI_shr', div_bit, tb1, tb0, fa_or, fa_and, nI_not, pk_sub, nI_dec, e1, p1, p2, nI_mul]
                refine ⟨fun z => by omega, fun _ => ⟨by omega, by omega, fun z2 => g99 hbn mL3 t1 (grow mL3 (fun _ _ _ => rfl) ?_ ?_), fun z2 => ?_⟩⟩
                · rw [u1, rL_s, if_neg (by omega)]
                · rw [u2, rH_s, if_neg (by omega)]
                · rw [Nat.mul_comm a 5]
                  refine hG.callV dX0_layOrders_96 mv_0_75 [.int (nI (5 * a + b)), .int (nI o)] [] (c0_noteAhead l X (d - 1) sh m2 mL3 mR n K hO (5 * a + b) o (by omega) (by omega) _ _ u1 u2) ⟨_, rfl, rfl⟩ q0 (by omega) rfl (by decide) (by simp [Value.category]) rfl ?_
                  rintro r M' ⟨rfl, mL4, rfl, s1, s2, s3⟩
                  refine g99 hbn mL4 (fun c k c1 c2 => (s1 c k (Or.inl ⟨c1, c2⟩)).trans (t1 c k c1 c2)) (grow mL4 s1 ?_ ?_)
                  · rw [s2, rL_s]
                    by_cases z3 : o < 64
                    · rw [if_pos z3, if_pos ⟨z2, z3⟩]
                    · rw [if_neg z3, if_neg (fun w => z3 w.2)]
                  · rw [s3, rH_s]
                    by_cases z3 : o < 64
                    · rw [if_pos z3, if_neg (fun w => w.2 z3)]
                    · rw [if_neg z3, if_pos ⟨z2, z3⟩]
              · have e : b = np := by omega
                refine hG.run [52] 60 ?_
                simp [wp, stepI, ln, jmp, cmpI, Value.category, rd, tyF, va_rf, st1, st2, clr, isLg, CB, inx_0, inx_1, inx_2, inx_3, inx_4, inx_5, bI_0, bI_1, bI_ok, fin3, tyX0, entL, q0, dX0_layOrders_0, dX0_layOrders_1, fT_0_9, dX0_layOrders_4, dX0_layOrders_5, dX0_layOrders_8, dX0_layOrders_9, fT_0_15, dX0_layOrders_12, dX0_layOrders_13, dX0_layOrders_16, dX0_layOrders_17, dX0_layOrders_18, dX0_layOrders_19, dX0_layOrders_20, dX0_layOrders_21, dX0_layOrders_22, fT_0_40, dX0_layOrders_25, dX0_layOrders_28, dX0_layOrders_29, dX0_layOrders_30, dX0_layOrders_31, dX0_layOrders_32, dX0_layOrders_35, dX0_layOrders_38, dX0_layOrders_39, dX0_layOrders_40, dX0_layOrders_41, dX0_layOrders_42, dX0_layOrders_45, dX0_layOrders_46, dX0_layOrders_47, dX0_layOrders_50, dX0_layOrders_51, dX0_layOrders_52, dX0_layOrders_53, dX0_layOrders_54, dX0_layOrders_57, dX0_layOrders_60, dX0_layOrders_61, dX0_layOrders_63, dX0_layOrders_65, dX0_layOrders_66, dX0_layOrders_69, dX0_layOrders_72, dX0_layOrders_73, fT_0_18, dX0_layOrders_76, dX0_layOrders_77, dX0_layOrders_78, dX0_layOrders_79, dX0_layOrders_82, dX0_layOrders_84, dX0_layOrders_85, dX0_layOrders_88, dX0_layOrders_89, dX0_layOrders_90, dX0_layOrders_91, dX0_layOrders_92, dX0_layOrders_94, dX0_layOrders_95, dX0_layOrders_96, dX0_layOrders_99, dX0_layOrders_102, dX0_layOrders_105, dX0_layOrders_108, dX0_layOrders_111, dX0_layOrders_114, dX0_layOrders_117, dX0_layOrders_118]
                simp (disch := omega) only [li, nI_add, nI_clamp, nI_ltI, nI_leI, nI_eq, inx_iff, a31, nI_1shl', nI_shr', div_bit, tb1, tb0, fa_or, fa_and, nI_not, pk_sub, nI_dec, e1]
                refine ⟨fun _ => nx2 mL3 _ (by omega) (by omega) t1 (fun x y hx hy => ?_), fun z => by omega⟩
                have c1 : (x < a + 1 ∨ (x = a + 1 ∧ y < 0)) ↔ (x < a ∨ (x = a ∧ y < b)) := by omega
                simp only [c1]
                exact t2 x y hx hy
          refine hG.run [40, 63] 60 ?_
          simp [wp, stepI, ln, jmp, cmpI, Value.category, rd, tyF, va_rf, st1, st2, clr, isLg, CB, inx_0, inx_1, inx_2, inx_3, inx_4, inx_5, bI_0, bI_1, bI_ok, fin3, tyX0, entL, q0, dX0_layOrders_0, dX0_layOrders_1, fT_0_9, dX0_layOrders_4, dX0_layOrders_5, dX0_layOrders_8, dX0_layOrders_9, fT_0_15, dX0_layOrders_12, dX0_layOrders_13, dX0_layOrders_16, dX0_layOrders_17, dX0_layOrders_18, dX0_layOrders_19, dX0_layOrders_20, dX0_layOrders_21, dX0_layOrders_22, fT_0_40, dX0_layOrders_25, dX0_layOrders_28, dX0_layOrders_29, dX0_layOrders_30, dX0_layOrders_31, dX0_layOrders_32, dX0_layOrders_35, dX0_layOrders_38, dX0_layOrders_39, dX0_layOrders_40, dX0_layOrders_41, dX0_layOrders_42, dX0_layOrders_45, dX0_layOrders_46, dX0_layOrders_47, dX0_layOrders_50, dX0_layOrders_51, dX0_layOrders_52, dX0_layOrders_53, dX0_layOrders_54, dX0_layOrders_57, dX0_layOrders_60, dX0_layOrders_61, dX0_layOrders_63, dX0_layOrders_65, dX0_layOrders_66, dX0_layOrders_69, dX0_layOrders_72, dX0_layOrders_73, fT_0_18, dX0_layOrders_76, dX0_layOrders_77, dX0_layOrders_78, dX0_layOrders_79, dX0_layOrders_82, dX0_layOrders_84, dX0_layOrders_85, dX0_layOrders_88, dX0_layOrders_89, dX0_layOrders_90, dX0_layOrders_91, dX0_layOrders_92, dX0_layOrders_94, dX0_layOrders_95, dX0_layOrders_96, dX0_layOrders_99, dX0_layOrders_102, dX0_layOrders_105, dX0_layOrders_108, dX0_layOrders_111, dX0_layOrders_114, dX0_layOrders_117, dX0_layOrders_118]
          simp (disch := omega) only [li, nI_add, nI_clamp, nI_ltI, nI_leI, nI_eq, inx_iff, a31, nI_1shl', nI_shr', div_bit, tb1, tb0, fa_or, fa_and, nI_not, pk_sub, nI_dec, e1]
          refine ⟨fun z => nx1 m2 mL2 _ _ (by omega) (by omega) h3 w1 (fun x y hx hy => ?_), fun z => loop4 (np + 1) 0 mL2 z (by omega) (by omega) w1 w2⟩
          have := w2 x y hx hy
          rw [if_pos (by omega)] at this
          rw [if_neg (by omega)]
          exact this
      refine hG.run [52] 60 ?_
      simp [wp, stepI, ln, jmp, cmpI, Value.category, rd, tyF, va_rf, st1, st2, clr, isLg, CB, inx_0, inx_1, inx_2, inx_3, inx_4, inx_5, bI_0, bI_1, bI_ok, fin3, tyX0, entL, q0, dX0_layOrders_0, dX0_layOrders_1, fT_0_9, dX0_layOrders_4, dX0_layOrders_5, dX0_layOrders_8, dX0_layOrders_9, fT_0_15, dX0_layOrders_12, dX0_layOrders_13, dX0_layOrders_16, dX0_layOrders_17, dX0_layOrders_18, dX0_layOrders_19, dX0_layOrders_20, dX0_layOrders_21, dX0_layOrders_22, fT_0_40, dX0_layOrders_25, dX0_layOrders_28, dX0_layOrders_29, dX0_layOrders_30, dX0_layOrders_31, dX0_layOrders_32, dX0_layOrders_35, dX0_layOrders_38, dX0_layOrders_39, dX0_layOrders_40, dX0_layOrders_41, dX0_layOrders_42, dX0_layOrders_45, dX0_layOrders_46, dX0_layOrders_47, dX0_layOrders_50, dX0_layOrders_51, dX0_layOrders_52, dX0_layOrders_53, dX0_layOrders_54, dX0_layOrders_57, dX0_layOrders_60, dX0_layOrders_61, dX0_layOrders_63, dX0_layOrders_65, dX0_layOrders_66, dX0_layOrders_69, dX0_layOrders_72, dX0_layOrders_73, fT_0_18, dX0_layOrders_76, dX0_layOrders_77, dX0_layOrders_78, dX0_layOrders_79, dX0_layOrders_82, dX0_layOrders_84, dX0_layOrders_85, dX0_layOrders_88, dX0_layOrders_89, dX0_layOrders_90, dX0_layOrders_91, dX0_layOrders_92, dX0_layOrders_94, dX0_layOrders_95, dX0_layOrders_96, dX0_layOrders_99, dX0_layOrders_102, dX0_layOrders_105, dX0_layOrders_108, dX0_layOrders_111, dX0_layOrders_114, dX0_layOrders_117, dX0_layOrders_118]
      exact loop3 (np + 1) 0 mL1 _ (by omega) (by omega) g2 g3
  have loop1 : ∀ f p, np + 1 - p < f → 2 ≤ p → p ≤ np + 1 ∨ p = 2 → G 20 [some (.ref K), some (.int (nI (fac (p - 1)))), some (.int (nI p)), none, none] [] (sh, mI, flL (flL mL (K + 1) 25 0) (K + 2) 25 0, mR, n) := by
    intro f
    induction f with
    | zero => intro p h; omega
    | succ f ih =>
      intro p hf h2 hpn
      refine hG.run [20, 38] 60 ?_
      simp [wp, stepI, ln, jmp, cmpI, Value.category, rd, tyF, va_rf, st1, st2, clr, isLg, CB, inx_0, inx_1, inx_2, inx_3, inx_4, inx_5, bI_0, bI_1, bI_ok, fin3, tyX0, entL, q0, dX0_layOrders_0, dX0_layOrders_1, fT_0_9, dX0_layOrders_4, dX0_layOrders_5, dX0_layOrders_8, dX0_layOrders_9, fT_0_15, dX0_layOrders_12, dX0_layOrders_13, dX0_layOrders_16, dX0_layOrders_17, dX0_layOrders_18, dX0_layOrders_19, dX0_layOrders_20, dX0_layOrders_21, dX0_layOrders_22, fT_0_40, dX0_layOrders_25, dX0_layOrders_28, dX0_layOrders_29, dX0_layOrders_30, dX0_layOrders_31, dX0_layOrders_32, dX0_layOrders_35, dX0_layOrders_38, dX0_layOrders_39, dX0_layOrders_40, dX0_layOrders_41, dX0_layOrders_42, dX0_layOrders_45, dX0_layOrders_46, dX0_layOrders_47, dX0_layOrders_50, dX0_layOrders_51, dX0_layOrders_52, dX0_layOrders_53, dX0_layOrders_54, dX0_layOrders_57, dX0_layOrders_60, dX0_layOrders_61, dX0_layOrders_63, dX0_layOrders_65, dX0_layOrders_66, dX0_layOrders_69, dX0_layOrders_72, dX0_layOrders_73, fT_0_18, dX0_layOrders_76, dX0_layOrders_77, dX0_layOrders_78, dX0_layOrders_79, dX0_layOrders_82, dX0_layOrders_84, dX0_layOrders_85, dX0_layOrders_88, dX0_layOrders_89, dX0_layOrders_90, dX0_layOrders_91, dX0_layOrders_92, dX0_layOrders_94, dX0_layOrders_95, dX0_layOrders_96, dX0_layOrders_99, dX0_layOrders_102, dX0_layOrders_105, dX0_layOrders_108, dX0_layOrders_111, dX0_layOrders_114, dX0_layOrders_117, dX0_layOrders_118]
      simp (disch := omega) only [li, nI_add, nI_clamp, nI_ltI, nI_leI, nI_eq, inx_iff, a31, nI_1shl', nI_shr', div_bit, tb1, tb0, fa_or, fa_and, nI_not, pk_sub, nI_dec, hp, nI_mul]
      refine ⟨fun z => ?_, fun z => ?_⟩
      · have e : fac (p - 1) = fac np := by
          rcases hpn with y | y
          · rw [show p - 1 = np by omega]
          · rw [y]
            have : np = 0 ∨ np = 1 := by omega
            rcases this with w | w <;> rw [w] <;> rfl
        rw [e]
        refine hG.run [40] 60 ?_
        simp [wp, stepI, ln, jmp, cmpI, Value.category, rd, tyF, va_rf, st1, st2, clr, isLg, CB, inx_0, inx_1, inx_2, inx_3, inx_4, inx_5, bI_0, bI_1, bI_ok, fin3, tyX0, entL, q0, dX0_layOrders_0, dX0_layOrders_1, fT_0_9, dX0_layOrders_4, dX0_layOrders_5, dX0_layOrders_8, dX0_layOrders_9, fT_0_15, dX0_layOrders_12, dX0_layOrders_13, dX0_layOrders_16, dX0_layOrders_17, dX0_layOrders_18, dX0_layOrders_19, dX0_layOrders_20, dX0_layOrders_21, dX0_layOrders_22, fT_0_40, dX0_layOrders_25, dX0_layOrders_28, dX0_layOrders_29, dX0_layOrders_30, dX0_layOrders_31, dX0_layOrders_32, dX0_layOrders_35, dX0_layOrders_38, dX0_layOrders_39, dX0_layOrders_40, dX0_layOrders_41, dX0_layOrders_42, dX0_layOrders_45, dX0_layOrders_46, dX0_layOrders_47, dX0_layOrders_50, dX0_layOrders_51, dX0_layOrders_52, dX0_layOrders_53, dX0_layOrders_54, dX0_layOrders_57, dX0_layOrders_60, dX0_layOrders_61, dX0_layOrders_63, dX0_layOrders_65, dX0_layOrders_66, dX0_layOrders_69, dX0_layOrders_72, dX0_layOrders_73, fT_0_18, dX0_layOrders_76, dX0_layOrders_77, dX0_layOrders_78, dX0_layOrders_79, dX0_layOrders_82, dX0_layOrders_84, dX0_layOrders_85, dX0_layOrders_88, dX0_layOrders_89, dX0_layOrders_90, dX0_layOrders_91, dX0_layOrders_92, dX0_layOrders_94, dX0_layOrders_95, dX0_layOrders_96, dX0_layOrders_99, dX0_layOrders_102, dX0_layOrders_105, dX0_layOrders_108, dX0_layOrders_111, dX0_layOrders_114, dX0_layOrders_117, dX0_layOrders_118]
        refine loop2 (fac np + 1) 0 mI _ _ _ (by omega) (by omega) (fun _ _ _ => rfl) (fun a k c1 c2 => by rw [flL_ne c2, flL_ne c1]) (fun x y hx hy => ?_)
        rw [if_neg (by omega), flL_ne (by omega), flL_in (by omega), flL_in (by omega)]
        exact ⟨rfl, rfl⟩
      · have := ih (p + 1) (by omega) (by omega) (Or.inl (by omega))
        rw [show p + 1 - 1 = p by omega, show fac p = fac (p - 1) * p by
          obtain ⟨q, rfl⟩ : ∃ q, p = q + 1 := ⟨p - 1, by omega⟩
          rw [Nat.add_sub_cancel, Nat.mul_comm]; rfl] at this
        exact this
  refine hG.run [] 60 ?_
  simp [wp, stepI, ln, jmp, cmpI, Value.category, rd, tyF, va_rf, st1, st2, clr, isLg, CB, inx_0, inx_1, inx_2, inx_3, inx_4, inx_5, bI_0, bI_1, bI_ok, fin3, tyX0, entL, q0, q_low, dX0_layOrders_0, dX0_layOrders_1, fT_0_9, dX0_layOrders_4, dX0_layOrders_5, dX0_layOrders_8, dX0_layOrders_9, fT_0_15, dX0_layOrders_12, dX0_layOrders_13, dX0_layOrders_16, dX0_layOrders_17, dX0_layOrders_18, dX0_layOrders_19, dX0_layOrders_20, dX0_layOrders_21, dX0_layOrders_22, fT_0_40, dX0_layOrders_25, dX0_layOrders_28, dX0_layOrders_29, dX0_layOrders_30, dX0_layOrders_31, dX0_layOrders_32, dX0_layOrders_35, dX0_layOrders_38, dX0_layOrders_39, dX0_layOrders_40, dX0_layOrders_41, dX0_layOrders_42, dX0_layOrders_45, dX0_layOrders_46, dX0_layOrders_47, dX0_layOrders_50, dX0_layOrders_51, dX0_layOrders_52, dX0_layOrders_53, dX0_layOrders_54, dX0_layOrders_57, dX0_layOrders_60, dX0_layOrders_61, dX0_layOrders_63, dX0_layOrders_65, dX0_layOrders_66, dX0_layOrders_69, dX0_layOrders_72, dX0_layOrders_73, fT_0_18, dX0_layOrders_76, dX0_layOrders_77, dX0_layOrders_78, dX0_layOrders_79, dX0_layOrders_82, dX0_layOrders_84, dX0_layOrders_85, dX0_layOrders_88, dX0_layOrders_89, dX0_layOrders_90, dX0_layOrders_91, dX0_layOrders_92, dX0_layOrders_94, dX0_layOrders_95, dX0_layOrders_96, dX0_layOrders_99, dX0_layOrders_102, dX0_layOrders_105, dX0_layOrders_108, dX0_layOrders_111, dX0_layOrders_114, dX0_layOrders_117, dX0_layOrders_118]
  refine hG.callS dX0_layOrders_5 ms_0_65 [.ref (K + 1), .long 0] [] (cJ_fillL l X (d - 1) sh mI mL mR n (K + 1) 25 q_low.2 x1 (by decide) 0) (by omega) rfl (by decide) (by simp [Value.category]) rfl ?_
  rintro r M' ⟨rfl, rfl⟩
  refine hG.run [] 60 ?_
  simp [wp, stepI, ln, jmp, cmpI, Value.category, rd, tyF, va_rf, st1, st2, clr, isLg, CB, inx_0, inx_1, inx_2, inx_3, inx_4, inx_5, bI_0, bI_1, bI_ok, fin3, tyX0, entL, q0, q_high, dX0_layOrders_0, dX0_layOrders_1, fT_0_9, dX0_layOrders_4, dX0_layOrders_5, dX0_layOrders_8, dX0_layOrders_9, fT_0_15, dX0_layOrders_12, dX0_layOrders_13, dX0_layOrders_16, dX0_layOrders_17, dX0_layOrders_18, dX0_layOrders_19, dX0_layOrders_20, dX0_layOrders_21, dX0_layOrders_22, fT_0_40, dX0_layOrders_25, dX0_layOrders_28, dX0_layOrders_29, dX0_layOrders_30, dX0_layOrders_31, dX0_layOrders_32, dX0_layOrders_35, dX0_layOrders_38, dX0_layOrders_39, dX0_layOrders_40, dX0_layOrders_41, dX0_layOrders_42, dX0_layOrders_45, dX0_layOrders_46, dX0_layOrders_47, dX0_layOrders_50, dX0_layOrders_51, dX0_layOrders_52, dX0_layOrders_53, dX0_layOrders_54, dX0_layOrders_57, dX0_layOrders_60, dX0_layOrders_61, dX0_layOrders_63, dX0_layOrders_65, dX0_layOrders_66, dX0_layOrders_69, dX0_layOrders_72, dX0_layOrders_73, fT_0_18, dX0_layOrders_76, dX0_layOrders_77, dX0_layOrders_78, dX0_layOrders_79, dX0_layOrders_82, dX0_layOrders_84, dX0_layOrders_85, dX0_layOrders_88, dX0_layOrders_89, dX0_layOrders_90, dX0_layOrders_91, dX0_layOrders_92, dX0_layOrders_94, dX0_layOrders_95, dX0_layOrders_96, dX0_layOrders_99, dX0_layOrders_102, dX0_layOrders_105, dX0_layOrders_108, dX0_layOrders_111, dX0_layOrders_114, dX0_layOrders_117, dX0_layOrders_118]
  refine hG.callS dX0_layOrders_13 ms_0_65 [.ref (K + 2), .long 0] [] (cJ_fillL l X (d - 1) sh mI _ mR n (K + 2) 25 q_high.2 x2 (by decide) 0) (by omega) rfl (by decide) (by simp [Value.category]) rfl ?_
  rintro r M' ⟨rfl, rfl⟩
  refine hG.run [20] 60 ?_
  simp [wp, stepI, ln, jmp, cmpI, Value.category, rd, tyF, va_rf, st1, st2, clr, isLg, CB, inx_0, inx_1, inx_2, inx_3, inx_4, inx_5, bI_0, bI_1, bI_ok, fin3, tyX0, entL, q0, dX0_layOrders_0, dX0_layOrders_1, fT_0_9, dX0_layOrders_4, dX0_layOrders_5, dX0_layOrders_8, dX0_layOrders_9, fT_0_15, dX0_layOrders_12, dX0_layOrders_13, dX0_layOrders_16, dX0_layOrders_17, dX0_layOrders_18, dX0_layOrders_19, dX0_layOrders_20, dX0_layOrders_21, dX0_layOrders_22, fT_0_40, dX0_layOrders_25, dX0_layOrders_28, dX0_layOrders_29, dX0_layOrders_30, dX0_layOrders_31, dX0_layOrders_32, dX0_layOrders_35, dX0_layOrders_38, dX0_layOrders_39, dX0_layOrders_40, dX0_layOrders_41, dX0_layOrders_42, dX0_layOrders_45, dX0_layOrders_46, dX0_layOrders_47, dX0_layOrders_50, dX0_layOrders_51, dX0_layOrders_52, dX0_layOrders_53, dX0_layOrders_54, dX0_layOrders_57, dX0_layOrders_60, dX0_layOrders_61, dX0_layOrders_63, dX0_layOrders_65, dX0_layOrders_66, dX0_layOrders_69, dX0_layOrders_72, dX0_layOrders_73, fT_0_18, dX0_layOrders_76, dX0_layOrders_77, dX0_layOrders_78, dX0_layOrders_79, dX0_layOrders_82, dX0_layOrders_84, dX0_layOrders_85, dX0_layOrders_88, dX0_layOrders_89, dX0_layOrders_90, dX0_layOrders_91, dX0_layOrders_92, dX0_layOrders_94, dX0_layOrders_95, dX0_layOrders_96, dX0_layOrders_99, dX0_layOrders_102, dX0_layOrders_105, dX0_layOrders_108, dX0_layOrders_111, dX0_layOrders_114, dX0_layOrders_117, dX0_layOrders_118]
  exact loop1 (np + 1) 2 (by omega) (by omega) (Or.inr rfl)
