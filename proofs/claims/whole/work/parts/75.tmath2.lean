/-! the Tally's numbers are the reference's -/
def SayV (np c : Nat) (fi se : Nat → Nat) : Prop := ∀ k, k < c → fi k < np ∧ se k < np ∧ fi k ≠ se k
theorem al_fit {np c : Nat} {fi se : Nat → Nat} {sl : Nat} {kd : Nat → Nat} (h : SayV np c fi se) (al : Nat → Nat → Bool) {V W : Nat → Nat} (hV : PshR np V (fun p u => if al p u then gX (faX false sl kd fi se c) np p u else 0)) (hW : PshR np W (fun p u => if al p u then prX (fK fi se p u) c else 0)) : V (2 ^ np - 1) = W (2 ^ np - 1) := by
  have hpw : 1 ≤ 2 ^ np := Nat.one_le_two_pow
  have := hV.times hW (X := fun u => prX (xF fi se u) c) (prX_all1 (fun k _ => by unfold xF; simp)) (fun p u hp hu hb => by
    try dsimp only
    by_cases ha : al p u = true
    · rw [if_pos ha, if_pos ha, gX_gK (fun k hk => ⟨(h k hk).1, (h k hk).2.1⟩)]
      exact sharesF (fun k hk => (h k hk).2.2) hb
    · rw [if_neg ha, if_neg ha, Nat.zero_mul, Nat.mul_zero]) (2 ^ np - 1) (by omega)
  rw [this]
  try dsimp only
  rw [prX_all1 (fun k hk => by
    unfold xF
    rw [full_bit, full_bit, decide_eq_true (h k hk).1, if_neg (fun z => by cases z.2)]), Nat.mul_one]
theorem tl_ord {np c : Nat} {fi se : Nat → Nat} {sl : Nat} {kd : Nat → Nat} (h : SayV np c fi se) {V : Nat → Nat} (hV : PshR np V (gX (faX false sl kd fi se c) np)) : V (2 ^ np - 1) = ordN np c fi se := by
  have hpw : 1 ≤ 2 ^ np := Nat.one_le_two_pow
  have hW := pshC_ok np (fun p u => if alT p u then prX (fK fi se p u) c else 0)
  have e1 := al_fit (sl := sl) (kd := kd) h alT (V := V) hV hW
  rw [e1]
  unfold ordN
  exact (fitC_psh (ahA fi se c) hW (fun p u hp hu hb => (fK_fit (fun k hk => (h k hk).1)).symm) (2 ^ np - 1) (by omega)).symm
theorem al_cnt {np c : Nat} {fi se : Nat → Nat} {a b : Nat} (ha : a < np) (h : SayV np c fi se) {W : Nat → Nat} (hW : PshR np W (fun p u => if alB a b p u then prX (fK fi se p u) c else 0)) : cntW np c fi se a b = W (2 ^ np - 1) := by
  have hpw : 1 ≤ 2 ^ np := Nat.one_le_two_pow
  unfold cntW
  refine fitC_psh _ hW (fun p u hp hu hb => ?_) (2 ^ np - 1) (by omega)
  try dsimp only
  rw [← fK_fit (np := np) (fun k hk => (h k hk).1)]
  unfold upN alB
  by_cases e : p = b
  · subst e
    rw [if_pos rfl, decide_eq_true rfl]
    simp only [Bool.not_true, Bool.false_or]
    have : anot ((ahA fi se c p ||| 2 ^ a) &&& (2 ^ np - 1)) u = 0 ↔ (u.testBit a = true ∧ anot (ahA fi se c p &&& (2 ^ np - 1)) u = 0) := by
      rw [anot_0, anot_0]
      constructor
      · intro z
        exact ⟨z a (by rw [Nat.testBit_and, or_bit, decide_eq_true rfl, full_bit, decide_eq_true ha, Bool.or_true]; rfl), fun i hi => z i (by
          rw [Nat.testBit_and, Bool.and_eq_true] at hi ⊢
          exact ⟨by rw [or_bit, hi.1]; rfl, hi.2⟩)⟩
      · rintro ⟨z1, z2⟩ i hi
        rw [Nat.testBit_and, Bool.and_eq_true, or_bit, Bool.or_eq_true] at hi
        rcases hi.1 with y | y
        · exact z2 i (by rw [Nat.testBit_and, y, hi.2]; rfl)
        · rw [← of_decide_eq_true y]; exact z1
    by_cases hz : u.testBit a = true
    · simp only [hz, if_true]
      by_cases hy : anot (ahA fi se c p &&& (2 ^ np - 1)) u = 0
      · rw [if_pos hy, if_pos (this.mpr ⟨hz, hy⟩)]
      · rw [if_neg hy, if_neg (fun x => hy (this.mp x).2)]
    · rw [if_neg hz, if_neg (fun x => hz (this.mp x).1)]
  · rw [if_neg e, decide_eq_false e]
    rfl
theorem tl_cnt {np c : Nat} {fi se : Nat → Nat} {sl : Nat} {kd : Nat → Nat} {a b : Nat} (ha : a < np) (hb : b < np) (hab : a ≠ b) (h : SayV np c fi se) {V B : Nat → Nat} (hV : PshR np V (gX (faX false sl kd fi se c) np)) (hB : BkR np V (gX (faX false sl kd fi se c) np) B) : ahT np V (gX (faX false sl kd fi se c) np) B a b = cntW np c fi se a b := by
  rw [fwd hb hab hV (pshC_ok np _) hB, al_cnt ha h (pshC_ok np _)]
  exact al_fit (sl := sl) (kd := kd) h (alB a b) (pshC_ok np _) (pshC_ok np _)
/-! with slips -/
theorem al_wei {np c : Nat} {fi se : Nat → Nat} {sl : Nat} {kd : Nat → Nat} (h : SayV np c fi se) (al : Nat → Nat → Bool) {V : Nat → Nat} (hV : PshR np V (fun p u => if al p u then gX (faX true sl kd fi se c) np p u else 0)) : ∀ t, t < 2 ^ np → weiV np c fi se sl kd al t = V t * prX (xS sl kd fi se t) c := by
  unfold weiV
  refine hV.times (pshC_ok np _) (X := fun u => prX (xS sl kd fi se u) c) (prX_all1 (fun k _ => by unfold xS; simp)) (fun p u hp hu hb => ?_)
  try dsimp only
  by_cases ha : al p u = true
  · rw [if_pos ha, if_pos ha, gX_gK (fun k hk => ⟨(h k hk).1, (h k hk).2.1⟩)]
    exact sharesS (fun k hk => (h k hk).2.2) hb
  · rw [if_neg ha, if_neg ha, Nat.zero_mul, Nat.mul_zero]
theorem xS_full {np c : Nat} {fi se : Nat → Nat} {sl : Nat} {kd : Nat → Nat} (h : SayV np c fi se) : prX (xS sl kd fi se (2 ^ np - 1)) c = 1 := prX_all1 (fun k hk => by
  unfold xS
  rw [full_bit, full_bit, decide_eq_true (h k hk).2.1, if_neg (fun z => by cases z.2)])
theorem tl_wei {np c : Nat} {fi se : Nat → Nat} {sl : Nat} {kd : Nat → Nat} (h : SayV np c fi se) {V : Nat → Nat} (hV : PshR np V (gX (faX true sl kd fi se c) np)) : V (2 ^ np - 1) = weiV np c fi se sl kd alT (2 ^ np - 1) := by
  have hpw : 1 ≤ 2 ^ np := Nat.one_le_two_pow
  rw [al_wei h alT (V := V) hV _ (by omega), xS_full h, Nat.mul_one]
theorem tl_ahd {np c : Nat} {fi se : Nat → Nat} {sl : Nat} {kd : Nat → Nat} {a b : Nat} (hb : b < np) (hab : a ≠ b) (h : SayV np c fi se) {V B : Nat → Nat} (hV : PshR np V (gX (faX true sl kd fi se c) np)) (hB : BkR np V (gX (faX true sl kd fi se c) np) B) : ahT np V (gX (faX true sl kd fi se c) np) B a b = weiV np c fi se sl kd (alB a b) (2 ^ np - 1) := by
  have hpw : 1 ≤ 2 ^ np := Nat.one_le_two_pow
  rw [fwd hb hab hV (pshC_ok np _) hB, al_wei h (alB a b) (pshC_ok np _) _ (by omega), xS_full h, Nat.mul_one]
theorem offO_le {sl : Nat} {kd : Nat → Nat} {p : Nat} (hs : sl ≤ 3) : offO sl kd p ≤ 6 := by unfold offO; split <;> omega
theorem tlS_lt {np c : Nat} {fi se : Nat → Nat} {sl : Nat} {kd : Nat → Nat} (hnp : np ≤ 10) (hc : c ≤ 12) (hs : sl ≤ 3) (h : SayV np c fi se) {V : Nat → Nat} (hV : PshR np V (gX (faX true sl kd fi se c) np)) : ∀ t, t < 2 ^ np → V t < 2 ^ 63 := by
  intro t ht
  have hpw := p2_10 hnp
  have e := al_wei h alT (V := V) hV t ht
  have l := weiV_lt (np := np) (c := c) (fi := fi) (se := se) (sl := sl) (kd := kd) (al := alT) hnp hc hs (t := t) (by omega)
  have p : 0 < prX (xS sl kd fi se t) c := prX_pos (fun k _ => by
    have := offO_le (sl := sl) (kd := kd) (p := fi k) hs
    unfold xS
    split <;> omega)
  have : V t ≤ V t * prX (xS sl kd fi se t) c := Nat.le_mul_of_pos_right _ p
  omega
theorem gX_le1 {np c : Nat} {fi se : Nat → Nat} {sl : Nat} {kd : Nat → Nat} (h : SayV np c fi se) (p u : Nat) : gX (faX false sl kd fi se c) np p u ≤ 1 := by
  rw [gX_gK (fun k hk => ⟨(h k hk).1, (h k hk).2.1⟩)]
  refine prX_le1 fun k _ => ?_
  unfold gK
  simp only [Bool.false_eq_true, if_false]
  split <;> split <;> omega
theorem tlF_lt {np c : Nat} {fi se : Nat → Nat} {sl : Nat} {kd : Nat → Nat} (hnp : np ≤ 10) (h : SayV np c fi se) {V : Nat → Nat} (hV : PshR np V (gX (faX false sl kd fi se c) np)) : ∀ t, t < 2 ^ np → V t ≤ 3628800 := by
  intro t ht
  have hpw := p2_10 hnp
  rw [hV.uniq (pshC_ok np _) (fun _ _ _ _ _ => rfl) t ht]
  have h1 := psh_le (np := np) (c := 0) (fi := fi) (g := gX (faX false sl kd fi se c) np) hnp (fun p u => gX_le1 h p u) t (by omega)
  have h2 : fac (pcn t) ≤ 3628800 := Nat.le_trans (fac_mono (pcn_le t)) (by decide)
  have h3 : sfN fi np 0 t = 0 := Nat.le_zero.mp sfN_le
  rw [h3, Nat.pow_zero, Nat.mul_one] at h1
  exact Nat.le_trans h1 h2
/-! one of the two stands ahead -/
theorem al_out {np : Nat} {V V' : Nat → Nat} {g : Nat → Nat → Nat} {o q : Nat} (hV : PshR np V g) (hV' : PshR np V' (fun p u => if alB o q p u then g p u else 0)) : ∀ t, t.testBit q = false → V' t = V t := by
  intro t
  induction t using Nat.strongRecOn with
  | _ t ih =>
    intro hb
    rcases Nat.eq_zero_or_pos t with z | z
    · rw [z, hV.1, hV'.1]
    · rw [hV.2 t z, hV'.2 t z]
      refine fb_sm_cong fun p hp => ?_
      split
      · rename_i hpb
        have hl := anot_lt hpb
        have hpq : p ≠ q := fun z => by rw [z, hb] at hpb; cases hpb
        have : alB o q p (anot t (2 ^ p)) = true := by unfold alB; rw [decide_eq_false hpq]; rfl
        dsimp only
        rw [this, if_pos rfl, ih _ hl (by rw [anot_bit, hb]; rfl)]
      · rfl
theorem al_zero {np : Nat} {V' : Nat → Nat} {g : Nat → Nat → Nat} {o q : Nat} (hV' : PshR np V' (fun p u => if alB o q p u then g p u else 0)) : ∀ t, t.testBit q = true → t.testBit o = false → V' t = 0 := by
  intro t
  induction t using Nat.strongRecOn with
  | _ t ih =>
    intro hq ho
    have hz : 0 < t := Nat.pos_of_ne_zero (fun z => by rw [z] at hq; simp at hq)
    rw [hV'.2 t hz]
    refine fb_sm_0 fun p hp => ?_
    split
    · rename_i hpb
      have hl := anot_lt hpb
      by_cases e : p = q
      · subst e
        have : alB o p p (anot t (2 ^ p)) = false := by
          unfold alB
          rw [decide_eq_true rfl, anot_bit, ho]; rfl
        dsimp only
        rw [this]
        simp
      · rw [ih _ hl (by rw [anot_bit, hq, Nat.testBit_two_pow, decide_eq_false e]; rfl) (by rw [anot_bit, ho]; rfl), Nat.zero_mul]
    · rfl
theorem al_sum {np : Nat} {V V1 V2 : Nat → Nat} {g : Nat → Nat → Nat} {a b : Nat} (hab : a ≠ b) (hV : PshR np V g) (h1 : PshR np V1 (fun p u => if alB a b p u then g p u else 0)) (h2 : PshR np V2 (fun p u => if alB b a p u then g p u else 0)) : ∀ t, t.testBit a = true → t.testBit b = true → V1 t + V2 t = V t := by
  intro t
  induction t using Nat.strongRecOn with
  | _ t ih =>
    intro ha hb
    have hz : 0 < t := Nat.pos_of_ne_zero (fun z => by rw [z] at ha; simp at ha)
    rw [hV.2 t hz, h1.2 t hz, h2.2 t hz, ← fb_sm_add]
    refine fb_sm_cong fun p hp => ?_
    by_cases hpb : t.testBit p = true
    · rw [if_pos hpb, if_pos hpb, if_pos hpb]
      have hl := anot_lt hpb
      have bit : ∀ i, (anot t (2 ^ p)).testBit i = (t.testBit i && !decide (p = i)) := fun i => by rw [anot_bit, Nat.testBit_two_pow]
      by_cases e1 : p = b
      · have n1 : alB a b p (anot t (2 ^ p)) = true := by
          unfold alB
          rw [bit, ha, decide_eq_false (show ¬ p = a from fun z => hab (z.symm.trans e1)), Bool.or_comm]; rfl
        have n2 : V1 (anot t (2 ^ p)) = V (anot t (2 ^ p)) := al_out hV h1 _ (by rw [bit, e1, decide_eq_true rfl, Bool.not_true, Bool.and_false])
        have n3 : V2 (anot t (2 ^ p)) = 0 := al_zero h2 _ (by rw [bit, ha, decide_eq_false (fun z => hab (z.symm.trans e1))]; rfl) (by rw [bit, e1, decide_eq_true rfl, Bool.not_true, Bool.and_false])
        dsimp only
        rw [if_pos n1, n2, n3, Nat.zero_mul, Nat.add_zero]
      · by_cases e2 : p = a
        · have n1 : alB b a p (anot t (2 ^ p)) = true := by
            unfold alB
            rw [bit, hb, decide_eq_false (show ¬ p = b from e1), Bool.or_comm]; rfl
          have n2 : V2 (anot t (2 ^ p)) = V (anot t (2 ^ p)) := al_out hV h2 _ (by rw [bit, e2, decide_eq_true rfl, Bool.not_true, Bool.and_false])
          have n3 : V1 (anot t (2 ^ p)) = 0 := al_zero h1 _ (by rw [bit, hb, decide_eq_false e1]; rfl) (by rw [bit, e2, decide_eq_true rfl, Bool.not_true, Bool.and_false])
          dsimp only
          rw [if_pos n1, n2, n3, Nat.zero_mul, Nat.zero_add]
        · have n1 : alB a b p (anot t (2 ^ p)) = true := by unfold alB; rw [decide_eq_false e1]; rfl
          have n2 : alB b a p (anot t (2 ^ p)) = true := by unfold alB; rw [decide_eq_false e2]; rfl
          dsimp only
          rw [if_pos n1, if_pos n2, ← Nat.add_mul, ih _ hl (by rw [bit, ha, decide_eq_false e2]; rfl) (by rw [bit, hb, decide_eq_false e1]; rfl)]
    · rw [if_neg hpb, if_neg hpb, if_neg hpb]
theorem cnt_sum {np c : Nat} {fi se : Nat → Nat} {a b : Nat} (ha : a < np) (hb : b < np) (hab : a ≠ b) (h : SayV np c fi se) : cntW np c fi se a b + cntW np c fi se b a = ordN np c fi se := by
  have hpw : 1 ≤ 2 ^ np := Nat.one_le_two_pow
  have hW := pshC_ok np (fun p u => prX (fK fi se p u) c)
  rw [al_cnt ha h (pshC_ok np _), al_cnt hb h (pshC_ok np _), al_sum hab hW (pshC_ok np _) (pshC_ok np _) _ (by rw [full_bit, decide_eq_true ha]) (by rw [full_bit, decide_eq_true hb])]
  unfold ordN
  exact (fitC_psh (ahA fi se c) hW (fun p u hp hu hb => (fK_fit (fun k hk => (h k hk).1)).symm) (2 ^ np - 1) (by omega)).symm
