/-! a method of a class of which the machine has entries, but none for this one -/
theorem Cn.ofF {l : Launch} {X : Cx} {y : MethodName} {cc : ByteArray} {n : Nat} {r : Option FieldType} {d : Nat} {As : List Value} {M : Mm} {Post : Option Value → Mm → Prop} {mc ms : Nat} (own : Nat) (ini : Bool) (hy : plainFor y = true) (hcls : y.cls = RN own) (hini : ini = true → y.name = "<init>") (hlen : (entA As).length ≤ n)
    (body : ∀ (p : Program) (e : Env) (s : State) (m : MethodId) (args : Array Value) (below : List Frame) (meth : Method) (c : Code), Ct p s m args meth c X own ini cc n r → WG p l e (rmm d mc ms) s m args below meth c X n Post mc ms 0 0 0 (entL n As) [] M) : Cn l X y cc n r d As M Post mc ms := by
  refine va_MetF (cc := cc) (maxL := n) (ret := r) hy rfl ?_
  intro p e s m args below meth c s₁ B hml hv
  obtain ⟨rfl, hR, hK⟩ := hv
  have hts := atoms_spec (ws := wsm y cc n r) B.pre
  have hown : s.vm.findClass (RN own) = some m.cls := hcls ▸ findClass_of_methodNamed B.named
  have C0 : Ct p s m (As.map (mv X)).toArray meth c X own ini cc n r := ⟨B.exec, B.bytes, B.returns, hml, hown, fun w hw => hts w (List.mem_cons_of_mem _ hw), B.notSynchronized, hK, fun z => (name_of_methodNamed B.named B.method).1.trans (hini z)⟩
  have h := body p e s m _ below meth c C0 s.heap [] _ hR (fun z hz => by cases hz) (hasL_entry hlen)
  rw [lg_entry_eq]
  exact h
theorem Cn.runF {l : Launch} {X : Cx} {y : MethodName} {cc : ByteArray} {n : Nat} {r : Option FieldType} {d : Nat} {As : List Value} {M : Mm} {Post : Option Value → Mm → Prop} (own : Nat) (hy : plainFor y = true) (hcls : y.cls = RN own) (hlen : (entA As).length ≤ n)
    (body : ∀ (P : Option Value → Mm → Prop) (G : Nat → List (Option Value) → List Value → Mm → Prop), (∀ r M', Post r M' → P r M') → (∀ (stops : List Nat) (f pc : Nat) (L : List (Option Value)) (st : List Value) (M : Mm), wp own false r cc stops G P f pc L st M → G pc L st M) → G 0 (entL n As) [] M) : Cn l X y cc n r d As M Post 0 0 := by
  refine Cn.ofF own false hy hcls (fun z => by cases z) hlen ?_
  intro p e s m args below meth c C0
  exact body Post (WG p l e (rmm d 0 0) s m args below meth c X n Post 0 0 0 0) (fun _ _ z => z) (fun stops f pc L st M h => wp_sound C0 ⟨Nat.le_refl _, Nat.le_refl _⟩ stops f pc L st M h)
set_option maxHeartbeats 4000000 in
set_option maxRecDepth 100000 in
theorem cJ_maxL (l : Launch) (X : Cx) (d : Nat) (M : Mm) (x y : Int64) : Cn l X yJ9_max_f86c9 cJ9_max_f86c9 4 (some .long) d [.long x, .long y] M (fun r M' => M' = M ∧ r = some (.long (if x < y then y else x))) 0 0 := by
  refine Cn.runF 16 (by decide +kernel) rfl (by simp [entA, Value.category]) ?_
  intro P G hP hG
  refine hG [] 40 _ _ _ _ ?_
  simp [wp, stepI, ln, jmp, cmpI, Value.category, rd, tyF, va_rf, st1, st2, clr, isLg, CB, inx_0, inx_1, inx_2, inx_3, inx_4, inx_5, bI_0, bI_1, bI_ok, fin3, entL, lg_cmp_lt, dJ9_max_f86c9_0, dJ9_max_f86c9_1, dJ9_max_f86c9_2, dJ9_max_f86c9_3, dJ9_max_f86c9_6, dJ9_max_f86c9_7, dJ9_max_f86c9_10, dJ9_max_f86c9_11]
  exact ⟨fun z => hP _ _ ⟨rfl, by rw [if_pos z]⟩, fun z => hP _ _ ⟨rfl, by rw [if_neg (Int64.not_lt.mpr z)]⟩⟩
/-! products -/
def prX (f : Nat → Nat) : Nat → Nat
  | 0 => 1
  | k + 1 => prX f k * f k
theorem prX_s (f : Nat → Nat) (k : Nat) : prX f (k + 1) = prX f k * f k := rfl
theorem prX_cong {f g : Nat → Nat} : ∀ {n : Nat}, (∀ k, k < n → f k = g k) → prX f n = prX g n
  | 0, _ => rfl
  | n + 1, h => by rw [prX_s, prX_s, prX_cong (n := n) (fun k hk => h k (by omega)), h n (by omega)]
theorem prX_1 {f : Nat → Nat} {i : Nat} : ∀ {n : Nat}, i ≤ n → (∀ k, i ≤ k → k < n → f k = 1) → prX f n = prX f i
  | 0, hi, _ => by rw [show i = 0 by omega]
  | n + 1, hi, h => by
    by_cases e : i = n + 1
    · rw [e]
    · rw [prX_s, h n (by omega) (by omega), Nat.mul_one, prX_1 (n := n) (by omega) (fun k h1 h2 => h k h1 (by omega))]
def gX (fx : Nat → Nat → Nat) (np p u : Nat) : Nat := prX (fun o => if u.testBit o then fx o p else 1) np
/-- the Tally at T: pupils, partners, factors -/
def TaM (mI : Nat → Nat → Int32) (mL : Nat → Nat → Int64) (T np : Nat) (pa : Nat → Nat) (fx : Nat → Nat → Nat) : Prop := mI T 6 = nI np ∧ np ≤ 10 ∧ mI T 7 = nI (2 ^ np - 1) ∧ (∀ p, p < 10 → mI (T + 2) p = nI (pa p) ∧ pa p < 1024) ∧ (∀ a b, a < 10 → b < 10 → mL (T + 1) (10 * a + b) = lN (fx a b)) ∧ ∀ p o, (pa p).testBit o = false → fx o p = 1
theorem TaM.kp {mI mI' : Nat → Nat → Int32} {mL mL' : Nat → Nat → Int64} {T np : Nat} {pa : Nat → Nat} {fx : Nat → Nat → Nat} (h : TaM mI mL T np pa fx) (h1 : mI' T 6 = mI T 6) (h2 : mI' T 7 = mI T 7) (h3 : ∀ k, mI' (T + 2) k = mI (T + 2) k) (h4 : ∀ k, mL' (T + 1) k = mL (T + 1) k) : TaM mI' mL' T np pa fx :=
  ⟨h1.trans h.1, h.2.1, h2.trans h.2.2.1, fun p hp => ⟨(h3 p).trans (h.2.2.2.1 p hp).1, (h.2.2.2.1 p hp).2⟩, fun a b ha hb => (h4 _).trans (h.2.2.2.2.1 a b ha hb), h.2.2.2.2.2⟩
theorem faX_1 {sp : Bool} {sl : Nat} {kd fi se : Nat → Nat} {p o : Nat} : ∀ {c : Nat}, (paX fi se c p).testBit o = false → faX sp sl kd fi se c o p = 1
  | 0, _ => rfl
  | c + 1, h => by
    rw [paX_s] at h
    rw [faX_s]
    have h1 : ¬ (fi c = o ∧ se c = p) := fun z => by
      rw [if_pos z.2, Nat.testBit_or, z.1, Nat.testBit_two_pow_self, Bool.or_true] at h
      cases h
    have h2 : ¬ (se c = o ∧ fi c = p) := fun z => by
      rw [if_pos z.2] at h
      split at h
      · rw [Nat.testBit_or, Nat.testBit_or, z.1, Nat.testBit_two_pow_self, Bool.or_true, Bool.true_or] at h
        cases h
      · rw [Nat.testBit_or, z.1, Nat.testBit_two_pow_self, Bool.or_true] at h
        cases h
    rw [if_neg h1, if_neg h2, Nat.mul_one, Nat.mul_one]
    refine faX_1 ?_
    split at h
    · split at h
      · rw [Nat.testBit_or, Nat.testBit_or] at h
        cases hb : (paX fi se c p).testBit o with
        | false => rfl
        | true => rw [hb, Bool.true_or, Bool.true_or] at h; cases h
      · rw [Nat.testBit_or] at h
        cases hb : (paX fi se c p).testBit o with
        | false => rfl
        | true => rw [hb, Bool.true_or] at h; cases h
    · split at h
      · rw [Nat.testBit_or] at h
        cases hb : (paX fi se c p).testBit o with
        | false => rfl
        | true => rw [hb, Bool.true_or] at h; cases h
      · exact h
theorem dv0_bit {a i k : Nat} (h : a / 2 ^ i = 0) (hk : i ≤ k) : a.testBit k = false := by
  have h1 : a < 2 ^ i := by
    rcases Nat.lt_or_ge a (2 ^ i) with y | y
    · exact y
    · have := Nat.div_pos y (Nat.two_pow_pos i)
      omega
  exact Nat.testBit_lt_two_pow (Nat.lt_of_lt_of_le h1 (Nat.pow_le_pow_right (by decide) hk))
set_option maxHeartbeats 4000000 in
set_option maxRecDepth 100000 in
theorem c7_factorBehind (l : Launch) (X : Cx) (d : Nat) (sh : Nat → Option Sh) (mI : Nat → Nat → Int32) (mL : Nat → Nat → Int64) (mR : Nat → Nat → Option Nat) (n : Nat) (T : Nat) (hO : OL sh mR T 7 ob7) (np : Nat) (pa : Nat → Nat) (fx : Nat → Nat → Nat) (hM : TaM mI mL T np pa fx) (u p : Nat) (hu : u < 1024) (hp : p < np) : Cn l X yX7_factorBehind cX7_factorBehind 7 (some .long) d [.ref T, .int (nI u), .int (nI p)] (sh, mI, mL, mR, n) (fun r M' => M' = (sh, mI, mL, mR, n) ∧ r = some (.long (lN (gX fx np p u)))) 0 0 := by
  refine Cn.run 7 false (by decide) rfl (by decide) (by simp [entA, Value.category]) ?_
  intro P G hP hG
  have q0 := hO.1
  have q_factor := hO.2.2 (1, 1, .long, 100) (by decide)
  dsimp only at q_factor
  have q_partners := hO.2.2 (2, 2, .int, 10) (by decide)
  dsimp only at q_partners
  obtain ⟨h1, h2, h3, h4, h5, h6⟩ := hM
  obtain ⟨p1, p2⟩ := h4 p (by omega)
  obtain ⟨f, hf⟩ : ∃ f : Nat → Nat, f = fun o => if u.testBit o then fx o p else 1 := ⟨_, rfl⟩
  have ha : u &&& pa p < 1024 := Nat.lt_of_le_of_lt Nat.and_le_left hu
  have f1 : ∀ o, (u &&& pa p).testBit o = false → f o = 1 := fun o h => by
    rw [hf]
    show (if u.testBit o then fx o p else 1) = 1
    rw [Nat.testBit_and] at h
    split
    · rename_i hb
      rw [hb, Bool.true_and] at h
      exact h6 p o h
    · rfl
  have f2 : ∀ o, (u &&& pa p).testBit o = true → f o = fx o p := fun o h => by
    rw [hf]
    show (if u.testBit o then fx o p else 1) = fx o p
    rw [Nat.testBit_and, Bool.and_eq_true] at h
    rw [if_pos h.1]
  unfold gX at hP
  rw [← hf] at hP
  have loop : ∀ f' i, np - i < f' → i ≤ np → G 15 [some (.ref T), some (.int (nI u)), some (.int (nI p)), some (.int (nI (u &&& pa p))), some (.long (lN (prX f i))), none, some (.int (nI i))] [] (sh, mI, mL, mR, n) := by
    intro f'
    induction f' with
    | zero => intro i h; omega
    | succ f' ih =>
      intro i hf' hi
      have nx := ih (i + 1)
      rw [prX_s] at nx
      generalize u &&& pa p = a at ha f1 f2 nx ⊢
      have hq : a / 2 ^ i ≤ a := Nat.div_le_self _ _
      refine hG.run [15, 40, 57] 60 ?_
      simp [wp, stepI, ln, jmp, cmpI, Value.category, rd, tyF, va_rf, st1, st2, clr, isLg, CB, inx_0, inx_1, inx_2, inx_3, inx_4, inx_5, bI_0, bI_1, bI_ok, fin3, tyX7, entL, q0, dX7_factorBehind_0, dX7_factorBehind_1, dX7_factorBehind_2, fT_7_15, dX7_factorBehind_5, dX7_factorBehind_6, dX7_factorBehind_7, dX7_factorBehind_8, dX7_factorBehind_9, dX7_factorBehind_10, dX7_factorBehind_12, dX7_factorBehind_13, dX7_factorBehind_15, dX7_factorBehind_17, dX7_factorBehind_18, fT_7_50, dX7_factorBehind_21, dX7_factorBehind_24, dX7_factorBehind_25, dX7_factorBehind_27, dX7_factorBehind_28, dX7_factorBehind_31, dX7_factorBehind_32, dX7_factorBehind_34, dX7_factorBehind_35, dX7_factorBehind_36, dX7_factorBehind_37, dX7_factorBehind_40, dX7_factorBehind_42, dX7_factorBehind_43, fT_7_9, dX7_factorBehind_46, dX7_factorBehind_48, dX7_factorBehind_50, dX7_factorBehind_51, dX7_factorBehind_52, dX7_factorBehind_53, dX7_factorBehind_54, dX7_factorBehind_55, dX7_factorBehind_57, dX7_factorBehind_60, dX7_factorBehind_63, dX7_factorBehind_65]
      simp (disch := omega) only [li, nI_add, nI_clamp, nI_ltI, nI_leI, nI_eq, inx_iff, a31, nI_1shl', nI_shr', div_bit, tb1, tb0, fa_or, fa_and, nI_not, pk_sub, nI_dec, h1]
      refine ⟨fun z => hP _ _ ⟨rfl, by rw [show i = np by omega]⟩, fun z => ⟨fun z2 => hP _ _ ⟨rfl, by rw [prX_1 (i := i) (n := np) (by omega) (fun k hk _ => f1 k (dv0_bit z2 hk))]⟩, fun z2 => ⟨fun z3 => ?_, fun z3 => ?_⟩⟩⟩
      · rw [f1 i z3, Nat.mul_one] at nx
        refine hG.run [15] 60 ?_
        simp [wp, stepI, ln, jmp, cmpI, Value.category, rd, tyF, va_rf, st1, st2, clr, isLg, CB, inx_0, inx_1, inx_2, inx_3, inx_4, inx_5, bI_0, bI_1, bI_ok, fin3, tyX7, entL, q0, dX7_factorBehind_0, dX7_factorBehind_1, dX7_factorBehind_2, fT_7_15, dX7_factorBehind_5, dX7_factorBehind_6, dX7_factorBehind_7, dX7_factorBehind_8, dX7_factorBehind_9, dX7_factorBehind_10, dX7_factorBehind_12, dX7_factorBehind_13, dX7_factorBehind_15, dX7_factorBehind_17, dX7_factorBehind_18, fT_7_50, dX7_factorBehind_21, dX7_factorBehind_24, dX7_factorBehind_25, dX7_factorBehind_27, dX7_factorBehind_28, dX7_factorBehind_31, dX7_factorBehind_32, dX7_factorBehind_34, dX7_factorBehind_35, dX7_factorBehind_36, dX7_factorBehind_37, dX7_factorBehind_40, dX7_factorBehind_42, dX7_factorBehind_43, fT_7_9, dX7_factorBehind_46, dX7_factorBehind_48, dX7_factorBehind_50, dX7_factorBehind_51, dX7_factorBehind_52, dX7_factorBehind_53, dX7_factorBehind_54, dX7_factorBehind_55, dX7_factorBehind_57, dX7_factorBehind_60, dX7_factorBehind_63, dX7_factorBehind_65]
        simp (disch := omega) only [li, nI_add, nI_clamp, nI_ltI, nI_leI, nI_eq, inx_iff, a31, nI_1shl', nI_shr', div_bit, tb1, tb0, fa_or, fa_and, nI_not, pk_sub, nI_dec]
        exact nx (by omega) (by omega)
      · rw [f2 i (by simpa using z3)] at nx
        have x1 := h5 i p (by omega) (by omega)
        rw [Nat.mul_comm 10] at x1
        refine hG.run [15] 60 ?_
        simp [wp, stepI, ln, jmp, cmpI, Value.category, rd, tyF, va_rf, st1, st2, clr, isLg, CB, inx_0, inx_1, inx_2, inx_3, inx_4, inx_5, bI_0, bI_1, bI_ok, fin3, tyX7, entL, q0, q_factor, dX7_factorBehind_0, dX7_factorBehind_1, dX7_factorBehind_2, fT_7_15, dX7_factorBehind_5, dX7_factorBehind_6, dX7_factorBehind_7, dX7_factorBehind_8, dX7_factorBehind_9, dX7_factorBehind_10, dX7_factorBehind_12, dX7_factorBehind_13, dX7_factorBehind_15, dX7_factorBehind_17, dX7_factorBehind_18, fT_7_50, dX7_factorBehind_21, dX7_factorBehind_24, dX7_factorBehind_25, dX7_factorBehind_27, dX7_factorBehind_28, dX7_factorBehind_31, dX7_factorBehind_32, dX7_factorBehind_34, dX7_factorBehind_35, dX7_factorBehind_36, dX7_factorBehind_37, dX7_factorBehind_40, dX7_factorBehind_42, dX7_factorBehind_43, fT_7_9, dX7_factorBehind_46, dX7_factorBehind_48, dX7_factorBehind_50, dX7_factorBehind_51, dX7_factorBehind_52, dX7_factorBehind_53, dX7_factorBehind_54, dX7_factorBehind_55, dX7_factorBehind_57, dX7_factorBehind_60, dX7_factorBehind_63, dX7_factorBehind_65]
        simp (disch := omega) only [li, nI_add, nI_clamp, nI_ltI, nI_leI, nI_eq, inx_iff, a31, nI_1shl', nI_shr', div_bit, tb1, tb0, fa_or, fa_and, nI_not, pk_sub, nI_dec, nI_mul, x1, lN_mul]
        exact ⟨by omega, nx (by omega) (by omega)⟩
  refine hG.run [15] 60 ?_
  simp [wp, stepI, ln, jmp, cmpI, Value.category, rd, tyF, va_rf, st1, st2, clr, isLg, CB, inx_0, inx_1, inx_2, inx_3, inx_4, inx_5, bI_0, bI_1, bI_ok, fin3, tyX7, entL, q0, q_partners, dX7_factorBehind_0, dX7_factorBehind_1, dX7_factorBehind_2, fT_7_15, dX7_factorBehind_5, dX7_factorBehind_6, dX7_factorBehind_7, dX7_factorBehind_8, dX7_factorBehind_9, dX7_factorBehind_10, dX7_factorBehind_12, dX7_factorBehind_13, dX7_factorBehind_15, dX7_factorBehind_17, dX7_factorBehind_18, fT_7_50, dX7_factorBehind_21, dX7_factorBehind_24, dX7_factorBehind_25, dX7_factorBehind_27, dX7_factorBehind_28, dX7_factorBehind_31, dX7_factorBehind_32, dX7_factorBehind_34, dX7_factorBehind_35, dX7_factorBehind_36, dX7_factorBehind_37, dX7_factorBehind_40, dX7_factorBehind_42, dX7_factorBehind_43, fT_7_9, dX7_factorBehind_46, dX7_factorBehind_48, dX7_factorBehind_50, dX7_factorBehind_51, dX7_factorBehind_52, dX7_factorBehind_53, dX7_factorBehind_54, dX7_factorBehind_55, dX7_factorBehind_57, dX7_factorBehind_60, dX7_factorBehind_63, dX7_factorBehind_65]
  simp (disch := omega) only [li, nI_add, nI_clamp, nI_ltI, nI_leI, nI_eq, inx_iff, a31, nI_1shl', nI_shr', div_bit, tb1, tb0, fa_or, fa_and, nI_not, pk_sub, nI_dec, p1]
  exact ⟨by omega, loop (np + 1) 0 (by omega) (by omega)⟩
set_option maxHeartbeats 4000000 in
set_option maxRecDepth 100000 in
theorem c7_addAhead (l : Launch) (X : Cx) (d : Nat) (sh : Nat → Option Sh) (mI : Nat → Nat → Int32) (mL : Nat → Nat → Int64) (mR : Nat → Nat → Option Nat) (n : Nat) (T : Nat) (hO : OL sh mR T 7 ob7) (np : Nat) (h1 : mI T 6 = nI np) (h2 : np ≤ 10) (u p : Nat) (hu : u < 1024) (hp : p < np) (w : Int64) : Cn l X yX7_addAhead cX7_addAhead 6 none d [.ref T, .int (nI u), .int (nI p), .long w] (sh, mI, mL, mR, n) (fun r M' => r = none ∧ ∃ mL', M' = (sh, mI, mL', mR, n) ∧ (∀ a k, a ≠ T + 5 → mL' a k = mL a k) ∧ ∀ o q, o < np → q < np → mL' (T + 5) (10 * o + q) = if q = p ∧ u.testBit o = true then mL (T + 5) (10 * o + q) + w else mL (T + 5) (10 * o + q)) 0 0 := by
  refine Cn.run 7 false (by decide) rfl (by decide) (by simp [entA, Value.category]) ?_
  intro P G hP hG
  have q0 := hO.1
  have q_ahead := hO.2.2 (5, 5, .long, 100) (by decide)
  dsimp only at q_ahead
  have hSl := hO.2.1
  have xA : T + 5 < 1000000000 := by omega
  have loop : ∀ f i mL1, np - i < f → i ≤ np → (∀ a k, a ≠ T + 5 → mL1 a k = mL a k) → (∀ o q, o < np → q < np → mL1 (T + 5) (10 * o + q) = if o < i ∧ q = p ∧ u.testBit o = true then mL (T + 5) (10 * o + q) + w else mL (T + 5) (10 * o + q)) → G 3 [some (.ref T), some (.int (nI u)), some (.int (nI p)), some (.long w), none, some (.int (nI i))] [] (sh, mI, mL1, mR, n) := by
    intro f
    induction f with
    | zero => intro i mL1 h; omega
    | succ f ih =>
      intro i mL1 hf hi g1 g2
      have nx := ih (i + 1)
      refine hG.run [3, 27, 43] 60 ?_
      simp [wp, stepI, ln, jmp, cmpI, Value.category, rd, tyF, va_rf, st1, st2, clr, isLg, CB, inx_0, inx_1, inx_2, inx_3, inx_4, inx_5, bI_0, bI_1, bI_ok, fin3, tyX7, entL, q0, lg_cmp0, dX7_addAhead_0, dX7_addAhead_1, dX7_addAhead_3, dX7_addAhead_5, dX7_addAhead_6, fT_7_50, dX7_addAhead_9, dX7_addAhead_12, dX7_addAhead_13, dX7_addAhead_14, dX7_addAhead_15, dX7_addAhead_18, dX7_addAhead_19, dX7_addAhead_21, dX7_addAhead_22, dX7_addAhead_23, dX7_addAhead_24, dX7_addAhead_27, dX7_addAhead_28, fT_7_25, dX7_addAhead_31, dX7_addAhead_33, dX7_addAhead_35, dX7_addAhead_36, dX7_addAhead_37, dX7_addAhead_38, dX7_addAhead_39, dX7_addAhead_40, dX7_addAhead_41, dX7_addAhead_42, dX7_addAhead_43, dX7_addAhead_46, dX7_addAhead_49]
      simp (disch := omega) only [li, nI_add, nI_clamp, nI_ltI, nI_leI, nI_eq, inx_iff, a31, nI_1shl', nI_shr', div_bit, tb1, tb0, fa_or, fa_and, nI_not, pk_sub, nI_dec, h1]
      refine ⟨fun z => hP _ _ ⟨rfl, mL1, rfl, g1, fun o q ho hq => ?_⟩, fun z => ⟨fun z2 => hP _ _ ⟨rfl, mL1, rfl, g1, fun o q ho hq => ?_⟩, fun z2 => ⟨fun z3 => ?_, fun z3 => ?_⟩⟩⟩
      · rw [g2 o q ho hq]
        by_cases e : q = p ∧ u.testBit o = true
        · rw [if_pos ⟨by omega, e⟩, if_pos e]
        · rw [if_neg (fun y => e y.2), if_neg e]
      · rw [g2 o q ho hq, z2, Int64.add_zero]
        split <;> split <;> rfl
      · refine hG.run [3] 60 ?_
        simp [wp, stepI, ln, jmp, cmpI, Value.category, rd, tyF, va_rf, st1, st2, clr, isLg, CB, inx_0, inx_1, inx_2, inx_3, inx_4, inx_5, bI_0, bI_1, bI_ok, fin3, tyX7, entL, q0, dX7_addAhead_0, dX7_addAhead_1, dX7_addAhead_3, dX7_addAhead_5, dX7_addAhead_6, fT_7_50, dX7_addAhead_9, dX7_addAhead_12, dX7_addAhead_13, dX7_addAhead_14, dX7_addAhead_15, dX7_addAhead_18, dX7_addAhead_19, dX7_addAhead_21, dX7_addAhead_22, dX7_addAhead_23, dX7_addAhead_24, dX7_addAhead_27, dX7_addAhead_28, fT_7_25, dX7_addAhead_31, dX7_addAhead_33, dX7_addAhead_35, dX7_addAhead_36, dX7_addAhead_37, dX7_addAhead_38, dX7_addAhead_39, dX7_addAhead_40, dX7_addAhead_41, dX7_addAhead_42, dX7_addAhead_43, dX7_addAhead_46, dX7_addAhead_49]
        simp (disch := omega) only [li, nI_add, nI_clamp, nI_ltI, nI_leI, nI_eq, inx_iff, a31, nI_1shl', nI_shr', div_bit, tb1, tb0, fa_or, fa_and, nI_not, pk_sub, nI_dec]
        refine nx mL1 (by omega) (by omega) g1 (fun o q ho hq => ?_)
        rw [g2 o q ho hq]
        by_cases e : o < i ∧ q = p ∧ u.testBit o = true
        · rw [if_pos e, if_pos ⟨by omega, e.2⟩]
        · rw [if_neg e, if_neg (fun y => e ⟨(by
            rcases Nat.lt_or_ge o i with x | x
            · exact x
            · have w := y.2.2
              rw [show o = i by omega, z3] at w
              cases w), y.2⟩)]
      · refine hG.run [3] 60 ?_
        simp [wp, stepI, ln, jmp, cmpI, Value.category, rd, tyF, va_rf, st1, st2, clr, isLg, CB, inx_0, inx_1, inx_2, inx_3, inx_4, inx_5, bI_0, bI_1, bI_ok, fin3, tyX7, entL, q0, q_ahead, xA, dX7_addAhead_0, dX7_addAhead_1, dX7_addAhead_3, dX7_addAhead_5, dX7_addAhead_6, fT_7_50, dX7_addAhead_9, dX7_addAhead_12, dX7_addAhead_13, dX7_addAhead_14, dX7_addAhead_15, dX7_addAhead_18, dX7_addAhead_19, dX7_addAhead_21, dX7_addAhead_22, dX7_addAhead_23, dX7_addAhead_24, dX7_addAhead_27, dX7_addAhead_28, fT_7_25, dX7_addAhead_31, dX7_addAhead_33, dX7_addAhead_35, dX7_addAhead_36, dX7_addAhead_37, dX7_addAhead_38, dX7_addAhead_39, dX7_addAhead_40, dX7_addAhead_41, dX7_addAhead_42, dX7_addAhead_43, dX7_addAhead_46, dX7_addAhead_49]
        simp (disch := omega) only [li, nI_add, nI_clamp, nI_ltI, nI_leI, nI_eq, inx_iff, a31, nI_1shl', nI_shr', div_bit, tb1, tb0, fa_or, fa_and, nI_not, pk_sub, nI_dec, nI_mul]
        refine ⟨by omega, nx _ (by omega) (by omega) (fun a k ha => by rw [up2_ne (fun y => ha y.1)]; exact g1 a k ha) (fun o q ho hq => ?_)⟩
        have x1 := g2 i p z hp
        rw [if_neg (fun y => by omega)] at x1
        by_cases e : o = i ∧ q = p
        · rw [e.1, e.2, Nat.mul_comm 10, up2_eq, if_pos ⟨by omega, rfl, by simpa using z3⟩, Nat.mul_comm i 10, x1]
        · rw [up2_ne (fun y => e (by omega)), g2 o q ho hq]
          by_cases e2 : o < i ∧ q = p ∧ u.testBit o = true
          · rw [if_pos e2, if_pos ⟨by omega, e2.2⟩]
          · rw [if_neg e2, if_neg (fun y => e2 ⟨(by
              rcases Nat.lt_or_ge o i with x | x
              · exact x
              · exact absurd ⟨by omega, y.2.1⟩ e), y.2⟩)]
  refine hG.run [3] 60 ?_
  simp [wp, stepI, ln, jmp, cmpI, Value.category, rd, tyF, va_rf, st1, st2, clr, isLg, CB, inx_0, inx_1, inx_2, inx_3, inx_4, inx_5, bI_0, bI_1, bI_ok, fin3, tyX7, entL, q0, dX7_addAhead_0, dX7_addAhead_1, dX7_addAhead_3, dX7_addAhead_5, dX7_addAhead_6, fT_7_50, dX7_addAhead_9, dX7_addAhead_12, dX7_addAhead_13, dX7_addAhead_14, dX7_addAhead_15, dX7_addAhead_18, dX7_addAhead_19, dX7_addAhead_21, dX7_addAhead_22, dX7_addAhead_23, dX7_addAhead_24, dX7_addAhead_27, dX7_addAhead_28, fT_7_25, dX7_addAhead_31, dX7_addAhead_33, dX7_addAhead_35, dX7_addAhead_36, dX7_addAhead_37, dX7_addAhead_38, dX7_addAhead_39, dX7_addAhead_40, dX7_addAhead_41, dX7_addAhead_42, dX7_addAhead_43, dX7_addAhead_46, dX7_addAhead_49]
  exact loop (np + 1) 0 mL (by omega) (by omega) (fun _ _ _ => rfl) (fun o q _ _ => by rw [if_neg (fun y => by omega)])
set_option maxHeartbeats 4000000 in
set_option maxRecDepth 100000 in
theorem c7_all (l : Launch) (X : Cx) (d : Nat) (sh : Nat → Option Sh) (mI : Nat → Nat → Int32) (mL : Nat → Nat → Int64) (mR : Nat → Nat → Option Nat) (n : Nat) (T : Nat) (hO : OL sh mR T 7 ob7) (np : Nat) (h1 : mI T 7 = nI (2 ^ np - 1)) (h2 : np ≤ 10) (v : Int64) (hv : mL (T + 3) (2 ^ np - 1) = v) : Cn l X yX7_all cX7_all 1 (some .long) d [.ref T] (sh, mI, mL, mR, n) (fun r M' => M' = (sh, mI, mL, mR, n) ∧ r = some (.long v)) 0 0 := by
  refine Cn.run 7 false (by decide) rfl (by decide) (by simp [entA, Value.category]) ?_
  intro P G hP hG
  have q0 := hO.1
  have q_front := hO.2.2 (3, 3, .long, 1024) (by decide)
  dsimp only at q_front
  have hpw := p2_10 h2
  refine hG.run [] 60 ?_
  simp [wp, stepI, ln, jmp, cmpI, Value.category, rd, tyF, va_rf, st1, st2, clr, isLg, CB, inx_0, inx_1, inx_2, inx_3, inx_4, inx_5, bI_0, bI_1, bI_ok, fin3, tyX7, entL, q0, q_front, dX7_all_0, dX7_all_1, fT_7_19, dX7_all_4, dX7_all_5, fT_7_55, dX7_all_8, dX7_all_9]
  simp (disch := omega) only [li, nI_add, nI_clamp, nI_ltI, nI_leI, nI_eq, inx_iff, a31, nI_1shl', nI_shr', div_bit, tb1, tb0, fa_or, fa_and, nI_not, pk_sub, nI_dec, h1, hv]
  exact ⟨by omega, hP _ _ ⟨rfl, rfl⟩⟩
set_option maxHeartbeats 4000000 in
set_option maxRecDepth 100000 in
theorem c7_aheadOf (l : Launch) (X : Cx) (d : Nat) (sh : Nat → Option Sh) (mI : Nat → Nat → Int32) (mL : Nat → Nat → Int64) (mR : Nat → Nat → Option Nat) (n : Nat) (T : Nat) (hO : OL sh mR T 7 ob7) (a b : Nat) (ha : a < 10) (hb : b < 10) : Cn l X yX7_aheadOf cX7_aheadOf 3 (some .long) d [.ref T, .int (nI a), .int (nI b)] (sh, mI, mL, mR, n) (fun r M' => M' = (sh, mI, mL, mR, n) ∧ r = some (.long (mL (T + 5) (10 * a + b)))) 0 0 := by
  refine Cn.run 7 false (by decide) rfl (by decide) (by simp [entA, Value.category]) ?_
  intro P G hP hG
  have q0 := hO.1
  have q_ahead := hO.2.2 (5, 5, .long, 100) (by decide)
  dsimp only at q_ahead
  refine hG.run [] 60 ?_
  simp [wp, stepI, ln, jmp, cmpI, Value.category, rd, tyF, va_rf, st1, st2, clr, isLg, CB, inx_0, inx_1, inx_2, inx_3, inx_4, inx_5, bI_0, bI_1, bI_ok, fin3, tyX7, entL, q0, q_ahead, dX7_aheadOf_0, dX7_aheadOf_1, fT_7_25, dX7_aheadOf_4, dX7_aheadOf_5, dX7_aheadOf_7, dX7_aheadOf_8, dX7_aheadOf_9, dX7_aheadOf_10, dX7_aheadOf_11]
  simp (disch := omega) only [li, nI_add, nI_clamp, nI_ltI, nI_leI, nI_eq, inx_iff, a31, nI_1shl', nI_shr', div_bit, tb1, tb0, fa_or, fa_and, nI_not, pk_sub, nI_dec, nI_mul]
  rw [Nat.mul_comm 10] at hP
  exact ⟨by omega, hP _ _ ⟨rfl, rfl⟩⟩
set_option maxHeartbeats 4000000 in
set_option maxRecDepth 100000 in
theorem c7_forget (l : Launch) (X : Cx) (d : Nat) (sh : Nat → Option Sh) (mI : Nat → Nat → Int32) (mL : Nat → Nat → Int64) (mR : Nat → Nat → Option Nat) (n : Nat) (T : Nat) (hO : OL sh mR T 7 ob7) : Cn l X yX7_forget cX7_forget 1 none d [.ref T] (sh, mI, mL, mR, n) (fun r M' => r = none ∧ M' = (sh, up2 (up2 mI T 8 0) T 9 0, mL, mR, n)) 0 0 := by
  refine Cn.run 7 false (by decide) rfl (by decide) (by simp [entA, Value.category]) ?_
  intro P G hP hG
  have q0 := hO.1
  have hSl := hO.2.1
  have xT : T < 1000000000 := by omega
  refine hG.run [] 60 ?_
  simp [wp, stepI, ln, jmp, cmpI, Value.category, rd, tyF, va_rf, st1, st2, clr, isLg, CB, inx_0, inx_1, inx_2, inx_3, inx_4, inx_5, bI_0, bI_1, bI_ok, fin3, tyX7, entL, q0, okv, wr, finF, clT, TX7, xT, dX7_forget_0, dX7_forget_1, dX7_forget_2, fT_7_32, dX7_forget_5, dX7_forget_6, dX7_forget_7, fT_7_35, dX7_forget_10]
  exact hP _ _ ⟨rfl, rfl⟩
