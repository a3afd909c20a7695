/-! the start -/
def zA : DD := fun _ _ => 0
theorem rv_n : rV11.1 = 129 := by decide +kernel
theorem rv12_n : rV12.1 = 42 := by decide +kernel
theorem zA_V : AsV zA := ⟨⟨Nat.zero_le _, Nat.zero_le _, Nat.zero_le _, Nat.zero_le _, Nat.zero_le _⟩, fun p hp => absurd hp (Nat.not_lt_zero _), fun _ _ => Nat.zero_le _, fun k hk => absurd hk (Nat.not_lt_zero _), fun _ _ => Nat.zero_le _, fun i hi => absurd hi (Nat.not_lt_zero _), fun p hp => absurd hp (Nat.not_lt_zero _), fun p q hp => absurd hp (Nat.not_lt_zero _)⟩
theorem ini_BL {M : Mm} {sh : Nat → Option Sh} {mI : Nat → Nat → Int32} {mL : Nat → Nat → Int64} {mR : Nat → Nat → Option Nat} {n : Nat} (H : Kt M 0 rV11 (sh, mI, mL, mR, n)) : BL sh mR := by
  have s : ∀ o, o < 129 → sh o = some (rV11.2.1 o) := fun o ho => by have := (H.2.2.2 o (by rw [rv_n]; exact ho)).1; rwa [Nat.zero_add] at this
  have r : ∀ o k, o < 129 → mR o k = (rV11.2.2.2 o k).map (fun j => 0 + j) := fun o k ho => by have := ((H.2.2.2 o (by rw [rv_n]; exact ho)).2 k).2.2; rwa [Nat.zero_add] at this
  refine ⟨s 0 (by decide), ⟨r 0 0 (by decide), s 1 (by decide)⟩, ⟨r 0 2 (by decide), s 2 (by decide), by decide, r 2 0 (by decide), r 2 1 (by decide), ⟨r 2 2 (by decide), s 17 (by decide)⟩, ⟨r 2 3 (by decide), s 18 (by decide)⟩, ⟨r 2 4 (by decide), s 19 (by decide)⟩, ?_, s 15 (by decide)⟩, ⟨r 0 3 (by decide), ?_⟩, ⟨r 0 4 (by decide), s 32 (by decide), fun m hm => ?_⟩, ⟨r 0 5 (by decide), ?_⟩, ⟨r 0 6 (by decide), ?_⟩, ⟨r 0 7 (by decide), ?_⟩, ⟨r 0 8 (by decide), ?_⟩, ⟨r 0 9 (by decide), ?_⟩, ⟨r 0 10 (by decide), ?_⟩, ⟨r 0 11 (by decide), ?_, r 63 0 (by decide), r 63 1 (by decide), ?_, ?_⟩⟩
  · exact (H.ol (o := 3) (by decide +kernel) rfl (by decide) (by
      intro x hx
      simp only [ob6, List.mem_cons, List.not_mem_nil, or_false] at hx
      rcases hx with rfl | rfl | rfl | rfl | rfl <;> exact ⟨rfl, by decide +kernel, rfl⟩))
  · exact (H.ol (o := 20) (by decide +kernel) rfl (by decide) (by
      intro x hx
      simp only [ob6, List.mem_cons, List.not_mem_nil, or_false] at hx
      rcases hx with rfl | rfl | rfl | rfl | rfl <;> exact ⟨rfl, by decide +kernel, rfl⟩))
  · have hc : m = 0 ∨ m = 1 ∨ m = 2 ∨ m = 3 := by omega
    rcases hc with rfl | rfl | rfl | rfl
    · exact ⟨r 32 0 (by decide), (H.ol (o := 81) (by decide +kernel) rfl (by decide) (by
        intro x hx
        simp only [ob6, List.mem_cons, List.not_mem_nil, or_false] at hx
        rcases hx with rfl | rfl | rfl | rfl | rfl <;> exact ⟨rfl, by decide +kernel, rfl⟩))⟩
    · exact ⟨r 32 1 (by decide), (H.ol (o := 93) (by decide +kernel) rfl (by decide) (by
        intro x hx
        simp only [ob6, List.mem_cons, List.not_mem_nil, or_false] at hx
        rcases hx with rfl | rfl | rfl | rfl | rfl <;> exact ⟨rfl, by decide +kernel, rfl⟩))⟩
    · exact ⟨r 32 2 (by decide), (H.ol (o := 105) (by decide +kernel) rfl (by decide) (by
        intro x hx
        simp only [ob6, List.mem_cons, List.not_mem_nil, or_false] at hx
        rcases hx with rfl | rfl | rfl | rfl | rfl <;> exact ⟨rfl, by decide +kernel, rfl⟩))⟩
    · exact ⟨r 32 3 (by decide), (H.ol (o := 117) (by decide +kernel) rfl (by decide) (by
        intro x hx
        simp only [ob6, List.mem_cons, List.not_mem_nil, or_false] at hx
        rcases hx with rfl | rfl | rfl | rfl | rfl <;> exact ⟨rfl, by decide +kernel, rfl⟩))⟩
  · exact (H.ol (o := 33) (by decide +kernel) rfl (by decide) (by
      intro x hx
      simp only [ob2, List.mem_cons, List.not_mem_nil, or_false] at hx
      rcases hx with rfl | rfl | rfl <;> exact ⟨rfl, by decide +kernel, rfl⟩))
  · exact (H.ol (o := 37) (by decide +kernel) rfl (by decide) (by
      intro x hx
      simp only [ob7, List.mem_cons, List.not_mem_nil, or_false] at hx
      rcases hx with rfl | rfl | rfl | rfl | rfl <;> exact ⟨rfl, by decide +kernel, rfl⟩))
  · exact (H.ol (o := 43) (by decide +kernel) rfl (by decide) (by
      intro x hx
      simp only [ob7, List.mem_cons, List.not_mem_nil, or_false] at hx
      rcases hx with rfl | rfl | rfl | rfl | rfl <;> exact ⟨rfl, by decide +kernel, rfl⟩))
  · exact (H.ol (o := 49) (by decide +kernel) rfl (by decide) (by
      intro x hx
      simp only [ob1, List.mem_cons, List.not_mem_nil, or_false] at hx
      rcases hx with rfl | rfl | rfl | rfl <;> exact ⟨rfl, by decide +kernel, rfl⟩))
  · exact (H.ol (o := 54) (by decide +kernel) rfl (by decide) (by
      intro x hx
      simp only [ob0, List.mem_cons, List.not_mem_nil, or_false] at hx
      rcases hx with rfl | rfl | rfl <;> exact ⟨rfl, by decide +kernel, rfl⟩))
  · exact (H.ol (o := 58) (by decide +kernel) rfl (by decide) (by
      intro x hx
      simp only [ob9, List.mem_cons, List.not_mem_nil, or_false] at hx
      rcases hx with rfl | rfl | rfl | rfl <;> exact ⟨rfl, by decide +kernel, rfl⟩))
  · exact (H.ol (o := 63) (by decide +kernel) rfl (by decide) (by
      intro x hx
      simp only [ob5, List.mem_cons, List.not_mem_nil, or_false] at hx
      rcases hx with rfl <;> exact ⟨rfl, by decide +kernel, rfl⟩))
  · exact (H.ol (o := 64) (by decide +kernel) rfl (by decide) (by
      intro x hx
      simp only [ob6, List.mem_cons, List.not_mem_nil, or_false] at hx
      rcases hx with rfl | rfl | rfl | rfl | rfl <;> exact ⟨rfl, by decide +kernel, rfl⟩))
  · exact (H.ol (o := 76) (by decide +kernel) rfl (by decide) (by
      intro x hx
      simp only [ob2, List.mem_cons, List.not_mem_nil, or_false] at hx
      rcases hx with rfl | rfl | rfl <;> exact ⟨rfl, by decide +kernel, rfl⟩))
theorem ini_CI {M : Mm} {sh sh' : Nat → Option Sh} {mI mI' : Nat → Nat → Int32} {mL mL' : Nat → Nat → Int64} {mR mR' : Nat → Nat → Option Nat} {n n' : Nat} (H : Kt M 0 rV11 (sh, mI, mL, mR, n)) (hn : 172 ≤ n') (hs : ∀ a, a < 129 → sh' a = sh a) (hi : ∀ a k, a < 129 → mI' a k = mI a k) (hr : ∀ a k, a < 129 → mR' a k = mR a k) : CI sh' mI' mL' mR' n' zA (fun _ => zA) (fun _ => 0) (fun _ => 0, 0) := by
  have B : BL sh' mR' := (ini_BL H).fr hs ((ini_BL H).2.2.1.2.fr hs (fun a k _ h => hr a k (by omega))) (fun a k h _ _ => hr a k h)
  have s : ∀ o, o < 129 → sh' o = some (rV11.2.1 o) := fun o ho => (hs o ho).trans (by have := (H.2.2.2 o (by rw [rv_n]; exact ho)).1; rwa [Nat.zero_add] at this)
  have r : ∀ o k, o < 129 → mR' o k = (rV11.2.2.2 o k).map (fun j => 0 + j) := fun o k ho => (hr o k ho).trans (by have := ((H.2.2.2 o (by rw [rv_n]; exact ho)).2 k).2.2; rwa [Nat.zero_add] at this)
  have v : ∀ o k, o < 129 → mI' o k = rV11.2.2.1 o k := fun o k ho => (hi o k ho).trans (by have := ((H.2.2.2 o (by rw [rv_n]; exact ho)).2 k).1; rwa [Nat.zero_add] at this)
  have O4 : OL sh' mR' 21 4 ob4 := OL.fr (sh := sh) (mR := mR) (H.ol (o := 21) (by decide +kernel) rfl (by decide) (by
    intro x hx
    simp only [ob4, List.mem_cons, List.not_mem_nil, or_false] at hx
    rcases hx with rfl | rfl | rfl | rfl <;> exact ⟨rfl, by decide +kernel, rfl⟩)) 4 (by decide) (fun a h1 h2 => hs a (by omega)) (fun x hx => hr _ _ (by decide))
  have LK : ∀ i, i < 100 → mI' 25 i = nI 0 := fun i hi => (v 25 i (by decide)).trans ((by decide +kernel : ∀ i, i < 100 → rV11.2.2.1 25 i = nI 0) i hi)
  refine ⟨B, hn, zA_V, ⟨21, r 20 0 (by decide), ⟨O4, Or.inl ⟨rfl, r 21 7 (by decide)⟩, by omega, ⟨v 21 4 (by decide), v 21 5 (by decide), v 21 6 (by decide)⟩, fun p hp => absurd hp (Nat.not_lt_zero _), fun k hk => absurd hk (Nat.not_lt_zero _), LK, 26, [-nI 1], r 21 7 (by decide), s 26 (by decide), by decide, by decide, by omega, fun i hi => ?_, Or.inl ⟨rfl, rfl⟩⟩, v 20 4 (by decide), fun k hk => absurd hk (Nat.not_lt_zero _), fun p hp => absurd hp (Nat.not_lt_zero _)⟩, ⟨⟨⟨fun _ => 0, fun p hp => ⟨(v 35 p (by decide)).trans ((by decide +kernel : ∀ p, p < 10 → rV11.2.2.1 35 p = nI 0) p hp), by show 0 < 1024; decide⟩⟩, Or.inl (v 33 5 (by decide))⟩, ⟨v 37 0 (by decide), Or.inl (v 37 8 (by decide))⟩, ⟨v 43 0 (by decide), Or.inl (v 43 8 (by decide))⟩, Or.inl (v 49 6 (by decide)), Or.inl (v 58 5 (by decide))⟩, fun m hm => ?_, ⟨v 0 1 (by decide), Nat.zero_le _, fun k hk => absurd hk (Nat.not_lt_zero _)⟩, fun p hp => ⟨(v 13 p (by decide)).trans ((by decide +kernel : ∀ p, p < 10 → rV11.2.2.1 13 p = -nI 1) p hp), (v 14 p (by decide)).trans ((by decide +kernel : ∀ p, p < 10 → rV11.2.2.1 14 p = -nI 1) p hp)⟩⟩
  · have : i = 0 := by
      have : i < 1 := hi
      omega
    subst this
    exact v 26 0 (by decide)
  · have hc : m = 0 ∨ m = 1 ∨ m = 2 ∨ m = 3 := by omega
    rcases hc with rfl | rfl | rfl | rfl
    · exact ⟨v 81 7 (by decide), ⟨82, r 81 0 (by decide)⟩, fun z => by cases z⟩
    · exact ⟨v 93 7 (by decide), ⟨94, r 93 0 (by decide)⟩, fun z => by cases z⟩
    · exact ⟨v 105 7 (by decide), ⟨106, r 105 0 (by decide)⟩, fun z => by cases z⟩
    · exact ⟨v 117 7 (by decide), ⟨118, r 117 0 (by decide)⟩, fun z => by cases z⟩
theorem rmA_z {V : RM} {f : Nat} {ty : FieldType} {N : Nat} (h : ∀ o k, V.2.2.1 o k = 0) : ∀ o k, (rmA V f ty N).2.2.1 o k = 0 := fun o k => by
  show (if o = V.1 then 0 else V.2.2.1 o k) = 0
  split
  · rfl
  · exact h o k
theorem rv12_z : ∀ o k, rV12.2.2.1 o k = 0 := by
  unfold rV12
  repeat refine rmA_z ?_
  exact fun _ _ => rfl
theorem rv12_m : ∀ x ∈ mlT, (rV12.2.2.2 0 x.1).map (fun j => 129 + j) = some x.2.1 ∧ x.2.1 - 129 < 42 ∧ rV12.2.1 (x.2.1 - 129) = .inr (x.2.2.1, x.2.2.2) := by decide +kernel
theorem ini_ML {M : Mm} {sh sh' : Nat → Option Sh} {mI mI' : Nat → Nat → Int32} {mL : Nat → Nat → Int64} {mR mR' : Nat → Nat → Option Nat} {n : Nat} (H : Kt M 129 rV12 (sh, mI, mL, mR, n)) (hs : ∀ a, a < 171 → sh' a = sh a) (hi : ∀ a k, a < 171 → mI' a k = mI a k) (hr : ∀ a k, a < 171 → mR' a k = mR a k) : ML sh' mR' ∧ MI2 mI' zA (fun _ => zA) (fun _ => 0) (fun _ => 0, 0) := by
  have s : ∀ o, o < 42 → sh' (129 + o) = some (rV12.2.1 o) := fun o ho => (hs _ (by omega)).trans (H.2.2.2 o (by rw [rv12_n]; exact ho)).1
  have r : ∀ k, mR' 129 k = (rV12.2.2.2 0 k).map (fun j => 129 + j) := fun k => (hr _ _ (by decide)).trans ((H.2.2.2 0 (by rw [rv12_n]; decide)).2 k).2.2
  have v : ∀ a k, 129 ≤ a → a < 171 → mI' a k = nI 0 := fun a k h1 h2 => by
    have := ((H.2.2.2 (a - 129) (by rw [rv12_n]; omega)).2 k).1
    rw [show 129 + (a - 129) = a by omega, rv12_z] at this
    exact (hi a k h2).trans this
  refine ⟨⟨s 0 (by decide), fun x hx => ?_⟩, ⟨⟨v _ _ (by decide) (by decide), v _ _ (by decide) (by decide), v _ _ (by decide) (by decide)⟩, fun p hp => absurd hp (Nat.not_lt_zero _), fun k _ => v _ _ (by decide) (by decide), fun i _ => v _ _ (by decide) (by decide), ⟨v _ _ (by decide) (by decide), v _ _ (by decide) (by decide)⟩, fun i hi => absurd hi (Nat.not_lt_zero _)⟩, ⟨v _ _ (by decide) (by decide), fun k hk => absurd hk (Nat.not_lt_zero _), fun p hp => absurd hp (Nat.not_lt_zero _)⟩, fun m hm => ⟨v _ _ (by decide) (by decide), Nat.zero_le _, fun z => by cases z⟩, ⟨v _ _ (by decide) (by decide), Nat.zero_le _, fun k hk => absurd hk (Nat.not_lt_zero _)⟩, fun _ => 0, fun k hk => ⟨v _ _ (by decide) (by decide), Nat.zero_le _⟩⟩
  obtain ⟨e1, e2, e3⟩ := rv12_m x hx
  have hx2 := mlT_c x hx
  refine ⟨(r _).trans e1, ?_⟩
  have := s (x.2.1 - 129) e2
  rwa [show 129 + (x.2.1 - 129) = x.2.1 by omega, e3] at this
set_option maxHeartbeats 1600000 in
set_option maxRecDepth 100000 in
theorem lw_pre (l : Launch) (X : Cx) (N : Nat) (xs : Nat → Int32) (P : Option Value → Mm → Prop) (G : Nat → Nat → Nat → List (Option Value) → List Value → Mm → Prop) (hG : GL l X N xs P G) (sh : Nat → Option Sh) (mI : Nat → Nat → Int32) (mL : Nat → Nat → Int64) (mR : Nat → Nat → Option Nat) (nx : ∀ M', JJ M' → G 172 39693 23 (lL 0 none none) [] M') : G 0 0 0 [some (.ref 1000000022), none, none, none, none, none, none] [] (sh, mI, mL, mR, 0) := by
  obtain ⟨hGa, hWd, hbd, hfx, hcl⟩ := hG
  unfold lL at nx
  refine hGa.new dL_law_0 (ci := 11) rfl (by decide) wk_13_8 wn_11 wi_11 (by show 0 < CB; decide) ?_
  have N0 := Kt.new (sh, mI, mL, mR, 0) 11
  have w0 : mkM (sh, mI, mL, mR, 0) (.inl 11) = (upS sh 0 (.inl 11), up0 mI 0 0, up0 mL 0 0, up0 mR 0 none, 0 + 1) := rfl
  rw [w0] at N0 ⊢
  generalize upS sh 0 (.inl 11) = sa at N0 ⊢
  generalize up0 mI 0 0 = sb at N0 ⊢
  generalize up0 mL 0 0 = sc at N0 ⊢
  generalize up0 mR 0 none = sd at N0 ⊢
  refine hGa.run [4] 60 ?_
  simp [wp, stepI, ln, jmp, cmpI, Value.category, rd, tyF, va_rf, st1, st2, clr, isLg, CB, inx_0, inx_1, inx_2, inx_3, inx_4, inx_5, bI_0, bI_1, bI_ok, fin3, dL_law_3, dL_law_4]
  refine hGa.callI dL_law_4 mi_13_15 [] [.ref 0] (c11_init l X 2000 sa sb sc sd (0 + 1) 0 N0.self (by decide) (by decide)) (by decide) rfl (by decide) (by simp [Value.category]) rfl ?_
  rintro r M' ⟨rfl, K1⟩
  obtain ⟨sh1, mI1, mL1, mR1, n1⟩ := M'
  have hn1 : n1 = 129 := by have := K1.1; rw [rv_n] at this; exact this
  subst hn1
  refine hGa.run [8] 60 ?_
  simp [wp, stepI, ln, jmp, cmpI, Value.category, rd, tyF, va_rf, st1, st2, clr, isLg, CB, inx_0, inx_1, inx_2, inx_3, inx_4, inx_5, bI_0, bI_1, bI_ok, fin3, dL_law_7, dL_law_8]
  refine hGa.new dL_law_8 (ci := 12) rfl (by decide) wk_13_16 wn_12 wi_12 (by show 129 < CB; decide) ?_
  have N1 := Kt.new (sh1, mI1, mL1, mR1, 129) 12
  have w1 : mkM (sh1, mI1, mL1, mR1, 129) (.inl 12) = (upS sh1 129 (.inl 12), up0 mI1 129 0, up0 mL1 129 0, up0 mR1 129 none, 129 + 1) := rfl
  rw [w1] at N1 ⊢
  have f1 : ∀ a, a < 129 → upS sh1 129 (.inl 12) a = sh1 a := fun a h => if_neg (by omega)
  have f2 : ∀ a k, a < 129 → up0 mI1 129 0 a k = mI1 a k := fun a k h => if_neg (by omega)
  have f3 : ∀ a k, a < 129 → up0 mR1 129 none a k = mR1 a k := fun a k h => if_neg (by omega)
  generalize upS sh1 129 (.inl 12) = sa1 at N1 f1 ⊢
  generalize up0 mI1 129 0 = sb1 at N1 f2 ⊢
  generalize up0 mL1 129 0 = sc1 at N1 ⊢
  generalize up0 mR1 129 none = sd1 at N1 f3 ⊢
  refine hGa.run [12] 60 ?_
  simp [wp, stepI, ln, jmp, cmpI, Value.category, rd, tyF, va_rf, st1, st2, clr, isLg, CB, inx_0, inx_1, inx_2, inx_3, inx_4, inx_5, bI_0, bI_1, bI_ok, fin3, dL_law_11, dL_law_12]
  refine hGa.callI dL_law_12 mi_13_18 [] [.ref 129] (c12_init l X 2000 sa1 sb1 sc1 sd1 (129 + 1) 129 N1.self (by decide) (by decide)) (by decide) rfl (by decide) (by simp [Value.category]) rfl ?_
  rintro r M' ⟨rfl, K2⟩
  obtain ⟨sh2, mI2, mL2, mR2, n2⟩ := M'
  have hn2 : n2 = 171 := by have := K2.1; rw [rv12_n] at this; exact this
  subst hn2
  refine hGa.run [17] 60 ?_
  simp [wp, stepI, ln, jmp, cmpI, Value.category, rd, tyF, va_rf, st1, st2, clr, isLg, CB, inx_0, inx_1, inx_2, inx_3, inx_4, inx_5, bI_0, bI_1, bI_ok, fin3, dL_law_15, dL_law_16, dL_law_17]
  refine hGa.newa (ty := .long) (N := 1) dL_law_17 rfl (Or.inr (Or.inl rfl)) wa_long (by decide) rfl (by decide) (by show 171 < CB; decide) ?_
  have w2 : mkM (sh2, mI2, mL2, mR2, 171) (.inr (.long, 1)) = (upS sh2 171 (.inr (.long, 1)), up0 mI2 171 0, up0 mL2 171 0, up0 mR2 171 none, 171 + 1) := rfl
  rw [w2]
  have g1 : ∀ a, a < 171 → upS sh2 171 (.inr (.long, 1)) a = sh2 a := fun a h => if_neg (by omega)
  have g0 : upS sh2 171 (.inr (.long, 1)) 171 = some (.inr (.long, 1)) := if_pos rfl
  have g2 : ∀ a k, a < 171 → up0 mI2 171 0 a k = mI2 a k := fun a k h => if_neg (by omega)
  have g3 : ∀ a k, a < 171 → up0 mR2 171 none a k = mR2 a k := fun a k h => if_neg (by omega)
  generalize upS sh2 171 (.inr (.long, 1)) = sh3 at g1 g0 ⊢
  generalize up0 mI2 171 0 = mI3 at g2 ⊢
  generalize up0 mL2 171 0 = mL3 at ⊢
  generalize up0 mR2 171 none = mR3 at g3 ⊢
  have C3 : CI sh3 mI3 mL3 mR3 172 zA (fun _ => zA) (fun _ => 0) (fun _ => 0, 0) := ini_CI K1 (Nat.le_refl _) (fun a h => (g1 a (by omega)).trans ((K2.2.1 a h).trans (f1 a h))) (fun a k h => (g2 a k (by omega)).trans ((K2.2.2.1 a k h).1.trans (f2 a k h))) (fun a k h => (g3 a k (by omega)).trans ((K2.2.2.1 a k h).2.2.trans (f3 a k h)))
  obtain ⟨L3, M3⟩ := ini_ML K2 g1 g2 g3
  have fin := nx (sh3, mI3, mL3, mR3, 172) ⟨L3, g0, zA, fun _ => zA, fun _ => 0, (fun _ => 0, 0), C3, M3⟩
  refine hGa.run [23] 60 ?_
  simp [wp, stepI, ln, jmp, cmpI, Value.category, rd, tyF, va_rf, st1, st2, clr, isLg, CB, inx_0, inx_1, inx_2, inx_3, inx_4, inx_5, bI_0, bI_1, bI_ok, fin3, dL_law_19, dL_law_20, dL_law_21]
  exact fin
