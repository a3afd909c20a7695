theorem bf_r {t : Nat → Nat} {n p : Nat} {o : Option Nat} {f : PR} {q : Nat × DD} (h : bf t n p o f = .inr q) : o = none ∧ f = .inr q := by
  cases o with
  | none => exact ⟨rfl, h⟩
  | some k => cases h
theorem nuF_n {t : Nat → Nat} {n p hi : Nat} (h : nuF t n p hi = none) : lxK t n p = 2 ∧ lxNm t n p ≤ hi := by
  unfold nuF at h
  split at h
  · split at h
    · exact ⟨by assumption, by assumption⟩
    · cases h
  · cases h
theorem rdSlip_ok {t : Nat → Nat} {n p : Nat} {D : DD} {q : Nat × DD} (hV : DrV D) (h : rdSlip t n p D = .inr q) : DrV q.2 ∧ q.1 = lxE t n (lxE t n (lxE t n p)) := by
  unfold rdSlip rdSlipB at h
  split at h
  · obtain ⟨h1, h⟩ := bf_r h
    obtain ⟨h2, h⟩ := bf_r h
    have h := Sum.inr.inj h
    subst h
    have n1 := (nuF_n h1).2
    refine ⟨?_, rfl⟩
    obtain ⟨⟨v1, v2, v3, v4, v5, v6, v7, v8⟩, b, c, e, f, g⟩ := hV
    refine ⟨⟨?_, ?_, ?_, ?_, ?_, ?_, ?_, ?_⟩, ?_, ?_, ?_, ?_, ?_⟩
    all_goals try simp (disch := omega) only [up2_eq, up2_ne]
    all_goals first | assumption | omega
  · cases h
theorem rdBench_ok {t : Nat → Nat} {n p p1 p2 p3 p4 p5 : Nat} {D : DD} {q : Nat × DD} (hV : DrV D) (h : rdBenchB t n D p p1 p2 p3 p4 p5 = .inr q) : DrV q.2 ∧ q.1 = lxE t n p5 := by
  unfold rdBenchB at h
  split at h
  · cases h
  · rename_i h0
    obtain ⟨h1, h⟩ := bf_r h
    obtain ⟨h2, h⟩ := bf_r h
    obtain ⟨h3, h⟩ := bf_r h
    obtain ⟨h4, h⟩ := bf_r h
    obtain ⟨h5, h⟩ := bf_r h
    have h := Sum.inr.inj h
    subst h
    have n1 := (nuF_n h2).2
    refine ⟨?_, rfl⟩
    obtain ⟨⟨v1, v2, v3, v4, v5, v6, v7, v8⟩, b, c, e, f, g⟩ := hV
    refine ⟨⟨?_, ?_, ?_, ?_, ?_, ?_, ?_, ?_⟩, ?_, fun k hk => ?_, ?_, ?_, ?_⟩
    all_goals try simp (disch := omega) only [up2_eq, up2_ne]
    all_goals first | assumption | omega | skip
    by_cases y : k = D 0 1
    · rw [y, up2_eq]; exact n1
    · rw [up2_ne (fun w => by omega)]; exact c k hk
theorem rdPupil_ok {t : Nat → Nat} {n p p1 p2 p3 p4 p5 : Nat} {D : DD} {q : Nat × DD} (hV : DrV D) (h : rdPupilB t n D p p1 p2 p3 p4 p5 = .inr q) : DrV q.2 ∧ q.1 = lxE t n p5 := by
  unfold rdPupilB at h
  split at h
  · cases h
  · rename_i h0
    obtain ⟨h1, h⟩ := bf_r h
    obtain ⟨h2, h⟩ := bf_r h
    obtain ⟨h3, h⟩ := bf_r h
    obtain ⟨h4, h⟩ := bf_r h
    obtain ⟨h5, h⟩ := bf_r h
    have h := Sum.inr.inj h
    subst h
    have n1 := (nuF_n h4).2
    have n2 : lxWd t n p1 < 2 ^ 63 := by
      split at h1
      · cases h1
      · rename_i hk
        exact lxWd_lt (kpN_f (by simpa using hk))
    have n3 : knN t n p2 < 5 := by
      split at h2
      · assumption
      · cases h2
    refine ⟨?_, rfl⟩
    obtain ⟨⟨v1, v2, v3, v4, v5, v6, v7, v8⟩, b, c, e, f, g⟩ := hV
    refine ⟨⟨?_, ?_, ?_, ?_, ?_, ?_, ?_, ?_⟩, fun k hk => ?_, ?_, fun k hk => ?_, ?_, ?_⟩
    all_goals try simp (disch := omega) only [up2_eq, up2_ne] at *
    all_goals first | done | assumption | omega | skip
    · by_cases y : k = D 0 0
      · rw [y]
        simp (disch := omega) only [up2_eq, up2_ne]
        exact ⟨n2, n3, n1⟩
      · simp (disch := omega) only [up2_eq, up2_ne]
        exact b k (by omega)
    · have := e k hk
      omega
theorem rdSay_ok {t : Nat → Nat} {n p p1 p2 p3 p4 : Nat} {D : DD} {q : Nat × DD} (hV : DrV D) (h : rdSayB t n D p p1 p2 p3 p4 = .inr q) : DrV q.2 ∧ q.1 = lxE t n p4 := by
  unfold rdSayB at h
  split at h
  · cases h
  · rename_i h0
    obtain ⟨h1, h⟩ := bf_r h
    obtain ⟨h2, h⟩ := bf_r h
    obtain ⟨h3, h⟩ := bf_r h
    obtain ⟨h4, h⟩ := bf_r h
    have h := Sum.inr.inj h
    subst h
    have n1 := (nuF_n h3).2
    have n2 := tw1_n h1
    have n3 := tw2_n h2
    refine ⟨?_, rfl⟩
    obtain ⟨⟨v1, v2, v3, v4, v5, v6, v7, v8⟩, b, c, e, f, g⟩ := hV
    refine ⟨⟨?_, ?_, ?_, ?_, ?_, ?_, ?_, ?_⟩, ?_, ?_, fun k hk => ?_, ?_, ?_⟩
    all_goals try simp (disch := omega) only [up2_eq, up2_ne] at *
    all_goals first | done | assumption | omega | skip
    by_cases y : k = D 0 2
    · rw [y]
      simp (disch := omega) only [up2_eq, up2_ne]
      exact ⟨n2, n3.1, fun w => n3.2 w.symm, by omega⟩
    · simp (disch := omega) only [up2_eq, up2_ne]
      exact e k (by omega)
theorem rdLike_ok {t : Nat → Nat} {n p1 p2 p3 p4 : Nat} {D : DD} {q : Nat × DD} (hV : DrV D) (h : rdLikeB t n D p1 p2 p3 p4 = .inr q) : DrV q.2 ∧ q.1 = lxE t n p4 := by
  unfold rdLikeB at h
  obtain ⟨h1, h⟩ := bf_r h
  obtain ⟨h2, h⟩ := bf_r h
  obtain ⟨h3, h⟩ := bf_r h
  obtain ⟨h4, h⟩ := bf_r h
  obtain ⟨h5, h⟩ := bf_r h
  have h := Sum.inr.inj h
  subst h
  have n1 := (nuF_n h4).2
  refine ⟨?_, rfl⟩
  obtain ⟨⟨v1, v2, v3, v4, v5, v6, v7, v8⟩, b, c, e, f, g⟩ := hV
  refine ⟨⟨?_, ?_, ?_, ?_, ?_, ?_, ?_, ?_⟩, ?_, ?_, ?_, fun k hk => ?_, ?_⟩
  all_goals try simp (disch := omega) only [up2_eq, up2_ne]
  all_goals first | done | assumption | omega | skip
  generalize 10 * pnm (D 0 0) (D 1) (lxWd t n p1) + pnm (D 0 0) (D 1) (lxWd t n p2) = j
  have := f k hk
  by_cases y : k = j
  · rw [y]
    simp (disch := omega) only [up2_eq, up2_ne]
    omega
  · simp (disch := omega) only [up2_eq, up2_ne]
    exact this
/-! the wish -/
def wsD (D : DD) (cs : List Nat) : DD := fun a i => if a = 10 then cs.getD i 0 else if a = 0 ∧ i = 6 then cs.length else D a i
def rdWishB (t : Nat → Nat) (n : Nat) (D : DD) (p p1 : Nat) : PR := if D 0 5 = 0 then (match wsR t n (n + 1 - p1) (p1, 0, true, fun _ => 0, fun _ => false, []) with | .inl e => .inl e | .inr q => .inr (q.1, wsD (up2 D 0 5 1) q.2)) else .inl (3, lxBg t n p)
def rdWish (t : Nat → Nat) (n p : Nat) (D : DD) : PR := rdWishB t n D p (lxE t n p)
theorem wsP_r {t : Nat → Nat} {n : Nat} {s s' : WS} (h : wsP t n s = .inr s') : s'.1 = lxE t n s.1 ∧ lxK t n s.1 ≠ 0 ∧ ∃ c, c ≤ 10099 ∧ s'.2.2.2.2.2 = s.2.2.2.2.2 ++ [c] := by
  unfold wsP at h
  split at h
  · split at h
    · cases h
    · rename_i h1
      have hk : lxK t n s.1 ≠ 0 := fun hk => h1 ⟨by unfold fcN; rw [if_neg (by rw [hk]; decide)], by unfold isW; rw [hk]; rfl, by unfold isG; rw [hk]; rfl, by rw [hk]; decide⟩
      split at h
      · cases h
      · split at h
        · cases h
          exact ⟨rfl, hk, _, by split <;> decide, rfl⟩
        · rename_i h3
          cases h
          refine ⟨rfl, hk, _, ?_, rfl⟩
          have := fcN_le t n s.1
          split
          · omega
          · rename_i h4
            have hk2 : lxK t n s.1 = 2 := by
              rcases Nat.decEq (lxK t n s.1) 2 with y | y
              · refine absurd ⟨by omega, ?_, ?_, y⟩ h1
                · cases hh : isW t n s.1 10631 with
                  | false => rfl
                  | true => exact absurd (Or.inl hh) h3
                · cases hh : isG t n s.1 40 with
                  | false => rfl
                  | true => exact absurd (Or.inr hh) h3
              · exact y
            have := lxNm_lt hk2
            omega
  · split at h
    · rename_i h1
      cases h
      exact ⟨rfl, by rcases h1 with h | h | h <;> exact isG_k h, _, by split; decide; split <;> decide, rfl⟩
    · split at h
      · rename_i h1
        cases h
        exact ⟨rfl, by rcases h1.1 with h | h <;> exact isG_k h, _, by split <;> decide, rfl⟩
      · split at h
        · rename_i h1
          cases h
          exact ⟨rfl, by rcases h1 with h | h <;> exact isW_k h, _, by split <;> decide, rfl⟩
        · split at h
          · rename_i h1
            cases h
            exact ⟨rfl, isG_k h1.1, _, by decide, rfl⟩
          · split at h <;> cases h
theorem wsP_l {t : Nat → Nat} {n : Nat} {s : WS} {q : Nat × List Nat} (h : wsP t n s = .inl (.inr q)) : q = (lxE t n s.1, s.2.2.2.2.2) := by
  unfold wsP at h
  split at h
  · split at h
    · cases h
    · split at h
      · cases h
      · split at h <;> cases h
  · split at h
    · cases h
    · split at h
      · cases h
      · split at h
        · cases h
        · split at h
          · cases h
          · split at h
            · cases h; rfl
            · cases h
theorem wsR_ok {t : Nat → Nat} {n : Nat} : ∀ (f : Nat) (s : WS) (q : Nat × List Nat), s.1 ≤ n → s.2.2.2.2.2.length ≤ s.1 → (∀ c ∈ s.2.2.2.2.2, c ≤ 10099) → wsR t n f s = .inr q → s.1 ≤ q.1 ∧ q.1 ≤ n ∧ q.2.length ≤ n ∧ ∀ c ∈ q.2, c ≤ 10099
  | 0, s, q, _, _, _, h => by cases h
  | f + 1, s, q, h1, h2, h3, h => by
    cases hs : wsP t n s with
    | inl r =>
      rw [wsR_l hs] at h
      subst h
      rw [wsP_l hs]
      have := lxE_le (t := t) h1
      have := lxBg_le (t := t) h1
      exact ⟨by show s.1 ≤ lxE t n s.1; omega, by show lxE t n s.1 ≤ n; omega, by show s.2.2.2.2.2.length ≤ n; omega, h3⟩
    | inr s' =>
      rw [wsR_r hs] at h
      obtain ⟨a1, a2, c, a3, a4⟩ := wsP_r hs
      have b1 := lxE_le (t := t) h1
      have b2 := lxBg_le (t := t) h1
      have b3 := lxE_gt h1 a2
      obtain ⟨g1, g2⟩ := wsR_ok f s' q (by omega) (by rw [a4, List.length_append]; show _ + 1 ≤ _; omega) (fun x hx => by
        rw [a4] at hx
        rcases List.mem_append.mp hx with hx | hx
        · exact h3 x hx
        · rw [List.mem_singleton.mp hx]; exact a3) h
      exact ⟨by omega, g2⟩
theorem rdWish_ok {t : Nat → Nat} {n p : Nat} {D : DD} {q : Nat × DD} (hV : DrV D) (hn : n ≤ 1000) (hp : p ≤ n) (h : rdWish t n p D = .inr q) : DrV q.2 ∧ lxE t n p ≤ q.1 ∧ q.1 ≤ n := by
  have hE := lxE_le (t := t) hp
  unfold rdWish rdWishB at h
  split at h
  · rename_i h0
    cases hr : wsR t n (n + 1 - lxE t n p) (lxE t n p, 0, true, fun _ => 0, fun _ => false, []) with
    | inl e => rw [hr] at h; cases h
    | inr r =>
      rw [hr] at h
      cases h
      obtain ⟨g1, g2, g3, g4⟩ := wsR_ok _ _ _ hE.2 (Nat.zero_le _) (fun c hc => by cases hc) hr
      refine ⟨?_, g1, g2⟩
      obtain ⟨⟨v1, v2, v3, v4, v5, v6, v7, v8⟩, b, c, e, f, g⟩ := hV
      refine ⟨⟨v1, v2, v3, v4, v5, by show 1 ≤ 1; decide, by show r.2.length ≤ 1000; omega, fun z => by cases z⟩, b, c, e, f, fun i hi => ?_⟩
      show r.2.getD i 0 ≤ 10099
      have hi' : i < r.2.length := hi
      rw [List.getD_eq_getElem?_getD, List.getElem?_eq_getElem hi']
      exact g4 _ (List.getElem_mem hi')
  · cases h
