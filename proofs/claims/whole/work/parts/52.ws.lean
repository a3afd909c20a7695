/-! the reader of a wish: place, depth, wanting, opened, compared, codes -/
abbrev WS : Type := Nat × Nat × Bool × (Nat → Nat) × (Nat → Bool) × List Nat
abbrev WR : Type := (Nat × Nat) ⊕ (Nat × List Nat)
def popd (op : Nat → Nat) : Nat → Nat
  | 0 => 0
  | k + 1 => if op (k + 1) = 1 then popd op k else k + 1
theorem popd_s (op : Nat → Nat) (k : Nat) : popd op (k + 1) = if op (k + 1) = 1 then popd op k else k + 1 := rfl
theorem popd_le (op : Nat → Nat) : ∀ k, popd op k ≤ k
  | 0 => Nat.le_refl _
  | k + 1 => by
    rw [popd_s]
    split
    · exact Nat.le_succ_of_le (popd_le op k)
    · exact Nat.le_refl _
def upB (f : Nat → Bool) (i : Nat) (v : Bool) : Nat → Bool := fun k => if k = i then v else f k
def wsP (t : Nat → Nat) (n : Nat) (s : WS) : WR ⊕ WS := if s.2.2.1 then (if fcN t n s.1 = 0 ∧ isW t n s.1 10631 = false ∧ isG t n s.1 40 = false ∧ lxK t n s.1 ≠ 2 then .inl (.inl (1, lxBg t n s.1)) else if s.2.1 = 5 then .inl (.inl (5, lxBg t n s.1)) else if isW t n s.1 10631 = true ∨ isG t n s.1 40 = true then .inr (lxE t n s.1, s.2.1 + 1, true, upN s.2.2.2.1 (s.2.1 + 1) (if isW t n s.1 10631 then 1 else 2), upB s.2.2.2.2.1 (s.2.1 + 1) false, s.2.2.2.2.2 ++ [if isW t n s.1 10631 then 30 else 28]) else .inr (lxE t n s.1, popd s.2.2.2.1 s.2.1, false, s.2.2.2.1, s.2.2.2.2.1, s.2.2.2.2.2 ++ [if 0 < fcN t n s.1 then fcN t n s.1 else 100 + lxNm t n s.1])) else (if isG t n s.1 43 = true ∨ isG t n s.1 45 = true ∨ isG t n s.1 42 = true then .inr (lxE t n s.1, s.2.1, true, s.2.2.2.1, s.2.2.2.2.1, s.2.2.2.2.2 ++ [if isG t n s.1 43 then 20 else if isG t n s.1 45 then 21 else 22]) else if (isG t n s.1 60 = true ∨ isG t n s.1 61 = true) ∧ s.2.2.2.2.1 s.2.1 = false then .inr (lxE t n s.1, s.2.1, true, s.2.2.2.1, upB s.2.2.2.2.1 s.2.1 true, s.2.2.2.2.2 ++ [if isG t n s.1 60 then 24 else 25]) else if isW t n s.1 1111 = true ∨ isW t n s.1 423 = true then .inr (lxE t n s.1, s.2.1, true, s.2.2.2.1, upB s.2.2.2.2.1 s.2.1 false, s.2.2.2.2.2 ++ [if isW t n s.1 1111 then 26 else 27]) else if isG t n s.1 41 = true ∧ 0 < s.2.1 then .inr (lxE t n s.1, popd s.2.2.2.1 (s.2.1 - 1), false, s.2.2.2.1, s.2.2.2.2.1, s.2.2.2.2.2 ++ [29]) else if s.2.1 = 0 ∧ isG t n s.1 59 = true then .inl (.inr (lxE t n s.1, s.2.2.2.2.2)) else .inl (.inl (1, lxBg t n s.1)))
def wsR (t : Nat → Nat) (n : Nat) : Nat → WS → WR
  | 0, _ => .inl (0, 0)
  | f + 1, s => match wsP t n s with | .inl r => r | .inr s' => wsR t n f s'
theorem wsR_l {t : Nat → Nat} {n f : Nat} {s : WS} {r : WR} (h : wsP t n s = .inl r) : wsR t n (f + 1) s = r := by
  show (match wsP t n s with | .inl r => r | .inr s' => wsR t n f s') = r
  rw [h]
theorem wsR_r {t : Nat → Nat} {n f : Nat} {s s' : WS} (h : wsP t n s = .inr s') : wsR t n (f + 1) s = wsR t n f s' := by
  show (match wsP t n s with | .inl r => r | .inr s' => wsR t n f s') = _
  rw [h]
def wsF : List Nat := [23]
def wsC : List Nat := [141, 144, 145]
def WsM (mI : Nat → Nat → Int32) (dp : Nat) (op : Nat → Nat) (cp : Nat → Bool) (cs : List Nat) : Prop := dp ≤ 5 ∧ (∀ j, 1 ≤ j → j ≤ dp → mI 144 j = nI (op j) ∧ op j ≤ 2) ∧ (∀ j, j ≤ dp → mI 145 j = nI (cp j).toNat) ∧ mI 129 23 = nI (1000 + cs.length) ∧ ∀ i, i < cs.length → mI 141 (1000 + i) = nI (cs.getD i 0)
theorem WsM.eqf {F : List Nat} {mI mI' : Nat → Nat → Int32} {dp : Nat} {op : Nat → Nat} {cp : Nat → Bool} {cs : List Nat} (h : WsM mI dp op cp cs) (he : Eqf [] F mI mI') (hF : 23 ∉ F) : WsM mI' dp op cp cs := by
  have e1 : ∀ a k, a ≠ 129 → mI' a k = mI a k := fun a k ha => he a k (by simp) (fun z => ha z.1)
  obtain ⟨h1, h2, h3, h4, h5⟩ := h
  exact ⟨h1, fun j a b => ⟨(e1 _ _ (by decide)).trans (h2 j a b).1, (h2 j a b).2⟩, fun j a => (e1 _ _ (by decide)).trans (h3 j a), (he _ _ (by simp) (fun z => hF z.2)).trans h4, fun i a => (e1 _ _ (by decide)).trans (h5 i a)⟩
theorem WsM.low {mI : Nat → Nat → Int32} {dp dq : Nat} {op : Nat → Nat} {cp : Nat → Bool} {cs : List Nat} (h : WsM mI dp op cp cs) (hd : dq ≤ dp) : WsM mI dq op cp cs := by
  obtain ⟨h1, h2, h3, h4, h5⟩ := h
  exact ⟨by omega, fun j a b => h2 j a (by omega), fun j a => h3 j (by omega), h4, h5⟩
theorem WsM.put {mI : Nat → Nat → Int32} {dp : Nat} {op : Nat → Nat} {cp : Nat → Bool} {cs : List Nat} (h : WsM mI dp op cp cs) (c : Nat) : WsM (up2 (up2 mI 141 (1000 + cs.length) (nI c)) 129 23 (nI (1000 + cs.length + 1))) dp op cp (cs ++ [c]) := by
  obtain ⟨h1, h2, h3, h4, h5⟩ := h
  refine ⟨h1, fun j a b => ⟨?_, (h2 j a b).2⟩, fun j a => ?_, ?_, fun i a => ?_⟩
  · rw [up2_ne (fun z => by cases z.1), up2_ne (fun z => by cases z.1)]; exact (h2 j a b).1
  · rw [up2_ne (fun z => by cases z.1), up2_ne (fun z => by cases z.1)]; exact h3 j a
  · rw [up2_eq, List.length_append]; rfl
  · rw [List.length_append] at a
    have a' : i < cs.length + 1 := a
    rw [up2_ne (fun z => by cases z.1)]
    by_cases e : i = cs.length
    · rw [e, up2_eq]; simp
    · rw [up2_ne (fun z => by omega), h5 i (by omega)]
      congr 1
      simp [List.getD_eq_getElem?_getD, List.getElem?_append_left (show i < cs.length by omega)]
theorem WsM.psh {mI : Nat → Nat → Int32} {dp : Nat} {op : Nat → Nat} {cp : Nat → Bool} {cs : List Nat} (h : WsM mI dp op cp cs) (hd : dp < 5) (v : Nat) (hv : v ≤ 2) : WsM (up2 (up2 mI 144 (dp + 1) (nI v)) 145 (dp + 1) (nI 0)) (dp + 1) (upN op (dp + 1) v) (upB cp (dp + 1) false) cs := by
  obtain ⟨h1, h2, h3, h4, h5⟩ := h
  refine ⟨by omega, fun j a b => ?_, fun j a => ?_, ?_, fun i a => ?_⟩
  · rw [up2_ne (fun z => by cases z.1)]
    by_cases e : j = dp + 1
    · rw [e, up2_eq, upN_eq]; exact ⟨rfl, hv⟩
    · rw [up2_ne (fun z => e z.2), upN_ne e]; exact h2 j a (by omega)
  · by_cases e : j = dp + 1
    · rw [e, up2_eq]; unfold upB; rw [if_pos rfl]; rfl
    · rw [up2_ne (fun z => e z.2), up2_ne (fun z => by cases z.1)]; unfold upB; rw [if_neg e]; exact h3 j (by omega)
  · rw [up2_ne (fun z => by cases z.1), up2_ne (fun z => by cases z.1)]; exact h4
  · rw [up2_ne (fun z => by cases z.1), up2_ne (fun z => by cases z.1)]; exact h5 i a
theorem WsM.cmp {mI : Nat → Nat → Int32} {dp : Nat} {op : Nat → Nat} {cp : Nat → Bool} {cs : List Nat} (h : WsM mI dp op cp cs) (b : Bool) : WsM (up2 mI 145 dp (nI b.toNat)) dp op (upB cp dp b) cs := by
  obtain ⟨h1, h2, h3, h4, h5⟩ := h
  refine ⟨h1, fun j a c => ⟨?_, (h2 j a c).2⟩, fun j a => ?_, ?_, fun i a => ?_⟩
  · rw [up2_ne (fun z => by cases z.1)]; exact (h2 j a c).1
  · by_cases e : j = dp
    · rw [e, up2_eq]; unfold upB; rw [if_pos rfl]
    · rw [up2_ne (fun z => e z.2)]; unfold upB; rw [if_neg e]; exact h3 j a
  · rw [up2_ne (fun z => by cases z.1)]; exact h4
  · rw [up2_ne (fun z => by cases z.1)]; exact h5 i a
theorem DrM.wr {mI mI' : Nat → Nat → Int32} {mL : Nat → Nat → Int64} {D : DD} (h : DrM mI mL D) (he : Eqf wsC wsF mI mI') (h5 : D 0 5 = 1) (h6 : D 0 6 = 0) : DrM mI' mL D := by
  have e1 : ∀ a k, a ≠ 129 → a ∉ wsC → mI' a k = mI a k := fun a k ha hb => he a k hb (fun z => ha z.1)
  obtain ⟨⟨a1, a2, a3, a4, a5, a6, a7, a8, a9⟩, b, c, dd, e, f, g⟩ := h
  refine ⟨⟨?_, ?_, ?_, ?_, ?_, ?_, ?_, ?_, fun z => by rw [h5] at z; cases z⟩, fun p hp => ⟨(b p hp).1, ?_, ?_⟩, fun k hk => ?_, fun k hk => ⟨?_, ?_, ?_⟩, fun k h1 h2 => ?_, fun i hi => ⟨?_, ?_⟩, fun i hi => by rw [h6] at hi; omega⟩
  · rw [e1 _ _ (by decide) (by decide)]; exact a1
  · rw [e1 _ _ (by decide) (by decide)]; exact a2
  · rw [e1 _ _ (by decide) (by decide)]; exact a3
  · rw [e1 _ _ (by decide) (by decide)]; exact a4
  · rw [he _ _ (by decide) (fun z => absurd z.2 (by decide))]; exact a5
  · rw [he _ _ (by decide) (fun z => absurd z.2 (by decide))]; exact a6
  · rw [e1 _ _ (by decide) (by decide)]; exact a7
  · rw [e1 _ _ (by decide) (by decide)]; exact a8
  · rw [e1 _ _ (by decide) (by decide)]; exact (b p hp).2.1
  · rw [e1 _ _ (by decide) (by decide)]; exact (b p hp).2.2
  · rw [e1 _ _ (by decide) (by decide)]; exact c k hk
  · rw [e1 _ _ (by decide) (by decide)]; exact (dd k hk).1
  · rw [e1 _ _ (by decide) (by decide)]; exact (dd k hk).2.1
  · rw [e1 _ _ (by decide) (by decide)]; exact (dd k hk).2.2
  · rw [e1 _ _ (by decide) (by decide)]; exact e k h1 h2
  · rw [e1 _ _ (by decide) (by decide)]; exact (f i hi).1
  · rw [e1 _ _ (by decide) (by decide)]; exact (f i hi).2
theorem LsM.wr {mI mI' mI2 : Nat → Nat → Int32} {mL mL' : Nat → Nat → Int64} {t : Nat → Nat} {N q : Nat} {D : DD} (h : LsM mI mL t N q D mI' mL') (h5 : D 0 5 = 1) (h6 : D 0 6 = 0) (he : Eqf wsC wsF mI' mI2) (hr : EqR mI' mI2) : LsM mI mL t N q D mI2 mL' := by
  obtain ⟨g1, g2, g3, g4, g5, g6⟩ := h
  have e2 : ∀ k, k ∈ [5, 4, 6, 8] → mI2 129 k = mI' 129 k := fun k hk => he _ k (by decide) (fun z => by
    have h7 := List.mem_singleton.mp (show k ∈ [23] from z.2)
    rw [h7] at hk
    exact absurd hk (by decide))
  refine ⟨g1.tr hr, g2, ⟨(he _ _ (by decide) (fun z => absurd z.2 (by decide))).trans g3.1, g3.2.1, fun k hk => ⟨(he _ _ (by decide) (fun z => by cases z.1)).trans (g3.2.2 k hk).1, (g3.2.2 k hk).2⟩⟩, ?_, g5.wr he h5 h6, g6⟩
  obtain ⟨k1, k2, k3, k4, k5⟩ := g4
  exact ⟨(e2 _ (by decide)).trans k1, (e2 _ (by decide)).trans k2, (e2 _ (by decide)).trans k3, k4, fun z => (e2 _ (by decide)).trans (k5 z)⟩
