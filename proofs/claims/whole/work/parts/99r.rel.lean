/-! what a constructor lays, told from its object's cell on -/
abbrev RM : Type := Nat × (Nat → Sh) × (Nat → Nat → Int32) × (Nat → Nat → Option Nat)
def rmN (c : Nat) : RM := (1, fun _ => .inl c, fun _ _ => 0, fun _ _ => none)
def rmA (V : RM) (f : Nat) (ty : FieldType) (N : Nat) : RM := (V.1 + 1, fun o => if o = V.1 then .inr (ty, N) else V.2.1 o, fun o k => if o = V.1 then 0 else V.2.2.1 o k, fun o k => if o = V.1 then none else if o = 0 ∧ k = f then some V.1 else V.2.2.2 o k)
def rmO (V : RM) (f : Nat) (W : RM) : RM := (V.1 + W.1, fun o => if o < V.1 then V.2.1 o else W.2.1 (o - V.1), fun o k => if o < V.1 then V.2.2.1 o k else W.2.2.1 (o - V.1) k, fun o k => if o < V.1 then (if o = 0 ∧ k = f then some V.1 else V.2.2.2 o k) else (W.2.2.2 (o - V.1) k).map (fun j => V.1 + j))
def rmI (V : RM) (o k : Nat) (v : Int32) : RM := (V.1, V.2.1, fun a j => if a = o ∧ j = k then v else V.2.2.1 a j, V.2.2.2)
def rmF (V : RM) (o N : Nat) (v : Int32) : RM := (V.1, V.2.1, fun a j => if a = o ∧ j < N then v else V.2.2.1 a j, V.2.2.2)
def rmR (V : RM) (o k j : Nat) : RM := (V.1, V.2.1, V.2.2.1, fun a i => if a = o ∧ i = k then some j else V.2.2.2 a i)
def Kt (M : Mm) (S : Nat) (V : RM) (M' : Mm) : Prop := M'.2.2.2.2 = S + V.1 ∧ (∀ a, a < S → M'.1 a = M.1 a) ∧ (∀ a k, a < S → M'.2.1 a k = M.2.1 a k ∧ M'.2.2.1 a k = M.2.2.1 a k ∧ M'.2.2.2.1 a k = M.2.2.2.1 a k) ∧ ∀ o, o < V.1 → M'.1 (S + o) = some (V.2.1 o) ∧ ∀ k, M'.2.1 (S + o) k = V.2.2.1 o k ∧ M'.2.2.1 (S + o) k = 0 ∧ M'.2.2.2.1 (S + o) k = (V.2.2.2 o k).map (fun j => S + j)
theorem Kt.new (M : Mm) (c : Nat) : Kt M M.2.2.2.2 (rmN c) (mkM M (.inl c)) := by
  refine ⟨rfl, fun a ha => ?_, fun a k ha => ⟨?_, ?_, ?_⟩, fun o ho => ?_⟩
  · show upS M.1 _ _ a = _; unfold upS; rw [if_neg (by omega)]
  · show up0 M.2.1 _ _ a k = _; unfold up0; rw [if_neg (by omega)]
  · show up0 M.2.2.1 _ _ a k = _; unfold up0; rw [if_neg (by omega)]
  · show up0 M.2.2.2.1 _ _ a k = _; unfold up0; rw [if_neg (by omega)]
  · have ho' : o < 1 := ho
    have : o = 0 := by omega
    subst this
    refine ⟨?_, fun k => ⟨?_, ?_, ?_⟩⟩
    · show upS M.1 _ _ _ = _; unfold upS; rw [if_pos (Nat.add_zero _)]; rfl
    · show up0 M.2.1 _ _ _ k = _; unfold up0; rw [if_pos (Nat.add_zero _)]; rfl
    · show up0 M.2.2.1 _ _ _ k = _; unfold up0; rw [if_pos (Nat.add_zero _)]
    · show up0 M.2.2.2.1 _ _ _ k = _; unfold up0; rw [if_pos (Nat.add_zero _)]; rfl
theorem Kt.base {M0 M M' : Mm} {S : Nat} {V : RM} (h : Kt M S V M') (h1 : ∀ a, a < S → M.1 a = M0.1 a) (h2 : ∀ a k, a < S → M.2.1 a k = M0.2.1 a k ∧ M.2.2.1 a k = M0.2.2.1 a k ∧ M.2.2.2.1 a k = M0.2.2.2.1 a k) : Kt M0 S V M' := ⟨h.1, fun a ha => (h.2.1 a ha).trans (h1 a ha), fun a k ha => ⟨(h.2.2.1 a k ha).1.trans (h2 a k ha).1, (h.2.2.1 a k ha).2.1.trans (h2 a k ha).2.1, (h.2.2.1 a k ha).2.2.trans (h2 a k ha).2.2⟩, h.2.2.2⟩
theorem Kt.self {M0 M : Mm} {S : Nat} {V : RM} (h : Kt M0 S V M) : Kt M S V M := ⟨h.1, fun _ _ => rfl, fun _ _ _ => ⟨rfl, rfl, rfl⟩, h.2.2.2⟩
theorem Kt.arr {M : Mm} {sh : Nat → Option Sh} {mI : Nat → Nat → Int32} {mL : Nat → Nat → Int64} {mR : Nat → Nat → Option Nat} {n S : Nat} {V : RM} (h : Kt M S V (sh, mI, mL, mR, n)) (hV : 1 ≤ V.1) (f : Nat) (ty : FieldType) (N : Nat) : Kt M S (rmA V f ty N) (upS sh n (.inr (ty, N)), up0 mI n 0, up0 mL n 0, up2 (up0 mR n none) S f (some n), n + 1) := by
  obtain ⟨h1, h2, h3, h4⟩ := h
  have h1 : n = S + V.1 := h1
  refine ⟨by show n + 1 = S + (V.1 + 1); omega, fun a ha => ?_, fun a k ha => ⟨?_, ?_, ?_⟩, fun o ho => ?_⟩
  · show upS sh n _ a = _; unfold upS; rw [if_neg (by omega)]; exact h2 a ha
  · show up0 mI n _ a k = _; unfold up0; rw [if_neg (by omega)]; exact (h3 a k ha).1
  · show up0 mL n _ a k = _; unfold up0; rw [if_neg (by omega)]; exact (h3 a k ha).2.1
  · show up2 (up0 mR n _) S f _ a k = _; rw [up2_ne (by omega)]; unfold up0; rw [if_neg (by omega)]; exact (h3 a k ha).2.2
  · have ho' : o < V.1 + 1 := ho
    by_cases e : o = V.1
    · have e2 : S + o = n := by omega
      refine ⟨?_, fun k => ⟨?_, ?_, ?_⟩⟩
      · show upS sh n _ (S + o) = some (if o = V.1 then _ else _); unfold upS; rw [if_pos e2, if_pos e]
      · show up0 mI n _ (S + o) k = (if o = V.1 then _ else _); unfold up0; rw [if_pos e2, if_pos e]
      · show up0 mL n _ (S + o) k = _; unfold up0; rw [if_pos e2]
      · show up2 (up0 mR n _) S f _ (S + o) k = Option.map _ (if o = V.1 then _ else _); rw [up2_ne (by omega), if_pos e]; unfold up0; rw [if_pos e2]; rfl
    · have e2 : ¬ S + o = n := by omega
      obtain ⟨k1, k2⟩ := h4 o (by omega)
      refine ⟨?_, fun k => ⟨?_, ?_, ?_⟩⟩
      · show upS sh n _ (S + o) = some (if o = V.1 then _ else _); unfold upS; rw [if_neg e2, if_neg e]; exact k1
      · show up0 mI n _ (S + o) k = (if o = V.1 then _ else _); unfold up0; rw [if_neg e2, if_neg e]; exact (k2 k).1
      · show up0 mL n _ (S + o) k = _; unfold up0; rw [if_neg e2]; exact (k2 k).2.1
      · show up2 (up0 mR n _) S f _ (S + o) k = Option.map _ (if o = V.1 then _ else if o = 0 ∧ k = f then _ else _)
        rw [if_neg e]
        by_cases e3 : o = 0 ∧ k = f
        · rw [if_pos e3, e3.1, e3.2, Nat.add_zero, up2_eq, h1]; rfl
        · rw [if_neg e3, up2_ne (by omega)]; unfold up0; rw [if_neg e2]; exact (k2 k).2.2
theorem Kt.obj {M : Mm} {sh sh2 : Nat → Option Sh} {mI mI2 : Nat → Nat → Int32} {mL mL2 : Nat → Nat → Int64} {mR mR2 : Nat → Nat → Option Nat} {n n2 S : Nat} {V W : RM} (h : Kt M S V (sh, mI, mL, mR, n)) (hV : 1 ≤ V.1) (g : Kt (sh, mI, mL, mR, n) n W (sh2, mI2, mL2, mR2, n2)) (f : Nat) : Kt M S (rmO V f W) (sh2, mI2, mL2, up2 mR2 S f (some n), n2) := by
  obtain ⟨h1, h2, h3, h4⟩ := h
  obtain ⟨g1, g2, g3, g4⟩ := g
  have h1 : n = S + V.1 := h1
  have g1 : n2 = n + W.1 := g1
  refine ⟨by show n2 = S + (V.1 + W.1); omega, fun a ha => (g2 a (by omega)).trans (h2 a ha), fun a k ha => ⟨(g3 a k (by omega)).1.trans (h3 a k ha).1, (g3 a k (by omega)).2.1.trans (h3 a k ha).2.1, ?_⟩, fun o ho => ?_⟩
  · show up2 mR2 S f _ a k = _; rw [up2_ne (by omega)]; exact (g3 a k (by omega)).2.2.trans (h3 a k ha).2.2
  · have ho' : o < V.1 + W.1 := ho
    by_cases e : o < V.1
    · obtain ⟨k1, k2⟩ := h4 o e
      refine ⟨?_, fun k => ⟨?_, ?_, ?_⟩⟩
      · show sh2 (S + o) = some (if o < V.1 then _ else _); rw [if_pos e]; exact (g2 _ (by omega)).trans k1
      · show mI2 (S + o) k = (if o < V.1 then _ else _); rw [if_pos e]; exact (g3 _ k (by omega)).1.trans (k2 k).1
      · exact (g3 _ k (by omega)).2.1.trans (k2 k).2.1
      · show up2 mR2 S f _ (S + o) k = Option.map _ (if o < V.1 then (if o = 0 ∧ k = f then _ else _) else _)
        rw [if_pos e]
        by_cases e3 : o = 0 ∧ k = f
        · rw [if_pos e3, e3.1, e3.2, Nat.add_zero, up2_eq, h1]; rfl
        · rw [if_neg e3, up2_ne (by omega)]; exact (g3 _ k (by omega)).2.2.trans (k2 k).2.2
    · obtain ⟨k1, k2⟩ := g4 (o - V.1) (by omega)
      have e2 : n + (o - V.1) = S + o := by omega
      rw [e2] at k1 k2
      refine ⟨?_, fun k => ⟨?_, (k2 k).2.1, ?_⟩⟩
      · show sh2 (S + o) = some (if o < V.1 then _ else _); rw [if_neg e]; exact k1
      · show mI2 (S + o) k = (if o < V.1 then _ else _); rw [if_neg e]; exact (k2 k).1
      · show up2 mR2 S f _ (S + o) k = Option.map _ (if o < V.1 then _ else Option.map _ (W.2.2.2 (o - V.1) k))
        rw [if_neg e, up2_ne (by omega)]
        refine (k2 k).2.2.trans ?_
        cases W.2.2.2 (o - V.1) k with
        | none => rfl
        | some j => show some (n + j) = some (S + (V.1 + j)); rw [h1, Nat.add_assoc]
theorem Kt.int {M : Mm} {sh : Nat → Option Sh} {mI : Nat → Nat → Int32} {mL : Nat → Nat → Int64} {mR : Nat → Nat → Option Nat} {n S : Nat} {V : RM} (h : Kt M S V (sh, mI, mL, mR, n)) (o k : Nat) (v : Int32) : Kt M S (rmI V o k v) (sh, up2 mI (S + o) k v, mL, mR, n) := by
  obtain ⟨h1, h2, h3, h4⟩ := h
  refine ⟨h1, h2, fun a j ha => ⟨(up2_ne (by omega)).trans (h3 a j ha).1, (h3 a j ha).2⟩, fun b hb => ⟨(h4 b hb).1, fun j => ⟨?_, ((h4 b hb).2 j).2⟩⟩⟩
  show up2 mI (S + o) k v (S + b) j = (if b = o ∧ j = k then v else V.2.2.1 b j)
  by_cases e : b = o ∧ j = k
  · rw [if_pos e, e.1, e.2, up2_eq]
  · rw [if_neg e, up2_ne (by omega)]; exact ((h4 b hb).2 j).1
theorem Kt.fil {M : Mm} {sh : Nat → Option Sh} {mI : Nat → Nat → Int32} {mL : Nat → Nat → Int64} {mR : Nat → Nat → Option Nat} {n S : Nat} {V : RM} (h : Kt M S V (sh, mI, mL, mR, n)) (o N : Nat) (v : Int32) : Kt M S (rmF V o N v) (sh, flM mI (S + o) N v, mL, mR, n) := by
  obtain ⟨h1, h2, h3, h4⟩ := h
  refine ⟨h1, h2, fun a j ha => ⟨?_, (h3 a j ha).2⟩, fun b hb => ⟨(h4 b hb).1, fun j => ⟨?_, ((h4 b hb).2 j).2⟩⟩⟩
  · show flM mI (S + o) N v a j = _
    unfold flM
    rw [if_neg (by omega)]; exact (h3 a j ha).1
  · show flM mI (S + o) N v (S + b) j = (if b = o ∧ j < N then v else V.2.2.1 b j)
    unfold flM
    by_cases e : b = o ∧ j < N
    · rw [if_pos e, e.1, if_pos ⟨rfl, e.2⟩]
    · rw [if_neg e, if_neg (by omega)]; exact ((h4 b hb).2 j).1
theorem Kt.ref {M : Mm} {sh : Nat → Option Sh} {mI : Nat → Nat → Int32} {mL : Nat → Nat → Int64} {mR : Nat → Nat → Option Nat} {n S : Nat} {V : RM} (h : Kt M S V (sh, mI, mL, mR, n)) (o k j : Nat) : Kt M S (rmR V o k j) (sh, mI, mL, up2 mR (S + o) k (some (S + j)), n) := by
  obtain ⟨h1, h2, h3, h4⟩ := h
  refine ⟨h1, h2, fun a i ha => ⟨(h3 a i ha).1, (h3 a i ha).2.1, (up2_ne (by omega)).trans (h3 a i ha).2.2⟩, fun b hb => ⟨(h4 b hb).1, fun i => ⟨((h4 b hb).2 i).1, ((h4 b hb).2 i).2.1, ?_⟩⟩⟩
  show up2 mR (S + o) k _ (S + b) i = Option.map _ (if b = o ∧ i = k then some j else V.2.2.2 b i)
  by_cases e : b = o ∧ i = k
  · rw [if_pos e, e.1, e.2, up2_eq]; rfl
  · rw [if_neg e, up2_ne (by omega)]; exact ((h4 b hb).2 i).2.2
/-- an object's own shape -/
theorem Kt.s {M : Mm} {sh : Nat → Option Sh} {mI : Nat → Nat → Int32} {mL : Nat → Nat → Int64} {mR : Nat → Nat → Option Nat} {n S : Nat} {V : RM} (h : Kt M S V (sh, mI, mL, mR, n)) {c : Nat} (hV : 1 ≤ V.1) (hc : V.2.1 0 = .inl c) : sh S = some (.inl c) := by
  have := (h.2.2.2 0 (by omega)).1
  rw [Nat.add_zero, hc] at this
  exact this
