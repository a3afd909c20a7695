/-! what the tables say of the classes -/
theorem u_good {ws : List Cond} (h1 : ∀ w ∈ ws, w ∈ lw_tbl) (h2 : ws.all goodWord = true) : ∀ w ∈ ws, w ∈ gtbl := fun w hw => List.mem_filter.mpr ⟨h1 w hw, List.all_eq_true.mp h2 w hw⟩
theorem clOK : ∀ (ci : Nat) (C : String) (T : u_T) (N : Nat), clT ci = some (C, T, N) → (∀ w ∈ u_ws C T N, w ∈ gtbl) ∧ (∀ k, k < N → parseFieldDescriptor (T k).2.2.1 = some (tyF ci k)) ∧ (∀ a, a < N → ∀ b, b < N → a ≠ b → (T a).2.1 ≠ (T b).2.1) ∧ ∀ k, k < N → (T k).1 = RN ci := by
  intro ci C T N h
  unfold clT at h
  split at h <;> first | (cases h; exact ⟨u_good (by decide +kernel) (by decide +kernel), by decide +kernel, by decide +kernel, by decide +kernel⟩) | cases h
theorem kk_apart {X : Cx} {s : State} {args : Array Value} (hK : KK X s) (hts : ∀ w ∈ gtbl, w.before args s = true) {ci : Nat} {C : String} {T : u_T} {N : Nat} (hc : clT ci = some (C, T, N)) : ∀ x y, x < N → y < N → x ≠ y → (X.2.2.2.1 ci) x ≠ (X.2.2.2.1 ci) y := by
  intro x y hx hy hne
  obtain ⟨w1, w2, w3, -⟩ := clOK _ _ _ _ hc
  obtain ⟨hS, -⟩ := hK.1 ci _ hc
  obtain ⟨_, _, _, fa, hia, ea⟩ := hS x hx
  obtain ⟨_, _, _, fb, hib, eb⟩ := hS y hy
  rw [← ea, ← eb]
  refine u_apart (u_lays hts w1 hx) (u_lays hts w1 hy) hia hib ?_
  rw [(State.fieldFound?_type hia (w2 x hx)).1, (State.fieldFound?_type hib (w2 y hy)).1]
  exact w3 x hx y hy hne
theorem lookup_mem {α : Type} {l : List (Nat × α)} {n : Nat} {v : α} (h : l.lookup n = some v) : (n, v) ∈ l := by
  induction l with
  | nil => cases h
  | cons a l ih =>
    obtain ⟨k, w⟩ := a
    rw [List.lookup_cons] at h
    by_cases hk : n == k
    · rw [hk] at h
      cases h
      rw [beq_iff_eq.mp hk]
      exact List.mem_cons_self
    · rw [Bool.not_eq_true] at hk
      rw [hk] at h
      exact List.mem_cons_of_mem _ (ih h)
def fTok (o : Nat) (x : (Nat × (Nat × Nat)) × (Nat × Nat)) : Bool := match clT x.1.2.1 with
  | some r => decide (x.1.2.2 < r.2.2) && decide ((tbp x.2.1)[x.2.2]? = some (Cond.fieldLink (RN o) x.1.1 (r.2.1 x.1.2.2).1 (r.2.1 x.1.2.2).2.1 (r.2.1 x.1.2.2).2.2.1))
  | none => false
theorem fT_all : ∀ o, o < 13 → (fTQ o).all (fun x => fTok o x) = true := by decide +kernel
theorem fT_ok (o n : Nat) (v : Nat × Nat) (h : fT o n = some v) : ∃ C T N, clT v.1 = some (C, T, N) ∧ v.2 < N ∧ Cond.fieldLink (RN o) n (T v.2).1 (T v.2).2.1 (T v.2).2.2.1 ∈ gtbl := by
  have hm := lookup_mem (h : (fTL o).lookup n = some v)
  obtain ⟨x, hx, e⟩ := List.mem_map.mp hm
  have ho : o < 13 := by
    rcases Nat.lt_or_ge o 13 with z | z
    · exact z
    · exfalso
      unfold fTQ at hx
      split at hx <;> first | omega | simp at hx
  have h1 := List.all_eq_true.mp (fT_all o ho) _ hx
  obtain ⟨⟨n', v'⟩, pp, ii⟩ := x
  cases e
  unfold fTok at h1
  split at h1
  · rename_i r hr
    obtain ⟨C, T, N⟩ := r
    simp only [Bool.and_eq_true, decide_eq_true_eq] at h1
    exact ⟨C, T, N, hr, h1.1, tbp_mem h1.2 rfl⟩
  · cases h1
theorem cI_all : ∀ o, o < 19 → (cIQ o).all (fun x => decide ((tbp x.2.1)[x.2.2]? = some (Cond.constant (RN o) x.1.1 x.1.2))) = true := by decide +kernel
theorem cI_ok (o n : Nat) (v : Int32) (h : cI o n = some v) : Cond.constant (RN o) n v ∈ gtbl := by
  have hm := lookup_mem (h : (cIL o).lookup n = some v)
  obtain ⟨x, hx, e⟩ := List.mem_map.mp hm
  have ho : o < 19 := by
    rcases Nat.lt_or_ge o 19 with z | z
    · exact z
    · exfalso
      unfold cIQ at hx
      split at hx <;> first | omega | simp at hx
  have h1 := List.all_eq_true.mp (cI_all o ho) _ hx
  obtain ⟨⟨n', v'⟩, pp, ii⟩ := x
  cases e
  simp only [decide_eq_true_eq] at h1
  exact tbp_mem h1 rfl
theorem cL_all : ∀ o, o < 19 → (cLQ o).all (fun x => decide ((tbp x.2.1)[x.2.2]? = some (Cond.constantLong (RN o) x.1.1 x.1.2))) = true := by decide +kernel
theorem cL_ok (o n : Nat) (v : Int64) (h : cL o n = some v) : Cond.constantLong (RN o) n v ∈ gtbl := by
  have hm := lookup_mem (h : (cLL o).lookup n = some v)
  obtain ⟨x, hx, e⟩ := List.mem_map.mp hm
  have ho : o < 19 := by
    rcases Nat.lt_or_ge o 19 with z | z
    · exact z
    · exfalso
      unfold cLQ at hx
      split at hx <;> first | omega | simp at hx
  have h1 := List.all_eq_true.mp (cL_all o ho) _ hx
  obtain ⟨⟨n', v'⟩, pp, ii⟩ := x
  cases e
  simp only [decide_eq_true_eq] at h1
  exact tbp_mem h1 rfl
theorem sT_all : ∀ o, o < 13 → (sTQ o).all (fun x => decide (x.1.2 < 21) && decide ((tbp x.2.1)[x.2.2]? = some (Cond.fieldLink (RN o) x.1.1 RX10 (wdN x.1.2) "LBenchOrder$Word;"))) = true := by decide +kernel
theorem sT_ok (o n : Nat) (v : Nat) (h : sT o n = some v) : v < 21 ∧ Cond.fieldLink (RN o) n RX10 (wdN v) "LBenchOrder$Word;" ∈ gtbl := by
  have hm := lookup_mem (h : (sTL o).lookup n = some v)
  obtain ⟨x, hx, e⟩ := List.mem_map.mp hm
  have ho : o < 13 := by
    rcases Nat.lt_or_ge o 13 with z | z
    · exact z
    · exfalso
      unfold sTQ at hx
      split at hx <;> first | omega | simp at hx
  have h1 := List.all_eq_true.mp (sT_all o ho) _ hx
  obtain ⟨⟨n', v'⟩, pp, ii⟩ := x
  cases e
  simp only [Bool.and_eq_true, decide_eq_true_eq] at h1
  exact ⟨h1.1, tbp_mem h1.2 rfl⟩
theorem wT_all : ∀ o, o < 13 → (wTQ o).all (fun x => decide (x.1.2 < 4) && decide ((tbp x.2.1)[x.2.2]? = some (Cond.fieldLink (RN o) x.1.1 RX10 (wdD x.1.2).1 (wdD x.1.2).2))) = true := by decide +kernel
theorem wT_ok (o n : Nat) (v : Nat) (h : wT o n = some v) : v < 4 ∧ Cond.fieldLink (RN o) n RX10 (wdD v).1 (wdD v).2 ∈ gtbl := by
  have hm := lookup_mem (h : (wTL o).lookup n = some v)
  obtain ⟨x, hx, e⟩ := List.mem_map.mp hm
  have ho : o < 13 := by
    rcases Nat.lt_or_ge o 13 with z | z
    · exact z
    · exfalso
      unfold wTQ at hx
      split at hx <;> first | omega | simp at hx
  have h1 := List.all_eq_true.mp (wT_all o ho) _ hx
  obtain ⟨⟨n', v'⟩, pp, ii⟩ := x
  cases e
  simp only [Bool.and_eq_true, decide_eq_true_eq] at h1
  exact ⟨h1.1, tbp_mem h1.2 rfl⟩
