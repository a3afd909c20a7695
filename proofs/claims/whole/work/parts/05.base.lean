/-! typed memory: every cell that the law makes has a number from 0 on; constants have numbers from CB on -/
abbrev Sh : Type := Nat ⊕ (FieldType × Nat)
abbrev Mm : Type := (Nat → Option Sh) × (Nat → Nat → Int32) × (Nat → Nat → Int64) × (Nat → Nat → Option Nat) × Nat
/-- the heap at the law's start, where the constants lie, numbers of classes, slots, array classes -/
abbrev Cx : Type := Heap × (Nat → Nat) × (Nat → ClassId) × (Nat → Nat → Nat) × (FieldType → ClassId)
def CB : Nat := 1000000000
def ph (X : Cx) (a : Nat) : Nat := if a < CB then X.1.size + a else X.2.1 (a - CB)
def mv (X : Cx) (v : Value) : Value := match v with
  | .ref a => .ref (ph X a)
  | v => v
def rd (ty : FieldType) (M : Mm) (a k : Nat) : Value := match ty with
  | .long => .long (M.2.2.1 a k)
  | .object _ => va_rf (M.2.2.2.1 a k)
  | .array _ => va_rf (M.2.2.2.1 a k)
  | _ => .int (M.2.1 a k)
def up2 {α : Type} (f : Nat → Nat → α) (a k : Nat) (v : α) : Nat → Nat → α := fun a' k' => if a' = a ∧ k' = k then v else f a' k'
def wr (M : Mm) (a k : Nat) (v : Value) : Mm := match v with
  | .int x => (M.1, up2 M.2.1 a k x, M.2.2)
  | .long x => (M.1, M.2.1, up2 M.2.2.1 a k x, M.2.2.2)
  | .ref b => (M.1, M.2.1, M.2.2.1, up2 M.2.2.2.1 a k (some b), M.2.2.2.2)
  | .null => (M.1, M.2.1, M.2.2.1, up2 M.2.2.2.1 a k none, M.2.2.2.2)
  | _ => M
/-- of a type: the value that a place of this type may hold -/
def okv (ty : FieldType) (v : Value) : Prop := match ty, v with
  | .int, .int _ => True
  | .boolean, .int x => x = 0 ∨ x = 1
  | .byte, .int x => x.toInt8.toInt32 = x
  | .long, .long _ => True
  | .object _, .ref _ => True
  | .object _, .null => True
  | .array _, .ref _ => True
  | .array _, .null => True
  | _, _ => False
/-! tables -/
def RN (o : Nat) : String := match o with
  | 0 => RX0 | 1 => RX1 | 2 => RX2 | 3 => RX3 | 4 => RX4 | 5 => RX5 | 6 => RX6 | 7 => RX7 | 8 => RX8 | 9 => RX9 | 10 => RX10 | 11 => RX11 | 12 => RX12
  | 13 => RL | 14 => RJ6 | 15 => RJ13 | 16 => RJ9 | 17 => RJ10 | _ => RJ7
def clT (o : Nat) : Option vw_C := match o with
  | 0 => some (RX0, TX0, 4) | 1 => some (RX1, TX1, 8) | 2 => some (RX2, TX2, 7) | 3 => some (RX3, TX3, 11) | 4 => some (RX4, TX4, 8) | 5 => some (RX5, TX5, 4)
  | 6 => some (RX6, TX6, 8) | 7 => some (RX7, TX7, 10) | 8 => some (RX8, TX8, 8) | 9 => some (RX9, TX9, 7) | 11 => some (RX11, TX11, 12) | 12 => some (RX12, TX12, 62)
  | _ => none
def tyF (o : Nat) : Nat → FieldType := match o with
  | 0 => tyX0 | 1 => tyX1 | 2 => tyX2 | 3 => tyX3 | 4 => tyX4 | 5 => tyX5 | 6 => tyX6 | 7 => tyX7 | 8 => tyX8 | 9 => tyX9 | 11 => tyX11 | _ => tyX12
/-! the relation to the heap -/
def Cel (X : Cx) (sh : Sh) (M : Mm) (a : Nat) (H : Heap) : Prop := match sh with
  | .inl ci => ∃ r : vw_C, clT ci = some r ∧ t_OB (ph X a) (X.2.2.1 ci) r.2.2 (X.2.2.2.1 ci) H (fun k => mv X (rd (tyF ci k) M a k))
  | .inr q => H[ph X a]? = some (arrV (X.2.2.2.2 q.1) q.2 (fun j => mv X (rd q.1 M a j))) ∨ (a = CB + 22 ∧ q.1 = .int ∧ ∃ ce : Cell, H[ph X a]? = some ce ∧ ce.slots.size = q.2 ∧ ∀ j, j < q.2 → ce.slots[j]? = some (.int (M.2.1 a j)))
def Rel (X : Cx) (M : Mm) (H : Heap) : Prop := H.size = X.1.size + M.2.2.2.2 ∧ (∀ q : Nat, q < X.1.size → H[q]? = X.1[q]?) ∧ ∀ (a : Nat) (sh : Sh), M.1 a = some sh → Cel X sh M a H
/-- array types in use -/
def okT (ty : FieldType) : Prop := ty = .int ∨ ty = .long ∨ ty = .byte ∨ ty = .boolean ∨ ty = .object RX6
/-- the cells that the law makes -/
def nA (X : Cx) : Nat → Prop := fun q => X.1.size ≤ q
/-- links of nest mates -/
def nsM : List (String × Nat × MethodName × String) := [(RX11, 15, yX3_init, RX11), (RX6, 11, yX4_init, RX11), (RX3, 20, yX8_init, RX11), (RX11, 33, yX2_init, RX11), (RX11, 52, yX1_init, RX11), (RX11, 59, yX0_init, RX11), (RX11, 66, yX9_init, RX11), (RX11, 73, yX5_init, RX11), (RX5, 20, yX2_init, RX11), (RX3, 38, yX4_init, RX11)]
def NW (U : State) : Prop := (∀ q ∈ nsM, va_Nw (.methodLinkNest q.1 q.2.1 q.2.2.1 q.2.2.2) U) ∧ va_Nw (.fieldLinkNest RX8 69 RX11 "WORDS" "[LBenchOrder$Word;" RX11) U ∧ va_AO RX6 U
theorem NW.moved {u U : State} (hW : u.WarmedH U.vm) (h : NW u) : NW U := ⟨fun q hq => va_Nw.warmM hW (h.1 q hq), va_Nw.warmF hW h.2.1, va_AO.moved hW.alike h.2.2⟩
/-- the script: an array of ints, whatever its cell says besides -/
def SQ (X : Cx) (U : State) : Prop := ∀ ce : Cell, X.1[X.2.1 22]? = some ce → U.isArrayOf ce .int ∧ ce.vm ≠ .unknown
/-- what the constants hold -/
def StF (X : Cx) (U : State) : Prop := (∀ i, i < 21 → va_Z RX10 (wdN i) "LBenchOrder$Word;" (.ref (X.2.1 i)) (nA X) U X.1 ∧ ∀ k, k < 4 → va_OF RX10 (wdD k).1 (wdD k).2 (wdV i k) (X.2.1 i) (nA X) U X.1) ∧ va_Z RX11 "WORDS" "[LBenchOrder$Word;" (.ref (X.2.1 21)) (nA X) U X.1 ∧ va_T (.object RX10) (X.2.1 21) 21 (fun j => .ref (X.2.1 j)) (nA X) U X.1 ∧ NW U ∧ SQ X U
def XW (X : Cx) : Prop := (∀ i, X.2.1 i < X.1.size) ∧ ∀ i j, i < 22 → j < 22 → X.2.1 i = X.2.1 j → i = j
def KK (X : Cx) (U : State) : Prop := (∀ (ci : Nat) (r : vw_C), clT ci = some r → u_Kn U r.1 r.2.1 r.2.2 (X.2.2.1 ci) (X.2.2.2.1 ci)) ∧ (∀ ty : FieldType, okT ty → ArrOfT U (X.2.2.2.2 ty) ty ∧ va_RA U (X.2.2.2.2 ty) ty) ∧ XW X ∧ StF X U
theorem StF.moved {X : Cx} {u U : State} (hW : u.WarmedH U.vm) (h : StF X u) : StF X U := ⟨fun i hi => ⟨va_Z.moved hW.alike (h.1 i hi).1, fun k hk => va_OF.moved hW.alike ((h.1 i hi).2 k hk)⟩, va_Z.moved hW.alike h.2.1, va_T.moved hW.alike h.2.2.1, h.2.2.2.1.moved hW, fun ce hc => ⟨State.isArrayOf_alike hW.alike (h.2.2.2.2 ce hc).1, (h.2.2.2.2 ce hc).2⟩⟩
theorem KK.moved {X : Cx} {u U : State} (hW : u.WarmedH U.vm) (h : KK X u) : KK X U := have hvm := hW.alike; ⟨fun c q hq => u_Kn_moved hvm (h.1 c q hq), fun t ht => ⟨arrOfT_moved hvm (h.2.1 t ht).1, (h.2.1 t ht).2.moved hvm⟩, h.2.2.1, h.2.2.2.moved hW⟩
/-! locals -/
def isLg (v : Option Value) : Bool := match v with
  | some (.long _) => true
  | some (.double _) => true
  | _ => false
def clr (L : List (Option Value)) (i : Nat) : List (Option Value) := if isLg (L.getD (i - 1) none) = true then L.set (i - 1) none else L
def st1 (L : List (Option Value)) (i : Nat) (v : Value) : List (Option Value) := (clr L i).set i (some v)
def st2 (L : List (Option Value)) (i : Nat) (v : Value) : List (Option Value) := ((clr L i).set i (some v)).set (i + 1) none
def hasL (X : Cx) (ls : Array Slot) (nL : Nat) (L : List (Option Value)) : Prop := ls.size = nL ∧ lv_wf ls ∧ L.length = nL ∧ ∀ (i : Nat) (v : Value), L.getD i none = some v → ls[i]? = some (.val (mv X v))
theorem mv_cat (X : Cx) (v : Value) : (mv X v).category = v.category := by cases v <;> rfl
/-- the pairs that a list of locals holds -/
def prs (X : Cx) (L : List (Option Value)) : List (Nat × Value) := (List.range L.length).filterMap (fun i => (L.getD i none).map (fun v => (i, mv X v)))
theorem prs_mem {X : Cx} {L : List (Option Value)} {i : Nat} {w : Value} : (i, w) ∈ prs X L ↔ ∃ v, L.getD i none = some v ∧ w = mv X v := by
  unfold prs
  rw [List.mem_filterMap]
  constructor
  · rintro ⟨j, -, h⟩
    cases hj : L.getD j none with
    | none => rw [hj] at h; cases h
    | some v =>
      rw [hj] at h
      simp only [Option.map_some, Option.some.injEq, Prod.mk.injEq] at h
      obtain ⟨rfl, rfl⟩ := h
      exact ⟨v, hj, rfl⟩
  · rintro ⟨v, h, rfl⟩
    refine ⟨i, ?_, by rw [h]; rfl⟩
    rw [List.mem_range]
    rcases Nat.lt_or_ge i L.length with q | q
    · exact q
    · rw [List.getD_eq_getElem?_getD, List.getElem?_eq_none q] at h; cases h
theorem hasL_lv {X : Cx} {ls : Array Slot} {nL : Nat} {L : List (Option Value)} (h : hasL X ls nL L) : lv_has ls nL (prs X L) := by
  refine ⟨h.1, h.2.1, fun q hq => ?_⟩
  obtain ⟨i, w⟩ := q
  obtain ⟨v, h1, rfl⟩ := prs_mem.mp hq
  exact h.2.2.2 i v h1
theorem getD_set (L : List (Option Value)) (i j : Nat) (v : Option Value) : (L.set i v).getD j none = if j = i then (if i < L.length then v else none) else L.getD j none := by
  simp only [List.getD_eq_getElem?_getD, List.getElem?_set]
  by_cases h : j = i
  · subst h
    by_cases h2 : j < L.length
    · simp [h2]
    · simp [h2]
  · rw [if_neg (fun e => h e.symm), if_neg h]
theorem clr_len (L : List (Option Value)) (i : Nat) : (clr L i).length = L.length := by
  unfold clr
  split <;> simp
theorem clr_getD {L : List (Option Value)} {i j : Nat} {v : Value} (h : (clr L i).getD j none = some v) : L.getD j none = some v ∧ (j = i - 1 → v.category = 1) := by
  unfold clr at h
  split at h
  · rename_i hl
    rw [getD_set] at h
    split at h
    · split at h <;> cases h
    · rename_i hj
      exact ⟨h, fun e => absurd e hj⟩
  · rename_i hl
    refine ⟨h, fun e => ?_⟩
    subst e
    rw [h] at hl
    cases v <;> first | rfl | exact absurd rfl hl
theorem hasL_st1 {X : Cx} {ls ls' : Array Slot} {nL i : Nat} {L : List (Option Value)} {v : Value} (h : hasL X ls nL L) (hi : i < nL) (hc : v.category = 1)
    (h' : lv_has ls' nL ((i, mv X v) :: (prs X L).filter (fun q => !(q.1 == i) && !(q.1 + 1 == i && q.2.category == 2)))) : hasL X ls' nL (st1 L i v) := by
  refine ⟨h'.1, h'.2.1, by unfold st1; rw [List.length_set, clr_len]; exact h.2.2.1, fun j w hw => ?_⟩
  unfold st1 at hw
  rw [getD_set] at hw
  split at hw
  · rename_i e
    split at hw
    · cases hw
      subst e
      exact h'.2.2 (j, mv X v) List.mem_cons_self
    · cases hw
  · rename_i e
    obtain ⟨h1, h2⟩ := clr_getD hw
    refine h'.2.2 (j, mv X w) (List.mem_cons_of_mem _ (List.mem_filter.mpr ⟨prs_mem.mpr ⟨w, h1, rfl⟩, ?_⟩))
    simp only [mv_cat, Bool.and_eq_true, Bool.not_eq_true', beq_eq_false_iff_ne, ne_eq, Bool.and_eq_false_iff]
    refine ⟨e, ?_⟩
    by_cases hj : j + 1 = i
    · exact Or.inr (by rw [h2 (by omega)]; decide)
    · exact Or.inl hj
theorem hasL_st2 {X : Cx} {ls ls' : Array Slot} {nL i : Nat} {L : List (Option Value)} {v : Value} (h : hasL X ls nL L) (hi : i + 1 < nL) (hc : v.category = 2)
    (h' : lv_has ls' nL ((i, mv X v) :: (prs X L).filter (fun q => !(q.1 == i) && (!(q.1 == i + 1) && !(q.1 + 1 == i && q.2.category == 2))))) : hasL X ls' nL (st2 L i v) := by
  refine ⟨h'.1, h'.2.1, by unfold st2; rw [List.length_set, List.length_set, clr_len]; exact h.2.2.1, fun j w hw => ?_⟩
  unfold st2 at hw
  rw [getD_set] at hw
  split at hw
  · split at hw <;> cases hw
  · rename_i e0
    rw [getD_set] at hw
    split at hw
    · rename_i e
      split at hw
      · cases hw
        subst e
        exact h'.2.2 (j, mv X v) List.mem_cons_self
      · cases hw
    · rename_i e
      obtain ⟨h1, h2⟩ := clr_getD hw
      refine h'.2.2 (j, mv X w) (List.mem_cons_of_mem _ (List.mem_filter.mpr ⟨prs_mem.mpr ⟨w, h1, rfl⟩, ?_⟩))
      simp only [mv_cat, Bool.and_eq_true, Bool.not_eq_true', beq_eq_false_iff_ne, ne_eq, Bool.and_eq_false_iff]
      refine ⟨e, e0, ?_⟩
      by_cases hj : j + 1 = i
      · exact Or.inr (by rw [h2 (by omega)]; decide)
      · exact Or.inl hj
/-! memory: reads behind writes, the relation behind a write -/
theorem ph_lt {X : Cx} {a : Nat} (h : a < CB) : ph X a = X.1.size + a := by unfold ph; rw [if_pos h]
theorem ph_ne {X : Cx} (hX : ∀ i, X.2.1 i < X.1.size) {a b : Nat} (ha : a < CB) (h : b ≠ a) : ph X b ≠ ph X a := by
  rw [ph_lt ha]
  unfold ph
  split
  · omega
  · have := hX (b - CB); omega
theorem rd_wr_ne {M : Mm} {ty : FieldType} {a b k j : Nat} {v : Value} (h : ¬ (b = a ∧ j = k)) : rd ty (wr M a k v) b j = rd ty M b j := by
  cases v <;> cases ty <;> simp [rd, wr, up2, h]
theorem rd_wr_eq {M : Mm} {ty : FieldType} {a k : Nat} {v : Value} (h : okv ty v) : rd ty (wr M a k v) a k = v := by
  cases v <;> cases ty <;> simp [okv, rd, wr, up2, va_rf] at h ⊢
theorem wr_1 (M : Mm) (a k : Nat) (v : Value) : (wr M a k v).1 = M.1 ∧ (wr M a k v).2.2.2.2 = M.2.2.2.2 := by cases v <;> exact ⟨rfl, rfl⟩
theorem okv_narrow {X : Cx} {ty : FieldType} {v : Value} (h : okv ty v) : narrow ty (mv X v) = mv X v ∧ fits ty (mv X v) = true := by
  cases v <;> cases ty <;> simp [okv] at h <;> first | exact ⟨rfl, rfl⟩ | skip
  · rename_i x
    constructor
    · show Value.int x.toInt8.toInt32 = Value.int x
      rw [h]
    · show fits .byte (.int x) = true
      rw [← h]; exact pk_fb x
  · rename_i x
    rcases h with rfl | rfl
    · exact ⟨(by decide : narrow .boolean (.int 0) = .int 0), (by decide : fits .boolean (.int 0) = true)⟩
    · exact ⟨(by decide : narrow .boolean (.int 1) = .int 1), (by decide : fits .boolean (.int 1) = true)⟩
theorem Cel.kept {X : Cx} {sh : Sh} {M M' : Mm} {a : Nat} {H H' : Heap} (h : Cel X sh M a H) (hH : H'[ph X a]? = H[ph X a]?) (hr : ∀ ty k, rd ty M' a k = rd ty M a k) : Cel X sh M' a H' := by
  cases sh with
  | inl ci =>
    obtain ⟨r, h1, h2⟩ := h
    exact ⟨r, h1, (h2.kept hH).to (fun k _ => by rw [hr])⟩
  | inr q =>
    have h2 : H[ph X a]? = some (arrV (X.2.2.2.2 q.1) q.2 (fun j => mv X (rd q.1 M a j))) ∨ (a = CB + 22 ∧ q.1 = .int ∧ ∃ ce : Cell, H[ph X a]? = some ce ∧ ce.slots.size = q.2 ∧ ∀ j, j < q.2 → ce.slots[j]? = some (.int (M.2.1 a j))) := h
    rcases h2 with h2 | ⟨z1, z2, ce, z3, z4, z5⟩
    · refine Or.inl ?_
      rw [hH, h2]
      simp only [hr]
    · exact Or.inr ⟨z1, z2, ce, hH.trans z3, z4, fun j hj => (z5 j hj).trans (congrArg some (hr .int j).symm)⟩
theorem Rel.arr {X : Cx} {M : Mm} {H : Heap} {a : Nat} {q : FieldType × Nat} (hR : Rel X M H) (g : M.1 a = some (.inr q)) (h : a < CB ∨ q.1 ≠ .int) : H[ph X a]? = some (arrV (X.2.2.2.2 q.1) q.2 (fun j => mv X (rd q.1 M a j))) := by
  have h2 : H[ph X a]? = some (arrV (X.2.2.2.2 q.1) q.2 (fun j => mv X (rd q.1 M a j))) ∨ (a = CB + 22 ∧ q.1 = .int ∧ ∃ ce : Cell, H[ph X a]? = some ce ∧ ce.slots.size = q.2 ∧ ∀ j, j < q.2 → ce.slots[j]? = some (.int (M.2.1 a j))) := hR.2.2 a _ g
  rcases h2 with z | ⟨z1, z2, -⟩
  · exact z
  · rcases h with h | h
    · omega
    · exact absurd z2 h
/-- an array of ints, the script among them -/
theorem Rel.ari {X : Cx} {U : State} {M : Mm} {H : Heap} {a n : Nat} (hR : Rel X M H) (hKK : KK X U) (g : M.1 a = some (.inr (.int, n))) : ∃ ce : Cell, H[ph X a]? = some ce ∧ U.isArrayOf ce .int ∧ ce.vm ≠ .unknown ∧ ce.slots.size = n ∧ ∀ j, j < n → ce.slots[j]? = some (.int (M.2.1 a j)) := by
  have h2 : H[ph X a]? = some (arrV (X.2.2.2.2 .int) n (fun j => mv X (rd .int M a j))) ∨ (a = CB + 22 ∧ FieldType.int = .int ∧ ∃ ce : Cell, H[ph X a]? = some ce ∧ ce.slots.size = n ∧ ∀ j, j < n → ce.slots[j]? = some (.int (M.2.1 a j))) := hR.2.2 a _ g
  rcases h2 with z | ⟨z1, -, ce, z3, z4, z5⟩
  · exact ⟨_, z, (hKK.2.1 .int (Or.inl rfl)).1 _ _, (fun y => by cases y), arrV_size _ _ _, fun j hj => arrV_read _ _ hj⟩
  · have e : ph X a = X.2.1 22 := by
      rw [z1]
      unfold ph
      rw [if_neg (by omega), Nat.add_sub_cancel_left]
    have hs := hKK.2.2.2.2.2.2.2 ce (by rw [← hR.2.1 _ (hKK.2.2.1.1 22), ← e]; exact z3)
    exact ⟨ce, z3, hs.1, hs.2, z4, z5⟩
/-- a place of a cell is written -/
theorem Rel.put {X : Cx} (hX : ∀ i, X.2.1 i < X.1.size) {M : Mm} {H H' : Heap} (h : Rel X M H) {a k : Nat} {v : Value} {sh : Sh} (ha : a < CB) (hsh : M.1 a = some sh) (hc : Cel X sh (wr M a k v) a H') (hs : H'.size = H.size) (ho : ∀ q, q ≠ ph X a → H'[q]? = H[q]?) : Rel X (wr M a k v) H' := by
  obtain ⟨h1, h2, h3⟩ := h
  obtain ⟨e1, e2⟩ := wr_1 M a k v
  refine ⟨by rw [hs, h1, e2], fun q hq => ?_, fun b sb hb => ?_⟩
  · rw [ho q (by rw [ph_lt ha]; omega)]
    exact h2 q hq
  · rw [e1] at hb
    by_cases hba : b = a
    · subst hba
      cases hsh.symm.trans hb
      exact hc
    · exact (h3 b sb hb).kept (ho _ (ph_ne hX ha hba)) (fun ty j => rd_wr_ne (fun e => hba e.1))
/-- a reference or null, as a value of two -/
def okA (r : Option Nat) : Prop := ∀ a, r = some a → a < CB + 22
theorem ph_inj {X : Cx} (hX : XW X) {a b : Nat} (ha : a < CB + 22) (hb : b < CB + 22) (h : ph X a = ph X b) : a = b := by
  unfold ph at h
  split at h <;> split at h
  · omega
  · have := hX.1 (b - CB); omega
  · have := hX.1 (a - CB); omega
  · have := hX.2 _ _ (by omega) (by omega) h; omega
theorem mv_rf (X : Cx) (r : Option Nat) : mv X (va_rf r) = va_rf (r.map (ph X)) := by cases r <;> rfl
