theorem swK_at {x : Int32} {pc : Nat} {K : Nat → Prop} : ∀ {os : List Int} {lo : Int}, swK x lo pc K os → ∀ {n : Nat} {o : Int}, os[n]? = some o → x.toInt = lo + n → -2147483648 ≤ lo → lo + n < 2147483648 → K (jmp pc o)
  | [], _, _, n, o, h, _, _, _ => by simp at h
  | z :: os, lo, hs, 0, o, h, hx, h1, h2 => by
    rw [List.getElem?_cons_zero] at h
    cases h
    refine hs.1 ?_
    apply Int32.toInt_inj.mp
    rw [Int32.toInt_ofInt_of_le (by omega) (by omega)]
    omega
  | z :: os, lo, hs, n + 1, o, h, hx, h1, h2 => by
    rw [List.getElem?_cons_succ] at h
    exact swK_at hs.2 h (by omega) (by omega) (by omega)
theorem inx_lt {j : Int32} {n : Nat} (h : inx j n) : j.toNatClampNeg < n := by
  obtain ⟨h1, h2⟩ := h
  show j.toInt.toNat < n
  omega
theorem inx_in {j : Int32} {n : Nat} (h : inx j n) : ¬ (j < 0 ∨ n ≤ j.toNatClampNeg) := by
  have h2 := inx_lt h
  rintro (h3 | h3)
  · rw [Int32.lt_iff_toInt_lt] at h3
    have := h.1
    rw [Int32.toInt_zero] at h3
    omega
  · omega
theorem locs_app {B : Nat} {locs : List Loc} {a i : Nat} (h : ∀ z ∈ locs, B ≤ z.base) (ha : B ≤ a) : ∀ z ∈ locs ++ [(⟨a, i⟩ : Loc)], B ≤ z.base := by
  intro z hz
  rcases List.mem_append.mp hz with z1 | z1
  · exact h z z1
  · rw [List.mem_singleton.mp z1]; exact ha
theorem cel_arr {X : Cx} {M : Mm} {a j n : Nat} {ty : FieldType} {v : Value} {H' : Heap} (hv : okv ty v) (hj : j < n) (h : H'[ph X a]? = some ((arrV (X.2.2.2.2 ty) n (fun j => mv X (rd ty M a j))).setSlot j (mv X v))) : Cel X (.inr (ty, n)) (wr M a j v) a H' := by
  refine Or.inl ?_
  show H'[ph X a]? = some (arrV (X.2.2.2.2 ty) n (fun i => mv X (rd ty (wr M a j v) a i)))
  rw [h, arrV_store]
  congr 2
  funext i
  unfold updV
  by_cases hi : i = j
  · rw [if_pos hi, hi, rd_wr_eq hv]
  · rw [if_neg hi, rd_wr_ne (fun z => hi z.2)]
theorem cb_sub {b : Nat} (h1 : CB ≤ b) (h2 : b < CB + 21) : b - CB < 21 := by omega
theorem cb_add {b : Nat} (h1 : CB ≤ b) : CB + (b - CB) = b := by omega
theorem wdV_mv (X : Cx) (i k : Nat) : mv X (wdV i k) = wdV i k := by
  unfold wdV
  split <;> rfl
theorem ph_w {X : Cx} (i : Nat) : ph X (CB + i) = X.2.1 i := by
  unfold ph
  rw [if_neg (by omega), Nat.add_sub_cancel_left]
/-- the end of a method -/
def QP (X : Cx) (Post : Option Value → Mm → Prop) : Array Value → State → Outcome → State → Prop := fun _ _ o t => ∃ (r : Option Value) (M' : Mm), o = .returned (r.map (mv X)) ∧ Post r M' ∧ Rel X M' t.heap
section WG
variable {p : Program} {l : Launch} {e : Env} {R : Room} {s : State} {m : MethodId} {args : Array Value} {below : List Frame} {meth : Method} {c : Code}
def Ct (p : Program) (s : State) (m : MethodId) (args : Array Value) (meth : Method) (c : Code) (X : Cx) (own : Nat) (ini : Bool) (cc : ByteArray) (nL : Nat) (rt : Option FieldType) : Prop :=
  p.tables.exec = Jvm.exec ∧ c.code = cc ∧ meth.sig.returnType = rt ∧ c.maxLocals = nL ∧ s.vm.findClass (RN own) = some m.cls ∧ (∀ w ∈ gtbl, w.before args s = true) ∧ meth.locks = false ∧ KK X s ∧ (ini = true → meth.name = "<init>")
def WG (p : Program) (l : Launch) (e : Env) (R : Room) (s : State) (m : MethodId) (args : Array Value) (below : List Frame) (meth : Method) (c : Code) (X : Cx) (nL : Nat) (Post : Option Value → Mm → Prop) (mc ms k q0 : Nat) (pc : Nat) (L : List (Option Value)) (st : List Value) (M : Mm) : Prop :=
  ∀ (H : Heap) (locs : List Loc) (ls : Array Slot), Rel X M H → (∀ z ∈ locs, X.1.size ≤ z.base) → hasL X ls nL L → W p l e R s m args below meth c H locs k q0 (MQ below (QP X Post) args s mc ms (fun z => X.1.size ≤ z)) (F0 m pc ls (st.map (mv X)))
set_option maxHeartbeats 4000000 in
theorem step_sound {X : Cx} {own : Nat} {ini : Bool} {cc : ByteArray} {nL : Nat} {rt : Option FieldType} {Post : Option Value → Mm → Prop} {mc ms k q0 : Nat} (C0 : Ct p s m args meth c X own ini cc nL rt) (hkq : k ≤ mc ∧ q0 ≤ ms)
    {i : Instr} {len pc : Nat} (hd : decode cc pc = .ok (i, len)) (hln : ln i = 0 ∨ len = ln i) {L : List (Option Value)} {st : List Value} {M : Mm} {K : Nat → List (Option Value) → List Value → Mm → Prop} {S : Prop} {P : Option Value → Mm → Prop}
    (h : stepI own ini rt i pc L st M K S P) (hK : ∀ pc' L' st' M', K pc' L' st' M' → WG p l e R s m args below meth c X nL Post mc ms k q0 pc' L' st' M') (hS : S → WG p l e R s m args below meth c X nL Post mc ms k q0 pc L st M) (hP : ∀ r M', P r M' → Post r M') :
    WG p l e R s m args below meth c X nL Post mc ms k q0 pc L st M := by
  obtain ⟨hx, hb, hr, hml, hown, hts, hlk, hKK, hini⟩ := C0
  have hX := hKK.2.2.1.1
  cases i <;> simp only [stepI] at h <;> try exact hS h
  case iconst v =>
    rcases hln with hln | hln
    · cases hln
    subst hln
    intro H locs ls hR hL hl
    exact lv_iconst hx hb hd rfl (hK _ _ _ _ h H locs ls hR hL hl)
  case bipush v =>
    rcases hln with hln | hln
    · cases hln
    subst hln
    intro H locs ls hR hL hl
    exact lv_bipush hx hb hd rfl (hK _ _ _ _ h H locs ls hR hL hl)
  case sipush v =>
    rcases hln with hln | hln
    · cases hln
    subst hln
    intro H locs ls hR hL hl
    exact lv_sipush hx hb hd rfl (hK _ _ _ _ h H locs ls hR hL hl)
  case lconst v =>
    rcases hln with hln | hln
    · cases hln
    subst hln
    intro H locs ls hR hL hl
    exact lv_lconst hx hb hd rfl (hK _ _ _ _ h H locs ls hR hL hl)
  case aconst_null =>
    rcases hln with hln | hln
    · cases hln
    subst hln
    intro H locs ls hR hL hl
    exact lv_null hx hb hd (hK _ _ _ _ h H locs ls hR hL hl)
  case ldc v =>
    rcases hln with hln | hln
    · cases hln
    subst hln
    split at h
    · rename_i w hw
      intro H locs ls hR hL hl
      exact lv_ldc hx hb hown (hts _ (cI_ok _ _ _ hw)) hd (hK _ _ _ _ h H locs ls hR hL hl)
    · exact h.elim
  case ldc_w v =>
    rcases hln with hln | hln
    · cases hln
    subst hln
    split at h
    · rename_i w hw
      intro H locs ls hR hL hl
      exact lv_ldcw hx hb hown (hts _ (cI_ok _ _ _ hw)) hd (hK _ _ _ _ h H locs ls hR hL hl)
    · exact h.elim
  case ldc2_w v =>
    rcases hln with hln | hln
    · cases hln
    subst hln
    split at h
    · rename_i w hw
      intro H locs ls hR hL hl
      exact lv_ldc2 hx hb hown (hts _ (cL_ok _ _ _ hw)) hd (hK _ _ _ _ h H locs ls hR hL hl)
    · exact h.elim
  case iload v =>
    rcases hln with hln | hln
    · cases hln
    subst hln
    split at h
    · rename_i w hw
      intro H locs ls hR hL hl
      exact lv_iload hx hb hd (hl.2.2.2 _ _ hw) (hK _ _ _ _ h H locs ls hR hL hl)
    · exact h.elim
  case iload_n v =>
    rcases hln with hln | hln
    · cases hln
    subst hln
    split at h
    · rename_i w hw
      intro H locs ls hR hL hl
      exact lv_iload_n hx hb hd rfl (hl.2.2.2 _ _ hw) (hK _ _ _ _ h H locs ls hR hL hl)
    · exact h.elim
  case lload v =>
    rcases hln with hln | hln
    · cases hln
    subst hln
    split at h
    · rename_i w hw
      intro H locs ls hR hL hl
      exact lv_lload hx hb hd (hl.2.2.2 _ _ hw) (hK _ _ _ _ h H locs ls hR hL hl)
    · exact h.elim
  case lload_n v =>
    rcases hln with hln | hln
    · cases hln
    subst hln
    split at h
    · rename_i w hw
      intro H locs ls hR hL hl
      exact lv_lload_n hx hb hd rfl (hl.2.2.2 _ _ hw) (hK _ _ _ _ h H locs ls hR hL hl)
    · exact h.elim
  case aload v =>
    rcases hln with hln | hln
    · cases hln
    subst hln
    split at h
    · rename_i w hw
      intro H locs ls hR hL hl
      exact lv_aload hx hb hd (hl.2.2.2 _ _ hw) (hK _ _ _ _ h H locs ls hR hL hl)
    · rename_i hw
      intro H locs ls hR hL hl
      exact lv_aloadN hx hb hd (hl.2.2.2 _ _ hw) (hK _ _ _ _ h H locs ls hR hL hl)
    · exact h.elim
  case aload_n v =>
    rcases hln with hln | hln
    · cases hln
    subst hln
    split at h
    · rename_i w hw
      intro H locs ls hR hL hl
      exact lv_aload_n hx hb hd rfl (hl.2.2.2 _ _ hw) (hK _ _ _ _ h H locs ls hR hL hl)
    · rename_i hw
      intro H locs ls hR hL hl
      exact lv_aload_nN hx hb hd rfl (hl.2.2.2 _ _ hw) (hK _ _ _ _ h H locs ls hR hL hl)
    · exact h.elim
  case istore v =>
    rcases hln with hln | hln
    · cases hln
    subst hln
    split at h
    · obtain ⟨h0, h⟩ := h
      intro H locs ls hR hL hl
      have h0' := h0
      rw [hl.2.2.1] at h0'
      exact lv_istore hx hb hd (hasL_lv hl) h0' rfl (fun ls' hl' => hK _ _ _ _ h H locs ls' hR hL (hasL_st1 hl h0' rfl hl'))
    · exact h.elim
  case istore_n v =>
    rcases hln with hln | hln
    · cases hln
    subst hln
    split at h
    · obtain ⟨h0, h⟩ := h
      intro H locs ls hR hL hl
      have h0' := h0
      rw [hl.2.2.1] at h0'
      exact lv_istore_n hx hb hd rfl (hasL_lv hl) h0' rfl (fun ls' hl' => hK _ _ _ _ h H locs ls' hR hL (hasL_st1 hl h0' rfl hl'))
    · exact h.elim
  case astore v =>
    rcases hln with hln | hln
    · cases hln
    subst hln
    split at h
    · obtain ⟨h0, h⟩ := h
      intro H locs ls hR hL hl
      have h0' := h0
      rw [hl.2.2.1] at h0'
      exact lv_astore hx hb hd (hasL_lv hl) h0' rfl (fun ls' hl' => hK _ _ _ _ h H locs ls' hR hL (hasL_st1 hl h0' rfl hl'))
    · exact h.elim
  case astore_n v =>
    rcases hln with hln | hln
    · cases hln
    subst hln
    split at h
    · obtain ⟨h0, h⟩ := h
      intro H locs ls hR hL hl
      have h0' := h0
      rw [hl.2.2.1] at h0'
      exact lv_astore_n hx hb hd rfl (hasL_lv hl) h0' rfl (fun ls' hl' => hK _ _ _ _ h H locs ls' hR hL (hasL_st1 hl h0' rfl hl'))
    · exact h.elim
  case lstore v =>
    rcases hln with hln | hln
    · cases hln
    subst hln
    split at h
    · obtain ⟨h0, h⟩ := h
      intro H locs ls hR hL hl
      have h0' := h0
      rw [hl.2.2.1] at h0'
      exact lv_lstore hx hb hd (hasL_lv hl) h0' rfl (fun ls' hl' => hK _ _ _ _ h H locs ls' hR hL (hasL_st2 hl h0' rfl hl'))
    · exact h.elim
  case lstore_n v =>
    rcases hln with hln | hln
    · cases hln
    subst hln
    split at h
    · obtain ⟨h0, h⟩ := h
      intro H locs ls hR hL hl
      have h0' := h0
      rw [hl.2.2.1] at h0'
      exact lv_lstore_n hx hb hd rfl (hasL_lv hl) h0' rfl (fun ls' hl' => hK _ _ _ _ h H locs ls' hR hL (hasL_st2 hl h0' rfl hl'))
    · exact h.elim
  case iinc v d =>
    rcases hln with hln | hln
    · cases hln
    subst hln
    split at h
    · rename_i w hw
      intro H locs ls hR hL hl
      obtain ⟨k0, hk0⟩ := List.getElem?_of_mem (prs_mem (X := X).mpr ⟨_, hw, rfl⟩)
      have h0' : v < nL := by
        have := (Array.getElem?_eq_some_iff.mp (hl.2.2.2 _ _ hw)).1
        rw [hl.1] at this; exact this
      exact lv_iinc hx hb hd (hasL_lv hl) hk0 rfl h0' rfl (fun ls' hl' => hK _ _ _ _ h H locs ls' hR hL (hasL_st1 hl h0' rfl hl'))
    · exact h.elim
  case iadd =>
    rcases hln with hln | hln
    · cases hln
    subst hln
    split at h
    · intro H locs ls hR hL hl
      exact lv_iadd hx hb hd (hK _ _ _ _ h H locs ls hR hL hl)
    · exact h.elim
  case isub =>
    rcases hln with hln | hln
    · cases hln
    subst hln
    split at h
    · intro H locs ls hR hL hl
      exact lv_isub hx hb hd (hK _ _ _ _ h H locs ls hR hL hl)
    · exact h.elim
  case imul =>
    rcases hln with hln | hln
    · cases hln
    subst hln
    split at h
    · intro H locs ls hR hL hl
      exact lv_imul hx hb hd (hK _ _ _ _ h H locs ls hR hL hl)
    · exact h.elim
  case iand =>
    rcases hln with hln | hln
    · cases hln
    subst hln
    split at h
    · intro H locs ls hR hL hl
      exact lv_iand hx hb hd (hK _ _ _ _ h H locs ls hR hL hl)
    · exact h.elim
  case ior =>
    rcases hln with hln | hln
    · cases hln
    subst hln
    split at h
    · intro H locs ls hR hL hl
      exact lv_ior hx hb hd (hK _ _ _ _ h H locs ls hR hL hl)
    · exact h.elim
  case ixor =>
    rcases hln with hln | hln
    · cases hln
    subst hln
    split at h
    · intro H locs ls hR hL hl
      exact lv_ixor hx hb hd (hK _ _ _ _ h H locs ls hR hL hl)
    · exact h.elim
  case ishl =>
    rcases hln with hln | hln
    · cases hln
    subst hln
    split at h
    · intro H locs ls hR hL hl
      exact lv_ishl hx hb hd (hK _ _ _ _ h H locs ls hR hL hl)
    · exact h.elim
  case ishr =>
    rcases hln with hln | hln
    · cases hln
    subst hln
    split at h
    · intro H locs ls hR hL hl
      exact lv_ishr hx hb hd (hK _ _ _ _ h H locs ls hR hL hl)
    · exact h.elim
  case ladd =>
    rcases hln with hln | hln
    · cases hln
    subst hln
    split at h
    · intro H locs ls hR hL hl
      exact lv_ladd hx hb hd (hK _ _ _ _ h H locs ls hR hL hl)
    · exact h.elim
  case lsub =>
    rcases hln with hln | hln
    · cases hln
    subst hln
    split at h
    · intro H locs ls hR hL hl
      exact lv_lsub hx hb hd (hK _ _ _ _ h H locs ls hR hL hl)
    · exact h.elim
  case lmul =>
    rcases hln with hln | hln
    · cases hln
    subst hln
    split at h
    · intro H locs ls hR hL hl
      exact lv_lmul hx hb hd (hK _ _ _ _ h H locs ls hR hL hl)
    · exact h.elim
  case land =>
    rcases hln with hln | hln
    · cases hln
    subst hln
    split at h
    · intro H locs ls hR hL hl
      exact lv_land hx hb hd (hK _ _ _ _ h H locs ls hR hL hl)
    · exact h.elim
  case lor =>
    rcases hln with hln | hln
    · cases hln
    subst hln
    split at h
    · intro H locs ls hR hL hl
      exact lv_lor hx hb hd (hK _ _ _ _ h H locs ls hR hL hl)
    · exact h.elim
  case lxor =>
    rcases hln with hln | hln
    · cases hln
    subst hln
    split at h
    · intro H locs ls hR hL hl
      exact lv_lxor hx hb hd (hK _ _ _ _ h H locs ls hR hL hl)
    · exact h.elim
  case iushr =>
    rcases hln with hln | hln
    · cases hln
    subst hln
    split at h
    · intro H locs ls hR hL hl
      exact lv_iushr hx hb hd rfl (hK _ _ _ _ h H locs ls hR hL hl)
    · exact h.elim
  case lshl =>
    rcases hln with hln | hln
    · cases hln
    subst hln
    split at h
    · intro H locs ls hR hL hl
      exact lv_lshl hx hb hd rfl (hK _ _ _ _ h H locs ls hR hL hl)
    · exact h.elim
  case lshr =>
    rcases hln with hln | hln
    · cases hln
    subst hln
    split at h
    · intro H locs ls hR hL hl
      exact lv_lshr hx hb hd rfl (hK _ _ _ _ h H locs ls hR hL hl)
    · exact h.elim
  case lushr =>
    rcases hln with hln | hln
    · cases hln
    subst hln
    split at h
    · intro H locs ls hR hL hl
      exact lv_lushr hx hb hd rfl (hK _ _ _ _ h H locs ls hR hL hl)
    · exact h.elim
  case i2l =>
    rcases hln with hln | hln
    · cases hln
    subst hln
    split at h
    · intro H locs ls hR hL hl
      exact lv_i2l hx hb hd rfl (hK _ _ _ _ h H locs ls hR hL hl)
    · exact h.elim
  case l2i =>
    rcases hln with hln | hln
    · cases hln
    subst hln
    split at h
    · intro H locs ls hR hL hl
      exact lv_l2i hx hb hd rfl (hK _ _ _ _ h H locs ls hR hL hl)
    · exact h.elim
  case i2b =>
    rcases hln with hln | hln
    · cases hln
    subst hln
    split at h
    · intro H locs ls hR hL hl
      exact lv_i2b hx hb hd rfl (hK _ _ _ _ h H locs ls hR hL hl)
    · exact h.elim
  case lcmp =>
    rcases hln with hln | hln
    · cases hln
    subst hln
    split at h
    · intro H locs ls hR hL hl
      exact W.lcmp hx hb hd (hK _ _ _ _ h H locs ls hR hL hl)
    · exact h.elim
  case idiv =>
    rcases hln with hln | hln
    · cases hln
    subst hln
    split at h
    · intro H locs ls hR hL hl
      exact lv_idiv hx hb hd h.1 (hK _ _ _ _ h.2 H locs ls hR hL hl)
    · exact h.elim
  case irem =>
    rcases hln with hln | hln
    · cases hln
    subst hln
    split at h
    · intro H locs ls hR hL hl
      exact lv_irem hx hb hd h.1 (hK _ _ _ _ h.2 H locs ls hR hL hl)
    · exact h.elim
  case ldiv =>
    rcases hln with hln | hln
    · cases hln
    subst hln
    split at h
    · intro H locs ls hR hL hl
      exact lv_ldiv hx hb hd h.1 (hK _ _ _ _ h.2 H locs ls hR hL hl)
    · exact h.elim
  case lrem =>
    rcases hln with hln | hln
    · cases hln
    subst hln
    split at h
    · intro H locs ls hR hL hl
      exact lv_lrem hx hb hd h.1 (hK _ _ _ _ h.2 H locs ls hR hL hl)
    · exact h.elim
  case dup =>
    rcases hln with hln | hln
    · cases hln
    subst hln
    split at h
    · intro H locs ls hR hL hl
      exact lv_dup hx hb hd (by rw [mv_cat]; exact h.1) (hK _ _ _ _ h.2 H locs ls hR hL hl)
    · exact h.elim
  case pop =>
    rcases hln with hln | hln
    · cases hln
    subst hln
    split at h
    · intro H locs ls hR hL hl
      exact lv_pop hx hb hd (by rw [mv_cat]; exact h.1) (hK _ _ _ _ h.2 H locs ls hR hL hl)
    · exact h.elim
  case dup2 =>
    rcases hln with hln | hln
    · cases hln
    subst hln
    split at h
    · intro H locs ls hR hL hl
      exact lv_dup2_2 hx hb hd rfl (hK _ _ _ _ h H locs ls hR hL hl)
    · intro H locs ls hR hL hl
      exact lv_dup2_11 hx hb hd (by rw [mv_cat]; exact h.1) (by rw [mv_cat]; exact h.2.1) (hK _ _ _ _ h.2.2 H locs ls hR hL hl)
    · exact h.elim
  case goto off =>
    rcases hln with hln | hln
    · cases hln
    subst hln
    intro H locs ls hR hL hl
    exact lv_goto hx hb hd (Int.toNat_of_nonneg h.1).symm (hK _ _ _ _ h.2 H locs ls hR hL hl)
  case ifCond cd off =>
    rcases hln with hln | hln
    · cases hln
    subst hln
    split at h
    · intro H locs ls hR hL hl
      obtain ⟨h0, h1, h2⟩ := h
      have ht := (Int.toNat_of_nonneg h0).symm
      cases cd
      · exact lv_if_eq hx hb hd ht (fun z => hK _ _ _ _ (h1 z) H locs ls hR hL hl) (fun z => hK _ _ _ _ (h2 z) H locs ls hR hL hl)
      · exact lv_if_ne hx hb hd ht (fun z => hK _ _ _ _ (h1 z) H locs ls hR hL hl) (fun z => hK _ _ _ _ (h2 (fun zz => zz z)) H locs ls hR hL hl)
      · exact lv_if_lt hx hb hd ht (fun z => hK _ _ _ _ (h1 z) H locs ls hR hL hl) (fun z => hK _ _ _ _ (h2 z) H locs ls hR hL hl)
      · exact lv_if_ge hx hb hd ht (fun z => hK _ _ _ _ (h1 z) H locs ls hR hL hl) (fun z => hK _ _ _ _ (h2 z) H locs ls hR hL hl)
      · exact lv_if_gt hx hb hd ht (fun z => hK _ _ _ _ (h1 z) H locs ls hR hL hl) (fun z => hK _ _ _ _ (h2 z) H locs ls hR hL hl)
      · exact lv_if_le hx hb hd ht (fun z => hK _ _ _ _ (h1 z) H locs ls hR hL hl) (fun z => hK _ _ _ _ (h2 z) H locs ls hR hL hl)
    · exact h.elim
  case if_icmp cd off =>
    rcases hln with hln | hln
    · cases hln
    subst hln
    split at h
    · intro H locs ls hR hL hl
      obtain ⟨h0, h1, h2⟩ := h
      have ht := (Int.toNat_of_nonneg h0).symm
      cases cd
      · exact lv_icmp_eq hx hb hd ht (fun z => hK _ _ _ _ (h1 z) H locs ls hR hL hl) (fun z => hK _ _ _ _ (h2 z) H locs ls hR hL hl)
      · exact lv_icmp_ne hx hb hd ht (fun z => hK _ _ _ _ (h1 z) H locs ls hR hL hl) (fun z => hK _ _ _ _ (h2 (fun zz => zz z)) H locs ls hR hL hl)
      · exact lv_icmp_lt hx hb hd ht (fun z => hK _ _ _ _ (h1 z) H locs ls hR hL hl) (fun z => hK _ _ _ _ (h2 z) H locs ls hR hL hl)
      · exact lv_icmp_ge hx hb hd ht (fun z => hK _ _ _ _ (h1 z) H locs ls hR hL hl) (fun z => hK _ _ _ _ (h2 z) H locs ls hR hL hl)
      · exact lv_icmp_gt hx hb hd ht (fun z => hK _ _ _ _ (h1 z) H locs ls hR hL hl) (fun z => hK _ _ _ _ (h2 z) H locs ls hR hL hl)
      · exact lv_icmp_le hx hb hd ht (fun z => hK _ _ _ _ (h1 z) H locs ls hR hL hl) (fun z => hK _ _ _ _ (h2 z) H locs ls hR hL hl)
    · exact h.elim
  case ifnull off =>
    rcases hln with hln | hln
    · cases hln
    subst hln
    split at h
    · intro H locs ls hR hL hl
      exact lv_ifnull hx hb hd (hK _ _ _ _ h H locs ls hR hL hl)
    · intro H locs ls hR hL hl
      exact lv_ifnullN hx hb hd (Int.toNat_of_nonneg h.1).symm (hK _ _ _ _ h.2 H locs ls hR hL hl)
    · exact h.elim
  case ifnonnull off =>
    rcases hln with hln | hln
    · cases hln
    subst hln
    split at h
    · intro H locs ls hR hL hl
      exact lv_ifnonnullN hx hb hd (hK _ _ _ _ h H locs ls hR hL hl)
    · intro H locs ls hR hL hl
      exact lv_ifnonnull hx hb hd (Int.toNat_of_nonneg h.1).symm (hK _ _ _ _ h.2 H locs ls hR hL hl)
    · exact h.elim
  case tableswitch d lo hi offs =>
    split at h
    · rename_i x r
      obtain ⟨h0, h1, h2, h3, h4, h5⟩ := h
      intro H locs ls hR hL hl
      by_cases hlo : x.toInt < lo
      · exact lv_tableOut hx hb hd (Or.inl hlo) (Int.toNat_of_nonneg h2).symm (hK _ _ _ _ (h5 (Or.inl hlo)) H locs ls hR hL hl)
      by_cases hhi : hi < x.toInt
      · exact lv_tableOut hx hb hd (Or.inr hhi) (Int.toNat_of_nonneg h2).symm (hK _ _ _ _ (h5 (Or.inr hhi)) H locs ls hR hL hl)
      obtain ⟨o, ho⟩ : ∃ o, offs.toList[(x.toInt - lo).toNat]? = some o := ⟨_, List.getElem?_eq_getElem (by omega)⟩
      exact lv_tableIn hx hb hd hlo hhi (by rw [← Array.getElem?_toList]; exact ho) (Int.toNat_of_nonneg (h3 _ (List.mem_of_getElem? ho))).symm (hK _ _ _ _ (swK_at h4 ho (by omega) h1.1 (by omega)) H locs ls hR hL hl)
    · exact h.elim
  case getfield v =>
    rcases hln with hln | hln
    · cases hln
    subst hln
    split at h
    · rename_i q hq
      split at h
      · rename_i a r
        intro H locs ls hR hL hl
        obtain ⟨C, T, N, q1, q2, q3⟩ := fT_ok _ _ _ hq
        obtain ⟨r0, e1, cell, c1, c2, c3, c4⟩ := hR.2.2 a _ h.1
        cases q1.symm.trans e1
        obtain ⟨hS9, hfc, kC, hkC, hkind⟩ := hKK.1 _ _ q1
        obtain ⟨cf, kf, fi, f, hi, hsl⟩ := hS9 q.2 q2
        obtain ⟨w1, w2, w3, -⟩ := clOK _ _ _ _ q1
        exact W.getf hx hb hown (hts _ q3) hi (u_facts hfc hkC (u_lays hts w1 q2) hi).1 c1 (by rw [c3]; exact fun z => by cases z) (by rw [hsl]; exact c4 _ q2) rfl rfl hd (hK _ _ _ _ h.2 H locs ls hR hL hl)
      · exact h.elim
    · split at h
      · rename_i k1 hk1
        split at h
        · rename_i a r
          obtain ⟨g1, h⟩ := h
          intro H locs ls hR hL hl
          obtain ⟨e1, e2⟩ := wT_ok _ _ _ hk1
          obtain ⟨cf, kc, fi, f, cell, h1, h2, h3, h4, h5, h6⟩ := (hKK.2.2.2.1 (a - CB) (cb_sub g1.1 g1.2)).2 k1 e1
          have ha : ph X a = X.2.1 (a - CB) := by
            have := ph_w (X := X) (a - CB)
            rwa [cb_add g1.1] at this
          refine W.getf hx hb hown (hts _ e2) h1 h2 (a := ph X a) (cell := cell) (v := mv X (wdV (a - CB) k1)) ?_ h4 (by rw [wdV_mv]; exact h5) rfl rfl hd (hK _ _ _ _ h H locs ls hR hL hl)
          rw [ha, hR.2.1 _ (hX _)]; exact h3
        · exact h.elim
      · exact hS h
  case getstatic v =>
    rcases hln with hln | hln
    · cases hln
    subst hln
    split at h
    · rename_i i hi
      intro H locs ls hR hL hl
      obtain ⟨e1, e2⟩ := sT_ok _ _ _ hi
      obtain ⟨cf, kf, fi, f, a, cell, h1, h2, h3, h4, h5, h6, h7, h8⟩ := (hKK.2.2.2.1 i e1).1
      have ha : a < X.1.size := (Array.getElem?_eq_some_iff.mp h5).1
      refine W.gets hx hb hown (hts _ e2) h1 h2 h3 h4 (by rw [hR.2.1 a ha]; exact h5) (fun z => by rw [z] at h6; cases h6) (v := mv X (.ref (CB + i))) (by show _ = some (Value.ref (ph X (CB + i))); rw [ph_w]; exact h7) rfl hd (hK _ _ _ _ h H locs ls hR hL hl)
    · exact hS h
  case if_acmp cd off =>
    rcases hln with hln | hln
    · cases hln
    subst hln
    split at h
    · obtain ⟨x, y, rfl, rfl, ⟨o1, o2⟩, h0, h⟩ := h
      intro H locs ls hR hL hl
      have ht := (Int.toNat_of_nonneg h0).symm
      have hiff : x.map (ph X) = y.map (ph X) ↔ x = y := by
        constructor
        · intro z
          cases x with
          | none => cases y with
            | none => rfl
            | some b => cases z
          | some a => cases y with
            | none => cases z
            | some b =>
              simp only [Option.map_some, Option.some.injEq] at z
              rw [ph_inj hKK.2.2.1 (o1 a rfl) (o2 b rfl) z]
        · intro z; rw [z]
      simp only [List.map_cons, mv_rf]
      cases cd
      · exact lv_acmp_eq hx hb hd ht (fun z => hK _ _ _ _ (h.1 (hiff.mp z)) H locs ls hR hL hl) (fun z => hK _ _ _ _ (h.2 (fun w => z (hiff.mpr w))) H locs ls hR hL hl)
      · exact lv_acmp_ne hx hb hd ht (fun z => hK _ _ _ _ (h.1 (fun w => z (hiff.mpr w))) H locs ls hR hL hl) (fun z => hK _ _ _ _ (h.2 (hiff.mp z)) H locs ls hR hL hl)
    · exact h.elim
  case putfield v =>
    rcases hln with hln | hln
    · cases hln
    subst hln
    split at h
    · rename_i q hq
      split at h
      · rename_i w a r
        obtain ⟨g1, g2, g3, g4, h⟩ := h
        intro H locs ls hR hL hl
        obtain ⟨C, T, N, q1, q2, q3⟩ := fT_ok _ _ _ hq
        obtain ⟨r0, e1, cell, c1, c2, c3, c4⟩ := hR.2.2 a _ g1
        cases q1.symm.trans e1
        obtain ⟨hS9, hfc, kC, hkC, hkind⟩ := hKK.1 _ _ q1
        obtain ⟨cf, kf, fi, f, hi, hsl⟩ := hS9 q.2 q2
        obtain ⟨w1, w2, w3, w4⟩ := clOK _ _ _ _ q1
        obtain ⟨n1, n2⟩ := okv_narrow (X := X) g4
        have hap := kk_apart hKK hts q1
        have hA : X.1.size ≤ ph X a := by rw [ph_lt g2]; omega
        have fin : ∀ H' : Heap, H'[ph X a]? = some (cell.setSlot f.slot (mv X w)) → H'.size = H.size → (∀ z, z ≠ ph X a → H'[z]? = H[z]?) → W p l e R s m args below meth c H' (locs ++ [⟨ph X a, f.slot⟩]) k q0 (MQ below (QP X Post) args s mc ms (fun z => X.1.size ≤ z)) (F0 m (pc + 3) ls (r.map (mv X))) := by
          intro H' e1 e2 e3
          rw [hsl] at e1
          refine hK _ _ _ _ h H' _ ls (hR.put hX g2 g1 ⟨_, q1, t_OB.to ⟨_, e1, c2, c3, t_set c4 hap q2 _⟩ (fun j _ => ?_)⟩ e2 e3) (fun z hz => ?_) hl
          · unfold updV
            by_cases hj : j = q.2
            · rw [if_pos hj, hj, rd_wr_eq g4]
            · rw [if_neg hj, rd_wr_ne (fun z => hj z.2)]
          · rcases List.mem_append.mp hz with z1 | z1
            · exact hL z z1
            · rw [List.mem_singleton.mp z1]; exact hA
        have hlay := hts _ (w1 _ (u_in_lay q2))
        unfold u_lay at hlay
        by_cases hfi : (T q.2).2.2.2 = true
        · rw [if_pos hfi] at hlay
          obtain ⟨hi1, hi2⟩ : ini = true ∧ q.1 = own := by
            rcases g3 with z | z
            · unfold finF at z; rw [q1] at z; change (T q.2).2.2.2 = false at z; rw [z] at hfi; cases hfi
            · exact z
          have hcf : m.cls = cf := by
            obtain ⟨_, _, c', _, _, _, -, -, hf', -, -, -, hown2, -⟩ := Cond.laysFinal_spec hlay
            have e9 : c' = cf := by have := hi.symm.trans hf'; simp at this; exact this.1.symm
            rw [w4 _ q2, hi2] at hown2
            rw [← e9]; exact Option.some.inj (hown.symm.trans hown2)
          have h6 := u_fits hfc hkC hkind (Or.inr hlay) hi (w2 _ q2) n1 n2
          exact W.putFinK hx hb hown (hts _ q3) hi (u_facts hfc hkC (u_lays hts w1 q2) hi).1 hcf (hini hi1) (by rw [c2]; exact h6) c1 c3 (by rw [hsl]; exact k2_hasslot (c4 _ q2)) rfl rfl hd fin
        · rw [if_neg hfi] at hlay
          have h6 := u_store hfc hkC hkind hlay hi (w2 _ q2) n1 n2
          exact W.putK hx hb (f := f) ⟨hown, hts _ q3, ⟨_, _, _, hi⟩, (u_facts hfc hkC (u_lays hts w1 q2) hi).1⟩ (by rw [c2]; exact h6) c1 c3 (by rw [hsl]; exact k2_hasslot (c4 _ q2)) rfl rfl hd fin
      · exact h.elim
    · exact hS h
  case iaload =>
    rcases hln with hln | hln
    · cases hln
    subst hln
    split at h
    · rename_i j a r
      obtain ⟨⟨n, g1, g2⟩, h⟩ := h
      intro H locs ls hR hL hl
      obtain ⟨ce, hc, c2, c3, c4, c5⟩ := hR.ari hKK g1
      exact W.iald (v := .int (M.2.1 _ _)) hx hb hc c2 c3 (by rw [c4]; exact inx_in g2) (c5 _ (inx_lt g2)) rfl rfl hd (hK _ _ _ _ h H locs ls hR hL hl)
    · exact h.elim
  case laload =>
    rcases hln with hln | hln
    · cases hln
    subst hln
    split at h
    · rename_i j a r
      obtain ⟨⟨n, g1, g2⟩, h⟩ := h
      intro H locs ls hR hL hl
      have hc : H[ph X a]? = some (arrV _ _ _) := hR.arr g1 (Or.inr (show FieldType.long ≠ .int from fun z => by cases z))
      exact W.lald (v := .long (M.2.2.1 _ _)) hx hb hc ((hKK.2.1 .long (Or.inr (Or.inl rfl))).1 _ _) (fun z => by cases z) (by rw [arrV_size]; exact inx_in g2) (arrV_read _ _ (inx_lt g2)) rfl rfl hd (hK _ _ _ _ h H locs ls hR hL hl)
    · exact h.elim
  case aaload =>
    rcases hln with hln | hln
    · cases hln
    subst hln
    split at h
    · rename_i j a r
      split at h
      · rename_i ha
        obtain ⟨g2, h⟩ := h
        intro H locs ls hR hL hl
        obtain ⟨cell, h1, h2, h3, h4, h5, h6, h7⟩ := hKK.2.2.2.2.2.1
        have hc : H[ph X a]? = some cell := by rw [ha, ph_w, hR.2.1 _ (hX _)]; exact h1
        have hlt := inx_lt g2
        refine W.aald (v := mv X (.ref (CB + j.toNatClampNeg))) hx hb hc h2 rfl h3 (fun z => ?_) (by show _ = some (Value.ref (ph X (CB + j.toNatClampNeg))); rw [ph_w]; exact h6 _ hlt) rfl rfl hd (hK _ _ _ _ h H locs ls hR hL hl)
        rcases z with z | z
        · exact inx_in g2 (Or.inl z)
        · omega
      · obtain ⟨⟨n, g1, g2⟩, h⟩ := h
        intro H locs ls hR hL hl
        have hc : H[ph X a]? = some (arrV _ _ _) := hR.arr g1 (Or.inr (show FieldType.object RX6 ≠ .int from fun z => by cases z))
        exact W.aald (v := mv X (va_rf (M.2.2.2.1 a j.toNatClampNeg))) hx hb hc ((hKK.2.1 _ (Or.inr (Or.inr (Or.inr (Or.inr rfl))))).1 _ _) rfl (fun z => by cases z) (by rw [arrV_size]; exact inx_in g2) (arrV_read _ _ (inx_lt g2)) rfl rfl hd (hK _ _ _ _ h H locs ls hR hL hl)
    · exact h.elim
  case baload =>
    rcases hln with hln | hln
    · cases hln
    subst hln
    split at h
    · rename_i j a r
      obtain ⟨⟨n, g1, g2⟩, h⟩ := h
      intro H locs ls hR hL hl
      rcases g1 with g1 | g1
      · have hc : H[ph X a]? = some (arrV _ _ _) := hR.arr g1 (Or.inr (show FieldType.byte ≠ .int from fun z => by cases z))
        exact W.bald (v := .int (M.2.1 _ _)) hx hb hc ((hKK.2.1 .byte (Or.inr (Or.inr (Or.inl rfl)))).1 _ _) (fun z => by cases z) (by rw [arrV_size]; exact inx_in g2) (arrV_read _ _ (inx_lt g2)) rfl rfl hd (hK _ _ _ _ h H locs ls hR hL hl)
      · have hc : H[ph X a]? = some (arrV _ _ _) := hR.arr g1 (Or.inr (show FieldType.boolean ≠ .int from fun z => by cases z))
        exact W.zald (v := .int (M.2.1 _ _)) hx hb hc ((hKK.2.1 .boolean (Or.inr (Or.inr (Or.inr (Or.inl rfl))))).1 _ _) (fun z => by cases z) (by rw [arrV_size]; exact inx_in g2) (arrV_read _ _ (inx_lt g2)) rfl rfl hd (hK _ _ _ _ h H locs ls hR hL hl)
    · exact h.elim
  case iastore =>
    rcases hln with hln | hln
    · cases hln
    subst hln
    split at h
    · rename_i x j a r
      obtain ⟨⟨⟨n, g1, g2⟩, g3⟩, h⟩ := h
      intro H locs ls hR hL hl
      have hc : H[ph X a]? = some (arrV _ _ _) := hR.arr g1 (Or.inl g3)
      refine W.iast hx hb hc ((hKK.2.1 .int (Or.inl rfl)).1 _ _) (fun z => by cases z) (by rw [arrV_size]; exact inx_in g2) rfl rfl hd (fun H' e1 e2 e3 => ?_)
      exact hK _ _ _ _ h H' _ ls (hR.put (v := .int x) hX g3 g1 (cel_arr trivial (inx_lt g2) e1) e2 e3) (locs_app hL (by rw [ph_lt g3]; omega)) hl
    · exact h.elim
  case lastore =>
    rcases hln with hln | hln
    · cases hln
    subst hln
    split at h
    · rename_i x j a r
      obtain ⟨⟨⟨n, g1, g2⟩, g3⟩, h⟩ := h
      intro H locs ls hR hL hl
      have hc : H[ph X a]? = some (arrV _ _ _) := hR.arr g1 (Or.inl g3)
      refine W.last hx hb hc ((hKK.2.1 .long (Or.inr (Or.inl rfl))).1 _ _) (fun z => by cases z) (by rw [arrV_size]; exact inx_in g2) rfl rfl hd (fun H' e1 e2 e3 => ?_)
      exact hK _ _ _ _ h H' _ ls (hR.put (v := .long x) hX g3 g1 (cel_arr trivial (inx_lt g2) e1) e2 e3) (locs_app hL (by rw [ph_lt g3]; omega)) hl
    · exact h.elim
  case bastore =>
    rcases hln with hln | hln
    · cases hln
    subst hln
    split at h
    · rename_i x j a r
      obtain ⟨⟨⟨n, g1, g2⟩, g3⟩, h⟩ := h
      intro H locs ls hR hL hl
      rcases g1 with ⟨g1, g4⟩ | ⟨g1, g4⟩
      · have hc : H[ph X a]? = some (arrV _ _ _) := hR.arr g1 (Or.inl g3)
        refine W.bast hx hb hc ((hKK.2.1 .byte (Or.inr (Or.inr (Or.inl rfl)))).1 _ _) (fun z => by cases z) (by rw [arrV_size]; exact inx_in g2) rfl rfl hd (fun H' e1 e2 e3 => ?_)
        rw [show narrow .byte (.int x) = .int x from (okv_narrow (X := X) (ty := .byte) (v := .int x) g4).1] at e1
        exact hK _ _ _ _ h H' _ ls (hR.put (v := .int x) hX g3 g1 (cel_arr g4 (inx_lt g2) e1) e2 e3) (locs_app hL (by rw [ph_lt g3]; omega)) hl
      · have hc : H[ph X a]? = some (arrV _ _ _) := hR.arr g1 (Or.inl g3)
        refine W.zast hx hb hc ((hKK.2.1 .boolean (Or.inr (Or.inr (Or.inr (Or.inl rfl))))).1 _ _) (fun z => by cases z) (by rw [arrV_size]; exact inx_in g2) rfl rfl hd (fun H' e1 e2 e3 => ?_)
        rw [show narrow .boolean (.int x) = .int x from (okv_narrow (X := X) (ty := .boolean) (v := .int x) g4).1] at e1
        exact hK _ _ _ _ h H' _ ls (hR.put (v := .int x) hX g3 g1 (cel_arr g4 (inx_lt g2) e1) e2 e3) (locs_app hL (by rw [ph_lt g3]; omega)) hl
    · exact h.elim
  case arraylength =>
    rcases hln with hln | hln
    · cases hln
    subst hln
    split at h
    · rename_i a r
      split at h
      · rename_i ha
        intro H locs ls hR hL hl
        obtain ⟨cell, h1, h2, h3, h4, h5, h6, h7⟩ := hKK.2.2.2.2.2.1
        have hc : H[ph X a]? = some cell := by rw [ha, ph_w, hR.2.1 _ (hX _)]; exact h1
        exact W.alen (n := 21) hx hb hc h2 h5 rfl rfl hd (hK _ _ _ _ h H locs ls hR hL hl)
      · split at h
        · rename_i q hq
          intro H locs ls hR hL hl
          by_cases hi : q.1 = .int
          · obtain ⟨qt, qn⟩ := q
            subst hi
            obtain ⟨ce, hc, c2, c3, c4, c5⟩ := hR.ari hKK hq
            exact W.alen (n := Int32.ofNat qn) hx hb hc c2 (by rw [c4]) rfl rfl hd (hK _ _ _ _ h.2 H locs ls hR hL hl)
          have hc : H[ph X a]? = some (arrV _ _ _) := hR.arr hq (Or.inr hi)
          exact W.alen (n := Int32.ofNat q.2) hx hb hc ((hKK.2.1 _ h.1).1 _ _) (by rw [arrV_size]) rfl rfl hd (hK _ _ _ _ h.2 H locs ls hR hL hl)
        · exact h.elim
    · exact h.elim
  case ireturn =>
    rcases hln with hln | hln
    · cases hln
    subst hln
    split at h
    · rename_i x
      obtain ⟨g1, h⟩ := h
      intro H locs ls hR hL hl
      refine W.widen hkq.1 hkq.2 ?_
      rcases g1 with rfl | ⟨rfl, g2⟩
      · exact W.iret hx hb hr (fun t ht hW => ⟨_, _, rfl, hP _ _ h, by rw [ht]; exact hR⟩) hL hd hlk
      · exact W.zret hx hb hr (okv_narrow (X := X) (ty := .boolean) (v := .int x) g2).1 (fun t ht hW => ⟨_, _, rfl, hP _ _ h, by rw [ht]; exact hR⟩) hL hd hlk
    · exact h.elim
  case lreturn =>
    rcases hln with hln | hln
    · cases hln
    subst hln
    split at h
    · obtain ⟨rfl, h⟩ := h
      intro H locs ls hR hL hl
      refine W.widen hkq.1 hkq.2 ?_
      exact W.lret hx hb hr (fun t ht hW => ⟨_, _, rfl, hP _ _ h, by rw [ht]; exact hR⟩) hL hd hlk
    · exact h.elim
  case return_ =>
    rcases hln with hln | hln
    · cases hln
    subst hln
    split at h
    · obtain ⟨rfl, h⟩ := h
      intro H locs ls hR hL hl
      refine W.widen hkq.1 hkq.2 ?_
      exact W.vret hx hb hr (fun t ht hW => ⟨none, _, rfl, hP _ _ h, by rw [ht]; exact hR⟩) hL hd hlk
    · exact h.elim
/-- the instructions up to the stops -/
theorem wp_sound {X : Cx} {own : Nat} {ini : Bool} {cc : ByteArray} {nL : Nat} {rt : Option FieldType} {Post : Option Value → Mm → Prop} {mc ms k q0 : Nat} (C0 : Ct p s m args meth c X own ini cc nL rt) (hkq : k ≤ mc ∧ q0 ≤ ms) (stops : List Nat) :
    ∀ (f pc : Nat) (L : List (Option Value)) (st : List Value) (M : Mm), wp own ini rt cc stops (WG p l e R s m args below meth c X nL Post mc ms k q0) Post f pc L st M → WG p l e R s m args below meth c X nL Post mc ms k q0 pc L st M
  | 0, pc, L, st, M, h => h
  | f + 1, pc, L, st, M, h => by
    unfold wp at h
    split at h
    · rename_i i len hd
      refine step_sound C0 hkq hd h.1 h.2 (fun pc' L' st' M' hk => ?_) (fun z => z) (fun _ _ z => z)
      split at hk
      · exact hk
      · exact wp_sound C0 hkq stops f pc' L' st' M' hk
    · exact h.elim
end WG
