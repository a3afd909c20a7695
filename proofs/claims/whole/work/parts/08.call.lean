/-! contracts: from typed memory M, with arguments As, the method comes to its end with Post of its answer and the memory -/
def wsm (y : MethodName) (cc : ByteArray) (n : Nat) (r : Option FieldType) : List Cond := Cond.code y cc n r :: gtbl
def rmm (d k q : Nat) : Room := { frames := d, cells := k, slots := q, locals := 40 * d }
def PreC (X : Cx) (As : List Value) (M : Mm) : Array Value → State → Prop := fun v U => v = (As.map (mv X)).toArray ∧ Rel X M U.heap ∧ KK X U
def Cn (l : Launch) (X : Cx) (y : MethodName) (cc : ByteArray) (n : Nat) (r : Option FieldType) (d : Nat) (As : List Value) (M : Mm) (Post : Option Value → Mm → Prop) (mc ms : Nat) : Prop :=
  Met l y (wsm y cc n r) (rmm d mc ms) (PreC X As M) (QP X Post) mc ms (fun z => X.1.size ≤ z)
theorem PreC.blind (X : Cx) (As : List Value) (M : Mm) : FrameBlind (PreC X As M) := fun a U g mk q => ⟨q.1, q.2.1, by
  obtain ⟨k1, k2, k3, k4, k5, k6, k7, k8⟩ := q.2.2
  exact ⟨k1, k2, k3, k4, k5, k6, ⟨fun w hw => va_Nw.same rfl rfl (k7.1 w hw), va_Nw.same rfl rfl k7.2.1, va_AO.moved (Vm.Alike.refl U.vm) k7.2.2⟩, fun ce hc => ⟨State.isArrayOf_alike (Vm.Alike.refl U.vm) (k8 ce hc).1, (k8 ce hc).2⟩⟩⟩
/-- the locals at a method's entry -/
def entL (n : Nat) (As : List Value) : List (Option Value) := (As.flatMap (fun v => if v.category = 2 then [some v, none] else [some v])) ++ List.replicate (n - (As.flatMap (fun v => if v.category = 2 then [some v, none] else [some v])).length) none
def entA (As : List Value) : List (Option Value) := As.flatMap (fun v => if v.category = 2 then [some v, none] else [some v])
theorem entA_mem {X : Cx} : ∀ {As : List Value} {k i : Nat} {v : Value}, (entA As).getD i none = some v → (k + i, mv X v) ∈ lv_args k (As.map (mv X))
  | [], k, i, v, h => by simp [entA] at h
  | a :: As, k, i, v, h => by
    rw [List.map_cons, lv_args]
    unfold entA at h
    rw [List.flatMap_cons] at h
    by_cases hc : a.category = 2
    · rw [if_pos hc] at h
      rw [mv_cat, if_pos hc]
      match i, h with
      | 0, h =>
        simp at h
        subst h
        exact List.mem_cons_self
      | 1, h => simp at h
      | i + 2, h =>
        have h' : (entA As).getD i none = some v := by simpa [entA] using h
        have := entA_mem (X := X) (k := k + 2) h'
        rw [show k + 2 + i = k + (i + 2) by omega] at this
        exact List.mem_cons_of_mem _ this
    · rw [if_neg hc] at h
      rw [mv_cat, if_neg hc]
      match i, h with
      | 0, h =>
        simp at h
        subst h
        exact List.mem_cons_self
      | i + 1, h =>
        have h' : (entA As).getD i none = some v := by simpa [entA] using h
        have := entA_mem (X := X) (k := k + 1) h'
        rw [show k + 1 + i = k + (i + 1) by omega] at this
        exact List.mem_cons_of_mem _ this
theorem entA_len (X : Cx) : ∀ As : List Value, (lg_sl (As.map (mv X))).length = (entA As).length
  | [] => rfl
  | a :: As => by
    have ih := entA_len X As
    unfold lg_sl entA at *
    rw [List.map_cons, List.flatMap_cons, List.flatMap_cons, List.length_append, List.length_append, ih, mv_cat]
    congr 1
    by_cases hc : a.category = 2
    · simp [hc]
    · simp [hc]
theorem entL_eq (n : Nat) (As : List Value) : entL n As = entA As ++ List.replicate (n - (entA As).length) none := rfl
theorem hasL_entry {X : Cx} {n : Nat} {As : List Value} (h : (entA As).length ≤ n) : hasL X ((lg_sl (As.map (mv X)) ++ List.replicate (n - (lg_sl (As.map (mv X))).length) Slot.unset).toArray) n (entL n As) := by
  have h1 := lv_entry (As.map (mv X)) (n := n) (by rw [entA_len]; exact h)
  refine ⟨h1.1, h1.2.1, by rw [entL_eq, List.length_append, List.length_replicate]; omega, fun i v hv => ?_⟩
  have hv' : (entA As).getD i none = some v := by
    rw [entL_eq, List.getD_eq_getElem?_getD] at hv
    rcases Nat.lt_or_ge i (entA As).length with q | q
    · rw [List.getElem?_append_left q] at hv
      rw [List.getD_eq_getElem?_getD]; exact hv
    · rw [List.getElem?_append_right q, List.getElem?_replicate] at hv
      split at hv <;> cases hv
  have := entA_mem (X := X) (k := 0) hv'
  rw [Nat.zero_add] at this
  exact h1.2.2 _ this
/-- a contract out of its walk -/
theorem Cn.of {l : Launch} {X : Cx} {y : MethodName} {cc : ByteArray} {n : Nat} {r : Option FieldType} {d : Nat} {As : List Value} {M : Mm} {Post : Option Value → Mm → Prop} {mc ms : Nat} (own : Nat) (ini : Bool) (hy : plainName y.cls = true) (hcls : y.cls = RN own) (hini : ini = true → y.name = "<init>") (hlen : (entA As).length ≤ n)
    (body : ∀ (p : Program) (e : Env) (s : State) (m : MethodId) (args : Array Value) (below : List Frame) (meth : Method) (c : Code), Ct p s m args meth c X own ini cc n r → WG p l e (rmm d mc ms) s m args below meth c X n Post mc ms 0 0 0 (entL n As) [] M) : Cn l X y cc n r d As M Post mc ms := by
  refine Met.ofW (cc := cc) (maxL := n) (ret := r) hy rfl ?_
  intro p e s m args below meth c s₁ B hml hv
  obtain ⟨rfl, hR, hK⟩ := hv
  have hts := atoms_spec (ws := wsm y cc n r) B.pre
  have hown : s.vm.findClass (RN own) = some m.cls := hcls ▸ findClass_of_methodNamed B.named
  have C0 : Ct p s m (As.map (mv X)).toArray meth c X own ini cc n r := ⟨B.exec, B.bytes, B.returns, hml, hown, fun w hw => hts w (List.mem_cons_of_mem _ hw), B.notSynchronized, hK, fun z => (name_of_methodNamed B.named B.method).1.trans (hini z)⟩
  have h := body p e s m _ below meth c C0 s.heap [] _ hR (fun z hz => by cases hz) (hasL_entry hlen)
  rw [lg_entry_eq]
  exact h
section CallRules
variable {p : Program} {l : Launch} {e : Env} {R : Room} {s : State} {m : MethodId} {args : Array Value} {below : List Frame} {meth : Method} {c : Code}
/-- what a call's run gives -/
theorem WG.ofRun {X : Cx} {nL mc ms k q0 pc : Nat} {Post Post' : Option Value → Mm → Prop} {L : List (Option Value)} {st rest : List Value} {M : Mm} {mc' ms' : Nat} {a : Array Value}
    (run : ∀ (H : Heap) (locs : List Loc) (ls : Array Slot), Rel X M H → hasL X ls nL L → va_Run p l e R s m args below meth c H locs k q0 mc' ms' (F0 m pc ls (st.map (mv X))) (rest.map (mv X)) (QP X Post' a) (fun z => X.1.size ≤ z))
    (kk : ∀ r M', Post' r M' → WG p l e R s m args below meth c X nL Post mc ms (k + mc') (q0 + ms') (pc + 3) L (r.toList ++ rest) M') : WG p l e R s m args below meth c X nL Post mc ms k q0 pc L st M := by
  intro H locs ls hR hL hl T hT X0
  obtain ⟨v, st₀, t, T', L', h0, X', hL', e1, e2, ⟨r, M', e3, hp, hR'⟩, go⟩ := run H locs ls hR hl T hT X0
  have ev : v = r.map (mv X) := by injection e3
  subst ev
  obtain ⟨t2, a1, b1⟩ := kk r M' hp T'.heap (locs ++ L') ls (by rw [e1]; exact hR') (fun z hz => by
    rcases List.mem_append.mp hz with z1 | z1
    · exact hL z z1
    · exact hL' z z1) hl T' rfl X'
  refine ⟨t2, go t2 ?_, b1⟩
  have es : (r.map (mv X)).toList ++ rest.map (mv X) = (r.toList ++ rest).map (mv X) := by cases r <;> rfl
  rw [es]
  exact a1
/-- words of a call -/
def MV (own idx : Nat) (ci : Nat) (y : MethodName) (cc : ByteArray) (n : Nat) (r : Option FieldType) (np : Nat) : Prop := GoodIn gtbl (wsV (RN own) idx (RN ci) y (wsm y cc n r)) ∧ y.cls = RN ci ∧ y.cls ≠ "java/lang/invoke/MethodHandle" ∧ y.cls ≠ "java/lang/invoke/VarHandle" ∧ (parseMethodDescriptor y.desc).map (fun d => d.parameters.length) = some np
def MS (own idx : Nat) (y : MethodName) (cc : ByteArray) (n : Nat) (r : Option FieldType) (np : Nat) : Prop := GoodIn gtbl (va_wsS (RN own) idx y (wsm y cc n r)) ∧ y.cls ≠ "java/lang/invoke/MethodHandle" ∧ y.cls ≠ "java/lang/invoke/VarHandle" ∧ (parseMethodDescriptor y.desc).map (fun d => d.parameters.length) = some np
theorem WG.callV {X : Cx} {own : Nat} {ini : Bool} {cc : ByteArray} {nL : Nat} {rt : Option FieldType} {Post Post' : Option Value → Mm → Prop} {mc ms k q0 pc : Nat} (C0 : Ct p s m args meth c X own ini cc nL rt) {idx ci : Nat} {y : MethodName} {cc' : ByteArray} {n' : Nat} {r' : Option FieldType} {np d' mc' ms' : Nat} {b : Nat} {As rest : List Value} {L : List (Option Value)} {M : Mm}
    (hd : decode cc pc = .ok (.invokevirtual idx, 3)) (hw : MV own idx ci y cc' n' r' np) (hn : As.length = np) (hM : Cn l X y cc' n' r' d' (.ref b :: As) M Post' mc' ms') (hci : ∃ r, clT ci = some r ∧ r.1 = RN ci) (hb : M.1 b = some (.inl ci)) (hR : d' + 1 ≤ R.frames ∧ 8 + (n' + 11) + 40 * d' ≤ R.locals) (hs : (rest.map (fun v => v.category)).sum ≤ 8) (hf : k + mc' ≤ R.cells ∧ q0 + ms' ≤ R.slots)
    {st : List Value} (hst : st = As.reverse ++ .ref b :: rest) (kk : ∀ r M', Post' r M' → WG p l e R s m args below meth c X nL Post mc ms (k + mc') (q0 + ms') (pc + 3) L (r.toList ++ rest) M') : WG p l e R s m args below meth c X nL Post mc ms k q0 pc L st M := by
  obtain ⟨hx, hb0, hr, hml, hown, hts, hlk, hKK, hini⟩ := C0
  subst hst
  refine WG.ofRun (a := (Value.ref (ph X b) :: As.map (mv X)).toArray) (fun H locs ls hRel hl => ?_) kk
  obtain ⟨w1, w2, w3, w4, w5⟩ := hw
  obtain ⟨⟨C1, T1, N1⟩, c1, c2⟩ := hci
  obtain ⟨r0, e1, cell, f1, f2, f3, f4⟩ := hRel.2.2 b _ hb
  cases c1.symm.trans e1
  have hfc := (hKK.1 _ _ c1).2.1
  refine va_runV (cc := cc) (nL := nL) (As := As.map (mv X)) ⟨hx, hb0, hml, hown, hts⟩ hM (cwV np hts w1 rfl rfl rfl ⟨w2, w3, w4, w5⟩ hR) ⟨PreC.blind _ _ _, ⟨cell, f1, by rw [f3]; rfl, by rw [f2, ← c2]; exact hfc⟩, fun U hU hW => ⟨rfl, by rw [hU]; exact hRel, hKK.moved hW⟩⟩ rfl (by rw [List.length_map]; exact hn) hl.1 ?_ (lv_room ?_) hd hf
  · simp [mv]
  · rw [List.map_map]
    have : (fun v : Value => v.category) ∘ mv X = fun v => v.category := by funext v; exact mv_cat X v
    rw [this]; exact hs
theorem WG.callS {X : Cx} {own : Nat} {ini : Bool} {cc : ByteArray} {nL : Nat} {rt : Option FieldType} {Post Post' : Option Value → Mm → Prop} {mc ms k q0 pc : Nat} (C0 : Ct p s m args meth c X own ini cc nL rt) {idx : Nat} {y : MethodName} {cc' : ByteArray} {n' : Nat} {r' : Option FieldType} {np d' mc' ms' : Nat} {As rest : List Value} {L : List (Option Value)} {M : Mm}
    (hd : decode cc pc = .ok (.invokestatic idx, 3)) (hw : MS own idx y cc' n' r' np) (hn : As.length = np) (hM : Cn l X y cc' n' r' d' As M Post' mc' ms') (hR : d' + 1 ≤ R.frames ∧ 8 + (n' + 11) + 40 * d' ≤ R.locals) (hs : (rest.map (fun v => v.category)).sum ≤ 8) (hf : k + mc' ≤ R.cells ∧ q0 + ms' ≤ R.slots)
    {st : List Value} (hst : st = As.reverse ++ rest) (kk : ∀ r M', Post' r M' → WG p l e R s m args below meth c X nL Post mc ms (k + mc') (q0 + ms') (pc + 3) L (r.toList ++ rest) M') : WG p l e R s m args below meth c X nL Post mc ms k q0 pc L st M := by
  obtain ⟨hx, hb0, hr, hml, hown, hts, hlk, hKK, hini⟩ := C0
  subst hst
  refine WG.ofRun (a := (As.map (mv X)).toArray) (fun H locs ls hRel hl => ?_) kk
  obtain ⟨w1, w3, w4, w5⟩ := hw
  refine va_runS (cc := cc) (nL := nL) (As := As.map (mv X)) ⟨hx, hb0, hml, hown, hts⟩ hM (va_cwS np hts w1 rfl rfl rfl ⟨w3, w4, w5⟩ hR) ⟨PreC.blind _ _ _, fun U hU hW => ⟨rfl, by rw [hU]; exact hRel, hKK.moved hW⟩⟩ rfl (by rw [List.length_map]; exact hn) hl.1 ?_ (lv_room ?_) hd hf
  · simp
  · rw [List.map_map]
    have : (fun v : Value => v.category) ∘ mv X = fun v => v.category := by funext v; exact mv_cat X v
    rw [this]; exact hs
end CallRules
