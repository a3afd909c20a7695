/-! cells that come -/
def up0 {α : Type} (f : Nat → Nat → α) (n : Nat) (d : α) : Nat → Nat → α := fun a k => if a = n then d else f a k
def upS (sh : Nat → Option Sh) (n : Nat) (v : Sh) : Nat → Option Sh := fun a => if a = n then some v else sh a
def mkM (M : Mm) (v : Sh) : Mm := (upS M.1 M.2.2.2.2 v, up0 M.2.1 M.2.2.2.2 0, up0 M.2.2.1 M.2.2.2.2 0, up0 M.2.2.2.1 M.2.2.2.2 none, M.2.2.2.2 + 1)
theorem Cel.lt {X : Cx} {sh : Sh} {M : Mm} {a : Nat} {H : Heap} (h : Cel X sh M a H) : ph X a < H.size := by
  cases sh with
  | inl ci =>
    obtain ⟨r, h1, cell, h2, -⟩ := h
    exact (Array.getElem?_eq_some_iff.mp h2).1
  | inr q =>
    have h2 : H[ph X a]? = some (arrV (X.2.2.2.2 q.1) q.2 (fun j => mv X (rd q.1 M a j))) ∨ (a = CB + 22 ∧ q.1 = .int ∧ ∃ ce : Cell, H[ph X a]? = some ce ∧ ce.slots.size = q.2 ∧ ∀ j, j < q.2 → ce.slots[j]? = some (.int (M.2.1 a j))) := h
    rcases h2 with z | ⟨-, -, ce, z, -⟩
    · exact (Array.getElem?_eq_some_iff.mp z).1
    · exact (Array.getElem?_eq_some_iff.mp z).1
theorem Rel.make {X : Cx} {M : Mm} {H H' : Heap} {v : Sh} (h : Rel X M H) (hn : M.2.2.2.2 < CB) (hs : H'.size = H.size + 1) (ho : ∀ q, q < H.size → H'[q]? = H[q]?) (hc : Cel X v (mkM M v) M.2.2.2.2 H') : Rel X (mkM M v) H' := by
  obtain ⟨h1, h2, h3⟩ := h
  refine ⟨by rw [hs, h1]; show _ = X.1.size + (M.2.2.2.2 + 1); omega, fun q hq => ?_, fun a sa ha => ?_⟩
  · rw [ho q (by omega)]; exact h2 q hq
  · by_cases hx : a = M.2.2.2.2
    · subst hx
      have e : (mkM M v).1 M.2.2.2.2 = some v := by simp [mkM, upS]
      cases e.symm.trans ha
      exact hc
    · have e : (mkM M v).1 a = M.1 a := by simp [mkM, upS, hx]
      rw [e] at ha
      have hl := (h3 a sa ha).lt
      refine (h3 a sa ha).kept (ho _ hl) (fun ty k => ?_)
      cases ty <;> simp [rd, mkM, up0, hx]
def okD (ty : FieldType) : Bool := match ty with
  | .float => false
  | .double => false
  | _ => true
theorem tyF_ok : ∀ ci, ci < 13 → ∀ k, k < 63 → okD (tyF ci k) = true := by decide +kernel
theorem rd_new (X : Cx) (M : Mm) (v : Sh) (ty : FieldType) (k : Nat) (h : okD ty = true) : defaultValue ty = mv X (rd ty (mkM M v) M.2.2.2.2 k) := by
  cases ty <;> first | (simp [okD] at h; done) | simp [rd, mkM, up0, defaultValue, mv, va_rf]
section AllocRules
variable {p : Program} {l : Launch} {e : Env} {R : Room} {s : State} {m : MethodId} {args : Array Value} {below : List Frame} {meth : Method} {c : Code}
theorem WG.new {X : Cx} {own : Nat} {ini : Bool} {cc : ByteArray} {nL : Nat} {rt : Option FieldType} {Post : Option Value → Mm → Prop} {mc ms k q0 pc : Nat} (C0 : Ct p s m args meth c X own ini cc nL rt) {idx ci : Nat} {C : String} {T : u_T} {N : Nat} {L : List (Option Value)} {st : List Value} {M : Mm}
    (hd : decode cc pc = .ok (.new idx, 3)) (hc : clT ci = some (C, T, N)) (hci : ci < 13 ∧ N ≤ 63) (w1 : Cond.classLink (RN own) idx C ∈ gtbl) (w2 : Cond.instantiable C N ∈ gtbl) (w3 : Cond.initialized C ∈ gtbl) (hn : M.2.2.2.2 < CB) (hf : k + 1 ≤ R.cells ∧ q0 + N ≤ R.slots)
    (kk : WG p l e R s m args below meth c X nL Post mc ms (k + 1) (q0 + N) (pc + 3) L (.ref M.2.2.2.2 :: st) (mkM M (.inl ci))) : WG p l e R s m args below meth c X nL Post mc ms k q0 pc L st M := by
  obtain ⟨hx, hb0, hr, hml, hown, hts, hlk, hKK, hini⟩ := C0
  intro H locs ls hR hL hl
  have hKn := hKK.1 _ _ hc
  have hs : H.size = ph X M.2.2.2.2 := by rw [hR.1, ph_lt hn]
  refine W.newcK hx hb0 hown (hts _ w1) (hts _ w2) (hts _ w3) rfl hd hf.1 hf.2 hKn.2.1 hs fun H1 kC hkC e1 z1 o1 => ?_
  obtain ⟨u1, u2, u3, u4⟩ := clOK _ _ _ _ hc
  have hcel : Cel X (.inl ci) (mkM M (.inl ci)) M.2.2.2.2 H1 := ⟨_, hc, (u_born (tyF ci) hts u1 hKn hkC e1 u2).to (fun j hj => rd_new X M _ _ _ (tyF_ok ci hci.1 j (by have := hci.2; omega)))⟩
  exact kk H1 locs ls (hR.make hn (by rw [z1, hs]) (fun q hq => o1 q (by rw [← hs]; exact hq)) hcel) hL hl
theorem WG.newa {X : Cx} {own : Nat} {ini : Bool} {cc : ByteArray} {nL : Nat} {rt : Option FieldType} {Post : Option Value → Mm → Prop} {mc ms k q0 pc : Nat} (C0 : Ct p s m args meth c X own ini cc nL rt) {at_ : ArrayType} {ty : FieldType} {j : Int32} {N : Nat} {L : List (Option Value)} {st : List Value} {M : Mm}
    (hd : decode cc pc = .ok (.newarray at_, 2)) (hty : newarray.typeOf at_ = ty) (hok : ty = .int ∨ ty = .long ∨ ty = .byte ∨ ty = .boolean) (w1 : Cond.arrayClass ty ∈ gtbl) (h0 : ¬ j < 0) (hj : j.toNatClampNeg = N) (hN : N ≤ 10000) (hn : M.2.2.2.2 < CB) (hf : k + 1 ≤ R.cells ∧ q0 + N ≤ R.slots)
    (kk : WG p l e R s m args below meth c X nL Post mc ms (k + 1) (q0 + N) (pc + 2) L (.ref M.2.2.2.2 :: st) (mkM M (.inr (ty, N)))) : WG p l e R s m args below meth c X nL Post mc ms k q0 pc L (.int j :: st) M := by
  obtain ⟨hx, hb0, hr, hml, hown, hts, hlk, hKK, hini⟩ := C0
  intro H locs ls hR hL hl
  have hs : H.size = ph X M.2.2.2.2 := by rw [hR.1, ph_lt hn]
  subst hty
  have hb9 : N * componentBytes (newarray.typeOf at_) ≤ 536870912 := by
    have : componentBytes (newarray.typeOf at_) ≤ 8 := by cases at_ <;> decide
    exact Nat.le_trans (Nat.mul_le_mul hN this) (by decide)
  refine va_newaK hx hb0 (hts _ w1) rfl hd rfl h0 hj hb9 hf.1 hf.2 hs fun H1 cA e1 z1 o1 hAr hNm => ?_
  have hT : okT (newarray.typeOf at_) := by
    rcases hok with h | h | h | h <;> rw [h]
    · exact Or.inl rfl
    · exact Or.inr (Or.inl rfl)
    · exact Or.inr (Or.inr (Or.inl rfl))
    · exact Or.inr (Or.inr (Or.inr (Or.inl rfl)))
  have hRA := (hKK.2.1 _ hT).2
  have hcA : cA = X.2.2.2.2 (newarray.typeOf at_) := by
    rcases hok with h | h | h | h <;> rw [h] at hRA hNm ⊢ <;> exact Option.some.inj (hNm.symm.trans hRA)
  have hcel : Cel X (.inr (newarray.typeOf at_, N)) (mkM M (.inr (newarray.typeOf at_, N))) M.2.2.2.2 H1 := by
    refine Or.inl ?_
    show H1[ph X M.2.2.2.2]? = some (arrV _ _ _)
    rw [e1, hcA]
    congr 2
    funext i
    exact rd_new X M _ _ _ (by rcases hok with h | h | h | h <;> rw [h] <;> rfl)
  exact kk H1 locs ls (hR.make hn (by rw [z1, hs]) (fun q hq => o1 q (by rw [← hs]; exact hq)) hcel) hL hl
theorem WG.anew {X : Cx} {own : Nat} {ini : Bool} {cc : ByteArray} {nL : Nat} {rt : Option FieldType} {Post : Option Value → Mm → Prop} {mc ms k q0 pc : Nat} (C0 : Ct p s m args meth c X own ini cc nL rt) {idx : Nat} {j : Int32} {N : Nat} {L : List (Option Value)} {st : List Value} {M : Mm}
    (hd : decode cc pc = .ok (.anewarray idx, 3)) (w1 : Cond.classLink (RN own) idx RX6 ∈ gtbl) (h0 : ¬ j < 0) (hj : j.toNatClampNeg = N) (hN : N ≤ 10000) (hn : M.2.2.2.2 < CB) (hf : k + 1 ≤ R.cells ∧ q0 + N ≤ R.slots)
    (kk : WG p l e R s m args below meth c X nL Post mc ms (k + 1) (q0 + N) (pc + 3) L (.ref M.2.2.2.2 :: st) (mkM M (.inr (.object RX6, N)))) : WG p l e R s m args below meth c X nL Post mc ms k q0 pc L (.int j :: st) M := by
  obtain ⟨hx, hb0, hr, hml, hown, hts, hlk, hKK, hini⟩ := C0
  intro H locs ls hR hL hl
  have hs : H.size = ph X M.2.2.2.2 := by rw [hR.1, ph_lt hn]
  refine W.anew hx hb0 hown (hts _ w1) (va_AO.use hKK.2.2.2.2.2.2.1.2.2) rfl hd rfl h0 (by rw [hj]; omega) hf.1 (by rw [hj]; exact hf.2) fun cA kA comp a1 a2 a3 a4 => ?_
  obtain ⟨kA', comp', r1, r2, r3, r4⟩ := (hKK.2.1 (.object RX6) (Or.inr (Or.inr (Or.inr (Or.inr rfl))))).2
  have hcA : cA = X.2.2.2.2 (.object RX6) := Option.some.inj (a1.symm.trans r4)
  rw [hj]
  have hcel : Cel X (.inr (.object RX6, N)) (mkM M (.inr (.object RX6, N))) M.2.2.2.2 (H.push { cls := cA, slots := Array.replicate N .null, vm := .none }) := by
    refine Or.inl ?_
    show (H.push _)[ph X M.2.2.2.2]? = some (arrV _ _ _)
    rw [← hs, Array.getElem?_push_size, arrV_new, hcA]
    congr 2
    funext i
    exact rd_new X M _ (.object RX6) _ rfl
  have := kk _ locs ls (hR.make hn (by rw [Array.size_push]) (fun q hq => by rw [Array.getElem?_push_lt hq, Array.getElem?_eq_getElem hq]) hcel) hL hl
  rw [show H.size = ph X M.2.2.2.2 from hs]
  exact this
/-- a Sheet is laid into an array of Sheets -/
theorem WG.aast {X : Cx} {own : Nat} {ini : Bool} {cc : ByteArray} {nL : Nat} {rt : Option FieldType} {Post : Option Value → Mm → Prop} {mc ms k q0 pc : Nat} (C0 : Ct p s m args meth c X own ini cc nL rt) {j : Int32} {a v n : Nat} {L : List (Option Value)} {st : List Value} {M : Mm}
    (hd : decode cc pc = .ok (.aastore, 1)) (ha : M.1 a = some (.inr (.object RX6, n))) (hj : inx j n) (hv : M.1 v = some (.inl 6)) (hac : a < CB)
    (kk : WG p l e R s m args below meth c X nL Post mc ms k q0 (pc + 1) L st (wr M a j.toNatClampNeg (.ref v))) : WG p l e R s m args below meth c X nL Post mc ms k q0 pc L (.ref v :: .int j :: .ref a :: st) M := by
  obtain ⟨hx, hb0, hr, hml, hown, hts, hlk, hKK, hini⟩ := C0
  intro H locs ls hR hL hl
  have hcA : H[ph X a]? = some (arrV _ _ _) := hR.arr ha (Or.inl hac)
  obtain ⟨r', hr', cellV, g1, g2, g3, -⟩ := hR.2.2 v _ hv
  have hcls := (hKK.1 6 _ rfl).2
  obtain ⟨kA, comp, k1, k2, k3, -⟩ := (hKK.2.1 (.object RX6) (Or.inr (Or.inr (Or.inr (Or.inr rfl))))).2
  have hcomp : comp = X.2.2.1 6 := Option.some.inj (k3.symm.trans hcls.1)
  subst hcomp
  obtain ⟨kC, hkC, -⟩ := hcls.2
  have h9 := inx_in hj
  refine W.aast hx hb0 hcA (fun q h => by cases h) (fun h => by cases h) k1 k2 rfl hkC ⟨fun z => h9 (Or.inl z), by rw [arrV_size]; exact inx_lt hj⟩ g1 (fun q h => by rw [g3] at h; cases h) (by rw [g2]; exact hkC) (by rw [g2]; exact va_assign hcls) rfl rfl hd fun H1 e1 z oq => ?_
  exact kk H1 _ ls (hR.put (v := .ref v) hKK.2.2.1.1 hac ha (cel_arr trivial (inx_lt hj) e1) z oq) (locs_app hL (by rw [ph_lt hac]; omega)) hl
/-- Object.<init> -/
theorem WG.objI {X : Cx} {own : Nat} {ini : Bool} {cc : ByteArray} {nL : Nat} {rt : Option FieldType} {Post : Option Value → Mm → Prop} {mc ms k q0 pc : Nat} (C0 : Ct p s m args meth c X own ini cc nL rt) {idx a : Nat} {L : List (Option Value)} {st : List Value} {M : Mm}
    (hd : decode cc pc = .ok (.invokespecial idx, 3)) (w1 : Cond.methodLink (RN own) idx objectInit ∈ gtbl) (w2 : Cond.instanceMethod objectInit ∈ gtbl) (w3 : Cond.code objectInit ⟨#[0xb1]⟩ 1 none ∈ gtbl) (hf : 1 ≤ R.frames) (hlo : 20 ≤ R.locals) (hs : (st.map (fun v => v.category)).sum ≤ 8)
    (kk : WG p l e R s m args below meth c X nL Post mc ms k q0 (pc + 3) L st M) : WG p l e R s m args below meth c X nL Post mc ms k q0 pc L (.ref a :: st) M := by
  obtain ⟨hx, hb0, hr, hml, hown, hts, hlk, hKK, hini⟩ := C0
  intro H locs ls hR hL hl
  refine W.objInit hx hb0 hown (hts _ w1) (hts _ w2) (hts _ w3) rfl (by rw [hml]; exact hl.1) rfl hd hf ?_ (kk H locs ls hR hL hl)
  have h1 : 2 * (F0 m pc ls (mv X (.ref a) :: st.map (mv X))).monitorRoom + ((st.map (mv X)).map fun v => v.category).sum ≤ 8 := lv_room (by
    rw [List.map_map]
    have : (fun v : Value => v.category) ∘ mv X = fun v => v.category := by funext v; exact mv_cat X v
    rw [this]; exact hs)
  have h2 : 2 * (F0 m pc ls (mv X (.ref a) :: st.map (mv X))).monitorRoom + ((st.map (mv X)).map fun v => v.category).sum + 12 ≤ R.locals := by omega
  exact h2
/-- constructors: of one's own class's link, and of nest mates -/
def MI (own idx : Nat) (y : MethodName) (cc : ByteArray) (n : Nat) (np : Nat) : Prop := GoodIn gtbl (wsm y cc n none) ∧ Cond.initialized y.cls ∈ gtbl ∧ (Cond.methodLink (RN own) idx y ∈ gtbl ∨ (RN own, idx, y, RX11) ∈ nsM) ∧ Cond.instanceMethod y ∈ gtbl ∧ y.name = "<init>" ∧ y.cls ≠ "java/lang/invoke/MethodHandle" ∧ y.cls ≠ "java/lang/invoke/VarHandle" ∧ (parseMethodDescriptor y.desc).map (fun d => d.parameters.length) = some np
theorem WG.callI {X : Cx} {own : Nat} {ini : Bool} {cc : ByteArray} {nL : Nat} {rt : Option FieldType} {Post Post' : Option Value → Mm → Prop} {mc ms k q0 pc : Nat} (C0 : Ct p s m args meth c X own ini cc nL rt) {idx : Nat} {y : MethodName} {cc' : ByteArray} {n' : Nat} {np d' mc' ms' : Nat} {b : Nat} {As rest : List Value} {L : List (Option Value)} {M : Mm}
    (hd : decode cc pc = .ok (.invokespecial idx, 3)) (hw : MI own idx y cc' n' np) (hn : As.length = np) (hM : Cn l X y cc' n' none d' (.ref b :: As) M Post' mc' ms') (hR : d' + 1 ≤ R.frames ∧ 8 + (n' + 11) + 40 * d' ≤ R.locals) (hs : (rest.map (fun v => v.category)).sum ≤ 8) (hf : k + mc' ≤ R.cells ∧ q0 + ms' ≤ R.slots)
    {st : List Value} (hst : st = As.reverse ++ .ref b :: rest) (kk : ∀ r M', Post' r M' → WG p l e R s m args below meth c X nL Post mc ms (k + mc') (q0 + ms') (pc + 3) L (r.toList ++ rest) M') : WG p l e R s m args below meth c X nL Post mc ms k q0 pc L st M := by
  obtain ⟨hx, hb0, hr, hml, hown, hts, hlk, hKK, hini⟩ := C0
  subst hst
  refine WG.ofRun (a := (Value.ref (ph X b) :: As.map (mv X)).toArray) (fun H locs ls hRel hl => ?_) kk
  obtain ⟨w1, w2, w3, w4, w5, w6, w7, w8⟩ := hw
  have hst : (As.reverse ++ .ref b :: rest).map (mv X) = (As.map (mv X)).reverse ++ .ref (ph X b) :: rest.map (mv X) := by simp [mv]
  have hcat : ((rest.map (mv X)).map (fun v => v.category)).sum ≤ 8 := by
    rw [List.map_map]
    have : (fun v : Value => v.category) ∘ mv X = fun v => v.category := by funext v; exact mv_cat X v
    rw [this]; exact hs
  rcases w3 with w3 | w3
  · exact va_runI (cc := cc) (nL := nL) (As := As.map (mv X)) ⟨hx, hb0, hml, hown, hts⟩ hM (cwI np hts w1 rfl rfl rfl (hts _ w2) (hts _ w3) (hts _ w4) w5 ⟨w6, w7, w8⟩ hR) ⟨PreC.blind _ _ _, fun U hU hW => ⟨rfl, by rw [hU]; exact hRel, hKK.moved hW⟩⟩ rfl (by rw [List.length_map]; exact hn) hl.1 hst (lv_room hcat) hd hf
  · have hnw : va_Nw (.methodLinkNest (RN own) idx y RX11) s := hKK.2.2.2.2.2.2.1.1 _ w3
    exact va_runIN (cc := cc) (nL := nL) (As := As.map (mv X)) ⟨hx, hb0, hml, hown, hts⟩ hM ⟨va_cnB np hts w1 rfl rfl rfl hnw (hts _ w2) ⟨w6, w7, w8⟩ hR, w5, hts _ w4⟩ ⟨PreC.blind _ _ _, fun U hU hW => ⟨rfl, by rw [hU]; exact hRel, hKK.moved hW⟩⟩ rfl (by rw [List.length_map]; exact hn) hl.1 hst (lv_room hcat) hd hf
end AllocRules
