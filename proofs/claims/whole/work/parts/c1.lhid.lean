/-! the law's own 'hidden': a method with a table -/
theorem Met.ofWH {l : Launch} {y : MethodName} {ws ws' : List Cond} {rm : Room} {Pc : Array Value → State → Prop} {Qc : Array Value → State → Outcome → State → Prop} {mc ms : Nat} {free : Addr → Prop} {cc : ByteArray} {maxL : Nat} {ret : Option FieldType} {hh : List (Nat × Nat × Nat × Nat)}
    (hy : plainName y.cls = true) (hw : ws = Cond.codeWith y cc maxL ret hh :: ws')
    (body : ∀ p e s m args below meth c s₁, BodyLoose p l y (headSpec ws rm) cc maxL ret e s m args below meth c s₁ → c.maxLocals = maxL → Pc args s →
      W p l e (headSpec ws rm).room s m args below meth c s.heap [] 0 0 (MQ below Qc args s mc ms free) (entryFrame m args maxL)) : Met l y ws rm Pc Qc mc ms free := by
  refine MetFree.of_bodyS (code := cc) (maxLocals := maxL) (ret := ret) hy ?_ ?_
  · intro args s m h hn
    obtain ⟨m9, meth, c, hn9, h1, h2, h3, h4, -, h5, h6, -⟩ := Cond.codeWith_spec (atoms_spec (ws := ws) h _ (by rw [hw]; exact List.mem_cons_self))
    cases hn.symm.trans hn9
    exact ⟨meth, c, h1, h2, h3, h4, h5, h6⟩
  · intro p e s m args below meth c s₁ B hml hP _
    have hh0 : s₁.heap = s.heap := by rw [B.state]; rfl
    obtain ⟨t, a1, o, b1, b2, b3⟩ := body p e s m args below meth c s₁ B hml hP s₁ hh0 (Stand.of_body B)
    exact ⟨t, o, a1, b1, b2, b3⟩
/-- the rules of a walk, in any room -/
theorem Ga.of {p : Program} {l : Launch} {e : Env} {R : Room} {s : State} {m : MethodId} {args : Array Value} {below : List Frame} {meth : Method} {c : Code} {X : Cx} {own : Nat} {ini : Bool} {cc : ByteArray} {n : Nat} {r : Option FieldType} {d mc ms : Nat} (Post : Option Value → Mm → Prop) (C0 : Ct p s m args meth c X own ini cc n r) (h1 : d ≤ R.frames) (h2 : 40 * d ≤ R.locals) (h3 : mc ≤ R.cells) (h4 : ms ≤ R.slots) : Ga l X own ini cc r d mc ms Post (fun k q => WG p l e R s m args below meth c X n Post mc ms k q) := by
  refine ⟨?_, ?_, ?_, ?_, ?_, ?_, ?_, ?_, ?_, ?_, ?_, ?_, ?_⟩
  · intro k q pc L st M stops f h hk hq
    exact wp_sound C0 ⟨hk, hq⟩ stops f pc L st M h
  · intro k q pc idx ci y cc' n' r' np d' mc' ms' Post' b L M st As rest hd hw hM hc hb hdd hn hn' hs hst kk hk hq
    exact WG.callV C0 hd hw hn hM hc hb ⟨by omega, by omega⟩ hs ⟨by omega, by omega⟩ hst kk
  · intro k q pc idx y cc' n' r' np d' mc' ms' Post' L M st As rest hd hw hM hdd hn hn' hs hst kk hk hq
    exact WG.callS C0 hd hw hn hM ⟨by omega, by omega⟩ hs ⟨by omega, by omega⟩ hst kk
  · intro k q pc idx y cc' n' np d' mc' ms' Post' b L M st As rest hd hw hM hdd hn hn' hs hst kk hk hq
    exact WG.callI C0 hd hw hn hM ⟨by omega, by omega⟩ hs ⟨by omega, by omega⟩ hst kk
  · intro k q pc idx ci C T N L st M hd hc hci w1 w2 w3 hn kk hk hq
    exact WG.new C0 hd hc hci w1 w2 w3 hn ⟨by omega, by omega⟩ kk
  · intro k q pc at_ ty j N L st M hd hty hok w1 h0 hj hN hn kk hk hq
    exact WG.newa C0 hd hty hok w1 h0 hj hN hn ⟨by omega, by omega⟩ kk
  · intro k q pc idx j N L st M hd w1 h0 hj hN hn kk hk hq
    exact WG.anew C0 hd w1 h0 hj hN hn ⟨by omega, by omega⟩ kk
  · intro k q pc j a v n L st M hd ha hj hv hac kk
    exact WG.aast C0 hd ha hj hv hac kk
  · intro k q pc idx a L st M hd w1 w2 w3 hdd hs kk
    exact WG.objI C0 hd w1 w2 w3 (by omega) (by omega) hs kk
  · intro k q pc idx L st M a0 a n0 n1 sp dp n hd w1 g0 g1 hac h1 h2 h3 h4 h5 hdd hs kk
    exact WG.copyi C0 hd w1 g0 g1 hac h1 h2 h3 h4 h5 (by omega) (by omega) hs kk
  · intro k q pc idx L st M x y hd w1 hdd hs kk hk hq
    exact WG.mmin C0 hd w1 (by omega) (by omega) hs ⟨by omega, by omega⟩ kk
  · intro k q pc a L M hd hrt hp hk hq
    exact WG.aret C0 ⟨hk, hq⟩ hd hrt hp
  · intro k q pc j L st M hd hj kk
    exact WG.astn C0 hd hj kk
section
variable {p : Program} {l : Launch} {e : Env} {R : Room} {s : State} {m : MethodId} {args : Array Value} {below : List Frame} {meth : Method} {c : Code}
/-- a call that may throw -/
theorem WG.callX {X : Cx} {own : Nat} {ini : Bool} {cc : ByteArray} {nL : Nat} {rt : Option FieldType} {Post Post' : Option Value → Mm → Prop} {XC : String → State → State → Prop} {mc ms k q0 pc : Nat} (C0 : Ct p s m args meth c X own ini cc nL rt) (hZ : XZ X s) {idx ci : Nat} {y : MethodName} {cc' : ByteArray} {n' : Nat} {r' : Option FieldType} {np d' mc' ms' : Nat} {b : Nat} {As rest : List Value} {L : List (Option Value)} {M : Mm}
    (hd : decode cc pc = .ok (.invokevirtual idx, 3)) (hw : MV own idx ci y cc' n' r' np) (hn : As.length = np) (hM : vx_Met l y (wsm y cc' n' r') (rmm d' mc' ms') (PreX X (.ref b :: As) M) (QP X Post') XC mc' ms' (fun z => X.1.size ≤ z)) (hci : ∃ r, clT ci = some r ∧ r.1 = RN ci) (hb : M.1 b = some (.inl ci)) (hR : d' + 1 ≤ R.frames ∧ 8 + (n' + 11) + 40 * d' ≤ R.locals) (hs : (rest.map (fun v => v.category)).sum ≤ 8) (hf : k + mc' ≤ R.cells ∧ q0 + ms' ≤ R.slots)
    {st : List Value} (hst : st = As.reverse ++ .ref b :: rest) (kk : ∀ r M', Post' r M' → WG p l e R s m args below meth c X nL Post mc ms (k + mc') (q0 + ms') (pc + 3) L (r.toList ++ rest) M')
    (kx : ∀ (E : String) (ce : Cell) (q : Addr) (st₀ t : State) (H1 : Heap) (locs1 : List Loc) (ls : Array Slot), t.heap = H1 → XC E st₀ t → (∀ z ∈ locs1, X.1.size ≤ z.base) → hasL X ls nL L → H1[q]? = some ce → ce.vm = .none → s.vm.findClass E = some ce.cls → vx_W p l e R s m args below meth c H1 locs1 (k + mc') (q0 + ms') (MQ below (QP X Post) args s mc ms (fun z => X.1.size ≤ z)) (F0 m pc ls (rest.map (mv X))) q) : WG p l e R s m args below meth c X nL Post mc ms k q0 pc L st M := by
  obtain ⟨hx, hb0, hr, hml, hown, hts, hlk, hKK, hini⟩ := C0
  subst hst
  intro H locs ls hRel hL hl T hT X0
  obtain ⟨w1, w2, w3, w4, w5⟩ := hw
  obtain ⟨⟨C1, T1, N1⟩, c1, c2⟩ := hci
  obtain ⟨r0, e1, cell, f1, f2, f3, f4⟩ := hRel.2.2 b _ hb
  cases c1.symm.trans e1
  have hfc := (hKK.1 _ _ c1).2.1
  have run := vx_runV (locs := locs) (cc := cc) (nL := nL) (As := As.map (mv X)) (rest := rest.map (mv X)) (g := F0 m pc ls ((As.reverse ++ .ref b :: rest).map (mv X))) (below := below) (meth := meth) (l := l) (e := e) (cells := k) (slots := q0) ⟨hx, hb0, hml, hown, hts⟩ hM (cwV np hts w1 rfl rfl rfl ⟨w2, w3, w4, w5⟩ hR) ⟨PreX.blind _ _ _, ⟨cell, f1, by rw [f3]; rfl, by rw [f2, ← c2]; exact hfc⟩, fun U hU hW => ⟨⟨rfl, by rw [hU]; exact hRel, hKK.moved hW⟩, hZ.moved hW⟩⟩ rfl (by rw [List.length_map]; exact hn) hl.1 (by simp [mv, F0]) (lv_room (by
    rw [List.map_map]
    have : (fun v : Value => v.category) ∘ mv X = fun v => v.category := by funext v; exact mv_cat X v
    rw [this]; exact hs)) hd hf
  rcases run T hT X0 with ⟨v, st₀, t, T', L', h0, X', hL', e1, e2, ⟨r, M', e3, hp, hR'⟩, go⟩ | ⟨q, st₀, t, T', L', E, ce, h0, X', hL', e1, e2, hxc, hce, hcv, hcl, steps⟩
  · have ev : v = r.map (mv X) := by injection e3
    subst ev
    obtain ⟨t2, a1, b1⟩ := kk r M' hp T'.heap (locs ++ L') ls (by rw [e1]; exact hR') (fun z hz => by
      rcases List.mem_append.mp hz with z1 | z1
      · exact hL z z1
      · exact hL' z z1) hl T' rfl X'
    refine ⟨t2, go t2 ?_, b1⟩
    have es : (r.map (mv X)).toList ++ rest.map (mv X) = (r.toList ++ rest).map (mv X) := by cases r <;> rfl
    rw [es]
    exact a1
  · obtain ⟨t2, a1, b1⟩ := kx E ce q st₀ t T'.heap (locs ++ L') ls e1.symm hxc (fun z hz => by
      rcases List.mem_append.mp hz with z1 | z1
      · exact hL z z1
      · exact hL' z z1) hl (by rw [e1]; exact hce) hcv hcl T' rfl X'
    exact ⟨t2, steps.trans a1, b1⟩
end
def wsH : List Cond := Cond.codeWith yL_hidden cL_hidden 4 (some .int) [(0, 9, 12, 13)] :: gtbl
def CnH (l : Launch) (X : Cx) (d : Nat) (As : List Value) (M : Mm) (Post : Option Value → Mm → Prop) : Prop := Met l yL_hidden wsH (rmm d 1 6) (PreX X As M) (QP X Post) 1 6 (fun z => X.1.size ≤ z)
set_option maxHeartbeats 1600000 in
set_option maxRecDepth 100000 in
theorem cL_hid (l : Launch) (hlt : l.stackTraces = false) (X : Cx) (d : Nat) (sh : Nat → Option Sh) (mI : Nat → Nat → Int32) (mL : Nat → Nat → Int64) (mR : Nat → Nat → Option Nat) (n : Nat) (hB : BL sh mR) (C : Nat) (A : DD) (hV : AsV A) (hS : ShA sh mI mR n 20 C A) (O : Nat) (hO : sh O = some (.inr (.long, 1))) (hOc : O < 1000000000) (x : Int32) (hd : 10 ≤ d) : CnH l X d [.ref 0, .int x, .ref O] (sh, mI, mL, mR, n) (fun r M' => (hiB A x = true → r = some (.int 0) ∧ M' = (sh, mI, up2 mL O 0 (nI (hidN (A 0 0) (A 11) (A 3) (A 4) x.toNatClampNeg)).toInt64, mR, n)) ∧ (hiB A x = false → r = some (.int 1) ∧ ∃ n', n ≤ n' ∧ M' = (sh, mI, mL, mR, n'))) := by
  refine Met.ofWH (cc := cL_hidden) (maxL := 4) (ret := some .int) (hh := [(0, 9, 12, 13)]) (by decide) rfl ?_
  intro p e s m args below meth c s₁ B hml hv
  obtain ⟨⟨rfl, hR, hK⟩, hZ⟩ := hv
  have hts := atoms_spec (ws := wsH) B.pre
  have htg : ∀ w ∈ gtbl, w.before (([.ref 0, .int x, .ref O] : List Value).map (mv X)).toArray s = true := fun w hw => hts w (List.mem_cons_of_mem _ hw)
  have htab := vx_table (x := yL_hidden) B (hts _ List.mem_cons_self)
  have hown : s.vm.findClass (RN 13) = some m.cls := findClass_of_methodNamed B.named
  have C0 : Ct p s m (([.ref 0, .int x, .ref O] : List Value).map (mv X)).toArray meth c X 13 false cL_hidden 4 (some .int) := ⟨B.exec, B.bytes, B.returns, hml, hown, htg, B.notSynchronized, hK, fun z => by cases z⟩
  have q0 := hB.1
  rw [lg_entry_eq]
  obtain ⟨Post, hPost⟩ : ∃ Post : Option Value → Mm → Prop, Post = fun r M' => (hiB A x = true → r = some (.int 0) ∧ M' = (sh, mI, up2 mL O 0 (nI (hidN (A 0 0) (A 11) (A 3) (A 4) x.toNatClampNeg)).toInt64, mR, n)) ∧ (hiB A x = false → r = some (.int 1) ∧ ∃ n', n ≤ n' ∧ M' = (sh, mI, mL, mR, n')) := ⟨_, rfl⟩
  rw [← hPost]
  have hP : ∀ r M', ((hiB A x = true → r = some (.int 0) ∧ M' = (sh, mI, up2 mL O 0 (nI (hidN (A 0 0) (A 11) (A 3) (A 4) x.toNatClampNeg)).toInt64, mR, n)) ∧ (hiB A x = false → r = some (.int 1) ∧ ∃ n', n ≤ n' ∧ M' = (sh, mI, mL, mR, n'))) → Post r M' := fun r M' h => by rw [hPost]; exact h
  have hG := Ga.of (l := l) (e := e) (below := below) (R := rmm d 1 6) (d := d) (mc := 1) (ms := 6) Post C0 (Nat.le_refl _) (Nat.le_refl _) (Nat.le_refl _) (Nat.le_refl _)
  have go : WG p l e (rmm d 1 6) s m (([.ref 0, .int x, .ref O] : List Value).map (mv X)).toArray below meth c X 4 Post 1 6 0 0 0 [some (.ref 0), some (.int x), some (.ref O), none] [] (sh, mI, mL, mR, n) := by
    refine hG.run (k := 0) (q := 0) [4] 20 ?_
    simp [wp, stepI, ln, jmp, cmpI, Value.category, rd, tyF, va_rf, st1, st2, clr, isLg, CB, inx_0, inx_1, inx_2, inx_3, inx_4, inx_5, bI_0, bI_1, bI_ok, fin3, q0, dL_hidden_0, dL_hidden_1, dL_hidden_2, dL_hidden_3, dL_hidden_4, dL_hidden_7, dL_hidden_8, dL_hidden_9, dL_hidden_12, dL_hidden_13, dL_hidden_14, dL_hidden_15, dL_hidden_16]
    refine WG.callX C0 hZ dL_hidden_4 mv_13_7 (As := [.int x]) (rest := [.int 0, .ref O]) rfl (c11_hidden l hlt X (d - 1) sh mI mL mR n hB C A hV hS x (by omega)) ⟨_, rfl, rfl⟩ q0 ⟨by show d - 1 + 1 ≤ d; omega, by show 8 + (2 + 11) + 40 * (d - 1) ≤ 40 * d; omega⟩ (by simp [Value.category]) ⟨by show 0 + 1 ≤ 1; omega, by show 0 + 6 ≤ 6; omega⟩ rfl ?_ ?_
    · rintro r M' ⟨hh, rfl, rfl⟩
      have q := hP (some (.int 0)) (sh, mI, up2 mL O 0 (nI (hidN (A 0 0) (A 11) (A 3) (A 4) x.toNatClampNeg)).toInt64, mR, n) ⟨fun _ => ⟨rfl, rfl⟩, fun z => absurd (hh.symm.trans z) (by decide)⟩
      refine hG.run (k := 0 + 1) (q := 0 + 6) [] 20 ?_
      simp [wp, stepI, ln, jmp, cmpI, Value.category, rd, tyF, va_rf, st1, st2, clr, isLg, CB, inx_0, inx_1, inx_2, inx_3, inx_4, inx_5, bI_0, bI_1, bI_ok, fin3, q0, hO, hOc, dL_hidden_0, dL_hidden_1, dL_hidden_2, dL_hidden_3, dL_hidden_4, dL_hidden_7, dL_hidden_8, dL_hidden_9, dL_hidden_12, dL_hidden_13, dL_hidden_14, dL_hidden_15, dL_hidden_16]
      exact q
    · rintro E ce q st₀ t H1 locs1 ls ht ⟨rfl, hh, n', hn', hR'⟩ hL1 hl hce hcv hcl
      rw [ht] at hR'
      refine vx_catch (own := RL) (name := nsE) hown ⟨0, 9, 12, 13⟩ [] htab (by decide) (by decide) (htg _ va_Cl) (va_Nw.use rfl hZ.1) hce hcv hcl ?_
      refine lv_astore_n B.exec B.bytes dL_hidden_12 rfl (hasL_lv hl) (by decide) rfl (fun ls' hl' => ?_)
      have w13 : WG p l e (rmm d 1 6) s m (([.ref 0, .int x, .ref O] : List Value).map (mv X)).toArray below meth c X 4 Post 1 6 (0 + 1) (0 + 6) 13 [none, none, none, none] [] (sh, mI, mL, mR, n') := by
        have q := hP (some (.int 1)) (sh, mI, mL, mR, n') ⟨fun z => absurd (hh.symm.trans z) (by decide), fun _ => ⟨rfl, n', hn', rfl⟩⟩
        refine hG.run (k := 0 + 1) (q := 0 + 6) [] 20 ?_
        simp [wp, stepI, ln, jmp, cmpI, Value.category, rd, tyF, va_rf, st1, st2, clr, isLg, CB, inx_0, inx_1, inx_2, inx_3, inx_4, inx_5, bI_0, bI_1, bI_ok, fin3, dL_hidden_0, dL_hidden_1, dL_hidden_2, dL_hidden_3, dL_hidden_4, dL_hidden_7, dL_hidden_8, dL_hidden_9, dL_hidden_12, dL_hidden_13, dL_hidden_14, dL_hidden_15, dL_hidden_16]
        exact q
      refine w13 H1 locs1 ls' hR' hL1 ⟨hl'.1, hl'.2.1, rfl, fun i v hv => ?_⟩
      exfalso
      have : ∀ i, ([none, none, none, none] : List (Option Value)).getD i none = none := fun i => by
        match i with
        | 0 => rfl
        | 1 => rfl
        | 2 => rfl
        | 3 => rfl
        | _ + 4 => rfl
      rw [this] at hv
      cases hv
  exact go s.heap [] _ hR (fun z hz => by cases hz) (hasL_entry (by simp [entA, Value.category]))
