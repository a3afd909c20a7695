/-! THE CLAIM OUT OF ONE WALK OF THE LAW'S BODY. Your part is whole_start (and what it stands on); all else here is the same for every law, but numbers. -/
def R_law : String := "BenchOrderLaw"
def lw_P (b : Addr) (xs : List Int32) (args : Array Value) (s : State) : Prop := args = #[.ref b] ∧ s.IntsAt b xs ∧ xs.length ≤ 3584 ∧ (Jvm.Cond.and given_1 narrow_1).before args s = true
def lw_Q (_ : Array Value) (s : State) (o : Outcome) (t : State) : Prop := o = .returned (some (.int 1)) ∧ Framed s o t [] 601024 7293034
def lw_Z (below : List Frame) (a : Array Value) (s : State) : State → Prop := fun t => ∃ o, t.status = .running ∧ Ended t below o ∧ lw_Q a s o t
/-- the law's own end, with 1 on the stack, nothing written that was there before, its room as the claim has it -/
theorem lw_ret {p : Program} {l : Launch} {e : Env} {s : State} {m : MethodId} {below : List Frame} {meth : Method} {c : Code} {b : Nat} (hx : p.tables.exec = Jvm.exec) (hb : c.code = code) (hr : meth.sig.returnType = ret) (hlocks : meth.locks = false) {pc : Nat} {H : Heap} {ls : Array Slot} (hdg : decode code pc = .ok (.ireturn, 1)) : W p l e room_1 s m #[Value.ref b] below meth c H [] 601024 7293034 (lw_Z below #[Value.ref b] s) (F0 m pc ls [.int 1]) := by
  intro T hT X
  obtain ⟨fs, hret, hrun, hended, hW, hframe⟩ := X.leave (v := some (.int 1)) (hlocks := hlocks) (fun h => by rw [hr] at h; cases h)
  have hmeth' : T.vm.method? m = some meth := X.method'
  refine ⟨T.setFrames fs, ?_, .returned (some (.int 1)), hrun, hended, rfl, ⟨_, rfl⟩, hW, hframe⟩
  jvm_step X.here [X.here.top, hx, hb, hdg, hmeth', hr, ret, narrow_b1]
  (try refine ⟨rfl, ?_⟩); (try refine ⟨rfl, ?_⟩)
  first | (intro acts; rw [hret _ acts rfl rfl rfl]) | rw [hret _ _ rfl rfl rfl]
  exact Steps.refl _
/-- what holds at the law's entry: the machine, the code, the tables' words (any of lw_tbl by 'hts w (by decide +kernel)'), the script of L ints xs at the cell b, what the Statement gives of the start (any of its parts by flat_of_before) -/
def lw_At (p : Program) (s : State) (m : MethodId) (meth : Method) (c : Code) (b L : Nat) (xs : Nat → Int32) : Prop :=
  p.tables.exec = Jvm.exec ∧ c.code = code ∧ meth.sig.returnType = ret ∧ c.maxLocals = 7 ∧ s.vm.findClass R_law = some m.cls ∧ (∀ w ∈ lw_tbl, w.before #[Value.ref b] s = true) ∧ va_X b L xs s s.heap ∧ b < s.heap.size ∧ meth.locks = false ∧ (Jvm.Cond.and given_1 narrow_1).before #[Value.ref b] s = true
theorem sc_cel {X : Cx} {M : Mm} {H : Heap} {b N : Nat} {xs : Nat → Int32} {s : State} (h1 : X.1 = s.heap) (h2 : X.2.1 22 = b) (hX : va_X b N xs s s.heap) (hH : H[b]? = s.heap[b]?) : Cel X (.inr (.int, N)) (fixM N xs M) 1000000022 H := by
  obtain ⟨scr, q1, q2, q3, q4, q5⟩ := hX
  have e : ph X 1000000022 = b := (ph_w 22).trans h2
  refine Or.inr ⟨rfl, rfl, scr, by rw [e, hH]; exact q1, q4, fun j hj => (q5 j hj).trans ?_⟩
  show some (Value.int (xs j)) = some (Value.int (if (1000000022 : Nat) = SCC then xs j else M.2.1 1000000022 j))
  rw [if_pos (show (1000000022 : Nat) = SCC from rfl)]
theorem Rel.fix {X : Cx} {M : Mm} {H : Heap} {b N : Nat} {xs : Nat → Int32} {s : State} (h1 : X.1 = s.heap) (h2 : X.2.1 22 = b) (hbl : b < s.heap.size) (hX : va_X b N xs s s.heap) (hR : Rel X M H) : Rel X (fixM N xs M) H := by
  refine ⟨hR.1, hR.2.1, fun a sh ha => ?_⟩
  have ha' : (if a = SCC then some (Sum.inr (FieldType.int, N)) else M.1 a) = some sh := ha
  by_cases hs : a = SCC
  · rw [if_pos hs] at ha'
    cases ha'
    rw [hs]
    exact sc_cel h1 h2 hX (by rw [hR.2.1 b (by rw [h1]; exact hbl), h1])
  · rw [if_neg hs] at ha'
    refine (hR.2.2 a sh ha').kept rfl (fun ty k => ?_)
    have e : (if a = SCC then xs k else M.2.1 a k) = M.2.1 a k := if_neg hs
    cases ty <;> first | rfl | exact congrArg Value.int e
def Z0 : Mm := (fun _ => none, fun _ _ => 0, fun _ _ => 0, fun _ _ => none, 0)
theorem st_Rel {X : Cx} {b N : Nat} {xs : Nat → Int32} {s : State} (h1 : X.1 = s.heap) (h2 : X.2.1 22 = b) (hbl : b < s.heap.size) (hX : va_X b N xs s s.heap) : Rel X (fixM N xs Z0) s.heap :=
  Rel.fix h1 h2 hbl hX ⟨(congrArg Array.size h1).symm, fun q hq => by rw [h1], fun a sh ha => by
    have h9 : (none : Option Sh) = some sh := ha
    cases h9⟩
theorem wsH_g : GoodIn gtbl (va_wsS (RN 13) 108 yL_hidden wsH) := by
  refine good_gtbl _ (fun w hw => ?_)
  unfold va_wsS at hw
  rcases List.mem_append.mp hw with h | h
  · simp only [List.mem_cons, List.not_mem_nil, or_false] at h
    rcases h with rfl | rfl | rfl
    · exact tbp_mem (p := 5) (i := 53) (by decide +kernel) rfl
    · exact tbp_mem (p := 5) (i := 54) (by decide +kernel) rfl
    · exact tbp_mem (p := 1) (i := 0) (by decide +kernel) rfl
  · have h' : w ∈ Cond.codeWith yL_hidden cL_hidden 4 (some .int) [(0, 9, 12, 13)] :: gtbl := h
    rcases List.mem_cons.mp h' with rfl | h
    · exact tbp_mem (p := 5) (i := 55) (by decide +kernel) rfl
    · exact h
section WE
variable {p : Program} {l : Launch} {e : Env} {s : State} {m : MethodId} {below : List Frame} {meth : Method} {c : Code}
theorem gl_of {X : Cx} {b N : Nat} {xs : Nat → Int32} {args : Array Value} (P : Option Value → Mm → Prop) (C0 : Ct p s m args meth c X 13 false code 7 (some .boolean)) (hZ : XZ X s) (h1 : X.1 = s.heap) (h2 : X.2.1 22 = b) (hbl : b < s.heap.size) (hX : va_X b N xs s s.heap) : GL l X N xs P (fun k q => WG p l e room_1 s m args below meth c X 7 P 601024 7293034 k q) := by
  refine ⟨Ga.of P C0 (Nat.le_refl _) (by show 40 * 2048 ≤ 84000; decide) (Nat.le_refl _) (Nat.le_refl _), ?_, ?_, ?_, ?_⟩
  · intro k q k' q' pc L st M hk hq h H locs ls hR hL hl
    exact W.widen hk hq (h H locs ls hR hL hl)
  · intro k q pc L st M h H locs ls hR hL hl T hT X0
    have h3 : T.heap.size ≤ s.heap.size + k := X0.same.2.2.1
    rw [hT, hR.1, h1] at h3
    exact h (by omega) H locs ls hR hL hl T hT X0
  · intro k q pc L st M h H locs ls hR hL hl
    exact h H locs ls (hR.fix h1 h2 hbl hX) hL hl
  · intro k q pc L M st As rest d' Post' hd hM hdd hlen hsum hst kk hk hq
    obtain ⟨hx, hb0, hr, hml, hown, hts, hlk, hKK, hini⟩ := C0
    subst hst
    show WG p l e room_1 s m args below meth c X 7 P 601024 7293034 k q pc L _ M
    refine WG.ofRun (mc' := 1) (ms' := 6) (a := (As.map (mv X)).toArray) (fun H locs ls hRel hl => ?_) kk
    refine vx_runSW (cc := code) (nL := 7) (As := As.map (mv X)) ⟨hx, hb0, hml, hown, hts⟩ hM (vx_cwSW 3 hts wsH_g rfl rfl rfl ⟨by decide +kernel, by decide +kernel, by decide +kernel⟩ ⟨hdd, by show 8 + (4 + 11) + 40 * d' ≤ 84000; omega⟩) ⟨PreX.blind _ _ _, fun U hU hW => ⟨⟨rfl, by rw [hU]; exact hRel, hKK.moved hW⟩, hZ.moved hW⟩⟩ rfl (by rw [List.length_map]; exact hlen) hl.1 ?_ (lv_room ?_) hd ⟨hk, hq⟩
    · simp
    · rw [List.map_map]
      have : (fun v : Value => v.category) ∘ mv X = fun v => v.category := by funext v; exact mv_cat X v
      rw [this]; exact hsum
end WE
theorem whole_start {p : Program} {e : Env} {s : State} {m : MethodId} {below : List Frame} {meth : Method} {c : Code} (l : Launch) (hlt : l.stackTraces = false) {b L : Nat} {xs : Nat → Int32} (hL : L ≤ 3584) (C0 : lw_At p s m meth c b L xs) : W p l e room_1 s m #[Value.ref b] below meth c s.heap [] 0 0 (lw_Z below #[Value.ref b] s) (entryFrame m ([Value.ref b] : List Value).toArray 7) := by
  obtain ⟨hx, hb, hr, hml, hown, hts, hX, hbl, hlocks, hgv⟩ := C0
  obtain ⟨X, h1, h2, hKK, hZ⟩ := st_X hts hX hgv
  have hph : ph X 1000000022 = b := (ph_w 22).trans h2
  have C1 : Ct p s m #[Value.ref b] meth c X 13 false code 7 (some .boolean) := ⟨hx, hb, hr, hml, hown, fun w hw => hts w (List.mem_filter.mp hw).1, hlocks, hKK, fun z => by cases z⟩
  obtain ⟨P, hP⟩ : ∃ P : Option Value → Mm → Prop, P = fun r _ => r = some (.int 1) := ⟨_, rfl⟩
  have hP1 : ∀ M, P (some (.int 1)) M := fun M => by subst hP; exact (rfl : (some (Value.int 1)) = some (.int 1))
  have hG := gl_of (l := l) (e := e) (below := below) P C1 hZ h1 h2 hbl hX
  have go := lw_pre l X L xs P _ hG (fixM L xs Z0).1 (fixM L xs Z0).2.1 (fixM L xs Z0).2.2.1 (fixM L xs Z0).2.2.2.1 (fun M' hJ => lw_loop l hlt X L xs P _ hG hL hP1 (L + 7) 0 172 39693 none none M' (by omega) (by omega) (by omega) (by omega) hJ)
  have hl0 := hasL_entry (X := X) (n := 7) (As := [.ref 1000000022]) (by simp [entA, Value.category])
  have em : ([.ref 1000000022] : List Value).map (mv X) = [.ref b] := by
    show [Value.ref (ph X 1000000022)] = _
    rw [hph]
  rw [em] at hl0
  rw [lg_entry_eq]
  intro T hT X0
  obtain ⟨t, a1, o, b1, b2, ⟨r, M', e1, e2, e3⟩, Lx, ⟨-, hW, hF⟩, hfree⟩ := go s.heap [] _ (st_Rel h1 h2 hbl hX) (fun z hz => by cases hz) hl0 T hT X0
  have e5 : r = some (.int 1) := by subst hP; exact e2
  have e4 : o = .returned (some (.int 1)) := by rw [e1, e5]; rfl
  exact ⟨t, a1, o, b1, b2, e4, ⟨_, e4⟩, hW, hF.weaken (fun y hy hlt2 => absurd hlt2 (Nat.not_lt.mpr (by rw [← h1]; exact hfree y hy))) (Nat.le_refl _) (Nat.le_refl _)⟩
