/-! System.arraycopy of ints; Math -/
def cpM (mI : Nat → Nat → Int32) (a0 a sp dp n : Nat) : Nat → Nat → Int32 := fun b k => if b = a ∧ dp ≤ k ∧ k < dp + n then mI a0 (sp + (k - dp)) else mI b k
section CopyRules
variable {p : Program} {l : Launch} {e : Env} {R : Room} {s : State} {m : MethodId} {args : Array Value} {below : List Frame} {meth : Method} {c : Code}
theorem acw : Cond.native arraycopyName ∈ gtbl ∧ Cond.static arraycopyName ∈ gtbl ∧ Cond.initialized "java/lang/System" ∈ gtbl := ⟨List.mem_filter.mpr ⟨by decide +kernel, rfl⟩, List.mem_filter.mpr ⟨by decide +kernel, rfl⟩, List.mem_filter.mpr ⟨by decide +kernel, rfl⟩⟩
theorem sum_cat {X : Cx} {st : List Value} {k : Nat} (h : (st.map (fun v => v.category)).sum ≤ k) : ((st.map (mv X)).map (fun v => v.category)).sum ≤ k := by
  rw [List.map_map]
  have : (fun v : Value => v.category) ∘ mv X = fun v => v.category := by funext v; exact mv_cat X v
  rw [this]; exact h
theorem WG.copyi {X : Cx} {own : Nat} {ini : Bool} {cc : ByteArray} {nL : Nat} {rt : Option FieldType} {Post : Option Value → Mm → Prop} {mc ms k q0 pc : Nat} (C0 : Ct p s m args meth c X own ini cc nL rt) {idx : Nat} {L : List (Option Value)} {st : List Value} {M : Mm}
    (hd : decode cc pc = .ok (.invokestatic idx, 3)) (w1 : Cond.methodLink (RN own) idx arraycopyName ∈ gtbl) {a0 a n0 n1 : Nat} (g0 : M.1 a0 = some (.inr (.int, n0))) (g1 : M.1 a = some (.inr (.int, n1))) (hac : a < CB) {sp dp n : Int32} (h1 : ¬ sp < 0) (h2 : ¬ dp < 0) (h3 : ¬ n < 0) (h4 : sp.toNatClampNeg + n.toNatClampNeg ≤ n0) (h5 : dp.toNatClampNeg + n.toNatClampNeg ≤ n1)
    (hf : 1 ≤ R.frames) (hlo : 40 ≤ R.locals) (hs : (st.map (fun v => v.category)).sum ≤ 8)
    (kk : WG p l e R s m args below meth c X nL Post mc ms k q0 (pc + 3) L st (M.1, cpM M.2.1 a0 a sp.toNatClampNeg dp.toNatClampNeg n.toNatClampNeg, M.2.2)) : WG p l e R s m args below meth c X nL Post mc ms k q0 pc L (.int n :: .int dp :: .ref a :: .int sp :: .ref a0 :: st) M := by
  obtain ⟨hx, hb0, hr, hml, hown, hts, hlk, hKK, hini⟩ := C0
  intro H locs ls hR hL hl T hT X0
  obtain ⟨sh, mI, mL, mR, nn9⟩ := M
  have nn : ∀ z : Int32, ¬ z < 0 → z.toInt = (z.toNatClampNeg : Int) := by
    intro z hz
    have hz0 : (0 : Int) ≤ z.toInt := by
      have := Int32.not_lt.mp hz
      simpa using Int32.le_iff_toInt_le.mp this
    show z.toInt = ((z.toInt.toNat : Nat) : Int)
    omega
  obtain ⟨ce, hc0, ⟨hs6, k0, hk0, cm0, hkk0⟩, hv0, hz0, hrd0⟩ := hR.ari hKK g0
  have hc1 : H[ph X a]? = some (arrV (X.2.2.2.2 .int) n1 (fun j => .int (mI a j))) := hR.arr g1 (Or.inl hac)
  obtain ⟨-, k1, hk1, cm1, hkk1⟩ := (hKK.2.1 .int (Or.inl rfl)).1 n1 (fun j => .int (mI a j))
  have hsum := sum_cat (X := X) hs
  have hnf : nativeFrameWords "java/lang/System" "arraycopy" 5 + 11 ≤ 32 := by decide +kernel
  obtain ⟨vm', X', step⟩ := X0.arraycopy hx hown (hts _ w1) (hts _ acw.1) (hts _ acw.2.1) (hts _ acw.2.2) (src := ph X a0) (dst := ph X a) (cs := ce) (cd := arrV (X.2.2.2.2 .int) n1 (fun j => .int (mI a j))) (srcPos := sp) (destPos := dp) (n := n) (by rw [hT]; exact hc0) (by rw [hT]; exact hc1)
    hs6 (fun _ h => by cases h) hv0 (fun h => by cases h) hk0 hk1 hkk0 hkk1 (by simp [refKind]) h1 h2 h3
    (by rw [nn sp h1, nn n h3, hz0]; omega)
    (by rw [nn dp h2, nn n h3, arrV_size]; omega)
    (fun vm₁ _ i hi => by
      have e : ce.slots.getD (sp.toNatClampNeg + i) .null = .int (mI a0 (sp.toNatClampNeg + i)) := by
        rw [Array.getD_eq_getD_getElem?, hrd0 _ (by omega)]
        rfl
      refine ⟨?_, ?_⟩
      · rw [e]; rfl
      · rw [e]; exact trivial)
    (g := F0 m pc ls (.int n :: .int dp :: .ref (ph X a) :: .int sp :: .ref (ph X a0) :: st.map (mv X))) rfl (by rw [hml]; exact hl.1) (rest := st.map (mv X)) rfl (by rw [hb0]; exact hd) hf (by show 2 * 0 + _ + _ ≤ _; omega)
  have e1 : copied ce (arrV (X.2.2.2.2 .int) n1 (fun j => Value.int (mI a j))) sp dp n = arrV (X.2.2.2.2 .int) n1 (fun j => .int (va_cpy (mI a0) (mI a) sp.toNatClampNeg dp.toNatClampNeg n.toNatClampNeg j)) := va_copiedX (fun z => .int z) ce _ (mI a0) _ hrd0 h4
  rw [e1] at X' step
  have hl9 : ph X a < H.size := (Array.getElem?_eq_some_iff.mp hc1).1
  have hRel : Rel X (sh, cpM mI a0 a sp.toNatClampNeg dp.toNatClampNeg n.toNatClampNeg, mL, mR, nn9) (H.setIfInBounds (ph X a) (arrV (X.2.2.2.2 .int) n1 (fun j => .int (va_cpy (mI a0) (mI a) sp.toNatClampNeg dp.toNatClampNeg n.toNatClampNeg j)))) := by
    refine ⟨Array.size_setIfInBounds.trans hR.1, fun q hq => ?_, fun b sb hb => ?_⟩
    · rw [Array.getElem?_setIfInBounds_ne (by rw [ph_lt hac]; omega)]
      exact hR.2.1 q hq
    · by_cases hba : b = a
      · subst hba
        cases g1.symm.trans hb
        refine Or.inl ?_
        show (H.setIfInBounds (ph X b) _)[ph X b]? = some (arrV _ _ _)
        rw [Array.getElem?_setIfInBounds_self_of_lt hl9]
        congr 2
        funext j
        show Value.int _ = Value.int _
        congr 1
        simp [va_cpy, cpM]
      · refine (hR.2.2 b sb hb).kept (Array.getElem?_setIfInBounds_ne (ph_ne hKK.2.2.1.1 hac hba).symm) (fun ty j => ?_)
        cases ty <;> simp [rd, cpM, hba]
  obtain ⟨t, a1, b1⟩ := kk _ _ ls hRel (fun z hz => by
    rcases List.mem_append.mp hz with h | h
    · exact hL z h
    · obtain ⟨z9, -, hz9⟩ := List.mem_map.mp h
      rw [← hz9]
      show X.1.size ≤ ph X a
      rw [ph_lt hac]; omega) hl _ (by rw [← hT]; rfl) X'
  exact ⟨t, step t a1, b1⟩
theorem mxw : Cond.static Lib.Math.max.name ∈ gtbl ∧ Cond.initialized "java/lang/Math" ∈ gtbl ∧ Cond.code Lib.Math.max.name Lib.Math.max.code 2 (some .int) ∈ gtbl ∧ Cond.static Lib.Math.min.name ∈ gtbl ∧ Cond.code Lib.Math.min.name Lib.Math.min.code 2 (some .int) ∈ gtbl := ⟨List.mem_filter.mpr ⟨by decide +kernel, rfl⟩, List.mem_filter.mpr ⟨by decide +kernel, rfl⟩, List.mem_filter.mpr ⟨by decide +kernel, rfl⟩, List.mem_filter.mpr ⟨by decide +kernel, rfl⟩, List.mem_filter.mpr ⟨by decide +kernel, rfl⟩⟩
theorem WG.mmax {X : Cx} {own : Nat} {ini : Bool} {cc : ByteArray} {nL : Nat} {rt : Option FieldType} {Post : Option Value → Mm → Prop} {mc ms k q0 pc : Nat} (C0 : Ct p s m args meth c X own ini cc nL rt) {idx : Nat} {L : List (Option Value)} {st : List Value} {M : Mm}
    (hd : decode cc pc = .ok (.invokestatic idx, 3)) (w1 : Cond.methodLink (RN own) idx Lib.Math.max.name ∈ gtbl) {x y : Int32} (hf : 1 ≤ R.frames) (hlo : 40 ≤ R.locals) (hs : (st.map (fun v => v.category)).sum ≤ 8) (hkq : k ≤ R.cells ∧ q0 ≤ R.slots)
    (kk : WG p l e R s m args below meth c X nL Post mc ms k q0 (pc + 3) L (.int (if x < y then y else x) :: st) M) : WG p l e R s m args below meth c X nL Post mc ms k q0 pc L (.int y :: .int x :: st) M := by
  obtain ⟨hx, hb0, hr, hml, hown, hts, hlk, hKK, hini⟩ := C0
  intro H locs ls hR hL hl
  have hsum := sum_cat (X := X) hs
  exact va_mmax hx hb0 (by rw [hml]; exact hl.1.symm) hown (hts _ w1) (hts _ mxw.1) (hts _ mxw.2.1) (hts _ mxw.2.2.1) hf (by omega) hkq.1 hkq.2 hd (kk H locs ls hR hL hl)
theorem WG.mmin {X : Cx} {own : Nat} {ini : Bool} {cc : ByteArray} {nL : Nat} {rt : Option FieldType} {Post : Option Value → Mm → Prop} {mc ms k q0 pc : Nat} (C0 : Ct p s m args meth c X own ini cc nL rt) {idx : Nat} {L : List (Option Value)} {st : List Value} {M : Mm}
    (hd : decode cc pc = .ok (.invokestatic idx, 3)) (w1 : Cond.methodLink (RN own) idx Lib.Math.min.name ∈ gtbl) {x y : Int32} (hf : 1 ≤ R.frames) (hlo : 40 ≤ R.locals) (hs : (st.map (fun v => v.category)).sum ≤ 8) (hkq : k ≤ R.cells ∧ q0 ≤ R.slots)
    (kk : WG p l e R s m args below meth c X nL Post mc ms k q0 (pc + 3) L (.int (if y < x then y else x) :: st) M) : WG p l e R s m args below meth c X nL Post mc ms k q0 pc L (.int y :: .int x :: st) M := by
  obtain ⟨hx, hb0, hr, hml, hown, hts, hlk, hKK, hini⟩ := C0
  intro H locs ls hR hL hl
  have hsum := sum_cat (X := X) hs
  exact va_mmin hx hb0 (by rw [hml]; exact hl.1.symm) hown (hts _ w1) (hts _ mxw.2.2.2.1) (hts _ mxw.2.1) (hts _ mxw.2.2.2.2) hf (by omega) hkq.1 hkq.2 hd (kk H locs ls hR hL hl)
end CopyRules
