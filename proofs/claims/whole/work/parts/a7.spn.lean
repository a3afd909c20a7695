/-! span: a switch by pairs -/
theorem Cn.runK {l : Launch} {X : Cx} {y : MethodName} {cc : ByteArray} {n : Nat} {r : Option FieldType} {d : Nat} {As : List Value} {M : Mm} {Post : Option Value → Mm → Prop} (hy : plainName y.cls = true) (hcls : y.cls = RN 11) (hlen : (entA As).length ≤ n)
    (body : ∀ (P : Option Value → Mm → Prop) (G : Nat → List (Option Value) → List Value → Mm → Prop), (∀ r M', Post r M' → P r M') → Gd l X 11 false cc r d P G → (∀ (pc : Nat) (L : List (Option Value)) (st : List Value) (M : Mm) (x : Int32) (df : Int) (ps : Array (Int × Int)) (len tgt : Nat), decode cc pc = .ok (.lookupswitch df ps, len) → (ps.toList.zip (ps.toList.drop 1)).all (fun (a, next) => a.1 < next.1) = true → (pc : Int) + Op.lookupswitch.offset ps.toList df x.toInt = (tgt : Int) → G tgt L st M → G pc L (.int x :: st) M) → G 0 (entL n As) [] M) : Cn l X y cc n r d As M Post 0 0 := by
  refine Cn.of 11 false hy hcls (fun z => by cases z) hlen ?_
  intro p e s m args below meth c C0
  refine body Post (WG p l e (rmm d 0 0) s m args below meth c X n Post 0 0 0 0) (fun _ _ z => z) ⟨fun stops f pc L st M h => wp_sound C0 ⟨Nat.le_refl _, Nat.le_refl _⟩ stops f pc L st M h, ?_, ?_, ?_, ?_, ?_⟩ (fun pc L st M x df ps len tgt hd hp ht kk => ?_)
  · intro pc idx ci y cc' n' r' np d' Post' b As rest L M st hd hw hn hM hc hb hdd hn' hs hst kk
    exact WG.callV C0 hd hw hn hM hc hb ⟨hdd, by show _ ≤ 40 * d; omega⟩ hs ⟨Nat.le_refl _, Nat.le_refl _⟩ hst kk
  · intro pc idx y cc' n' r' np d' Post' As rest L M st hd hw hn hM hdd hn' hs hst kk
    exact WG.callS C0 hd hw hn hM ⟨hdd, by show _ ≤ 40 * d; omega⟩ hs ⟨Nat.le_refl _, Nat.le_refl _⟩ hst kk
  · intro pc idx L st M a0 a n0 n1 sp dp n hd w1 g0 g1 hac h1 h2 h3 h4 h5 hdd hs kk
    exact WG.copyi C0 hd w1 g0 g1 hac h1 h2 h3 h4 h5 hdd (by show _ ≤ 40 * d; omega) hs kk
  · intro pc idx L st M x y hd w1 hdd hs kk
    exact WG.mmax C0 hd w1 hdd (by show _ ≤ 40 * d; omega) hs ⟨Nat.le_refl _, Nat.le_refl _⟩ kk
  · intro pc idx L st M x y hd w1 hdd hs kk
    exact WG.mmin C0 hd w1 hdd (by show _ ≤ 40 * d; omega) hs ⟨Nat.le_refl _, Nat.le_refl _⟩ kk
  · obtain ⟨hx, hb, hr, hml, hown, hts, hlk, hKK, hini⟩ := C0
    intro H locs ls hR hL hl
    exact lv_lookup hx hb hd hp rfl ht (kk H locs ls hR hL hl)
def aSpan (A : DD) (x w : Int32) : Int32 := if aP A x && wth w (nI 0) (nI 1) && decide (0 < ordN (A 0 0) (A 0 2) (A 5) (A 6)) then (if w = nI 0 then nI (pcn (abv (A 0 0) (A 0 2) (A 5) (A 6) x.toNatClampNeg)) else nI (A 0 0) - nI 1 - nI (fb_sm (fun p => ((abv (A 0 0) (A 0 2) (A 5) (A 6) p).testBit x.toNatClampNeg).toNat) (A 0 0))) else -nI 1
theorem fb_ctsm (f : Nat → Bool) : ∀ n, fb_ct f n = fb_sm (fun p => (f p).toNat) n
  | 0 => rfl
  | n + 1 => by
    show fb_ct f n + (if f n then 1 else 0) = fb_sm (fun p => (f p).toNat) n + (f n).toNat
    rw [fb_ctsm f n]
    cases f n <;> rfl
set_option maxHeartbeats 800000 in
set_option maxRecDepth 100000 in
theorem c11_span (l : Launch) (X : Cx) (d : Nat) (sh : Nat → Option Sh) (mI : Nat → Nat → Int32) (mL : Nat → Nat → Int64) (mR : Nat → Nat → Option Nat) (n : Nat) (hB : BL sh mR) (C : Nat) (A : DD) (hV : AsV A) (hS : ShA sh mI mR n 20 C A) (hI : LdI mI A) (x w : Int32) (hd : 3 ≤ d) : Cn l X yX11_span cX11_span 3 (some .int) d [.ref 0, .int x, .int w] (sh, mI, mL, mR, n) (fun r M' => r = some (.int (aSpan A x w)) ∧ ∃ mI', M' = (sh, mI', mL, mR, n) ∧ (∀ a k, ¬ (33 ≤ a ∧ a ≤ 36) → mI' a k = mI a k) ∧ LdI mI' A) 0 0 := by
  refine Cn.runK (by decide) rfl (by simp [entA, Value.category]) ?_
  intro P G hP hG hK
  have q0 := hB.1
  have b3 := hB.2.2.2.1.1
  have b5 := hB.2.2.2.2.2.1.1
  have o2 := hB.2.2.2.2.2.1.2
  have s2 := o2.1
  have hnp := hV.1.1
  refine hG.run [] 20 ?_
  simp [wp, stepI, ln, jmp, cmpI, Value.category, rd, tyF, va_rf, st1, st2, clr, isLg, CB, inx_0, inx_1, inx_2, inx_3, inx_4, inx_5, bI_0, bI_1, bI_ok, fin3, tyX11, entL, q0, b3, b5, dX11_span_0, dX11_span_1, fT_11_34, dX11_span_4, dX11_span_5, fT_11_23, dX11_span_8, dX11_span_11, dX11_span_12, dX11_span_13, dX11_span_16, dX11_span_19, dX11_span_20, dX11_span_23, fT_11_153, dX11_span_26, dX11_span_29, dX11_span_30, dX11_span_31, dX11_span_32, dX11_span_60, dX11_span_61, dX11_span_64, dX11_span_65, dX11_span_68, dX11_span_69, dX11_span_70, dX11_span_73, dX11_span_74, dX11_span_77, dX11_span_78, dX11_span_79]
  refine hG.callV dX11_span_8 mv_11_150 [.ref 20] [] (c2_now l X (d - 1) sh mI mL mR n hB C A hV hS hI (by omega)) ⟨_, rfl, rfl⟩ s2 (by omega) rfl (by decide) (by simp [Value.category]) rfl ?_
  rintro r M' ⟨rfl, mI1, rfl, f1, R1, I1⟩
  have S1 := hS.fr (fun a k h => f1 a k (by omega))
  have fin : ∀ v, v = aSpan A x w → P (some (.int v)) (sh, mI1, mL, mR, n) := fun v hv => by rw [hv]; exact hP _ _ ⟨rfl, mI1, rfl, f1, I1⟩
  refine hG.run [] 20 ?_
  simp [wp, stepI, ln, jmp, cmpI, Value.category, rd, tyF, va_rf, st1, st2, clr, isLg, CB, inx_0, inx_1, inx_2, inx_3, inx_4, inx_5, bI_0, bI_1, bI_ok, fin3, tyX11, entL, q0, dX11_span_0, dX11_span_1, fT_11_34, dX11_span_4, dX11_span_5, fT_11_23, dX11_span_8, dX11_span_11, dX11_span_12, dX11_span_13, dX11_span_16, dX11_span_19, dX11_span_20, dX11_span_23, fT_11_153, dX11_span_26, dX11_span_29, dX11_span_30, dX11_span_31, dX11_span_32, dX11_span_60, dX11_span_61, dX11_span_64, dX11_span_65, dX11_span_68, dX11_span_69, dX11_span_70, dX11_span_73, dX11_span_74, dX11_span_77, dX11_span_78, dX11_span_79]
  refine hG.callV dX11_span_13 mv_11_100 [.int x] [] (c11_isPupil l X (d - 1) sh mI1 mL mR n hB C A S1 x) ⟨_, rfl, rfl⟩ q0 (by omega) rfl (by decide) (by simp [Value.category]) rfl ?_
  rintro r M' ⟨rfl, rfl⟩
  have ff := R1.2.2.1
  cases h2 : aP A x with
  | false =>
    have q := fin (-1) (by unfold aSpan; rw [h2]; rfl)
    refine hG.run [19] 20 ?_
    simp [wp, stepI, ln, jmp, cmpI, Value.category, rd, tyF, va_rf, st1, st2, clr, isLg, CB, inx_0, inx_1, inx_2, inx_3, inx_4, inx_5, bI_0, bI_1, bI_ok, fin3, tyX11, entL, q0, dX11_span_0, dX11_span_1, fT_11_34, dX11_span_4, dX11_span_5, fT_11_23, dX11_span_8, dX11_span_11, dX11_span_12, dX11_span_13, dX11_span_16, dX11_span_19, dX11_span_20, dX11_span_23, fT_11_153, dX11_span_26, dX11_span_29, dX11_span_30, dX11_span_31, dX11_span_32, dX11_span_60, dX11_span_61, dX11_span_64, dX11_span_65, dX11_span_68, dX11_span_69, dX11_span_70, dX11_span_73, dX11_span_74, dX11_span_77, dX11_span_78, dX11_span_79]
    exact q
  | true =>
    obtain ⟨p, hp, rfl⟩ := aP_i hV h2
    cases ho : decide (0 < ordN (A 0 0) (A 0 2) (A 5) (A 6)) with
    | false =>
      have q := fin (-1) (by unfold aSpan; rw [h2, ho, Bool.and_false]; rfl)
      rw [ho] at ff
      have ff' : mI1 33 6 = 0 := ff
      refine hG.run [31] 20 ?_
      simp [wp, stepI, ln, jmp, cmpI, Value.category, rd, tyF, va_rf, st1, st2, clr, isLg, CB, inx_0, inx_1, inx_2, inx_3, inx_4, inx_5, bI_0, bI_1, bI_ok, fin3, tyX11, entL, q0, b5, s2, tyX2, ff', dX11_span_0, dX11_span_1, fT_11_34, dX11_span_4, dX11_span_5, fT_11_23, dX11_span_8, dX11_span_11, dX11_span_12, dX11_span_13, dX11_span_16, dX11_span_19, dX11_span_20, dX11_span_23, fT_11_153, dX11_span_26, dX11_span_29, dX11_span_30, dX11_span_31, dX11_span_32, dX11_span_60, dX11_span_61, dX11_span_64, dX11_span_65, dX11_span_68, dX11_span_69, dX11_span_70, dX11_span_73, dX11_span_74, dX11_span_77, dX11_span_78, dX11_span_79]
      exact q
    | true =>
      rw [ho] at ff
      have ff' : ¬ mI1 33 6 = 0 := by rw [ff]; decide
      refine hG.run [32] 20 ?_
      simp [wp, stepI, ln, jmp, cmpI, Value.category, rd, tyF, va_rf, st1, st2, clr, isLg, CB, inx_0, inx_1, inx_2, inx_3, inx_4, inx_5, bI_0, bI_1, bI_ok, fin3, tyX11, entL, q0, b5, s2, tyX2, ff', dX11_span_0, dX11_span_1, fT_11_34, dX11_span_4, dX11_span_5, fT_11_23, dX11_span_8, dX11_span_11, dX11_span_12, dX11_span_13, dX11_span_16, dX11_span_19, dX11_span_20, dX11_span_23, fT_11_153, dX11_span_26, dX11_span_29, dX11_span_30, dX11_span_31, dX11_span_32, dX11_span_60, dX11_span_61, dX11_span_64, dX11_span_65, dX11_span_68, dX11_span_69, dX11_span_70, dX11_span_73, dX11_span_74, dX11_span_77, dX11_span_78, dX11_span_79]
      have LA := R1.2.2
      have ab := LA.2 ho p hp
      have ev : ∀ v j, w = nI j → j ≤ 1 → v = (if w = nI 0 then nI (pcn (abv (A 0 0) (A 0 2) (A 5) (A 6) p)) else nI (A 0 0) - nI 1 - nI (fb_sm (fun q => ((abv (A 0 0) (A 0 2) (A 5) (A 6) q).testBit p).toNat) (A 0 0))) → v = aSpan A (nI p) w := fun v j hj hj1 hv => by
        rw [hv]
        unfold aSpan
        rw [h2, ho, hj, wth_t hj1 (by decide), nI_clamp (by omega)]; rfl
      by_cases w0 : w = nI 0
      · refine hK 32 _ _ _ w _ _ _ 60 dX11_span_32 (by decide) (by rw [w0]; rfl) ?_
        have q := fin (nI (pcn (abv (A 0 0) (A 0 2) (A 5) (A 6) p))) (ev _ 0 w0 (by decide) (by rw [if_pos w0]))
        refine hG.run [] 20 ?_
        simp [wp, stepI, ln, jmp, cmpI, Value.category, rd, tyF, va_rf, st1, st2, clr, isLg, CB, inx_0, inx_1, inx_2, inx_3, inx_4, inx_5, bI_0, bI_1, bI_ok, fin3, tyX11, entL, q0, b5, dX11_span_0, dX11_span_1, fT_11_34, dX11_span_4, dX11_span_5, fT_11_23, dX11_span_8, dX11_span_11, dX11_span_12, dX11_span_13, dX11_span_16, dX11_span_19, dX11_span_20, dX11_span_23, fT_11_153, dX11_span_26, dX11_span_29, dX11_span_30, dX11_span_31, dX11_span_32, dX11_span_60, dX11_span_61, dX11_span_64, dX11_span_65, dX11_span_68, dX11_span_69, dX11_span_70, dX11_span_73, dX11_span_74, dX11_span_77, dX11_span_78, dX11_span_79]
        refine hG.callV dX11_span_65 mv_11_160 [.int (nI p)] [] (c2_leastPlace l X (d - 1) sh mI1 mL mR n 33 o2 _ p (by omega) ab (by omega)) ⟨_, rfl, rfl⟩ s2 (by omega) rfl (by decide) (by simp [Value.category]) rfl ?_
        rintro r M' ⟨rfl, rfl⟩
        refine hG.run [] 20 ?_
        simp [wp, stepI, ln, jmp, cmpI, Value.category, rd, tyF, va_rf, st1, st2, clr, isLg, CB, inx_0, inx_1, inx_2, inx_3, inx_4, inx_5, bI_0, bI_1, bI_ok, fin3, tyX11, entL, q0, dX11_span_0, dX11_span_1, fT_11_34, dX11_span_4, dX11_span_5, fT_11_23, dX11_span_8, dX11_span_11, dX11_span_12, dX11_span_13, dX11_span_16, dX11_span_19, dX11_span_20, dX11_span_23, fT_11_153, dX11_span_26, dX11_span_29, dX11_span_30, dX11_span_31, dX11_span_32, dX11_span_60, dX11_span_61, dX11_span_64, dX11_span_65, dX11_span_68, dX11_span_69, dX11_span_70, dX11_span_73, dX11_span_74, dX11_span_77, dX11_span_78, dX11_span_79]
        exact q
      · by_cases w1 : w = nI 1
        · refine hK 32 _ _ _ w _ _ _ 69 dX11_span_32 (by decide) (by rw [w1]; rfl) ?_
          have q := fin (nI (A 0 0 - 1) - nI (fb_ct (fun q => decide (0 < ordN (A 0 0) (A 0 2) (A 5) (A 6)) && (abv (A 0 0) (A 0 2) (A 5) (A 6) q).testBit p) (A 0 0))) (ev _ 1 w1 (by decide) (by rw [if_neg w0, ho, show nI (A 0 0) - nI 1 = nI (A 0 0 - 1) from pk_sub (by omega)]; simp only [Bool.true_and]; rw [fb_ctsm]))
          refine hG.run [] 20 ?_
          simp [wp, stepI, ln, jmp, cmpI, Value.category, rd, tyF, va_rf, st1, st2, clr, isLg, CB, inx_0, inx_1, inx_2, inx_3, inx_4, inx_5, bI_0, bI_1, bI_ok, fin3, tyX11, entL, q0, b5, dX11_span_0, dX11_span_1, fT_11_34, dX11_span_4, dX11_span_5, fT_11_23, dX11_span_8, dX11_span_11, dX11_span_12, dX11_span_13, dX11_span_16, dX11_span_19, dX11_span_20, dX11_span_23, fT_11_153, dX11_span_26, dX11_span_29, dX11_span_30, dX11_span_31, dX11_span_32, dX11_span_60, dX11_span_61, dX11_span_64, dX11_span_65, dX11_span_68, dX11_span_69, dX11_span_70, dX11_span_73, dX11_span_74, dX11_span_77, dX11_span_78, dX11_span_79]
          refine hG.callV dX11_span_74 mv_11_164 [.int (nI p)] [] (c2_greatestPlace l X (d - 1) sh mI1 mL mR n 33 o2 _ LA.1 _ (A 0 0) hnp R1.2.1.1 LA.2 p hp (by omega)) ⟨_, rfl, rfl⟩ s2 (by omega) rfl (by decide) (by simp [Value.category]) rfl ?_
          rintro r M' ⟨rfl, rfl⟩
          refine hG.run [] 20 ?_
          simp [wp, stepI, ln, jmp, cmpI, Value.category, rd, tyF, va_rf, st1, st2, clr, isLg, CB, inx_0, inx_1, inx_2, inx_3, inx_4, inx_5, bI_0, bI_1, bI_ok, fin3, tyX11, entL, q0, dX11_span_0, dX11_span_1, fT_11_34, dX11_span_4, dX11_span_5, fT_11_23, dX11_span_8, dX11_span_11, dX11_span_12, dX11_span_13, dX11_span_16, dX11_span_19, dX11_span_20, dX11_span_23, fT_11_153, dX11_span_26, dX11_span_29, dX11_span_30, dX11_span_31, dX11_span_32, dX11_span_60, dX11_span_61, dX11_span_64, dX11_span_65, dX11_span_68, dX11_span_69, dX11_span_70, dX11_span_73, dX11_span_74, dX11_span_77, dX11_span_78, dX11_span_79]
          exact q
        · refine hK 32 _ _ _ w _ _ _ 78 dX11_span_32 (by decide) (show (32 : Int) + Op.lookupswitch.offset [(0, 28), (1, 37)] 46 w.toInt = 78 by rw [lv_osw (k := nI 0) (a := 0) w0 (by decide), lv_osw (k := nI 1) (a := 1) w1 (by decide)]; rfl) ?_
          have q := fin (-1) (by
            unfold aSpan
            have : wth w (nI 0) (nI 1) = false := by
              cases hh : wth w (nI 0) (nI 1) with
              | false => rfl
              | true =>
                obtain ⟨j, hj, rfl⟩ := wth_i hh (by decide)
                have : j = 0 ∨ j = 1 := by omega
                rcases this with rfl | rfl
                · exact absurd rfl w0
                · exact absurd rfl w1
            rw [this, Bool.and_false]; rfl)
          refine hG.run [] 20 ?_
          simp [wp, stepI, ln, jmp, cmpI, Value.category, rd, tyF, va_rf, st1, st2, clr, isLg, CB, inx_0, inx_1, inx_2, inx_3, inx_4, inx_5, bI_0, bI_1, bI_ok, fin3, tyX11, entL, q0, dX11_span_0, dX11_span_1, fT_11_34, dX11_span_4, dX11_span_5, fT_11_23, dX11_span_8, dX11_span_11, dX11_span_12, dX11_span_13, dX11_span_16, dX11_span_19, dX11_span_20, dX11_span_23, fT_11_153, dX11_span_26, dX11_span_29, dX11_span_30, dX11_span_31, dX11_span_32, dX11_span_60, dX11_span_61, dX11_span_64, dX11_span_65, dX11_span_68, dX11_span_69, dX11_span_70, dX11_span_73, dX11_span_74, dX11_span_77, dX11_span_78, dX11_span_79]
          exact q
