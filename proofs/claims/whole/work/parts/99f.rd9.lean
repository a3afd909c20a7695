/-- what a token joins on a level -/
def jnF (t : Nat → Nat) (N p lv : Nat) : Int32 := if lv = 0 then (if isW t N p 1111 then -nI 7 else if isW t N p 423 then -nI 8 else nI 0) else if lv = 1 then (if isG t N p 60 then -nI 9 else if isG t N p 61 then -nI 10 else nI 0) else if lv = 2 then (if isG t N p 43 then -nI 11 else if isG t N p 45 then -nI 12 else nI 0) else (if isG t N p 42 then -nI 13 else nI 0)
set_option maxHeartbeats 4000000 in
set_option maxRecDepth 100000 in
theorem c3_joinerOf (l : Launch) (X : Cx) (d : Nat) (sh : Nat → Option Sh) (mI : Nat → Nat → Int32) (mL : Nat → Nat → Int64) (mR : Nat → Nat → Option Nat) (n : Nat) (R C TP : Nat) (t : Nat → Nat) (N p : Nat) (hS : RsM sh mI mL mR R C TP t N p) (lv : Nat) (hl : lv < 4) : Cn l X yX3_joinerOf cX3_joinerOf 2 (some .int) d [.ref R, .int (nI lv)] (sh, mI, mL, mR, n) (fun r M' => r = some (.int (jnF t N p lv)) ∧ M' = (sh, mI, mL, mR, n)) 0 0 := by
  refine Cn.run 3 false (by decide) rfl (by decide) (by simp [entA, Value.category]) ?_
  intro P G hP hG
  obtain ⟨g1, g2, g3, g4⟩ := hS
  have q0 := g1.1
  have r1 := g1.2.2.2.1
  have k0 := g1.2.2.2.2.2.2.2.2.2.2.1.1
  have kd := g3.2.2.1
  have h6 := g3.2.2.2.2.2
  have ci := ckd_iff (t := t) (N := N) (p := p)
  have cl := ci.2.2.2.2
  have hl4 : lv = 0 ∨ lv = 1 ∨ lv = 2 ∨ lv = 3 := by omega
  have fin : ∀ v, v = jnF t N p lv → P (some (.int v)) (sh, mI, mL, mR, n) := fun v hv => by rw [hv]; exact hP _ _ ⟨rfl, rfl⟩
  rcases hl4 with rfl | rfl | rfl | rfl
  · have e1 := wrd_is (t := t) (N := N) (p := p) (i := 14) (by decide)
    have e2 := wrd_is (t := t) (N := N) (p := p) (i := 15) (by decide)
    have f1 : jnF t N p 0 = if isW t N p 1111 then -nI 7 else if isW t N p 423 then -nI 8 else nI 0 := by unfold jnF; rw [if_pos rfl]
    have e1' : isW t N p 1111 = true ↔ _ := e1
    have e2' : isW t N p 423 = true ↔ _ := e2
    rw [f1] at fin
    by_cases hk : lxK t N p = 1
    · rw [if_pos hk] at h6
      unfold wrd at h6
      by_cases hw : wix (lxWd t N p) < 21
      · rw [if_pos hw] at h6
        obtain ⟨x, hx⟩ : ∃ x, x = 1000000000 + wix (lxWd t N p) := ⟨_, rfl⟩
        rw [← hx] at h6
        have x22 : x < 1000000022 := by rw [hx]; exact Nat.lt_succ_of_lt (Nat.add_lt_add_left hw 1000000000)
        have y1 : x = 1000000014 ↔ wix (lxWd t N p) = 14 := by rw [hx]; exact Nat.add_left_cancel_iff (n := 1000000000) (k := 14)
        have y2 : x = 1000000015 ↔ wix (lxWd t N p) = 15 := by rw [hx]; exact Nat.add_left_cancel_iff (n := 1000000000) (k := 15)
        refine hG.run [] 60 ?_
        simp [wp, stepI, ln, jmp, cmpI, Value.category, rd, tyF, vrs, vrn, ex_rr, ex_rn, ex_nr, ex_nn, okA_s, okA_n, st1, st2, clr, isLg, CB, inx_0, inx_1, inx_2, inx_3, inx_4, inx_5, bI_0, bI_1, bI_ok, fin3, tyX3, entL, q0, swK, r1, k0, tyX8, h6, dX3_joinerOf_0, dX3_joinerOf_1, dX3_joinerOf_28, dX3_joinerOf_29, fT_3_21, dX3_joinerOf_32, fT_3_74, dX3_joinerOf_35, sT_3_214, dX3_joinerOf_38, dX3_joinerOf_41, dX3_joinerOf_43, dX3_joinerOf_46, dX3_joinerOf_47, dX3_joinerOf_50, dX3_joinerOf_53, sT_3_217, dX3_joinerOf_56, dX3_joinerOf_59, dX3_joinerOf_61, dX3_joinerOf_64, dX3_joinerOf_65, dX3_joinerOf_66, dX3_joinerOf_67, dX3_joinerOf_70, fT_3_67, dX3_joinerOf_73, dX3_joinerOf_75, dX3_joinerOf_78, dX3_joinerOf_80, dX3_joinerOf_83, dX3_joinerOf_84, dX3_joinerOf_87, dX3_joinerOf_90, dX3_joinerOf_92, dX3_joinerOf_95, dX3_joinerOf_97, dX3_joinerOf_100, dX3_joinerOf_101, dX3_joinerOf_102, dX3_joinerOf_103, dX3_joinerOf_106, dX3_joinerOf_109, dX3_joinerOf_111, dX3_joinerOf_114, dX3_joinerOf_116, dX3_joinerOf_119, dX3_joinerOf_120, dX3_joinerOf_123, dX3_joinerOf_126, dX3_joinerOf_128, dX3_joinerOf_131, dX3_joinerOf_133, dX3_joinerOf_136, dX3_joinerOf_137, dX3_joinerOf_138, dX3_joinerOf_139, dX3_joinerOf_142, dX3_joinerOf_145, dX3_joinerOf_147, dX3_joinerOf_150, dX3_joinerOf_152, dX3_joinerOf_155, dX3_joinerOf_156]
        refine ⟨⟨fun _ => ⟨x22, fun z => ⟨x22, fun z2 => fin _ ?_, fun z2 => fin _ ?_⟩, fun z => fin _ ?_⟩, fun z => absurd z (by decide), fun z => absurd z (by decide)⟩, fun z => absurd z (by decide)⟩
        · rw [if_neg (fun y => z (y1.mpr (e1'.mp y).2)), if_neg (fun y => z2 (y2.mpr (e2'.mp y).2))]; rfl
        · rw [if_neg (fun y => z (y1.mpr (e1'.mp y).2)), if_pos (e2'.mpr ⟨hk, y2.mp z2⟩)]; rfl
        · rw [if_pos (e1'.mpr ⟨hk, y1.mp z⟩)]; rfl
      · rw [if_neg hw] at h6
        refine hG.run [] 60 ?_
        simp [wp, stepI, ln, jmp, cmpI, Value.category, rd, tyF, vrs, vrn, ex_rr, ex_rn, ex_nr, ex_nn, okA_s, okA_n, st1, st2, clr, isLg, CB, inx_0, inx_1, inx_2, inx_3, inx_4, inx_5, bI_0, bI_1, bI_ok, fin3, tyX3, entL, q0, swK, r1, k0, tyX8, h6, dX3_joinerOf_0, dX3_joinerOf_1, dX3_joinerOf_28, dX3_joinerOf_29, fT_3_21, dX3_joinerOf_32, fT_3_74, dX3_joinerOf_35, sT_3_214, dX3_joinerOf_38, dX3_joinerOf_41, dX3_joinerOf_43, dX3_joinerOf_46, dX3_joinerOf_47, dX3_joinerOf_50, dX3_joinerOf_53, sT_3_217, dX3_joinerOf_56, dX3_joinerOf_59, dX3_joinerOf_61, dX3_joinerOf_64, dX3_joinerOf_65, dX3_joinerOf_66, dX3_joinerOf_67, dX3_joinerOf_70, fT_3_67, dX3_joinerOf_73, dX3_joinerOf_75, dX3_joinerOf_78, dX3_joinerOf_80, dX3_joinerOf_83, dX3_joinerOf_84, dX3_joinerOf_87, dX3_joinerOf_90, dX3_joinerOf_92, dX3_joinerOf_95, dX3_joinerOf_97, dX3_joinerOf_100, dX3_joinerOf_101, dX3_joinerOf_102, dX3_joinerOf_103, dX3_joinerOf_106, dX3_joinerOf_109, dX3_joinerOf_111, dX3_joinerOf_114, dX3_joinerOf_116, dX3_joinerOf_119, dX3_joinerOf_120, dX3_joinerOf_123, dX3_joinerOf_126, dX3_joinerOf_128, dX3_joinerOf_131, dX3_joinerOf_133, dX3_joinerOf_136, dX3_joinerOf_137, dX3_joinerOf_138, dX3_joinerOf_139, dX3_joinerOf_142, dX3_joinerOf_145, dX3_joinerOf_147, dX3_joinerOf_150, dX3_joinerOf_152, dX3_joinerOf_155, dX3_joinerOf_156]
        refine ⟨⟨fun _ => fin _ ?_, fun z => absurd z (by decide), fun z => absurd z (by decide)⟩, fun z => absurd z (by decide)⟩
        rw [if_neg (fun y => hw (by have := (e1'.mp y).2; omega)), if_neg (fun y => hw (by have := (e2'.mp y).2; omega))]; rfl
    · rw [if_neg hk] at h6
      refine hG.run [] 60 ?_
      simp [wp, stepI, ln, jmp, cmpI, Value.category, rd, tyF, vrs, vrn, ex_rr, ex_rn, ex_nr, ex_nn, okA_s, okA_n, st1, st2, clr, isLg, CB, inx_0, inx_1, inx_2, inx_3, inx_4, inx_5, bI_0, bI_1, bI_ok, fin3, tyX3, entL, q0, swK, r1, k0, tyX8, h6, dX3_joinerOf_0, dX3_joinerOf_1, dX3_joinerOf_28, dX3_joinerOf_29, fT_3_21, dX3_joinerOf_32, fT_3_74, dX3_joinerOf_35, sT_3_214, dX3_joinerOf_38, dX3_joinerOf_41, dX3_joinerOf_43, dX3_joinerOf_46, dX3_joinerOf_47, dX3_joinerOf_50, dX3_joinerOf_53, sT_3_217, dX3_joinerOf_56, dX3_joinerOf_59, dX3_joinerOf_61, dX3_joinerOf_64, dX3_joinerOf_65, dX3_joinerOf_66, dX3_joinerOf_67, dX3_joinerOf_70, fT_3_67, dX3_joinerOf_73, dX3_joinerOf_75, dX3_joinerOf_78, dX3_joinerOf_80, dX3_joinerOf_83, dX3_joinerOf_84, dX3_joinerOf_87, dX3_joinerOf_90, dX3_joinerOf_92, dX3_joinerOf_95, dX3_joinerOf_97, dX3_joinerOf_100, dX3_joinerOf_101, dX3_joinerOf_102, dX3_joinerOf_103, dX3_joinerOf_106, dX3_joinerOf_109, dX3_joinerOf_111, dX3_joinerOf_114, dX3_joinerOf_116, dX3_joinerOf_119, dX3_joinerOf_120, dX3_joinerOf_123, dX3_joinerOf_126, dX3_joinerOf_128, dX3_joinerOf_131, dX3_joinerOf_133, dX3_joinerOf_136, dX3_joinerOf_137, dX3_joinerOf_138, dX3_joinerOf_139, dX3_joinerOf_142, dX3_joinerOf_145, dX3_joinerOf_147, dX3_joinerOf_150, dX3_joinerOf_152, dX3_joinerOf_155, dX3_joinerOf_156]
      refine ⟨⟨fun _ => fin _ ?_, fun z => absurd z (by decide), fun z => absurd z (by decide)⟩, fun z => absurd z (by decide)⟩
      rw [if_neg (fun y => hk (e1'.mp y).1), if_neg (fun y => hk (e2'.mp y).1)]; rfl
  · have e1 := ci.2.2.2.1 60 (by omega)
    have e2 := ci.2.2.2.1 61 (by omega)
    unfold jnF at fin
    rw [if_neg (by decide), if_pos rfl] at fin
    refine hG.run [] 60 ?_
    simp [wp, stepI, ln, jmp, cmpI, Value.category, rd, tyF, vrs, vrn, ex_rr, ex_rn, ex_nr, ex_nn, okA_s, okA_n, st1, st2, clr, isLg, CB, inx_0, inx_1, inx_2, inx_3, inx_4, inx_5, bI_0, bI_1, bI_ok, fin3, tyX3, entL, q0, swK, r1, k0, tyX8, dX3_joinerOf_0, dX3_joinerOf_1, dX3_joinerOf_28, dX3_joinerOf_29, fT_3_21, dX3_joinerOf_32, fT_3_74, dX3_joinerOf_35, sT_3_214, dX3_joinerOf_38, dX3_joinerOf_41, dX3_joinerOf_43, dX3_joinerOf_46, dX3_joinerOf_47, dX3_joinerOf_50, dX3_joinerOf_53, sT_3_217, dX3_joinerOf_56, dX3_joinerOf_59, dX3_joinerOf_61, dX3_joinerOf_64, dX3_joinerOf_65, dX3_joinerOf_66, dX3_joinerOf_67, dX3_joinerOf_70, fT_3_67, dX3_joinerOf_73, dX3_joinerOf_75, dX3_joinerOf_78, dX3_joinerOf_80, dX3_joinerOf_83, dX3_joinerOf_84, dX3_joinerOf_87, dX3_joinerOf_90, dX3_joinerOf_92, dX3_joinerOf_95, dX3_joinerOf_97, dX3_joinerOf_100, dX3_joinerOf_101, dX3_joinerOf_102, dX3_joinerOf_103, dX3_joinerOf_106, dX3_joinerOf_109, dX3_joinerOf_111, dX3_joinerOf_114, dX3_joinerOf_116, dX3_joinerOf_119, dX3_joinerOf_120, dX3_joinerOf_123, dX3_joinerOf_126, dX3_joinerOf_128, dX3_joinerOf_131, dX3_joinerOf_133, dX3_joinerOf_136, dX3_joinerOf_137, dX3_joinerOf_138, dX3_joinerOf_139, dX3_joinerOf_142, dX3_joinerOf_145, dX3_joinerOf_147, dX3_joinerOf_150, dX3_joinerOf_152, dX3_joinerOf_155, dX3_joinerOf_156]
    rw [kd]
    simp (disch := omega) only [li, nI_add, nI_clamp, nI_ltI, nI_leI, nI_eq, inx_iff, a31, nI_1shl', nI_shr', div_bit, tb1, tb0, fa_or, fa_and, nI_not, pk_sub, nI_dec]
    refine ⟨⟨fun z => absurd z (by decide), fun _ => ⟨fun z => ⟨fun z2 => fin _ ?_, fun z2 => fin _ ?_⟩, fun z => fin _ ?_⟩, fun z => absurd z (by decide)⟩, fun z => absurd z (by decide)⟩
    · rw [e1] at z; rw [e2] at z2; rw [if_neg z, if_neg z2]
    · rw [e1] at z; rw [e2] at z2; rw [if_neg z, if_pos z2]
    · rw [e1] at z; rw [if_pos z]
  · have e1 := ci.2.2.2.1 43 (by omega)
    have e2 := ci.2.2.2.1 45 (by omega)
    unfold jnF at fin
    rw [if_neg (by decide), if_neg (by decide), if_pos rfl] at fin
    refine hG.run [] 60 ?_
    simp [wp, stepI, ln, jmp, cmpI, Value.category, rd, tyF, vrs, vrn, ex_rr, ex_rn, ex_nr, ex_nn, okA_s, okA_n, st1, st2, clr, isLg, CB, inx_0, inx_1, inx_2, inx_3, inx_4, inx_5, bI_0, bI_1, bI_ok, fin3, tyX3, entL, q0, swK, r1, k0, tyX8, dX3_joinerOf_0, dX3_joinerOf_1, dX3_joinerOf_28, dX3_joinerOf_29, fT_3_21, dX3_joinerOf_32, fT_3_74, dX3_joinerOf_35, sT_3_214, dX3_joinerOf_38, dX3_joinerOf_41, dX3_joinerOf_43, dX3_joinerOf_46, dX3_joinerOf_47, dX3_joinerOf_50, dX3_joinerOf_53, sT_3_217, dX3_joinerOf_56, dX3_joinerOf_59, dX3_joinerOf_61, dX3_joinerOf_64, dX3_joinerOf_65, dX3_joinerOf_66, dX3_joinerOf_67, dX3_joinerOf_70, fT_3_67, dX3_joinerOf_73, dX3_joinerOf_75, dX3_joinerOf_78, dX3_joinerOf_80, dX3_joinerOf_83, dX3_joinerOf_84, dX3_joinerOf_87, dX3_joinerOf_90, dX3_joinerOf_92, dX3_joinerOf_95, dX3_joinerOf_97, dX3_joinerOf_100, dX3_joinerOf_101, dX3_joinerOf_102, dX3_joinerOf_103, dX3_joinerOf_106, dX3_joinerOf_109, dX3_joinerOf_111, dX3_joinerOf_114, dX3_joinerOf_116, dX3_joinerOf_119, dX3_joinerOf_120, dX3_joinerOf_123, dX3_joinerOf_126, dX3_joinerOf_128, dX3_joinerOf_131, dX3_joinerOf_133, dX3_joinerOf_136, dX3_joinerOf_137, dX3_joinerOf_138, dX3_joinerOf_139, dX3_joinerOf_142, dX3_joinerOf_145, dX3_joinerOf_147, dX3_joinerOf_150, dX3_joinerOf_152, dX3_joinerOf_155, dX3_joinerOf_156]
    rw [kd]
    simp (disch := omega) only [li, nI_add, nI_clamp, nI_ltI, nI_leI, nI_eq, inx_iff, a31, nI_1shl', nI_shr', div_bit, tb1, tb0, fa_or, fa_and, nI_not, pk_sub, nI_dec]
    refine ⟨⟨fun z => absurd z (by decide), fun z => absurd z (by decide), fun _ => ⟨fun z => ⟨fun z2 => fin _ ?_, fun z2 => fin _ ?_⟩, fun z => fin _ ?_⟩⟩, fun z => absurd z (by decide)⟩
    · rw [e1] at z; rw [e2] at z2; rw [if_neg z, if_neg z2]
    · rw [e1] at z; rw [e2] at z2; rw [if_neg z, if_pos z2]
    · rw [e1] at z; rw [if_pos z]
  · have e1 := ci.2.2.2.1 42 (by omega)
    unfold jnF at fin
    rw [if_neg (by decide), if_neg (by decide), if_neg (by decide)] at fin
    refine hG.run [] 60 ?_
    simp [wp, stepI, ln, jmp, cmpI, Value.category, rd, tyF, vrs, vrn, ex_rr, ex_rn, ex_nr, ex_nn, okA_s, okA_n, st1, st2, clr, isLg, CB, inx_0, inx_1, inx_2, inx_3, inx_4, inx_5, bI_0, bI_1, bI_ok, fin3, tyX3, entL, q0, swK, r1, k0, tyX8, dX3_joinerOf_0, dX3_joinerOf_1, dX3_joinerOf_28, dX3_joinerOf_29, fT_3_21, dX3_joinerOf_32, fT_3_74, dX3_joinerOf_35, sT_3_214, dX3_joinerOf_38, dX3_joinerOf_41, dX3_joinerOf_43, dX3_joinerOf_46, dX3_joinerOf_47, dX3_joinerOf_50, dX3_joinerOf_53, sT_3_217, dX3_joinerOf_56, dX3_joinerOf_59, dX3_joinerOf_61, dX3_joinerOf_64, dX3_joinerOf_65, dX3_joinerOf_66, dX3_joinerOf_67, dX3_joinerOf_70, fT_3_67, dX3_joinerOf_73, dX3_joinerOf_75, dX3_joinerOf_78, dX3_joinerOf_80, dX3_joinerOf_83, dX3_joinerOf_84, dX3_joinerOf_87, dX3_joinerOf_90, dX3_joinerOf_92, dX3_joinerOf_95, dX3_joinerOf_97, dX3_joinerOf_100, dX3_joinerOf_101, dX3_joinerOf_102, dX3_joinerOf_103, dX3_joinerOf_106, dX3_joinerOf_109, dX3_joinerOf_111, dX3_joinerOf_114, dX3_joinerOf_116, dX3_joinerOf_119, dX3_joinerOf_120, dX3_joinerOf_123, dX3_joinerOf_126, dX3_joinerOf_128, dX3_joinerOf_131, dX3_joinerOf_133, dX3_joinerOf_136, dX3_joinerOf_137, dX3_joinerOf_138, dX3_joinerOf_139, dX3_joinerOf_142, dX3_joinerOf_145, dX3_joinerOf_147, dX3_joinerOf_150, dX3_joinerOf_152, dX3_joinerOf_155, dX3_joinerOf_156]
    rw [kd]
    simp (disch := omega) only [li, nI_add, nI_clamp, nI_ltI, nI_leI, nI_eq, inx_iff, a31, nI_1shl', nI_shr', div_bit, tb1, tb0, fa_or, fa_and, nI_not, pk_sub, nI_dec]
    refine ⟨⟨fun z => absurd z (by decide), fun z => absurd z (by decide), fun z => absurd z (by decide)⟩, fun _ => ⟨fun z => fin _ ?_, fun z => fin _ ?_⟩⟩
    · rw [e1] at z; rw [if_neg z]
    · rw [e1] at z; rw [if_pos z]
