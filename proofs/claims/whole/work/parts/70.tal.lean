/-! the Tally at cell T -/
def faX (sp : Bool) (sl : Nat) (kd fi se : Nat → Nat) : Nat → Nat → Nat → Nat
  | 0, _, _ => 1
  | k + 1, a, b => faX sp sl kd fi se k a b * (if fi k = a ∧ se k = b then (if sp then 8 - offO sl kd (fi k) else 1) else 1) * (if se k = a ∧ fi k = b then (if sp then offO sl kd (fi k) else 0) else 1)
theorem faX_s (sp : Bool) (sl : Nat) (kd fi se : Nat → Nat) (k a b : Nat) : faX sp sl kd fi se (k + 1) a b = faX sp sl kd fi se k a b * (if fi k = a ∧ se k = b then (if sp then 8 - offO sl kd (fi k) else 1) else 1) * (if se k = a ∧ fi k = b then (if sp then offO sl kd (fi k) else 0) else 1) := rfl
def paX (fi se : Nat → Nat) : Nat → Nat → Nat
  | 0, _ => 0
  | k + 1, p => (fun x => if se k = p then x ||| 2 ^ fi k else x) (if fi k = p then paX fi se k p ||| 2 ^ se k else paX fi se k p)
theorem paX_s (fi se : Nat → Nat) (k p : Nat) : paX fi se (k + 1) p = if se k = p then (if fi k = p then paX fi se k p ||| 2 ^ se k else paX fi se k p) ||| 2 ^ fi k else (if fi k = p then paX fi se k p ||| 2 ^ se k else paX fi se k p) := rfl
theorem paX_lt {fi se : Nat → Nat} {p : Nat} : ∀ c, (∀ k, k < c → fi k < 10 ∧ se k < 10) → paX fi se c p < 1024
  | 0, _ => by show 0 < 1024; decide
  | c + 1, h => by
    have ih := paX_lt (fi := fi) (se := se) (p := p) c (fun k hk => h k (by omega))
    obtain ⟨h1, h2⟩ := h c (by omega)
    have p1 := p2_le10 h1
    have p2 := p2_le10 h2
    have o1 : ∀ x y, x < 1024 → y ≤ 512 → x ||| y < 1024 := fun x y hx hy => Nat.or_lt_two_pow (n := 10) hx (by show y < 1024; omega)
    rw [paX_s]
    split
    · split
      · exact o1 _ _ (o1 _ _ ih p2) p1
      · exact o1 _ _ ih p1
    · split
      · exact o1 _ _ ih p2
      · exact ih
set_option maxHeartbeats 4000000 in
set_option maxRecDepth 100000 in
theorem c7_setFactors (l : Launch) (X : Cx) (d : Nat) (sh : Nat → Option Sh) (mI : Nat → Nat → Int32) (mL : Nat → Nat → Int64) (mR : Nat → Nat → Option Nat) (n : Nat) (T S C : Nat) (hO : OL sh mR T 7 ob7) (hS6 : OL sh mR S 6 ob6) (hsc : mR S 0 = some C) (hC : OL sh mR C 4 ob4) (d1 : T + 5 < S ∨ S + 11 < T) (d2 : T + 5 < C ∨ C + 5 < T) (sp : Bool) (hsp : mI T 0 = nI sp.toNat) (np : Nat) (hp : ScP mI C np) (sl : Nat) (kd : Nat → Nat) (hK : ScK mI C np sl kd) (c : Nat) (fi se ma : Nat → Nat) (hS : ShS mI S c fi se ma) (hfn : ∀ k, k < c → fi k < np) (hfs : ∀ k, k < c → fi k ≠ se k) (hd : 1 ≤ d) : Cn l X yX7_setFactors cX7_setFactors 6 none d [.ref T, .ref S] (sh, mI, mL, mR, n) (fun r M' => r = none ∧ ∃ mI' mL', M' = (sh, mI', mL', mR, n) ∧ (∀ a k, a ≠ T + 2 → mI' a k = mI a k) ∧ (∀ a k, a ≠ T + 1 → mL' a k = mL a k) ∧ (∀ p, p < 10 → mI' (T + 2) p = nI (paX fi se c p)) ∧ ∀ a b, a < 10 → b < 10 → mL' (T + 1) (10 * a + b) = lN (faX sp sl kd fi se c a b)) 0 0 := by
  refine Cn.run 7 false (by decide) rfl (by decide) (by simp [entA, Value.category]) ?_
  intro P G hP hG
  have q0 := hO.1
  have q_factor := hO.2.2 (1, 1, .long, 100) (by decide)
  dsimp only at q_factor
  have q_partners := hO.2.2 (2, 2, .int, 10) (by decide)
  dsimp only at q_partners
  have hSl := hO.2.1
  have xF : T + 1 < 1000000000 := by omega
  have xP : T + 2 < 1000000000 := by omega
  have t0 := hS6.1
  have u0 := hC.1
  have q_first := hS6.2.2 (1, 7, .int, 40) (by decide)
  have q_second := hS6.2.2 (2, 8, .int, 40) (by decide)
  dsimp only at q_first q_second
  have hpp := hp.2
  obtain ⟨e0, hc, hk⟩ := hS
  refine hG.run [] 40 ?_
  simp [wp, stepI, ln, jmp, cmpI, Value.category, rd, tyF, va_rf, st1, st2, clr, isLg, CB, inx_0, inx_1, inx_2, inx_3, inx_4, inx_5, bI_0, bI_1, bI_ok, fin3, tyX7, entL, q0, q_factor, dX7_setFactors_0, dX7_setFactors_1, fT_7_9, dX7_setFactors_4, dX7_setFactors_5, dX7_setFactors_8, dX7_setFactors_9, fT_7_15, dX7_setFactors_12, dX7_setFactors_13, dX7_setFactors_16, dX7_setFactors_17, dX7_setFactors_18, dX7_setFactors_19, dX7_setFactors_20, fT_7_91, dX7_setFactors_23, dX7_setFactors_26, dX7_setFactors_27, fT_7_94, dX7_setFactors_30, dX7_setFactors_31, dX7_setFactors_32, dX7_setFactors_33, dX7_setFactors_34, fT_7_97, dX7_setFactors_37, dX7_setFactors_38, dX7_setFactors_39, dX7_setFactors_41, dX7_setFactors_42, fT_7_38, dX7_setFactors_45, dX7_setFactors_46, dX7_setFactors_49, dX7_setFactors_51, dX7_setFactors_52, dX7_setFactors_55, dX7_setFactors_56, dX7_setFactors_58, dX7_setFactors_59, dX7_setFactors_61, dX7_setFactors_62, dX7_setFactors_63, dX7_setFactors_64, dX7_setFactors_65, fT_7_28, dX7_setFactors_68, dX7_setFactors_71, dX7_setFactors_73, dX7_setFactors_75, dX7_setFactors_76, dX7_setFactors_77, dX7_setFactors_80, dX7_setFactors_81, dX7_setFactors_82, dX7_setFactors_83, dX7_setFactors_84, dX7_setFactors_87, dX7_setFactors_89, dX7_setFactors_91, dX7_setFactors_92, dX7_setFactors_93, dX7_setFactors_94, dX7_setFactors_95, dX7_setFactors_96, dX7_setFactors_97, dX7_setFactors_100, dX7_setFactors_103, dX7_setFactors_105, dX7_setFactors_106, dX7_setFactors_109, dX7_setFactors_110, dX7_setFactors_111, dX7_setFactors_112, dX7_setFactors_113, dX7_setFactors_116, dX7_setFactors_117, dX7_setFactors_118, dX7_setFactors_119, dX7_setFactors_120, dX7_setFactors_122, dX7_setFactors_123, dX7_setFactors_124, dX7_setFactors_125, dX7_setFactors_126, dX7_setFactors_129, dX7_setFactors_131, dX7_setFactors_132, dX7_setFactors_133, dX7_setFactors_134, dX7_setFactors_135, dX7_setFactors_136, dX7_setFactors_137, dX7_setFactors_138, dX7_setFactors_141, dX7_setFactors_144]
  refine hG.callS dX7_setFactors_5 ms_7_61 [.ref (T + 1), .long 1] [] (cJ_fillL l X (d - 1) sh mI mL mR n (T + 1) 100 q_factor.2 xF (by decide) 1) (by omega) rfl (by decide) (by simp [Value.category]) rfl ?_
  rintro r M' ⟨rfl, rfl⟩
  refine hG.run [] 40 ?_
  simp [wp, stepI, ln, jmp, cmpI, Value.category, rd, tyF, va_rf, st1, st2, clr, isLg, CB, inx_0, inx_1, inx_2, inx_3, inx_4, inx_5, bI_0, bI_1, bI_ok, fin3, tyX7, entL, q0, q_partners, dX7_setFactors_0, dX7_setFactors_1, fT_7_9, dX7_setFactors_4, dX7_setFactors_5, dX7_setFactors_8, dX7_setFactors_9, fT_7_15, dX7_setFactors_12, dX7_setFactors_13, dX7_setFactors_16, dX7_setFactors_17, dX7_setFactors_18, dX7_setFactors_19, dX7_setFactors_20, fT_7_91, dX7_setFactors_23, dX7_setFactors_26, dX7_setFactors_27, fT_7_94, dX7_setFactors_30, dX7_setFactors_31, dX7_setFactors_32, dX7_setFactors_33, dX7_setFactors_34, fT_7_97, dX7_setFactors_37, dX7_setFactors_38, dX7_setFactors_39, dX7_setFactors_41, dX7_setFactors_42, fT_7_38, dX7_setFactors_45, dX7_setFactors_46, dX7_setFactors_49, dX7_setFactors_51, dX7_setFactors_52, dX7_setFactors_55, dX7_setFactors_56, dX7_setFactors_58, dX7_setFactors_59, dX7_setFactors_61, dX7_setFactors_62, dX7_setFactors_63, dX7_setFactors_64, dX7_setFactors_65, fT_7_28, dX7_setFactors_68, dX7_setFactors_71, dX7_setFactors_73, dX7_setFactors_75, dX7_setFactors_76, dX7_setFactors_77, dX7_setFactors_80, dX7_setFactors_81, dX7_setFactors_82, dX7_setFactors_83, dX7_setFactors_84, dX7_setFactors_87, dX7_setFactors_89, dX7_setFactors_91, dX7_setFactors_92, dX7_setFactors_93, dX7_setFactors_94, dX7_setFactors_95, dX7_setFactors_96, dX7_setFactors_97, dX7_setFactors_100, dX7_setFactors_103, dX7_setFactors_105, dX7_setFactors_106, dX7_setFactors_109, dX7_setFactors_110, dX7_setFactors_111, dX7_setFactors_112, dX7_setFactors_113, dX7_setFactors_116, dX7_setFactors_117, dX7_setFactors_118, dX7_setFactors_119, dX7_setFactors_120, dX7_setFactors_122, dX7_setFactors_123, dX7_setFactors_124, dX7_setFactors_125, dX7_setFactors_126, dX7_setFactors_129, dX7_setFactors_131, dX7_setFactors_132, dX7_setFactors_133, dX7_setFactors_134, dX7_setFactors_135, dX7_setFactors_136, dX7_setFactors_137, dX7_setFactors_138, dX7_setFactors_141, dX7_setFactors_144]
  refine hG.callS dX7_setFactors_13 ms_7_88 [.ref (T + 2), .int 0] [] (cJ_fillI l X (d - 1) sh mI _ mR n (T + 2) 10 q_partners.2 xP (by decide) 0) (by omega) rfl (by decide) (by simp [Value.category]) rfl ?_
  rintro r M' ⟨rfl, rfl⟩
  have loop : ∀ f i m1 mL1 v3 v4 v5, c - i < f → i ≤ c → (∀ a k, a ≠ T + 2 → m1 a k = mI a k) → (∀ a k, a ≠ T + 1 → mL1 a k = mL a k) → (∀ p, p < 10 → m1 (T + 2) p = nI (paX fi se i p)) → (∀ a b, a < 10 → b < 10 → mL1 (T + 1) (10 * a + b) = lN (faX sp sl kd fi se i a b)) → G 18 [some (.ref T), some (.ref S), some (.int (nI i)), v3, v4, v5] [] (sh, m1, mL1, mR, n) := by
    intro f
    induction f with
    | zero => intro i m1 mL1 v3 v4 v5 h; omega
    | succ f ih =>
      intro i m1 mL1 v3 v4 v5 hf hi g1 g2 g3 g4
      have e1 : m1 S 4 = nI c := (g1 _ _ (by omega)).trans e0
      refine hG.run [51] 60 ?_
      simp [wp, stepI, ln, jmp, cmpI, Value.category, rd, tyF, va_rf, st1, st2, clr, isLg, CB, inx_0, inx_1, inx_2, inx_3, inx_4, inx_5, bI_0, bI_1, bI_ok, fin3, tyX7, entL, q0, t0, u0, tyX6, tyX4, q_first, q_second, hsc, dX7_setFactors_0, dX7_setFactors_1, fT_7_9, dX7_setFactors_4, dX7_setFactors_5, dX7_setFactors_8, dX7_setFactors_9, fT_7_15, dX7_setFactors_12, dX7_setFactors_13, dX7_setFactors_16, dX7_setFactors_17, dX7_setFactors_18, dX7_setFactors_19, dX7_setFactors_20, fT_7_91, dX7_setFactors_23, dX7_setFactors_26, dX7_setFactors_27, fT_7_94, dX7_setFactors_30, dX7_setFactors_31, dX7_setFactors_32, dX7_setFactors_33, dX7_setFactors_34, fT_7_97, dX7_setFactors_37, dX7_setFactors_38, dX7_setFactors_39, dX7_setFactors_41, dX7_setFactors_42, fT_7_38, dX7_setFactors_45, dX7_setFactors_46, dX7_setFactors_49, dX7_setFactors_51, dX7_setFactors_52, dX7_setFactors_55, dX7_setFactors_56, dX7_setFactors_58, dX7_setFactors_59, dX7_setFactors_61, dX7_setFactors_62, dX7_setFactors_63, dX7_setFactors_64, dX7_setFactors_65, fT_7_28, dX7_setFactors_68, dX7_setFactors_71, dX7_setFactors_73, dX7_setFactors_75, dX7_setFactors_76, dX7_setFactors_77, dX7_setFactors_80, dX7_setFactors_81, dX7_setFactors_82, dX7_setFactors_83, dX7_setFactors_84, dX7_setFactors_87, dX7_setFactors_89, dX7_setFactors_91, dX7_setFactors_92, dX7_setFactors_93, dX7_setFactors_94, dX7_setFactors_95, dX7_setFactors_96, dX7_setFactors_97, dX7_setFactors_100, dX7_setFactors_103, dX7_setFactors_105, dX7_setFactors_106, dX7_setFactors_109, dX7_setFactors_110, dX7_setFactors_111, dX7_setFactors_112, dX7_setFactors_113, dX7_setFactors_116, dX7_setFactors_117, dX7_setFactors_118, dX7_setFactors_119, dX7_setFactors_120, dX7_setFactors_122, dX7_setFactors_123, dX7_setFactors_124, dX7_setFactors_125, dX7_setFactors_126, dX7_setFactors_129, dX7_setFactors_131, dX7_setFactors_132, dX7_setFactors_133, dX7_setFactors_134, dX7_setFactors_135, dX7_setFactors_136, dX7_setFactors_137, dX7_setFactors_138, dX7_setFactors_141, dX7_setFactors_144]
      simp (disch := omega) only [li, nI_add, nI_clamp, nI_ltI, nI_leI, nI_eq, inx_iff, a31, nI_1shl', nI_shr', div_bit, tb1, tb0, fa_or, fa_and, nI_not, pk_sub, nI_dec, e1]
      refine ⟨fun z => hP _ _ ⟨rfl, m1, mL1, rfl, g1, g2, by rw [show i = c by omega] at g3; exact g3, by rw [show i = c by omega] at g4; exact g4⟩, fun z => ?_⟩
      obtain ⟨s1, s2, s3, b1, b2, b3⟩ := hk i z
      have s1' : m1 (S + 7) i = nI (fi i) := (g1 _ _ (by omega)).trans s1
      have s2' : m1 (S + 8) i = nI (se i) := (g1 _ _ (by omega)).trans s2
      have i40 : i < 40 := by omega
      simp (disch := omega) only [li, nI_add, nI_clamp, nI_ltI, nI_leI, nI_eq, inx_iff, a31, nI_1shl', nI_shr', div_bit, tb1, tb0, fa_or, fa_and, nI_not, pk_sub, nI_dec, s1', s2', i40, true_and]
      have hp1 : ScP m1 C np := ⟨(g1 _ _ (by omega)).trans hp.1, hpp⟩
      have hK1 : ScK m1 C np sl kd := ⟨(g1 _ _ (by omega)).trans hK.1, hK.2.1, fun p hp => ⟨(g1 _ _ (by omega)).trans (hK.2.2 p hp).1, (hK.2.2 p hp).2⟩⟩
      refine hG.callV dX7_setFactors_46 mv_7_100 [.int (nI (fi i))] [] (c4_slipOf l X (d - 1) sh m1 mL1 mR n C hC np hp1 sl kd hK1 (fi i) (hfn i z)) ⟨_, rfl, rfl⟩ u0 (by omega) rfl (by decide) (by simp [Value.category]) rfl ?_
      rintro r M' ⟨rfl, rfl⟩
      have ol : offO sl kd (fi i) ≤ 6 := by
        have := hK.2.1
        unfold offO
        split <;> omega
      have h1 := g4 (fi i) (se i) b1 b2
      have h2 := g4 (se i) (fi i) b2 b1
      have h3 := g3 (fi i) b1
      have h4 := g3 (se i) b2
      have ne := hfs i z
      have pl1 := p2_le10 b1
      have pl2 := p2_le10 b2
      have sl1 : m1 T 0 = nI sp.toNat := (g1 _ _ (by omega)).trans hsp
      rw [Nat.mul_comm 10] at h1 h2
      have nx := ih (i + 1) (up2 (up2 m1 (T + 2) (fi i) (nI (paX fi se i (fi i) ||| 2 ^ se i))) (T + 2) (se i) (nI (paX fi se i (se i) ||| 2 ^ fi i))) (up2 (up2 mL1 (T + 1) (fi i * 10 + se i) (lN (faX sp sl kd fi se i (fi i) (se i) * (if sp then 8 - offO sl kd (fi i) else 1)))) (T + 1) (se i * 10 + fi i) (lN (faX sp sl kd fi se i (se i) (fi i) * (if sp then offO sl kd (fi i) else 0)))) (some (.int (nI (fi i)))) (some (.int (nI (se i)))) (some (.int (nI (offO sl kd (fi i))))) (by omega) (by omega) (fun a k ha => by rw [up2_ne (fun y => ha y.1), up2_ne (fun y => ha y.1)]; exact g1 a k ha) (fun a k ha => by rw [up2_ne (fun y => ha y.1), up2_ne (fun y => ha y.1)]; exact g2 a k ha) (fun p hp => by
        rw [paX_s]
        by_cases ea : se i = p
        · rw [if_pos ea, ← ea, up2_eq, if_neg ne]
        · rw [if_neg ea, up2_ne (fun y => ea y.2.symm)]
          by_cases eb : fi i = p
          · rw [if_pos eb, ← eb, up2_eq]
          · rw [if_neg eb, up2_ne (fun y => eb y.2.symm)]; exact g3 p hp) (fun a b ha hb => by
        rw [faX_s]
        by_cases ea : se i = a ∧ fi i = b
        · rw [if_pos ea, if_neg (show ¬ (fi i = a ∧ se i = b) from fun y => ne (y.1.trans ea.1.symm)), ← ea.1, ← ea.2, Nat.mul_comm 10, up2_eq, Nat.mul_one]
        · rw [if_neg ea, up2_ne (fun y => ea (by omega)), Nat.mul_one]
          by_cases eb : fi i = a ∧ se i = b
          · rw [if_pos eb, ← eb.1, ← eb.2, Nat.mul_comm 10, up2_eq]
          · rw [if_neg eb, up2_ne (fun y => eb (by omega)), Nat.mul_one]; exact g4 a b ha hb)
      have bp := paX_lt (fi := fi) (se := se) (p := fi i) i (fun k hk2 => ⟨(hk k (by omega)).2.2.2.1, (hk k (by omega)).2.2.2.2.1⟩)
      have bq := paX_lt (fi := fi) (se := se) (p := se i) i (fun k hk2 => ⟨(hk k (by omega)).2.2.2.1, (hk k (by omega)).2.2.2.2.1⟩)
      clear ih
      cases sp with
      | true =>
        have sl2 : m1 T 0 = nI 1 := sl1
        simp only [if_true] at nx
        refine hG.run [18] 80 ?_
        simp [wp, stepI, ln, jmp, cmpI, Value.category, rd, tyF, va_rf, st1, st2, clr, isLg, CB, inx_0, inx_1, inx_2, inx_3, inx_4, inx_5, bI_0, bI_1, bI_ok, fin3, tyX7, entL, q0, q_factor, q_partners, xF, xP, dX7_setFactors_0, dX7_setFactors_1, fT_7_9, dX7_setFactors_4, dX7_setFactors_5, dX7_setFactors_8, dX7_setFactors_9, fT_7_15, dX7_setFactors_12, dX7_setFactors_13, dX7_setFactors_16, dX7_setFactors_17, dX7_setFactors_18, dX7_setFactors_19, dX7_setFactors_20, fT_7_91, dX7_setFactors_23, dX7_setFactors_26, dX7_setFactors_27, fT_7_94, dX7_setFactors_30, dX7_setFactors_31, dX7_setFactors_32, dX7_setFactors_33, dX7_setFactors_34, fT_7_97, dX7_setFactors_37, dX7_setFactors_38, dX7_setFactors_39, dX7_setFactors_41, dX7_setFactors_42, fT_7_38, dX7_setFactors_45, dX7_setFactors_46, dX7_setFactors_49, dX7_setFactors_51, dX7_setFactors_52, dX7_setFactors_55, dX7_setFactors_56, dX7_setFactors_58, dX7_setFactors_59, dX7_setFactors_61, dX7_setFactors_62, dX7_setFactors_63, dX7_setFactors_64, dX7_setFactors_65, fT_7_28, dX7_setFactors_68, dX7_setFactors_71, dX7_setFactors_73, dX7_setFactors_75, dX7_setFactors_76, dX7_setFactors_77, dX7_setFactors_80, dX7_setFactors_81, dX7_setFactors_82, dX7_setFactors_83, dX7_setFactors_84, dX7_setFactors_87, dX7_setFactors_89, dX7_setFactors_91, dX7_setFactors_92, dX7_setFactors_93, dX7_setFactors_94, dX7_setFactors_95, dX7_setFactors_96, dX7_setFactors_97, dX7_setFactors_100, dX7_setFactors_103, dX7_setFactors_105, dX7_setFactors_106, dX7_setFactors_109, dX7_setFactors_110, dX7_setFactors_111, dX7_setFactors_112, dX7_setFactors_113, dX7_setFactors_116, dX7_setFactors_117, dX7_setFactors_118, dX7_setFactors_119, dX7_setFactors_120, dX7_setFactors_122, dX7_setFactors_123, dX7_setFactors_124, dX7_setFactors_125, dX7_setFactors_126, dX7_setFactors_129, dX7_setFactors_131, dX7_setFactors_132, dX7_setFactors_133, dX7_setFactors_134, dX7_setFactors_135, dX7_setFactors_136, dX7_setFactors_137, dX7_setFactors_138, dX7_setFactors_141, dX7_setFactors_144]
        simp (disch := omega) only [li, nI_add, nI_clamp, nI_ltI, nI_leI, nI_eq, inx_iff, a31, nI_1shl', nI_shr', div_bit, tb1, tb0, fa_or, fa_and, nI_not, pk_sub, nI_dec, sl2, up2_eq, up2_ne, h1, h2, h3, h4, nI_mul, nI_l, lN_mul]
        exact ⟨by omega, fun w => by omega, fun _ => ⟨by omega, by omega, fun w => by omega, fun _ => ⟨by omega, b1, b2, nx⟩⟩⟩
      | false =>
        have sl2 : m1 T 0 = nI 0 := sl1
        simp only [Bool.false_eq_true, if_false, Nat.mul_one, Nat.mul_zero] at nx
        refine hG.run [18] 80 ?_
        simp [wp, stepI, ln, jmp, cmpI, Value.category, rd, tyF, va_rf, st1, st2, clr, isLg, CB, inx_0, inx_1, inx_2, inx_3, inx_4, inx_5, bI_0, bI_1, bI_ok, fin3, tyX7, entL, q0, q_factor, q_partners, xF, xP, dX7_setFactors_0, dX7_setFactors_1, fT_7_9, dX7_setFactors_4, dX7_setFactors_5, dX7_setFactors_8, dX7_setFactors_9, fT_7_15, dX7_setFactors_12, dX7_setFactors_13, dX7_setFactors_16, dX7_setFactors_17, dX7_setFactors_18, dX7_setFactors_19, dX7_setFactors_20, fT_7_91, dX7_setFactors_23, dX7_setFactors_26, dX7_setFactors_27, fT_7_94, dX7_setFactors_30, dX7_setFactors_31, dX7_setFactors_32, dX7_setFactors_33, dX7_setFactors_34, fT_7_97, dX7_setFactors_37, dX7_setFactors_38, dX7_setFactors_39, dX7_setFactors_41, dX7_setFactors_42, fT_7_38, dX7_setFactors_45, dX7_setFactors_46, dX7_setFactors_49, dX7_setFactors_51, dX7_setFactors_52, dX7_setFactors_55, dX7_setFactors_56, dX7_setFactors_58, dX7_setFactors_59, dX7_setFactors_61, dX7_setFactors_62, dX7_setFactors_63, dX7_setFactors_64, dX7_setFactors_65, fT_7_28, dX7_setFactors_68, dX7_setFactors_71, dX7_setFactors_73, dX7_setFactors_75, dX7_setFactors_76, dX7_setFactors_77, dX7_setFactors_80, dX7_setFactors_81, dX7_setFactors_82, dX7_setFactors_83, dX7_setFactors_84, dX7_setFactors_87, dX7_setFactors_89, dX7_setFactors_91, dX7_setFactors_92, dX7_setFactors_93, dX7_setFactors_94, dX7_setFactors_95, dX7_setFactors_96, dX7_setFactors_97, dX7_setFactors_100, dX7_setFactors_103, dX7_setFactors_105, dX7_setFactors_106, dX7_setFactors_109, dX7_setFactors_110, dX7_setFactors_111, dX7_setFactors_112, dX7_setFactors_113, dX7_setFactors_116, dX7_setFactors_117, dX7_setFactors_118, dX7_setFactors_119, dX7_setFactors_120, dX7_setFactors_122, dX7_setFactors_123, dX7_setFactors_124, dX7_setFactors_125, dX7_setFactors_126, dX7_setFactors_129, dX7_setFactors_131, dX7_setFactors_132, dX7_setFactors_133, dX7_setFactors_134, dX7_setFactors_135, dX7_setFactors_136, dX7_setFactors_137, dX7_setFactors_138, dX7_setFactors_141, dX7_setFactors_144]
        simp (disch := omega) only [li, nI_add, nI_clamp, nI_ltI, nI_leI, nI_eq, inx_iff, a31, nI_1shl', nI_shr', div_bit, tb1, tb0, fa_or, fa_and, nI_not, pk_sub, nI_dec, sl2, up2_eq, up2_ne, h1, h2, h3, h4, nI_mul, liL, lN_mul]
        exact ⟨by omega, fun _ => ⟨by omega, by omega, fun _ => ⟨by omega, b1, b2, nx⟩, fun w => absurd trivial w⟩, fun w => absurd trivial w⟩
  refine hG.run [18] 40 ?_
  simp [wp, stepI, ln, jmp, cmpI, Value.category, rd, tyF, va_rf, st1, st2, clr, isLg, CB, inx_0, inx_1, inx_2, inx_3, inx_4, inx_5, bI_0, bI_1, bI_ok, fin3, tyX7, entL, q0, dX7_setFactors_0, dX7_setFactors_1, fT_7_9, dX7_setFactors_4, dX7_setFactors_5, dX7_setFactors_8, dX7_setFactors_9, fT_7_15, dX7_setFactors_12, dX7_setFactors_13, dX7_setFactors_16, dX7_setFactors_17, dX7_setFactors_18, dX7_setFactors_19, dX7_setFactors_20, fT_7_91, dX7_setFactors_23, dX7_setFactors_26, dX7_setFactors_27, fT_7_94, dX7_setFactors_30, dX7_setFactors_31, dX7_setFactors_32, dX7_setFactors_33, dX7_setFactors_34, fT_7_97, dX7_setFactors_37, dX7_setFactors_38, dX7_setFactors_39, dX7_setFactors_41, dX7_setFactors_42, fT_7_38, dX7_setFactors_45, dX7_setFactors_46, dX7_setFactors_49, dX7_setFactors_51, dX7_setFactors_52, dX7_setFactors_55, dX7_setFactors_56, dX7_setFactors_58, dX7_setFactors_59, dX7_setFactors_61, dX7_setFactors_62, dX7_setFactors_63, dX7_setFactors_64, dX7_setFactors_65, fT_7_28, dX7_setFactors_68, dX7_setFactors_71, dX7_setFactors_73, dX7_setFactors_75, dX7_setFactors_76, dX7_setFactors_77, dX7_setFactors_80, dX7_setFactors_81, dX7_setFactors_82, dX7_setFactors_83, dX7_setFactors_84, dX7_setFactors_87, dX7_setFactors_89, dX7_setFactors_91, dX7_setFactors_92, dX7_setFactors_93, dX7_setFactors_94, dX7_setFactors_95, dX7_setFactors_96, dX7_setFactors_97, dX7_setFactors_100, dX7_setFactors_103, dX7_setFactors_105, dX7_setFactors_106, dX7_setFactors_109, dX7_setFactors_110, dX7_setFactors_111, dX7_setFactors_112, dX7_setFactors_113, dX7_setFactors_116, dX7_setFactors_117, dX7_setFactors_118, dX7_setFactors_119, dX7_setFactors_120, dX7_setFactors_122, dX7_setFactors_123, dX7_setFactors_124, dX7_setFactors_125, dX7_setFactors_126, dX7_setFactors_129, dX7_setFactors_131, dX7_setFactors_132, dX7_setFactors_133, dX7_setFactors_134, dX7_setFactors_135, dX7_setFactors_136, dX7_setFactors_137, dX7_setFactors_138, dX7_setFactors_141, dX7_setFactors_144]
  exact loop (c + 1) 0 _ _ _ _ _ (by omega) (by omega) (fun a k ha => flM_ne ha) (fun a k ha => flL_ne ha) (fun p hp => flM_in hp) (fun a b ha hb => flL_in (by omega))
