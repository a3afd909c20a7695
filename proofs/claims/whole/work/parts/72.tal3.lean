theorem psh_z {np : Nat} {V : Nat → Nat} {g : Nat → Nat → Nat} {i j t : Nat} (h : V i = 0) : psh np V g i j t = psh np V g (i + 1) 0 t := by
  rw [← psh_end]
  unfold psh
  split
  · rfl
  · refine fb_sm_cong fun p hp => ?_
    by_cases he : anot t (2 ^ p) = i
    · rw [he, h, Nat.zero_mul]
      split <;> split <;> rfl
    · rw [decide_eq_false he, Bool.false_and, Bool.false_and]
set_option maxHeartbeats 4000000 in
set_option maxRecDepth 100000 in
theorem c7_weighR (l : Launch) (X : Cx) (d : Nat) (sh : Nat → Option Sh) (mI : Nat → Nat → Int32) (mL : Nat → Nat → Int64) (mR : Nat → Nat → Option Nat) (n : Nat) (T S : Nat) (hO : OL sh mR T 7 ob7) (hw : mI T 8 = nI 1) : Cn l X yX7_weigh cX7_weigh 4 none d [.ref T, .ref S] (sh, mI, mL, mR, n) (fun r M' => r = none ∧ M' = (sh, mI, mL, mR, n)) 0 0 := by
  refine Cn.run 7 false (by decide) rfl (by decide) (by simp [entA, Value.category]) ?_
  intro P G hP hG
  have q0 := hO.1
  refine hG.run [8] 40 ?_
  simp [wp, stepI, ln, jmp, cmpI, Value.category, rd, tyF, va_rf, st1, st2, clr, isLg, CB, inx_0, inx_1, inx_2, inx_3, inx_4, inx_5, bI_0, bI_1, bI_ok, fin3, tyX7, entL, q0, dX7_weigh_0, dX7_weigh_1, fT_7_32, dX7_weigh_4, dX7_weigh_7, dX7_weigh_8, dX7_weigh_9, dX7_weigh_10, fT_7_38, dX7_weigh_13, fT_7_44, dX7_weigh_16, fT_7_50, dX7_weigh_19, dX7_weigh_20, dX7_weigh_21, dX7_weigh_24, dX7_weigh_27, fT_7_55, dX7_weigh_30, dX7_weigh_31, dX7_weigh_32, dX7_weigh_35, dX7_weigh_36, fT_7_19, dX7_weigh_39, dX7_weigh_40, dX7_weigh_43, dX7_weigh_44, dX7_weigh_47, dX7_weigh_48, dX7_weigh_49, dX7_weigh_50, dX7_weigh_51, dX7_weigh_52, dX7_weigh_53, dX7_weigh_54, dX7_weigh_57, dX7_weigh_60, dX7_weigh_61, dX7_weigh_62, dX7_weigh_63, dX7_weigh_64, dX7_weigh_67, dX7_weigh_70, dX7_weigh_71, dX7_weigh_74, dX7_weigh_75, dX7_weigh_76, dX7_weigh_77, dX7_weigh_78, dX7_weigh_81, dX7_weigh_82, dX7_weigh_83, dX7_weigh_84, dX7_weigh_85, dX7_weigh_86, dX7_weigh_89, dX7_weigh_90, dX7_weigh_93, dX7_weigh_94, dX7_weigh_95, dX7_weigh_96, dX7_weigh_97, dX7_weigh_98, dX7_weigh_99, dX7_weigh_100, dX7_weigh_101, dX7_weigh_104, dX7_weigh_105, dX7_weigh_106, dX7_weigh_107, dX7_weigh_108, dX7_weigh_109, dX7_weigh_112, dX7_weigh_113, dX7_weigh_114, dX7_weigh_115, dX7_weigh_118, dX7_weigh_121, dX7_weigh_124, dX7_weigh_127, dX7_weigh_128, dX7_weigh_129, dX7_weigh_132, dX7_weigh_133, dX7_weigh_134, fT_7_35, dX7_weigh_137]
  simp (disch := omega) only [li, nI_add, nI_clamp, nI_ltI, nI_leI, nI_eq, inx_iff, a31, nI_1shl', nI_shr', div_bit, tb1, tb0, fa_or, fa_and, nI_not, pk_sub, nI_dec, hw]
  exact ⟨fun z => by omega, fun _ => hP _ _ ⟨rfl, rfl⟩⟩
set_option maxHeartbeats 4000000 in
set_option maxRecDepth 100000 in
theorem c7_weigh (l : Launch) (X : Cx) (d : Nat) (sh : Nat → Option Sh) (mI : Nat → Nat → Int32) (mL : Nat → Nat → Int64) (mR : Nat → Nat → Option Nat) (n : Nat) (T S C : Nat) (hO : OL sh mR T 7 ob7) (hS6 : OL sh mR S 6 ob6) (hsc : mR S 0 = some C) (hC : OL sh mR C 4 ob4) (d1 : T + 5 < S ∨ S + 11 < T) (d2 : T + 5 < C ∨ C + 5 < T) (sp : Bool) (hsp : mI T 0 = nI sp.toNat) (np : Nat) (hp : ScP mI C np) (sl : Nat) (kd : Nat → Nat) (hK : ScK mI C np sl kd) (c : Nat) (fi se ma : Nat → Nat) (hS : ShS mI S c fi se ma) (hfn : ∀ k, k < c → fi k < np) (hfs : ∀ k, k < c → fi k ≠ se k) (V : Nat → Nat) (hV : PshR np V (gX (faX sp sl kd fi se c) np)) (hVl : ∀ t, t < 2 ^ np → V t < 2 ^ 63) (hnw : mI T 8 = nI 0) (hd : 2 ≤ d) : Cn l X yX7_weigh cX7_weigh 4 none d [.ref T, .ref S] (sh, mI, mL, mR, n) (fun r M' => r = none ∧ ∃ mI' mL', M' = (sh, mI', mL', mR, n) ∧ (∀ a k, a ≠ T → a ≠ T + 2 → mI' a k = mI a k) ∧ (∀ a k, a ≠ T + 1 → a ≠ T + 3 → mL' a k = mL a k) ∧ mI' T 0 = nI sp.toNat ∧ TaM mI' mL' T np (paX fi se c) (faX sp sl kd fi se c) ∧ (∀ t, t < 2 ^ np → mL' (T + 3) t = lN (V t)) ∧ mI' T 8 = nI 1 ∧ mI' T 9 = nI 0) 0 0 := by
  refine Cn.run 7 false (by decide) rfl (by decide) (by simp [entA, Value.category]) ?_
  intro P G hP hG
  have q0 := hO.1
  have q_front := hO.2.2 (3, 3, .long, 1024) (by decide)
  dsimp only at q_front
  have hSl := hO.2.1
  have xT : T < 1000000000 := by omega
  have x3 : T + 3 < 1000000000 := by omega
  have t0 := hS6.1
  have u0 := hC.1
  obtain ⟨p1, p2⟩ := hp
  have hpw := p2_10 p2
  obtain ⟨g, hg⟩ : ∃ g, g = gX (faX sp sl kd fi se c) np := ⟨_, rfl⟩
  rw [← hg] at hV
  have g8 : G 8 [some (.ref T), some (.ref S), none, none] [] (sh, mI, mL, mR, n) := by
    refine hG.run [] 40 ?_
    simp [wp, stepI, ln, jmp, cmpI, Value.category, rd, tyF, va_rf, st1, st2, clr, isLg, CB, inx_0, inx_1, inx_2, inx_3, inx_4, inx_5, bI_0, bI_1, bI_ok, fin3, tyX7, entL, q0, okv, wr, finF, clT, TX7, xT, hsc, t0, u0, tyX4, tyX6, dX7_weigh_0, dX7_weigh_1, fT_7_32, dX7_weigh_4, dX7_weigh_7, dX7_weigh_8, dX7_weigh_9, dX7_weigh_10, fT_7_38, dX7_weigh_13, fT_7_44, dX7_weigh_16, fT_7_50, dX7_weigh_19, dX7_weigh_20, dX7_weigh_21, dX7_weigh_24, dX7_weigh_27, fT_7_55, dX7_weigh_30, dX7_weigh_31, dX7_weigh_32, dX7_weigh_35, dX7_weigh_36, fT_7_19, dX7_weigh_39, dX7_weigh_40, dX7_weigh_43, dX7_weigh_44, dX7_weigh_47, dX7_weigh_48, dX7_weigh_49, dX7_weigh_50, dX7_weigh_51, dX7_weigh_52, dX7_weigh_53, dX7_weigh_54, dX7_weigh_57, dX7_weigh_60, dX7_weigh_61, dX7_weigh_62, dX7_weigh_63, dX7_weigh_64, dX7_weigh_67, dX7_weigh_70, dX7_weigh_71, dX7_weigh_74, dX7_weigh_75, dX7_weigh_76, dX7_weigh_77, dX7_weigh_78, dX7_weigh_81, dX7_weigh_82, dX7_weigh_83, dX7_weigh_84, dX7_weigh_85, dX7_weigh_86, dX7_weigh_89, dX7_weigh_90, dX7_weigh_93, dX7_weigh_94, dX7_weigh_95, dX7_weigh_96, dX7_weigh_97, dX7_weigh_98, dX7_weigh_99, dX7_weigh_100, dX7_weigh_101, dX7_weigh_104, dX7_weigh_105, dX7_weigh_106, dX7_weigh_107, dX7_weigh_108, dX7_weigh_109, dX7_weigh_112, dX7_weigh_113, dX7_weigh_114, dX7_weigh_115, dX7_weigh_118, dX7_weigh_121, dX7_weigh_124, dX7_weigh_127, dX7_weigh_128, dX7_weigh_129, dX7_weigh_132, dX7_weigh_133, dX7_weigh_134, fT_7_35, dX7_weigh_137]
    rw [p1]
    obtain ⟨m1, hm1⟩ : ∃ m, m = up2 mI T 6 (nI np) := ⟨_, rfl⟩
    rw [← hm1]
    have pC : ScP m1 C np := ⟨by rw [hm1, up2_ne (fun z => by omega)]; exact p1, p2⟩
    refine hG.callV dX7_weigh_24 mv_7_51 [] [.ref T] (c4_everyone l X (d - 1) sh m1 mL mR n C hC np pC) ⟨_, rfl, rfl⟩ u0 (by omega) rfl (by decide) (by simp [Value.category]) rfl ?_
    rintro r M' ⟨rfl, rfl⟩
    refine hG.run [] 40 ?_
    simp [wp, stepI, ln, jmp, cmpI, Value.category, rd, tyF, va_rf, st1, st2, clr, isLg, CB, inx_0, inx_1, inx_2, inx_3, inx_4, inx_5, bI_0, bI_1, bI_ok, fin3, tyX7, entL, q0, okv, wr, finF, clT, TX7, xT, dX7_weigh_0, dX7_weigh_1, fT_7_32, dX7_weigh_4, dX7_weigh_7, dX7_weigh_8, dX7_weigh_9, dX7_weigh_10, fT_7_38, dX7_weigh_13, fT_7_44, dX7_weigh_16, fT_7_50, dX7_weigh_19, dX7_weigh_20, dX7_weigh_21, dX7_weigh_24, dX7_weigh_27, fT_7_55, dX7_weigh_30, dX7_weigh_31, dX7_weigh_32, dX7_weigh_35, dX7_weigh_36, fT_7_19, dX7_weigh_39, dX7_weigh_40, dX7_weigh_43, dX7_weigh_44, dX7_weigh_47, dX7_weigh_48, dX7_weigh_49, dX7_weigh_50, dX7_weigh_51, dX7_weigh_52, dX7_weigh_53, dX7_weigh_54, dX7_weigh_57, dX7_weigh_60, dX7_weigh_61, dX7_weigh_62, dX7_weigh_63, dX7_weigh_64, dX7_weigh_67, dX7_weigh_70, dX7_weigh_71, dX7_weigh_74, dX7_weigh_75, dX7_weigh_76, dX7_weigh_77, dX7_weigh_78, dX7_weigh_81, dX7_weigh_82, dX7_weigh_83, dX7_weigh_84, dX7_weigh_85, dX7_weigh_86, dX7_weigh_89, dX7_weigh_90, dX7_weigh_93, dX7_weigh_94, dX7_weigh_95, dX7_weigh_96, dX7_weigh_97, dX7_weigh_98, dX7_weigh_99, dX7_weigh_100, dX7_weigh_101, dX7_weigh_104, dX7_weigh_105, dX7_weigh_106, dX7_weigh_107, dX7_weigh_108, dX7_weigh_109, dX7_weigh_112, dX7_weigh_113, dX7_weigh_114, dX7_weigh_115, dX7_weigh_118, dX7_weigh_121, dX7_weigh_124, dX7_weigh_127, dX7_weigh_128, dX7_weigh_129, dX7_weigh_132, dX7_weigh_133, dX7_weigh_134, fT_7_35, dX7_weigh_137]
    obtain ⟨m2, hm2⟩ : ∃ m, m = up2 m1 T 7 (nI (2 ^ np - 1)) := ⟨_, rfl⟩
    rw [← hm2]
    have fr : ∀ a k, a ≠ T → m2 a k = mI a k := fun a k ha => by
      rw [hm2, up2_ne (fun z => ha z.1), hm1, up2_ne (fun z => ha z.1)]
    have g1 : m2 T 6 = nI np := by rw [hm2, up2_ne (fun z => by cases z.2), hm1, up2_eq]
    have g2 : m2 T 7 = nI (2 ^ np - 1) := by rw [hm2, up2_eq]
    have g3 : m2 T 0 = nI sp.toNat := by rw [hm2, up2_ne (fun z => by cases z.2), hm1, up2_ne (fun z => by cases z.2)]; exact hsp
    have hS2 : ShS m2 S c fi se ma := ⟨(fr _ _ (by omega)).trans hS.1, hS.2.1, fun k hk => ⟨(fr _ _ (by omega)).trans (hS.2.2 k hk).1, (fr _ _ (by omega)).trans (hS.2.2 k hk).2.1, (fr _ _ (by omega)).trans (hS.2.2 k hk).2.2.1, (hS.2.2 k hk).2.2.2⟩⟩
    have hp2 : ScP m2 C np := ⟨(fr _ _ (by omega)).trans p1, p2⟩
    have hK2 : ScK m2 C np sl kd := ⟨(fr _ _ (by omega)).trans hK.1, hK.2.1, fun p hp => ⟨(fr _ _ (by omega)).trans (hK.2.2 p hp).1, (hK.2.2 p hp).2⟩⟩
    clear hm2 hm1 pC
    refine hG.callV dX7_weigh_32 mv_7_57 [.ref S] [] (c7_setFactors l X (d - 1) sh m2 mL mR n T S C hO hS6 hsc hC d1 d2 sp g3 np hp2 sl kd hK2 c fi se ma hS2 hfn hfs (by omega)) ⟨_, rfl, rfl⟩ q0 (by omega) rfl (by decide) (by simp [Value.category]) rfl ?_
    rintro r M' ⟨rfl, m3, mL3, rfl, k1, k2, k3, k4⟩
    have hpa : ∀ p, paX fi se c p < 1024 := fun p => paX_lt c (fun k hk => ⟨(hS.2.2 k hk).2.2.2.1, (hS.2.2 k hk).2.2.2.2.1⟩)
    have tam : ∀ mI4 mL4, mI4 T 6 = nI np → mI4 T 7 = nI (2 ^ np - 1) → (∀ k, mI4 (T + 2) k = m3 (T + 2) k) → (∀ k, mL4 (T + 1) k = mL3 (T + 1) k) → TaM mI4 mL4 T np (paX fi se c) (faX sp sl kd fi se c) := fun mI4 mL4 z1 z2 z3 z4 => ⟨z1, p2, z2, fun p hp => ⟨(z3 p).trans (k3 p hp), hpa p⟩, fun a b ha hb => (z4 _).trans (k4 a b ha hb), fun p o h => faX_1 h⟩
    have e1 : m3 T 6 = nI np := (k1 _ _ (by omega)).trans g1
    have e2 : m3 T 7 = nI (2 ^ np - 1) := (k1 _ _ (by omega)).trans g2
    have last : ∀ mL4 v2 v3, (∀ a k, a ≠ T + 3 → mL4 a k = mL3 a k) → (∀ t, t < 2 ^ np → mL4 (T + 3) t = lN (V t)) → G 127 [some (.ref T), some (.ref S), v2, v3] [] (sh, m3, mL4, mR, n) := fun mL4 v2 v3 z1 z2 => by
      refine hG.run [] 40 ?_
      simp [wp, stepI, ln, jmp, cmpI, Value.category, rd, tyF, va_rf, st1, st2, clr, isLg, CB, inx_0, inx_1, inx_2, inx_3, inx_4, inx_5, bI_0, bI_1, bI_ok, fin3, tyX7, entL, q0, okv, wr, finF, clT, TX7, xT, dX7_weigh_0, dX7_weigh_1, fT_7_32, dX7_weigh_4, dX7_weigh_7, dX7_weigh_8, dX7_weigh_9, dX7_weigh_10, fT_7_38, dX7_weigh_13, fT_7_44, dX7_weigh_16, fT_7_50, dX7_weigh_19, dX7_weigh_20, dX7_weigh_21, dX7_weigh_24, dX7_weigh_27, fT_7_55, dX7_weigh_30, dX7_weigh_31, dX7_weigh_32, dX7_weigh_35, dX7_weigh_36, fT_7_19, dX7_weigh_39, dX7_weigh_40, dX7_weigh_43, dX7_weigh_44, dX7_weigh_47, dX7_weigh_48, dX7_weigh_49, dX7_weigh_50, dX7_weigh_51, dX7_weigh_52, dX7_weigh_53, dX7_weigh_54, dX7_weigh_57, dX7_weigh_60, dX7_weigh_61, dX7_weigh_62, dX7_weigh_63, dX7_weigh_64, dX7_weigh_67, dX7_weigh_70, dX7_weigh_71, dX7_weigh_74, dX7_weigh_75, dX7_weigh_76, dX7_weigh_77, dX7_weigh_78, dX7_weigh_81, dX7_weigh_82, dX7_weigh_83, dX7_weigh_84, dX7_weigh_85, dX7_weigh_86, dX7_weigh_89, dX7_weigh_90, dX7_weigh_93, dX7_weigh_94, dX7_weigh_95, dX7_weigh_96, dX7_weigh_97, dX7_weigh_98, dX7_weigh_99, dX7_weigh_100, dX7_weigh_101, dX7_weigh_104, dX7_weigh_105, dX7_weigh_106, dX7_weigh_107, dX7_weigh_108, dX7_weigh_109, dX7_weigh_112, dX7_weigh_113, dX7_weigh_114, dX7_weigh_115, dX7_weigh_118, dX7_weigh_121, dX7_weigh_124, dX7_weigh_127, dX7_weigh_128, dX7_weigh_129, dX7_weigh_132, dX7_weigh_133, dX7_weigh_134, fT_7_35, dX7_weigh_137]
      simp only [li]
      refine hP _ _ ⟨rfl, _, mL4, rfl, fun a k h0 h2 => ?_, fun a k h1 h3 => (z1 a k h3).trans (k2 a k h1), ?_, tam _ _ ?_ ?_ (fun k => ?_) (fun k => z1 _ _ (by omega)), z2, ?_, ?_⟩
      · rw [up2_ne (fun z => h0 z.1), up2_ne (fun z => h0 z.1)]; exact (k1 a k h2).trans (fr a k h0)
      · rw [up2_ne (fun z => by cases z.2), up2_ne (fun z => by cases z.2)]; exact (k1 _ _ (by omega)).trans g3
      · rw [up2_ne (fun z => by cases z.2), up2_ne (fun z => by cases z.2)]; exact e1
      · rw [up2_ne (fun z => by cases z.2), up2_ne (fun z => by cases z.2)]; exact e2
      · rw [up2_ne (fun z => by omega), up2_ne (fun z => by omega)]
      · rw [up2_ne (fun z => by cases z.2), up2_eq]
      · rw [up2_eq]
    have loop2 : ∀ f i mL4 v3, 2 ^ np - 1 - i < f → i ≤ 2 ^ np - 1 → (∀ a k, a ≠ T + 3 → mL4 a k = mL3 a k) → (∀ t, t < 2 ^ np → mL4 (T + 3) t = lN (psh np V g i 0 t)) → G 52 [some (.ref T), some (.ref S), some (.int (nI i)), v3] [] (sh, m3, mL4, mR, n) := by
      intro f
      induction f with
      | zero => intro i mL4 v3 h; omega
      | succ f ih =>
        intro i mL4 v3 hf hi h1 h2
        have g121 : i < 2 ^ np - 1 → ∀ mL5 v3, (∀ a k, a ≠ T + 3 → mL5 a k = mL3 a k) → (∀ t, t < 2 ^ np → mL5 (T + 3) t = lN (psh np V g (i + 1) 0 t)) → G 121 [some (.ref T), some (.ref S), some (.int (nI i)), v3] [] (sh, m3, mL5, mR, n) := fun hi2 mL5 v3 z1 z2 => by
          refine hG.run [52] 40 ?_
          simp [wp, stepI, ln, jmp, cmpI, Value.category, rd, tyF, va_rf, st1, st2, clr, isLg, CB, inx_0, inx_1, inx_2, inx_3, inx_4, inx_5, bI_0, bI_1, bI_ok, fin3, tyX7, entL, q0, dX7_weigh_0, dX7_weigh_1, fT_7_32, dX7_weigh_4, dX7_weigh_7, dX7_weigh_8, dX7_weigh_9, dX7_weigh_10, fT_7_38, dX7_weigh_13, fT_7_44, dX7_weigh_16, fT_7_50, dX7_weigh_19, dX7_weigh_20, dX7_weigh_21, dX7_weigh_24, dX7_weigh_27, fT_7_55, dX7_weigh_30, dX7_weigh_31, dX7_weigh_32, dX7_weigh_35, dX7_weigh_36, fT_7_19, dX7_weigh_39, dX7_weigh_40, dX7_weigh_43, dX7_weigh_44, dX7_weigh_47, dX7_weigh_48, dX7_weigh_49, dX7_weigh_50, dX7_weigh_51, dX7_weigh_52, dX7_weigh_53, dX7_weigh_54, dX7_weigh_57, dX7_weigh_60, dX7_weigh_61, dX7_weigh_62, dX7_weigh_63, dX7_weigh_64, dX7_weigh_67, dX7_weigh_70, dX7_weigh_71, dX7_weigh_74, dX7_weigh_75, dX7_weigh_76, dX7_weigh_77, dX7_weigh_78, dX7_weigh_81, dX7_weigh_82, dX7_weigh_83, dX7_weigh_84, dX7_weigh_85, dX7_weigh_86, dX7_weigh_89, dX7_weigh_90, dX7_weigh_93, dX7_weigh_94, dX7_weigh_95, dX7_weigh_96, dX7_weigh_97, dX7_weigh_98, dX7_weigh_99, dX7_weigh_100, dX7_weigh_101, dX7_weigh_104, dX7_weigh_105, dX7_weigh_106, dX7_weigh_107, dX7_weigh_108, dX7_weigh_109, dX7_weigh_112, dX7_weigh_113, dX7_weigh_114, dX7_weigh_115, dX7_weigh_118, dX7_weigh_121, dX7_weigh_124, dX7_weigh_127, dX7_weigh_128, dX7_weigh_129, dX7_weigh_132, dX7_weigh_133, dX7_weigh_134, fT_7_35, dX7_weigh_137]
          simp (disch := omega) only [li, nI_add, nI_clamp, nI_ltI, nI_leI, nI_eq, inx_iff, a31, nI_1shl', nI_shr', div_bit, tb1, tb0, fa_or, fa_and, nI_not, pk_sub, nI_dec]
          exact ih (i + 1) mL5 _ (by omega) (by omega) z1 z2
        have loop3 : ∀ f2 j mL5, i < 2 ^ np - 1 → np - j < f2 → j ≤ np → (∀ a k, a ≠ T + 3 → mL5 a k = mL3 a k) → (∀ t, t < 2 ^ np → mL5 (T + 3) t = lN (psh np V g i j t)) → G 62 [some (.ref T), some (.ref S), some (.int (nI i)), some (.int (nI j))] [] (sh, m3, mL5, mR, n) := by
          intro f2
          induction f2 with
          | zero => intro j mL5 hi2 h; omega
          | succ f2 ih2 =>
            intro j mL5 hi2 hf2 hj z1 z2
            have g115 : j < np → ∀ mL6, (∀ a k, a ≠ T + 3 → mL6 a k = mL3 a k) → (∀ t, t < 2 ^ np → mL6 (T + 3) t = lN (psh np V g i (j + 1) t)) → G 115 [some (.ref T), some (.ref S), some (.int (nI i)), some (.int (nI j))] [] (sh, m3, mL6, mR, n) := fun hjn mL6 y1 y2 => by
              refine hG.run [62] 40 ?_
              simp [wp, stepI, ln, jmp, cmpI, Value.category, rd, tyF, va_rf, st1, st2, clr, isLg, CB, inx_0, inx_1, inx_2, inx_3, inx_4, inx_5, bI_0, bI_1, bI_ok, fin3, tyX7, entL, q0, dX7_weigh_0, dX7_weigh_1, fT_7_32, dX7_weigh_4, dX7_weigh_7, dX7_weigh_8, dX7_weigh_9, dX7_weigh_10, fT_7_38, dX7_weigh_13, fT_7_44, dX7_weigh_16, fT_7_50, dX7_weigh_19, dX7_weigh_20, dX7_weigh_21, dX7_weigh_24, dX7_weigh_27, fT_7_55, dX7_weigh_30, dX7_weigh_31, dX7_weigh_32, dX7_weigh_35, dX7_weigh_36, fT_7_19, dX7_weigh_39, dX7_weigh_40, dX7_weigh_43, dX7_weigh_44, dX7_weigh_47, dX7_weigh_48, dX7_weigh_49, dX7_weigh_50, dX7_weigh_51, dX7_weigh_52, dX7_weigh_53, dX7_weigh_54, dX7_weigh_57, dX7_weigh_60, dX7_weigh_61, dX7_weigh_62, dX7_weigh_63, dX7_weigh_64, dX7_weigh_67, dX7_weigh_70, dX7_weigh_71, dX7_weigh_74, dX7_weigh_75, dX7_weigh_76, dX7_weigh_77, dX7_weigh_78, dX7_weigh_81, dX7_weigh_82, dX7_weigh_83, dX7_weigh_84, dX7_weigh_85, dX7_weigh_86, dX7_weigh_89, dX7_weigh_90, dX7_weigh_93, dX7_weigh_94, dX7_weigh_95, dX7_weigh_96, dX7_weigh_97, dX7_weigh_98, dX7_weigh_99, dX7_weigh_100, dX7_weigh_101, dX7_weigh_104, dX7_weigh_105, dX7_weigh_106, dX7_weigh_107, dX7_weigh_108, dX7_weigh_109, dX7_weigh_112, dX7_weigh_113, dX7_weigh_114, dX7_weigh_115, dX7_weigh_118, dX7_weigh_121, dX7_weigh_124, dX7_weigh_127, dX7_weigh_128, dX7_weigh_129, dX7_weigh_132, dX7_weigh_133, dX7_weigh_134, fT_7_35, dX7_weigh_137]
              simp (disch := omega) only [li, nI_add, nI_clamp, nI_ltI, nI_leI, nI_eq, inx_iff, a31, nI_1shl', nI_shr', div_bit, tb1, tb0, fa_or, fa_and, nI_not, pk_sub, nI_dec]
              exact ih2 (j + 1) mL6 hi2 (by omega) (by omega) y1 y2
            have fi0 : mL5 (T + 3) i = lN (V i) := by rw [z2 i (by omega), psh_full hV (Nat.le_refl i)]
            have fz : lN (V i) = lN 0 ↔ V i = 0 := pk_lEQ (b := 0) (hVl i (by omega)) (by decide)
            refine hG.run [62, 89, 115, 121] 60 ?_
            simp [wp, stepI, ln, jmp, cmpI, Value.category, rd, tyF, va_rf, st1, st2, clr, isLg, CB, inx_0, inx_1, inx_2, inx_3, inx_4, inx_5, bI_0, bI_1, bI_ok, fin3, tyX7, entL, q0, q_front, lg_cmp0, dX7_weigh_0, dX7_weigh_1, fT_7_32, dX7_weigh_4, dX7_weigh_7, dX7_weigh_8, dX7_weigh_9, dX7_weigh_10, fT_7_38, dX7_weigh_13, fT_7_44, dX7_weigh_16, fT_7_50, dX7_weigh_19, dX7_weigh_20, dX7_weigh_21, dX7_weigh_24, dX7_weigh_27, fT_7_55, dX7_weigh_30, dX7_weigh_31, dX7_weigh_32, dX7_weigh_35, dX7_weigh_36, fT_7_19, dX7_weigh_39, dX7_weigh_40, dX7_weigh_43, dX7_weigh_44, dX7_weigh_47, dX7_weigh_48, dX7_weigh_49, dX7_weigh_50, dX7_weigh_51, dX7_weigh_52, dX7_weigh_53, dX7_weigh_54, dX7_weigh_57, dX7_weigh_60, dX7_weigh_61, dX7_weigh_62, dX7_weigh_63, dX7_weigh_64, dX7_weigh_67, dX7_weigh_70, dX7_weigh_71, dX7_weigh_74, dX7_weigh_75, dX7_weigh_76, dX7_weigh_77, dX7_weigh_78, dX7_weigh_81, dX7_weigh_82, dX7_weigh_83, dX7_weigh_84, dX7_weigh_85, dX7_weigh_86, dX7_weigh_89, dX7_weigh_90, dX7_weigh_93, dX7_weigh_94, dX7_weigh_95, dX7_weigh_96, dX7_weigh_97, dX7_weigh_98, dX7_weigh_99, dX7_weigh_100, dX7_weigh_101, dX7_weigh_104, dX7_weigh_105, dX7_weigh_106, dX7_weigh_107, dX7_weigh_108, dX7_weigh_109, dX7_weigh_112, dX7_weigh_113, dX7_weigh_114, dX7_weigh_115, dX7_weigh_118, dX7_weigh_121, dX7_weigh_124, dX7_weigh_127, dX7_weigh_128, dX7_weigh_129, dX7_weigh_132, dX7_weigh_133, dX7_weigh_134, fT_7_35, dX7_weigh_137]
            simp (disch := omega) only [li, nI_add, nI_clamp, nI_ltI, nI_leI, nI_eq, inx_iff, a31, nI_1shl', nI_shr', div_bit, tb1, tb0, fa_or, fa_and, nI_not, pk_sub, nI_dec, liL, e1, fi0, fz]
            refine ⟨fun h => g121 hi2 mL5 _ z1 (fun t ht => by rw [z2 t ht, show j = np by omega, psh_end]), fun h => ⟨by omega, fun h0 => g121 hi2 mL5 _ z1 (fun t ht => by rw [z2 t ht, psh_z h0]), fun h0 => ⟨fun hb => ?_, fun hb => ?_⟩⟩⟩
            · refine g115 h mL5 z1 (fun t ht => ?_)
              rw [z2 t ht, psh_same]
              intro y1 y2
              refine absurd ?_ hb
              rw [← y2, anot_bit, Nat.testBit_two_pow_self, y1]
              rfl
            · have or2 := or_lt (np := np) (t := i) (p := j) (by omega) h
              have q2 := p2_le10 (k := j) (by omega)
              refine hG.run [115] 60 ?_
              simp [wp, stepI, ln, jmp, cmpI, Value.category, rd, tyF, va_rf, st1, st2, clr, isLg, CB, inx_0, inx_1, inx_2, inx_3, inx_4, inx_5, bI_0, bI_1, bI_ok, fin3, tyX7, entL, q0, q_front, dX7_weigh_0, dX7_weigh_1, fT_7_32, dX7_weigh_4, dX7_weigh_7, dX7_weigh_8, dX7_weigh_9, dX7_weigh_10, fT_7_38, dX7_weigh_13, fT_7_44, dX7_weigh_16, fT_7_50, dX7_weigh_19, dX7_weigh_20, dX7_weigh_21, dX7_weigh_24, dX7_weigh_27, fT_7_55, dX7_weigh_30, dX7_weigh_31, dX7_weigh_32, dX7_weigh_35, dX7_weigh_36, fT_7_19, dX7_weigh_39, dX7_weigh_40, dX7_weigh_43, dX7_weigh_44, dX7_weigh_47, dX7_weigh_48, dX7_weigh_49, dX7_weigh_50, dX7_weigh_51, dX7_weigh_52, dX7_weigh_53, dX7_weigh_54, dX7_weigh_57, dX7_weigh_60, dX7_weigh_61, dX7_weigh_62, dX7_weigh_63, dX7_weigh_64, dX7_weigh_67, dX7_weigh_70, dX7_weigh_71, dX7_weigh_74, dX7_weigh_75, dX7_weigh_76, dX7_weigh_77, dX7_weigh_78, dX7_weigh_81, dX7_weigh_82, dX7_weigh_83, dX7_weigh_84, dX7_weigh_85, dX7_weigh_86, dX7_weigh_89, dX7_weigh_90, dX7_weigh_93, dX7_weigh_94, dX7_weigh_95, dX7_weigh_96, dX7_weigh_97, dX7_weigh_98, dX7_weigh_99, dX7_weigh_100, dX7_weigh_101, dX7_weigh_104, dX7_weigh_105, dX7_weigh_106, dX7_weigh_107, dX7_weigh_108, dX7_weigh_109, dX7_weigh_112, dX7_weigh_113, dX7_weigh_114, dX7_weigh_115, dX7_weigh_118, dX7_weigh_121, dX7_weigh_124, dX7_weigh_127, dX7_weigh_128, dX7_weigh_129, dX7_weigh_132, dX7_weigh_133, dX7_weigh_134, fT_7_35, dX7_weigh_137]
              simp (disch := omega) only [li, nI_add, nI_clamp, nI_ltI, nI_leI, nI_eq, inx_iff, a31, nI_1shl', nI_shr', div_bit, tb1, tb0, fa_or, fa_and, nI_not, pk_sub, nI_dec, fi0]
              refine ⟨by omega, by omega, ?_⟩
              refine hG.callV dX7_weigh_109 mv_7_67 [.int (nI i), .int (nI j)] [.long (lN (V i)), .long (mL5 (T + 3) (i ||| 2 ^ j)), .int (nI (i ||| 2 ^ j)), .ref (T + 3)] (c7_factorBehind l X (d - 1) sh m3 mL5 mR n T hO np _ _ (tam m3 mL5 e1 e2 (fun _ => rfl) (fun k => z1 _ _ (by omega))) i j (by omega) h) ⟨_, rfl, rfl⟩ q0 (by omega) rfl (by decide) (by simp [Value.category]) rfl ?_
              rintro r M' ⟨rfl, rfl⟩
              rw [← hg]
              refine hG.run [115] 60 ?_
              simp [wp, stepI, ln, jmp, cmpI, Value.category, rd, tyF, va_rf, st1, st2, clr, isLg, CB, inx_0, inx_1, inx_2, inx_3, inx_4, inx_5, bI_0, bI_1, bI_ok, fin3, tyX7, entL, q0, q_front, x3, dX7_weigh_0, dX7_weigh_1, fT_7_32, dX7_weigh_4, dX7_weigh_7, dX7_weigh_8, dX7_weigh_9, dX7_weigh_10, fT_7_38, dX7_weigh_13, fT_7_44, dX7_weigh_16, fT_7_50, dX7_weigh_19, dX7_weigh_20, dX7_weigh_21, dX7_weigh_24, dX7_weigh_27, fT_7_55, dX7_weigh_30, dX7_weigh_31, dX7_weigh_32, dX7_weigh_35, dX7_weigh_36, fT_7_19, dX7_weigh_39, dX7_weigh_40, dX7_weigh_43, dX7_weigh_44, dX7_weigh_47, dX7_weigh_48, dX7_weigh_49, dX7_weigh_50, dX7_weigh_51, dX7_weigh_52, dX7_weigh_53, dX7_weigh_54, dX7_weigh_57, dX7_weigh_60, dX7_weigh_61, dX7_weigh_62, dX7_weigh_63, dX7_weigh_64, dX7_weigh_67, dX7_weigh_70, dX7_weigh_71, dX7_weigh_74, dX7_weigh_75, dX7_weigh_76, dX7_weigh_77, dX7_weigh_78, dX7_weigh_81, dX7_weigh_82, dX7_weigh_83, dX7_weigh_84, dX7_weigh_85, dX7_weigh_86, dX7_weigh_89, dX7_weigh_90, dX7_weigh_93, dX7_weigh_94, dX7_weigh_95, dX7_weigh_96, dX7_weigh_97, dX7_weigh_98, dX7_weigh_99, dX7_weigh_100, dX7_weigh_101, dX7_weigh_104, dX7_weigh_105, dX7_weigh_106, dX7_weigh_107, dX7_weigh_108, dX7_weigh_109, dX7_weigh_112, dX7_weigh_113, dX7_weigh_114, dX7_weigh_115, dX7_weigh_118, dX7_weigh_121, dX7_weigh_124, dX7_weigh_127, dX7_weigh_128, dX7_weigh_129, dX7_weigh_132, dX7_weigh_133, dX7_weigh_134, fT_7_35, dX7_weigh_137]
              simp (disch := omega) only [li, nI_add, nI_clamp, nI_ltI, nI_leI, nI_eq, inx_iff, a31, nI_1shl', nI_shr', div_bit, tb1, tb0, fa_or, fa_and, nI_not, pk_sub, nI_dec, lN_mul]
              refine ⟨by omega, g115 h _ (fun a k ha => by rw [up2_ne (fun y => ha y.1)]; exact z1 a k ha) (fun t ht => ?_)⟩
              by_cases hti : t = i ||| 2 ^ j
              · subst hti
                rw [up2_eq, z2 _ ht, lN_add, psh_add h hb]
              · rw [up2_ne (fun x => hti x.2), z2 t ht, psh_same]
                intro y1 y2
                refine absurd ?_ hti
                rw [← y2, anot_or y1]
        refine hG.run [62, 127] 60 ?_
        simp [wp, stepI, ln, jmp, cmpI, Value.category, rd, tyF, va_rf, st1, st2, clr, isLg, CB, inx_0, inx_1, inx_2, inx_3, inx_4, inx_5, bI_0, bI_1, bI_ok, fin3, tyX7, entL, q0, dX7_weigh_0, dX7_weigh_1, fT_7_32, dX7_weigh_4, dX7_weigh_7, dX7_weigh_8, dX7_weigh_9, dX7_weigh_10, fT_7_38, dX7_weigh_13, fT_7_44, dX7_weigh_16, fT_7_50, dX7_weigh_19, dX7_weigh_20, dX7_weigh_21, dX7_weigh_24, dX7_weigh_27, fT_7_55, dX7_weigh_30, dX7_weigh_31, dX7_weigh_32, dX7_weigh_35, dX7_weigh_36, fT_7_19, dX7_weigh_39, dX7_weigh_40, dX7_weigh_43, dX7_weigh_44, dX7_weigh_47, dX7_weigh_48, dX7_weigh_49, dX7_weigh_50, dX7_weigh_51, dX7_weigh_52, dX7_weigh_53, dX7_weigh_54, dX7_weigh_57, dX7_weigh_60, dX7_weigh_61, dX7_weigh_62, dX7_weigh_63, dX7_weigh_64, dX7_weigh_67, dX7_weigh_70, dX7_weigh_71, dX7_weigh_74, dX7_weigh_75, dX7_weigh_76, dX7_weigh_77, dX7_weigh_78, dX7_weigh_81, dX7_weigh_82, dX7_weigh_83, dX7_weigh_84, dX7_weigh_85, dX7_weigh_86, dX7_weigh_89, dX7_weigh_90, dX7_weigh_93, dX7_weigh_94, dX7_weigh_95, dX7_weigh_96, dX7_weigh_97, dX7_weigh_98, dX7_weigh_99, dX7_weigh_100, dX7_weigh_101, dX7_weigh_104, dX7_weigh_105, dX7_weigh_106, dX7_weigh_107, dX7_weigh_108, dX7_weigh_109, dX7_weigh_112, dX7_weigh_113, dX7_weigh_114, dX7_weigh_115, dX7_weigh_118, dX7_weigh_121, dX7_weigh_124, dX7_weigh_127, dX7_weigh_128, dX7_weigh_129, dX7_weigh_132, dX7_weigh_133, dX7_weigh_134, fT_7_35, dX7_weigh_137]
        simp (disch := omega) only [li, nI_add, nI_clamp, nI_ltI, nI_leI, nI_eq, inx_iff, a31, nI_1shl', nI_shr', div_bit, tb1, tb0, fa_or, fa_and, nI_not, pk_sub, nI_dec, e2]
        refine ⟨fun h => last mL4 _ _ h1 (fun t ht => by rw [h2 t ht, psh_full hV (by omega)]), fun h => loop3 (np + 1) 0 mL4 h (by omega) (by omega) h1 h2⟩
    refine hG.run [] 40 ?_
    simp [wp, stepI, ln, jmp, cmpI, Value.category, rd, tyF, va_rf, st1, st2, clr, isLg, CB, inx_0, inx_1, inx_2, inx_3, inx_4, inx_5, bI_0, bI_1, bI_ok, fin3, tyX7, entL, q0, q_front, dX7_weigh_0, dX7_weigh_1, fT_7_32, dX7_weigh_4, dX7_weigh_7, dX7_weigh_8, dX7_weigh_9, dX7_weigh_10, fT_7_38, dX7_weigh_13, fT_7_44, dX7_weigh_16, fT_7_50, dX7_weigh_19, dX7_weigh_20, dX7_weigh_21, dX7_weigh_24, dX7_weigh_27, fT_7_55, dX7_weigh_30, dX7_weigh_31, dX7_weigh_32, dX7_weigh_35, dX7_weigh_36, fT_7_19, dX7_weigh_39, dX7_weigh_40, dX7_weigh_43, dX7_weigh_44, dX7_weigh_47, dX7_weigh_48, dX7_weigh_49, dX7_weigh_50, dX7_weigh_51, dX7_weigh_52, dX7_weigh_53, dX7_weigh_54, dX7_weigh_57, dX7_weigh_60, dX7_weigh_61, dX7_weigh_62, dX7_weigh_63, dX7_weigh_64, dX7_weigh_67, dX7_weigh_70, dX7_weigh_71, dX7_weigh_74, dX7_weigh_75, dX7_weigh_76, dX7_weigh_77, dX7_weigh_78, dX7_weigh_81, dX7_weigh_82, dX7_weigh_83, dX7_weigh_84, dX7_weigh_85, dX7_weigh_86, dX7_weigh_89, dX7_weigh_90, dX7_weigh_93, dX7_weigh_94, dX7_weigh_95, dX7_weigh_96, dX7_weigh_97, dX7_weigh_98, dX7_weigh_99, dX7_weigh_100, dX7_weigh_101, dX7_weigh_104, dX7_weigh_105, dX7_weigh_106, dX7_weigh_107, dX7_weigh_108, dX7_weigh_109, dX7_weigh_112, dX7_weigh_113, dX7_weigh_114, dX7_weigh_115, dX7_weigh_118, dX7_weigh_121, dX7_weigh_124, dX7_weigh_127, dX7_weigh_128, dX7_weigh_129, dX7_weigh_132, dX7_weigh_133, dX7_weigh_134, fT_7_35, dX7_weigh_137]
    refine hG.callS dX7_weigh_40 ms_7_61 [.ref (T + 3), .long 0] [] (cJ_fillL l X (d - 1) sh m3 mL3 mR n (T + 3) 1024 q_front.2 x3 (by decide) 0) (by omega) rfl (by decide) (by simp [Value.category]) rfl ?_
    rintro r M' ⟨rfl, rfl⟩
    refine hG.run [52] 40 ?_
    simp [wp, stepI, ln, jmp, cmpI, Value.category, rd, tyF, va_rf, st1, st2, clr, isLg, CB, inx_0, inx_1, inx_2, inx_3, inx_4, inx_5, bI_0, bI_1, bI_ok, fin3, tyX7, entL, q0, q_front, x3, dX7_weigh_0, dX7_weigh_1, fT_7_32, dX7_weigh_4, dX7_weigh_7, dX7_weigh_8, dX7_weigh_9, dX7_weigh_10, fT_7_38, dX7_weigh_13, fT_7_44, dX7_weigh_16, fT_7_50, dX7_weigh_19, dX7_weigh_20, dX7_weigh_21, dX7_weigh_24, dX7_weigh_27, fT_7_55, dX7_weigh_30, dX7_weigh_31, dX7_weigh_32, dX7_weigh_35, dX7_weigh_36, fT_7_19, dX7_weigh_39, dX7_weigh_40, dX7_weigh_43, dX7_weigh_44, dX7_weigh_47, dX7_weigh_48, dX7_weigh_49, dX7_weigh_50, dX7_weigh_51, dX7_weigh_52, dX7_weigh_53, dX7_weigh_54, dX7_weigh_57, dX7_weigh_60, dX7_weigh_61, dX7_weigh_62, dX7_weigh_63, dX7_weigh_64, dX7_weigh_67, dX7_weigh_70, dX7_weigh_71, dX7_weigh_74, dX7_weigh_75, dX7_weigh_76, dX7_weigh_77, dX7_weigh_78, dX7_weigh_81, dX7_weigh_82, dX7_weigh_83, dX7_weigh_84, dX7_weigh_85, dX7_weigh_86, dX7_weigh_89, dX7_weigh_90, dX7_weigh_93, dX7_weigh_94, dX7_weigh_95, dX7_weigh_96, dX7_weigh_97, dX7_weigh_98, dX7_weigh_99, dX7_weigh_100, dX7_weigh_101, dX7_weigh_104, dX7_weigh_105, dX7_weigh_106, dX7_weigh_107, dX7_weigh_108, dX7_weigh_109, dX7_weigh_112, dX7_weigh_113, dX7_weigh_114, dX7_weigh_115, dX7_weigh_118, dX7_weigh_121, dX7_weigh_124, dX7_weigh_127, dX7_weigh_128, dX7_weigh_129, dX7_weigh_132, dX7_weigh_133, dX7_weigh_134, fT_7_35, dX7_weigh_137]
    refine loop2 (2 ^ np) 0 _ _ (by omega) (by omega) (fun a k ha => by rw [up2_ne (fun y => ha y.1), flL_ne ha]) (fun t ht => ?_)
    rw [psh_0]
    by_cases hz : t = 0
    · rw [hz, up2_eq]; rfl
    · rw [up2_ne (fun y => hz y.2), flL_in (by omega), if_neg hz]; rfl
  refine hG.run [8] 40 ?_
  simp [wp, stepI, ln, jmp, cmpI, Value.category, rd, tyF, va_rf, st1, st2, clr, isLg, CB, inx_0, inx_1, inx_2, inx_3, inx_4, inx_5, bI_0, bI_1, bI_ok, fin3, tyX7, entL, q0, dX7_weigh_0, dX7_weigh_1, fT_7_32, dX7_weigh_4, dX7_weigh_7, dX7_weigh_8, dX7_weigh_9, dX7_weigh_10, fT_7_38, dX7_weigh_13, fT_7_44, dX7_weigh_16, fT_7_50, dX7_weigh_19, dX7_weigh_20, dX7_weigh_21, dX7_weigh_24, dX7_weigh_27, fT_7_55, dX7_weigh_30, dX7_weigh_31, dX7_weigh_32, dX7_weigh_35, dX7_weigh_36, fT_7_19, dX7_weigh_39, dX7_weigh_40, dX7_weigh_43, dX7_weigh_44, dX7_weigh_47, dX7_weigh_48, dX7_weigh_49, dX7_weigh_50, dX7_weigh_51, dX7_weigh_52, dX7_weigh_53, dX7_weigh_54, dX7_weigh_57, dX7_weigh_60, dX7_weigh_61, dX7_weigh_62, dX7_weigh_63, dX7_weigh_64, dX7_weigh_67, dX7_weigh_70, dX7_weigh_71, dX7_weigh_74, dX7_weigh_75, dX7_weigh_76, dX7_weigh_77, dX7_weigh_78, dX7_weigh_81, dX7_weigh_82, dX7_weigh_83, dX7_weigh_84, dX7_weigh_85, dX7_weigh_86, dX7_weigh_89, dX7_weigh_90, dX7_weigh_93, dX7_weigh_94, dX7_weigh_95, dX7_weigh_96, dX7_weigh_97, dX7_weigh_98, dX7_weigh_99, dX7_weigh_100, dX7_weigh_101, dX7_weigh_104, dX7_weigh_105, dX7_weigh_106, dX7_weigh_107, dX7_weigh_108, dX7_weigh_109, dX7_weigh_112, dX7_weigh_113, dX7_weigh_114, dX7_weigh_115, dX7_weigh_118, dX7_weigh_121, dX7_weigh_124, dX7_weigh_127, dX7_weigh_128, dX7_weigh_129, dX7_weigh_132, dX7_weigh_133, dX7_weigh_134, fT_7_35, dX7_weigh_137]
  simp (disch := omega) only [li, nI_add, nI_clamp, nI_ltI, nI_leI, nI_eq, inx_iff, a31, nI_1shl', nI_shr', div_bit, tb1, tb0, fa_or, fa_and, nI_not, pk_sub, nI_dec, hnw]
  exact ⟨fun _ => g8, fun z => absurd trivial z⟩
/-! what stands behind, and who is ahead of whom -/
def BkR (np : Nat) (V : Nat → Nat) (g : Nat → Nat → Nat) (B : Nat → Nat) : Prop := B (2 ^ np - 1) = 1 ∧ ∀ t, t < 2 ^ np - 1 → B t = if V t = 0 then 0 else fb_sm (fun p => if t.testBit p then 0 else g p t * B (t ||| 2 ^ p)) np
def bkC (np : Nat) (V : Nat → Nat) (g : Nat → Nat → Nat) (t : Nat) : Nat := if h : t < 2 ^ np - 1 then (if V t = 0 then 0 else fb_sm (fun p => if h2 : t.testBit p = false then g p t * bkC np V g (t ||| 2 ^ p) else 0) np) else 1
termination_by 2 ^ np - 1 - t
decreasing_by
  have := or_gt h2
  omega
theorem bkC_ok (np : Nat) (V : Nat → Nat) (g : Nat → Nat → Nat) : BkR np V g (bkC np V g) := by
  refine ⟨by rw [bkC, dif_neg (by omega)], fun t ht => ?_⟩
  rw [bkC, dif_pos ht]
  split
  · rfl
  · refine fb_sm_cong fun p _ => ?_
    cases hb : t.testBit p with
    | false => rw [dif_pos rfl]; rfl
    | true => rw [dif_neg (by decide)]; rfl
def ahF (V : Nat → Nat) (g : Nat → Nat → Nat) (B : Nat → Nat) (o q t : Nat) : Nat := if t.testBit q = false ∧ t.testBit o = true then V t * (g q t * B (t ||| 2 ^ q)) else 0
def sfm (F : Nat → Nat) (i N : Nat) : Nat := fb_sm (fun k => F (i + k)) (N - i)
theorem sfm_s {F : Nat → Nat} {i N : Nat} (h : i < N) : sfm F i N = F i + sfm F (i + 1) N := by
  unfold sfm
  rw [show N - i = 1 + (N - (i + 1)) by omega, fb_sm_split]
  congr 1
  · show 0 + F (i + 0) = F i
    rw [Nat.zero_add, Nat.add_zero]
  · exact fb_sm_cong fun k _ => by rw [show i + (1 + k) = i + 1 + k by omega]
theorem sfm_0 {F : Nat → Nat} {N : Nat} : sfm F N N = 0 := by
  unfold sfm
  rw [Nat.sub_self]; rfl
def ahT (np : Nat) (V : Nat → Nat) (g : Nat → Nat → Nat) (B : Nat → Nat) (o q : Nat) : Nat := sfm (ahF V g B o q) 0 (2 ^ np - 1)
set_option maxHeartbeats 4000000 in
set_option maxRecDepth 100000 in
theorem c7_compareR (l : Launch) (X : Cx) (d : Nat) (sh : Nat → Option Sh) (mI : Nat → Nat → Int32) (mL : Nat → Nat → Int64) (mR : Nat → Nat → Option Nat) (n : Nat) (T : Nat) (hO : OL sh mR T 7 ob7) (hw : mI T 9 = nI 1) : Cn l X yX7_compare cX7_compare 5 none d [.ref T] (sh, mI, mL, mR, n) (fun r M' => r = none ∧ M' = (sh, mI, mL, mR, n)) 0 0 := by
  refine Cn.run 7 false (by decide) rfl (by decide) (by simp [entA, Value.category]) ?_
  intro P G hP hG
  have q0 := hO.1
  refine hG.run [8] 40 ?_
  simp [wp, stepI, ln, jmp, cmpI, Value.category, rd, tyF, va_rf, st1, st2, clr, isLg, CB, inx_0, inx_1, inx_2, inx_3, inx_4, inx_5, bI_0, bI_1, bI_ok, fin3, tyX7, entL, q0, dX7_compare_0, dX7_compare_1, fT_7_35, dX7_compare_4, dX7_compare_7, dX7_compare_8, dX7_compare_9, fT_7_25, dX7_compare_12, dX7_compare_13, dX7_compare_16, dX7_compare_17, fT_7_22, dX7_compare_20, dX7_compare_21, fT_7_55, dX7_compare_24, dX7_compare_25, dX7_compare_26, dX7_compare_27, dX7_compare_30, dX7_compare_31, dX7_compare_32, dX7_compare_33, dX7_compare_34, dX7_compare_37, dX7_compare_38, dX7_compare_41, dX7_compare_42, dX7_compare_43, dX7_compare_44, dX7_compare_45, dX7_compare_46, dX7_compare_47, dX7_compare_48, fT_7_50, dX7_compare_51, dX7_compare_54, dX7_compare_55, fT_7_19, dX7_compare_58, dX7_compare_59, dX7_compare_60, dX7_compare_61, dX7_compare_62, dX7_compare_65, dX7_compare_66, dX7_compare_67, dX7_compare_68, dX7_compare_69, dX7_compare_70, dX7_compare_73, dX7_compare_74, dX7_compare_75, dX7_compare_76, dX7_compare_79, dX7_compare_80, dX7_compare_83, dX7_compare_84, dX7_compare_85, dX7_compare_86, dX7_compare_87, dX7_compare_88, dX7_compare_89, dX7_compare_90, dX7_compare_91, dX7_compare_92, dX7_compare_95, dX7_compare_96, dX7_compare_97, dX7_compare_98, dX7_compare_99, dX7_compare_100, dX7_compare_101, dX7_compare_102, dX7_compare_103, dX7_compare_104, dX7_compare_105, dX7_compare_108, dX7_compare_109, dX7_compare_110, dX7_compare_111, dX7_compare_112, dX7_compare_115, dX7_compare_118, dX7_compare_121, dX7_compare_124, dX7_compare_127, dX7_compare_128, dX7_compare_129, dX7_compare_132]
  simp (disch := omega) only [li, nI_add, nI_clamp, nI_ltI, nI_leI, nI_eq, inx_iff, a31, nI_1shl', nI_shr', div_bit, tb1, tb0, fa_or, fa_and, nI_not, pk_sub, nI_dec, hw]
  exact ⟨fun z => by omega, fun _ => hP _ _ ⟨rfl, rfl⟩⟩
set_option maxHeartbeats 4000000 in
set_option maxRecDepth 100000 in
theorem c7_compare (l : Launch) (X : Cx) (d : Nat) (sh : Nat → Option Sh) (mI : Nat → Nat → Int32) (mL : Nat → Nat → Int64) (mR : Nat → Nat → Option Nat) (n : Nat) (T : Nat) (hO : OL sh mR T 7 ob7) (np : Nat) (pa : Nat → Nat) (fx : Nat → Nat → Nat) (hM : TaM mI mL T np pa fx) (V : Nat → Nat) (hV : ∀ t, t < 2 ^ np → mL (T + 3) t = lN (V t) ∧ V t < 2 ^ 63) (B : Nat → Nat) (hB : BkR np V (gX fx np) B) (hnc : mI T 9 = nI 0) (hd : 1 ≤ d) : Cn l X yX7_compare cX7_compare 5 none d [.ref T] (sh, mI, mL, mR, n) (fun r M' => r = none ∧ ∃ mL', M' = (sh, up2 mI T 9 (nI 1), mL', mR, n) ∧ (∀ a k, a ≠ T + 4 → a ≠ T + 5 → mL' a k = mL a k) ∧ ∀ o q, o < np → q < np → mL' (T + 5) (10 * o + q) = lN (ahT np V (gX fx np) B o q)) 0 0 := by
  refine Cn.run 7 false (by decide) rfl (by decide) (by simp [entA, Value.category]) ?_
  intro P G hP hG
  have q0 := hO.1
  have q_front := hO.2.2 (3, 3, .long, 1024) (by decide)
  dsimp only at q_front
  have q_back := hO.2.2 (4, 4, .long, 1024) (by decide)
  dsimp only at q_back
  have q_ahead := hO.2.2 (5, 5, .long, 100) (by decide)
  dsimp only at q_ahead
  have hSl := hO.2.1
  have xT : T < 1000000000 := by omega
  have x4 : T + 4 < 1000000000 := by omega
  have x5 : T + 5 < 1000000000 := by omega
  have hM0 := hM
  obtain ⟨e1, p2, e2, -, -, -⟩ := hM
  have hpw := p2_10 p2
  have m10 : -nI 1 < nI 0 := by decide +kernel
  obtain ⟨g, hg⟩ : ∃ g, g = gX fx np := ⟨_, rfl⟩
  rw [← hg] at hB hP
  have last : ∀ mL4 v1 v2 v3 v4, (∀ a k, a ≠ T + 4 → a ≠ T + 5 → mL4 a k = mL a k) → (∀ o q, o < np → q < np → mL4 (T + 5) (10 * o + q) = lN (ahT np V g B o q)) → G 127 [some (.ref T), v1, v2, v3, v4] [] (sh, mI, mL4, mR, n) := fun mL4 v1 v2 v3 v4 z1 z2 => by
    refine hG.run [] 40 ?_
    simp [wp, stepI, ln, jmp, cmpI, Value.category, rd, tyF, va_rf, st1, st2, clr, isLg, CB, inx_0, inx_1, inx_2, inx_3, inx_4, inx_5, bI_0, bI_1, bI_ok, fin3, tyX7, entL, q0, okv, wr, finF, clT, TX7, xT, dX7_compare_0, dX7_compare_1, fT_7_35, dX7_compare_4, dX7_compare_7, dX7_compare_8, dX7_compare_9, fT_7_25, dX7_compare_12, dX7_compare_13, dX7_compare_16, dX7_compare_17, fT_7_22, dX7_compare_20, dX7_compare_21, fT_7_55, dX7_compare_24, dX7_compare_25, dX7_compare_26, dX7_compare_27, dX7_compare_30, dX7_compare_31, dX7_compare_32, dX7_compare_33, dX7_compare_34, dX7_compare_37, dX7_compare_38, dX7_compare_41, dX7_compare_42, dX7_compare_43, dX7_compare_44, dX7_compare_45, dX7_compare_46, dX7_compare_47, dX7_compare_48, fT_7_50, dX7_compare_51, dX7_compare_54, dX7_compare_55, fT_7_19, dX7_compare_58, dX7_compare_59, dX7_compare_60, dX7_compare_61, dX7_compare_62, dX7_compare_65, dX7_compare_66, dX7_compare_67, dX7_compare_68, dX7_compare_69, dX7_compare_70, dX7_compare_73, dX7_compare_74, dX7_compare_75, dX7_compare_76, dX7_compare_79, dX7_compare_80, dX7_compare_83, dX7_compare_84, dX7_compare_85, dX7_compare_86, dX7_compare_87, dX7_compare_88, dX7_compare_89, dX7_compare_90, dX7_compare_91, dX7_compare_92, dX7_compare_95, dX7_compare_96, dX7_compare_97, dX7_compare_98, dX7_compare_99, dX7_compare_100, dX7_compare_101, dX7_compare_102, dX7_compare_103, dX7_compare_104, dX7_compare_105, dX7_compare_108, dX7_compare_109, dX7_compare_110, dX7_compare_111, dX7_compare_112, dX7_compare_115, dX7_compare_118, dX7_compare_121, dX7_compare_124, dX7_compare_127, dX7_compare_128, dX7_compare_129, dX7_compare_132]
    simp only [li]
    exact hP _ _ ⟨rfl, mL4, rfl, z1, z2⟩
  have loop1 : ∀ i mL4 v2 v3 v4, i ≤ 2 ^ np - 1 → (∀ a k, a ≠ T + 4 → a ≠ T + 5 → mL4 a k = mL a k) → (∀ t, i ≤ t → t < 2 ^ np → mL4 (T + 4) t = lN (B t)) → (∀ o q, o < np → q < np → mL4 (T + 5) (10 * o + q) = lN (sfm (ahF V g B o q) i (2 ^ np - 1))) → G 33 [some (.ref T), some (.int (nI i - nI 1)), v2, v3, v4] [] (sh, mI, mL4, mR, n) := by
    intro i
    induction i with
    | zero =>
      intro mL4 v2 v3 v4 hi z1 z2 z3
      rw [show nI 0 - nI 1 = -nI 1 by decide +kernel]
      refine hG.run [37, 127] 40 ?_
      simp [wp, stepI, ln, jmp, cmpI, Value.category, rd, tyF, va_rf, st1, st2, clr, isLg, CB, inx_0, inx_1, inx_2, inx_3, inx_4, inx_5, bI_0, bI_1, bI_ok, fin3, tyX7, entL, q0, dX7_compare_0, dX7_compare_1, fT_7_35, dX7_compare_4, dX7_compare_7, dX7_compare_8, dX7_compare_9, fT_7_25, dX7_compare_12, dX7_compare_13, dX7_compare_16, dX7_compare_17, fT_7_22, dX7_compare_20, dX7_compare_21, fT_7_55, dX7_compare_24, dX7_compare_25, dX7_compare_26, dX7_compare_27, dX7_compare_30, dX7_compare_31, dX7_compare_32, dX7_compare_33, dX7_compare_34, dX7_compare_37, dX7_compare_38, dX7_compare_41, dX7_compare_42, dX7_compare_43, dX7_compare_44, dX7_compare_45, dX7_compare_46, dX7_compare_47, dX7_compare_48, fT_7_50, dX7_compare_51, dX7_compare_54, dX7_compare_55, fT_7_19, dX7_compare_58, dX7_compare_59, dX7_compare_60, dX7_compare_61, dX7_compare_62, dX7_compare_65, dX7_compare_66, dX7_compare_67, dX7_compare_68, dX7_compare_69, dX7_compare_70, dX7_compare_73, dX7_compare_74, dX7_compare_75, dX7_compare_76, dX7_compare_79, dX7_compare_80, dX7_compare_83, dX7_compare_84, dX7_compare_85, dX7_compare_86, dX7_compare_87, dX7_compare_88, dX7_compare_89, dX7_compare_90, dX7_compare_91, dX7_compare_92, dX7_compare_95, dX7_compare_96, dX7_compare_97, dX7_compare_98, dX7_compare_99, dX7_compare_100, dX7_compare_101, dX7_compare_102, dX7_compare_103, dX7_compare_104, dX7_compare_105, dX7_compare_108, dX7_compare_109, dX7_compare_110, dX7_compare_111, dX7_compare_112, dX7_compare_115, dX7_compare_118, dX7_compare_121, dX7_compare_124, dX7_compare_127, dX7_compare_128, dX7_compare_129, dX7_compare_132]
      simp (disch := omega) only [li, nI_add, nI_clamp, nI_ltI, nI_leI, nI_eq, inx_iff, a31, nI_1shl', nI_shr', div_bit, tb1, tb0, fa_or, fa_and, nI_not, pk_sub, nI_dec]
      exact ⟨fun _ => last mL4 _ _ _ _ z1 z3, fun z => absurd m10 (Int32.not_lt.mpr z)⟩
    | succ i ih =>
      intro mL4 v2 v3 v4 hi z1 z2 z3
      rw [pk_sub (by omega), Nat.add_sub_cancel]
      obtain ⟨v1, vl⟩ := hV i (by omega)
      have fz : lN (V i) = lN 0 ↔ V i = 0 := pk_lEQ (b := 0) vl (by decide)
      have hBi := hB.2 i (by omega)
      have g121 : ∀ mL5 v2 v3 v4, (∀ a k, a ≠ T + 4 → a ≠ T + 5 → mL5 a k = mL a k) → (∀ t, i ≤ t → t < 2 ^ np → mL5 (T + 4) t = lN (B t)) → (∀ o q, o < np → q < np → mL5 (T + 5) (10 * o + q) = lN (sfm (ahF V g B o q) i (2 ^ np - 1))) → G 121 [some (.ref T), some (.int (nI i)), v2, v3, v4] [] (sh, mI, mL5, mR, n) := fun mL5 v2 v3 v4 y1 y2 y3 => by
        have := ih mL5 v2 v3 v4 (by omega) y1 y2 y3
        refine hG.run [33] 40 ?_
        simp [wp, stepI, ln, jmp, cmpI, Value.category, rd, tyF, va_rf, st1, st2, clr, isLg, CB, inx_0, inx_1, inx_2, inx_3, inx_4, inx_5, bI_0, bI_1, bI_ok, fin3, tyX7, entL, q0, dX7_compare_0, dX7_compare_1, fT_7_35, dX7_compare_4, dX7_compare_7, dX7_compare_8, dX7_compare_9, fT_7_25, dX7_compare_12, dX7_compare_13, dX7_compare_16, dX7_compare_17, fT_7_22, dX7_compare_20, dX7_compare_21, fT_7_55, dX7_compare_24, dX7_compare_25, dX7_compare_26, dX7_compare_27, dX7_compare_30, dX7_compare_31, dX7_compare_32, dX7_compare_33, dX7_compare_34, dX7_compare_37, dX7_compare_38, dX7_compare_41, dX7_compare_42, dX7_compare_43, dX7_compare_44, dX7_compare_45, dX7_compare_46, dX7_compare_47, dX7_compare_48, fT_7_50, dX7_compare_51, dX7_compare_54, dX7_compare_55, fT_7_19, dX7_compare_58, dX7_compare_59, dX7_compare_60, dX7_compare_61, dX7_compare_62, dX7_compare_65, dX7_compare_66, dX7_compare_67, dX7_compare_68, dX7_compare_69, dX7_compare_70, dX7_compare_73, dX7_compare_74, dX7_compare_75, dX7_compare_76, dX7_compare_79, dX7_compare_80, dX7_compare_83, dX7_compare_84, dX7_compare_85, dX7_compare_86, dX7_compare_87, dX7_compare_88, dX7_compare_89, dX7_compare_90, dX7_compare_91, dX7_compare_92, dX7_compare_95, dX7_compare_96, dX7_compare_97, dX7_compare_98, dX7_compare_99, dX7_compare_100, dX7_compare_101, dX7_compare_102, dX7_compare_103, dX7_compare_104, dX7_compare_105, dX7_compare_108, dX7_compare_109, dX7_compare_110, dX7_compare_111, dX7_compare_112, dX7_compare_115, dX7_compare_118, dX7_compare_121, dX7_compare_124, dX7_compare_127, dX7_compare_128, dX7_compare_129, dX7_compare_132]
        simp only [li, nI_dec]
        exact this
      clear ih
      have loop2 : ∀ f j mL5 v3 v4, np - j < f → j ≤ np → (∀ a k, a ≠ T + 4 → a ≠ T + 5 → mL5 a k = mL a k) → (∀ t, i < t → t < 2 ^ np → mL5 (T + 4) t = lN (B t)) → mL5 (T + 4) i = lN (fb_sm (fun p => if i.testBit p then 0 else g p i * B (i ||| 2 ^ p)) j) → (j = 0 ∨ V i ≠ 0) → (∀ o q, o < np → q < np → mL5 (T + 5) (10 * o + q) = lN ((if q < j then ahF V g B o q i else 0) + sfm (ahF V g B o q) (i + 1) (2 ^ np - 1))) → G 46 [some (.ref T), some (.int (nI i)), some (.int (nI j)), v3, v4] [] (sh, mI, mL5, mR, n) := by
        intro f
        induction f with
        | zero => intro j mL5 v3 v4 h; omega
        | succ f ih =>
          intro j mL5 v3 v4 hf hj y1 y2 y3 y4 y5
          have fi0 : mL5 (T + 3) i = lN (V i) := (y1 _ _ (by omega) (by omega)).trans v1
          have g115 : j < np → ∀ mL6 v3 v4, (∀ a k, a ≠ T + 4 → a ≠ T + 5 → mL6 a k = mL a k) → (∀ t, i < t → t < 2 ^ np → mL6 (T + 4) t = lN (B t)) → mL6 (T + 4) i = lN (fb_sm (fun p => if i.testBit p then 0 else g p i * B (i ||| 2 ^ p)) (j + 1)) → V i ≠ 0 → (∀ o q, o < np → q < np → mL6 (T + 5) (10 * o + q) = lN ((if q < j + 1 then ahF V g B o q i else 0) + sfm (ahF V g B o q) (i + 1) (2 ^ np - 1))) → G 115 [some (.ref T), some (.int (nI i)), some (.int (nI j)), v3, v4] [] (sh, mI, mL6, mR, n) := fun hjn mL6 v3 v4 w1 w2 w3 w4 w5 => by
            refine hG.run [46] 40 ?_
            simp [wp, stepI, ln, jmp, cmpI, Value.category, rd, tyF, va_rf, st1, st2, clr, isLg, CB, inx_0, inx_1, inx_2, inx_3, inx_4, inx_5, bI_0, bI_1, bI_ok, fin3, tyX7, entL, q0, dX7_compare_0, dX7_compare_1, fT_7_35, dX7_compare_4, dX7_compare_7, dX7_compare_8, dX7_compare_9, fT_7_25, dX7_compare_12, dX7_compare_13, dX7_compare_16, dX7_compare_17, fT_7_22, dX7_compare_20, dX7_compare_21, fT_7_55, dX7_compare_24, dX7_compare_25, dX7_compare_26, dX7_compare_27, dX7_compare_30, dX7_compare_31, dX7_compare_32, dX7_compare_33, dX7_compare_34, dX7_compare_37, dX7_compare_38, dX7_compare_41, dX7_compare_42, dX7_compare_43, dX7_compare_44, dX7_compare_45, dX7_compare_46, dX7_compare_47, dX7_compare_48, fT_7_50, dX7_compare_51, dX7_compare_54, dX7_compare_55, fT_7_19, dX7_compare_58, dX7_compare_59, dX7_compare_60, dX7_compare_61, dX7_compare_62, dX7_compare_65, dX7_compare_66, dX7_compare_67, dX7_compare_68, dX7_compare_69, dX7_compare_70, dX7_compare_73, dX7_compare_74, dX7_compare_75, dX7_compare_76, dX7_compare_79, dX7_compare_80, dX7_compare_83, dX7_compare_84, dX7_compare_85, dX7_compare_86, dX7_compare_87, dX7_compare_88, dX7_compare_89, dX7_compare_90, dX7_compare_91, dX7_compare_92, dX7_compare_95, dX7_compare_96, dX7_compare_97, dX7_compare_98, dX7_compare_99, dX7_compare_100, dX7_compare_101, dX7_compare_102, dX7_compare_103, dX7_compare_104, dX7_compare_105, dX7_compare_108, dX7_compare_109, dX7_compare_110, dX7_compare_111, dX7_compare_112, dX7_compare_115, dX7_compare_118, dX7_compare_121, dX7_compare_124, dX7_compare_127, dX7_compare_128, dX7_compare_129, dX7_compare_132]
            simp (disch := omega) only [li, nI_add, nI_clamp, nI_ltI, nI_leI, nI_eq, inx_iff, a31, nI_1shl', nI_shr', div_bit, tb1, tb0, fa_or, fa_and, nI_not, pk_sub, nI_dec]
            exact ih (j + 1) mL6 _ _ (by omega) (by omega) w1 w2 w3 (Or.inr w4) w5
          refine hG.run [46, 115, 121] 60 ?_
          simp [wp, stepI, ln, jmp, cmpI, Value.category, rd, tyF, va_rf, st1, st2, clr, isLg, CB, inx_0, inx_1, inx_2, inx_3, inx_4, inx_5, bI_0, bI_1, bI_ok, fin3, tyX7, entL, q0, q_front, lg_cmp0, dX7_compare_0, dX7_compare_1, fT_7_35, dX7_compare_4, dX7_compare_7, dX7_compare_8, dX7_compare_9, fT_7_25, dX7_compare_12, dX7_compare_13, dX7_compare_16, dX7_compare_17, fT_7_22, dX7_compare_20, dX7_compare_21, fT_7_55, dX7_compare_24, dX7_compare_25, dX7_compare_26, dX7_compare_27, dX7_compare_30, dX7_compare_31, dX7_compare_32, dX7_compare_33, dX7_compare_34, dX7_compare_37, dX7_compare_38, dX7_compare_41, dX7_compare_42, dX7_compare_43, dX7_compare_44, dX7_compare_45, dX7_compare_46, dX7_compare_47, dX7_compare_48, fT_7_50, dX7_compare_51, dX7_compare_54, dX7_compare_55, fT_7_19, dX7_compare_58, dX7_compare_59, dX7_compare_60, dX7_compare_61, dX7_compare_62, dX7_compare_65, dX7_compare_66, dX7_compare_67, dX7_compare_68, dX7_compare_69, dX7_compare_70, dX7_compare_73, dX7_compare_74, dX7_compare_75, dX7_compare_76, dX7_compare_79, dX7_compare_80, dX7_compare_83, dX7_compare_84, dX7_compare_85, dX7_compare_86, dX7_compare_87, dX7_compare_88, dX7_compare_89, dX7_compare_90, dX7_compare_91, dX7_compare_92, dX7_compare_95, dX7_compare_96, dX7_compare_97, dX7_compare_98, dX7_compare_99, dX7_compare_100, dX7_compare_101, dX7_compare_102, dX7_compare_103, dX7_compare_104, dX7_compare_105, dX7_compare_108, dX7_compare_109, dX7_compare_110, dX7_compare_111, dX7_compare_112, dX7_compare_115, dX7_compare_118, dX7_compare_121, dX7_compare_124, dX7_compare_127, dX7_compare_128, dX7_compare_129, dX7_compare_132]
          simp (disch := omega) only [li, nI_add, nI_clamp, nI_ltI, nI_leI, nI_eq, inx_iff, a31, nI_1shl', nI_shr', div_bit, tb1, tb0, fa_or, fa_and, nI_not, pk_sub, nI_dec, liL, e1, fi0, fz]
          refine ⟨fun h => g121 mL5 _ _ _ y1 (fun t h1 h2 => ?_) (fun o q ho hq => ?_), fun h => ⟨by omega, fun h0 => g121 mL5 _ _ _ y1 (fun t h1 h2 => ?_) (fun o q ho hq => ?_), fun h0 => ⟨fun hb => ?_, fun hb => ?_⟩⟩⟩
          · by_cases e : t = i
            · rw [e, y3, hBi, show j = np by omega]
              rcases y4 with y4 | y4
              · have h00 : np = 0 := by omega
                rw [h00] at hi
                simp at hi
              · rw [if_neg y4]
            · exact y2 t (by omega) h2
          · rw [y5 o q ho hq, if_pos (show q < j by omega), ← sfm_s (by omega)]
          · by_cases e : t = i
            · rcases y4 with y4 | y4
              · rw [e, y3, hBi, y4, if_pos h0]; rfl
              · exact absurd h0 y4
            · exact y2 t (by omega) h2
          · rw [y5 o q ho hq, sfm_s (show i < 2 ^ np - 1 by omega)]
            have : ahF V g B o q i = 0 := by unfold ahF; rw [h0, Nat.zero_mul]; split <;> rfl
            rw [this]
            split <;> rfl
          · refine g115 h mL5 _ _ y1 y2 ?_ h0 (fun o q ho hq => ?_)
            · rw [y3, fb_sm_succ, if_pos (by simpa using hb)]; rfl
            · rw [y5 o q ho hq]
              congr 2
              by_cases e : q = j
              · rw [if_neg (by omega), if_pos (by omega)]
                unfold ahF
                rw [if_neg (fun z => hb (by rw [← e]; exact z.1))]
              · by_cases e2 : q < j
                · rw [if_pos e2, if_pos (by omega)]
                · rw [if_neg e2, if_neg (by omega)]
          · have or2 := or_lt (np := np) (t := i) (p := j) (by omega) h
            have og := or_gt hb
            have q2 := p2_le10 (k := j) (by omega)
            have b1 := y2 (i ||| 2 ^ j) og or2
            refine hG.callV dX7_compare_76 mv_7_67 [.int (nI i), .int (nI j)] [] (c7_factorBehind l X (d - 1) sh mI mL5 mR n T hO np pa fx (hM0.kp rfl rfl (fun _ => rfl) (fun k => y1 _ _ (by omega) (by omega))) i j (by omega) h) ⟨_, rfl, rfl⟩ q0 (by omega) rfl (by decide) (by simp [Value.category]) rfl ?_
            rintro r M' ⟨rfl, rfl⟩
            rw [← hg]
            refine hG.run [112] 60 ?_
            simp [wp, stepI, ln, jmp, cmpI, Value.category, rd, tyF, va_rf, st1, st2, clr, isLg, CB, inx_0, inx_1, inx_2, inx_3, inx_4, inx_5, bI_0, bI_1, bI_ok, fin3, tyX7, entL, q0, q_front, q_back, x4, dX7_compare_0, dX7_compare_1, fT_7_35, dX7_compare_4, dX7_compare_7, dX7_compare_8, dX7_compare_9, fT_7_25, dX7_compare_12, dX7_compare_13, dX7_compare_16, dX7_compare_17, fT_7_22, dX7_compare_20, dX7_compare_21, fT_7_55, dX7_compare_24, dX7_compare_25, dX7_compare_26, dX7_compare_27, dX7_compare_30, dX7_compare_31, dX7_compare_32, dX7_compare_33, dX7_compare_34, dX7_compare_37, dX7_compare_38, dX7_compare_41, dX7_compare_42, dX7_compare_43, dX7_compare_44, dX7_compare_45, dX7_compare_46, dX7_compare_47, dX7_compare_48, fT_7_50, dX7_compare_51, dX7_compare_54, dX7_compare_55, fT_7_19, dX7_compare_58, dX7_compare_59, dX7_compare_60, dX7_compare_61, dX7_compare_62, dX7_compare_65, dX7_compare_66, dX7_compare_67, dX7_compare_68, dX7_compare_69, dX7_compare_70, dX7_compare_73, dX7_compare_74, dX7_compare_75, dX7_compare_76, dX7_compare_79, dX7_compare_80, dX7_compare_83, dX7_compare_84, dX7_compare_85, dX7_compare_86, dX7_compare_87, dX7_compare_88, dX7_compare_89, dX7_compare_90, dX7_compare_91, dX7_compare_92, dX7_compare_95, dX7_compare_96, dX7_compare_97, dX7_compare_98, dX7_compare_99, dX7_compare_100, dX7_compare_101, dX7_compare_102, dX7_compare_103, dX7_compare_104, dX7_compare_105, dX7_compare_108, dX7_compare_109, dX7_compare_110, dX7_compare_111, dX7_compare_112, dX7_compare_115, dX7_compare_118, dX7_compare_121, dX7_compare_124, dX7_compare_127, dX7_compare_128, dX7_compare_129, dX7_compare_132]
            simp (disch := omega) only [li, nI_add, nI_clamp, nI_ltI, nI_leI, nI_eq, inx_iff, a31, nI_1shl', nI_shr', div_bit, tb1, tb0, fa_or, fa_and, nI_not, pk_sub, nI_dec, b1, lN_mul, y3, lN_add]
            refine ⟨by omega, by omega, ?_⟩
            rw [up2_ne (fun z => by omega), fi0, lN_mul]
            refine hG.callV dX7_compare_112 mv_7_71 [.int (nI i), .int (nI j), .long (lN (V i * (g j i * B (i ||| 2 ^ j))))] [] (c7_addAhead l X (d - 1) sh mI _ mR n T hO np e1 p2 i j (by omega) h _) ⟨_, rfl, rfl⟩ q0 (by omega) rfl (by decide) (by simp [Value.category]) rfl ?_
            rintro r M' ⟨rfl, mL6, rfl, w1, w2⟩
            refine g115 h mL6 _ _ (fun a k h4 h5 => ?_) (fun t h1 h2 => ?_) ?_ h0 (fun o q ho hq => ?_)
            · rw [w1 a k h5, up2_ne (fun z => h4 z.1)]; exact y1 a k h4 h5
            · rw [w1 _ _ (by omega), up2_ne (fun z => by omega)]; exact y2 t h1 h2
            · rw [w1 _ _ (by omega), up2_eq, fb_sm_succ, if_neg (by rw [hb]; decide)]
            · rw [w2 o q ho hq, up2_ne (fun z => by omega), y5 o q ho hq]
              by_cases e : q = j
              · rw [if_neg (show ¬ q < j by omega), if_pos (show q < j + 1 by omega), Nat.zero_add]
                by_cases e2 : i.testBit o = true
                · rw [if_pos ⟨e, e2⟩, lN_add, Nat.add_comm]
                  unfold ahF
                  rw [if_pos ⟨by rw [e]; exact hb, e2⟩, e]
                · rw [if_neg (fun z => e2 z.2)]
                  unfold ahF
                  rw [if_neg (fun z => e2 z.2), Nat.zero_add]
              · rw [if_neg (fun z => e z.1)]
                by_cases e2 : q < j
                · rw [if_pos e2, if_pos (show q < j + 1 by omega)]
                · rw [if_neg e2, if_neg (show ¬ q < j + 1 by omega)]
      refine hG.run [46] 40 ?_
      simp [wp, stepI, ln, jmp, cmpI, Value.category, rd, tyF, va_rf, st1, st2, clr, isLg, CB, inx_0, inx_1, inx_2, inx_3, inx_4, inx_5, bI_0, bI_1, bI_ok, fin3, tyX7, entL, q0, q_back, x4, dX7_compare_0, dX7_compare_1, fT_7_35, dX7_compare_4, dX7_compare_7, dX7_compare_8, dX7_compare_9, fT_7_25, dX7_compare_12, dX7_compare_13, dX7_compare_16, dX7_compare_17, fT_7_22, dX7_compare_20, dX7_compare_21, fT_7_55, dX7_compare_24, dX7_compare_25, dX7_compare_26, dX7_compare_27, dX7_compare_30, dX7_compare_31, dX7_compare_32, dX7_compare_33, dX7_compare_34, dX7_compare_37, dX7_compare_38, dX7_compare_41, dX7_compare_42, dX7_compare_43, dX7_compare_44, dX7_compare_45, dX7_compare_46, dX7_compare_47, dX7_compare_48, fT_7_50, dX7_compare_51, dX7_compare_54, dX7_compare_55, fT_7_19, dX7_compare_58, dX7_compare_59, dX7_compare_60, dX7_compare_61, dX7_compare_62, dX7_compare_65, dX7_compare_66, dX7_compare_67, dX7_compare_68, dX7_compare_69, dX7_compare_70, dX7_compare_73, dX7_compare_74, dX7_compare_75, dX7_compare_76, dX7_compare_79, dX7_compare_80, dX7_compare_83, dX7_compare_84, dX7_compare_85, dX7_compare_86, dX7_compare_87, dX7_compare_88, dX7_compare_89, dX7_compare_90, dX7_compare_91, dX7_compare_92, dX7_compare_95, dX7_compare_96, dX7_compare_97, dX7_compare_98, dX7_compare_99, dX7_compare_100, dX7_compare_101, dX7_compare_102, dX7_compare_103, dX7_compare_104, dX7_compare_105, dX7_compare_108, dX7_compare_109, dX7_compare_110, dX7_compare_111, dX7_compare_112, dX7_compare_115, dX7_compare_118, dX7_compare_121, dX7_compare_124, dX7_compare_127, dX7_compare_128, dX7_compare_129, dX7_compare_132]
      simp (disch := omega) only [li, nI_add, nI_clamp, nI_ltI, nI_leI, nI_eq, inx_iff, a31, nI_1shl', nI_shr', div_bit, tb1, tb0, fa_or, fa_and, nI_not, pk_sub, nI_dec, liL]
      refine ⟨fun z => by omega, fun _ => ⟨by omega, loop2 (np + 1) 0 _ _ _ (by omega) (by omega) (fun a k h4 h5 => by rw [up2_ne (fun z => h4 z.1)]; exact z1 a k h4 h5) (fun t h1 h2 => by rw [up2_ne (fun z => by omega)]; exact z2 t (by omega) h2) (by rw [up2_eq]; rfl) (Or.inl rfl) (fun o q ho hq => ?_)⟩⟩
      rw [up2_ne (fun z => by omega), if_neg (Nat.not_lt_zero _), Nat.zero_add]
      exact z3 o q ho hq
  have g8 : G 8 [some (.ref T), none, none, none, none] [] (sh, mI, mL, mR, n) := by
    refine hG.run [] 40 ?_
    simp [wp, stepI, ln, jmp, cmpI, Value.category, rd, tyF, va_rf, st1, st2, clr, isLg, CB, inx_0, inx_1, inx_2, inx_3, inx_4, inx_5, bI_0, bI_1, bI_ok, fin3, tyX7, entL, q0, q_ahead, dX7_compare_0, dX7_compare_1, fT_7_35, dX7_compare_4, dX7_compare_7, dX7_compare_8, dX7_compare_9, fT_7_25, dX7_compare_12, dX7_compare_13, dX7_compare_16, dX7_compare_17, fT_7_22, dX7_compare_20, dX7_compare_21, fT_7_55, dX7_compare_24, dX7_compare_25, dX7_compare_26, dX7_compare_27, dX7_compare_30, dX7_compare_31, dX7_compare_32, dX7_compare_33, dX7_compare_34, dX7_compare_37, dX7_compare_38, dX7_compare_41, dX7_compare_42, dX7_compare_43, dX7_compare_44, dX7_compare_45, dX7_compare_46, dX7_compare_47, dX7_compare_48, fT_7_50, dX7_compare_51, dX7_compare_54, dX7_compare_55, fT_7_19, dX7_compare_58, dX7_compare_59, dX7_compare_60, dX7_compare_61, dX7_compare_62, dX7_compare_65, dX7_compare_66, dX7_compare_67, dX7_compare_68, dX7_compare_69, dX7_compare_70, dX7_compare_73, dX7_compare_74, dX7_compare_75, dX7_compare_76, dX7_compare_79, dX7_compare_80, dX7_compare_83, dX7_compare_84, dX7_compare_85, dX7_compare_86, dX7_compare_87, dX7_compare_88, dX7_compare_89, dX7_compare_90, dX7_compare_91, dX7_compare_92, dX7_compare_95, dX7_compare_96, dX7_compare_97, dX7_compare_98, dX7_compare_99, dX7_compare_100, dX7_compare_101, dX7_compare_102, dX7_compare_103, dX7_compare_104, dX7_compare_105, dX7_compare_108, dX7_compare_109, dX7_compare_110, dX7_compare_111, dX7_compare_112, dX7_compare_115, dX7_compare_118, dX7_compare_121, dX7_compare_124, dX7_compare_127, dX7_compare_128, dX7_compare_129, dX7_compare_132]
    refine hG.callS dX7_compare_13 ms_7_61 [.ref (T + 5), .long 0] [] (cJ_fillL l X (d - 1) sh mI mL mR n (T + 5) 100 q_ahead.2 x5 (by decide) 0) (by omega) rfl (by decide) (by simp [Value.category]) rfl ?_
    rintro r M' ⟨rfl, rfl⟩
    refine hG.run [33] 40 ?_
    simp [wp, stepI, ln, jmp, cmpI, Value.category, rd, tyF, va_rf, st1, st2, clr, isLg, CB, inx_0, inx_1, inx_2, inx_3, inx_4, inx_5, bI_0, bI_1, bI_ok, fin3, tyX7, entL, q0, q_back, x4, dX7_compare_0, dX7_compare_1, fT_7_35, dX7_compare_4, dX7_compare_7, dX7_compare_8, dX7_compare_9, fT_7_25, dX7_compare_12, dX7_compare_13, dX7_compare_16, dX7_compare_17, fT_7_22, dX7_compare_20, dX7_compare_21, fT_7_55, dX7_compare_24, dX7_compare_25, dX7_compare_26, dX7_compare_27, dX7_compare_30, dX7_compare_31, dX7_compare_32, dX7_compare_33, dX7_compare_34, dX7_compare_37, dX7_compare_38, dX7_compare_41, dX7_compare_42, dX7_compare_43, dX7_compare_44, dX7_compare_45, dX7_compare_46, dX7_compare_47, dX7_compare_48, fT_7_50, dX7_compare_51, dX7_compare_54, dX7_compare_55, fT_7_19, dX7_compare_58, dX7_compare_59, dX7_compare_60, dX7_compare_61, dX7_compare_62, dX7_compare_65, dX7_compare_66, dX7_compare_67, dX7_compare_68, dX7_compare_69, dX7_compare_70, dX7_compare_73, dX7_compare_74, dX7_compare_75, dX7_compare_76, dX7_compare_79, dX7_compare_80, dX7_compare_83, dX7_compare_84, dX7_compare_85, dX7_compare_86, dX7_compare_87, dX7_compare_88, dX7_compare_89, dX7_compare_90, dX7_compare_91, dX7_compare_92, dX7_compare_95, dX7_compare_96, dX7_compare_97, dX7_compare_98, dX7_compare_99, dX7_compare_100, dX7_compare_101, dX7_compare_102, dX7_compare_103, dX7_compare_104, dX7_compare_105, dX7_compare_108, dX7_compare_109, dX7_compare_110, dX7_compare_111, dX7_compare_112, dX7_compare_115, dX7_compare_118, dX7_compare_121, dX7_compare_124, dX7_compare_127, dX7_compare_128, dX7_compare_129, dX7_compare_132]
    simp (disch := omega) only [li, nI_add, nI_clamp, nI_ltI, nI_leI, nI_eq, inx_iff, a31, nI_1shl', nI_shr', div_bit, tb1, tb0, fa_or, fa_and, nI_not, pk_sub, nI_dec, e2]
    refine ⟨by omega, ?_⟩
    have := loop1 (2 ^ np - 1) (up2 (flL mL (T + 5) 100 0) (T + 4) (2 ^ np - 1) 1) none none none (Nat.le_refl _) (fun a k h4 h5 => by rw [up2_ne (fun z => h4 z.1), flL_ne h5]) (fun t h1 h2 => by rw [show t = 2 ^ np - 1 by omega, up2_eq, hB.1]; rfl) (fun o q ho hq => by rw [up2_ne (fun z => by omega), flL_in (by omega), sfm_0]; rfl)
    exact this
  refine hG.run [8] 40 ?_
  simp [wp, stepI, ln, jmp, cmpI, Value.category, rd, tyF, va_rf, st1, st2, clr, isLg, CB, inx_0, inx_1, inx_2, inx_3, inx_4, inx_5, bI_0, bI_1, bI_ok, fin3, tyX7, entL, q0, dX7_compare_0, dX7_compare_1, fT_7_35, dX7_compare_4, dX7_compare_7, dX7_compare_8, dX7_compare_9, fT_7_25, dX7_compare_12, dX7_compare_13, dX7_compare_16, dX7_compare_17, fT_7_22, dX7_compare_20, dX7_compare_21, fT_7_55, dX7_compare_24, dX7_compare_25, dX7_compare_26, dX7_compare_27, dX7_compare_30, dX7_compare_31, dX7_compare_32, dX7_compare_33, dX7_compare_34, dX7_compare_37, dX7_compare_38, dX7_compare_41, dX7_compare_42, dX7_compare_43, dX7_compare_44, dX7_compare_45, dX7_compare_46, dX7_compare_47, dX7_compare_48, fT_7_50, dX7_compare_51, dX7_compare_54, dX7_compare_55, fT_7_19, dX7_compare_58, dX7_compare_59, dX7_compare_60, dX7_compare_61, dX7_compare_62, dX7_compare_65, dX7_compare_66, dX7_compare_67, dX7_compare_68, dX7_compare_69, dX7_compare_70, dX7_compare_73, dX7_compare_74, dX7_compare_75, dX7_compare_76, dX7_compare_79, dX7_compare_80, dX7_compare_83, dX7_compare_84, dX7_compare_85, dX7_compare_86, dX7_compare_87, dX7_compare_88, dX7_compare_89, dX7_compare_90, dX7_compare_91, dX7_compare_92, dX7_compare_95, dX7_compare_96, dX7_compare_97, dX7_compare_98, dX7_compare_99, dX7_compare_100, dX7_compare_101, dX7_compare_102, dX7_compare_103, dX7_compare_104, dX7_compare_105, dX7_compare_108, dX7_compare_109, dX7_compare_110, dX7_compare_111, dX7_compare_112, dX7_compare_115, dX7_compare_118, dX7_compare_121, dX7_compare_124, dX7_compare_127, dX7_compare_128, dX7_compare_129, dX7_compare_132]
  simp (disch := omega) only [li, nI_add, nI_clamp, nI_ltI, nI_leI, nI_eq, inx_iff, a31, nI_1shl', nI_shr', div_bit, tb1, tb0, fa_or, fa_and, nI_not, pk_sub, nI_dec, hnc]
  exact ⟨fun _ => g8, fun z => absurd trivial z⟩
