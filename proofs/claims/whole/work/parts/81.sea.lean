/-! a sheet behind copyFrom -/
theorem cp0_in {mI : Nat → Nat → Int32} {a0 a n k : Nat} (h : k < n) : cpM mI a0 a 0 0 n a k = mI a0 k := by
  unfold cpM
  rw [if_pos ⟨rfl, Nat.zero_le _, by omega⟩]
  congr 1
  omega
theorem cp0_ne {mI : Nat → Nat → Int32} {a0 a n b k : Nat} (h : b ≠ a) : cpM mI a0 a 0 0 n b k = mI b k := by
  unfold cpM
  rw [if_neg (fun z => h z.1)]
theorem cpS_o {mI : Nat → Nat → Int32} {S T b k : Nat} (h0 : ¬ (b = S ∧ k = 4)) (h1 : b ≠ S + 7) (h2 : b ≠ S + 8) (h3 : b ≠ S + 9) (h4 : b ≠ S + 10) (h5 : b ≠ S + 11) : cpS mI S T b k = mI b k := by
  unfold cpS
  rw [cp0_ne h5, cp0_ne h4, cp0_ne h3, cp0_ne h2, cp0_ne h1, up2_ne h0]
theorem cpS_sh {mI : Nat → Nat → Int32} {S T : Nat} (hne : S + 11 < T ∨ T + 11 < S) {c : Nat} {fi se ma : Nat → Nat} (h : ShS mI T c fi se ma) : ShS (cpS mI S T) S c fi se ma := by
  refine ⟨?_, h.2.1, fun k hk => ?_⟩
  · unfold cpS
    rw [cp0_ne (by omega), cp0_ne (by omega), cp0_ne (by omega), cp0_ne (by omega), cp0_ne (by omega), up2_eq]
    exact h.1
  · obtain ⟨a1, a2, a3, a4⟩ := h.2.2 k hk
    have hc := h.2.1
    refine ⟨?_, ?_, ?_, a4⟩
    · unfold cpS
      rw [cp0_ne (by omega), cp0_ne (by omega), cp0_ne (by omega), cp0_ne (by omega), cp0_in (by omega), up2_ne (by omega)]
      exact a1
    · unfold cpS
      rw [cp0_ne (by omega), cp0_ne (by omega), cp0_ne (by omega), cp0_in (by omega), cp0_ne (by omega), up2_ne (by omega)]
      exact a2
    · unfold cpS
      rw [cp0_ne (by omega), cp0_ne (by omega), cp0_in (by omega), cp0_ne (by omega), cp0_ne (by omega), up2_ne (by omega)]
      exact a3
theorem cpS_seat {mI : Nat → Nat → Int32} {S T : Nat} (hne : S + 11 < T ∨ T + 11 < S) {k : Nat} (hk : k < 10) : cpS mI S T (S + 10) k = mI (T + 10) k ∧ cpS mI S T (S + 11) k = mI (T + 11) k := by
  constructor
  · unfold cpS
    rw [cp0_ne (by omega), cp0_in (by omega), cp0_ne (by omega), cp0_ne (by omega), cp0_ne (by omega), up2_ne (by omega)]
  · unfold cpS
    rw [cp0_in (by omega), cp0_ne (by omega), cp0_ne (by omega), cp0_ne (by omega), cp0_ne (by omega), up2_ne (by omega)]
theorem OL.mR {sh : Nat → Option Sh} {mR mR' : Nat → Nat → Option Nat} {S c : Nat} {tb : List (Nat × Nat × FieldType × Nat)} (h : OL sh mR S c tb) (he : ∀ x ∈ tb, mR' S x.1 = mR S x.1) : OL sh mR' S c tb := ⟨h.1, h.2.1, fun x hx => ⟨(he x hx).trans (h.2.2 x hx).1, (h.2.2 x hx).2⟩⟩
theorem OL.up {sh : Nat → Option Sh} {mR : Nat → Nat → Option Nat} {S c T k : Nat} {v : Option Nat} {tb : List (Nat × Nat × FieldType × Nat)} (h : OL sh mR S c tb) (hk : S ≠ T ∨ ∀ x ∈ tb, x.1 ≠ k) : OL sh (up2 mR T k v) S c tb := h.mR (fun x hx => up2_ne (fun z => by
  rcases hk with y | y
  · exact y z.1
  · exact y x hx z.2))
/-! the Season at cell Y -/
def ob5 : List (Nat × Nat × FieldType × Nat) := [(2, 17, .int, 10)]
def SnL (sh : Nat → Option Sh) (mR : Nat → Nat → Option Nat) (Y : Nat) : Prop := OL sh mR Y 5 ob5 ∧ mR Y 0 = some (Y + 1) ∧ mR Y 1 = some (Y + 13) ∧ OL sh mR (Y + 1) 6 ob6 ∧ OL sh mR (Y + 13) 2 ob2
theorem SnL.up {sh : Nat → Option Sh} {mR : Nat → Nat → Option Nat} {Y : Nat} {v : Option Nat} (h : SnL sh mR Y) : SnL sh (up2 mR (Y + 1) 0 v) Y := ⟨h.1.up (Or.inl (by omega)), (up2_ne (by omega)).trans h.2.1, (up2_ne (by omega)).trans h.2.2.1, h.2.2.2.1.up (Or.inr (by decide)), h.2.2.2.2.up (Or.inl (by omega))⟩
set_option maxHeartbeats 4000000 in
set_option maxRecDepth 100000 in
theorem c5_draw (l : Launch) (X : Cx) (d : Nat) (sh : Nat → Option Sh) (mI : Nat → Nat → Int32) (mL : Nat → Nat → Int64) (mR : Nat → Nat → Option Nat) (n : Nat) (Y : Nat) (hO : OL sh mR Y 5 ob5) (g : Nat) (hg : mL Y 3 = lN g) (hgl : g < 2147483648) (m : Nat) (hm : 0 < m) (hm2 : m ≤ 10) : Cn l X yX5_draw cX5_draw 2 (some .int) d [.ref Y, .int (nI m)] (sh, mI, mL, mR, n) (fun r M' => r = some (.int (nI (drw g / 65536 % m))) ∧ ∃ mL', M' = (sh, mI, mL', mR, n) ∧ mL' Y 3 = lN (drw g) ∧ ∀ a k, ¬ (a = Y ∧ k = 3) → mL' a k = mL a k) 0 0 := by
  refine Cn.run 5 false (by decide) rfl (by decide) (by simp [entA, Value.category]) ?_
  intro P G hP hG
  have q0 := hO.1
  have hSl := hO.2.1
  have xY : Y < 1000000000 := by omega
  have hd := drw_lt g
  have m0 : ¬ nI m ≤ nI 0 := fun z => by
    have := (nI_leI (by omega) (by omega)).mp z
    omega
  refine hG.run [] 40 ?_
  simp [wp, stepI, ln, jmp, cmpI, Value.category, rd, tyF, va_rf, st1, st2, clr, isLg, CB, inx_0, inx_1, inx_2, inx_3, inx_4, inx_5, bI_0, bI_1, bI_ok, fin3, tyX5, entL, q0, okv, wr, finF, clT, TX5, hg, xY, dX5_draw_0, dX5_draw_1, dX5_draw_2, fT_5_43, dX5_draw_5, cL_5_69, dX5_draw_8, dX5_draw_9, cL_5_71, dX5_draw_12, dX5_draw_13, cL_5_73, dX5_draw_16, dX5_draw_17, dX5_draw_20, dX5_draw_21, dX5_draw_24, dX5_draw_25, dX5_draw_28, cL_5_75, dX5_draw_31, dX5_draw_32, dX5_draw_33, dX5_draw_34, dX5_draw_35, dX5_draw_36, dX5_draw_39, dX5_draw_40]
  simp (disch := omega) only [li, nI_add, nI_clamp, nI_ltI, nI_leI, nI_eq, inx_iff, a31, nI_1shl', nI_shr', div_bit, tb1, tb0, fa_or, fa_and, nI_not, pk_sub, nI_dec, liL, lN_mul, lN_add, nI_l, pk_lRem, pk_lDiv, up2_eq, pk_lEQ, lN_i]
  have x1 : lN (g * 1103515245 + 12345) - lN ((g * 1103515245 + 12345) / 2147483648 * 2147483648) = lN (drw g) := by
    rw [lN_sub (by omega)]
    unfold drw
    congr 1
    omega
  rw [x1]
  simp (disch := omega) only [pk_lDiv, lN_i, nI_mul]
  have x2 := Nat.div_add_mod' (drw g / 65536) m
  refine ⟨fun z => by omega, fun _ => ?_⟩
  rw [pk_sub (Nat.div_mul_le_self _ _), show drw g / 65536 - drw g / 65536 / m * m = drw g / 65536 % m by omega]
  exact ⟨by omega, hP _ _ ⟨rfl, _, rfl, up2_eq _ _ _ _, fun a k h => up2_ne h⟩⟩
set_option maxHeartbeats 4000000 in
set_option maxRecDepth 100000 in
theorem c5_passDays (l : Launch) (X : Cx) (d : Nat) (sh : Nat → Option Sh) (mI : Nat → Nat → Int32) (mL : Nat → Nat → Int64) (mR : Nat → Nat → Option Nat) (n : Nat) (Y C : Nat) (hY : SnL sh mR Y) (hsc : mR (Y + 1) 0 = some C) (hC : OL sh mR C 4 ob4) (d2 : Y + 17 < C ∨ C + 5 < Y) (np : Nat) (hp : ScP mI C np) (hnp2 : 2 ≤ np) (sl : Nat) (hsl : mI C 6 = nI sl) (hsl3 : sl ≤ 3) (pl : Nat → Nat) (hpl : ∀ p, p < np → mI (Y + 17) p = nI (pl p) ∧ pl p < 10) (s : SG) (hS : ShS mI (Y + 1) s.1.1 s.1.2.1 s.1.2.2.1 s.1.2.2.2) (hg : mL Y 3 = lN s.2) (hgl : s.2 < 2147483648) (D : Nat) (hD : D ≤ 100) (hd : 2 ≤ d) : Cn l X yX5_passDays cX5_passDays 8 none d [.ref Y, .int (nI D)] (sh, mI, mL, mR, n) (fun r M' => r = none ∧ ∃ mI' mL', M' = (sh, mI', mL', mR, n) ∧ (∀ a k, a ≠ Y + 8 → a ≠ Y + 9 → a ≠ Y + 10 → a ≠ Y + 1 → mI' a k = mI a k) ∧ (∀ a k, ¬ (a = Y ∧ k = 3) → mL' a k = mL a k) ∧ ShS mI' (Y + 1) (dys np sl pl s D).1.1 (dys np sl pl s D).1.2.1 (dys np sl pl s D).1.2.2.1 (dys np sl pl s D).1.2.2.2 ∧ mL' Y 3 = lN (dys np sl pl s D).2 ∧ (dys np sl pl s D).2 < 2147483648) 0 0 := by
  obtain ⟨hO, hr0, hr1, hT, hQ⟩ := hY
  refine Cn.run 5 false (by decide) rfl (by decide) (by simp [entA, Value.category]) ?_
  intro P G hP hG
  have q0 := hO.1
  have q_place := hO.2.2 (2, 17, .int, 10) (by decide)
  dsimp only at q_place
  have hSl := hO.2.1
  have t0 := hT.1
  have u0 := hC.1
  obtain ⟨p1, p2⟩ := hp
  have loop : ∀ f i mI1 mL1 v4 v5 v6 v7, D - i < f → i ≤ D → (∀ a k, a ≠ Y + 8 → a ≠ Y + 9 → a ≠ Y + 10 → a ≠ Y + 1 → mI1 a k = mI a k) → (∀ a k, ¬ (a = Y ∧ k = 3) → mL1 a k = mL a k) → ShS mI1 (Y + 1) (dys np sl pl s i).1.1 (dys np sl pl s i).1.2.1 (dys np sl pl s i).1.2.2.1 (dys np sl pl s i).1.2.2.2 → mL1 Y 3 = lN (dys np sl pl s i).2 → (dys np sl pl s i).2 < 2147483648 → G 13 [some (.ref Y), some (.int (nI D)), some (.int (nI np)), some (.int (nI i)), v4, v5, v6, v7] [] (sh, mI1, mL1, mR, n) := by
    intro f
    induction f with
    | zero => intro i mI1 mL1 v4 v5 v6 v7 h; omega
    | succ f ih =>
      intro i mI1 mL1 v4 v5 v6 v7 hf hi g1 g2 g3 g4 g5
      have nx := ih (i + 1)
      rw [dys_s] at nx
      clear ih
      generalize hst : dys np sl pl s i = st at nx g3 g4 g5
      refine hG.run [] 60 ?_
      simp [wp, stepI, ln, jmp, cmpI, Value.category, rd, tyF, va_rf, st1, st2, clr, isLg, CB, inx_0, inx_1, inx_2, inx_3, inx_4, inx_5, bI_0, bI_1, bI_ok, fin3, tyX5, entL, q0, dX5_passDays_0, dX5_passDays_1, fT_5_12, dX5_passDays_4, fT_5_33, dX5_passDays_7, fT_5_37, dX5_passDays_10, dX5_passDays_11, dX5_passDays_12, dX5_passDays_13, dX5_passDays_14, dX5_passDays_15, dX5_passDays_18, dX5_passDays_19, dX5_passDays_20, dX5_passDays_23, dX5_passDays_25, dX5_passDays_26, dX5_passDays_27, dX5_passDays_28, dX5_passDays_29, dX5_passDays_32, dX5_passDays_34, dX5_passDays_36, dX5_passDays_38, dX5_passDays_41, dX5_passDays_44, dX5_passDays_45, dX5_passDays_47, dX5_passDays_50, dX5_passDays_51, dX5_passDays_54, dX5_passDays_57, fT_5_62, dX5_passDays_60, dX5_passDays_63, dX5_passDays_64, dX5_passDays_67, dX5_passDays_68, dX5_passDays_70, dX5_passDays_71, fT_5_25, dX5_passDays_74, dX5_passDays_76, dX5_passDays_77, dX5_passDays_78, dX5_passDays_81, dX5_passDays_83, dX5_passDays_84, dX5_passDays_87, dX5_passDays_88, dX5_passDays_91, dX5_passDays_92, dX5_passDays_94, dX5_passDays_97, dX5_passDays_98, dX5_passDays_101, dX5_passDays_102, dX5_passDays_104, dX5_passDays_105, dX5_passDays_108, dX5_passDays_110, dX5_passDays_113, dX5_passDays_115, dX5_passDays_118, dX5_passDays_120, dX5_passDays_122, dX5_passDays_125, dX5_passDays_127, dX5_passDays_130, dX5_passDays_132, dX5_passDays_133, dX5_passDays_136, dX5_passDays_139, dX5_passDays_142]
      simp (disch := omega) only [li, nI_add, nI_clamp, nI_ltI, nI_leI, nI_eq, inx_iff, a31, nI_1shl', nI_shr', div_bit, tb1, tb0, fa_or, fa_and, nI_not, pk_sub, nI_dec]
      refine ⟨fun z => hP _ _ ⟨rfl, mI1, mL1, rfl, g1, g2, ?_⟩, fun z => ?_⟩
      · rw [← show i = D by omega, hst]; exact ⟨g3, g4, g5⟩
      refine hG.callV dX5_passDays_20 mv_5_58 [.int (nI np)] [] (c5_draw l X (d - 1) sh mI1 mL1 mR n Y hO st.2 g4 g5 np (by omega) p2) ⟨_, rfl, rfl⟩ q0 (by omega) rfl (by decide) (by simp [Value.category]) rfl ?_
      rintro r M' ⟨rfl, mL2, rfl, h2, h3⟩
      have hA := dA_lt (np := np) (g := st.2) (by omega)
      have hB := dB_lt (np := np) (g := st.2) (by omega)
      rw [show drw st.2 / 65536 % np = dA np st.2 from rfl]
      refine hG.run [] 60 ?_
      simp [wp, stepI, ln, jmp, cmpI, Value.category, rd, tyF, va_rf, st1, st2, clr, isLg, CB, inx_0, inx_1, inx_2, inx_3, inx_4, inx_5, bI_0, bI_1, bI_ok, fin3, tyX5, entL, q0, dX5_passDays_0, dX5_passDays_1, fT_5_12, dX5_passDays_4, fT_5_33, dX5_passDays_7, fT_5_37, dX5_passDays_10, dX5_passDays_11, dX5_passDays_12, dX5_passDays_13, dX5_passDays_14, dX5_passDays_15, dX5_passDays_18, dX5_passDays_19, dX5_passDays_20, dX5_passDays_23, dX5_passDays_25, dX5_passDays_26, dX5_passDays_27, dX5_passDays_28, dX5_passDays_29, dX5_passDays_32, dX5_passDays_34, dX5_passDays_36, dX5_passDays_38, dX5_passDays_41, dX5_passDays_44, dX5_passDays_45, dX5_passDays_47, dX5_passDays_50, dX5_passDays_51, dX5_passDays_54, dX5_passDays_57, fT_5_62, dX5_passDays_60, dX5_passDays_63, dX5_passDays_64, dX5_passDays_67, dX5_passDays_68, dX5_passDays_70, dX5_passDays_71, fT_5_25, dX5_passDays_74, dX5_passDays_76, dX5_passDays_77, dX5_passDays_78, dX5_passDays_81, dX5_passDays_83, dX5_passDays_84, dX5_passDays_87, dX5_passDays_88, dX5_passDays_91, dX5_passDays_92, dX5_passDays_94, dX5_passDays_97, dX5_passDays_98, dX5_passDays_101, dX5_passDays_102, dX5_passDays_104, dX5_passDays_105, dX5_passDays_108, dX5_passDays_110, dX5_passDays_113, dX5_passDays_115, dX5_passDays_118, dX5_passDays_120, dX5_passDays_122, dX5_passDays_125, dX5_passDays_127, dX5_passDays_130, dX5_passDays_132, dX5_passDays_133, dX5_passDays_136, dX5_passDays_139, dX5_passDays_142]
      simp (disch := omega) only [li, nI_add, nI_clamp, nI_ltI, nI_leI, nI_eq, inx_iff, a31, nI_1shl', nI_shr', div_bit, tb1, tb0, fa_or, fa_and, nI_not, pk_sub, nI_dec]
      refine hG.callV dX5_passDays_29 mv_5_58 [.int (nI (np - 1))] [] (c5_draw l X (d - 1) sh mI1 mL2 mR n Y hO (drw st.2) h2 (drw_lt _) (np - 1) (by omega) (by omega)) ⟨_, rfl, rfl⟩ q0 (by omega) rfl (by decide) (by simp [Value.category]) rfl ?_
      rintro r M' ⟨rfl, mL3, rfl, h4, h5⟩
      have hm : drw (drw st.2) / 65536 % (np - 1) < np - 1 := Nat.mod_lt _ (by omega)
      have g44 : G 44 [some (.ref Y), some (.int (nI D)), some (.int (nI np)), some (.int (nI i)), some (.int (nI (dA np st.2))), some (.int (nI (dB np st.2))), v6, v7] [] (sh, mI1, mL3, mR, n) := by
        refine hG.run [] 60 ?_
        simp [wp, stepI, ln, jmp, cmpI, Value.category, rd, tyF, va_rf, st1, st2, clr, isLg, CB, inx_0, inx_1, inx_2, inx_3, inx_4, inx_5, bI_0, bI_1, bI_ok, fin3, tyX5, entL, q0, dX5_passDays_0, dX5_passDays_1, fT_5_12, dX5_passDays_4, fT_5_33, dX5_passDays_7, fT_5_37, dX5_passDays_10, dX5_passDays_11, dX5_passDays_12, dX5_passDays_13, dX5_passDays_14, dX5_passDays_15, dX5_passDays_18, dX5_passDays_19, dX5_passDays_20, dX5_passDays_23, dX5_passDays_25, dX5_passDays_26, dX5_passDays_27, dX5_passDays_28, dX5_passDays_29, dX5_passDays_32, dX5_passDays_34, dX5_passDays_36, dX5_passDays_38, dX5_passDays_41, dX5_passDays_44, dX5_passDays_45, dX5_passDays_47, dX5_passDays_50, dX5_passDays_51, dX5_passDays_54, dX5_passDays_57, fT_5_62, dX5_passDays_60, dX5_passDays_63, dX5_passDays_64, dX5_passDays_67, dX5_passDays_68, dX5_passDays_70, dX5_passDays_71, fT_5_25, dX5_passDays_74, dX5_passDays_76, dX5_passDays_77, dX5_passDays_78, dX5_passDays_81, dX5_passDays_83, dX5_passDays_84, dX5_passDays_87, dX5_passDays_88, dX5_passDays_91, dX5_passDays_92, dX5_passDays_94, dX5_passDays_97, dX5_passDays_98, dX5_passDays_101, dX5_passDays_102, dX5_passDays_104, dX5_passDays_105, dX5_passDays_108, dX5_passDays_110, dX5_passDays_113, dX5_passDays_115, dX5_passDays_118, dX5_passDays_120, dX5_passDays_122, dX5_passDays_125, dX5_passDays_127, dX5_passDays_130, dX5_passDays_132, dX5_passDays_133, dX5_passDays_136, dX5_passDays_139, dX5_passDays_142]
        simp (disch := omega) only [li, nI_add, nI_clamp, nI_ltI, nI_leI, nI_eq, inx_iff, a31, nI_1shl', nI_shr', div_bit, tb1, tb0, fa_or, fa_and, nI_not, pk_sub, nI_dec]
        refine hG.callV dX5_passDays_47 mv_5_58 [.int (nI 8)] [] (c5_draw l X (d - 1) sh mI1 mL3 mR n Y hO (drw (drw st.2)) h4 (drw_lt _) 8 (by omega) (by omega)) ⟨_, rfl, rfl⟩ q0 (by omega) rfl (by decide) (by simp [Value.category]) rfl ?_
        rintro r M' ⟨rfl, mL4, rfl, h6, h7⟩
        have hm8 : drw (drw (drw st.2)) / 65536 % 8 < 8 := Nat.mod_lt _ (by omega)
        have sl1 : mI1 C 6 = nI sl := (g1 _ _ (by omega) (by omega) (by omega) (by omega)).trans hsl
        have g104 : G 104 [some (.ref Y), some (.int (nI D)), some (.int (nI np)), some (.int (nI i)), some (.int (nI (dA np st.2))), some (.int (nI (dB np st.2))), some (.int (nI (dS sl st.2).toNat)), some (.int (nI (dO np sl pl st.2).toNat))] [] (sh, mI1, mL4, mR, n) := by
          have hx : dX np sl pl st.2 < 10 := by unfold dX; split <;> omega
          have hy : dY np sl pl st.2 < 10 := by unfold dY; split <;> omega
          have fin : G 133 [some (.ref Y), some (.int (nI D)), some (.int (nI np)), some (.int (nI i)), some (.int (nI (dA np st.2))), some (.int (nI (dB np st.2))), some (.int (nI (dS sl st.2).toNat)), some (.int (nI (dO np sl pl st.2).toNat))] [.int (nI 0), .int (nI (dY np sl pl st.2)), .int (nI (dX np sl pl st.2)), .ref (Y + 1)] (sh, mI1, mL4, mR, n) := by
            refine hG.callV dX5_passDays_133 mv_5_65 [.int (nI (dX np sl pl st.2)), .int (nI (dY np sl pl st.2)), .int (nI 0)] [] (c6_addSaying l X (d - 1) sh mI1 mL4 mR n (Y + 1) hT st.1.1 st.1.2.1 st.1.2.2.1 st.1.2.2.2 g3 _ _ 0 hx hy (by decide) (by omega)) ⟨_, rfl, rfl⟩ t0 (by omega) rfl (by decide) (by simp [Value.category]) rfl ?_
            rintro r M' ⟨rfl, mI5, rfl, k1, k2⟩
            refine hG.run [13] 60 ?_
            simp [wp, stepI, ln, jmp, cmpI, Value.category, rd, tyF, va_rf, st1, st2, clr, isLg, CB, inx_0, inx_1, inx_2, inx_3, inx_4, inx_5, bI_0, bI_1, bI_ok, fin3, tyX5, entL, q0, dX5_passDays_0, dX5_passDays_1, fT_5_12, dX5_passDays_4, fT_5_33, dX5_passDays_7, fT_5_37, dX5_passDays_10, dX5_passDays_11, dX5_passDays_12, dX5_passDays_13, dX5_passDays_14, dX5_passDays_15, dX5_passDays_18, dX5_passDays_19, dX5_passDays_20, dX5_passDays_23, dX5_passDays_25, dX5_passDays_26, dX5_passDays_27, dX5_passDays_28, dX5_passDays_29, dX5_passDays_32, dX5_passDays_34, dX5_passDays_36, dX5_passDays_38, dX5_passDays_41, dX5_passDays_44, dX5_passDays_45, dX5_passDays_47, dX5_passDays_50, dX5_passDays_51, dX5_passDays_54, dX5_passDays_57, fT_5_62, dX5_passDays_60, dX5_passDays_63, dX5_passDays_64, dX5_passDays_67, dX5_passDays_68, dX5_passDays_70, dX5_passDays_71, fT_5_25, dX5_passDays_74, dX5_passDays_76, dX5_passDays_77, dX5_passDays_78, dX5_passDays_81, dX5_passDays_83, dX5_passDays_84, dX5_passDays_87, dX5_passDays_88, dX5_passDays_91, dX5_passDays_92, dX5_passDays_94, dX5_passDays_97, dX5_passDays_98, dX5_passDays_101, dX5_passDays_102, dX5_passDays_104, dX5_passDays_105, dX5_passDays_108, dX5_passDays_110, dX5_passDays_113, dX5_passDays_115, dX5_passDays_118, dX5_passDays_120, dX5_passDays_122, dX5_passDays_125, dX5_passDays_127, dX5_passDays_130, dX5_passDays_132, dX5_passDays_133, dX5_passDays_136, dX5_passDays_139, dX5_passDays_142]
            simp (disch := omega) only [li, nI_add, nI_clamp, nI_ltI, nI_leI, nI_eq, inx_iff, a31, nI_1shl', nI_shr', div_bit, tb1, tb0, fa_or, fa_and, nI_not, pk_sub, nI_dec]
            refine nx mI5 mL4 _ _ _ _ (by omega) (by omega) (fun a k a1 a2 a3 a4 => ?_) (fun a k ha => ?_) k2 h6 (drw_lt _)
            · rw [k1 a k (by omega) (by omega) (by omega) (fun y => a4 y.1)]; exact g1 a k a1 a2 a3 a4
            · rw [h7 a k ha, h5 a k ha, h3 a k ha]; exact g2 a k ha
          unfold dX dY at fin
          cases hO2 : dO np sl pl st.2 with
          | true =>
            rw [hO2] at fin
            have e1 : nI (Bool.toNat true) = nI 1 := rfl
            rw [e1] at fin ⊢
            simp only [if_true] at fin
            refine hG.run [] 60 ?_
            simp [wp, stepI, ln, jmp, cmpI, Value.category, rd, tyF, va_rf, st1, st2, clr, isLg, CB, inx_0, inx_1, inx_2, inx_3, inx_4, inx_5, bI_0, bI_1, bI_ok, fin3, tyX5, entL, q0, hr0, dX5_passDays_0, dX5_passDays_1, fT_5_12, dX5_passDays_4, fT_5_33, dX5_passDays_7, fT_5_37, dX5_passDays_10, dX5_passDays_11, dX5_passDays_12, dX5_passDays_13, dX5_passDays_14, dX5_passDays_15, dX5_passDays_18, dX5_passDays_19, dX5_passDays_20, dX5_passDays_23, dX5_passDays_25, dX5_passDays_26, dX5_passDays_27, dX5_passDays_28, dX5_passDays_29, dX5_passDays_32, dX5_passDays_34, dX5_passDays_36, dX5_passDays_38, dX5_passDays_41, dX5_passDays_44, dX5_passDays_45, dX5_passDays_47, dX5_passDays_50, dX5_passDays_51, dX5_passDays_54, dX5_passDays_57, fT_5_62, dX5_passDays_60, dX5_passDays_63, dX5_passDays_64, dX5_passDays_67, dX5_passDays_68, dX5_passDays_70, dX5_passDays_71, fT_5_25, dX5_passDays_74, dX5_passDays_76, dX5_passDays_77, dX5_passDays_78, dX5_passDays_81, dX5_passDays_83, dX5_passDays_84, dX5_passDays_87, dX5_passDays_88, dX5_passDays_91, dX5_passDays_92, dX5_passDays_94, dX5_passDays_97, dX5_passDays_98, dX5_passDays_101, dX5_passDays_102, dX5_passDays_104, dX5_passDays_105, dX5_passDays_108, dX5_passDays_110, dX5_passDays_113, dX5_passDays_115, dX5_passDays_118, dX5_passDays_120, dX5_passDays_122, dX5_passDays_125, dX5_passDays_127, dX5_passDays_130, dX5_passDays_132, dX5_passDays_133, dX5_passDays_136, dX5_passDays_139, dX5_passDays_142]
            simp (disch := omega) only [li, nI_add, nI_clamp, nI_ltI, nI_leI, nI_eq, inx_iff, a31, nI_1shl', nI_shr', div_bit, tb1, tb0, fa_or, fa_and, nI_not, pk_sub, nI_dec]
            exact ⟨fun z => by omega, fun _ => ⟨fun z => by omega, fun _ => fin⟩⟩
          | false =>
            rw [hO2] at fin
            have e1 : nI (Bool.toNat false) = nI 0 := rfl
            rw [e1] at fin ⊢
            simp only [Bool.false_eq_true, if_false] at fin
            refine hG.run [] 60 ?_
            simp [wp, stepI, ln, jmp, cmpI, Value.category, rd, tyF, va_rf, st1, st2, clr, isLg, CB, inx_0, inx_1, inx_2, inx_3, inx_4, inx_5, bI_0, bI_1, bI_ok, fin3, tyX5, entL, q0, hr0, dX5_passDays_0, dX5_passDays_1, fT_5_12, dX5_passDays_4, fT_5_33, dX5_passDays_7, fT_5_37, dX5_passDays_10, dX5_passDays_11, dX5_passDays_12, dX5_passDays_13, dX5_passDays_14, dX5_passDays_15, dX5_passDays_18, dX5_passDays_19, dX5_passDays_20, dX5_passDays_23, dX5_passDays_25, dX5_passDays_26, dX5_passDays_27, dX5_passDays_28, dX5_passDays_29, dX5_passDays_32, dX5_passDays_34, dX5_passDays_36, dX5_passDays_38, dX5_passDays_41, dX5_passDays_44, dX5_passDays_45, dX5_passDays_47, dX5_passDays_50, dX5_passDays_51, dX5_passDays_54, dX5_passDays_57, fT_5_62, dX5_passDays_60, dX5_passDays_63, dX5_passDays_64, dX5_passDays_67, dX5_passDays_68, dX5_passDays_70, dX5_passDays_71, fT_5_25, dX5_passDays_74, dX5_passDays_76, dX5_passDays_77, dX5_passDays_78, dX5_passDays_81, dX5_passDays_83, dX5_passDays_84, dX5_passDays_87, dX5_passDays_88, dX5_passDays_91, dX5_passDays_92, dX5_passDays_94, dX5_passDays_97, dX5_passDays_98, dX5_passDays_101, dX5_passDays_102, dX5_passDays_104, dX5_passDays_105, dX5_passDays_108, dX5_passDays_110, dX5_passDays_113, dX5_passDays_115, dX5_passDays_118, dX5_passDays_120, dX5_passDays_122, dX5_passDays_125, dX5_passDays_127, dX5_passDays_130, dX5_passDays_132, dX5_passDays_133, dX5_passDays_136, dX5_passDays_139, dX5_passDays_142]
            simp (disch := omega) only [li, nI_add, nI_clamp, nI_ltI, nI_leI, nI_eq, inx_iff, a31, nI_1shl', nI_shr', div_bit, tb1, tb0, fa_or, fa_and, nI_not, pk_sub, nI_dec]
            exact ⟨fun _ => ⟨fun _ => fin, fun z => absurd trivial z⟩, fun z => absurd trivial z⟩
        have g92 : ∀ v7, G 92 [some (.ref Y), some (.int (nI D)), some (.int (nI np)), some (.int (nI i)), some (.int (nI (dA np st.2))), some (.int (nI (dB np st.2))), some (.int (nI (dS sl st.2).toNat)), v7] [.int (nI (decide (pl (dA np st.2) < pl (dB np st.2))).toNat)] (sh, mI1, mL4, mR, n) := fun v7 => by
          unfold dO at g104
          generalize decide (pl (dA np st.2) < pl (dB np st.2)) = b1 at g104 ⊢
          generalize dS sl st.2 = b2 at g104 ⊢
          have e1 : nI (Bool.toNat true) = nI 1 := rfl
          have e2 : nI (Bool.toNat false) = nI 0 := rfl
          have ne1 : ¬ nI 1 = nI 0 := by decide
          have ne2 : ¬ nI 0 = nI 1 := by decide
          cases b1 <;> cases b2 <;> simp only [e1, e2, bne_self_eq_false, Bool.bne_true, Bool.bne_false, Bool.not_true, Bool.not_false] at g104 ⊢
          all_goals
            refine hG.run [104] 60 ?_
            simp [wp, stepI, ln, jmp, cmpI, Value.category, rd, tyF, va_rf, st1, st2, clr, isLg, CB, inx_0, inx_1, inx_2, inx_3, inx_4, inx_5, bI_0, bI_1, bI_ok, fin3, tyX5, entL, q0, dX5_passDays_0, dX5_passDays_1, fT_5_12, dX5_passDays_4, fT_5_33, dX5_passDays_7, fT_5_37, dX5_passDays_10, dX5_passDays_11, dX5_passDays_12, dX5_passDays_13, dX5_passDays_14, dX5_passDays_15, dX5_passDays_18, dX5_passDays_19, dX5_passDays_20, dX5_passDays_23, dX5_passDays_25, dX5_passDays_26, dX5_passDays_27, dX5_passDays_28, dX5_passDays_29, dX5_passDays_32, dX5_passDays_34, dX5_passDays_36, dX5_passDays_38, dX5_passDays_41, dX5_passDays_44, dX5_passDays_45, dX5_passDays_47, dX5_passDays_50, dX5_passDays_51, dX5_passDays_54, dX5_passDays_57, fT_5_62, dX5_passDays_60, dX5_passDays_63, dX5_passDays_64, dX5_passDays_67, dX5_passDays_68, dX5_passDays_70, dX5_passDays_71, fT_5_25, dX5_passDays_74, dX5_passDays_76, dX5_passDays_77, dX5_passDays_78, dX5_passDays_81, dX5_passDays_83, dX5_passDays_84, dX5_passDays_87, dX5_passDays_88, dX5_passDays_91, dX5_passDays_92, dX5_passDays_94, dX5_passDays_97, dX5_passDays_98, dX5_passDays_101, dX5_passDays_102, dX5_passDays_104, dX5_passDays_105, dX5_passDays_108, dX5_passDays_110, dX5_passDays_113, dX5_passDays_115, dX5_passDays_118, dX5_passDays_120, dX5_passDays_122, dX5_passDays_125, dX5_passDays_127, dX5_passDays_130, dX5_passDays_132, dX5_passDays_133, dX5_passDays_136, dX5_passDays_139, dX5_passDays_142]
            simp only [li, ne1, ne2, not_true_eq_false, not_false_eq_true, true_implies, false_implies, and_true, true_and]
            exact g104
        have g68 : ∀ v6 v7, G 68 [some (.ref Y), some (.int (nI D)), some (.int (nI np)), some (.int (nI i)), some (.int (nI (dA np st.2))), some (.int (nI (dB np st.2))), v6, v7] [.int (nI (dS sl st.2).toNat)] (sh, mI1, mL4, mR, n) := fun v6 v7 => by
          obtain ⟨a1, a2⟩ := hpl (dA np st.2) hA
          obtain ⟨b1, b2⟩ := hpl (dB np st.2) hB
          have a3 : mI1 (Y + 17) (dA np st.2) = nI (pl (dA np st.2)) := (g1 _ _ (by omega) (by omega) (by omega) (by omega)).trans a1
          have b3 : mI1 (Y + 17) (dB np st.2) = nI (pl (dB np st.2)) := (g1 _ _ (by omega) (by omega) (by omega) (by omega)).trans b1
          have q := g92 v7
          refine hG.run [92] 60 ?_
          simp [wp, stepI, ln, jmp, cmpI, Value.category, rd, tyF, va_rf, st1, st2, clr, isLg, CB, inx_0, inx_1, inx_2, inx_3, inx_4, inx_5, bI_0, bI_1, bI_ok, fin3, tyX5, entL, q0, q_place, dX5_passDays_0, dX5_passDays_1, fT_5_12, dX5_passDays_4, fT_5_33, dX5_passDays_7, fT_5_37, dX5_passDays_10, dX5_passDays_11, dX5_passDays_12, dX5_passDays_13, dX5_passDays_14, dX5_passDays_15, dX5_passDays_18, dX5_passDays_19, dX5_passDays_20, dX5_passDays_23, dX5_passDays_25, dX5_passDays_26, dX5_passDays_27, dX5_passDays_28, dX5_passDays_29, dX5_passDays_32, dX5_passDays_34, dX5_passDays_36, dX5_passDays_38, dX5_passDays_41, dX5_passDays_44, dX5_passDays_45, dX5_passDays_47, dX5_passDays_50, dX5_passDays_51, dX5_passDays_54, dX5_passDays_57, fT_5_62, dX5_passDays_60, dX5_passDays_63, dX5_passDays_64, dX5_passDays_67, dX5_passDays_68, dX5_passDays_70, dX5_passDays_71, fT_5_25, dX5_passDays_74, dX5_passDays_76, dX5_passDays_77, dX5_passDays_78, dX5_passDays_81, dX5_passDays_83, dX5_passDays_84, dX5_passDays_87, dX5_passDays_88, dX5_passDays_91, dX5_passDays_92, dX5_passDays_94, dX5_passDays_97, dX5_passDays_98, dX5_passDays_101, dX5_passDays_102, dX5_passDays_104, dX5_passDays_105, dX5_passDays_108, dX5_passDays_110, dX5_passDays_113, dX5_passDays_115, dX5_passDays_118, dX5_passDays_120, dX5_passDays_122, dX5_passDays_125, dX5_passDays_127, dX5_passDays_130, dX5_passDays_132, dX5_passDays_133, dX5_passDays_136, dX5_passDays_139, dX5_passDays_142]
          simp (disch := omega) only [li, nI_add, nI_clamp, nI_ltI, nI_leI, nI_eq, inx_iff, a31, nI_1shl', nI_shr', div_bit, tb1, tb0, fa_or, fa_and, nI_not, pk_sub, nI_dec, a3, b3]
          refine ⟨by omega, by omega, fun y => ?_, fun y => ?_⟩
          · rw [decide_eq_false (by omega)] at q; exact q
          · rw [decide_eq_true y] at q; exact q
        have q := g68 v6 v7
        unfold dS at q
        refine hG.run [68] 60 ?_
        simp [wp, stepI, ln, jmp, cmpI, Value.category, rd, tyF, va_rf, st1, st2, clr, isLg, CB, inx_0, inx_1, inx_2, inx_3, inx_4, inx_5, bI_0, bI_1, bI_ok, fin3, tyX5, entL, q0, hr0, hsc, t0, u0, tyX6, tyX4, dX5_passDays_0, dX5_passDays_1, fT_5_12, dX5_passDays_4, fT_5_33, dX5_passDays_7, fT_5_37, dX5_passDays_10, dX5_passDays_11, dX5_passDays_12, dX5_passDays_13, dX5_passDays_14, dX5_passDays_15, dX5_passDays_18, dX5_passDays_19, dX5_passDays_20, dX5_passDays_23, dX5_passDays_25, dX5_passDays_26, dX5_passDays_27, dX5_passDays_28, dX5_passDays_29, dX5_passDays_32, dX5_passDays_34, dX5_passDays_36, dX5_passDays_38, dX5_passDays_41, dX5_passDays_44, dX5_passDays_45, dX5_passDays_47, dX5_passDays_50, dX5_passDays_51, dX5_passDays_54, dX5_passDays_57, fT_5_62, dX5_passDays_60, dX5_passDays_63, dX5_passDays_64, dX5_passDays_67, dX5_passDays_68, dX5_passDays_70, dX5_passDays_71, fT_5_25, dX5_passDays_74, dX5_passDays_76, dX5_passDays_77, dX5_passDays_78, dX5_passDays_81, dX5_passDays_83, dX5_passDays_84, dX5_passDays_87, dX5_passDays_88, dX5_passDays_91, dX5_passDays_92, dX5_passDays_94, dX5_passDays_97, dX5_passDays_98, dX5_passDays_101, dX5_passDays_102, dX5_passDays_104, dX5_passDays_105, dX5_passDays_108, dX5_passDays_110, dX5_passDays_113, dX5_passDays_115, dX5_passDays_118, dX5_passDays_120, dX5_passDays_122, dX5_passDays_125, dX5_passDays_127, dX5_passDays_130, dX5_passDays_132, dX5_passDays_133, dX5_passDays_136, dX5_passDays_139, dX5_passDays_142]
        rw [sl1]
        simp (disch := omega) only [li, nI_add, nI_clamp, nI_ltI, nI_leI, nI_eq, inx_iff, a31, nI_1shl', nI_shr', div_bit, tb1, tb0, fa_or, fa_and, nI_not, pk_sub, nI_dec]
        refine ⟨fun y => ?_, fun y => ?_⟩
        · rw [decide_eq_false (by omega)] at q; exact q
        · rw [decide_eq_true y] at q; exact q
      have q := g44
      unfold dB at q
      refine hG.run [44] 60 ?_
      simp [wp, stepI, ln, jmp, cmpI, Value.category, rd, tyF, va_rf, st1, st2, clr, isLg, CB, inx_0, inx_1, inx_2, inx_3, inx_4, inx_5, bI_0, bI_1, bI_ok, fin3, tyX5, entL, q0, dX5_passDays_0, dX5_passDays_1, fT_5_12, dX5_passDays_4, fT_5_33, dX5_passDays_7, fT_5_37, dX5_passDays_10, dX5_passDays_11, dX5_passDays_12, dX5_passDays_13, dX5_passDays_14, dX5_passDays_15, dX5_passDays_18, dX5_passDays_19, dX5_passDays_20, dX5_passDays_23, dX5_passDays_25, dX5_passDays_26, dX5_passDays_27, dX5_passDays_28, dX5_passDays_29, dX5_passDays_32, dX5_passDays_34, dX5_passDays_36, dX5_passDays_38, dX5_passDays_41, dX5_passDays_44, dX5_passDays_45, dX5_passDays_47, dX5_passDays_50, dX5_passDays_51, dX5_passDays_54, dX5_passDays_57, fT_5_62, dX5_passDays_60, dX5_passDays_63, dX5_passDays_64, dX5_passDays_67, dX5_passDays_68, dX5_passDays_70, dX5_passDays_71, fT_5_25, dX5_passDays_74, dX5_passDays_76, dX5_passDays_77, dX5_passDays_78, dX5_passDays_81, dX5_passDays_83, dX5_passDays_84, dX5_passDays_87, dX5_passDays_88, dX5_passDays_91, dX5_passDays_92, dX5_passDays_94, dX5_passDays_97, dX5_passDays_98, dX5_passDays_101, dX5_passDays_102, dX5_passDays_104, dX5_passDays_105, dX5_passDays_108, dX5_passDays_110, dX5_passDays_113, dX5_passDays_115, dX5_passDays_118, dX5_passDays_120, dX5_passDays_122, dX5_passDays_125, dX5_passDays_127, dX5_passDays_130, dX5_passDays_132, dX5_passDays_133, dX5_passDays_136, dX5_passDays_139, dX5_passDays_142]
      simp (disch := omega) only [li, nI_add, nI_clamp, nI_ltI, nI_leI, nI_eq, inx_iff, a31, nI_1shl', nI_shr', div_bit, tb1, tb0, fa_or, fa_and, nI_not, pk_sub, nI_dec]
      refine ⟨fun y => ?_, fun y => ?_⟩
      · rw [if_pos y] at q; exact q
      · rw [if_neg (by omega)] at q; exact q
  refine hG.run [13] 60 ?_
  simp [wp, stepI, ln, jmp, cmpI, Value.category, rd, tyF, va_rf, st1, st2, clr, isLg, CB, inx_0, inx_1, inx_2, inx_3, inx_4, inx_5, bI_0, bI_1, bI_ok, fin3, tyX5, entL, q0, hr0, hsc, t0, u0, tyX6, tyX4, dX5_passDays_0, dX5_passDays_1, fT_5_12, dX5_passDays_4, fT_5_33, dX5_passDays_7, fT_5_37, dX5_passDays_10, dX5_passDays_11, dX5_passDays_12, dX5_passDays_13, dX5_passDays_14, dX5_passDays_15, dX5_passDays_18, dX5_passDays_19, dX5_passDays_20, dX5_passDays_23, dX5_passDays_25, dX5_passDays_26, dX5_passDays_27, dX5_passDays_28, dX5_passDays_29, dX5_passDays_32, dX5_passDays_34, dX5_passDays_36, dX5_passDays_38, dX5_passDays_41, dX5_passDays_44, dX5_passDays_45, dX5_passDays_47, dX5_passDays_50, dX5_passDays_51, dX5_passDays_54, dX5_passDays_57, fT_5_62, dX5_passDays_60, dX5_passDays_63, dX5_passDays_64, dX5_passDays_67, dX5_passDays_68, dX5_passDays_70, dX5_passDays_71, fT_5_25, dX5_passDays_74, dX5_passDays_76, dX5_passDays_77, dX5_passDays_78, dX5_passDays_81, dX5_passDays_83, dX5_passDays_84, dX5_passDays_87, dX5_passDays_88, dX5_passDays_91, dX5_passDays_92, dX5_passDays_94, dX5_passDays_97, dX5_passDays_98, dX5_passDays_101, dX5_passDays_102, dX5_passDays_104, dX5_passDays_105, dX5_passDays_108, dX5_passDays_110, dX5_passDays_113, dX5_passDays_115, dX5_passDays_118, dX5_passDays_120, dX5_passDays_122, dX5_passDays_125, dX5_passDays_127, dX5_passDays_130, dX5_passDays_132, dX5_passDays_133, dX5_passDays_136, dX5_passDays_139, dX5_passDays_142]
  rw [p1]
  exact loop (D + 1) 0 mI mL _ _ _ _ (by omega) (by omega) (fun _ _ _ _ _ _ => rfl) (fun _ _ _ => rfl) hS hg hgl
set_option maxHeartbeats 4000000 in
set_option maxRecDepth 100000 in
theorem c5_open (l : Launch) (X : Cx) (d : Nat) (sh : Nat → Option Sh) (mI : Nat → Nat → Int32) (mL : Nat → Nat → Int64) (mR : Nat → Nat → Option Nat) (n : Nat) (Y C S A : Nat) (hY : SnL sh mR Y) (hS6 : OL sh mR S 6 ob6) (hA10 : sh A = some (.inr (.int, 10))) (hsc : mR S 0 = some C) (hC : OL sh mR C 4 ob4) (d1 : Y + 17 < S ∨ S + 11 < Y) (d2 : Y + 17 < C ∨ C + 5 < Y) (d3 : Y + 17 < A ∨ A < Y) (np : Nat) (hp : ScP mI C np) (c : Nat) (fi se ma : Nat → Nat) (hS : ShS mI S c fi se ma) (rw : Nat → Nat) (hr : ∀ i, i < np → mI A i = nI (rw i) ∧ rw i < np) (hri : ∀ i j, i < j → j < np → rw i ≠ rw j) (g : Nat) (hg : g < 2147483648) (hd : 2 ≤ d) : Cn l X yX5_open cX5_open 5 none d [.ref Y, .ref S, .ref A, .int (nI g)] (sh, mI, mL, mR, n) (fun r M' => r = none ∧ ∃ mI', M' = (sh, mI', up2 mL Y 3 (lN g), up2 mR (Y + 1) 0 (some C), n) ∧ (∀ a k, (a ≤ Y ∨ Y + 17 < a) → mI' a k = mI a k) ∧ ShS mI' (Y + 1) c fi se ma ∧ ∀ p, p < np → mI' (Y + 17) p = nI (plN rw np p) ∧ plN rw np p < 10) 0 0 := by
  have hY2 := hY.up (v := some C)
  obtain ⟨hO, hr0, hr1, hT, hQ⟩ := hY
  refine Cn.run 5 false (by decide) rfl (by decide) (by simp [entA, Value.category]) ?_
  intro P G hP hG
  have q0 := hO.1
  have q_place := hO.2.2 (2, 17, .int, 10) (by decide)
  dsimp only at q_place
  have hSl := hO.2.1
  have t0 := hT.1
  have w0 := hS6.1
  have u0 := hC.1
  obtain ⟨p1, p2⟩ := hp
  have xP : Y + 17 < 1000000000 := by omega
  have xY : Y < 1000000000 := by omega
  have hsc2 : up2 mR (Y + 1) 0 (some C) S 0 = some C := (up2_ne (by omega)).trans hsc
  have q_place2 : up2 mR (Y + 1) 0 (some C) Y 2 = some (Y + 17) := (up2_ne (by omega)).trans q_place.1
  have q_pl3 := q_place.2
  refine hG.run [] 40 ?_
  simp [wp, stepI, ln, jmp, cmpI, Value.category, rd, tyF, va_rf, st1, st2, clr, isLg, CB, inx_0, inx_1, inx_2, inx_3, inx_4, inx_5, bI_0, bI_1, bI_ok, fin3, tyX5, entL, q0, hr0, dX5_open_0, dX5_open_1, fT_5_12, dX5_open_4, dX5_open_5, dX5_open_8, dX5_open_9, dX5_open_11, dX5_open_13, dX5_open_14, fT_5_33, dX5_open_17, fT_5_37, dX5_open_20, dX5_open_23, dX5_open_24, fT_5_25, dX5_open_27, dX5_open_28, dX5_open_30, dX5_open_31, dX5_open_33, dX5_open_34, dX5_open_37, dX5_open_40, dX5_open_41, dX5_open_42, dX5_open_43, fT_5_43, dX5_open_46]
  refine hG.callV dX5_open_5 mv_5_29 [.ref S] [] (c6_copyFrom l X (d - 1) sh mI mL mR n (Y + 1) S C hT hS6 (by omega) hsc (by omega)) ⟨_, rfl, rfl⟩ t0 (by omega) rfl (by decide) (by simp [Value.category]) rfl ?_
  rintro r M' ⟨rfl, rfl⟩
  have fr : ∀ a k, (a ≤ Y ∨ Y + 17 ≤ a) → cpS mI (Y + 1) S a k = mI a k := fun a k h => cpS_o (by omega) (by omega) (by omega) (by omega) (by omega) (by omega)
  have sh1 := cpS_sh (mI := mI) (S := Y + 1) (T := S) (by omega) hS
  generalize cpS mI (Y + 1) S = m1 at fr sh1
  generalize up2 mR (Y + 1) 0 (some C) = mR2 at hsc2 q_place2 hP hY2
  have loop : ∀ f i m2, np - i < f → i ≤ np → (∀ a k, a ≠ Y + 17 → m2 a k = m1 a k) → (∀ j, j < i → m2 (Y + 17) (rw j) = nI j) → G 11 [some (.ref Y), some (.ref S), some (.ref A), some (.int (nI g)), some (.int (nI i))] [] (sh, m2, mL, mR2, n) := by
    intro f
    induction f with
    | zero => intro i m2 h; omega
    | succ f ih =>
      intro i m2 hf hi g1 g2
      have pc : m2 C 4 = nI np := by rw [g1 _ _ (by omega), fr _ _ (by omega)]; exact p1
      refine hG.run [11, 40] 60 ?_
      simp [wp, stepI, ln, jmp, cmpI, Value.category, rd, tyF, va_rf, st1, st2, clr, isLg, CB, inx_0, inx_1, inx_2, inx_3, inx_4, inx_5, bI_0, bI_1, bI_ok, fin3, tyX5, entL, q0, hsc2, w0, u0, tyX6, tyX4, q_place2, q_pl3, hA10, xP, dX5_open_0, dX5_open_1, fT_5_12, dX5_open_4, dX5_open_5, dX5_open_8, dX5_open_9, dX5_open_11, dX5_open_13, dX5_open_14, fT_5_33, dX5_open_17, fT_5_37, dX5_open_20, dX5_open_23, dX5_open_24, fT_5_25, dX5_open_27, dX5_open_28, dX5_open_30, dX5_open_31, dX5_open_33, dX5_open_34, dX5_open_37, dX5_open_40, dX5_open_41, dX5_open_42, dX5_open_43, fT_5_43, dX5_open_46]
      simp (disch := omega) only [li, nI_add, nI_clamp, nI_ltI, nI_leI, nI_eq, inx_iff, a31, nI_1shl', nI_shr', div_bit, tb1, tb0, fa_or, fa_and, nI_not, pk_sub, nI_dec, pc]
      refine ⟨fun z => ?_, fun z => ?_⟩
      · have e : i = np := by omega
        subst e
        refine hG.run [] 60 ?_
        simp [wp, stepI, ln, jmp, cmpI, Value.category, rd, tyF, va_rf, st1, st2, clr, isLg, CB, inx_0, inx_1, inx_2, inx_3, inx_4, inx_5, bI_0, bI_1, bI_ok, fin3, tyX5, entL, q0, okv, wr, finF, clT, TX5, xY, dX5_open_0, dX5_open_1, fT_5_12, dX5_open_4, dX5_open_5, dX5_open_8, dX5_open_9, dX5_open_11, dX5_open_13, dX5_open_14, fT_5_33, dX5_open_17, fT_5_37, dX5_open_20, dX5_open_23, dX5_open_24, fT_5_25, dX5_open_27, dX5_open_28, dX5_open_30, dX5_open_31, dX5_open_33, dX5_open_34, dX5_open_37, dX5_open_40, dX5_open_41, dX5_open_42, dX5_open_43, fT_5_43, dX5_open_46]
        rw [nI_l (by omega)]
        refine hP _ _ ⟨rfl, m2, rfl, fun a k h => ?_, ⟨?_, sh1.2.1, fun k hk => ?_⟩, fun p hp => ?_⟩
        · rw [g1 a k (by omega)]; exact fr a k (by omega)
        · rw [g1 _ _ (by omega)]; exact sh1.1
        · obtain ⟨a1, a2, a3, a4⟩ := sh1.2.2 k hk
          exact ⟨(g1 _ _ (by omega)).trans a1, (g1 _ _ (by omega)).trans a2, (g1 _ _ (by omega)).trans a3, a4⟩
        · obtain ⟨b1, b2⟩ := plN_lt (fb_onto (fun i hi => (hr i hi).2) hri hp)
          have := g2 (plN rw i p) b1
          rw [b2] at this
          exact ⟨this, by omega⟩
      · obtain ⟨r1, r2⟩ := hr i z
        have ra : m2 A i = nI (rw i) := by rw [g1 _ _ (by omega), fr _ _ (by omega)]; exact r1
        simp (disch := omega) only [li, nI_add, nI_clamp, nI_ltI, nI_leI, nI_eq, inx_iff, a31, nI_1shl', nI_shr', div_bit, tb1, tb0, fa_or, fa_and, nI_not, pk_sub, nI_dec, ra]
        refine ⟨by omega, by omega, ih (i + 1) _ (by omega) (by omega) (fun a k ha => by rw [up2_ne (fun y => ha y.1)]; exact g1 a k ha) (fun j hj => ?_)⟩
        by_cases e : j = i
        · rw [e, up2_eq]
        · rw [up2_ne (fun y => hri j i (by omega) z y.2)]; exact g2 j (by omega)
  refine hG.run [11] 60 ?_
  simp [wp, stepI, ln, jmp, cmpI, Value.category, rd, tyF, va_rf, st1, st2, clr, isLg, CB, inx_0, inx_1, inx_2, inx_3, inx_4, inx_5, bI_0, bI_1, bI_ok, fin3, tyX5, entL, q0, dX5_open_0, dX5_open_1, fT_5_12, dX5_open_4, dX5_open_5, dX5_open_8, dX5_open_9, dX5_open_11, dX5_open_13, dX5_open_14, fT_5_33, dX5_open_17, fT_5_37, dX5_open_20, dX5_open_23, dX5_open_24, fT_5_25, dX5_open_27, dX5_open_28, dX5_open_30, dX5_open_31, dX5_open_33, dX5_open_34, dX5_open_37, dX5_open_40, dX5_open_41, dX5_open_42, dX5_open_43, fT_5_43, dX5_open_46]
  exact loop (np + 1) 0 m1 (by omega) (by omega) (fun _ _ _ => rfl) (fun j h => by omega)
set_option maxHeartbeats 4000000 in
set_option maxRecDepth 100000 in
theorem c5_daysUntilKnown (l : Launch) (X : Cx) (d : Nat) (sh : Nat → Option Sh) (mI : Nat → Nat → Int32) (mL : Nat → Nat → Int64) (mR : Nat → Nat → Option Nat) (n : Nat) (Y C : Nat) (hY : SnL sh mR Y) (hsc : mR (Y + 1) 0 = some C) (hC : OL sh mR C 4 ob4) (d2 : Y + 17 < C ∨ C + 5 < Y) (np : Nat) (hp : ScP mI C np) (hnp2 : 2 ≤ np) (sl : Nat) (hsl : mI C 6 = nI sl) (hsl3 : sl ≤ 3) (pl : Nat → Nat) (hpl : ∀ p, p < np → mI (Y + 17) p = nI (pl p) ∧ pl p < 10) (s : SG) (hS : ShS mI (Y + 1) s.1.1 s.1.2.1 s.1.2.2.1 s.1.2.2.2) (hg : mL Y 3 = lN s.2) (hgl : s.2 < 2147483648) (hd : 3 ≤ d) : Cn l X yX5_daysUntilKnown cX5_daysUntilKnown 2 (some .int) d [.ref Y] (sh, mI, mL, mR, n) (fun r M' => r = some (.int ((fun k : Nat => if k < 101 then nI k else -nI 1) (fa_first (fun k => decide (ordN np (dys np sl pl s k).1.1 (dys np sl pl s k).1.2.1 (dys np sl pl s k).1.2.2.1 = 1)) 101))) ∧ ∃ mI' mL', M' = (sh, mI', mL', mR, n) ∧ (∀ a k, (a ≤ Y ∨ Y + 17 ≤ a) → mI' a k = mI a k) ∧ (∀ a k, ¬ (a = Y ∧ k = 3) → mL' a k = mL a k)) 0 0 := by
  have hY0 := hY
  obtain ⟨hO, hr0, hr1, hT, hQ⟩ := hY
  refine Cn.run 5 false (by decide) rfl (by decide) (by simp [entA, Value.category]) ?_
  intro P G hP hG
  have q0 := hO.1
  have hSl := hO.2.1
  have t0 := hT.1
  have v0 := hQ.1
  have p2 := hp.2
  obtain ⟨Q, hQd⟩ : ∃ Q : Nat → Bool, Q = fun k => decide (ordN np (dys np sl pl s k).1.1 (dys np sl pl s k).1.2.1 (dys np sl pl s k).1.2.2.1 = 1) := ⟨_, rfl⟩
  rw [← hQd] at hP
  have loop : ∀ f i mI1 mL1, 101 - i < f → i ≤ 101 → (∀ j, j < i → Q j = false) → (∀ a k, (a ≤ Y ∨ Y + 17 ≤ a) → mI1 a k = mI a k) → (∀ a k, ¬ (a = Y ∧ k = 3) → mL1 a k = mL a k) → ShS mI1 (Y + 1) (dys np sl pl s i).1.1 (dys np sl pl s i).1.2.1 (dys np sl pl s i).1.2.2.1 (dys np sl pl s i).1.2.2.2 → mL1 Y 3 = lN (dys np sl pl s i).2 → (dys np sl pl s i).2 < 2147483648 → G 2 [some (.ref Y), some (.int (nI i))] [] (sh, mI1, mL1, mR, n) := by
    intro f
    induction f with
    | zero => intro i mI1 mL1 h; omega
    | succ f ih =>
      intro i mI1 mL1 hf hi hq g1 g2 g3 g4 g5
      refine hG.run [] 60 ?_
      simp [wp, stepI, ln, jmp, cmpI, Value.category, rd, tyF, va_rf, st1, st2, clr, isLg, CB, inx_0, inx_1, inx_2, inx_3, inx_4, inx_5, bI_0, bI_1, bI_ok, fin3, tyX5, entL, q0, hr0, hr1, dX5_daysUntilKnown_0, dX5_daysUntilKnown_1, dX5_daysUntilKnown_2, dX5_daysUntilKnown_3, dX5_daysUntilKnown_5, dX5_daysUntilKnown_8, dX5_daysUntilKnown_9, fT_5_21, dX5_daysUntilKnown_12, dX5_daysUntilKnown_13, fT_5_12, dX5_daysUntilKnown_16, dX5_daysUntilKnown_19, dX5_daysUntilKnown_20, dX5_daysUntilKnown_23, dX5_daysUntilKnown_26, dX5_daysUntilKnown_29, dX5_daysUntilKnown_30, dX5_daysUntilKnown_31, dX5_daysUntilKnown_32, dX5_daysUntilKnown_33, dX5_daysUntilKnown_36, dX5_daysUntilKnown_39, dX5_daysUntilKnown_42, dX5_daysUntilKnown_43]
      simp (disch := omega) only [li, nI_add, nI_clamp, nI_ltI, nI_leI, nI_eq, inx_iff, a31, nI_1shl', nI_shr', div_bit, tb1, tb0, fa_or, fa_and, nI_not, pk_sub, nI_dec]
      refine ⟨fun z => hP _ _ ⟨?_, mI1, mL1, rfl, g1, g2⟩, fun z => ?_⟩
      · have e : fa_first Q 101 = 101 := lx_first (Nat.le_refl _) (fun j hj => hq j (by omega)) (fun h => absurd h (Nat.lt_irrefl _))
        rw [e]; rfl
      have hp1 : ScP mI1 C np := ⟨(g1 _ _ (by omega)).trans hp.1, p2⟩
      refine hG.callV dX5_daysUntilKnown_16 mv_5_47 [.ref (Y + 1)] [] (c2_hear l X (d - 1) sh mI1 mL1 mR n (Y + 13) (Y + 1) C hQ hT hsc hC (by omega) (by omega) np hp1 _ _ _ _ g3 (by omega)) ⟨_, rfl, rfl⟩ v0 (by omega) rfl (by decide) (by simp [Value.category]) rfl ?_
      rintro r M' ⟨rfl, mI2, rfl, k1, k2⟩
      refine hG.run [] 60 ?_
      simp [wp, stepI, ln, jmp, cmpI, Value.category, rd, tyF, va_rf, st1, st2, clr, isLg, CB, inx_0, inx_1, inx_2, inx_3, inx_4, inx_5, bI_0, bI_1, bI_ok, fin3, tyX5, entL, q0, hr0, hr1, dX5_daysUntilKnown_0, dX5_daysUntilKnown_1, dX5_daysUntilKnown_2, dX5_daysUntilKnown_3, dX5_daysUntilKnown_5, dX5_daysUntilKnown_8, dX5_daysUntilKnown_9, fT_5_21, dX5_daysUntilKnown_12, dX5_daysUntilKnown_13, fT_5_12, dX5_daysUntilKnown_16, dX5_daysUntilKnown_19, dX5_daysUntilKnown_20, dX5_daysUntilKnown_23, dX5_daysUntilKnown_26, dX5_daysUntilKnown_29, dX5_daysUntilKnown_30, dX5_daysUntilKnown_31, dX5_daysUntilKnown_32, dX5_daysUntilKnown_33, dX5_daysUntilKnown_36, dX5_daysUntilKnown_39, dX5_daysUntilKnown_42, dX5_daysUntilKnown_43]
      refine hG.callV dX5_daysUntilKnown_23 mv_5_50 [] [] (c2_oneOrderFits l X (d - 1) sh mI2 mL1 mR n (Y + 13) hQ np _ k2 (by omega)) ⟨_, rfl, rfl⟩ v0 (by omega) rfl (by decide) (by simp [Value.category]) rfl ?_
      rintro r M' ⟨rfl, mI3, rfl, k3⟩
      have eQ : decide (plA np (ahA (dys np sl pl s i).1.2.1 (dys np sl pl s i).1.2.2.1 (dys np sl pl s i).1.1) 10 (2 ^ np - 1) 1 = 1) = Q i := by
        rw [hQd, plA_ord p2]
        refine decide_eq_decide.mpr ?_
        by_cases h0 : ordN np (dys np sl pl s i).1.1 (dys np sl pl s i).1.2.1 (dys np sl pl s i).1.2.2.1 = 0
        · rw [if_pos h0, h0]
        · rw [if_neg h0]
          split <;> omega
      rw [eQ]
      have fr : ∀ a k, (a ≤ Y + 12 ∨ Y + 17 ≤ a) → mI3 a k = mI1 a k := fun a k h => (k3 a k (by omega)).trans (k1 a k (by omega) (by omega))
      have g13 : ∀ a k, (a ≤ Y ∨ Y + 17 ≤ a) → mI3 a k = mI a k := fun a k h => (fr a k (by omega)).trans (g1 a k h)
      have b0 := bI_0 (Q i)
      refine hG.run [31] 60 ?_
      simp [wp, stepI, ln, jmp, cmpI, Value.category, rd, tyF, va_rf, st1, st2, clr, isLg, CB, inx_0, inx_1, inx_2, inx_3, inx_4, inx_5, bI_0, bI_1, bI_ok, fin3, tyX5, entL, q0, dX5_daysUntilKnown_0, dX5_daysUntilKnown_1, dX5_daysUntilKnown_2, dX5_daysUntilKnown_3, dX5_daysUntilKnown_5, dX5_daysUntilKnown_8, dX5_daysUntilKnown_9, fT_5_21, dX5_daysUntilKnown_12, dX5_daysUntilKnown_13, fT_5_12, dX5_daysUntilKnown_16, dX5_daysUntilKnown_19, dX5_daysUntilKnown_20, dX5_daysUntilKnown_23, dX5_daysUntilKnown_26, dX5_daysUntilKnown_29, dX5_daysUntilKnown_30, dX5_daysUntilKnown_31, dX5_daysUntilKnown_32, dX5_daysUntilKnown_33, dX5_daysUntilKnown_36, dX5_daysUntilKnown_39, dX5_daysUntilKnown_42, dX5_daysUntilKnown_43]
      refine ⟨fun z2 => ?_, fun z2 => hP _ _ ⟨?_, mI3, mL1, rfl, g13, g2⟩⟩
      · refine hG.run [] 60 ?_
        simp [wp, stepI, ln, jmp, cmpI, Value.category, rd, tyF, va_rf, st1, st2, clr, isLg, CB, inx_0, inx_1, inx_2, inx_3, inx_4, inx_5, bI_0, bI_1, bI_ok, fin3, tyX5, entL, q0, dX5_daysUntilKnown_0, dX5_daysUntilKnown_1, dX5_daysUntilKnown_2, dX5_daysUntilKnown_3, dX5_daysUntilKnown_5, dX5_daysUntilKnown_8, dX5_daysUntilKnown_9, fT_5_21, dX5_daysUntilKnown_12, dX5_daysUntilKnown_13, fT_5_12, dX5_daysUntilKnown_16, dX5_daysUntilKnown_19, dX5_daysUntilKnown_20, dX5_daysUntilKnown_23, dX5_daysUntilKnown_26, dX5_daysUntilKnown_29, dX5_daysUntilKnown_30, dX5_daysUntilKnown_31, dX5_daysUntilKnown_32, dX5_daysUntilKnown_33, dX5_daysUntilKnown_36, dX5_daysUntilKnown_39, dX5_daysUntilKnown_42, dX5_daysUntilKnown_43]
        have S3 : ShS mI3 (Y + 1) (dys np sl pl s i).1.1 (dys np sl pl s i).1.2.1 (dys np sl pl s i).1.2.2.1 (dys np sl pl s i).1.2.2.2 := ⟨(fr _ _ (by omega)).trans g3.1, g3.2.1, fun k hk => ⟨(fr _ _ (by omega)).trans (g3.2.2 k hk).1, (fr _ _ (by omega)).trans (g3.2.2 k hk).2.1, (fr _ _ (by omega)).trans (g3.2.2 k hk).2.2.1, (g3.2.2 k hk).2.2.2⟩⟩
        refine hG.callV dX5_daysUntilKnown_33 mv_5_54 [.int (nI 1)] [] (c5_passDays l X (d - 1) sh mI3 mL1 mR n Y C hY0 hsc hC d2 np ⟨(g13 _ _ (by omega)).trans hp.1, p2⟩ hnp2 sl ((g13 _ _ (by omega)).trans hsl) hsl3 pl (fun p hp => ⟨(g13 _ _ (by omega)).trans (hpl p hp).1, (hpl p hp).2⟩) (dys np sl pl s i) S3 g4 g5 1 (by decide) (by omega)) ⟨_, rfl, rfl⟩ q0 (by omega) rfl (by decide) (by simp [Value.category]) rfl ?_
        rintro r M' ⟨rfl, mI4, mL4, rfl, w1, w2, w3, w4, w5⟩
        refine hG.run [2] 60 ?_
        simp [wp, stepI, ln, jmp, cmpI, Value.category, rd, tyF, va_rf, st1, st2, clr, isLg, CB, inx_0, inx_1, inx_2, inx_3, inx_4, inx_5, bI_0, bI_1, bI_ok, fin3, tyX5, entL, q0, dX5_daysUntilKnown_0, dX5_daysUntilKnown_1, dX5_daysUntilKnown_2, dX5_daysUntilKnown_3, dX5_daysUntilKnown_5, dX5_daysUntilKnown_8, dX5_daysUntilKnown_9, fT_5_21, dX5_daysUntilKnown_12, dX5_daysUntilKnown_13, fT_5_12, dX5_daysUntilKnown_16, dX5_daysUntilKnown_19, dX5_daysUntilKnown_20, dX5_daysUntilKnown_23, dX5_daysUntilKnown_26, dX5_daysUntilKnown_29, dX5_daysUntilKnown_30, dX5_daysUntilKnown_31, dX5_daysUntilKnown_32, dX5_daysUntilKnown_33, dX5_daysUntilKnown_36, dX5_daysUntilKnown_39, dX5_daysUntilKnown_42, dX5_daysUntilKnown_43]
        simp (disch := omega) only [li, nI_add, nI_clamp, nI_ltI, nI_leI, nI_eq, inx_iff, a31, nI_1shl', nI_shr', div_bit, tb1, tb0, fa_or, fa_and, nI_not, pk_sub, nI_dec]
        refine ih (i + 1) mI4 mL4 (by omega) (by omega) (fun j hj => ?_) (fun a k h => (w1 a k (by omega) (by omega) (by omega) (by omega)).trans (g13 a k h)) (fun a k h => (w2 a k h).trans (g2 a k h)) w3 w4 w5
        by_cases e : j = i
        · rw [e]; exact z2
        · exact hq j (by omega)
      · have e : fa_first Q 101 = i := lx_first (by omega) (fun j hj => hq j hj) (fun _ => z2)
        rw [e]
        dsimp only
        rw [if_pos (by omega)]
  refine hG.run [2] 60 ?_
  simp [wp, stepI, ln, jmp, cmpI, Value.category, rd, tyF, va_rf, st1, st2, clr, isLg, CB, inx_0, inx_1, inx_2, inx_3, inx_4, inx_5, bI_0, bI_1, bI_ok, fin3, tyX5, entL, q0, dX5_daysUntilKnown_0, dX5_daysUntilKnown_1, dX5_daysUntilKnown_2, dX5_daysUntilKnown_3, dX5_daysUntilKnown_5, dX5_daysUntilKnown_8, dX5_daysUntilKnown_9, fT_5_21, dX5_daysUntilKnown_12, dX5_daysUntilKnown_13, fT_5_12, dX5_daysUntilKnown_16, dX5_daysUntilKnown_19, dX5_daysUntilKnown_20, dX5_daysUntilKnown_23, dX5_daysUntilKnown_26, dX5_daysUntilKnown_29, dX5_daysUntilKnown_30, dX5_daysUntilKnown_31, dX5_daysUntilKnown_32, dX5_daysUntilKnown_33, dX5_daysUntilKnown_36, dX5_daysUntilKnown_39, dX5_daysUntilKnown_42, dX5_daysUntilKnown_43]
  exact loop 102 0 mI mL (by omega) (by omega) (fun j h => by omega) (fun _ _ _ => rfl) (fun _ _ _ => rfl) hS hg hgl
