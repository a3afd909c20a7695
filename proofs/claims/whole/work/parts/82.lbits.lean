/-! Long.bitCount: byte by byte -/
theorem and_by (a c b e : Nat) (ha : a < 256) (hc : c < 256) : (256 * b + a) &&& (256 * e + c) = 256 * (b &&& e) + (a &&& c) := by
  have hac : a &&& c < 256 := Nat.lt_of_le_of_lt Nat.and_le_left ha
  refine Nat.eq_of_testBit_eq fun i => ?_
  rw [Nat.testBit_and, show 256 = 2 ^ 8 from rfl, Nat.testBit_two_pow_mul_add _ ha, Nat.testBit_two_pow_mul_add _ hc, Nat.testBit_two_pow_mul_add _ hac]
  split
  · rw [Nat.testBit_and]
  · rw [Nat.testBit_and]
def rp (m : Nat) : Nat → Nat
  | 0 => 0
  | n + 1 => 256 * rp m n + m
def sA (n x : Nat) : Nat := x - (x / 2 &&& rp 85 n)
def sB (n x : Nat) : Nat := (x &&& rp 51 n) + (x / 4 &&& rp 51 n)
def sC (n x : Nat) : Nat := (x + x / 16) &&& rp 15 n
def f1 (a : Nat) : Nat := a - (a / 2 &&& 85)
def f2 (a : Nat) : Nat := (a &&& 51) + (a / 4 &&& 51)
def f3 (a : Nat) : Nat := (a + a / 16) &&& 15
theorem f_all : ∀ a, a < 256 → (a / 2 &&& 85) ≤ a ∧ f1 a < 256 ∧ f2 (f1 a) ≤ 68 ∧ f2 (f1 a) % 16 ≤ 4 ∧ f3 (f2 (f1 a)) = fb_ct (fun k => a.testBit k) 8 ∧ (∀ e, e < 2 → (a / 2 + 128 * e) &&& 85 = a / 2 &&& 85) ∧ (∀ e, e < 4 → (a / 4 + 64 * e) &&& 51 = a / 4 &&& 51) := by decide +kernel
theorem f_c : ∀ a, a ≤ 68 → ∀ e, e ≤ 4 → (a + a / 16 + 16 * e) &&& 15 = f3 a ∧ a + a / 16 + 16 * e < 256 := by decide +kernel
theorem f_b : ∀ a, a < 256 → f2 a < 256 := by decide +kernel
theorem sA_s (n a b : Nat) (ha : a < 256) (hb : b / 2 &&& rp 85 n ≤ b) : sA (n + 1) (256 * b + a) = 256 * sA n b + f1 a := by
  obtain ⟨h1, h2, h3, h4, h5, h6, h7⟩ := f_all a ha
  have e : (256 * b + a) / 2 = 256 * (b / 2) + (a / 2 + 128 * (b % 2)) := by omega
  unfold sA f1
  rw [e]
  show 256 * b + a - ((256 * (b / 2) + (a / 2 + 128 * (b % 2))) &&& (256 * rp 85 n + 85)) = _
  rw [and_by _ _ _ _ (by omega) (by omega), h6 (b % 2) (by omega)]
  omega
theorem sA_le : ∀ n x, x / 2 &&& rp 85 n ≤ x
  | 0, x => by rw [show rp 85 0 = 0 from rfl, Nat.and_zero]; exact Nat.zero_le _
  | n + 1, x => Nat.le_trans Nat.and_le_left (Nat.div_le_self _ _)
theorem sB_s (n a b : Nat) (ha : a < 256) (h : ∀ e, e < 4 → (a / 4 + 64 * e) &&& 51 = a / 4 &&& 51) : sB (n + 1) (256 * b + a) = 256 * sB n b + f2 a := by
  have e : (256 * b + a) / 4 = 256 * (b / 4) + (a / 4 + 64 * (b % 4)) := by omega
  unfold sB f2
  rw [e]
  show ((256 * b + a) &&& (256 * rp 51 n + 51)) + ((256 * (b / 4) + (a / 4 + 64 * (b % 4))) &&& (256 * rp 51 n + 51)) = _
  rw [and_by _ _ _ _ ha (by omega), and_by _ _ _ _ (by omega) (by omega), h (b % 4) (by omega)]
  omega
theorem sC_s (n a b : Nat) (ha : a ≤ 68) (hb : b % 16 ≤ 4) : sC (n + 1) (256 * b + a) = 256 * sC n b + f3 a := by
  obtain ⟨h1, h2⟩ := f_c a ha (b % 16) hb
  have e : 256 * b + a + (256 * b + a) / 16 = 256 * (b + b / 16) + (a + a / 16 + 16 * (b % 16)) := by omega
  unfold sC
  rw [e]
  show ((256 * (b + b / 16) + (a + a / 16 + 16 * (b % 16))) &&& (256 * rp 15 n + 15)) = _
  rw [and_by _ _ _ _ h2 (by omega), h1]
theorem f51 : ∀ a, a < 256 → ∀ e, e < 4 → (a / 4 + 64 * e) &&& 51 = a / 4 &&& 51 := fun a ha => (f_all a ha).2.2.2.2.2.2
def bm (f : Nat → Nat) : Nat → Nat → Nat
  | 0, _ => 0
  | n + 1, x => 256 * bm f n (x / 256) + f (x % 256)
theorem s_all : ∀ n x, x < 256 ^ n → sC n (sB n (sA n x)) = bm (fun a => fb_ct (fun k => a.testBit k) 8) n x ∧ sB n (sA n x) % 16 ≤ 4
  | 0, x, h => by
    have : x = 0 := by
      rw [Nat.pow_zero] at h
      omega
    rw [this]
    exact ⟨rfl, by decide⟩
  | n + 1, x, h => by
    have hx : x = 256 * (x / 256) + x % 256 := by omega
    have ha : x % 256 < 256 := Nat.mod_lt _ (by decide)
    have hb : x / 256 < 256 ^ n := by
      rw [Nat.pow_succ] at h
      exact Nat.div_lt_of_lt_mul (by rw [Nat.mul_comm]; exact h)
    obtain ⟨i1, i2⟩ := s_all n (x / 256) hb
    obtain ⟨h1, h2, h3, h4, h5, h6, h7⟩ := f_all (x % 256) ha
    have e1 : sA (n + 1) x = 256 * sA n (x / 256) + f1 (x % 256) := by
      have := sA_s n (x % 256) (x / 256) ha (sA_le n _)
      rw [← hx] at this
      exact this
    rw [e1, sB_s n _ _ h2 (f51 _ h2), sC_s n _ _ h3 i2, i1, h5]
    refine ⟨rfl, ?_⟩
    omega
theorem ct_by : ∀ n x, fb_ct (fun k => x.testBit k) (8 * n) = fb_sm (fun j => fb_ct (fun k => (x / 256 ^ j % 256).testBit k) 8) n
  | 0, x => rfl
  | n + 1, x => by
    rw [fb_sm_succ, ← ct_by n x, show 8 * (n + 1) = 8 * n + 8 by omega, fb_ct_split]
    congr 1
    refine fb_ct_cong fun k hk => ?_
    rw [show 256 = 2 ^ 8 from rfl, Nat.testBit_mod_two_pow, decide_eq_true hk, Bool.true_and, ← Nat.pow_mul, Nat.testBit_div_two_pow]
    congr 1
    omega
/-- how many bits of a long -/
def pcL (x : Nat) : Nat := fb_ct (fun k => x.testBit k) 64
theorem pcL_le (x : Nat) : pcL x ≤ 64 := fb_ct_le _ _
theorem bm_sum (x : Nat) : (fun y => (fun z => (fun w => (w + w / 4294967296) % 128) (z + z / 65536)) (y + y / 256)) (bm (fun a => fb_ct (fun k => a.testBit k) 8) 8 x) = pcL x := by
  have h := ct_by 8 x
  have cl : ∀ a : Nat, fb_ct (fun k => a.testBit k) 8 ≤ 8 := fun a => fb_ct_le _ _
  unfold pcL
  rw [show 64 = 8 * 8 from rfl, h]
  simp only [fb_sm, bm, Nat.div_div_eq_div_mul]
  simp only [show (256 : Nat) ^ 0 = 1 from rfl, show (256 : Nat) ^ 1 = 256 from rfl, show (256 : Nat) ^ 2 = 65536 from rfl, show (256 : Nat) ^ 3 = 16777216 from rfl, show (256 : Nat) ^ 4 = 4294967296 from rfl, show (256 : Nat) ^ 5 = 1099511627776 from rfl, show (256 : Nat) ^ 6 = 281474976710656 from rfl, show (256 : Nat) ^ 7 = 72057594037927936 from rfl, Nat.div_one, Nat.reduceMul]
  have c0 := cl (x % 256)
  have c1 := cl (x / 256 % 256)
  have c2 := cl (x / 65536 % 256)
  have c3 := cl (x / 16777216 % 256)
  have c4 := cl (x / 4294967296 % 256)
  have c5 := cl (x / 1099511627776 % 256)
  have c6 := cl (x / 281474976710656 % 256)
  have c7 := cl (x / 72057594037927936 % 256)
  generalize fb_ct (fun k => (x % 256).testBit k) 8 = d0 at *
  generalize fb_ct (fun k => (x / 256 % 256).testBit k) 8 = d1 at *
  generalize fb_ct (fun k => (x / 65536 % 256).testBit k) 8 = d2 at *
  generalize fb_ct (fun k => (x / 16777216 % 256).testBit k) 8 = d3 at *
  generalize fb_ct (fun k => (x / 4294967296 % 256).testBit k) 8 = d4 at *
  generalize fb_ct (fun k => (x / 1099511627776 % 256).testBit k) 8 = d5 at *
  generalize fb_ct (fun k => (x / 281474976710656 % 256).testBit k) 8 = d6 at *
  generalize fb_ct (fun k => (x / 72057594037927936 % 256).testBit k) 8 = d7 at *
  clear h cl
  generalize hA7 : 0 + d7 = A7
  generalize hA6 : 256 * A7 + d6 = A6
  generalize hA5 : 256 * A6 + d5 = A5
  generalize hA4 : 256 * A5 + d4 = A4
  generalize hA3 : 256 * A4 + d3 = A3
  generalize hA2 : 256 * A3 + d2 = A2
  generalize hA1 : 256 * A2 + d1 = A1
  have h1 : (256 * A1 + d0) / 256 = A1 := by omega
  rw [h1]
  have h2 : (256 * A1 + d0 + A1) / 65536 = A2 + A3 := by omega
  rw [h2]
  have h3 : (256 * A1 + d0 + A1 + (A2 + A3)) / 4294967296 = A4 + A5 + (A6 + A7) := by omega
  rw [h3]
  omega
theorem bm_lt (x : Nat) : ∀ n, bm (fun a => fb_ct (fun k => a.testBit k) 8) (n + 1) x < 9 * 256 ^ n := by
  intro n
  induction n generalizing x with
  | zero =>
    have h2 : fb_ct (fun k => (x % 256).testBit k) 8 ≤ 8 := fb_ct_le _ _
    show 256 * 0 + fb_ct (fun k => (x % 256).testBit k) 8 < 9 * 1
    omega
  | succ n ih =>
    have := ih (x / 256)
    have h2 : fb_ct (fun k => (x % 256).testBit k) 8 ≤ 8 := fb_ct_le _ _
    show 256 * bm (fun a => fb_ct (fun k => a.testBit k) 8) (n + 1) (x / 256) + fb_ct (fun k => (x % 256).testBit k) 8 < 9 * 256 ^ (n + 1)
    rw [Nat.pow_succ]
    omega
theorem us_1 {a : Nat} (h : a < 2 ^ 64) : ((lN a).toUInt64 >>> (Int64.toUInt64 1 &&& Int64.toUInt64 63)).toInt64 = lN (a / 2) := by
  rw [show Int64.toUInt64 1 = (nI 1).toInt64.toUInt64 by decide +kernel]; exact wb_shr (k := 1) h (by decide)
theorem us_2 {a : Nat} (h : a < 2 ^ 64) : ((lN a).toUInt64 >>> (Int64.toUInt64 2 &&& Int64.toUInt64 63)).toInt64 = lN (a / 4) := by
  rw [show Int64.toUInt64 2 = (nI 2).toInt64.toUInt64 by decide +kernel]; exact wb_shr (k := 2) h (by decide)
theorem us_4 {a : Nat} (h : a < 2 ^ 64) : ((lN a).toUInt64 >>> (Int64.toUInt64 4 &&& Int64.toUInt64 63)).toInt64 = lN (a / 16) := by
  rw [show Int64.toUInt64 4 = (nI 4).toInt64.toUInt64 by decide +kernel]; exact wb_shr (k := 4) h (by decide)
theorem us_8 {a : Nat} (h : a < 2 ^ 64) : ((lN a).toUInt64 >>> (Int64.toUInt64 8 &&& Int64.toUInt64 63)).toInt64 = lN (a / 256) := by
  rw [show Int64.toUInt64 8 = (nI 8).toInt64.toUInt64 by decide +kernel]; exact wb_shr (k := 8) h (by decide)
theorem us_16 {a : Nat} (h : a < 2 ^ 64) : ((lN a).toUInt64 >>> (Int64.toUInt64 16 &&& Int64.toUInt64 63)).toInt64 = lN (a / 65536) := by
  rw [show Int64.toUInt64 16 = (nI 16).toInt64.toUInt64 by decide +kernel]; exact wb_shr (k := 16) h (by decide)
theorem us_32 {a : Nat} (h : a < 2 ^ 64) : ((lN a).toUInt64 >>> (Int64.toUInt64 32 &&& Int64.toUInt64 63)).toInt64 = lN (a / 4294967296) := by
  rw [show Int64.toUInt64 32 = (nI 32).toInt64.toUInt64 by decide +kernel]; exact wb_shr (k := 32) h (by decide)
set_option maxHeartbeats 4000000 in
set_option maxRecDepth 100000 in
theorem cJ_bitsL (l : Launch) (X : Cx) (d : Nat) (M : Mm) (x : Nat) (hx : x < 2 ^ 64) : Cn l X yJ13_bitCount_95d88 cJ13_bitCount_95d88 2 (some .int) d [.long (lN x)] M (fun r M' => M' = M ∧ r = some (.int (nI (pcL x)))) 0 0 := by
  refine Cn.run 15 false (by decide) rfl (by decide) (by simp [entA, Value.category]) ?_
  intro P G hP hG
  have s1 := (s_all 8 x hx).1
  have e := bm_sum x
  have bl := bm_lt x 7
  have r5 : rp 85 8 = 6148914691236517205 := by decide +kernel
  have r3 : rp 51 8 = 3689348814741910323 := by decide +kernel
  have r1 : rp 15 8 = 1085102592571150095 := by decide +kernel
  rw [← s1] at e bl
  have la : sA 8 x ≤ x := Nat.sub_le _ _
  have lb : sB 8 (sA 8 x) ≤ 3689348814741910323 + 3689348814741910323 := by
    unfold sB
    rw [r3]
    exact Nat.add_le_add Nat.and_le_right Nat.and_le_right
  have ld := sA_le 8 x
  dsimp only at e
  have g10 : G 10 [some (.long (lN (sA 8 x))), none] [] M := by
    generalize hy : sA 8 x = y at *
    have g24 : G 24 [some (.long (lN (sB 8 y))), none] [] M := by
      generalize hz : sB 8 y = z at *
      have g34 : G 34 [some (.long (lN (sC 8 z))), none] [] M := by
        generalize sC 8 z = w at *
        have g41 : G 41 [some (.long (lN (w + w / 256))), none] [] M := by
          have g48 : G 48 [some (.long (lN (w + w / 256 + (w + w / 256) / 65536))), none] [] M := by
            have hul : w + w / 256 + (w + w / 256) / 65536 < 2 ^ 64 := by omega
            generalize w + w / 256 + (w + w / 256) / 65536 = u at e hul
            have g55 : G 55 [some (.long (lN (u + u / 4294967296))), none] [] M := by
              generalize u + u / 4294967296 = v at e
              refine hG.run [] 80 ?_
              simp [wp, stepI, ln, jmp, cmpI, Value.category, rd, tyF, va_rf, st1, st2, clr, isLg, CB, inx_0, inx_1, inx_2, inx_3, inx_4, inx_5, bI_0, bI_1, bI_ok, fin3, entL, dJ13_bitCount_95d88_0, dJ13_bitCount_95d88_1, dJ13_bitCount_95d88_2, dJ13_bitCount_95d88_3, dJ13_bitCount_95d88_4, cL_15_314, dJ13_bitCount_95d88_7, dJ13_bitCount_95d88_8, dJ13_bitCount_95d88_9, dJ13_bitCount_95d88_10, dJ13_bitCount_95d88_11, cL_15_316, dJ13_bitCount_95d88_14, dJ13_bitCount_95d88_15, dJ13_bitCount_95d88_16, dJ13_bitCount_95d88_17, dJ13_bitCount_95d88_18, dJ13_bitCount_95d88_21, dJ13_bitCount_95d88_22, dJ13_bitCount_95d88_23, dJ13_bitCount_95d88_24, dJ13_bitCount_95d88_25, dJ13_bitCount_95d88_26, dJ13_bitCount_95d88_27, dJ13_bitCount_95d88_28, dJ13_bitCount_95d88_29, cL_15_318, dJ13_bitCount_95d88_32, dJ13_bitCount_95d88_33, dJ13_bitCount_95d88_34, dJ13_bitCount_95d88_35, dJ13_bitCount_95d88_36, dJ13_bitCount_95d88_38, dJ13_bitCount_95d88_39, dJ13_bitCount_95d88_40, dJ13_bitCount_95d88_41, dJ13_bitCount_95d88_42, dJ13_bitCount_95d88_43, dJ13_bitCount_95d88_45, dJ13_bitCount_95d88_46, dJ13_bitCount_95d88_47, dJ13_bitCount_95d88_48, dJ13_bitCount_95d88_49, dJ13_bitCount_95d88_50, dJ13_bitCount_95d88_52, dJ13_bitCount_95d88_53, dJ13_bitCount_95d88_54, dJ13_bitCount_95d88_55, dJ13_bitCount_95d88_56, dJ13_bitCount_95d88_57, dJ13_bitCount_95d88_59, dJ13_bitCount_95d88_60]
              rw [lN_i, show (127 : Int32) = nI (2 ^ 7 - 1) from rfl, fa_mask, show (2 : Nat) ^ 7 = 128 from rfl, e]
              exact hP _ _ ⟨rfl, rfl⟩
            refine hG.run [55] 80 ?_
            simp [wp, stepI, ln, jmp, cmpI, Value.category, rd, tyF, va_rf, st1, st2, clr, isLg, CB, inx_0, inx_1, inx_2, inx_3, inx_4, inx_5, bI_0, bI_1, bI_ok, fin3, entL, dJ13_bitCount_95d88_0, dJ13_bitCount_95d88_1, dJ13_bitCount_95d88_2, dJ13_bitCount_95d88_3, dJ13_bitCount_95d88_4, cL_15_314, dJ13_bitCount_95d88_7, dJ13_bitCount_95d88_8, dJ13_bitCount_95d88_9, dJ13_bitCount_95d88_10, dJ13_bitCount_95d88_11, cL_15_316, dJ13_bitCount_95d88_14, dJ13_bitCount_95d88_15, dJ13_bitCount_95d88_16, dJ13_bitCount_95d88_17, dJ13_bitCount_95d88_18, dJ13_bitCount_95d88_21, dJ13_bitCount_95d88_22, dJ13_bitCount_95d88_23, dJ13_bitCount_95d88_24, dJ13_bitCount_95d88_25, dJ13_bitCount_95d88_26, dJ13_bitCount_95d88_27, dJ13_bitCount_95d88_28, dJ13_bitCount_95d88_29, cL_15_318, dJ13_bitCount_95d88_32, dJ13_bitCount_95d88_33, dJ13_bitCount_95d88_34, dJ13_bitCount_95d88_35, dJ13_bitCount_95d88_36, dJ13_bitCount_95d88_38, dJ13_bitCount_95d88_39, dJ13_bitCount_95d88_40, dJ13_bitCount_95d88_41, dJ13_bitCount_95d88_42, dJ13_bitCount_95d88_43, dJ13_bitCount_95d88_45, dJ13_bitCount_95d88_46, dJ13_bitCount_95d88_47, dJ13_bitCount_95d88_48, dJ13_bitCount_95d88_49, dJ13_bitCount_95d88_50, dJ13_bitCount_95d88_52, dJ13_bitCount_95d88_53, dJ13_bitCount_95d88_54, dJ13_bitCount_95d88_55, dJ13_bitCount_95d88_56, dJ13_bitCount_95d88_57, dJ13_bitCount_95d88_59, dJ13_bitCount_95d88_60]
            rw [us_32 hul, lN_add]
            exact g55
          refine hG.run [48] 80 ?_
          simp [wp, stepI, ln, jmp, cmpI, Value.category, rd, tyF, va_rf, st1, st2, clr, isLg, CB, inx_0, inx_1, inx_2, inx_3, inx_4, inx_5, bI_0, bI_1, bI_ok, fin3, entL, dJ13_bitCount_95d88_0, dJ13_bitCount_95d88_1, dJ13_bitCount_95d88_2, dJ13_bitCount_95d88_3, dJ13_bitCount_95d88_4, cL_15_314, dJ13_bitCount_95d88_7, dJ13_bitCount_95d88_8, dJ13_bitCount_95d88_9, dJ13_bitCount_95d88_10, dJ13_bitCount_95d88_11, cL_15_316, dJ13_bitCount_95d88_14, dJ13_bitCount_95d88_15, dJ13_bitCount_95d88_16, dJ13_bitCount_95d88_17, dJ13_bitCount_95d88_18, dJ13_bitCount_95d88_21, dJ13_bitCount_95d88_22, dJ13_bitCount_95d88_23, dJ13_bitCount_95d88_24, dJ13_bitCount_95d88_25, dJ13_bitCount_95d88_26, dJ13_bitCount_95d88_27, dJ13_bitCount_95d88_28, dJ13_bitCount_95d88_29, cL_15_318, dJ13_bitCount_95d88_32, dJ13_bitCount_95d88_33, dJ13_bitCount_95d88_34, dJ13_bitCount_95d88_35, dJ13_bitCount_95d88_36, dJ13_bitCount_95d88_38, dJ13_bitCount_95d88_39, dJ13_bitCount_95d88_40, dJ13_bitCount_95d88_41, dJ13_bitCount_95d88_42, dJ13_bitCount_95d88_43, dJ13_bitCount_95d88_45, dJ13_bitCount_95d88_46, dJ13_bitCount_95d88_47, dJ13_bitCount_95d88_48, dJ13_bitCount_95d88_49, dJ13_bitCount_95d88_50, dJ13_bitCount_95d88_52, dJ13_bitCount_95d88_53, dJ13_bitCount_95d88_54, dJ13_bitCount_95d88_55, dJ13_bitCount_95d88_56, dJ13_bitCount_95d88_57, dJ13_bitCount_95d88_59, dJ13_bitCount_95d88_60]
          rw [us_16 (by omega), lN_add]
          exact g48
        refine hG.run [41] 80 ?_
        simp [wp, stepI, ln, jmp, cmpI, Value.category, rd, tyF, va_rf, st1, st2, clr, isLg, CB, inx_0, inx_1, inx_2, inx_3, inx_4, inx_5, bI_0, bI_1, bI_ok, fin3, entL, dJ13_bitCount_95d88_0, dJ13_bitCount_95d88_1, dJ13_bitCount_95d88_2, dJ13_bitCount_95d88_3, dJ13_bitCount_95d88_4, cL_15_314, dJ13_bitCount_95d88_7, dJ13_bitCount_95d88_8, dJ13_bitCount_95d88_9, dJ13_bitCount_95d88_10, dJ13_bitCount_95d88_11, cL_15_316, dJ13_bitCount_95d88_14, dJ13_bitCount_95d88_15, dJ13_bitCount_95d88_16, dJ13_bitCount_95d88_17, dJ13_bitCount_95d88_18, dJ13_bitCount_95d88_21, dJ13_bitCount_95d88_22, dJ13_bitCount_95d88_23, dJ13_bitCount_95d88_24, dJ13_bitCount_95d88_25, dJ13_bitCount_95d88_26, dJ13_bitCount_95d88_27, dJ13_bitCount_95d88_28, dJ13_bitCount_95d88_29, cL_15_318, dJ13_bitCount_95d88_32, dJ13_bitCount_95d88_33, dJ13_bitCount_95d88_34, dJ13_bitCount_95d88_35, dJ13_bitCount_95d88_36, dJ13_bitCount_95d88_38, dJ13_bitCount_95d88_39, dJ13_bitCount_95d88_40, dJ13_bitCount_95d88_41, dJ13_bitCount_95d88_42, dJ13_bitCount_95d88_43, dJ13_bitCount_95d88_45, dJ13_bitCount_95d88_46, dJ13_bitCount_95d88_47, dJ13_bitCount_95d88_48, dJ13_bitCount_95d88_49, dJ13_bitCount_95d88_50, dJ13_bitCount_95d88_52, dJ13_bitCount_95d88_53, dJ13_bitCount_95d88_54, dJ13_bitCount_95d88_55, dJ13_bitCount_95d88_56, dJ13_bitCount_95d88_57, dJ13_bitCount_95d88_59, dJ13_bitCount_95d88_60]
        rw [us_8 (by omega), lN_add]
        exact g41
      refine hG.run [34] 80 ?_
      simp [wp, stepI, ln, jmp, cmpI, Value.category, rd, tyF, va_rf, st1, st2, clr, isLg, CB, inx_0, inx_1, inx_2, inx_3, inx_4, inx_5, bI_0, bI_1, bI_ok, fin3, entL, dJ13_bitCount_95d88_0, dJ13_bitCount_95d88_1, dJ13_bitCount_95d88_2, dJ13_bitCount_95d88_3, dJ13_bitCount_95d88_4, cL_15_314, dJ13_bitCount_95d88_7, dJ13_bitCount_95d88_8, dJ13_bitCount_95d88_9, dJ13_bitCount_95d88_10, dJ13_bitCount_95d88_11, cL_15_316, dJ13_bitCount_95d88_14, dJ13_bitCount_95d88_15, dJ13_bitCount_95d88_16, dJ13_bitCount_95d88_17, dJ13_bitCount_95d88_18, dJ13_bitCount_95d88_21, dJ13_bitCount_95d88_22, dJ13_bitCount_95d88_23, dJ13_bitCount_95d88_24, dJ13_bitCount_95d88_25, dJ13_bitCount_95d88_26, dJ13_bitCount_95d88_27, dJ13_bitCount_95d88_28, dJ13_bitCount_95d88_29, cL_15_318, dJ13_bitCount_95d88_32, dJ13_bitCount_95d88_33, dJ13_bitCount_95d88_34, dJ13_bitCount_95d88_35, dJ13_bitCount_95d88_36, dJ13_bitCount_95d88_38, dJ13_bitCount_95d88_39, dJ13_bitCount_95d88_40, dJ13_bitCount_95d88_41, dJ13_bitCount_95d88_42, dJ13_bitCount_95d88_43, dJ13_bitCount_95d88_45, dJ13_bitCount_95d88_46, dJ13_bitCount_95d88_47, dJ13_bitCount_95d88_48, dJ13_bitCount_95d88_49, dJ13_bitCount_95d88_50, dJ13_bitCount_95d88_52, dJ13_bitCount_95d88_53, dJ13_bitCount_95d88_54, dJ13_bitCount_95d88_55, dJ13_bitCount_95d88_56, dJ13_bitCount_95d88_57, dJ13_bitCount_95d88_59, dJ13_bitCount_95d88_60]
      rw [us_4 (by omega), lN_add]
      unfold sC at g34
      rw [r1, ← fb_andL] at g34
      exact g34
    refine hG.run [24] 80 ?_
    simp [wp, stepI, ln, jmp, cmpI, Value.category, rd, tyF, va_rf, st1, st2, clr, isLg, CB, inx_0, inx_1, inx_2, inx_3, inx_4, inx_5, bI_0, bI_1, bI_ok, fin3, entL, dJ13_bitCount_95d88_0, dJ13_bitCount_95d88_1, dJ13_bitCount_95d88_2, dJ13_bitCount_95d88_3, dJ13_bitCount_95d88_4, cL_15_314, dJ13_bitCount_95d88_7, dJ13_bitCount_95d88_8, dJ13_bitCount_95d88_9, dJ13_bitCount_95d88_10, dJ13_bitCount_95d88_11, cL_15_316, dJ13_bitCount_95d88_14, dJ13_bitCount_95d88_15, dJ13_bitCount_95d88_16, dJ13_bitCount_95d88_17, dJ13_bitCount_95d88_18, dJ13_bitCount_95d88_21, dJ13_bitCount_95d88_22, dJ13_bitCount_95d88_23, dJ13_bitCount_95d88_24, dJ13_bitCount_95d88_25, dJ13_bitCount_95d88_26, dJ13_bitCount_95d88_27, dJ13_bitCount_95d88_28, dJ13_bitCount_95d88_29, cL_15_318, dJ13_bitCount_95d88_32, dJ13_bitCount_95d88_33, dJ13_bitCount_95d88_34, dJ13_bitCount_95d88_35, dJ13_bitCount_95d88_36, dJ13_bitCount_95d88_38, dJ13_bitCount_95d88_39, dJ13_bitCount_95d88_40, dJ13_bitCount_95d88_41, dJ13_bitCount_95d88_42, dJ13_bitCount_95d88_43, dJ13_bitCount_95d88_45, dJ13_bitCount_95d88_46, dJ13_bitCount_95d88_47, dJ13_bitCount_95d88_48, dJ13_bitCount_95d88_49, dJ13_bitCount_95d88_50, dJ13_bitCount_95d88_52, dJ13_bitCount_95d88_53, dJ13_bitCount_95d88_54, dJ13_bitCount_95d88_55, dJ13_bitCount_95d88_56, dJ13_bitCount_95d88_57, dJ13_bitCount_95d88_59, dJ13_bitCount_95d88_60]
    rw [us_2 (by omega)]
    unfold sB at g24
    rw [r3, ← lN_add, ← fb_andL, ← fb_andL] at g24
    exact g24
  refine hG.run [10] 80 ?_
  simp [wp, stepI, ln, jmp, cmpI, Value.category, rd, tyF, va_rf, st1, st2, clr, isLg, CB, inx_0, inx_1, inx_2, inx_3, inx_4, inx_5, bI_0, bI_1, bI_ok, fin3, entL, dJ13_bitCount_95d88_0, dJ13_bitCount_95d88_1, dJ13_bitCount_95d88_2, dJ13_bitCount_95d88_3, dJ13_bitCount_95d88_4, cL_15_314, dJ13_bitCount_95d88_7, dJ13_bitCount_95d88_8, dJ13_bitCount_95d88_9, dJ13_bitCount_95d88_10, dJ13_bitCount_95d88_11, cL_15_316, dJ13_bitCount_95d88_14, dJ13_bitCount_95d88_15, dJ13_bitCount_95d88_16, dJ13_bitCount_95d88_17, dJ13_bitCount_95d88_18, dJ13_bitCount_95d88_21, dJ13_bitCount_95d88_22, dJ13_bitCount_95d88_23, dJ13_bitCount_95d88_24, dJ13_bitCount_95d88_25, dJ13_bitCount_95d88_26, dJ13_bitCount_95d88_27, dJ13_bitCount_95d88_28, dJ13_bitCount_95d88_29, cL_15_318, dJ13_bitCount_95d88_32, dJ13_bitCount_95d88_33, dJ13_bitCount_95d88_34, dJ13_bitCount_95d88_35, dJ13_bitCount_95d88_36, dJ13_bitCount_95d88_38, dJ13_bitCount_95d88_39, dJ13_bitCount_95d88_40, dJ13_bitCount_95d88_41, dJ13_bitCount_95d88_42, dJ13_bitCount_95d88_43, dJ13_bitCount_95d88_45, dJ13_bitCount_95d88_46, dJ13_bitCount_95d88_47, dJ13_bitCount_95d88_48, dJ13_bitCount_95d88_49, dJ13_bitCount_95d88_50, dJ13_bitCount_95d88_52, dJ13_bitCount_95d88_53, dJ13_bitCount_95d88_54, dJ13_bitCount_95d88_55, dJ13_bitCount_95d88_56, dJ13_bitCount_95d88_57, dJ13_bitCount_95d88_59, dJ13_bitCount_95d88_60]
  rw [us_1 (by omega)]
  unfold sA at g10
  rw [← lN_sub ld, r5, ← fb_andL] at g10
  exact g10
