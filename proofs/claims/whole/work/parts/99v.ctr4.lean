/-! the reference's constructor, an array at a time -/
set_option maxHeartbeats 1000000 in
set_option maxRecDepth 100000 in
theorem c12_s0 {l : Launch} {X : Cx} {d : Nat} {P : Option Value → Mm → Prop} {G : Nat → Nat → Nat → List (Option Value) → List Value → Mm → Prop} (hG : Ga l X 12 true cX12_init none d 41 28611 P G) {M : Mm} {S : Nat} (hS : S < 1000000) {V : RM} (hV : 1 ≤ V.1 ∧ V.1 ≤ 50) (hc : V.2.1 0 = .inl 12) {sh : Nat → Option Sh} {mI : Nat → Nat → Int32} {mL : Nat → Nat → Int64} {mR : Nat → Nat → Option Nat} {n : Nat} (B : Kt M S V (sh, mI, mL, mR, n)) (k q : Nat) (hk : k + 1 ≤ 41) (hq : q + 1000 ≤ 28611) (nx : ∀ sh' mI' mL' mR' n', Kt M S (rmA V 2 .int 1000) (sh', mI', mL', mR', n') → G (k + 1) (q + 1000) 13 [some (.ref S)] [] (sh', mI', mL', mR', n')) : G k q 4 [some (.ref S)] [] (sh, mI, mL, mR, n) := by
  have xS : S < 1000000000 := by omega
  have hn : n = S + V.1 := B.1
  refine hG.run [8] 20 ?_ (by omega) (by omega)
  simp [wp, stepI, ln, jmp, cmpI, Value.category, rd, tyF, va_rf, st1, st2, clr, isLg, CB, inx_0, inx_1, inx_2, inx_3, inx_4, inx_5, bI_0, bI_1, bI_ok, fin3, tyX12, dX12_init_4, dX12_init_5, dX12_init_8, dX12_init_10]
  refine hG.newa dX12_init_8 rfl (Or.inl rfl) wa_int (N := 1000) (by decide) (by decide) (by decide) (by show n < 1000000000; omega) ?_ (by omega) (by omega)
  show G _ _ 10 _ _ (upS sh n (.inr (.int, 1000)), up0 mI n 0, up0 mL n 0, up0 mR n none, n + 1)
  have B1 := B.arr hV.1 2 .int 1000
  have q1 : upS sh n (.inr (.int, 1000)) S = some (.inl 12) := by
    have := B.s hV.1 hc
    unfold upS; rw [if_neg (by omega)]; exact this
  have nx' := nx _ _ _ _ _ B1
  refine hG.run [13] 20 ?_ (by omega) (by omega)
  simp [wp, stepI, ln, jmp, cmpI, Value.category, rd, tyF, va_rf, st1, st2, clr, isLg, CB, inx_0, inx_1, inx_2, inx_3, inx_4, inx_5, bI_0, bI_1, bI_ok, fin3, tyX12, q1, okv, wr, finF, clT, TX12, xS, fT_12_7, dX12_init_4, dX12_init_5, dX12_init_8, dX12_init_10]
  exact nx'
set_option maxHeartbeats 1000000 in
set_option maxRecDepth 100000 in
theorem c12_s1 {l : Launch} {X : Cx} {d : Nat} {P : Option Value → Mm → Prop} {G : Nat → Nat → Nat → List (Option Value) → List Value → Mm → Prop} (hG : Ga l X 12 true cX12_init none d 41 28611 P G) {M : Mm} {S : Nat} (hS : S < 1000000) {V : RM} (hV : 1 ≤ V.1 ∧ V.1 ≤ 50) (hc : V.2.1 0 = .inl 12) {sh : Nat → Option Sh} {mI : Nat → Nat → Int32} {mL : Nat → Nat → Int64} {mR : Nat → Nat → Option Nat} {n : Nat} (B : Kt M S V (sh, mI, mL, mR, n)) (k q : Nat) (hk : k + 1 ≤ 41) (hq : q + 6 ≤ 28611) (nx : ∀ sh' mI' mL' mR' n', Kt M S (rmA V 10 .int 6) (sh', mI', mL', mR', n') → G (k + 1) (q + 6) 21 [some (.ref S)] [] (sh', mI', mL', mR', n')) : G k q 13 [some (.ref S)] [] (sh, mI, mL, mR, n) := by
  have xS : S < 1000000000 := by omega
  have hn : n = S + V.1 := B.1
  refine hG.run [16] 20 ?_ (by omega) (by omega)
  simp [wp, stepI, ln, jmp, cmpI, Value.category, rd, tyF, va_rf, st1, st2, clr, isLg, CB, inx_0, inx_1, inx_2, inx_3, inx_4, inx_5, bI_0, bI_1, bI_ok, fin3, tyX12, dX12_init_13, dX12_init_14, dX12_init_16, dX12_init_18]
  refine hG.newa dX12_init_16 rfl (Or.inl rfl) wa_int (N := 6) (by decide) (by decide) (by decide) (by show n < 1000000000; omega) ?_ (by omega) (by omega)
  show G _ _ 18 _ _ (upS sh n (.inr (.int, 6)), up0 mI n 0, up0 mL n 0, up0 mR n none, n + 1)
  have B1 := B.arr hV.1 10 .int 6
  have q1 : upS sh n (.inr (.int, 6)) S = some (.inl 12) := by
    have := B.s hV.1 hc
    unfold upS; rw [if_neg (by omega)]; exact this
  have nx' := nx _ _ _ _ _ B1
  refine hG.run [21] 20 ?_ (by omega) (by omega)
  simp [wp, stepI, ln, jmp, cmpI, Value.category, rd, tyF, va_rf, st1, st2, clr, isLg, CB, inx_0, inx_1, inx_2, inx_3, inx_4, inx_5, bI_0, bI_1, bI_ok, fin3, tyX12, q1, okv, wr, finF, clT, TX12, xS, fT_12_13, dX12_init_13, dX12_init_14, dX12_init_16, dX12_init_18]
  exact nx'
set_option maxHeartbeats 1000000 in
set_option maxRecDepth 100000 in
theorem c12_s2 {l : Launch} {X : Cx} {d : Nat} {P : Option Value → Mm → Prop} {G : Nat → Nat → Nat → List (Option Value) → List Value → Mm → Prop} (hG : Ga l X 12 true cX12_init none d 41 28611 P G) {M : Mm} {S : Nat} (hS : S < 1000000) {V : RM} (hV : 1 ≤ V.1 ∧ V.1 ≤ 50) (hc : V.2.1 0 = .inl 12) {sh : Nat → Option Sh} {mI : Nat → Nat → Int32} {mL : Nat → Nat → Int64} {mR : Nat → Nat → Option Nat} {n : Nat} (B : Kt M S V (sh, mI, mL, mR, n)) (k q : Nat) (hk : k + 1 ≤ 41) (hq : q + 6 ≤ 28611) (nx : ∀ sh' mI' mL' mR' n', Kt M S (rmA V 11 .int 6) (sh', mI', mL', mR', n') → G (k + 1) (q + 6) 29 [some (.ref S)] [] (sh', mI', mL', mR', n')) : G k q 21 [some (.ref S)] [] (sh, mI, mL, mR, n) := by
  have xS : S < 1000000000 := by omega
  have hn : n = S + V.1 := B.1
  refine hG.run [24] 20 ?_ (by omega) (by omega)
  simp [wp, stepI, ln, jmp, cmpI, Value.category, rd, tyF, va_rf, st1, st2, clr, isLg, CB, inx_0, inx_1, inx_2, inx_3, inx_4, inx_5, bI_0, bI_1, bI_ok, fin3, tyX12, dX12_init_21, dX12_init_22, dX12_init_24, dX12_init_26]
  refine hG.newa dX12_init_24 rfl (Or.inl rfl) wa_int (N := 6) (by decide) (by decide) (by decide) (by show n < 1000000000; omega) ?_ (by omega) (by omega)
  show G _ _ 26 _ _ (upS sh n (.inr (.int, 6)), up0 mI n 0, up0 mL n 0, up0 mR n none, n + 1)
  have B1 := B.arr hV.1 11 .int 6
  have q1 : upS sh n (.inr (.int, 6)) S = some (.inl 12) := by
    have := B.s hV.1 hc
    unfold upS; rw [if_neg (by omega)]; exact this
  have nx' := nx _ _ _ _ _ B1
  refine hG.run [29] 20 ?_ (by omega) (by omega)
  simp [wp, stepI, ln, jmp, cmpI, Value.category, rd, tyF, va_rf, st1, st2, clr, isLg, CB, inx_0, inx_1, inx_2, inx_3, inx_4, inx_5, bI_0, bI_1, bI_ok, fin3, tyX12, q1, okv, wr, finF, clT, TX12, xS, fT_12_16, dX12_init_21, dX12_init_22, dX12_init_24, dX12_init_26]
  exact nx'
set_option maxHeartbeats 1000000 in
set_option maxRecDepth 100000 in
theorem c12_s3 {l : Launch} {X : Cx} {d : Nat} {P : Option Value → Mm → Prop} {G : Nat → Nat → Nat → List (Option Value) → List Value → Mm → Prop} (hG : Ga l X 12 true cX12_init none d 41 28611 P G) {M : Mm} {S : Nat} (hS : S < 1000000) {V : RM} (hV : 1 ≤ V.1 ∧ V.1 ≤ 50) (hc : V.2.1 0 = .inl 12) {sh : Nat → Option Sh} {mI : Nat → Nat → Int32} {mL : Nat → Nat → Int64} {mR : Nat → Nat → Option Nat} {n : Nat} (B : Kt M S V (sh, mI, mL, mR, n)) (k q : Nat) (hk : k + 1 ≤ 41) (hq : q + 6 ≤ 28611) (nx : ∀ sh' mI' mL' mR' n', Kt M S (rmA V 12 .int 6) (sh', mI', mL', mR', n') → G (k + 1) (q + 6) 37 [some (.ref S)] [] (sh', mI', mL', mR', n')) : G k q 29 [some (.ref S)] [] (sh, mI, mL, mR, n) := by
  have xS : S < 1000000000 := by omega
  have hn : n = S + V.1 := B.1
  refine hG.run [32] 20 ?_ (by omega) (by omega)
  simp [wp, stepI, ln, jmp, cmpI, Value.category, rd, tyF, va_rf, st1, st2, clr, isLg, CB, inx_0, inx_1, inx_2, inx_3, inx_4, inx_5, bI_0, bI_1, bI_ok, fin3, tyX12, dX12_init_29, dX12_init_30, dX12_init_32, dX12_init_34]
  refine hG.newa dX12_init_32 rfl (Or.inl rfl) wa_int (N := 6) (by decide) (by decide) (by decide) (by show n < 1000000000; omega) ?_ (by omega) (by omega)
  show G _ _ 34 _ _ (upS sh n (.inr (.int, 6)), up0 mI n 0, up0 mL n 0, up0 mR n none, n + 1)
  have B1 := B.arr hV.1 12 .int 6
  have q1 : upS sh n (.inr (.int, 6)) S = some (.inl 12) := by
    have := B.s hV.1 hc
    unfold upS; rw [if_neg (by omega)]; exact this
  have nx' := nx _ _ _ _ _ B1
  refine hG.run [37] 20 ?_ (by omega) (by omega)
  simp [wp, stepI, ln, jmp, cmpI, Value.category, rd, tyF, va_rf, st1, st2, clr, isLg, CB, inx_0, inx_1, inx_2, inx_3, inx_4, inx_5, bI_0, bI_1, bI_ok, fin3, tyX12, q1, okv, wr, finF, clT, TX12, xS, fT_12_19, dX12_init_29, dX12_init_30, dX12_init_32, dX12_init_34]
  exact nx'
set_option maxHeartbeats 1000000 in
set_option maxRecDepth 100000 in
theorem c12_s4 {l : Launch} {X : Cx} {d : Nat} {P : Option Value → Mm → Prop} {G : Nat → Nat → Nat → List (Option Value) → List Value → Mm → Prop} (hG : Ga l X 12 true cX12_init none d 41 28611 P G) {M : Mm} {S : Nat} (hS : S < 1000000) {V : RM} (hV : 1 ≤ V.1 ∧ V.1 ≤ 50) (hc : V.2.1 0 = .inl 12) {sh : Nat → Option Sh} {mI : Nat → Nat → Int32} {mL : Nat → Nat → Int64} {mR : Nat → Nat → Option Nat} {n : Nat} (B : Kt M S V (sh, mI, mL, mR, n)) (k q : Nat) (hk : k + 1 ≤ 41) (hq : q + 10 ≤ 28611) (nx : ∀ sh' mI' mL' mR' n', Kt M S (rmA V 13 .long 10) (sh', mI', mL', mR', n') → G (k + 1) (q + 10) 45 [some (.ref S)] [] (sh', mI', mL', mR', n')) : G k q 37 [some (.ref S)] [] (sh, mI, mL, mR, n) := by
  have xS : S < 1000000000 := by omega
  have hn : n = S + V.1 := B.1
  refine hG.run [40] 20 ?_ (by omega) (by omega)
  simp [wp, stepI, ln, jmp, cmpI, Value.category, rd, tyF, va_rf, st1, st2, clr, isLg, CB, inx_0, inx_1, inx_2, inx_3, inx_4, inx_5, bI_0, bI_1, bI_ok, fin3, tyX12, dX12_init_37, dX12_init_38, dX12_init_40, dX12_init_42]
  refine hG.newa dX12_init_40 rfl (Or.inr (Or.inl rfl)) wa_long (N := 10) (by decide) (by decide) (by decide) (by show n < 1000000000; omega) ?_ (by omega) (by omega)
  show G _ _ 42 _ _ (upS sh n (.inr (.long, 10)), up0 mI n 0, up0 mL n 0, up0 mR n none, n + 1)
  have B1 := B.arr hV.1 13 .long 10
  have q1 : upS sh n (.inr (.long, 10)) S = some (.inl 12) := by
    have := B.s hV.1 hc
    unfold upS; rw [if_neg (by omega)]; exact this
  have nx' := nx _ _ _ _ _ B1
  refine hG.run [45] 20 ?_ (by omega) (by omega)
  simp [wp, stepI, ln, jmp, cmpI, Value.category, rd, tyF, va_rf, st1, st2, clr, isLg, CB, inx_0, inx_1, inx_2, inx_3, inx_4, inx_5, bI_0, bI_1, bI_ok, fin3, tyX12, q1, okv, wr, finF, clT, TX12, xS, fT_12_22, dX12_init_37, dX12_init_38, dX12_init_40, dX12_init_42]
  exact nx'
set_option maxHeartbeats 1000000 in
set_option maxRecDepth 100000 in
theorem c12_s5 {l : Launch} {X : Cx} {d : Nat} {P : Option Value → Mm → Prop} {G : Nat → Nat → Nat → List (Option Value) → List Value → Mm → Prop} (hG : Ga l X 12 true cX12_init none d 41 28611 P G) {M : Mm} {S : Nat} (hS : S < 1000000) {V : RM} (hV : 1 ≤ V.1 ∧ V.1 ≤ 50) (hc : V.2.1 0 = .inl 12) {sh : Nat → Option Sh} {mI : Nat → Nat → Int32} {mL : Nat → Nat → Int64} {mR : Nat → Nat → Option Nat} {n : Nat} (B : Kt M S V (sh, mI, mL, mR, n)) (k q : Nat) (hk : k + 1 ≤ 41) (hq : q + 60 ≤ 28611) (nx : ∀ sh' mI' mL' mR' n', Kt M S (rmA V 14 .int 60) (sh', mI', mL', mR', n') → G (k + 1) (q + 60) 53 [some (.ref S)] [] (sh', mI', mL', mR', n')) : G k q 45 [some (.ref S)] [] (sh, mI, mL, mR, n) := by
  have xS : S < 1000000000 := by omega
  have hn : n = S + V.1 := B.1
  refine hG.run [48] 20 ?_ (by omega) (by omega)
  simp [wp, stepI, ln, jmp, cmpI, Value.category, rd, tyF, va_rf, st1, st2, clr, isLg, CB, inx_0, inx_1, inx_2, inx_3, inx_4, inx_5, bI_0, bI_1, bI_ok, fin3, tyX12, dX12_init_45, dX12_init_46, dX12_init_48, dX12_init_50]
  refine hG.newa dX12_init_48 rfl (Or.inl rfl) wa_int (N := 60) (by decide) (by decide) (by decide) (by show n < 1000000000; omega) ?_ (by omega) (by omega)
  show G _ _ 50 _ _ (upS sh n (.inr (.int, 60)), up0 mI n 0, up0 mL n 0, up0 mR n none, n + 1)
  have B1 := B.arr hV.1 14 .int 60
  have q1 : upS sh n (.inr (.int, 60)) S = some (.inl 12) := by
    have := B.s hV.1 hc
    unfold upS; rw [if_neg (by omega)]; exact this
  have nx' := nx _ _ _ _ _ B1
  refine hG.run [53] 20 ?_ (by omega) (by omega)
  simp [wp, stepI, ln, jmp, cmpI, Value.category, rd, tyF, va_rf, st1, st2, clr, isLg, CB, inx_0, inx_1, inx_2, inx_3, inx_4, inx_5, bI_0, bI_1, bI_ok, fin3, tyX12, q1, okv, wr, finF, clT, TX12, xS, fT_12_26, dX12_init_45, dX12_init_46, dX12_init_48, dX12_init_50]
  exact nx'
set_option maxHeartbeats 1000000 in
set_option maxRecDepth 100000 in
theorem c12_s6 {l : Launch} {X : Cx} {d : Nat} {P : Option Value → Mm → Prop} {G : Nat → Nat → Nat → List (Option Value) → List Value → Mm → Prop} (hG : Ga l X 12 true cX12_init none d 41 28611 P G) {M : Mm} {S : Nat} (hS : S < 1000000) {V : RM} (hV : 1 ≤ V.1 ∧ V.1 ≤ 50) (hc : V.2.1 0 = .inl 12) {sh : Nat → Option Sh} {mI : Nat → Nat → Int32} {mL : Nat → Nat → Int64} {mR : Nat → Nat → Option Nat} {n : Nat} (B : Kt M S V (sh, mI, mL, mR, n)) (k q : Nat) (hk : k + 1 ≤ 41) (hq : q + 60 ≤ 28611) (nx : ∀ sh' mI' mL' mR' n', Kt M S (rmA V 15 .int 60) (sh', mI', mL', mR', n') → G (k + 1) (q + 60) 61 [some (.ref S)] [] (sh', mI', mL', mR', n')) : G k q 53 [some (.ref S)] [] (sh, mI, mL, mR, n) := by
  have xS : S < 1000000000 := by omega
  have hn : n = S + V.1 := B.1
  refine hG.run [56] 20 ?_ (by omega) (by omega)
  simp [wp, stepI, ln, jmp, cmpI, Value.category, rd, tyF, va_rf, st1, st2, clr, isLg, CB, inx_0, inx_1, inx_2, inx_3, inx_4, inx_5, bI_0, bI_1, bI_ok, fin3, tyX12, dX12_init_53, dX12_init_54, dX12_init_56, dX12_init_58]
  refine hG.newa dX12_init_56 rfl (Or.inl rfl) wa_int (N := 60) (by decide) (by decide) (by decide) (by show n < 1000000000; omega) ?_ (by omega) (by omega)
  show G _ _ 58 _ _ (upS sh n (.inr (.int, 60)), up0 mI n 0, up0 mL n 0, up0 mR n none, n + 1)
  have B1 := B.arr hV.1 15 .int 60
  have q1 : upS sh n (.inr (.int, 60)) S = some (.inl 12) := by
    have := B.s hV.1 hc
    unfold upS; rw [if_neg (by omega)]; exact this
  have nx' := nx _ _ _ _ _ B1
  refine hG.run [61] 20 ?_ (by omega) (by omega)
  simp [wp, stepI, ln, jmp, cmpI, Value.category, rd, tyF, va_rf, st1, st2, clr, isLg, CB, inx_0, inx_1, inx_2, inx_3, inx_4, inx_5, bI_0, bI_1, bI_ok, fin3, tyX12, q1, okv, wr, finF, clT, TX12, xS, fT_12_29, dX12_init_53, dX12_init_54, dX12_init_56, dX12_init_58]
  exact nx'
set_option maxHeartbeats 1000000 in
set_option maxRecDepth 100000 in
theorem c12_s7 {l : Launch} {X : Cx} {d : Nat} {P : Option Value → Mm → Prop} {G : Nat → Nat → Nat → List (Option Value) → List Value → Mm → Prop} (hG : Ga l X 12 true cX12_init none d 41 28611 P G) {M : Mm} {S : Nat} (hS : S < 1000000) {V : RM} (hV : 1 ≤ V.1 ∧ V.1 ≤ 50) (hc : V.2.1 0 = .inl 12) {sh : Nat → Option Sh} {mI : Nat → Nat → Int32} {mL : Nat → Nat → Int64} {mR : Nat → Nat → Option Nat} {n : Nat} (B : Kt M S V (sh, mI, mL, mR, n)) (k q : Nat) (hk : k + 1 ≤ 41) (hq : q + 36 ≤ 28611) (nx : ∀ sh' mI' mL' mR' n', Kt M S (rmA V 16 .int 36) (sh', mI', mL', mR', n') → G (k + 1) (q + 36) 69 [some (.ref S)] [] (sh', mI', mL', mR', n')) : G k q 61 [some (.ref S)] [] (sh, mI, mL, mR, n) := by
  have xS : S < 1000000000 := by omega
  have hn : n = S + V.1 := B.1
  refine hG.run [64] 20 ?_ (by omega) (by omega)
  simp [wp, stepI, ln, jmp, cmpI, Value.category, rd, tyF, va_rf, st1, st2, clr, isLg, CB, inx_0, inx_1, inx_2, inx_3, inx_4, inx_5, bI_0, bI_1, bI_ok, fin3, tyX12, dX12_init_61, dX12_init_62, dX12_init_64, dX12_init_66]
  refine hG.newa dX12_init_64 rfl (Or.inl rfl) wa_int (N := 36) (by decide) (by decide) (by decide) (by show n < 1000000000; omega) ?_ (by omega) (by omega)
  show G _ _ 66 _ _ (upS sh n (.inr (.int, 36)), up0 mI n 0, up0 mL n 0, up0 mR n none, n + 1)
  have B1 := B.arr hV.1 16 .int 36
  have q1 : upS sh n (.inr (.int, 36)) S = some (.inl 12) := by
    have := B.s hV.1 hc
    unfold upS; rw [if_neg (by omega)]; exact this
  have nx' := nx _ _ _ _ _ B1
  refine hG.run [69] 20 ?_ (by omega) (by omega)
  simp [wp, stepI, ln, jmp, cmpI, Value.category, rd, tyF, va_rf, st1, st2, clr, isLg, CB, inx_0, inx_1, inx_2, inx_3, inx_4, inx_5, bI_0, bI_1, bI_ok, fin3, tyX12, q1, okv, wr, finF, clT, TX12, xS, fT_12_32, dX12_init_61, dX12_init_62, dX12_init_64, dX12_init_66]
  exact nx'
set_option maxHeartbeats 1000000 in
set_option maxRecDepth 100000 in
theorem c12_s8 {l : Launch} {X : Cx} {d : Nat} {P : Option Value → Mm → Prop} {G : Nat → Nat → Nat → List (Option Value) → List Value → Mm → Prop} (hG : Ga l X 12 true cX12_init none d 41 28611 P G) {M : Mm} {S : Nat} (hS : S < 1000000) {V : RM} (hV : 1 ≤ V.1 ∧ V.1 ≤ 50) (hc : V.2.1 0 = .inl 12) {sh : Nat → Option Sh} {mI : Nat → Nat → Int32} {mL : Nat → Nat → Int64} {mR : Nat → Nat → Option Nat} {n : Nat} (B : Kt M S V (sh, mI, mL, mR, n)) (k q : Nat) (hk : k + 1 ≤ 41) (hq : q + 600 ≤ 28611) (nx : ∀ sh' mI' mL' mR' n', Kt M S (rmA V 17 .int 600) (sh', mI', mL', mR', n') → G (k + 1) (q + 600) 78 [some (.ref S)] [] (sh', mI', mL', mR', n')) : G k q 69 [some (.ref S)] [] (sh, mI, mL, mR, n) := by
  have xS : S < 1000000000 := by omega
  have hn : n = S + V.1 := B.1
  refine hG.run [73] 20 ?_ (by omega) (by omega)
  simp [wp, stepI, ln, jmp, cmpI, Value.category, rd, tyF, va_rf, st1, st2, clr, isLg, CB, inx_0, inx_1, inx_2, inx_3, inx_4, inx_5, bI_0, bI_1, bI_ok, fin3, tyX12, dX12_init_69, dX12_init_70, dX12_init_73, dX12_init_75]
  refine hG.newa dX12_init_73 rfl (Or.inl rfl) wa_int (N := 600) (by decide) (by decide) (by decide) (by show n < 1000000000; omega) ?_ (by omega) (by omega)
  show G _ _ 75 _ _ (upS sh n (.inr (.int, 600)), up0 mI n 0, up0 mL n 0, up0 mR n none, n + 1)
  have B1 := B.arr hV.1 17 .int 600
  have q1 : upS sh n (.inr (.int, 600)) S = some (.inl 12) := by
    have := B.s hV.1 hc
    unfold upS; rw [if_neg (by omega)]; exact this
  have nx' := nx _ _ _ _ _ B1
  refine hG.run [78] 20 ?_ (by omega) (by omega)
  simp [wp, stepI, ln, jmp, cmpI, Value.category, rd, tyF, va_rf, st1, st2, clr, isLg, CB, inx_0, inx_1, inx_2, inx_3, inx_4, inx_5, bI_0, bI_1, bI_ok, fin3, tyX12, q1, okv, wr, finF, clT, TX12, xS, fT_12_35, dX12_init_69, dX12_init_70, dX12_init_73, dX12_init_75]
  exact nx'
set_option maxHeartbeats 1000000 in
set_option maxRecDepth 100000 in
theorem c12_s9 {l : Launch} {X : Cx} {d : Nat} {P : Option Value → Mm → Prop} {G : Nat → Nat → Nat → List (Option Value) → List Value → Mm → Prop} (hG : Ga l X 12 true cX12_init none d 41 28611 P G) {M : Mm} {S : Nat} (hS : S < 1000000) {V : RM} (hV : 1 ≤ V.1 ∧ V.1 ≤ 50) (hc : V.2.1 0 = .inl 12) {sh : Nat → Option Sh} {mI : Nat → Nat → Int32} {mL : Nat → Nat → Int64} {mR : Nat → Nat → Option Nat} {n : Nat} (B : Kt M S V (sh, mI, mL, mR, n)) (k q : Nat) (hk : k + 1 ≤ 41) (hq : q + 6 ≤ 28611) (nx : ∀ sh' mI' mL' mR' n', Kt M S (rmA V 18 .int 6) (sh', mI', mL', mR', n') → G (k + 1) (q + 6) 86 [some (.ref S)] [] (sh', mI', mL', mR', n')) : G k q 78 [some (.ref S)] [] (sh, mI, mL, mR, n) := by
  have xS : S < 1000000000 := by omega
  have hn : n = S + V.1 := B.1
  refine hG.run [81] 20 ?_ (by omega) (by omega)
  simp [wp, stepI, ln, jmp, cmpI, Value.category, rd, tyF, va_rf, st1, st2, clr, isLg, CB, inx_0, inx_1, inx_2, inx_3, inx_4, inx_5, bI_0, bI_1, bI_ok, fin3, tyX12, dX12_init_78, dX12_init_79, dX12_init_81, dX12_init_83]
  refine hG.newa dX12_init_81 rfl (Or.inl rfl) wa_int (N := 6) (by decide) (by decide) (by decide) (by show n < 1000000000; omega) ?_ (by omega) (by omega)
  show G _ _ 83 _ _ (upS sh n (.inr (.int, 6)), up0 mI n 0, up0 mL n 0, up0 mR n none, n + 1)
  have B1 := B.arr hV.1 18 .int 6
  have q1 : upS sh n (.inr (.int, 6)) S = some (.inl 12) := by
    have := B.s hV.1 hc
    unfold upS; rw [if_neg (by omega)]; exact this
  have nx' := nx _ _ _ _ _ B1
  refine hG.run [86] 20 ?_ (by omega) (by omega)
  simp [wp, stepI, ln, jmp, cmpI, Value.category, rd, tyF, va_rf, st1, st2, clr, isLg, CB, inx_0, inx_1, inx_2, inx_3, inx_4, inx_5, bI_0, bI_1, bI_ok, fin3, tyX12, q1, okv, wr, finF, clT, TX12, xS, fT_12_38, dX12_init_78, dX12_init_79, dX12_init_81, dX12_init_83]
  exact nx'
set_option maxHeartbeats 1000000 in
set_option maxRecDepth 100000 in
theorem c12_s10 {l : Launch} {X : Cx} {d : Nat} {P : Option Value → Mm → Prop} {G : Nat → Nat → Nat → List (Option Value) → List Value → Mm → Prop} (hG : Ga l X 12 true cX12_init none d 41 28611 P G) {M : Mm} {S : Nat} (hS : S < 1000000) {V : RM} (hV : 1 ≤ V.1 ∧ V.1 ≤ 50) (hc : V.2.1 0 = .inl 12) {sh : Nat → Option Sh} {mI : Nat → Nat → Int32} {mL : Nat → Nat → Int64} {mR : Nat → Nat → Option Nat} {n : Nat} (B : Kt M S V (sh, mI, mL, mR, n)) (k q : Nat) (hk : k + 1 ≤ 41) (hq : q + 6 ≤ 28611) (nx : ∀ sh' mI' mL' mR' n', Kt M S (rmA V 19 .int 6) (sh', mI', mL', mR', n') → G (k + 1) (q + 6) 94 [some (.ref S)] [] (sh', mI', mL', mR', n')) : G k q 86 [some (.ref S)] [] (sh, mI, mL, mR, n) := by
  have xS : S < 1000000000 := by omega
  have hn : n = S + V.1 := B.1
  refine hG.run [89] 20 ?_ (by omega) (by omega)
  simp [wp, stepI, ln, jmp, cmpI, Value.category, rd, tyF, va_rf, st1, st2, clr, isLg, CB, inx_0, inx_1, inx_2, inx_3, inx_4, inx_5, bI_0, bI_1, bI_ok, fin3, tyX12, dX12_init_86, dX12_init_87, dX12_init_89, dX12_init_91]
  refine hG.newa dX12_init_89 rfl (Or.inl rfl) wa_int (N := 6) (by decide) (by decide) (by decide) (by show n < 1000000000; omega) ?_ (by omega) (by omega)
  show G _ _ 91 _ _ (upS sh n (.inr (.int, 6)), up0 mI n 0, up0 mL n 0, up0 mR n none, n + 1)
  have B1 := B.arr hV.1 19 .int 6
  have q1 : upS sh n (.inr (.int, 6)) S = some (.inl 12) := by
    have := B.s hV.1 hc
    unfold upS; rw [if_neg (by omega)]; exact this
  have nx' := nx _ _ _ _ _ B1
  refine hG.run [94] 20 ?_ (by omega) (by omega)
  simp [wp, stepI, ln, jmp, cmpI, Value.category, rd, tyF, va_rf, st1, st2, clr, isLg, CB, inx_0, inx_1, inx_2, inx_3, inx_4, inx_5, bI_0, bI_1, bI_ok, fin3, tyX12, q1, okv, wr, finF, clT, TX12, xS, fT_12_41, dX12_init_86, dX12_init_87, dX12_init_89, dX12_init_91]
  exact nx'
set_option maxHeartbeats 1000000 in
set_option maxRecDepth 100000 in
theorem c12_s11 {l : Launch} {X : Cx} {d : Nat} {P : Option Value → Mm → Prop} {G : Nat → Nat → Nat → List (Option Value) → List Value → Mm → Prop} (hG : Ga l X 12 true cX12_init none d 41 28611 P G) {M : Mm} {S : Nat} (hS : S < 1000000) {V : RM} (hV : 1 ≤ V.1 ∧ V.1 ≤ 50) (hc : V.2.1 0 = .inl 12) {sh : Nat → Option Sh} {mI : Nat → Nat → Int32} {mL : Nat → Nat → Int64} {mR : Nat → Nat → Option Nat} {n : Nat} (B : Kt M S V (sh, mI, mL, mR, n)) (k q : Nat) (hk : k + 1 ≤ 41) (hq : q + 6000 ≤ 28611) (nx : ∀ sh' mI' mL' mR' n', Kt M S (rmA V 20 .int 6000) (sh', mI', mL', mR', n') → G (k + 1) (q + 6000) 103 [some (.ref S)] [] (sh', mI', mL', mR', n')) : G k q 94 [some (.ref S)] [] (sh, mI, mL, mR, n) := by
  have xS : S < 1000000000 := by omega
  have hn : n = S + V.1 := B.1
  refine hG.run [98] 20 ?_ (by omega) (by omega)
  simp [wp, stepI, ln, jmp, cmpI, Value.category, rd, tyF, va_rf, st1, st2, clr, isLg, CB, inx_0, inx_1, inx_2, inx_3, inx_4, inx_5, bI_0, bI_1, bI_ok, fin3, tyX12, dX12_init_94, dX12_init_95, dX12_init_98, dX12_init_100]
  refine hG.newa dX12_init_98 rfl (Or.inl rfl) wa_int (N := 6000) (by decide) (by decide) (by decide) (by show n < 1000000000; omega) ?_ (by omega) (by omega)
  show G _ _ 100 _ _ (upS sh n (.inr (.int, 6000)), up0 mI n 0, up0 mL n 0, up0 mR n none, n + 1)
  have B1 := B.arr hV.1 20 .int 6000
  have q1 : upS sh n (.inr (.int, 6000)) S = some (.inl 12) := by
    have := B.s hV.1 hc
    unfold upS; rw [if_neg (by omega)]; exact this
  have nx' := nx _ _ _ _ _ B1
  refine hG.run [103] 20 ?_ (by omega) (by omega)
  simp [wp, stepI, ln, jmp, cmpI, Value.category, rd, tyF, va_rf, st1, st2, clr, isLg, CB, inx_0, inx_1, inx_2, inx_3, inx_4, inx_5, bI_0, bI_1, bI_ok, fin3, tyX12, q1, okv, wr, finF, clT, TX12, xS, fT_12_44, dX12_init_94, dX12_init_95, dX12_init_98, dX12_init_100]
  exact nx'
set_option maxHeartbeats 1000000 in
set_option maxRecDepth 100000 in
theorem c12_s12 {l : Launch} {X : Cx} {d : Nat} {P : Option Value → Mm → Prop} {G : Nat → Nat → Nat → List (Option Value) → List Value → Mm → Prop} (hG : Ga l X 12 true cX12_init none d 41 28611 P G) {M : Mm} {S : Nat} (hS : S < 1000000) {V : RM} (hV : 1 ≤ V.1 ∧ V.1 ≤ 50) (hc : V.2.1 0 = .inl 12) {sh : Nat → Option Sh} {mI : Nat → Nat → Int32} {mL : Nat → Nat → Int64} {mR : Nat → Nat → Option Nat} {n : Nat} (B : Kt M S V (sh, mI, mL, mR, n)) (k q : Nat) (hk : k + 1 ≤ 41) (hq : q + 144 ≤ 28611) (nx : ∀ sh' mI' mL' mR' n', Kt M S (rmA V 21 .int 144) (sh', mI', mL', mR', n') → G (k + 1) (q + 144) 112 [some (.ref S)] [] (sh', mI', mL', mR', n')) : G k q 103 [some (.ref S)] [] (sh, mI, mL, mR, n) := by
  have xS : S < 1000000000 := by omega
  have hn : n = S + V.1 := B.1
  refine hG.run [107] 20 ?_ (by omega) (by omega)
  simp [wp, stepI, ln, jmp, cmpI, Value.category, rd, tyF, va_rf, st1, st2, clr, isLg, CB, inx_0, inx_1, inx_2, inx_3, inx_4, inx_5, bI_0, bI_1, bI_ok, fin3, tyX12, dX12_init_103, dX12_init_104, dX12_init_107, dX12_init_109]
  refine hG.newa dX12_init_107 rfl (Or.inl rfl) wa_int (N := 144) (by decide) (by decide) (by decide) (by show n < 1000000000; omega) ?_ (by omega) (by omega)
  show G _ _ 109 _ _ (upS sh n (.inr (.int, 144)), up0 mI n 0, up0 mL n 0, up0 mR n none, n + 1)
  have B1 := B.arr hV.1 21 .int 144
  have q1 : upS sh n (.inr (.int, 144)) S = some (.inl 12) := by
    have := B.s hV.1 hc
    unfold upS; rw [if_neg (by omega)]; exact this
  have nx' := nx _ _ _ _ _ B1
  refine hG.run [112] 20 ?_ (by omega) (by omega)
  simp [wp, stepI, ln, jmp, cmpI, Value.category, rd, tyF, va_rf, st1, st2, clr, isLg, CB, inx_0, inx_1, inx_2, inx_3, inx_4, inx_5, bI_0, bI_1, bI_ok, fin3, tyX12, q1, okv, wr, finF, clT, TX12, xS, fT_12_47, dX12_init_103, dX12_init_104, dX12_init_107, dX12_init_109]
  exact nx'
set_option maxHeartbeats 1000000 in
set_option maxRecDepth 100000 in
theorem c12_s13 {l : Launch} {X : Cx} {d : Nat} {P : Option Value → Mm → Prop} {G : Nat → Nat → Nat → List (Option Value) → List Value → Mm → Prop} (hG : Ga l X 12 true cX12_init none d 41 28611 P G) {M : Mm} {S : Nat} (hS : S < 1000000) {V : RM} (hV : 1 ≤ V.1 ∧ V.1 ≤ 50) (hc : V.2.1 0 = .inl 12) {sh : Nat → Option Sh} {mI : Nat → Nat → Int32} {mL : Nat → Nat → Int64} {mR : Nat → Nat → Option Nat} {n : Nat} (B : Kt M S V (sh, mI, mL, mR, n)) (k q : Nat) (hk : k + 1 ≤ 41) (hq : q + 100 ≤ 28611) (nx : ∀ sh' mI' mL' mR' n', Kt M S (rmA V 22 .boolean 100) (sh', mI', mL', mR', n') → G (k + 1) (q + 100) 120 [some (.ref S)] [] (sh', mI', mL', mR', n')) : G k q 112 [some (.ref S)] [] (sh, mI, mL, mR, n) := by
  have xS : S < 1000000000 := by omega
  have hn : n = S + V.1 := B.1
  refine hG.run [115] 20 ?_ (by omega) (by omega)
  simp [wp, stepI, ln, jmp, cmpI, Value.category, rd, tyF, va_rf, st1, st2, clr, isLg, CB, inx_0, inx_1, inx_2, inx_3, inx_4, inx_5, bI_0, bI_1, bI_ok, fin3, tyX12, dX12_init_112, dX12_init_113, dX12_init_115, dX12_init_117]
  refine hG.newa dX12_init_115 rfl (Or.inr (Or.inr (Or.inr rfl))) wa_boolean (N := 100) (by decide) (by decide) (by decide) (by show n < 1000000000; omega) ?_ (by omega) (by omega)
  show G _ _ 117 _ _ (upS sh n (.inr (.boolean, 100)), up0 mI n 0, up0 mL n 0, up0 mR n none, n + 1)
  have B1 := B.arr hV.1 22 .boolean 100
  have q1 : upS sh n (.inr (.boolean, 100)) S = some (.inl 12) := by
    have := B.s hV.1 hc
    unfold upS; rw [if_neg (by omega)]; exact this
  have nx' := nx _ _ _ _ _ B1
  refine hG.run [120] 20 ?_ (by omega) (by omega)
  simp [wp, stepI, ln, jmp, cmpI, Value.category, rd, tyF, va_rf, st1, st2, clr, isLg, CB, inx_0, inx_1, inx_2, inx_3, inx_4, inx_5, bI_0, bI_1, bI_ok, fin3, tyX12, q1, okv, wr, finF, clT, TX12, xS, fT_12_50, dX12_init_112, dX12_init_113, dX12_init_115, dX12_init_117]
  exact nx'
set_option maxHeartbeats 1000000 in
set_option maxRecDepth 100000 in
theorem c12_s14 {l : Launch} {X : Cx} {d : Nat} {P : Option Value → Mm → Prop} {G : Nat → Nat → Nat → List (Option Value) → List Value → Mm → Prop} (hG : Ga l X 12 true cX12_init none d 41 28611 P G) {M : Mm} {S : Nat} (hS : S < 1000000) {V : RM} (hV : 1 ≤ V.1 ∧ V.1 ≤ 50) (hc : V.2.1 0 = .inl 12) {sh : Nat → Option Sh} {mI : Nat → Nat → Int32} {mL : Nat → Nat → Int64} {mR : Nat → Nat → Option Nat} {n : Nat} (B : Kt M S V (sh, mI, mL, mR, n)) (k q : Nat) (hk : k + 1 ≤ 41) (hq : q + 7 ≤ 28611) (nx : ∀ sh' mI' mL' mR' n', Kt M S (rmA V 26 .int 7) (sh', mI', mL', mR', n') → G (k + 1) (q + 7) 128 [some (.ref S)] [] (sh', mI', mL', mR', n')) : G k q 120 [some (.ref S)] [] (sh, mI, mL, mR, n) := by
  have xS : S < 1000000000 := by omega
  have hn : n = S + V.1 := B.1
  refine hG.run [123] 20 ?_ (by omega) (by omega)
  simp [wp, stepI, ln, jmp, cmpI, Value.category, rd, tyF, va_rf, st1, st2, clr, isLg, CB, inx_0, inx_1, inx_2, inx_3, inx_4, inx_5, bI_0, bI_1, bI_ok, fin3, tyX12, dX12_init_120, dX12_init_121, dX12_init_123, dX12_init_125]
  refine hG.newa dX12_init_123 rfl (Or.inl rfl) wa_int (N := 7) (by decide) (by decide) (by decide) (by show n < 1000000000; omega) ?_ (by omega) (by omega)
  show G _ _ 125 _ _ (upS sh n (.inr (.int, 7)), up0 mI n 0, up0 mL n 0, up0 mR n none, n + 1)
  have B1 := B.arr hV.1 26 .int 7
  have q1 : upS sh n (.inr (.int, 7)) S = some (.inl 12) := by
    have := B.s hV.1 hc
    unfold upS; rw [if_neg (by omega)]; exact this
  have nx' := nx _ _ _ _ _ B1
  refine hG.run [128] 20 ?_ (by omega) (by omega)
  simp [wp, stepI, ln, jmp, cmpI, Value.category, rd, tyF, va_rf, st1, st2, clr, isLg, CB, inx_0, inx_1, inx_2, inx_3, inx_4, inx_5, bI_0, bI_1, bI_ok, fin3, tyX12, q1, okv, wr, finF, clT, TX12, xS, fT_12_54, dX12_init_120, dX12_init_121, dX12_init_123, dX12_init_125]
  exact nx'
set_option maxHeartbeats 1000000 in
set_option maxRecDepth 100000 in
theorem c12_s15 {l : Launch} {X : Cx} {d : Nat} {P : Option Value → Mm → Prop} {G : Nat → Nat → Nat → List (Option Value) → List Value → Mm → Prop} (hG : Ga l X 12 true cX12_init none d 41 28611 P G) {M : Mm} {S : Nat} (hS : S < 1000000) {V : RM} (hV : 1 ≤ V.1 ∧ V.1 ≤ 50) (hc : V.2.1 0 = .inl 12) {sh : Nat → Option Sh} {mI : Nat → Nat → Int32} {mL : Nat → Nat → Int64} {mR : Nat → Nat → Option Nat} {n : Nat} (B : Kt M S V (sh, mI, mL, mR, n)) (k q : Nat) (hk : k + 1 ≤ 41) (hq : q + 7 ≤ 28611) (nx : ∀ sh' mI' mL' mR' n', Kt M S (rmA V 27 .boolean 7) (sh', mI', mL', mR', n') → G (k + 1) (q + 7) 136 [some (.ref S)] [] (sh', mI', mL', mR', n')) : G k q 128 [some (.ref S)] [] (sh, mI, mL, mR, n) := by
  have xS : S < 1000000000 := by omega
  have hn : n = S + V.1 := B.1
  refine hG.run [131] 20 ?_ (by omega) (by omega)
  simp [wp, stepI, ln, jmp, cmpI, Value.category, rd, tyF, va_rf, st1, st2, clr, isLg, CB, inx_0, inx_1, inx_2, inx_3, inx_4, inx_5, bI_0, bI_1, bI_ok, fin3, tyX12, dX12_init_128, dX12_init_129, dX12_init_131, dX12_init_133]
  refine hG.newa dX12_init_131 rfl (Or.inr (Or.inr (Or.inr rfl))) wa_boolean (N := 7) (by decide) (by decide) (by decide) (by show n < 1000000000; omega) ?_ (by omega) (by omega)
  show G _ _ 133 _ _ (upS sh n (.inr (.boolean, 7)), up0 mI n 0, up0 mL n 0, up0 mR n none, n + 1)
  have B1 := B.arr hV.1 27 .boolean 7
  have q1 : upS sh n (.inr (.boolean, 7)) S = some (.inl 12) := by
    have := B.s hV.1 hc
    unfold upS; rw [if_neg (by omega)]; exact this
  have nx' := nx _ _ _ _ _ B1
  refine hG.run [136] 20 ?_ (by omega) (by omega)
  simp [wp, stepI, ln, jmp, cmpI, Value.category, rd, tyF, va_rf, st1, st2, clr, isLg, CB, inx_0, inx_1, inx_2, inx_3, inx_4, inx_5, bI_0, bI_1, bI_ok, fin3, tyX12, q1, okv, wr, finF, clT, TX12, xS, fT_12_57, dX12_init_128, dX12_init_129, dX12_init_131, dX12_init_133]
  exact nx'
set_option maxHeartbeats 1000000 in
set_option maxRecDepth 100000 in
theorem c12_s16 {l : Launch} {X : Cx} {d : Nat} {P : Option Value → Mm → Prop} {G : Nat → Nat → Nat → List (Option Value) → List Value → Mm → Prop} (hG : Ga l X 12 true cX12_init none d 41 28611 P G) {M : Mm} {S : Nat} (hS : S < 1000000) {V : RM} (hV : 1 ≤ V.1 ∧ V.1 ≤ 50) (hc : V.2.1 0 = .inl 12) {sh : Nat → Option Sh} {mI : Nat → Nat → Int32} {mL : Nat → Nat → Int64} {mR : Nat → Nat → Option Nat} {n : Nat} (B : Kt M S V (sh, mI, mL, mR, n)) (k q : Nat) (hk : k + 1 ≤ 41) (hq : q + 7 ≤ 28611) (nx : ∀ sh' mI' mL' mR' n', Kt M S (rmA V 28 .int 7) (sh', mI', mL', mR', n') → G (k + 1) (q + 7) 144 [some (.ref S)] [] (sh', mI', mL', mR', n')) : G k q 136 [some (.ref S)] [] (sh, mI, mL, mR, n) := by
  have xS : S < 1000000000 := by omega
  have hn : n = S + V.1 := B.1
  refine hG.run [139] 20 ?_ (by omega) (by omega)
  simp [wp, stepI, ln, jmp, cmpI, Value.category, rd, tyF, va_rf, st1, st2, clr, isLg, CB, inx_0, inx_1, inx_2, inx_3, inx_4, inx_5, bI_0, bI_1, bI_ok, fin3, tyX12, dX12_init_136, dX12_init_137, dX12_init_139, dX12_init_141]
  refine hG.newa dX12_init_139 rfl (Or.inl rfl) wa_int (N := 7) (by decide) (by decide) (by decide) (by show n < 1000000000; omega) ?_ (by omega) (by omega)
  show G _ _ 141 _ _ (upS sh n (.inr (.int, 7)), up0 mI n 0, up0 mL n 0, up0 mR n none, n + 1)
  have B1 := B.arr hV.1 28 .int 7
  have q1 : upS sh n (.inr (.int, 7)) S = some (.inl 12) := by
    have := B.s hV.1 hc
    unfold upS; rw [if_neg (by omega)]; exact this
  have nx' := nx _ _ _ _ _ B1
  refine hG.run [144] 20 ?_ (by omega) (by omega)
  simp [wp, stepI, ln, jmp, cmpI, Value.category, rd, tyF, va_rf, st1, st2, clr, isLg, CB, inx_0, inx_1, inx_2, inx_3, inx_4, inx_5, bI_0, bI_1, bI_ok, fin3, tyX12, q1, okv, wr, finF, clT, TX12, xS, fT_12_60, dX12_init_136, dX12_init_137, dX12_init_139, dX12_init_141]
  exact nx'
set_option maxHeartbeats 1000000 in
set_option maxRecDepth 100000 in
theorem c12_s17 {l : Launch} {X : Cx} {d : Nat} {P : Option Value → Mm → Prop} {G : Nat → Nat → Nat → List (Option Value) → List Value → Mm → Prop} (hG : Ga l X 12 true cX12_init none d 41 28611 P G) {M : Mm} {S : Nat} (hS : S < 1000000) {V : RM} (hV : 1 ≤ V.1 ∧ V.1 ≤ 50) (hc : V.2.1 0 = .inl 12) {sh : Nat → Option Sh} {mI : Nat → Nat → Int32} {mL : Nat → Nat → Int64} {mR : Nat → Nat → Option Nat} {n : Nat} (B : Kt M S V (sh, mI, mL, mR, n)) (k q : Nat) (hk : k + 1 ≤ 41) (hq : q + 7 ≤ 28611) (nx : ∀ sh' mI' mL' mR' n', Kt M S (rmA V 29 .int 7) (sh', mI', mL', mR', n') → G (k + 1) (q + 7) 152 [some (.ref S)] [] (sh', mI', mL', mR', n')) : G k q 144 [some (.ref S)] [] (sh, mI, mL, mR, n) := by
  have xS : S < 1000000000 := by omega
  have hn : n = S + V.1 := B.1
  refine hG.run [147] 20 ?_ (by omega) (by omega)
  simp [wp, stepI, ln, jmp, cmpI, Value.category, rd, tyF, va_rf, st1, st2, clr, isLg, CB, inx_0, inx_1, inx_2, inx_3, inx_4, inx_5, bI_0, bI_1, bI_ok, fin3, tyX12, dX12_init_144, dX12_init_145, dX12_init_147, dX12_init_149]
  refine hG.newa dX12_init_147 rfl (Or.inl rfl) wa_int (N := 7) (by decide) (by decide) (by decide) (by show n < 1000000000; omega) ?_ (by omega) (by omega)
  show G _ _ 149 _ _ (upS sh n (.inr (.int, 7)), up0 mI n 0, up0 mL n 0, up0 mR n none, n + 1)
  have B1 := B.arr hV.1 29 .int 7
  have q1 : upS sh n (.inr (.int, 7)) S = some (.inl 12) := by
    have := B.s hV.1 hc
    unfold upS; rw [if_neg (by omega)]; exact this
  have nx' := nx _ _ _ _ _ B1
  refine hG.run [152] 20 ?_ (by omega) (by omega)
  simp [wp, stepI, ln, jmp, cmpI, Value.category, rd, tyF, va_rf, st1, st2, clr, isLg, CB, inx_0, inx_1, inx_2, inx_3, inx_4, inx_5, bI_0, bI_1, bI_ok, fin3, tyX12, q1, okv, wr, finF, clT, TX12, xS, fT_12_63, dX12_init_144, dX12_init_145, dX12_init_147, dX12_init_149]
  exact nx'
set_option maxHeartbeats 1000000 in
set_option maxRecDepth 100000 in
theorem c12_s18 {l : Launch} {X : Cx} {d : Nat} {P : Option Value → Mm → Prop} {G : Nat → Nat → Nat → List (Option Value) → List Value → Mm → Prop} (hG : Ga l X 12 true cX12_init none d 41 28611 P G) {M : Mm} {S : Nat} (hS : S < 1000000) {V : RM} (hV : 1 ≤ V.1 ∧ V.1 ≤ 50) (hc : V.2.1 0 = .inl 12) {sh : Nat → Option Sh} {mI : Nat → Nat → Int32} {mL : Nat → Nat → Int64} {mR : Nat → Nat → Option Nat} {n : Nat} (B : Kt M S V (sh, mI, mL, mR, n)) (k q : Nat) (hk : k + 1 ≤ 41) (hq : q + 7 ≤ 28611) (nx : ∀ sh' mI' mL' mR' n', Kt M S (rmA V 30 .int 7) (sh', mI', mL', mR', n') → G (k + 1) (q + 7) 160 [some (.ref S)] [] (sh', mI', mL', mR', n')) : G k q 152 [some (.ref S)] [] (sh, mI, mL, mR, n) := by
  have xS : S < 1000000000 := by omega
  have hn : n = S + V.1 := B.1
  refine hG.run [155] 20 ?_ (by omega) (by omega)
  simp [wp, stepI, ln, jmp, cmpI, Value.category, rd, tyF, va_rf, st1, st2, clr, isLg, CB, inx_0, inx_1, inx_2, inx_3, inx_4, inx_5, bI_0, bI_1, bI_ok, fin3, tyX12, dX12_init_152, dX12_init_153, dX12_init_155, dX12_init_157]
  refine hG.newa dX12_init_155 rfl (Or.inl rfl) wa_int (N := 7) (by decide) (by decide) (by decide) (by show n < 1000000000; omega) ?_ (by omega) (by omega)
  show G _ _ 157 _ _ (upS sh n (.inr (.int, 7)), up0 mI n 0, up0 mL n 0, up0 mR n none, n + 1)
  have B1 := B.arr hV.1 30 .int 7
  have q1 : upS sh n (.inr (.int, 7)) S = some (.inl 12) := by
    have := B.s hV.1 hc
    unfold upS; rw [if_neg (by omega)]; exact this
  have nx' := nx _ _ _ _ _ B1
  refine hG.run [160] 20 ?_ (by omega) (by omega)
  simp [wp, stepI, ln, jmp, cmpI, Value.category, rd, tyF, va_rf, st1, st2, clr, isLg, CB, inx_0, inx_1, inx_2, inx_3, inx_4, inx_5, bI_0, bI_1, bI_ok, fin3, tyX12, q1, okv, wr, finF, clT, TX12, xS, fT_12_66, dX12_init_152, dX12_init_153, dX12_init_155, dX12_init_157]
  exact nx'
set_option maxHeartbeats 1000000 in
set_option maxRecDepth 100000 in
theorem c12_s19 {l : Launch} {X : Cx} {d : Nat} {P : Option Value → Mm → Prop} {G : Nat → Nat → Nat → List (Option Value) → List Value → Mm → Prop} (hG : Ga l X 12 true cX12_init none d 41 28611 P G) {M : Mm} {S : Nat} (hS : S < 1000000) {V : RM} (hV : 1 ≤ V.1 ∧ V.1 ≤ 50) (hc : V.2.1 0 = .inl 12) {sh : Nat → Option Sh} {mI : Nat → Nat → Int32} {mL : Nat → Nat → Int64} {mR : Nat → Nat → Option Nat} {n : Nat} (B : Kt M S V (sh, mI, mL, mR, n)) (k q : Nat) (hk : k + 1 ≤ 41) (hq : q + 7 ≤ 28611) (nx : ∀ sh' mI' mL' mR' n', Kt M S (rmA V 31 .int 7) (sh', mI', mL', mR', n') → G (k + 1) (q + 7) 168 [some (.ref S)] [] (sh', mI', mL', mR', n')) : G k q 160 [some (.ref S)] [] (sh, mI, mL, mR, n) := by
  have xS : S < 1000000000 := by omega
  have hn : n = S + V.1 := B.1
  refine hG.run [163] 20 ?_ (by omega) (by omega)
  simp [wp, stepI, ln, jmp, cmpI, Value.category, rd, tyF, va_rf, st1, st2, clr, isLg, CB, inx_0, inx_1, inx_2, inx_3, inx_4, inx_5, bI_0, bI_1, bI_ok, fin3, tyX12, dX12_init_160, dX12_init_161, dX12_init_163, dX12_init_165]
  refine hG.newa dX12_init_163 rfl (Or.inl rfl) wa_int (N := 7) (by decide) (by decide) (by decide) (by show n < 1000000000; omega) ?_ (by omega) (by omega)
  show G _ _ 165 _ _ (upS sh n (.inr (.int, 7)), up0 mI n 0, up0 mL n 0, up0 mR n none, n + 1)
  have B1 := B.arr hV.1 31 .int 7
  have q1 : upS sh n (.inr (.int, 7)) S = some (.inl 12) := by
    have := B.s hV.1 hc
    unfold upS; rw [if_neg (by omega)]; exact this
  have nx' := nx _ _ _ _ _ B1
  refine hG.run [168] 20 ?_ (by omega) (by omega)
  simp [wp, stepI, ln, jmp, cmpI, Value.category, rd, tyF, va_rf, st1, st2, clr, isLg, CB, inx_0, inx_1, inx_2, inx_3, inx_4, inx_5, bI_0, bI_1, bI_ok, fin3, tyX12, q1, okv, wr, finF, clT, TX12, xS, fT_12_69, dX12_init_160, dX12_init_161, dX12_init_163, dX12_init_165]
  exact nx'
set_option maxHeartbeats 1000000 in
set_option maxRecDepth 100000 in
theorem c12_s20 {l : Launch} {X : Cx} {d : Nat} {P : Option Value → Mm → Prop} {G : Nat → Nat → Nat → List (Option Value) → List Value → Mm → Prop} (hG : Ga l X 12 true cX12_init none d 41 28611 P G) {M : Mm} {S : Nat} (hS : S < 1000000) {V : RM} (hV : 1 ≤ V.1 ∧ V.1 ≤ 50) (hc : V.2.1 0 = .inl 12) {sh : Nat → Option Sh} {mI : Nat → Nat → Int32} {mL : Nat → Nat → Int64} {mR : Nat → Nat → Option Nat} {n : Nat} (B : Kt M S V (sh, mI, mL, mR, n)) (k q : Nat) (hk : k + 1 ≤ 41) (hq : q + 7 ≤ 28611) (nx : ∀ sh' mI' mL' mR' n', Kt M S (rmA V 32 .int 7) (sh', mI', mL', mR', n') → G (k + 1) (q + 7) 176 [some (.ref S)] [] (sh', mI', mL', mR', n')) : G k q 168 [some (.ref S)] [] (sh, mI, mL, mR, n) := by
  have xS : S < 1000000000 := by omega
  have hn : n = S + V.1 := B.1
  refine hG.run [171] 20 ?_ (by omega) (by omega)
  simp [wp, stepI, ln, jmp, cmpI, Value.category, rd, tyF, va_rf, st1, st2, clr, isLg, CB, inx_0, inx_1, inx_2, inx_3, inx_4, inx_5, bI_0, bI_1, bI_ok, fin3, tyX12, dX12_init_168, dX12_init_169, dX12_init_171, dX12_init_173]
  refine hG.newa dX12_init_171 rfl (Or.inl rfl) wa_int (N := 7) (by decide) (by decide) (by decide) (by show n < 1000000000; omega) ?_ (by omega) (by omega)
  show G _ _ 173 _ _ (upS sh n (.inr (.int, 7)), up0 mI n 0, up0 mL n 0, up0 mR n none, n + 1)
  have B1 := B.arr hV.1 32 .int 7
  have q1 : upS sh n (.inr (.int, 7)) S = some (.inl 12) := by
    have := B.s hV.1 hc
    unfold upS; rw [if_neg (by omega)]; exact this
  have nx' := nx _ _ _ _ _ B1
  refine hG.run [176] 20 ?_ (by omega) (by omega)
  simp [wp, stepI, ln, jmp, cmpI, Value.category, rd, tyF, va_rf, st1, st2, clr, isLg, CB, inx_0, inx_1, inx_2, inx_3, inx_4, inx_5, bI_0, bI_1, bI_ok, fin3, tyX12, q1, okv, wr, finF, clT, TX12, xS, fT_12_72, dX12_init_168, dX12_init_169, dX12_init_171, dX12_init_173]
  exact nx'
set_option maxHeartbeats 1000000 in
set_option maxRecDepth 100000 in
theorem c12_s21 {l : Launch} {X : Cx} {d : Nat} {P : Option Value → Mm → Prop} {G : Nat → Nat → Nat → List (Option Value) → List Value → Mm → Prop} (hG : Ga l X 12 true cX12_init none d 41 28611 P G) {M : Mm} {S : Nat} (hS : S < 1000000) {V : RM} (hV : 1 ≤ V.1 ∧ V.1 ≤ 50) (hc : V.2.1 0 = .inl 12) {sh : Nat → Option Sh} {mI : Nat → Nat → Int32} {mL : Nat → Nat → Int64} {mR : Nat → Nat → Option Nat} {n : Nat} (B : Kt M S V (sh, mI, mL, mR, n)) (k q : Nat) (hk : k + 1 ≤ 41) (hq : q + 7 ≤ 28611) (nx : ∀ sh' mI' mL' mR' n', Kt M S (rmA V 33 .int 7) (sh', mI', mL', mR', n') → G (k + 1) (q + 7) 184 [some (.ref S)] [] (sh', mI', mL', mR', n')) : G k q 176 [some (.ref S)] [] (sh, mI, mL, mR, n) := by
  have xS : S < 1000000000 := by omega
  have hn : n = S + V.1 := B.1
  refine hG.run [179] 20 ?_ (by omega) (by omega)
  simp [wp, stepI, ln, jmp, cmpI, Value.category, rd, tyF, va_rf, st1, st2, clr, isLg, CB, inx_0, inx_1, inx_2, inx_3, inx_4, inx_5, bI_0, bI_1, bI_ok, fin3, tyX12, dX12_init_176, dX12_init_177, dX12_init_179, dX12_init_181]
  refine hG.newa dX12_init_179 rfl (Or.inl rfl) wa_int (N := 7) (by decide) (by decide) (by decide) (by show n < 1000000000; omega) ?_ (by omega) (by omega)
  show G _ _ 181 _ _ (upS sh n (.inr (.int, 7)), up0 mI n 0, up0 mL n 0, up0 mR n none, n + 1)
  have B1 := B.arr hV.1 33 .int 7
  have q1 : upS sh n (.inr (.int, 7)) S = some (.inl 12) := by
    have := B.s hV.1 hc
    unfold upS; rw [if_neg (by omega)]; exact this
  have nx' := nx _ _ _ _ _ B1
  refine hG.run [184] 20 ?_ (by omega) (by omega)
  simp [wp, stepI, ln, jmp, cmpI, Value.category, rd, tyF, va_rf, st1, st2, clr, isLg, CB, inx_0, inx_1, inx_2, inx_3, inx_4, inx_5, bI_0, bI_1, bI_ok, fin3, tyX12, q1, okv, wr, finF, clT, TX12, xS, fT_12_75, dX12_init_176, dX12_init_177, dX12_init_179, dX12_init_181]
  exact nx'
set_option maxHeartbeats 1000000 in
set_option maxRecDepth 100000 in
theorem c12_s22 {l : Launch} {X : Cx} {d : Nat} {P : Option Value → Mm → Prop} {G : Nat → Nat → Nat → List (Option Value) → List Value → Mm → Prop} (hG : Ga l X 12 true cX12_init none d 41 28611 P G) {M : Mm} {S : Nat} (hS : S < 1000000) {V : RM} (hV : 1 ≤ V.1 ∧ V.1 ≤ 50) (hc : V.2.1 0 = .inl 12) {sh : Nat → Option Sh} {mI : Nat → Nat → Int32} {mL : Nat → Nat → Int64} {mR : Nat → Nat → Option Nat} {n : Nat} (B : Kt M S V (sh, mI, mL, mR, n)) (k q : Nat) (hk : k + 1 ≤ 41) (hq : q + 7 ≤ 28611) (nx : ∀ sh' mI' mL' mR' n', Kt M S (rmA V 34 .int 7) (sh', mI', mL', mR', n') → G (k + 1) (q + 7) 192 [some (.ref S)] [] (sh', mI', mL', mR', n')) : G k q 184 [some (.ref S)] [] (sh, mI, mL, mR, n) := by
  have xS : S < 1000000000 := by omega
  have hn : n = S + V.1 := B.1
  refine hG.run [187] 20 ?_ (by omega) (by omega)
  simp [wp, stepI, ln, jmp, cmpI, Value.category, rd, tyF, va_rf, st1, st2, clr, isLg, CB, inx_0, inx_1, inx_2, inx_3, inx_4, inx_5, bI_0, bI_1, bI_ok, fin3, tyX12, dX12_init_184, dX12_init_185, dX12_init_187, dX12_init_189]
  refine hG.newa dX12_init_187 rfl (Or.inl rfl) wa_int (N := 7) (by decide) (by decide) (by decide) (by show n < 1000000000; omega) ?_ (by omega) (by omega)
  show G _ _ 189 _ _ (upS sh n (.inr (.int, 7)), up0 mI n 0, up0 mL n 0, up0 mR n none, n + 1)
  have B1 := B.arr hV.1 34 .int 7
  have q1 : upS sh n (.inr (.int, 7)) S = some (.inl 12) := by
    have := B.s hV.1 hc
    unfold upS; rw [if_neg (by omega)]; exact this
  have nx' := nx _ _ _ _ _ B1
  refine hG.run [192] 20 ?_ (by omega) (by omega)
  simp [wp, stepI, ln, jmp, cmpI, Value.category, rd, tyF, va_rf, st1, st2, clr, isLg, CB, inx_0, inx_1, inx_2, inx_3, inx_4, inx_5, bI_0, bI_1, bI_ok, fin3, tyX12, q1, okv, wr, finF, clT, TX12, xS, fT_12_78, dX12_init_184, dX12_init_185, dX12_init_187, dX12_init_189]
  exact nx'
set_option maxHeartbeats 1000000 in
set_option maxRecDepth 100000 in
theorem c12_s23 {l : Launch} {X : Cx} {d : Nat} {P : Option Value → Mm → Prop} {G : Nat → Nat → Nat → List (Option Value) → List Value → Mm → Prop} (hG : Ga l X 12 true cX12_init none d 41 28611 P G) {M : Mm} {S : Nat} (hS : S < 1000000) {V : RM} (hV : 1 ≤ V.1 ∧ V.1 ≤ 50) (hc : V.2.1 0 = .inl 12) {sh : Nat → Option Sh} {mI : Nat → Nat → Int32} {mL : Nat → Nat → Int64} {mR : Nat → Nat → Option Nat} {n : Nat} (B : Kt M S V (sh, mI, mL, mR, n)) (k q : Nat) (hk : k + 1 ≤ 41) (hq : q + 7 ≤ 28611) (nx : ∀ sh' mI' mL' mR' n', Kt M S (rmA V 35 .int 7) (sh', mI', mL', mR', n') → G (k + 1) (q + 7) 200 [some (.ref S)] [] (sh', mI', mL', mR', n')) : G k q 192 [some (.ref S)] [] (sh, mI, mL, mR, n) := by
  have xS : S < 1000000000 := by omega
  have hn : n = S + V.1 := B.1
  refine hG.run [195] 20 ?_ (by omega) (by omega)
  simp [wp, stepI, ln, jmp, cmpI, Value.category, rd, tyF, va_rf, st1, st2, clr, isLg, CB, inx_0, inx_1, inx_2, inx_3, inx_4, inx_5, bI_0, bI_1, bI_ok, fin3, tyX12, dX12_init_192, dX12_init_193, dX12_init_195, dX12_init_197]
  refine hG.newa dX12_init_195 rfl (Or.inl rfl) wa_int (N := 7) (by decide) (by decide) (by decide) (by show n < 1000000000; omega) ?_ (by omega) (by omega)
  show G _ _ 197 _ _ (upS sh n (.inr (.int, 7)), up0 mI n 0, up0 mL n 0, up0 mR n none, n + 1)
  have B1 := B.arr hV.1 35 .int 7
  have q1 : upS sh n (.inr (.int, 7)) S = some (.inl 12) := by
    have := B.s hV.1 hc
    unfold upS; rw [if_neg (by omega)]; exact this
  have nx' := nx _ _ _ _ _ B1
  refine hG.run [200] 20 ?_ (by omega) (by omega)
  simp [wp, stepI, ln, jmp, cmpI, Value.category, rd, tyF, va_rf, st1, st2, clr, isLg, CB, inx_0, inx_1, inx_2, inx_3, inx_4, inx_5, bI_0, bI_1, bI_ok, fin3, tyX12, q1, okv, wr, finF, clT, TX12, xS, fT_12_81, dX12_init_192, dX12_init_193, dX12_init_195, dX12_init_197]
  exact nx'
set_option maxHeartbeats 1000000 in
set_option maxRecDepth 100000 in
theorem c12_s24 {l : Launch} {X : Cx} {d : Nat} {P : Option Value → Mm → Prop} {G : Nat → Nat → Nat → List (Option Value) → List Value → Mm → Prop} (hG : Ga l X 12 true cX12_init none d 41 28611 P G) {M : Mm} {S : Nat} (hS : S < 1000000) {V : RM} (hV : 1 ≤ V.1 ∧ V.1 ≤ 50) (hc : V.2.1 0 = .inl 12) {sh : Nat → Option Sh} {mI : Nat → Nat → Int32} {mL : Nat → Nat → Int64} {mR : Nat → Nat → Option Nat} {n : Nat} (B : Kt M S V (sh, mI, mL, mR, n)) (k q : Nat) (hk : k + 1 ≤ 41) (hq : q + 7 ≤ 28611) (nx : ∀ sh' mI' mL' mR' n', Kt M S (rmA V 36 .int 7) (sh', mI', mL', mR', n') → G (k + 1) (q + 7) 208 [some (.ref S)] [] (sh', mI', mL', mR', n')) : G k q 200 [some (.ref S)] [] (sh, mI, mL, mR, n) := by
  have xS : S < 1000000000 := by omega
  have hn : n = S + V.1 := B.1
  refine hG.run [203] 20 ?_ (by omega) (by omega)
  simp [wp, stepI, ln, jmp, cmpI, Value.category, rd, tyF, va_rf, st1, st2, clr, isLg, CB, inx_0, inx_1, inx_2, inx_3, inx_4, inx_5, bI_0, bI_1, bI_ok, fin3, tyX12, dX12_init_200, dX12_init_201, dX12_init_203, dX12_init_205]
  refine hG.newa dX12_init_203 rfl (Or.inl rfl) wa_int (N := 7) (by decide) (by decide) (by decide) (by show n < 1000000000; omega) ?_ (by omega) (by omega)
  show G _ _ 205 _ _ (upS sh n (.inr (.int, 7)), up0 mI n 0, up0 mL n 0, up0 mR n none, n + 1)
  have B1 := B.arr hV.1 36 .int 7
  have q1 : upS sh n (.inr (.int, 7)) S = some (.inl 12) := by
    have := B.s hV.1 hc
    unfold upS; rw [if_neg (by omega)]; exact this
  have nx' := nx _ _ _ _ _ B1
  refine hG.run [208] 20 ?_ (by omega) (by omega)
  simp [wp, stepI, ln, jmp, cmpI, Value.category, rd, tyF, va_rf, st1, st2, clr, isLg, CB, inx_0, inx_1, inx_2, inx_3, inx_4, inx_5, bI_0, bI_1, bI_ok, fin3, tyX12, q1, okv, wr, finF, clT, TX12, xS, fT_12_84, dX12_init_200, dX12_init_201, dX12_init_203, dX12_init_205]
  exact nx'
set_option maxHeartbeats 1000000 in
set_option maxRecDepth 100000 in
theorem c12_s25 {l : Launch} {X : Cx} {d : Nat} {P : Option Value → Mm → Prop} {G : Nat → Nat → Nat → List (Option Value) → List Value → Mm → Prop} (hG : Ga l X 12 true cX12_init none d 41 28611 P G) {M : Mm} {S : Nat} (hS : S < 1000000) {V : RM} (hV : 1 ≤ V.1 ∧ V.1 ≤ 50) (hc : V.2.1 0 = .inl 12) {sh : Nat → Option Sh} {mI : Nat → Nat → Int32} {mL : Nat → Nat → Int64} {mR : Nat → Nat → Option Nat} {n : Nat} (B : Kt M S V (sh, mI, mL, mR, n)) (k q : Nat) (hk : k + 1 ≤ 41) (hq : q + 20 ≤ 28611) (nx : ∀ sh' mI' mL' mR' n', Kt M S (rmA V 37 .int 20) (sh', mI', mL', mR', n') → G (k + 1) (q + 20) 216 [some (.ref S)] [] (sh', mI', mL', mR', n')) : G k q 208 [some (.ref S)] [] (sh, mI, mL, mR, n) := by
  have xS : S < 1000000000 := by omega
  have hn : n = S + V.1 := B.1
  refine hG.run [211] 20 ?_ (by omega) (by omega)
  simp [wp, stepI, ln, jmp, cmpI, Value.category, rd, tyF, va_rf, st1, st2, clr, isLg, CB, inx_0, inx_1, inx_2, inx_3, inx_4, inx_5, bI_0, bI_1, bI_ok, fin3, tyX12, dX12_init_208, dX12_init_209, dX12_init_211, dX12_init_213]
  refine hG.newa dX12_init_211 rfl (Or.inl rfl) wa_int (N := 20) (by decide) (by decide) (by decide) (by show n < 1000000000; omega) ?_ (by omega) (by omega)
  show G _ _ 213 _ _ (upS sh n (.inr (.int, 20)), up0 mI n 0, up0 mL n 0, up0 mR n none, n + 1)
  have B1 := B.arr hV.1 37 .int 20
  have q1 : upS sh n (.inr (.int, 20)) S = some (.inl 12) := by
    have := B.s hV.1 hc
    unfold upS; rw [if_neg (by omega)]; exact this
  have nx' := nx _ _ _ _ _ B1
  refine hG.run [216] 20 ?_ (by omega) (by omega)
  simp [wp, stepI, ln, jmp, cmpI, Value.category, rd, tyF, va_rf, st1, st2, clr, isLg, CB, inx_0, inx_1, inx_2, inx_3, inx_4, inx_5, bI_0, bI_1, bI_ok, fin3, tyX12, q1, okv, wr, finF, clT, TX12, xS, fT_12_87, dX12_init_208, dX12_init_209, dX12_init_211, dX12_init_213]
  exact nx'
set_option maxHeartbeats 1000000 in
set_option maxRecDepth 100000 in
theorem c12_s26 {l : Launch} {X : Cx} {d : Nat} {P : Option Value → Mm → Prop} {G : Nat → Nat → Nat → List (Option Value) → List Value → Mm → Prop} (hG : Ga l X 12 true cX12_init none d 41 28611 P G) {M : Mm} {S : Nat} (hS : S < 1000000) {V : RM} (hV : 1 ≤ V.1 ∧ V.1 ≤ 50) (hc : V.2.1 0 = .inl 12) {sh : Nat → Option Sh} {mI : Nat → Nat → Int32} {mL : Nat → Nat → Int64} {mR : Nat → Nat → Option Nat} {n : Nat} (B : Kt M S V (sh, mI, mL, mR, n)) (k q : Nat) (hk : k + 1 ≤ 41) (hq : q + 144 ≤ 28611) (nx : ∀ sh' mI' mL' mR' n', Kt M S (rmA V 41 .int 144) (sh', mI', mL', mR', n') → G (k + 1) (q + 144) 225 [some (.ref S)] [] (sh', mI', mL', mR', n')) : G k q 216 [some (.ref S)] [] (sh, mI, mL, mR, n) := by
  have xS : S < 1000000000 := by omega
  have hn : n = S + V.1 := B.1
  refine hG.run [220] 20 ?_ (by omega) (by omega)
  simp [wp, stepI, ln, jmp, cmpI, Value.category, rd, tyF, va_rf, st1, st2, clr, isLg, CB, inx_0, inx_1, inx_2, inx_3, inx_4, inx_5, bI_0, bI_1, bI_ok, fin3, tyX12, dX12_init_216, dX12_init_217, dX12_init_220, dX12_init_222]
  refine hG.newa dX12_init_220 rfl (Or.inl rfl) wa_int (N := 144) (by decide) (by decide) (by decide) (by show n < 1000000000; omega) ?_ (by omega) (by omega)
  show G _ _ 222 _ _ (upS sh n (.inr (.int, 144)), up0 mI n 0, up0 mL n 0, up0 mR n none, n + 1)
  have B1 := B.arr hV.1 41 .int 144
  have q1 : upS sh n (.inr (.int, 144)) S = some (.inl 12) := by
    have := B.s hV.1 hc
    unfold upS; rw [if_neg (by omega)]; exact this
  have nx' := nx _ _ _ _ _ B1
  refine hG.run [225] 20 ?_ (by omega) (by omega)
  simp [wp, stepI, ln, jmp, cmpI, Value.category, rd, tyF, va_rf, st1, st2, clr, isLg, CB, inx_0, inx_1, inx_2, inx_3, inx_4, inx_5, bI_0, bI_1, bI_ok, fin3, tyX12, q1, okv, wr, finF, clT, TX12, xS, fT_12_90, dX12_init_216, dX12_init_217, dX12_init_220, dX12_init_222]
  exact nx'
set_option maxHeartbeats 1000000 in
set_option maxRecDepth 100000 in
theorem c12_s27 {l : Launch} {X : Cx} {d : Nat} {P : Option Value → Mm → Prop} {G : Nat → Nat → Nat → List (Option Value) → List Value → Mm → Prop} (hG : Ga l X 12 true cX12_init none d 41 28611 P G) {M : Mm} {S : Nat} (hS : S < 1000000) {V : RM} (hV : 1 ≤ V.1 ∧ V.1 ≤ 50) (hc : V.2.1 0 = .inl 12) {sh : Nat → Option Sh} {mI : Nat → Nat → Int32} {mL : Nat → Nat → Int64} {mR : Nat → Nat → Option Nat} {n : Nat} (B : Kt M S V (sh, mI, mL, mR, n)) (k q : Nat) (hk : k + 1 ≤ 41) (hq : q + 144 ≤ 28611) (nx : ∀ sh' mI' mL' mR' n', Kt M S (rmA V 42 .int 144) (sh', mI', mL', mR', n') → G (k + 1) (q + 144) 234 [some (.ref S)] [] (sh', mI', mL', mR', n')) : G k q 225 [some (.ref S)] [] (sh, mI, mL, mR, n) := by
  have xS : S < 1000000000 := by omega
  have hn : n = S + V.1 := B.1
  refine hG.run [229] 20 ?_ (by omega) (by omega)
  simp [wp, stepI, ln, jmp, cmpI, Value.category, rd, tyF, va_rf, st1, st2, clr, isLg, CB, inx_0, inx_1, inx_2, inx_3, inx_4, inx_5, bI_0, bI_1, bI_ok, fin3, tyX12, dX12_init_225, dX12_init_226, dX12_init_229, dX12_init_231]
  refine hG.newa dX12_init_229 rfl (Or.inl rfl) wa_int (N := 144) (by decide) (by decide) (by decide) (by show n < 1000000000; omega) ?_ (by omega) (by omega)
  show G _ _ 231 _ _ (upS sh n (.inr (.int, 144)), up0 mI n 0, up0 mL n 0, up0 mR n none, n + 1)
  have B1 := B.arr hV.1 42 .int 144
  have q1 : upS sh n (.inr (.int, 144)) S = some (.inl 12) := by
    have := B.s hV.1 hc
    unfold upS; rw [if_neg (by omega)]; exact this
  have nx' := nx _ _ _ _ _ B1
  refine hG.run [234] 20 ?_ (by omega) (by omega)
  simp [wp, stepI, ln, jmp, cmpI, Value.category, rd, tyF, va_rf, st1, st2, clr, isLg, CB, inx_0, inx_1, inx_2, inx_3, inx_4, inx_5, bI_0, bI_1, bI_ok, fin3, tyX12, q1, okv, wr, finF, clT, TX12, xS, fT_12_93, dX12_init_225, dX12_init_226, dX12_init_229, dX12_init_231]
  exact nx'
set_option maxHeartbeats 1000000 in
set_option maxRecDepth 100000 in
theorem c12_s28 {l : Launch} {X : Cx} {d : Nat} {P : Option Value → Mm → Prop} {G : Nat → Nat → Nat → List (Option Value) → List Value → Mm → Prop} (hG : Ga l X 12 true cX12_init none d 41 28611 P G) {M : Mm} {S : Nat} (hS : S < 1000000) {V : RM} (hV : 1 ≤ V.1 ∧ V.1 ≤ 50) (hc : V.2.1 0 = .inl 12) {sh : Nat → Option Sh} {mI : Nat → Nat → Int32} {mL : Nat → Nat → Int64} {mR : Nat → Nat → Option Nat} {n : Nat} (B : Kt M S V (sh, mI, mL, mR, n)) (k q : Nat) (hk : k + 1 ≤ 41) (hq : q + 576 ≤ 28611) (nx : ∀ sh' mI' mL' mR' n', Kt M S (rmA V 43 .int 576) (sh', mI', mL', mR', n') → G (k + 1) (q + 576) 243 [some (.ref S)] [] (sh', mI', mL', mR', n')) : G k q 234 [some (.ref S)] [] (sh, mI, mL, mR, n) := by
  have xS : S < 1000000000 := by omega
  have hn : n = S + V.1 := B.1
  refine hG.run [238] 20 ?_ (by omega) (by omega)
  simp [wp, stepI, ln, jmp, cmpI, Value.category, rd, tyF, va_rf, st1, st2, clr, isLg, CB, inx_0, inx_1, inx_2, inx_3, inx_4, inx_5, bI_0, bI_1, bI_ok, fin3, tyX12, dX12_init_234, dX12_init_235, dX12_init_238, dX12_init_240]
  refine hG.newa dX12_init_238 rfl (Or.inl rfl) wa_int (N := 576) (by decide) (by decide) (by decide) (by show n < 1000000000; omega) ?_ (by omega) (by omega)
  show G _ _ 240 _ _ (upS sh n (.inr (.int, 576)), up0 mI n 0, up0 mL n 0, up0 mR n none, n + 1)
  have B1 := B.arr hV.1 43 .int 576
  have q1 : upS sh n (.inr (.int, 576)) S = some (.inl 12) := by
    have := B.s hV.1 hc
    unfold upS; rw [if_neg (by omega)]; exact this
  have nx' := nx _ _ _ _ _ B1
  refine hG.run [243] 20 ?_ (by omega) (by omega)
  simp [wp, stepI, ln, jmp, cmpI, Value.category, rd, tyF, va_rf, st1, st2, clr, isLg, CB, inx_0, inx_1, inx_2, inx_3, inx_4, inx_5, bI_0, bI_1, bI_ok, fin3, tyX12, q1, okv, wr, finF, clT, TX12, xS, fT_12_96, dX12_init_234, dX12_init_235, dX12_init_238, dX12_init_240]
  exact nx'
set_option maxHeartbeats 1000000 in
set_option maxRecDepth 100000 in
theorem c12_s29 {l : Launch} {X : Cx} {d : Nat} {P : Option Value → Mm → Prop} {G : Nat → Nat → Nat → List (Option Value) → List Value → Mm → Prop} (hG : Ga l X 12 true cX12_init none d 41 28611 P G) {M : Mm} {S : Nat} (hS : S < 1000000) {V : RM} (hV : 1 ≤ V.1 ∧ V.1 ≤ 50) (hc : V.2.1 0 = .inl 12) {sh : Nat → Option Sh} {mI : Nat → Nat → Int32} {mL : Nat → Nat → Int64} {mR : Nat → Nat → Option Nat} {n : Nat} (B : Kt M S V (sh, mI, mL, mR, n)) (k q : Nat) (hk : k + 1 ≤ 41) (hq : q + 10 ≤ 28611) (nx : ∀ sh' mI' mL' mR' n', Kt M S (rmA V 44 .int 10) (sh', mI', mL', mR', n') → G (k + 1) (q + 10) 251 [some (.ref S)] [] (sh', mI', mL', mR', n')) : G k q 243 [some (.ref S)] [] (sh, mI, mL, mR, n) := by
  have xS : S < 1000000000 := by omega
  have hn : n = S + V.1 := B.1
  refine hG.run [246] 20 ?_ (by omega) (by omega)
  simp [wp, stepI, ln, jmp, cmpI, Value.category, rd, tyF, va_rf, st1, st2, clr, isLg, CB, inx_0, inx_1, inx_2, inx_3, inx_4, inx_5, bI_0, bI_1, bI_ok, fin3, tyX12, dX12_init_243, dX12_init_244, dX12_init_246, dX12_init_248]
  refine hG.newa dX12_init_246 rfl (Or.inl rfl) wa_int (N := 10) (by decide) (by decide) (by decide) (by show n < 1000000000; omega) ?_ (by omega) (by omega)
  show G _ _ 248 _ _ (upS sh n (.inr (.int, 10)), up0 mI n 0, up0 mL n 0, up0 mR n none, n + 1)
  have B1 := B.arr hV.1 44 .int 10
  have q1 : upS sh n (.inr (.int, 10)) S = some (.inl 12) := by
    have := B.s hV.1 hc
    unfold upS; rw [if_neg (by omega)]; exact this
  have nx' := nx _ _ _ _ _ B1
  refine hG.run [251] 20 ?_ (by omega) (by omega)
  simp [wp, stepI, ln, jmp, cmpI, Value.category, rd, tyF, va_rf, st1, st2, clr, isLg, CB, inx_0, inx_1, inx_2, inx_3, inx_4, inx_5, bI_0, bI_1, bI_ok, fin3, tyX12, q1, okv, wr, finF, clT, TX12, xS, fT_12_99, dX12_init_243, dX12_init_244, dX12_init_246, dX12_init_248]
  exact nx'
set_option maxHeartbeats 1000000 in
set_option maxRecDepth 100000 in
theorem c12_s30 {l : Launch} {X : Cx} {d : Nat} {P : Option Value → Mm → Prop} {G : Nat → Nat → Nat → List (Option Value) → List Value → Mm → Prop} (hG : Ga l X 12 true cX12_init none d 41 28611 P G) {M : Mm} {S : Nat} (hS : S < 1000000) {V : RM} (hV : 1 ≤ V.1 ∧ V.1 ≤ 50) (hc : V.2.1 0 = .inl 12) {sh : Nat → Option Sh} {mI : Nat → Nat → Int32} {mL : Nat → Nat → Int64} {mR : Nat → Nat → Option Nat} {n : Nat} (B : Kt M S V (sh, mI, mL, mR, n)) (k q : Nat) (hk : k + 1 ≤ 41) (hq : q + 1024 ≤ 28611) (nx : ∀ sh' mI' mL' mR' n', Kt M S (rmA V 45 .int 1024) (sh', mI', mL', mR', n') → G (k + 1) (q + 1024) 260 [some (.ref S)] [] (sh', mI', mL', mR', n')) : G k q 251 [some (.ref S)] [] (sh, mI, mL, mR, n) := by
  have xS : S < 1000000000 := by omega
  have hn : n = S + V.1 := B.1
  refine hG.run [255] 20 ?_ (by omega) (by omega)
  simp [wp, stepI, ln, jmp, cmpI, Value.category, rd, tyF, va_rf, st1, st2, clr, isLg, CB, inx_0, inx_1, inx_2, inx_3, inx_4, inx_5, bI_0, bI_1, bI_ok, fin3, tyX12, dX12_init_251, dX12_init_252, dX12_init_255, dX12_init_257]
  refine hG.newa dX12_init_255 rfl (Or.inl rfl) wa_int (N := 1024) (by decide) (by decide) (by decide) (by show n < 1000000000; omega) ?_ (by omega) (by omega)
  show G _ _ 257 _ _ (upS sh n (.inr (.int, 1024)), up0 mI n 0, up0 mL n 0, up0 mR n none, n + 1)
  have B1 := B.arr hV.1 45 .int 1024
  have q1 : upS sh n (.inr (.int, 1024)) S = some (.inl 12) := by
    have := B.s hV.1 hc
    unfold upS; rw [if_neg (by omega)]; exact this
  have nx' := nx _ _ _ _ _ B1
  refine hG.run [260] 20 ?_ (by omega) (by omega)
  simp [wp, stepI, ln, jmp, cmpI, Value.category, rd, tyF, va_rf, st1, st2, clr, isLg, CB, inx_0, inx_1, inx_2, inx_3, inx_4, inx_5, bI_0, bI_1, bI_ok, fin3, tyX12, q1, okv, wr, finF, clT, TX12, xS, fT_12_102, dX12_init_251, dX12_init_252, dX12_init_255, dX12_init_257]
  exact nx'
set_option maxHeartbeats 1000000 in
set_option maxRecDepth 100000 in
theorem c12_s31 {l : Launch} {X : Cx} {d : Nat} {P : Option Value → Mm → Prop} {G : Nat → Nat → Nat → List (Option Value) → List Value → Mm → Prop} (hG : Ga l X 12 true cX12_init none d 41 28611 P G) {M : Mm} {S : Nat} (hS : S < 1000000) {V : RM} (hV : 1 ≤ V.1 ∧ V.1 ≤ 50) (hc : V.2.1 0 = .inl 12) {sh : Nat → Option Sh} {mI : Nat → Nat → Int32} {mL : Nat → Nat → Int64} {mR : Nat → Nat → Option Nat} {n : Nat} (B : Kt M S V (sh, mI, mL, mR, n)) (k q : Nat) (hk : k + 1 ≤ 41) (hq : q + 10 ≤ 28611) (nx : ∀ sh' mI' mL' mR' n', Kt M S (rmA V 46 .int 10) (sh', mI', mL', mR', n') → G (k + 1) (q + 10) 268 [some (.ref S)] [] (sh', mI', mL', mR', n')) : G k q 260 [some (.ref S)] [] (sh, mI, mL, mR, n) := by
  have xS : S < 1000000000 := by omega
  have hn : n = S + V.1 := B.1
  refine hG.run [263] 20 ?_ (by omega) (by omega)
  simp [wp, stepI, ln, jmp, cmpI, Value.category, rd, tyF, va_rf, st1, st2, clr, isLg, CB, inx_0, inx_1, inx_2, inx_3, inx_4, inx_5, bI_0, bI_1, bI_ok, fin3, tyX12, dX12_init_260, dX12_init_261, dX12_init_263, dX12_init_265]
  refine hG.newa dX12_init_263 rfl (Or.inl rfl) wa_int (N := 10) (by decide) (by decide) (by decide) (by show n < 1000000000; omega) ?_ (by omega) (by omega)
  show G _ _ 265 _ _ (upS sh n (.inr (.int, 10)), up0 mI n 0, up0 mL n 0, up0 mR n none, n + 1)
  have B1 := B.arr hV.1 46 .int 10
  have q1 : upS sh n (.inr (.int, 10)) S = some (.inl 12) := by
    have := B.s hV.1 hc
    unfold upS; rw [if_neg (by omega)]; exact this
  have nx' := nx _ _ _ _ _ B1
  refine hG.run [268] 20 ?_ (by omega) (by omega)
  simp [wp, stepI, ln, jmp, cmpI, Value.category, rd, tyF, va_rf, st1, st2, clr, isLg, CB, inx_0, inx_1, inx_2, inx_3, inx_4, inx_5, bI_0, bI_1, bI_ok, fin3, tyX12, q1, okv, wr, finF, clT, TX12, xS, fT_12_105, dX12_init_260, dX12_init_261, dX12_init_263, dX12_init_265]
  exact nx'
set_option maxHeartbeats 1000000 in
set_option maxRecDepth 100000 in
theorem c12_s32 {l : Launch} {X : Cx} {d : Nat} {P : Option Value → Mm → Prop} {G : Nat → Nat → Nat → List (Option Value) → List Value → Mm → Prop} (hG : Ga l X 12 true cX12_init none d 41 28611 P G) {M : Mm} {S : Nat} (hS : S < 1000000) {V : RM} (hV : 1 ≤ V.1 ∧ V.1 ≤ 50) (hc : V.2.1 0 = .inl 12) {sh : Nat → Option Sh} {mI : Nat → Nat → Int32} {mL : Nat → Nat → Int64} {mR : Nat → Nat → Option Nat} {n : Nat} (B : Kt M S V (sh, mI, mL, mR, n)) (k q : Nat) (hk : k + 1 ≤ 41) (hq : q + 1024 ≤ 28611) (nx : ∀ sh' mI' mL' mR' n', Kt M S (rmA V 47 .int 1024) (sh', mI', mL', mR', n') → G (k + 1) (q + 1024) 277 [some (.ref S)] [] (sh', mI', mL', mR', n')) : G k q 268 [some (.ref S)] [] (sh, mI, mL, mR, n) := by
  have xS : S < 1000000000 := by omega
  have hn : n = S + V.1 := B.1
  refine hG.run [272] 20 ?_ (by omega) (by omega)
  simp [wp, stepI, ln, jmp, cmpI, Value.category, rd, tyF, va_rf, st1, st2, clr, isLg, CB, inx_0, inx_1, inx_2, inx_3, inx_4, inx_5, bI_0, bI_1, bI_ok, fin3, tyX12, dX12_init_268, dX12_init_269, dX12_init_272, dX12_init_274]
  refine hG.newa dX12_init_272 rfl (Or.inl rfl) wa_int (N := 1024) (by decide) (by decide) (by decide) (by show n < 1000000000; omega) ?_ (by omega) (by omega)
  show G _ _ 274 _ _ (upS sh n (.inr (.int, 1024)), up0 mI n 0, up0 mL n 0, up0 mR n none, n + 1)
  have B1 := B.arr hV.1 47 .int 1024
  have q1 : upS sh n (.inr (.int, 1024)) S = some (.inl 12) := by
    have := B.s hV.1 hc
    unfold upS; rw [if_neg (by omega)]; exact this
  have nx' := nx _ _ _ _ _ B1
  refine hG.run [277] 20 ?_ (by omega) (by omega)
  simp [wp, stepI, ln, jmp, cmpI, Value.category, rd, tyF, va_rf, st1, st2, clr, isLg, CB, inx_0, inx_1, inx_2, inx_3, inx_4, inx_5, bI_0, bI_1, bI_ok, fin3, tyX12, q1, okv, wr, finF, clT, TX12, xS, fT_12_108, dX12_init_268, dX12_init_269, dX12_init_272, dX12_init_274]
  exact nx'
set_option maxHeartbeats 1000000 in
set_option maxRecDepth 100000 in
theorem c12_s33 {l : Launch} {X : Cx} {d : Nat} {P : Option Value → Mm → Prop} {G : Nat → Nat → Nat → List (Option Value) → List Value → Mm → Prop} (hG : Ga l X 12 true cX12_init none d 41 28611 P G) {M : Mm} {S : Nat} (hS : S < 1000000) {V : RM} (hV : 1 ≤ V.1 ∧ V.1 ≤ 50) (hc : V.2.1 0 = .inl 12) {sh : Nat → Option Sh} {mI : Nat → Nat → Int32} {mL : Nat → Nat → Int64} {mR : Nat → Nat → Option Nat} {n : Nat} (B : Kt M S V (sh, mI, mL, mR, n)) (k q : Nat) (hk : k + 1 ≤ 41) (hq : q + 10 ≤ 28611) (nx : ∀ sh' mI' mL' mR' n', Kt M S (rmA V 48 .int 10) (sh', mI', mL', mR', n') → G (k + 1) (q + 10) 285 [some (.ref S)] [] (sh', mI', mL', mR', n')) : G k q 277 [some (.ref S)] [] (sh, mI, mL, mR, n) := by
  have xS : S < 1000000000 := by omega
  have hn : n = S + V.1 := B.1
  refine hG.run [280] 20 ?_ (by omega) (by omega)
  simp [wp, stepI, ln, jmp, cmpI, Value.category, rd, tyF, va_rf, st1, st2, clr, isLg, CB, inx_0, inx_1, inx_2, inx_3, inx_4, inx_5, bI_0, bI_1, bI_ok, fin3, tyX12, dX12_init_277, dX12_init_278, dX12_init_280, dX12_init_282]
  refine hG.newa dX12_init_280 rfl (Or.inl rfl) wa_int (N := 10) (by decide) (by decide) (by decide) (by show n < 1000000000; omega) ?_ (by omega) (by omega)
  show G _ _ 282 _ _ (upS sh n (.inr (.int, 10)), up0 mI n 0, up0 mL n 0, up0 mR n none, n + 1)
  have B1 := B.arr hV.1 48 .int 10
  have q1 : upS sh n (.inr (.int, 10)) S = some (.inl 12) := by
    have := B.s hV.1 hc
    unfold upS; rw [if_neg (by omega)]; exact this
  have nx' := nx _ _ _ _ _ B1
  refine hG.run [285] 20 ?_ (by omega) (by omega)
  simp [wp, stepI, ln, jmp, cmpI, Value.category, rd, tyF, va_rf, st1, st2, clr, isLg, CB, inx_0, inx_1, inx_2, inx_3, inx_4, inx_5, bI_0, bI_1, bI_ok, fin3, tyX12, q1, okv, wr, finF, clT, TX12, xS, fT_12_111, dX12_init_277, dX12_init_278, dX12_init_280, dX12_init_282]
  exact nx'
set_option maxHeartbeats 1000000 in
set_option maxRecDepth 100000 in
theorem c12_s34 {l : Launch} {X : Cx} {d : Nat} {P : Option Value → Mm → Prop} {G : Nat → Nat → Nat → List (Option Value) → List Value → Mm → Prop} (hG : Ga l X 12 true cX12_init none d 41 28611 P G) {M : Mm} {S : Nat} (hS : S < 1000000) {V : RM} (hV : 1 ≤ V.1 ∧ V.1 ≤ 50) (hc : V.2.1 0 = .inl 12) {sh : Nat → Option Sh} {mI : Nat → Nat → Int32} {mL : Nat → Nat → Int64} {mR : Nat → Nat → Option Nat} {n : Nat} (B : Kt M S V (sh, mI, mL, mR, n)) (k q : Nat) (hk : k + 1 ≤ 41) (hq : q + 1024 ≤ 28611) (nx : ∀ sh' mI' mL' mR' n', Kt M S (rmA V 49 .long 1024) (sh', mI', mL', mR', n') → G (k + 1) (q + 1024) 294 [some (.ref S)] [] (sh', mI', mL', mR', n')) : G k q 285 [some (.ref S)] [] (sh, mI, mL, mR, n) := by
  have xS : S < 1000000000 := by omega
  have hn : n = S + V.1 := B.1
  refine hG.run [289] 20 ?_ (by omega) (by omega)
  simp [wp, stepI, ln, jmp, cmpI, Value.category, rd, tyF, va_rf, st1, st2, clr, isLg, CB, inx_0, inx_1, inx_2, inx_3, inx_4, inx_5, bI_0, bI_1, bI_ok, fin3, tyX12, dX12_init_285, dX12_init_286, dX12_init_289, dX12_init_291]
  refine hG.newa dX12_init_289 rfl (Or.inr (Or.inl rfl)) wa_long (N := 1024) (by decide) (by decide) (by decide) (by show n < 1000000000; omega) ?_ (by omega) (by omega)
  show G _ _ 291 _ _ (upS sh n (.inr (.long, 1024)), up0 mI n 0, up0 mL n 0, up0 mR n none, n + 1)
  have B1 := B.arr hV.1 49 .long 1024
  have q1 : upS sh n (.inr (.long, 1024)) S = some (.inl 12) := by
    have := B.s hV.1 hc
    unfold upS; rw [if_neg (by omega)]; exact this
  have nx' := nx _ _ _ _ _ B1
  refine hG.run [294] 20 ?_ (by omega) (by omega)
  simp [wp, stepI, ln, jmp, cmpI, Value.category, rd, tyF, va_rf, st1, st2, clr, isLg, CB, inx_0, inx_1, inx_2, inx_3, inx_4, inx_5, bI_0, bI_1, bI_ok, fin3, tyX12, q1, okv, wr, finF, clT, TX12, xS, fT_12_114, dX12_init_285, dX12_init_286, dX12_init_289, dX12_init_291]
  exact nx'
set_option maxHeartbeats 1000000 in
set_option maxRecDepth 100000 in
theorem c12_s35 {l : Launch} {X : Cx} {d : Nat} {P : Option Value → Mm → Prop} {G : Nat → Nat → Nat → List (Option Value) → List Value → Mm → Prop} (hG : Ga l X 12 true cX12_init none d 41 28611 P G) {M : Mm} {S : Nat} (hS : S < 1000000) {V : RM} (hV : 1 ≤ V.1 ∧ V.1 ≤ 50) (hc : V.2.1 0 = .inl 12) {sh : Nat → Option Sh} {mI : Nat → Nat → Int32} {mL : Nat → Nat → Int64} {mR : Nat → Nat → Option Nat} {n : Nat} (B : Kt M S V (sh, mI, mL, mR, n)) (k q : Nat) (hk : k + 1 ≤ 41) (hq : q + 8192 ≤ 28611) (nx : ∀ sh' mI' mL' mR' n', Kt M S (rmA V 53 .int 8192) (sh', mI', mL', mR', n') → G (k + 1) (q + 8192) 303 [some (.ref S)] [] (sh', mI', mL', mR', n')) : G k q 294 [some (.ref S)] [] (sh, mI, mL, mR, n) := by
  have xS : S < 1000000000 := by omega
  have hn : n = S + V.1 := B.1
  refine hG.run [298] 20 ?_ (by omega) (by omega)
  simp [wp, stepI, ln, jmp, cmpI, Value.category, rd, tyF, va_rf, st1, st2, clr, isLg, CB, inx_0, inx_1, inx_2, inx_3, inx_4, inx_5, bI_0, bI_1, bI_ok, fin3, tyX12, dX12_init_294, dX12_init_295, dX12_init_298, dX12_init_300]
  refine hG.newa dX12_init_298 rfl (Or.inl rfl) wa_int (N := 8192) (by decide) (by decide) (by decide) (by show n < 1000000000; omega) ?_ (by omega) (by omega)
  show G _ _ 300 _ _ (upS sh n (.inr (.int, 8192)), up0 mI n 0, up0 mL n 0, up0 mR n none, n + 1)
  have B1 := B.arr hV.1 53 .int 8192
  have q1 : upS sh n (.inr (.int, 8192)) S = some (.inl 12) := by
    have := B.s hV.1 hc
    unfold upS; rw [if_neg (by omega)]; exact this
  have nx' := nx _ _ _ _ _ B1
  refine hG.run [303] 20 ?_ (by omega) (by omega)
  simp [wp, stepI, ln, jmp, cmpI, Value.category, rd, tyF, va_rf, st1, st2, clr, isLg, CB, inx_0, inx_1, inx_2, inx_3, inx_4, inx_5, bI_0, bI_1, bI_ok, fin3, tyX12, q1, okv, wr, finF, clT, TX12, xS, fT_12_117, dX12_init_294, dX12_init_295, dX12_init_298, dX12_init_300]
  exact nx'
set_option maxHeartbeats 1000000 in
set_option maxRecDepth 100000 in
theorem c12_s36 {l : Launch} {X : Cx} {d : Nat} {P : Option Value → Mm → Prop} {G : Nat → Nat → Nat → List (Option Value) → List Value → Mm → Prop} (hG : Ga l X 12 true cX12_init none d 41 28611 P G) {M : Mm} {S : Nat} (hS : S < 1000000) {V : RM} (hV : 1 ≤ V.1 ∧ V.1 ≤ 50) (hc : V.2.1 0 = .inl 12) {sh : Nat → Option Sh} {mI : Nat → Nat → Int32} {mL : Nat → Nat → Int64} {mR : Nat → Nat → Option Nat} {n : Nat} (B : Kt M S V (sh, mI, mL, mR, n)) (k q : Nat) (hk : k + 1 ≤ 41) (hq : q + 8192 ≤ 28611) (nx : ∀ sh' mI' mL' mR' n', Kt M S (rmA V 54 .int 8192) (sh', mI', mL', mR', n') → G (k + 1) (q + 8192) 312 [some (.ref S)] [] (sh', mI', mL', mR', n')) : G k q 303 [some (.ref S)] [] (sh, mI, mL, mR, n) := by
  have xS : S < 1000000000 := by omega
  have hn : n = S + V.1 := B.1
  refine hG.run [307] 20 ?_ (by omega) (by omega)
  simp [wp, stepI, ln, jmp, cmpI, Value.category, rd, tyF, va_rf, st1, st2, clr, isLg, CB, inx_0, inx_1, inx_2, inx_3, inx_4, inx_5, bI_0, bI_1, bI_ok, fin3, tyX12, dX12_init_303, dX12_init_304, dX12_init_307, dX12_init_309]
  refine hG.newa dX12_init_307 rfl (Or.inl rfl) wa_int (N := 8192) (by decide) (by decide) (by decide) (by show n < 1000000000; omega) ?_ (by omega) (by omega)
  show G _ _ 309 _ _ (upS sh n (.inr (.int, 8192)), up0 mI n 0, up0 mL n 0, up0 mR n none, n + 1)
  have B1 := B.arr hV.1 54 .int 8192
  have q1 : upS sh n (.inr (.int, 8192)) S = some (.inl 12) := by
    have := B.s hV.1 hc
    unfold upS; rw [if_neg (by omega)]; exact this
  have nx' := nx _ _ _ _ _ B1
  refine hG.run [312] 20 ?_ (by omega) (by omega)
  simp [wp, stepI, ln, jmp, cmpI, Value.category, rd, tyF, va_rf, st1, st2, clr, isLg, CB, inx_0, inx_1, inx_2, inx_3, inx_4, inx_5, bI_0, bI_1, bI_ok, fin3, tyX12, q1, okv, wr, finF, clT, TX12, xS, fT_12_120, dX12_init_303, dX12_init_304, dX12_init_307, dX12_init_309]
  exact nx'
set_option maxHeartbeats 1000000 in
set_option maxRecDepth 100000 in
theorem c12_s37 {l : Launch} {X : Cx} {d : Nat} {P : Option Value → Mm → Prop} {G : Nat → Nat → Nat → List (Option Value) → List Value → Mm → Prop} (hG : Ga l X 12 true cX12_init none d 41 28611 P G) {M : Mm} {S : Nat} (hS : S < 1000000) {V : RM} (hV : 1 ≤ V.1 ∧ V.1 ≤ 50) (hc : V.2.1 0 = .inl 12) {sh : Nat → Option Sh} {mI : Nat → Nat → Int32} {mL : Nat → Nat → Int64} {mR : Nat → Nat → Option Nat} {n : Nat} (B : Kt M S V (sh, mI, mL, mR, n)) (k q : Nat) (hk : k + 1 ≤ 41) (hq : q + 10 ≤ 28611) (nx : ∀ sh' mI' mL' mR' n', Kt M S (rmA V 55 .int 10) (sh', mI', mL', mR', n') → G (k + 1) (q + 10) 320 [some (.ref S)] [] (sh', mI', mL', mR', n')) : G k q 312 [some (.ref S)] [] (sh, mI, mL, mR, n) := by
  have xS : S < 1000000000 := by omega
  have hn : n = S + V.1 := B.1
  refine hG.run [315] 20 ?_ (by omega) (by omega)
  simp [wp, stepI, ln, jmp, cmpI, Value.category, rd, tyF, va_rf, st1, st2, clr, isLg, CB, inx_0, inx_1, inx_2, inx_3, inx_4, inx_5, bI_0, bI_1, bI_ok, fin3, tyX12, dX12_init_312, dX12_init_313, dX12_init_315, dX12_init_317]
  refine hG.newa dX12_init_315 rfl (Or.inl rfl) wa_int (N := 10) (by decide) (by decide) (by decide) (by show n < 1000000000; omega) ?_ (by omega) (by omega)
  show G _ _ 317 _ _ (upS sh n (.inr (.int, 10)), up0 mI n 0, up0 mL n 0, up0 mR n none, n + 1)
  have B1 := B.arr hV.1 55 .int 10
  have q1 : upS sh n (.inr (.int, 10)) S = some (.inl 12) := by
    have := B.s hV.1 hc
    unfold upS; rw [if_neg (by omega)]; exact this
  have nx' := nx _ _ _ _ _ B1
  refine hG.run [320] 20 ?_ (by omega) (by omega)
  simp [wp, stepI, ln, jmp, cmpI, Value.category, rd, tyF, va_rf, st1, st2, clr, isLg, CB, inx_0, inx_1, inx_2, inx_3, inx_4, inx_5, bI_0, bI_1, bI_ok, fin3, tyX12, q1, okv, wr, finF, clT, TX12, xS, fT_12_123, dX12_init_312, dX12_init_313, dX12_init_315, dX12_init_317]
  exact nx'
set_option maxHeartbeats 1000000 in
set_option maxRecDepth 100000 in
theorem c12_s38 {l : Launch} {X : Cx} {d : Nat} {P : Option Value → Mm → Prop} {G : Nat → Nat → Nat → List (Option Value) → List Value → Mm → Prop} (hG : Ga l X 12 true cX12_init none d 41 28611 P G) {M : Mm} {S : Nat} (hS : S < 1000000) {V : RM} (hV : 1 ≤ V.1 ∧ V.1 ≤ 50) (hc : V.2.1 0 = .inl 12) {sh : Nat → Option Sh} {mI : Nat → Nat → Int32} {mL : Nat → Nat → Int64} {mR : Nat → Nat → Option Nat} {n : Nat} (B : Kt M S V (sh, mI, mL, mR, n)) (k q : Nat) (hk : k + 1 ≤ 41) (hq : q + 100 ≤ 28611) (nx : ∀ sh' mI' mL' mR' n', Kt M S (rmA V 56 .int 100) (sh', mI', mL', mR', n') → G (k + 1) (q + 100) 328 [some (.ref S)] [] (sh', mI', mL', mR', n')) : G k q 320 [some (.ref S)] [] (sh, mI, mL, mR, n) := by
  have xS : S < 1000000000 := by omega
  have hn : n = S + V.1 := B.1
  refine hG.run [323] 20 ?_ (by omega) (by omega)
  simp [wp, stepI, ln, jmp, cmpI, Value.category, rd, tyF, va_rf, st1, st2, clr, isLg, CB, inx_0, inx_1, inx_2, inx_3, inx_4, inx_5, bI_0, bI_1, bI_ok, fin3, tyX12, dX12_init_320, dX12_init_321, dX12_init_323, dX12_init_325]
  refine hG.newa dX12_init_323 rfl (Or.inl rfl) wa_int (N := 100) (by decide) (by decide) (by decide) (by show n < 1000000000; omega) ?_ (by omega) (by omega)
  show G _ _ 325 _ _ (upS sh n (.inr (.int, 100)), up0 mI n 0, up0 mL n 0, up0 mR n none, n + 1)
  have B1 := B.arr hV.1 56 .int 100
  have q1 : upS sh n (.inr (.int, 100)) S = some (.inl 12) := by
    have := B.s hV.1 hc
    unfold upS; rw [if_neg (by omega)]; exact this
  have nx' := nx _ _ _ _ _ B1
  refine hG.run [328] 20 ?_ (by omega) (by omega)
  simp [wp, stepI, ln, jmp, cmpI, Value.category, rd, tyF, va_rf, st1, st2, clr, isLg, CB, inx_0, inx_1, inx_2, inx_3, inx_4, inx_5, bI_0, bI_1, bI_ok, fin3, tyX12, q1, okv, wr, finF, clT, TX12, xS, fT_12_126, dX12_init_320, dX12_init_321, dX12_init_323, dX12_init_325]
  exact nx'
set_option maxHeartbeats 1000000 in
set_option maxRecDepth 100000 in
theorem c12_s39 {l : Launch} {X : Cx} {d : Nat} {P : Option Value → Mm → Prop} {G : Nat → Nat → Nat → List (Option Value) → List Value → Mm → Prop} (hG : Ga l X 12 true cX12_init none d 41 28611 P G) {M : Mm} {S : Nat} (hS : S < 1000000) {V : RM} (hV : 1 ≤ V.1 ∧ V.1 ≤ 50) (hc : V.2.1 0 = .inl 12) {sh : Nat → Option Sh} {mI : Nat → Nat → Int32} {mL : Nat → Nat → Int64} {mR : Nat → Nat → Option Nat} {n : Nat} (B : Kt M S V (sh, mI, mL, mR, n)) (k q : Nat) (hk : k + 1 ≤ 41) (hq : q + 10 ≤ 28611) (nx : ∀ sh' mI' mL' mR' n', Kt M S (rmA V 59 .int 10) (sh', mI', mL', mR', n') → G (k + 1) (q + 10) 336 [some (.ref S)] [] (sh', mI', mL', mR', n')) : G k q 328 [some (.ref S)] [] (sh, mI, mL, mR, n) := by
  have xS : S < 1000000000 := by omega
  have hn : n = S + V.1 := B.1
  refine hG.run [331] 20 ?_ (by omega) (by omega)
  simp [wp, stepI, ln, jmp, cmpI, Value.category, rd, tyF, va_rf, st1, st2, clr, isLg, CB, inx_0, inx_1, inx_2, inx_3, inx_4, inx_5, bI_0, bI_1, bI_ok, fin3, tyX12, dX12_init_328, dX12_init_329, dX12_init_331, dX12_init_333]
  refine hG.newa dX12_init_331 rfl (Or.inl rfl) wa_int (N := 10) (by decide) (by decide) (by decide) (by show n < 1000000000; omega) ?_ (by omega) (by omega)
  show G _ _ 333 _ _ (upS sh n (.inr (.int, 10)), up0 mI n 0, up0 mL n 0, up0 mR n none, n + 1)
  have B1 := B.arr hV.1 59 .int 10
  have q1 : upS sh n (.inr (.int, 10)) S = some (.inl 12) := by
    have := B.s hV.1 hc
    unfold upS; rw [if_neg (by omega)]; exact this
  have nx' := nx _ _ _ _ _ B1
  refine hG.run [336] 20 ?_ (by omega) (by omega)
  simp [wp, stepI, ln, jmp, cmpI, Value.category, rd, tyF, va_rf, st1, st2, clr, isLg, CB, inx_0, inx_1, inx_2, inx_3, inx_4, inx_5, bI_0, bI_1, bI_ok, fin3, tyX12, q1, okv, wr, finF, clT, TX12, xS, fT_12_129, dX12_init_328, dX12_init_329, dX12_init_331, dX12_init_333]
  exact nx'
set_option maxHeartbeats 1000000 in
set_option maxRecDepth 100000 in
theorem c12_s40 {l : Launch} {X : Cx} {d : Nat} {P : Option Value → Mm → Prop} {G : Nat → Nat → Nat → List (Option Value) → List Value → Mm → Prop} (hG : Ga l X 12 true cX12_init none d 41 28611 P G) {M : Mm} {S : Nat} (hS : S < 1000000) {V : RM} (hV : 1 ≤ V.1 ∧ V.1 ≤ 50) (hc : V.2.1 0 = .inl 12) {sh : Nat → Option Sh} {mI : Nat → Nat → Int32} {mL : Nat → Nat → Int64} {mR : Nat → Nat → Option Nat} {n : Nat} (B : Kt M S V (sh, mI, mL, mR, n)) (k q : Nat) (hk : k + 1 ≤ 41) (hq : q + 4 ≤ 28611) (nx : ∀ sh' mI' mL' mR' n', Kt M S (rmA V 61 .boolean 4) (sh', mI', mL', mR', n') → G (k + 1) (q + 4) 343 [some (.ref S)] [] (sh', mI', mL', mR', n')) : G k q 336 [some (.ref S)] [] (sh, mI, mL, mR, n) := by
  have xS : S < 1000000000 := by omega
  have hn : n = S + V.1 := B.1
  refine hG.run [338] 20 ?_ (by omega) (by omega)
  simp [wp, stepI, ln, jmp, cmpI, Value.category, rd, tyF, va_rf, st1, st2, clr, isLg, CB, inx_0, inx_1, inx_2, inx_3, inx_4, inx_5, bI_0, bI_1, bI_ok, fin3, tyX12, dX12_init_336, dX12_init_337, dX12_init_338, dX12_init_340]
  refine hG.newa dX12_init_338 rfl (Or.inr (Or.inr (Or.inr rfl))) wa_boolean (N := 4) (by decide) (by decide) (by decide) (by show n < 1000000000; omega) ?_ (by omega) (by omega)
  show G _ _ 340 _ _ (upS sh n (.inr (.boolean, 4)), up0 mI n 0, up0 mL n 0, up0 mR n none, n + 1)
  have B1 := B.arr hV.1 61 .boolean 4
  have q1 : upS sh n (.inr (.boolean, 4)) S = some (.inl 12) := by
    have := B.s hV.1 hc
    unfold upS; rw [if_neg (by omega)]; exact this
  have nx' := nx _ _ _ _ _ B1
  refine hG.run [343] 20 ?_ (by omega) (by omega)
  simp [wp, stepI, ln, jmp, cmpI, Value.category, rd, tyF, va_rf, st1, st2, clr, isLg, CB, inx_0, inx_1, inx_2, inx_3, inx_4, inx_5, bI_0, bI_1, bI_ok, fin3, tyX12, q1, okv, wr, finF, clT, TX12, xS, fT_12_132, dX12_init_336, dX12_init_337, dX12_init_338, dX12_init_340]
  exact nx'
def rV12 : RM := (rmA (rmA (rmA (rmA (rmA (rmA (rmA (rmA (rmA (rmA (rmA (rmA (rmA (rmA (rmA (rmA (rmA (rmA (rmA (rmA (rmA (rmA (rmA (rmA (rmA (rmA (rmA (rmA (rmA (rmA (rmA (rmA (rmA (rmA (rmA (rmA (rmA (rmA (rmA (rmA (rmA (rmN 12) 2 .int 1000) 10 .int 6) 11 .int 6) 12 .int 6) 13 .long 10) 14 .int 60) 15 .int 60) 16 .int 36) 17 .int 600) 18 .int 6) 19 .int 6) 20 .int 6000) 21 .int 144) 22 .boolean 100) 26 .int 7) 27 .boolean 7) 28 .int 7) 29 .int 7) 30 .int 7) 31 .int 7) 32 .int 7) 33 .int 7) 34 .int 7) 35 .int 7) 36 .int 7) 37 .int 20) 41 .int 144) 42 .int 144) 43 .int 576) 44 .int 10) 45 .int 1024) 46 .int 10) 47 .int 1024) 48 .int 10) 49 .long 1024) 53 .int 8192) 54 .int 8192) 55 .int 10) 56 .int 100) 59 .int 10) 61 .boolean 4)
set_option maxHeartbeats 2000000 in
set_option maxRecDepth 100000 in
theorem c12_init (l : Launch) (X : Cx) (d : Nat) (sh : Nat → Option Sh) (mI : Nat → Nat → Int32) (mL : Nat → Nat → Int64) (mR : Nat → Nat → Option Nat) (n : Nat) (S : Nat) (h : Kt (sh, mI, mL, mR, n) S (rmN 12) (sh, mI, mL, mR, n)) (hS : S < 1000000) (hd : 1 ≤ d) : Cn l X yX12_init cX12_init 1 none d [.ref S] (sh, mI, mL, mR, n) (fun r M' => r = none ∧ Kt (sh, mI, mL, mR, n) S rV12 M') 41 28611 := by
  refine Cn.runA 12 true (by decide) rfl (fun _ => rfl) (by simp [entA, Value.category]) ?_
  intro P G hP hG
  have q0 : sh S = some (.inl 12) := h.s (by decide) rfl
  refine hG.run [1] 20 ?_
  simp [wp, stepI, ln, jmp, cmpI, Value.category, rd, tyF, va_rf, st1, st2, clr, isLg, CB, inx_0, inx_1, inx_2, inx_3, inx_4, inx_5, bI_0, bI_1, bI_ok, fin3, tyX12, entL, q0, dX12_init_0]
  refine hG.objI dX12_init_1 ml_12_1 w_oi.1 w_oi.2 (by omega) (by simp [Value.category]) ?_
  have fin : ∀ sh' mI' mL' mR' n', Kt (sh, mI, mL, mR, n) S rV12 (sh', mI', mL', mR', n') → G 41 28611 343 [some (.ref S)] [] (sh', mI', mL', mR', n') := fun sh' mI' mL' mR' n' B => by
    refine hG.run [] 20 ?_
    simp [wp, stepI, ln, jmp, cmpI, Value.category, rd, tyF, va_rf, st1, st2, clr, isLg, CB, inx_0, inx_1, inx_2, inx_3, inx_4, inx_5, bI_0, bI_1, bI_ok, fin3, tyX12, dX12_init_343]
    exact hP _ _ ⟨rfl, B⟩
  refine c12_s0 hG hS (by decide) rfl h 0 0 (by decide) (by decide) (fun a0 b0 c0 d0 e0 B0 => ?_)
  refine c12_s1 hG hS (by decide) rfl B0 1 1000 (by decide) (by decide) (fun a1 b1 c1 d1 e1 B1 => ?_)
  clear B0
  refine c12_s2 hG hS (by decide) rfl B1 2 1006 (by decide) (by decide) (fun a2 b2 c2 d2 e2 B2 => ?_)
  clear B1
  refine c12_s3 hG hS (by decide) rfl B2 3 1012 (by decide) (by decide) (fun a3 b3 c3 d3 e3 B3 => ?_)
  clear B2
  refine c12_s4 hG hS (by decide) rfl B3 4 1018 (by decide) (by decide) (fun a4 b4 c4 d4 e4 B4 => ?_)
  clear B3
  refine c12_s5 hG hS (by decide) rfl B4 5 1028 (by decide) (by decide) (fun a5 b5 c5 d5 e5 B5 => ?_)
  clear B4
  refine c12_s6 hG hS (by decide) rfl B5 6 1088 (by decide) (by decide) (fun a6 b6 c6 d6 e6 B6 => ?_)
  clear B5
  refine c12_s7 hG hS (by decide) rfl B6 7 1148 (by decide) (by decide) (fun a7 b7 c7 d7 e7 B7 => ?_)
  clear B6
  refine c12_s8 hG hS (by decide) rfl B7 8 1184 (by decide) (by decide) (fun a8 b8 c8 d8 e8 B8 => ?_)
  clear B7
  refine c12_s9 hG hS (by decide) rfl B8 9 1784 (by decide) (by decide) (fun a9 b9 c9 d9 e9 B9 => ?_)
  clear B8
  refine c12_s10 hG hS (by decide) rfl B9 10 1790 (by decide) (by decide) (fun a10 b10 c10 d10 e10 B10 => ?_)
  clear B9
  refine c12_s11 hG hS (by decide) rfl B10 11 1796 (by decide) (by decide) (fun a11 b11 c11 d11 e11 B11 => ?_)
  clear B10
  refine c12_s12 hG hS (by decide) rfl B11 12 7796 (by decide) (by decide) (fun a12 b12 c12 d12 e12 B12 => ?_)
  clear B11
  refine c12_s13 hG hS (by decide) rfl B12 13 7940 (by decide) (by decide) (fun a13 b13 c13 d13 e13 B13 => ?_)
  clear B12
  refine c12_s14 hG hS (by decide) rfl B13 14 8040 (by decide) (by decide) (fun a14 b14 c14 d14 e14 B14 => ?_)
  clear B13
  refine c12_s15 hG hS (by decide) rfl B14 15 8047 (by decide) (by decide) (fun a15 b15 c15 d15 e15 B15 => ?_)
  clear B14
  refine c12_s16 hG hS (by decide) rfl B15 16 8054 (by decide) (by decide) (fun a16 b16 c16 d16 e16 B16 => ?_)
  clear B15
  refine c12_s17 hG hS (by decide) rfl B16 17 8061 (by decide) (by decide) (fun a17 b17 c17 d17 e17 B17 => ?_)
  clear B16
  refine c12_s18 hG hS (by decide) rfl B17 18 8068 (by decide) (by decide) (fun a18 b18 c18 d18 e18 B18 => ?_)
  clear B17
  refine c12_s19 hG hS (by decide) rfl B18 19 8075 (by decide) (by decide) (fun a19 b19 c19 d19 e19 B19 => ?_)
  clear B18
  refine c12_s20 hG hS (by decide) rfl B19 20 8082 (by decide) (by decide) (fun a20 b20 c20 d20 e20 B20 => ?_)
  clear B19
  refine c12_s21 hG hS (by decide) rfl B20 21 8089 (by decide) (by decide) (fun a21 b21 c21 d21 e21 B21 => ?_)
  clear B20
  refine c12_s22 hG hS (by decide) rfl B21 22 8096 (by decide) (by decide) (fun a22 b22 c22 d22 e22 B22 => ?_)
  clear B21
  refine c12_s23 hG hS (by decide) rfl B22 23 8103 (by decide) (by decide) (fun a23 b23 c23 d23 e23 B23 => ?_)
  clear B22
  refine c12_s24 hG hS (by decide) rfl B23 24 8110 (by decide) (by decide) (fun a24 b24 c24 d24 e24 B24 => ?_)
  clear B23
  refine c12_s25 hG hS (by decide) rfl B24 25 8117 (by decide) (by decide) (fun a25 b25 c25 d25 e25 B25 => ?_)
  clear B24
  refine c12_s26 hG hS (by decide) rfl B25 26 8137 (by decide) (by decide) (fun a26 b26 c26 d26 e26 B26 => ?_)
  clear B25
  refine c12_s27 hG hS (by decide) rfl B26 27 8281 (by decide) (by decide) (fun a27 b27 c27 d27 e27 B27 => ?_)
  clear B26
  refine c12_s28 hG hS (by decide) rfl B27 28 8425 (by decide) (by decide) (fun a28 b28 c28 d28 e28 B28 => ?_)
  clear B27
  refine c12_s29 hG hS (by decide) rfl B28 29 9001 (by decide) (by decide) (fun a29 b29 c29 d29 e29 B29 => ?_)
  clear B28
  refine c12_s30 hG hS (by decide) rfl B29 30 9011 (by decide) (by decide) (fun a30 b30 c30 d30 e30 B30 => ?_)
  clear B29
  refine c12_s31 hG hS (by decide) rfl B30 31 10035 (by decide) (by decide) (fun a31 b31 c31 d31 e31 B31 => ?_)
  clear B30
  refine c12_s32 hG hS (by decide) rfl B31 32 10045 (by decide) (by decide) (fun a32 b32 c32 d32 e32 B32 => ?_)
  clear B31
  refine c12_s33 hG hS (by decide) rfl B32 33 11069 (by decide) (by decide) (fun a33 b33 c33 d33 e33 B33 => ?_)
  clear B32
  refine c12_s34 hG hS (by decide) rfl B33 34 11079 (by decide) (by decide) (fun a34 b34 c34 d34 e34 B34 => ?_)
  clear B33
  refine c12_s35 hG hS (by decide) rfl B34 35 12103 (by decide) (by decide) (fun a35 b35 c35 d35 e35 B35 => ?_)
  clear B34
  refine c12_s36 hG hS (by decide) rfl B35 36 20295 (by decide) (by decide) (fun a36 b36 c36 d36 e36 B36 => ?_)
  clear B35
  refine c12_s37 hG hS (by decide) rfl B36 37 28487 (by decide) (by decide) (fun a37 b37 c37 d37 e37 B37 => ?_)
  clear B36
  refine c12_s38 hG hS (by decide) rfl B37 38 28497 (by decide) (by decide) (fun a38 b38 c38 d38 e38 B38 => ?_)
  clear B37
  refine c12_s39 hG hS (by decide) rfl B38 39 28597 (by decide) (by decide) (fun a39 b39 c39 d39 e39 B39 => ?_)
  clear B38
  refine c12_s40 hG hS (by decide) rfl B39 40 28607 (by decide) (by decide) (fun a40 b40 c40 d40 e40 B40 => ?_)
  clear B39
  exact fin _ _ _ _ _ B40
