/-! what holds at the law's entry -/
theorem tb_mem {p i : Nat} {w : Cond} (h : (tbp p)[i]? = some w) : w ∈ lw_tbl := by
  have hm := List.mem_of_getElem? h
  refine List.mem_append_right _ ?_
  show w ∈ tables_1_1 ++ (tables_1_2 ++ (tables_1_3 ++ (tables_1_4 ++ (tables_1_5 ++ (tables_1_6 ++ (tables_1_7 ++ tables_1_8))))))
  unfold tbp at hm
  simp only [List.mem_append]
  split at hm
  · exact Or.inl hm
  · exact Or.inr (Or.inl hm)
  · exact Or.inr (Or.inr (Or.inl hm))
  · exact Or.inr (Or.inr (Or.inr (Or.inl hm)))
  · exact Or.inr (Or.inr (Or.inr (Or.inr (Or.inl hm))))
  · exact Or.inr (Or.inr (Or.inr (Or.inr (Or.inr (Or.inl hm)))))
  · exact Or.inr (Or.inr (Or.inr (Or.inr (Or.inr (Or.inr (Or.inl hm))))))
  · exact Or.inr (Or.inr (Or.inr (Or.inr (Or.inr (Or.inr (Or.inr hm))))))
  · exact absurd hm List.not_mem_nil
def nwF : List Cond := flatC (Jvm.Cond.and given_1 narrow_1)
def wdM : List String := ["PUPIL_LINE", "BENCH_LINE", "SAY_LINE", "LIKE_LINE", "SLIP_LINE", "WISH_LINE", "ROW_WORD", "WORTH_WORD", "PLAIN_KIND", "PROUD_KIND", "SHY_KIND", "HELPED_KIND", "RIVAL_KIND", "NOT_WORD", "AND_WORD", "OR_WORD", "TALL_FACT", "LIKES_FACT", "OTHER_FACT", "ABOVE_FACT", "BELOW_FACT"]
def nwE : List Nat := [30, 43, 70, 81, 93, 106, 51, 60, 170, 188, 207, 227, 248, 120, 135, 151, 36, 270, 293, 317, 342]
def nwG : List Nat := [32, 33, 34, 35, 45, 46, 47, 48, 72, 73, 74, 75, 83, 84, 85, 86, 95, 96, 97, 98, 108, 109, 110, 111, 53, 54, 55, 56, 62, 63, 64, 65, 172, 173, 174, 175, 190, 191, 192, 193, 209, 210, 211, 212, 229, 230, 231, 232, 250, 251, 252, 253, 122, 123, 124, 125, 137, 138, 139, 140, 153, 154, 155, 156, 38, 39, 40, 41, 272, 273, 274, 275, 295, 296, 297, 298, 319, 320, 321, 322, 344, 345, 346, 347]
def nwW : List Nat := [9, 10, 11, 12, 13, 14, 15, 16, 17, 18, 19, 20, 21, 22, 23, 24, 25, 26, 27, 28, 29]
def nwD : List (Nat × (Nat × Nat)) := [(49, (0, 1)), (76, (0, 2)), (87, (0, 3)), (99, (0, 4)), (112, (0, 5)), (57, (0, 6)), (66, (0, 7)), (176, (0, 8)), (194, (0, 9)), (213, (0, 10)), (233, (0, 11)), (254, (0, 12)), (126, (0, 13)), (141, (0, 14)), (157, (0, 15)), (42, (0, 16)), (276, (0, 17)), (299, (0, 18)), (323, (0, 19)), (348, (0, 20)), (78, (1, 2)), (89, (1, 3)), (101, (1, 4)), (114, (1, 5)), (59, (1, 6)), (68, (1, 7)), (178, (1, 8)), (196, (1, 9)), (215, (1, 10)), (235, (1, 11)), (256, (1, 12)), (128, (1, 13)), (143, (1, 14)), (159, (1, 15)), (278, (1, 17)), (301, (1, 18)), (325, (1, 19)), (350, (1, 20)), (92, (2, 3)), (104, (2, 4)), (117, (2, 5)), (181, (2, 8)), (199, (2, 9)), (218, (2, 10)), (238, (2, 11)), (259, (2, 12)), (131, (2, 13)), (146, (2, 14)), (162, (2, 15)), (281, (2, 17)), (304, (2, 18)), (328, (2, 19)), (353, (2, 20)), (105, (3, 4)), (118, (3, 5)), (182, (3, 8)), (200, (3, 9)), (219, (3, 10)), (239, (3, 11)), (260, (3, 12)), (132, (3, 13)), (147, (3, 14)), (163, (3, 15)), (282, (3, 17)), (305, (3, 18)), (329, (3, 19)), (354, (3, 20)), (119, (4, 5)), (183, (4, 8)), (201, (4, 9)), (220, (4, 10)), (240, (4, 11)), (261, (4, 12)), (133, (4, 13)), (148, (4, 14)), (164, (4, 15)), (283, (4, 17)), (306, (4, 18)), (330, (4, 19)), (355, (4, 20)), (184, (5, 8)), (202, (5, 9)), (221, (5, 10)), (241, (5, 11)), (262, (5, 12)), (134, (5, 13)), (149, (5, 14)), (165, (5, 15)), (284, (5, 17)), (307, (5, 18)), (331, (5, 19)), (356, (5, 20)), (79, (6, 2)), (90, (6, 3)), (102, (6, 4)), (115, (6, 5)), (69, (6, 7)), (179, (6, 8)), (197, (6, 9)), (216, (6, 10)), (236, (6, 11)), (257, (6, 12)), (129, (6, 13)), (144, (6, 14)), (160, (6, 15)), (279, (6, 17)), (302, (6, 18)), (326, (6, 19)), (351, (6, 20)), (80, (7, 2)), (91, (7, 3)), (103, (7, 4)), (116, (7, 5)), (180, (7, 8)), (198, (7, 9)), (217, (7, 10)), (237, (7, 11)), (258, (7, 12)), (130, (7, 13)), (145, (7, 14)), (161, (7, 15)), (280, (7, 17)), (303, (7, 18)), (327, (7, 19)), (352, (7, 20)), (206, (8, 9)), (225, (8, 10)), (245, (8, 11)), (266, (8, 12)), (288, (8, 17)), (311, (8, 18)), (335, (8, 19)), (360, (8, 20)), (226, (9, 10)), (246, (9, 11)), (267, (9, 12)), (289, (9, 17)), (312, (9, 18)), (336, (9, 19)), (361, (9, 20)), (247, (10, 11)), (268, (10, 12)), (290, (10, 17)), (313, (10, 18)), (337, (10, 19)), (362, (10, 20)), (269, (11, 12)), (291, (11, 17)), (314, (11, 18)), (338, (11, 19)), (363, (11, 20)), (292, (12, 17)), (315, (12, 18)), (339, (12, 19)), (364, (12, 20)), (185, (13, 8)), (203, (13, 9)), (222, (13, 10)), (242, (13, 11)), (263, (13, 12)), (150, (13, 14)), (166, (13, 15)), (285, (13, 17)), (308, (13, 18)), (332, (13, 19)), (357, (13, 20)), (186, (14, 8)), (204, (14, 9)), (223, (14, 10)), (243, (14, 11)), (264, (14, 12)), (167, (14, 15)), (286, (14, 17)), (309, (14, 18)), (333, (14, 19)), (358, (14, 20)), (187, (15, 8)), (205, (15, 9)), (224, (15, 10)), (244, (15, 11)), (265, (15, 12)), (287, (15, 17)), (310, (15, 18)), (334, (15, 19)), (359, (15, 20)), (50, (16, 1)), (77, (16, 2)), (88, (16, 3)), (100, (16, 4)), (113, (16, 5)), (58, (16, 6)), (67, (16, 7)), (177, (16, 8)), (195, (16, 9)), (214, (16, 10)), (234, (16, 11)), (255, (16, 12)), (127, (16, 13)), (142, (16, 14)), (158, (16, 15)), (277, (16, 17)), (300, (16, 18)), (324, (16, 19)), (349, (16, 20)), (316, (17, 18)), (340, (17, 19)), (365, (17, 20)), (341, (18, 19)), (366, (18, 20)), (367, (19, 20))]
def nwL : List (Nat × Nat) := [(3, 15), (3, 48), (3, 58), (3, 75), (3, 81), (3, 87), (3, 54), (3, 56), (7, 239), (8, 0), (8, 1), (8, 2), (8, 3), (3, 105), (3, 115), (3, 117), (3, 34), (8, 4), (8, 5), (8, 6), (8, 7)]
def wdT (i k : Nat) : Term := match k with
  | 0 => .long (wdC i) | 1 => .int (wdK i) | 2 => .int (wdF i) | _ => .int (wdR i)
set_option maxRecDepth 100000 in
theorem nw_e : ∀ i, i < 21 → nwF[nwE.getD i 0]? = some (Cond.exactly (.static RX10 (wdM.getD i "") "LBenchOrder$Word;") RX10) := by decide +kernel
set_option maxRecDepth 100000 in
theorem nw_f : ∀ k, k < 4 → ∀ i, i < 21 → nwF[nwG.getD (4 * i + k) 0]? = some (Cond.eq (.field (.static RX10 (wdM.getD i "") "LBenchOrder$Word;") RX10 (wdD k).1 (wdD k).2) (wdT i k)) := by decide +kernel
set_option maxRecDepth 100000 in
theorem nw_w : ∀ j, j < 21 → nwF[nwW.getD j 0]? = some (Cond.eq (.elem (.static RX11 "WORDS" "[LBenchOrder$Word;") (.int (Int32.ofNat j))) (.static RX10 (wdM.getD j "") "LBenchOrder$Word;")) := by decide +kernel
set_option maxRecDepth 100000 in
theorem nw_d : ∀ x ∈ nwD, nwF[x.1]? = some (Cond.not (.eq (.static RX10 (wdM.getD x.2.1 "") "LBenchOrder$Word;") (.static RX10 (wdM.getD x.2.2 "") "LBenchOrder$Word;"))) := by decide +kernel
set_option maxRecDepth 100000 in
theorem nw_p : ∀ i, i < 21 → ∀ j, j < 21 → i ≠ j → ∃ x ∈ nwD, x.2 = (i, j) ∨ x.2 = (j, i) := by decide +kernel
set_option maxRecDepth 100000 in
theorem nw_l : ∀ i, i < 21 → (tbp (nwL.getD i (0, 0)).1)[(nwL.getD i (0, 0)).2]? = some (Cond.laysStatic RX10 (wdM.getD i "") "LBenchOrder$Word;") := by decide +kernel
set_option maxRecDepth 100000 in
theorem nw_1 : nwF[7]? = some (Cond.eq (.length (.static RX11 "WORDS" "[LBenchOrder$Word;")) (.int (Int32.ofNat 21))) := by decide +kernel
set_option maxRecDepth 100000 in
theorem nw_2 : nwF[6]? = some (Cond.arrayOf (.static RX11 "WORDS" "[LBenchOrder$Word;") (.object RX10)) := by decide +kernel
set_option maxRecDepth 100000 in
theorem nw_3 : nwF[5]? = some (Cond.exactly (.static RX11 "WORDS" "[LBenchOrder$Word;") "[LBenchOrder$Word;") := by decide +kernel
set_option maxRecDepth 100000 in
theorem nw_4 : nwF[168]? = some (Cond.isRef (.static Jvm.Bundle.tN "UNASSIGNED_STACK" Jvm.Bundle.steD)) := by decide +kernel
set_option maxRecDepth 100000 in
theorem nw_5 : nwF[169]? = some (Cond.isRef (.static Jvm.Bundle.tN "SUPPRESSED_SENTINEL" Jvm.Bundle.listD)) := by decide +kernel
theorem ns_t : ∀ q ∈ nsM, Cond.methodLinkNest q.1 q.2.1 q.2.2.1 q.2.2.2 ∈ lw_tbl := by
  intro q hq
  simp only [nsM, List.mem_cons, List.not_mem_nil, or_false] at hq
  rcases hq with rfl | rfl | rfl | rfl | rfl | rfl | rfl | rfl | rfl | rfl
  · exact tb_mem (p := 1) (i := 34) (by decide +kernel)
  · exact tb_mem (p := 1) (i := 46) (by decide +kernel)
  · exact tb_mem (p := 1) (i := 159) (by decide +kernel)
  · exact tb_mem (p := 1) (i := 234) (by decide +kernel)
  · exact tb_mem (p := 2) (i := 60) (by decide +kernel)
  · exact tb_mem (p := 2) (i := 92) (by decide +kernel)
  · exact tb_mem (p := 2) (i := 111) (by decide +kernel)
  · exact tb_mem (p := 2) (i := 140) (by decide +kernel)
  · exact tb_mem (p := 2) (i := 147) (by decide +kernel)
  · exact tb_mem (p := 2) (i := 217) (by decide +kernel)
theorem cl_in : ∀ (ci : Nat) (C : String) (T : u_T) (N : Nat), clT ci = some (C, T, N) → ∃ n, Cond.instantiable C n ∈ gtbl := by
  intro ci C T N h
  unfold clT at h
  split at h
  · cases h; exact ⟨_, wn_0⟩
  · cases h; exact ⟨_, wn_1⟩
  · cases h; exact ⟨_, wn_2⟩
  · cases h; exact ⟨_, wn_3⟩
  · cases h; exact ⟨_, wn_4⟩
  · cases h; exact ⟨_, wn_5⟩
  · cases h; exact ⟨_, wn_6⟩
  · cases h; exact ⟨_, wn_7⟩
  · cases h; exact ⟨_, wn_8⟩
  · cases h; exact ⟨_, wn_9⟩
  · cases h; exact ⟨_, wn_11⟩
  · cases h; exact ⟨_, wn_12⟩
  · cases h
theorem ar_1 {s : State} {args : Array Value} {ty : FieldType} (h : (Cond.arrayClass ty).before args s = true) : ∃ cA : ClassId, ArrOfT s cA ty ∧ s.vm.findClass ("[" ++ ty.toString) = some cA := by
  obtain ⟨c, k, comp, h1, h2, h3⟩ := Cond.arrayClass_spec h
  exact ⟨c, fun n z => ⟨(fun k h => by cases h), k, h2, comp, h3⟩, h1⟩
theorem ar_2 {s : State} {args : Array Value} {C : String} (h : (Cond.arrayOver (.object C)).before args s = true) : ∃ cA : ClassId, ArrOfT s cA (.object C) ∧ va_RA s cA (.object C) := by
  obtain ⟨comp, c, k, h1, h2, h3, h4, h5⟩ := Cond.arrayOver_spec h
  exact ⟨c, fun n z => ⟨(fun k h => by cases h), k, h3, comp, h4⟩, k, comp, h3, h4, h1, h5⟩
theorem ar_all {s : State} {args : Array Value} (hts : ∀ w ∈ lw_tbl, w.before args s = true) (ty : FieldType) : ∃ cA : ClassId, okT ty → ArrOfT s cA ty ∧ va_RA s cA ty := by
  have g : ∀ w ∈ gtbl, w.before args s = true := fun w hw => hts w (List.mem_filter.mp hw).1
  obtain ⟨c0, a0, b0⟩ := ar_1 (g _ wa_int)
  by_cases h : okT ty
  · rcases h with rfl | rfl | rfl | rfl | rfl
    · exact ⟨c0, fun _ => ⟨a0, b0⟩⟩
    · obtain ⟨c, a, b⟩ := ar_1 (g _ wa_long)
      exact ⟨c, fun _ => ⟨a, b⟩⟩
    · obtain ⟨c, a, b⟩ := ar_1 (g _ wa_byte)
      exact ⟨c, fun _ => ⟨a, b⟩⟩
    · obtain ⟨c, a, b⟩ := ar_1 (g _ wa_boolean)
      exact ⟨c, fun _ => ⟨a, b⟩⟩
    · obtain ⟨c, a, b⟩ := ar_2 (hts (.arrayOver (.object RX6)) (tb_mem (p := 1) (i := 231) (by decide +kernel)))
      exact ⟨c, fun _ => ⟨a, b⟩⟩
  · exact ⟨c0, fun z => absurd z h⟩
theorem cl_all {s : State} {args : Array Value} (hts : ∀ w ∈ lw_tbl, w.before args s = true) (ci : Nat) : ∃ q : ClassId × (Nat → Nat), ∀ r : vw_C, clT ci = some r → u_Kn s r.1 r.2.1 r.2.2 q.1 q.2 := by
  have g : ∀ w ∈ gtbl, w.before args s = true := fun w hw => hts w (List.mem_filter.mp hw).1
  cases hc : clT ci with
  | none =>
    obtain ⟨c0, a0, b0⟩ := ar_1 (g _ wa_int)
    exact ⟨(c0, fun _ => 0), fun r hr => by cases hr⟩
  | some r =>
    obtain ⟨C, T, N⟩ := r
    obtain ⟨n, hn⟩ := cl_in _ _ _ _ hc
    obtain ⟨cC, iS, hK⟩ := u_known (C := C) (T := T) (N := N) g (clOK _ _ _ _ hc).1 (g _ hn)
    exact ⟨(cC, iS), fun r hr => by cases hr; exact hK⟩
theorem wdT_e (i k : Nat) {args : Array Value} {s : State} : (wdT i k).eval args s none [] s = some (wdV i k) := by
  match k with
  | 0 => rfl
  | 1 => rfl
  | 2 => rfl
  | k + 3 => rfl
theorem st_X {s : State} {b L : Nat} {xs : Nat → Int32} (hts : ∀ w ∈ lw_tbl, w.before #[Value.ref b] s = true) (hX : va_X b L xs s s.heap) (hgv : (Jvm.Cond.and given_1 narrow_1).before #[Value.ref b] s = true) : ∃ X : Cx, X.1 = s.heap ∧ X.2.1 22 = b ∧ KK X s ∧ XZ X s := by
  have hA : ∀ a : Nat, a < s.heap.size → ¬ (fun q : Nat => s.heap.size ≤ q) a := fun a h => Nat.not_le.mpr h
  have hn : ∀ c ∈ nwF, c.before #[Value.ref b] s = true := flat_of_before _ hgv
  have hj : ∀ {i : Nat} {w : Cond}, nwF[i]? = some w → w.before #[Value.ref b] s = true := fun h => hn _ (List.mem_of_getElem? h)
  obtain ⟨ad, ⟨hE, hinj⟩, hev⟩ := va_Enof2 (s := s) (args := #[Value.ref b]) (E := RX10) (d := "LBenchOrder$Word;") (nm := wdM) (F := []) (A := fun q : Nat => s.heap.size ≤ q) (fun i hi => hts _ (tb_mem (nw_l i hi))) (hts (.initialized RX10) (tb_mem (p := 1) (i := 16) (by decide +kernel))) (fun i hi => hj (nw_e i hi)) (fun q hq => by cases hq) (fun i j hi hk hij => by
    obtain ⟨x, hx, h | h⟩ := nw_p i hi j hk hij
    · left
      have := hj (nw_d x hx)
      rw [h] at this
      exact this
    · right
      have := hj (nw_d x hx)
      rw [h] at this
      exact this) hA
  have hW0 : (Term.static RX11 "WORDS" "[LBenchOrder$Word;" : Term) = .static RX11 "WORDS" "[LBenchOrder$Word;" := rfl
  obtain ⟨t, ht, hT⟩ := va_Tof (s := s) (args := #[Value.ref b]) (tm := .static RX11 "WORDS" "[LBenchOrder$Word;") (ty := .object RX10) (N := 21) (f := fun j => .ref (ad j)) (A := fun q : Nat => s.heap.size ≤ q) (by decide) (hj nw_2) (va_eqt (hj nw_1)) (fun j h => va_eqv (hj (nw_w j h)) (hev j h)) hA
  have hZ : va_Z RX11 "WORDS" "[LBenchOrder$Word;" (.ref t) (fun q : Nat => s.heap.size ≤ q) s s.heap := va_Zref (hts (.laysStatic RX11 "WORDS" "[LBenchOrder$Word;") (tb_mem (p := 2) (i := 239) (by decide +kernel))) (hts (.initialized RX11) (tb_mem (p := 1) (i := 1) (by decide +kernel))) ht hA
  have hfl : ∀ k, k < 4 → va_Ef 21 RX10 (wdD k).1 (wdD k).2 (fun i => wdV i k) ad (fun q : Nat => s.heap.size ≤ q) s s.heap := fun k hk => va_Efof (E := RX10) (d0 := "LBenchOrder$Word;") (nm := wdM) (tm := fun i => wdT i k) (args := #[Value.ref b]) hev (fun i hi => hj (nw_f k hk i hi)) (fun i hi => wdT_e i k) hA
  obtain ⟨cl, hcl⟩ := Classical.axiomOfChoice (fun ci => cl_all hts ci)
  obtain ⟨ar, har⟩ := Classical.axiomOfChoice (fun ty => ar_all hts ty)
  have hta : ∀ i, i < 21 → t ≠ ad i := fun i hi e => by
    obtain ⟨cell, h1, h2, h3, h4⟩ := (hE i hi).2.1
    obtain ⟨a9, c9, cell9, k9, q1, q2, q3, q4, q5, q6, -⟩ := Cond.exactly_spec (hj nw_3)
    cases ht.symm.trans q1
    rw [e] at q3
    cases h1.symm.trans q3
    obtain ⟨k1, e1, n1⟩ := Vm.findClass_spec h3
    obtain ⟨k2, e2, n2⟩ := Vm.findClass_spec q2
    rw [q6] at e1
    cases e1.symm.trans e2
    exact absurd (n1.symm.trans n2) (by decide +kernel)
  have hal : ∀ i, i < 21 → ad i < s.heap.size := fun i hi => by
    obtain ⟨cell, h1, -⟩ := (hE i hi).2.1
    exact (Array.getElem?_eq_some_iff.mp h1).1
  have htl : t < s.heap.size := by
    obtain ⟨cell, h1, -⟩ := hT
    exact (Array.getElem?_eq_some_iff.mp h1).1
  have hbl : b < s.heap.size := by
    obtain ⟨cell, h1, -⟩ := hX
    exact (Array.getElem?_eq_some_iff.mp h1).1
  obtain ⟨cs, hcs⟩ : ∃ cs : Nat → Nat, cs = fun i => if i < 21 then ad i else if i = 21 then t else b := ⟨_, rfl⟩
  have c1 : ∀ i, i < 21 → cs i = ad i := fun i hi => by rw [hcs]; exact if_pos hi
  have c2 : cs 21 = t := by rw [hcs]; rfl
  have c3 : cs 22 = b := by rw [hcs]; rfl
  have c4 : ∀ i, cs i < s.heap.size := fun i => by
    rw [hcs]
    show (if i < 21 then ad i else if i = 21 then t else b) < s.heap.size
    split
    · exact hal i (by assumption)
    · split
      · exact htl
      · exact hbl
  have c5 : ∀ i j, i < 22 → j < 22 → cs i = cs j → i = j := fun i j hi hk e => by
    by_cases h1 : i < 21
    · by_cases h2 : j < 21
      · rw [c1 i h1, c1 j h2] at e
        exact hinj i j h1 h2 e
      · have : j = 21 := by omega
        subst this
        rw [c1 i h1, c2] at e
        exact absurd e.symm (hta i h1)
    · have : i = 21 := by omega
      subst this
      by_cases h2 : j < 21
      · rw [c1 j h2, c2] at e
        exact absurd e (hta j h2)
      · omega
  have hfT : (fun j : Nat => Value.ref (cs j)) = fun j => Value.ref (cs j) := rfl
  have hT2 : va_T (.object RX10) t 21 (fun j => .ref (cs j)) (fun q : Nat => s.heap.size ≤ q) s s.heap := by
    obtain ⟨cell, z1, z2, z3, z4, z5, z6, z7⟩ := hT
    exact ⟨cell, z1, z2, z3, z4, z5, fun j h => by
      show cell.slots[j]? = some (Value.ref (cs j))
      rw [c1 j h]
      exact z6 j h, z7⟩
  have g1 : (∀ i, i < 21 → va_Z RX10 (wdN i) "LBenchOrder$Word;" (.ref (cs i)) (fun q : Nat => s.heap.size ≤ q) s s.heap ∧ ∀ k, k < 4 → va_OF RX10 (wdD k).1 (wdD k).2 (wdV i k) (cs i) (fun q : Nat => s.heap.size ≤ q) s s.heap) := fun i hi => by
    rw [c1 i hi]
    exact ⟨(hE i hi).1, fun k hk => hfl k hk i hi⟩
  refine ⟨(s.heap, cs, fun ci => (cl ci).1, fun ci => (cl ci).2, ar), rfl, c3, ⟨fun ci r h => hcl ci r h, har, ⟨c4, c5⟩, g1, ?_, ?_, ⟨fun q hq => va_Nw.of rfl (hts _ (ns_t q hq)), va_Nw.of rfl (hts (.fieldLinkNest RX8 69 RX11 "WORDS" "[LBenchOrder$Word;" RX11) (tb_mem (p := 2) (i := 238) (by decide +kernel))), va_AO.of (hts (.arrayOver (.object RX6)) (tb_mem (p := 1) (i := 231) (by decide +kernel)))⟩, fun ce hc => ?_⟩, va_Nw.of rfl (hts (.castable nsE nsE) (tb_mem (p := 5) (i := 63) (by decide +kernel))), va_Nw.of rfl (hts (.declares (exI "java/lang/RuntimeException")) (tb_mem (p := 5) (i := 64) (by decide +kernel))), va_Nw.of rfl (hts (.declares (exI "java/lang/Exception")) (tb_mem (p := 5) (i := 66) (by decide +kernel))), va_Nw.of rfl (hts (.declares (exI "java/lang/Throwable")) (tb_mem (p := 5) (i := 68) (by decide +kernel))), ?_, ?_⟩
  · show va_Z RX11 "WORDS" "[LBenchOrder$Word;" (.ref (cs 21)) (fun q : Nat => s.heap.size ≤ q) s s.heap
    rw [c2]
    exact hZ
  · show va_T (.object RX10) (cs 21) 21 (fun j => .ref (cs j)) (fun q : Nat => s.heap.size ≤ q) s s.heap
    rw [c2]
    exact hT2
  · have hc2 : s.heap[cs 22]? = some ce := hc
    rw [c3] at hc2
    obtain ⟨scr, y1, y2, y3, -⟩ := hX
    cases y1.symm.trans hc2
    exact ⟨y2, y3⟩
  · exact vx_Zqof (args := #[Value.ref b]) (hts (.laysStatic Jvm.Bundle.tN "UNASSIGNED_STACK" Jvm.Bundle.steD) (tb_mem (p := 5) (i := 88) (by decide +kernel))) (hts (.initialized Jvm.Bundle.tN) (tb_mem (p := 1) (i := 20) (by decide +kernel))) (hj nw_4) hA
  · exact vx_Zqof (args := #[Value.ref b]) (hts (.laysStatic Jvm.Bundle.tN "SUPPRESSED_SENTINEL" Jvm.Bundle.listD) (tb_mem (p := 5) (i := 90) (by decide +kernel))) (hts (.initialized Jvm.Bundle.tN) (tb_mem (p := 1) (i := 20) (by decide +kernel))) (hj nw_5) hA
