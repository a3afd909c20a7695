def fTQ (o : Nat) : List ((Nat × (Nat × Nat)) × (Nat × Nat)) := match o with
  | 0 => [((9, (0, 0)), (2, 96)), ((15, (0, 1)), (2, 97)), ((18, (0, 2)), (2, 98)), ((22, (6, 0)), (1, 106)), ((28, (4, 4)), (1, 64)), ((40, (0, 3)), (2, 99)), ((52, (6, 4)), (1, 130)), ((55, (6, 1)), (1, 114)), ((58, (6, 2)), (1, 120))]
  | 1 => [((9, (1, 0)), (2, 64)), ((15, (1, 1)), (2, 65)), ((18, (1, 2)), (2, 66)), ((22, (1, 3)), (2, 67)), ((25, (1, 6)), (2, 71)), ((29, (1, 7)), (2, 72)), ((33, (6, 0)), (1, 110)), ((39, (4, 4)), (1, 68)), ((44, (1, 4)), (2, 69)), ((49, (1, 5)), (2, 70)), ((74, (6, 4)), (1, 132)), ((77, (6, 3)), (1, 126)), ((80, (6, 2)), (1, 122)), ((83, (6, 1)), (1, 116))]
  | 2 => [((9, (2, 0)), (1, 238)), ((15, (2, 1)), (1, 239)), ((18, (2, 2)), (2, 0)), ((21, (2, 5)), (2, 3)), ((29, (2, 4)), (2, 2)), ((37, (2, 6)), (2, 4)), ((43, (6, 0)), (1, 111)), ((49, (4, 4)), (1, 70)), ((54, (2, 3)), (2, 1)), ((64, (6, 4)), (1, 131)), ((67, (6, 2)), (1, 121)), ((70, (6, 1)), (1, 115))]
  | 3 => [((12, (3, 0)), (1, 193)), ((21, (3, 1)), (1, 195)), ((25, (3, 2)), (1, 196)), ((29, (3, 3)), (1, 197)), ((33, (3, 4)), (1, 198)), ((39, (6, 0)), (1, 107)), ((43, (6, 4)), (1, 129)), ((53, (3, 6)), (1, 200)), ((57, (3, 7)), (1, 201)), ((60, (3, 10)), (1, 204)), ((67, (8, 4)), (1, 168)), ((74, (8, 7)), (1, 175)), ((120, (4, 4)), (1, 71)), ((129, (8, 6)), (1, 172)), ((138, (4, 0)), (1, 53)), ((150, (4, 1)), (1, 56)), ((153, (3, 8)), (1, 202)), ((159, (4, 5)), (1, 74)), ((165, (4, 2)), (1, 60)), ((174, (3, 9)), (1, 203)), ((181, (4, 3)), (1, 63)), ((184, (4, 6)), (1, 78)), ((187, (3, 5)), (1, 199)), ((198, (4, 7)), (1, 82)), ((226, (8, 5)), (1, 171)), ((227, (8, 3)), (1, 167))]
  | 4 => [((9, (4, 0)), (1, 50)), ((15, (4, 1)), (1, 54)), ((18, (4, 2)), (1, 59)), ((21, (4, 3)), (1, 62)), ((24, (4, 7)), (1, 80)), ((27, (4, 6)), (1, 76)), ((31, (4, 4)), (1, 69))]
  | 5 => [((12, (5, 0)), (2, 148)), ((21, (5, 1)), (2, 150)), ((25, (5, 2)), (2, 151)), ((33, (6, 0)), (1, 108)), ((37, (4, 4)), (1, 65)), ((43, (5, 3)), (2, 152)), ((62, (4, 6)), (1, 77))]
  | 6 => [((12, (6, 0)), (1, 105)), ((18, (6, 1)), (1, 113)), ((22, (6, 2)), (1, 119)), ((25, (6, 3)), (1, 125)), ((28, (6, 5)), (1, 135)), ((31, (6, 6)), (1, 137)), ((40, (6, 4)), (1, 128)), ((50, (4, 4)), (1, 72)), ((61, (4, 1)), (1, 58)), ((68, (4, 2)), (1, 61))]
  | 7 => [((9, (7, 1)), (2, 28)), ((15, (7, 2)), (2, 29)), ((19, (7, 3)), (2, 30)), ((22, (7, 4)), (2, 31)), ((25, (7, 5)), (2, 32)), ((28, (7, 0)), (2, 27)), ((32, (7, 8)), (2, 35)), ((35, (7, 9)), (2, 36)), ((38, (6, 0)), (1, 109)), ((44, (4, 4)), (1, 67)), ((50, (7, 6)), (2, 33)), ((55, (7, 7)), (2, 34)), ((91, (6, 4)), (1, 134)), ((94, (6, 1)), (1, 118)), ((97, (6, 2)), (1, 124))]
  | 8 => [((9, (8, 0)), (1, 163)), ((21, (8, 1)), (1, 164)), ((25, (8, 2)), (1, 165)), ((31, (8, 7)), (1, 174)), ((35, (8, 3)), (1, 166)), ((38, (8, 4)), (1, 169)), ((63, (8, 6)), (1, 173)), ((76, (8, 5)), (1, 170))]
  | 9 => [((9, (9, 0)), (2, 115)), ((15, (9, 1)), (2, 116)), ((18, (9, 2)), (2, 117)), ((21, (9, 3)), (2, 118)), ((25, (9, 5)), (2, 120)), ((29, (4, 4)), (1, 66)), ((41, (9, 4)), (2, 119)), ((52, (9, 6)), (2, 121)), ((71, (4, 0)), (1, 51)), ((77, (4, 7)), (1, 81)), ((90, (4, 1)), (1, 57))]
  | 11 => [((9, (11, 0)), (2, 162)), ((16, (11, 2)), (2, 164)), ((23, (11, 3)), (2, 165)), ((27, (11, 4)), (2, 166)), ((34, (11, 5)), (2, 167)), ((43, (11, 6)), (2, 168)), ((47, (11, 7)), (2, 169)), ((53, (11, 8)), (2, 170)), ((60, (11, 9)), (2, 171)), ((67, (11, 10)), (2, 172)), ((74, (11, 11)), (2, 173)), ((82, (11, 1)), (2, 163)), ((90, (3, 0)), (1, 194)), ((104, (6, 0)), (1, 112)), ((108, (4, 0)), (1, 52)), ((114, (4, 1)), (1, 55)), ((117, (6, 5)), (1, 136)), ((120, (6, 6)), (1, 138)), ((127, (6, 4)), (1, 133)), ((134, (6, 1)), (1, 117)), ((137, (6, 2)), (1, 123)), ((140, (6, 3)), (1, 127)), ((153, (2, 6)), (2, 5)), ((174, (1, 3)), (2, 68)), ((180, (4, 4)), (1, 73)), ((237, (9, 6)), (2, 122)), ((258, (5, 0)), (2, 149)), ((261, (6, 7)), (1, 139)), ((264, (4, 5)), (1, 75)), ((267, (4, 6)), (1, 79))]
  | 12 => [((7, (12, 2)), (5, 138)), ((13, (12, 10)), (5, 146)), ((16, (12, 11)), (5, 147)), ((19, (12, 12)), (5, 148)), ((22, (12, 13)), (5, 149)), ((26, (12, 14)), (5, 150)), ((29, (12, 15)), (5, 151)), ((32, (12, 16)), (5, 152)), ((35, (12, 17)), (5, 153)), ((38, (12, 18)), (5, 154)), ((41, (12, 19)), (5, 155)), ((44, (12, 20)), (5, 156)), ((47, (12, 21)), (5, 157)), ((50, (12, 22)), (5, 158)), ((54, (12, 26)), (5, 162)), ((57, (12, 27)), (5, 163)), ((60, (12, 28)), (5, 164)), ((63, (12, 29)), (5, 165)), ((66, (12, 30)), (5, 166)), ((69, (12, 31)), (5, 167)), ((72, (12, 32)), (5, 168)), ((75, (12, 33)), (5, 169)), ((78, (12, 34)), (5, 170)), ((81, (12, 35)), (5, 171)), ((84, (12, 36)), (5, 172)), ((87, (12, 37)), (5, 173)), ((90, (12, 41)), (5, 177)), ((93, (12, 42)), (5, 178)), ((96, (12, 43)), (5, 179)), ((99, (12, 44)), (5, 180)), ((102, (12, 45)), (5, 181)), ((105, (12, 46)), (5, 182)), ((108, (12, 47)), (5, 183)), ((111, (12, 48)), (5, 184)), ((114, (12, 49)), (5, 185)), ((117, (12, 53)), (5, 189)), ((120, (12, 54)), (5, 190)), ((123, (12, 55)), (5, 191)), ((126, (12, 56)), (5, 192)), ((129, (12, 59)), (5, 195)), ((132, (12, 61)), (5, 197)), ((135, (12, 0)), (5, 136)), ((141, (12, 1)), (5, 137)), ((144, (12, 3)), (5, 139)), ((147, (12, 4)), (5, 140)), ((150, (12, 5)), (5, 141)), ((153, (12, 7)), (5, 143)), ((157, (12, 8)), (5, 144)), ((160, (12, 6)), (5, 142)), ((171, (12, 9)), (5, 145)), ((174, (12, 23)), (5, 159)), ((254, (12, 38)), (5, 174)), ((277, (12, 39)), (5, 175)), ((280, (12, 40)), (5, 176)), ((286, (12, 24)), (5, 160)), ((290, (12, 25)), (5, 161)), ((385, (12, 52)), (5, 188)), ((391, (12, 50)), (5, 186)), ((394, (12, 51)), (5, 187)), ((428, (12, 57)), (5, 193)), ((431, (12, 58)), (5, 194)), ((440, (12, 60)), (5, 196))]
  | _ => []
def fTL (o : Nat) : List (Nat × (Nat × Nat)) := (fTQ o).map (fun x => x.1)
def fT (o n : Nat) : Option ((Nat × Nat)) := (fTL o).lookup n
def cIQ (o : Nat) : List ((Nat × Int32) × (Nat × Nat)) := match o with
  | 12 => [((403, 40503), (7, 106))]
  | 14 => [((264, 65536), (4, 33)), ((265, 1431655765), (4, 8)), ((266, 858993459), (4, 9)), ((267, 252645135), (4, 10))]
  | _ => []
def cIL (o : Nat) : List (Nat × Int32) := (cIQ o).map (fun x => x.1)
def cI (o n : Nat) : Option (Int32) := (cIL o).lookup n
def cLQ (o : Nat) : List ((Nat × Int64) × (Nat × Nat)) := match o with
  | 0 => [((89, -1), (4, 125))]
  | 1 => [((86, 63), (4, 42))]
  | 5 => [((69, 1103515245), (5, 39)), ((71, 12345), (5, 40)), ((73, 2147483648), (5, 41)), ((75, 65536), (5, 42))]
  | 8 => [((67, 32), (2, 237))]
  | 9 => [((93, 15), (5, 12))]
  | 11 => [((187, -1), (4, 71)), ((270, 255), (2, 207))]
  | 12 => [((139, 255), (6, 92)), ((167, 27), (6, 109)), ((169, 96), (6, 110)), ((177, 6562612), (6, 203)), ((179, 394725), (6, 128)), ((181, 8371260), (6, 204)), ((183, 582341), (6, 205)), ((185, 1170473), (6, 206)), ((191, 10631), (6, 141)), ((211, 1111), (6, 142)), ((213, 423), (6, 143)), ((224, 8928318), (6, 111)), ((226, 1171592), (6, 129)), ((228, 13550), (6, 130)), ((230, 12532058), (6, 131)), ((232, 13903), (6, 132)), ((234, 243059), (6, 133)), ((236, 382984), (6, 134)), ((238, 459791), (6, 135)), ((240, 8740238), (6, 136)), ((242, 8868856), (6, 137)), ((244, 14092), (6, 138)), ((246, 117696460), (6, 139)), ((248, 9759162), (6, 140)), ((376, -1), (7, 77)), ((443, 1103515245), (7, 198)), ((445, 12345), (7, 199)), ((447, 2147483648), (7, 200)), ((449, 65536), (7, 201))]
  | 13 => [((19, 4294967295), (7, 218))]
  | 15 => [((314, 6148914691236517205), (4, 136)), ((316, 3689348814741910323), (4, 137)), ((318, 1085102592571150095), (4, 138))]
  | _ => []
def cLL (o : Nat) : List (Nat × Int64) := (cLQ o).map (fun x => x.1)
def cL (o n : Nat) : Option (Int64) := (cLL o).lookup n
def sTQ (o : Nat) : List ((Nat × Nat) × (Nat × Nat)) := match o with
  | 3 => [((78, 0), (3, 14)), ((86, 1), (3, 47)), ((92, 2), (3, 57)), ((98, 3), (3, 74)), ((104, 4), (3, 80)), ((110, 5), (3, 86)), ((140, 16), (3, 33)), ((162, 6), (3, 53)), ((168, 7), (3, 55)), ((214, 14), (3, 114)), ((217, 15), (3, 116)), ((223, 13), (3, 104))]
  | _ => []
def sTL (o : Nat) : List (Nat × Nat) := (sTQ o).map (fun x => x.1)
def sT (o n : Nat) : Option (Nat) := (sTL o).lookup n
def wTQ (o : Nat) : List ((Nat × Nat) × (Nat × Nat)) := match o with
  | 3 => [((137, 1), (7, 237)), ((220, 2), (7, 238))]
  | 8 => [((57, 3), (7, 236)), ((73, 0), (7, 235))]
  | _ => []
def wTL (o : Nat) : List (Nat × Nat) := (wTQ o).map (fun x => x.1)
def wT (o n : Nat) : Option (Nat) := (wTL o).lookup n
/-- the tables' words, in their parts -/
def tbp (p : Nat) : List Cond := match p with
  | 1 => tables_1_1 | 2 => tables_1_2 | 3 => tables_1_3 | 4 => tables_1_4 | 5 => tables_1_5 | 6 => tables_1_6 | 7 => tables_1_7 | 8 => tables_1_8 | _ => []
/-- those of them that hold in every state that comes -/
def gtbl : List Cond := lw_tbl.filter goodWord
theorem tbp_mem {p i : Nat} {w : Cond} (h : (tbp p)[i]? = some w) (hg : goodWord w = true) : w ∈ gtbl := by
  have hm := List.mem_of_getElem? h
  have h1 : w ∈ tables_1 := by
    show w ∈ tables_1_1 ++ (tables_1_2 ++ (tables_1_3 ++ (tables_1_4 ++ (tables_1_5 ++ (tables_1_6 ++ (tables_1_7 ++ tables_1_8))))))
    unfold tbp at hm
    simp only [List.mem_append]
    split at hm
    · exact Or.inl hm
    · exact Or.inr (Or.inl hm)
    · exact Or.inr (Or.inr (Or.inl hm))
    · exact Or.inr (Or.inr (Or.inr (Or.inl hm)))
    · exact Or.inr (Or.inr (Or.inr (Or.inr (Or.inl hm))))
    · exact Or.inr (Or.inr (Or.inr (Or.inr (Or.inr (Or.inl hm)))))
    · exact Or.inr (Or.inr (Or.inr (Or.inr (Or.inr (Or.inr (Or.inl hm))))))
    · exact Or.inr (Or.inr (Or.inr (Or.inr (Or.inr (Or.inr (Or.inr hm))))))
    · simp at hm
  exact List.mem_filter.mpr ⟨List.mem_append_right _ h1, hg⟩
theorem gtbl_good : ∀ w ∈ gtbl, goodWord w = true := fun w h => (List.mem_filter.mp h).2
theorem good_gtbl (ws : List Cond) (h : ∀ w ∈ ws, w ∈ gtbl) : GoodIn gtbl ws := fun w hw => ⟨h w hw, good_of_word (gtbl_good w (h w hw))⟩
theorem fT_0_9 : fT 0 9 = some (0, 0) := rfl
theorem fT_0_15 : fT 0 15 = some (0, 1) := rfl
theorem fT_0_18 : fT 0 18 = some (0, 2) := rfl
theorem fT_0_22 : fT 0 22 = some (6, 0) := rfl
theorem fT_0_28 : fT 0 28 = some (4, 4) := rfl
theorem fT_0_40 : fT 0 40 = some (0, 3) := rfl
theorem fT_0_52 : fT 0 52 = some (6, 4) := rfl
theorem fT_0_55 : fT 0 55 = some (6, 1) := rfl
theorem fT_0_58 : fT 0 58 = some (6, 2) := rfl
theorem fT_1_9 : fT 1 9 = some (1, 0) := rfl
theorem fT_1_15 : fT 1 15 = some (1, 1) := rfl
theorem fT_1_18 : fT 1 18 = some (1, 2) := rfl
theorem fT_1_22 : fT 1 22 = some (1, 3) := rfl
theorem fT_1_25 : fT 1 25 = some (1, 6) := rfl
theorem fT_1_29 : fT 1 29 = some (1, 7) := rfl
theorem fT_1_33 : fT 1 33 = some (6, 0) := rfl
theorem fT_1_39 : fT 1 39 = some (4, 4) := rfl
theorem fT_1_44 : fT 1 44 = some (1, 4) := rfl
theorem fT_1_49 : fT 1 49 = some (1, 5) := rfl
theorem fT_1_74 : fT 1 74 = some (6, 4) := rfl
theorem fT_1_77 : fT 1 77 = some (6, 3) := rfl
theorem fT_1_80 : fT 1 80 = some (6, 2) := rfl
theorem fT_1_83 : fT 1 83 = some (6, 1) := rfl
theorem fT_2_9 : fT 2 9 = some (2, 0) := rfl
theorem fT_2_15 : fT 2 15 = some (2, 1) := rfl
theorem fT_2_18 : fT 2 18 = some (2, 2) := rfl
theorem fT_2_21 : fT 2 21 = some (2, 5) := rfl
theorem fT_2_29 : fT 2 29 = some (2, 4) := rfl
theorem fT_2_37 : fT 2 37 = some (2, 6) := rfl
theorem fT_2_43 : fT 2 43 = some (6, 0) := rfl
theorem fT_2_49 : fT 2 49 = some (4, 4) := rfl
theorem fT_2_54 : fT 2 54 = some (2, 3) := rfl
theorem fT_2_64 : fT 2 64 = some (6, 4) := rfl
theorem fT_2_67 : fT 2 67 = some (6, 2) := rfl
theorem fT_2_70 : fT 2 70 = some (6, 1) := rfl
theorem fT_3_12 : fT 3 12 = some (3, 0) := rfl
theorem fT_3_21 : fT 3 21 = some (3, 1) := rfl
theorem fT_3_25 : fT 3 25 = some (3, 2) := rfl
theorem fT_3_29 : fT 3 29 = some (3, 3) := rfl
theorem fT_3_33 : fT 3 33 = some (3, 4) := rfl
theorem fT_3_39 : fT 3 39 = some (6, 0) := rfl
theorem fT_3_43 : fT 3 43 = some (6, 4) := rfl
theorem fT_3_53 : fT 3 53 = some (3, 6) := rfl
theorem fT_3_57 : fT 3 57 = some (3, 7) := rfl
theorem fT_3_60 : fT 3 60 = some (3, 10) := rfl
theorem fT_3_67 : fT 3 67 = some (8, 4) := rfl
theorem fT_3_74 : fT 3 74 = some (8, 7) := rfl
theorem fT_3_120 : fT 3 120 = some (4, 4) := rfl
theorem fT_3_129 : fT 3 129 = some (8, 6) := rfl
theorem fT_3_138 : fT 3 138 = some (4, 0) := rfl
theorem fT_3_150 : fT 3 150 = some (4, 1) := rfl
theorem fT_3_153 : fT 3 153 = some (3, 8) := rfl
theorem fT_3_159 : fT 3 159 = some (4, 5) := rfl
theorem fT_3_165 : fT 3 165 = some (4, 2) := rfl
theorem fT_3_174 : fT 3 174 = some (3, 9) := rfl
theorem fT_3_181 : fT 3 181 = some (4, 3) := rfl
theorem fT_3_184 : fT 3 184 = some (4, 6) := rfl
theorem fT_3_187 : fT 3 187 = some (3, 5) := rfl
theorem fT_3_198 : fT 3 198 = some (4, 7) := rfl
theorem fT_3_226 : fT 3 226 = some (8, 5) := rfl
theorem fT_3_227 : fT 3 227 = some (8, 3) := rfl
theorem fT_4_9 : fT 4 9 = some (4, 0) := rfl
theorem fT_4_15 : fT 4 15 = some (4, 1) := rfl
theorem fT_4_18 : fT 4 18 = some (4, 2) := rfl
theorem fT_4_21 : fT 4 21 = some (4, 3) := rfl
theorem fT_4_24 : fT 4 24 = some (4, 7) := rfl
theorem fT_4_27 : fT 4 27 = some (4, 6) := rfl
theorem fT_4_31 : fT 4 31 = some (4, 4) := rfl
theorem fT_5_12 : fT 5 12 = some (5, 0) := rfl
theorem fT_5_21 : fT 5 21 = some (5, 1) := rfl
theorem fT_5_25 : fT 5 25 = some (5, 2) := rfl
theorem fT_5_33 : fT 5 33 = some (6, 0) := rfl
theorem fT_5_37 : fT 5 37 = some (4, 4) := rfl
theorem fT_5_43 : fT 5 43 = some (5, 3) := rfl
theorem fT_5_62 : fT 5 62 = some (4, 6) := rfl
theorem fT_6_12 : fT 6 12 = some (6, 0) := rfl
theorem fT_6_18 : fT 6 18 = some (6, 1) := rfl
theorem fT_6_22 : fT 6 22 = some (6, 2) := rfl
theorem fT_6_25 : fT 6 25 = some (6, 3) := rfl
theorem fT_6_28 : fT 6 28 = some (6, 5) := rfl
theorem fT_6_31 : fT 6 31 = some (6, 6) := rfl
theorem fT_6_40 : fT 6 40 = some (6, 4) := rfl
theorem fT_6_50 : fT 6 50 = some (4, 4) := rfl
theorem fT_6_61 : fT 6 61 = some (4, 1) := rfl
theorem fT_6_68 : fT 6 68 = some (4, 2) := rfl
theorem fT_7_9 : fT 7 9 = some (7, 1) := rfl
theorem fT_7_15 : fT 7 15 = some (7, 2) := rfl
theorem fT_7_19 : fT 7 19 = some (7, 3) := rfl
theorem fT_7_22 : fT 7 22 = some (7, 4) := rfl
theorem fT_7_25 : fT 7 25 = some (7, 5) := rfl
theorem fT_7_28 : fT 7 28 = some (7, 0) := rfl
theorem fT_7_32 : fT 7 32 = some (7, 8) := rfl
theorem fT_7_35 : fT 7 35 = some (7, 9) := rfl
theorem fT_7_38 : fT 7 38 = some (6, 0) := rfl
theorem fT_7_44 : fT 7 44 = some (4, 4) := rfl
theorem fT_7_50 : fT 7 50 = some (7, 6) := rfl
theorem fT_7_55 : fT 7 55 = some (7, 7) := rfl
theorem fT_7_91 : fT 7 91 = some (6, 4) := rfl
theorem fT_7_94 : fT 7 94 = some (6, 1) := rfl
theorem fT_7_97 : fT 7 97 = some (6, 2) := rfl
theorem fT_8_9 : fT 8 9 = some (8, 0) := rfl
theorem fT_8_21 : fT 8 21 = some (8, 1) := rfl
theorem fT_8_25 : fT 8 25 = some (8, 2) := rfl
theorem fT_8_31 : fT 8 31 = some (8, 7) := rfl
theorem fT_8_35 : fT 8 35 = some (8, 3) := rfl
theorem fT_8_38 : fT 8 38 = some (8, 4) := rfl
theorem fT_8_63 : fT 8 63 = some (8, 6) := rfl
theorem fT_8_76 : fT 8 76 = some (8, 5) := rfl
theorem fT_9_9 : fT 9 9 = some (9, 0) := rfl
theorem fT_9_15 : fT 9 15 = some (9, 1) := rfl
theorem fT_9_18 : fT 9 18 = some (9, 2) := rfl
theorem fT_9_21 : fT 9 21 = some (9, 3) := rfl
theorem fT_9_25 : fT 9 25 = some (9, 5) := rfl
theorem fT_9_29 : fT 9 29 = some (4, 4) := rfl
theorem fT_9_41 : fT 9 41 = some (9, 4) := rfl
theorem fT_9_52 : fT 9 52 = some (9, 6) := rfl
theorem fT_9_71 : fT 9 71 = some (4, 0) := rfl
theorem fT_9_77 : fT 9 77 = some (4, 7) := rfl
theorem fT_9_90 : fT 9 90 = some (4, 1) := rfl
theorem fT_11_9 : fT 11 9 = some (11, 0) := rfl
theorem fT_11_16 : fT 11 16 = some (11, 2) := rfl
theorem fT_11_23 : fT 11 23 = some (11, 3) := rfl
theorem fT_11_27 : fT 11 27 = some (11, 4) := rfl
theorem fT_11_34 : fT 11 34 = some (11, 5) := rfl
theorem fT_11_43 : fT 11 43 = some (11, 6) := rfl
theorem fT_11_47 : fT 11 47 = some (11, 7) := rfl
theorem fT_11_53 : fT 11 53 = some (11, 8) := rfl
theorem fT_11_60 : fT 11 60 = some (11, 9) := rfl
theorem fT_11_67 : fT 11 67 = some (11, 10) := rfl
theorem fT_11_74 : fT 11 74 = some (11, 11) := rfl
theorem fT_11_82 : fT 11 82 = some (11, 1) := rfl
theorem fT_11_90 : fT 11 90 = some (3, 0) := rfl
theorem fT_11_104 : fT 11 104 = some (6, 0) := rfl
theorem fT_11_108 : fT 11 108 = some (4, 0) := rfl
theorem fT_11_114 : fT 11 114 = some (4, 1) := rfl
theorem fT_11_117 : fT 11 117 = some (6, 5) := rfl
theorem fT_11_120 : fT 11 120 = some (6, 6) := rfl
theorem fT_11_127 : fT 11 127 = some (6, 4) := rfl
theorem fT_11_134 : fT 11 134 = some (6, 1) := rfl
theorem fT_11_137 : fT 11 137 = some (6, 2) := rfl
theorem fT_11_140 : fT 11 140 = some (6, 3) := rfl
theorem fT_11_153 : fT 11 153 = some (2, 6) := rfl
theorem fT_11_174 : fT 11 174 = some (1, 3) := rfl
theorem fT_11_180 : fT 11 180 = some (4, 4) := rfl
theorem fT_11_237 : fT 11 237 = some (9, 6) := rfl
theorem fT_11_258 : fT 11 258 = some (5, 0) := rfl
theorem fT_11_261 : fT 11 261 = some (6, 7) := rfl
theorem fT_11_264 : fT 11 264 = some (4, 5) := rfl
theorem fT_11_267 : fT 11 267 = some (4, 6) := rfl
theorem fT_12_7 : fT 12 7 = some (12, 2) := rfl
theorem fT_12_13 : fT 12 13 = some (12, 10) := rfl
theorem fT_12_16 : fT 12 16 = some (12, 11) := rfl
theorem fT_12_19 : fT 12 19 = some (12, 12) := rfl
theorem fT_12_22 : fT 12 22 = some (12, 13) := rfl
theorem fT_12_26 : fT 12 26 = some (12, 14) := rfl
theorem fT_12_29 : fT 12 29 = some (12, 15) := rfl
theorem fT_12_32 : fT 12 32 = some (12, 16) := rfl
theorem fT_12_35 : fT 12 35 = some (12, 17) := rfl
theorem fT_12_38 : fT 12 38 = some (12, 18) := rfl
theorem fT_12_41 : fT 12 41 = some (12, 19) := rfl
theorem fT_12_44 : fT 12 44 = some (12, 20) := rfl
theorem fT_12_47 : fT 12 47 = some (12, 21) := rfl
theorem fT_12_50 : fT 12 50 = some (12, 22) := rfl
theorem fT_12_54 : fT 12 54 = some (12, 26) := rfl
theorem fT_12_57 : fT 12 57 = some (12, 27) := rfl
theorem fT_12_60 : fT 12 60 = some (12, 28) := rfl
theorem fT_12_63 : fT 12 63 = some (12, 29) := rfl
theorem fT_12_66 : fT 12 66 = some (12, 30) := rfl
theorem fT_12_69 : fT 12 69 = some (12, 31) := rfl
theorem fT_12_72 : fT 12 72 = some (12, 32) := rfl
theorem fT_12_75 : fT 12 75 = some (12, 33) := rfl
theorem fT_12_78 : fT 12 78 = some (12, 34) := rfl
theorem fT_12_81 : fT 12 81 = some (12, 35) := rfl
theorem fT_12_84 : fT 12 84 = some (12, 36) := rfl
theorem fT_12_87 : fT 12 87 = some (12, 37) := rfl
theorem fT_12_90 : fT 12 90 = some (12, 41) := rfl
theorem fT_12_93 : fT 12 93 = some (12, 42) := rfl
theorem fT_12_96 : fT 12 96 = some (12, 43) := rfl
theorem fT_12_99 : fT 12 99 = some (12, 44) := rfl
theorem fT_12_102 : fT 12 102 = some (12, 45) := rfl
theorem fT_12_105 : fT 12 105 = some (12, 46) := rfl
theorem fT_12_108 : fT 12 108 = some (12, 47) := rfl
theorem fT_12_111 : fT 12 111 = some (12, 48) := rfl
theorem fT_12_114 : fT 12 114 = some (12, 49) := rfl
theorem fT_12_117 : fT 12 117 = some (12, 53) := rfl
theorem fT_12_120 : fT 12 120 = some (12, 54) := rfl
theorem fT_12_123 : fT 12 123 = some (12, 55) := rfl
theorem fT_12_126 : fT 12 126 = some (12, 56) := rfl
theorem fT_12_129 : fT 12 129 = some (12, 59) := rfl
theorem fT_12_132 : fT 12 132 = some (12, 61) := rfl
theorem fT_12_135 : fT 12 135 = some (12, 0) := rfl
theorem fT_12_141 : fT 12 141 = some (12, 1) := rfl
theorem fT_12_144 : fT 12 144 = some (12, 3) := rfl
theorem fT_12_147 : fT 12 147 = some (12, 4) := rfl
theorem fT_12_150 : fT 12 150 = some (12, 5) := rfl
theorem fT_12_153 : fT 12 153 = some (12, 7) := rfl
theorem fT_12_157 : fT 12 157 = some (12, 8) := rfl
theorem fT_12_160 : fT 12 160 = some (12, 6) := rfl
theorem fT_12_171 : fT 12 171 = some (12, 9) := rfl
theorem fT_12_174 : fT 12 174 = some (12, 23) := rfl
theorem fT_12_254 : fT 12 254 = some (12, 38) := rfl
theorem fT_12_277 : fT 12 277 = some (12, 39) := rfl
theorem fT_12_280 : fT 12 280 = some (12, 40) := rfl
theorem fT_12_286 : fT 12 286 = some (12, 24) := rfl
theorem fT_12_290 : fT 12 290 = some (12, 25) := rfl
theorem fT_12_385 : fT 12 385 = some (12, 52) := rfl
theorem fT_12_391 : fT 12 391 = some (12, 50) := rfl
theorem fT_12_394 : fT 12 394 = some (12, 51) := rfl
theorem fT_12_428 : fT 12 428 = some (12, 57) := rfl
theorem fT_12_431 : fT 12 431 = some (12, 58) := rfl
theorem fT_12_440 : fT 12 440 = some (12, 60) := rfl
theorem cI_12_403 : cI 12 403 = some (40503) := rfl
theorem cI_14_264 : cI 14 264 = some (65536) := rfl
theorem cI_14_265 : cI 14 265 = some (1431655765) := rfl
theorem cI_14_266 : cI 14 266 = some (858993459) := rfl
theorem cI_14_267 : cI 14 267 = some (252645135) := rfl
theorem cL_0_89 : cL 0 89 = some (-1) := rfl
theorem cL_1_86 : cL 1 86 = some (63) := rfl
theorem cL_5_69 : cL 5 69 = some (1103515245) := rfl
theorem cL_5_71 : cL 5 71 = some (12345) := rfl
theorem cL_5_73 : cL 5 73 = some (2147483648) := rfl
theorem cL_5_75 : cL 5 75 = some (65536) := rfl
theorem cL_8_67 : cL 8 67 = some (32) := rfl
theorem cL_9_93 : cL 9 93 = some (15) := rfl
theorem cL_11_187 : cL 11 187 = some (-1) := rfl
theorem cL_11_270 : cL 11 270 = some (255) := rfl
theorem cL_12_139 : cL 12 139 = some (255) := rfl
theorem cL_12_167 : cL 12 167 = some (27) := rfl
theorem cL_12_169 : cL 12 169 = some (96) := rfl
theorem cL_12_177 : cL 12 177 = some (6562612) := rfl
theorem cL_12_179 : cL 12 179 = some (394725) := rfl
theorem cL_12_181 : cL 12 181 = some (8371260) := rfl
theorem cL_12_183 : cL 12 183 = some (582341) := rfl
theorem cL_12_185 : cL 12 185 = some (1170473) := rfl
theorem cL_12_191 : cL 12 191 = some (10631) := rfl
theorem cL_12_211 : cL 12 211 = some (1111) := rfl
theorem cL_12_213 : cL 12 213 = some (423) := rfl
theorem cL_12_224 : cL 12 224 = some (8928318) := rfl
theorem cL_12_226 : cL 12 226 = some (1171592) := rfl
theorem cL_12_228 : cL 12 228 = some (13550) := rfl
theorem cL_12_230 : cL 12 230 = some (12532058) := rfl
theorem cL_12_232 : cL 12 232 = some (13903) := rfl
theorem cL_12_234 : cL 12 234 = some (243059) := rfl
theorem cL_12_236 : cL 12 236 = some (382984) := rfl
theorem cL_12_238 : cL 12 238 = some (459791) := rfl
theorem cL_12_240 : cL 12 240 = some (8740238) := rfl
theorem cL_12_242 : cL 12 242 = some (8868856) := rfl
theorem cL_12_244 : cL 12 244 = some (14092) := rfl
theorem cL_12_246 : cL 12 246 = some (117696460) := rfl
theorem cL_12_248 : cL 12 248 = some (9759162) := rfl
theorem cL_12_376 : cL 12 376 = some (-1) := rfl
theorem cL_12_443 : cL 12 443 = some (1103515245) := rfl
theorem cL_12_445 : cL 12 445 = some (12345) := rfl
theorem cL_12_447 : cL 12 447 = some (2147483648) := rfl
theorem cL_12_449 : cL 12 449 = some (65536) := rfl
theorem cL_13_19 : cL 13 19 = some (4294967295) := rfl
theorem cL_15_314 : cL 15 314 = some (6148914691236517205) := rfl
theorem cL_15_316 : cL 15 316 = some (3689348814741910323) := rfl
theorem cL_15_318 : cL 15 318 = some (1085102592571150095) := rfl
theorem sT_3_78 : sT 3 78 = some 0 := rfl
theorem sT_3_86 : sT 3 86 = some 1 := rfl
theorem sT_3_92 : sT 3 92 = some 2 := rfl
theorem sT_3_98 : sT 3 98 = some 3 := rfl
theorem sT_3_104 : sT 3 104 = some 4 := rfl
theorem sT_3_110 : sT 3 110 = some 5 := rfl
theorem sT_3_140 : sT 3 140 = some 16 := rfl
theorem sT_3_162 : sT 3 162 = some 6 := rfl
theorem sT_3_168 : sT 3 168 = some 7 := rfl
theorem sT_3_214 : sT 3 214 = some 14 := rfl
theorem sT_3_217 : sT 3 217 = some 15 := rfl
theorem sT_3_223 : sT 3 223 = some 13 := rfl
theorem wT_3_137 : wT 3 137 = some 1 := rfl
theorem wT_3_220 : wT 3 220 = some 2 := rfl
theorem wT_8_57 : wT 8 57 = some 3 := rfl
theorem wT_8_73 : wT 8 73 = some 0 := rfl
def wdN (i : Nat) : String := ["PUPIL_LINE", "BENCH_LINE", "SAY_LINE", "LIKE_LINE", "SLIP_LINE", "WISH_LINE", "ROW_WORD", "WORTH_WORD", "PLAIN_KIND", "PROUD_KIND", "SHY_KIND", "HELPED_KIND", "RIVAL_KIND", "NOT_WORD", "AND_WORD", "OR_WORD", "TALL_FACT", "LIKES_FACT", "OTHER_FACT", "ABOVE_FACT", "BELOW_FACT"].getD i ""
def wdC (i : Nat) : Int64 := [17482028, 2275432, 19513, 402789, 635184, 763496, 18935, 24627848, 17171758, 17383076, 19737, 274088100, 19191852, 14836, 1476, 498, 656780, 12889267, 16392370, 1130181, 2273783].getD i 0
def wdK (i : Nat) : Int32 := [-1, -1, -1, -1, -1, -1, -1, -1, 0, 1, 2, 3, 4, -1, -1, -1, -1, -1, -1, -1, -1].getD i 0
def wdF (i : Nat) : Int32 := [0, 0, 0, 0, 0, 0, 0, 0, 0, 0, 0, 0, 0, 0, 0, 0, -2, -1, -3, -4, -5].getD i 0
def wdR (i : Nat) : Int32 := [1, 1, 1, 1, 1, 1, 1, 1, 1, 1, 1, 1, 1, 1, 1, 1, 1, 0, 0, 0, 0].getD i 0
def wdV (i k : Nat) : Value := match k with
  | 0 => .long (wdC i) | 1 => .int (wdK i) | 2 => .int (wdF i) | _ => .int (wdR i)
def wdD (k : Nat) : String × String := match k with
  | 0 => ("code", "J") | 1 => ("kind", "I") | 2 => ("fact", "I") | _ => ("reserved", "Z")
