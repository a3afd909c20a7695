theorem prv_mem {y : MethodName} {i n : Nat} (h : lw_privs[i]? = some (y, n)) : Cond.selects y.cls y y ∈ gtbl :=
  List.mem_filter.mpr ⟨List.mem_append_left _ (List.mem_map.mpr ⟨(y, n), List.mem_of_getElem? h, rfl⟩), rfl⟩
theorem MV.mk {own idx ci : Nat} {y : MethodName} {cc : ByteArray} {n : Nat} {r : Option FieldType} {np : Nat} (h1 : Cond.methodLink (RN own) idx y ∈ gtbl) (h2 : Cond.instanceMethod y ∈ gtbl) (h3 : Cond.selects (RN ci) y y ∈ gtbl) (h4 : Cond.initialized (RN ci) ∈ gtbl) (h5 : Cond.code y cc n r ∈ gtbl) (h6 : y.cls = RN ci ∧ y.cls ≠ "java/lang/invoke/MethodHandle" ∧ y.cls ≠ "java/lang/invoke/VarHandle" ∧ (parseMethodDescriptor y.desc).map (fun d => d.parameters.length) = some np) : MV own idx ci y cc n r np := by
  refine ⟨good_gtbl _ (fun w hw => ?_), h6⟩
  rcases List.mem_append.mp hw with z | z
  · simp only [List.mem_cons, List.mem_nil_iff, or_false] at z
    rcases z with rfl | rfl | rfl | rfl
    · exact h1
    · exact h2
    · exact h3
    · exact h4
  · rcases List.mem_cons.mp z with rfl | z
    · exact h5
    · exact z
theorem MS.mk {own idx : Nat} {y : MethodName} {cc : ByteArray} {n : Nat} {r : Option FieldType} {np : Nat} (h1 : Cond.methodLink (RN own) idx y ∈ gtbl) (h2 : Cond.static y ∈ gtbl) (h4 : Cond.initialized y.cls ∈ gtbl) (h5 : Cond.code y cc n r ∈ gtbl) (h6 : y.cls ≠ "java/lang/invoke/MethodHandle" ∧ y.cls ≠ "java/lang/invoke/VarHandle" ∧ (parseMethodDescriptor y.desc).map (fun d => d.parameters.length) = some np) : MS own idx y cc n r np := by
  refine ⟨good_gtbl _ (fun w hw => ?_), h6⟩
  rcases List.mem_append.mp hw with z | z
  · simp only [List.mem_cons, List.mem_nil_iff, or_false] at z
    rcases z with rfl | rfl | rfl
    · exact h1
    · exact h2
    · exact h4
  · rcases List.mem_cons.mp z with rfl | z
    · exact h5
    · exact z
theorem MI.mk {own idx : Nat} {y : MethodName} {cc : ByteArray} {n np : Nat} (h1 : Cond.methodLink (RN own) idx y ∈ gtbl ∨ (RN own, idx, y, RX11) ∈ nsM) (h2 : Cond.instanceMethod y ∈ gtbl) (h4 : Cond.initialized y.cls ∈ gtbl) (h5 : Cond.code y cc n none ∈ gtbl) (h6 : y.name = "<init>" ∧ y.cls ≠ "java/lang/invoke/MethodHandle" ∧ y.cls ≠ "java/lang/invoke/VarHandle" ∧ (parseMethodDescriptor y.desc).map (fun d => d.parameters.length) = some np) : MI own idx y cc n np :=
  ⟨good_gtbl _ (fun w hw => by
    rcases List.mem_cons.mp hw with rfl | z
    · exact h5
    · exact z), h4, h1, h2, h6⟩
theorem wi_0 : Cond.initialized RX0 ∈ gtbl := tbp_mem (p := 1) (i := 10) (by decide +kernel) rfl
theorem wi_1 : Cond.initialized RX1 ∈ gtbl := tbp_mem (p := 1) (i := 9) (by decide +kernel) rfl
theorem wi_2 : Cond.initialized RX2 ∈ gtbl := tbp_mem (p := 1) (i := 7) (by decide +kernel) rfl
theorem wi_3 : Cond.initialized RX3 ∈ gtbl := tbp_mem (p := 1) (i := 2) (by decide +kernel) rfl
theorem wi_4 : Cond.initialized RX4 ∈ gtbl := tbp_mem (p := 1) (i := 4) (by decide +kernel) rfl
theorem wi_5 : Cond.initialized RX5 ∈ gtbl := tbp_mem (p := 1) (i := 12) (by decide +kernel) rfl
theorem wi_6 : Cond.initialized RX6 ∈ gtbl := tbp_mem (p := 1) (i := 3) (by decide +kernel) rfl
theorem wi_7 : Cond.initialized RX7 ∈ gtbl := tbp_mem (p := 1) (i := 8) (by decide +kernel) rfl
theorem wi_8 : Cond.initialized RX8 ∈ gtbl := tbp_mem (p := 1) (i := 6) (by decide +kernel) rfl
theorem wi_9 : Cond.initialized RX9 ∈ gtbl := tbp_mem (p := 1) (i := 11) (by decide +kernel) rfl
theorem wi_10 : Cond.initialized RX10 ∈ gtbl := tbp_mem (p := 1) (i := 16) (by decide +kernel) rfl
theorem wi_11 : Cond.initialized RX11 ∈ gtbl := tbp_mem (p := 1) (i := 1) (by decide +kernel) rfl
theorem wi_12 : Cond.initialized RX12 ∈ gtbl := tbp_mem (p := 1) (i := 13) (by decide +kernel) rfl
theorem wi_13 : Cond.initialized RL ∈ gtbl := tbp_mem (p := 1) (i := 0) (by decide +kernel) rfl
theorem wi_14 : Cond.initialized RJ6 ∈ gtbl := tbp_mem (p := 1) (i := 18) (by decide +kernel) rfl
theorem wi_15 : Cond.initialized RJ13 ∈ gtbl := tbp_mem (p := 1) (i := 19) (by decide +kernel) rfl
theorem wi_16 : Cond.initialized RJ9 ∈ gtbl := tbp_mem (p := 1) (i := 14) (by decide +kernel) rfl
theorem wi_17 : Cond.initialized RJ10 ∈ gtbl := tbp_mem (p := 1) (i := 17) (by decide +kernel) rfl
theorem wi_18 : Cond.initialized RJ7 ∈ gtbl := tbp_mem (p := 1) (i := 5) (by decide +kernel) rfl
theorem wc_yX11_init : Cond.code yX11_init cX11_init 2 none ∈ gtbl := tbp_mem (p := 1) (i := 28) (by decide +kernel) rfl
theorem wm_yX11_init : Cond.instanceMethod yX11_init ∈ gtbl := tbp_mem (p := 1) (i := 27) (by decide +kernel) rfl
theorem wc_yX3_init : Cond.code yX3_init cX3_init 1 none ∈ gtbl := tbp_mem (p := 1) (i := 36) (by decide +kernel) rfl
theorem wm_yX3_init : Cond.instanceMethod yX3_init ∈ gtbl := tbp_mem (p := 1) (i := 35) (by decide +kernel) rfl
theorem wc_yX6_init : Cond.code yX6_init cX6_init 1 none ∈ gtbl := tbp_mem (p := 1) (i := 42) (by decide +kernel) rfl
theorem wm_yX6_init : Cond.instanceMethod yX6_init ∈ gtbl := tbp_mem (p := 1) (i := 41) (by decide +kernel) rfl
theorem wc_yX4_init : Cond.code yX4_init cX4_init 1 none ∈ gtbl := tbp_mem (p := 1) (i := 48) (by decide +kernel) rfl
theorem wm_yX4_init : Cond.instanceMethod yX4_init ∈ gtbl := tbp_mem (p := 1) (i := 47) (by decide +kernel) rfl
theorem wc_yJ7_fill_53178 : Cond.code yJ7_fill_53178 cJ7_fill_53178 4 none ∈ gtbl := tbp_mem (p := 1) (i := 104) (by decide +kernel) rfl
theorem wm_yJ7_fill_53178 : Cond.static yJ7_fill_53178 ∈ gtbl := tbp_mem (p := 1) (i := 103) (by decide +kernel) rfl
theorem wc_yX8_init : Cond.code yX8_init cX8_init 1 none ∈ gtbl := tbp_mem (p := 1) (i := 161) (by decide +kernel) rfl
theorem wm_yX8_init : Cond.instanceMethod yX8_init ∈ gtbl := tbp_mem (p := 1) (i := 160) (by decide +kernel) rfl
theorem wc_yX2_init : Cond.code yX2_init cX2_init 1 none ∈ gtbl := tbp_mem (p := 1) (i := 236) (by decide +kernel) rfl
theorem wm_yX2_init : Cond.instanceMethod yX2_init ∈ gtbl := tbp_mem (p := 1) (i := 235) (by decide +kernel) rfl
theorem wc_yX7_init : Cond.code yX7_init cX7_init 2 none ∈ gtbl := tbp_mem (p := 2) (i := 25) (by decide +kernel) rfl
theorem wm_yX7_init : Cond.instanceMethod yX7_init ∈ gtbl := tbp_mem (p := 2) (i := 24) (by decide +kernel) rfl
theorem wc_yX1_init : Cond.code yX1_init cX1_init 1 none ∈ gtbl := tbp_mem (p := 2) (i := 62) (by decide +kernel) rfl
theorem wm_yX1_init : Cond.instanceMethod yX1_init ∈ gtbl := tbp_mem (p := 2) (i := 61) (by decide +kernel) rfl
theorem wc_yX0_init : Cond.code yX0_init cX0_init 1 none ∈ gtbl := tbp_mem (p := 2) (i := 94) (by decide +kernel) rfl
theorem wm_yX0_init : Cond.instanceMethod yX0_init ∈ gtbl := tbp_mem (p := 2) (i := 93) (by decide +kernel) rfl
theorem wc_yX9_init : Cond.code yX9_init cX9_init 1 none ∈ gtbl := tbp_mem (p := 2) (i := 113) (by decide +kernel) rfl
theorem wm_yX9_init : Cond.instanceMethod yX9_init ∈ gtbl := tbp_mem (p := 2) (i := 112) (by decide +kernel) rfl
theorem wc_yX5_init : Cond.code yX5_init cX5_init 1 none ∈ gtbl := tbp_mem (p := 2) (i := 142) (by decide +kernel) rfl
theorem wm_yX5_init : Cond.instanceMethod yX5_init ∈ gtbl := tbp_mem (p := 2) (i := 141) (by decide +kernel) rfl
theorem wc_yX11_feed : Cond.code yX11_feed cX11_feed 7 (some .int) ∈ gtbl := tbp_mem (p := 2) (i := 202) (by decide +kernel) rfl
theorem wm_yX11_feed : Cond.instanceMethod yX11_feed ∈ gtbl := tbp_mem (p := 2) (i := 200) (by decide +kernel) rfl
theorem wv_yX11_feed : Cond.selects yX11_feed.cls yX11_feed yX11_feed ∈ gtbl := tbp_mem (p := 2) (i := 201) (by decide +kernel) rfl
theorem wc_yX11_putBytes : Cond.code yX11_putBytes cX11_putBytes 5 none ∈ gtbl := tbp_mem (p := 2) (i := 206) (by decide +kernel) rfl
theorem wm_yX11_putBytes : Cond.instanceMethod yX11_putBytes ∈ gtbl := tbp_mem (p := 2) (i := 205) (by decide +kernel) rfl
theorem wv_yX11_putBytes : Cond.selects yX11_putBytes.cls yX11_putBytes yX11_putBytes ∈ gtbl := prv_mem (i := 0) (n := 12) (by decide +kernel)
theorem wc_yX11_school : Cond.code yX11_school cX11_school 2 (some .int) ∈ gtbl := tbp_mem (p := 2) (i := 211) (by decide +kernel) rfl
theorem wm_yX11_school : Cond.instanceMethod yX11_school ∈ gtbl := tbp_mem (p := 2) (i := 209) (by decide +kernel) rfl
theorem wv_yX11_school : Cond.selects yX11_school.cls yX11_school yX11_school ∈ gtbl := tbp_mem (p := 2) (i := 210) (by decide +kernel) rfl
theorem wc_yX3_read : Cond.code yX3_read cX3_read 5 (some .int) ∈ gtbl := tbp_mem (p := 2) (i := 215) (by decide +kernel) rfl
theorem wm_yX3_read : Cond.instanceMethod yX3_read ∈ gtbl := tbp_mem (p := 2) (i := 213) (by decide +kernel) rfl
theorem wv_yX3_read : Cond.selects yX3_read.cls yX3_read yX3_read ∈ gtbl := tbp_mem (p := 2) (i := 214) (by decide +kernel) rfl
theorem wc_yX8_open : Cond.code yX8_open cX8_open 3 none ∈ gtbl := tbp_mem (p := 2) (i := 222) (by decide +kernel) rfl
theorem wm_yX8_open : Cond.instanceMethod yX8_open ∈ gtbl := tbp_mem (p := 2) (i := 220) (by decide +kernel) rfl
theorem wv_yX8_open : Cond.selects yX8_open.cls yX8_open yX8_open ∈ gtbl := tbp_mem (p := 2) (i := 221) (by decide +kernel) rfl
theorem wc_yJ9_min_7cf53 : Cond.code yJ9_min_7cf53 cJ9_min_7cf53 2 (some .int) ∈ gtbl := tbp_mem (p := 2) (i := 225) (by decide +kernel) rfl
theorem wm_yJ9_min_7cf53 : Cond.static yJ9_min_7cf53 ∈ gtbl := tbp_mem (p := 2) (i := 224) (by decide +kernel) rfl
theorem wc_yX8_step : Cond.code yX8_step cX8_step 1 none ∈ gtbl := tbp_mem (p := 2) (i := 229) (by decide +kernel) rfl
theorem wm_yX8_step : Cond.instanceMethod yX8_step ∈ gtbl := tbp_mem (p := 2) (i := 227) (by decide +kernel) rfl
theorem wv_yX8_step : Cond.selects yX8_step.cls yX8_step yX8_step ∈ gtbl := tbp_mem (p := 2) (i := 228) (by decide +kernel) rfl
theorem wc_yX8_isLetter : Cond.code yX8_isLetter cX8_isLetter 1 (some .boolean) ∈ gtbl := tbp_mem (p := 2) (i := 232) (by decide +kernel) rfl
theorem wm_yX8_isLetter : Cond.static yX8_isLetter ∈ gtbl := tbp_mem (p := 2) (i := 231) (by decide +kernel) rfl
theorem wc_yX8_takeWord : Cond.code yX8_takeWord cX8_takeWord 2 none ∈ gtbl := tbp_mem (p := 2) (i := 236) (by decide +kernel) rfl
theorem wm_yX8_takeWord : Cond.instanceMethod yX8_takeWord ∈ gtbl := tbp_mem (p := 2) (i := 235) (by decide +kernel) rfl
theorem wv_yX8_takeWord : Cond.selects yX8_takeWord.cls yX8_takeWord yX8_takeWord ∈ gtbl := prv_mem (i := 1) (n := 8) (by decide +kernel)
theorem wc_yX8_isDigit : Cond.code yX8_isDigit cX8_isDigit 1 (some .boolean) ∈ gtbl := tbp_mem (p := 3) (i := 2) (by decide +kernel) rfl
theorem wm_yX8_isDigit : Cond.static yX8_isDigit ∈ gtbl := tbp_mem (p := 3) (i := 1) (by decide +kernel) rfl
theorem wc_yX8_takeNumber : Cond.code yX8_takeNumber cX8_takeNumber 1 none ∈ gtbl := tbp_mem (p := 3) (i := 6) (by decide +kernel) rfl
theorem wm_yX8_takeNumber : Cond.instanceMethod yX8_takeNumber ∈ gtbl := tbp_mem (p := 3) (i := 5) (by decide +kernel) rfl
theorem wv_yX8_takeNumber : Cond.selects yX8_takeNumber.cls yX8_takeNumber yX8_takeNumber ∈ gtbl := prv_mem (i := 2) (n := 8) (by decide +kernel)
theorem wc_yX8_isSign : Cond.code yX8_isSign cX8_isSign 1 (some .boolean) ∈ gtbl := tbp_mem (p := 3) (i := 9) (by decide +kernel) rfl
theorem wm_yX8_isSign : Cond.static yX8_isSign ∈ gtbl := tbp_mem (p := 3) (i := 8) (by decide +kernel) rfl
theorem wc_yX3_readLine : Cond.code yX3_readLine cX3_readLine 2 (some .boolean) ∈ gtbl := tbp_mem (p := 3) (i := 13) (by decide +kernel) rfl
theorem wm_yX3_readLine : Cond.instanceMethod yX3_readLine ∈ gtbl := tbp_mem (p := 3) (i := 12) (by decide +kernel) rfl
theorem wv_yX3_readLine : Cond.selects yX3_readLine.cls yX3_readLine yX3_readLine ∈ gtbl := prv_mem (i := 3) (n := 11) (by decide +kernel)
theorem wc_yX3_readPupil : Cond.code yX3_readPupil cX3_readPupil 3 (some .boolean) ∈ gtbl := tbp_mem (p := 3) (i := 19) (by decide +kernel) rfl
theorem wm_yX3_readPupil : Cond.instanceMethod yX3_readPupil ∈ gtbl := tbp_mem (p := 3) (i := 18) (by decide +kernel) rfl
theorem wv_yX3_readPupil : Cond.selects yX3_readPupil.cls yX3_readPupil yX3_readPupil ∈ gtbl := prv_mem (i := 4) (n := 11) (by decide +kernel)
theorem wc_yX3_wrong : Cond.code yX3_wrong cX3_wrong 2 (some .boolean) ∈ gtbl := tbp_mem (p := 3) (i := 23) (by decide +kernel) rfl
theorem wm_yX3_wrong : Cond.instanceMethod yX3_wrong ∈ gtbl := tbp_mem (p := 3) (i := 22) (by decide +kernel) rfl
theorem wv_yX3_wrong : Cond.selects yX3_wrong.cls yX3_wrong yX3_wrong ∈ gtbl := prv_mem (i := 5) (n := 11) (by decide +kernel)
theorem wc_yX8_isName : Cond.code yX8_isName cX8_isName 1 (some .boolean) ∈ gtbl := tbp_mem (p := 3) (i := 28) (by decide +kernel) rfl
theorem wm_yX8_isName : Cond.instanceMethod yX8_isName ∈ gtbl := tbp_mem (p := 3) (i := 26) (by decide +kernel) rfl
theorem wv_yX8_isName : Cond.selects yX8_isName.cls yX8_isName yX8_isName ∈ gtbl := tbp_mem (p := 3) (i := 27) (by decide +kernel) rfl
theorem wc_yX3_pupilNamed : Cond.code yX3_pupilNamed cX3_pupilNamed 4 (some .int) ∈ gtbl := tbp_mem (p := 3) (i := 32) (by decide +kernel) rfl
theorem wm_yX3_pupilNamed : Cond.instanceMethod yX3_pupilNamed ∈ gtbl := tbp_mem (p := 3) (i := 31) (by decide +kernel) rfl
theorem wv_yX3_pupilNamed : Cond.selects yX3_pupilNamed.cls yX3_pupilNamed yX3_pupilNamed ∈ gtbl := prv_mem (i := 6) (n := 11) (by decide +kernel)
theorem wc_yX3_takeWord : Cond.code yX3_takeWord cX3_takeWord 2 (some .boolean) ∈ gtbl := tbp_mem (p := 3) (i := 38) (by decide +kernel) rfl
theorem wm_yX3_takeWord : Cond.instanceMethod yX3_takeWord ∈ gtbl := tbp_mem (p := 3) (i := 37) (by decide +kernel) rfl
theorem wv_yX3_takeWord : Cond.selects yX3_takeWord.cls yX3_takeWord yX3_takeWord ∈ gtbl := prv_mem (i := 7) (n := 11) (by decide +kernel)
theorem wc_yX3_takeNumber : Cond.code yX3_takeNumber cX3_takeNumber 2 (some .boolean) ∈ gtbl := tbp_mem (p := 3) (i := 42) (by decide +kernel) rfl
theorem wm_yX3_takeNumber : Cond.instanceMethod yX3_takeNumber ∈ gtbl := tbp_mem (p := 3) (i := 41) (by decide +kernel) rfl
theorem wv_yX3_takeNumber : Cond.selects yX3_takeNumber.cls yX3_takeNumber yX3_takeNumber ∈ gtbl := prv_mem (i := 8) (n := 11) (by decide +kernel)
theorem wc_yX3_takeSign : Cond.code yX3_takeSign cX3_takeSign 2 (some .boolean) ∈ gtbl := tbp_mem (p := 3) (i := 46) (by decide +kernel) rfl
theorem wm_yX3_takeSign : Cond.instanceMethod yX3_takeSign ∈ gtbl := tbp_mem (p := 3) (i := 45) (by decide +kernel) rfl
theorem wv_yX3_takeSign : Cond.selects yX3_takeSign.cls yX3_takeSign yX3_takeSign ∈ gtbl := prv_mem (i := 9) (n := 11) (by decide +kernel)
theorem wc_yX3_readBench : Cond.code yX3_readBench cX3_readBench 2 (some .boolean) ∈ gtbl := tbp_mem (p := 3) (i := 52) (by decide +kernel) rfl
theorem wm_yX3_readBench : Cond.instanceMethod yX3_readBench ∈ gtbl := tbp_mem (p := 3) (i := 51) (by decide +kernel) rfl
theorem wv_yX3_readBench : Cond.selects yX3_readBench.cls yX3_readBench yX3_readBench ∈ gtbl := prv_mem (i := 10) (n := 11) (by decide +kernel)
theorem wc_yX3_readSaying : Cond.code yX3_readSaying cX3_readSaying 3 (some .boolean) ∈ gtbl := tbp_mem (p := 3) (i := 62) (by decide +kernel) rfl
theorem wm_yX3_readSaying : Cond.instanceMethod yX3_readSaying ∈ gtbl := tbp_mem (p := 3) (i := 61) (by decide +kernel) rfl
theorem wv_yX3_readSaying : Cond.selects yX3_readSaying.cls yX3_readSaying yX3_readSaying ∈ gtbl := prv_mem (i := 11) (n := 11) (by decide +kernel)
theorem wc_yX3_takePupil : Cond.code yX3_takePupil cX3_takePupil 2 (some .boolean) ∈ gtbl := tbp_mem (p := 3) (i := 66) (by decide +kernel) rfl
theorem wm_yX3_takePupil : Cond.instanceMethod yX3_takePupil ∈ gtbl := tbp_mem (p := 3) (i := 65) (by decide +kernel) rfl
theorem wv_yX3_takePupil : Cond.selects yX3_takePupil.cls yX3_takePupil yX3_takePupil ∈ gtbl := prv_mem (i := 12) (n := 11) (by decide +kernel)
theorem wc_yX6_addSaying : Cond.code yX6_addSaying cX6_addSaying 4 none ∈ gtbl := tbp_mem (p := 3) (i := 70) (by decide +kernel) rfl
theorem wm_yX6_addSaying : Cond.instanceMethod yX6_addSaying ∈ gtbl := tbp_mem (p := 3) (i := 68) (by decide +kernel) rfl
theorem wv_yX6_addSaying : Cond.selects yX6_addSaying.cls yX6_addSaying yX6_addSaying ∈ gtbl := tbp_mem (p := 3) (i := 69) (by decide +kernel) rfl
theorem wc_yX3_readLiking : Cond.code yX3_readLiking cX3_readLiking 3 (some .boolean) ∈ gtbl := tbp_mem (p := 3) (i := 79) (by decide +kernel) rfl
theorem wm_yX3_readLiking : Cond.instanceMethod yX3_readLiking ∈ gtbl := tbp_mem (p := 3) (i := 78) (by decide +kernel) rfl
theorem wv_yX3_readLiking : Cond.selects yX3_readLiking.cls yX3_readLiking yX3_readLiking ∈ gtbl := prv_mem (i := 13) (n := 11) (by decide +kernel)
theorem wc_yX3_readSlip : Cond.code yX3_readSlip cX3_readSlip 1 (some .boolean) ∈ gtbl := tbp_mem (p := 3) (i := 85) (by decide +kernel) rfl
theorem wm_yX3_readSlip : Cond.instanceMethod yX3_readSlip ∈ gtbl := tbp_mem (p := 3) (i := 84) (by decide +kernel) rfl
theorem wv_yX3_readSlip : Cond.selects yX3_readSlip.cls yX3_readSlip yX3_readSlip ∈ gtbl := prv_mem (i := 14) (n := 11) (by decide +kernel)
theorem wc_yX3_readWish : Cond.code yX3_readWish cX3_readWish 1 (some .boolean) ∈ gtbl := tbp_mem (p := 3) (i := 91) (by decide +kernel) rfl
theorem wm_yX3_readWish : Cond.instanceMethod yX3_readWish ∈ gtbl := tbp_mem (p := 3) (i := 90) (by decide +kernel) rfl
theorem wv_yX3_readWish : Cond.selects yX3_readWish.cls yX3_readWish yX3_readWish ∈ gtbl := prv_mem (i := 15) (n := 11) (by decide +kernel)
theorem wc_yX3_readLevel : Cond.code yX3_readLevel cX3_readLevel 7 (some .boolean) ∈ gtbl := tbp_mem (p := 3) (i := 95) (by decide +kernel) rfl
theorem wm_yX3_readLevel : Cond.instanceMethod yX3_readLevel ∈ gtbl := tbp_mem (p := 3) (i := 94) (by decide +kernel) rfl
theorem wv_yX3_readLevel : Cond.selects yX3_readLevel.cls yX3_readLevel yX3_readLevel ∈ gtbl := prv_mem (i := 16) (n := 11) (by decide +kernel)
theorem wc_yX3_readOperand : Cond.code yX3_readOperand cX3_readOperand 3 (some .boolean) ∈ gtbl := tbp_mem (p := 3) (i := 99) (by decide +kernel) rfl
theorem wm_yX3_readOperand : Cond.instanceMethod yX3_readOperand ∈ gtbl := tbp_mem (p := 3) (i := 98) (by decide +kernel) rfl
theorem wv_yX3_readOperand : Cond.selects yX3_readOperand.cls yX3_readOperand yX3_readOperand ∈ gtbl := prv_mem (i := 17) (n := 11) (by decide +kernel)
theorem wc_yX3_readPart : Cond.code yX3_readPart cX3_readPart 6 (some .boolean) ∈ gtbl := tbp_mem (p := 3) (i := 103) (by decide +kernel) rfl
theorem wm_yX3_readPart : Cond.instanceMethod yX3_readPart ∈ gtbl := tbp_mem (p := 3) (i := 102) (by decide +kernel) rfl
theorem wv_yX3_readPart : Cond.selects yX3_readPart.cls yX3_readPart yX3_readPart ∈ gtbl := prv_mem (i := 18) (n := 11) (by decide +kernel)
theorem wc_yX3_putStep : Cond.code yX3_putStep cX3_putStep 2 (some .boolean) ∈ gtbl := tbp_mem (p := 3) (i := 109) (by decide +kernel) rfl
theorem wm_yX3_putStep : Cond.instanceMethod yX3_putStep ∈ gtbl := tbp_mem (p := 3) (i := 108) (by decide +kernel) rfl
theorem wv_yX3_putStep : Cond.selects yX3_putStep.cls yX3_putStep yX3_putStep ∈ gtbl := prv_mem (i := 19) (n := 11) (by decide +kernel)
theorem wc_yX3_joinerOf : Cond.code yX3_joinerOf cX3_joinerOf 2 (some .int) ∈ gtbl := tbp_mem (p := 3) (i := 113) (by decide +kernel) rfl
theorem wm_yX3_joinerOf : Cond.instanceMethod yX3_joinerOf ∈ gtbl := tbp_mem (p := 3) (i := 112) (by decide +kernel) rfl
theorem wv_yX3_joinerOf : Cond.selects yX3_joinerOf.cls yX3_joinerOf yX3_joinerOf ∈ gtbl := prv_mem (i := 20) (n := 11) (by decide +kernel)
theorem wc_yJ7_copyOf_59c91 : Cond.code yJ7_copyOf_59c91 cJ7_copyOf_59c91 3 (some (.array .int)) ∈ gtbl := tbp_mem (p := 3) (i := 120) (by decide +kernel) rfl
theorem wm_yJ7_copyOf_59c91 : Cond.static yJ7_copyOf_59c91 ∈ gtbl := tbp_mem (p := 3) (i := 119) (by decide +kernel) rfl
theorem wc_yX6_copyFrom : Cond.code yX6_copyFrom cX6_copyFrom 2 none ∈ gtbl := tbp_mem (p := 3) (i := 133) (by decide +kernel) rfl
theorem wm_yX6_copyFrom : Cond.instanceMethod yX6_copyFrom ∈ gtbl := tbp_mem (p := 3) (i := 131) (by decide +kernel) rfl
theorem wv_yX6_copyFrom : Cond.selects yX6_copyFrom.cls yX6_copyFrom yX6_copyFrom ∈ gtbl := tbp_mem (p := 3) (i := 132) (by decide +kernel) rfl
theorem wc_yX11_forgetStudies : Cond.code yX11_forgetStudies cX11_forgetStudies 1 none ∈ gtbl := tbp_mem (p := 3) (i := 137) (by decide +kernel) rfl
theorem wm_yX11_forgetStudies : Cond.instanceMethod yX11_forgetStudies ∈ gtbl := tbp_mem (p := 3) (i := 136) (by decide +kernel) rfl
theorem wv_yX11_forgetStudies : Cond.selects yX11_forgetStudies.cls yX11_forgetStudies yX11_forgetStudies ∈ gtbl := prv_mem (i := 21) (n := 12) (by decide +kernel)
theorem wc_yX2_forget : Cond.code yX2_forget cX2_forget 1 none ∈ gtbl := tbp_mem (p := 3) (i := 141) (by decide +kernel) rfl
theorem wm_yX2_forget : Cond.instanceMethod yX2_forget ∈ gtbl := tbp_mem (p := 3) (i := 139) (by decide +kernel) rfl
theorem wv_yX2_forget : Cond.selects yX2_forget.cls yX2_forget yX2_forget ∈ gtbl := tbp_mem (p := 3) (i := 140) (by decide +kernel) rfl
theorem wc_yX7_forget : Cond.code yX7_forget cX7_forget 1 none ∈ gtbl := tbp_mem (p := 3) (i := 145) (by decide +kernel) rfl
theorem wm_yX7_forget : Cond.instanceMethod yX7_forget ∈ gtbl := tbp_mem (p := 3) (i := 143) (by decide +kernel) rfl
theorem wv_yX7_forget : Cond.selects yX7_forget.cls yX7_forget yX7_forget ∈ gtbl := tbp_mem (p := 3) (i := 144) (by decide +kernel) rfl
theorem wc_yX1_forget : Cond.code yX1_forget cX1_forget 1 none ∈ gtbl := tbp_mem (p := 3) (i := 149) (by decide +kernel) rfl
theorem wm_yX1_forget : Cond.instanceMethod yX1_forget ∈ gtbl := tbp_mem (p := 3) (i := 147) (by decide +kernel) rfl
theorem wv_yX1_forget : Cond.selects yX1_forget.cls yX1_forget yX1_forget ∈ gtbl := tbp_mem (p := 3) (i := 148) (by decide +kernel) rfl
theorem wc_yX9_forget : Cond.code yX9_forget cX9_forget 1 none ∈ gtbl := tbp_mem (p := 3) (i := 153) (by decide +kernel) rfl
theorem wm_yX9_forget : Cond.instanceMethod yX9_forget ∈ gtbl := tbp_mem (p := 3) (i := 151) (by decide +kernel) rfl
theorem wv_yX9_forget : Cond.selects yX9_forget.cls yX9_forget yX9_forget ∈ gtbl := tbp_mem (p := 3) (i := 152) (by decide +kernel) rfl
theorem wc_yX11_pupil : Cond.code yX11_pupil cX11_pupil 3 (some .int) ∈ gtbl := tbp_mem (p := 3) (i := 157) (by decide +kernel) rfl
theorem wm_yX11_pupil : Cond.instanceMethod yX11_pupil ∈ gtbl := tbp_mem (p := 3) (i := 155) (by decide +kernel) rfl
theorem wv_yX11_pupil : Cond.selects yX11_pupil.cls yX11_pupil yX11_pupil ∈ gtbl := tbp_mem (p := 3) (i := 156) (by decide +kernel) rfl
theorem wc_yX11_isPupil : Cond.code yX11_isPupil cX11_isPupil 2 (some .boolean) ∈ gtbl := tbp_mem (p := 3) (i := 161) (by decide +kernel) rfl
theorem wm_yX11_isPupil : Cond.instanceMethod yX11_isPupil ∈ gtbl := tbp_mem (p := 3) (i := 160) (by decide +kernel) rfl
theorem wv_yX11_isPupil : Cond.selects yX11_isPupil.cls yX11_isPupil yX11_isPupil ∈ gtbl := prv_mem (i := 22) (n := 12) (by decide +kernel)
theorem wc_yX11_say : Cond.code yX11_say cX11_say 5 (some .int) ∈ gtbl := tbp_mem (p := 3) (i := 165) (by decide +kernel) rfl
theorem wm_yX11_say : Cond.instanceMethod yX11_say ∈ gtbl := tbp_mem (p := 3) (i := 163) (by decide +kernel) rfl
theorem wv_yX11_say : Cond.selects yX11_say.cls yX11_say yX11_say ∈ gtbl := tbp_mem (p := 3) (i := 164) (by decide +kernel) rfl
theorem wc_yX11_areTwo : Cond.code yX11_areTwo cX11_areTwo 3 (some .boolean) ∈ gtbl := tbp_mem (p := 3) (i := 169) (by decide +kernel) rfl
theorem wm_yX11_areTwo : Cond.instanceMethod yX11_areTwo ∈ gtbl := tbp_mem (p := 3) (i := 168) (by decide +kernel) rfl
theorem wv_yX11_areTwo : Cond.selects yX11_areTwo.cls yX11_areTwo yX11_areTwo ∈ gtbl := prv_mem (i := 23) (n := 12) (by decide +kernel)
theorem wc_yX11_unsay : Cond.code yX11_unsay cX11_unsay 1 (some .boolean) ∈ gtbl := tbp_mem (p := 3) (i := 174) (by decide +kernel) rfl
theorem wm_yX11_unsay : Cond.instanceMethod yX11_unsay ∈ gtbl := tbp_mem (p := 3) (i := 172) (by decide +kernel) rfl
theorem wv_yX11_unsay : Cond.selects yX11_unsay.cls yX11_unsay yX11_unsay ∈ gtbl := tbp_mem (p := 3) (i := 173) (by decide +kernel) rfl
theorem wc_yX11_saying : Cond.code yX11_saying cX11_saying 3 (some .int) ∈ gtbl := tbp_mem (p := 3) (i := 178) (by decide +kernel) rfl
theorem wm_yX11_saying : Cond.instanceMethod yX11_saying ∈ gtbl := tbp_mem (p := 3) (i := 176) (by decide +kernel) rfl
theorem wv_yX11_saying : Cond.selects yX11_saying.cls yX11_saying yX11_saying ∈ gtbl := tbp_mem (p := 3) (i := 177) (by decide +kernel) rfl
theorem wc_yX11_orders : Cond.code yX11_orders cX11_orders 1 (some .int) ∈ gtbl := tbp_mem (p := 3) (i := 182) (by decide +kernel) rfl
theorem wm_yX11_orders : Cond.instanceMethod yX11_orders ∈ gtbl := tbp_mem (p := 3) (i := 180) (by decide +kernel) rfl
theorem wv_yX11_orders : Cond.selects yX11_orders.cls yX11_orders yX11_orders ∈ gtbl := tbp_mem (p := 3) (i := 181) (by decide +kernel) rfl
theorem wc_yX7_weigh : Cond.code yX7_weigh cX7_weigh 4 none ∈ gtbl := tbp_mem (p := 3) (i := 186) (by decide +kernel) rfl
theorem wm_yX7_weigh : Cond.instanceMethod yX7_weigh ∈ gtbl := tbp_mem (p := 3) (i := 184) (by decide +kernel) rfl
theorem wv_yX7_weigh : Cond.selects yX7_weigh.cls yX7_weigh yX7_weigh ∈ gtbl := tbp_mem (p := 3) (i := 185) (by decide +kernel) rfl
theorem wc_yX4_everyone : Cond.code yX4_everyone cX4_everyone 1 (some .int) ∈ gtbl := tbp_mem (p := 3) (i := 190) (by decide +kernel) rfl
theorem wm_yX4_everyone : Cond.instanceMethod yX4_everyone ∈ gtbl := tbp_mem (p := 3) (i := 188) (by decide +kernel) rfl
theorem wv_yX4_everyone : Cond.selects yX4_everyone.cls yX4_everyone yX4_everyone ∈ gtbl := tbp_mem (p := 3) (i := 189) (by decide +kernel) rfl
theorem wc_yX7_setFactors : Cond.code yX7_setFactors cX7_setFactors 6 none ∈ gtbl := tbp_mem (p := 3) (i := 194) (by decide +kernel) rfl
theorem wm_yX7_setFactors : Cond.instanceMethod yX7_setFactors ∈ gtbl := tbp_mem (p := 3) (i := 193) (by decide +kernel) rfl
theorem wv_yX7_setFactors : Cond.selects yX7_setFactors.cls yX7_setFactors yX7_setFactors ∈ gtbl := prv_mem (i := 24) (n := 10) (by decide +kernel)
theorem wc_yJ7_fill_d0a16 : Cond.code yJ7_fill_d0a16 cJ7_fill_d0a16 5 none ∈ gtbl := tbp_mem (p := 3) (i := 197) (by decide +kernel) rfl
theorem wm_yJ7_fill_d0a16 : Cond.static yJ7_fill_d0a16 ∈ gtbl := tbp_mem (p := 3) (i := 196) (by decide +kernel) rfl
theorem wc_yX4_slipOf : Cond.code yX4_slipOf cX4_slipOf 2 (some .int) ∈ gtbl := tbp_mem (p := 3) (i := 202) (by decide +kernel) rfl
theorem wm_yX4_slipOf : Cond.instanceMethod yX4_slipOf ∈ gtbl := tbp_mem (p := 3) (i := 200) (by decide +kernel) rfl
theorem wv_yX4_slipOf : Cond.selects yX4_slipOf.cls yX4_slipOf yX4_slipOf ∈ gtbl := tbp_mem (p := 3) (i := 201) (by decide +kernel) rfl
theorem wc_yX7_factorBehind : Cond.code yX7_factorBehind cX7_factorBehind 7 (some .long) ∈ gtbl := tbp_mem (p := 3) (i := 206) (by decide +kernel) rfl
theorem wm_yX7_factorBehind : Cond.instanceMethod yX7_factorBehind ∈ gtbl := tbp_mem (p := 3) (i := 205) (by decide +kernel) rfl
theorem wv_yX7_factorBehind : Cond.selects yX7_factorBehind.cls yX7_factorBehind yX7_factorBehind ∈ gtbl := prv_mem (i := 25) (n := 10) (by decide +kernel)
theorem wc_yX7_all : Cond.code yX7_all cX7_all 1 (some .long) ∈ gtbl := tbp_mem (p := 3) (i := 210) (by decide +kernel) rfl
theorem wm_yX7_all : Cond.instanceMethod yX7_all ∈ gtbl := tbp_mem (p := 3) (i := 208) (by decide +kernel) rfl
theorem wv_yX7_all : Cond.selects yX7_all.cls yX7_all yX7_all ∈ gtbl := tbp_mem (p := 3) (i := 209) (by decide +kernel) rfl
theorem wc_yX11_sure : Cond.code yX11_sure cX11_sure 3 (some .int) ∈ gtbl := tbp_mem (p := 3) (i := 214) (by decide +kernel) rfl
theorem wm_yX11_sure : Cond.instanceMethod yX11_sure ∈ gtbl := tbp_mem (p := 3) (i := 212) (by decide +kernel) rfl
theorem wv_yX11_sure : Cond.selects yX11_sure.cls yX11_sure yX11_sure ∈ gtbl := tbp_mem (p := 3) (i := 213) (by decide +kernel) rfl
theorem wc_yX2_study : Cond.code yX2_study cX2_study 2 none ∈ gtbl := tbp_mem (p := 3) (i := 218) (by decide +kernel) rfl
theorem wm_yX2_study : Cond.instanceMethod yX2_study ∈ gtbl := tbp_mem (p := 3) (i := 216) (by decide +kernel) rfl
theorem wv_yX2_study : Cond.selects yX2_study.cls yX2_study yX2_study ∈ gtbl := tbp_mem (p := 3) (i := 217) (by decide +kernel) rfl
theorem wc_yX2_hear : Cond.code yX2_hear cX2_hear 3 none ∈ gtbl := tbp_mem (p := 3) (i := 222) (by decide +kernel) rfl
theorem wm_yX2_hear : Cond.instanceMethod yX2_hear ∈ gtbl := tbp_mem (p := 3) (i := 220) (by decide +kernel) rfl
theorem wv_yX2_hear : Cond.selects yX2_hear.cls yX2_hear yX2_hear ∈ gtbl := tbp_mem (p := 3) (i := 221) (by decide +kernel) rfl
theorem wc_yX2_peel : Cond.code yX2_peel cX2_peel 7 (some .int) ∈ gtbl := tbp_mem (p := 3) (i := 228) (by decide +kernel) rfl
theorem wm_yX2_peel : Cond.instanceMethod yX2_peel ∈ gtbl := tbp_mem (p := 3) (i := 227) (by decide +kernel) rfl
theorem wv_yX2_peel : Cond.selects yX2_peel.cls yX2_peel yX2_peel ∈ gtbl := prv_mem (i := 26) (n := 7) (by decide +kernel)
theorem wc_yX2_climb : Cond.code yX2_climb cX2_climb 5 none ∈ gtbl := tbp_mem (p := 3) (i := 232) (by decide +kernel) rfl
theorem wm_yX2_climb : Cond.instanceMethod yX2_climb ∈ gtbl := tbp_mem (p := 3) (i := 231) (by decide +kernel) rfl
theorem wv_yX2_climb : Cond.selects yX2_climb.cls yX2_climb yX2_climb ∈ gtbl := prv_mem (i := 27) (n := 7) (by decide +kernel)
theorem wc_yX2_isAbove : Cond.code yX2_isAbove cX2_isAbove 3 (some .boolean) ∈ gtbl := tbp_mem (p := 3) (i := 236) (by decide +kernel) rfl
theorem wm_yX2_isAbove : Cond.instanceMethod yX2_isAbove ∈ gtbl := tbp_mem (p := 3) (i := 234) (by decide +kernel) rfl
theorem wv_yX2_isAbove : Cond.selects yX2_isAbove.cls yX2_isAbove yX2_isAbove ∈ gtbl := tbp_mem (p := 3) (i := 235) (by decide +kernel) rfl
theorem wc_yX11_span : Cond.code yX11_span cX11_span 3 (some .int) ∈ gtbl := tbp_mem (p := 4) (i := 0) (by decide +kernel) rfl
theorem wm_yX11_span : Cond.instanceMethod yX11_span ∈ gtbl := tbp_mem (p := 3) (i := 238) (by decide +kernel) rfl
theorem wv_yX11_span : Cond.selects yX11_span.cls yX11_span yX11_span ∈ gtbl := tbp_mem (p := 3) (i := 239) (by decide +kernel) rfl
theorem wc_yX2_leastPlace : Cond.code yX2_leastPlace cX2_leastPlace 2 (some .int) ∈ gtbl := tbp_mem (p := 4) (i := 4) (by decide +kernel) rfl
theorem wm_yX2_leastPlace : Cond.instanceMethod yX2_leastPlace ∈ gtbl := tbp_mem (p := 4) (i := 2) (by decide +kernel) rfl
theorem wv_yX2_leastPlace : Cond.selects yX2_leastPlace.cls yX2_leastPlace yX2_leastPlace ∈ gtbl := tbp_mem (p := 4) (i := 3) (by decide +kernel) rfl
theorem wc_yJ6_bitCount_0f7a4 : Cond.code yJ6_bitCount_0f7a4 cJ6_bitCount_0f7a4 1 (some .int) ∈ gtbl := tbp_mem (p := 4) (i := 7) (by decide +kernel) rfl
theorem wm_yJ6_bitCount_0f7a4 : Cond.static yJ6_bitCount_0f7a4 ∈ gtbl := tbp_mem (p := 4) (i := 6) (by decide +kernel) rfl
theorem wc_yX2_greatestPlace : Cond.code yX2_greatestPlace cX2_greatestPlace 4 (some .int) ∈ gtbl := tbp_mem (p := 4) (i := 14) (by decide +kernel) rfl
theorem wm_yX2_greatestPlace : Cond.instanceMethod yX2_greatestPlace ∈ gtbl := tbp_mem (p := 4) (i := 12) (by decide +kernel) rfl
theorem wv_yX2_greatestPlace : Cond.selects yX2_greatestPlace.cls yX2_greatestPlace yX2_greatestPlace ∈ gtbl := tbp_mem (p := 4) (i := 13) (by decide +kernel) rfl
theorem wc_yX11_dropped : Cond.code yX11_dropped cX11_dropped 2 (some .int) ∈ gtbl := tbp_mem (p := 4) (i := 19) (by decide +kernel) rfl
theorem wm_yX11_dropped : Cond.instanceMethod yX11_dropped ∈ gtbl := tbp_mem (p := 4) (i := 17) (by decide +kernel) rfl
theorem wv_yX11_dropped : Cond.selects yX11_dropped.cls yX11_dropped yX11_dropped ∈ gtbl := tbp_mem (p := 4) (i := 18) (by decide +kernel) rfl
theorem wc_yX1_study : Cond.code yX1_study cX1_study 5 none ∈ gtbl := tbp_mem (p := 4) (i := 23) (by decide +kernel) rfl
theorem wm_yX1_study : Cond.instanceMethod yX1_study ∈ gtbl := tbp_mem (p := 4) (i := 21) (by decide +kernel) rfl
theorem wv_yX1_study : Cond.selects yX1_study.cls yX1_study yX1_study ∈ gtbl := tbp_mem (p := 4) (i := 22) (by decide +kernel) rfl
theorem wc_yX1_hear : Cond.code yX1_hear cX1_hear 4 none ∈ gtbl := tbp_mem (p := 4) (i := 28) (by decide +kernel) rfl
theorem wm_yX1_hear : Cond.instanceMethod yX1_hear ∈ gtbl := tbp_mem (p := 4) (i := 27) (by decide +kernel) rfl
theorem wv_yX1_hear : Cond.selects yX1_hear.cls yX1_hear yX1_hear ∈ gtbl := prv_mem (i := 28) (n := 8) (by decide +kernel)
theorem wc_yJ6_numberOfTrailingZeros_0f7a4 : Cond.code yJ6_numberOfTrailingZeros_0f7a4 cJ6_numberOfTrailingZeros_0f7a4 2 (some .int) ∈ gtbl := tbp_mem (p := 4) (i := 32) (by decide +kernel) rfl
theorem wm_yJ6_numberOfTrailingZeros_0f7a4 : Cond.static yJ6_numberOfTrailingZeros_0f7a4 ∈ gtbl := tbp_mem (p := 4) (i := 31) (by decide +kernel) rfl
theorem wc_yX1_bestBehind : Cond.code yX1_bestBehind cX1_bestBehind 6 (some .int) ∈ gtbl := tbp_mem (p := 4) (i := 37) (by decide +kernel) rfl
theorem wm_yX1_bestBehind : Cond.instanceMethod yX1_bestBehind ∈ gtbl := tbp_mem (p := 4) (i := 36) (by decide +kernel) rfl
theorem wv_yX1_bestBehind : Cond.selects yX1_bestBehind.cls yX1_bestBehind yX1_bestBehind ∈ gtbl := prv_mem (i := 29) (n := 8) (by decide +kernel)
theorem wc_yX1_withBehind : Cond.code yX1_withBehind cX1_withBehind 3 (some .int) ∈ gtbl := tbp_mem (p := 4) (i := 41) (by decide +kernel) rfl
theorem wm_yX1_withBehind : Cond.instanceMethod yX1_withBehind ∈ gtbl := tbp_mem (p := 4) (i := 40) (by decide +kernel) rfl
theorem wv_yX1_withBehind : Cond.selects yX1_withBehind.cls yX1_withBehind yX1_withBehind ∈ gtbl := prv_mem (i := 30) (n := 8) (by decide +kernel)
theorem wc_yX1_fewest : Cond.code yX1_fewest cX1_fewest 1 (some .int) ∈ gtbl := tbp_mem (p := 4) (i := 46) (by decide +kernel) rfl
theorem wm_yX1_fewest : Cond.instanceMethod yX1_fewest ∈ gtbl := tbp_mem (p := 4) (i := 44) (by decide +kernel) rfl
theorem wv_yX1_fewest : Cond.selects yX1_fewest.cls yX1_fewest yX1_fewest ∈ gtbl := tbp_mem (p := 4) (i := 45) (by decide +kernel) rfl
theorem wc_yX11_row : Cond.code yX11_row cX11_row 2 (some .int) ∈ gtbl := tbp_mem (p := 4) (i := 50) (by decide +kernel) rfl
theorem wm_yX11_row : Cond.instanceMethod yX11_row ∈ gtbl := tbp_mem (p := 4) (i := 48) (by decide +kernel) rfl
theorem wv_yX11_row : Cond.selects yX11_row.cls yX11_row yX11_row ∈ gtbl := tbp_mem (p := 4) (i := 49) (by decide +kernel) rfl
theorem wc_yX11_helped : Cond.code yX11_helped cX11_helped 1 (some .int) ∈ gtbl := tbp_mem (p := 4) (i := 54) (by decide +kernel) rfl
theorem wm_yX11_helped : Cond.instanceMethod yX11_helped ∈ gtbl := tbp_mem (p := 4) (i := 52) (by decide +kernel) rfl
theorem wv_yX11_helped : Cond.selects yX11_helped.cls yX11_helped yX11_helped ∈ gtbl := tbp_mem (p := 4) (i := 53) (by decide +kernel) rfl
theorem wc_yX2_untangling : Cond.code yX2_untangling cX2_untangling 3 (some .int) ∈ gtbl := tbp_mem (p := 4) (i := 58) (by decide +kernel) rfl
theorem wm_yX2_untangling : Cond.instanceMethod yX2_untangling ∈ gtbl := tbp_mem (p := 4) (i := 56) (by decide +kernel) rfl
theorem wv_yX2_untangling : Cond.selects yX2_untangling.cls yX2_untangling yX2_untangling ∈ gtbl := tbp_mem (p := 4) (i := 57) (by decide +kernel) rfl
theorem wc_yX11_unlike : Cond.code yX11_unlike cX11_unlike 4 (some .int) ∈ gtbl := tbp_mem (p := 4) (i := 62) (by decide +kernel) rfl
theorem wm_yX11_unlike : Cond.instanceMethod yX11_unlike ∈ gtbl := tbp_mem (p := 4) (i := 60) (by decide +kernel) rfl
theorem wv_yX11_unlike : Cond.selects yX11_unlike.cls yX11_unlike yX11_unlike ∈ gtbl := tbp_mem (p := 4) (i := 61) (by decide +kernel) rfl
theorem wc_yX6_isSaid : Cond.code yX6_isSaid cX6_isSaid 5 (some .boolean) ∈ gtbl := tbp_mem (p := 4) (i := 66) (by decide +kernel) rfl
theorem wm_yX6_isSaid : Cond.instanceMethod yX6_isSaid ∈ gtbl := tbp_mem (p := 4) (i := 64) (by decide +kernel) rfl
theorem wv_yX6_isSaid : Cond.selects yX6_isSaid.cls yX6_isSaid yX6_isSaid ∈ gtbl := tbp_mem (p := 4) (i := 65) (by decide +kernel) rfl
theorem wc_yX11_chance : Cond.code yX11_chance cX11_chance 10 (some .long) ∈ gtbl := tbp_mem (p := 4) (i := 70) (by decide +kernel) rfl
theorem wm_yX11_chance : Cond.instanceMethod yX11_chance ∈ gtbl := tbp_mem (p := 4) (i := 68) (by decide +kernel) rfl
theorem wv_yX11_chance : Cond.selects yX11_chance.cls yX11_chance yX11_chance ∈ gtbl := tbp_mem (p := 4) (i := 69) (by decide +kernel) rfl
theorem wc_yX7_compare : Cond.code yX7_compare cX7_compare 5 none ∈ gtbl := tbp_mem (p := 4) (i := 75) (by decide +kernel) rfl
theorem wm_yX7_compare : Cond.instanceMethod yX7_compare ∈ gtbl := tbp_mem (p := 4) (i := 73) (by decide +kernel) rfl
theorem wv_yX7_compare : Cond.selects yX7_compare.cls yX7_compare yX7_compare ∈ gtbl := tbp_mem (p := 4) (i := 74) (by decide +kernel) rfl
theorem wc_yX7_addAhead : Cond.code yX7_addAhead cX7_addAhead 6 none ∈ gtbl := tbp_mem (p := 4) (i := 79) (by decide +kernel) rfl
theorem wm_yX7_addAhead : Cond.instanceMethod yX7_addAhead ∈ gtbl := tbp_mem (p := 4) (i := 78) (by decide +kernel) rfl
theorem wv_yX7_addAhead : Cond.selects yX7_addAhead.cls yX7_addAhead yX7_addAhead ∈ gtbl := prv_mem (i := 31) (n := 10) (by decide +kernel)
theorem wc_yX7_aheadOf : Cond.code yX7_aheadOf cX7_aheadOf 3 (some .long) ∈ gtbl := tbp_mem (p := 4) (i := 83) (by decide +kernel) rfl
theorem wm_yX7_aheadOf : Cond.instanceMethod yX7_aheadOf ∈ gtbl := tbp_mem (p := 4) (i := 81) (by decide +kernel) rfl
theorem wv_yX7_aheadOf : Cond.selects yX7_aheadOf.cls yX7_aheadOf yX7_aheadOf ∈ gtbl := tbp_mem (p := 4) (i := 82) (by decide +kernel) rfl
theorem wc_yX11_commonDivisor : Cond.code yX11_commonDivisor cX11_commonDivisor 11 (some .long) ∈ gtbl := tbp_mem (p := 4) (i := 86) (by decide +kernel) rfl
theorem wm_yX11_commonDivisor : Cond.static yX11_commonDivisor ∈ gtbl := tbp_mem (p := 4) (i := 85) (by decide +kernel) rfl
theorem wc_yX11_next : Cond.code yX11_next cX11_next 2 (some .int) ∈ gtbl := tbp_mem (p := 4) (i := 90) (by decide +kernel) rfl
theorem wm_yX11_next : Cond.instanceMethod yX11_next ∈ gtbl := tbp_mem (p := 4) (i := 88) (by decide +kernel) rfl
theorem wv_yX11_next : Cond.selects yX11_next.cls yX11_next yX11_next ∈ gtbl := tbp_mem (p := 4) (i := 89) (by decide +kernel) rfl
theorem wc_yX7_bestQuestion : Cond.code yX7_bestQuestion cX7_bestQuestion 10 (some .int) ∈ gtbl := tbp_mem (p := 4) (i := 94) (by decide +kernel) rfl
theorem wm_yX7_bestQuestion : Cond.instanceMethod yX7_bestQuestion ∈ gtbl := tbp_mem (p := 4) (i := 92) (by decide +kernel) rfl
theorem wv_yX7_bestQuestion : Cond.selects yX7_bestQuestion.cls yX7_bestQuestion yX7_bestQuestion ∈ gtbl := tbp_mem (p := 4) (i := 93) (by decide +kernel) rfl
theorem wc_yJ9_max_f86c9 : Cond.code yJ9_max_f86c9 cJ9_max_f86c9 4 (some .long) ∈ gtbl := tbp_mem (p := 4) (i := 99) (by decide +kernel) rfl
theorem wm_yJ9_max_f86c9 : Cond.static yJ9_max_f86c9 ∈ gtbl := tbp_mem (p := 4) (i := 98) (by decide +kernel) rfl
theorem wc_yX11_needed : Cond.code yX11_needed cX11_needed 1 (some .int) ∈ gtbl := tbp_mem (p := 4) (i := 103) (by decide +kernel) rfl
theorem wm_yX11_needed : Cond.instanceMethod yX11_needed ∈ gtbl := tbp_mem (p := 4) (i := 101) (by decide +kernel) rfl
theorem wv_yX11_needed : Cond.selects yX11_needed.cls yX11_needed yX11_needed ∈ gtbl := tbp_mem (p := 4) (i := 102) (by decide +kernel) rfl
theorem wc_yX0_fewestAsks : Cond.code yX0_fewestAsks cX0_fewestAsks 9 (some .int) ∈ gtbl := tbp_mem (p := 4) (i := 107) (by decide +kernel) rfl
theorem wm_yX0_fewestAsks : Cond.instanceMethod yX0_fewestAsks ∈ gtbl := tbp_mem (p := 4) (i := 105) (by decide +kernel) rfl
theorem wv_yX0_fewestAsks : Cond.selects yX0_fewestAsks.cls yX0_fewestAsks yX0_fewestAsks ∈ gtbl := tbp_mem (p := 4) (i := 106) (by decide +kernel) rfl
theorem wc_yX0_layOrders : Cond.code yX0_layOrders cX0_layOrders 5 (some .int) ∈ gtbl := tbp_mem (p := 4) (i := 112) (by decide +kernel) rfl
theorem wm_yX0_layOrders : Cond.instanceMethod yX0_layOrders ∈ gtbl := tbp_mem (p := 4) (i := 111) (by decide +kernel) rfl
theorem wv_yX0_layOrders : Cond.selects yX0_layOrders.cls yX0_layOrders yX0_layOrders ∈ gtbl := prv_mem (i := 32) (n := 4) (by decide +kernel)
theorem wc_yX0_placeBy : Cond.code yX0_placeBy cX0_placeBy 6 none ∈ gtbl := tbp_mem (p := 4) (i := 117) (by decide +kernel) rfl
theorem wm_yX0_placeBy : Cond.instanceMethod yX0_placeBy ∈ gtbl := tbp_mem (p := 4) (i := 116) (by decide +kernel) rfl
theorem wv_yX0_placeBy : Cond.selects yX0_placeBy.cls yX0_placeBy yX0_placeBy ∈ gtbl := prv_mem (i := 33) (n := 4) (by decide +kernel)
theorem wc_yX0_noteAhead : Cond.code yX0_noteAhead cX0_noteAhead 3 none ∈ gtbl := tbp_mem (p := 4) (i := 121) (by decide +kernel) rfl
theorem wm_yX0_noteAhead : Cond.instanceMethod yX0_noteAhead ∈ gtbl := tbp_mem (p := 4) (i := 120) (by decide +kernel) rfl
theorem wv_yX0_noteAhead : Cond.selects yX0_noteAhead.cls yX0_noteAhead yX0_noteAhead ∈ gtbl := prv_mem (i := 34) (n := 4) (by decide +kernel)
theorem wc_yX0_firstBits : Cond.code yX0_firstBits cX0_firstBits 1 (some .long) ∈ gtbl := tbp_mem (p := 4) (i := 124) (by decide +kernel) rfl
theorem wm_yX0_firstBits : Cond.static yX0_firstBits ∈ gtbl := tbp_mem (p := 4) (i := 123) (by decide +kernel) rfl
theorem wc_yJ9_max_7cf53 : Cond.code yJ9_max_7cf53 cJ9_max_7cf53 2 (some .int) ∈ gtbl := tbp_mem (p := 4) (i := 128) (by decide +kernel) rfl
theorem wm_yJ9_max_7cf53 : Cond.static yJ9_max_7cf53 ∈ gtbl := tbp_mem (p := 4) (i := 127) (by decide +kernel) rfl
theorem wc_yX0_suffice : Cond.code yX0_suffice cX0_suffice 9 (some .boolean) ∈ gtbl := tbp_mem (p := 4) (i := 132) (by decide +kernel) rfl
theorem wm_yX0_suffice : Cond.instanceMethod yX0_suffice ∈ gtbl := tbp_mem (p := 4) (i := 131) (by decide +kernel) rfl
theorem wv_yX0_suffice : Cond.selects yX0_suffice.cls yX0_suffice yX0_suffice ∈ gtbl := prv_mem (i := 35) (n := 4) (by decide +kernel)
theorem wc_yJ13_bitCount_95d88 : Cond.code yJ13_bitCount_95d88 cJ13_bitCount_95d88 2 (some .int) ∈ gtbl := tbp_mem (p := 4) (i := 135) (by decide +kernel) rfl
theorem wm_yJ13_bitCount_95d88 : Cond.static yJ13_bitCount_95d88 ∈ gtbl := tbp_mem (p := 4) (i := 134) (by decide +kernel) rfl
theorem wc_yX0_sufficeBehind : Cond.code yX0_sufficeBehind cX0_sufficeBehind 17 (some .boolean) ∈ gtbl := tbp_mem (p := 4) (i := 142) (by decide +kernel) rfl
theorem wm_yX0_sufficeBehind : Cond.instanceMethod yX0_sufficeBehind ∈ gtbl := tbp_mem (p := 4) (i := 141) (by decide +kernel) rfl
theorem wv_yX0_sufficeBehind : Cond.selects yX0_sufficeBehind.cls yX0_sufficeBehind yX0_sufficeBehind ∈ gtbl := prv_mem (i := 36) (n := 4) (by decide +kernel)
theorem wc_yX11_newOne : Cond.code yX11_newOne cX11_newOne 4 (some .int) ∈ gtbl := tbp_mem (p := 4) (i := 146) (by decide +kernel) rfl
theorem wm_yX11_newOne : Cond.instanceMethod yX11_newOne ∈ gtbl := tbp_mem (p := 4) (i := 144) (by decide +kernel) rfl
theorem wv_yX11_newOne : Cond.selects yX11_newOne.cls yX11_newOne yX11_newOne ∈ gtbl := tbp_mem (p := 4) (i := 145) (by decide +kernel) rfl
theorem wc_yX2_placesFor : Cond.code yX2_placesFor cX2_placesFor 7 (some .int) ∈ gtbl := tbp_mem (p := 4) (i := 150) (by decide +kernel) rfl
theorem wm_yX2_placesFor : Cond.instanceMethod yX2_placesFor ∈ gtbl := tbp_mem (p := 4) (i := 148) (by decide +kernel) rfl
theorem wv_yX2_placesFor : Cond.selects yX2_placesFor.cls yX2_placesFor yX2_placesFor ∈ gtbl := tbp_mem (p := 4) (i := 149) (by decide +kernel) rfl
theorem wc_yX11_sit : Cond.code yX11_sit cX11_sit 3 (some .boolean) ∈ gtbl := tbp_mem (p := 4) (i := 156) (by decide +kernel) rfl
theorem wm_yX11_sit : Cond.instanceMethod yX11_sit ∈ gtbl := tbp_mem (p := 4) (i := 154) (by decide +kernel) rfl
theorem wv_yX11_sit : Cond.selects yX11_sit.cls yX11_sit yX11_sit ∈ gtbl := tbp_mem (p := 4) (i := 155) (by decide +kernel) rfl
theorem wc_yX11_isSeatOrNone : Cond.code yX11_isSeatOrNone cX11_isSeatOrNone 2 (some .boolean) ∈ gtbl := tbp_mem (p := 4) (i := 160) (by decide +kernel) rfl
theorem wm_yX11_isSeatOrNone : Cond.instanceMethod yX11_isSeatOrNone ∈ gtbl := tbp_mem (p := 4) (i := 159) (by decide +kernel) rfl
theorem wv_yX11_isSeatOrNone : Cond.selects yX11_isSeatOrNone.cls yX11_isSeatOrNone yX11_isSeatOrNone ∈ gtbl := prv_mem (i := 37) (n := 12) (by decide +kernel)
theorem wc_yX6_sitterOn : Cond.code yX6_sitterOn cX6_sitterOn 3 (some .int) ∈ gtbl := tbp_mem (p := 4) (i := 164) (by decide +kernel) rfl
theorem wm_yX6_sitterOn : Cond.instanceMethod yX6_sitterOn ∈ gtbl := tbp_mem (p := 4) (i := 162) (by decide +kernel) rfl
theorem wv_yX6_sitterOn : Cond.selects yX6_sitterOn.cls yX6_sitterOn yX6_sitterOn ∈ gtbl := tbp_mem (p := 4) (i := 163) (by decide +kernel) rfl
theorem wc_yX11_plan : Cond.code yX11_plan cX11_plan 4 (some .boolean) ∈ gtbl := tbp_mem (p := 4) (i := 168) (by decide +kernel) rfl
theorem wm_yX11_plan : Cond.instanceMethod yX11_plan ∈ gtbl := tbp_mem (p := 4) (i := 166) (by decide +kernel) rfl
theorem wv_yX11_plan : Cond.selects yX11_plan.cls yX11_plan yX11_plan ∈ gtbl := tbp_mem (p := 4) (i := 167) (by decide +kernel) rfl
theorem wc_yX11_changes : Cond.code yX11_changes cX11_changes 2 (some .int) ∈ gtbl := tbp_mem (p := 4) (i := 172) (by decide +kernel) rfl
theorem wm_yX11_changes : Cond.instanceMethod yX11_changes ∈ gtbl := tbp_mem (p := 4) (i := 170) (by decide +kernel) rfl
theorem wv_yX11_changes : Cond.selects yX11_changes.cls yX11_changes yX11_changes ∈ gtbl := tbp_mem (p := 4) (i := 171) (by decide +kernel) rfl
theorem wc_yX6_placedOf : Cond.code yX6_placedOf cX6_placedOf 4 (some .int) ∈ gtbl := tbp_mem (p := 4) (i := 176) (by decide +kernel) rfl
theorem wm_yX6_placedOf : Cond.instanceMethod yX6_placedOf ∈ gtbl := tbp_mem (p := 4) (i := 174) (by decide +kernel) rfl
theorem wv_yX6_placedOf : Cond.selects yX6_placedOf.cls yX6_placedOf yX6_placedOf ∈ gtbl := tbp_mem (p := 4) (i := 175) (by decide +kernel) rfl
theorem wc_yX6_ringsOfSeats : Cond.code yX6_ringsOfSeats cX6_ringsOfSeats 3 (some .int) ∈ gtbl := tbp_mem (p := 4) (i := 180) (by decide +kernel) rfl
theorem wm_yX6_ringsOfSeats : Cond.instanceMethod yX6_ringsOfSeats ∈ gtbl := tbp_mem (p := 4) (i := 178) (by decide +kernel) rfl
theorem wv_yX6_ringsOfSeats : Cond.selects yX6_ringsOfSeats.cls yX6_ringsOfSeats yX6_ringsOfSeats ∈ gtbl := tbp_mem (p := 4) (i := 179) (by decide +kernel) rfl
theorem wc_yX6_leadsRing : Cond.code yX6_leadsRing cX6_leadsRing 4 (some .boolean) ∈ gtbl := tbp_mem (p := 4) (i := 184) (by decide +kernel) rfl
theorem wm_yX6_leadsRing : Cond.instanceMethod yX6_leadsRing ∈ gtbl := tbp_mem (p := 4) (i := 183) (by decide +kernel) rfl
theorem wv_yX6_leadsRing : Cond.selects yX6_leadsRing.cls yX6_leadsRing yX6_leadsRing ∈ gtbl := prv_mem (i := 38) (n := 8) (by decide +kernel)
theorem wc_yX11_wishes : Cond.code yX11_wishes cX11_wishes 3 (some .int) ∈ gtbl := tbp_mem (p := 4) (i := 189) (by decide +kernel) rfl
theorem wm_yX11_wishes : Cond.instanceMethod yX11_wishes ∈ gtbl := tbp_mem (p := 4) (i := 187) (by decide +kernel) rfl
theorem wv_yX11_wishes : Cond.selects yX11_wishes.cls yX11_wishes yX11_wishes ∈ gtbl := tbp_mem (p := 4) (i := 188) (by decide +kernel) rfl
theorem wc_yX9_wishOf : Cond.code yX9_wishOf cX9_wishOf 8 (some .int) ∈ gtbl := tbp_mem (p := 4) (i := 193) (by decide +kernel) rfl
theorem wm_yX9_wishOf : Cond.instanceMethod yX9_wishOf ∈ gtbl := tbp_mem (p := 4) (i := 191) (by decide +kernel) rfl
theorem wv_yX9_wishOf : Cond.selects yX9_wishOf.cls yX9_wishOf yX9_wishOf ∈ gtbl := tbp_mem (p := 4) (i := 192) (by decide +kernel) rfl
theorem wc_yX9_lawOf : Cond.code yX9_lawOf cX9_lawOf 8 (some .int) ∈ gtbl := tbp_mem (p := 4) (i := 197) (by decide +kernel) rfl
theorem wm_yX9_lawOf : Cond.instanceMethod yX9_lawOf ∈ gtbl := tbp_mem (p := 4) (i := 196) (by decide +kernel) rfl
theorem wv_yX9_lawOf : Cond.selects yX9_lawOf.cls yX9_lawOf yX9_lawOf ∈ gtbl := prv_mem (i := 39) (n := 7) (by decide +kernel)
theorem wc_yX9_factOf : Cond.code yX9_factOf cX9_factOf 5 (some .int) ∈ gtbl := tbp_mem (p := 4) (i := 200) (by decide +kernel) rfl
theorem wm_yX9_factOf : Cond.static yX9_factOf ∈ gtbl := tbp_mem (p := 4) (i := 199) (by decide +kernel) rfl
theorem wc_yX4_likingOf : Cond.code yX4_likingOf cX4_likingOf 3 (some .int) ∈ gtbl := tbp_mem (p := 4) (i := 204) (by decide +kernel) rfl
theorem wm_yX4_likingOf : Cond.instanceMethod yX4_likingOf ∈ gtbl := tbp_mem (p := 4) (i := 202) (by decide +kernel) rfl
theorem wv_yX4_likingOf : Cond.selects yX4_likingOf.cls yX4_likingOf yX4_likingOf ∈ gtbl := tbp_mem (p := 4) (i := 203) (by decide +kernel) rfl
theorem wc_yX9_bit : Cond.code yX9_bit cX9_bit 1 (some .int) ∈ gtbl := tbp_mem (p := 4) (i := 208) (by decide +kernel) rfl
theorem wm_yX9_bit : Cond.static yX9_bit ∈ gtbl := tbp_mem (p := 4) (i := 207) (by decide +kernel) rfl
theorem wc_yX9_joined : Cond.code yX9_joined cX9_joined 3 (some .int) ∈ gtbl := tbp_mem (p := 4) (i := 211) (by decide +kernel) rfl
theorem wm_yX9_joined : Cond.static yX9_joined ∈ gtbl := tbp_mem (p := 4) (i := 210) (by decide +kernel) rfl
theorem wc_yX11_rests : Cond.code yX11_rests cX11_rests 1 (some .int) ∈ gtbl := tbp_mem (p := 4) (i := 217) (by decide +kernel) rfl
theorem wm_yX11_rests : Cond.instanceMethod yX11_rests ∈ gtbl := tbp_mem (p := 4) (i := 215) (by decide +kernel) rfl
theorem wv_yX11_rests : Cond.selects yX11_rests.cls yX11_rests yX11_rests ∈ gtbl := tbp_mem (p := 4) (i := 216) (by decide +kernel) rfl
theorem wc_yX11_findRests : Cond.code yX11_findRests cX11_findRests 2 (some .boolean) ∈ gtbl := tbp_mem (p := 4) (i := 221) (by decide +kernel) rfl
theorem wm_yX11_findRests : Cond.instanceMethod yX11_findRests ∈ gtbl := tbp_mem (p := 4) (i := 220) (by decide +kernel) rfl
theorem wv_yX11_findRests : Cond.selects yX11_findRests.cls yX11_findRests yX11_findRests ∈ gtbl := prv_mem (i := 40) (n := 12) (by decide +kernel)
theorem wc_yX9_study : Cond.code yX9_study cX9_study 5 none ∈ gtbl := tbp_mem (p := 4) (i := 225) (by decide +kernel) rfl
theorem wm_yX9_study : Cond.instanceMethod yX9_study ∈ gtbl := tbp_mem (p := 4) (i := 223) (by decide +kernel) rfl
theorem wv_yX9_study : Cond.selects yX9_study.cls yX9_study yX9_study ∈ gtbl := tbp_mem (p := 4) (i := 224) (by decide +kernel) rfl
theorem wc_yX9_pairFrom : Cond.code yX9_pairFrom cX9_pairFrom 5 none ∈ gtbl := tbp_mem (p := 4) (i := 231) (by decide +kernel) rfl
theorem wm_yX9_pairFrom : Cond.instanceMethod yX9_pairFrom ∈ gtbl := tbp_mem (p := 4) (i := 230) (by decide +kernel) rfl
theorem wv_yX9_pairFrom : Cond.selects yX9_pairFrom.cls yX9_pairFrom yX9_pairFrom ∈ gtbl := prv_mem (i := 41) (n := 7) (by decide +kernel)
theorem wc_yX9_keepIfAtRest : Cond.code yX9_keepIfAtRest cX9_keepIfAtRest 5 none ∈ gtbl := tbp_mem (p := 4) (i := 235) (by decide +kernel) rfl
theorem wm_yX9_keepIfAtRest : Cond.instanceMethod yX9_keepIfAtRest ∈ gtbl := tbp_mem (p := 4) (i := 234) (by decide +kernel) rfl
theorem wv_yX9_keepIfAtRest : Cond.selects yX9_keepIfAtRest.cls yX9_keepIfAtRest yX9_keepIfAtRest ∈ gtbl := prv_mem (i := 42) (n := 7) (by decide +kernel)
theorem wc_yX9_wouldRather : Cond.code yX9_wouldRather cX9_wouldRather 3 (some .boolean) ∈ gtbl := tbp_mem (p := 4) (i := 239) (by decide +kernel) rfl
theorem wm_yX9_wouldRather : Cond.instanceMethod yX9_wouldRather ∈ gtbl := tbp_mem (p := 4) (i := 238) (by decide +kernel) rfl
theorem wv_yX9_wouldRather : Cond.selects yX9_wouldRather.cls yX9_wouldRather yX9_wouldRather ∈ gtbl := prv_mem (i := 43) (n := 7) (by decide +kernel)
theorem wc_yX9_pairUp : Cond.code yX9_pairUp cX9_pairUp 4 none ∈ gtbl := tbp_mem (p := 5) (i := 3) (by decide +kernel) rfl
theorem wm_yX9_pairUp : Cond.instanceMethod yX9_pairUp ∈ gtbl := tbp_mem (p := 5) (i := 2) (by decide +kernel) rfl
theorem wv_yX9_pairUp : Cond.selects yX9_pairUp.cls yX9_pairUp yX9_pairUp ∈ gtbl := prv_mem (i := 44) (n := 7) (by decide +kernel)
theorem wc_yX11_rest : Cond.code yX11_rest cX11_rest 3 (some .int) ∈ gtbl := tbp_mem (p := 5) (i := 7) (by decide +kernel) rfl
theorem wm_yX11_rest : Cond.instanceMethod yX11_rest ∈ gtbl := tbp_mem (p := 5) (i := 5) (by decide +kernel) rfl
theorem wv_yX11_rest : Cond.selects yX11_rest.cls yX11_rest yX11_rest ∈ gtbl := tbp_mem (p := 5) (i := 6) (by decide +kernel) rfl
theorem wc_yX9_mateIn : Cond.code yX9_mateIn cX9_mateIn 3 (some .int) ∈ gtbl := tbp_mem (p := 5) (i := 11) (by decide +kernel) rfl
theorem wm_yX9_mateIn : Cond.instanceMethod yX9_mateIn ∈ gtbl := tbp_mem (p := 5) (i := 9) (by decide +kernel) rfl
theorem wv_yX9_mateIn : Cond.selects yX9_mateIn.cls yX9_mateIn yX9_mateIn ∈ gtbl := tbp_mem (p := 5) (i := 10) (by decide +kernel) rfl
theorem wc_yX11_season : Cond.code yX11_season cX11_season 5 (some .int) ∈ gtbl := tbp_mem (p := 5) (i := 16) (by decide +kernel) rfl
theorem wm_yX11_season : Cond.instanceMethod yX11_season ∈ gtbl := tbp_mem (p := 5) (i := 14) (by decide +kernel) rfl
theorem wv_yX11_season : Cond.selects yX11_season.cls yX11_season yX11_season ∈ gtbl := tbp_mem (p := 5) (i := 15) (by decide +kernel) rfl
theorem wc_yX5_open : Cond.code yX5_open cX5_open 5 none ∈ gtbl := tbp_mem (p := 5) (i := 20) (by decide +kernel) rfl
theorem wm_yX5_open : Cond.instanceMethod yX5_open ∈ gtbl := tbp_mem (p := 5) (i := 18) (by decide +kernel) rfl
theorem wv_yX5_open : Cond.selects yX5_open.cls yX5_open yX5_open ∈ gtbl := tbp_mem (p := 5) (i := 19) (by decide +kernel) rfl
theorem wc_yX5_daysUntilKnown : Cond.code yX5_daysUntilKnown cX5_daysUntilKnown 2 (some .int) ∈ gtbl := tbp_mem (p := 5) (i := 25) (by decide +kernel) rfl
theorem wm_yX5_daysUntilKnown : Cond.instanceMethod yX5_daysUntilKnown ∈ gtbl := tbp_mem (p := 5) (i := 23) (by decide +kernel) rfl
theorem wv_yX5_daysUntilKnown : Cond.selects yX5_daysUntilKnown.cls yX5_daysUntilKnown yX5_daysUntilKnown ∈ gtbl := tbp_mem (p := 5) (i := 24) (by decide +kernel) rfl
theorem wc_yX2_oneOrderFits : Cond.code yX2_oneOrderFits cX2_oneOrderFits 1 (some .boolean) ∈ gtbl := tbp_mem (p := 5) (i := 30) (by decide +kernel) rfl
theorem wm_yX2_oneOrderFits : Cond.instanceMethod yX2_oneOrderFits ∈ gtbl := tbp_mem (p := 5) (i := 28) (by decide +kernel) rfl
theorem wv_yX2_oneOrderFits : Cond.selects yX2_oneOrderFits.cls yX2_oneOrderFits yX2_oneOrderFits ∈ gtbl := tbp_mem (p := 5) (i := 29) (by decide +kernel) rfl
theorem wc_yX5_passDays : Cond.code yX5_passDays cX5_passDays 8 none ∈ gtbl := tbp_mem (p := 5) (i := 34) (by decide +kernel) rfl
theorem wm_yX5_passDays : Cond.instanceMethod yX5_passDays ∈ gtbl := tbp_mem (p := 5) (i := 32) (by decide +kernel) rfl
theorem wv_yX5_passDays : Cond.selects yX5_passDays.cls yX5_passDays yX5_passDays ∈ gtbl := tbp_mem (p := 5) (i := 33) (by decide +kernel) rfl
theorem wc_yX5_draw : Cond.code yX5_draw cX5_draw 2 (some .int) ∈ gtbl := tbp_mem (p := 5) (i := 38) (by decide +kernel) rfl
theorem wm_yX5_draw : Cond.instanceMethod yX5_draw ∈ gtbl := tbp_mem (p := 5) (i := 37) (by decide +kernel) rfl
theorem wv_yX5_draw : Cond.selects yX5_draw.cls yX5_draw yX5_draw ∈ gtbl := prv_mem (i := 45) (n := 4) (by decide +kernel)
theorem wc_yX11_mark : Cond.code yX11_mark cX11_mark 3 (some .boolean) ∈ gtbl := tbp_mem (p := 5) (i := 48) (by decide +kernel) rfl
theorem wm_yX11_mark : Cond.instanceMethod yX11_mark ∈ gtbl := tbp_mem (p := 5) (i := 46) (by decide +kernel) rfl
theorem wv_yX11_mark : Cond.selects yX11_mark.cls yX11_mark yX11_mark ∈ gtbl := tbp_mem (p := 5) (i := 47) (by decide +kernel) rfl
theorem wc_yX11_count : Cond.code yX11_count cX11_count 2 (some .int) ∈ gtbl := tbp_mem (p := 5) (i := 52) (by decide +kernel) rfl
theorem wm_yX11_count : Cond.instanceMethod yX11_count ∈ gtbl := tbp_mem (p := 5) (i := 50) (by decide +kernel) rfl
theorem wv_yX11_count : Cond.selects yX11_count.cls yX11_count yX11_count ∈ gtbl := tbp_mem (p := 5) (i := 51) (by decide +kernel) rfl
theorem wc_yX11_hidden : Cond.code yX11_hidden cX11_hidden 2 (some .int) ∈ gtbl := tbp_mem (p := 5) (i := 60) (by decide +kernel) rfl
theorem wm_yX11_hidden : Cond.instanceMethod yX11_hidden ∈ gtbl := tbp_mem (p := 5) (i := 58) (by decide +kernel) rfl
theorem wv_yX11_hidden : Cond.selects yX11_hidden.cls yX11_hidden yX11_hidden ∈ gtbl := tbp_mem (p := 5) (i := 59) (by decide +kernel) rfl
theorem wc_yX6_tallerAhead : Cond.code yX6_tallerAhead cX6_tallerAhead 5 (some .int) ∈ gtbl := tbp_mem (p := 5) (i := 125) (by decide +kernel) rfl
theorem wm_yX6_tallerAhead : Cond.instanceMethod yX6_tallerAhead ∈ gtbl := tbp_mem (p := 5) (i := 123) (by decide +kernel) rfl
theorem wv_yX6_tallerAhead : Cond.selects yX6_tallerAhead.cls yX6_tallerAhead yX6_tallerAhead ∈ gtbl := tbp_mem (p := 5) (i := 124) (by decide +kernel) rfl
theorem wc_yX6_sitsBefore : Cond.code yX6_sitsBefore cX6_sitsBefore 3 (some .boolean) ∈ gtbl := tbp_mem (p := 5) (i := 129) (by decide +kernel) rfl
theorem wm_yX6_sitsBefore : Cond.instanceMethod yX6_sitsBefore ∈ gtbl := tbp_mem (p := 5) (i := 128) (by decide +kernel) rfl
theorem wv_yX6_sitsBefore : Cond.selects yX6_sitsBefore.cls yX6_sitsBefore yX6_sitsBefore ∈ gtbl := prv_mem (i := 47) (n := 8) (by decide +kernel)
theorem wc_yX12_init : Cond.code yX12_init cX12_init 1 none ∈ gtbl := tbp_mem (p := 5) (i := 134) (by decide +kernel) rfl
theorem wm_yX12_init : Cond.instanceMethod yX12_init ∈ gtbl := tbp_mem (p := 5) (i := 133) (by decide +kernel) rfl
theorem wc_yX12_thrown : Cond.code yX12_thrown cX12_thrown 1 (some .int) ∈ gtbl := tbp_mem (p := 6) (i := 87) (by decide +kernel) rfl
theorem wm_yX12_thrown : Cond.instanceMethod yX12_thrown ∈ gtbl := tbp_mem (p := 6) (i := 85) (by decide +kernel) rfl
theorem wv_yX12_thrown : Cond.selects yX12_thrown.cls yX12_thrown yX12_thrown ∈ gtbl := tbp_mem (p := 6) (i := 86) (by decide +kernel) rfl
theorem wc_yX12_feed : Cond.code yX12_feed cX12_feed 11 (some .int) ∈ gtbl := tbp_mem (p := 6) (i := 91) (by decide +kernel) rfl
theorem wm_yX12_feed : Cond.instanceMethod yX12_feed ∈ gtbl := tbp_mem (p := 6) (i := 89) (by decide +kernel) rfl
theorem wv_yX12_feed : Cond.selects yX12_feed.cls yX12_feed yX12_feed ∈ gtbl := tbp_mem (p := 6) (i := 90) (by decide +kernel) rfl
theorem wc_yX12_school : Cond.code yX12_school cX12_school 1 (some .int) ∈ gtbl := tbp_mem (p := 6) (i := 96) (by decide +kernel) rfl
theorem wm_yX12_school : Cond.instanceMethod yX12_school ∈ gtbl := tbp_mem (p := 6) (i := 94) (by decide +kernel) rfl
theorem wv_yX12_school : Cond.selects yX12_school.cls yX12_school yX12_school ∈ gtbl := tbp_mem (p := 6) (i := 95) (by decide +kernel) rfl
theorem wc_yX12_readsAll : Cond.code yX12_readsAll cX12_readsAll 2 (some .boolean) ∈ gtbl := tbp_mem (p := 6) (i := 100) (by decide +kernel) rfl
theorem wm_yX12_readsAll : Cond.instanceMethod yX12_readsAll ∈ gtbl := tbp_mem (p := 6) (i := 99) (by decide +kernel) rfl
theorem wv_yX12_readsAll : Cond.selects yX12_readsAll.cls yX12_readsAll yX12_readsAll ∈ gtbl := prv_mem (i := 48) (n := 62) (by decide +kernel)
theorem wc_yX12_nextToken : Cond.code yX12_nextToken cX12_nextToken 2 none ∈ gtbl := tbp_mem (p := 6) (i := 104) (by decide +kernel) rfl
theorem wm_yX12_nextToken : Cond.instanceMethod yX12_nextToken ∈ gtbl := tbp_mem (p := 6) (i := 103) (by decide +kernel) rfl
theorem wv_yX12_nextToken : Cond.selects yX12_nextToken.cls yX12_nextToken yX12_nextToken ∈ gtbl := prv_mem (i := 49) (n := 62) (by decide +kernel)
theorem wc_yX12_signAt : Cond.code yX12_signAt cX12_signAt 2 (some .int) ∈ gtbl := tbp_mem (p := 6) (i := 108) (by decide +kernel) rfl
theorem wm_yX12_signAt : Cond.instanceMethod yX12_signAt ∈ gtbl := tbp_mem (p := 6) (i := 107) (by decide +kernel) rfl
theorem wv_yX12_signAt : Cond.selects yX12_signAt.cls yX12_signAt yX12_signAt ∈ gtbl := prv_mem (i := 50) (n := 62) (by decide +kernel)
theorem wc_yX12_isWord : Cond.code yX12_isWord cX12_isWord 3 (some .boolean) ∈ gtbl := tbp_mem (p := 6) (i := 115) (by decide +kernel) rfl
theorem wm_yX12_isWord : Cond.instanceMethod yX12_isWord ∈ gtbl := tbp_mem (p := 6) (i := 114) (by decide +kernel) rfl
theorem wv_yX12_isWord : Cond.selects yX12_isWord.cls yX12_isWord yX12_isWord ∈ gtbl := prv_mem (i := 51) (n := 62) (by decide +kernel)
theorem wc_yX12_readsPupil : Cond.code yX12_readsPupil cX12_readsPupil 2 (some .boolean) ∈ gtbl := tbp_mem (p := 6) (i := 119) (by decide +kernel) rfl
theorem wm_yX12_readsPupil : Cond.instanceMethod yX12_readsPupil ∈ gtbl := tbp_mem (p := 6) (i := 118) (by decide +kernel) rfl
theorem wv_yX12_readsPupil : Cond.selects yX12_readsPupil.cls yX12_readsPupil yX12_readsPupil ∈ gtbl := prv_mem (i := 52) (n := 62) (by decide +kernel)
theorem wc_yX12_fails : Cond.code yX12_fails cX12_fails 2 (some .boolean) ∈ gtbl := tbp_mem (p := 6) (i := 123) (by decide +kernel) rfl
theorem wm_yX12_fails : Cond.instanceMethod yX12_fails ∈ gtbl := tbp_mem (p := 6) (i := 122) (by decide +kernel) rfl
theorem wv_yX12_fails : Cond.selects yX12_fails.cls yX12_fails yX12_fails ∈ gtbl := prv_mem (i := 53) (n := 62) (by decide +kernel)
theorem wc_yX12_isKept : Cond.code yX12_isKept cX12_isKept 1 (some .boolean) ∈ gtbl := tbp_mem (p := 6) (i := 127) (by decide +kernel) rfl
theorem wm_yX12_isKept : Cond.instanceMethod yX12_isKept ∈ gtbl := tbp_mem (p := 6) (i := 126) (by decide +kernel) rfl
theorem wv_yX12_isKept : Cond.selects yX12_isKept.cls yX12_isKept yX12_isKept ∈ gtbl := prv_mem (i := 54) (n := 62) (by decide +kernel)
theorem wc_yX12_pupilNamed : Cond.code yX12_pupilNamed cX12_pupilNamed 2 (some .int) ∈ gtbl := tbp_mem (p := 6) (i := 147) (by decide +kernel) rfl
theorem wm_yX12_pupilNamed : Cond.instanceMethod yX12_pupilNamed ∈ gtbl := tbp_mem (p := 6) (i := 146) (by decide +kernel) rfl
theorem wv_yX12_pupilNamed : Cond.selects yX12_pupilNamed.cls yX12_pupilNamed yX12_pupilNamed ∈ gtbl := prv_mem (i := 55) (n := 62) (by decide +kernel)
theorem wc_yX12_kindAt : Cond.code yX12_kindAt cX12_kindAt 1 (some .int) ∈ gtbl := tbp_mem (p := 6) (i := 151) (by decide +kernel) rfl
theorem wm_yX12_kindAt : Cond.instanceMethod yX12_kindAt ∈ gtbl := tbp_mem (p := 6) (i := 150) (by decide +kernel) rfl
theorem wv_yX12_kindAt : Cond.selects yX12_kindAt.cls yX12_kindAt yX12_kindAt ∈ gtbl := prv_mem (i := 56) (n := 62) (by decide +kernel)
theorem wc_yX12_needsWord : Cond.code yX12_needsWord cX12_needsWord 3 (some .boolean) ∈ gtbl := tbp_mem (p := 6) (i := 155) (by decide +kernel) rfl
theorem wm_yX12_needsWord : Cond.instanceMethod yX12_needsWord ∈ gtbl := tbp_mem (p := 6) (i := 154) (by decide +kernel) rfl
theorem wv_yX12_needsWord : Cond.selects yX12_needsWord.cls yX12_needsWord yX12_needsWord ∈ gtbl := prv_mem (i := 57) (n := 62) (by decide +kernel)
theorem wc_yX12_needsNumber : Cond.code yX12_needsNumber cX12_needsNumber 3 (some .boolean) ∈ gtbl := tbp_mem (p := 6) (i := 159) (by decide +kernel) rfl
theorem wm_yX12_needsNumber : Cond.instanceMethod yX12_needsNumber ∈ gtbl := tbp_mem (p := 6) (i := 158) (by decide +kernel) rfl
theorem wv_yX12_needsNumber : Cond.selects yX12_needsNumber.cls yX12_needsNumber yX12_needsNumber ∈ gtbl := prv_mem (i := 58) (n := 62) (by decide +kernel)
theorem wc_yX12_within : Cond.code yX12_within cX12_within 3 (some .boolean) ∈ gtbl := tbp_mem (p := 6) (i := 162) (by decide +kernel) rfl
theorem wm_yX12_within : Cond.static yX12_within ∈ gtbl := tbp_mem (p := 6) (i := 161) (by decide +kernel) rfl
theorem wc_yX12_ends : Cond.code yX12_ends cX12_ends 1 (some .boolean) ∈ gtbl := tbp_mem (p := 6) (i := 166) (by decide +kernel) rfl
theorem wm_yX12_ends : Cond.instanceMethod yX12_ends ∈ gtbl := tbp_mem (p := 6) (i := 165) (by decide +kernel) rfl
theorem wv_yX12_ends : Cond.selects yX12_ends.cls yX12_ends yX12_ends ∈ gtbl := prv_mem (i := 59) (n := 62) (by decide +kernel)
theorem wc_yX12_isSign : Cond.code yX12_isSign cX12_isSign 2 (some .boolean) ∈ gtbl := tbp_mem (p := 6) (i := 170) (by decide +kernel) rfl
theorem wm_yX12_isSign : Cond.instanceMethod yX12_isSign ∈ gtbl := tbp_mem (p := 6) (i := 169) (by decide +kernel) rfl
theorem wv_yX12_isSign : Cond.selects yX12_isSign.cls yX12_isSign yX12_isSign ∈ gtbl := prv_mem (i := 60) (n := 62) (by decide +kernel)
theorem wc_yX12_readsBench : Cond.code yX12_readsBench cX12_readsBench 1 (some .boolean) ∈ gtbl := tbp_mem (p := 6) (i := 174) (by decide +kernel) rfl
theorem wm_yX12_readsBench : Cond.instanceMethod yX12_readsBench ∈ gtbl := tbp_mem (p := 6) (i := 173) (by decide +kernel) rfl
theorem wv_yX12_readsBench : Cond.selects yX12_readsBench.cls yX12_readsBench yX12_readsBench ∈ gtbl := prv_mem (i := 61) (n := 62) (by decide +kernel)
theorem wc_yX12_readsSay : Cond.code yX12_readsSay cX12_readsSay 2 (some .boolean) ∈ gtbl := tbp_mem (p := 6) (i := 178) (by decide +kernel) rfl
theorem wm_yX12_readsSay : Cond.instanceMethod yX12_readsSay ∈ gtbl := tbp_mem (p := 6) (i := 177) (by decide +kernel) rfl
theorem wv_yX12_readsSay : Cond.selects yX12_readsSay.cls yX12_readsSay yX12_readsSay ∈ gtbl := prv_mem (i := 62) (n := 62) (by decide +kernel)
theorem wc_yX12_needsTwo : Cond.code yX12_needsTwo cX12_needsTwo 1 (some .boolean) ∈ gtbl := tbp_mem (p := 6) (i := 182) (by decide +kernel) rfl
theorem wm_yX12_needsTwo : Cond.instanceMethod yX12_needsTwo ∈ gtbl := tbp_mem (p := 6) (i := 181) (by decide +kernel) rfl
theorem wv_yX12_needsTwo : Cond.selects yX12_needsTwo.cls yX12_needsTwo yX12_needsTwo ∈ gtbl := prv_mem (i := 63) (n := 62) (by decide +kernel)
theorem wc_yX12_readsLike : Cond.code yX12_readsLike cX12_readsLike 1 (some .boolean) ∈ gtbl := tbp_mem (p := 6) (i := 186) (by decide +kernel) rfl
theorem wm_yX12_readsLike : Cond.instanceMethod yX12_readsLike ∈ gtbl := tbp_mem (p := 6) (i := 185) (by decide +kernel) rfl
theorem wv_yX12_readsLike : Cond.selects yX12_readsLike.cls yX12_readsLike yX12_readsLike ∈ gtbl := prv_mem (i := 64) (n := 62) (by decide +kernel)
theorem wc_yX12_readsSlip : Cond.code yX12_readsSlip cX12_readsSlip 1 (some .boolean) ∈ gtbl := tbp_mem (p := 6) (i := 190) (by decide +kernel) rfl
theorem wm_yX12_readsSlip : Cond.instanceMethod yX12_readsSlip ∈ gtbl := tbp_mem (p := 6) (i := 189) (by decide +kernel) rfl
theorem wv_yX12_readsSlip : Cond.selects yX12_readsSlip.cls yX12_readsSlip yX12_readsSlip ∈ gtbl := prv_mem (i := 65) (n := 62) (by decide +kernel)
theorem wc_yX12_readsWish : Cond.code yX12_readsWish cX12_readsWish 1 (some .boolean) ∈ gtbl := tbp_mem (p := 6) (i := 194) (by decide +kernel) rfl
theorem wm_yX12_readsWish : Cond.instanceMethod yX12_readsWish ∈ gtbl := tbp_mem (p := 6) (i := 193) (by decide +kernel) rfl
theorem wv_yX12_readsWish : Cond.selects yX12_readsWish.cls yX12_readsWish yX12_readsWish ∈ gtbl := prv_mem (i := 66) (n := 62) (by decide +kernel)
theorem wc_yX12_reads : Cond.code yX12_reads cX12_reads 6 (some .boolean) ∈ gtbl := tbp_mem (p := 6) (i := 198) (by decide +kernel) rfl
theorem wm_yX12_reads : Cond.instanceMethod yX12_reads ∈ gtbl := tbp_mem (p := 6) (i := 197) (by decide +kernel) rfl
theorem wv_yX12_reads : Cond.selects yX12_reads.cls yX12_reads yX12_reads ∈ gtbl := prv_mem (i := 67) (n := 62) (by decide +kernel)
theorem wc_yX12_fact : Cond.code yX12_fact cX12_fact 1 (some .int) ∈ gtbl := tbp_mem (p := 6) (i := 202) (by decide +kernel) rfl
theorem wm_yX12_fact : Cond.instanceMethod yX12_fact ∈ gtbl := tbp_mem (p := 6) (i := 201) (by decide +kernel) rfl
theorem wv_yX12_fact : Cond.selects yX12_fact.cls yX12_fact yX12_fact ∈ gtbl := prv_mem (i := 68) (n := 62) (by decide +kernel)
theorem wc_yX12_puts : Cond.code yX12_puts cX12_puts 2 none ∈ gtbl := tbp_mem (p := 6) (i := 210) (by decide +kernel) rfl
theorem wm_yX12_puts : Cond.instanceMethod yX12_puts ∈ gtbl := tbp_mem (p := 6) (i := 209) (by decide +kernel) rfl
theorem wv_yX12_puts : Cond.selects yX12_puts.cls yX12_puts yX12_puts ∈ gtbl := prv_mem (i := 69) (n := 62) (by decide +kernel)
theorem wc_yX12_lays : Cond.code yX12_lays cX12_lays 3 none ∈ gtbl := tbp_mem (p := 6) (i := 214) (by decide +kernel) rfl
theorem wm_yX12_lays : Cond.instanceMethod yX12_lays ∈ gtbl := tbp_mem (p := 6) (i := 213) (by decide +kernel) rfl
theorem wv_yX12_lays : Cond.selects yX12_lays.cls yX12_lays yX12_lays ∈ gtbl := prv_mem (i := 70) (n := 62) (by decide +kernel)
theorem wc_yX12_moves : Cond.code yX12_moves cX12_moves 5 none ∈ gtbl := tbp_mem (p := 6) (i := 217) (by decide +kernel) rfl
theorem wm_yX12_moves : Cond.static yX12_moves ∈ gtbl := tbp_mem (p := 6) (i := 216) (by decide +kernel) rfl
theorem wc_yX12_copies : Cond.code yX12_copies cX12_copies 5 none ∈ gtbl := tbp_mem (p := 6) (i := 220) (by decide +kernel) rfl
theorem wm_yX12_copies : Cond.static yX12_copies ∈ gtbl := tbp_mem (p := 6) (i := 219) (by decide +kernel) rfl
theorem wc_yX12_pupil : Cond.code yX12_pupil cX12_pupil 3 (some .int) ∈ gtbl := tbp_mem (p := 6) (i := 224) (by decide +kernel) rfl
theorem wm_yX12_pupil : Cond.instanceMethod yX12_pupil ∈ gtbl := tbp_mem (p := 6) (i := 222) (by decide +kernel) rfl
theorem wv_yX12_pupil : Cond.selects yX12_pupil.cls yX12_pupil yX12_pupil ∈ gtbl := tbp_mem (p := 6) (i := 223) (by decide +kernel) rfl
theorem wc_yX12_isPupil : Cond.code yX12_isPupil cX12_isPupil 2 (some .boolean) ∈ gtbl := tbp_mem (p := 6) (i := 228) (by decide +kernel) rfl
theorem wm_yX12_isPupil : Cond.instanceMethod yX12_isPupil ∈ gtbl := tbp_mem (p := 6) (i := 227) (by decide +kernel) rfl
theorem wv_yX12_isPupil : Cond.selects yX12_isPupil.cls yX12_isPupil yX12_isPupil ∈ gtbl := prv_mem (i := 71) (n := 62) (by decide +kernel)
theorem wc_yX12_say : Cond.code yX12_say cX12_say 4 (some .int) ∈ gtbl := tbp_mem (p := 6) (i := 232) (by decide +kernel) rfl
theorem wm_yX12_say : Cond.instanceMethod yX12_say ∈ gtbl := tbp_mem (p := 6) (i := 230) (by decide +kernel) rfl
theorem wv_yX12_say : Cond.selects yX12_say.cls yX12_say yX12_say ∈ gtbl := tbp_mem (p := 6) (i := 231) (by decide +kernel) rfl
theorem wc_yX12_areTwo : Cond.code yX12_areTwo cX12_areTwo 3 (some .boolean) ∈ gtbl := tbp_mem (p := 6) (i := 236) (by decide +kernel) rfl
theorem wm_yX12_areTwo : Cond.instanceMethod yX12_areTwo ∈ gtbl := tbp_mem (p := 6) (i := 235) (by decide +kernel) rfl
theorem wv_yX12_areTwo : Cond.selects yX12_areTwo.cls yX12_areTwo yX12_areTwo ∈ gtbl := prv_mem (i := 72) (n := 62) (by decide +kernel)
theorem wc_yX12_unsay : Cond.code yX12_unsay cX12_unsay 1 (some .boolean) ∈ gtbl := tbp_mem (p := 7) (i := 0) (by decide +kernel) rfl
theorem wm_yX12_unsay : Cond.instanceMethod yX12_unsay ∈ gtbl := tbp_mem (p := 6) (i := 238) (by decide +kernel) rfl
theorem wv_yX12_unsay : Cond.selects yX12_unsay.cls yX12_unsay yX12_unsay ∈ gtbl := tbp_mem (p := 6) (i := 239) (by decide +kernel) rfl
theorem wc_yX12_saying : Cond.code yX12_saying cX12_saying 3 (some .int) ∈ gtbl := tbp_mem (p := 7) (i := 4) (by decide +kernel) rfl
theorem wm_yX12_saying : Cond.instanceMethod yX12_saying ∈ gtbl := tbp_mem (p := 7) (i := 2) (by decide +kernel) rfl
theorem wv_yX12_saying : Cond.selects yX12_saying.cls yX12_saying yX12_saying ∈ gtbl := tbp_mem (p := 7) (i := 3) (by decide +kernel) rfl
theorem wc_yX12_orders : Cond.code yX12_orders cX12_orders 1 (some .int) ∈ gtbl := tbp_mem (p := 7) (i := 8) (by decide +kernel) rfl
theorem wm_yX12_orders : Cond.instanceMethod yX12_orders ∈ gtbl := tbp_mem (p := 7) (i := 6) (by decide +kernel) rfl
theorem wv_yX12_orders : Cond.selects yX12_orders.cls yX12_orders yX12_orders ∈ gtbl := tbp_mem (p := 7) (i := 7) (by decide +kernel) rfl
theorem wc_yX12_fittingAll : Cond.code yX12_fittingAll cX12_fittingAll 1 (some .int) ∈ gtbl := tbp_mem (p := 7) (i := 12) (by decide +kernel) rfl
theorem wm_yX12_fittingAll : Cond.instanceMethod yX12_fittingAll ∈ gtbl := tbp_mem (p := 7) (i := 11) (by decide +kernel) rfl
theorem wv_yX12_fittingAll : Cond.selects yX12_fittingAll.cls yX12_fittingAll yX12_fittingAll ∈ gtbl := prv_mem (i := 73) (n := 62) (by decide +kernel)
theorem wc_yX12_asks : Cond.code yX12_asks cX12_asks 3 none ∈ gtbl := tbp_mem (p := 7) (i := 16) (by decide +kernel) rfl
theorem wm_yX12_asks : Cond.instanceMethod yX12_asks ∈ gtbl := tbp_mem (p := 7) (i := 15) (by decide +kernel) rfl
theorem wv_yX12_asks : Cond.selects yX12_asks.cls yX12_asks yX12_asks ∈ gtbl := prv_mem (i := 74) (n := 62) (by decide +kernel)
theorem wc_yX12_everybody : Cond.code yX12_everybody cX12_everybody 1 (some .int) ∈ gtbl := tbp_mem (p := 7) (i := 20) (by decide +kernel) rfl
theorem wm_yX12_everybody : Cond.instanceMethod yX12_everybody ∈ gtbl := tbp_mem (p := 7) (i := 19) (by decide +kernel) rfl
theorem wv_yX12_everybody : Cond.selects yX12_everybody.cls yX12_everybody yX12_everybody ∈ gtbl := prv_mem (i := 75) (n := 62) (by decide +kernel)
theorem wc_yX12_fitting : Cond.code yX12_fitting cX12_fitting 5 (some .int) ∈ gtbl := tbp_mem (p := 7) (i := 24) (by decide +kernel) rfl
theorem wm_yX12_fitting : Cond.instanceMethod yX12_fitting ∈ gtbl := tbp_mem (p := 7) (i := 23) (by decide +kernel) rfl
theorem wv_yX12_fitting : Cond.selects yX12_fitting.cls yX12_fitting yX12_fitting ∈ gtbl := prv_mem (i := 76) (n := 62) (by decide +kernel)
theorem wc_yX12_sure : Cond.code yX12_sure cX12_sure 3 (some .int) ∈ gtbl := tbp_mem (p := 7) (i := 28) (by decide +kernel) rfl
theorem wm_yX12_sure : Cond.instanceMethod yX12_sure ∈ gtbl := tbp_mem (p := 7) (i := 26) (by decide +kernel) rfl
theorem wv_yX12_sure : Cond.selects yX12_sure.cls yX12_sure yX12_sure ∈ gtbl := tbp_mem (p := 7) (i := 27) (by decide +kernel) rfl
theorem wc_yX12_isSure : Cond.code yX12_isSure cX12_isSure 5 (some .boolean) ∈ gtbl := tbp_mem (p := 7) (i := 32) (by decide +kernel) rfl
theorem wm_yX12_isSure : Cond.instanceMethod yX12_isSure ∈ gtbl := tbp_mem (p := 7) (i := 31) (by decide +kernel) rfl
theorem wv_yX12_isSure : Cond.selects yX12_isSure.cls yX12_isSure yX12_isSure ∈ gtbl := prv_mem (i := 77) (n := 62) (by decide +kernel)
theorem wc_yX12_span : Cond.code yX12_span cX12_span 5 (some .int) ∈ gtbl := tbp_mem (p := 7) (i := 36) (by decide +kernel) rfl
theorem wm_yX12_span : Cond.instanceMethod yX12_span ∈ gtbl := tbp_mem (p := 7) (i := 34) (by decide +kernel) rfl
theorem wv_yX12_span : Cond.selects yX12_span.cls yX12_span yX12_span ∈ gtbl := tbp_mem (p := 7) (i := 35) (by decide +kernel) rfl
theorem wc_yX12_bits : Cond.code yX12_bits cX12_bits 3 (some .int) ∈ gtbl := tbp_mem (p := 7) (i := 39) (by decide +kernel) rfl
theorem wm_yX12_bits : Cond.static yX12_bits ∈ gtbl := tbp_mem (p := 7) (i := 38) (by decide +kernel) rfl
theorem wc_yX12_dropped : Cond.code yX12_dropped cX12_dropped 2 (some .int) ∈ gtbl := tbp_mem (p := 7) (i := 43) (by decide +kernel) rfl
theorem wm_yX12_dropped : Cond.instanceMethod yX12_dropped ∈ gtbl := tbp_mem (p := 7) (i := 41) (by decide +kernel) rfl
theorem wv_yX12_dropped : Cond.selects yX12_dropped.cls yX12_dropped yX12_dropped ∈ gtbl := tbp_mem (p := 7) (i := 42) (by decide +kernel) rfl
theorem wc_yX12_fewest : Cond.code yX12_fewest cX12_fewest 5 (some .int) ∈ gtbl := tbp_mem (p := 7) (i := 47) (by decide +kernel) rfl
theorem wm_yX12_fewest : Cond.instanceMethod yX12_fewest ∈ gtbl := tbp_mem (p := 7) (i := 46) (by decide +kernel) rfl
theorem wv_yX12_fewest : Cond.selects yX12_fewest.cls yX12_fewest yX12_fewest ∈ gtbl := prv_mem (i := 78) (n := 62) (by decide +kernel)
theorem wc_yX12_broken : Cond.code yX12_broken cX12_broken 6 (some .int) ∈ gtbl := tbp_mem (p := 7) (i := 51) (by decide +kernel) rfl
theorem wm_yX12_broken : Cond.instanceMethod yX12_broken ∈ gtbl := tbp_mem (p := 7) (i := 50) (by decide +kernel) rfl
theorem wv_yX12_broken : Cond.selects yX12_broken.cls yX12_broken yX12_broken ∈ gtbl := prv_mem (i := 79) (n := 62) (by decide +kernel)
theorem wc_yX12_row : Cond.code yX12_row cX12_row 2 (some .int) ∈ gtbl := tbp_mem (p := 7) (i := 56) (by decide +kernel) rfl
theorem wm_yX12_row : Cond.instanceMethod yX12_row ∈ gtbl := tbp_mem (p := 7) (i := 54) (by decide +kernel) rfl
theorem wv_yX12_row : Cond.selects yX12_row.cls yX12_row yX12_row ∈ gtbl := tbp_mem (p := 7) (i := 55) (by decide +kernel) rfl
theorem wc_yX12_lines : Cond.code yX12_lines cX12_lines 4 none ∈ gtbl := tbp_mem (p := 7) (i := 60) (by decide +kernel) rfl
theorem wm_yX12_lines : Cond.instanceMethod yX12_lines ∈ gtbl := tbp_mem (p := 7) (i := 59) (by decide +kernel) rfl
theorem wv_yX12_lines : Cond.selects yX12_lines.cls yX12_lines yX12_lines ∈ gtbl := prv_mem (i := 80) (n := 62) (by decide +kernel)
theorem wc_yX12_helped : Cond.code yX12_helped cX12_helped 3 (some .int) ∈ gtbl := tbp_mem (p := 7) (i := 64) (by decide +kernel) rfl
theorem wm_yX12_helped : Cond.instanceMethod yX12_helped ∈ gtbl := tbp_mem (p := 7) (i := 62) (by decide +kernel) rfl
theorem wv_yX12_helped : Cond.selects yX12_helped.cls yX12_helped yX12_helped ∈ gtbl := tbp_mem (p := 7) (i := 63) (by decide +kernel) rfl
theorem wc_yX12_unlike : Cond.code yX12_unlike cX12_unlike 4 (some .int) ∈ gtbl := tbp_mem (p := 7) (i := 68) (by decide +kernel) rfl
theorem wm_yX12_unlike : Cond.instanceMethod yX12_unlike ∈ gtbl := tbp_mem (p := 7) (i := 66) (by decide +kernel) rfl
theorem wv_yX12_unlike : Cond.selects yX12_unlike.cls yX12_unlike yX12_unlike ∈ gtbl := tbp_mem (p := 7) (i := 67) (by decide +kernel) rfl
theorem wc_yX12_says : Cond.code yX12_says cX12_says 5 (some .boolean) ∈ gtbl := tbp_mem (p := 7) (i := 72) (by decide +kernel) rfl
theorem wm_yX12_says : Cond.instanceMethod yX12_says ∈ gtbl := tbp_mem (p := 7) (i := 71) (by decide +kernel) rfl
theorem wv_yX12_says : Cond.selects yX12_says.cls yX12_says yX12_says ∈ gtbl := prv_mem (i := 81) (n := 62) (by decide +kernel)
theorem wc_yX12_chance : Cond.code yX12_chance cX12_chance 8 (some .long) ∈ gtbl := tbp_mem (p := 7) (i := 76) (by decide +kernel) rfl
theorem wm_yX12_chance : Cond.instanceMethod yX12_chance ∈ gtbl := tbp_mem (p := 7) (i := 74) (by decide +kernel) rfl
theorem wv_yX12_chance : Cond.selects yX12_chance.cls yX12_chance yX12_chance ∈ gtbl := tbp_mem (p := 7) (i := 75) (by decide +kernel) rfl
theorem wc_yX12_weighing : Cond.code yX12_weighing cX12_weighing 6 (some .long) ∈ gtbl := tbp_mem (p := 7) (i := 81) (by decide +kernel) rfl
theorem wm_yX12_weighing : Cond.instanceMethod yX12_weighing ∈ gtbl := tbp_mem (p := 7) (i := 80) (by decide +kernel) rfl
theorem wv_yX12_weighing : Cond.selects yX12_weighing.cls yX12_weighing yX12_weighing ∈ gtbl := prv_mem (i := 82) (n := 62) (by decide +kernel)
theorem wc_yX12_partOf : Cond.code yX12_partOf cX12_partOf 7 (some .long) ∈ gtbl := tbp_mem (p := 7) (i := 85) (by decide +kernel) rfl
theorem wm_yX12_partOf : Cond.instanceMethod yX12_partOf ∈ gtbl := tbp_mem (p := 7) (i := 84) (by decide +kernel) rfl
theorem wv_yX12_partOf : Cond.selects yX12_partOf.cls yX12_partOf yX12_partOf ∈ gtbl := prv_mem (i := 83) (n := 62) (by decide +kernel)
theorem wc_yX12_gcd : Cond.code yX12_gcd cX12_gcd 10 (some .long) ∈ gtbl := tbp_mem (p := 7) (i := 88) (by decide +kernel) rfl
theorem wm_yX12_gcd : Cond.static yX12_gcd ∈ gtbl := tbp_mem (p := 7) (i := 87) (by decide +kernel) rfl
theorem wc_yX12_next : Cond.code yX12_next cX12_next 2 (some .int) ∈ gtbl := tbp_mem (p := 7) (i := 92) (by decide +kernel) rfl
theorem wm_yX12_next : Cond.instanceMethod yX12_next ∈ gtbl := tbp_mem (p := 7) (i := 90) (by decide +kernel) rfl
theorem wv_yX12_next : Cond.selects yX12_next.cls yX12_next yX12_next ∈ gtbl := tbp_mem (p := 7) (i := 91) (by decide +kernel) rfl
theorem wc_yX12_looks : Cond.code yX12_looks cX12_looks 6 (some .boolean) ∈ gtbl := tbp_mem (p := 7) (i := 96) (by decide +kernel) rfl
theorem wm_yX12_looks : Cond.instanceMethod yX12_looks ∈ gtbl := tbp_mem (p := 7) (i := 95) (by decide +kernel) rfl
theorem wv_yX12_looks : Cond.selects yX12_looks.cls yX12_looks yX12_looks ∈ gtbl := prv_mem (i := 84) (n := 62) (by decide +kernel)
theorem wc_yX12_needed : Cond.code yX12_needed cX12_needed 4 (some .int) ∈ gtbl := tbp_mem (p := 7) (i := 101) (by decide +kernel) rfl
theorem wm_yX12_needed : Cond.instanceMethod yX12_needed ∈ gtbl := tbp_mem (p := 7) (i := 99) (by decide +kernel) rfl
theorem wv_yX12_needed : Cond.selects yX12_needed.cls yX12_needed yX12_needed ∈ gtbl := tbp_mem (p := 7) (i := 100) (by decide +kernel) rfl
theorem wc_yX12_needs : Cond.code yX12_needs cX12_needs 9 (some .int) ∈ gtbl := tbp_mem (p := 7) (i := 105) (by decide +kernel) rfl
theorem wm_yX12_needs : Cond.instanceMethod yX12_needs ∈ gtbl := tbp_mem (p := 7) (i := 104) (by decide +kernel) rfl
theorem wv_yX12_needs : Cond.selects yX12_needs.cls yX12_needs yX12_needs ∈ gtbl := prv_mem (i := 85) (n := 62) (by decide +kernel)
theorem wc_yX12_bit : Cond.code yX12_bit cX12_bit 3 (some .int) ∈ gtbl := tbp_mem (p := 7) (i := 109) (by decide +kernel) rfl
theorem wm_yX12_bit : Cond.static yX12_bit ∈ gtbl := tbp_mem (p := 7) (i := 108) (by decide +kernel) rfl
theorem wc_yX12_closes : Cond.code yX12_closes cX12_closes 9 (some .int) ∈ gtbl := tbp_mem (p := 7) (i := 113) (by decide +kernel) rfl
theorem wm_yX12_closes : Cond.instanceMethod yX12_closes ∈ gtbl := tbp_mem (p := 7) (i := 112) (by decide +kernel) rfl
theorem wv_yX12_closes : Cond.selects yX12_closes.cls yX12_closes yX12_closes ∈ gtbl := prv_mem (i := 86) (n := 62) (by decide +kernel)
theorem wc_yX12_newOne : Cond.code yX12_newOne cX12_newOne 7 (some .int) ∈ gtbl := tbp_mem (p := 7) (i := 117) (by decide +kernel) rfl
theorem wm_yX12_newOne : Cond.instanceMethod yX12_newOne ∈ gtbl := tbp_mem (p := 7) (i := 115) (by decide +kernel) rfl
theorem wv_yX12_newOne : Cond.selects yX12_newOne.cls yX12_newOne yX12_newOne ∈ gtbl := tbp_mem (p := 7) (i := 116) (by decide +kernel) rfl
theorem wc_yX12_isLast : Cond.code yX12_isLast cX12_isLast 4 (some .boolean) ∈ gtbl := tbp_mem (p := 7) (i := 121) (by decide +kernel) rfl
theorem wm_yX12_isLast : Cond.instanceMethod yX12_isLast ∈ gtbl := tbp_mem (p := 7) (i := 120) (by decide +kernel) rfl
theorem wv_yX12_isLast : Cond.selects yX12_isLast.cls yX12_isLast yX12_isLast ∈ gtbl := prv_mem (i := 87) (n := 62) (by decide +kernel)
theorem wc_yX12_sit : Cond.code yX12_sit cX12_sit 4 (some .boolean) ∈ gtbl := tbp_mem (p := 7) (i := 125) (by decide +kernel) rfl
theorem wm_yX12_sit : Cond.instanceMethod yX12_sit ∈ gtbl := tbp_mem (p := 7) (i := 123) (by decide +kernel) rfl
theorem wv_yX12_sit : Cond.selects yX12_sit.cls yX12_sit yX12_sit ∈ gtbl := tbp_mem (p := 7) (i := 124) (by decide +kernel) rfl
theorem wc_yX12_isSeat : Cond.code yX12_isSeat cX12_isSeat 2 (some .boolean) ∈ gtbl := tbp_mem (p := 7) (i := 129) (by decide +kernel) rfl
theorem wm_yX12_isSeat : Cond.instanceMethod yX12_isSeat ∈ gtbl := tbp_mem (p := 7) (i := 128) (by decide +kernel) rfl
theorem wv_yX12_isSeat : Cond.selects yX12_isSeat.cls yX12_isSeat yX12_isSeat ∈ gtbl := prv_mem (i := 88) (n := 62) (by decide +kernel)
theorem wc_yX12_plan : Cond.code yX12_plan cX12_plan 4 (some .boolean) ∈ gtbl := tbp_mem (p := 7) (i := 133) (by decide +kernel) rfl
theorem wm_yX12_plan : Cond.instanceMethod yX12_plan ∈ gtbl := tbp_mem (p := 7) (i := 131) (by decide +kernel) rfl
theorem wv_yX12_plan : Cond.selects yX12_plan.cls yX12_plan yX12_plan ∈ gtbl := tbp_mem (p := 7) (i := 132) (by decide +kernel) rfl
theorem wc_yX12_changes : Cond.code yX12_changes cX12_changes 7 (some .int) ∈ gtbl := tbp_mem (p := 7) (i := 137) (by decide +kernel) rfl
theorem wm_yX12_changes : Cond.instanceMethod yX12_changes ∈ gtbl := tbp_mem (p := 7) (i := 135) (by decide +kernel) rfl
theorem wv_yX12_changes : Cond.selects yX12_changes.cls yX12_changes yX12_changes ∈ gtbl := tbp_mem (p := 7) (i := 136) (by decide +kernel) rfl
theorem wc_yX12_sitter : Cond.code yX12_sitter cX12_sitter 3 (some .int) ∈ gtbl := tbp_mem (p := 7) (i := 141) (by decide +kernel) rfl
theorem wm_yX12_sitter : Cond.instanceMethod yX12_sitter ∈ gtbl := tbp_mem (p := 7) (i := 140) (by decide +kernel) rfl
theorem wv_yX12_sitter : Cond.selects yX12_sitter.cls yX12_sitter yX12_sitter ∈ gtbl := prv_mem (i := 89) (n := 62) (by decide +kernel)
theorem wc_yX12_hidden : Cond.code yX12_hidden cX12_hidden 6 (some .int) ∈ gtbl := tbp_mem (p := 7) (i := 145) (by decide +kernel) rfl
theorem wm_yX12_hidden : Cond.instanceMethod yX12_hidden ∈ gtbl := tbp_mem (p := 7) (i := 143) (by decide +kernel) rfl
theorem wv_yX12_hidden : Cond.selects yX12_hidden.cls yX12_hidden yX12_hidden ∈ gtbl := tbp_mem (p := 7) (i := 144) (by decide +kernel) rfl
theorem wc_yX12_wishes : Cond.code yX12_wishes cX12_wishes 3 (some .int) ∈ gtbl := tbp_mem (p := 7) (i := 149) (by decide +kernel) rfl
theorem wm_yX12_wishes : Cond.instanceMethod yX12_wishes ∈ gtbl := tbp_mem (p := 7) (i := 147) (by decide +kernel) rfl
theorem wv_yX12_wishes : Cond.selects yX12_wishes.cls yX12_wishes yX12_wishes ∈ gtbl := tbp_mem (p := 7) (i := 148) (by decide +kernel) rfl
theorem wc_yX12_wishing : Cond.code yX12_wishing cX12_wishing 6 (some .int) ∈ gtbl := tbp_mem (p := 7) (i := 153) (by decide +kernel) rfl
theorem wm_yX12_wishing : Cond.instanceMethod yX12_wishing ∈ gtbl := tbp_mem (p := 7) (i := 152) (by decide +kernel) rfl
theorem wv_yX12_wishing : Cond.selects yX12_wishing.cls yX12_wishing yX12_wishing ∈ gtbl := prv_mem (i := 90) (n := 62) (by decide +kernel)
theorem wc_yX12_worked : Cond.code yX12_worked cX12_worked 6 (some .int) ∈ gtbl := tbp_mem (p := 7) (i := 157) (by decide +kernel) rfl
theorem wm_yX12_worked : Cond.instanceMethod yX12_worked ∈ gtbl := tbp_mem (p := 7) (i := 156) (by decide +kernel) rfl
theorem wv_yX12_worked : Cond.selects yX12_worked.cls yX12_worked yX12_worked ∈ gtbl := prv_mem (i := 91) (n := 62) (by decide +kernel)
theorem wc_yX12_opens : Cond.code yX12_opens cX12_opens 2 none ∈ gtbl := tbp_mem (p := 7) (i := 161) (by decide +kernel) rfl
theorem wm_yX12_opens : Cond.instanceMethod yX12_opens ∈ gtbl := tbp_mem (p := 7) (i := 160) (by decide +kernel) rfl
theorem wv_yX12_opens : Cond.selects yX12_opens.cls yX12_opens yX12_opens ∈ gtbl := prv_mem (i := 92) (n := 62) (by decide +kernel)
theorem wc_yX12_sums : Cond.code yX12_sums cX12_sums 2 none ∈ gtbl := tbp_mem (p := 7) (i := 165) (by decide +kernel) rfl
theorem wm_yX12_sums : Cond.instanceMethod yX12_sums ∈ gtbl := tbp_mem (p := 7) (i := 164) (by decide +kernel) rfl
theorem wv_yX12_sums : Cond.selects yX12_sums.cls yX12_sums yX12_sums ∈ gtbl := prv_mem (i := 93) (n := 62) (by decide +kernel)
theorem wc_yX12_tests : Cond.code yX12_tests cX12_tests 3 none ∈ gtbl := tbp_mem (p := 7) (i := 169) (by decide +kernel) rfl
theorem wm_yX12_tests : Cond.instanceMethod yX12_tests ∈ gtbl := tbp_mem (p := 7) (i := 168) (by decide +kernel) rfl
theorem wv_yX12_tests : Cond.selects yX12_tests.cls yX12_tests yX12_tests ∈ gtbl := prv_mem (i := 94) (n := 62) (by decide +kernel)
theorem wc_yX12_rests : Cond.code yX12_rests cX12_rests 1 (some .int) ∈ gtbl := tbp_mem (p := 7) (i := 173) (by decide +kernel) rfl
theorem wm_yX12_rests : Cond.instanceMethod yX12_rests ∈ gtbl := tbp_mem (p := 7) (i := 171) (by decide +kernel) rfl
theorem wv_yX12_rests : Cond.selects yX12_rests.cls yX12_rests yX12_rests ∈ gtbl := tbp_mem (p := 7) (i := 172) (by decide +kernel) rfl
theorem wc_yX12_resting : Cond.code yX12_resting cX12_resting 4 (some .boolean) ∈ gtbl := tbp_mem (p := 7) (i := 177) (by decide +kernel) rfl
theorem wm_yX12_resting : Cond.instanceMethod yX12_resting ∈ gtbl := tbp_mem (p := 7) (i := 176) (by decide +kernel) rfl
theorem wv_yX12_resting : Cond.selects yX12_resting.cls yX12_resting yX12_resting ∈ gtbl := prv_mem (i := 95) (n := 62) (by decide +kernel)
theorem wc_yX12_pairs : Cond.code yX12_pairs cX12_pairs 4 none ∈ gtbl := tbp_mem (p := 7) (i := 181) (by decide +kernel) rfl
theorem wm_yX12_pairs : Cond.instanceMethod yX12_pairs ∈ gtbl := tbp_mem (p := 7) (i := 180) (by decide +kernel) rfl
theorem wv_yX12_pairs : Cond.selects yX12_pairs.cls yX12_pairs yX12_pairs ∈ gtbl := prv_mem (i := 96) (n := 62) (by decide +kernel)
theorem wc_yX12_areAtRest : Cond.code yX12_areAtRest cX12_areAtRest 3 (some .boolean) ∈ gtbl := tbp_mem (p := 7) (i := 185) (by decide +kernel) rfl
theorem wm_yX12_areAtRest : Cond.instanceMethod yX12_areAtRest ∈ gtbl := tbp_mem (p := 7) (i := 184) (by decide +kernel) rfl
theorem wv_yX12_areAtRest : Cond.selects yX12_areAtRest.cls yX12_areAtRest yX12_areAtRest ∈ gtbl := prv_mem (i := 97) (n := 62) (by decide +kernel)
theorem wc_yX12_rest : Cond.code yX12_rest cX12_rest 3 (some .int) ∈ gtbl := tbp_mem (p := 7) (i := 189) (by decide +kernel) rfl
theorem wm_yX12_rest : Cond.instanceMethod yX12_rest ∈ gtbl := tbp_mem (p := 7) (i := 187) (by decide +kernel) rfl
theorem wv_yX12_rest : Cond.selects yX12_rest.cls yX12_rest yX12_rest ∈ gtbl := tbp_mem (p := 7) (i := 188) (by decide +kernel) rfl
theorem wc_yX12_season : Cond.code yX12_season cX12_season 10 (some .int) ∈ gtbl := tbp_mem (p := 7) (i := 193) (by decide +kernel) rfl
theorem wm_yX12_season : Cond.instanceMethod yX12_season ∈ gtbl := tbp_mem (p := 7) (i := 191) (by decide +kernel) rfl
theorem wv_yX12_season : Cond.selects yX12_season.cls yX12_season yX12_season ∈ gtbl := tbp_mem (p := 7) (i := 192) (by decide +kernel) rfl
theorem wc_yX12_draws : Cond.code yX12_draws cX12_draws 2 (some .int) ∈ gtbl := tbp_mem (p := 7) (i := 197) (by decide +kernel) rfl
theorem wm_yX12_draws : Cond.instanceMethod yX12_draws ∈ gtbl := tbp_mem (p := 7) (i := 196) (by decide +kernel) rfl
theorem wv_yX12_draws : Cond.selects yX12_draws.cls yX12_draws yX12_draws ∈ gtbl := prv_mem (i := 98) (n := 62) (by decide +kernel)
theorem wc_yX12_placeOf : Cond.code yX12_placeOf cX12_placeOf 3 (some .int) ∈ gtbl := tbp_mem (p := 7) (i := 205) (by decide +kernel) rfl
theorem wm_yX12_placeOf : Cond.instanceMethod yX12_placeOf ∈ gtbl := tbp_mem (p := 7) (i := 204) (by decide +kernel) rfl
theorem wv_yX12_placeOf : Cond.selects yX12_placeOf.cls yX12_placeOf yX12_placeOf ∈ gtbl := prv_mem (i := 99) (n := 62) (by decide +kernel)
theorem wc_yX12_hears : Cond.code yX12_hears cX12_hears 4 none ∈ gtbl := tbp_mem (p := 7) (i := 209) (by decide +kernel) rfl
theorem wm_yX12_hears : Cond.instanceMethod yX12_hears ∈ gtbl := tbp_mem (p := 7) (i := 208) (by decide +kernel) rfl
theorem wv_yX12_hears : Cond.selects yX12_hears.cls yX12_hears yX12_hears ∈ gtbl := prv_mem (i := 100) (n := 62) (by decide +kernel)
theorem wc_yX12_mark : Cond.code yX12_mark cX12_mark 3 (some .boolean) ∈ gtbl := tbp_mem (p := 7) (i := 213) (by decide +kernel) rfl
theorem wm_yX12_mark : Cond.instanceMethod yX12_mark ∈ gtbl := tbp_mem (p := 7) (i := 211) (by decide +kernel) rfl
theorem wv_yX12_mark : Cond.selects yX12_mark.cls yX12_mark yX12_mark ∈ gtbl := tbp_mem (p := 7) (i := 212) (by decide +kernel) rfl
theorem wc_yX12_count : Cond.code yX12_count cX12_count 4 (some .int) ∈ gtbl := tbp_mem (p := 7) (i := 217) (by decide +kernel) rfl
theorem wm_yX12_count : Cond.instanceMethod yX12_count ∈ gtbl := tbp_mem (p := 7) (i := 215) (by decide +kernel) rfl
theorem wv_yX12_count : Cond.selects yX12_count.cls yX12_count yX12_count ∈ gtbl := tbp_mem (p := 7) (i := 216) (by decide +kernel) rfl
theorem mi_13_15 : MI 13 15 yX11_init cX11_init 2 0 := MI.mk (Or.inl (tbp_mem (p := 1) (i := 26) (by decide +kernel) rfl)) wm_yX11_init wi_11 wc_yX11_init (by decide +kernel)
theorem mi_3_11 : MI 3 11 yX6_init cX6_init 1 0 := MI.mk (Or.inl (tbp_mem (p := 1) (i := 40) (by decide +kernel) rfl)) wm_yX6_init wi_6 wc_yX6_init (by decide +kernel)
theorem ms_6_34 : MS 6 34 yJ7_fill_53178 cJ7_fill_53178 4 none 2 := MS.mk (tbp_mem (p := 1) (i := 102) (by decide +kernel) rfl) wm_yJ7_fill_53178 wi_18 wc_yJ7_fill_53178 (by decide +kernel)
theorem mi_11_22 : MI 11 22 yX6_init cX6_init 1 0 := MI.mk (Or.inl (tbp_mem (p := 1) (i := 230) (by decide +kernel) rfl)) wm_yX6_init wi_6 wc_yX6_init (by decide +kernel)
theorem mi_11_40 : MI 11 40 yX7_init cX7_init 2 1 := MI.mk (Or.inl (tbp_mem (p := 2) (i := 23) (by decide +kernel) rfl)) wm_yX7_init wi_7 wc_yX7_init (by decide +kernel)
theorem mi_5_11 : MI 5 11 yX6_init cX6_init 1 0 := MI.mk (Or.inl (tbp_mem (p := 2) (i := 145) (by decide +kernel) rfl)) wm_yX6_init wi_6 wc_yX6_init (by decide +kernel)
theorem mv_13_21 : MV 13 21 11 yX11_feed cX11_feed 7 (some .int) 3 := MV.mk (tbp_mem (p := 2) (i := 199) (by decide +kernel) rfl) wm_yX11_feed wv_yX11_feed wi_11 wc_yX11_feed (by decide +kernel)
theorem mv_11_78 : MV 11 78 11 yX11_putBytes cX11_putBytes 5 none 1 := MV.mk (tbp_mem (p := 2) (i := 203) (by decide +kernel) rfl) wm_yX11_putBytes wv_yX11_putBytes wi_11 wc_yX11_putBytes (by decide +kernel)
theorem mv_13_26 : MV 13 26 11 yX11_school cX11_school 2 (some .int) 0 := MV.mk (tbp_mem (p := 2) (i := 208) (by decide +kernel) rfl) wm_yX11_school wv_yX11_school wi_11 wc_yX11_school (by decide +kernel)
theorem mv_11_86 : MV 11 86 3 yX3_read cX3_read 5 (some .int) 2 := MV.mk (tbp_mem (p := 2) (i := 212) (by decide +kernel) rfl) wm_yX3_read wv_yX3_read wi_3 wc_yX3_read (by decide +kernel)
theorem ms_3_47 : MS 3 47 yJ7_fill_53178 cJ7_fill_53178 4 none 2 := MS.mk (tbp_mem (p := 2) (i := 218) (by decide +kernel) rfl) wm_yJ7_fill_53178 wi_18 wc_yJ7_fill_53178 (by decide +kernel)
theorem mv_3_63 : MV 3 63 8 yX8_open cX8_open 3 none 2 := MV.mk (tbp_mem (p := 2) (i := 219) (by decide +kernel) rfl) wm_yX8_open wv_yX8_open wi_8 wc_yX8_open (by decide +kernel)
theorem ms_8_15 : MS 8 15 yJ9_min_7cf53 cJ9_min_7cf53 2 (some .int) 2 := MS.mk (tbp_mem (p := 2) (i := 223) (by decide +kernel) rfl) wm_yJ9_min_7cf53 wi_16 wc_yJ9_min_7cf53 (by decide +kernel)
theorem mv_8_28 : MV 8 28 8 yX8_step cX8_step 1 none 0 := MV.mk (tbp_mem (p := 2) (i := 226) (by decide +kernel) rfl) wm_yX8_step wv_yX8_step wi_8 wc_yX8_step (by decide +kernel)
theorem ms_8_41 : MS 8 41 yX8_isLetter cX8_isLetter 1 (some .boolean) 1 := MS.mk (tbp_mem (p := 2) (i := 230) (by decide +kernel) rfl) wm_yX8_isLetter wi_8 wc_yX8_isLetter (by decide +kernel)
theorem mv_8_45 : MV 8 45 8 yX8_takeWord cX8_takeWord 2 none 0 := MV.mk (tbp_mem (p := 2) (i := 233) (by decide +kernel) rfl) wm_yX8_takeWord wv_yX8_takeWord wi_8 wc_yX8_takeWord (by decide +kernel)
theorem ms_8_48 : MS 8 48 yX8_isDigit cX8_isDigit 1 (some .boolean) 1 := MS.mk (tbp_mem (p := 3) (i := 0) (by decide +kernel) rfl) wm_yX8_isDigit wi_8 wc_yX8_isDigit (by decide +kernel)
theorem mv_8_51 : MV 8 51 8 yX8_takeNumber cX8_takeNumber 1 none 0 := MV.mk (tbp_mem (p := 3) (i := 3) (by decide +kernel) rfl) wm_yX8_takeNumber wv_yX8_takeNumber wi_8 wc_yX8_takeNumber (by decide +kernel)
theorem ms_8_54 : MS 8 54 yX8_isSign cX8_isSign 1 (some .boolean) 1 := MS.mk (tbp_mem (p := 3) (i := 7) (by decide +kernel) rfl) wm_yX8_isSign wi_8 wc_yX8_isSign (by decide +kernel)
theorem mv_3_70 : MV 3 70 3 yX3_readLine cX3_readLine 2 (some .boolean) 0 := MV.mk (tbp_mem (p := 3) (i := 10) (by decide +kernel) rfl) wm_yX3_readLine wv_yX3_readLine wi_3 wc_yX3_readLine (by decide +kernel)
theorem mv_3_83 : MV 3 83 3 yX3_readPupil cX3_readPupil 3 (some .boolean) 0 := MV.mk (tbp_mem (p := 3) (i := 16) (by decide +kernel) rfl) wm_yX3_readPupil wv_yX3_readPupil wi_3 wc_yX3_readPupil (by decide +kernel)
theorem mv_3_116 : MV 3 116 3 yX3_wrong cX3_wrong 2 (some .boolean) 1 := MV.mk (tbp_mem (p := 3) (i := 20) (by decide +kernel) rfl) wm_yX3_wrong wv_yX3_wrong wi_3 wc_yX3_wrong (by decide +kernel)
theorem mv_3_123 : MV 3 123 8 yX8_step cX8_step 1 none 0 := MV.mk (tbp_mem (p := 3) (i := 24) (by decide +kernel) rfl) wm_yX8_step wv_yX8_step wi_8 wc_yX8_step (by decide +kernel)
theorem mv_3_126 : MV 3 126 8 yX8_isName cX8_isName 1 (some .boolean) 0 := MV.mk (tbp_mem (p := 3) (i := 25) (by decide +kernel) rfl) wm_yX8_isName wv_yX8_isName wi_8 wc_yX8_isName (by decide +kernel)
theorem mv_3_133 : MV 3 133 3 yX3_pupilNamed cX3_pupilNamed 4 (some .int) 1 := MV.mk (tbp_mem (p := 3) (i := 29) (by decide +kernel) rfl) wm_yX3_pupilNamed wv_yX3_pupilNamed wi_3 wc_yX3_pupilNamed (by decide +kernel)
theorem mv_3_143 : MV 3 143 3 yX3_takeWord cX3_takeWord 2 (some .boolean) 1 := MV.mk (tbp_mem (p := 3) (i := 35) (by decide +kernel) rfl) wm_yX3_takeWord wv_yX3_takeWord wi_3 wc_yX3_takeWord (by decide +kernel)
theorem mv_3_147 : MV 3 147 3 yX3_takeNumber cX3_takeNumber 2 (some .boolean) 1 := MV.mk (tbp_mem (p := 3) (i := 39) (by decide +kernel) rfl) wm_yX3_takeNumber wv_yX3_takeNumber wi_3 wc_yX3_takeNumber (by decide +kernel)
theorem mv_3_156 : MV 3 156 3 yX3_takeSign cX3_takeSign 2 (some .boolean) 1 := MV.mk (tbp_mem (p := 3) (i := 43) (by decide +kernel) rfl) wm_yX3_takeSign wv_yX3_takeSign wi_3 wc_yX3_takeSign (by decide +kernel)
theorem mv_3_89 : MV 3 89 3 yX3_readBench cX3_readBench 2 (some .boolean) 0 := MV.mk (tbp_mem (p := 3) (i := 49) (by decide +kernel) rfl) wm_yX3_readBench wv_yX3_readBench wi_3 wc_yX3_readBench (by decide +kernel)
theorem mv_3_95 : MV 3 95 3 yX3_readSaying cX3_readSaying 3 (some .boolean) 0 := MV.mk (tbp_mem (p := 3) (i := 59) (by decide +kernel) rfl) wm_yX3_readSaying wv_yX3_readSaying wi_3 wc_yX3_readSaying (by decide +kernel)
theorem mv_3_171 : MV 3 171 3 yX3_takePupil cX3_takePupil 2 (some .boolean) 1 := MV.mk (tbp_mem (p := 3) (i := 63) (by decide +kernel) rfl) wm_yX3_takePupil wv_yX3_takePupil wi_3 wc_yX3_takePupil (by decide +kernel)
theorem mv_3_177 : MV 3 177 6 yX6_addSaying cX6_addSaying 4 none 3 := MV.mk (tbp_mem (p := 3) (i := 67) (by decide +kernel) rfl) wm_yX6_addSaying wv_yX6_addSaying wi_6 wc_yX6_addSaying (by decide +kernel)
theorem mv_3_101 : MV 3 101 3 yX3_readLiking cX3_readLiking 3 (some .boolean) 0 := MV.mk (tbp_mem (p := 3) (i := 76) (by decide +kernel) rfl) wm_yX3_readLiking wv_yX3_readLiking wi_3 wc_yX3_readLiking (by decide +kernel)
theorem mv_3_107 : MV 3 107 3 yX3_readSlip cX3_readSlip 1 (some .boolean) 0 := MV.mk (tbp_mem (p := 3) (i := 82) (by decide +kernel) rfl) wm_yX3_readSlip wv_yX3_readSlip wi_3 wc_yX3_readSlip (by decide +kernel)
theorem mv_3_113 : MV 3 113 3 yX3_readWish cX3_readWish 1 (some .boolean) 0 := MV.mk (tbp_mem (p := 3) (i := 88) (by decide +kernel) rfl) wm_yX3_readWish wv_yX3_readWish wi_3 wc_yX3_readWish (by decide +kernel)
theorem mv_3_190 : MV 3 190 3 yX3_readLevel cX3_readLevel 7 (some .boolean) 2 := MV.mk (tbp_mem (p := 3) (i := 92) (by decide +kernel) rfl) wm_yX3_readLevel wv_yX3_readLevel wi_3 wc_yX3_readLevel (by decide +kernel)
theorem mv_3_201 : MV 3 201 3 yX3_readOperand cX3_readOperand 3 (some .boolean) 2 := MV.mk (tbp_mem (p := 3) (i := 96) (by decide +kernel) rfl) wm_yX3_readOperand wv_yX3_readOperand wi_3 wc_yX3_readOperand (by decide +kernel)
theorem mv_3_211 : MV 3 211 3 yX3_readPart cX3_readPart 6 (some .boolean) 1 := MV.mk (tbp_mem (p := 3) (i := 100) (by decide +kernel) rfl) wm_yX3_readPart wv_yX3_readPart wi_3 wc_yX3_readPart (by decide +kernel)
theorem mv_3_208 : MV 3 208 3 yX3_putStep cX3_putStep 2 (some .boolean) 1 := MV.mk (tbp_mem (p := 3) (i := 106) (by decide +kernel) rfl) wm_yX3_putStep wv_yX3_putStep wi_3 wc_yX3_putStep (by decide +kernel)
theorem mv_3_204 : MV 3 204 3 yX3_joinerOf cX3_joinerOf 2 (some .int) 1 := MV.mk (tbp_mem (p := 3) (i := 110) (by decide +kernel) rfl) wm_yX3_joinerOf wv_yX3_joinerOf wi_3 wc_yX3_joinerOf (by decide +kernel)
theorem ms_3_194 : MS 3 194 yJ7_copyOf_59c91 cJ7_copyOf_59c91 3 (some (.array .int)) 2 := MS.mk (tbp_mem (p := 3) (i := 118) (by decide +kernel) rfl) wm_yJ7_copyOf_59c91 wi_18 wc_yJ7_copyOf_59c91 (by decide +kernel)
theorem ms_18_304 : MS 18 304 yJ9_min_7cf53 cJ9_min_7cf53 2 (some .int) 2 := MS.mk (tbp_mem (p := 3) (i := 128) (by decide +kernel) rfl) wm_yJ9_min_7cf53 wi_16 wc_yJ9_min_7cf53 (by decide +kernel)
theorem mv_11_93 : MV 11 93 6 yX6_copyFrom cX6_copyFrom 2 none 1 := MV.mk (tbp_mem (p := 3) (i := 130) (by decide +kernel) rfl) wm_yX6_copyFrom wv_yX6_copyFrom wi_6 wc_yX6_copyFrom (by decide +kernel)
theorem mv_11_97 : MV 11 97 11 yX11_forgetStudies cX11_forgetStudies 1 none 0 := MV.mk (tbp_mem (p := 3) (i := 134) (by decide +kernel) rfl) wm_yX11_forgetStudies wv_yX11_forgetStudies wi_11 wc_yX11_forgetStudies (by decide +kernel)
theorem mv_11_275 : MV 11 275 2 yX2_forget cX2_forget 1 none 0 := MV.mk (tbp_mem (p := 3) (i := 138) (by decide +kernel) rfl) wm_yX2_forget wv_yX2_forget wi_2 wc_yX2_forget (by decide +kernel)
theorem mv_11_276 : MV 11 276 7 yX7_forget cX7_forget 1 none 0 := MV.mk (tbp_mem (p := 3) (i := 142) (by decide +kernel) rfl) wm_yX7_forget wv_yX7_forget wi_7 wc_yX7_forget (by decide +kernel)
theorem mv_11_255 : MV 11 255 1 yX1_forget cX1_forget 1 none 0 := MV.mk (tbp_mem (p := 3) (i := 146) (by decide +kernel) rfl) wm_yX1_forget wv_yX1_forget wi_1 wc_yX1_forget (by decide +kernel)
theorem mv_11_277 : MV 11 277 9 yX9_forget cX9_forget 1 none 0 := MV.mk (tbp_mem (p := 3) (i := 150) (by decide +kernel) rfl) wm_yX9_forget wv_yX9_forget wi_9 wc_yX9_forget (by decide +kernel)
theorem mv_13_31 : MV 13 31 11 yX11_pupil cX11_pupil 3 (some .int) 2 := MV.mk (tbp_mem (p := 3) (i := 154) (by decide +kernel) rfl) wm_yX11_pupil wv_yX11_pupil wi_11 wc_yX11_pupil (by decide +kernel)
theorem mv_11_100 : MV 11 100 11 yX11_isPupil cX11_isPupil 2 (some .boolean) 1 := MV.mk (tbp_mem (p := 3) (i := 158) (by decide +kernel) rfl) wm_yX11_isPupil wv_yX11_isPupil wi_11 wc_yX11_isPupil (by decide +kernel)
theorem mv_13_36 : MV 13 36 11 yX11_say cX11_say 5 (some .int) 3 := MV.mk (tbp_mem (p := 3) (i := 162) (by decide +kernel) rfl) wm_yX11_say wv_yX11_say wi_11 wc_yX11_say (by decide +kernel)
theorem mv_11_123 : MV 11 123 11 yX11_areTwo cX11_areTwo 3 (some .boolean) 2 := MV.mk (tbp_mem (p := 3) (i := 166) (by decide +kernel) rfl) wm_yX11_areTwo wv_yX11_areTwo wi_11 wc_yX11_areTwo (by decide +kernel)
theorem mv_11_130 : MV 11 130 6 yX6_addSaying cX6_addSaying 4 none 3 := MV.mk (tbp_mem (p := 3) (i := 170) (by decide +kernel) rfl) wm_yX6_addSaying wv_yX6_addSaying wi_6 wc_yX6_addSaying (by decide +kernel)
theorem mv_13_41 : MV 13 41 11 yX11_unsay cX11_unsay 1 (some .boolean) 0 := MV.mk (tbp_mem (p := 3) (i := 171) (by decide +kernel) rfl) wm_yX11_unsay wv_yX11_unsay wi_11 wc_yX11_unsay (by decide +kernel)
theorem mv_13_46 : MV 13 46 11 yX11_saying cX11_saying 3 (some .int) 2 := MV.mk (tbp_mem (p := 3) (i := 175) (by decide +kernel) rfl) wm_yX11_saying wv_yX11_saying wi_11 wc_yX11_saying (by decide +kernel)
theorem mv_13_50 : MV 13 50 11 yX11_orders cX11_orders 1 (some .int) 0 := MV.mk (tbp_mem (p := 3) (i := 179) (by decide +kernel) rfl) wm_yX11_orders wv_yX11_orders wi_11 wc_yX11_orders (by decide +kernel)
theorem mv_11_143 : MV 11 143 7 yX7_weigh cX7_weigh 4 none 1 := MV.mk (tbp_mem (p := 3) (i := 183) (by decide +kernel) rfl) wm_yX7_weigh wv_yX7_weigh wi_7 wc_yX7_weigh (by decide +kernel)
theorem mv_7_51 : MV 7 51 4 yX4_everyone cX4_everyone 1 (some .int) 0 := MV.mk (tbp_mem (p := 3) (i := 187) (by decide +kernel) rfl) wm_yX4_everyone wv_yX4_everyone wi_4 wc_yX4_everyone (by decide +kernel)
theorem mv_7_57 : MV 7 57 7 yX7_setFactors cX7_setFactors 6 none 1 := MV.mk (tbp_mem (p := 3) (i := 191) (by decide +kernel) rfl) wm_yX7_setFactors wv_yX7_setFactors wi_7 wc_yX7_setFactors (by decide +kernel)
theorem ms_7_61 : MS 7 61 yJ7_fill_d0a16 cJ7_fill_d0a16 5 none 2 := MS.mk (tbp_mem (p := 3) (i := 195) (by decide +kernel) rfl) wm_yJ7_fill_d0a16 wi_18 wc_yJ7_fill_d0a16 (by decide +kernel)
theorem ms_7_88 : MS 7 88 yJ7_fill_53178 cJ7_fill_53178 4 none 2 := MS.mk (tbp_mem (p := 3) (i := 198) (by decide +kernel) rfl) wm_yJ7_fill_53178 wi_18 wc_yJ7_fill_53178 (by decide +kernel)
theorem mv_7_100 : MV 7 100 4 yX4_slipOf cX4_slipOf 2 (some .int) 1 := MV.mk (tbp_mem (p := 3) (i := 199) (by decide +kernel) rfl) wm_yX4_slipOf wv_yX4_slipOf wi_4 wc_yX4_slipOf (by decide +kernel)
theorem mv_7_67 : MV 7 67 7 yX7_factorBehind cX7_factorBehind 7 (some .long) 2 := MV.mk (tbp_mem (p := 3) (i := 203) (by decide +kernel) rfl) wm_yX7_factorBehind wv_yX7_factorBehind wi_7 wc_yX7_factorBehind (by decide +kernel)
theorem mv_11_146 : MV 11 146 7 yX7_all cX7_all 1 (some .long) 0 := MV.mk (tbp_mem (p := 3) (i := 207) (by decide +kernel) rfl) wm_yX7_all wv_yX7_all wi_7 wc_yX7_all (by decide +kernel)
theorem mv_13_54 : MV 13 54 11 yX11_sure cX11_sure 3 (some .int) 2 := MV.mk (tbp_mem (p := 3) (i := 211) (by decide +kernel) rfl) wm_yX11_sure wv_yX11_sure wi_11 wc_yX11_sure (by decide +kernel)
theorem mv_11_150 : MV 11 150 2 yX2_study cX2_study 2 none 1 := MV.mk (tbp_mem (p := 3) (i := 215) (by decide +kernel) rfl) wm_yX2_study wv_yX2_study wi_2 wc_yX2_study (by decide +kernel)
theorem mv_2_25 : MV 2 25 2 yX2_hear cX2_hear 3 none 1 := MV.mk (tbp_mem (p := 3) (i := 219) (by decide +kernel) rfl) wm_yX2_hear wv_yX2_hear wi_2 wc_yX2_hear (by decide +kernel)
theorem mv_2_55 : MV 2 55 4 yX4_everyone cX4_everyone 1 (some .int) 0 := MV.mk (tbp_mem (p := 3) (i := 223) (by decide +kernel) rfl) wm_yX4_everyone wv_yX4_everyone wi_4 wc_yX4_everyone (by decide +kernel)
theorem ms_2_58 : MS 2 58 yJ7_fill_53178 cJ7_fill_53178 4 none 2 := MS.mk (tbp_mem (p := 3) (i := 224) (by decide +kernel) rfl) wm_yJ7_fill_53178 wi_18 wc_yJ7_fill_53178 (by decide +kernel)
theorem mv_2_33 : MV 2 33 2 yX2_peel cX2_peel 7 (some .int) 1 := MV.mk (tbp_mem (p := 3) (i := 225) (by decide +kernel) rfl) wm_yX2_peel wv_yX2_peel wi_2 wc_yX2_peel (by decide +kernel)
theorem mv_2_40 : MV 2 40 2 yX2_climb cX2_climb 5 none 0 := MV.mk (tbp_mem (p := 3) (i := 229) (by decide +kernel) rfl) wm_yX2_climb wv_yX2_climb wi_2 wc_yX2_climb (by decide +kernel)
theorem mv_11_157 : MV 11 157 2 yX2_isAbove cX2_isAbove 3 (some .boolean) 2 := MV.mk (tbp_mem (p := 3) (i := 233) (by decide +kernel) rfl) wm_yX2_isAbove wv_yX2_isAbove wi_2 wc_yX2_isAbove (by decide +kernel)
theorem mv_13_58 : MV 13 58 11 yX11_span cX11_span 3 (some .int) 2 := MV.mk (tbp_mem (p := 3) (i := 237) (by decide +kernel) rfl) wm_yX11_span wv_yX11_span wi_11 wc_yX11_span (by decide +kernel)
theorem mv_11_160 : MV 11 160 2 yX2_leastPlace cX2_leastPlace 2 (some .int) 1 := MV.mk (tbp_mem (p := 4) (i := 1) (by decide +kernel) rfl) wm_yX2_leastPlace wv_yX2_leastPlace wi_2 wc_yX2_leastPlace (by decide +kernel)
theorem ms_2_73 : MS 2 73 yJ6_bitCount_0f7a4 cJ6_bitCount_0f7a4 1 (some .int) 1 := MS.mk (tbp_mem (p := 4) (i := 5) (by decide +kernel) rfl) wm_yJ6_bitCount_0f7a4 wi_14 wc_yJ6_bitCount_0f7a4 (by decide +kernel)
theorem mv_11_164 : MV 11 164 2 yX2_greatestPlace cX2_greatestPlace 4 (some .int) 1 := MV.mk (tbp_mem (p := 4) (i := 11) (by decide +kernel) rfl) wm_yX2_greatestPlace wv_yX2_greatestPlace wi_2 wc_yX2_greatestPlace (by decide +kernel)
theorem mv_2_78 : MV 2 78 2 yX2_isAbove cX2_isAbove 3 (some .boolean) 2 := MV.mk (tbp_mem (p := 4) (i := 15) (by decide +kernel) rfl) wm_yX2_isAbove wv_yX2_isAbove wi_2 wc_yX2_isAbove (by decide +kernel)
theorem mv_13_62 : MV 13 62 11 yX11_dropped cX11_dropped 2 (some .int) 1 := MV.mk (tbp_mem (p := 4) (i := 16) (by decide +kernel) rfl) wm_yX11_dropped wv_yX11_dropped wi_11 wc_yX11_dropped (by decide +kernel)
theorem mv_11_167 : MV 11 167 1 yX1_study cX1_study 5 none 2 := MV.mk (tbp_mem (p := 4) (i := 20) (by decide +kernel) rfl) wm_yX1_study wv_yX1_study wi_1 wc_yX1_study (by decide +kernel)
theorem mv_1_45 : MV 1 45 4 yX4_everyone cX4_everyone 1 (some .int) 0 := MV.mk (tbp_mem (p := 4) (i := 24) (by decide +kernel) rfl) wm_yX4_everyone wv_yX4_everyone wi_4 wc_yX4_everyone (by decide +kernel)
theorem mv_1_51 : MV 1 51 1 yX1_hear cX1_hear 4 none 2 := MV.mk (tbp_mem (p := 4) (i := 25) (by decide +kernel) rfl) wm_yX1_hear wv_yX1_hear wi_1 wc_yX1_hear (by decide +kernel)
theorem ms_1_68 : MS 1 68 yJ7_fill_d0a16 cJ7_fill_d0a16 5 none 2 := MS.mk (tbp_mem (p := 4) (i := 29) (by decide +kernel) rfl) wm_yJ7_fill_d0a16 wi_18 wc_yJ7_fill_d0a16 (by decide +kernel)
theorem ms_1_55 : MS 1 55 yJ6_numberOfTrailingZeros_0f7a4 cJ6_numberOfTrailingZeros_0f7a4 2 (some .int) 1 := MS.mk (tbp_mem (p := 4) (i := 30) (by decide +kernel) rfl) wm_yJ6_numberOfTrailingZeros_0f7a4 wi_14 wc_yJ6_numberOfTrailingZeros_0f7a4 (by decide +kernel)
theorem mv_1_61 : MV 1 61 1 yX1_bestBehind cX1_bestBehind 6 (some .int) 1 := MV.mk (tbp_mem (p := 4) (i := 34) (by decide +kernel) rfl) wm_yX1_bestBehind wv_yX1_bestBehind wi_1 wc_yX1_bestBehind (by decide +kernel)
theorem mv_1_64 : MV 1 64 1 yX1_withBehind cX1_withBehind 3 (some .int) 2 := MV.mk (tbp_mem (p := 4) (i := 38) (by decide +kernel) rfl) wm_yX1_withBehind wv_yX1_withBehind wi_1 wc_yX1_withBehind (by decide +kernel)
theorem mv_11_170 : MV 11 170 1 yX1_fewest cX1_fewest 1 (some .int) 0 := MV.mk (tbp_mem (p := 4) (i := 43) (by decide +kernel) rfl) wm_yX1_fewest wv_yX1_fewest wi_1 wc_yX1_fewest (by decide +kernel)
theorem mv_13_66 : MV 13 66 11 yX11_row cX11_row 2 (some .int) 1 := MV.mk (tbp_mem (p := 4) (i := 47) (by decide +kernel) rfl) wm_yX11_row wv_yX11_row wi_11 wc_yX11_row (by decide +kernel)
theorem mv_13_70 : MV 13 70 11 yX11_helped cX11_helped 1 (some .int) 0 := MV.mk (tbp_mem (p := 4) (i := 51) (by decide +kernel) rfl) wm_yX11_helped wv_yX11_helped wi_11 wc_yX11_helped (by decide +kernel)
theorem mv_11_177 : MV 11 177 2 yX2_untangling cX2_untangling 3 (some .int) 0 := MV.mk (tbp_mem (p := 4) (i := 55) (by decide +kernel) rfl) wm_yX2_untangling wv_yX2_untangling wi_2 wc_yX2_untangling (by decide +kernel)
theorem mv_13_74 : MV 13 74 11 yX11_unlike cX11_unlike 4 (some .int) 0 := MV.mk (tbp_mem (p := 4) (i := 59) (by decide +kernel) rfl) wm_yX11_unlike wv_yX11_unlike wi_11 wc_yX11_unlike (by decide +kernel)
theorem mv_11_183 : MV 11 183 6 yX6_isSaid cX6_isSaid 5 (some .boolean) 3 := MV.mk (tbp_mem (p := 4) (i := 63) (by decide +kernel) rfl) wm_yX6_isSaid wv_yX6_isSaid wi_6 wc_yX6_isSaid (by decide +kernel)
theorem mv_13_78 : MV 13 78 11 yX11_chance cX11_chance 10 (some .long) 3 := MV.mk (tbp_mem (p := 4) (i := 67) (by decide +kernel) rfl) wm_yX11_chance wv_yX11_chance wi_11 wc_yX11_chance (by decide +kernel)
theorem mv_11_189 : MV 11 189 7 yX7_compare cX7_compare 5 none 0 := MV.mk (tbp_mem (p := 4) (i := 72) (by decide +kernel) rfl) wm_yX7_compare wv_yX7_compare wi_7 wc_yX7_compare (by decide +kernel)
theorem mv_7_71 : MV 7 71 7 yX7_addAhead cX7_addAhead 6 none 3 := MV.mk (tbp_mem (p := 4) (i := 76) (by decide +kernel) rfl) wm_yX7_addAhead wv_yX7_addAhead wi_7 wc_yX7_addAhead (by decide +kernel)
theorem mv_11_192 : MV 11 192 7 yX7_aheadOf cX7_aheadOf 3 (some .long) 2 := MV.mk (tbp_mem (p := 4) (i := 80) (by decide +kernel) rfl) wm_yX7_aheadOf wv_yX7_aheadOf wi_7 wc_yX7_aheadOf (by decide +kernel)
theorem ms_11_196 : MS 11 196 yX11_commonDivisor cX11_commonDivisor 11 (some .long) 2 := MS.mk (tbp_mem (p := 4) (i := 84) (by decide +kernel) rfl) wm_yX11_commonDivisor wi_11 wc_yX11_commonDivisor (by decide +kernel)
theorem mv_13_83 : MV 13 83 11 yX11_next cX11_next 2 (some .int) 1 := MV.mk (tbp_mem (p := 4) (i := 87) (by decide +kernel) rfl) wm_yX11_next wv_yX11_next wi_11 wc_yX11_next (by decide +kernel)
theorem mv_11_200 : MV 11 200 7 yX7_bestQuestion cX7_bestQuestion 10 (some .int) 1 := MV.mk (tbp_mem (p := 4) (i := 91) (by decide +kernel) rfl) wm_yX7_bestQuestion wv_yX7_bestQuestion wi_7 wc_yX7_bestQuestion (by decide +kernel)
theorem mv_7_75 : MV 7 75 7 yX7_all cX7_all 1 (some .long) 0 := MV.mk (tbp_mem (p := 4) (i := 95) (by decide +kernel) rfl) wm_yX7_all wv_yX7_all wi_7 wc_yX7_all (by decide +kernel)
theorem mv_7_79 : MV 7 79 7 yX7_aheadOf cX7_aheadOf 3 (some .long) 2 := MV.mk (tbp_mem (p := 4) (i := 96) (by decide +kernel) rfl) wm_yX7_aheadOf wv_yX7_aheadOf wi_7 wc_yX7_aheadOf (by decide +kernel)
theorem ms_7_82 : MS 7 82 yJ9_max_f86c9 cJ9_max_f86c9 4 (some .long) 2 := MS.mk (tbp_mem (p := 4) (i := 97) (by decide +kernel) rfl) wm_yJ9_max_f86c9 wi_16 wc_yJ9_max_f86c9 (by decide +kernel)
theorem mv_13_87 : MV 13 87 11 yX11_needed cX11_needed 1 (some .int) 0 := MV.mk (tbp_mem (p := 4) (i := 100) (by decide +kernel) rfl) wm_yX11_needed wv_yX11_needed wi_11 wc_yX11_needed (by decide +kernel)
theorem mv_11_203 : MV 11 203 0 yX0_fewestAsks cX0_fewestAsks 9 (some .int) 1 := MV.mk (tbp_mem (p := 4) (i := 104) (by decide +kernel) rfl) wm_yX0_fewestAsks wv_yX0_fewestAsks wi_0 wc_yX0_fewestAsks (by decide +kernel)
theorem ms_0_34 : MS 0 34 yJ9_min_7cf53 cJ9_min_7cf53 2 (some .int) 2 := MS.mk (tbp_mem (p := 4) (i := 108) (by decide +kernel) rfl) wm_yJ9_min_7cf53 wi_16 wc_yJ9_min_7cf53 (by decide +kernel)
theorem mv_0_41 : MV 0 41 0 yX0_layOrders cX0_layOrders 5 (some .int) 0 := MV.mk (tbp_mem (p := 4) (i := 109) (by decide +kernel) rfl) wm_yX0_layOrders wv_yX0_layOrders wi_0 wc_yX0_layOrders (by decide +kernel)
theorem ms_0_65 : MS 0 65 yJ7_fill_d0a16 cJ7_fill_d0a16 5 none 2 := MS.mk (tbp_mem (p := 4) (i := 113) (by decide +kernel) rfl) wm_yJ7_fill_d0a16 wi_18 wc_yJ7_fill_d0a16 (by decide +kernel)
theorem mv_0_71 : MV 0 71 0 yX0_placeBy cX0_placeBy 6 none 1 := MV.mk (tbp_mem (p := 4) (i := 114) (by decide +kernel) rfl) wm_yX0_placeBy wv_yX0_placeBy wi_0 wc_yX0_placeBy (by decide +kernel)
theorem mv_0_75 : MV 0 75 0 yX0_noteAhead cX0_noteAhead 3 none 2 := MV.mk (tbp_mem (p := 4) (i := 118) (by decide +kernel) rfl) wm_yX0_noteAhead wv_yX0_noteAhead wi_0 wc_yX0_noteAhead (by decide +kernel)
theorem ms_0_45 : MS 0 45 yX0_firstBits cX0_firstBits 1 (some .long) 1 := MS.mk (tbp_mem (p := 4) (i := 122) (by decide +kernel) rfl) wm_yX0_firstBits wi_0 wc_yX0_firstBits (by decide +kernel)
theorem ms_0_49 : MS 0 49 yJ9_max_7cf53 cJ9_max_7cf53 2 (some .int) 2 := MS.mk (tbp_mem (p := 4) (i := 126) (by decide +kernel) rfl) wm_yJ9_max_7cf53 wi_16 wc_yJ9_max_7cf53 (by decide +kernel)
theorem mv_0_61 : MV 0 61 0 yX0_suffice cX0_suffice 9 (some .boolean) 3 := MV.mk (tbp_mem (p := 4) (i := 129) (by decide +kernel) rfl) wm_yX0_suffice wv_yX0_suffice wi_0 wc_yX0_suffice (by decide +kernel)
theorem ms_0_79 : MS 0 79 yJ13_bitCount_95d88 cJ13_bitCount_95d88 2 (some .int) 1 := MS.mk (tbp_mem (p := 4) (i := 133) (by decide +kernel) rfl) wm_yJ13_bitCount_95d88 wi_15 wc_yJ13_bitCount_95d88 (by decide +kernel)
theorem mv_0_85 : MV 0 85 0 yX0_sufficeBehind cX0_sufficeBehind 17 (some .boolean) 4 := MV.mk (tbp_mem (p := 4) (i := 139) (by decide +kernel) rfl) wm_yX0_sufficeBehind wv_yX0_sufficeBehind wi_0 wc_yX0_sufficeBehind (by decide +kernel)
theorem mv_13_91 : MV 13 91 11 yX11_newOne cX11_newOne 4 (some .int) 1 := MV.mk (tbp_mem (p := 4) (i := 143) (by decide +kernel) rfl) wm_yX11_newOne wv_yX11_newOne wi_11 wc_yX11_newOne (by decide +kernel)
theorem mv_11_207 : MV 11 207 2 yX2_placesFor cX2_placesFor 7 (some .int) 1 := MV.mk (tbp_mem (p := 4) (i := 147) (by decide +kernel) rfl) wm_yX2_placesFor wv_yX2_placesFor wi_2 wc_yX2_placesFor (by decide +kernel)
theorem ms_2_82 : MS 2 82 yJ9_min_7cf53 cJ9_min_7cf53 2 (some .int) 2 := MS.mk (tbp_mem (p := 4) (i := 151) (by decide +kernel) rfl) wm_yJ9_min_7cf53 wi_16 wc_yJ9_min_7cf53 (by decide +kernel)
theorem ms_2_88 : MS 2 88 yJ9_max_7cf53 cJ9_max_7cf53 2 (some .int) 2 := MS.mk (tbp_mem (p := 4) (i := 152) (by decide +kernel) rfl) wm_yJ9_max_7cf53 wi_16 wc_yJ9_max_7cf53 (by decide +kernel)
theorem mv_13_95 : MV 13 95 11 yX11_sit cX11_sit 3 (some .boolean) 2 := MV.mk (tbp_mem (p := 4) (i := 153) (by decide +kernel) rfl) wm_yX11_sit wv_yX11_sit wi_11 wc_yX11_sit (by decide +kernel)
theorem mv_11_210 : MV 11 210 11 yX11_isSeatOrNone cX11_isSeatOrNone 2 (some .boolean) 1 := MV.mk (tbp_mem (p := 4) (i := 157) (by decide +kernel) rfl) wm_yX11_isSeatOrNone wv_yX11_isSeatOrNone wi_11 wc_yX11_isSeatOrNone (by decide +kernel)
theorem mv_11_213 : MV 11 213 6 yX6_sitterOn cX6_sitterOn 3 (some .int) 1 := MV.mk (tbp_mem (p := 4) (i := 161) (by decide +kernel) rfl) wm_yX6_sitterOn wv_yX6_sitterOn wi_6 wc_yX6_sitterOn (by decide +kernel)
theorem mv_13_100 : MV 13 100 11 yX11_plan cX11_plan 4 (some .boolean) 2 := MV.mk (tbp_mem (p := 4) (i := 165) (by decide +kernel) rfl) wm_yX11_plan wv_yX11_plan wi_11 wc_yX11_plan (by decide +kernel)
theorem mv_13_104 : MV 13 104 11 yX11_changes cX11_changes 2 (some .int) 0 := MV.mk (tbp_mem (p := 4) (i := 169) (by decide +kernel) rfl) wm_yX11_changes wv_yX11_changes wi_11 wc_yX11_changes (by decide +kernel)
theorem mv_11_216 : MV 11 216 6 yX6_placedOf cX6_placedOf 4 (some .int) 1 := MV.mk (tbp_mem (p := 4) (i := 173) (by decide +kernel) rfl) wm_yX6_placedOf wv_yX6_placedOf wi_6 wc_yX6_placedOf (by decide +kernel)
theorem mv_11_220 : MV 11 220 6 yX6_ringsOfSeats cX6_ringsOfSeats 3 (some .int) 0 := MV.mk (tbp_mem (p := 4) (i := 177) (by decide +kernel) rfl) wm_yX6_ringsOfSeats wv_yX6_ringsOfSeats wi_6 wc_yX6_ringsOfSeats (by decide +kernel)
theorem mv_6_53 : MV 6 53 6 yX6_leadsRing cX6_leadsRing 4 (some .boolean) 1 := MV.mk (tbp_mem (p := 4) (i := 181) (by decide +kernel) rfl) wm_yX6_leadsRing wv_yX6_leadsRing wi_6 wc_yX6_leadsRing (by decide +kernel)
theorem mv_6_57 : MV 6 57 6 yX6_sitterOn cX6_sitterOn 3 (some .int) 1 := MV.mk (tbp_mem (p := 4) (i := 185) (by decide +kernel) rfl) wm_yX6_sitterOn wv_yX6_sitterOn wi_6 wc_yX6_sitterOn (by decide +kernel)
theorem mv_13_117 : MV 13 117 11 yX11_wishes cX11_wishes 3 (some .int) 2 := MV.mk (tbp_mem (p := 4) (i := 186) (by decide +kernel) rfl) wm_yX11_wishes wv_yX11_wishes wi_11 wc_yX11_wishes (by decide +kernel)
theorem mv_11_229 : MV 11 229 9 yX9_wishOf cX9_wishOf 8 (some .int) 4 := MV.mk (tbp_mem (p := 4) (i := 190) (by decide +kernel) rfl) wm_yX9_wishOf wv_yX9_wishOf wi_9 wc_yX9_wishOf (by decide +kernel)
theorem mv_9_59 : MV 9 59 9 yX9_lawOf cX9_lawOf 8 (some .int) 4 := MV.mk (tbp_mem (p := 4) (i := 194) (by decide +kernel) rfl) wm_yX9_lawOf wv_yX9_lawOf wi_9 wc_yX9_lawOf (by decide +kernel)
theorem ms_9_78 : MS 9 78 yX9_factOf cX9_factOf 5 (some .int) 5 := MS.mk (tbp_mem (p := 4) (i := 198) (by decide +kernel) rfl) wm_yX9_factOf wi_9 wc_yX9_factOf (by decide +kernel)
theorem mv_9_74 : MV 9 74 4 yX4_likingOf cX4_likingOf 3 (some .int) 2 := MV.mk (tbp_mem (p := 4) (i := 201) (by decide +kernel) rfl) wm_yX4_likingOf wv_yX4_likingOf wi_4 wc_yX4_likingOf (by decide +kernel)
theorem mv_9_65 : MV 9 65 2 yX2_isAbove cX2_isAbove 3 (some .boolean) 2 := MV.mk (tbp_mem (p := 4) (i := 205) (by decide +kernel) rfl) wm_yX2_isAbove wv_yX2_isAbove wi_2 wc_yX2_isAbove (by decide +kernel)
theorem ms_9_82 : MS 9 82 yX9_bit cX9_bit 1 (some .int) 1 := MS.mk (tbp_mem (p := 4) (i := 206) (by decide +kernel) rfl) wm_yX9_bit wi_9 wc_yX9_bit (by decide +kernel)
theorem ms_9_86 : MS 9 86 yX9_joined cX9_joined 3 (some .int) 3 := MS.mk (tbp_mem (p := 4) (i := 209) (by decide +kernel) rfl) wm_yX9_joined wi_9 wc_yX9_joined (by decide +kernel)
theorem ms_9_35 : MS 9 35 yJ9_min_7cf53 cJ9_min_7cf53 2 (some .int) 2 := MS.mk (tbp_mem (p := 4) (i := 212) (by decide +kernel) rfl) wm_yJ9_min_7cf53 wi_16 wc_yJ9_min_7cf53 (by decide +kernel)
theorem ms_9_62 : MS 9 62 yJ9_max_7cf53 cJ9_max_7cf53 2 (some .int) 2 := MS.mk (tbp_mem (p := 4) (i := 213) (by decide +kernel) rfl) wm_yJ9_max_7cf53 wi_16 wc_yJ9_max_7cf53 (by decide +kernel)
theorem mv_13_121 : MV 13 121 11 yX11_rests cX11_rests 1 (some .int) 0 := MV.mk (tbp_mem (p := 4) (i := 214) (by decide +kernel) rfl) wm_yX11_rests wv_yX11_rests wi_11 wc_yX11_rests (by decide +kernel)
theorem mv_11_233 : MV 11 233 11 yX11_findRests cX11_findRests 2 (some .boolean) 0 := MV.mk (tbp_mem (p := 4) (i := 218) (by decide +kernel) rfl) wm_yX11_findRests wv_yX11_findRests wi_11 wc_yX11_findRests (by decide +kernel)
theorem mv_11_272 : MV 11 272 9 yX9_study cX9_study 5 none 2 := MV.mk (tbp_mem (p := 4) (i := 222) (by decide +kernel) rfl) wm_yX9_study wv_yX9_study wi_9 wc_yX9_study (by decide +kernel)
theorem mv_9_42 : MV 9 42 9 yX9_wishOf cX9_wishOf 8 (some .int) 4 := MV.mk (tbp_mem (p := 4) (i := 226) (by decide +kernel) rfl) wm_yX9_wishOf wv_yX9_wishOf wi_9 wc_yX9_wishOf (by decide +kernel)
theorem ms_9_46 : MS 9 46 yJ7_fill_53178 cJ7_fill_53178 4 none 2 := MS.mk (tbp_mem (p := 4) (i := 227) (by decide +kernel) rfl) wm_yJ7_fill_53178 wi_18 wc_yJ7_fill_53178 (by decide +kernel)
theorem mv_9_55 : MV 9 55 9 yX9_pairFrom cX9_pairFrom 5 none 2 := MV.mk (tbp_mem (p := 4) (i := 228) (by decide +kernel) rfl) wm_yX9_pairFrom wv_yX9_pairFrom wi_9 wc_yX9_pairFrom (by decide +kernel)
theorem mv_9_95 : MV 9 95 9 yX9_keepIfAtRest cX9_keepIfAtRest 5 none 0 := MV.mk (tbp_mem (p := 4) (i := 232) (by decide +kernel) rfl) wm_yX9_keepIfAtRest wv_yX9_keepIfAtRest wi_9 wc_yX9_keepIfAtRest (by decide +kernel)
theorem mv_9_102 : MV 9 102 9 yX9_wouldRather cX9_wouldRather 3 (some .boolean) 2 := MV.mk (tbp_mem (p := 4) (i := 236) (by decide +kernel) rfl) wm_yX9_wouldRather wv_yX9_wouldRather wi_9 wc_yX9_wouldRather (by decide +kernel)
theorem mv_9_98 : MV 9 98 9 yX9_pairUp cX9_pairUp 4 none 3 := MV.mk (tbp_mem (p := 5) (i := 0) (by decide +kernel) rfl) wm_yX9_pairUp wv_yX9_pairUp wi_9 wc_yX9_pairUp (by decide +kernel)
theorem mv_13_125 : MV 13 125 11 yX11_rest cX11_rest 3 (some .int) 2 := MV.mk (tbp_mem (p := 5) (i := 4) (by decide +kernel) rfl) wm_yX11_rest wv_yX11_rest wi_11 wc_yX11_rest (by decide +kernel)
theorem mv_11_240 : MV 11 240 9 yX9_mateIn cX9_mateIn 3 (some .int) 2 := MV.mk (tbp_mem (p := 5) (i := 8) (by decide +kernel) rfl) wm_yX9_mateIn wv_yX9_mateIn wi_9 wc_yX9_mateIn (by decide +kernel)
theorem mv_13_129 : MV 13 129 11 yX11_season cX11_season 5 (some .int) 2 := MV.mk (tbp_mem (p := 5) (i := 13) (by decide +kernel) rfl) wm_yX11_season wv_yX11_season wi_11 wc_yX11_season (by decide +kernel)
theorem mv_11_244 : MV 11 244 5 yX5_open cX5_open 5 none 3 := MV.mk (tbp_mem (p := 5) (i := 17) (by decide +kernel) rfl) wm_yX5_open wv_yX5_open wi_5 wc_yX5_open (by decide +kernel)
theorem mv_5_29 : MV 5 29 6 yX6_copyFrom cX6_copyFrom 2 none 1 := MV.mk (tbp_mem (p := 5) (i := 21) (by decide +kernel) rfl) wm_yX6_copyFrom wv_yX6_copyFrom wi_6 wc_yX6_copyFrom (by decide +kernel)
theorem mv_11_248 : MV 11 248 5 yX5_daysUntilKnown cX5_daysUntilKnown 2 (some .int) 0 := MV.mk (tbp_mem (p := 5) (i := 22) (by decide +kernel) rfl) wm_yX5_daysUntilKnown wv_yX5_daysUntilKnown wi_5 wc_yX5_daysUntilKnown (by decide +kernel)
theorem mv_5_47 : MV 5 47 2 yX2_hear cX2_hear 3 none 1 := MV.mk (tbp_mem (p := 5) (i := 26) (by decide +kernel) rfl) wm_yX2_hear wv_yX2_hear wi_2 wc_yX2_hear (by decide +kernel)
theorem mv_5_50 : MV 5 50 2 yX2_oneOrderFits cX2_oneOrderFits 1 (some .boolean) 0 := MV.mk (tbp_mem (p := 5) (i := 27) (by decide +kernel) rfl) wm_yX2_oneOrderFits wv_yX2_oneOrderFits wi_2 wc_yX2_oneOrderFits (by decide +kernel)
theorem mv_5_54 : MV 5 54 5 yX5_passDays cX5_passDays 8 none 1 := MV.mk (tbp_mem (p := 5) (i := 31) (by decide +kernel) rfl) wm_yX5_passDays wv_yX5_passDays wi_5 wc_yX5_passDays (by decide +kernel)
theorem mv_5_58 : MV 5 58 5 yX5_draw cX5_draw 2 (some .int) 1 := MV.mk (tbp_mem (p := 5) (i := 35) (by decide +kernel) rfl) wm_yX5_draw wv_yX5_draw wi_5 wc_yX5_draw (by decide +kernel)
theorem mv_5_65 : MV 5 65 6 yX6_addSaying cX6_addSaying 4 none 3 := MV.mk (tbp_mem (p := 5) (i := 43) (by decide +kernel) rfl) wm_yX6_addSaying wv_yX6_addSaying wi_6 wc_yX6_addSaying (by decide +kernel)
theorem mv_11_251 : MV 11 251 5 yX5_passDays cX5_passDays 8 none 1 := MV.mk (tbp_mem (p := 5) (i := 44) (by decide +kernel) rfl) wm_yX5_passDays wv_yX5_passDays wi_5 wc_yX5_passDays (by decide +kernel)
theorem mv_13_133 : MV 13 133 11 yX11_mark cX11_mark 3 (some .boolean) 2 := MV.mk (tbp_mem (p := 5) (i := 45) (by decide +kernel) rfl) wm_yX11_mark wv_yX11_mark wi_11 wc_yX11_mark (by decide +kernel)
theorem mv_13_138 : MV 13 138 11 yX11_count cX11_count 2 (some .int) 1 := MV.mk (tbp_mem (p := 5) (i := 49) (by decide +kernel) rfl) wm_yX11_count wv_yX11_count wi_11 wc_yX11_count (by decide +kernel)
theorem mv_13_7 : MV 13 7 11 yX11_hidden cX11_hidden 2 (some .int) 1 := MV.mk (tbp_mem (p := 5) (i := 57) (by decide +kernel) rfl) wm_yX11_hidden wv_yX11_hidden wi_11 wc_yX11_hidden (by decide +kernel)
theorem mv_11_226 : MV 11 226 6 yX6_tallerAhead cX6_tallerAhead 5 (some .int) 1 := MV.mk (tbp_mem (p := 5) (i := 122) (by decide +kernel) rfl) wm_yX6_tallerAhead wv_yX6_tallerAhead wi_6 wc_yX6_tallerAhead (by decide +kernel)
theorem mv_6_64 : MV 6 64 6 yX6_sitsBefore cX6_sitsBefore 3 (some .boolean) 2 := MV.mk (tbp_mem (p := 5) (i := 126) (by decide +kernel) rfl) wm_yX6_sitsBefore wv_yX6_sitsBefore wi_6 wc_yX6_sitsBefore (by decide +kernel)
theorem mi_13_18 : MI 13 18 yX12_init cX12_init 1 0 := MI.mk (Or.inl (tbp_mem (p := 5) (i := 132) (by decide +kernel) rfl)) wm_yX12_init wi_12 wc_yX12_init (by decide +kernel)
theorem mv_13_114 : MV 13 114 12 yX12_thrown cX12_thrown 1 (some .int) 0 := MV.mk (tbp_mem (p := 6) (i := 84) (by decide +kernel) rfl) wm_yX12_thrown wv_yX12_thrown wi_12 wc_yX12_thrown (by decide +kernel)
theorem mv_13_25 : MV 13 25 12 yX12_feed cX12_feed 11 (some .int) 3 := MV.mk (tbp_mem (p := 6) (i := 88) (by decide +kernel) rfl) wm_yX12_feed wv_yX12_feed wi_12 wc_yX12_feed (by decide +kernel)
theorem mv_13_30 : MV 13 30 12 yX12_school cX12_school 1 (some .int) 0 := MV.mk (tbp_mem (p := 6) (i := 93) (by decide +kernel) rfl) wm_yX12_school wv_yX12_school wi_12 wc_yX12_school (by decide +kernel)
theorem mv_12_318 : MV 12 318 12 yX12_readsAll cX12_readsAll 2 (some .boolean) 0 := MV.mk (tbp_mem (p := 6) (i := 97) (by decide +kernel) rfl) wm_yX12_readsAll wv_yX12_readsAll wi_12 wc_yX12_readsAll (by decide +kernel)
theorem mv_12_208 : MV 12 208 12 yX12_nextToken cX12_nextToken 2 none 0 := MV.mk (tbp_mem (p := 6) (i := 101) (by decide +kernel) rfl) wm_yX12_nextToken wv_yX12_nextToken wi_12 wc_yX12_nextToken (by decide +kernel)
theorem mv_12_163 : MV 12 163 12 yX12_signAt cX12_signAt 2 (some .int) 1 := MV.mk (tbp_mem (p := 6) (i := 105) (by decide +kernel) rfl) wm_yX12_signAt wv_yX12_signAt wi_12 wc_yX12_signAt (by decide +kernel)
theorem mv_12_193 : MV 12 193 12 yX12_isWord cX12_isWord 3 (some .boolean) 1 := MV.mk (tbp_mem (p := 6) (i := 112) (by decide +kernel) rfl) wm_yX12_isWord wv_yX12_isWord wi_12 wc_yX12_isWord (by decide +kernel)
theorem mv_12_296 : MV 12 296 12 yX12_readsPupil cX12_readsPupil 2 (some .boolean) 0 := MV.mk (tbp_mem (p := 6) (i := 116) (by decide +kernel) rfl) wm_yX12_readsPupil wv_yX12_readsPupil wi_12 wc_yX12_readsPupil (by decide +kernel)
theorem mv_12_201 : MV 12 201 12 yX12_fails cX12_fails 2 (some .boolean) 1 := MV.mk (tbp_mem (p := 6) (i := 120) (by decide +kernel) rfl) wm_yX12_fails wv_yX12_fails wi_12 wc_yX12_fails (by decide +kernel)
theorem mv_12_257 : MV 12 257 12 yX12_isKept cX12_isKept 1 (some .boolean) 0 := MV.mk (tbp_mem (p := 6) (i := 124) (by decide +kernel) rfl) wm_yX12_isKept wv_yX12_isKept wi_12 wc_yX12_isKept (by decide +kernel)
theorem mv_12_261 : MV 12 261 12 yX12_pupilNamed cX12_pupilNamed 2 (some .int) 0 := MV.mk (tbp_mem (p := 6) (i := 144) (by decide +kernel) rfl) wm_yX12_pupilNamed wv_yX12_pupilNamed wi_12 wc_yX12_pupilNamed (by decide +kernel)
theorem mv_12_264 : MV 12 264 12 yX12_kindAt cX12_kindAt 1 (some .int) 0 := MV.mk (tbp_mem (p := 6) (i := 148) (by decide +kernel) rfl) wm_yX12_kindAt wv_yX12_kindAt wi_12 wc_yX12_kindAt (by decide +kernel)
theorem mv_12_267 : MV 12 267 12 yX12_needsWord cX12_needsWord 3 (some .boolean) 1 := MV.mk (tbp_mem (p := 6) (i := 152) (by decide +kernel) rfl) wm_yX12_needsWord wv_yX12_needsWord wi_12 wc_yX12_needsWord (by decide +kernel)
theorem mv_12_270 : MV 12 270 12 yX12_needsNumber cX12_needsNumber 3 (some .boolean) 2 := MV.mk (tbp_mem (p := 6) (i := 156) (by decide +kernel) rfl) wm_yX12_needsNumber wv_yX12_needsNumber wi_12 wc_yX12_needsNumber (by decide +kernel)
theorem ms_12_250 : MS 12 250 yX12_within cX12_within 3 (some .boolean) 3 := MS.mk (tbp_mem (p := 6) (i := 160) (by decide +kernel) rfl) wm_yX12_within wi_12 wc_yX12_within (by decide +kernel)
theorem mv_12_274 : MV 12 274 12 yX12_ends cX12_ends 1 (some .boolean) 0 := MV.mk (tbp_mem (p := 6) (i := 163) (by decide +kernel) rfl) wm_yX12_ends wv_yX12_ends wi_12 wc_yX12_ends (by decide +kernel)
theorem mv_12_197 : MV 12 197 12 yX12_isSign cX12_isSign 2 (some .boolean) 1 := MV.mk (tbp_mem (p := 6) (i := 167) (by decide +kernel) rfl) wm_yX12_isSign wv_yX12_isSign wi_12 wc_yX12_isSign (by decide +kernel)
theorem mv_12_299 : MV 12 299 12 yX12_readsBench cX12_readsBench 1 (some .boolean) 0 := MV.mk (tbp_mem (p := 6) (i := 171) (by decide +kernel) rfl) wm_yX12_readsBench wv_yX12_readsBench wi_12 wc_yX12_readsBench (by decide +kernel)
theorem mv_12_302 : MV 12 302 12 yX12_readsSay cX12_readsSay 2 (some .boolean) 0 := MV.mk (tbp_mem (p := 6) (i := 175) (by decide +kernel) rfl) wm_yX12_readsSay wv_yX12_readsSay wi_12 wc_yX12_readsSay (by decide +kernel)
theorem mv_12_283 : MV 12 283 12 yX12_needsTwo cX12_needsTwo 1 (some .boolean) 0 := MV.mk (tbp_mem (p := 6) (i := 179) (by decide +kernel) rfl) wm_yX12_needsTwo wv_yX12_needsTwo wi_12 wc_yX12_needsTwo (by decide +kernel)
theorem mv_12_305 : MV 12 305 12 yX12_readsLike cX12_readsLike 1 (some .boolean) 0 := MV.mk (tbp_mem (p := 6) (i := 183) (by decide +kernel) rfl) wm_yX12_readsLike wv_yX12_readsLike wi_12 wc_yX12_readsLike (by decide +kernel)
theorem mv_12_308 : MV 12 308 12 yX12_readsSlip cX12_readsSlip 1 (some .boolean) 0 := MV.mk (tbp_mem (p := 6) (i := 187) (by decide +kernel) rfl) wm_yX12_readsSlip wv_yX12_readsSlip wi_12 wc_yX12_readsSlip (by decide +kernel)
theorem mv_12_311 : MV 12 311 12 yX12_readsWish cX12_readsWish 1 (some .boolean) 0 := MV.mk (tbp_mem (p := 6) (i := 191) (by decide +kernel) rfl) wm_yX12_readsWish wv_yX12_readsWish wi_12 wc_yX12_readsWish (by decide +kernel)
theorem mv_12_293 : MV 12 293 12 yX12_reads cX12_reads 6 (some .boolean) 0 := MV.mk (tbp_mem (p := 6) (i := 195) (by decide +kernel) rfl) wm_yX12_reads wv_yX12_reads wi_12 wc_yX12_reads (by decide +kernel)
theorem mv_12_187 : MV 12 187 12 yX12_fact cX12_fact 1 (some .int) 0 := MV.mk (tbp_mem (p := 6) (i := 199) (by decide +kernel) rfl) wm_yX12_fact wv_yX12_fact wi_12 wc_yX12_fact (by decide +kernel)
theorem mv_12_204 : MV 12 204 12 yX12_puts cX12_puts 2 none 1 := MV.mk (tbp_mem (p := 6) (i := 207) (by decide +kernel) rfl) wm_yX12_puts wv_yX12_puts wi_12 wc_yX12_puts (by decide +kernel)
theorem mv_12_321 : MV 12 321 12 yX12_lays cX12_lays 3 none 2 := MV.mk (tbp_mem (p := 6) (i := 211) (by decide +kernel) rfl) wm_yX12_lays wv_yX12_lays wi_12 wc_yX12_lays (by decide +kernel)
theorem ms_12_314 : MS 12 314 yX12_moves cX12_moves 5 none 4 := MS.mk (tbp_mem (p := 6) (i := 215) (by decide +kernel) rfl) wm_yX12_moves wi_12 wc_yX12_moves (by decide +kernel)
theorem ms_12_325 : MS 12 325 yX12_copies cX12_copies 5 none 4 := MS.mk (tbp_mem (p := 6) (i := 218) (by decide +kernel) rfl) wm_yX12_copies wi_12 wc_yX12_copies (by decide +kernel)
theorem mv_13_35 : MV 13 35 12 yX12_pupil cX12_pupil 3 (some .int) 2 := MV.mk (tbp_mem (p := 6) (i := 221) (by decide +kernel) rfl) wm_yX12_pupil wv_yX12_pupil wi_12 wc_yX12_pupil (by decide +kernel)
theorem mv_12_329 : MV 12 329 12 yX12_isPupil cX12_isPupil 2 (some .boolean) 1 := MV.mk (tbp_mem (p := 6) (i := 225) (by decide +kernel) rfl) wm_yX12_isPupil wv_yX12_isPupil wi_12 wc_yX12_isPupil (by decide +kernel)
theorem mv_13_40 : MV 13 40 12 yX12_say cX12_say 4 (some .int) 3 := MV.mk (tbp_mem (p := 6) (i := 229) (by decide +kernel) rfl) wm_yX12_say wv_yX12_say wi_12 wc_yX12_say (by decide +kernel)
theorem mv_12_332 : MV 12 332 12 yX12_areTwo cX12_areTwo 3 (some .boolean) 2 := MV.mk (tbp_mem (p := 6) (i := 233) (by decide +kernel) rfl) wm_yX12_areTwo wv_yX12_areTwo wi_12 wc_yX12_areTwo (by decide +kernel)
theorem mv_13_45 : MV 13 45 12 yX12_unsay cX12_unsay 1 (some .boolean) 0 := MV.mk (tbp_mem (p := 6) (i := 237) (by decide +kernel) rfl) wm_yX12_unsay wv_yX12_unsay wi_12 wc_yX12_unsay (by decide +kernel)
theorem mv_13_49 : MV 13 49 12 yX12_saying cX12_saying 3 (some .int) 2 := MV.mk (tbp_mem (p := 7) (i := 1) (by decide +kernel) rfl) wm_yX12_saying wv_yX12_saying wi_12 wc_yX12_saying (by decide +kernel)
theorem mv_13_53 : MV 13 53 12 yX12_orders cX12_orders 1 (some .int) 0 := MV.mk (tbp_mem (p := 7) (i := 5) (by decide +kernel) rfl) wm_yX12_orders wv_yX12_orders wi_12 wc_yX12_orders (by decide +kernel)
theorem mv_12_344 : MV 12 344 12 yX12_fittingAll cX12_fittingAll 1 (some .int) 0 := MV.mk (tbp_mem (p := 7) (i := 9) (by decide +kernel) rfl) wm_yX12_fittingAll wv_yX12_fittingAll wi_12 wc_yX12_fittingAll (by decide +kernel)
theorem mv_12_335 : MV 12 335 12 yX12_asks cX12_asks 3 none 1 := MV.mk (tbp_mem (p := 7) (i := 13) (by decide +kernel) rfl) wm_yX12_asks wv_yX12_asks wi_12 wc_yX12_asks (by decide +kernel)
theorem mv_12_338 : MV 12 338 12 yX12_everybody cX12_everybody 1 (some .int) 0 := MV.mk (tbp_mem (p := 7) (i := 17) (by decide +kernel) rfl) wm_yX12_everybody wv_yX12_everybody wi_12 wc_yX12_everybody (by decide +kernel)
theorem mv_12_341 : MV 12 341 12 yX12_fitting cX12_fitting 5 (some .int) 1 := MV.mk (tbp_mem (p := 7) (i := 21) (by decide +kernel) rfl) wm_yX12_fitting wv_yX12_fitting wi_12 wc_yX12_fitting (by decide +kernel)
theorem mv_13_57 : MV 13 57 12 yX12_sure cX12_sure 3 (some .int) 2 := MV.mk (tbp_mem (p := 7) (i := 25) (by decide +kernel) rfl) wm_yX12_sure wv_yX12_sure wi_12 wc_yX12_sure (by decide +kernel)
theorem mv_12_347 : MV 12 347 12 yX12_isSure cX12_isSure 5 (some .boolean) 0 := MV.mk (tbp_mem (p := 7) (i := 29) (by decide +kernel) rfl) wm_yX12_isSure wv_yX12_isSure wi_12 wc_yX12_isSure (by decide +kernel)
theorem mv_13_61 : MV 13 61 12 yX12_span cX12_span 5 (some .int) 2 := MV.mk (tbp_mem (p := 7) (i := 33) (by decide +kernel) rfl) wm_yX12_span wv_yX12_span wi_12 wc_yX12_span (by decide +kernel)
theorem ms_12_350 : MS 12 350 yX12_bits cX12_bits 3 (some .int) 1 := MS.mk (tbp_mem (p := 7) (i := 37) (by decide +kernel) rfl) wm_yX12_bits wi_12 wc_yX12_bits (by decide +kernel)
theorem mv_13_65 : MV 13 65 12 yX12_dropped cX12_dropped 2 (some .int) 1 := MV.mk (tbp_mem (p := 7) (i := 40) (by decide +kernel) rfl) wm_yX12_dropped wv_yX12_dropped wi_12 wc_yX12_dropped (by decide +kernel)
theorem mv_12_363 : MV 12 363 12 yX12_fewest cX12_fewest 5 (some .int) 1 := MV.mk (tbp_mem (p := 7) (i := 44) (by decide +kernel) rfl) wm_yX12_fewest wv_yX12_fewest wi_12 wc_yX12_fewest (by decide +kernel)
theorem mv_12_353 : MV 12 353 12 yX12_broken cX12_broken 6 (some .int) 3 := MV.mk (tbp_mem (p := 7) (i := 48) (by decide +kernel) rfl) wm_yX12_broken wv_yX12_broken wi_12 wc_yX12_broken (by decide +kernel)
theorem ms_12_357 : MS 12 357 yJ9_min_7cf53 cJ9_min_7cf53 2 (some .int) 2 := MS.mk (tbp_mem (p := 7) (i := 52) (by decide +kernel) rfl) wm_yJ9_min_7cf53 wi_16 wc_yJ9_min_7cf53 (by decide +kernel)
theorem mv_13_69 : MV 13 69 12 yX12_row cX12_row 2 (some .int) 1 := MV.mk (tbp_mem (p := 7) (i := 53) (by decide +kernel) rfl) wm_yX12_row wv_yX12_row wi_12 wc_yX12_row (by decide +kernel)
theorem mv_12_366 : MV 12 366 12 yX12_lines cX12_lines 4 none 0 := MV.mk (tbp_mem (p := 7) (i := 57) (by decide +kernel) rfl) wm_yX12_lines wv_yX12_lines wi_12 wc_yX12_lines (by decide +kernel)
theorem mv_13_73 : MV 13 73 12 yX12_helped cX12_helped 3 (some .int) 0 := MV.mk (tbp_mem (p := 7) (i := 61) (by decide +kernel) rfl) wm_yX12_helped wv_yX12_helped wi_12 wc_yX12_helped (by decide +kernel)
theorem mv_13_77 : MV 13 77 12 yX12_unlike cX12_unlike 4 (some .int) 0 := MV.mk (tbp_mem (p := 7) (i := 65) (by decide +kernel) rfl) wm_yX12_unlike wv_yX12_unlike wi_12 wc_yX12_unlike (by decide +kernel)
theorem mv_12_369 : MV 12 369 12 yX12_says cX12_says 5 (some .boolean) 3 := MV.mk (tbp_mem (p := 7) (i := 69) (by decide +kernel) rfl) wm_yX12_says wv_yX12_says wi_12 wc_yX12_says (by decide +kernel)
theorem mv_13_82 : MV 13 82 12 yX12_chance cX12_chance 8 (some .long) 3 := MV.mk (tbp_mem (p := 7) (i := 73) (by decide +kernel) rfl) wm_yX12_chance wv_yX12_chance wi_12 wc_yX12_chance (by decide +kernel)
theorem mv_12_378 : MV 12 378 12 yX12_weighing cX12_weighing 6 (some .long) 2 := MV.mk (tbp_mem (p := 7) (i := 78) (by decide +kernel) rfl) wm_yX12_weighing wv_yX12_weighing wi_12 wc_yX12_weighing (by decide +kernel)
theorem mv_12_372 : MV 12 372 12 yX12_partOf cX12_partOf 7 (some .long) 2 := MV.mk (tbp_mem (p := 7) (i := 82) (by decide +kernel) rfl) wm_yX12_partOf wv_yX12_partOf wi_12 wc_yX12_partOf (by decide +kernel)
theorem ms_12_381 : MS 12 381 yX12_gcd cX12_gcd 10 (some .long) 2 := MS.mk (tbp_mem (p := 7) (i := 86) (by decide +kernel) rfl) wm_yX12_gcd wi_12 wc_yX12_gcd (by decide +kernel)
theorem mv_13_86 : MV 13 86 12 yX12_next cX12_next 2 (some .int) 1 := MV.mk (tbp_mem (p := 7) (i := 89) (by decide +kernel) rfl) wm_yX12_next wv_yX12_next wi_12 wc_yX12_next (by decide +kernel)
theorem mv_12_397 : MV 12 397 12 yX12_looks cX12_looks 6 (some .boolean) 0 := MV.mk (tbp_mem (p := 7) (i := 93) (by decide +kernel) rfl) wm_yX12_looks wv_yX12_looks wi_12 wc_yX12_looks (by decide +kernel)
theorem ms_12_388 : MS 12 388 yJ9_max_7cf53 cJ9_max_7cf53 2 (some .int) 2 := MS.mk (tbp_mem (p := 7) (i := 97) (by decide +kernel) rfl) wm_yJ9_max_7cf53 wi_16 wc_yJ9_max_7cf53 (by decide +kernel)
theorem mv_13_90 : MV 13 90 12 yX12_needed cX12_needed 4 (some .int) 0 := MV.mk (tbp_mem (p := 7) (i := 98) (by decide +kernel) rfl) wm_yX12_needed wv_yX12_needed wi_12 wc_yX12_needed (by decide +kernel)
theorem mv_12_407 : MV 12 407 12 yX12_needs cX12_needs 9 (some .int) 1 := MV.mk (tbp_mem (p := 7) (i := 102) (by decide +kernel) rfl) wm_yX12_needs wv_yX12_needs wi_12 wc_yX12_needs (by decide +kernel)
theorem ms_12_400 : MS 12 400 yX12_bit cX12_bit 3 (some .int) 3 := MS.mk (tbp_mem (p := 7) (i := 107) (by decide +kernel) rfl) wm_yX12_bit wi_12 wc_yX12_bit (by decide +kernel)
theorem mv_12_404 : MV 12 404 12 yX12_closes cX12_closes 9 (some .int) 3 := MV.mk (tbp_mem (p := 7) (i := 110) (by decide +kernel) rfl) wm_yX12_closes wv_yX12_closes wi_12 wc_yX12_closes (by decide +kernel)
theorem mv_13_94 : MV 13 94 12 yX12_newOne cX12_newOne 7 (some .int) 1 := MV.mk (tbp_mem (p := 7) (i := 114) (by decide +kernel) rfl) wm_yX12_newOne wv_yX12_newOne wi_12 wc_yX12_newOne (by decide +kernel)
theorem mv_12_410 : MV 12 410 12 yX12_isLast cX12_isLast 4 (some .boolean) 3 := MV.mk (tbp_mem (p := 7) (i := 118) (by decide +kernel) rfl) wm_yX12_isLast wv_yX12_isLast wi_12 wc_yX12_isLast (by decide +kernel)
theorem mv_13_99 : MV 13 99 12 yX12_sit cX12_sit 4 (some .boolean) 2 := MV.mk (tbp_mem (p := 7) (i := 122) (by decide +kernel) rfl) wm_yX12_sit wv_yX12_sit wi_12 wc_yX12_sit (by decide +kernel)
theorem mv_12_413 : MV 12 413 12 yX12_isSeat cX12_isSeat 2 (some .boolean) 1 := MV.mk (tbp_mem (p := 7) (i := 126) (by decide +kernel) rfl) wm_yX12_isSeat wv_yX12_isSeat wi_12 wc_yX12_isSeat (by decide +kernel)
theorem mv_13_103 : MV 13 103 12 yX12_plan cX12_plan 4 (some .boolean) 2 := MV.mk (tbp_mem (p := 7) (i := 130) (by decide +kernel) rfl) wm_yX12_plan wv_yX12_plan wi_12 wc_yX12_plan (by decide +kernel)
theorem mv_13_107 : MV 13 107 12 yX12_changes cX12_changes 7 (some .int) 0 := MV.mk (tbp_mem (p := 7) (i := 134) (by decide +kernel) rfl) wm_yX12_changes wv_yX12_changes wi_12 wc_yX12_changes (by decide +kernel)
theorem mv_12_416 : MV 12 416 12 yX12_sitter cX12_sitter 3 (some .int) 1 := MV.mk (tbp_mem (p := 7) (i := 138) (by decide +kernel) rfl) wm_yX12_sitter wv_yX12_sitter wi_12 wc_yX12_sitter (by decide +kernel)
theorem mv_13_113 : MV 13 113 12 yX12_hidden cX12_hidden 6 (some .int) 1 := MV.mk (tbp_mem (p := 7) (i := 142) (by decide +kernel) rfl) wm_yX12_hidden wv_yX12_hidden wi_12 wc_yX12_hidden (by decide +kernel)
theorem mv_13_120 : MV 13 120 12 yX12_wishes cX12_wishes 3 (some .int) 2 := MV.mk (tbp_mem (p := 7) (i := 146) (by decide +kernel) rfl) wm_yX12_wishes wv_yX12_wishes wi_12 wc_yX12_wishes (by decide +kernel)
theorem mv_12_422 : MV 12 422 12 yX12_wishing cX12_wishing 6 (some .int) 2 := MV.mk (tbp_mem (p := 7) (i := 150) (by decide +kernel) rfl) wm_yX12_wishing wv_yX12_wishing wi_12 wc_yX12_wishing (by decide +kernel)
theorem mv_12_419 : MV 12 419 12 yX12_worked cX12_worked 6 (some .int) 1 := MV.mk (tbp_mem (p := 7) (i := 154) (by decide +kernel) rfl) wm_yX12_worked wv_yX12_worked wi_12 wc_yX12_worked (by decide +kernel)
theorem mv_12_218 : MV 12 218 12 yX12_opens cX12_opens 2 none 1 := MV.mk (tbp_mem (p := 7) (i := 158) (by decide +kernel) rfl) wm_yX12_opens wv_yX12_opens wi_12 wc_yX12_opens (by decide +kernel)
theorem mv_12_215 : MV 12 215 12 yX12_sums cX12_sums 2 none 1 := MV.mk (tbp_mem (p := 7) (i := 162) (by decide +kernel) rfl) wm_yX12_sums wv_yX12_sums wi_12 wc_yX12_sums (by decide +kernel)
theorem mv_12_221 : MV 12 221 12 yX12_tests cX12_tests 3 none 1 := MV.mk (tbp_mem (p := 7) (i := 166) (by decide +kernel) rfl) wm_yX12_tests wv_yX12_tests wi_12 wc_yX12_tests (by decide +kernel)
theorem mv_13_124 : MV 13 124 12 yX12_rests cX12_rests 1 (some .int) 0 := MV.mk (tbp_mem (p := 7) (i := 170) (by decide +kernel) rfl) wm_yX12_rests wv_yX12_rests wi_12 wc_yX12_rests (by decide +kernel)
theorem mv_12_437 : MV 12 437 12 yX12_resting cX12_resting 4 (some .boolean) 1 := MV.mk (tbp_mem (p := 7) (i := 174) (by decide +kernel) rfl) wm_yX12_resting wv_yX12_resting wi_12 wc_yX12_resting (by decide +kernel)
theorem mv_12_434 : MV 12 434 12 yX12_pairs cX12_pairs 4 none 1 := MV.mk (tbp_mem (p := 7) (i := 178) (by decide +kernel) rfl) wm_yX12_pairs wv_yX12_pairs wi_12 wc_yX12_pairs (by decide +kernel)
theorem mv_12_425 : MV 12 425 12 yX12_areAtRest cX12_areAtRest 3 (some .boolean) 0 := MV.mk (tbp_mem (p := 7) (i := 182) (by decide +kernel) rfl) wm_yX12_areAtRest wv_yX12_areAtRest wi_12 wc_yX12_areAtRest (by decide +kernel)
theorem mv_13_128 : MV 13 128 12 yX12_rest cX12_rest 3 (some .int) 2 := MV.mk (tbp_mem (p := 7) (i := 186) (by decide +kernel) rfl) wm_yX12_rest wv_yX12_rest wi_12 wc_yX12_rest (by decide +kernel)
theorem mv_13_132 : MV 13 132 12 yX12_season cX12_season 10 (some .int) 2 := MV.mk (tbp_mem (p := 7) (i := 190) (by decide +kernel) rfl) wm_yX12_season wv_yX12_season wi_12 wc_yX12_season (by decide +kernel)
theorem mv_12_451 : MV 12 451 12 yX12_draws cX12_draws 2 (some .int) 1 := MV.mk (tbp_mem (p := 7) (i := 194) (by decide +kernel) rfl) wm_yX12_draws wv_yX12_draws wi_12 wc_yX12_draws (by decide +kernel)
theorem mv_12_454 : MV 12 454 12 yX12_placeOf cX12_placeOf 3 (some .int) 1 := MV.mk (tbp_mem (p := 7) (i := 202) (by decide +kernel) rfl) wm_yX12_placeOf wv_yX12_placeOf wi_12 wc_yX12_placeOf (by decide +kernel)
theorem mv_12_457 : MV 12 457 12 yX12_hears cX12_hears 4 none 2 := MV.mk (tbp_mem (p := 7) (i := 206) (by decide +kernel) rfl) wm_yX12_hears wv_yX12_hears wi_12 wc_yX12_hears (by decide +kernel)
theorem mv_13_137 : MV 13 137 12 yX12_mark cX12_mark 3 (some .boolean) 2 := MV.mk (tbp_mem (p := 7) (i := 210) (by decide +kernel) rfl) wm_yX12_mark wv_yX12_mark wi_12 wc_yX12_mark (by decide +kernel)
theorem mv_13_141 : MV 13 141 12 yX12_count cX12_count 4 (some .int) 1 := MV.mk (tbp_mem (p := 7) (i := 214) (by decide +kernel) rfl) wm_yX12_count wv_yX12_count wi_12 wc_yX12_count (by decide +kernel)
theorem mi_11_15 : MI 11 15 yX3_init cX3_init 1 0 := MI.mk (Or.inr (by decide +kernel)) wm_yX3_init wi_3 wc_yX3_init (by decide +kernel)
theorem mi_6_11 : MI 6 11 yX4_init cX4_init 1 0 := MI.mk (Or.inr (by decide +kernel)) wm_yX4_init wi_4 wc_yX4_init (by decide +kernel)
theorem mi_3_20 : MI 3 20 yX8_init cX8_init 1 0 := MI.mk (Or.inr (by decide +kernel)) wm_yX8_init wi_8 wc_yX8_init (by decide +kernel)
theorem mi_11_33 : MI 11 33 yX2_init cX2_init 1 0 := MI.mk (Or.inr (by decide +kernel)) wm_yX2_init wi_2 wc_yX2_init (by decide +kernel)
theorem mi_11_52 : MI 11 52 yX1_init cX1_init 1 0 := MI.mk (Or.inr (by decide +kernel)) wm_yX1_init wi_1 wc_yX1_init (by decide +kernel)
theorem mi_11_59 : MI 11 59 yX0_init cX0_init 1 0 := MI.mk (Or.inr (by decide +kernel)) wm_yX0_init wi_0 wc_yX0_init (by decide +kernel)
theorem mi_11_66 : MI 11 66 yX9_init cX9_init 1 0 := MI.mk (Or.inr (by decide +kernel)) wm_yX9_init wi_9 wc_yX9_init (by decide +kernel)
theorem mi_11_73 : MI 11 73 yX5_init cX5_init 1 0 := MI.mk (Or.inr (by decide +kernel)) wm_yX5_init wi_5 wc_yX5_init (by decide +kernel)
theorem mi_5_20 : MI 5 20 yX2_init cX2_init 1 0 := MI.mk (Or.inr (by decide +kernel)) wm_yX2_init wi_2 wc_yX2_init (by decide +kernel)
theorem mi_3_38 : MI 3 38 yX4_init cX4_init 1 0 := MI.mk (Or.inr (by decide +kernel)) wm_yX4_init wi_4 wc_yX4_init (by decide +kernel)
theorem ml_11_3 : Cond.methodLink (RN 11) 3 objectInit ∈ gtbl := tbp_mem (p := 1) (i := 29) (by decide +kernel) rfl
theorem ml_3_3 : Cond.methodLink (RN 3) 3 objectInit ∈ gtbl := tbp_mem (p := 1) (i := 37) (by decide +kernel) rfl
theorem ml_6_3 : Cond.methodLink (RN 6) 3 objectInit ∈ gtbl := tbp_mem (p := 1) (i := 43) (by decide +kernel) rfl
theorem ml_4_3 : Cond.methodLink (RN 4) 3 objectInit ∈ gtbl := tbp_mem (p := 1) (i := 49) (by decide +kernel) rfl
theorem ml_8_3 : Cond.methodLink (RN 8) 3 objectInit ∈ gtbl := tbp_mem (p := 1) (i := 162) (by decide +kernel) rfl
theorem ml_2_3 : Cond.methodLink (RN 2) 3 objectInit ∈ gtbl := tbp_mem (p := 1) (i := 237) (by decide +kernel) rfl
theorem ml_7_3 : Cond.methodLink (RN 7) 3 objectInit ∈ gtbl := tbp_mem (p := 2) (i := 26) (by decide +kernel) rfl
theorem ml_1_3 : Cond.methodLink (RN 1) 3 objectInit ∈ gtbl := tbp_mem (p := 2) (i := 63) (by decide +kernel) rfl
theorem ml_0_3 : Cond.methodLink (RN 0) 3 objectInit ∈ gtbl := tbp_mem (p := 2) (i := 95) (by decide +kernel) rfl
theorem ml_9_3 : Cond.methodLink (RN 9) 3 objectInit ∈ gtbl := tbp_mem (p := 2) (i := 114) (by decide +kernel) rfl
theorem ml_5_3 : Cond.methodLink (RN 5) 3 objectInit ∈ gtbl := tbp_mem (p := 2) (i := 143) (by decide +kernel) rfl
theorem ml_6_44 : Cond.methodLink (RN 6) 44 arraycopyName ∈ gtbl := tbp_mem (p := 3) (i := 71) (by decide +kernel) rfl
theorem ml_18_150 : Cond.methodLink (RN 18) 150 arraycopyName ∈ gtbl := tbp_mem (p := 3) (i := 129) (by decide +kernel) rfl
theorem ml_12_1 : Cond.methodLink (RN 12) 1 objectInit ∈ gtbl := tbp_mem (p := 5) (i := 135) (by decide +kernel) rfl
theorem wk_13_8 : Cond.classLink (RN 13) 8 RX11 ∈ gtbl := tbp_mem (p := 1) (i := 24) (by decide +kernel) rfl
theorem wn_11 : Cond.instantiable RX11 12 ∈ gtbl := tbp_mem (p := 1) (i := 25) (by decide +kernel) rfl
theorem wk_11_13 : Cond.classLink (RN 11) 13 RX3 ∈ gtbl := tbp_mem (p := 1) (i := 32) (by decide +kernel) rfl
theorem wn_3 : Cond.instantiable RX3 11 ∈ gtbl := tbp_mem (p := 1) (i := 33) (by decide +kernel) rfl
theorem wk_3_9 : Cond.classLink (RN 3) 9 RX6 ∈ gtbl := tbp_mem (p := 1) (i := 38) (by decide +kernel) rfl
theorem wn_6 : Cond.instantiable RX6 8 ∈ gtbl := tbp_mem (p := 1) (i := 39) (by decide +kernel) rfl
theorem wk_6_9 : Cond.classLink (RN 6) 9 RX4 ∈ gtbl := tbp_mem (p := 1) (i := 44) (by decide +kernel) rfl
theorem wn_4 : Cond.instantiable RX4 8 ∈ gtbl := tbp_mem (p := 1) (i := 45) (by decide +kernel) rfl
theorem wa_byte : Cond.arrayClass .byte ∈ gtbl := tbp_mem (p := 1) (i := 100) (by decide +kernel) rfl
theorem wa_int : Cond.arrayClass .int ∈ gtbl := tbp_mem (p := 1) (i := 101) (by decide +kernel) rfl
theorem wk_3_18 : Cond.classLink (RN 3) 18 RX8 ∈ gtbl := tbp_mem (p := 1) (i := 157) (by decide +kernel) rfl
theorem wn_8 : Cond.instantiable RX8 8 ∈ gtbl := tbp_mem (p := 1) (i := 158) (by decide +kernel) rfl
theorem wa_long : Cond.arrayClass .long ∈ gtbl := tbp_mem (p := 1) (i := 228) (by decide +kernel) rfl
theorem wk_11_20 : Cond.classLink (RN 11) 20 RX6 ∈ gtbl := tbp_mem (p := 1) (i := 229) (by decide +kernel) rfl
theorem wk_11_31 : Cond.classLink (RN 11) 31 RX2 ∈ gtbl := tbp_mem (p := 1) (i := 232) (by decide +kernel) rfl
theorem wn_2 : Cond.instantiable RX2 7 ∈ gtbl := tbp_mem (p := 1) (i := 233) (by decide +kernel) rfl
theorem wk_11_38 : Cond.classLink (RN 11) 38 RX7 ∈ gtbl := tbp_mem (p := 2) (i := 21) (by decide +kernel) rfl
theorem wn_7 : Cond.instantiable RX7 10 ∈ gtbl := tbp_mem (p := 2) (i := 22) (by decide +kernel) rfl
theorem wk_11_50 : Cond.classLink (RN 11) 50 RX1 ∈ gtbl := tbp_mem (p := 2) (i := 58) (by decide +kernel) rfl
theorem wn_1 : Cond.instantiable RX1 8 ∈ gtbl := tbp_mem (p := 2) (i := 59) (by decide +kernel) rfl
theorem wk_11_57 : Cond.classLink (RN 11) 57 RX0 ∈ gtbl := tbp_mem (p := 2) (i := 90) (by decide +kernel) rfl
theorem wn_0 : Cond.instantiable RX0 4 ∈ gtbl := tbp_mem (p := 2) (i := 91) (by decide +kernel) rfl
theorem wk_11_64 : Cond.classLink (RN 11) 64 RX9 ∈ gtbl := tbp_mem (p := 2) (i := 109) (by decide +kernel) rfl
theorem wn_9 : Cond.instantiable RX9 7 ∈ gtbl := tbp_mem (p := 2) (i := 110) (by decide +kernel) rfl
theorem wk_11_71 : Cond.classLink (RN 11) 71 RX5 ∈ gtbl := tbp_mem (p := 2) (i := 138) (by decide +kernel) rfl
theorem wn_5 : Cond.instantiable RX5 4 ∈ gtbl := tbp_mem (p := 2) (i := 139) (by decide +kernel) rfl
theorem wk_5_9 : Cond.classLink (RN 5) 9 RX6 ∈ gtbl := tbp_mem (p := 2) (i := 144) (by decide +kernel) rfl
theorem wk_5_18 : Cond.classLink (RN 5) 18 RX2 ∈ gtbl := tbp_mem (p := 2) (i := 146) (by decide +kernel) rfl
theorem wk_3_36 : Cond.classLink (RN 3) 36 RX4 ∈ gtbl := tbp_mem (p := 2) (i := 216) (by decide +kernel) rfl
theorem wk_13_16 : Cond.classLink (RN 13) 16 RX12 ∈ gtbl := tbp_mem (p := 5) (i := 130) (by decide +kernel) rfl
theorem wn_12 : Cond.instantiable RX12 62 ∈ gtbl := tbp_mem (p := 5) (i := 131) (by decide +kernel) rfl
theorem wa_boolean : Cond.arrayClass .boolean ∈ gtbl := tbp_mem (p := 6) (i := 83) (by decide +kernel) rfl
theorem w_oi : Cond.instanceMethod objectInit ∈ gtbl ∧ Cond.code objectInit ⟨#[0xb1]⟩ 1 none ∈ gtbl := ⟨List.mem_filter.mpr ⟨by decide +kernel, rfl⟩, List.mem_filter.mpr ⟨by decide +kernel, rfl⟩⟩
