theorem dX12_nextToken_314 : decode cX12_nextToken 314 = .ok (.goto 4, 3) := by decide +kernel
theorem dX12_nextToken_317 : decode cX12_nextToken 317 = .ok (.iconst 2, 1) := by decide +kernel
theorem dX12_nextToken_318 : decode cX12_nextToken 318 = .ok (.putfield 160, 3) := by decide +kernel
theorem dX12_nextToken_321 : decode cX12_nextToken 321 = .ok (.return_, 1) := by decide +kernel
theorem dX12_nextToken_322 : decode cX12_nextToken 322 = .ok (.aload_n 0, 1) := by decide +kernel
theorem dX12_nextToken_323 : decode cX12_nextToken 323 = .ok (.dup, 1) := by decide +kernel
theorem dX12_nextToken_324 : decode cX12_nextToken 324 = .ok (.getfield 147, 3) := by decide +kernel
theorem dX12_nextToken_327 : decode cX12_nextToken 327 = .ok (.iconst 1, 1) := by decide +kernel
theorem dX12_nextToken_328 : decode cX12_nextToken 328 = .ok (.iadd, 1) := by decide +kernel
theorem dX12_nextToken_329 : decode cX12_nextToken 329 = .ok (.putfield 147, 3) := by decide +kernel
theorem dX12_nextToken_332 : decode cX12_nextToken 332 = .ok (.aload_n 0, 1) := by decide +kernel
theorem dX12_nextToken_333 : decode cX12_nextToken 333 = .ok (.iload_n 1, 1) := by decide +kernel
theorem dX12_nextToken_334 : decode cX12_nextToken 334 = .ok (.bipush 40, 2) := by decide +kernel
theorem dX12_nextToken_336 : decode cX12_nextToken 336 = .ok (.if_icmp .lt 9, 3) := by decide +kernel
theorem dX12_nextToken_339 : decode cX12_nextToken 339 = .ok (.iload_n 1, 1) := by decide +kernel
theorem dX12_nextToken_340 : decode cX12_nextToken 340 = .ok (.bipush 43, 2) := by decide +kernel
theorem dX12_nextToken_342 : decode cX12_nextToken 342 = .ok (.if_icmp .le 21, 3) := by decide +kernel
theorem dX12_nextToken_345 : decode cX12_nextToken 345 = .ok (.iload_n 1, 1) := by decide +kernel
theorem dX12_nextToken_346 : decode cX12_nextToken 346 = .ok (.bipush 45, 2) := by decide +kernel
theorem dX12_nextToken_348 : decode cX12_nextToken 348 = .ok (.if_icmp .eq 15, 3) := by decide +kernel
theorem dX12_nextToken_351 : decode cX12_nextToken 351 = .ok (.iload_n 1, 1) := by decide +kernel
theorem dX12_nextToken_352 : decode cX12_nextToken 352 = .ok (.bipush 59, 2) := by decide +kernel
theorem dX12_nextToken_354 : decode cX12_nextToken 354 = .ok (.if_icmp .lt 13, 3) := by decide +kernel
theorem dX12_nextToken_357 : decode cX12_nextToken 357 = .ok (.iload_n 1, 1) := by decide +kernel
theorem dX12_nextToken_358 : decode cX12_nextToken 358 = .ok (.bipush 61, 2) := by decide +kernel
theorem dX12_nextToken_360 : decode cX12_nextToken 360 = .ok (.if_icmp .gt 7, 3) := by decide +kernel
theorem dX12_nextToken_363 : decode cX12_nextToken 363 = .ok (.iconst 3, 1) := by decide +kernel
theorem dX12_nextToken_364 : decode cX12_nextToken 364 = .ok (.goto 4, 3) := by decide +kernel
theorem dX12_nextToken_367 : decode cX12_nextToken 367 = .ok (.iconst 4, 1) := by decide +kernel
theorem dX12_nextToken_368 : decode cX12_nextToken 368 = .ok (.putfield 160, 3) := by decide +kernel
theorem dX12_nextToken_371 : decode cX12_nextToken 371 = .ok (.return_, 1) := by decide +kernel
theorem dX12_isWord_0 : decode cX12_isWord 0 = .ok (.aload_n 0, 1) := by decide +kernel
theorem dX12_isWord_1 : decode cX12_isWord 1 = .ok (.getfield 160, 3) := by decide +kernel
theorem dX12_isWord_4 : decode cX12_isWord 4 = .ok (.iconst 1, 1) := by decide +kernel
theorem dX12_isWord_5 : decode cX12_isWord 5 = .ok (.if_icmp .ne 16, 3) := by decide +kernel
theorem dX12_isWord_8 : decode cX12_isWord 8 = .ok (.aload_n 0, 1) := by decide +kernel
theorem dX12_isWord_9 : decode cX12_isWord 9 = .ok (.getfield 153, 3) := by decide +kernel
theorem dX12_isWord_12 : decode cX12_isWord 12 = .ok (.lload_n 1, 1) := by decide +kernel
theorem dX12_isWord_13 : decode cX12_isWord 13 = .ok (.lcmp, 1) := by decide +kernel
theorem dX12_isWord_14 : decode cX12_isWord 14 = .ok (.ifCond .ne 7, 3) := by decide +kernel
theorem dX12_isWord_17 : decode cX12_isWord 17 = .ok (.iconst 1, 1) := by decide +kernel
theorem dX12_isWord_18 : decode cX12_isWord 18 = .ok (.goto 4, 3) := by decide +kernel
theorem dX12_isWord_21 : decode cX12_isWord 21 = .ok (.iconst 0, 1) := by decide +kernel
theorem dX12_isWord_22 : decode cX12_isWord 22 = .ok (.ireturn, 1) := by decide +kernel
theorem dX12_isSign_0 : decode cX12_isSign 0 = .ok (.aload_n 0, 1) := by decide +kernel
theorem dX12_isSign_1 : decode cX12_isSign 1 = .ok (.getfield 160, 3) := by decide +kernel
theorem dX12_isSign_4 : decode cX12_isSign 4 = .ok (.iconst 3, 1) := by decide +kernel
theorem dX12_isSign_5 : decode cX12_isSign 5 = .ok (.if_icmp .ne 20, 3) := by decide +kernel
theorem dX12_isSign_8 : decode cX12_isSign 8 = .ok (.aload_n 0, 1) := by decide +kernel
theorem dX12_isSign_9 : decode cX12_isSign 9 = .ok (.getfield 7, 3) := by decide +kernel
theorem dX12_isSign_12 : decode cX12_isSign 12 = .ok (.aload_n 0, 1) := by decide +kernel
theorem dX12_isSign_13 : decode cX12_isSign 13 = .ok (.getfield 150, 3) := by decide +kernel
theorem dX12_isSign_16 : decode cX12_isSign 16 = .ok (.iaload, 1) := by decide +kernel
theorem dX12_isSign_17 : decode cX12_isSign 17 = .ok (.iload_n 1, 1) := by decide +kernel
theorem dX12_isSign_18 : decode cX12_isSign 18 = .ok (.if_icmp .ne 7, 3) := by decide +kernel
theorem dX12_isSign_21 : decode cX12_isSign 21 = .ok (.iconst 1, 1) := by decide +kernel
theorem dX12_isSign_22 : decode cX12_isSign 22 = .ok (.goto 4, 3) := by decide +kernel
theorem dX12_isSign_25 : decode cX12_isSign 25 = .ok (.iconst 0, 1) := by decide +kernel
theorem dX12_isSign_26 : decode cX12_isSign 26 = .ok (.ireturn, 1) := by decide +kernel
theorem dX12_fails_0 : decode cX12_fails 0 = .ok (.aload_n 0, 1) := by decide +kernel
theorem dX12_fails_1 : decode cX12_fails 1 = .ok (.iload_n 1, 1) := by decide +kernel
theorem dX12_fails_2 : decode cX12_fails 2 = .ok (.bipush 16, 2) := by decide +kernel
theorem dX12_fails_4 : decode cX12_fails 4 = .ok (.aload_n 0, 1) := by decide +kernel
theorem dX12_fails_5 : decode cX12_fails 5 = .ok (.getfield 150, 3) := by decide +kernel
theorem dX12_fails_8 : decode cX12_fails 8 = .ok (.imul, 1) := by decide +kernel
theorem dX12_fails_9 : decode cX12_fails 9 = .ok (.iadd, 1) := by decide +kernel
theorem dX12_fails_10 : decode cX12_fails 10 = .ok (.putfield 171, 3) := by decide +kernel
theorem dX12_fails_13 : decode cX12_fails 13 = .ok (.iconst 0, 1) := by decide +kernel
theorem dX12_fails_14 : decode cX12_fails 14 = .ok (.ireturn, 1) := by decide +kernel
theorem dX12_puts_0 : decode cX12_puts 0 = .ok (.aload_n 0, 1) := by decide +kernel
theorem dX12_puts_1 : decode cX12_puts 1 = .ok (.getfield 44, 3) := by decide +kernel
theorem dX12_puts_4 : decode cX12_puts 4 = .ok (.aload_n 0, 1) := by decide +kernel
theorem dX12_puts_5 : decode cX12_puts 5 = .ok (.getfield 174, 3) := by decide +kernel
theorem dX12_puts_8 : decode cX12_puts 8 = .ok (.iload_n 1, 1) := by decide +kernel
theorem dX12_puts_9 : decode cX12_puts 9 = .ok (.iastore, 1) := by decide +kernel
theorem dX12_puts_10 : decode cX12_puts 10 = .ok (.aload_n 0, 1) := by decide +kernel
theorem dX12_puts_11 : decode cX12_puts 11 = .ok (.dup, 1) := by decide +kernel
theorem dX12_puts_12 : decode cX12_puts 12 = .ok (.getfield 174, 3) := by decide +kernel
theorem dX12_puts_15 : decode cX12_puts 15 = .ok (.iconst 1, 1) := by decide +kernel
theorem dX12_puts_16 : decode cX12_puts 16 = .ok (.iadd, 1) := by decide +kernel
theorem dX12_puts_17 : decode cX12_puts 17 = .ok (.putfield 174, 3) := by decide +kernel
theorem dX12_puts_20 : decode cX12_puts 20 = .ok (.return_, 1) := by decide +kernel
theorem dX12_fact_0 : decode cX12_fact 0 = .ok (.aload_n 0, 1) := by decide +kernel
theorem dX12_fact_1 : decode cX12_fact 1 = .ok (.getfield 160, 3) := by decide +kernel
theorem dX12_fact_4 : decode cX12_fact 4 = .ok (.iconst 1, 1) := by decide +kernel
theorem dX12_fact_5 : decode cX12_fact 5 = .ok (.if_icmp .eq 5, 3) := by decide +kernel
theorem dX12_fact_8 : decode cX12_fact 8 = .ok (.iconst 0, 1) := by decide +kernel
theorem dX12_fact_9 : decode cX12_fact 9 = .ok (.ireturn, 1) := by decide +kernel
theorem dX12_fact_10 : decode cX12_fact 10 = .ok (.aload_n 0, 1) := by decide +kernel
theorem dX12_fact_11 : decode cX12_fact 11 = .ok (.getfield 153, 3) := by decide +kernel
theorem dX12_fact_14 : decode cX12_fact 14 = .ok (.ldc2_w 177, 3) := by decide +kernel
theorem dX12_fact_17 : decode cX12_fact 17 = .ok (.lcmp, 1) := by decide +kernel
theorem dX12_fact_18 : decode cX12_fact 18 = .ok (.ifCond .ne 5, 3) := by decide +kernel
theorem dX12_fact_21 : decode cX12_fact 21 = .ok (.iconst 1, 1) := by decide +kernel
theorem dX12_fact_22 : decode cX12_fact 22 = .ok (.ireturn, 1) := by decide +kernel
theorem dX12_fact_23 : decode cX12_fact 23 = .ok (.aload_n 0, 1) := by decide +kernel
theorem dX12_fact_24 : decode cX12_fact 24 = .ok (.getfield 153, 3) := by decide +kernel
theorem dX12_fact_27 : decode cX12_fact 27 = .ok (.ldc2_w 179, 3) := by decide +kernel
theorem dX12_fact_30 : decode cX12_fact 30 = .ok (.lcmp, 1) := by decide +kernel
theorem dX12_fact_31 : decode cX12_fact 31 = .ok (.ifCond .ne 5, 3) := by decide +kernel
theorem dX12_fact_34 : decode cX12_fact 34 = .ok (.iconst 2, 1) := by decide +kernel
theorem dX12_fact_35 : decode cX12_fact 35 = .ok (.ireturn, 1) := by decide +kernel
theorem dX12_fact_36 : decode cX12_fact 36 = .ok (.aload_n 0, 1) := by decide +kernel
theorem dX12_fact_37 : decode cX12_fact 37 = .ok (.getfield 153, 3) := by decide +kernel
theorem dX12_fact_40 : decode cX12_fact 40 = .ok (.ldc2_w 181, 3) := by decide +kernel
theorem dX12_fact_43 : decode cX12_fact 43 = .ok (.lcmp, 1) := by decide +kernel
theorem dX12_fact_44 : decode cX12_fact 44 = .ok (.ifCond .ne 5, 3) := by decide +kernel
theorem dX12_fact_47 : decode cX12_fact 47 = .ok (.iconst 3, 1) := by decide +kernel
theorem dX12_fact_48 : decode cX12_fact 48 = .ok (.ireturn, 1) := by decide +kernel
theorem dX12_fact_49 : decode cX12_fact 49 = .ok (.aload_n 0, 1) := by decide +kernel
theorem dX12_fact_50 : decode cX12_fact 50 = .ok (.getfield 153, 3) := by decide +kernel
theorem dX12_fact_53 : decode cX12_fact 53 = .ok (.ldc2_w 183, 3) := by decide +kernel
theorem dX12_fact_56 : decode cX12_fact 56 = .ok (.lcmp, 1) := by decide +kernel
theorem dX12_fact_57 : decode cX12_fact 57 = .ok (.ifCond .ne 5, 3) := by decide +kernel
theorem dX12_fact_60 : decode cX12_fact 60 = .ok (.iconst 4, 1) := by decide +kernel
theorem dX12_fact_61 : decode cX12_fact 61 = .ok (.ireturn, 1) := by decide +kernel
theorem dX12_fact_62 : decode cX12_fact 62 = .ok (.aload_n 0, 1) := by decide +kernel
theorem dX12_fact_63 : decode cX12_fact 63 = .ok (.getfield 153, 3) := by decide +kernel
theorem dX12_fact_66 : decode cX12_fact 66 = .ok (.ldc2_w 185, 3) := by decide +kernel
theorem dX12_fact_69 : decode cX12_fact 69 = .ok (.lcmp, 1) := by decide +kernel
theorem dX12_fact_70 : decode cX12_fact 70 = .ok (.ifCond .ne 5, 3) := by decide +kernel
theorem dX12_fact_73 : decode cX12_fact 73 = .ok (.iconst 5, 1) := by decide +kernel
theorem dX12_fact_74 : decode cX12_fact 74 = .ok (.ireturn, 1) := by decide +kernel
theorem dX12_fact_75 : decode cX12_fact 75 = .ok (.iconst 0, 1) := by decide +kernel
theorem dX12_fact_76 : decode cX12_fact 76 = .ok (.ireturn, 1) := by decide +kernel
theorem dX12_reads_0 : decode cX12_reads 0 = .ok (.iconst 0, 1) := by decide +kernel
theorem dX12_reads_1 : decode cX12_reads 1 = .ok (.istore_n 1, 1) := by decide +kernel
theorem dX12_reads_2 : decode cX12_reads 2 = .ok (.iconst 1, 1) := by decide +kernel
theorem dX12_reads_3 : decode cX12_reads 3 = .ok (.istore_n 2, 1) := by decide +kernel
theorem dX12_reads_4 : decode cX12_reads 4 = .ok (.aload_n 0, 1) := by decide +kernel
theorem dX12_reads_5 : decode cX12_reads 5 = .ok (.getfield 57, 3) := by decide +kernel
theorem dX12_reads_8 : decode cX12_reads 8 = .ok (.iconst 0, 1) := by decide +kernel
theorem dX12_reads_9 : decode cX12_reads 9 = .ok (.iconst 0, 1) := by decide +kernel
theorem dX12_reads_10 : decode cX12_reads 10 = .ok (.bastore, 1) := by decide +kernel
theorem dX12_reads_11 : decode cX12_reads 11 = .ok (.iload_n 2, 1) := by decide +kernel
theorem dX12_reads_12 : decode cX12_reads 12 = .ok (.ifCond .eq 167, 3) := by decide +kernel
theorem dX12_reads_15 : decode cX12_reads 15 = .ok (.aload_n 0, 1) := by decide +kernel
theorem dX12_reads_16 : decode cX12_reads 16 = .ok (.invokevirtual 187, 3) := by decide +kernel
theorem dX12_reads_19 : decode cX12_reads 19 = .ok (.istore_n 3, 1) := by decide +kernel
theorem dX12_reads_20 : decode cX12_reads 20 = .ok (.aload_n 0, 1) := by decide +kernel
theorem dX12_reads_21 : decode cX12_reads 21 = .ok (.ldc2_w 191, 3) := by decide +kernel
theorem dX12_reads_24 : decode cX12_reads 24 = .ok (.invokevirtual 193, 3) := by decide +kernel
theorem dX12_reads_27 : decode cX12_reads 27 = .ok (.istore 4, 2) := by decide +kernel
theorem dX12_reads_29 : decode cX12_reads 29 = .ok (.aload_n 0, 1) := by decide +kernel
theorem dX12_reads_30 : decode cX12_reads 30 = .ok (.bipush 40, 2) := by decide +kernel
theorem dX12_reads_32 : decode cX12_reads 32 = .ok (.invokevirtual 197, 3) := by decide +kernel
theorem dX12_reads_35 : decode cX12_reads 35 = .ok (.istore 5, 2) := by decide +kernel
theorem dX12_reads_37 : decode cX12_reads 37 = .ok (.iload_n 3, 1) := by decide +kernel
theorem dX12_reads_38 : decode cX12_reads 38 = .ok (.ifCond .ne 27, 3) := by decide +kernel
theorem dX12_reads_41 : decode cX12_reads 41 = .ok (.iload 4, 2) := by decide +kernel
theorem dX12_reads_43 : decode cX12_reads 43 = .ok (.ifCond .ne 22, 3) := by decide +kernel
theorem dX12_reads_46 : decode cX12_reads 46 = .ok (.iload 5, 2) := by decide +kernel
theorem dX12_reads_48 : decode cX12_reads 48 = .ok (.ifCond .ne 17, 3) := by decide +kernel
theorem dX12_reads_51 : decode cX12_reads 51 = .ok (.aload_n 0, 1) := by decide +kernel
theorem dX12_reads_52 : decode cX12_reads 52 = .ok (.getfield 160, 3) := by decide +kernel
theorem dX12_reads_55 : decode cX12_reads 55 = .ok (.iconst 2, 1) := by decide +kernel
theorem dX12_reads_56 : decode cX12_reads 56 = .ok (.if_icmp .eq 9, 3) := by decide +kernel
theorem dX12_reads_59 : decode cX12_reads 59 = .ok (.aload_n 0, 1) := by decide +kernel
theorem dX12_reads_60 : decode cX12_reads 60 = .ok (.iconst 1, 1) := by decide +kernel
theorem dX12_reads_61 : decode cX12_reads 61 = .ok (.invokevirtual 201, 3) := by decide +kernel
theorem dX12_reads_64 : decode cX12_reads 64 = .ok (.ireturn, 1) := by decide +kernel
theorem dX12_reads_65 : decode cX12_reads 65 = .ok (.iload_n 1, 1) := by decide +kernel
theorem dX12_reads_66 : decode cX12_reads 66 = .ok (.iconst 5, 1) := by decide +kernel
theorem dX12_reads_67 : decode cX12_reads 67 = .ok (.if_icmp .ne 9, 3) := by decide +kernel
theorem dX12_reads_70 : decode cX12_reads 70 = .ok (.aload_n 0, 1) := by decide +kernel
theorem dX12_reads_71 : decode cX12_reads 71 = .ok (.iconst 5, 1) := by decide +kernel
theorem dX12_reads_72 : decode cX12_reads 72 = .ok (.invokevirtual 201, 3) := by decide +kernel
theorem dX12_reads_75 : decode cX12_reads 75 = .ok (.ireturn, 1) := by decide +kernel
theorem dX12_reads_76 : decode cX12_reads 76 = .ok (.iload 4, 2) := by decide +kernel
theorem dX12_reads_78 : decode cX12_reads 78 = .ok (.ifCond .ne 8, 3) := by decide +kernel
theorem dX12_reads_81 : decode cX12_reads 81 = .ok (.iload 5, 2) := by decide +kernel
theorem dX12_reads_83 : decode cX12_reads 83 = .ok (.ifCond .eq 48, 3) := by decide +kernel
theorem dX12_reads_86 : decode cX12_reads 86 = .ok (.aload_n 0, 1) := by decide +kernel
theorem dX12_reads_87 : decode cX12_reads 87 = .ok (.iload 4, 2) := by decide +kernel
theorem dX12_reads_89 : decode cX12_reads 89 = .ok (.ifCond .eq 8, 3) := by decide +kernel
theorem dX12_reads_92 : decode cX12_reads 92 = .ok (.bipush 30, 2) := by decide +kernel
theorem dX12_reads_94 : decode cX12_reads 94 = .ok (.goto 5, 3) := by decide +kernel
theorem dX12_reads_97 : decode cX12_reads 97 = .ok (.bipush 28, 2) := by decide +kernel
theorem dX12_reads_99 : decode cX12_reads 99 = .ok (.invokevirtual 204, 3) := by decide +kernel
theorem dX12_reads_102 : decode cX12_reads 102 = .ok (.iinc 1 1, 3) := by decide +kernel
theorem dX12_reads_105 : decode cX12_reads 105 = .ok (.aload_n 0, 1) := by decide +kernel
theorem dX12_reads_106 : decode cX12_reads 106 = .ok (.getfield 54, 3) := by decide +kernel
theorem dX12_reads_109 : decode cX12_reads 109 = .ok (.iload_n 1, 1) := by decide +kernel
theorem dX12_reads_110 : decode cX12_reads 110 = .ok (.iload 4, 2) := by decide +kernel
theorem dX12_reads_112 : decode cX12_reads 112 = .ok (.ifCond .eq 7, 3) := by decide +kernel
theorem dX12_reads_115 : decode cX12_reads 115 = .ok (.iconst 1, 1) := by decide +kernel
theorem dX12_reads_116 : decode cX12_reads 116 = .ok (.goto 4, 3) := by decide +kernel
theorem dX12_reads_119 : decode cX12_reads 119 = .ok (.iconst 2, 1) := by decide +kernel
theorem dX12_reads_120 : decode cX12_reads 120 = .ok (.iastore, 1) := by decide +kernel
theorem dX12_reads_121 : decode cX12_reads 121 = .ok (.aload_n 0, 1) := by decide +kernel
theorem dX12_reads_122 : decode cX12_reads 122 = .ok (.getfield 57, 3) := by decide +kernel
theorem dX12_reads_125 : decode cX12_reads 125 = .ok (.iload_n 1, 1) := by decide +kernel
theorem dX12_reads_126 : decode cX12_reads 126 = .ok (.iconst 0, 1) := by decide +kernel
theorem dX12_reads_127 : decode cX12_reads 127 = .ok (.bastore, 1) := by decide +kernel
theorem dX12_reads_128 : decode cX12_reads 128 = .ok (.goto 44, 3) := by decide +kernel
theorem dX12_reads_131 : decode cX12_reads 131 = .ok (.aload_n 0, 1) := by decide +kernel
theorem dX12_reads_132 : decode cX12_reads 132 = .ok (.iload_n 3, 1) := by decide +kernel
theorem dX12_reads_133 : decode cX12_reads 133 = .ok (.ifCond .le 7, 3) := by decide +kernel
theorem dX12_reads_136 : decode cX12_reads 136 = .ok (.iload_n 3, 1) := by decide +kernel
theorem dX12_reads_137 : decode cX12_reads 137 = .ok (.goto 10, 3) := by decide +kernel
theorem dX12_reads_140 : decode cX12_reads 140 = .ok (.bipush 100, 2) := by decide +kernel
theorem dX12_reads_142 : decode cX12_reads 142 = .ok (.aload_n 0, 1) := by decide +kernel
theorem dX12_reads_143 : decode cX12_reads 143 = .ok (.getfield 157, 3) := by decide +kernel
theorem dX12_reads_146 : decode cX12_reads 146 = .ok (.iadd, 1) := by decide +kernel
theorem dX12_reads_147 : decode cX12_reads 147 = .ok (.invokevirtual 204, 3) := by decide +kernel
theorem dX12_reads_150 : decode cX12_reads 150 = .ok (.iconst 0, 1) := by decide +kernel
theorem dX12_reads_151 : decode cX12_reads 151 = .ok (.istore_n 2, 1) := by decide +kernel
theorem dX12_reads_152 : decode cX12_reads 152 = .ok (.iload_n 1, 1) := by decide +kernel
theorem dX12_reads_153 : decode cX12_reads 153 = .ok (.ifCond .le 19, 3) := by decide +kernel
theorem dX12_reads_156 : decode cX12_reads 156 = .ok (.aload_n 0, 1) := by decide +kernel
theorem dX12_reads_157 : decode cX12_reads 157 = .ok (.getfield 54, 3) := by decide +kernel
theorem dX12_reads_160 : decode cX12_reads 160 = .ok (.iload_n 1, 1) := by decide +kernel
theorem dX12_reads_161 : decode cX12_reads 161 = .ok (.iaload, 1) := by decide +kernel
theorem dX12_reads_162 : decode cX12_reads 162 = .ok (.iconst 1, 1) := by decide +kernel
theorem dX12_reads_163 : decode cX12_reads 163 = .ok (.if_icmp .ne 9, 3) := by decide +kernel
theorem dX12_reads_166 : decode cX12_reads 166 = .ok (.iinc 1 (-1), 3) := by decide +kernel
theorem dX12_reads_169 : decode cX12_reads 169 = .ok (.goto (-17), 3) := by decide +kernel
theorem dX12_reads_172 : decode cX12_reads 172 = .ok (.aload_n 0, 1) := by decide +kernel
theorem dX12_reads_173 : decode cX12_reads 173 = .ok (.invokevirtual 208, 3) := by decide +kernel
theorem dX12_reads_176 : decode cX12_reads 176 = .ok (.goto (-165), 3) := by decide +kernel
theorem dX12_reads_179 : decode cX12_reads 179 = .ok (.aload_n 0, 1) := by decide +kernel
theorem dX12_reads_180 : decode cX12_reads 180 = .ok (.bipush 43, 2) := by decide +kernel
theorem dX12_reads_182 : decode cX12_reads 182 = .ok (.invokevirtual 197, 3) := by decide +kernel
theorem dX12_reads_185 : decode cX12_reads 185 = .ok (.ifCond .ne 21, 3) := by decide +kernel
theorem dX12_reads_188 : decode cX12_reads 188 = .ok (.aload_n 0, 1) := by decide +kernel
theorem dX12_reads_189 : decode cX12_reads 189 = .ok (.bipush 45, 2) := by decide +kernel
theorem dX12_reads_191 : decode cX12_reads 191 = .ok (.invokevirtual 197, 3) := by decide +kernel
theorem dX12_reads_194 : decode cX12_reads 194 = .ok (.ifCond .ne 12, 3) := by decide +kernel
theorem dX12_reads_197 : decode cX12_reads 197 = .ok (.aload_n 0, 1) := by decide +kernel
theorem dX12_reads_198 : decode cX12_reads 198 = .ok (.bipush 42, 2) := by decide +kernel
theorem dX12_reads_200 : decode cX12_reads 200 = .ok (.invokevirtual 197, 3) := by decide +kernel
theorem dX12_reads_203 : decode cX12_reads 203 = .ok (.ifCond .eq 42, 3) := by decide +kernel
theorem dX12_reads_206 : decode cX12_reads 206 = .ok (.aload_n 0, 1) := by decide +kernel
theorem dX12_reads_207 : decode cX12_reads 207 = .ok (.aload_n 0, 1) := by decide +kernel
theorem dX12_reads_208 : decode cX12_reads 208 = .ok (.bipush 43, 2) := by decide +kernel
theorem dX12_reads_210 : decode cX12_reads 210 = .ok (.invokevirtual 197, 3) := by decide +kernel
theorem dX12_reads_213 : decode cX12_reads 213 = .ok (.ifCond .eq 8, 3) := by decide +kernel
theorem dX12_reads_216 : decode cX12_reads 216 = .ok (.bipush 20, 2) := by decide +kernel
theorem dX12_reads_218 : decode cX12_reads 218 = .ok (.goto 19, 3) := by decide +kernel
theorem dX12_reads_221 : decode cX12_reads 221 = .ok (.aload_n 0, 1) := by decide +kernel
theorem dX12_reads_222 : decode cX12_reads 222 = .ok (.bipush 45, 2) := by decide +kernel
theorem dX12_reads_224 : decode cX12_reads 224 = .ok (.invokevirtual 197, 3) := by decide +kernel
theorem dX12_reads_227 : decode cX12_reads 227 = .ok (.ifCond .eq 8, 3) := by decide +kernel
theorem dX12_reads_230 : decode cX12_reads 230 = .ok (.bipush 21, 2) := by decide +kernel
theorem dX12_reads_232 : decode cX12_reads 232 = .ok (.goto 5, 3) := by decide +kernel
theorem dX12_reads_235 : decode cX12_reads 235 = .ok (.bipush 22, 2) := by decide +kernel
theorem dX12_reads_237 : decode cX12_reads 237 = .ok (.invokevirtual 204, 3) := by decide +kernel
theorem dX12_reads_240 : decode cX12_reads 240 = .ok (.iconst 1, 1) := by decide +kernel
theorem dX12_reads_241 : decode cX12_reads 241 = .ok (.istore_n 2, 1) := by decide +kernel
theorem dX12_reads_242 : decode cX12_reads 242 = .ok (.goto 182, 3) := by decide +kernel
theorem dX12_reads_245 : decode cX12_reads 245 = .ok (.aload_n 0, 1) := by decide +kernel
theorem dX12_reads_246 : decode cX12_reads 246 = .ok (.bipush 60, 2) := by decide +kernel
theorem dX12_reads_248 : decode cX12_reads 248 = .ok (.invokevirtual 197, 3) := by decide +kernel
theorem dX12_reads_251 : decode cX12_reads 251 = .ok (.ifCond .ne 12, 3) := by decide +kernel
theorem dX12_reads_254 : decode cX12_reads 254 = .ok (.aload_n 0, 1) := by decide +kernel
theorem dX12_reads_255 : decode cX12_reads 255 = .ok (.bipush 61, 2) := by decide +kernel
theorem dX12_reads_257 : decode cX12_reads 257 = .ok (.invokevirtual 197, 3) := by decide +kernel
theorem dX12_reads_260 : decode cX12_reads 260 = .ok (.ifCond .eq 44, 3) := by decide +kernel
theorem dX12_reads_263 : decode cX12_reads 263 = .ok (.aload_n 0, 1) := by decide +kernel
theorem dX12_reads_264 : decode cX12_reads 264 = .ok (.getfield 57, 3) := by decide +kernel
theorem dX12_reads_267 : decode cX12_reads 267 = .ok (.iload_n 1, 1) := by decide +kernel
theorem dX12_reads_268 : decode cX12_reads 268 = .ok (.baload, 1) := by decide +kernel
theorem dX12_reads_269 : decode cX12_reads 269 = .ok (.ifCond .ne 35, 3) := by decide +kernel
theorem dX12_reads_272 : decode cX12_reads 272 = .ok (.aload_n 0, 1) := by decide +kernel
theorem dX12_reads_273 : decode cX12_reads 273 = .ok (.aload_n 0, 1) := by decide +kernel
theorem dX12_reads_274 : decode cX12_reads 274 = .ok (.bipush 60, 2) := by decide +kernel
theorem dX12_reads_276 : decode cX12_reads 276 = .ok (.invokevirtual 197, 3) := by decide +kernel
theorem dX12_reads_279 : decode cX12_reads 279 = .ok (.ifCond .eq 8, 3) := by decide +kernel
theorem dX12_reads_282 : decode cX12_reads 282 = .ok (.bipush 24, 2) := by decide +kernel
theorem dX12_reads_284 : decode cX12_reads 284 = .ok (.goto 5, 3) := by decide +kernel
theorem dX12_reads_287 : decode cX12_reads 287 = .ok (.bipush 25, 2) := by decide +kernel
theorem dX12_reads_289 : decode cX12_reads 289 = .ok (.invokevirtual 204, 3) := by decide +kernel
theorem dX12_reads_292 : decode cX12_reads 292 = .ok (.aload_n 0, 1) := by decide +kernel
theorem dX12_reads_293 : decode cX12_reads 293 = .ok (.getfield 57, 3) := by decide +kernel
theorem dX12_reads_296 : decode cX12_reads 296 = .ok (.iload_n 1, 1) := by decide +kernel
theorem dX12_reads_297 : decode cX12_reads 297 = .ok (.iconst 1, 1) := by decide +kernel
theorem dX12_reads_298 : decode cX12_reads 298 = .ok (.bastore, 1) := by decide +kernel
theorem dX12_reads_299 : decode cX12_reads 299 = .ok (.iconst 1, 1) := by decide +kernel
theorem dX12_reads_300 : decode cX12_reads 300 = .ok (.istore_n 2, 1) := by decide +kernel
theorem dX12_reads_301 : decode cX12_reads 301 = .ok (.goto 123, 3) := by decide +kernel
theorem dX12_reads_304 : decode cX12_reads 304 = .ok (.aload_n 0, 1) := by decide +kernel
theorem dX12_reads_305 : decode cX12_reads 305 = .ok (.ldc2_w 211, 3) := by decide +kernel
theorem dX12_reads_308 : decode cX12_reads 308 = .ok (.invokevirtual 193, 3) := by decide +kernel
theorem dX12_reads_311 : decode cX12_reads 311 = .ok (.ifCond .ne 13, 3) := by decide +kernel
theorem dX12_reads_314 : decode cX12_reads 314 = .ok (.aload_n 0, 1) := by decide +kernel
theorem dX12_reads_315 : decode cX12_reads 315 = .ok (.ldc2_w 213, 3) := by decide +kernel
theorem dX12_reads_318 : decode cX12_reads 318 = .ok (.invokevirtual 193, 3) := by decide +kernel
theorem dX12_reads_321 : decode cX12_reads 321 = .ok (.ifCond .eq 36, 3) := by decide +kernel
theorem dX12_reads_324 : decode cX12_reads 324 = .ok (.aload_n 0, 1) := by decide +kernel
theorem dX12_reads_325 : decode cX12_reads 325 = .ok (.aload_n 0, 1) := by decide +kernel
theorem dX12_reads_326 : decode cX12_reads 326 = .ok (.ldc2_w 211, 3) := by decide +kernel
theorem dX12_reads_329 : decode cX12_reads 329 = .ok (.invokevirtual 193, 3) := by decide +kernel
theorem dX12_reads_332 : decode cX12_reads 332 = .ok (.ifCond .eq 8, 3) := by decide +kernel
theorem dX12_reads_335 : decode cX12_reads 335 = .ok (.bipush 26, 2) := by decide +kernel
theorem dX12_reads_337 : decode cX12_reads 337 = .ok (.goto 5, 3) := by decide +kernel
theorem dX12_reads_340 : decode cX12_reads 340 = .ok (.bipush 27, 2) := by decide +kernel
theorem dX12_reads_342 : decode cX12_reads 342 = .ok (.invokevirtual 204, 3) := by decide +kernel
theorem dX12_reads_345 : decode cX12_reads 345 = .ok (.aload_n 0, 1) := by decide +kernel
theorem dX12_reads_346 : decode cX12_reads 346 = .ok (.getfield 57, 3) := by decide +kernel
theorem dX12_reads_349 : decode cX12_reads 349 = .ok (.iload_n 1, 1) := by decide +kernel
theorem dX12_reads_350 : decode cX12_reads 350 = .ok (.iconst 0, 1) := by decide +kernel
theorem dX12_reads_351 : decode cX12_reads 351 = .ok (.bastore, 1) := by decide +kernel
theorem dX12_reads_352 : decode cX12_reads 352 = .ok (.iconst 1, 1) := by decide +kernel
theorem dX12_reads_353 : decode cX12_reads 353 = .ok (.istore_n 2, 1) := by decide +kernel
theorem dX12_reads_354 : decode cX12_reads 354 = .ok (.goto 70, 3) := by decide +kernel
theorem dX12_reads_357 : decode cX12_reads 357 = .ok (.aload_n 0, 1) := by decide +kernel
theorem dX12_reads_358 : decode cX12_reads 358 = .ok (.bipush 41, 2) := by decide +kernel
theorem dX12_reads_360 : decode cX12_reads 360 = .ok (.invokevirtual 197, 3) := by decide +kernel
theorem dX12_reads_363 : decode cX12_reads 363 = .ok (.ifCond .eq 36, 3) := by decide +kernel
theorem dX12_reads_366 : decode cX12_reads 366 = .ok (.iload_n 1, 1) := by decide +kernel
theorem dX12_reads_367 : decode cX12_reads 367 = .ok (.ifCond .le 32, 3) := by decide +kernel
theorem dX12_reads_370 : decode cX12_reads 370 = .ok (.aload_n 0, 1) := by decide +kernel
theorem dX12_reads_371 : decode cX12_reads 371 = .ok (.bipush 29, 2) := by decide +kernel
theorem dX12_reads_373 : decode cX12_reads 373 = .ok (.invokevirtual 204, 3) := by decide +kernel
theorem dX12_reads_376 : decode cX12_reads 376 = .ok (.iinc 1 (-1), 3) := by decide +kernel
theorem dX12_reads_379 : decode cX12_reads 379 = .ok (.iload_n 1, 1) := by decide +kernel
theorem dX12_reads_380 : decode cX12_reads 380 = .ok (.ifCond .le 44, 3) := by decide +kernel
theorem dX12_reads_383 : decode cX12_reads 383 = .ok (.aload_n 0, 1) := by decide +kernel
theorem dX12_reads_384 : decode cX12_reads 384 = .ok (.getfield 54, 3) := by decide +kernel
theorem dX12_reads_387 : decode cX12_reads 387 = .ok (.iload_n 1, 1) := by decide +kernel
theorem dX12_reads_388 : decode cX12_reads 388 = .ok (.iaload, 1) := by decide +kernel
theorem dX12_reads_389 : decode cX12_reads 389 = .ok (.iconst 1, 1) := by decide +kernel
theorem dX12_reads_390 : decode cX12_reads 390 = .ok (.if_icmp .ne 34, 3) := by decide +kernel
theorem dX12_reads_393 : decode cX12_reads 393 = .ok (.iinc 1 (-1), 3) := by decide +kernel
theorem dX12_reads_396 : decode cX12_reads 396 = .ok (.goto (-17), 3) := by decide +kernel
theorem dX12_reads_399 : decode cX12_reads 399 = .ok (.iload_n 1, 1) := by decide +kernel
theorem dX12_reads_400 : decode cX12_reads 400 = .ok (.ifCond .ne 18, 3) := by decide +kernel
theorem dX12_reads_403 : decode cX12_reads 403 = .ok (.aload_n 0, 1) := by decide +kernel
theorem dX12_reads_404 : decode cX12_reads 404 = .ok (.bipush 59, 2) := by decide +kernel
theorem dX12_reads_406 : decode cX12_reads 406 = .ok (.invokevirtual 197, 3) := by decide +kernel
theorem dX12_reads_409 : decode cX12_reads 409 = .ok (.ifCond .eq 9, 3) := by decide +kernel
theorem dX12_reads_412 : decode cX12_reads 412 = .ok (.aload_n 0, 1) := by decide +kernel
theorem dX12_reads_413 : decode cX12_reads 413 = .ok (.invokevirtual 208, 3) := by decide +kernel
theorem dX12_reads_416 : decode cX12_reads 416 = .ok (.iconst 1, 1) := by decide +kernel
theorem dX12_reads_417 : decode cX12_reads 417 = .ok (.ireturn, 1) := by decide +kernel
theorem dX12_reads_418 : decode cX12_reads 418 = .ok (.aload_n 0, 1) := by decide +kernel
theorem dX12_reads_419 : decode cX12_reads 419 = .ok (.iconst 1, 1) := by decide +kernel
theorem dX12_reads_420 : decode cX12_reads 420 = .ok (.invokevirtual 201, 3) := by decide +kernel
theorem dX12_reads_423 : decode cX12_reads 423 = .ok (.ireturn, 1) := by decide +kernel
theorem dX12_reads_424 : decode cX12_reads 424 = .ok (.aload_n 0, 1) := by decide +kernel
theorem dX12_reads_425 : decode cX12_reads 425 = .ok (.invokevirtual 208, 3) := by decide +kernel
theorem dX12_reads_428 : decode cX12_reads 428 = .ok (.goto (-417), 3) := by decide +kernel
theorem dX12_opens_0 : decode cX12_opens 0 = .ok (.aload_n 0, 1) := by decide +kernel
theorem dX12_opens_1 : decode cX12_opens 1 = .ok (.getfield 63, 3) := by decide +kernel
theorem dX12_opens_4 : decode cX12_opens 4 = .ok (.iload_n 1, 1) := by decide +kernel
theorem dX12_opens_5 : decode cX12_opens 5 = .ok (.iconst 0, 1) := by decide +kernel
theorem dX12_opens_6 : decode cX12_opens 6 = .ok (.iastore, 1) := by decide +kernel
theorem dX12_opens_7 : decode cX12_opens 7 = .ok (.aload_n 0, 1) := by decide +kernel
theorem dX12_opens_8 : decode cX12_opens 8 = .ok (.getfield 69, 3) := by decide +kernel
theorem dX12_opens_11 : decode cX12_opens 11 = .ok (.iload_n 1, 1) := by decide +kernel
theorem dX12_opens_12 : decode cX12_opens 12 = .ok (.iconst 0, 1) := by decide +kernel
theorem dX12_opens_13 : decode cX12_opens 13 = .ok (.iastore, 1) := by decide +kernel
theorem dX12_opens_14 : decode cX12_opens 14 = .ok (.aload_n 0, 1) := by decide +kernel
theorem dX12_opens_15 : decode cX12_opens 15 = .ok (.getfield 72, 3) := by decide +kernel
theorem dX12_opens_18 : decode cX12_opens 18 = .ok (.iload_n 1, 1) := by decide +kernel
theorem dX12_opens_19 : decode cX12_opens 19 = .ok (.iconst 0, 1) := by decide +kernel
theorem dX12_opens_20 : decode cX12_opens 20 = .ok (.iastore, 1) := by decide +kernel
theorem dX12_opens_21 : decode cX12_opens 21 = .ok (.aload_n 0, 1) := by decide +kernel
theorem dX12_opens_22 : decode cX12_opens 22 = .ok (.getfield 75, 3) := by decide +kernel
theorem dX12_opens_25 : decode cX12_opens 25 = .ok (.iload_n 1, 1) := by decide +kernel
theorem dX12_opens_26 : decode cX12_opens 26 = .ok (.bipush 20, 2) := by decide +kernel
theorem dX12_opens_28 : decode cX12_opens 28 = .ok (.iastore, 1) := by decide +kernel
theorem dX12_opens_29 : decode cX12_opens 29 = .ok (.aload_n 0, 1) := by decide +kernel
theorem dX12_opens_30 : decode cX12_opens 30 = .ok (.getfield 81, 3) := by decide +kernel
theorem dX12_opens_33 : decode cX12_opens 33 = .ok (.iload_n 1, 1) := by decide +kernel
theorem dX12_opens_34 : decode cX12_opens 34 = .ok (.iconst 0, 1) := by decide +kernel
theorem dX12_opens_35 : decode cX12_opens 35 = .ok (.iastore, 1) := by decide +kernel
theorem dX12_opens_36 : decode cX12_opens 36 = .ok (.return_, 1) := by decide +kernel
theorem dX12_sums_0 : decode cX12_sums 0 = .ok (.aload_n 0, 1) := by decide +kernel
theorem dX12_sums_1 : decode cX12_sums 1 = .ok (.getfield 72, 3) := by decide +kernel
theorem dX12_sums_4 : decode cX12_sums 4 = .ok (.iload_n 1, 1) := by decide +kernel
theorem dX12_sums_5 : decode cX12_sums 5 = .ok (.aload_n 0, 1) := by decide +kernel
theorem dX12_sums_6 : decode cX12_sums 6 = .ok (.getfield 75, 3) := by decide +kernel
theorem dX12_sums_9 : decode cX12_sums 9 = .ok (.iload_n 1, 1) := by decide +kernel
theorem dX12_sums_10 : decode cX12_sums 10 = .ok (.iaload, 1) := by decide +kernel
theorem dX12_sums_11 : decode cX12_sums 11 = .ok (.bipush 21, 2) := by decide +kernel
theorem dX12_sums_13 : decode cX12_sums 13 = .ok (.if_icmp .ne 19, 3) := by decide +kernel
theorem dX12_sums_16 : decode cX12_sums 16 = .ok (.aload_n 0, 1) := by decide +kernel
theorem dX12_sums_17 : decode cX12_sums 17 = .ok (.getfield 72, 3) := by decide +kernel
theorem dX12_sums_20 : decode cX12_sums 20 = .ok (.iload_n 1, 1) := by decide +kernel
theorem dX12_sums_21 : decode cX12_sums 21 = .ok (.iaload, 1) := by decide +kernel
theorem dX12_sums_22 : decode cX12_sums 22 = .ok (.aload_n 0, 1) := by decide +kernel
theorem dX12_sums_23 : decode cX12_sums 23 = .ok (.getfield 78, 3) := by decide +kernel
theorem dX12_sums_26 : decode cX12_sums 26 = .ok (.iload_n 1, 1) := by decide +kernel
theorem dX12_sums_27 : decode cX12_sums 27 = .ok (.iaload, 1) := by decide +kernel
theorem dX12_sums_28 : decode cX12_sums 28 = .ok (.isub, 1) := by decide +kernel
theorem dX12_sums_29 : decode cX12_sums 29 = .ok (.goto 16, 3) := by decide +kernel
theorem dX12_sums_32 : decode cX12_sums 32 = .ok (.aload_n 0, 1) := by decide +kernel
theorem dX12_sums_33 : decode cX12_sums 33 = .ok (.getfield 72, 3) := by decide +kernel
theorem dX12_sums_36 : decode cX12_sums 36 = .ok (.iload_n 1, 1) := by decide +kernel
theorem dX12_sums_37 : decode cX12_sums 37 = .ok (.iaload, 1) := by decide +kernel
theorem dX12_sums_38 : decode cX12_sums 38 = .ok (.aload_n 0, 1) := by decide +kernel
theorem dX12_sums_39 : decode cX12_sums 39 = .ok (.getfield 78, 3) := by decide +kernel
theorem dX12_sums_42 : decode cX12_sums 42 = .ok (.iload_n 1, 1) := by decide +kernel
theorem dX12_sums_43 : decode cX12_sums 43 = .ok (.iaload, 1) := by decide +kernel
theorem dX12_sums_44 : decode cX12_sums 44 = .ok (.iadd, 1) := by decide +kernel
theorem dX12_sums_45 : decode cX12_sums 45 = .ok (.iastore, 1) := by decide +kernel
theorem dX12_sums_46 : decode cX12_sums 46 = .ok (.aload_n 0, 1) := by decide +kernel
theorem dX12_sums_47 : decode cX12_sums 47 = .ok (.getfield 81, 3) := by decide +kernel
theorem dX12_sums_50 : decode cX12_sums 50 = .ok (.iload_n 1, 1) := by decide +kernel
theorem dX12_sums_51 : decode cX12_sums 51 = .ok (.iconst 0, 1) := by decide +kernel
theorem dX12_sums_52 : decode cX12_sums 52 = .ok (.iastore, 1) := by decide +kernel
theorem dX12_sums_53 : decode cX12_sums 53 = .ok (.return_, 1) := by decide +kernel
theorem dX12_tests_0 : decode cX12_tests 0 = .ok (.aload_n 0, 1) := by decide +kernel
theorem dX12_tests_1 : decode cX12_tests 1 = .ok (.iload_n 1, 1) := by decide +kernel
theorem dX12_tests_2 : decode cX12_tests 2 = .ok (.invokevirtual 215, 3) := by decide +kernel
theorem dX12_tests_5 : decode cX12_tests 5 = .ok (.aload_n 0, 1) := by decide +kernel
theorem dX12_tests_6 : decode cX12_tests 6 = .ok (.getfield 72, 3) := by decide +kernel
theorem dX12_tests_9 : decode cX12_tests 9 = .ok (.iload_n 1, 1) := by decide +kernel
theorem dX12_tests_10 : decode cX12_tests 10 = .ok (.iaload, 1) := by decide +kernel
theorem dX12_tests_11 : decode cX12_tests 11 = .ok (.istore_n 2, 1) := by decide +kernel
theorem dX12_tests_12 : decode cX12_tests 12 = .ok (.aload_n 0, 1) := by decide +kernel
theorem dX12_tests_13 : decode cX12_tests 13 = .ok (.getfield 69, 3) := by decide +kernel
theorem dX12_tests_16 : decode cX12_tests 16 = .ok (.iload_n 1, 1) := by decide +kernel
theorem dX12_tests_17 : decode cX12_tests 17 = .ok (.iaload, 1) := by decide +kernel
theorem dX12_tests_18 : decode cX12_tests 18 = .ok (.bipush 24, 2) := by decide +kernel
theorem dX12_tests_20 : decode cX12_tests 20 = .ok (.if_icmp .ne 24, 3) := by decide +kernel
theorem dX12_tests_23 : decode cX12_tests 23 = .ok (.aload_n 0, 1) := by decide +kernel
theorem dX12_tests_24 : decode cX12_tests 24 = .ok (.getfield 66, 3) := by decide +kernel
theorem dX12_tests_27 : decode cX12_tests 27 = .ok (.iload_n 1, 1) := by decide +kernel
theorem dX12_tests_28 : decode cX12_tests 28 = .ok (.iaload, 1) := by decide +kernel
theorem dX12_tests_29 : decode cX12_tests 29 = .ok (.aload_n 0, 1) := by decide +kernel
theorem dX12_tests_30 : decode cX12_tests 30 = .ok (.getfield 72, 3) := by decide +kernel
theorem dX12_tests_33 : decode cX12_tests 33 = .ok (.iload_n 1, 1) := by decide +kernel
theorem dX12_tests_34 : decode cX12_tests 34 = .ok (.iaload, 1) := by decide +kernel
theorem dX12_tests_35 : decode cX12_tests 35 = .ok (.if_icmp .ge 7, 3) := by decide +kernel
theorem dX12_tests_38 : decode cX12_tests 38 = .ok (.iconst 1, 1) := by decide +kernel
theorem dX12_tests_39 : decode cX12_tests 39 = .ok (.goto 4, 3) := by decide +kernel
theorem dX12_tests_42 : decode cX12_tests 42 = .ok (.iconst 0, 1) := by decide +kernel
theorem dX12_tests_43 : decode cX12_tests 43 = .ok (.istore_n 2, 1) := by decide +kernel
theorem dX12_tests_44 : decode cX12_tests 44 = .ok (.aload_n 0, 1) := by decide +kernel
theorem dX12_tests_45 : decode cX12_tests 45 = .ok (.getfield 69, 3) := by decide +kernel
theorem dX12_tests_48 : decode cX12_tests 48 = .ok (.iload_n 1, 1) := by decide +kernel
theorem dX12_tests_49 : decode cX12_tests 49 = .ok (.iaload, 1) := by decide +kernel
theorem dX12_tests_50 : decode cX12_tests 50 = .ok (.bipush 25, 2) := by decide +kernel
theorem dX12_tests_52 : decode cX12_tests 52 = .ok (.if_icmp .ne 24, 3) := by decide +kernel
theorem dX12_tests_55 : decode cX12_tests 55 = .ok (.aload_n 0, 1) := by decide +kernel
theorem dX12_tests_56 : decode cX12_tests 56 = .ok (.getfield 66, 3) := by decide +kernel
theorem dX12_tests_59 : decode cX12_tests 59 = .ok (.iload_n 1, 1) := by decide +kernel
theorem dX12_tests_60 : decode cX12_tests 60 = .ok (.iaload, 1) := by decide +kernel
theorem dX12_tests_61 : decode cX12_tests 61 = .ok (.aload_n 0, 1) := by decide +kernel
theorem dX12_tests_62 : decode cX12_tests 62 = .ok (.getfield 72, 3) := by decide +kernel
theorem dX12_tests_65 : decode cX12_tests 65 = .ok (.iload_n 1, 1) := by decide +kernel
theorem dX12_tests_66 : decode cX12_tests 66 = .ok (.iaload, 1) := by decide +kernel
theorem dX12_tests_67 : decode cX12_tests 67 = .ok (.if_icmp .ne 7, 3) := by decide +kernel
theorem dX12_tests_70 : decode cX12_tests 70 = .ok (.iconst 1, 1) := by decide +kernel
theorem dX12_tests_71 : decode cX12_tests 71 = .ok (.goto 4, 3) := by decide +kernel
theorem dX12_tests_74 : decode cX12_tests 74 = .ok (.iconst 0, 1) := by decide +kernel
theorem dX12_tests_75 : decode cX12_tests 75 = .ok (.istore_n 2, 1) := by decide +kernel
theorem dX12_tests_76 : decode cX12_tests 76 = .ok (.aload_n 0, 1) := by decide +kernel
theorem dX12_tests_77 : decode cX12_tests 77 = .ok (.getfield 63, 3) := by decide +kernel
theorem dX12_tests_80 : decode cX12_tests 80 = .ok (.iload_n 1, 1) := by decide +kernel
theorem dX12_tests_81 : decode cX12_tests 81 = .ok (.iaload, 1) := by decide +kernel
theorem dX12_tests_82 : decode cX12_tests 82 = .ok (.bipush 26, 2) := by decide +kernel
theorem dX12_tests_84 : decode cX12_tests 84 = .ok (.if_icmp .ne 22, 3) := by decide +kernel
theorem dX12_tests_87 : decode cX12_tests 87 = .ok (.aload_n 0, 1) := by decide +kernel
theorem dX12_tests_88 : decode cX12_tests 88 = .ok (.getfield 60, 3) := by decide +kernel
theorem dX12_tests_91 : decode cX12_tests 91 = .ok (.iload_n 1, 1) := by decide +kernel
theorem dX12_tests_92 : decode cX12_tests 92 = .ok (.iaload, 1) := by decide +kernel
theorem dX12_tests_93 : decode cX12_tests 93 = .ok (.ifCond .eq 11, 3) := by decide +kernel
theorem dX12_tests_96 : decode cX12_tests 96 = .ok (.iload_n 2, 1) := by decide +kernel
theorem dX12_tests_97 : decode cX12_tests 97 = .ok (.ifCond .eq 7, 3) := by decide +kernel
theorem dX12_tests_100 : decode cX12_tests 100 = .ok (.iconst 1, 1) := by decide +kernel
theorem dX12_tests_101 : decode cX12_tests 101 = .ok (.goto 4, 3) := by decide +kernel
theorem dX12_tests_104 : decode cX12_tests 104 = .ok (.iconst 0, 1) := by decide +kernel
theorem dX12_tests_105 : decode cX12_tests 105 = .ok (.istore_n 2, 1) := by decide +kernel
theorem dX12_tests_106 : decode cX12_tests 106 = .ok (.aload_n 0, 1) := by decide +kernel
theorem dX12_tests_107 : decode cX12_tests 107 = .ok (.getfield 63, 3) := by decide +kernel
theorem dX12_tests_110 : decode cX12_tests 110 = .ok (.iload_n 1, 1) := by decide +kernel
theorem dX12_tests_111 : decode cX12_tests 111 = .ok (.iaload, 1) := by decide +kernel
theorem dX12_tests_112 : decode cX12_tests 112 = .ok (.bipush 27, 2) := by decide +kernel
theorem dX12_tests_114 : decode cX12_tests 114 = .ok (.if_icmp .ne 22, 3) := by decide +kernel
theorem dX12_tests_117 : decode cX12_tests 117 = .ok (.aload_n 0, 1) := by decide +kernel
theorem dX12_tests_118 : decode cX12_tests 118 = .ok (.getfield 60, 3) := by decide +kernel
theorem dX12_tests_121 : decode cX12_tests 121 = .ok (.iload_n 1, 1) := by decide +kernel
theorem dX12_tests_122 : decode cX12_tests 122 = .ok (.iaload, 1) := by decide +kernel
theorem dX12_tests_123 : decode cX12_tests 123 = .ok (.ifCond .ne 7, 3) := by decide +kernel
theorem dX12_tests_126 : decode cX12_tests 126 = .ok (.iload_n 2, 1) := by decide +kernel
theorem dX12_tests_127 : decode cX12_tests 127 = .ok (.ifCond .eq 7, 3) := by decide +kernel
theorem dX12_tests_130 : decode cX12_tests 130 = .ok (.iconst 1, 1) := by decide +kernel
theorem dX12_tests_131 : decode cX12_tests 131 = .ok (.goto 4, 3) := by decide +kernel
theorem dX12_tests_134 : decode cX12_tests 134 = .ok (.iconst 0, 1) := by decide +kernel
theorem dX12_tests_135 : decode cX12_tests 135 = .ok (.istore_n 2, 1) := by decide +kernel
theorem dX12_tests_136 : decode cX12_tests 136 = .ok (.aload_n 0, 1) := by decide +kernel
theorem dX12_tests_137 : decode cX12_tests 137 = .ok (.getfield 60, 3) := by decide +kernel
theorem dX12_tests_140 : decode cX12_tests 140 = .ok (.iload_n 1, 1) := by decide +kernel
theorem dX12_tests_141 : decode cX12_tests 141 = .ok (.iload_n 2, 1) := by decide +kernel
theorem dX12_tests_142 : decode cX12_tests 142 = .ok (.iastore, 1) := by decide +kernel
theorem dX12_tests_143 : decode cX12_tests 143 = .ok (.aload_n 0, 1) := by decide +kernel
theorem dX12_tests_144 : decode cX12_tests 144 = .ok (.getfield 69, 3) := by decide +kernel
theorem dX12_tests_147 : decode cX12_tests 147 = .ok (.iload_n 1, 1) := by decide +kernel
theorem dX12_tests_148 : decode cX12_tests 148 = .ok (.iconst 0, 1) := by decide +kernel
theorem dX12_tests_149 : decode cX12_tests 149 = .ok (.iastore, 1) := by decide +kernel
theorem dX12_tests_150 : decode cX12_tests 150 = .ok (.aload_n 0, 1) := by decide +kernel
theorem dX12_tests_151 : decode cX12_tests 151 = .ok (.getfield 72, 3) := by decide +kernel
theorem dX12_tests_154 : decode cX12_tests 154 = .ok (.iload_n 1, 1) := by decide +kernel
theorem dX12_tests_155 : decode cX12_tests 155 = .ok (.iconst 0, 1) := by decide +kernel
theorem dX12_tests_156 : decode cX12_tests 156 = .ok (.iastore, 1) := by decide +kernel
theorem dX12_tests_157 : decode cX12_tests 157 = .ok (.aload_n 0, 1) := by decide +kernel
theorem dX12_tests_158 : decode cX12_tests 158 = .ok (.getfield 75, 3) := by decide +kernel
theorem dX12_tests_161 : decode cX12_tests 161 = .ok (.iload_n 1, 1) := by decide +kernel
theorem dX12_tests_162 : decode cX12_tests 162 = .ok (.bipush 20, 2) := by decide +kernel
theorem dX12_tests_164 : decode cX12_tests 164 = .ok (.iastore, 1) := by decide +kernel
theorem dX12_tests_165 : decode cX12_tests 165 = .ok (.return_, 1) := by decide +kernel
theorem dX12_worked_0 : decode cX12_worked 0 = .ok (.iconst 0, 1) := by decide +kernel
theorem dX12_worked_1 : decode cX12_worked 1 = .ok (.istore_n 2, 1) := by decide +kernel
theorem dX12_worked_2 : decode cX12_worked 2 = .ok (.aload_n 0, 1) := by decide +kernel
theorem dX12_worked_3 : decode cX12_worked 3 = .ok (.iconst 0, 1) := by decide +kernel
theorem dX12_worked_4 : decode cX12_worked 4 = .ok (.invokevirtual 218, 3) := by decide +kernel
theorem dX12_worked_7 : decode cX12_worked 7 = .ok (.aload_n 0, 1) := by decide +kernel
theorem dX12_worked_8 : decode cX12_worked 8 = .ok (.getfield 38, 3) := by decide +kernel
theorem dX12_worked_11 : decode cX12_worked 11 = .ok (.iload_n 1, 1) := by decide +kernel
theorem dX12_worked_12 : decode cX12_worked 12 = .ok (.iaload, 1) := by decide +kernel
theorem dX12_worked_13 : decode cX12_worked 13 = .ok (.istore_n 3, 1) := by decide +kernel
theorem dX12_worked_14 : decode cX12_worked 14 = .ok (.iload_n 3, 1) := by decide +kernel
theorem dX12_worked_15 : decode cX12_worked 15 = .ok (.aload_n 0, 1) := by decide +kernel
theorem dX12_worked_16 : decode cX12_worked 16 = .ok (.getfield 41, 3) := by decide +kernel
theorem dX12_worked_19 : decode cX12_worked 19 = .ok (.iload_n 1, 1) := by decide +kernel
theorem dX12_worked_20 : decode cX12_worked 20 = .ok (.iaload, 1) := by decide +kernel
theorem dX12_worked_21 : decode cX12_worked 21 = .ok (.if_icmp .ge 314, 3) := by decide +kernel
theorem dX12_worked_24 : decode cX12_worked 24 = .ok (.aload_n 0, 1) := by decide +kernel
theorem dX12_worked_25 : decode cX12_worked 25 = .ok (.getfield 44, 3) := by decide +kernel
theorem dX12_worked_28 : decode cX12_worked 28 = .ok (.iload_n 3, 1) := by decide +kernel
theorem dX12_worked_29 : decode cX12_worked 29 = .ok (.iaload, 1) := by decide +kernel
theorem dX12_worked_30 : decode cX12_worked 30 = .ok (.istore 4, 2) := by decide +kernel
theorem dX12_worked_32 : decode cX12_worked 32 = .ok (.iload 4, 2) := by decide +kernel
theorem dX12_worked_34 : decode cX12_worked 34 = .ok (.bipush 28, 2) := by decide +kernel
theorem dX12_worked_36 : decode cX12_worked 36 = .ok (.if_icmp .eq 10, 3) := by decide +kernel
theorem dX12_worked_39 : decode cX12_worked 39 = .ok (.iload 4, 2) := by decide +kernel
theorem dX12_worked_41 : decode cX12_worked 41 = .ok (.bipush 30, 2) := by decide +kernel
theorem dX12_worked_43 : decode cX12_worked 43 = .ok (.if_icmp .ne 32, 3) := by decide +kernel
theorem dX12_worked_46 : decode cX12_worked 46 = .ok (.iinc 2 1, 3) := by decide +kernel
theorem dX12_worked_49 : decode cX12_worked 49 = .ok (.aload_n 0, 1) := by decide +kernel
theorem dX12_worked_50 : decode cX12_worked 50 = .ok (.getfield 84, 3) := by decide +kernel
theorem dX12_worked_53 : decode cX12_worked 53 = .ok (.iload_n 2, 1) := by decide +kernel
theorem dX12_worked_54 : decode cX12_worked 54 = .ok (.iload 4, 2) := by decide +kernel
theorem dX12_worked_56 : decode cX12_worked 56 = .ok (.bipush 30, 2) := by decide +kernel
theorem dX12_worked_58 : decode cX12_worked 58 = .ok (.if_icmp .ne 7, 3) := by decide +kernel
theorem dX12_worked_61 : decode cX12_worked 61 = .ok (.iconst 1, 1) := by decide +kernel
theorem dX12_worked_62 : decode cX12_worked 62 = .ok (.goto 4, 3) := by decide +kernel
theorem dX12_worked_65 : decode cX12_worked 65 = .ok (.iconst 0, 1) := by decide +kernel
theorem dX12_worked_66 : decode cX12_worked 66 = .ok (.iastore, 1) := by decide +kernel
theorem dX12_worked_67 : decode cX12_worked 67 = .ok (.aload_n 0, 1) := by decide +kernel
theorem dX12_worked_68 : decode cX12_worked 68 = .ok (.iload_n 2, 1) := by decide +kernel
theorem dX12_worked_69 : decode cX12_worked 69 = .ok (.invokevirtual 218, 3) := by decide +kernel
theorem dX12_worked_72 : decode cX12_worked 72 = .ok (.goto 257, 3) := by decide +kernel
theorem dX12_worked_75 : decode cX12_worked 75 = .ok (.iload 4, 2) := by decide +kernel
theorem dX12_worked_77 : decode cX12_worked 77 = .ok (.bipush 20, 2) := by decide +kernel
theorem dX12_worked_79 : decode cX12_worked 79 = .ok (.if_icmp .eq 10, 3) := by decide +kernel
theorem dX12_worked_82 : decode cX12_worked 82 = .ok (.iload 4, 2) := by decide +kernel
theorem dX12_worked_84 : decode cX12_worked 84 = .ok (.bipush 21, 2) := by decide +kernel
theorem dX12_worked_86 : decode cX12_worked 86 = .ok (.if_icmp .ne 19, 3) := by decide +kernel
theorem dX12_worked_89 : decode cX12_worked 89 = .ok (.aload_n 0, 1) := by decide +kernel
theorem dX12_worked_90 : decode cX12_worked 90 = .ok (.iload_n 2, 1) := by decide +kernel
theorem dX12_worked_91 : decode cX12_worked 91 = .ok (.invokevirtual 215, 3) := by decide +kernel
theorem dX12_worked_94 : decode cX12_worked 94 = .ok (.aload_n 0, 1) := by decide +kernel
theorem dX12_worked_95 : decode cX12_worked 95 = .ok (.getfield 75, 3) := by decide +kernel
theorem dX12_worked_98 : decode cX12_worked 98 = .ok (.iload_n 2, 1) := by decide +kernel
theorem dX12_worked_99 : decode cX12_worked 99 = .ok (.iload 4, 2) := by decide +kernel
theorem dX12_worked_101 : decode cX12_worked 101 = .ok (.iastore, 1) := by decide +kernel
theorem dX12_worked_102 : decode cX12_worked 102 = .ok (.goto 227, 3) := by decide +kernel
theorem dX12_worked_105 : decode cX12_worked 105 = .ok (.iload 4, 2) := by decide +kernel
theorem dX12_worked_107 : decode cX12_worked 107 = .ok (.bipush 22, 2) := by decide +kernel
theorem dX12_worked_109 : decode cX12_worked 109 = .ok (.if_icmp .ne 14, 3) := by decide +kernel
theorem dX12_worked_112 : decode cX12_worked 112 = .ok (.aload_n 0, 1) := by decide +kernel
theorem dX12_worked_113 : decode cX12_worked 113 = .ok (.getfield 81, 3) := by decide +kernel
theorem dX12_worked_116 : decode cX12_worked 116 = .ok (.iload_n 2, 1) := by decide +kernel
theorem dX12_worked_117 : decode cX12_worked 117 = .ok (.iload 4, 2) := by decide +kernel
theorem dX12_worked_119 : decode cX12_worked 119 = .ok (.iastore, 1) := by decide +kernel
theorem dX12_worked_120 : decode cX12_worked 120 = .ok (.goto 209, 3) := by decide +kernel
theorem dX12_worked_123 : decode cX12_worked 123 = .ok (.iload 4, 2) := by decide +kernel
theorem dX12_worked_125 : decode cX12_worked 125 = .ok (.bipush 24, 2) := by decide +kernel
theorem dX12_worked_127 : decode cX12_worked 127 = .ok (.if_icmp .eq 10, 3) := by decide +kernel
theorem dX12_worked_130 : decode cX12_worked 130 = .ok (.iload 4, 2) := by decide +kernel
theorem dX12_worked_132 : decode cX12_worked 132 = .ok (.bipush 25, 2) := by decide +kernel
theorem dX12_worked_134 : decode cX12_worked 134 = .ok (.if_icmp .ne 46, 3) := by decide +kernel
theorem dX12_worked_137 : decode cX12_worked 137 = .ok (.aload_n 0, 1) := by decide +kernel
theorem dX12_worked_138 : decode cX12_worked 138 = .ok (.iload_n 2, 1) := by decide +kernel
theorem dX12_worked_139 : decode cX12_worked 139 = .ok (.invokevirtual 215, 3) := by decide +kernel
theorem dX12_worked_142 : decode cX12_worked 142 = .ok (.aload_n 0, 1) := by decide +kernel
theorem dX12_worked_143 : decode cX12_worked 143 = .ok (.getfield 66, 3) := by decide +kernel
theorem dX12_worked_146 : decode cX12_worked 146 = .ok (.iload_n 2, 1) := by decide +kernel
theorem dX12_worked_147 : decode cX12_worked 147 = .ok (.aload_n 0, 1) := by decide +kernel
theorem dX12_worked_148 : decode cX12_worked 148 = .ok (.getfield 72, 3) := by decide +kernel
theorem dX12_worked_151 : decode cX12_worked 151 = .ok (.iload_n 2, 1) := by decide +kernel
theorem dX12_worked_152 : decode cX12_worked 152 = .ok (.iaload, 1) := by decide +kernel
theorem dX12_worked_153 : decode cX12_worked 153 = .ok (.iastore, 1) := by decide +kernel
theorem dX12_worked_154 : decode cX12_worked 154 = .ok (.aload_n 0, 1) := by decide +kernel
theorem dX12_worked_155 : decode cX12_worked 155 = .ok (.getfield 69, 3) := by decide +kernel
theorem dX12_worked_158 : decode cX12_worked 158 = .ok (.iload_n 2, 1) := by decide +kernel
theorem dX12_worked_159 : decode cX12_worked 159 = .ok (.iload 4, 2) := by decide +kernel
theorem dX12_worked_161 : decode cX12_worked 161 = .ok (.iastore, 1) := by decide +kernel
theorem dX12_worked_162 : decode cX12_worked 162 = .ok (.aload_n 0, 1) := by decide +kernel
theorem dX12_worked_163 : decode cX12_worked 163 = .ok (.getfield 72, 3) := by decide +kernel
theorem dX12_worked_166 : decode cX12_worked 166 = .ok (.iload_n 2, 1) := by decide +kernel
theorem dX12_worked_167 : decode cX12_worked 167 = .ok (.iconst 0, 1) := by decide +kernel
theorem dX12_worked_168 : decode cX12_worked 168 = .ok (.iastore, 1) := by decide +kernel
theorem dX12_worked_169 : decode cX12_worked 169 = .ok (.aload_n 0, 1) := by decide +kernel
theorem dX12_worked_170 : decode cX12_worked 170 = .ok (.getfield 75, 3) := by decide +kernel
theorem dX12_worked_173 : decode cX12_worked 173 = .ok (.iload_n 2, 1) := by decide +kernel
theorem dX12_worked_174 : decode cX12_worked 174 = .ok (.bipush 20, 2) := by decide +kernel
theorem dX12_worked_176 : decode cX12_worked 176 = .ok (.iastore, 1) := by decide +kernel
theorem dX12_worked_177 : decode cX12_worked 177 = .ok (.goto 152, 3) := by decide +kernel
theorem dX12_worked_180 : decode cX12_worked 180 = .ok (.iload 4, 2) := by decide +kernel
theorem dX12_worked_182 : decode cX12_worked 182 = .ok (.bipush 26, 2) := by decide +kernel
theorem dX12_worked_184 : decode cX12_worked 184 = .ok (.if_icmp .eq 10, 3) := by decide +kernel
theorem dX12_worked_187 : decode cX12_worked 187 = .ok (.iload 4, 2) := by decide +kernel
theorem dX12_worked_189 : decode cX12_worked 189 = .ok (.bipush 27, 2) := by decide +kernel
theorem dX12_worked_191 : decode cX12_worked 191 = .ok (.if_icmp .ne 19, 3) := by decide +kernel
theorem dX12_worked_194 : decode cX12_worked 194 = .ok (.aload_n 0, 1) := by decide +kernel
theorem dX12_worked_195 : decode cX12_worked 195 = .ok (.iload_n 2, 1) := by decide +kernel
theorem dX12_worked_196 : decode cX12_worked 196 = .ok (.invokevirtual 221, 3) := by decide +kernel
theorem dX12_worked_199 : decode cX12_worked 199 = .ok (.aload_n 0, 1) := by decide +kernel
theorem dX12_worked_200 : decode cX12_worked 200 = .ok (.getfield 63, 3) := by decide +kernel
theorem dX12_worked_203 : decode cX12_worked 203 = .ok (.iload_n 2, 1) := by decide +kernel
theorem dX12_worked_204 : decode cX12_worked 204 = .ok (.iload 4, 2) := by decide +kernel
theorem dX12_worked_206 : decode cX12_worked 206 = .ok (.iastore, 1) := by decide +kernel
theorem dX12_worked_207 : decode cX12_worked 207 = .ok (.goto 122, 3) := by decide +kernel
theorem dX12_worked_210 : decode cX12_worked 210 = .ok (.iload 4, 2) := by decide +kernel
theorem dX12_worked_212 : decode cX12_worked 212 = .ok (.bipush 100, 2) := by decide +kernel
theorem dX12_worked_214 : decode cX12_worked 214 = .ok (.if_icmp .lt 11, 3) := by decide +kernel
theorem dX12_worked_217 : decode cX12_worked 217 = .ok (.iload 4, 2) := by decide +kernel
theorem dX12_worked_219 : decode cX12_worked 219 = .ok (.bipush 100, 2) := by decide +kernel
theorem dX12_worked_221 : decode cX12_worked 221 = .ok (.isub, 1) := by decide +kernel
theorem dX12_worked_222 : decode cX12_worked 222 = .ok (.goto 21, 3) := by decide +kernel
theorem dX12_worked_225 : decode cX12_worked 225 = .ok (.iload 4, 2) := by decide +kernel
theorem dX12_worked_227 : decode cX12_worked 227 = .ok (.bipush 20, 2) := by decide +kernel
theorem dX12_worked_229 : decode cX12_worked 229 = .ok (.if_icmp .ge 13, 3) := by decide +kernel
theorem dX12_worked_232 : decode cX12_worked 232 = .ok (.aload_n 0, 1) := by decide +kernel
theorem dX12_worked_233 : decode cX12_worked 233 = .ok (.getfield 87, 3) := by decide +kernel
theorem dX12_worked_236 : decode cX12_worked 236 = .ok (.iload 4, 2) := by decide +kernel
theorem dX12_worked_238 : decode cX12_worked 238 = .ok (.iaload, 1) := by decide +kernel
theorem dX12_worked_239 : decode cX12_worked 239 = .ok (.goto 4, 3) := by decide +kernel
theorem dX12_worked_242 : decode cX12_worked 242 = .ok (.iconst 0, 1) := by decide +kernel
theorem dX12_worked_243 : decode cX12_worked 243 = .ok (.istore 5, 2) := by decide +kernel
theorem dX12_worked_245 : decode cX12_worked 245 = .ok (.iload 4, 2) := by decide +kernel
theorem dX12_worked_247 : decode cX12_worked 247 = .ok (.bipush 29, 2) := by decide +kernel
theorem dX12_worked_249 : decode cX12_worked 249 = .ok (.if_icmp .ne 19, 3) := by decide +kernel
theorem dX12_worked_252 : decode cX12_worked 252 = .ok (.aload_n 0, 1) := by decide +kernel
theorem dX12_worked_253 : decode cX12_worked 253 = .ok (.iload_n 2, 1) := by decide +kernel
theorem dX12_worked_254 : decode cX12_worked 254 = .ok (.invokevirtual 221, 3) := by decide +kernel
theorem dX12_worked_257 : decode cX12_worked 257 = .ok (.aload_n 0, 1) := by decide +kernel
theorem dX12_worked_258 : decode cX12_worked 258 = .ok (.getfield 60, 3) := by decide +kernel
theorem dX12_worked_261 : decode cX12_worked 261 = .ok (.iload_n 2, 1) := by decide +kernel
theorem dX12_worked_262 : decode cX12_worked 262 = .ok (.iaload, 1) := by decide +kernel
theorem dX12_worked_263 : decode cX12_worked 263 = .ok (.istore 5, 2) := by decide +kernel
theorem dX12_worked_265 : decode cX12_worked 265 = .ok (.iinc 2 (-1), 3) := by decide +kernel
theorem dX12_worked_268 : decode cX12_worked 268 = .ok (.iload_n 2, 1) := by decide +kernel
theorem dX12_worked_269 : decode cX12_worked 269 = .ok (.ifCond .le 31, 3) := by decide +kernel
theorem dX12_worked_272 : decode cX12_worked 272 = .ok (.aload_n 0, 1) := by decide +kernel
theorem dX12_worked_273 : decode cX12_worked 273 = .ok (.getfield 84, 3) := by decide +kernel
theorem dX12_worked_276 : decode cX12_worked 276 = .ok (.iload_n 2, 1) := by decide +kernel
theorem dX12_worked_277 : decode cX12_worked 277 = .ok (.iaload, 1) := by decide +kernel
theorem dX12_worked_278 : decode cX12_worked 278 = .ok (.iconst 1, 1) := by decide +kernel
theorem dX12_worked_279 : decode cX12_worked 279 = .ok (.if_icmp .ne 21, 3) := by decide +kernel
theorem dX12_worked_282 : decode cX12_worked 282 = .ok (.iload 5, 2) := by decide +kernel
theorem dX12_worked_284 : decode cX12_worked 284 = .ok (.ifCond .ne 7, 3) := by decide +kernel
theorem dX12_worked_287 : decode cX12_worked 287 = .ok (.iconst 1, 1) := by decide +kernel
theorem dX12_worked_288 : decode cX12_worked 288 = .ok (.goto 4, 3) := by decide +kernel
theorem dX12_worked_291 : decode cX12_worked 291 = .ok (.iconst 0, 1) := by decide +kernel
theorem dX12_worked_292 : decode cX12_worked 292 = .ok (.istore 5, 2) := by decide +kernel
theorem dX12_worked_294 : decode cX12_worked 294 = .ok (.iinc 2 (-1), 3) := by decide +kernel
theorem dX12_worked_297 : decode cX12_worked 297 = .ok (.goto (-29), 3) := by decide +kernel
theorem dX12_worked_300 : decode cX12_worked 300 = .ok (.aload_n 0, 1) := by decide +kernel
theorem dX12_worked_301 : decode cX12_worked 301 = .ok (.getfield 78, 3) := by decide +kernel
theorem dX12_worked_304 : decode cX12_worked 304 = .ok (.iload_n 2, 1) := by decide +kernel
theorem dX12_worked_305 : decode cX12_worked 305 = .ok (.aload_n 0, 1) := by decide +kernel
theorem dX12_worked_306 : decode cX12_worked 306 = .ok (.getfield 81, 3) := by decide +kernel
theorem dX12_worked_309 : decode cX12_worked 309 = .ok (.iload_n 2, 1) := by decide +kernel
theorem dX12_worked_310 : decode cX12_worked 310 = .ok (.iaload, 1) := by decide +kernel
theorem dX12_worked_311 : decode cX12_worked 311 = .ok (.ifCond .ne 8, 3) := by decide +kernel
theorem dX12_worked_314 : decode cX12_worked 314 = .ok (.iload 5, 2) := by decide +kernel
theorem dX12_worked_316 : decode cX12_worked 316 = .ok (.goto 12, 3) := by decide +kernel
theorem dX12_worked_319 : decode cX12_worked 319 = .ok (.aload_n 0, 1) := by decide +kernel
theorem dX12_worked_320 : decode cX12_worked 320 = .ok (.getfield 78, 3) := by decide +kernel
theorem dX12_worked_323 : decode cX12_worked 323 = .ok (.iload_n 2, 1) := by decide +kernel
theorem dX12_worked_324 : decode cX12_worked 324 = .ok (.iaload, 1) := by decide +kernel
theorem dX12_worked_325 : decode cX12_worked 325 = .ok (.iload 5, 2) := by decide +kernel
theorem dX12_worked_327 : decode cX12_worked 327 = .ok (.imul, 1) := by decide +kernel
theorem dX12_worked_328 : decode cX12_worked 328 = .ok (.iastore, 1) := by decide +kernel
theorem dX12_worked_329 : decode cX12_worked 329 = .ok (.iinc 3 1, 3) := by decide +kernel
theorem dX12_worked_332 : decode cX12_worked 332 = .ok (.goto (-318), 3) := by decide +kernel
theorem dX12_worked_335 : decode cX12_worked 335 = .ok (.aload_n 0, 1) := by decide +kernel
theorem dX12_worked_336 : decode cX12_worked 336 = .ok (.iconst 0, 1) := by decide +kernel
theorem dX12_worked_337 : decode cX12_worked 337 = .ok (.invokevirtual 221, 3) := by decide +kernel
theorem dX12_worked_340 : decode cX12_worked 340 = .ok (.aload_n 0, 1) := by decide +kernel
theorem dX12_worked_341 : decode cX12_worked 341 = .ok (.getfield 60, 3) := by decide +kernel
theorem dX12_worked_344 : decode cX12_worked 344 = .ok (.iconst 0, 1) := by decide +kernel
theorem dX12_worked_345 : decode cX12_worked 345 = .ok (.iaload, 1) := by decide +kernel
theorem dX12_worked_346 : decode cX12_worked 346 = .ok (.ireturn, 1) := by decide +kernel
theorem dX12_isKept_0 : decode cX12_isKept 0 = .ok (.aload_n 0, 1) := by decide +kernel
theorem dX12_isKept_1 : decode cX12_isKept 1 = .ok (.getfield 160, 3) := by decide +kernel
theorem dX12_isKept_4 : decode cX12_isKept 4 = .ok (.iconst 1, 1) := by decide +kernel
theorem dX12_isKept_5 : decode cX12_isKept 5 = .ok (.if_icmp .eq 5, 3) := by decide +kernel
theorem dX12_isKept_8 : decode cX12_isKept 8 = .ok (.iconst 1, 1) := by decide +kernel
theorem dX12_isKept_9 : decode cX12_isKept 9 = .ok (.ireturn, 1) := by decide +kernel
theorem dX12_isKept_10 : decode cX12_isKept 10 = .ok (.aload_n 0, 1) := by decide +kernel
theorem dX12_isKept_11 : decode cX12_isKept 11 = .ok (.getfield 153, 3) := by decide +kernel
theorem dX12_isKept_14 : decode cX12_isKept 14 = .ok (.ldc2_w 224, 3) := by decide +kernel
theorem dX12_isKept_17 : decode cX12_isKept 17 = .ok (.lcmp, 1) := by decide +kernel
theorem dX12_isKept_18 : decode cX12_isKept 18 = .ok (.ifCond .eq 179, 3) := by decide +kernel
theorem dX12_isKept_21 : decode cX12_isKept 21 = .ok (.aload_n 0, 1) := by decide +kernel
theorem dX12_isKept_22 : decode cX12_isKept 22 = .ok (.getfield 153, 3) := by decide +kernel
theorem dX12_isKept_25 : decode cX12_isKept 25 = .ok (.ldc2_w 179, 3) := by decide +kernel
theorem dX12_isKept_28 : decode cX12_isKept 28 = .ok (.lcmp, 1) := by decide +kernel
theorem dX12_isKept_29 : decode cX12_isKept 29 = .ok (.ifCond .eq 168, 3) := by decide +kernel
theorem dX12_isKept_32 : decode cX12_isKept 32 = .ok (.aload_n 0, 1) := by decide +kernel
theorem dX12_isKept_33 : decode cX12_isKept 33 = .ok (.getfield 153, 3) := by decide +kernel
theorem dX12_isKept_36 : decode cX12_isKept 36 = .ok (.ldc2_w 226, 3) := by decide +kernel
theorem dX12_isKept_39 : decode cX12_isKept 39 = .ok (.lcmp, 1) := by decide +kernel
theorem dX12_isKept_40 : decode cX12_isKept 40 = .ok (.ifCond .eq 157, 3) := by decide +kernel
theorem dX12_isKept_43 : decode cX12_isKept 43 = .ok (.aload_n 0, 1) := by decide +kernel
theorem dX12_isKept_44 : decode cX12_isKept 44 = .ok (.getfield 153, 3) := by decide +kernel
theorem dX12_isKept_47 : decode cX12_isKept 47 = .ok (.ldc2_w 228, 3) := by decide +kernel
theorem dX12_isKept_50 : decode cX12_isKept 50 = .ok (.lcmp, 1) := by decide +kernel
theorem dX12_isKept_51 : decode cX12_isKept 51 = .ok (.ifCond .eq 146, 3) := by decide +kernel
theorem dX12_isKept_54 : decode cX12_isKept 54 = .ok (.aload_n 0, 1) := by decide +kernel
theorem dX12_isKept_55 : decode cX12_isKept 55 = .ok (.getfield 153, 3) := by decide +kernel
theorem dX12_isKept_58 : decode cX12_isKept 58 = .ok (.ldc2_w 230, 3) := by decide +kernel
theorem dX12_isKept_61 : decode cX12_isKept 61 = .ok (.lcmp, 1) := by decide +kernel
theorem dX12_isKept_62 : decode cX12_isKept 62 = .ok (.ifCond .eq 135, 3) := by decide +kernel
theorem dX12_isKept_65 : decode cX12_isKept 65 = .ok (.aload_n 0, 1) := by decide +kernel
theorem dX12_isKept_66 : decode cX12_isKept 66 = .ok (.getfield 153, 3) := by decide +kernel
theorem dX12_isKept_69 : decode cX12_isKept 69 = .ok (.ldc2_w 232, 3) := by decide +kernel
theorem dX12_isKept_72 : decode cX12_isKept 72 = .ok (.lcmp, 1) := by decide +kernel
theorem dX12_isKept_73 : decode cX12_isKept 73 = .ok (.ifCond .eq 124, 3) := by decide +kernel
theorem dX12_isKept_76 : decode cX12_isKept 76 = .ok (.aload_n 0, 1) := by decide +kernel
theorem dX12_isKept_77 : decode cX12_isKept 77 = .ok (.getfield 153, 3) := by decide +kernel
theorem dX12_isKept_80 : decode cX12_isKept 80 = .ok (.ldc2_w 234, 3) := by decide +kernel
theorem dX12_isKept_83 : decode cX12_isKept 83 = .ok (.lcmp, 1) := by decide +kernel
theorem dX12_isKept_84 : decode cX12_isKept 84 = .ok (.ifCond .eq 113, 3) := by decide +kernel
theorem dX12_isKept_87 : decode cX12_isKept 87 = .ok (.aload_n 0, 1) := by decide +kernel
theorem dX12_isKept_88 : decode cX12_isKept 88 = .ok (.getfield 153, 3) := by decide +kernel
theorem dX12_isKept_91 : decode cX12_isKept 91 = .ok (.ldc2_w 236, 3) := by decide +kernel
theorem dX12_isKept_94 : decode cX12_isKept 94 = .ok (.lcmp, 1) := by decide +kernel
theorem dX12_isKept_95 : decode cX12_isKept 95 = .ok (.ifCond .eq 102, 3) := by decide +kernel
theorem dX12_isKept_98 : decode cX12_isKept 98 = .ok (.aload_n 0, 1) := by decide +kernel
theorem dX12_isKept_99 : decode cX12_isKept 99 = .ok (.getfield 153, 3) := by decide +kernel
theorem dX12_isKept_102 : decode cX12_isKept 102 = .ok (.ldc2_w 238, 3) := by decide +kernel
theorem dX12_isKept_105 : decode cX12_isKept 105 = .ok (.lcmp, 1) := by decide +kernel
theorem dX12_isKept_106 : decode cX12_isKept 106 = .ok (.ifCond .eq 91, 3) := by decide +kernel
theorem dX12_isKept_109 : decode cX12_isKept 109 = .ok (.aload_n 0, 1) := by decide +kernel
theorem dX12_isKept_110 : decode cX12_isKept 110 = .ok (.getfield 153, 3) := by decide +kernel
theorem dX12_isKept_113 : decode cX12_isKept 113 = .ok (.ldc2_w 240, 3) := by decide +kernel
theorem dX12_isKept_116 : decode cX12_isKept 116 = .ok (.lcmp, 1) := by decide +kernel
theorem dX12_isKept_117 : decode cX12_isKept 117 = .ok (.ifCond .eq 80, 3) := by decide +kernel
theorem dX12_isKept_120 : decode cX12_isKept 120 = .ok (.aload_n 0, 1) := by decide +kernel
theorem dX12_isKept_121 : decode cX12_isKept 121 = .ok (.getfield 153, 3) := by decide +kernel
theorem dX12_isKept_124 : decode cX12_isKept 124 = .ok (.ldc2_w 242, 3) := by decide +kernel
theorem dX12_isKept_127 : decode cX12_isKept 127 = .ok (.lcmp, 1) := by decide +kernel
theorem dX12_isKept_128 : decode cX12_isKept 128 = .ok (.ifCond .eq 69, 3) := by decide +kernel
theorem dX12_isKept_131 : decode cX12_isKept 131 = .ok (.aload_n 0, 1) := by decide +kernel
theorem dX12_isKept_132 : decode cX12_isKept 132 = .ok (.getfield 153, 3) := by decide +kernel
theorem dX12_isKept_135 : decode cX12_isKept 135 = .ok (.ldc2_w 244, 3) := by decide +kernel
theorem dX12_isKept_138 : decode cX12_isKept 138 = .ok (.lcmp, 1) := by decide +kernel
theorem dX12_isKept_139 : decode cX12_isKept 139 = .ok (.ifCond .eq 58, 3) := by decide +kernel
theorem dX12_isKept_142 : decode cX12_isKept 142 = .ok (.aload_n 0, 1) := by decide +kernel
theorem dX12_isKept_143 : decode cX12_isKept 143 = .ok (.getfield 153, 3) := by decide +kernel
theorem dX12_isKept_146 : decode cX12_isKept 146 = .ok (.ldc2_w 246, 3) := by decide +kernel
theorem dX12_isKept_149 : decode cX12_isKept 149 = .ok (.lcmp, 1) := by decide +kernel
theorem dX12_isKept_150 : decode cX12_isKept 150 = .ok (.ifCond .eq 47, 3) := by decide +kernel
theorem dX12_isKept_153 : decode cX12_isKept 153 = .ok (.aload_n 0, 1) := by decide +kernel
theorem dX12_isKept_154 : decode cX12_isKept 154 = .ok (.getfield 153, 3) := by decide +kernel
theorem dX12_isKept_157 : decode cX12_isKept 157 = .ok (.ldc2_w 248, 3) := by decide +kernel
theorem dX12_isKept_160 : decode cX12_isKept 160 = .ok (.lcmp, 1) := by decide +kernel
theorem dX12_isKept_161 : decode cX12_isKept 161 = .ok (.ifCond .eq 36, 3) := by decide +kernel
theorem dX12_isKept_164 : decode cX12_isKept 164 = .ok (.aload_n 0, 1) := by decide +kernel
theorem dX12_isKept_165 : decode cX12_isKept 165 = .ok (.getfield 153, 3) := by decide +kernel
theorem dX12_isKept_168 : decode cX12_isKept 168 = .ok (.ldc2_w 191, 3) := by decide +kernel
theorem dX12_isKept_171 : decode cX12_isKept 171 = .ok (.lcmp, 1) := by decide +kernel
theorem dX12_isKept_172 : decode cX12_isKept 172 = .ok (.ifCond .eq 25, 3) := by decide +kernel
theorem dX12_isKept_175 : decode cX12_isKept 175 = .ok (.aload_n 0, 1) := by decide +kernel
theorem dX12_isKept_176 : decode cX12_isKept 176 = .ok (.getfield 153, 3) := by decide +kernel
theorem dX12_isKept_179 : decode cX12_isKept 179 = .ok (.ldc2_w 211, 3) := by decide +kernel
theorem dX12_isKept_182 : decode cX12_isKept 182 = .ok (.lcmp, 1) := by decide +kernel
theorem dX12_isKept_183 : decode cX12_isKept 183 = .ok (.ifCond .eq 14, 3) := by decide +kernel
theorem dX12_isKept_186 : decode cX12_isKept 186 = .ok (.aload_n 0, 1) := by decide +kernel
theorem dX12_isKept_187 : decode cX12_isKept 187 = .ok (.getfield 153, 3) := by decide +kernel
theorem dX12_isKept_190 : decode cX12_isKept 190 = .ok (.ldc2_w 213, 3) := by decide +kernel
theorem dX12_isKept_193 : decode cX12_isKept 193 = .ok (.lcmp, 1) := by decide +kernel
theorem dX12_isKept_194 : decode cX12_isKept 194 = .ok (.ifCond .ne 7, 3) := by decide +kernel
theorem dX12_isKept_197 : decode cX12_isKept 197 = .ok (.iconst 1, 1) := by decide +kernel
theorem dX12_isKept_198 : decode cX12_isKept 198 = .ok (.goto 4, 3) := by decide +kernel
theorem dX12_isKept_201 : decode cX12_isKept 201 = .ok (.iconst 0, 1) := by decide +kernel
theorem dX12_isKept_202 : decode cX12_isKept 202 = .ok (.ireturn, 1) := by decide +kernel
theorem dX12_pupilNamed_0 : decode cX12_pupilNamed 0 = .ok (.iconst 0, 1) := by decide +kernel
theorem dX12_pupilNamed_1 : decode cX12_pupilNamed 1 = .ok (.istore_n 1, 1) := by decide +kernel
theorem dX12_pupilNamed_2 : decode cX12_pupilNamed 2 = .ok (.iload_n 1, 1) := by decide +kernel
theorem dX12_pupilNamed_3 : decode cX12_pupilNamed 3 = .ok (.aload_n 0, 1) := by decide +kernel
theorem dX12_pupilNamed_4 : decode cX12_pupilNamed 4 = .ok (.getfield 13, 3) := by decide +kernel
theorem dX12_pupilNamed_7 : decode cX12_pupilNamed 7 = .ok (.iconst 1, 1) := by decide +kernel
theorem dX12_pupilNamed_8 : decode cX12_pupilNamed 8 = .ok (.iaload, 1) := by decide +kernel
theorem dX12_pupilNamed_9 : decode cX12_pupilNamed 9 = .ok (.if_icmp .ge 25, 3) := by decide +kernel
theorem dX12_pupilNamed_12 : decode cX12_pupilNamed 12 = .ok (.aload_n 0, 1) := by decide +kernel
theorem dX12_pupilNamed_13 : decode cX12_pupilNamed 13 = .ok (.getfield 22, 3) := by decide +kernel
theorem dX12_pupilNamed_16 : decode cX12_pupilNamed 16 = .ok (.iload_n 1, 1) := by decide +kernel
theorem dX12_pupilNamed_17 : decode cX12_pupilNamed 17 = .ok (.laload, 1) := by decide +kernel
theorem dX12_pupilNamed_18 : decode cX12_pupilNamed 18 = .ok (.aload_n 0, 1) := by decide +kernel
theorem dX12_pupilNamed_19 : decode cX12_pupilNamed 19 = .ok (.getfield 153, 3) := by decide +kernel
theorem dX12_pupilNamed_22 : decode cX12_pupilNamed 22 = .ok (.lcmp, 1) := by decide +kernel
theorem dX12_pupilNamed_23 : decode cX12_pupilNamed 23 = .ok (.ifCond .ne 5, 3) := by decide +kernel
theorem dX12_pupilNamed_26 : decode cX12_pupilNamed 26 = .ok (.iload_n 1, 1) := by decide +kernel
theorem dX12_pupilNamed_27 : decode cX12_pupilNamed 27 = .ok (.ireturn, 1) := by decide +kernel
theorem dX12_pupilNamed_28 : decode cX12_pupilNamed 28 = .ok (.iinc 1 1, 3) := by decide +kernel
theorem dX12_pupilNamed_31 : decode cX12_pupilNamed 31 = .ok (.goto (-29), 3) := by decide +kernel
theorem dX12_pupilNamed_34 : decode cX12_pupilNamed 34 = .ok (.iconst (-1), 1) := by decide +kernel
theorem dX12_pupilNamed_35 : decode cX12_pupilNamed 35 = .ok (.ireturn, 1) := by decide +kernel
theorem dX12_needsNumber_0 : decode cX12_needsNumber 0 = .ok (.aload_n 0, 1) := by decide +kernel
theorem dX12_needsNumber_1 : decode cX12_needsNumber 1 = .ok (.getfield 160, 3) := by decide +kernel
theorem dX12_needsNumber_4 : decode cX12_needsNumber 4 = .ok (.iconst 2, 1) := by decide +kernel
theorem dX12_needsNumber_5 : decode cX12_needsNumber 5 = .ok (.if_icmp .eq 9, 3) := by decide +kernel
theorem dX12_needsNumber_8 : decode cX12_needsNumber 8 = .ok (.aload_n 0, 1) := by decide +kernel
theorem dX12_needsNumber_9 : decode cX12_needsNumber 9 = .ok (.iconst 1, 1) := by decide +kernel
theorem dX12_needsNumber_10 : decode cX12_needsNumber 10 = .ok (.invokevirtual 201, 3) := by decide +kernel
theorem dX12_needsNumber_13 : decode cX12_needsNumber 13 = .ok (.ireturn, 1) := by decide +kernel
theorem dX12_needsNumber_14 : decode cX12_needsNumber 14 = .ok (.aload_n 0, 1) := by decide +kernel
theorem dX12_needsNumber_15 : decode cX12_needsNumber 15 = .ok (.getfield 157, 3) := by decide +kernel
theorem dX12_needsNumber_18 : decode cX12_needsNumber 18 = .ok (.iload_n 1, 1) := by decide +kernel
theorem dX12_needsNumber_19 : decode cX12_needsNumber 19 = .ok (.iload_n 2, 1) := by decide +kernel
theorem dX12_needsNumber_20 : decode cX12_needsNumber 20 = .ok (.invokestatic 250, 3) := by decide +kernel
theorem dX12_needsNumber_23 : decode cX12_needsNumber 23 = .ok (.ifCond .ne 9, 3) := by decide +kernel
theorem dX12_needsNumber_26 : decode cX12_needsNumber 26 = .ok (.aload_n 0, 1) := by decide +kernel
theorem dX12_needsNumber_27 : decode cX12_needsNumber 27 = .ok (.iconst 4, 1) := by decide +kernel
theorem dX12_needsNumber_28 : decode cX12_needsNumber 28 = .ok (.invokevirtual 201, 3) := by decide +kernel
theorem dX12_needsNumber_31 : decode cX12_needsNumber 31 = .ok (.ireturn, 1) := by decide +kernel
theorem dX12_needsNumber_32 : decode cX12_needsNumber 32 = .ok (.aload_n 0, 1) := by decide +kernel
theorem dX12_needsNumber_33 : decode cX12_needsNumber 33 = .ok (.aload_n 0, 1) := by decide +kernel
theorem dX12_needsNumber_34 : decode cX12_needsNumber 34 = .ok (.getfield 157, 3) := by decide +kernel
theorem dX12_needsNumber_37 : decode cX12_needsNumber 37 = .ok (.putfield 254, 3) := by decide +kernel
theorem dX12_needsNumber_40 : decode cX12_needsNumber 40 = .ok (.aload_n 0, 1) := by decide +kernel
theorem dX12_needsNumber_41 : decode cX12_needsNumber 41 = .ok (.invokevirtual 208, 3) := by decide +kernel
theorem dX12_needsNumber_44 : decode cX12_needsNumber 44 = .ok (.iconst 1, 1) := by decide +kernel
theorem dX12_needsNumber_45 : decode cX12_needsNumber 45 = .ok (.ireturn, 1) := by decide +kernel
theorem dX12_needsWord_0 : decode cX12_needsWord 0 = .ok (.aload_n 0, 1) := by decide +kernel
theorem dX12_needsWord_1 : decode cX12_needsWord 1 = .ok (.lload_n 1, 1) := by decide +kernel
theorem dX12_needsWord_2 : decode cX12_needsWord 2 = .ok (.invokevirtual 193, 3) := by decide +kernel
theorem dX12_needsWord_5 : decode cX12_needsWord 5 = .ok (.ifCond .ne 9, 3) := by decide +kernel
theorem dX12_needsWord_8 : decode cX12_needsWord 8 = .ok (.aload_n 0, 1) := by decide +kernel
theorem dX12_needsWord_9 : decode cX12_needsWord 9 = .ok (.iconst 1, 1) := by decide +kernel
theorem dX12_needsWord_10 : decode cX12_needsWord 10 = .ok (.invokevirtual 201, 3) := by decide +kernel
theorem dX12_needsWord_13 : decode cX12_needsWord 13 = .ok (.ireturn, 1) := by decide +kernel
theorem dX12_needsWord_14 : decode cX12_needsWord 14 = .ok (.aload_n 0, 1) := by decide +kernel
theorem dX12_needsWord_15 : decode cX12_needsWord 15 = .ok (.invokevirtual 208, 3) := by decide +kernel
theorem dX12_needsWord_18 : decode cX12_needsWord 18 = .ok (.iconst 1, 1) := by decide +kernel
theorem dX12_needsWord_19 : decode cX12_needsWord 19 = .ok (.ireturn, 1) := by decide +kernel
theorem dX12_ends_0 : decode cX12_ends 0 = .ok (.aload_n 0, 1) := by decide +kernel
theorem dX12_ends_1 : decode cX12_ends 1 = .ok (.bipush 59, 2) := by decide +kernel
theorem dX12_ends_3 : decode cX12_ends 3 = .ok (.invokevirtual 197, 3) := by decide +kernel
theorem dX12_ends_6 : decode cX12_ends 6 = .ok (.ifCond .ne 9, 3) := by decide +kernel
theorem dX12_ends_9 : decode cX12_ends 9 = .ok (.aload_n 0, 1) := by decide +kernel
theorem dX12_ends_10 : decode cX12_ends 10 = .ok (.iconst 1, 1) := by decide +kernel
theorem dX12_ends_11 : decode cX12_ends 11 = .ok (.invokevirtual 201, 3) := by decide +kernel
theorem dX12_ends_14 : decode cX12_ends 14 = .ok (.ireturn, 1) := by decide +kernel
theorem dX12_ends_15 : decode cX12_ends 15 = .ok (.aload_n 0, 1) := by decide +kernel
theorem dX12_ends_16 : decode cX12_ends 16 = .ok (.invokevirtual 208, 3) := by decide +kernel
theorem dX12_ends_19 : decode cX12_ends 19 = .ok (.iconst 1, 1) := by decide +kernel
theorem dX12_ends_20 : decode cX12_ends 20 = .ok (.ireturn, 1) := by decide +kernel
theorem dX12_kindAt_0 : decode cX12_kindAt 0 = .ok (.aload_n 0, 1) := by decide +kernel
theorem dX12_kindAt_1 : decode cX12_kindAt 1 = .ok (.ldc2_w 240, 3) := by decide +kernel
theorem dX12_kindAt_4 : decode cX12_kindAt 4 = .ok (.invokevirtual 193, 3) := by decide +kernel
theorem dX12_kindAt_7 : decode cX12_kindAt 7 = .ok (.ifCond .eq 7, 3) := by decide +kernel
theorem dX12_kindAt_10 : decode cX12_kindAt 10 = .ok (.iconst 0, 1) := by decide +kernel
theorem dX12_kindAt_11 : decode cX12_kindAt 11 = .ok (.goto 60, 3) := by decide +kernel
theorem dX12_kindAt_14 : decode cX12_kindAt 14 = .ok (.aload_n 0, 1) := by decide +kernel
theorem dX12_kindAt_15 : decode cX12_kindAt 15 = .ok (.ldc2_w 242, 3) := by decide +kernel
theorem dX12_kindAt_18 : decode cX12_kindAt 18 = .ok (.invokevirtual 193, 3) := by decide +kernel
theorem dX12_kindAt_21 : decode cX12_kindAt 21 = .ok (.ifCond .eq 7, 3) := by decide +kernel
theorem dX12_kindAt_24 : decode cX12_kindAt 24 = .ok (.iconst 1, 1) := by decide +kernel
theorem dX12_kindAt_25 : decode cX12_kindAt 25 = .ok (.goto 46, 3) := by decide +kernel
theorem dX12_kindAt_28 : decode cX12_kindAt 28 = .ok (.aload_n 0, 1) := by decide +kernel
theorem dX12_kindAt_29 : decode cX12_kindAt 29 = .ok (.ldc2_w 244, 3) := by decide +kernel
theorem dX12_kindAt_32 : decode cX12_kindAt 32 = .ok (.invokevirtual 193, 3) := by decide +kernel
theorem dX12_kindAt_35 : decode cX12_kindAt 35 = .ok (.ifCond .eq 7, 3) := by decide +kernel
theorem dX12_kindAt_38 : decode cX12_kindAt 38 = .ok (.iconst 2, 1) := by decide +kernel
theorem dX12_kindAt_39 : decode cX12_kindAt 39 = .ok (.goto 32, 3) := by decide +kernel
theorem dX12_kindAt_42 : decode cX12_kindAt 42 = .ok (.aload_n 0, 1) := by decide +kernel
theorem dX12_kindAt_43 : decode cX12_kindAt 43 = .ok (.ldc2_w 246, 3) := by decide +kernel
theorem dX12_kindAt_46 : decode cX12_kindAt 46 = .ok (.invokevirtual 193, 3) := by decide +kernel
theorem dX12_kindAt_49 : decode cX12_kindAt 49 = .ok (.ifCond .eq 7, 3) := by decide +kernel
theorem dX12_kindAt_52 : decode cX12_kindAt 52 = .ok (.iconst 3, 1) := by decide +kernel
theorem dX12_kindAt_53 : decode cX12_kindAt 53 = .ok (.goto 18, 3) := by decide +kernel
theorem dX12_kindAt_56 : decode cX12_kindAt 56 = .ok (.aload_n 0, 1) := by decide +kernel
theorem dX12_kindAt_57 : decode cX12_kindAt 57 = .ok (.ldc2_w 248, 3) := by decide +kernel
theorem dX12_kindAt_60 : decode cX12_kindAt 60 = .ok (.invokevirtual 193, 3) := by decide +kernel
theorem dX12_kindAt_63 : decode cX12_kindAt 63 = .ok (.ifCond .eq 7, 3) := by decide +kernel
theorem dX12_kindAt_66 : decode cX12_kindAt 66 = .ok (.iconst 4, 1) := by decide +kernel
theorem dX12_kindAt_67 : decode cX12_kindAt 67 = .ok (.goto 4, 3) := by decide +kernel
theorem dX12_kindAt_70 : decode cX12_kindAt 70 = .ok (.iconst (-1), 1) := by decide +kernel
theorem dX12_kindAt_71 : decode cX12_kindAt 71 = .ok (.ireturn, 1) := by decide +kernel
theorem dX12_readsPupil_0 : decode cX12_readsPupil 0 = .ok (.aload_n 0, 1) := by decide +kernel
theorem dX12_readsPupil_1 : decode cX12_readsPupil 1 = .ok (.getfield 13, 3) := by decide +kernel
theorem dX12_readsPupil_4 : decode cX12_readsPupil 4 = .ok (.iconst 1, 1) := by decide +kernel
theorem dX12_readsPupil_5 : decode cX12_readsPupil 5 = .ok (.iaload, 1) := by decide +kernel
theorem dX12_readsPupil_6 : decode cX12_readsPupil 6 = .ok (.istore_n 1, 1) := by decide +kernel
theorem dX12_readsPupil_7 : decode cX12_readsPupil 7 = .ok (.iload_n 1, 1) := by decide +kernel
theorem dX12_readsPupil_8 : decode cX12_readsPupil 8 = .ok (.bipush 10, 2) := by decide +kernel
theorem dX12_readsPupil_10 : decode cX12_readsPupil 10 = .ok (.if_icmp .ne 9, 3) := by decide +kernel
theorem dX12_readsPupil_13 : decode cX12_readsPupil 13 = .ok (.aload_n 0, 1) := by decide +kernel
theorem dX12_readsPupil_14 : decode cX12_readsPupil 14 = .ok (.iconst 5, 1) := by decide +kernel
theorem dX12_readsPupil_15 : decode cX12_readsPupil 15 = .ok (.invokevirtual 201, 3) := by decide +kernel
theorem dX12_readsPupil_18 : decode cX12_readsPupil 18 = .ok (.ireturn, 1) := by decide +kernel
theorem dX12_readsPupil_19 : decode cX12_readsPupil 19 = .ok (.aload_n 0, 1) := by decide +kernel
theorem dX12_readsPupil_20 : decode cX12_readsPupil 20 = .ok (.invokevirtual 208, 3) := by decide +kernel
theorem dX12_readsPupil_23 : decode cX12_readsPupil 23 = .ok (.aload_n 0, 1) := by decide +kernel
theorem dX12_readsPupil_24 : decode cX12_readsPupil 24 = .ok (.invokevirtual 257, 3) := by decide +kernel
theorem dX12_readsPupil_27 : decode cX12_readsPupil 27 = .ok (.ifCond .eq 9, 3) := by decide +kernel
theorem dX12_readsPupil_30 : decode cX12_readsPupil 30 = .ok (.aload_n 0, 1) := by decide +kernel
theorem dX12_readsPupil_31 : decode cX12_readsPupil 31 = .ok (.iconst 1, 1) := by decide +kernel
theorem dX12_readsPupil_32 : decode cX12_readsPupil 32 = .ok (.invokevirtual 201, 3) := by decide +kernel
theorem dX12_readsPupil_35 : decode cX12_readsPupil 35 = .ok (.ireturn, 1) := by decide +kernel
theorem dX12_readsPupil_36 : decode cX12_readsPupil 36 = .ok (.aload_n 0, 1) := by decide +kernel
theorem dX12_readsPupil_37 : decode cX12_readsPupil 37 = .ok (.invokevirtual 261, 3) := by decide +kernel
theorem dX12_readsPupil_40 : decode cX12_readsPupil 40 = .ok (.ifCond .lt 9, 3) := by decide +kernel
theorem dX12_readsPupil_43 : decode cX12_readsPupil 43 = .ok (.aload_n 0, 1) := by decide +kernel
theorem dX12_readsPupil_44 : decode cX12_readsPupil 44 = .ok (.iconst 3, 1) := by decide +kernel
theorem dX12_readsPupil_45 : decode cX12_readsPupil 45 = .ok (.invokevirtual 201, 3) := by decide +kernel
theorem dX12_readsPupil_48 : decode cX12_readsPupil 48 = .ok (.ireturn, 1) := by decide +kernel
theorem dX12_readsPupil_49 : decode cX12_readsPupil 49 = .ok (.aload_n 0, 1) := by decide +kernel
theorem dX12_readsPupil_50 : decode cX12_readsPupil 50 = .ok (.getfield 22, 3) := by decide +kernel
theorem dX12_readsPupil_53 : decode cX12_readsPupil 53 = .ok (.iload_n 1, 1) := by decide +kernel
theorem dX12_readsPupil_54 : decode cX12_readsPupil 54 = .ok (.aload_n 0, 1) := by decide +kernel
theorem dX12_readsPupil_55 : decode cX12_readsPupil 55 = .ok (.getfield 153, 3) := by decide +kernel
theorem dX12_readsPupil_58 : decode cX12_readsPupil 58 = .ok (.lastore, 1) := by decide +kernel
theorem dX12_readsPupil_59 : decode cX12_readsPupil 59 = .ok (.aload_n 0, 1) := by decide +kernel
theorem dX12_readsPupil_60 : decode cX12_readsPupil 60 = .ok (.invokevirtual 208, 3) := by decide +kernel
theorem dX12_readsPupil_63 : decode cX12_readsPupil 63 = .ok (.aload_n 0, 1) := by decide +kernel
theorem dX12_readsPupil_64 : decode cX12_readsPupil 64 = .ok (.getfield 26, 3) := by decide +kernel
theorem dX12_readsPupil_67 : decode cX12_readsPupil 67 = .ok (.bipush 10, 2) := by decide +kernel
theorem dX12_readsPupil_69 : decode cX12_readsPupil 69 = .ok (.iload_n 1, 1) := by decide +kernel
theorem dX12_readsPupil_70 : decode cX12_readsPupil 70 = .ok (.iadd, 1) := by decide +kernel
theorem dX12_readsPupil_71 : decode cX12_readsPupil 71 = .ok (.aload_n 0, 1) := by decide +kernel
theorem dX12_readsPupil_72 : decode cX12_readsPupil 72 = .ok (.invokevirtual 264, 3) := by decide +kernel
theorem dX12_readsPupil_75 : decode cX12_readsPupil 75 = .ok (.iastore, 1) := by decide +kernel
theorem dX12_readsPupil_76 : decode cX12_readsPupil 76 = .ok (.aload_n 0, 1) := by decide +kernel
theorem dX12_readsPupil_77 : decode cX12_readsPupil 77 = .ok (.getfield 26, 3) := by decide +kernel
theorem dX12_readsPupil_80 : decode cX12_readsPupil 80 = .ok (.bipush 10, 2) := by decide +kernel
theorem dX12_readsPupil_82 : decode cX12_readsPupil 82 = .ok (.iload_n 1, 1) := by decide +kernel
theorem dX12_readsPupil_83 : decode cX12_readsPupil 83 = .ok (.iadd, 1) := by decide +kernel
theorem dX12_readsPupil_84 : decode cX12_readsPupil 84 = .ok (.iaload, 1) := by decide +kernel
theorem dX12_readsPupil_85 : decode cX12_readsPupil 85 = .ok (.ifCond .ge 9, 3) := by decide +kernel
theorem dX12_readsPupil_88 : decode cX12_readsPupil 88 = .ok (.aload_n 0, 1) := by decide +kernel
theorem dX12_readsPupil_89 : decode cX12_readsPupil 89 = .ok (.iconst 1, 1) := by decide +kernel
theorem dX12_readsPupil_90 : decode cX12_readsPupil 90 = .ok (.invokevirtual 201, 3) := by decide +kernel
theorem dX12_readsPupil_93 : decode cX12_readsPupil 93 = .ok (.ireturn, 1) := by decide +kernel
theorem dX12_readsPupil_94 : decode cX12_readsPupil 94 = .ok (.aload_n 0, 1) := by decide +kernel
theorem dX12_readsPupil_95 : decode cX12_readsPupil 95 = .ok (.invokevirtual 208, 3) := by decide +kernel
theorem dX12_readsPupil_98 : decode cX12_readsPupil 98 = .ok (.aload_n 0, 1) := by decide +kernel
theorem dX12_readsPupil_99 : decode cX12_readsPupil 99 = .ok (.ldc2_w 179, 3) := by decide +kernel
theorem dX12_readsPupil_102 : decode cX12_readsPupil 102 = .ok (.invokevirtual 267, 3) := by decide +kernel
theorem dX12_readsPupil_105 : decode cX12_readsPupil 105 = .ok (.ifCond .eq 13, 3) := by decide +kernel
theorem dX12_readsPupil_108 : decode cX12_readsPupil 108 = .ok (.aload_n 0, 1) := by decide +kernel
theorem dX12_readsPupil_109 : decode cX12_readsPupil 109 = .ok (.iconst 0, 1) := by decide +kernel
theorem dX12_readsPupil_110 : decode cX12_readsPupil 110 = .ok (.bipush 99, 2) := by decide +kernel
theorem dX12_readsPupil_112 : decode cX12_readsPupil 112 = .ok (.invokevirtual 270, 3) := by decide +kernel
theorem dX12_readsPupil_115 : decode cX12_readsPupil 115 = .ok (.ifCond .ne 5, 3) := by decide +kernel
theorem dX12_readsPupil_118 : decode cX12_readsPupil 118 = .ok (.iconst 0, 1) := by decide +kernel
theorem dX12_readsPupil_119 : decode cX12_readsPupil 119 = .ok (.ireturn, 1) := by decide +kernel
theorem dX12_readsPupil_120 : decode cX12_readsPupil 120 = .ok (.aload_n 0, 1) := by decide +kernel
theorem dX12_readsPupil_121 : decode cX12_readsPupil 121 = .ok (.getfield 29, 3) := by decide +kernel
theorem dX12_readsPupil_124 : decode cX12_readsPupil 124 = .ok (.bipush 10, 2) := by decide +kernel
theorem dX12_readsPupil_126 : decode cX12_readsPupil 126 = .ok (.iload_n 1, 1) := by decide +kernel
theorem dX12_readsPupil_127 : decode cX12_readsPupil 127 = .ok (.iadd, 1) := by decide +kernel
theorem dX12_readsPupil_128 : decode cX12_readsPupil 128 = .ok (.aload_n 0, 1) := by decide +kernel
theorem dX12_readsPupil_129 : decode cX12_readsPupil 129 = .ok (.getfield 254, 3) := by decide +kernel
theorem dX12_readsPupil_132 : decode cX12_readsPupil 132 = .ok (.iastore, 1) := by decide +kernel
theorem dX12_readsPupil_133 : decode cX12_readsPupil 133 = .ok (.aload_n 0, 1) := by decide +kernel
theorem dX12_readsPupil_134 : decode cX12_readsPupil 134 = .ok (.getfield 13, 3) := by decide +kernel
theorem dX12_readsPupil_137 : decode cX12_readsPupil 137 = .ok (.iconst 1, 1) := by decide +kernel
theorem dX12_readsPupil_138 : decode cX12_readsPupil 138 = .ok (.dup2, 1) := by decide +kernel
theorem dX12_readsPupil_139 : decode cX12_readsPupil 139 = .ok (.iaload, 1) := by decide +kernel
theorem dX12_readsPupil_140 : decode cX12_readsPupil 140 = .ok (.iconst 1, 1) := by decide +kernel
theorem dX12_readsPupil_141 : decode cX12_readsPupil 141 = .ok (.iadd, 1) := by decide +kernel
theorem dX12_readsPupil_142 : decode cX12_readsPupil 142 = .ok (.iastore, 1) := by decide +kernel
theorem dX12_readsPupil_143 : decode cX12_readsPupil 143 = .ok (.aload_n 0, 1) := by decide +kernel
theorem dX12_readsPupil_144 : decode cX12_readsPupil 144 = .ok (.invokevirtual 274, 3) := by decide +kernel
theorem dX12_readsPupil_147 : decode cX12_readsPupil 147 = .ok (.ireturn, 1) := by decide +kernel
theorem dX12_readsBench_0 : decode cX12_readsBench 0 = .ok (.aload_n 0, 1) := by decide +kernel
theorem dX12_readsBench_1 : decode cX12_readsBench 1 = .ok (.getfield 16, 3) := by decide +kernel
theorem dX12_readsBench_4 : decode cX12_readsBench 4 = .ok (.iconst 1, 1) := by decide +kernel
theorem dX12_readsBench_5 : decode cX12_readsBench 5 = .ok (.iaload, 1) := by decide +kernel
theorem dX12_readsBench_6 : decode cX12_readsBench 6 = .ok (.bipush 6, 2) := by decide +kernel
theorem dX12_readsBench_8 : decode cX12_readsBench 8 = .ok (.if_icmp .ne 9, 3) := by decide +kernel
theorem dX12_readsBench_11 : decode cX12_readsBench 11 = .ok (.aload_n 0, 1) := by decide +kernel
theorem dX12_readsBench_12 : decode cX12_readsBench 12 = .ok (.iconst 5, 1) := by decide +kernel
theorem dX12_readsBench_13 : decode cX12_readsBench 13 = .ok (.invokevirtual 201, 3) := by decide +kernel
theorem dX12_readsBench_16 : decode cX12_readsBench 16 = .ok (.ireturn, 1) := by decide +kernel
theorem dX12_readsBench_17 : decode cX12_readsBench 17 = .ok (.aload_n 0, 1) := by decide +kernel
theorem dX12_readsBench_18 : decode cX12_readsBench 18 = .ok (.invokevirtual 208, 3) := by decide +kernel
theorem dX12_readsBench_21 : decode cX12_readsBench 21 = .ok (.aload_n 0, 1) := by decide +kernel
theorem dX12_readsBench_22 : decode cX12_readsBench 22 = .ok (.ldc2_w 228, 3) := by decide +kernel
theorem dX12_readsBench_25 : decode cX12_readsBench 25 = .ok (.invokevirtual 267, 3) := by decide +kernel
theorem dX12_readsBench_28 : decode cX12_readsBench 28 = .ok (.ifCond .eq 13, 3) := by decide +kernel
theorem dX12_readsBench_31 : decode cX12_readsBench 31 = .ok (.aload_n 0, 1) := by decide +kernel
theorem dX12_readsBench_32 : decode cX12_readsBench 32 = .ok (.iconst 0, 1) := by decide +kernel
theorem dX12_readsBench_33 : decode cX12_readsBench 33 = .ok (.bipush 9, 2) := by decide +kernel
theorem dX12_readsBench_35 : decode cX12_readsBench 35 = .ok (.invokevirtual 270, 3) := by decide +kernel
theorem dX12_readsBench_38 : decode cX12_readsBench 38 = .ok (.ifCond .ne 5, 3) := by decide +kernel
theorem dX12_readsBench_41 : decode cX12_readsBench 41 = .ok (.iconst 0, 1) := by decide +kernel
theorem dX12_readsBench_42 : decode cX12_readsBench 42 = .ok (.ireturn, 1) := by decide +kernel
theorem dX12_readsBench_43 : decode cX12_readsBench 43 = .ok (.aload_n 0, 1) := by decide +kernel
theorem dX12_readsBench_44 : decode cX12_readsBench 44 = .ok (.getfield 32, 3) := by decide +kernel
theorem dX12_readsBench_47 : decode cX12_readsBench 47 = .ok (.bipush 6, 2) := by decide +kernel
theorem dX12_readsBench_49 : decode cX12_readsBench 49 = .ok (.aload_n 0, 1) := by decide +kernel
theorem dX12_readsBench_50 : decode cX12_readsBench 50 = .ok (.getfield 16, 3) := by decide +kernel
theorem dX12_readsBench_53 : decode cX12_readsBench 53 = .ok (.iconst 1, 1) := by decide +kernel
theorem dX12_readsBench_54 : decode cX12_readsBench 54 = .ok (.iaload, 1) := by decide +kernel
theorem dX12_readsBench_55 : decode cX12_readsBench 55 = .ok (.iadd, 1) := by decide +kernel
theorem dX12_readsBench_56 : decode cX12_readsBench 56 = .ok (.aload_n 0, 1) := by decide +kernel
theorem dX12_readsBench_57 : decode cX12_readsBench 57 = .ok (.getfield 254, 3) := by decide +kernel
theorem dX12_readsBench_60 : decode cX12_readsBench 60 = .ok (.iastore, 1) := by decide +kernel
theorem dX12_readsBench_61 : decode cX12_readsBench 61 = .ok (.aload_n 0, 1) := by decide +kernel
theorem dX12_readsBench_62 : decode cX12_readsBench 62 = .ok (.ldc2_w 230, 3) := by decide +kernel
theorem dX12_readsBench_65 : decode cX12_readsBench 65 = .ok (.invokevirtual 267, 3) := by decide +kernel
theorem dX12_readsBench_68 : decode cX12_readsBench 68 = .ok (.ifCond .eq 13, 3) := by decide +kernel
theorem dX12_readsBench_71 : decode cX12_readsBench 71 = .ok (.aload_n 0, 1) := by decide +kernel
theorem dX12_readsBench_72 : decode cX12_readsBench 72 = .ok (.iconst 0, 1) := by decide +kernel
theorem dX12_readsBench_73 : decode cX12_readsBench 73 = .ok (.bipush 99, 2) := by decide +kernel
theorem dX12_readsBench_75 : decode cX12_readsBench 75 = .ok (.invokevirtual 270, 3) := by decide +kernel
theorem dX12_readsBench_78 : decode cX12_readsBench 78 = .ok (.ifCond .ne 5, 3) := by decide +kernel
theorem dX12_readsBench_81 : decode cX12_readsBench 81 = .ok (.iconst 0, 1) := by decide +kernel
theorem dX12_readsBench_82 : decode cX12_readsBench 82 = .ok (.ireturn, 1) := by decide +kernel
theorem dX12_readsBench_83 : decode cX12_readsBench 83 = .ok (.aload_n 0, 1) := by decide +kernel
theorem dX12_readsBench_84 : decode cX12_readsBench 84 = .ok (.getfield 16, 3) := by decide +kernel
theorem dX12_readsBench_87 : decode cX12_readsBench 87 = .ok (.iconst 1, 1) := by decide +kernel
theorem dX12_readsBench_88 : decode cX12_readsBench 88 = .ok (.dup2, 1) := by decide +kernel
theorem dX12_readsBench_89 : decode cX12_readsBench 89 = .ok (.iaload, 1) := by decide +kernel
theorem dX12_readsBench_90 : decode cX12_readsBench 90 = .ok (.iconst 1, 1) := by decide +kernel
theorem dX12_readsBench_91 : decode cX12_readsBench 91 = .ok (.iadd, 1) := by decide +kernel
theorem dX12_readsBench_92 : decode cX12_readsBench 92 = .ok (.iastore, 1) := by decide +kernel
theorem dX12_readsBench_93 : decode cX12_readsBench 93 = .ok (.aload_n 0, 1) := by decide +kernel
theorem dX12_readsBench_94 : decode cX12_readsBench 94 = .ok (.invokevirtual 274, 3) := by decide +kernel
theorem dX12_readsBench_97 : decode cX12_readsBench 97 = .ok (.ireturn, 1) := by decide +kernel
theorem dX12_needsTwo_0 : decode cX12_needsTwo 0 = .ok (.aload_n 0, 1) := by decide +kernel
theorem dX12_needsTwo_1 : decode cX12_needsTwo 1 = .ok (.invokevirtual 208, 3) := by decide +kernel
theorem dX12_needsTwo_4 : decode cX12_needsTwo 4 = .ok (.aload_n 0, 1) := by decide +kernel
theorem dX12_needsTwo_5 : decode cX12_needsTwo 5 = .ok (.invokevirtual 257, 3) := by decide +kernel
theorem dX12_needsTwo_8 : decode cX12_needsTwo 8 = .ok (.ifCond .eq 9, 3) := by decide +kernel
theorem dX12_needsTwo_11 : decode cX12_needsTwo 11 = .ok (.aload_n 0, 1) := by decide +kernel
theorem dX12_needsTwo_12 : decode cX12_needsTwo 12 = .ok (.iconst 1, 1) := by decide +kernel
theorem dX12_needsTwo_13 : decode cX12_needsTwo 13 = .ok (.invokevirtual 201, 3) := by decide +kernel
theorem dX12_needsTwo_16 : decode cX12_needsTwo 16 = .ok (.ireturn, 1) := by decide +kernel
theorem dX12_needsTwo_17 : decode cX12_needsTwo 17 = .ok (.aload_n 0, 1) := by decide +kernel
theorem dX12_needsTwo_18 : decode cX12_needsTwo 18 = .ok (.aload_n 0, 1) := by decide +kernel
theorem dX12_needsTwo_19 : decode cX12_needsTwo 19 = .ok (.invokevirtual 261, 3) := by decide +kernel
theorem dX12_needsTwo_22 : decode cX12_needsTwo 22 = .ok (.putfield 277, 3) := by decide +kernel
theorem dX12_needsTwo_25 : decode cX12_needsTwo 25 = .ok (.aload_n 0, 1) := by decide +kernel
theorem dX12_needsTwo_26 : decode cX12_needsTwo 26 = .ok (.getfield 277, 3) := by decide +kernel
theorem dX12_needsTwo_29 : decode cX12_needsTwo 29 = .ok (.ifCond .ge 9, 3) := by decide +kernel
theorem dX12_needsTwo_32 : decode cX12_needsTwo 32 = .ok (.aload_n 0, 1) := by decide +kernel
theorem dX12_needsTwo_33 : decode cX12_needsTwo 33 = .ok (.iconst 2, 1) := by decide +kernel
theorem dX12_needsTwo_34 : decode cX12_needsTwo 34 = .ok (.invokevirtual 201, 3) := by decide +kernel
theorem dX12_needsTwo_37 : decode cX12_needsTwo 37 = .ok (.ireturn, 1) := by decide +kernel
theorem dX12_needsTwo_38 : decode cX12_needsTwo 38 = .ok (.aload_n 0, 1) := by decide +kernel
theorem dX12_needsTwo_39 : decode cX12_needsTwo 39 = .ok (.invokevirtual 208, 3) := by decide +kernel
theorem dX12_needsTwo_42 : decode cX12_needsTwo 42 = .ok (.aload_n 0, 1) := by decide +kernel
theorem dX12_needsTwo_43 : decode cX12_needsTwo 43 = .ok (.invokevirtual 257, 3) := by decide +kernel
theorem dX12_needsTwo_46 : decode cX12_needsTwo 46 = .ok (.ifCond .eq 9, 3) := by decide +kernel
theorem dX12_needsTwo_49 : decode cX12_needsTwo 49 = .ok (.aload_n 0, 1) := by decide +kernel
theorem dX12_needsTwo_50 : decode cX12_needsTwo 50 = .ok (.iconst 1, 1) := by decide +kernel
theorem dX12_needsTwo_51 : decode cX12_needsTwo 51 = .ok (.invokevirtual 201, 3) := by decide +kernel
theorem dX12_needsTwo_54 : decode cX12_needsTwo 54 = .ok (.ireturn, 1) := by decide +kernel
theorem dX12_needsTwo_55 : decode cX12_needsTwo 55 = .ok (.aload_n 0, 1) := by decide +kernel
theorem dX12_needsTwo_56 : decode cX12_needsTwo 56 = .ok (.aload_n 0, 1) := by decide +kernel
theorem dX12_needsTwo_57 : decode cX12_needsTwo 57 = .ok (.invokevirtual 261, 3) := by decide +kernel
theorem dX12_needsTwo_60 : decode cX12_needsTwo 60 = .ok (.putfield 280, 3) := by decide +kernel
theorem dX12_needsTwo_63 : decode cX12_needsTwo 63 = .ok (.aload_n 0, 1) := by decide +kernel
theorem dX12_needsTwo_64 : decode cX12_needsTwo 64 = .ok (.getfield 280, 3) := by decide +kernel
theorem dX12_needsTwo_67 : decode cX12_needsTwo 67 = .ok (.ifCond .ge 9, 3) := by decide +kernel
theorem dX12_needsTwo_70 : decode cX12_needsTwo 70 = .ok (.aload_n 0, 1) := by decide +kernel
theorem dX12_needsTwo_71 : decode cX12_needsTwo 71 = .ok (.iconst 2, 1) := by decide +kernel
theorem dX12_needsTwo_72 : decode cX12_needsTwo 72 = .ok (.invokevirtual 201, 3) := by decide +kernel
theorem dX12_needsTwo_75 : decode cX12_needsTwo 75 = .ok (.ireturn, 1) := by decide +kernel
theorem dX12_needsTwo_76 : decode cX12_needsTwo 76 = .ok (.aload_n 0, 1) := by decide +kernel
theorem dX12_needsTwo_77 : decode cX12_needsTwo 77 = .ok (.getfield 280, 3) := by decide +kernel
theorem dX12_needsTwo_80 : decode cX12_needsTwo 80 = .ok (.aload_n 0, 1) := by decide +kernel
theorem dX12_needsTwo_81 : decode cX12_needsTwo 81 = .ok (.getfield 277, 3) := by decide +kernel
theorem dX12_needsTwo_84 : decode cX12_needsTwo 84 = .ok (.if_icmp .ne 11, 3) := by decide +kernel
theorem dX12_needsTwo_87 : decode cX12_needsTwo 87 = .ok (.aload_n 0, 1) := by decide +kernel
theorem dX12_needsTwo_88 : decode cX12_needsTwo 88 = .ok (.iconst 3, 1) := by decide +kernel
theorem dX12_needsTwo_89 : decode cX12_needsTwo 89 = .ok (.invokevirtual 201, 3) := by decide +kernel
theorem dX12_needsTwo_92 : decode cX12_needsTwo 92 = .ok (.ifCond .eq 7, 3) := by decide +kernel
theorem dX12_needsTwo_95 : decode cX12_needsTwo 95 = .ok (.iconst 1, 1) := by decide +kernel
theorem dX12_needsTwo_96 : decode cX12_needsTwo 96 = .ok (.goto 4, 3) := by decide +kernel
theorem dX12_needsTwo_99 : decode cX12_needsTwo 99 = .ok (.iconst 0, 1) := by decide +kernel
theorem dX12_needsTwo_100 : decode cX12_needsTwo 100 = .ok (.ireturn, 1) := by decide +kernel
theorem dX12_readsSay_0 : decode cX12_readsSay 0 = .ok (.aload_n 0, 1) := by decide +kernel
theorem dX12_readsSay_1 : decode cX12_readsSay 1 = .ok (.getfield 47, 3) := by decide +kernel
theorem dX12_readsSay_4 : decode cX12_readsSay 4 = .ok (.iconst 0, 1) := by decide +kernel
theorem dX12_readsSay_5 : decode cX12_readsSay 5 = .ok (.iaload, 1) := by decide +kernel
theorem dX12_readsSay_6 : decode cX12_readsSay 6 = .ok (.istore_n 1, 1) := by decide +kernel
theorem dX12_readsSay_7 : decode cX12_readsSay 7 = .ok (.iload_n 1, 1) := by decide +kernel
theorem dX12_readsSay_8 : decode cX12_readsSay 8 = .ok (.bipush 40, 2) := by decide +kernel
theorem dX12_readsSay_10 : decode cX12_readsSay 10 = .ok (.if_icmp .ne 9, 3) := by decide +kernel
theorem dX12_readsSay_13 : decode cX12_readsSay 13 = .ok (.aload_n 0, 1) := by decide +kernel
theorem dX12_readsSay_14 : decode cX12_readsSay 14 = .ok (.iconst 5, 1) := by decide +kernel
theorem dX12_readsSay_15 : decode cX12_readsSay 15 = .ok (.invokevirtual 201, 3) := by decide +kernel
theorem dX12_readsSay_18 : decode cX12_readsSay 18 = .ok (.ireturn, 1) := by decide +kernel
theorem dX12_readsSay_19 : decode cX12_readsSay 19 = .ok (.aload_n 0, 1) := by decide +kernel
theorem dX12_readsSay_20 : decode cX12_readsSay 20 = .ok (.invokevirtual 283, 3) := by decide +kernel
theorem dX12_readsSay_23 : decode cX12_readsSay 23 = .ok (.ifCond .ne 5, 3) := by decide +kernel
theorem dX12_readsSay_26 : decode cX12_readsSay 26 = .ok (.iconst 0, 1) := by decide +kernel
theorem dX12_readsSay_27 : decode cX12_readsSay 27 = .ok (.ireturn, 1) := by decide +kernel
theorem dX12_readsSay_28 : decode cX12_readsSay 28 = .ok (.aload_n 0, 1) := by decide +kernel
theorem dX12_readsSay_29 : decode cX12_readsSay 29 = .ok (.invokevirtual 208, 3) := by decide +kernel
theorem dX12_readsSay_32 : decode cX12_readsSay 32 = .ok (.aload_n 0, 1) := by decide +kernel
theorem dX12_readsSay_33 : decode cX12_readsSay 33 = .ok (.iconst 0, 1) := by decide +kernel
theorem dX12_readsSay_34 : decode cX12_readsSay 34 = .ok (.iconst 1, 1) := by decide +kernel
theorem dX12_readsSay_35 : decode cX12_readsSay 35 = .ok (.invokevirtual 270, 3) := by decide +kernel
theorem dX12_readsSay_38 : decode cX12_readsSay 38 = .ok (.ifCond .ne 5, 3) := by decide +kernel
theorem dX12_readsSay_41 : decode cX12_readsSay 41 = .ok (.iconst 0, 1) := by decide +kernel
theorem dX12_readsSay_42 : decode cX12_readsSay 42 = .ok (.ireturn, 1) := by decide +kernel
theorem dX12_readsSay_43 : decode cX12_readsSay 43 = .ok (.aload_n 0, 1) := by decide +kernel
theorem dX12_readsSay_44 : decode cX12_readsSay 44 = .ok (.getfield 47, 3) := by decide +kernel
theorem dX12_readsSay_47 : decode cX12_readsSay 47 = .ok (.iconst 1, 1) := by decide +kernel
theorem dX12_readsSay_48 : decode cX12_readsSay 48 = .ok (.iload_n 1, 1) := by decide +kernel
theorem dX12_readsSay_49 : decode cX12_readsSay 49 = .ok (.iadd, 1) := by decide +kernel
theorem dX12_readsSay_50 : decode cX12_readsSay 50 = .ok (.aload_n 0, 1) := by decide +kernel
theorem dX12_readsSay_51 : decode cX12_readsSay 51 = .ok (.getfield 277, 3) := by decide +kernel
theorem dX12_readsSay_54 : decode cX12_readsSay 54 = .ok (.iastore, 1) := by decide +kernel
theorem dX12_readsSay_55 : decode cX12_readsSay 55 = .ok (.aload_n 0, 1) := by decide +kernel
theorem dX12_readsSay_56 : decode cX12_readsSay 56 = .ok (.getfield 47, 3) := by decide +kernel
theorem dX12_readsSay_59 : decode cX12_readsSay 59 = .ok (.bipush 41, 2) := by decide +kernel
theorem dX12_readsSay_61 : decode cX12_readsSay 61 = .ok (.iload_n 1, 1) := by decide +kernel
theorem dX12_readsSay_62 : decode cX12_readsSay 62 = .ok (.iadd, 1) := by decide +kernel
theorem dX12_readsSay_63 : decode cX12_readsSay 63 = .ok (.aload_n 0, 1) := by decide +kernel
theorem dX12_readsSay_64 : decode cX12_readsSay 64 = .ok (.getfield 280, 3) := by decide +kernel
theorem dX12_readsSay_67 : decode cX12_readsSay 67 = .ok (.iastore, 1) := by decide +kernel
theorem dX12_readsSay_68 : decode cX12_readsSay 68 = .ok (.aload_n 0, 1) := by decide +kernel
theorem dX12_readsSay_69 : decode cX12_readsSay 69 = .ok (.getfield 47, 3) := by decide +kernel
theorem dX12_readsSay_72 : decode cX12_readsSay 72 = .ok (.bipush 81, 2) := by decide +kernel
theorem dX12_readsSay_74 : decode cX12_readsSay 74 = .ok (.iload_n 1, 1) := by decide +kernel
theorem dX12_readsSay_75 : decode cX12_readsSay 75 = .ok (.iadd, 1) := by decide +kernel
theorem dX12_readsSay_76 : decode cX12_readsSay 76 = .ok (.aload_n 0, 1) := by decide +kernel
theorem dX12_readsSay_77 : decode cX12_readsSay 77 = .ok (.getfield 254, 3) := by decide +kernel
theorem dX12_readsSay_80 : decode cX12_readsSay 80 = .ok (.iastore, 1) := by decide +kernel
theorem dX12_readsSay_81 : decode cX12_readsSay 81 = .ok (.aload_n 0, 1) := by decide +kernel
theorem dX12_readsSay_82 : decode cX12_readsSay 82 = .ok (.getfield 47, 3) := by decide +kernel
theorem dX12_readsSay_85 : decode cX12_readsSay 85 = .ok (.iconst 0, 1) := by decide +kernel
theorem dX12_readsSay_86 : decode cX12_readsSay 86 = .ok (.dup2, 1) := by decide +kernel
theorem dX12_readsSay_87 : decode cX12_readsSay 87 = .ok (.iaload, 1) := by decide +kernel
theorem dX12_readsSay_88 : decode cX12_readsSay 88 = .ok (.iconst 1, 1) := by decide +kernel
theorem dX12_readsSay_89 : decode cX12_readsSay 89 = .ok (.iadd, 1) := by decide +kernel
theorem dX12_readsSay_90 : decode cX12_readsSay 90 = .ok (.iastore, 1) := by decide +kernel
theorem dX12_readsSay_91 : decode cX12_readsSay 91 = .ok (.aload_n 0, 1) := by decide +kernel
theorem dX12_readsSay_92 : decode cX12_readsSay 92 = .ok (.invokevirtual 274, 3) := by decide +kernel
theorem dX12_readsSay_95 : decode cX12_readsSay 95 = .ok (.ireturn, 1) := by decide +kernel
theorem dX12_readsLike_0 : decode cX12_readsLike 0 = .ok (.aload_n 0, 1) := by decide +kernel
theorem dX12_readsLike_1 : decode cX12_readsLike 1 = .ok (.invokevirtual 283, 3) := by decide +kernel
theorem dX12_readsLike_4 : decode cX12_readsLike 4 = .ok (.ifCond .ne 5, 3) := by decide +kernel
theorem dX12_readsLike_7 : decode cX12_readsLike 7 = .ok (.iconst 0, 1) := by decide +kernel
theorem dX12_readsLike_8 : decode cX12_readsLike 8 = .ok (.ireturn, 1) := by decide +kernel
theorem dX12_readsLike_9 : decode cX12_readsLike 9 = .ok (.aload_n 0, 1) := by decide +kernel
theorem dX12_readsLike_10 : decode cX12_readsLike 10 = .ok (.getfield 50, 3) := by decide +kernel
theorem dX12_readsLike_13 : decode cX12_readsLike 13 = .ok (.bipush 10, 2) := by decide +kernel
theorem dX12_readsLike_15 : decode cX12_readsLike 15 = .ok (.aload_n 0, 1) := by decide +kernel
theorem dX12_readsLike_16 : decode cX12_readsLike 16 = .ok (.getfield 277, 3) := by decide +kernel
theorem dX12_readsLike_19 : decode cX12_readsLike 19 = .ok (.imul, 1) := by decide +kernel
theorem dX12_readsLike_20 : decode cX12_readsLike 20 = .ok (.aload_n 0, 1) := by decide +kernel
theorem dX12_readsLike_21 : decode cX12_readsLike 21 = .ok (.getfield 280, 3) := by decide +kernel
theorem dX12_readsLike_24 : decode cX12_readsLike 24 = .ok (.iadd, 1) := by decide +kernel
theorem dX12_readsLike_25 : decode cX12_readsLike 25 = .ok (.baload, 1) := by decide +kernel
theorem dX12_readsLike_26 : decode cX12_readsLike 26 = .ok (.ifCond .eq 9, 3) := by decide +kernel
theorem dX12_readsLike_29 : decode cX12_readsLike 29 = .ok (.aload_n 0, 1) := by decide +kernel
theorem dX12_readsLike_30 : decode cX12_readsLike 30 = .ok (.iconst 3, 1) := by decide +kernel
theorem dX12_readsLike_31 : decode cX12_readsLike 31 = .ok (.invokevirtual 201, 3) := by decide +kernel
theorem dX12_readsLike_34 : decode cX12_readsLike 34 = .ok (.ireturn, 1) := by decide +kernel
theorem dX12_readsLike_35 : decode cX12_readsLike 35 = .ok (.aload_n 0, 1) := by decide +kernel
theorem dX12_readsLike_36 : decode cX12_readsLike 36 = .ok (.getfield 50, 3) := by decide +kernel
theorem dX12_readsLike_39 : decode cX12_readsLike 39 = .ok (.bipush 10, 2) := by decide +kernel
theorem dX12_readsLike_41 : decode cX12_readsLike 41 = .ok (.aload_n 0, 1) := by decide +kernel
theorem dX12_readsLike_42 : decode cX12_readsLike 42 = .ok (.getfield 277, 3) := by decide +kernel
theorem dX12_readsLike_45 : decode cX12_readsLike 45 = .ok (.imul, 1) := by decide +kernel
theorem dX12_readsLike_46 : decode cX12_readsLike 46 = .ok (.aload_n 0, 1) := by decide +kernel
theorem dX12_readsLike_47 : decode cX12_readsLike 47 = .ok (.getfield 280, 3) := by decide +kernel
theorem dX12_readsLike_50 : decode cX12_readsLike 50 = .ok (.iadd, 1) := by decide +kernel
theorem dX12_readsLike_51 : decode cX12_readsLike 51 = .ok (.iconst 1, 1) := by decide +kernel
theorem dX12_readsLike_52 : decode cX12_readsLike 52 = .ok (.bastore, 1) := by decide +kernel
theorem dX12_readsLike_53 : decode cX12_readsLike 53 = .ok (.aload_n 0, 1) := by decide +kernel
theorem dX12_readsLike_54 : decode cX12_readsLike 54 = .ok (.invokevirtual 208, 3) := by decide +kernel
theorem dX12_readsLike_57 : decode cX12_readsLike 57 = .ok (.aload_n 0, 1) := by decide +kernel
theorem dX12_readsLike_58 : decode cX12_readsLike 58 = .ok (.iconst 0, 1) := by decide +kernel
theorem dX12_readsLike_59 : decode cX12_readsLike 59 = .ok (.bipush 99, 2) := by decide +kernel
theorem dX12_readsLike_61 : decode cX12_readsLike 61 = .ok (.invokevirtual 270, 3) := by decide +kernel
theorem dX12_readsLike_64 : decode cX12_readsLike 64 = .ok (.ifCond .ne 5, 3) := by decide +kernel
theorem dX12_readsLike_67 : decode cX12_readsLike 67 = .ok (.iconst 0, 1) := by decide +kernel
theorem dX12_readsLike_68 : decode cX12_readsLike 68 = .ok (.ireturn, 1) := by decide +kernel
theorem dX12_readsLike_69 : decode cX12_readsLike 69 = .ok (.aload_n 0, 1) := by decide +kernel
theorem dX12_readsLike_70 : decode cX12_readsLike 70 = .ok (.getfield 35, 3) := by decide +kernel
theorem dX12_readsLike_73 : decode cX12_readsLike 73 = .ok (.bipush 100, 2) := by decide +kernel
theorem dX12_readsLike_75 : decode cX12_readsLike 75 = .ok (.bipush 10, 2) := by decide +kernel
theorem dX12_readsLike_77 : decode cX12_readsLike 77 = .ok (.aload_n 0, 1) := by decide +kernel
theorem dX12_readsLike_78 : decode cX12_readsLike 78 = .ok (.getfield 277, 3) := by decide +kernel
theorem dX12_readsLike_81 : decode cX12_readsLike 81 = .ok (.imul, 1) := by decide +kernel
theorem dX12_readsLike_82 : decode cX12_readsLike 82 = .ok (.iadd, 1) := by decide +kernel
theorem dX12_readsLike_83 : decode cX12_readsLike 83 = .ok (.aload_n 0, 1) := by decide +kernel
theorem dX12_readsLike_84 : decode cX12_readsLike 84 = .ok (.getfield 280, 3) := by decide +kernel
theorem dX12_readsLike_87 : decode cX12_readsLike 87 = .ok (.iadd, 1) := by decide +kernel
theorem dX12_readsLike_88 : decode cX12_readsLike 88 = .ok (.aload_n 0, 1) := by decide +kernel
theorem dX12_readsLike_89 : decode cX12_readsLike 89 = .ok (.getfield 254, 3) := by decide +kernel
theorem dX12_readsLike_92 : decode cX12_readsLike 92 = .ok (.iastore, 1) := by decide +kernel
theorem dX12_readsLike_93 : decode cX12_readsLike 93 = .ok (.aload_n 0, 1) := by decide +kernel
theorem dX12_readsLike_94 : decode cX12_readsLike 94 = .ok (.invokevirtual 274, 3) := by decide +kernel
theorem dX12_readsLike_97 : decode cX12_readsLike 97 = .ok (.ireturn, 1) := by decide +kernel
theorem dX12_readsSlip_0 : decode cX12_readsSlip 0 = .ok (.aload_n 0, 1) := by decide +kernel
theorem dX12_readsSlip_1 : decode cX12_readsSlip 1 = .ok (.getfield 286, 3) := by decide +kernel
theorem dX12_readsSlip_4 : decode cX12_readsSlip 4 = .ok (.ifCond .eq 9, 3) := by decide +kernel
theorem dX12_readsSlip_7 : decode cX12_readsSlip 7 = .ok (.aload_n 0, 1) := by decide +kernel
theorem dX12_readsSlip_8 : decode cX12_readsSlip 8 = .ok (.iconst 3, 1) := by decide +kernel
theorem dX12_readsSlip_9 : decode cX12_readsSlip 9 = .ok (.invokevirtual 201, 3) := by decide +kernel
theorem dX12_readsSlip_12 : decode cX12_readsSlip 12 = .ok (.ireturn, 1) := by decide +kernel
theorem dX12_readsSlip_13 : decode cX12_readsSlip 13 = .ok (.aload_n 0, 1) := by decide +kernel
theorem dX12_readsSlip_14 : decode cX12_readsSlip 14 = .ok (.iconst 1, 1) := by decide +kernel
theorem dX12_readsSlip_15 : decode cX12_readsSlip 15 = .ok (.putfield 286, 3) := by decide +kernel
theorem dX12_readsSlip_18 : decode cX12_readsSlip 18 = .ok (.aload_n 0, 1) := by decide +kernel
theorem dX12_readsSlip_19 : decode cX12_readsSlip 19 = .ok (.invokevirtual 208, 3) := by decide +kernel
theorem dX12_readsSlip_22 : decode cX12_readsSlip 22 = .ok (.aload_n 0, 1) := by decide +kernel
theorem dX12_readsSlip_23 : decode cX12_readsSlip 23 = .ok (.iconst 0, 1) := by decide +kernel
theorem dX12_readsSlip_24 : decode cX12_readsSlip 24 = .ok (.iconst 3, 1) := by decide +kernel
theorem dX12_readsSlip_25 : decode cX12_readsSlip 25 = .ok (.invokevirtual 270, 3) := by decide +kernel
theorem dX12_readsSlip_28 : decode cX12_readsSlip 28 = .ok (.ifCond .ne 5, 3) := by decide +kernel
theorem dX12_readsSlip_31 : decode cX12_readsSlip 31 = .ok (.iconst 0, 1) := by decide +kernel
theorem dX12_readsSlip_32 : decode cX12_readsSlip 32 = .ok (.ireturn, 1) := by decide +kernel
theorem dX12_readsSlip_33 : decode cX12_readsSlip 33 = .ok (.aload_n 0, 1) := by decide +kernel
theorem dX12_readsSlip_34 : decode cX12_readsSlip 34 = .ok (.getfield 19, 3) := by decide +kernel
theorem dX12_readsSlip_37 : decode cX12_readsSlip 37 = .ok (.iconst 1, 1) := by decide +kernel
theorem dX12_readsSlip_38 : decode cX12_readsSlip 38 = .ok (.aload_n 0, 1) := by decide +kernel
theorem dX12_readsSlip_39 : decode cX12_readsSlip 39 = .ok (.getfield 254, 3) := by decide +kernel
theorem dX12_readsSlip_42 : decode cX12_readsSlip 42 = .ok (.iastore, 1) := by decide +kernel
theorem dX12_readsSlip_43 : decode cX12_readsSlip 43 = .ok (.aload_n 0, 1) := by decide +kernel
theorem dX12_readsSlip_44 : decode cX12_readsSlip 44 = .ok (.invokevirtual 274, 3) := by decide +kernel
theorem dX12_readsSlip_47 : decode cX12_readsSlip 47 = .ok (.ireturn, 1) := by decide +kernel
theorem dX12_readsWish_0 : decode cX12_readsWish 0 = .ok (.aload_n 0, 1) := by decide +kernel
theorem dX12_readsWish_1 : decode cX12_readsWish 1 = .ok (.getfield 290, 3) := by decide +kernel
theorem dX12_readsWish_4 : decode cX12_readsWish 4 = .ok (.ifCond .eq 9, 3) := by decide +kernel
theorem dX12_readsWish_7 : decode cX12_readsWish 7 = .ok (.aload_n 0, 1) := by decide +kernel
theorem dX12_readsWish_8 : decode cX12_readsWish 8 = .ok (.iconst 3, 1) := by decide +kernel
theorem dX12_readsWish_9 : decode cX12_readsWish 9 = .ok (.invokevirtual 201, 3) := by decide +kernel
theorem dX12_readsWish_12 : decode cX12_readsWish 12 = .ok (.ireturn, 1) := by decide +kernel
theorem dX12_readsWish_13 : decode cX12_readsWish 13 = .ok (.aload_n 0, 1) := by decide +kernel
theorem dX12_readsWish_14 : decode cX12_readsWish 14 = .ok (.iconst 1, 1) := by decide +kernel
theorem dX12_readsWish_15 : decode cX12_readsWish 15 = .ok (.putfield 290, 3) := by decide +kernel
theorem dX12_readsWish_18 : decode cX12_readsWish 18 = .ok (.aload_n 0, 1) := by decide +kernel
theorem dX12_readsWish_19 : decode cX12_readsWish 19 = .ok (.invokevirtual 208, 3) := by decide +kernel
theorem dX12_readsWish_22 : decode cX12_readsWish 22 = .ok (.aload_n 0, 1) := by decide +kernel
theorem dX12_readsWish_23 : decode cX12_readsWish 23 = .ok (.invokevirtual 293, 3) := by decide +kernel
theorem dX12_readsWish_26 : decode cX12_readsWish 26 = .ok (.ifCond .ne 5, 3) := by decide +kernel
theorem dX12_readsWish_29 : decode cX12_readsWish 29 = .ok (.iconst 0, 1) := by decide +kernel
theorem dX12_readsWish_30 : decode cX12_readsWish 30 = .ok (.ireturn, 1) := by decide +kernel
theorem dX12_readsWish_31 : decode cX12_readsWish 31 = .ok (.aload_n 0, 1) := by decide +kernel
theorem dX12_readsWish_32 : decode cX12_readsWish 32 = .ok (.getfield 41, 3) := by decide +kernel
theorem dX12_readsWish_35 : decode cX12_readsWish 35 = .ok (.iconst 1, 1) := by decide +kernel
theorem dX12_readsWish_36 : decode cX12_readsWish 36 = .ok (.aload_n 0, 1) := by decide +kernel
theorem dX12_readsWish_37 : decode cX12_readsWish 37 = .ok (.getfield 174, 3) := by decide +kernel
theorem dX12_readsWish_40 : decode cX12_readsWish 40 = .ok (.iastore, 1) := by decide +kernel
theorem dX12_readsWish_41 : decode cX12_readsWish 41 = .ok (.iconst 1, 1) := by decide +kernel
theorem dX12_readsWish_42 : decode cX12_readsWish 42 = .ok (.ireturn, 1) := by decide +kernel
theorem dX12_readsAll_0 : decode cX12_readsAll 0 = .ok (.aload_n 0, 1) := by decide +kernel
theorem dX12_readsAll_1 : decode cX12_readsAll 1 = .ok (.getfield 13, 3) := by decide +kernel
theorem dX12_readsAll_4 : decode cX12_readsAll 4 = .ok (.iconst 1, 1) := by decide +kernel
theorem dX12_readsAll_5 : decode cX12_readsAll 5 = .ok (.iconst 0, 1) := by decide +kernel
theorem dX12_readsAll_6 : decode cX12_readsAll 6 = .ok (.iastore, 1) := by decide +kernel
theorem dX12_readsAll_7 : decode cX12_readsAll 7 = .ok (.aload_n 0, 1) := by decide +kernel
theorem dX12_readsAll_8 : decode cX12_readsAll 8 = .ok (.getfield 16, 3) := by decide +kernel
theorem dX12_readsAll_11 : decode cX12_readsAll 11 = .ok (.iconst 1, 1) := by decide +kernel
theorem dX12_readsAll_12 : decode cX12_readsAll 12 = .ok (.iconst 0, 1) := by decide +kernel
theorem dX12_readsAll_13 : decode cX12_readsAll 13 = .ok (.iastore, 1) := by decide +kernel
theorem dX12_readsAll_14 : decode cX12_readsAll 14 = .ok (.aload_n 0, 1) := by decide +kernel
theorem dX12_readsAll_15 : decode cX12_readsAll 15 = .ok (.getfield 19, 3) := by decide +kernel
theorem dX12_readsAll_18 : decode cX12_readsAll 18 = .ok (.iconst 1, 1) := by decide +kernel
theorem dX12_readsAll_19 : decode cX12_readsAll 19 = .ok (.iconst 0, 1) := by decide +kernel
theorem dX12_readsAll_20 : decode cX12_readsAll 20 = .ok (.iastore, 1) := by decide +kernel
theorem dX12_readsAll_21 : decode cX12_readsAll 21 = .ok (.aload_n 0, 1) := by decide +kernel
theorem dX12_readsAll_22 : decode cX12_readsAll 22 = .ok (.iconst 0, 1) := by decide +kernel
theorem dX12_readsAll_23 : decode cX12_readsAll 23 = .ok (.putfield 286, 3) := by decide +kernel
theorem dX12_readsAll_26 : decode cX12_readsAll 26 = .ok (.aload_n 0, 1) := by decide +kernel
theorem dX12_readsAll_27 : decode cX12_readsAll 27 = .ok (.iconst 0, 1) := by decide +kernel
theorem dX12_readsAll_28 : decode cX12_readsAll 28 = .ok (.putfield 290, 3) := by decide +kernel
theorem dX12_readsAll_31 : decode cX12_readsAll 31 = .ok (.iconst 0, 1) := by decide +kernel
theorem dX12_readsAll_32 : decode cX12_readsAll 32 = .ok (.istore_n 1, 1) := by decide +kernel
theorem dX12_readsAll_33 : decode cX12_readsAll 33 = .ok (.iload_n 1, 1) := by decide +kernel
theorem dX12_readsAll_34 : decode cX12_readsAll 34 = .ok (.bipush 100, 2) := by decide +kernel
theorem dX12_readsAll_36 : decode cX12_readsAll 36 = .ok (.if_icmp .ge 26, 3) := by decide +kernel
theorem dX12_readsAll_39 : decode cX12_readsAll 39 = .ok (.aload_n 0, 1) := by decide +kernel
theorem dX12_readsAll_40 : decode cX12_readsAll 40 = .ok (.getfield 35, 3) := by decide +kernel
theorem dX12_readsAll_43 : decode cX12_readsAll 43 = .ok (.bipush 100, 2) := by decide +kernel
theorem dX12_readsAll_45 : decode cX12_readsAll 45 = .ok (.iload_n 1, 1) := by decide +kernel
theorem dX12_readsAll_46 : decode cX12_readsAll 46 = .ok (.iadd, 1) := by decide +kernel
theorem dX12_readsAll_47 : decode cX12_readsAll 47 = .ok (.iconst 0, 1) := by decide +kernel
theorem dX12_readsAll_48 : decode cX12_readsAll 48 = .ok (.iastore, 1) := by decide +kernel
theorem dX12_readsAll_49 : decode cX12_readsAll 49 = .ok (.aload_n 0, 1) := by decide +kernel
theorem dX12_readsAll_50 : decode cX12_readsAll 50 = .ok (.getfield 50, 3) := by decide +kernel
theorem dX12_readsAll_53 : decode cX12_readsAll 53 = .ok (.iload_n 1, 1) := by decide +kernel
theorem dX12_readsAll_54 : decode cX12_readsAll 54 = .ok (.iconst 0, 1) := by decide +kernel
theorem dX12_readsAll_55 : decode cX12_readsAll 55 = .ok (.bastore, 1) := by decide +kernel
theorem dX12_readsAll_56 : decode cX12_readsAll 56 = .ok (.iinc 1 1, 3) := by decide +kernel
theorem dX12_readsAll_59 : decode cX12_readsAll 59 = .ok (.goto (-26), 3) := by decide +kernel
theorem dX12_readsAll_62 : decode cX12_readsAll 62 = .ok (.iconst 0, 1) := by decide +kernel
theorem dX12_readsAll_63 : decode cX12_readsAll 63 = .ok (.istore_n 1, 1) := by decide +kernel
theorem dX12_readsAll_64 : decode cX12_readsAll 64 = .ok (.iload_n 1, 1) := by decide +kernel
theorem dX12_readsAll_65 : decode cX12_readsAll 65 = .ok (.sipush 144, 3) := by decide +kernel
theorem dX12_readsAll_68 : decode cX12_readsAll 68 = .ok (.if_icmp .ge 16, 3) := by decide +kernel
theorem dX12_readsAll_71 : decode cX12_readsAll 71 = .ok (.aload_n 0, 1) := by decide +kernel
theorem dX12_readsAll_72 : decode cX12_readsAll 72 = .ok (.getfield 47, 3) := by decide +kernel
theorem dX12_readsAll_75 : decode cX12_readsAll 75 = .ok (.iload_n 1, 1) := by decide +kernel
theorem dX12_readsAll_76 : decode cX12_readsAll 76 = .ok (.iconst 0, 1) := by decide +kernel
theorem dX12_readsAll_77 : decode cX12_readsAll 77 = .ok (.iastore, 1) := by decide +kernel
theorem dX12_readsAll_78 : decode cX12_readsAll 78 = .ok (.iinc 1 1, 3) := by decide +kernel
theorem dX12_readsAll_81 : decode cX12_readsAll 81 = .ok (.goto (-17), 3) := by decide +kernel
theorem dX12_readsAll_84 : decode cX12_readsAll 84 = .ok (.aload_n 0, 1) := by decide +kernel
theorem dX12_readsAll_85 : decode cX12_readsAll 85 = .ok (.sipush 1000, 3) := by decide +kernel
theorem dX12_readsAll_88 : decode cX12_readsAll 88 = .ok (.putfield 174, 3) := by decide +kernel
theorem dX12_readsAll_91 : decode cX12_readsAll 91 = .ok (.aload_n 0, 1) := by decide +kernel
theorem dX12_readsAll_92 : decode cX12_readsAll 92 = .ok (.getfield 38, 3) := by decide +kernel
theorem dX12_readsAll_95 : decode cX12_readsAll 95 = .ok (.iconst 1, 1) := by decide +kernel
theorem dX12_readsAll_96 : decode cX12_readsAll 96 = .ok (.sipush 1000, 3) := by decide +kernel
theorem dX12_readsAll_99 : decode cX12_readsAll 99 = .ok (.iastore, 1) := by decide +kernel
theorem dX12_readsAll_100 : decode cX12_readsAll 100 = .ok (.aload_n 0, 1) := by decide +kernel
theorem dX12_readsAll_101 : decode cX12_readsAll 101 = .ok (.getfield 41, 3) := by decide +kernel
theorem dX12_readsAll_104 : decode cX12_readsAll 104 = .ok (.iconst 1, 1) := by decide +kernel
theorem dX12_readsAll_105 : decode cX12_readsAll 105 = .ok (.sipush 1000, 3) := by decide +kernel
theorem dX12_readsAll_108 : decode cX12_readsAll 108 = .ok (.iastore, 1) := by decide +kernel
theorem dX12_readsAll_109 : decode cX12_readsAll 109 = .ok (.aload_n 0, 1) := by decide +kernel
theorem dX12_readsAll_110 : decode cX12_readsAll 110 = .ok (.aload_n 0, 1) := by decide +kernel
theorem dX12_readsAll_111 : decode cX12_readsAll 111 = .ok (.getfield 141, 3) := by decide +kernel
theorem dX12_readsAll_114 : decode cX12_readsAll 114 = .ok (.putfield 144, 3) := by decide +kernel
theorem dX12_readsAll_117 : decode cX12_readsAll 117 = .ok (.aload_n 0, 1) := by decide +kernel
theorem dX12_readsAll_118 : decode cX12_readsAll 118 = .ok (.iconst 0, 1) := by decide +kernel
theorem dX12_readsAll_119 : decode cX12_readsAll 119 = .ok (.putfield 141, 3) := by decide +kernel
theorem dX12_readsAll_122 : decode cX12_readsAll 122 = .ok (.aload_n 0, 1) := by decide +kernel
theorem dX12_readsAll_123 : decode cX12_readsAll 123 = .ok (.iconst 0, 1) := by decide +kernel
theorem dX12_readsAll_124 : decode cX12_readsAll 124 = .ok (.putfield 147, 3) := by decide +kernel
theorem dX12_readsAll_127 : decode cX12_readsAll 127 = .ok (.aload_n 0, 1) := by decide +kernel
theorem dX12_readsAll_128 : decode cX12_readsAll 128 = .ok (.invokevirtual 208, 3) := by decide +kernel
theorem dX12_readsAll_131 : decode cX12_readsAll 131 = .ok (.aload_n 0, 1) := by decide +kernel
theorem dX12_readsAll_132 : decode cX12_readsAll 132 = .ok (.getfield 160, 3) := by decide +kernel
theorem dX12_readsAll_135 : decode cX12_readsAll 135 = .ok (.ifCond .eq 120, 3) := by decide +kernel
theorem dX12_readsAll_138 : decode cX12_readsAll 138 = .ok (.aload_n 0, 1) := by decide +kernel
theorem dX12_readsAll_139 : decode cX12_readsAll 139 = .ok (.ldc2_w 224, 3) := by decide +kernel
theorem dX12_readsAll_142 : decode cX12_readsAll 142 = .ok (.invokevirtual 193, 3) := by decide +kernel
theorem dX12_readsAll_145 : decode cX12_readsAll 145 = .ok (.ifCond .eq 10, 3) := by decide +kernel
theorem dX12_readsAll_148 : decode cX12_readsAll 148 = .ok (.aload_n 0, 1) := by decide +kernel
theorem dX12_readsAll_149 : decode cX12_readsAll 149 = .ok (.invokevirtual 296, 3) := by decide +kernel
theorem dX12_readsAll_152 : decode cX12_readsAll 152 = .ok (.goto 93, 3) := by decide +kernel
theorem dX12_readsAll_155 : decode cX12_readsAll 155 = .ok (.aload_n 0, 1) := by decide +kernel
theorem dX12_readsAll_156 : decode cX12_readsAll 156 = .ok (.ldc2_w 226, 3) := by decide +kernel
theorem dX12_readsAll_159 : decode cX12_readsAll 159 = .ok (.invokevirtual 193, 3) := by decide +kernel
theorem dX12_readsAll_162 : decode cX12_readsAll 162 = .ok (.ifCond .eq 10, 3) := by decide +kernel
theorem dX12_readsAll_165 : decode cX12_readsAll 165 = .ok (.aload_n 0, 1) := by decide +kernel
theorem dX12_readsAll_166 : decode cX12_readsAll 166 = .ok (.invokevirtual 299, 3) := by decide +kernel
theorem dX12_readsAll_169 : decode cX12_readsAll 169 = .ok (.goto 76, 3) := by decide +kernel
theorem dX12_readsAll_172 : decode cX12_readsAll 172 = .ok (.aload_n 0, 1) := by decide +kernel
theorem dX12_readsAll_173 : decode cX12_readsAll 173 = .ok (.ldc2_w 232, 3) := by decide +kernel
theorem dX12_readsAll_176 : decode cX12_readsAll 176 = .ok (.invokevirtual 193, 3) := by decide +kernel
theorem dX12_readsAll_179 : decode cX12_readsAll 179 = .ok (.ifCond .eq 10, 3) := by decide +kernel
theorem dX12_readsAll_182 : decode cX12_readsAll 182 = .ok (.aload_n 0, 1) := by decide +kernel
theorem dX12_readsAll_183 : decode cX12_readsAll 183 = .ok (.invokevirtual 302, 3) := by decide +kernel
theorem dX12_readsAll_186 : decode cX12_readsAll 186 = .ok (.goto 59, 3) := by decide +kernel
theorem dX12_readsAll_189 : decode cX12_readsAll 189 = .ok (.aload_n 0, 1) := by decide +kernel
theorem dX12_readsAll_190 : decode cX12_readsAll 190 = .ok (.ldc2_w 234, 3) := by decide +kernel
theorem dX12_readsAll_193 : decode cX12_readsAll 193 = .ok (.invokevirtual 193, 3) := by decide +kernel
theorem dX12_readsAll_196 : decode cX12_readsAll 196 = .ok (.ifCond .eq 10, 3) := by decide +kernel
theorem dX12_readsAll_199 : decode cX12_readsAll 199 = .ok (.aload_n 0, 1) := by decide +kernel
theorem dX12_readsAll_200 : decode cX12_readsAll 200 = .ok (.invokevirtual 305, 3) := by decide +kernel
theorem dX12_readsAll_203 : decode cX12_readsAll 203 = .ok (.goto 42, 3) := by decide +kernel
theorem dX12_readsAll_206 : decode cX12_readsAll 206 = .ok (.aload_n 0, 1) := by decide +kernel
theorem dX12_readsAll_207 : decode cX12_readsAll 207 = .ok (.ldc2_w 236, 3) := by decide +kernel
theorem dX12_readsAll_210 : decode cX12_readsAll 210 = .ok (.invokevirtual 193, 3) := by decide +kernel
theorem dX12_readsAll_213 : decode cX12_readsAll 213 = .ok (.ifCond .eq 10, 3) := by decide +kernel
theorem dX12_readsAll_216 : decode cX12_readsAll 216 = .ok (.aload_n 0, 1) := by decide +kernel
theorem dX12_readsAll_217 : decode cX12_readsAll 217 = .ok (.invokevirtual 308, 3) := by decide +kernel
theorem dX12_readsAll_220 : decode cX12_readsAll 220 = .ok (.goto 25, 3) := by decide +kernel
theorem dX12_readsAll_223 : decode cX12_readsAll 223 = .ok (.aload_n 0, 1) := by decide +kernel
theorem dX12_readsAll_224 : decode cX12_readsAll 224 = .ok (.ldc2_w 238, 3) := by decide +kernel
theorem dX12_readsAll_227 : decode cX12_readsAll 227 = .ok (.invokevirtual 193, 3) := by decide +kernel
theorem dX12_readsAll_230 : decode cX12_readsAll 230 = .ok (.ifCond .eq 10, 3) := by decide +kernel
theorem dX12_readsAll_233 : decode cX12_readsAll 233 = .ok (.aload_n 0, 1) := by decide +kernel
theorem dX12_readsAll_234 : decode cX12_readsAll 234 = .ok (.invokevirtual 311, 3) := by decide +kernel
theorem dX12_readsAll_237 : decode cX12_readsAll 237 = .ok (.goto 8, 3) := by decide +kernel
theorem dX12_readsAll_240 : decode cX12_readsAll 240 = .ok (.aload_n 0, 1) := by decide +kernel
theorem dX12_readsAll_241 : decode cX12_readsAll 241 = .ok (.iconst 1, 1) := by decide +kernel
theorem dX12_readsAll_242 : decode cX12_readsAll 242 = .ok (.invokevirtual 201, 3) := by decide +kernel
theorem dX12_readsAll_245 : decode cX12_readsAll 245 = .ok (.istore_n 1, 1) := by decide +kernel
theorem dX12_readsAll_246 : decode cX12_readsAll 246 = .ok (.iload_n 1, 1) := by decide +kernel
theorem dX12_readsAll_247 : decode cX12_readsAll 247 = .ok (.ifCond .ne 5, 3) := by decide +kernel
theorem dX12_readsAll_250 : decode cX12_readsAll 250 = .ok (.iconst 0, 1) := by decide +kernel
theorem dX12_readsAll_251 : decode cX12_readsAll 251 = .ok (.ireturn, 1) := by decide +kernel
theorem dX12_readsAll_252 : decode cX12_readsAll 252 = .ok (.goto (-121), 3) := by decide +kernel
theorem dX12_readsAll_255 : decode cX12_readsAll 255 = .ok (.iconst 1, 1) := by decide +kernel
theorem dX12_readsAll_256 : decode cX12_readsAll 256 = .ok (.ireturn, 1) := by decide +kernel
theorem dX12_moves_0 : decode cX12_moves 0 = .ok (.iconst 0, 1) := by decide +kernel
theorem dX12_moves_1 : decode cX12_moves 1 = .ok (.istore 4, 2) := by decide +kernel
theorem dX12_moves_3 : decode cX12_moves 3 = .ok (.iload 4, 2) := by decide +kernel
theorem dX12_moves_5 : decode cX12_moves 5 = .ok (.iload_n 1, 1) := by decide +kernel
theorem dX12_moves_6 : decode cX12_moves 6 = .ok (.if_icmp .ge 25, 3) := by decide +kernel
theorem dX12_moves_9 : decode cX12_moves 9 = .ok (.aload_n 0, 1) := by decide +kernel
theorem dX12_moves_10 : decode cX12_moves 10 = .ok (.iload_n 1, 1) := by decide +kernel
theorem dX12_moves_11 : decode cX12_moves 11 = .ok (.iload_n 3, 1) := by decide +kernel
theorem dX12_moves_12 : decode cX12_moves 12 = .ok (.imul, 1) := by decide +kernel
theorem dX12_moves_13 : decode cX12_moves 13 = .ok (.iload 4, 2) := by decide +kernel
theorem dX12_moves_15 : decode cX12_moves 15 = .ok (.iadd, 1) := by decide +kernel
theorem dX12_moves_16 : decode cX12_moves 16 = .ok (.aload_n 0, 1) := by decide +kernel
theorem dX12_moves_17 : decode cX12_moves 17 = .ok (.iload_n 1, 1) := by decide +kernel
theorem dX12_moves_18 : decode cX12_moves 18 = .ok (.iload_n 2, 1) := by decide +kernel
theorem dX12_moves_19 : decode cX12_moves 19 = .ok (.imul, 1) := by decide +kernel
theorem dX12_moves_20 : decode cX12_moves 20 = .ok (.iload 4, 2) := by decide +kernel
theorem dX12_moves_22 : decode cX12_moves 22 = .ok (.iadd, 1) := by decide +kernel
theorem dX12_moves_23 : decode cX12_moves 23 = .ok (.iaload, 1) := by decide +kernel
theorem dX12_moves_24 : decode cX12_moves 24 = .ok (.iastore, 1) := by decide +kernel
theorem dX12_moves_25 : decode cX12_moves 25 = .ok (.iinc 4 1, 3) := by decide +kernel
theorem dX12_moves_28 : decode cX12_moves 28 = .ok (.goto (-25), 3) := by decide +kernel
theorem dX12_moves_31 : decode cX12_moves 31 = .ok (.return_, 1) := by decide +kernel
theorem dX12_lays_0 : decode cX12_lays 0 = .ok (.aload_n 0, 1) := by decide +kernel
theorem dX12_lays_1 : decode cX12_lays 1 = .ok (.getfield 13, 3) := by decide +kernel
theorem dX12_lays_4 : decode cX12_lays 4 = .ok (.iconst 1, 1) := by decide +kernel
theorem dX12_lays_5 : decode cX12_lays 5 = .ok (.iload_n 1, 1) := by decide +kernel
theorem dX12_lays_6 : decode cX12_lays 6 = .ok (.iload_n 2, 1) := by decide +kernel
theorem dX12_lays_7 : decode cX12_lays 7 = .ok (.invokestatic 314, 3) := by decide +kernel
theorem dX12_lays_10 : decode cX12_lays 10 = .ok (.aload_n 0, 1) := by decide +kernel
theorem dX12_lays_11 : decode cX12_lays 11 = .ok (.getfield 16, 3) := by decide +kernel
theorem dX12_lays_14 : decode cX12_lays 14 = .ok (.iconst 1, 1) := by decide +kernel
theorem dX12_lays_15 : decode cX12_lays 15 = .ok (.iload_n 1, 1) := by decide +kernel
theorem dX12_lays_16 : decode cX12_lays 16 = .ok (.iload_n 2, 1) := by decide +kernel
theorem dX12_lays_17 : decode cX12_lays 17 = .ok (.invokestatic 314, 3) := by decide +kernel
theorem dX12_lays_20 : decode cX12_lays 20 = .ok (.aload_n 0, 1) := by decide +kernel
theorem dX12_lays_21 : decode cX12_lays 21 = .ok (.getfield 19, 3) := by decide +kernel
theorem dX12_lays_24 : decode cX12_lays 24 = .ok (.iconst 1, 1) := by decide +kernel
theorem dX12_lays_25 : decode cX12_lays 25 = .ok (.iload_n 1, 1) := by decide +kernel
theorem dX12_lays_26 : decode cX12_lays 26 = .ok (.iload_n 2, 1) := by decide +kernel
theorem dX12_lays_27 : decode cX12_lays 27 = .ok (.invokestatic 314, 3) := by decide +kernel
theorem dX12_lays_30 : decode cX12_lays 30 = .ok (.aload_n 0, 1) := by decide +kernel
theorem dX12_lays_31 : decode cX12_lays 31 = .ok (.getfield 26, 3) := by decide +kernel
theorem dX12_lays_34 : decode cX12_lays 34 = .ok (.bipush 10, 2) := by decide +kernel
theorem dX12_lays_36 : decode cX12_lays 36 = .ok (.iload_n 1, 1) := by decide +kernel
theorem dX12_lays_37 : decode cX12_lays 37 = .ok (.iload_n 2, 1) := by decide +kernel
theorem dX12_lays_38 : decode cX12_lays 38 = .ok (.invokestatic 314, 3) := by decide +kernel
theorem dX12_lays_41 : decode cX12_lays 41 = .ok (.aload_n 0, 1) := by decide +kernel
theorem dX12_lays_42 : decode cX12_lays 42 = .ok (.getfield 29, 3) := by decide +kernel
theorem dX12_lays_45 : decode cX12_lays 45 = .ok (.bipush 10, 2) := by decide +kernel
theorem dX12_lays_47 : decode cX12_lays 47 = .ok (.iload_n 1, 1) := by decide +kernel
theorem dX12_lays_48 : decode cX12_lays 48 = .ok (.iload_n 2, 1) := by decide +kernel
theorem dX12_lays_49 : decode cX12_lays 49 = .ok (.invokestatic 314, 3) := by decide +kernel
theorem dX12_lays_52 : decode cX12_lays 52 = .ok (.aload_n 0, 1) := by decide +kernel
theorem dX12_lays_53 : decode cX12_lays 53 = .ok (.getfield 32, 3) := by decide +kernel
theorem dX12_lays_56 : decode cX12_lays 56 = .ok (.bipush 6, 2) := by decide +kernel
theorem dX12_lays_58 : decode cX12_lays 58 = .ok (.iload_n 1, 1) := by decide +kernel
theorem dX12_lays_59 : decode cX12_lays 59 = .ok (.iload_n 2, 1) := by decide +kernel
theorem dX12_lays_60 : decode cX12_lays 60 = .ok (.invokestatic 314, 3) := by decide +kernel
theorem dX12_lays_63 : decode cX12_lays 63 = .ok (.aload_n 0, 1) := by decide +kernel
theorem dX12_lays_64 : decode cX12_lays 64 = .ok (.getfield 35, 3) := by decide +kernel
theorem dX12_lays_67 : decode cX12_lays 67 = .ok (.bipush 100, 2) := by decide +kernel
theorem dX12_lays_69 : decode cX12_lays 69 = .ok (.iload_n 1, 1) := by decide +kernel
theorem dX12_lays_70 : decode cX12_lays 70 = .ok (.iload_n 2, 1) := by decide +kernel
theorem dX12_lays_71 : decode cX12_lays 71 = .ok (.invokestatic 314, 3) := by decide +kernel
theorem dX12_lays_74 : decode cX12_lays 74 = .ok (.aload_n 0, 1) := by decide +kernel
theorem dX12_lays_75 : decode cX12_lays 75 = .ok (.getfield 44, 3) := by decide +kernel
theorem dX12_lays_78 : decode cX12_lays 78 = .ok (.sipush 1000, 3) := by decide +kernel
theorem dX12_lays_81 : decode cX12_lays 81 = .ok (.iload_n 1, 1) := by decide +kernel
theorem dX12_lays_82 : decode cX12_lays 82 = .ok (.iload_n 2, 1) := by decide +kernel
theorem dX12_lays_83 : decode cX12_lays 83 = .ok (.invokestatic 314, 3) := by decide +kernel
theorem dX12_lays_86 : decode cX12_lays 86 = .ok (.aload_n 0, 1) := by decide +kernel
theorem dX12_lays_87 : decode cX12_lays 87 = .ok (.getfield 38, 3) := by decide +kernel
theorem dX12_lays_90 : decode cX12_lays 90 = .ok (.iload_n 2, 1) := by decide +kernel
theorem dX12_lays_91 : decode cX12_lays 91 = .ok (.sipush 1000, 3) := by decide +kernel
theorem dX12_lays_94 : decode cX12_lays 94 = .ok (.iload_n 2, 1) := by decide +kernel
theorem dX12_lays_95 : decode cX12_lays 95 = .ok (.imul, 1) := by decide +kernel
theorem dX12_lays_96 : decode cX12_lays 96 = .ok (.iastore, 1) := by decide +kernel
theorem dX12_lays_97 : decode cX12_lays 97 = .ok (.aload_n 0, 1) := by decide +kernel
theorem dX12_lays_98 : decode cX12_lays 98 = .ok (.getfield 41, 3) := by decide +kernel
theorem dX12_lays_101 : decode cX12_lays 101 = .ok (.iload_n 2, 1) := by decide +kernel
theorem dX12_lays_102 : decode cX12_lays 102 = .ok (.sipush 1000, 3) := by decide +kernel
theorem dX12_lays_105 : decode cX12_lays 105 = .ok (.iload_n 2, 1) := by decide +kernel
theorem dX12_lays_106 : decode cX12_lays 106 = .ok (.imul, 1) := by decide +kernel
theorem dX12_lays_107 : decode cX12_lays 107 = .ok (.aload_n 0, 1) := by decide +kernel
theorem dX12_lays_108 : decode cX12_lays 108 = .ok (.getfield 41, 3) := by decide +kernel
theorem dX12_lays_111 : decode cX12_lays 111 = .ok (.iload_n 1, 1) := by decide +kernel
theorem dX12_lays_112 : decode cX12_lays 112 = .ok (.iaload, 1) := by decide +kernel
theorem dX12_lays_113 : decode cX12_lays 113 = .ok (.iadd, 1) := by decide +kernel
theorem dX12_lays_114 : decode cX12_lays 114 = .ok (.aload_n 0, 1) := by decide +kernel
theorem dX12_lays_115 : decode cX12_lays 115 = .ok (.getfield 38, 3) := by decide +kernel
theorem dX12_lays_118 : decode cX12_lays 118 = .ok (.iload_n 1, 1) := by decide +kernel
theorem dX12_lays_119 : decode cX12_lays 119 = .ok (.iaload, 1) := by decide +kernel
theorem dX12_lays_120 : decode cX12_lays 120 = .ok (.isub, 1) := by decide +kernel
theorem dX12_lays_121 : decode cX12_lays 121 = .ok (.iastore, 1) := by decide +kernel
theorem dX12_lays_122 : decode cX12_lays 122 = .ok (.return_, 1) := by decide +kernel
theorem dX12_copies_0 : decode cX12_copies 0 = .ok (.iconst 0, 1) := by decide +kernel
theorem dX12_copies_1 : decode cX12_copies 1 = .ok (.istore 4, 2) := by decide +kernel
theorem dX12_copies_3 : decode cX12_copies 3 = .ok (.iload 4, 2) := by decide +kernel
theorem dX12_copies_5 : decode cX12_copies 5 = .ok (.sipush 144, 3) := by decide +kernel
theorem dX12_copies_8 : decode cX12_copies 8 = .ok (.if_icmp .ge 21, 3) := by decide +kernel
theorem dX12_copies_11 : decode cX12_copies 11 = .ok (.aload_n 2, 1) := by decide +kernel
theorem dX12_copies_12 : decode cX12_copies 12 = .ok (.iload_n 3, 1) := by decide +kernel
theorem dX12_copies_13 : decode cX12_copies 13 = .ok (.iload 4, 2) := by decide +kernel
theorem dX12_copies_15 : decode cX12_copies 15 = .ok (.iadd, 1) := by decide +kernel
theorem dX12_copies_16 : decode cX12_copies 16 = .ok (.aload_n 0, 1) := by decide +kernel
theorem dX12_copies_17 : decode cX12_copies 17 = .ok (.iload_n 1, 1) := by decide +kernel
theorem dX12_copies_18 : decode cX12_copies 18 = .ok (.iload 4, 2) := by decide +kernel
theorem dX12_copies_20 : decode cX12_copies 20 = .ok (.iadd, 1) := by decide +kernel
theorem dX12_copies_21 : decode cX12_copies 21 = .ok (.iaload, 1) := by decide +kernel
theorem dX12_copies_22 : decode cX12_copies 22 = .ok (.iastore, 1) := by decide +kernel
theorem dX12_copies_23 : decode cX12_copies 23 = .ok (.iinc 4 1, 3) := by decide +kernel
theorem dX12_copies_26 : decode cX12_copies 26 = .ok (.goto (-23), 3) := by decide +kernel
theorem dX12_copies_29 : decode cX12_copies 29 = .ok (.return_, 1) := by decide +kernel
theorem dX12_school_0 : decode cX12_school 0 = .ok (.aload_n 0, 1) := by decide +kernel
theorem dX12_school_1 : decode cX12_school 1 = .ok (.iconst 0, 1) := by decide +kernel
theorem dX12_school_2 : decode cX12_school 2 = .ok (.putfield 135, 3) := by decide +kernel
theorem dX12_school_5 : decode cX12_school 5 = .ok (.aload_n 0, 1) := by decide +kernel
theorem dX12_school_6 : decode cX12_school 6 = .ok (.invokevirtual 318, 3) := by decide +kernel
theorem dX12_school_9 : decode cX12_school 9 = .ok (.ifCond .ne 8, 3) := by decide +kernel
theorem dX12_school_12 : decode cX12_school 12 = .ok (.aload_n 0, 1) := by decide +kernel
theorem dX12_school_13 : decode cX12_school 13 = .ok (.getfield 171, 3) := by decide +kernel
theorem dX12_school_16 : decode cX12_school 16 = .ok (.ireturn, 1) := by decide +kernel
theorem dX12_school_17 : decode cX12_school 17 = .ok (.aload_n 0, 1) := by decide +kernel
theorem dX12_school_18 : decode cX12_school 18 = .ok (.iconst 1, 1) := by decide +kernel
theorem dX12_school_19 : decode cX12_school 19 = .ok (.iconst 0, 1) := by decide +kernel
theorem dX12_school_20 : decode cX12_school 20 = .ok (.invokevirtual 321, 3) := by decide +kernel
theorem dX12_school_23 : decode cX12_school 23 = .ok (.aload_n 0, 1) := by decide +kernel
theorem dX12_school_24 : decode cX12_school 24 = .ok (.getfield 47, 3) := by decide +kernel
theorem dX12_school_27 : decode cX12_school 27 = .ok (.iconst 0, 1) := by decide +kernel
theorem dX12_school_28 : decode cX12_school 28 = .ok (.aload_n 0, 1) := by decide +kernel
theorem dX12_school_29 : decode cX12_school 29 = .ok (.getfield 90, 3) := by decide +kernel
theorem dX12_school_32 : decode cX12_school 32 = .ok (.iconst 0, 1) := by decide +kernel
theorem dX12_school_33 : decode cX12_school 33 = .ok (.invokestatic 325, 3) := by decide +kernel
theorem dX12_school_36 : decode cX12_school 36 = .ok (.iconst 0, 1) := by decide +kernel
theorem dX12_school_37 : decode cX12_school 37 = .ok (.ireturn, 1) := by decide +kernel
theorem dX12_isPupil_0 : decode cX12_isPupil 0 = .ok (.iload_n 1, 1) := by decide +kernel
theorem dX12_isPupil_1 : decode cX12_isPupil 1 = .ok (.ifCond .lt 17, 3) := by decide +kernel
theorem dX12_isPupil_4 : decode cX12_isPupil 4 = .ok (.iload_n 1, 1) := by decide +kernel
theorem dX12_isPupil_5 : decode cX12_isPupil 5 = .ok (.aload_n 0, 1) := by decide +kernel
theorem dX12_isPupil_6 : decode cX12_isPupil 6 = .ok (.getfield 13, 3) := by decide +kernel
theorem dX12_isPupil_9 : decode cX12_isPupil 9 = .ok (.iconst 0, 1) := by decide +kernel
theorem dX12_isPupil_10 : decode cX12_isPupil 10 = .ok (.iaload, 1) := by decide +kernel
theorem dX12_isPupil_11 : decode cX12_isPupil 11 = .ok (.if_icmp .ge 7, 3) := by decide +kernel
theorem dX12_isPupil_14 : decode cX12_isPupil 14 = .ok (.iconst 1, 1) := by decide +kernel
theorem dX12_isPupil_15 : decode cX12_isPupil 15 = .ok (.goto 4, 3) := by decide +kernel
theorem dX12_isPupil_18 : decode cX12_isPupil 18 = .ok (.iconst 0, 1) := by decide +kernel
theorem dX12_isPupil_19 : decode cX12_isPupil 19 = .ok (.ireturn, 1) := by decide +kernel
theorem dX12_areTwo_0 : decode cX12_areTwo 0 = .ok (.aload_n 0, 1) := by decide +kernel
theorem dX12_areTwo_1 : decode cX12_areTwo 1 = .ok (.iload_n 1, 1) := by decide +kernel
theorem dX12_areTwo_2 : decode cX12_areTwo 2 = .ok (.invokevirtual 329, 3) := by decide +kernel
theorem dX12_areTwo_5 : decode cX12_areTwo 5 = .ok (.ifCond .eq 20, 3) := by decide +kernel
theorem dX12_areTwo_8 : decode cX12_areTwo 8 = .ok (.aload_n 0, 1) := by decide +kernel
theorem dX12_areTwo_9 : decode cX12_areTwo 9 = .ok (.iload_n 2, 1) := by decide +kernel
theorem dX12_areTwo_10 : decode cX12_areTwo 10 = .ok (.invokevirtual 329, 3) := by decide +kernel
theorem dX12_areTwo_13 : decode cX12_areTwo 13 = .ok (.ifCond .eq 12, 3) := by decide +kernel
theorem dX12_areTwo_16 : decode cX12_areTwo 16 = .ok (.iload_n 1, 1) := by decide +kernel
theorem dX12_areTwo_17 : decode cX12_areTwo 17 = .ok (.iload_n 2, 1) := by decide +kernel
theorem dX12_areTwo_18 : decode cX12_areTwo 18 = .ok (.if_icmp .eq 7, 3) := by decide +kernel
theorem dX12_areTwo_21 : decode cX12_areTwo 21 = .ok (.iconst 1, 1) := by decide +kernel
theorem dX12_areTwo_22 : decode cX12_areTwo 22 = .ok (.goto 4, 3) := by decide +kernel
theorem dX12_areTwo_25 : decode cX12_areTwo 25 = .ok (.iconst 0, 1) := by decide +kernel
theorem dX12_areTwo_26 : decode cX12_areTwo 26 = .ok (.ireturn, 1) := by decide +kernel
theorem dX12_isSeat_0 : decode cX12_isSeat 0 = .ok (.iload_n 1, 1) := by decide +kernel
theorem dX12_isSeat_1 : decode cX12_isSeat 1 = .ok (.ifCond .lt 19, 3) := by decide +kernel
theorem dX12_isSeat_4 : decode cX12_isSeat 4 = .ok (.iload_n 1, 1) := by decide +kernel
theorem dX12_isSeat_5 : decode cX12_isSeat 5 = .ok (.iconst 2, 1) := by decide +kernel
theorem dX12_isSeat_6 : decode cX12_isSeat 6 = .ok (.aload_n 0, 1) := by decide +kernel
theorem dX12_isSeat_7 : decode cX12_isSeat 7 = .ok (.getfield 16, 3) := by decide +kernel
theorem dX12_isSeat_10 : decode cX12_isSeat 10 = .ok (.iconst 0, 1) := by decide +kernel
theorem dX12_isSeat_11 : decode cX12_isSeat 11 = .ok (.iaload, 1) := by decide +kernel
theorem dX12_isSeat_12 : decode cX12_isSeat 12 = .ok (.imul, 1) := by decide +kernel
theorem dX12_isSeat_13 : decode cX12_isSeat 13 = .ok (.if_icmp .ge 7, 3) := by decide +kernel
theorem dX12_isSeat_16 : decode cX12_isSeat 16 = .ok (.iconst 1, 1) := by decide +kernel
theorem dX12_isSeat_17 : decode cX12_isSeat 17 = .ok (.goto 4, 3) := by decide +kernel
theorem dX12_isSeat_20 : decode cX12_isSeat 20 = .ok (.iconst 0, 1) := by decide +kernel
theorem dX12_isSeat_21 : decode cX12_isSeat 21 = .ok (.ireturn, 1) := by decide +kernel
theorem dX12_pupil_0 : decode cX12_pupil 0 = .ok (.aload_n 0, 1) := by decide +kernel
theorem dX12_pupil_1 : decode cX12_pupil 1 = .ok (.iconst 0, 1) := by decide +kernel
theorem dX12_pupil_2 : decode cX12_pupil 2 = .ok (.putfield 135, 3) := by decide +kernel
theorem dX12_pupil_5 : decode cX12_pupil 5 = .ok (.aload_n 0, 1) := by decide +kernel
theorem dX12_pupil_6 : decode cX12_pupil 6 = .ok (.iload_n 1, 1) := by decide +kernel
theorem dX12_pupil_7 : decode cX12_pupil 7 = .ok (.invokevirtual 329, 3) := by decide +kernel
theorem dX12_pupil_10 : decode cX12_pupil 10 = .ok (.ifCond .eq 12, 3) := by decide +kernel
theorem dX12_pupil_13 : decode cX12_pupil 13 = .ok (.iload_n 2, 1) := by decide +kernel
theorem dX12_pupil_14 : decode cX12_pupil 14 = .ok (.iconst 0, 1) := by decide +kernel
theorem dX12_pupil_15 : decode cX12_pupil 15 = .ok (.iconst 3, 1) := by decide +kernel
theorem dX12_pupil_16 : decode cX12_pupil 16 = .ok (.invokestatic 250, 3) := by decide +kernel
theorem dX12_pupil_19 : decode cX12_pupil 19 = .ok (.ifCond .ne 5, 3) := by decide +kernel
theorem dX12_pupil_22 : decode cX12_pupil 22 = .ok (.iconst (-1), 1) := by decide +kernel
theorem dX12_pupil_23 : decode cX12_pupil 23 = .ok (.ireturn, 1) := by decide +kernel
theorem dX12_pupil_24 : decode cX12_pupil 24 = .ok (.iload_n 2, 1) := by decide +kernel
theorem dX12_pupil_25 : decode cX12_pupil 25 = .ok (.ifCond .ne 12, 3) := by decide +kernel
theorem dX12_pupil_28 : decode cX12_pupil 28 = .ok (.aload_n 0, 1) := by decide +kernel
theorem dX12_pupil_29 : decode cX12_pupil 29 = .ok (.getfield 26, 3) := by decide +kernel
theorem dX12_pupil_32 : decode cX12_pupil 32 = .ok (.iload_n 1, 1) := by decide +kernel
theorem dX12_pupil_33 : decode cX12_pupil 33 = .ok (.iaload, 1) := by decide +kernel
theorem dX12_pupil_34 : decode cX12_pupil 34 = .ok (.goto 48, 3) := by decide +kernel
theorem dX12_pupil_37 : decode cX12_pupil 37 = .ok (.iload_n 2, 1) := by decide +kernel
theorem dX12_pupil_38 : decode cX12_pupil 38 = .ok (.iconst 1, 1) := by decide +kernel
theorem dX12_pupil_39 : decode cX12_pupil 39 = .ok (.if_icmp .ne 12, 3) := by decide +kernel
theorem dX12_pupil_42 : decode cX12_pupil 42 = .ok (.aload_n 0, 1) := by decide +kernel
theorem dX12_pupil_43 : decode cX12_pupil 43 = .ok (.getfield 29, 3) := by decide +kernel
theorem dX12_pupil_46 : decode cX12_pupil 46 = .ok (.iload_n 1, 1) := by decide +kernel
theorem dX12_pupil_47 : decode cX12_pupil 47 = .ok (.iaload, 1) := by decide +kernel
theorem dX12_pupil_48 : decode cX12_pupil 48 = .ok (.goto 34, 3) := by decide +kernel
theorem dX12_pupil_51 : decode cX12_pupil 51 = .ok (.iload_n 2, 1) := by decide +kernel
theorem dX12_pupil_52 : decode cX12_pupil 52 = .ok (.iconst 2, 1) := by decide +kernel
theorem dX12_pupil_53 : decode cX12_pupil 53 = .ok (.if_icmp .ne 17, 3) := by decide +kernel
theorem dX12_pupil_56 : decode cX12_pupil 56 = .ok (.aload_n 0, 1) := by decide +kernel
theorem dX12_pupil_57 : decode cX12_pupil 57 = .ok (.getfield 90, 3) := by decide +kernel
theorem dX12_pupil_60 : decode cX12_pupil 60 = .ok (.bipush 121, 2) := by decide +kernel
theorem dX12_pupil_62 : decode cX12_pupil 62 = .ok (.iload_n 1, 1) := by decide +kernel
theorem dX12_pupil_63 : decode cX12_pupil 63 = .ok (.iadd, 1) := by decide +kernel
theorem dX12_pupil_64 : decode cX12_pupil 64 = .ok (.iaload, 1) := by decide +kernel
theorem dX12_pupil_65 : decode cX12_pupil 65 = .ok (.iconst 1, 1) := by decide +kernel
theorem dX12_pupil_66 : decode cX12_pupil 66 = .ok (.isub, 1) := by decide +kernel
theorem dX12_pupil_67 : decode cX12_pupil 67 = .ok (.goto 15, 3) := by decide +kernel
theorem dX12_pupil_70 : decode cX12_pupil 70 = .ok (.aload_n 0, 1) := by decide +kernel
theorem dX12_pupil_71 : decode cX12_pupil 71 = .ok (.getfield 90, 3) := by decide +kernel
theorem dX12_pupil_74 : decode cX12_pupil 74 = .ok (.sipush 131, 3) := by decide +kernel
theorem dX12_pupil_77 : decode cX12_pupil 77 = .ok (.iload_n 1, 1) := by decide +kernel
theorem dX12_pupil_78 : decode cX12_pupil 78 = .ok (.iadd, 1) := by decide +kernel
theorem dX12_pupil_79 : decode cX12_pupil 79 = .ok (.iaload, 1) := by decide +kernel
theorem dX12_pupil_80 : decode cX12_pupil 80 = .ok (.iconst 1, 1) := by decide +kernel
theorem dX12_pupil_81 : decode cX12_pupil 81 = .ok (.isub, 1) := by decide +kernel
theorem dX12_pupil_82 : decode cX12_pupil 82 = .ok (.ireturn, 1) := by decide +kernel
theorem dX12_say_0 : decode cX12_say 0 = .ok (.aload_n 0, 1) := by decide +kernel
theorem dX12_say_1 : decode cX12_say 1 = .ok (.iconst 0, 1) := by decide +kernel
theorem dX12_say_2 : decode cX12_say 2 = .ok (.putfield 135, 3) := by decide +kernel
theorem dX12_say_5 : decode cX12_say 5 = .ok (.aload_n 0, 1) := by decide +kernel
theorem dX12_say_6 : decode cX12_say 6 = .ok (.iload_n 1, 1) := by decide +kernel
theorem dX12_say_7 : decode cX12_say 7 = .ok (.iload_n 2, 1) := by decide +kernel
theorem dX12_say_8 : decode cX12_say 8 = .ok (.invokevirtual 332, 3) := by decide +kernel
theorem dX12_say_11 : decode cX12_say 11 = .ok (.ifCond .eq 23, 3) := by decide +kernel
theorem dX12_say_14 : decode cX12_say 14 = .ok (.iload_n 3, 1) := by decide +kernel
theorem dX12_say_15 : decode cX12_say 15 = .ok (.iconst 0, 1) := by decide +kernel
theorem dX12_say_16 : decode cX12_say 16 = .ok (.iconst 1, 1) := by decide +kernel
theorem dX12_say_17 : decode cX12_say 17 = .ok (.invokestatic 250, 3) := by decide +kernel
theorem dX12_say_20 : decode cX12_say 20 = .ok (.ifCond .eq 14, 3) := by decide +kernel
theorem dX12_say_23 : decode cX12_say 23 = .ok (.aload_n 0, 1) := by decide +kernel
theorem dX12_say_24 : decode cX12_say 24 = .ok (.getfield 90, 3) := by decide +kernel
theorem dX12_say_27 : decode cX12_say 27 = .ok (.iconst 0, 1) := by decide +kernel
theorem dX12_say_28 : decode cX12_say 28 = .ok (.iaload, 1) := by decide +kernel
theorem dX12_say_29 : decode cX12_say 29 = .ok (.bipush 40, 2) := by decide +kernel
theorem dX12_say_31 : decode cX12_say 31 = .ok (.if_icmp .ne 5, 3) := by decide +kernel
theorem dX12_say_34 : decode cX12_say 34 = .ok (.iconst (-1), 1) := by decide +kernel
theorem dX12_say_35 : decode cX12_say 35 = .ok (.ireturn, 1) := by decide +kernel
theorem dX12_say_36 : decode cX12_say 36 = .ok (.aload_n 0, 1) := by decide +kernel
theorem dX12_say_37 : decode cX12_say 37 = .ok (.getfield 90, 3) := by decide +kernel
theorem dX12_say_40 : decode cX12_say 40 = .ok (.iconst 1, 1) := by decide +kernel
theorem dX12_say_41 : decode cX12_say 41 = .ok (.aload_n 0, 1) := by decide +kernel
theorem dX12_say_42 : decode cX12_say 42 = .ok (.getfield 90, 3) := by decide +kernel
theorem dX12_say_45 : decode cX12_say 45 = .ok (.iconst 0, 1) := by decide +kernel
theorem dX12_say_46 : decode cX12_say 46 = .ok (.iaload, 1) := by decide +kernel
theorem dX12_say_47 : decode cX12_say 47 = .ok (.iadd, 1) := by decide +kernel
theorem dX12_say_48 : decode cX12_say 48 = .ok (.iload_n 1, 1) := by decide +kernel
theorem dX12_say_49 : decode cX12_say 49 = .ok (.iastore, 1) := by decide +kernel
theorem dX12_say_50 : decode cX12_say 50 = .ok (.aload_n 0, 1) := by decide +kernel
theorem dX12_say_51 : decode cX12_say 51 = .ok (.getfield 90, 3) := by decide +kernel
theorem dX12_say_54 : decode cX12_say 54 = .ok (.bipush 41, 2) := by decide +kernel
theorem dX12_say_56 : decode cX12_say 56 = .ok (.aload_n 0, 1) := by decide +kernel
theorem dX12_say_57 : decode cX12_say 57 = .ok (.getfield 90, 3) := by decide +kernel
theorem dX12_say_60 : decode cX12_say 60 = .ok (.iconst 0, 1) := by decide +kernel
theorem dX12_say_61 : decode cX12_say 61 = .ok (.iaload, 1) := by decide +kernel
theorem dX12_say_62 : decode cX12_say 62 = .ok (.iadd, 1) := by decide +kernel
theorem dX12_say_63 : decode cX12_say 63 = .ok (.iload_n 2, 1) := by decide +kernel
theorem dX12_say_64 : decode cX12_say 64 = .ok (.iastore, 1) := by decide +kernel
theorem dX12_say_65 : decode cX12_say 65 = .ok (.aload_n 0, 1) := by decide +kernel
theorem dX12_say_66 : decode cX12_say 66 = .ok (.getfield 90, 3) := by decide +kernel
theorem dX12_say_69 : decode cX12_say 69 = .ok (.bipush 81, 2) := by decide +kernel
theorem dX12_say_71 : decode cX12_say 71 = .ok (.aload_n 0, 1) := by decide +kernel
theorem dX12_say_72 : decode cX12_say 72 = .ok (.getfield 90, 3) := by decide +kernel
theorem dX12_say_75 : decode cX12_say 75 = .ok (.iconst 0, 1) := by decide +kernel
theorem dX12_say_76 : decode cX12_say 76 = .ok (.iaload, 1) := by decide +kernel
theorem dX12_say_77 : decode cX12_say 77 = .ok (.iadd, 1) := by decide +kernel
theorem dX12_say_78 : decode cX12_say 78 = .ok (.iload_n 3, 1) := by decide +kernel
theorem dX12_say_79 : decode cX12_say 79 = .ok (.iastore, 1) := by decide +kernel
theorem dX12_say_80 : decode cX12_say 80 = .ok (.aload_n 0, 1) := by decide +kernel
theorem dX12_say_81 : decode cX12_say 81 = .ok (.getfield 90, 3) := by decide +kernel
theorem dX12_say_84 : decode cX12_say 84 = .ok (.iconst 0, 1) := by decide +kernel
theorem dX12_say_85 : decode cX12_say 85 = .ok (.dup2, 1) := by decide +kernel
theorem dX12_say_86 : decode cX12_say 86 = .ok (.iaload, 1) := by decide +kernel
theorem dX12_say_87 : decode cX12_say 87 = .ok (.iconst 1, 1) := by decide +kernel
theorem dX12_say_88 : decode cX12_say 88 = .ok (.iadd, 1) := by decide +kernel
theorem dX12_say_89 : decode cX12_say 89 = .ok (.iastore, 1) := by decide +kernel
theorem dX12_say_90 : decode cX12_say 90 = .ok (.aload_n 0, 1) := by decide +kernel
theorem dX12_say_91 : decode cX12_say 91 = .ok (.getfield 90, 3) := by decide +kernel
theorem dX12_say_94 : decode cX12_say 94 = .ok (.iconst 0, 1) := by decide +kernel
theorem dX12_say_95 : decode cX12_say 95 = .ok (.iaload, 1) := by decide +kernel
theorem dX12_say_96 : decode cX12_say 96 = .ok (.ireturn, 1) := by decide +kernel
theorem dX12_unsay_0 : decode cX12_unsay 0 = .ok (.aload_n 0, 1) := by decide +kernel
theorem dX12_unsay_1 : decode cX12_unsay 1 = .ok (.iconst 0, 1) := by decide +kernel
theorem dX12_unsay_2 : decode cX12_unsay 2 = .ok (.putfield 135, 3) := by decide +kernel
theorem dX12_unsay_5 : decode cX12_unsay 5 = .ok (.aload_n 0, 1) := by decide +kernel
theorem dX12_unsay_6 : decode cX12_unsay 6 = .ok (.getfield 90, 3) := by decide +kernel
theorem dX12_unsay_9 : decode cX12_unsay 9 = .ok (.iconst 0, 1) := by decide +kernel
theorem dX12_unsay_10 : decode cX12_unsay 10 = .ok (.iaload, 1) := by decide +kernel
theorem dX12_unsay_11 : decode cX12_unsay 11 = .ok (.ifCond .ne 5, 3) := by decide +kernel
theorem dX12_unsay_14 : decode cX12_unsay 14 = .ok (.iconst 0, 1) := by decide +kernel
theorem dX12_unsay_15 : decode cX12_unsay 15 = .ok (.ireturn, 1) := by decide +kernel
theorem dX12_unsay_16 : decode cX12_unsay 16 = .ok (.aload_n 0, 1) := by decide +kernel
theorem dX12_unsay_17 : decode cX12_unsay 17 = .ok (.getfield 90, 3) := by decide +kernel
theorem dX12_unsay_20 : decode cX12_unsay 20 = .ok (.iconst 0, 1) := by decide +kernel
theorem dX12_unsay_21 : decode cX12_unsay 21 = .ok (.dup2, 1) := by decide +kernel
theorem dX12_unsay_22 : decode cX12_unsay 22 = .ok (.iaload, 1) := by decide +kernel
theorem dX12_unsay_23 : decode cX12_unsay 23 = .ok (.iconst 1, 1) := by decide +kernel
theorem dX12_unsay_24 : decode cX12_unsay 24 = .ok (.isub, 1) := by decide +kernel
theorem dX12_unsay_25 : decode cX12_unsay 25 = .ok (.iastore, 1) := by decide +kernel
theorem dX12_unsay_26 : decode cX12_unsay 26 = .ok (.iconst 1, 1) := by decide +kernel
theorem dX12_unsay_27 : decode cX12_unsay 27 = .ok (.ireturn, 1) := by decide +kernel
theorem dX12_saying_0 : decode cX12_saying 0 = .ok (.aload_n 0, 1) := by decide +kernel
theorem dX12_saying_1 : decode cX12_saying 1 = .ok (.iconst 0, 1) := by decide +kernel
theorem dX12_saying_2 : decode cX12_saying 2 = .ok (.putfield 135, 3) := by decide +kernel
theorem dX12_saying_5 : decode cX12_saying 5 = .ok (.iload_n 1, 1) := by decide +kernel
theorem dX12_saying_6 : decode cX12_saying 6 = .ok (.ifCond .lt 22, 3) := by decide +kernel
theorem dX12_saying_9 : decode cX12_saying 9 = .ok (.iload_n 1, 1) := by decide +kernel
theorem dX12_saying_10 : decode cX12_saying 10 = .ok (.aload_n 0, 1) := by decide +kernel
theorem dX12_saying_11 : decode cX12_saying 11 = .ok (.getfield 90, 3) := by decide +kernel
theorem dX12_saying_14 : decode cX12_saying 14 = .ok (.iconst 0, 1) := by decide +kernel
theorem dX12_saying_15 : decode cX12_saying 15 = .ok (.iaload, 1) := by decide +kernel
theorem dX12_saying_16 : decode cX12_saying 16 = .ok (.if_icmp .ge 12, 3) := by decide +kernel
theorem dX12_saying_19 : decode cX12_saying 19 = .ok (.iload_n 2, 1) := by decide +kernel
theorem dX12_saying_20 : decode cX12_saying 20 = .ok (.iconst 0, 1) := by decide +kernel
theorem dX12_saying_21 : decode cX12_saying 21 = .ok (.iconst 2, 1) := by decide +kernel
theorem dX12_saying_22 : decode cX12_saying 22 = .ok (.invokestatic 250, 3) := by decide +kernel
theorem dX12_saying_25 : decode cX12_saying 25 = .ok (.ifCond .ne 5, 3) := by decide +kernel
theorem dX12_saying_28 : decode cX12_saying 28 = .ok (.iconst (-1), 1) := by decide +kernel
theorem dX12_saying_29 : decode cX12_saying 29 = .ok (.ireturn, 1) := by decide +kernel
theorem dX12_saying_30 : decode cX12_saying 30 = .ok (.iload_n 2, 1) := by decide +kernel
theorem dX12_saying_31 : decode cX12_saying 31 = .ok (.ifCond .ne 14, 3) := by decide +kernel
theorem dX12_saying_34 : decode cX12_saying 34 = .ok (.aload_n 0, 1) := by decide +kernel
theorem dX12_saying_35 : decode cX12_saying 35 = .ok (.getfield 90, 3) := by decide +kernel
theorem dX12_saying_38 : decode cX12_saying 38 = .ok (.iconst 1, 1) := by decide +kernel
theorem dX12_saying_39 : decode cX12_saying 39 = .ok (.iload_n 1, 1) := by decide +kernel
theorem dX12_saying_40 : decode cX12_saying 40 = .ok (.iadd, 1) := by decide +kernel
theorem dX12_saying_41 : decode cX12_saying 41 = .ok (.iaload, 1) := by decide +kernel
theorem dX12_saying_42 : decode cX12_saying 42 = .ok (.goto 29, 3) := by decide +kernel
theorem dX12_saying_45 : decode cX12_saying 45 = .ok (.iload_n 2, 1) := by decide +kernel
theorem dX12_saying_46 : decode cX12_saying 46 = .ok (.iconst 1, 1) := by decide +kernel
theorem dX12_saying_47 : decode cX12_saying 47 = .ok (.if_icmp .ne 15, 3) := by decide +kernel
theorem dX12_saying_50 : decode cX12_saying 50 = .ok (.aload_n 0, 1) := by decide +kernel
theorem dX12_saying_51 : decode cX12_saying 51 = .ok (.getfield 90, 3) := by decide +kernel
theorem dX12_saying_54 : decode cX12_saying 54 = .ok (.bipush 41, 2) := by decide +kernel
theorem dX12_saying_56 : decode cX12_saying 56 = .ok (.iload_n 1, 1) := by decide +kernel
theorem dX12_saying_57 : decode cX12_saying 57 = .ok (.iadd, 1) := by decide +kernel
theorem dX12_saying_58 : decode cX12_saying 58 = .ok (.iaload, 1) := by decide +kernel
theorem dX12_saying_59 : decode cX12_saying 59 = .ok (.goto 12, 3) := by decide +kernel
theorem dX12_saying_62 : decode cX12_saying 62 = .ok (.aload_n 0, 1) := by decide +kernel
theorem dX12_saying_63 : decode cX12_saying 63 = .ok (.getfield 90, 3) := by decide +kernel
theorem dX12_saying_66 : decode cX12_saying 66 = .ok (.bipush 81, 2) := by decide +kernel
theorem dX12_saying_68 : decode cX12_saying 68 = .ok (.iload_n 1, 1) := by decide +kernel
theorem dX12_saying_69 : decode cX12_saying 69 = .ok (.iadd, 1) := by decide +kernel
theorem dX12_saying_70 : decode cX12_saying 70 = .ok (.iaload, 1) := by decide +kernel
theorem dX12_saying_71 : decode cX12_saying 71 = .ok (.ireturn, 1) := by decide +kernel
theorem dX12_asks_0 : decode cX12_asks 0 = .ok (.iconst 0, 1) := by decide +kernel
theorem dX12_asks_1 : decode cX12_asks 1 = .ok (.istore_n 2, 1) := by decide +kernel
theorem dX12_asks_2 : decode cX12_asks 2 = .ok (.iload_n 2, 1) := by decide +kernel
theorem dX12_asks_3 : decode cX12_asks 3 = .ok (.bipush 10, 2) := by decide +kernel
theorem dX12_asks_5 : decode cX12_asks 5 = .ok (.if_icmp .ge 16, 3) := by decide +kernel
theorem dX12_asks_8 : decode cX12_asks 8 = .ok (.aload_n 0, 1) := by decide +kernel
theorem dX12_asks_9 : decode cX12_asks 9 = .ok (.getfield 99, 3) := by decide +kernel
theorem dX12_asks_12 : decode cX12_asks 12 = .ok (.iload_n 2, 1) := by decide +kernel
theorem dX12_asks_13 : decode cX12_asks 13 = .ok (.iconst 0, 1) := by decide +kernel
theorem dX12_asks_14 : decode cX12_asks 14 = .ok (.iastore, 1) := by decide +kernel
theorem dX12_asks_15 : decode cX12_asks 15 = .ok (.iinc 2 1, 3) := by decide +kernel
theorem dX12_asks_18 : decode cX12_asks 18 = .ok (.goto (-16), 3) := by decide +kernel
theorem dX12_asks_21 : decode cX12_asks 21 = .ok (.iconst 0, 1) := by decide +kernel
theorem dX12_asks_22 : decode cX12_asks 22 = .ok (.istore_n 2, 1) := by decide +kernel
theorem dX12_asks_23 : decode cX12_asks 23 = .ok (.iload_n 2, 1) := by decide +kernel
theorem dX12_asks_24 : decode cX12_asks 24 = .ok (.aload_n 0, 1) := by decide +kernel
theorem dX12_asks_25 : decode cX12_asks 25 = .ok (.getfield 90, 3) := by decide +kernel
theorem dX12_asks_28 : decode cX12_asks 28 = .ok (.iconst 0, 1) := by decide +kernel
theorem dX12_asks_29 : decode cX12_asks 29 = .ok (.iaload, 1) := by decide +kernel
theorem dX12_asks_30 : decode cX12_asks 30 = .ok (.if_icmp .ge 61, 3) := by decide +kernel
theorem dX12_asks_33 : decode cX12_asks 33 = .ok (.aload_n 0, 1) := by decide +kernel
theorem dX12_asks_34 : decode cX12_asks 34 = .ok (.getfield 90, 3) := by decide +kernel
theorem dX12_asks_37 : decode cX12_asks 37 = .ok (.iconst 1, 1) := by decide +kernel
theorem dX12_asks_38 : decode cX12_asks 38 = .ok (.iload_n 2, 1) := by decide +kernel
theorem dX12_asks_39 : decode cX12_asks 39 = .ok (.iadd, 1) := by decide +kernel
theorem dX12_asks_40 : decode cX12_asks 40 = .ok (.iaload, 1) := by decide +kernel
theorem dX12_asks_41 : decode cX12_asks 41 = .ok (.iload_n 1, 1) := by decide +kernel
theorem dX12_asks_42 : decode cX12_asks 42 = .ok (.if_icmp .eq 43, 3) := by decide +kernel
theorem dX12_asks_45 : decode cX12_asks 45 = .ok (.aload_n 0, 1) := by decide +kernel
theorem dX12_asks_46 : decode cX12_asks 46 = .ok (.getfield 90, 3) := by decide +kernel
theorem dX12_asks_49 : decode cX12_asks 49 = .ok (.bipush 41, 2) := by decide +kernel
theorem dX12_asks_51 : decode cX12_asks 51 = .ok (.iload_n 2, 1) := by decide +kernel
theorem dX12_asks_52 : decode cX12_asks 52 = .ok (.iadd, 1) := by decide +kernel
theorem dX12_asks_53 : decode cX12_asks 53 = .ok (.iaload, 1) := by decide +kernel
theorem dX12_asks_54 : decode cX12_asks 54 = .ok (.iload_n 1, 1) := by decide +kernel
theorem dX12_asks_55 : decode cX12_asks 55 = .ok (.if_icmp .eq 30, 3) := by decide +kernel
theorem dX12_asks_58 : decode cX12_asks 58 = .ok (.aload_n 0, 1) := by decide +kernel
theorem dX12_asks_59 : decode cX12_asks 59 = .ok (.getfield 99, 3) := by decide +kernel
theorem dX12_asks_62 : decode cX12_asks 62 = .ok (.aload_n 0, 1) := by decide +kernel
theorem dX12_asks_63 : decode cX12_asks 63 = .ok (.getfield 90, 3) := by decide +kernel
theorem dX12_asks_66 : decode cX12_asks 66 = .ok (.bipush 41, 2) := by decide +kernel
theorem dX12_asks_68 : decode cX12_asks 68 = .ok (.iload_n 2, 1) := by decide +kernel
theorem dX12_asks_69 : decode cX12_asks 69 = .ok (.iadd, 1) := by decide +kernel
theorem dX12_asks_70 : decode cX12_asks 70 = .ok (.iaload, 1) := by decide +kernel
theorem dX12_asks_71 : decode cX12_asks 71 = .ok (.dup2, 1) := by decide +kernel
theorem dX12_asks_72 : decode cX12_asks 72 = .ok (.iaload, 1) := by decide +kernel
theorem dX12_asks_73 : decode cX12_asks 73 = .ok (.iconst 1, 1) := by decide +kernel
theorem dX12_asks_74 : decode cX12_asks 74 = .ok (.aload_n 0, 1) := by decide +kernel
theorem dX12_asks_75 : decode cX12_asks 75 = .ok (.getfield 90, 3) := by decide +kernel
theorem dX12_asks_78 : decode cX12_asks 78 = .ok (.iconst 1, 1) := by decide +kernel
theorem dX12_asks_79 : decode cX12_asks 79 = .ok (.iload_n 2, 1) := by decide +kernel
theorem dX12_asks_80 : decode cX12_asks 80 = .ok (.iadd, 1) := by decide +kernel
theorem dX12_asks_81 : decode cX12_asks 81 = .ok (.iaload, 1) := by decide +kernel
theorem dX12_asks_82 : decode cX12_asks 82 = .ok (.ishl, 1) := by decide +kernel
theorem dX12_asks_83 : decode cX12_asks 83 = .ok (.ior, 1) := by decide +kernel
theorem dX12_asks_84 : decode cX12_asks 84 = .ok (.iastore, 1) := by decide +kernel
theorem dX12_asks_85 : decode cX12_asks 85 = .ok (.iinc 2 1, 3) := by decide +kernel
theorem dX12_asks_88 : decode cX12_asks 88 = .ok (.goto (-65), 3) := by decide +kernel
theorem dX12_asks_91 : decode cX12_asks 91 = .ok (.return_, 1) := by decide +kernel
theorem dX12_everybody_0 : decode cX12_everybody 0 = .ok (.iconst 1, 1) := by decide +kernel
theorem dX12_everybody_1 : decode cX12_everybody 1 = .ok (.aload_n 0, 1) := by decide +kernel
theorem dX12_everybody_2 : decode cX12_everybody 2 = .ok (.getfield 13, 3) := by decide +kernel
theorem dX12_everybody_5 : decode cX12_everybody 5 = .ok (.iconst 0, 1) := by decide +kernel
theorem dX12_everybody_6 : decode cX12_everybody 6 = .ok (.iaload, 1) := by decide +kernel
theorem dX12_everybody_7 : decode cX12_everybody 7 = .ok (.ishl, 1) := by decide +kernel
theorem dX12_everybody_8 : decode cX12_everybody 8 = .ok (.iconst 1, 1) := by decide +kernel
theorem dX12_everybody_9 : decode cX12_everybody 9 = .ok (.isub, 1) := by decide +kernel
theorem dX12_everybody_10 : decode cX12_everybody 10 = .ok (.ireturn, 1) := by decide +kernel
theorem dX12_fitting_0 : decode cX12_fitting 0 = .ok (.aload_n 0, 1) := by decide +kernel
theorem dX12_fitting_1 : decode cX12_fitting 1 = .ok (.getfield 102, 3) := by decide +kernel
theorem dX12_fitting_4 : decode cX12_fitting 4 = .ok (.iconst 0, 1) := by decide +kernel
theorem dX12_fitting_5 : decode cX12_fitting 5 = .ok (.iconst 1, 1) := by decide +kernel
theorem dX12_fitting_6 : decode cX12_fitting 6 = .ok (.iastore, 1) := by decide +kernel
theorem dX12_fitting_7 : decode cX12_fitting 7 = .ok (.iconst 1, 1) := by decide +kernel
theorem dX12_fitting_8 : decode cX12_fitting 8 = .ok (.istore_n 2, 1) := by decide +kernel
theorem dX12_fitting_9 : decode cX12_fitting 9 = .ok (.iload_n 2, 1) := by decide +kernel
theorem dX12_fitting_10 : decode cX12_fitting 10 = .ok (.iload_n 1, 1) := by decide +kernel
theorem dX12_fitting_11 : decode cX12_fitting 11 = .ok (.if_icmp .gt 92, 3) := by decide +kernel
theorem dX12_fitting_14 : decode cX12_fitting 14 = .ok (.aload_n 0, 1) := by decide +kernel
theorem dX12_fitting_15 : decode cX12_fitting 15 = .ok (.getfield 102, 3) := by decide +kernel
theorem dX12_fitting_18 : decode cX12_fitting 18 = .ok (.iload_n 2, 1) := by decide +kernel
theorem dX12_fitting_19 : decode cX12_fitting 19 = .ok (.iconst 0, 1) := by decide +kernel
theorem dX12_fitting_20 : decode cX12_fitting 20 = .ok (.iastore, 1) := by decide +kernel
theorem dX12_fitting_21 : decode cX12_fitting 21 = .ok (.iload_n 2, 1) := by decide +kernel
theorem dX12_fitting_22 : decode cX12_fitting 22 = .ok (.iload_n 1, 1) := by decide +kernel
theorem dX12_fitting_23 : decode cX12_fitting 23 = .ok (.iconst (-1), 1) := by decide +kernel
theorem dX12_fitting_24 : decode cX12_fitting 24 = .ok (.ixor, 1) := by decide +kernel
theorem dX12_fitting_25 : decode cX12_fitting 25 = .ok (.iand, 1) := by decide +kernel
theorem dX12_fitting_26 : decode cX12_fitting 26 = .ok (.ifCond .eq 6, 3) := by decide +kernel
theorem dX12_fitting_29 : decode cX12_fitting 29 = .ok (.goto 68, 3) := by decide +kernel
theorem dX12_fitting_32 : decode cX12_fitting 32 = .ok (.iconst 0, 1) := by decide +kernel
theorem dX12_fitting_33 : decode cX12_fitting 33 = .ok (.istore_n 3, 1) := by decide +kernel
theorem dX12_fitting_34 : decode cX12_fitting 34 = .ok (.iload_n 3, 1) := by decide +kernel
theorem dX12_fitting_35 : decode cX12_fitting 35 = .ok (.aload_n 0, 1) := by decide +kernel
theorem dX12_fitting_36 : decode cX12_fitting 36 = .ok (.getfield 13, 3) := by decide +kernel
theorem dX12_fitting_39 : decode cX12_fitting 39 = .ok (.iconst 0, 1) := by decide +kernel
theorem dX12_fitting_40 : decode cX12_fitting 40 = .ok (.iaload, 1) := by decide +kernel
theorem dX12_fitting_41 : decode cX12_fitting 41 = .ok (.if_icmp .ge 56, 3) := by decide +kernel
theorem dX12_fitting_44 : decode cX12_fitting 44 = .ok (.iload_n 2, 1) := by decide +kernel
theorem dX12_fitting_45 : decode cX12_fitting 45 = .ok (.iconst 1, 1) := by decide +kernel
theorem dX12_fitting_46 : decode cX12_fitting 46 = .ok (.iload_n 3, 1) := by decide +kernel
theorem dX12_fitting_47 : decode cX12_fitting 47 = .ok (.ishl, 1) := by decide +kernel
theorem dX12_fitting_48 : decode cX12_fitting 48 = .ok (.iconst (-1), 1) := by decide +kernel
theorem dX12_fitting_49 : decode cX12_fitting 49 = .ok (.ixor, 1) := by decide +kernel
theorem dX12_fitting_50 : decode cX12_fitting 50 = .ok (.iand, 1) := by decide +kernel
theorem dX12_fitting_51 : decode cX12_fitting 51 = .ok (.istore 4, 2) := by decide +kernel
theorem dX12_fitting_53 : decode cX12_fitting 53 = .ok (.iload 4, 2) := by decide +kernel
theorem dX12_fitting_55 : decode cX12_fitting 55 = .ok (.iload_n 2, 1) := by decide +kernel
theorem dX12_fitting_56 : decode cX12_fitting 56 = .ok (.if_icmp .eq 35, 3) := by decide +kernel
theorem dX12_fitting_59 : decode cX12_fitting 59 = .ok (.aload_n 0, 1) := by decide +kernel
theorem dX12_fitting_60 : decode cX12_fitting 60 = .ok (.getfield 99, 3) := by decide +kernel
theorem dX12_fitting_63 : decode cX12_fitting 63 = .ok (.iload_n 3, 1) := by decide +kernel
theorem dX12_fitting_64 : decode cX12_fitting 64 = .ok (.iaload, 1) := by decide +kernel
theorem dX12_fitting_65 : decode cX12_fitting 65 = .ok (.iload_n 1, 1) := by decide +kernel
theorem dX12_fitting_66 : decode cX12_fitting 66 = .ok (.iand, 1) := by decide +kernel
theorem dX12_fitting_67 : decode cX12_fitting 67 = .ok (.iload 4, 2) := by decide +kernel
theorem dX12_fitting_69 : decode cX12_fitting 69 = .ok (.iconst (-1), 1) := by decide +kernel
theorem dX12_fitting_70 : decode cX12_fitting 70 = .ok (.ixor, 1) := by decide +kernel
theorem dX12_fitting_71 : decode cX12_fitting 71 = .ok (.iand, 1) := by decide +kernel
theorem dX12_fitting_72 : decode cX12_fitting 72 = .ok (.ifCond .ne 19, 3) := by decide +kernel
theorem dX12_fitting_75 : decode cX12_fitting 75 = .ok (.aload_n 0, 1) := by decide +kernel
theorem dX12_fitting_76 : decode cX12_fitting 76 = .ok (.getfield 102, 3) := by decide +kernel
theorem dX12_fitting_79 : decode cX12_fitting 79 = .ok (.iload_n 2, 1) := by decide +kernel
theorem dX12_fitting_80 : decode cX12_fitting 80 = .ok (.dup2, 1) := by decide +kernel
theorem dX12_fitting_81 : decode cX12_fitting 81 = .ok (.iaload, 1) := by decide +kernel
theorem dX12_fitting_82 : decode cX12_fitting 82 = .ok (.aload_n 0, 1) := by decide +kernel
theorem dX12_fitting_83 : decode cX12_fitting 83 = .ok (.getfield 102, 3) := by decide +kernel
theorem dX12_fitting_86 : decode cX12_fitting 86 = .ok (.iload 4, 2) := by decide +kernel
theorem dX12_fitting_88 : decode cX12_fitting 88 = .ok (.iaload, 1) := by decide +kernel
theorem dX12_fitting_89 : decode cX12_fitting 89 = .ok (.iadd, 1) := by decide +kernel
theorem dX12_fitting_90 : decode cX12_fitting 90 = .ok (.iastore, 1) := by decide +kernel
theorem dX12_fitting_91 : decode cX12_fitting 91 = .ok (.iinc 3 1, 3) := by decide +kernel
theorem dX12_fitting_94 : decode cX12_fitting 94 = .ok (.goto (-60), 3) := by decide +kernel
theorem dX12_fitting_97 : decode cX12_fitting 97 = .ok (.iinc 2 1, 3) := by decide +kernel
theorem dX12_fitting_100 : decode cX12_fitting 100 = .ok (.goto (-91), 3) := by decide +kernel
theorem dX12_fitting_103 : decode cX12_fitting 103 = .ok (.aload_n 0, 1) := by decide +kernel
theorem dX12_fitting_104 : decode cX12_fitting 104 = .ok (.getfield 102, 3) := by decide +kernel
theorem dX12_fitting_107 : decode cX12_fitting 107 = .ok (.iload_n 1, 1) := by decide +kernel
theorem dX12_fitting_108 : decode cX12_fitting 108 = .ok (.iaload, 1) := by decide +kernel
theorem dX12_fitting_109 : decode cX12_fitting 109 = .ok (.ireturn, 1) := by decide +kernel
theorem dX12_fittingAll_0 : decode cX12_fittingAll 0 = .ok (.aload_n 0, 1) := by decide +kernel
theorem dX12_fittingAll_1 : decode cX12_fittingAll 1 = .ok (.iconst (-1), 1) := by decide +kernel
theorem dX12_fittingAll_2 : decode cX12_fittingAll 2 = .ok (.invokevirtual 335, 3) := by decide +kernel
theorem dX12_fittingAll_5 : decode cX12_fittingAll 5 = .ok (.aload_n 0, 1) := by decide +kernel
theorem dX12_fittingAll_6 : decode cX12_fittingAll 6 = .ok (.aload_n 0, 1) := by decide +kernel
theorem dX12_fittingAll_7 : decode cX12_fittingAll 7 = .ok (.invokevirtual 338, 3) := by decide +kernel
theorem dX12_fittingAll_10 : decode cX12_fittingAll 10 = .ok (.invokevirtual 341, 3) := by decide +kernel
theorem dX12_fittingAll_13 : decode cX12_fittingAll 13 = .ok (.ireturn, 1) := by decide +kernel
theorem dX12_orders_0 : decode cX12_orders 0 = .ok (.aload_n 0, 1) := by decide +kernel
theorem dX12_orders_1 : decode cX12_orders 1 = .ok (.iconst 0, 1) := by decide +kernel
theorem dX12_orders_2 : decode cX12_orders 2 = .ok (.putfield 135, 3) := by decide +kernel
theorem dX12_orders_5 : decode cX12_orders 5 = .ok (.aload_n 0, 1) := by decide +kernel
theorem dX12_orders_6 : decode cX12_orders 6 = .ok (.invokevirtual 344, 3) := by decide +kernel
theorem dX12_orders_9 : decode cX12_orders 9 = .ok (.ireturn, 1) := by decide +kernel
theorem dX12_isSure_0 : decode cX12_isSure 0 = .ok (.aload_n 0, 1) := by decide +kernel
theorem dX12_isSure_1 : decode cX12_isSure 1 = .ok (.invokevirtual 344, 3) := by decide +kernel
theorem dX12_isSure_4 : decode cX12_isSure 4 = .ok (.ifCond .le 7, 3) := by decide +kernel
theorem dX12_isSure_7 : decode cX12_isSure 7 = .ok (.iconst 1, 1) := by decide +kernel
theorem dX12_isSure_8 : decode cX12_isSure 8 = .ok (.goto 4, 3) := by decide +kernel
theorem dX12_isSure_11 : decode cX12_isSure 11 = .ok (.iconst 0, 1) := by decide +kernel
theorem dX12_isSure_12 : decode cX12_isSure 12 = .ok (.istore_n 1, 1) := by decide +kernel
theorem dX12_isSure_13 : decode cX12_isSure 13 = .ok (.iconst 0, 1) := by decide +kernel
theorem dX12_isSure_14 : decode cX12_isSure 14 = .ok (.istore_n 2, 1) := by decide +kernel
theorem dX12_isSure_15 : decode cX12_isSure 15 = .ok (.iload_n 2, 1) := by decide +kernel
theorem dX12_isSure_16 : decode cX12_isSure 16 = .ok (.bipush 10, 2) := by decide +kernel
theorem dX12_isSure_18 : decode cX12_isSure 18 = .ok (.if_icmp .ge 29, 3) := by decide +kernel
theorem dX12_isSure_21 : decode cX12_isSure 21 = .ok (.aload_n 0, 1) := by decide +kernel
theorem dX12_isSure_22 : decode cX12_isSure 22 = .ok (.getfield 105, 3) := by decide +kernel
theorem dX12_isSure_25 : decode cX12_isSure 25 = .ok (.iload_n 2, 1) := by decide +kernel
theorem dX12_isSure_26 : decode cX12_isSure 26 = .ok (.iload_n 1, 1) := by decide +kernel
theorem dX12_isSure_27 : decode cX12_isSure 27 = .ok (.ifCond .eq 12, 3) := by decide +kernel
theorem dX12_isSure_30 : decode cX12_isSure 30 = .ok (.aload_n 0, 1) := by decide +kernel
theorem dX12_isSure_31 : decode cX12_isSure 31 = .ok (.getfield 99, 3) := by decide +kernel
theorem dX12_isSure_34 : decode cX12_isSure 34 = .ok (.iload_n 2, 1) := by decide +kernel
theorem dX12_isSure_35 : decode cX12_isSure 35 = .ok (.iaload, 1) := by decide +kernel
theorem dX12_isSure_36 : decode cX12_isSure 36 = .ok (.goto 4, 3) := by decide +kernel
theorem dX12_isSure_39 : decode cX12_isSure 39 = .ok (.iconst 0, 1) := by decide +kernel
theorem dX12_isSure_40 : decode cX12_isSure 40 = .ok (.iastore, 1) := by decide +kernel
theorem dX12_isSure_41 : decode cX12_isSure 41 = .ok (.iinc 2 1, 3) := by decide +kernel
theorem dX12_isSure_44 : decode cX12_isSure 44 = .ok (.goto (-29), 3) := by decide +kernel
theorem dX12_isSure_47 : decode cX12_isSure 47 = .ok (.iconst 0, 1) := by decide +kernel
theorem dX12_isSure_48 : decode cX12_isSure 48 = .ok (.istore_n 2, 1) := by decide +kernel
theorem dX12_isSure_49 : decode cX12_isSure 49 = .ok (.iload_n 2, 1) := by decide +kernel
theorem dX12_isSure_50 : decode cX12_isSure 50 = .ok (.aload_n 0, 1) := by decide +kernel
theorem dX12_isSure_51 : decode cX12_isSure 51 = .ok (.getfield 13, 3) := by decide +kernel
theorem dX12_isSure_54 : decode cX12_isSure 54 = .ok (.iconst 0, 1) := by decide +kernel
theorem dX12_isSure_55 : decode cX12_isSure 55 = .ok (.iaload, 1) := by decide +kernel
theorem dX12_isSure_56 : decode cX12_isSure 56 = .ok (.if_icmp .ge 78, 3) := by decide +kernel
theorem dX12_isSure_59 : decode cX12_isSure 59 = .ok (.iconst 0, 1) := by decide +kernel
theorem dX12_isSure_60 : decode cX12_isSure 60 = .ok (.istore_n 3, 1) := by decide +kernel
theorem dX12_isSure_61 : decode cX12_isSure 61 = .ok (.iload_n 3, 1) := by decide +kernel
theorem dX12_isSure_62 : decode cX12_isSure 62 = .ok (.aload_n 0, 1) := by decide +kernel
theorem dX12_isSure_63 : decode cX12_isSure 63 = .ok (.getfield 13, 3) := by decide +kernel
theorem dX12_isSure_66 : decode cX12_isSure 66 = .ok (.iconst 0, 1) := by decide +kernel
theorem dX12_isSure_67 : decode cX12_isSure 67 = .ok (.iaload, 1) := by decide +kernel
theorem dX12_isSure_68 : decode cX12_isSure 68 = .ok (.if_icmp .ge 60, 3) := by decide +kernel
theorem dX12_isSure_71 : decode cX12_isSure 71 = .ok (.iconst 0, 1) := by decide +kernel
theorem dX12_isSure_72 : decode cX12_isSure 72 = .ok (.istore 4, 2) := by decide +kernel
theorem dX12_isSure_74 : decode cX12_isSure 74 = .ok (.iload 4, 2) := by decide +kernel
theorem dX12_isSure_76 : decode cX12_isSure 76 = .ok (.aload_n 0, 1) := by decide +kernel
theorem dX12_isSure_77 : decode cX12_isSure 77 = .ok (.getfield 13, 3) := by decide +kernel
theorem dX12_isSure_80 : decode cX12_isSure 80 = .ok (.iconst 0, 1) := by decide +kernel
theorem dX12_isSure_81 : decode cX12_isSure 81 = .ok (.iaload, 1) := by decide +kernel
theorem dX12_isSure_82 : decode cX12_isSure 82 = .ok (.if_icmp .ge 40, 3) := by decide +kernel
theorem dX12_isSure_85 : decode cX12_isSure 85 = .ok (.aload_n 0, 1) := by decide +kernel
theorem dX12_isSure_86 : decode cX12_isSure 86 = .ok (.getfield 105, 3) := by decide +kernel
theorem dX12_isSure_89 : decode cX12_isSure 89 = .ok (.iload_n 3, 1) := by decide +kernel
theorem dX12_isSure_90 : decode cX12_isSure 90 = .ok (.iaload, 1) := by decide +kernel
theorem dX12_isSure_91 : decode cX12_isSure 91 = .ok (.iload 4, 2) := by decide +kernel
theorem dX12_isSure_93 : decode cX12_isSure 93 = .ok (.ishr, 1) := by decide +kernel
theorem dX12_isSure_94 : decode cX12_isSure 94 = .ok (.iconst 1, 1) := by decide +kernel
theorem dX12_isSure_95 : decode cX12_isSure 95 = .ok (.iand, 1) := by decide +kernel
theorem dX12_isSure_96 : decode cX12_isSure 96 = .ok (.iconst 1, 1) := by decide +kernel
theorem dX12_isSure_97 : decode cX12_isSure 97 = .ok (.if_icmp .ne 19, 3) := by decide +kernel
theorem dX12_isSure_100 : decode cX12_isSure 100 = .ok (.aload_n 0, 1) := by decide +kernel
theorem dX12_isSure_101 : decode cX12_isSure 101 = .ok (.getfield 105, 3) := by decide +kernel
theorem dX12_isSure_104 : decode cX12_isSure 104 = .ok (.iload_n 3, 1) := by decide +kernel
theorem dX12_isSure_105 : decode cX12_isSure 105 = .ok (.dup2, 1) := by decide +kernel
theorem dX12_isSure_106 : decode cX12_isSure 106 = .ok (.iaload, 1) := by decide +kernel
theorem dX12_isSure_107 : decode cX12_isSure 107 = .ok (.aload_n 0, 1) := by decide +kernel
theorem dX12_isSure_108 : decode cX12_isSure 108 = .ok (.getfield 105, 3) := by decide +kernel
theorem dX12_isSure_111 : decode cX12_isSure 111 = .ok (.iload 4, 2) := by decide +kernel
theorem dX12_isSure_113 : decode cX12_isSure 113 = .ok (.iaload, 1) := by decide +kernel
theorem dX12_isSure_114 : decode cX12_isSure 114 = .ok (.ior, 1) := by decide +kernel
theorem dX12_isSure_115 : decode cX12_isSure 115 = .ok (.iastore, 1) := by decide +kernel
theorem dX12_isSure_116 : decode cX12_isSure 116 = .ok (.iinc 4 1, 3) := by decide +kernel
theorem dX12_isSure_119 : decode cX12_isSure 119 = .ok (.goto (-45), 3) := by decide +kernel
theorem dX12_isSure_122 : decode cX12_isSure 122 = .ok (.iinc 3 1, 3) := by decide +kernel
theorem dX12_isSure_125 : decode cX12_isSure 125 = .ok (.goto (-64), 3) := by decide +kernel
theorem dX12_isSure_128 : decode cX12_isSure 128 = .ok (.iinc 2 1, 3) := by decide +kernel
theorem dX12_isSure_131 : decode cX12_isSure 131 = .ok (.goto (-82), 3) := by decide +kernel
theorem dX12_isSure_134 : decode cX12_isSure 134 = .ok (.iload_n 1, 1) := by decide +kernel
theorem dX12_isSure_135 : decode cX12_isSure 135 = .ok (.ireturn, 1) := by decide +kernel
theorem dX12_sure_0 : decode cX12_sure 0 = .ok (.aload_n 0, 1) := by decide +kernel
theorem dX12_sure_1 : decode cX12_sure 1 = .ok (.iconst 0, 1) := by decide +kernel
theorem dX12_sure_2 : decode cX12_sure 2 = .ok (.putfield 135, 3) := by decide +kernel
theorem dX12_sure_5 : decode cX12_sure 5 = .ok (.aload_n 0, 1) := by decide +kernel
theorem dX12_sure_6 : decode cX12_sure 6 = .ok (.iload_n 1, 1) := by decide +kernel
theorem dX12_sure_7 : decode cX12_sure 7 = .ok (.iload_n 2, 1) := by decide +kernel
theorem dX12_sure_8 : decode cX12_sure 8 = .ok (.invokevirtual 332, 3) := by decide +kernel
theorem dX12_sure_11 : decode cX12_sure 11 = .ok (.ifCond .eq 10, 3) := by decide +kernel
theorem dX12_sure_14 : decode cX12_sure 14 = .ok (.aload_n 0, 1) := by decide +kernel
theorem dX12_sure_15 : decode cX12_sure 15 = .ok (.invokevirtual 347, 3) := by decide +kernel
theorem dX12_sure_18 : decode cX12_sure 18 = .ok (.ifCond .ne 5, 3) := by decide +kernel
theorem dX12_sure_21 : decode cX12_sure 21 = .ok (.iconst (-1), 1) := by decide +kernel
theorem dX12_sure_22 : decode cX12_sure 22 = .ok (.ireturn, 1) := by decide +kernel
theorem dX12_sure_23 : decode cX12_sure 23 = .ok (.aload_n 0, 1) := by decide +kernel
theorem dX12_sure_24 : decode cX12_sure 24 = .ok (.getfield 105, 3) := by decide +kernel
theorem dX12_sure_27 : decode cX12_sure 27 = .ok (.iload_n 2, 1) := by decide +kernel
theorem dX12_sure_28 : decode cX12_sure 28 = .ok (.iaload, 1) := by decide +kernel
theorem dX12_sure_29 : decode cX12_sure 29 = .ok (.iload_n 1, 1) := by decide +kernel
theorem dX12_sure_30 : decode cX12_sure 30 = .ok (.ishr, 1) := by decide +kernel
theorem dX12_sure_31 : decode cX12_sure 31 = .ok (.iconst 1, 1) := by decide +kernel
theorem dX12_sure_32 : decode cX12_sure 32 = .ok (.iand, 1) := by decide +kernel
theorem dX12_sure_33 : decode cX12_sure 33 = .ok (.iconst 1, 1) := by decide +kernel
theorem dX12_sure_34 : decode cX12_sure 34 = .ok (.if_icmp .ne 7, 3) := by decide +kernel
theorem dX12_sure_37 : decode cX12_sure 37 = .ok (.iconst 1, 1) := by decide +kernel
theorem dX12_sure_38 : decode cX12_sure 38 = .ok (.goto 22, 3) := by decide +kernel
theorem dX12_sure_41 : decode cX12_sure 41 = .ok (.aload_n 0, 1) := by decide +kernel
theorem dX12_sure_42 : decode cX12_sure 42 = .ok (.getfield 105, 3) := by decide +kernel
theorem dX12_sure_45 : decode cX12_sure 45 = .ok (.iload_n 1, 1) := by decide +kernel
theorem dX12_sure_46 : decode cX12_sure 46 = .ok (.iaload, 1) := by decide +kernel
theorem dX12_sure_47 : decode cX12_sure 47 = .ok (.iload_n 2, 1) := by decide +kernel
theorem dX12_sure_48 : decode cX12_sure 48 = .ok (.ishr, 1) := by decide +kernel
theorem dX12_sure_49 : decode cX12_sure 49 = .ok (.iconst 1, 1) := by decide +kernel
theorem dX12_sure_50 : decode cX12_sure 50 = .ok (.iand, 1) := by decide +kernel
theorem dX12_sure_51 : decode cX12_sure 51 = .ok (.iconst 1, 1) := by decide +kernel
theorem dX12_sure_52 : decode cX12_sure 52 = .ok (.if_icmp .ne 7, 3) := by decide +kernel
theorem dX12_sure_55 : decode cX12_sure 55 = .ok (.iconst 2, 1) := by decide +kernel
theorem dX12_sure_56 : decode cX12_sure 56 = .ok (.goto 4, 3) := by decide +kernel
theorem dX12_sure_59 : decode cX12_sure 59 = .ok (.iconst 0, 1) := by decide +kernel
theorem dX12_sure_60 : decode cX12_sure 60 = .ok (.ireturn, 1) := by decide +kernel
theorem dX12_span_0 : decode cX12_span 0 = .ok (.aload_n 0, 1) := by decide +kernel
theorem dX12_span_1 : decode cX12_span 1 = .ok (.iconst 0, 1) := by decide +kernel
theorem dX12_span_2 : decode cX12_span 2 = .ok (.putfield 135, 3) := by decide +kernel
theorem dX12_span_5 : decode cX12_span 5 = .ok (.aload_n 0, 1) := by decide +kernel
theorem dX12_span_6 : decode cX12_span 6 = .ok (.iload_n 1, 1) := by decide +kernel
theorem dX12_span_7 : decode cX12_span 7 = .ok (.invokevirtual 329, 3) := by decide +kernel
theorem dX12_span_10 : decode cX12_span 10 = .ok (.ifCond .eq 19, 3) := by decide +kernel
theorem dX12_span_13 : decode cX12_span 13 = .ok (.iload_n 2, 1) := by decide +kernel
theorem dX12_span_14 : decode cX12_span 14 = .ok (.iconst 0, 1) := by decide +kernel
theorem dX12_span_15 : decode cX12_span 15 = .ok (.iconst 1, 1) := by decide +kernel
theorem dX12_span_16 : decode cX12_span 16 = .ok (.invokestatic 250, 3) := by decide +kernel
theorem dX12_span_19 : decode cX12_span 19 = .ok (.ifCond .eq 10, 3) := by decide +kernel
theorem dX12_span_22 : decode cX12_span 22 = .ok (.aload_n 0, 1) := by decide +kernel
theorem dX12_span_23 : decode cX12_span 23 = .ok (.invokevirtual 347, 3) := by decide +kernel
theorem dX12_span_26 : decode cX12_span 26 = .ok (.ifCond .ne 5, 3) := by decide +kernel
theorem dX12_span_29 : decode cX12_span 29 = .ok (.iconst (-1), 1) := by decide +kernel
theorem dX12_span_30 : decode cX12_span 30 = .ok (.ireturn, 1) := by decide +kernel
theorem dX12_span_31 : decode cX12_span 31 = .ok (.iconst 0, 1) := by decide +kernel
theorem dX12_span_32 : decode cX12_span 32 = .ok (.istore_n 3, 1) := by decide +kernel
theorem dX12_span_33 : decode cX12_span 33 = .ok (.iconst 0, 1) := by decide +kernel
theorem dX12_span_34 : decode cX12_span 34 = .ok (.istore 4, 2) := by decide +kernel
theorem dX12_span_36 : decode cX12_span 36 = .ok (.iload 4, 2) := by decide +kernel
theorem dX12_span_38 : decode cX12_span 38 = .ok (.aload_n 0, 1) := by decide +kernel
theorem dX12_span_39 : decode cX12_span 39 = .ok (.getfield 13, 3) := by decide +kernel
theorem dX12_span_42 : decode cX12_span 42 = .ok (.iconst 0, 1) := by decide +kernel
theorem dX12_span_43 : decode cX12_span 43 = .ok (.iaload, 1) := by decide +kernel
theorem dX12_span_44 : decode cX12_span 44 = .ok (.if_icmp .ge 23, 3) := by decide +kernel
theorem dX12_span_47 : decode cX12_span 47 = .ok (.iload_n 3, 1) := by decide +kernel
theorem dX12_span_48 : decode cX12_span 48 = .ok (.aload_n 0, 1) := by decide +kernel
theorem dX12_span_49 : decode cX12_span 49 = .ok (.getfield 105, 3) := by decide +kernel
theorem dX12_span_52 : decode cX12_span 52 = .ok (.iload 4, 2) := by decide +kernel
theorem dX12_span_54 : decode cX12_span 54 = .ok (.iaload, 1) := by decide +kernel
theorem dX12_span_55 : decode cX12_span 55 = .ok (.iload_n 1, 1) := by decide +kernel
theorem dX12_span_56 : decode cX12_span 56 = .ok (.ishr, 1) := by decide +kernel
theorem dX12_span_57 : decode cX12_span 57 = .ok (.iconst 1, 1) := by decide +kernel
theorem dX12_span_58 : decode cX12_span 58 = .ok (.iand, 1) := by decide +kernel
theorem dX12_span_59 : decode cX12_span 59 = .ok (.iadd, 1) := by decide +kernel
theorem dX12_span_60 : decode cX12_span 60 = .ok (.istore_n 3, 1) := by decide +kernel
theorem dX12_span_61 : decode cX12_span 61 = .ok (.iinc 4 1, 3) := by decide +kernel
theorem dX12_span_64 : decode cX12_span 64 = .ok (.goto (-28), 3) := by decide +kernel
theorem dX12_span_67 : decode cX12_span 67 = .ok (.iload_n 2, 1) := by decide +kernel
theorem dX12_span_68 : decode cX12_span 68 = .ok (.ifCond .ne 15, 3) := by decide +kernel
theorem dX12_span_71 : decode cX12_span 71 = .ok (.aload_n 0, 1) := by decide +kernel
theorem dX12_span_72 : decode cX12_span 72 = .ok (.getfield 105, 3) := by decide +kernel
theorem dX12_span_75 : decode cX12_span 75 = .ok (.iload_n 1, 1) := by decide +kernel
theorem dX12_span_76 : decode cX12_span 76 = .ok (.iaload, 1) := by decide +kernel
theorem dX12_span_77 : decode cX12_span 77 = .ok (.invokestatic 350, 3) := by decide +kernel
theorem dX12_span_80 : decode cX12_span 80 = .ok (.goto 13, 3) := by decide +kernel
theorem dX12_span_83 : decode cX12_span 83 = .ok (.aload_n 0, 1) := by decide +kernel
theorem dX12_span_84 : decode cX12_span 84 = .ok (.getfield 13, 3) := by decide +kernel
theorem dX12_span_87 : decode cX12_span 87 = .ok (.iconst 0, 1) := by decide +kernel
theorem dX12_span_88 : decode cX12_span 88 = .ok (.iaload, 1) := by decide +kernel
theorem dX12_span_89 : decode cX12_span 89 = .ok (.iconst 1, 1) := by decide +kernel
theorem dX12_span_90 : decode cX12_span 90 = .ok (.isub, 1) := by decide +kernel
theorem dX12_span_91 : decode cX12_span 91 = .ok (.iload_n 3, 1) := by decide +kernel
theorem dX12_span_92 : decode cX12_span 92 = .ok (.isub, 1) := by decide +kernel
theorem dX12_span_93 : decode cX12_span 93 = .ok (.ireturn, 1) := by decide +kernel
theorem dX12_broken_0 : decode cX12_broken 0 = .ok (.iconst 0, 1) := by decide +kernel
theorem dX12_broken_1 : decode cX12_broken 1 = .ok (.istore 4, 2) := by decide +kernel
theorem dX12_broken_3 : decode cX12_broken 3 = .ok (.iconst 0, 1) := by decide +kernel
theorem dX12_broken_4 : decode cX12_broken 4 = .ok (.istore 5, 2) := by decide +kernel
theorem dX12_broken_6 : decode cX12_broken 6 = .ok (.iload 5, 2) := by decide +kernel
theorem dX12_broken_8 : decode cX12_broken 8 = .ok (.aload_n 0, 1) := by decide +kernel
theorem dX12_broken_9 : decode cX12_broken 9 = .ok (.getfield 90, 3) := by decide +kernel
theorem dX12_broken_12 : decode cX12_broken 12 = .ok (.iconst 0, 1) := by decide +kernel
theorem dX12_broken_13 : decode cX12_broken 13 = .ok (.iaload, 1) := by decide +kernel
theorem dX12_broken_14 : decode cX12_broken 14 = .ok (.if_icmp .ge 68, 3) := by decide +kernel
theorem dX12_broken_17 : decode cX12_broken 17 = .ok (.iload 4, 2) := by decide +kernel
theorem dX12_broken_19 : decode cX12_broken 19 = .ok (.aload_n 0, 1) := by decide +kernel
theorem dX12_broken_20 : decode cX12_broken 20 = .ok (.getfield 90, 3) := by decide +kernel
theorem dX12_broken_23 : decode cX12_broken 23 = .ok (.iconst 1, 1) := by decide +kernel
theorem dX12_broken_24 : decode cX12_broken 24 = .ok (.iload 5, 2) := by decide +kernel
theorem dX12_broken_26 : decode cX12_broken 26 = .ok (.iadd, 1) := by decide +kernel
theorem dX12_broken_27 : decode cX12_broken 27 = .ok (.iaload, 1) := by decide +kernel
theorem dX12_broken_28 : decode cX12_broken 28 = .ok (.iload_n 1, 1) := by decide +kernel
theorem dX12_broken_29 : decode cX12_broken 29 = .ok (.if_icmp .ne 43, 3) := by decide +kernel
theorem dX12_broken_32 : decode cX12_broken 32 = .ok (.iload_n 2, 1) := by decide +kernel
theorem dX12_broken_33 : decode cX12_broken 33 = .ok (.aload_n 0, 1) := by decide +kernel
theorem dX12_broken_34 : decode cX12_broken 34 = .ok (.getfield 90, 3) := by decide +kernel
theorem dX12_broken_37 : decode cX12_broken 37 = .ok (.bipush 41, 2) := by decide +kernel
theorem dX12_broken_39 : decode cX12_broken 39 = .ok (.iload 5, 2) := by decide +kernel
theorem dX12_broken_41 : decode cX12_broken 41 = .ok (.iadd, 1) := by decide +kernel
theorem dX12_broken_42 : decode cX12_broken 42 = .ok (.iaload, 1) := by decide +kernel
theorem dX12_broken_43 : decode cX12_broken 43 = .ok (.ishr, 1) := by decide +kernel
theorem dX12_broken_44 : decode cX12_broken 44 = .ok (.iconst 1, 1) := by decide +kernel
theorem dX12_broken_45 : decode cX12_broken 45 = .ok (.iand, 1) := by decide +kernel
theorem dX12_broken_46 : decode cX12_broken 46 = .ok (.iconst 1, 1) := by decide +kernel
theorem dX12_broken_47 : decode cX12_broken 47 = .ok (.if_icmp .ne 25, 3) := by decide +kernel
theorem dX12_broken_50 : decode cX12_broken 50 = .ok (.iload_n 3, 1) := by decide +kernel
theorem dX12_broken_51 : decode cX12_broken 51 = .ok (.ifCond .lt 17, 3) := by decide +kernel
theorem dX12_broken_54 : decode cX12_broken 54 = .ok (.aload_n 0, 1) := by decide +kernel
theorem dX12_broken_55 : decode cX12_broken 55 = .ok (.getfield 90, 3) := by decide +kernel
theorem dX12_broken_58 : decode cX12_broken 58 = .ok (.bipush 81, 2) := by decide +kernel
theorem dX12_broken_60 : decode cX12_broken 60 = .ok (.iload 5, 2) := by decide +kernel
theorem dX12_broken_62 : decode cX12_broken 62 = .ok (.iadd, 1) := by decide +kernel
theorem dX12_broken_63 : decode cX12_broken 63 = .ok (.iaload, 1) := by decide +kernel
theorem dX12_broken_64 : decode cX12_broken 64 = .ok (.iload_n 3, 1) := by decide +kernel
theorem dX12_broken_65 : decode cX12_broken 65 = .ok (.if_icmp .ne 7, 3) := by decide +kernel
theorem dX12_broken_68 : decode cX12_broken 68 = .ok (.iconst 1, 1) := by decide +kernel
theorem dX12_broken_69 : decode cX12_broken 69 = .ok (.goto 4, 3) := by decide +kernel
theorem dX12_broken_72 : decode cX12_broken 72 = .ok (.iconst 0, 1) := by decide +kernel
theorem dX12_broken_73 : decode cX12_broken 73 = .ok (.iadd, 1) := by decide +kernel
theorem dX12_broken_74 : decode cX12_broken 74 = .ok (.istore 4, 2) := by decide +kernel
theorem dX12_broken_76 : decode cX12_broken 76 = .ok (.iinc 5 1, 3) := by decide +kernel
theorem dX12_broken_79 : decode cX12_broken 79 = .ok (.goto (-73), 3) := by decide +kernel
theorem dX12_broken_82 : decode cX12_broken 82 = .ok (.iload 4, 2) := by decide +kernel
theorem dX12_broken_84 : decode cX12_broken 84 = .ok (.ireturn, 1) := by decide +kernel
theorem dX12_fewest_0 : decode cX12_fewest 0 = .ok (.aload_n 0, 1) := by decide +kernel
theorem dX12_fewest_1 : decode cX12_fewest 1 = .ok (.invokevirtual 338, 3) := by decide +kernel
theorem dX12_fewest_4 : decode cX12_fewest 4 = .ok (.istore_n 2, 1) := by decide +kernel
theorem dX12_fewest_5 : decode cX12_fewest 5 = .ok (.aload_n 0, 1) := by decide +kernel
theorem dX12_fewest_6 : decode cX12_fewest 6 = .ok (.getfield 108, 3) := by decide +kernel
theorem dX12_fewest_9 : decode cX12_fewest 9 = .ok (.iload_n 2, 1) := by decide +kernel
theorem dX12_fewest_10 : decode cX12_fewest 10 = .ok (.iconst 0, 1) := by decide +kernel
theorem dX12_fewest_11 : decode cX12_fewest 11 = .ok (.iastore, 1) := by decide +kernel
theorem dX12_fewest_12 : decode cX12_fewest 12 = .ok (.iload_n 2, 1) := by decide +kernel
theorem dX12_fewest_13 : decode cX12_fewest 13 = .ok (.iconst 1, 1) := by decide +kernel
theorem dX12_fewest_14 : decode cX12_fewest 14 = .ok (.isub, 1) := by decide +kernel
theorem dX12_fewest_15 : decode cX12_fewest 15 = .ok (.istore_n 3, 1) := by decide +kernel
theorem dX12_fewest_16 : decode cX12_fewest 16 = .ok (.iload_n 3, 1) := by decide +kernel
theorem dX12_fewest_17 : decode cX12_fewest 17 = .ok (.ifCond .lt 82, 3) := by decide +kernel
theorem dX12_fewest_20 : decode cX12_fewest 20 = .ok (.aload_n 0, 1) := by decide +kernel
theorem dX12_fewest_21 : decode cX12_fewest 21 = .ok (.getfield 108, 3) := by decide +kernel
theorem dX12_fewest_24 : decode cX12_fewest 24 = .ok (.iload_n 3, 1) := by decide +kernel
theorem dX12_fewest_25 : decode cX12_fewest 25 = .ok (.sipush 1000, 3) := by decide +kernel
theorem dX12_fewest_28 : decode cX12_fewest 28 = .ok (.iastore, 1) := by decide +kernel
theorem dX12_fewest_29 : decode cX12_fewest 29 = .ok (.iconst 0, 1) := by decide +kernel
theorem dX12_fewest_30 : decode cX12_fewest 30 = .ok (.istore 4, 2) := by decide +kernel
theorem dX12_fewest_32 : decode cX12_fewest 32 = .ok (.iload 4, 2) := by decide +kernel
theorem dX12_fewest_34 : decode cX12_fewest 34 = .ok (.aload_n 0, 1) := by decide +kernel
theorem dX12_fewest_35 : decode cX12_fewest 35 = .ok (.getfield 13, 3) := by decide +kernel
theorem dX12_fewest_38 : decode cX12_fewest 38 = .ok (.iconst 0, 1) := by decide +kernel
theorem dX12_fewest_39 : decode cX12_fewest 39 = .ok (.iaload, 1) := by decide +kernel
theorem dX12_fewest_40 : decode cX12_fewest 40 = .ok (.if_icmp .ge 53, 3) := by decide +kernel
theorem dX12_fewest_43 : decode cX12_fewest 43 = .ok (.iload_n 3, 1) := by decide +kernel
theorem dX12_fewest_44 : decode cX12_fewest 44 = .ok (.iload 4, 2) := by decide +kernel
theorem dX12_fewest_46 : decode cX12_fewest 46 = .ok (.ishr, 1) := by decide +kernel
theorem dX12_fewest_47 : decode cX12_fewest 47 = .ok (.iconst 1, 1) := by decide +kernel
theorem dX12_fewest_48 : decode cX12_fewest 48 = .ok (.iand, 1) := by decide +kernel
theorem dX12_fewest_49 : decode cX12_fewest 49 = .ok (.ifCond .ne 38, 3) := by decide +kernel
theorem dX12_fewest_52 : decode cX12_fewest 52 = .ok (.aload_n 0, 1) := by decide +kernel
theorem dX12_fewest_53 : decode cX12_fewest 53 = .ok (.getfield 108, 3) := by decide +kernel
theorem dX12_fewest_56 : decode cX12_fewest 56 = .ok (.iload_n 3, 1) := by decide +kernel
theorem dX12_fewest_57 : decode cX12_fewest 57 = .ok (.aload_n 0, 1) := by decide +kernel
theorem dX12_fewest_58 : decode cX12_fewest 58 = .ok (.getfield 108, 3) := by decide +kernel
theorem dX12_fewest_61 : decode cX12_fewest 61 = .ok (.iload_n 3, 1) := by decide +kernel
theorem dX12_fewest_62 : decode cX12_fewest 62 = .ok (.iaload, 1) := by decide +kernel
theorem dX12_fewest_63 : decode cX12_fewest 63 = .ok (.aload_n 0, 1) := by decide +kernel
theorem dX12_fewest_64 : decode cX12_fewest 64 = .ok (.iload 4, 2) := by decide +kernel
theorem dX12_fewest_66 : decode cX12_fewest 66 = .ok (.iload_n 3, 1) := by decide +kernel
theorem dX12_fewest_67 : decode cX12_fewest 67 = .ok (.iload_n 1, 1) := by decide +kernel
theorem dX12_fewest_68 : decode cX12_fewest 68 = .ok (.invokevirtual 353, 3) := by decide +kernel
theorem dX12_fewest_71 : decode cX12_fewest 71 = .ok (.aload_n 0, 1) := by decide +kernel
theorem dX12_fewest_72 : decode cX12_fewest 72 = .ok (.getfield 108, 3) := by decide +kernel
theorem dX12_fewest_75 : decode cX12_fewest 75 = .ok (.iload_n 3, 1) := by decide +kernel
theorem dX12_fewest_76 : decode cX12_fewest 76 = .ok (.iconst 1, 1) := by decide +kernel
theorem dX12_fewest_77 : decode cX12_fewest 77 = .ok (.iload 4, 2) := by decide +kernel
theorem dX12_fewest_79 : decode cX12_fewest 79 = .ok (.ishl, 1) := by decide +kernel
theorem dX12_fewest_80 : decode cX12_fewest 80 = .ok (.ior, 1) := by decide +kernel
theorem dX12_fewest_81 : decode cX12_fewest 81 = .ok (.iaload, 1) := by decide +kernel
theorem dX12_fewest_82 : decode cX12_fewest 82 = .ok (.iadd, 1) := by decide +kernel
theorem dX12_fewest_83 : decode cX12_fewest 83 = .ok (.invokestatic 357, 3) := by decide +kernel
theorem dX12_fewest_86 : decode cX12_fewest 86 = .ok (.iastore, 1) := by decide +kernel
theorem dX12_fewest_87 : decode cX12_fewest 87 = .ok (.iinc 4 1, 3) := by decide +kernel
theorem dX12_fewest_90 : decode cX12_fewest 90 = .ok (.goto (-58), 3) := by decide +kernel
theorem dX12_fewest_93 : decode cX12_fewest 93 = .ok (.iinc 3 (-1), 3) := by decide +kernel
theorem dX12_fewest_96 : decode cX12_fewest 96 = .ok (.goto (-80), 3) := by decide +kernel
theorem dX12_fewest_99 : decode cX12_fewest 99 = .ok (.aload_n 0, 1) := by decide +kernel
theorem dX12_fewest_100 : decode cX12_fewest 100 = .ok (.getfield 108, 3) := by decide +kernel
theorem dX12_fewest_103 : decode cX12_fewest 103 = .ok (.iconst 0, 1) := by decide +kernel
theorem dX12_fewest_104 : decode cX12_fewest 104 = .ok (.iaload, 1) := by decide +kernel
theorem dX12_fewest_105 : decode cX12_fewest 105 = .ok (.ireturn, 1) := by decide +kernel
theorem dX12_dropped_0 : decode cX12_dropped 0 = .ok (.aload_n 0, 1) := by decide +kernel
theorem dX12_dropped_1 : decode cX12_dropped 1 = .ok (.iconst 0, 1) := by decide +kernel
theorem dX12_dropped_2 : decode cX12_dropped 2 = .ok (.putfield 135, 3) := by decide +kernel
theorem dX12_dropped_5 : decode cX12_dropped 5 = .ok (.iload_n 1, 1) := by decide +kernel
theorem dX12_dropped_6 : decode cX12_dropped 6 = .ok (.iconst (-1), 1) := by decide +kernel
theorem dX12_dropped_7 : decode cX12_dropped 7 = .ok (.iconst 1, 1) := by decide +kernel
theorem dX12_dropped_8 : decode cX12_dropped 8 = .ok (.invokestatic 250, 3) := by decide +kernel
theorem dX12_dropped_11 : decode cX12_dropped 11 = .ok (.ifCond .eq 11, 3) := by decide +kernel
theorem dX12_dropped_14 : decode cX12_dropped 14 = .ok (.aload_n 0, 1) := by decide +kernel
theorem dX12_dropped_15 : decode cX12_dropped 15 = .ok (.iload_n 1, 1) := by decide +kernel
theorem dX12_dropped_16 : decode cX12_dropped 16 = .ok (.invokevirtual 363, 3) := by decide +kernel
theorem dX12_dropped_19 : decode cX12_dropped 19 = .ok (.goto 5, 3) := by decide +kernel
theorem dX12_dropped_22 : decode cX12_dropped 22 = .ok (.bipush (-2), 2) := by decide +kernel
theorem dX12_dropped_24 : decode cX12_dropped 24 = .ok (.ireturn, 1) := by decide +kernel
theorem dX12_lines_0 : decode cX12_lines 0 = .ok (.aload_n 0, 1) := by decide +kernel
theorem dX12_lines_1 : decode cX12_lines 1 = .ok (.iconst (-1), 1) := by decide +kernel
theorem dX12_lines_2 : decode cX12_lines 2 = .ok (.invokevirtual 363, 3) := by decide +kernel
theorem dX12_lines_5 : decode cX12_lines 5 = .ok (.pop, 1) := by decide +kernel
theorem dX12_lines_6 : decode cX12_lines 6 = .ok (.iconst 0, 1) := by decide +kernel
theorem dX12_lines_7 : decode cX12_lines 7 = .ok (.istore_n 1, 1) := by decide +kernel
theorem dX12_lines_8 : decode cX12_lines 8 = .ok (.iconst 0, 1) := by decide +kernel
theorem dX12_lines_9 : decode cX12_lines 9 = .ok (.istore_n 2, 1) := by decide +kernel
theorem dX12_lines_10 : decode cX12_lines 10 = .ok (.iload_n 2, 1) := by decide +kernel
theorem dX12_lines_11 : decode cX12_lines 11 = .ok (.aload_n 0, 1) := by decide +kernel
theorem dX12_lines_12 : decode cX12_lines 12 = .ok (.getfield 13, 3) := by decide +kernel
theorem dX12_lines_15 : decode cX12_lines 15 = .ok (.iconst 0, 1) := by decide +kernel
theorem dX12_lines_16 : decode cX12_lines 16 = .ok (.iaload, 1) := by decide +kernel
theorem dX12_lines_17 : decode cX12_lines 17 = .ok (.if_icmp .ge 66, 3) := by decide +kernel
theorem dX12_lines_20 : decode cX12_lines 20 = .ok (.iconst 0, 1) := by decide +kernel
theorem dX12_lines_21 : decode cX12_lines 21 = .ok (.istore_n 3, 1) := by decide +kernel
theorem dX12_lines_22 : decode cX12_lines 22 = .ok (.iload_n 1, 1) := by decide +kernel
theorem dX12_lines_23 : decode cX12_lines 23 = .ok (.iload_n 3, 1) := by decide +kernel
theorem dX12_lines_24 : decode cX12_lines 24 = .ok (.ishr, 1) := by decide +kernel
theorem dX12_lines_25 : decode cX12_lines 25 = .ok (.iconst 1, 1) := by decide +kernel
theorem dX12_lines_26 : decode cX12_lines 26 = .ok (.iand, 1) := by decide +kernel
theorem dX12_lines_27 : decode cX12_lines 27 = .ok (.iconst 1, 1) := by decide +kernel
theorem dX12_lines_28 : decode cX12_lines 28 = .ok (.if_icmp .eq 30, 3) := by decide +kernel
theorem dX12_lines_31 : decode cX12_lines 31 = .ok (.aload_n 0, 1) := by decide +kernel
theorem dX12_lines_32 : decode cX12_lines 32 = .ok (.iload_n 3, 1) := by decide +kernel
theorem dX12_lines_33 : decode cX12_lines 33 = .ok (.iload_n 1, 1) := by decide +kernel
theorem dX12_lines_34 : decode cX12_lines 34 = .ok (.iconst (-1), 1) := by decide +kernel
theorem dX12_lines_35 : decode cX12_lines 35 = .ok (.invokevirtual 353, 3) := by decide +kernel
theorem dX12_lines_38 : decode cX12_lines 38 = .ok (.aload_n 0, 1) := by decide +kernel
theorem dX12_lines_39 : decode cX12_lines 39 = .ok (.getfield 108, 3) := by decide +kernel
theorem dX12_lines_42 : decode cX12_lines 42 = .ok (.iload_n 1, 1) := by decide +kernel
theorem dX12_lines_43 : decode cX12_lines 43 = .ok (.iconst 1, 1) := by decide +kernel
theorem dX12_lines_44 : decode cX12_lines 44 = .ok (.iload_n 3, 1) := by decide +kernel
theorem dX12_lines_45 : decode cX12_lines 45 = .ok (.ishl, 1) := by decide +kernel
theorem dX12_lines_46 : decode cX12_lines 46 = .ok (.ior, 1) := by decide +kernel
theorem dX12_lines_47 : decode cX12_lines 47 = .ok (.iaload, 1) := by decide +kernel
theorem dX12_lines_48 : decode cX12_lines 48 = .ok (.iadd, 1) := by decide +kernel
theorem dX12_lines_49 : decode cX12_lines 49 = .ok (.aload_n 0, 1) := by decide +kernel
theorem dX12_lines_50 : decode cX12_lines 50 = .ok (.getfield 108, 3) := by decide +kernel
theorem dX12_lines_53 : decode cX12_lines 53 = .ok (.iload_n 1, 1) := by decide +kernel
theorem dX12_lines_54 : decode cX12_lines 54 = .ok (.iaload, 1) := by decide +kernel
theorem dX12_lines_55 : decode cX12_lines 55 = .ok (.if_icmp .eq 9, 3) := by decide +kernel
theorem dX12_lines_58 : decode cX12_lines 58 = .ok (.iinc 3 1, 3) := by decide +kernel
theorem dX12_lines_61 : decode cX12_lines 61 = .ok (.goto (-39), 3) := by decide +kernel
theorem dX12_lines_64 : decode cX12_lines 64 = .ok (.aload_n 0, 1) := by decide +kernel
theorem dX12_lines_65 : decode cX12_lines 65 = .ok (.getfield 111, 3) := by decide +kernel
theorem dX12_lines_68 : decode cX12_lines 68 = .ok (.iload_n 2, 1) := by decide +kernel
theorem dX12_lines_69 : decode cX12_lines 69 = .ok (.iload_n 3, 1) := by decide +kernel
theorem dX12_lines_70 : decode cX12_lines 70 = .ok (.iastore, 1) := by decide +kernel
theorem dX12_lines_71 : decode cX12_lines 71 = .ok (.iload_n 1, 1) := by decide +kernel
theorem dX12_lines_72 : decode cX12_lines 72 = .ok (.iconst 1, 1) := by decide +kernel
theorem dX12_lines_73 : decode cX12_lines 73 = .ok (.iload_n 3, 1) := by decide +kernel
theorem dX12_lines_74 : decode cX12_lines 74 = .ok (.ishl, 1) := by decide +kernel
theorem dX12_lines_75 : decode cX12_lines 75 = .ok (.ior, 1) := by decide +kernel
theorem dX12_lines_76 : decode cX12_lines 76 = .ok (.istore_n 1, 1) := by decide +kernel
theorem dX12_lines_77 : decode cX12_lines 77 = .ok (.iinc 2 1, 3) := by decide +kernel
theorem dX12_lines_80 : decode cX12_lines 80 = .ok (.goto (-70), 3) := by decide +kernel
theorem dX12_lines_83 : decode cX12_lines 83 = .ok (.return_, 1) := by decide +kernel
theorem dX12_row_0 : decode cX12_row 0 = .ok (.aload_n 0, 1) := by decide +kernel
theorem dX12_row_1 : decode cX12_row 1 = .ok (.iconst 0, 1) := by decide +kernel
theorem dX12_row_2 : decode cX12_row 2 = .ok (.putfield 135, 3) := by decide +kernel
theorem dX12_row_5 : decode cX12_row 5 = .ok (.aload_n 0, 1) := by decide +kernel
theorem dX12_row_6 : decode cX12_row 6 = .ok (.iload_n 1, 1) := by decide +kernel
theorem dX12_row_7 : decode cX12_row 7 = .ok (.invokevirtual 329, 3) := by decide +kernel
theorem dX12_row_10 : decode cX12_row 10 = .ok (.ifCond .ne 5, 3) := by decide +kernel
theorem dX12_row_13 : decode cX12_row 13 = .ok (.iconst (-1), 1) := by decide +kernel
theorem dX12_row_14 : decode cX12_row 14 = .ok (.ireturn, 1) := by decide +kernel
theorem dX12_row_15 : decode cX12_row 15 = .ok (.aload_n 0, 1) := by decide +kernel
theorem dX12_row_16 : decode cX12_row 16 = .ok (.invokevirtual 366, 3) := by decide +kernel
theorem dX12_row_19 : decode cX12_row 19 = .ok (.aload_n 0, 1) := by decide +kernel
theorem dX12_row_20 : decode cX12_row 20 = .ok (.getfield 111, 3) := by decide +kernel
theorem dX12_row_23 : decode cX12_row 23 = .ok (.iload_n 1, 1) := by decide +kernel
theorem dX12_row_24 : decode cX12_row 24 = .ok (.iaload, 1) := by decide +kernel
theorem dX12_row_25 : decode cX12_row 25 = .ok (.ireturn, 1) := by decide +kernel
theorem dX12_helped_0 : decode cX12_helped 0 = .ok (.aload_n 0, 1) := by decide +kernel
theorem dX12_helped_1 : decode cX12_helped 1 = .ok (.iconst 0, 1) := by decide +kernel
theorem dX12_helped_2 : decode cX12_helped 2 = .ok (.putfield 135, 3) := by decide +kernel
theorem dX12_helped_5 : decode cX12_helped 5 = .ok (.aload_n 0, 1) := by decide +kernel
theorem dX12_helped_6 : decode cX12_helped 6 = .ok (.invokevirtual 344, 3) := by decide +kernel
theorem dX12_helped_9 : decode cX12_helped 9 = .ok (.ifCond .le 5, 3) := by decide +kernel
theorem dX12_helped_12 : decode cX12_helped 12 = .ok (.iconst 0, 1) := by decide +kernel
theorem dX12_helped_13 : decode cX12_helped 13 = .ok (.ireturn, 1) := by decide +kernel
theorem dX12_helped_14 : decode cX12_helped 14 = .ok (.iconst 0, 1) := by decide +kernel
theorem dX12_helped_15 : decode cX12_helped 15 = .ok (.istore_n 1, 1) := by decide +kernel
theorem dX12_helped_16 : decode cX12_helped 16 = .ok (.iconst 0, 1) := by decide +kernel
theorem dX12_helped_17 : decode cX12_helped 17 = .ok (.istore_n 2, 1) := by decide +kernel
theorem dX12_helped_18 : decode cX12_helped 18 = .ok (.iload_n 2, 1) := by decide +kernel
theorem dX12_helped_19 : decode cX12_helped 19 = .ok (.aload_n 0, 1) := by decide +kernel
theorem dX12_helped_20 : decode cX12_helped 20 = .ok (.getfield 13, 3) := by decide +kernel
theorem dX12_helped_23 : decode cX12_helped 23 = .ok (.iconst 0, 1) := by decide +kernel
theorem dX12_helped_24 : decode cX12_helped 24 = .ok (.iaload, 1) := by decide +kernel
theorem dX12_helped_25 : decode cX12_helped 25 = .ok (.if_icmp .ge 35, 3) := by decide +kernel
theorem dX12_helped_28 : decode cX12_helped 28 = .ok (.aload_n 0, 1) := by decide +kernel
theorem dX12_helped_29 : decode cX12_helped 29 = .ok (.iload_n 2, 1) := by decide +kernel
theorem dX12_helped_30 : decode cX12_helped 30 = .ok (.invokevirtual 335, 3) := by decide +kernel
theorem dX12_helped_33 : decode cX12_helped 33 = .ok (.iload_n 1, 1) := by decide +kernel
theorem dX12_helped_34 : decode cX12_helped 34 = .ok (.aload_n 0, 1) := by decide +kernel
theorem dX12_helped_35 : decode cX12_helped 35 = .ok (.aload_n 0, 1) := by decide +kernel
theorem dX12_helped_36 : decode cX12_helped 36 = .ok (.invokevirtual 338, 3) := by decide +kernel
theorem dX12_helped_39 : decode cX12_helped 39 = .ok (.invokevirtual 341, 3) := by decide +kernel
theorem dX12_helped_42 : decode cX12_helped 42 = .ok (.ifCond .le 9, 3) := by decide +kernel
theorem dX12_helped_45 : decode cX12_helped 45 = .ok (.iconst 1, 1) := by decide +kernel
theorem dX12_helped_46 : decode cX12_helped 46 = .ok (.iload_n 2, 1) := by decide +kernel
theorem dX12_helped_47 : decode cX12_helped 47 = .ok (.ishl, 1) := by decide +kernel
theorem dX12_helped_48 : decode cX12_helped 48 = .ok (.goto 4, 3) := by decide +kernel
theorem dX12_helped_51 : decode cX12_helped 51 = .ok (.iconst 0, 1) := by decide +kernel
theorem dX12_helped_52 : decode cX12_helped 52 = .ok (.ior, 1) := by decide +kernel
theorem dX12_helped_53 : decode cX12_helped 53 = .ok (.istore_n 1, 1) := by decide +kernel
theorem dX12_helped_54 : decode cX12_helped 54 = .ok (.iinc 2 1, 3) := by decide +kernel
theorem dX12_helped_57 : decode cX12_helped 57 = .ok (.goto (-39), 3) := by decide +kernel
theorem dX12_helped_60 : decode cX12_helped 60 = .ok (.iload_n 1, 1) := by decide +kernel
theorem dX12_helped_61 : decode cX12_helped 61 = .ok (.ireturn, 1) := by decide +kernel
theorem dX12_says_0 : decode cX12_says 0 = .ok (.iconst 0, 1) := by decide +kernel
theorem dX12_says_1 : decode cX12_says 1 = .ok (.istore 4, 2) := by decide +kernel
theorem dX12_says_3 : decode cX12_says 3 = .ok (.iload 4, 2) := by decide +kernel
theorem dX12_says_5 : decode cX12_says 5 = .ok (.aload_n 0, 1) := by decide +kernel
theorem dX12_says_6 : decode cX12_says 6 = .ok (.getfield 90, 3) := by decide +kernel
theorem dX12_says_9 : decode cX12_says 9 = .ok (.iconst 0, 1) := by decide +kernel
theorem dX12_says_10 : decode cX12_says 10 = .ok (.iaload, 1) := by decide +kernel
theorem dX12_says_11 : decode cX12_says 11 = .ok (.if_icmp .ge 52, 3) := by decide +kernel
theorem dX12_says_14 : decode cX12_says 14 = .ok (.aload_n 0, 1) := by decide +kernel
theorem dX12_says_15 : decode cX12_says 15 = .ok (.getfield 90, 3) := by decide +kernel
theorem dX12_says_18 : decode cX12_says 18 = .ok (.bipush 81, 2) := by decide +kernel
theorem dX12_says_20 : decode cX12_says 20 = .ok (.iload 4, 2) := by decide +kernel
theorem dX12_says_22 : decode cX12_says 22 = .ok (.iadd, 1) := by decide +kernel
theorem dX12_says_23 : decode cX12_says 23 = .ok (.iaload, 1) := by decide +kernel
theorem dX12_says_24 : decode cX12_says 24 = .ok (.iload_n 1, 1) := by decide +kernel
theorem dX12_says_25 : decode cX12_says 25 = .ok (.if_icmp .ne 32, 3) := by decide +kernel
theorem dX12_says_28 : decode cX12_says 28 = .ok (.aload_n 0, 1) := by decide +kernel
theorem dX12_says_29 : decode cX12_says 29 = .ok (.getfield 90, 3) := by decide +kernel
theorem dX12_says_32 : decode cX12_says 32 = .ok (.iconst 1, 1) := by decide +kernel
theorem dX12_says_33 : decode cX12_says 33 = .ok (.iload 4, 2) := by decide +kernel
theorem dX12_says_35 : decode cX12_says 35 = .ok (.iadd, 1) := by decide +kernel
theorem dX12_says_36 : decode cX12_says 36 = .ok (.iaload, 1) := by decide +kernel
theorem dX12_says_37 : decode cX12_says 37 = .ok (.iload_n 2, 1) := by decide +kernel
theorem dX12_says_38 : decode cX12_says 38 = .ok (.if_icmp .ne 19, 3) := by decide +kernel
theorem dX12_says_41 : decode cX12_says 41 = .ok (.aload_n 0, 1) := by decide +kernel
theorem dX12_says_42 : decode cX12_says 42 = .ok (.getfield 90, 3) := by decide +kernel
theorem dX12_says_45 : decode cX12_says 45 = .ok (.bipush 41, 2) := by decide +kernel
theorem dX12_says_47 : decode cX12_says 47 = .ok (.iload 4, 2) := by decide +kernel
theorem dX12_says_49 : decode cX12_says 49 = .ok (.iadd, 1) := by decide +kernel
theorem dX12_says_50 : decode cX12_says 50 = .ok (.iaload, 1) := by decide +kernel
theorem dX12_says_51 : decode cX12_says 51 = .ok (.iload_n 3, 1) := by decide +kernel
theorem dX12_says_52 : decode cX12_says 52 = .ok (.if_icmp .ne 5, 3) := by decide +kernel
theorem dX12_says_55 : decode cX12_says 55 = .ok (.iconst 1, 1) := by decide +kernel
theorem dX12_says_56 : decode cX12_says 56 = .ok (.ireturn, 1) := by decide +kernel
theorem dX12_says_57 : decode cX12_says 57 = .ok (.iinc 4 1, 3) := by decide +kernel
theorem dX12_says_60 : decode cX12_says 60 = .ok (.goto (-57), 3) := by decide +kernel
theorem dX12_says_63 : decode cX12_says 63 = .ok (.iconst 0, 1) := by decide +kernel
theorem dX12_says_64 : decode cX12_says 64 = .ok (.ireturn, 1) := by decide +kernel
theorem dX12_unlike_0 : decode cX12_unlike 0 = .ok (.aload_n 0, 1) := by decide +kernel
theorem dX12_unlike_1 : decode cX12_unlike 1 = .ok (.iconst 0, 1) := by decide +kernel
theorem dX12_unlike_2 : decode cX12_unlike 2 = .ok (.putfield 135, 3) := by decide +kernel
theorem dX12_unlike_5 : decode cX12_unlike 5 = .ok (.iconst 0, 1) := by decide +kernel
theorem dX12_unlike_6 : decode cX12_unlike 6 = .ok (.istore_n 1, 1) := by decide +kernel
theorem dX12_unlike_7 : decode cX12_unlike 7 = .ok (.iconst 0, 1) := by decide +kernel
theorem dX12_unlike_8 : decode cX12_unlike 8 = .ok (.istore_n 2, 1) := by decide +kernel
theorem dX12_unlike_9 : decode cX12_unlike 9 = .ok (.iload_n 2, 1) := by decide +kernel
theorem dX12_unlike_10 : decode cX12_unlike 10 = .ok (.aload_n 0, 1) := by decide +kernel
theorem dX12_unlike_11 : decode cX12_unlike 11 = .ok (.getfield 13, 3) := by decide +kernel
theorem dX12_unlike_14 : decode cX12_unlike 14 = .ok (.iconst 0, 1) := by decide +kernel
theorem dX12_unlike_15 : decode cX12_unlike 15 = .ok (.iaload, 1) := by decide +kernel
theorem dX12_unlike_16 : decode cX12_unlike 16 = .ok (.if_icmp .ge 77, 3) := by decide +kernel
theorem dX12_unlike_19 : decode cX12_unlike 19 = .ok (.iload_n 2, 1) := by decide +kernel
theorem dX12_unlike_20 : decode cX12_unlike 20 = .ok (.iconst 1, 1) := by decide +kernel
theorem dX12_unlike_21 : decode cX12_unlike 21 = .ok (.iadd, 1) := by decide +kernel
theorem dX12_unlike_22 : decode cX12_unlike 22 = .ok (.istore_n 3, 1) := by decide +kernel
theorem dX12_unlike_23 : decode cX12_unlike 23 = .ok (.iload_n 3, 1) := by decide +kernel
theorem dX12_unlike_24 : decode cX12_unlike 24 = .ok (.aload_n 0, 1) := by decide +kernel
theorem dX12_unlike_25 : decode cX12_unlike 25 = .ok (.getfield 13, 3) := by decide +kernel
theorem dX12_unlike_28 : decode cX12_unlike 28 = .ok (.iconst 0, 1) := by decide +kernel
theorem dX12_unlike_29 : decode cX12_unlike 29 = .ok (.iaload, 1) := by decide +kernel
theorem dX12_unlike_30 : decode cX12_unlike 30 = .ok (.if_icmp .ge 57, 3) := by decide +kernel
theorem dX12_unlike_33 : decode cX12_unlike 33 = .ok (.iload_n 1, 1) := by decide +kernel
theorem dX12_unlike_34 : decode cX12_unlike 34 = .ok (.aload_n 0, 1) := by decide +kernel
theorem dX12_unlike_35 : decode cX12_unlike 35 = .ok (.iconst 0, 1) := by decide +kernel
theorem dX12_unlike_36 : decode cX12_unlike 36 = .ok (.iload_n 2, 1) := by decide +kernel
theorem dX12_unlike_37 : decode cX12_unlike 37 = .ok (.iload_n 3, 1) := by decide +kernel
theorem dX12_unlike_38 : decode cX12_unlike 38 = .ok (.invokevirtual 369, 3) := by decide +kernel
theorem dX12_unlike_41 : decode cX12_unlike 41 = .ok (.ifCond .eq 13, 3) := by decide +kernel
theorem dX12_unlike_44 : decode cX12_unlike 44 = .ok (.aload_n 0, 1) := by decide +kernel
theorem dX12_unlike_45 : decode cX12_unlike 45 = .ok (.iconst 1, 1) := by decide +kernel
theorem dX12_unlike_46 : decode cX12_unlike 46 = .ok (.iload_n 3, 1) := by decide +kernel
theorem dX12_unlike_47 : decode cX12_unlike 47 = .ok (.iload_n 2, 1) := by decide +kernel
theorem dX12_unlike_48 : decode cX12_unlike 48 = .ok (.invokevirtual 369, 3) := by decide +kernel
theorem dX12_unlike_51 : decode cX12_unlike 51 = .ok (.ifCond .ne 23, 3) := by decide +kernel
theorem dX12_unlike_54 : decode cX12_unlike 54 = .ok (.aload_n 0, 1) := by decide +kernel
theorem dX12_unlike_55 : decode cX12_unlike 55 = .ok (.iconst 0, 1) := by decide +kernel
theorem dX12_unlike_56 : decode cX12_unlike 56 = .ok (.iload_n 3, 1) := by decide +kernel
theorem dX12_unlike_57 : decode cX12_unlike 57 = .ok (.iload_n 2, 1) := by decide +kernel
theorem dX12_unlike_58 : decode cX12_unlike 58 = .ok (.invokevirtual 369, 3) := by decide +kernel
theorem dX12_unlike_61 : decode cX12_unlike 61 = .ok (.ifCond .eq 17, 3) := by decide +kernel
theorem dX12_unlike_64 : decode cX12_unlike 64 = .ok (.aload_n 0, 1) := by decide +kernel
theorem dX12_unlike_65 : decode cX12_unlike 65 = .ok (.iconst 1, 1) := by decide +kernel
theorem dX12_unlike_66 : decode cX12_unlike 66 = .ok (.iload_n 2, 1) := by decide +kernel
theorem dX12_unlike_67 : decode cX12_unlike 67 = .ok (.iload_n 3, 1) := by decide +kernel
theorem dX12_unlike_68 : decode cX12_unlike 68 = .ok (.invokevirtual 369, 3) := by decide +kernel
theorem dX12_unlike_71 : decode cX12_unlike 71 = .ok (.ifCond .eq 7, 3) := by decide +kernel
theorem dX12_unlike_74 : decode cX12_unlike 74 = .ok (.iconst 1, 1) := by decide +kernel
theorem dX12_unlike_75 : decode cX12_unlike 75 = .ok (.goto 4, 3) := by decide +kernel
theorem dX12_unlike_78 : decode cX12_unlike 78 = .ok (.iconst 0, 1) := by decide +kernel
theorem dX12_unlike_79 : decode cX12_unlike 79 = .ok (.iadd, 1) := by decide +kernel
theorem dX12_unlike_80 : decode cX12_unlike 80 = .ok (.istore_n 1, 1) := by decide +kernel
theorem dX12_unlike_81 : decode cX12_unlike 81 = .ok (.iinc 3 1, 3) := by decide +kernel
theorem dX12_unlike_84 : decode cX12_unlike 84 = .ok (.goto (-61), 3) := by decide +kernel
theorem dX12_unlike_87 : decode cX12_unlike 87 = .ok (.iinc 2 1, 3) := by decide +kernel
theorem dX12_unlike_90 : decode cX12_unlike 90 = .ok (.goto (-81), 3) := by decide +kernel
theorem dX12_unlike_93 : decode cX12_unlike 93 = .ok (.iload_n 1, 1) := by decide +kernel
theorem dX12_unlike_94 : decode cX12_unlike 94 = .ok (.ireturn, 1) := by decide +kernel
theorem dX12_partOf_0 : decode cX12_partOf 0 = .ok (.lconst 1, 1) := by decide +kernel
theorem dX12_partOf_1 : decode cX12_partOf 1 = .ok (.lstore_n 3, 1) := by decide +kernel
theorem dX12_partOf_2 : decode cX12_partOf 2 = .ok (.iconst 0, 1) := by decide +kernel
theorem dX12_partOf_3 : decode cX12_partOf 3 = .ok (.istore 5, 2) := by decide +kernel
theorem dX12_partOf_5 : decode cX12_partOf 5 = .ok (.iload 5, 2) := by decide +kernel
theorem dX12_partOf_7 : decode cX12_partOf 7 = .ok (.aload_n 0, 1) := by decide +kernel
theorem dX12_partOf_8 : decode cX12_partOf 8 = .ok (.getfield 90, 3) := by decide +kernel
theorem dX12_partOf_11 : decode cX12_partOf 11 = .ok (.iconst 0, 1) := by decide +kernel
theorem dX12_partOf_12 : decode cX12_partOf 12 = .ok (.iaload, 1) := by decide +kernel
theorem dX12_partOf_13 : decode cX12_partOf 13 = .ok (.if_icmp .ge 87, 3) := by decide +kernel
theorem dX12_partOf_16 : decode cX12_partOf 16 = .ok (.aload_n 0, 1) := by decide +kernel
theorem dX12_partOf_17 : decode cX12_partOf 17 = .ok (.getfield 90, 3) := by decide +kernel
theorem dX12_partOf_20 : decode cX12_partOf 20 = .ok (.iconst 1, 1) := by decide +kernel
theorem dX12_partOf_21 : decode cX12_partOf 21 = .ok (.iload 5, 2) := by decide +kernel
theorem dX12_partOf_23 : decode cX12_partOf 23 = .ok (.iadd, 1) := by decide +kernel
theorem dX12_partOf_24 : decode cX12_partOf 24 = .ok (.iaload, 1) := by decide +kernel
theorem dX12_partOf_25 : decode cX12_partOf 25 = .ok (.iload_n 1, 1) := by decide +kernel
theorem dX12_partOf_26 : decode cX12_partOf 26 = .ok (.if_icmp .eq 6, 3) := by decide +kernel
theorem dX12_partOf_29 : decode cX12_partOf 29 = .ok (.goto 65, 3) := by decide +kernel
theorem dX12_partOf_32 : decode cX12_partOf 32 = .ok (.aload_n 0, 1) := by decide +kernel
theorem dX12_partOf_33 : decode cX12_partOf 33 = .ok (.getfield 26, 3) := by decide +kernel
theorem dX12_partOf_36 : decode cX12_partOf 36 = .ok (.iload_n 1, 1) := by decide +kernel
theorem dX12_partOf_37 : decode cX12_partOf 37 = .ok (.iaload, 1) := by decide +kernel
theorem dX12_partOf_38 : decode cX12_partOf 38 = .ok (.iconst 3, 1) := by decide +kernel
theorem dX12_partOf_39 : decode cX12_partOf 39 = .ok (.if_icmp .ne 14, 3) := by decide +kernel
theorem dX12_partOf_42 : decode cX12_partOf 42 = .ok (.iconst 2, 1) := by decide +kernel
theorem dX12_partOf_43 : decode cX12_partOf 43 = .ok (.aload_n 0, 1) := by decide +kernel
theorem dX12_partOf_44 : decode cX12_partOf 44 = .ok (.getfield 19, 3) := by decide +kernel
theorem dX12_partOf_47 : decode cX12_partOf 47 = .ok (.iconst 0, 1) := by decide +kernel
theorem dX12_partOf_48 : decode cX12_partOf 48 = .ok (.iaload, 1) := by decide +kernel
theorem dX12_partOf_49 : decode cX12_partOf 49 = .ok (.imul, 1) := by decide +kernel
theorem dX12_partOf_50 : decode cX12_partOf 50 = .ok (.goto 9, 3) := by decide +kernel
theorem dX12_partOf_53 : decode cX12_partOf 53 = .ok (.aload_n 0, 1) := by decide +kernel
theorem dX12_partOf_54 : decode cX12_partOf 54 = .ok (.getfield 19, 3) := by decide +kernel
theorem dX12_partOf_57 : decode cX12_partOf 57 = .ok (.iconst 0, 1) := by decide +kernel
theorem dX12_partOf_58 : decode cX12_partOf 58 = .ok (.iaload, 1) := by decide +kernel
theorem dX12_partOf_59 : decode cX12_partOf 59 = .ok (.istore 6, 2) := by decide +kernel
theorem dX12_partOf_61 : decode cX12_partOf 61 = .ok (.lload_n 3, 1) := by decide +kernel
theorem dX12_partOf_62 : decode cX12_partOf 62 = .ok (.iload_n 2, 1) := by decide +kernel
theorem dX12_partOf_63 : decode cX12_partOf 63 = .ok (.aload_n 0, 1) := by decide +kernel
theorem dX12_partOf_64 : decode cX12_partOf 64 = .ok (.getfield 90, 3) := by decide +kernel
theorem dX12_partOf_67 : decode cX12_partOf 67 = .ok (.bipush 41, 2) := by decide +kernel
theorem dX12_partOf_69 : decode cX12_partOf 69 = .ok (.iload 5, 2) := by decide +kernel
theorem dX12_partOf_71 : decode cX12_partOf 71 = .ok (.iadd, 1) := by decide +kernel
theorem dX12_partOf_72 : decode cX12_partOf 72 = .ok (.iaload, 1) := by decide +kernel
theorem dX12_partOf_73 : decode cX12_partOf 73 = .ok (.ishr, 1) := by decide +kernel
theorem dX12_partOf_74 : decode cX12_partOf 74 = .ok (.iconst 1, 1) := by decide +kernel
theorem dX12_partOf_75 : decode cX12_partOf 75 = .ok (.iand, 1) := by decide +kernel
theorem dX12_partOf_76 : decode cX12_partOf 76 = .ok (.iconst 1, 1) := by decide +kernel
theorem dX12_partOf_77 : decode cX12_partOf 77 = .ok (.if_icmp .ne 9, 3) := by decide +kernel
theorem dX12_partOf_80 : decode cX12_partOf 80 = .ok (.iload 6, 2) := by decide +kernel
theorem dX12_partOf_82 : decode cX12_partOf 82 = .ok (.i2l, 1) := by decide +kernel
theorem dX12_partOf_83 : decode cX12_partOf 83 = .ok (.goto 9, 3) := by decide +kernel
theorem dX12_partOf_86 : decode cX12_partOf 86 = .ok (.bipush 8, 2) := by decide +kernel
theorem dX12_partOf_88 : decode cX12_partOf 88 = .ok (.iload 6, 2) := by decide +kernel
theorem dX12_partOf_90 : decode cX12_partOf 90 = .ok (.isub, 1) := by decide +kernel
theorem dX12_partOf_91 : decode cX12_partOf 91 = .ok (.i2l, 1) := by decide +kernel
theorem dX12_partOf_92 : decode cX12_partOf 92 = .ok (.lmul, 1) := by decide +kernel
theorem dX12_partOf_93 : decode cX12_partOf 93 = .ok (.lstore_n 3, 1) := by decide +kernel
theorem dX12_partOf_94 : decode cX12_partOf 94 = .ok (.iinc 5 1, 3) := by decide +kernel
theorem dX12_partOf_97 : decode cX12_partOf 97 = .ok (.goto (-92), 3) := by decide +kernel
theorem dX12_partOf_100 : decode cX12_partOf 100 = .ok (.lload_n 3, 1) := by decide +kernel
theorem dX12_partOf_101 : decode cX12_partOf 101 = .ok (.lreturn, 1) := by decide +kernel
theorem dX12_weighing_0 : decode cX12_weighing 0 = .ok (.aload_n 0, 1) := by decide +kernel
theorem dX12_weighing_1 : decode cX12_weighing 1 = .ok (.getfield 114, 3) := by decide +kernel
theorem dX12_weighing_4 : decode cX12_weighing 4 = .ok (.iconst 0, 1) := by decide +kernel
theorem dX12_weighing_5 : decode cX12_weighing 5 = .ok (.lconst 1, 1) := by decide +kernel
theorem dX12_weighing_6 : decode cX12_weighing 6 = .ok (.lastore, 1) := by decide +kernel
theorem dX12_weighing_7 : decode cX12_weighing 7 = .ok (.aload_n 0, 1) := by decide +kernel
theorem dX12_weighing_8 : decode cX12_weighing 8 = .ok (.invokevirtual 338, 3) := by decide +kernel
theorem dX12_weighing_11 : decode cX12_weighing 11 = .ok (.istore_n 3, 1) := by decide +kernel
theorem dX12_weighing_12 : decode cX12_weighing 12 = .ok (.iconst 1, 1) := by decide +kernel
theorem dX12_weighing_13 : decode cX12_weighing 13 = .ok (.istore 4, 2) := by decide +kernel
theorem dX12_weighing_15 : decode cX12_weighing 15 = .ok (.iload 4, 2) := by decide +kernel
theorem dX12_weighing_17 : decode cX12_weighing 17 = .ok (.iload_n 3, 1) := by decide +kernel
theorem dX12_weighing_18 : decode cX12_weighing 18 = .ok (.if_icmp .gt 17, 3) := by decide +kernel
theorem dX12_weighing_21 : decode cX12_weighing 21 = .ok (.aload_n 0, 1) := by decide +kernel
theorem dX12_weighing_22 : decode cX12_weighing 22 = .ok (.getfield 114, 3) := by decide +kernel
theorem dX12_weighing_25 : decode cX12_weighing 25 = .ok (.iload 4, 2) := by decide +kernel
theorem dX12_weighing_27 : decode cX12_weighing 27 = .ok (.lconst 0, 1) := by decide +kernel
theorem dX12_weighing_28 : decode cX12_weighing 28 = .ok (.lastore, 1) := by decide +kernel
theorem dX12_weighing_29 : decode cX12_weighing 29 = .ok (.iinc 4 1, 3) := by decide +kernel
theorem dX12_weighing_32 : decode cX12_weighing 32 = .ok (.goto (-17), 3) := by decide +kernel
theorem dX12_weighing_35 : decode cX12_weighing 35 = .ok (.iconst 0, 1) := by decide +kernel
theorem dX12_weighing_36 : decode cX12_weighing 36 = .ok (.istore 4, 2) := by decide +kernel
theorem dX12_weighing_38 : decode cX12_weighing 38 = .ok (.iload 4, 2) := by decide +kernel
theorem dX12_weighing_40 : decode cX12_weighing 40 = .ok (.iload_n 3, 1) := by decide +kernel
theorem dX12_weighing_41 : decode cX12_weighing 41 = .ok (.if_icmp .ge 89, 3) := by decide +kernel
theorem dX12_weighing_44 : decode cX12_weighing 44 = .ok (.iconst 0, 1) := by decide +kernel
theorem dX12_weighing_45 : decode cX12_weighing 45 = .ok (.istore 5, 2) := by decide +kernel
