theorem dX7_compare_80 : decode cX7_compare 80 = .ok (.getfield 22, 3) := by decide +kernel
theorem dX7_compare_83 : decode cX7_compare 83 = .ok (.iload_n 1, 1) := by decide +kernel
theorem dX7_compare_84 : decode cX7_compare 84 = .ok (.iconst 1, 1) := by decide +kernel
theorem dX7_compare_85 : decode cX7_compare 85 = .ok (.iload_n 2, 1) := by decide +kernel
theorem dX7_compare_86 : decode cX7_compare 86 = .ok (.ishl, 1) := by decide +kernel
theorem dX7_compare_87 : decode cX7_compare 87 = .ok (.ior, 1) := by decide +kernel
theorem dX7_compare_88 : decode cX7_compare 88 = .ok (.laload, 1) := by decide +kernel
theorem dX7_compare_89 : decode cX7_compare 89 = .ok (.lmul, 1) := by decide +kernel
theorem dX7_compare_90 : decode cX7_compare 90 = .ok (.lstore_n 3, 1) := by decide +kernel
theorem dX7_compare_91 : decode cX7_compare 91 = .ok (.aload_n 0, 1) := by decide +kernel
theorem dX7_compare_92 : decode cX7_compare 92 = .ok (.getfield 22, 3) := by decide +kernel
theorem dX7_compare_95 : decode cX7_compare 95 = .ok (.iload_n 1, 1) := by decide +kernel
theorem dX7_compare_96 : decode cX7_compare 96 = .ok (.dup2, 1) := by decide +kernel
theorem dX7_compare_97 : decode cX7_compare 97 = .ok (.laload, 1) := by decide +kernel
theorem dX7_compare_98 : decode cX7_compare 98 = .ok (.lload_n 3, 1) := by decide +kernel
theorem dX7_compare_99 : decode cX7_compare 99 = .ok (.ladd, 1) := by decide +kernel
theorem dX7_compare_100 : decode cX7_compare 100 = .ok (.lastore, 1) := by decide +kernel
theorem dX7_compare_101 : decode cX7_compare 101 = .ok (.aload_n 0, 1) := by decide +kernel
theorem dX7_compare_102 : decode cX7_compare 102 = .ok (.iload_n 1, 1) := by decide +kernel
theorem dX7_compare_103 : decode cX7_compare 103 = .ok (.iload_n 2, 1) := by decide +kernel
theorem dX7_compare_104 : decode cX7_compare 104 = .ok (.aload_n 0, 1) := by decide +kernel
theorem dX7_compare_105 : decode cX7_compare 105 = .ok (.getfield 19, 3) := by decide +kernel
theorem dX7_compare_108 : decode cX7_compare 108 = .ok (.iload_n 1, 1) := by decide +kernel
theorem dX7_compare_109 : decode cX7_compare 109 = .ok (.laload, 1) := by decide +kernel
theorem dX7_compare_110 : decode cX7_compare 110 = .ok (.lload_n 3, 1) := by decide +kernel
theorem dX7_compare_111 : decode cX7_compare 111 = .ok (.lmul, 1) := by decide +kernel
theorem dX7_compare_112 : decode cX7_compare 112 = .ok (.invokevirtual 71, 3) := by decide +kernel
theorem dX7_compare_115 : decode cX7_compare 115 = .ok (.iinc 2 1, 3) := by decide +kernel
theorem dX7_compare_118 : decode cX7_compare 118 = .ok (.goto (-72), 3) := by decide +kernel
theorem dX7_compare_121 : decode cX7_compare 121 = .ok (.iinc 1 (-1), 3) := by decide +kernel
theorem dX7_compare_124 : decode cX7_compare 124 = .ok (.goto (-91), 3) := by decide +kernel
theorem dX7_compare_127 : decode cX7_compare 127 = .ok (.aload_n 0, 1) := by decide +kernel
theorem dX7_compare_128 : decode cX7_compare 128 = .ok (.iconst 1, 1) := by decide +kernel
theorem dX7_compare_129 : decode cX7_compare 129 = .ok (.putfield 35, 3) := by decide +kernel
theorem dX7_compare_132 : decode cX7_compare 132 = .ok (.return_, 1) := by decide +kernel
theorem dX7_aheadOf_0 : decode cX7_aheadOf 0 = .ok (.aload_n 0, 1) := by decide +kernel
theorem dX7_aheadOf_1 : decode cX7_aheadOf 1 = .ok (.getfield 25, 3) := by decide +kernel
theorem dX7_aheadOf_4 : decode cX7_aheadOf 4 = .ok (.iload_n 1, 1) := by decide +kernel
theorem dX7_aheadOf_5 : decode cX7_aheadOf 5 = .ok (.bipush 10, 2) := by decide +kernel
theorem dX7_aheadOf_7 : decode cX7_aheadOf 7 = .ok (.imul, 1) := by decide +kernel
theorem dX7_aheadOf_8 : decode cX7_aheadOf 8 = .ok (.iload_n 2, 1) := by decide +kernel
theorem dX7_aheadOf_9 : decode cX7_aheadOf 9 = .ok (.iadd, 1) := by decide +kernel
theorem dX7_aheadOf_10 : decode cX7_aheadOf 10 = .ok (.laload, 1) := by decide +kernel
theorem dX7_aheadOf_11 : decode cX7_aheadOf 11 = .ok (.lreturn, 1) := by decide +kernel
theorem dX7_bestQuestion_0 : decode cX7_bestQuestion 0 = .ok (.iconst (-1), 1) := by decide +kernel
theorem dX7_bestQuestion_1 : decode cX7_bestQuestion 1 = .ok (.istore_n 2, 1) := by decide +kernel
theorem dX7_bestQuestion_2 : decode cX7_bestQuestion 2 = .ok (.iconst (-1), 1) := by decide +kernel
theorem dX7_bestQuestion_3 : decode cX7_bestQuestion 3 = .ok (.istore_n 3, 1) := by decide +kernel
theorem dX7_bestQuestion_4 : decode cX7_bestQuestion 4 = .ok (.aload_n 0, 1) := by decide +kernel
theorem dX7_bestQuestion_5 : decode cX7_bestQuestion 5 = .ok (.invokevirtual 75, 3) := by decide +kernel
theorem dX7_bestQuestion_8 : decode cX7_bestQuestion 8 = .ok (.lstore 4, 2) := by decide +kernel
theorem dX7_bestQuestion_10 : decode cX7_bestQuestion 10 = .ok (.iconst 0, 1) := by decide +kernel
theorem dX7_bestQuestion_11 : decode cX7_bestQuestion 11 = .ok (.istore 6, 2) := by decide +kernel
theorem dX7_bestQuestion_13 : decode cX7_bestQuestion 13 = .ok (.iload 6, 2) := by decide +kernel
theorem dX7_bestQuestion_15 : decode cX7_bestQuestion 15 = .ok (.aload_n 0, 1) := by decide +kernel
theorem dX7_bestQuestion_16 : decode cX7_bestQuestion 16 = .ok (.getfield 50, 3) := by decide +kernel
theorem dX7_bestQuestion_19 : decode cX7_bestQuestion 19 = .ok (.if_icmp .ge 69, 3) := by decide +kernel
theorem dX7_bestQuestion_22 : decode cX7_bestQuestion 22 = .ok (.iload 6, 2) := by decide +kernel
theorem dX7_bestQuestion_24 : decode cX7_bestQuestion 24 = .ok (.iconst 1, 1) := by decide +kernel
theorem dX7_bestQuestion_25 : decode cX7_bestQuestion 25 = .ok (.iadd, 1) := by decide +kernel
theorem dX7_bestQuestion_26 : decode cX7_bestQuestion 26 = .ok (.istore 7, 2) := by decide +kernel
theorem dX7_bestQuestion_28 : decode cX7_bestQuestion 28 = .ok (.iload 7, 2) := by decide +kernel
theorem dX7_bestQuestion_30 : decode cX7_bestQuestion 30 = .ok (.aload_n 0, 1) := by decide +kernel
theorem dX7_bestQuestion_31 : decode cX7_bestQuestion 31 = .ok (.getfield 50, 3) := by decide +kernel
theorem dX7_bestQuestion_34 : decode cX7_bestQuestion 34 = .ok (.if_icmp .ge 48, 3) := by decide +kernel
theorem dX7_bestQuestion_37 : decode cX7_bestQuestion 37 = .ok (.aload_n 0, 1) := by decide +kernel
theorem dX7_bestQuestion_38 : decode cX7_bestQuestion 38 = .ok (.iload 6, 2) := by decide +kernel
theorem dX7_bestQuestion_40 : decode cX7_bestQuestion 40 = .ok (.iload 7, 2) := by decide +kernel
theorem dX7_bestQuestion_42 : decode cX7_bestQuestion 42 = .ok (.invokevirtual 79, 3) := by decide +kernel
theorem dX7_bestQuestion_45 : decode cX7_bestQuestion 45 = .ok (.aload_n 0, 1) := by decide +kernel
theorem dX7_bestQuestion_46 : decode cX7_bestQuestion 46 = .ok (.iload 7, 2) := by decide +kernel
theorem dX7_bestQuestion_48 : decode cX7_bestQuestion 48 = .ok (.iload 6, 2) := by decide +kernel
theorem dX7_bestQuestion_50 : decode cX7_bestQuestion 50 = .ok (.invokevirtual 79, 3) := by decide +kernel
theorem dX7_bestQuestion_53 : decode cX7_bestQuestion 53 = .ok (.invokestatic 82, 3) := by decide +kernel
theorem dX7_bestQuestion_56 : decode cX7_bestQuestion 56 = .ok (.lstore 8, 2) := by decide +kernel
theorem dX7_bestQuestion_58 : decode cX7_bestQuestion 58 = .ok (.lload 8, 2) := by decide +kernel
theorem dX7_bestQuestion_60 : decode cX7_bestQuestion 60 = .ok (.lload 4, 2) := by decide +kernel
theorem dX7_bestQuestion_62 : decode cX7_bestQuestion 62 = .ok (.lcmp, 1) := by decide +kernel
theorem dX7_bestQuestion_63 : decode cX7_bestQuestion 63 = .ok (.ifCond .ge 13, 3) := by decide +kernel
theorem dX7_bestQuestion_66 : decode cX7_bestQuestion 66 = .ok (.iload 6, 2) := by decide +kernel
theorem dX7_bestQuestion_68 : decode cX7_bestQuestion 68 = .ok (.istore_n 2, 1) := by decide +kernel
theorem dX7_bestQuestion_69 : decode cX7_bestQuestion 69 = .ok (.iload 7, 2) := by decide +kernel
theorem dX7_bestQuestion_71 : decode cX7_bestQuestion 71 = .ok (.istore_n 3, 1) := by decide +kernel
theorem dX7_bestQuestion_72 : decode cX7_bestQuestion 72 = .ok (.lload 8, 2) := by decide +kernel
theorem dX7_bestQuestion_74 : decode cX7_bestQuestion 74 = .ok (.lstore 4, 2) := by decide +kernel
theorem dX7_bestQuestion_76 : decode cX7_bestQuestion 76 = .ok (.iinc 7 1, 3) := by decide +kernel
theorem dX7_bestQuestion_79 : decode cX7_bestQuestion 79 = .ok (.goto (-51), 3) := by decide +kernel
theorem dX7_bestQuestion_82 : decode cX7_bestQuestion 82 = .ok (.iinc 6 1, 3) := by decide +kernel
theorem dX7_bestQuestion_85 : decode cX7_bestQuestion 85 = .ok (.goto (-72), 3) := by decide +kernel
theorem dX7_bestQuestion_88 : decode cX7_bestQuestion 88 = .ok (.iload_n 1, 1) := by decide +kernel
theorem dX7_bestQuestion_89 : decode cX7_bestQuestion 89 = .ok (.iconst 2, 1) := by decide +kernel
theorem dX7_bestQuestion_90 : decode cX7_bestQuestion 90 = .ok (.if_icmp .ne 7, 3) := by decide +kernel
theorem dX7_bestQuestion_93 : decode cX7_bestQuestion 93 = .ok (.lload 4, 2) := by decide +kernel
theorem dX7_bestQuestion_95 : decode cX7_bestQuestion 95 = .ok (.l2i, 1) := by decide +kernel
theorem dX7_bestQuestion_96 : decode cX7_bestQuestion 96 = .ok (.ireturn, 1) := by decide +kernel
theorem dX7_bestQuestion_97 : decode cX7_bestQuestion 97 = .ok (.iload_n 1, 1) := by decide +kernel
theorem dX7_bestQuestion_98 : decode cX7_bestQuestion 98 = .ok (.ifCond .ne 7, 3) := by decide +kernel
theorem dX7_bestQuestion_101 : decode cX7_bestQuestion 101 = .ok (.iload_n 2, 1) := by decide +kernel
theorem dX7_bestQuestion_102 : decode cX7_bestQuestion 102 = .ok (.goto 4, 3) := by decide +kernel
theorem dX7_bestQuestion_105 : decode cX7_bestQuestion 105 = .ok (.iload_n 3, 1) := by decide +kernel
theorem dX7_bestQuestion_106 : decode cX7_bestQuestion 106 = .ok (.ireturn, 1) := by decide +kernel
theorem dX7_setFactors_0 : decode cX7_setFactors 0 = .ok (.aload_n 0, 1) := by decide +kernel
theorem dX7_setFactors_1 : decode cX7_setFactors 1 = .ok (.getfield 9, 3) := by decide +kernel
theorem dX7_setFactors_4 : decode cX7_setFactors 4 = .ok (.lconst 1, 1) := by decide +kernel
theorem dX7_setFactors_5 : decode cX7_setFactors 5 = .ok (.invokestatic 61, 3) := by decide +kernel
theorem dX7_setFactors_8 : decode cX7_setFactors 8 = .ok (.aload_n 0, 1) := by decide +kernel
theorem dX7_setFactors_9 : decode cX7_setFactors 9 = .ok (.getfield 15, 3) := by decide +kernel
theorem dX7_setFactors_12 : decode cX7_setFactors 12 = .ok (.iconst 0, 1) := by decide +kernel
theorem dX7_setFactors_13 : decode cX7_setFactors 13 = .ok (.invokestatic 88, 3) := by decide +kernel
theorem dX7_setFactors_16 : decode cX7_setFactors 16 = .ok (.iconst 0, 1) := by decide +kernel
theorem dX7_setFactors_17 : decode cX7_setFactors 17 = .ok (.istore_n 2, 1) := by decide +kernel
theorem dX7_setFactors_18 : decode cX7_setFactors 18 = .ok (.iload_n 2, 1) := by decide +kernel
theorem dX7_setFactors_19 : decode cX7_setFactors 19 = .ok (.aload_n 1, 1) := by decide +kernel
theorem dX7_setFactors_20 : decode cX7_setFactors 20 = .ok (.getfield 91, 3) := by decide +kernel
theorem dX7_setFactors_23 : decode cX7_setFactors 23 = .ok (.if_icmp .ge 121, 3) := by decide +kernel
theorem dX7_setFactors_26 : decode cX7_setFactors 26 = .ok (.aload_n 1, 1) := by decide +kernel
theorem dX7_setFactors_27 : decode cX7_setFactors 27 = .ok (.getfield 94, 3) := by decide +kernel
theorem dX7_setFactors_30 : decode cX7_setFactors 30 = .ok (.iload_n 2, 1) := by decide +kernel
theorem dX7_setFactors_31 : decode cX7_setFactors 31 = .ok (.iaload, 1) := by decide +kernel
theorem dX7_setFactors_32 : decode cX7_setFactors 32 = .ok (.istore_n 3, 1) := by decide +kernel
theorem dX7_setFactors_33 : decode cX7_setFactors 33 = .ok (.aload_n 1, 1) := by decide +kernel
theorem dX7_setFactors_34 : decode cX7_setFactors 34 = .ok (.getfield 97, 3) := by decide +kernel
theorem dX7_setFactors_37 : decode cX7_setFactors 37 = .ok (.iload_n 2, 1) := by decide +kernel
theorem dX7_setFactors_38 : decode cX7_setFactors 38 = .ok (.iaload, 1) := by decide +kernel
theorem dX7_setFactors_39 : decode cX7_setFactors 39 = .ok (.istore 4, 2) := by decide +kernel
theorem dX7_setFactors_41 : decode cX7_setFactors 41 = .ok (.aload_n 1, 1) := by decide +kernel
theorem dX7_setFactors_42 : decode cX7_setFactors 42 = .ok (.getfield 38, 3) := by decide +kernel
theorem dX7_setFactors_45 : decode cX7_setFactors 45 = .ok (.iload_n 3, 1) := by decide +kernel
theorem dX7_setFactors_46 : decode cX7_setFactors 46 = .ok (.invokevirtual 100, 3) := by decide +kernel
theorem dX7_setFactors_49 : decode cX7_setFactors 49 = .ok (.istore 5, 2) := by decide +kernel
theorem dX7_setFactors_51 : decode cX7_setFactors 51 = .ok (.aload_n 0, 1) := by decide +kernel
theorem dX7_setFactors_52 : decode cX7_setFactors 52 = .ok (.getfield 9, 3) := by decide +kernel
theorem dX7_setFactors_55 : decode cX7_setFactors 55 = .ok (.iload_n 3, 1) := by decide +kernel
theorem dX7_setFactors_56 : decode cX7_setFactors 56 = .ok (.bipush 10, 2) := by decide +kernel
theorem dX7_setFactors_58 : decode cX7_setFactors 58 = .ok (.imul, 1) := by decide +kernel
theorem dX7_setFactors_59 : decode cX7_setFactors 59 = .ok (.iload 4, 2) := by decide +kernel
theorem dX7_setFactors_61 : decode cX7_setFactors 61 = .ok (.iadd, 1) := by decide +kernel
theorem dX7_setFactors_62 : decode cX7_setFactors 62 = .ok (.dup2, 1) := by decide +kernel
theorem dX7_setFactors_63 : decode cX7_setFactors 63 = .ok (.laload, 1) := by decide +kernel
theorem dX7_setFactors_64 : decode cX7_setFactors 64 = .ok (.aload_n 0, 1) := by decide +kernel
theorem dX7_setFactors_65 : decode cX7_setFactors 65 = .ok (.getfield 28, 3) := by decide +kernel
theorem dX7_setFactors_68 : decode cX7_setFactors 68 = .ok (.ifCond .eq 12, 3) := by decide +kernel
theorem dX7_setFactors_71 : decode cX7_setFactors 71 = .ok (.bipush 8, 2) := by decide +kernel
theorem dX7_setFactors_73 : decode cX7_setFactors 73 = .ok (.iload 5, 2) := by decide +kernel
theorem dX7_setFactors_75 : decode cX7_setFactors 75 = .ok (.isub, 1) := by decide +kernel
theorem dX7_setFactors_76 : decode cX7_setFactors 76 = .ok (.i2l, 1) := by decide +kernel
theorem dX7_setFactors_77 : decode cX7_setFactors 77 = .ok (.goto 4, 3) := by decide +kernel
theorem dX7_setFactors_80 : decode cX7_setFactors 80 = .ok (.lconst 1, 1) := by decide +kernel
theorem dX7_setFactors_81 : decode cX7_setFactors 81 = .ok (.lmul, 1) := by decide +kernel
theorem dX7_setFactors_82 : decode cX7_setFactors 82 = .ok (.lastore, 1) := by decide +kernel
theorem dX7_setFactors_83 : decode cX7_setFactors 83 = .ok (.aload_n 0, 1) := by decide +kernel
theorem dX7_setFactors_84 : decode cX7_setFactors 84 = .ok (.getfield 9, 3) := by decide +kernel
theorem dX7_setFactors_87 : decode cX7_setFactors 87 = .ok (.iload 4, 2) := by decide +kernel
theorem dX7_setFactors_89 : decode cX7_setFactors 89 = .ok (.bipush 10, 2) := by decide +kernel
theorem dX7_setFactors_91 : decode cX7_setFactors 91 = .ok (.imul, 1) := by decide +kernel
theorem dX7_setFactors_92 : decode cX7_setFactors 92 = .ok (.iload_n 3, 1) := by decide +kernel
theorem dX7_setFactors_93 : decode cX7_setFactors 93 = .ok (.iadd, 1) := by decide +kernel
theorem dX7_setFactors_94 : decode cX7_setFactors 94 = .ok (.dup2, 1) := by decide +kernel
theorem dX7_setFactors_95 : decode cX7_setFactors 95 = .ok (.laload, 1) := by decide +kernel
theorem dX7_setFactors_96 : decode cX7_setFactors 96 = .ok (.aload_n 0, 1) := by decide +kernel
theorem dX7_setFactors_97 : decode cX7_setFactors 97 = .ok (.getfield 28, 3) := by decide +kernel
theorem dX7_setFactors_100 : decode cX7_setFactors 100 = .ok (.ifCond .eq 9, 3) := by decide +kernel
theorem dX7_setFactors_103 : decode cX7_setFactors 103 = .ok (.iload 5, 2) := by decide +kernel
theorem dX7_setFactors_105 : decode cX7_setFactors 105 = .ok (.i2l, 1) := by decide +kernel
theorem dX7_setFactors_106 : decode cX7_setFactors 106 = .ok (.goto 4, 3) := by decide +kernel
theorem dX7_setFactors_109 : decode cX7_setFactors 109 = .ok (.lconst 0, 1) := by decide +kernel
theorem dX7_setFactors_110 : decode cX7_setFactors 110 = .ok (.lmul, 1) := by decide +kernel
theorem dX7_setFactors_111 : decode cX7_setFactors 111 = .ok (.lastore, 1) := by decide +kernel
theorem dX7_setFactors_112 : decode cX7_setFactors 112 = .ok (.aload_n 0, 1) := by decide +kernel
theorem dX7_setFactors_113 : decode cX7_setFactors 113 = .ok (.getfield 15, 3) := by decide +kernel
theorem dX7_setFactors_116 : decode cX7_setFactors 116 = .ok (.iload_n 3, 1) := by decide +kernel
theorem dX7_setFactors_117 : decode cX7_setFactors 117 = .ok (.dup2, 1) := by decide +kernel
theorem dX7_setFactors_118 : decode cX7_setFactors 118 = .ok (.iaload, 1) := by decide +kernel
theorem dX7_setFactors_119 : decode cX7_setFactors 119 = .ok (.iconst 1, 1) := by decide +kernel
theorem dX7_setFactors_120 : decode cX7_setFactors 120 = .ok (.iload 4, 2) := by decide +kernel
theorem dX7_setFactors_122 : decode cX7_setFactors 122 = .ok (.ishl, 1) := by decide +kernel
theorem dX7_setFactors_123 : decode cX7_setFactors 123 = .ok (.ior, 1) := by decide +kernel
theorem dX7_setFactors_124 : decode cX7_setFactors 124 = .ok (.iastore, 1) := by decide +kernel
theorem dX7_setFactors_125 : decode cX7_setFactors 125 = .ok (.aload_n 0, 1) := by decide +kernel
theorem dX7_setFactors_126 : decode cX7_setFactors 126 = .ok (.getfield 15, 3) := by decide +kernel
theorem dX7_setFactors_129 : decode cX7_setFactors 129 = .ok (.iload 4, 2) := by decide +kernel
theorem dX7_setFactors_131 : decode cX7_setFactors 131 = .ok (.dup2, 1) := by decide +kernel
theorem dX7_setFactors_132 : decode cX7_setFactors 132 = .ok (.iaload, 1) := by decide +kernel
theorem dX7_setFactors_133 : decode cX7_setFactors 133 = .ok (.iconst 1, 1) := by decide +kernel
theorem dX7_setFactors_134 : decode cX7_setFactors 134 = .ok (.iload_n 3, 1) := by decide +kernel
theorem dX7_setFactors_135 : decode cX7_setFactors 135 = .ok (.ishl, 1) := by decide +kernel
theorem dX7_setFactors_136 : decode cX7_setFactors 136 = .ok (.ior, 1) := by decide +kernel
theorem dX7_setFactors_137 : decode cX7_setFactors 137 = .ok (.iastore, 1) := by decide +kernel
theorem dX7_setFactors_138 : decode cX7_setFactors 138 = .ok (.iinc 2 1, 3) := by decide +kernel
theorem dX7_setFactors_141 : decode cX7_setFactors 141 = .ok (.goto (-123), 3) := by decide +kernel
theorem dX7_setFactors_144 : decode cX7_setFactors 144 = .ok (.return_, 1) := by decide +kernel
theorem dX7_factorBehind_0 : decode cX7_factorBehind 0 = .ok (.iload_n 1, 1) := by decide +kernel
theorem dX7_factorBehind_1 : decode cX7_factorBehind 1 = .ok (.aload_n 0, 1) := by decide +kernel
theorem dX7_factorBehind_2 : decode cX7_factorBehind 2 = .ok (.getfield 15, 3) := by decide +kernel
theorem dX7_factorBehind_5 : decode cX7_factorBehind 5 = .ok (.iload_n 2, 1) := by decide +kernel
theorem dX7_factorBehind_6 : decode cX7_factorBehind 6 = .ok (.iaload, 1) := by decide +kernel
theorem dX7_factorBehind_7 : decode cX7_factorBehind 7 = .ok (.iand, 1) := by decide +kernel
theorem dX7_factorBehind_8 : decode cX7_factorBehind 8 = .ok (.istore_n 3, 1) := by decide +kernel
theorem dX7_factorBehind_9 : decode cX7_factorBehind 9 = .ok (.lconst 1, 1) := by decide +kernel
theorem dX7_factorBehind_10 : decode cX7_factorBehind 10 = .ok (.lstore 4, 2) := by decide +kernel
theorem dX7_factorBehind_12 : decode cX7_factorBehind 12 = .ok (.iconst 0, 1) := by decide +kernel
theorem dX7_factorBehind_13 : decode cX7_factorBehind 13 = .ok (.istore 6, 2) := by decide +kernel
theorem dX7_factorBehind_15 : decode cX7_factorBehind 15 = .ok (.iload 6, 2) := by decide +kernel
theorem dX7_factorBehind_17 : decode cX7_factorBehind 17 = .ok (.aload_n 0, 1) := by decide +kernel
theorem dX7_factorBehind_18 : decode cX7_factorBehind 18 = .ok (.getfield 50, 3) := by decide +kernel
theorem dX7_factorBehind_21 : decode cX7_factorBehind 21 = .ok (.if_icmp .ge 42, 3) := by decide +kernel
theorem dX7_factorBehind_24 : decode cX7_factorBehind 24 = .ok (.iload_n 3, 1) := by decide +kernel
theorem dX7_factorBehind_25 : decode cX7_factorBehind 25 = .ok (.iload 6, 2) := by decide +kernel
theorem dX7_factorBehind_27 : decode cX7_factorBehind 27 = .ok (.ishr, 1) := by decide +kernel
theorem dX7_factorBehind_28 : decode cX7_factorBehind 28 = .ok (.ifCond .eq 35, 3) := by decide +kernel
theorem dX7_factorBehind_31 : decode cX7_factorBehind 31 = .ok (.iload_n 3, 1) := by decide +kernel
theorem dX7_factorBehind_32 : decode cX7_factorBehind 32 = .ok (.iload 6, 2) := by decide +kernel
theorem dX7_factorBehind_34 : decode cX7_factorBehind 34 = .ok (.ishr, 1) := by decide +kernel
theorem dX7_factorBehind_35 : decode cX7_factorBehind 35 = .ok (.iconst 1, 1) := by decide +kernel
theorem dX7_factorBehind_36 : decode cX7_factorBehind 36 = .ok (.iand, 1) := by decide +kernel
theorem dX7_factorBehind_37 : decode cX7_factorBehind 37 = .ok (.ifCond .eq 20, 3) := by decide +kernel
theorem dX7_factorBehind_40 : decode cX7_factorBehind 40 = .ok (.lload 4, 2) := by decide +kernel
theorem dX7_factorBehind_42 : decode cX7_factorBehind 42 = .ok (.aload_n 0, 1) := by decide +kernel
theorem dX7_factorBehind_43 : decode cX7_factorBehind 43 = .ok (.getfield 9, 3) := by decide +kernel
theorem dX7_factorBehind_46 : decode cX7_factorBehind 46 = .ok (.iload 6, 2) := by decide +kernel
theorem dX7_factorBehind_48 : decode cX7_factorBehind 48 = .ok (.bipush 10, 2) := by decide +kernel
theorem dX7_factorBehind_50 : decode cX7_factorBehind 50 = .ok (.imul, 1) := by decide +kernel
theorem dX7_factorBehind_51 : decode cX7_factorBehind 51 = .ok (.iload_n 2, 1) := by decide +kernel
theorem dX7_factorBehind_52 : decode cX7_factorBehind 52 = .ok (.iadd, 1) := by decide +kernel
theorem dX7_factorBehind_53 : decode cX7_factorBehind 53 = .ok (.laload, 1) := by decide +kernel
theorem dX7_factorBehind_54 : decode cX7_factorBehind 54 = .ok (.lmul, 1) := by decide +kernel
theorem dX7_factorBehind_55 : decode cX7_factorBehind 55 = .ok (.lstore 4, 2) := by decide +kernel
theorem dX7_factorBehind_57 : decode cX7_factorBehind 57 = .ok (.iinc 6 1, 3) := by decide +kernel
theorem dX7_factorBehind_60 : decode cX7_factorBehind 60 = .ok (.goto (-45), 3) := by decide +kernel
theorem dX7_factorBehind_63 : decode cX7_factorBehind 63 = .ok (.lload 4, 2) := by decide +kernel
theorem dX7_factorBehind_65 : decode cX7_factorBehind 65 = .ok (.lreturn, 1) := by decide +kernel
theorem dX7_addAhead_0 : decode cX7_addAhead 0 = .ok (.iconst 0, 1) := by decide +kernel
theorem dX7_addAhead_1 : decode cX7_addAhead 1 = .ok (.istore 5, 2) := by decide +kernel
theorem dX7_addAhead_3 : decode cX7_addAhead 3 = .ok (.iload 5, 2) := by decide +kernel
theorem dX7_addAhead_5 : decode cX7_addAhead 5 = .ok (.aload_n 0, 1) := by decide +kernel
theorem dX7_addAhead_6 : decode cX7_addAhead 6 = .ok (.getfield 50, 3) := by decide +kernel
theorem dX7_addAhead_9 : decode cX7_addAhead 9 = .ok (.if_icmp .ge 40, 3) := by decide +kernel
theorem dX7_addAhead_12 : decode cX7_addAhead 12 = .ok (.lload_n 3, 1) := by decide +kernel
theorem dX7_addAhead_13 : decode cX7_addAhead 13 = .ok (.lconst 0, 1) := by decide +kernel
theorem dX7_addAhead_14 : decode cX7_addAhead 14 = .ok (.lcmp, 1) := by decide +kernel
theorem dX7_addAhead_15 : decode cX7_addAhead 15 = .ok (.ifCond .eq 34, 3) := by decide +kernel
theorem dX7_addAhead_18 : decode cX7_addAhead 18 = .ok (.iload_n 1, 1) := by decide +kernel
theorem dX7_addAhead_19 : decode cX7_addAhead 19 = .ok (.iload 5, 2) := by decide +kernel
theorem dX7_addAhead_21 : decode cX7_addAhead 21 = .ok (.ishr, 1) := by decide +kernel
theorem dX7_addAhead_22 : decode cX7_addAhead 22 = .ok (.iconst 1, 1) := by decide +kernel
theorem dX7_addAhead_23 : decode cX7_addAhead 23 = .ok (.iand, 1) := by decide +kernel
theorem dX7_addAhead_24 : decode cX7_addAhead 24 = .ok (.ifCond .eq 19, 3) := by decide +kernel
theorem dX7_addAhead_27 : decode cX7_addAhead 27 = .ok (.aload_n 0, 1) := by decide +kernel
theorem dX7_addAhead_28 : decode cX7_addAhead 28 = .ok (.getfield 25, 3) := by decide +kernel
theorem dX7_addAhead_31 : decode cX7_addAhead 31 = .ok (.iload 5, 2) := by decide +kernel
theorem dX7_addAhead_33 : decode cX7_addAhead 33 = .ok (.bipush 10, 2) := by decide +kernel
theorem dX7_addAhead_35 : decode cX7_addAhead 35 = .ok (.imul, 1) := by decide +kernel
theorem dX7_addAhead_36 : decode cX7_addAhead 36 = .ok (.iload_n 2, 1) := by decide +kernel
theorem dX7_addAhead_37 : decode cX7_addAhead 37 = .ok (.iadd, 1) := by decide +kernel
theorem dX7_addAhead_38 : decode cX7_addAhead 38 = .ok (.dup2, 1) := by decide +kernel
theorem dX7_addAhead_39 : decode cX7_addAhead 39 = .ok (.laload, 1) := by decide +kernel
theorem dX7_addAhead_40 : decode cX7_addAhead 40 = .ok (.lload_n 3, 1) := by decide +kernel
theorem dX7_addAhead_41 : decode cX7_addAhead 41 = .ok (.ladd, 1) := by decide +kernel
theorem dX7_addAhead_42 : decode cX7_addAhead 42 = .ok (.lastore, 1) := by decide +kernel
theorem dX7_addAhead_43 : decode cX7_addAhead 43 = .ok (.iinc 5 1, 3) := by decide +kernel
theorem dX7_addAhead_46 : decode cX7_addAhead 46 = .ok (.goto (-43), 3) := by decide +kernel
theorem dX7_addAhead_49 : decode cX7_addAhead 49 = .ok (.return_, 1) := by decide +kernel
theorem dX8_init_0 : decode cX8_init 0 = .ok (.aload_n 0, 1) := by decide +kernel
theorem dX8_init_1 : decode cX8_init 1 = .ok (.invokespecial 3, 3) := by decide +kernel
theorem dX8_init_4 : decode cX8_init 4 = .ok (.aload_n 0, 1) := by decide +kernel
theorem dX8_init_5 : decode cX8_init 5 = .ok (.iconst 0, 1) := by decide +kernel
theorem dX8_init_6 : decode cX8_init 6 = .ok (.newarray .byte, 2) := by decide +kernel
theorem dX8_init_8 : decode cX8_init 8 = .ok (.putfield 9, 3) := by decide +kernel
theorem dX8_init_11 : decode cX8_init 11 = .ok (.return_, 1) := by decide +kernel
theorem dX8_open_0 : decode cX8_open 0 = .ok (.aload_n 0, 1) := by decide +kernel
theorem dX8_open_1 : decode cX8_open 1 = .ok (.aload_n 1, 1) := by decide +kernel
theorem dX8_open_2 : decode cX8_open 2 = .ok (.putfield 9, 3) := by decide +kernel
theorem dX8_open_5 : decode cX8_open 5 = .ok (.aload_n 0, 1) := by decide +kernel
theorem dX8_open_6 : decode cX8_open 6 = .ok (.iload_n 2, 1) := by decide +kernel
theorem dX8_open_7 : decode cX8_open 7 = .ok (.aload_n 1, 1) := by decide +kernel
theorem dX8_open_8 : decode cX8_open 8 = .ok (.arraylength, 1) := by decide +kernel
theorem dX8_open_9 : decode cX8_open 9 = .ok (.invokestatic 15, 3) := by decide +kernel
theorem dX8_open_12 : decode cX8_open 12 = .ok (.putfield 21, 3) := by decide +kernel
theorem dX8_open_15 : decode cX8_open 15 = .ok (.aload_n 0, 1) := by decide +kernel
theorem dX8_open_16 : decode cX8_open 16 = .ok (.iconst 0, 1) := by decide +kernel
theorem dX8_open_17 : decode cX8_open 17 = .ok (.putfield 25, 3) := by decide +kernel
theorem dX8_open_20 : decode cX8_open 20 = .ok (.aload_n 0, 1) := by decide +kernel
theorem dX8_open_21 : decode cX8_open 21 = .ok (.invokevirtual 28, 3) := by decide +kernel
theorem dX8_open_24 : decode cX8_open 24 = .ok (.return_, 1) := by decide +kernel
theorem dX8_step_0 : decode cX8_step 0 = .ok (.aload_n 0, 1) := by decide +kernel
theorem dX8_step_1 : decode cX8_step 1 = .ok (.aconst_null, 1) := by decide +kernel
theorem dX8_step_2 : decode cX8_step 2 = .ok (.putfield 31, 3) := by decide +kernel
theorem dX8_step_5 : decode cX8_step 5 = .ok (.aload_n 0, 1) := by decide +kernel
theorem dX8_step_6 : decode cX8_step 6 = .ok (.getfield 25, 3) := by decide +kernel
theorem dX8_step_9 : decode cX8_step 9 = .ok (.aload_n 0, 1) := by decide +kernel
theorem dX8_step_10 : decode cX8_step 10 = .ok (.getfield 21, 3) := by decide +kernel
theorem dX8_step_13 : decode cX8_step 13 = .ok (.if_icmp .ge 44, 3) := by decide +kernel
theorem dX8_step_16 : decode cX8_step 16 = .ok (.aload_n 0, 1) := by decide +kernel
theorem dX8_step_17 : decode cX8_step 17 = .ok (.getfield 9, 3) := by decide +kernel
theorem dX8_step_20 : decode cX8_step 20 = .ok (.aload_n 0, 1) := by decide +kernel
theorem dX8_step_21 : decode cX8_step 21 = .ok (.getfield 25, 3) := by decide +kernel
theorem dX8_step_24 : decode cX8_step 24 = .ok (.baload, 1) := by decide +kernel
theorem dX8_step_25 : decode cX8_step 25 = .ok (.bipush 10, 2) := by decide +kernel
theorem dX8_step_27 : decode cX8_step 27 = .ok (.if_icmp .eq 17, 3) := by decide +kernel
theorem dX8_step_30 : decode cX8_step 30 = .ok (.aload_n 0, 1) := by decide +kernel
theorem dX8_step_31 : decode cX8_step 31 = .ok (.getfield 9, 3) := by decide +kernel
theorem dX8_step_34 : decode cX8_step 34 = .ok (.aload_n 0, 1) := by decide +kernel
theorem dX8_step_35 : decode cX8_step 35 = .ok (.getfield 25, 3) := by decide +kernel
theorem dX8_step_38 : decode cX8_step 38 = .ok (.baload, 1) := by decide +kernel
theorem dX8_step_39 : decode cX8_step 39 = .ok (.bipush 32, 2) := by decide +kernel
theorem dX8_step_41 : decode cX8_step 41 = .ok (.if_icmp .ne 16, 3) := by decide +kernel
theorem dX8_step_44 : decode cX8_step 44 = .ok (.aload_n 0, 1) := by decide +kernel
theorem dX8_step_45 : decode cX8_step 45 = .ok (.dup, 1) := by decide +kernel
theorem dX8_step_46 : decode cX8_step 46 = .ok (.getfield 25, 3) := by decide +kernel
theorem dX8_step_49 : decode cX8_step 49 = .ok (.iconst 1, 1) := by decide +kernel
theorem dX8_step_50 : decode cX8_step 50 = .ok (.iadd, 1) := by decide +kernel
theorem dX8_step_51 : decode cX8_step 51 = .ok (.putfield 25, 3) := by decide +kernel
theorem dX8_step_54 : decode cX8_step 54 = .ok (.goto (-49), 3) := by decide +kernel
theorem dX8_step_57 : decode cX8_step 57 = .ok (.aload_n 0, 1) := by decide +kernel
theorem dX8_step_58 : decode cX8_step 58 = .ok (.aload_n 0, 1) := by decide +kernel
theorem dX8_step_59 : decode cX8_step 59 = .ok (.getfield 25, 3) := by decide +kernel
theorem dX8_step_62 : decode cX8_step 62 = .ok (.putfield 35, 3) := by decide +kernel
theorem dX8_step_65 : decode cX8_step 65 = .ok (.aload_n 0, 1) := by decide +kernel
theorem dX8_step_66 : decode cX8_step 66 = .ok (.getfield 35, 3) := by decide +kernel
theorem dX8_step_69 : decode cX8_step 69 = .ok (.aload_n 0, 1) := by decide +kernel
theorem dX8_step_70 : decode cX8_step 70 = .ok (.getfield 21, 3) := by decide +kernel
theorem dX8_step_73 : decode cX8_step 73 = .ok (.if_icmp .lt 11, 3) := by decide +kernel
theorem dX8_step_76 : decode cX8_step 76 = .ok (.aload_n 0, 1) := by decide +kernel
theorem dX8_step_77 : decode cX8_step 77 = .ok (.iconst 0, 1) := by decide +kernel
theorem dX8_step_78 : decode cX8_step 78 = .ok (.putfield 38, 3) := by decide +kernel
theorem dX8_step_81 : decode cX8_step 81 = .ok (.goto 89, 3) := by decide +kernel
theorem dX8_step_84 : decode cX8_step 84 = .ok (.aload_n 0, 1) := by decide +kernel
theorem dX8_step_85 : decode cX8_step 85 = .ok (.getfield 9, 3) := by decide +kernel
theorem dX8_step_88 : decode cX8_step 88 = .ok (.aload_n 0, 1) := by decide +kernel
theorem dX8_step_89 : decode cX8_step 89 = .ok (.getfield 35, 3) := by decide +kernel
theorem dX8_step_92 : decode cX8_step 92 = .ok (.baload, 1) := by decide +kernel
theorem dX8_step_93 : decode cX8_step 93 = .ok (.invokestatic 41, 3) := by decide +kernel
theorem dX8_step_96 : decode cX8_step 96 = .ok (.ifCond .eq 10, 3) := by decide +kernel
theorem dX8_step_99 : decode cX8_step 99 = .ok (.aload_n 0, 1) := by decide +kernel
theorem dX8_step_100 : decode cX8_step 100 = .ok (.invokevirtual 45, 3) := by decide +kernel
theorem dX8_step_103 : decode cX8_step 103 = .ok (.goto 67, 3) := by decide +kernel
theorem dX8_step_106 : decode cX8_step 106 = .ok (.aload_n 0, 1) := by decide +kernel
theorem dX8_step_107 : decode cX8_step 107 = .ok (.getfield 9, 3) := by decide +kernel
theorem dX8_step_110 : decode cX8_step 110 = .ok (.aload_n 0, 1) := by decide +kernel
theorem dX8_step_111 : decode cX8_step 111 = .ok (.getfield 35, 3) := by decide +kernel
theorem dX8_step_114 : decode cX8_step 114 = .ok (.baload, 1) := by decide +kernel
theorem dX8_step_115 : decode cX8_step 115 = .ok (.invokestatic 48, 3) := by decide +kernel
theorem dX8_step_118 : decode cX8_step 118 = .ok (.ifCond .eq 10, 3) := by decide +kernel
theorem dX8_step_121 : decode cX8_step 121 = .ok (.aload_n 0, 1) := by decide +kernel
theorem dX8_step_122 : decode cX8_step 122 = .ok (.invokevirtual 51, 3) := by decide +kernel
theorem dX8_step_125 : decode cX8_step 125 = .ok (.goto 45, 3) := by decide +kernel
theorem dX8_step_128 : decode cX8_step 128 = .ok (.aload_n 0, 1) := by decide +kernel
theorem dX8_step_129 : decode cX8_step 129 = .ok (.aload_n 0, 1) := by decide +kernel
theorem dX8_step_130 : decode cX8_step 130 = .ok (.getfield 35, 3) := by decide +kernel
theorem dX8_step_133 : decode cX8_step 133 = .ok (.iconst 1, 1) := by decide +kernel
theorem dX8_step_134 : decode cX8_step 134 = .ok (.iadd, 1) := by decide +kernel
theorem dX8_step_135 : decode cX8_step 135 = .ok (.putfield 25, 3) := by decide +kernel
theorem dX8_step_138 : decode cX8_step 138 = .ok (.aload_n 0, 1) := by decide +kernel
theorem dX8_step_139 : decode cX8_step 139 = .ok (.aload_n 0, 1) := by decide +kernel
theorem dX8_step_140 : decode cX8_step 140 = .ok (.getfield 9, 3) := by decide +kernel
theorem dX8_step_143 : decode cX8_step 143 = .ok (.aload_n 0, 1) := by decide +kernel
theorem dX8_step_144 : decode cX8_step 144 = .ok (.getfield 35, 3) := by decide +kernel
theorem dX8_step_147 : decode cX8_step 147 = .ok (.baload, 1) := by decide +kernel
theorem dX8_step_148 : decode cX8_step 148 = .ok (.invokestatic 54, 3) := by decide +kernel
theorem dX8_step_151 : decode cX8_step 151 = .ok (.ifCond .eq 15, 3) := by decide +kernel
theorem dX8_step_154 : decode cX8_step 154 = .ok (.aload_n 0, 1) := by decide +kernel
theorem dX8_step_155 : decode cX8_step 155 = .ok (.getfield 9, 3) := by decide +kernel
theorem dX8_step_158 : decode cX8_step 158 = .ok (.aload_n 0, 1) := by decide +kernel
theorem dX8_step_159 : decode cX8_step 159 = .ok (.getfield 35, 3) := by decide +kernel
theorem dX8_step_162 : decode cX8_step 162 = .ok (.baload, 1) := by decide +kernel
theorem dX8_step_163 : decode cX8_step 163 = .ok (.goto 4, 3) := by decide +kernel
theorem dX8_step_166 : decode cX8_step 166 = .ok (.iconst 1, 1) := by decide +kernel
theorem dX8_step_167 : decode cX8_step 167 = .ok (.putfield 38, 3) := by decide +kernel
theorem dX8_step_170 : decode cX8_step 170 = .ok (.return_, 1) := by decide +kernel
theorem dX8_isName_0 : decode cX8_isName 0 = .ok (.aload_n 0, 1) := by decide +kernel
theorem dX8_isName_1 : decode cX8_isName 1 = .ok (.getfield 38, 3) := by decide +kernel
theorem dX8_isName_4 : decode cX8_isName 4 = .ok (.iconst 2, 1) := by decide +kernel
theorem dX8_isName_5 : decode cX8_isName 5 = .ok (.if_icmp .ne 24, 3) := by decide +kernel
theorem dX8_isName_8 : decode cX8_isName 8 = .ok (.aload_n 0, 1) := by decide +kernel
theorem dX8_isName_9 : decode cX8_isName 9 = .ok (.getfield 31, 3) := by decide +kernel
theorem dX8_isName_12 : decode cX8_isName 12 = .ok (.ifnull 13, 3) := by decide +kernel
theorem dX8_isName_15 : decode cX8_isName 15 = .ok (.aload_n 0, 1) := by decide +kernel
theorem dX8_isName_16 : decode cX8_isName 16 = .ok (.getfield 31, 3) := by decide +kernel
theorem dX8_isName_19 : decode cX8_isName 19 = .ok (.getfield 57, 3) := by decide +kernel
theorem dX8_isName_22 : decode cX8_isName 22 = .ok (.ifCond .ne 7, 3) := by decide +kernel
theorem dX8_isName_25 : decode cX8_isName 25 = .ok (.iconst 1, 1) := by decide +kernel
theorem dX8_isName_26 : decode cX8_isName 26 = .ok (.goto 4, 3) := by decide +kernel
theorem dX8_isName_29 : decode cX8_isName 29 = .ok (.iconst 0, 1) := by decide +kernel
theorem dX8_isName_30 : decode cX8_isName 30 = .ok (.ireturn, 1) := by decide +kernel
theorem dX8_takeWord_0 : decode cX8_takeWord 0 = .ok (.aload_n 0, 1) := by decide +kernel
theorem dX8_takeWord_1 : decode cX8_takeWord 1 = .ok (.lconst 0, 1) := by decide +kernel
theorem dX8_takeWord_2 : decode cX8_takeWord 2 = .ok (.putfield 63, 3) := by decide +kernel
theorem dX8_takeWord_5 : decode cX8_takeWord 5 = .ok (.aload_n 0, 1) := by decide +kernel
theorem dX8_takeWord_6 : decode cX8_takeWord 6 = .ok (.getfield 25, 3) := by decide +kernel
theorem dX8_takeWord_9 : decode cX8_takeWord 9 = .ok (.aload_n 0, 1) := by decide +kernel
theorem dX8_takeWord_10 : decode cX8_takeWord 10 = .ok (.getfield 21, 3) := by decide +kernel
theorem dX8_takeWord_13 : decode cX8_takeWord 13 = .ok (.if_icmp .ge 57, 3) := by decide +kernel
theorem dX8_takeWord_16 : decode cX8_takeWord 16 = .ok (.aload_n 0, 1) := by decide +kernel
theorem dX8_takeWord_17 : decode cX8_takeWord 17 = .ok (.getfield 9, 3) := by decide +kernel
theorem dX8_takeWord_20 : decode cX8_takeWord 20 = .ok (.aload_n 0, 1) := by decide +kernel
theorem dX8_takeWord_21 : decode cX8_takeWord 21 = .ok (.getfield 25, 3) := by decide +kernel
theorem dX8_takeWord_24 : decode cX8_takeWord 24 = .ok (.baload, 1) := by decide +kernel
theorem dX8_takeWord_25 : decode cX8_takeWord 25 = .ok (.invokestatic 41, 3) := by decide +kernel
theorem dX8_takeWord_28 : decode cX8_takeWord 28 = .ok (.ifCond .eq 42, 3) := by decide +kernel
theorem dX8_takeWord_31 : decode cX8_takeWord 31 = .ok (.aload_n 0, 1) := by decide +kernel
theorem dX8_takeWord_32 : decode cX8_takeWord 32 = .ok (.aload_n 0, 1) := by decide +kernel
theorem dX8_takeWord_33 : decode cX8_takeWord 33 = .ok (.getfield 63, 3) := by decide +kernel
theorem dX8_takeWord_36 : decode cX8_takeWord 36 = .ok (.ldc2_w 67, 3) := by decide +kernel
theorem dX8_takeWord_39 : decode cX8_takeWord 39 = .ok (.lmul, 1) := by decide +kernel
theorem dX8_takeWord_40 : decode cX8_takeWord 40 = .ok (.aload_n 0, 1) := by decide +kernel
theorem dX8_takeWord_41 : decode cX8_takeWord 41 = .ok (.getfield 9, 3) := by decide +kernel
theorem dX8_takeWord_44 : decode cX8_takeWord 44 = .ok (.aload_n 0, 1) := by decide +kernel
theorem dX8_takeWord_45 : decode cX8_takeWord 45 = .ok (.getfield 25, 3) := by decide +kernel
theorem dX8_takeWord_48 : decode cX8_takeWord 48 = .ok (.baload, 1) := by decide +kernel
theorem dX8_takeWord_49 : decode cX8_takeWord 49 = .ok (.bipush 96, 2) := by decide +kernel
theorem dX8_takeWord_51 : decode cX8_takeWord 51 = .ok (.isub, 1) := by decide +kernel
theorem dX8_takeWord_52 : decode cX8_takeWord 52 = .ok (.i2l, 1) := by decide +kernel
theorem dX8_takeWord_53 : decode cX8_takeWord 53 = .ok (.ladd, 1) := by decide +kernel
theorem dX8_takeWord_54 : decode cX8_takeWord 54 = .ok (.putfield 63, 3) := by decide +kernel
theorem dX8_takeWord_57 : decode cX8_takeWord 57 = .ok (.aload_n 0, 1) := by decide +kernel
theorem dX8_takeWord_58 : decode cX8_takeWord 58 = .ok (.dup, 1) := by decide +kernel
theorem dX8_takeWord_59 : decode cX8_takeWord 59 = .ok (.getfield 25, 3) := by decide +kernel
theorem dX8_takeWord_62 : decode cX8_takeWord 62 = .ok (.iconst 1, 1) := by decide +kernel
theorem dX8_takeWord_63 : decode cX8_takeWord 63 = .ok (.iadd, 1) := by decide +kernel
theorem dX8_takeWord_64 : decode cX8_takeWord 64 = .ok (.putfield 25, 3) := by decide +kernel
theorem dX8_takeWord_67 : decode cX8_takeWord 67 = .ok (.goto (-62), 3) := by decide +kernel
theorem dX8_takeWord_70 : decode cX8_takeWord 70 = .ok (.aload_n 0, 1) := by decide +kernel
theorem dX8_takeWord_71 : decode cX8_takeWord 71 = .ok (.aload_n 0, 1) := by decide +kernel
theorem dX8_takeWord_72 : decode cX8_takeWord 72 = .ok (.getfield 25, 3) := by decide +kernel
theorem dX8_takeWord_75 : decode cX8_takeWord 75 = .ok (.aload_n 0, 1) := by decide +kernel
theorem dX8_takeWord_76 : decode cX8_takeWord 76 = .ok (.getfield 35, 3) := by decide +kernel
theorem dX8_takeWord_79 : decode cX8_takeWord 79 = .ok (.isub, 1) := by decide +kernel
theorem dX8_takeWord_80 : decode cX8_takeWord 80 = .ok (.bipush 8, 2) := by decide +kernel
theorem dX8_takeWord_82 : decode cX8_takeWord 82 = .ok (.if_icmp .gt 7, 3) := by decide +kernel
theorem dX8_takeWord_85 : decode cX8_takeWord 85 = .ok (.iconst 2, 1) := by decide +kernel
theorem dX8_takeWord_86 : decode cX8_takeWord 86 = .ok (.goto 4, 3) := by decide +kernel
theorem dX8_takeWord_89 : decode cX8_takeWord 89 = .ok (.iconst 1, 1) := by decide +kernel
theorem dX8_takeWord_90 : decode cX8_takeWord 90 = .ok (.putfield 38, 3) := by decide +kernel
theorem dX8_takeWord_93 : decode cX8_takeWord 93 = .ok (.iconst 0, 1) := by decide +kernel
theorem dX8_takeWord_94 : decode cX8_takeWord 94 = .ok (.istore_n 1, 1) := by decide +kernel
theorem dX8_takeWord_95 : decode cX8_takeWord 95 = .ok (.iload_n 1, 1) := by decide +kernel
theorem dX8_takeWord_96 : decode cX8_takeWord 96 = .ok (.getstatic 69, 3) := by decide +kernel
theorem dX8_takeWord_99 : decode cX8_takeWord 99 = .ok (.arraylength, 1) := by decide +kernel
theorem dX8_takeWord_100 : decode cX8_takeWord 100 = .ok (.if_icmp .ge 49, 3) := by decide +kernel
theorem dX8_takeWord_103 : decode cX8_takeWord 103 = .ok (.aload_n 0, 1) := by decide +kernel
theorem dX8_takeWord_104 : decode cX8_takeWord 104 = .ok (.getfield 38, 3) := by decide +kernel
theorem dX8_takeWord_107 : decode cX8_takeWord 107 = .ok (.iconst 2, 1) := by decide +kernel
theorem dX8_takeWord_108 : decode cX8_takeWord 108 = .ok (.if_icmp .ne 41, 3) := by decide +kernel
theorem dX8_takeWord_111 : decode cX8_takeWord 111 = .ok (.aload_n 0, 1) := by decide +kernel
theorem dX8_takeWord_112 : decode cX8_takeWord 112 = .ok (.getfield 31, 3) := by decide +kernel
theorem dX8_takeWord_115 : decode cX8_takeWord 115 = .ok (.ifnonnull 34, 3) := by decide +kernel
theorem dX8_takeWord_118 : decode cX8_takeWord 118 = .ok (.getstatic 69, 3) := by decide +kernel
theorem dX8_takeWord_121 : decode cX8_takeWord 121 = .ok (.iload_n 1, 1) := by decide +kernel
theorem dX8_takeWord_122 : decode cX8_takeWord 122 = .ok (.aaload, 1) := by decide +kernel
theorem dX8_takeWord_123 : decode cX8_takeWord 123 = .ok (.getfield 73, 3) := by decide +kernel
theorem dX8_takeWord_126 : decode cX8_takeWord 126 = .ok (.aload_n 0, 1) := by decide +kernel
theorem dX8_takeWord_127 : decode cX8_takeWord 127 = .ok (.getfield 63, 3) := by decide +kernel
theorem dX8_takeWord_130 : decode cX8_takeWord 130 = .ok (.lcmp, 1) := by decide +kernel
theorem dX8_takeWord_131 : decode cX8_takeWord 131 = .ok (.ifCond .ne 12, 3) := by decide +kernel
theorem dX8_takeWord_134 : decode cX8_takeWord 134 = .ok (.aload_n 0, 1) := by decide +kernel
theorem dX8_takeWord_135 : decode cX8_takeWord 135 = .ok (.getstatic 69, 3) := by decide +kernel
theorem dX8_takeWord_138 : decode cX8_takeWord 138 = .ok (.iload_n 1, 1) := by decide +kernel
theorem dX8_takeWord_139 : decode cX8_takeWord 139 = .ok (.aaload, 1) := by decide +kernel
theorem dX8_takeWord_140 : decode cX8_takeWord 140 = .ok (.putfield 31, 3) := by decide +kernel
theorem dX8_takeWord_143 : decode cX8_takeWord 143 = .ok (.iinc 1 1, 3) := by decide +kernel
theorem dX8_takeWord_146 : decode cX8_takeWord 146 = .ok (.goto (-51), 3) := by decide +kernel
theorem dX8_takeWord_149 : decode cX8_takeWord 149 = .ok (.return_, 1) := by decide +kernel
theorem dX8_takeNumber_0 : decode cX8_takeNumber 0 = .ok (.aload_n 0, 1) := by decide +kernel
theorem dX8_takeNumber_1 : decode cX8_takeNumber 1 = .ok (.iconst 0, 1) := by decide +kernel
theorem dX8_takeNumber_2 : decode cX8_takeNumber 2 = .ok (.putfield 76, 3) := by decide +kernel
theorem dX8_takeNumber_5 : decode cX8_takeNumber 5 = .ok (.aload_n 0, 1) := by decide +kernel
theorem dX8_takeNumber_6 : decode cX8_takeNumber 6 = .ok (.getfield 25, 3) := by decide +kernel
theorem dX8_takeNumber_9 : decode cX8_takeNumber 9 = .ok (.aload_n 0, 1) := by decide +kernel
theorem dX8_takeNumber_10 : decode cX8_takeNumber 10 = .ok (.getfield 21, 3) := by decide +kernel
theorem dX8_takeNumber_13 : decode cX8_takeNumber 13 = .ok (.if_icmp .ge 55, 3) := by decide +kernel
theorem dX8_takeNumber_16 : decode cX8_takeNumber 16 = .ok (.aload_n 0, 1) := by decide +kernel
theorem dX8_takeNumber_17 : decode cX8_takeNumber 17 = .ok (.getfield 9, 3) := by decide +kernel
theorem dX8_takeNumber_20 : decode cX8_takeNumber 20 = .ok (.aload_n 0, 1) := by decide +kernel
theorem dX8_takeNumber_21 : decode cX8_takeNumber 21 = .ok (.getfield 25, 3) := by decide +kernel
theorem dX8_takeNumber_24 : decode cX8_takeNumber 24 = .ok (.baload, 1) := by decide +kernel
theorem dX8_takeNumber_25 : decode cX8_takeNumber 25 = .ok (.invokestatic 48, 3) := by decide +kernel
theorem dX8_takeNumber_28 : decode cX8_takeNumber 28 = .ok (.ifCond .eq 40, 3) := by decide +kernel
theorem dX8_takeNumber_31 : decode cX8_takeNumber 31 = .ok (.aload_n 0, 1) := by decide +kernel
theorem dX8_takeNumber_32 : decode cX8_takeNumber 32 = .ok (.aload_n 0, 1) := by decide +kernel
theorem dX8_takeNumber_33 : decode cX8_takeNumber 33 = .ok (.getfield 76, 3) := by decide +kernel
theorem dX8_takeNumber_36 : decode cX8_takeNumber 36 = .ok (.bipush 10, 2) := by decide +kernel
theorem dX8_takeNumber_38 : decode cX8_takeNumber 38 = .ok (.imul, 1) := by decide +kernel
theorem dX8_takeNumber_39 : decode cX8_takeNumber 39 = .ok (.aload_n 0, 1) := by decide +kernel
theorem dX8_takeNumber_40 : decode cX8_takeNumber 40 = .ok (.getfield 9, 3) := by decide +kernel
theorem dX8_takeNumber_43 : decode cX8_takeNumber 43 = .ok (.aload_n 0, 1) := by decide +kernel
theorem dX8_takeNumber_44 : decode cX8_takeNumber 44 = .ok (.getfield 25, 3) := by decide +kernel
theorem dX8_takeNumber_47 : decode cX8_takeNumber 47 = .ok (.baload, 1) := by decide +kernel
theorem dX8_takeNumber_48 : decode cX8_takeNumber 48 = .ok (.bipush 48, 2) := by decide +kernel
theorem dX8_takeNumber_50 : decode cX8_takeNumber 50 = .ok (.isub, 1) := by decide +kernel
theorem dX8_takeNumber_51 : decode cX8_takeNumber 51 = .ok (.iadd, 1) := by decide +kernel
theorem dX8_takeNumber_52 : decode cX8_takeNumber 52 = .ok (.putfield 76, 3) := by decide +kernel
theorem dX8_takeNumber_55 : decode cX8_takeNumber 55 = .ok (.aload_n 0, 1) := by decide +kernel
theorem dX8_takeNumber_56 : decode cX8_takeNumber 56 = .ok (.dup, 1) := by decide +kernel
theorem dX8_takeNumber_57 : decode cX8_takeNumber 57 = .ok (.getfield 25, 3) := by decide +kernel
theorem dX8_takeNumber_60 : decode cX8_takeNumber 60 = .ok (.iconst 1, 1) := by decide +kernel
theorem dX8_takeNumber_61 : decode cX8_takeNumber 61 = .ok (.iadd, 1) := by decide +kernel
theorem dX8_takeNumber_62 : decode cX8_takeNumber 62 = .ok (.putfield 25, 3) := by decide +kernel
theorem dX8_takeNumber_65 : decode cX8_takeNumber 65 = .ok (.goto (-60), 3) := by decide +kernel
theorem dX8_takeNumber_68 : decode cX8_takeNumber 68 = .ok (.aload_n 0, 1) := by decide +kernel
theorem dX8_takeNumber_69 : decode cX8_takeNumber 69 = .ok (.aload_n 0, 1) := by decide +kernel
theorem dX8_takeNumber_70 : decode cX8_takeNumber 70 = .ok (.getfield 25, 3) := by decide +kernel
theorem dX8_takeNumber_73 : decode cX8_takeNumber 73 = .ok (.aload_n 0, 1) := by decide +kernel
theorem dX8_takeNumber_74 : decode cX8_takeNumber 74 = .ok (.getfield 35, 3) := by decide +kernel
theorem dX8_takeNumber_77 : decode cX8_takeNumber 77 = .ok (.isub, 1) := by decide +kernel
theorem dX8_takeNumber_78 : decode cX8_takeNumber 78 = .ok (.iconst 4, 1) := by decide +kernel
theorem dX8_takeNumber_79 : decode cX8_takeNumber 79 = .ok (.if_icmp .gt 7, 3) := by decide +kernel
theorem dX8_takeNumber_82 : decode cX8_takeNumber 82 = .ok (.iconst 3, 1) := by decide +kernel
theorem dX8_takeNumber_83 : decode cX8_takeNumber 83 = .ok (.goto 4, 3) := by decide +kernel
theorem dX8_takeNumber_86 : decode cX8_takeNumber 86 = .ok (.iconst 1, 1) := by decide +kernel
theorem dX8_takeNumber_87 : decode cX8_takeNumber 87 = .ok (.putfield 38, 3) := by decide +kernel
theorem dX8_takeNumber_90 : decode cX8_takeNumber 90 = .ok (.return_, 1) := by decide +kernel
theorem dX8_isLetter_0 : decode cX8_isLetter 0 = .ok (.iload_n 0, 1) := by decide +kernel
theorem dX8_isLetter_1 : decode cX8_isLetter 1 = .ok (.bipush 97, 2) := by decide +kernel
theorem dX8_isLetter_3 : decode cX8_isLetter 3 = .ok (.if_icmp .lt 13, 3) := by decide +kernel
theorem dX8_isLetter_6 : decode cX8_isLetter 6 = .ok (.iload_n 0, 1) := by decide +kernel
theorem dX8_isLetter_7 : decode cX8_isLetter 7 = .ok (.bipush 122, 2) := by decide +kernel
theorem dX8_isLetter_9 : decode cX8_isLetter 9 = .ok (.if_icmp .gt 7, 3) := by decide +kernel
theorem dX8_isLetter_12 : decode cX8_isLetter 12 = .ok (.iconst 1, 1) := by decide +kernel
theorem dX8_isLetter_13 : decode cX8_isLetter 13 = .ok (.goto 4, 3) := by decide +kernel
theorem dX8_isLetter_16 : decode cX8_isLetter 16 = .ok (.iconst 0, 1) := by decide +kernel
theorem dX8_isLetter_17 : decode cX8_isLetter 17 = .ok (.ireturn, 1) := by decide +kernel
theorem dX8_isDigit_0 : decode cX8_isDigit 0 = .ok (.iload_n 0, 1) := by decide +kernel
theorem dX8_isDigit_1 : decode cX8_isDigit 1 = .ok (.bipush 48, 2) := by decide +kernel
theorem dX8_isDigit_3 : decode cX8_isDigit 3 = .ok (.if_icmp .lt 13, 3) := by decide +kernel
theorem dX8_isDigit_6 : decode cX8_isDigit 6 = .ok (.iload_n 0, 1) := by decide +kernel
theorem dX8_isDigit_7 : decode cX8_isDigit 7 = .ok (.bipush 57, 2) := by decide +kernel
theorem dX8_isDigit_9 : decode cX8_isDigit 9 = .ok (.if_icmp .gt 7, 3) := by decide +kernel
theorem dX8_isDigit_12 : decode cX8_isDigit 12 = .ok (.iconst 1, 1) := by decide +kernel
theorem dX8_isDigit_13 : decode cX8_isDigit 13 = .ok (.goto 4, 3) := by decide +kernel
theorem dX8_isDigit_16 : decode cX8_isDigit 16 = .ok (.iconst 0, 1) := by decide +kernel
theorem dX8_isDigit_17 : decode cX8_isDigit 17 = .ok (.ireturn, 1) := by decide +kernel
theorem dX8_isSign_0 : decode cX8_isSign 0 = .ok (.iload_n 0, 1) := by decide +kernel
theorem dX8_isSign_1 : decode cX8_isSign 1 = .ok (.tableswitch 105 40 61 #[103, 103, 103, 103, 105, 103, 105, 105, 105, 105, 105, 105, 105, 105, 105, 105, 105, 105, 105, 103, 103, 103], 103) := by decide +kernel
theorem dX8_isSign_104 : decode cX8_isSign 104 = .ok (.iconst 1, 1) := by decide +kernel
theorem dX8_isSign_105 : decode cX8_isSign 105 = .ok (.ireturn, 1) := by decide +kernel
theorem dX8_isSign_106 : decode cX8_isSign 106 = .ok (.iconst 0, 1) := by decide +kernel
theorem dX8_isSign_107 : decode cX8_isSign 107 = .ok (.ireturn, 1) := by decide +kernel
theorem dX9_init_0 : decode cX9_init 0 = .ok (.aload_n 0, 1) := by decide +kernel
theorem dX9_init_1 : decode cX9_init 1 = .ok (.invokespecial 3, 3) := by decide +kernel
theorem dX9_init_4 : decode cX9_init 4 = .ok (.aload_n 0, 1) := by decide +kernel
theorem dX9_init_5 : decode cX9_init 5 = .ok (.bipush 40, 2) := by decide +kernel
theorem dX9_init_7 : decode cX9_init 7 = .ok (.newarray .int, 2) := by decide +kernel
theorem dX9_init_9 : decode cX9_init 9 = .ok (.putfield 9, 3) := by decide +kernel
theorem dX9_init_12 : decode cX9_init 12 = .ok (.aload_n 0, 1) := by decide +kernel
theorem dX9_init_13 : decode cX9_init 13 = .ok (.bipush 64, 2) := by decide +kernel
theorem dX9_init_15 : decode cX9_init 15 = .ok (.newarray .int, 2) := by decide +kernel
theorem dX9_init_17 : decode cX9_init 17 = .ok (.putfield 15, 3) := by decide +kernel
theorem dX9_init_20 : decode cX9_init 20 = .ok (.aload_n 0, 1) := by decide +kernel
theorem dX9_init_21 : decode cX9_init 21 = .ok (.bipush 8, 2) := by decide +kernel
theorem dX9_init_23 : decode cX9_init 23 = .ok (.newarray .int, 2) := by decide +kernel
theorem dX9_init_25 : decode cX9_init 25 = .ok (.putfield 18, 3) := by decide +kernel
theorem dX9_init_28 : decode cX9_init 28 = .ok (.aload_n 0, 1) := by decide +kernel
theorem dX9_init_29 : decode cX9_init 29 = .ok (.bipush 105, 2) := by decide +kernel
theorem dX9_init_31 : decode cX9_init 31 = .ok (.newarray .long, 2) := by decide +kernel
theorem dX9_init_33 : decode cX9_init 33 = .ok (.putfield 21, 3) := by decide +kernel
theorem dX9_init_36 : decode cX9_init 36 = .ok (.return_, 1) := by decide +kernel
theorem dX9_forget_0 : decode cX9_forget 0 = .ok (.aload_n 0, 1) := by decide +kernel
theorem dX9_forget_1 : decode cX9_forget 1 = .ok (.iconst 0, 1) := by decide +kernel
theorem dX9_forget_2 : decode cX9_forget 2 = .ok (.putfield 25, 3) := by decide +kernel
theorem dX9_forget_5 : decode cX9_forget 5 = .ok (.return_, 1) := by decide +kernel
theorem dX9_study_0 : decode cX9_study 0 = .ok (.aload_n 0, 1) := by decide +kernel
theorem dX9_study_1 : decode cX9_study 1 = .ok (.getfield 25, 3) := by decide +kernel
theorem dX9_study_4 : decode cX9_study 4 = .ok (.ifCond .eq 4, 3) := by decide +kernel
theorem dX9_study_7 : decode cX9_study 7 = .ok (.return_, 1) := by decide +kernel
theorem dX9_study_8 : decode cX9_study 8 = .ok (.aload_n 0, 1) := by decide +kernel
theorem dX9_study_9 : decode cX9_study 9 = .ok (.aload_n 1, 1) := by decide +kernel
theorem dX9_study_10 : decode cX9_study 10 = .ok (.getfield 29, 3) := by decide +kernel
theorem dX9_study_13 : decode cX9_study 13 = .ok (.bipush 8, 2) := by decide +kernel
theorem dX9_study_15 : decode cX9_study 15 = .ok (.invokestatic 35, 3) := by decide +kernel
theorem dX9_study_18 : decode cX9_study 18 = .ok (.putfield 41, 3) := by decide +kernel
theorem dX9_study_21 : decode cX9_study 21 = .ok (.iconst 0, 1) := by decide +kernel
theorem dX9_study_22 : decode cX9_study 22 = .ok (.istore_n 3, 1) := by decide +kernel
theorem dX9_study_23 : decode cX9_study 23 = .ok (.iload_n 3, 1) := by decide +kernel
theorem dX9_study_24 : decode cX9_study 24 = .ok (.aload_n 0, 1) := by decide +kernel
theorem dX9_study_25 : decode cX9_study 25 = .ok (.getfield 41, 3) := by decide +kernel
theorem dX9_study_28 : decode cX9_study 28 = .ok (.if_icmp .ge 58, 3) := by decide +kernel
theorem dX9_study_31 : decode cX9_study 31 = .ok (.iconst 0, 1) := by decide +kernel
theorem dX9_study_32 : decode cX9_study 32 = .ok (.istore 4, 2) := by decide +kernel
theorem dX9_study_34 : decode cX9_study 34 = .ok (.iload 4, 2) := by decide +kernel
theorem dX9_study_36 : decode cX9_study 36 = .ok (.aload_n 0, 1) := by decide +kernel
theorem dX9_study_37 : decode cX9_study 37 = .ok (.getfield 41, 3) := by decide +kernel
theorem dX9_study_40 : decode cX9_study 40 = .ok (.if_icmp .ge 40, 3) := by decide +kernel
theorem dX9_study_43 : decode cX9_study 43 = .ok (.aload_n 0, 1) := by decide +kernel
theorem dX9_study_44 : decode cX9_study 44 = .ok (.getfield 15, 3) := by decide +kernel
theorem dX9_study_47 : decode cX9_study 47 = .ok (.iload_n 3, 1) := by decide +kernel
theorem dX9_study_48 : decode cX9_study 48 = .ok (.bipush 8, 2) := by decide +kernel
theorem dX9_study_50 : decode cX9_study 50 = .ok (.imul, 1) := by decide +kernel
theorem dX9_study_51 : decode cX9_study 51 = .ok (.iload 4, 2) := by decide +kernel
theorem dX9_study_53 : decode cX9_study 53 = .ok (.iadd, 1) := by decide +kernel
theorem dX9_study_54 : decode cX9_study 54 = .ok (.iload_n 3, 1) := by decide +kernel
theorem dX9_study_55 : decode cX9_study 55 = .ok (.iload 4, 2) := by decide +kernel
theorem dX9_study_57 : decode cX9_study 57 = .ok (.if_icmp .ne 7, 3) := by decide +kernel
theorem dX9_study_60 : decode cX9_study 60 = .ok (.iconst 0, 1) := by decide +kernel
theorem dX9_study_61 : decode cX9_study 61 = .ok (.goto 12, 3) := by decide +kernel
theorem dX9_study_64 : decode cX9_study 64 = .ok (.aload_n 0, 1) := by decide +kernel
theorem dX9_study_65 : decode cX9_study 65 = .ok (.aload_n 1, 1) := by decide +kernel
theorem dX9_study_66 : decode cX9_study 66 = .ok (.aload_n 2, 1) := by decide +kernel
theorem dX9_study_67 : decode cX9_study 67 = .ok (.iload_n 3, 1) := by decide +kernel
theorem dX9_study_68 : decode cX9_study 68 = .ok (.iload 4, 2) := by decide +kernel
theorem dX9_study_70 : decode cX9_study 70 = .ok (.invokevirtual 42, 3) := by decide +kernel
theorem dX9_study_73 : decode cX9_study 73 = .ok (.iastore, 1) := by decide +kernel
theorem dX9_study_74 : decode cX9_study 74 = .ok (.iinc 4 1, 3) := by decide +kernel
theorem dX9_study_77 : decode cX9_study 77 = .ok (.goto (-43), 3) := by decide +kernel
theorem dX9_study_80 : decode cX9_study 80 = .ok (.iinc 3 1, 3) := by decide +kernel
theorem dX9_study_83 : decode cX9_study 83 = .ok (.goto (-60), 3) := by decide +kernel
theorem dX9_study_86 : decode cX9_study 86 = .ok (.aload_n 0, 1) := by decide +kernel
theorem dX9_study_87 : decode cX9_study 87 = .ok (.getfield 18, 3) := by decide +kernel
theorem dX9_study_90 : decode cX9_study 90 = .ok (.iconst (-1), 1) := by decide +kernel
theorem dX9_study_91 : decode cX9_study 91 = .ok (.invokestatic 46, 3) := by decide +kernel
theorem dX9_study_94 : decode cX9_study 94 = .ok (.aload_n 0, 1) := by decide +kernel
theorem dX9_study_95 : decode cX9_study 95 = .ok (.iconst 0, 1) := by decide +kernel
theorem dX9_study_96 : decode cX9_study 96 = .ok (.putfield 52, 3) := by decide +kernel
theorem dX9_study_99 : decode cX9_study 99 = .ok (.aload_n 0, 1) := by decide +kernel
theorem dX9_study_100 : decode cX9_study 100 = .ok (.iconst 0, 1) := by decide +kernel
theorem dX9_study_101 : decode cX9_study 101 = .ok (.iconst 0, 1) := by decide +kernel
theorem dX9_study_102 : decode cX9_study 102 = .ok (.invokevirtual 55, 3) := by decide +kernel
theorem dX9_study_105 : decode cX9_study 105 = .ok (.aload_n 0, 1) := by decide +kernel
theorem dX9_study_106 : decode cX9_study 106 = .ok (.iconst 1, 1) := by decide +kernel
theorem dX9_study_107 : decode cX9_study 107 = .ok (.putfield 25, 3) := by decide +kernel
theorem dX9_study_110 : decode cX9_study 110 = .ok (.return_, 1) := by decide +kernel
theorem dX9_wishOf_0 : decode cX9_wishOf 0 = .ok (.iconst 0, 1) := by decide +kernel
theorem dX9_wishOf_1 : decode cX9_wishOf 1 = .ok (.sipush 999, 3) := by decide +kernel
theorem dX9_wishOf_4 : decode cX9_wishOf 4 = .ok (.aload_n 0, 1) := by decide +kernel
theorem dX9_wishOf_5 : decode cX9_wishOf 5 = .ok (.aload_n 1, 1) := by decide +kernel
theorem dX9_wishOf_6 : decode cX9_wishOf 6 = .ok (.aload_n 2, 1) := by decide +kernel
theorem dX9_wishOf_7 : decode cX9_wishOf 7 = .ok (.iload_n 3, 1) := by decide +kernel
theorem dX9_wishOf_8 : decode cX9_wishOf 8 = .ok (.iload 4, 2) := by decide +kernel
theorem dX9_wishOf_10 : decode cX9_wishOf 10 = .ok (.invokevirtual 59, 3) := by decide +kernel
theorem dX9_wishOf_13 : decode cX9_wishOf 13 = .ok (.invokestatic 35, 3) := by decide +kernel
theorem dX9_wishOf_16 : decode cX9_wishOf 16 = .ok (.invokestatic 62, 3) := by decide +kernel
theorem dX9_wishOf_19 : decode cX9_wishOf 19 = .ok (.istore 5, 2) := by decide +kernel
theorem dX9_wishOf_21 : decode cX9_wishOf 21 = .ok (.aload_n 2, 1) := by decide +kernel
theorem dX9_wishOf_22 : decode cX9_wishOf 22 = .ok (.iload 4, 2) := by decide +kernel
theorem dX9_wishOf_24 : decode cX9_wishOf 24 = .ok (.iload_n 3, 1) := by decide +kernel
theorem dX9_wishOf_25 : decode cX9_wishOf 25 = .ok (.invokevirtual 65, 3) := by decide +kernel
theorem dX9_wishOf_28 : decode cX9_wishOf 28 = .ok (.istore 6, 2) := by decide +kernel
theorem dX9_wishOf_30 : decode cX9_wishOf 30 = .ok (.aload_n 1, 1) := by decide +kernel
theorem dX9_wishOf_31 : decode cX9_wishOf 31 = .ok (.getfield 71, 3) := by decide +kernel
theorem dX9_wishOf_34 : decode cX9_wishOf 34 = .ok (.iload_n 3, 1) := by decide +kernel
theorem dX9_wishOf_35 : decode cX9_wishOf 35 = .ok (.iaload, 1) := by decide +kernel
theorem dX9_wishOf_36 : decode cX9_wishOf 36 = .ok (.istore 7, 2) := by decide +kernel
theorem dX9_wishOf_38 : decode cX9_wishOf 38 = .ok (.iload 7, 2) := by decide +kernel
theorem dX9_wishOf_40 : decode cX9_wishOf 40 = .ok (.iconst 1, 1) := by decide +kernel
theorem dX9_wishOf_41 : decode cX9_wishOf 41 = .ok (.if_icmp .ne 10, 3) := by decide +kernel
theorem dX9_wishOf_44 : decode cX9_wishOf 44 = .ok (.iload 6, 2) := by decide +kernel
theorem dX9_wishOf_46 : decode cX9_wishOf 46 = .ok (.ifCond .eq 5, 3) := by decide +kernel
theorem dX9_wishOf_49 : decode cX9_wishOf 49 = .ok (.iconst 0, 1) := by decide +kernel
theorem dX9_wishOf_50 : decode cX9_wishOf 50 = .ok (.ireturn, 1) := by decide +kernel
theorem dX9_wishOf_51 : decode cX9_wishOf 51 = .ok (.iload 7, 2) := by decide +kernel
theorem dX9_wishOf_53 : decode cX9_wishOf 53 = .ok (.iconst 2, 1) := by decide +kernel
theorem dX9_wishOf_54 : decode cX9_wishOf 54 = .ok (.if_icmp .ne 16, 3) := by decide +kernel
theorem dX9_wishOf_57 : decode cX9_wishOf 57 = .ok (.aload_n 1, 1) := by decide +kernel
theorem dX9_wishOf_58 : decode cX9_wishOf 58 = .ok (.iload_n 3, 1) := by decide +kernel
theorem dX9_wishOf_59 : decode cX9_wishOf 59 = .ok (.iload 4, 2) := by decide +kernel
theorem dX9_wishOf_61 : decode cX9_wishOf 61 = .ok (.invokevirtual 74, 3) := by decide +kernel
theorem dX9_wishOf_64 : decode cX9_wishOf 64 = .ok (.ifCond .le 6, 3) := by decide +kernel
theorem dX9_wishOf_67 : decode cX9_wishOf 67 = .ok (.iinc 5 10, 3) := by decide +kernel
theorem dX9_wishOf_70 : decode cX9_wishOf 70 = .ok (.iload 7, 2) := by decide +kernel
theorem dX9_wishOf_72 : decode cX9_wishOf 72 = .ok (.iconst 4, 1) := by decide +kernel
theorem dX9_wishOf_73 : decode cX9_wishOf 73 = .ok (.if_icmp .ne 11, 3) := by decide +kernel
theorem dX9_wishOf_76 : decode cX9_wishOf 76 = .ok (.iload 6, 2) := by decide +kernel
theorem dX9_wishOf_78 : decode cX9_wishOf 78 = .ok (.ifCond .eq 6, 3) := by decide +kernel
theorem dX9_wishOf_81 : decode cX9_wishOf 81 = .ok (.iinc 5 20, 3) := by decide +kernel
theorem dX9_wishOf_84 : decode cX9_wishOf 84 = .ok (.sipush 999, 3) := by decide +kernel
theorem dX9_wishOf_87 : decode cX9_wishOf 87 = .ok (.iload 5, 2) := by decide +kernel
theorem dX9_wishOf_89 : decode cX9_wishOf 89 = .ok (.invokestatic 35, 3) := by decide +kernel
theorem dX9_wishOf_92 : decode cX9_wishOf 92 = .ok (.ireturn, 1) := by decide +kernel
theorem dX9_lawOf_0 : decode cX9_lawOf 0 = .ok (.iconst 0, 1) := by decide +kernel
theorem dX9_lawOf_1 : decode cX9_lawOf 1 = .ok (.istore 5, 2) := by decide +kernel
theorem dX9_lawOf_3 : decode cX9_lawOf 3 = .ok (.iconst 0, 1) := by decide +kernel
theorem dX9_lawOf_4 : decode cX9_lawOf 4 = .ok (.istore 6, 2) := by decide +kernel
theorem dX9_lawOf_6 : decode cX9_lawOf 6 = .ok (.iload 6, 2) := by decide +kernel
theorem dX9_lawOf_8 : decode cX9_lawOf 8 = .ok (.aload_n 1, 1) := by decide +kernel
theorem dX9_lawOf_9 : decode cX9_lawOf 9 = .ok (.getfield 77, 3) := by decide +kernel
theorem dX9_lawOf_12 : decode cX9_lawOf 12 = .ok (.arraylength, 1) := by decide +kernel
theorem dX9_lawOf_13 : decode cX9_lawOf 13 = .ok (.if_icmp .ge 159, 3) := by decide +kernel
theorem dX9_lawOf_16 : decode cX9_lawOf 16 = .ok (.aload_n 1, 1) := by decide +kernel
theorem dX9_lawOf_17 : decode cX9_lawOf 17 = .ok (.getfield 77, 3) := by decide +kernel
theorem dX9_lawOf_20 : decode cX9_lawOf 20 = .ok (.iload 6, 2) := by decide +kernel
theorem dX9_lawOf_22 : decode cX9_lawOf 22 = .ok (.iaload, 1) := by decide +kernel
theorem dX9_lawOf_23 : decode cX9_lawOf 23 = .ok (.istore 7, 2) := by decide +kernel
theorem dX9_lawOf_25 : decode cX9_lawOf 25 = .ok (.iload 7, 2) := by decide +kernel
theorem dX9_lawOf_27 : decode cX9_lawOf 27 = .ok (.bipush (-6), 2) := by decide +kernel
theorem dX9_lawOf_29 : decode cX9_lawOf 29 = .ok (.if_icmp .le 46, 3) := by decide +kernel
theorem dX9_lawOf_32 : decode cX9_lawOf 32 = .ok (.iload 5, 2) := by decide +kernel
theorem dX9_lawOf_34 : decode cX9_lawOf 34 = .ok (.aload_n 0, 1) := by decide +kernel
theorem dX9_lawOf_35 : decode cX9_lawOf 35 = .ok (.getfield 9, 3) := by decide +kernel
theorem dX9_lawOf_38 : decode cX9_lawOf 38 = .ok (.arraylength, 1) := by decide +kernel
theorem dX9_lawOf_39 : decode cX9_lawOf 39 = .ok (.if_icmp .ge 36, 3) := by decide +kernel
theorem dX9_lawOf_42 : decode cX9_lawOf 42 = .ok (.aload_n 0, 1) := by decide +kernel
theorem dX9_lawOf_43 : decode cX9_lawOf 43 = .ok (.getfield 9, 3) := by decide +kernel
theorem dX9_lawOf_46 : decode cX9_lawOf 46 = .ok (.iload 5, 2) := by decide +kernel
theorem dX9_lawOf_48 : decode cX9_lawOf 48 = .ok (.iload 7, 2) := by decide +kernel
theorem dX9_lawOf_50 : decode cX9_lawOf 50 = .ok (.ifCond .lt 8, 3) := by decide +kernel
theorem dX9_lawOf_53 : decode cX9_lawOf 53 = .ok (.iload 7, 2) := by decide +kernel
theorem dX9_lawOf_55 : decode cX9_lawOf 55 = .ok (.goto 13, 3) := by decide +kernel
theorem dX9_lawOf_58 : decode cX9_lawOf 58 = .ok (.aload_n 1, 1) := by decide +kernel
theorem dX9_lawOf_59 : decode cX9_lawOf 59 = .ok (.aload_n 2, 1) := by decide +kernel
theorem dX9_lawOf_60 : decode cX9_lawOf 60 = .ok (.iload_n 3, 1) := by decide +kernel
theorem dX9_lawOf_61 : decode cX9_lawOf 61 = .ok (.iload 4, 2) := by decide +kernel
theorem dX9_lawOf_63 : decode cX9_lawOf 63 = .ok (.iload 7, 2) := by decide +kernel
theorem dX9_lawOf_65 : decode cX9_lawOf 65 = .ok (.invokestatic 78, 3) := by decide +kernel
theorem dX9_lawOf_68 : decode cX9_lawOf 68 = .ok (.iastore, 1) := by decide +kernel
theorem dX9_lawOf_69 : decode cX9_lawOf 69 = .ok (.iinc 5 1, 3) := by decide +kernel
theorem dX9_lawOf_72 : decode cX9_lawOf 72 = .ok (.goto 94, 3) := by decide +kernel
theorem dX9_lawOf_75 : decode cX9_lawOf 75 = .ok (.iload 7, 2) := by decide +kernel
theorem dX9_lawOf_77 : decode cX9_lawOf 77 = .ok (.bipush (-6), 2) := by decide +kernel
theorem dX9_lawOf_79 : decode cX9_lawOf 79 = .ok (.if_icmp .ne 41, 3) := by decide +kernel
theorem dX9_lawOf_82 : decode cX9_lawOf 82 = .ok (.iload 5, 2) := by decide +kernel
theorem dX9_lawOf_84 : decode cX9_lawOf 84 = .ok (.iconst 1, 1) := by decide +kernel
theorem dX9_lawOf_85 : decode cX9_lawOf 85 = .ok (.if_icmp .lt 35, 3) := by decide +kernel
theorem dX9_lawOf_88 : decode cX9_lawOf 88 = .ok (.aload_n 0, 1) := by decide +kernel
theorem dX9_lawOf_89 : decode cX9_lawOf 89 = .ok (.getfield 9, 3) := by decide +kernel
theorem dX9_lawOf_92 : decode cX9_lawOf 92 = .ok (.iload 5, 2) := by decide +kernel
theorem dX9_lawOf_94 : decode cX9_lawOf 94 = .ok (.iconst 1, 1) := by decide +kernel
theorem dX9_lawOf_95 : decode cX9_lawOf 95 = .ok (.isub, 1) := by decide +kernel
theorem dX9_lawOf_96 : decode cX9_lawOf 96 = .ok (.aload_n 0, 1) := by decide +kernel
theorem dX9_lawOf_97 : decode cX9_lawOf 97 = .ok (.getfield 9, 3) := by decide +kernel
theorem dX9_lawOf_100 : decode cX9_lawOf 100 = .ok (.iload 5, 2) := by decide +kernel
theorem dX9_lawOf_102 : decode cX9_lawOf 102 = .ok (.iconst 1, 1) := by decide +kernel
theorem dX9_lawOf_103 : decode cX9_lawOf 103 = .ok (.isub, 1) := by decide +kernel
theorem dX9_lawOf_104 : decode cX9_lawOf 104 = .ok (.iaload, 1) := by decide +kernel
theorem dX9_lawOf_105 : decode cX9_lawOf 105 = .ok (.ifCond .ne 7, 3) := by decide +kernel
theorem dX9_lawOf_108 : decode cX9_lawOf 108 = .ok (.iconst 1, 1) := by decide +kernel
theorem dX9_lawOf_109 : decode cX9_lawOf 109 = .ok (.goto 4, 3) := by decide +kernel
theorem dX9_lawOf_112 : decode cX9_lawOf 112 = .ok (.iconst 0, 1) := by decide +kernel
theorem dX9_lawOf_113 : decode cX9_lawOf 113 = .ok (.invokestatic 82, 3) := by decide +kernel
theorem dX9_lawOf_116 : decode cX9_lawOf 116 = .ok (.iastore, 1) := by decide +kernel
theorem dX9_lawOf_117 : decode cX9_lawOf 117 = .ok (.goto 49, 3) := by decide +kernel
theorem dX9_lawOf_120 : decode cX9_lawOf 120 = .ok (.iload 7, 2) := by decide +kernel
theorem dX9_lawOf_122 : decode cX9_lawOf 122 = .ok (.bipush (-6), 2) := by decide +kernel
theorem dX9_lawOf_124 : decode cX9_lawOf 124 = .ok (.if_icmp .ge 42, 3) := by decide +kernel
theorem dX9_lawOf_127 : decode cX9_lawOf 127 = .ok (.iload 5, 2) := by decide +kernel
theorem dX9_lawOf_129 : decode cX9_lawOf 129 = .ok (.iconst 2, 1) := by decide +kernel
theorem dX9_lawOf_130 : decode cX9_lawOf 130 = .ok (.if_icmp .lt 36, 3) := by decide +kernel
theorem dX9_lawOf_133 : decode cX9_lawOf 133 = .ok (.iinc 5 (-1), 3) := by decide +kernel
theorem dX9_lawOf_136 : decode cX9_lawOf 136 = .ok (.aload_n 0, 1) := by decide +kernel
theorem dX9_lawOf_137 : decode cX9_lawOf 137 = .ok (.getfield 9, 3) := by decide +kernel
theorem dX9_lawOf_140 : decode cX9_lawOf 140 = .ok (.iload 5, 2) := by decide +kernel
theorem dX9_lawOf_142 : decode cX9_lawOf 142 = .ok (.iconst 1, 1) := by decide +kernel
theorem dX9_lawOf_143 : decode cX9_lawOf 143 = .ok (.isub, 1) := by decide +kernel
theorem dX9_lawOf_144 : decode cX9_lawOf 144 = .ok (.iload 7, 2) := by decide +kernel
theorem dX9_lawOf_146 : decode cX9_lawOf 146 = .ok (.aload_n 0, 1) := by decide +kernel
theorem dX9_lawOf_147 : decode cX9_lawOf 147 = .ok (.getfield 9, 3) := by decide +kernel
theorem dX9_lawOf_150 : decode cX9_lawOf 150 = .ok (.iload 5, 2) := by decide +kernel
theorem dX9_lawOf_152 : decode cX9_lawOf 152 = .ok (.iconst 1, 1) := by decide +kernel
theorem dX9_lawOf_153 : decode cX9_lawOf 153 = .ok (.isub, 1) := by decide +kernel
theorem dX9_lawOf_154 : decode cX9_lawOf 154 = .ok (.iaload, 1) := by decide +kernel
theorem dX9_lawOf_155 : decode cX9_lawOf 155 = .ok (.aload_n 0, 1) := by decide +kernel
theorem dX9_lawOf_156 : decode cX9_lawOf 156 = .ok (.getfield 9, 3) := by decide +kernel
theorem dX9_lawOf_159 : decode cX9_lawOf 159 = .ok (.iload 5, 2) := by decide +kernel
theorem dX9_lawOf_161 : decode cX9_lawOf 161 = .ok (.iaload, 1) := by decide +kernel
theorem dX9_lawOf_162 : decode cX9_lawOf 162 = .ok (.invokestatic 86, 3) := by decide +kernel
theorem dX9_lawOf_165 : decode cX9_lawOf 165 = .ok (.iastore, 1) := by decide +kernel
theorem dX9_lawOf_166 : decode cX9_lawOf 166 = .ok (.iinc 6 1, 3) := by decide +kernel
theorem dX9_lawOf_169 : decode cX9_lawOf 169 = .ok (.goto (-163), 3) := by decide +kernel
theorem dX9_lawOf_172 : decode cX9_lawOf 172 = .ok (.aload_n 0, 1) := by decide +kernel
theorem dX9_lawOf_173 : decode cX9_lawOf 173 = .ok (.getfield 9, 3) := by decide +kernel
theorem dX9_lawOf_176 : decode cX9_lawOf 176 = .ok (.iconst 0, 1) := by decide +kernel
theorem dX9_lawOf_177 : decode cX9_lawOf 177 = .ok (.iaload, 1) := by decide +kernel
theorem dX9_lawOf_178 : decode cX9_lawOf 178 = .ok (.ireturn, 1) := by decide +kernel
theorem dX9_factOf_0 : decode cX9_factOf 0 = .ok (.iload 4, 2) := by decide +kernel
theorem dX9_factOf_2 : decode cX9_factOf 2 = .ok (.tableswitch 61 (-4) (-1) #[51, 44, 37, 30], 30) := by decide +kernel
theorem dX9_factOf_32 : decode cX9_factOf 32 = .ok (.aload_n 0, 1) := by decide +kernel
theorem dX9_factOf_33 : decode cX9_factOf 33 = .ok (.iload_n 2, 1) := by decide +kernel
theorem dX9_factOf_34 : decode cX9_factOf 34 = .ok (.iload_n 3, 1) := by decide +kernel
theorem dX9_factOf_35 : decode cX9_factOf 35 = .ok (.invokevirtual 74, 3) := by decide +kernel
theorem dX9_factOf_38 : decode cX9_factOf 38 = .ok (.ireturn, 1) := by decide +kernel
theorem dX9_factOf_39 : decode cX9_factOf 39 = .ok (.aload_n 0, 1) := by decide +kernel
theorem dX9_factOf_40 : decode cX9_factOf 40 = .ok (.getfield 90, 3) := by decide +kernel
theorem dX9_factOf_43 : decode cX9_factOf 43 = .ok (.iload_n 2, 1) := by decide +kernel
theorem dX9_factOf_44 : decode cX9_factOf 44 = .ok (.iaload, 1) := by decide +kernel
theorem dX9_factOf_45 : decode cX9_factOf 45 = .ok (.ireturn, 1) := by decide +kernel
theorem dX9_factOf_46 : decode cX9_factOf 46 = .ok (.aload_n 0, 1) := by decide +kernel
theorem dX9_factOf_47 : decode cX9_factOf 47 = .ok (.getfield 90, 3) := by decide +kernel
theorem dX9_factOf_50 : decode cX9_factOf 50 = .ok (.iload_n 3, 1) := by decide +kernel
theorem dX9_factOf_51 : decode cX9_factOf 51 = .ok (.iaload, 1) := by decide +kernel
theorem dX9_factOf_52 : decode cX9_factOf 52 = .ok (.ireturn, 1) := by decide +kernel
theorem dX9_factOf_53 : decode cX9_factOf 53 = .ok (.aload_n 1, 1) := by decide +kernel
theorem dX9_factOf_54 : decode cX9_factOf 54 = .ok (.iload_n 3, 1) := by decide +kernel
theorem dX9_factOf_55 : decode cX9_factOf 55 = .ok (.iload_n 2, 1) := by decide +kernel
theorem dX9_factOf_56 : decode cX9_factOf 56 = .ok (.invokevirtual 65, 3) := by decide +kernel
theorem dX9_factOf_59 : decode cX9_factOf 59 = .ok (.invokestatic 82, 3) := by decide +kernel
theorem dX9_factOf_62 : decode cX9_factOf 62 = .ok (.ireturn, 1) := by decide +kernel
theorem dX9_factOf_63 : decode cX9_factOf 63 = .ok (.aload_n 1, 1) := by decide +kernel
theorem dX9_factOf_64 : decode cX9_factOf 64 = .ok (.iload_n 2, 1) := by decide +kernel
theorem dX9_factOf_65 : decode cX9_factOf 65 = .ok (.iload_n 3, 1) := by decide +kernel
theorem dX9_factOf_66 : decode cX9_factOf 66 = .ok (.invokevirtual 65, 3) := by decide +kernel
theorem dX9_factOf_69 : decode cX9_factOf 69 = .ok (.invokestatic 82, 3) := by decide +kernel
theorem dX9_factOf_72 : decode cX9_factOf 72 = .ok (.ireturn, 1) := by decide +kernel
theorem dX9_joined_0 : decode cX9_joined 0 = .ok (.iload_n 0, 1) := by decide +kernel
theorem dX9_joined_1 : decode cX9_joined 1 = .ok (.tableswitch 109 (-12) (-7) #[105, 101, 87, 73, 56, 39], 39) := by decide +kernel
theorem dX9_joined_40 : decode cX9_joined 40 = .ok (.iload_n 1, 1) := by decide +kernel
theorem dX9_joined_41 : decode cX9_joined 41 = .ok (.ifCond .eq 11, 3) := by decide +kernel
theorem dX9_joined_44 : decode cX9_joined 44 = .ok (.iload_n 2, 1) := by decide +kernel
theorem dX9_joined_45 : decode cX9_joined 45 = .ok (.ifCond .eq 7, 3) := by decide +kernel
theorem dX9_joined_48 : decode cX9_joined 48 = .ok (.iconst 1, 1) := by decide +kernel
theorem dX9_joined_49 : decode cX9_joined 49 = .ok (.goto 4, 3) := by decide +kernel
theorem dX9_joined_52 : decode cX9_joined 52 = .ok (.iconst 0, 1) := by decide +kernel
theorem dX9_joined_53 : decode cX9_joined 53 = .ok (.invokestatic 82, 3) := by decide +kernel
theorem dX9_joined_56 : decode cX9_joined 56 = .ok (.ireturn, 1) := by decide +kernel
theorem dX9_joined_57 : decode cX9_joined 57 = .ok (.iload_n 1, 1) := by decide +kernel
theorem dX9_joined_58 : decode cX9_joined 58 = .ok (.ifCond .ne 7, 3) := by decide +kernel
theorem dX9_joined_61 : decode cX9_joined 61 = .ok (.iload_n 2, 1) := by decide +kernel
theorem dX9_joined_62 : decode cX9_joined 62 = .ok (.ifCond .eq 7, 3) := by decide +kernel
theorem dX9_joined_65 : decode cX9_joined 65 = .ok (.iconst 1, 1) := by decide +kernel
theorem dX9_joined_66 : decode cX9_joined 66 = .ok (.goto 4, 3) := by decide +kernel
theorem dX9_joined_69 : decode cX9_joined 69 = .ok (.iconst 0, 1) := by decide +kernel
theorem dX9_joined_70 : decode cX9_joined 70 = .ok (.invokestatic 82, 3) := by decide +kernel
theorem dX9_joined_73 : decode cX9_joined 73 = .ok (.ireturn, 1) := by decide +kernel
theorem dX9_joined_74 : decode cX9_joined 74 = .ok (.iload_n 1, 1) := by decide +kernel
theorem dX9_joined_75 : decode cX9_joined 75 = .ok (.iload_n 2, 1) := by decide +kernel
theorem dX9_joined_76 : decode cX9_joined 76 = .ok (.if_icmp .ge 7, 3) := by decide +kernel
theorem dX9_joined_79 : decode cX9_joined 79 = .ok (.iconst 1, 1) := by decide +kernel
theorem dX9_joined_80 : decode cX9_joined 80 = .ok (.goto 4, 3) := by decide +kernel
theorem dX9_joined_83 : decode cX9_joined 83 = .ok (.iconst 0, 1) := by decide +kernel
theorem dX9_joined_84 : decode cX9_joined 84 = .ok (.invokestatic 82, 3) := by decide +kernel
theorem dX9_joined_87 : decode cX9_joined 87 = .ok (.ireturn, 1) := by decide +kernel
theorem dX9_joined_88 : decode cX9_joined 88 = .ok (.iload_n 1, 1) := by decide +kernel
theorem dX9_joined_89 : decode cX9_joined 89 = .ok (.iload_n 2, 1) := by decide +kernel
theorem dX9_joined_90 : decode cX9_joined 90 = .ok (.if_icmp .ne 7, 3) := by decide +kernel
theorem dX9_joined_93 : decode cX9_joined 93 = .ok (.iconst 1, 1) := by decide +kernel
theorem dX9_joined_94 : decode cX9_joined 94 = .ok (.goto 4, 3) := by decide +kernel
theorem dX9_joined_97 : decode cX9_joined 97 = .ok (.iconst 0, 1) := by decide +kernel
theorem dX9_joined_98 : decode cX9_joined 98 = .ok (.invokestatic 82, 3) := by decide +kernel
theorem dX9_joined_101 : decode cX9_joined 101 = .ok (.ireturn, 1) := by decide +kernel
theorem dX9_joined_102 : decode cX9_joined 102 = .ok (.iload_n 1, 1) := by decide +kernel
theorem dX9_joined_103 : decode cX9_joined 103 = .ok (.iload_n 2, 1) := by decide +kernel
theorem dX9_joined_104 : decode cX9_joined 104 = .ok (.iadd, 1) := by decide +kernel
theorem dX9_joined_105 : decode cX9_joined 105 = .ok (.ireturn, 1) := by decide +kernel
theorem dX9_joined_106 : decode cX9_joined 106 = .ok (.iload_n 1, 1) := by decide +kernel
theorem dX9_joined_107 : decode cX9_joined 107 = .ok (.iload_n 2, 1) := by decide +kernel
theorem dX9_joined_108 : decode cX9_joined 108 = .ok (.isub, 1) := by decide +kernel
theorem dX9_joined_109 : decode cX9_joined 109 = .ok (.ireturn, 1) := by decide +kernel
theorem dX9_joined_110 : decode cX9_joined 110 = .ok (.iload_n 1, 1) := by decide +kernel
theorem dX9_joined_111 : decode cX9_joined 111 = .ok (.iload_n 2, 1) := by decide +kernel
theorem dX9_joined_112 : decode cX9_joined 112 = .ok (.imul, 1) := by decide +kernel
theorem dX9_joined_113 : decode cX9_joined 113 = .ok (.ireturn, 1) := by decide +kernel
theorem dX9_bit_0 : decode cX9_bit 0 = .ok (.iload_n 0, 1) := by decide +kernel
theorem dX9_bit_1 : decode cX9_bit 1 = .ok (.ifCond .eq 7, 3) := by decide +kernel
theorem dX9_bit_4 : decode cX9_bit 4 = .ok (.iconst 1, 1) := by decide +kernel
theorem dX9_bit_5 : decode cX9_bit 5 = .ok (.goto 4, 3) := by decide +kernel
theorem dX9_bit_8 : decode cX9_bit 8 = .ok (.iconst 0, 1) := by decide +kernel
theorem dX9_bit_9 : decode cX9_bit 9 = .ok (.ireturn, 1) := by decide +kernel
theorem dX9_mateIn_0 : decode cX9_mateIn 0 = .ok (.aload_n 0, 1) := by decide +kernel
theorem dX9_mateIn_1 : decode cX9_mateIn 1 = .ok (.getfield 21, 3) := by decide +kernel
theorem dX9_mateIn_4 : decode cX9_mateIn 4 = .ok (.iload_n 1, 1) := by decide +kernel
theorem dX9_mateIn_5 : decode cX9_mateIn 5 = .ok (.laload, 1) := by decide +kernel
theorem dX9_mateIn_6 : decode cX9_mateIn 6 = .ok (.iconst 4, 1) := by decide +kernel
theorem dX9_mateIn_7 : decode cX9_mateIn 7 = .ok (.iload_n 2, 1) := by decide +kernel
theorem dX9_mateIn_8 : decode cX9_mateIn 8 = .ok (.imul, 1) := by decide +kernel
theorem dX9_mateIn_9 : decode cX9_mateIn 9 = .ok (.lshr, 1) := by decide +kernel
theorem dX9_mateIn_10 : decode cX9_mateIn 10 = .ok (.ldc2_w 93, 3) := by decide +kernel
theorem dX9_mateIn_13 : decode cX9_mateIn 13 = .ok (.land, 1) := by decide +kernel
theorem dX9_mateIn_14 : decode cX9_mateIn 14 = .ok (.l2i, 1) := by decide +kernel
theorem dX9_mateIn_15 : decode cX9_mateIn 15 = .ok (.ireturn, 1) := by decide +kernel
theorem dX9_pairFrom_0 : decode cX9_pairFrom 0 = .ok (.iload_n 1, 1) := by decide +kernel
theorem dX9_pairFrom_1 : decode cX9_pairFrom 1 = .ok (.istore_n 3, 1) := by decide +kernel
theorem dX9_pairFrom_2 : decode cX9_pairFrom 2 = .ok (.iload_n 3, 1) := by decide +kernel
theorem dX9_pairFrom_3 : decode cX9_pairFrom 3 = .ok (.aload_n 0, 1) := by decide +kernel
theorem dX9_pairFrom_4 : decode cX9_pairFrom 4 = .ok (.getfield 41, 3) := by decide +kernel
theorem dX9_pairFrom_7 : decode cX9_pairFrom 7 = .ok (.if_icmp .ge 19, 3) := by decide +kernel
theorem dX9_pairFrom_10 : decode cX9_pairFrom 10 = .ok (.aload_n 0, 1) := by decide +kernel
theorem dX9_pairFrom_11 : decode cX9_pairFrom 11 = .ok (.getfield 18, 3) := by decide +kernel
theorem dX9_pairFrom_14 : decode cX9_pairFrom 14 = .ok (.iload_n 3, 1) := by decide +kernel
theorem dX9_pairFrom_15 : decode cX9_pairFrom 15 = .ok (.iaload, 1) := by decide +kernel
theorem dX9_pairFrom_16 : decode cX9_pairFrom 16 = .ok (.iconst (-1), 1) := by decide +kernel
theorem dX9_pairFrom_17 : decode cX9_pairFrom 17 = .ok (.if_icmp .eq 9, 3) := by decide +kernel
theorem dX9_pairFrom_20 : decode cX9_pairFrom 20 = .ok (.iinc 3 1, 3) := by decide +kernel
theorem dX9_pairFrom_23 : decode cX9_pairFrom 23 = .ok (.goto (-21), 3) := by decide +kernel
theorem dX9_pairFrom_26 : decode cX9_pairFrom 26 = .ok (.iload_n 3, 1) := by decide +kernel
theorem dX9_pairFrom_27 : decode cX9_pairFrom 27 = .ok (.aload_n 0, 1) := by decide +kernel
theorem dX9_pairFrom_28 : decode cX9_pairFrom 28 = .ok (.getfield 41, 3) := by decide +kernel
theorem dX9_pairFrom_31 : decode cX9_pairFrom 31 = .ok (.if_icmp .lt 8, 3) := by decide +kernel
theorem dX9_pairFrom_34 : decode cX9_pairFrom 34 = .ok (.aload_n 0, 1) := by decide +kernel
theorem dX9_pairFrom_35 : decode cX9_pairFrom 35 = .ok (.invokevirtual 95, 3) := by decide +kernel
theorem dX9_pairFrom_38 : decode cX9_pairFrom 38 = .ok (.return_, 1) := by decide +kernel
theorem dX9_pairFrom_39 : decode cX9_pairFrom 39 = .ok (.iload_n 2, 1) := by decide +kernel
theorem dX9_pairFrom_40 : decode cX9_pairFrom 40 = .ok (.iconst 4, 1) := by decide +kernel
theorem dX9_pairFrom_41 : decode cX9_pairFrom 41 = .ok (.if_icmp .le 4, 3) := by decide +kernel
theorem dX9_pairFrom_44 : decode cX9_pairFrom 44 = .ok (.return_, 1) := by decide +kernel
theorem dX9_pairFrom_45 : decode cX9_pairFrom 45 = .ok (.iload_n 3, 1) := by decide +kernel
theorem dX9_pairFrom_46 : decode cX9_pairFrom 46 = .ok (.iconst 1, 1) := by decide +kernel
theorem dX9_pairFrom_47 : decode cX9_pairFrom 47 = .ok (.iadd, 1) := by decide +kernel
theorem dX9_pairFrom_48 : decode cX9_pairFrom 48 = .ok (.istore 4, 2) := by decide +kernel
theorem dX9_pairFrom_50 : decode cX9_pairFrom 50 = .ok (.iload 4, 2) := by decide +kernel
theorem dX9_pairFrom_52 : decode cX9_pairFrom 52 = .ok (.aload_n 0, 1) := by decide +kernel
theorem dX9_pairFrom_53 : decode cX9_pairFrom 53 = .ok (.getfield 41, 3) := by decide +kernel
theorem dX9_pairFrom_56 : decode cX9_pairFrom 56 = .ok (.if_icmp .ge 30, 3) := by decide +kernel
theorem dX9_pairFrom_59 : decode cX9_pairFrom 59 = .ok (.aload_n 0, 1) := by decide +kernel
theorem dX9_pairFrom_60 : decode cX9_pairFrom 60 = .ok (.getfield 18, 3) := by decide +kernel
theorem dX9_pairFrom_63 : decode cX9_pairFrom 63 = .ok (.iload 4, 2) := by decide +kernel
theorem dX9_pairFrom_65 : decode cX9_pairFrom 65 = .ok (.iaload, 1) := by decide +kernel
theorem dX9_pairFrom_66 : decode cX9_pairFrom 66 = .ok (.iconst (-1), 1) := by decide +kernel
theorem dX9_pairFrom_67 : decode cX9_pairFrom 67 = .ok (.if_icmp .ne 13, 3) := by decide +kernel
theorem dX9_pairFrom_70 : decode cX9_pairFrom 70 = .ok (.aload_n 0, 1) := by decide +kernel
theorem dX9_pairFrom_71 : decode cX9_pairFrom 71 = .ok (.iload_n 3, 1) := by decide +kernel
theorem dX9_pairFrom_72 : decode cX9_pairFrom 72 = .ok (.iload 4, 2) := by decide +kernel
theorem dX9_pairFrom_74 : decode cX9_pairFrom 74 = .ok (.iload_n 2, 1) := by decide +kernel
theorem dX9_pairFrom_75 : decode cX9_pairFrom 75 = .ok (.iconst 1, 1) := by decide +kernel
theorem dX9_pairFrom_76 : decode cX9_pairFrom 76 = .ok (.iadd, 1) := by decide +kernel
theorem dX9_pairFrom_77 : decode cX9_pairFrom 77 = .ok (.invokevirtual 98, 3) := by decide +kernel
theorem dX9_pairFrom_80 : decode cX9_pairFrom 80 = .ok (.iinc 4 1, 3) := by decide +kernel
theorem dX9_pairFrom_83 : decode cX9_pairFrom 83 = .ok (.goto (-33), 3) := by decide +kernel
theorem dX9_pairFrom_86 : decode cX9_pairFrom 86 = .ok (.return_, 1) := by decide +kernel
theorem dX9_pairUp_0 : decode cX9_pairUp 0 = .ok (.aload_n 0, 1) := by decide +kernel
theorem dX9_pairUp_1 : decode cX9_pairUp 1 = .ok (.getfield 18, 3) := by decide +kernel
theorem dX9_pairUp_4 : decode cX9_pairUp 4 = .ok (.iload_n 1, 1) := by decide +kernel
theorem dX9_pairUp_5 : decode cX9_pairUp 5 = .ok (.iload_n 2, 1) := by decide +kernel
theorem dX9_pairUp_6 : decode cX9_pairUp 6 = .ok (.iastore, 1) := by decide +kernel
theorem dX9_pairUp_7 : decode cX9_pairUp 7 = .ok (.aload_n 0, 1) := by decide +kernel
theorem dX9_pairUp_8 : decode cX9_pairUp 8 = .ok (.getfield 18, 3) := by decide +kernel
theorem dX9_pairUp_11 : decode cX9_pairUp 11 = .ok (.iload_n 2, 1) := by decide +kernel
theorem dX9_pairUp_12 : decode cX9_pairUp 12 = .ok (.iload_n 1, 1) := by decide +kernel
theorem dX9_pairUp_13 : decode cX9_pairUp 13 = .ok (.iastore, 1) := by decide +kernel
theorem dX9_pairUp_14 : decode cX9_pairUp 14 = .ok (.aload_n 0, 1) := by decide +kernel
theorem dX9_pairUp_15 : decode cX9_pairUp 15 = .ok (.iload_n 1, 1) := by decide +kernel
theorem dX9_pairUp_16 : decode cX9_pairUp 16 = .ok (.iconst 1, 1) := by decide +kernel
theorem dX9_pairUp_17 : decode cX9_pairUp 17 = .ok (.iadd, 1) := by decide +kernel
theorem dX9_pairUp_18 : decode cX9_pairUp 18 = .ok (.iload_n 3, 1) := by decide +kernel
theorem dX9_pairUp_19 : decode cX9_pairUp 19 = .ok (.invokevirtual 55, 3) := by decide +kernel
theorem dX9_pairUp_22 : decode cX9_pairUp 22 = .ok (.aload_n 0, 1) := by decide +kernel
theorem dX9_pairUp_23 : decode cX9_pairUp 23 = .ok (.getfield 18, 3) := by decide +kernel
theorem dX9_pairUp_26 : decode cX9_pairUp 26 = .ok (.iload_n 2, 1) := by decide +kernel
theorem dX9_pairUp_27 : decode cX9_pairUp 27 = .ok (.iconst (-1), 1) := by decide +kernel
theorem dX9_pairUp_28 : decode cX9_pairUp 28 = .ok (.iastore, 1) := by decide +kernel
theorem dX9_pairUp_29 : decode cX9_pairUp 29 = .ok (.aload_n 0, 1) := by decide +kernel
theorem dX9_pairUp_30 : decode cX9_pairUp 30 = .ok (.getfield 18, 3) := by decide +kernel
theorem dX9_pairUp_33 : decode cX9_pairUp 33 = .ok (.iload_n 1, 1) := by decide +kernel
theorem dX9_pairUp_34 : decode cX9_pairUp 34 = .ok (.iconst (-1), 1) := by decide +kernel
theorem dX9_pairUp_35 : decode cX9_pairUp 35 = .ok (.iastore, 1) := by decide +kernel
theorem dX9_pairUp_36 : decode cX9_pairUp 36 = .ok (.return_, 1) := by decide +kernel
theorem dX9_keepIfAtRest_0 : decode cX9_keepIfAtRest 0 = .ok (.lconst 0, 1) := by decide +kernel
theorem dX9_keepIfAtRest_1 : decode cX9_keepIfAtRest 1 = .ok (.lstore_n 1, 1) := by decide +kernel
theorem dX9_keepIfAtRest_2 : decode cX9_keepIfAtRest 2 = .ok (.iconst 0, 1) := by decide +kernel
theorem dX9_keepIfAtRest_3 : decode cX9_keepIfAtRest 3 = .ok (.istore_n 3, 1) := by decide +kernel
theorem dX9_keepIfAtRest_4 : decode cX9_keepIfAtRest 4 = .ok (.iload_n 3, 1) := by decide +kernel
theorem dX9_keepIfAtRest_5 : decode cX9_keepIfAtRest 5 = .ok (.aload_n 0, 1) := by decide +kernel
theorem dX9_keepIfAtRest_6 : decode cX9_keepIfAtRest 6 = .ok (.getfield 41, 3) := by decide +kernel
theorem dX9_keepIfAtRest_9 : decode cX9_keepIfAtRest 9 = .ok (.if_icmp .ge 64, 3) := by decide +kernel
theorem dX9_keepIfAtRest_12 : decode cX9_keepIfAtRest 12 = .ok (.iload_n 3, 1) := by decide +kernel
theorem dX9_keepIfAtRest_13 : decode cX9_keepIfAtRest 13 = .ok (.iconst 1, 1) := by decide +kernel
theorem dX9_keepIfAtRest_14 : decode cX9_keepIfAtRest 14 = .ok (.iadd, 1) := by decide +kernel
theorem dX9_keepIfAtRest_15 : decode cX9_keepIfAtRest 15 = .ok (.istore 4, 2) := by decide +kernel
theorem dX9_keepIfAtRest_17 : decode cX9_keepIfAtRest 17 = .ok (.iload 4, 2) := by decide +kernel
theorem dX9_keepIfAtRest_19 : decode cX9_keepIfAtRest 19 = .ok (.aload_n 0, 1) := by decide +kernel
theorem dX9_keepIfAtRest_20 : decode cX9_keepIfAtRest 20 = .ok (.getfield 41, 3) := by decide +kernel
theorem dX9_keepIfAtRest_23 : decode cX9_keepIfAtRest 23 = .ok (.if_icmp .ge 30, 3) := by decide +kernel
theorem dX9_keepIfAtRest_26 : decode cX9_keepIfAtRest 26 = .ok (.aload_n 0, 1) := by decide +kernel
theorem dX9_keepIfAtRest_27 : decode cX9_keepIfAtRest 27 = .ok (.iload_n 3, 1) := by decide +kernel
theorem dX9_keepIfAtRest_28 : decode cX9_keepIfAtRest 28 = .ok (.iload 4, 2) := by decide +kernel
theorem dX9_keepIfAtRest_30 : decode cX9_keepIfAtRest 30 = .ok (.invokevirtual 102, 3) := by decide +kernel
theorem dX9_keepIfAtRest_33 : decode cX9_keepIfAtRest 33 = .ok (.ifCond .eq 14, 3) := by decide +kernel
theorem dX9_keepIfAtRest_36 : decode cX9_keepIfAtRest 36 = .ok (.aload_n 0, 1) := by decide +kernel
theorem dX9_keepIfAtRest_37 : decode cX9_keepIfAtRest 37 = .ok (.iload 4, 2) := by decide +kernel
theorem dX9_keepIfAtRest_39 : decode cX9_keepIfAtRest 39 = .ok (.iload_n 3, 1) := by decide +kernel
theorem dX9_keepIfAtRest_40 : decode cX9_keepIfAtRest 40 = .ok (.invokevirtual 102, 3) := by decide +kernel
theorem dX9_keepIfAtRest_43 : decode cX9_keepIfAtRest 43 = .ok (.ifCond .eq 4, 3) := by decide +kernel
theorem dX9_keepIfAtRest_46 : decode cX9_keepIfAtRest 46 = .ok (.return_, 1) := by decide +kernel
theorem dX9_keepIfAtRest_47 : decode cX9_keepIfAtRest 47 = .ok (.iinc 4 1, 3) := by decide +kernel
theorem dX9_keepIfAtRest_50 : decode cX9_keepIfAtRest 50 = .ok (.goto (-33), 3) := by decide +kernel
theorem dX9_keepIfAtRest_53 : decode cX9_keepIfAtRest 53 = .ok (.lload_n 1, 1) := by decide +kernel
theorem dX9_keepIfAtRest_54 : decode cX9_keepIfAtRest 54 = .ok (.aload_n 0, 1) := by decide +kernel
theorem dX9_keepIfAtRest_55 : decode cX9_keepIfAtRest 55 = .ok (.getfield 18, 3) := by decide +kernel
theorem dX9_keepIfAtRest_58 : decode cX9_keepIfAtRest 58 = .ok (.iload_n 3, 1) := by decide +kernel
theorem dX9_keepIfAtRest_59 : decode cX9_keepIfAtRest 59 = .ok (.iaload, 1) := by decide +kernel
theorem dX9_keepIfAtRest_60 : decode cX9_keepIfAtRest 60 = .ok (.i2l, 1) := by decide +kernel
theorem dX9_keepIfAtRest_61 : decode cX9_keepIfAtRest 61 = .ok (.iconst 4, 1) := by decide +kernel
theorem dX9_keepIfAtRest_62 : decode cX9_keepIfAtRest 62 = .ok (.iload_n 3, 1) := by decide +kernel
theorem dX9_keepIfAtRest_63 : decode cX9_keepIfAtRest 63 = .ok (.imul, 1) := by decide +kernel
theorem dX9_keepIfAtRest_64 : decode cX9_keepIfAtRest 64 = .ok (.lshl, 1) := by decide +kernel
theorem dX9_keepIfAtRest_65 : decode cX9_keepIfAtRest 65 = .ok (.lor, 1) := by decide +kernel
theorem dX9_keepIfAtRest_66 : decode cX9_keepIfAtRest 66 = .ok (.lstore_n 1, 1) := by decide +kernel
theorem dX9_keepIfAtRest_67 : decode cX9_keepIfAtRest 67 = .ok (.iinc 3 1, 3) := by decide +kernel
theorem dX9_keepIfAtRest_70 : decode cX9_keepIfAtRest 70 = .ok (.goto (-66), 3) := by decide +kernel
theorem dX9_keepIfAtRest_73 : decode cX9_keepIfAtRest 73 = .ok (.aload_n 0, 1) := by decide +kernel
theorem dX9_keepIfAtRest_74 : decode cX9_keepIfAtRest 74 = .ok (.getfield 52, 3) := by decide +kernel
theorem dX9_keepIfAtRest_77 : decode cX9_keepIfAtRest 77 = .ok (.aload_n 0, 1) := by decide +kernel
theorem dX9_keepIfAtRest_78 : decode cX9_keepIfAtRest 78 = .ok (.getfield 21, 3) := by decide +kernel
theorem dX9_keepIfAtRest_81 : decode cX9_keepIfAtRest 81 = .ok (.arraylength, 1) := by decide +kernel
theorem dX9_keepIfAtRest_82 : decode cX9_keepIfAtRest 82 = .ok (.if_icmp .ge 23, 3) := by decide +kernel
theorem dX9_keepIfAtRest_85 : decode cX9_keepIfAtRest 85 = .ok (.aload_n 0, 1) := by decide +kernel
theorem dX9_keepIfAtRest_86 : decode cX9_keepIfAtRest 86 = .ok (.getfield 21, 3) := by decide +kernel
theorem dX9_keepIfAtRest_89 : decode cX9_keepIfAtRest 89 = .ok (.aload_n 0, 1) := by decide +kernel
theorem dX9_keepIfAtRest_90 : decode cX9_keepIfAtRest 90 = .ok (.getfield 52, 3) := by decide +kernel
theorem dX9_keepIfAtRest_93 : decode cX9_keepIfAtRest 93 = .ok (.lload_n 1, 1) := by decide +kernel
theorem dX9_keepIfAtRest_94 : decode cX9_keepIfAtRest 94 = .ok (.lastore, 1) := by decide +kernel
theorem dX9_keepIfAtRest_95 : decode cX9_keepIfAtRest 95 = .ok (.aload_n 0, 1) := by decide +kernel
theorem dX9_keepIfAtRest_96 : decode cX9_keepIfAtRest 96 = .ok (.dup, 1) := by decide +kernel
theorem dX9_keepIfAtRest_97 : decode cX9_keepIfAtRest 97 = .ok (.getfield 52, 3) := by decide +kernel
theorem dX9_keepIfAtRest_100 : decode cX9_keepIfAtRest 100 = .ok (.iconst 1, 1) := by decide +kernel
theorem dX9_keepIfAtRest_101 : decode cX9_keepIfAtRest 101 = .ok (.iadd, 1) := by decide +kernel
theorem dX9_keepIfAtRest_102 : decode cX9_keepIfAtRest 102 = .ok (.putfield 52, 3) := by decide +kernel
theorem dX9_keepIfAtRest_105 : decode cX9_keepIfAtRest 105 = .ok (.return_, 1) := by decide +kernel
theorem dX9_wouldRather_0 : decode cX9_wouldRather 0 = .ok (.aload_n 0, 1) := by decide +kernel
theorem dX9_wouldRather_1 : decode cX9_wouldRather 1 = .ok (.getfield 15, 3) := by decide +kernel
theorem dX9_wouldRather_4 : decode cX9_wouldRather 4 = .ok (.iload_n 1, 1) := by decide +kernel
theorem dX9_wouldRather_5 : decode cX9_wouldRather 5 = .ok (.bipush 8, 2) := by decide +kernel
theorem dX9_wouldRather_7 : decode cX9_wouldRather 7 = .ok (.imul, 1) := by decide +kernel
theorem dX9_wouldRather_8 : decode cX9_wouldRather 8 = .ok (.iload_n 2, 1) := by decide +kernel
theorem dX9_wouldRather_9 : decode cX9_wouldRather 9 = .ok (.iadd, 1) := by decide +kernel
theorem dX9_wouldRather_10 : decode cX9_wouldRather 10 = .ok (.iaload, 1) := by decide +kernel
theorem dX9_wouldRather_11 : decode cX9_wouldRather 11 = .ok (.aload_n 0, 1) := by decide +kernel
theorem dX9_wouldRather_12 : decode cX9_wouldRather 12 = .ok (.getfield 15, 3) := by decide +kernel
theorem dX9_wouldRather_15 : decode cX9_wouldRather 15 = .ok (.iload_n 1, 1) := by decide +kernel
theorem dX9_wouldRather_16 : decode cX9_wouldRather 16 = .ok (.bipush 8, 2) := by decide +kernel
theorem dX9_wouldRather_18 : decode cX9_wouldRather 18 = .ok (.imul, 1) := by decide +kernel
theorem dX9_wouldRather_19 : decode cX9_wouldRather 19 = .ok (.aload_n 0, 1) := by decide +kernel
theorem dX9_wouldRather_20 : decode cX9_wouldRather 20 = .ok (.getfield 18, 3) := by decide +kernel
theorem dX9_wouldRather_23 : decode cX9_wouldRather 23 = .ok (.iload_n 1, 1) := by decide +kernel
theorem dX9_wouldRather_24 : decode cX9_wouldRather 24 = .ok (.iaload, 1) := by decide +kernel
theorem dX9_wouldRather_25 : decode cX9_wouldRather 25 = .ok (.iadd, 1) := by decide +kernel
theorem dX9_wouldRather_26 : decode cX9_wouldRather 26 = .ok (.iaload, 1) := by decide +kernel
theorem dX9_wouldRather_27 : decode cX9_wouldRather 27 = .ok (.if_icmp .le 7, 3) := by decide +kernel
theorem dX9_wouldRather_30 : decode cX9_wouldRather 30 = .ok (.iconst 1, 1) := by decide +kernel
theorem dX9_wouldRather_31 : decode cX9_wouldRather 31 = .ok (.goto 4, 3) := by decide +kernel
theorem dX9_wouldRather_34 : decode cX9_wouldRather 34 = .ok (.iconst 0, 1) := by decide +kernel
theorem dX9_wouldRather_35 : decode cX9_wouldRather 35 = .ok (.ireturn, 1) := by decide +kernel
theorem dX11_init_0 : decode cX11_init 0 = .ok (.aload_n 0, 1) := by decide +kernel
theorem dX11_init_1 : decode cX11_init 1 = .ok (.invokespecial 3, 3) := by decide +kernel
theorem dX11_init_4 : decode cX11_init 4 = .ok (.aload_n 0, 1) := by decide +kernel
theorem dX11_init_5 : decode cX11_init 5 = .ok (.sipush 1000, 3) := by decide +kernel
theorem dX11_init_8 : decode cX11_init 8 = .ok (.newarray .byte, 2) := by decide +kernel
theorem dX11_init_10 : decode cX11_init 10 = .ok (.putfield 9, 3) := by decide +kernel
theorem dX11_init_13 : decode cX11_init 13 = .ok (.aload_n 0, 1) := by decide +kernel
theorem dX11_init_14 : decode cX11_init 14 = .ok (.new 13, 3) := by decide +kernel
theorem dX11_init_17 : decode cX11_init 17 = .ok (.dup, 1) := by decide +kernel
theorem dX11_init_18 : decode cX11_init 18 = .ok (.invokespecial 15, 3) := by decide +kernel
theorem dX11_init_21 : decode cX11_init 21 = .ok (.putfield 16, 3) := by decide +kernel
theorem dX11_init_24 : decode cX11_init 24 = .ok (.aload_n 0, 1) := by decide +kernel
theorem dX11_init_25 : decode cX11_init 25 = .ok (.new 20, 3) := by decide +kernel
theorem dX11_init_28 : decode cX11_init 28 = .ok (.dup, 1) := by decide +kernel
theorem dX11_init_29 : decode cX11_init 29 = .ok (.invokespecial 22, 3) := by decide +kernel
theorem dX11_init_32 : decode cX11_init 32 = .ok (.putfield 23, 3) := by decide +kernel
theorem dX11_init_35 : decode cX11_init 35 = .ok (.aload_n 0, 1) := by decide +kernel
theorem dX11_init_36 : decode cX11_init 36 = .ok (.iconst 4, 1) := by decide +kernel
theorem dX11_init_37 : decode cX11_init 37 = .ok (.anewarray 20, 3) := by decide +kernel
theorem dX11_init_40 : decode cX11_init 40 = .ok (.putfield 27, 3) := by decide +kernel
theorem dX11_init_43 : decode cX11_init 43 = .ok (.aload_n 0, 1) := by decide +kernel
theorem dX11_init_44 : decode cX11_init 44 = .ok (.new 31, 3) := by decide +kernel
theorem dX11_init_47 : decode cX11_init 47 = .ok (.dup, 1) := by decide +kernel
theorem dX11_init_48 : decode cX11_init 48 = .ok (.invokespecial 33, 3) := by decide +kernel
theorem dX11_init_51 : decode cX11_init 51 = .ok (.putfield 34, 3) := by decide +kernel
theorem dX11_init_54 : decode cX11_init 54 = .ok (.aload_n 0, 1) := by decide +kernel
theorem dX11_init_55 : decode cX11_init 55 = .ok (.new 38, 3) := by decide +kernel
theorem dX11_init_58 : decode cX11_init 58 = .ok (.dup, 1) := by decide +kernel
theorem dX11_init_59 : decode cX11_init 59 = .ok (.iconst 0, 1) := by decide +kernel
theorem dX11_init_60 : decode cX11_init 60 = .ok (.invokespecial 40, 3) := by decide +kernel
theorem dX11_init_63 : decode cX11_init 63 = .ok (.putfield 43, 3) := by decide +kernel
theorem dX11_init_66 : decode cX11_init 66 = .ok (.aload_n 0, 1) := by decide +kernel
theorem dX11_init_67 : decode cX11_init 67 = .ok (.new 38, 3) := by decide +kernel
theorem dX11_init_70 : decode cX11_init 70 = .ok (.dup, 1) := by decide +kernel
theorem dX11_init_71 : decode cX11_init 71 = .ok (.iconst 1, 1) := by decide +kernel
theorem dX11_init_72 : decode cX11_init 72 = .ok (.invokespecial 40, 3) := by decide +kernel
theorem dX11_init_75 : decode cX11_init 75 = .ok (.putfield 47, 3) := by decide +kernel
theorem dX11_init_78 : decode cX11_init 78 = .ok (.aload_n 0, 1) := by decide +kernel
theorem dX11_init_79 : decode cX11_init 79 = .ok (.new 50, 3) := by decide +kernel
theorem dX11_init_82 : decode cX11_init 82 = .ok (.dup, 1) := by decide +kernel
theorem dX11_init_83 : decode cX11_init 83 = .ok (.invokespecial 52, 3) := by decide +kernel
theorem dX11_init_86 : decode cX11_init 86 = .ok (.putfield 53, 3) := by decide +kernel
theorem dX11_init_89 : decode cX11_init 89 = .ok (.aload_n 0, 1) := by decide +kernel
theorem dX11_init_90 : decode cX11_init 90 = .ok (.new 57, 3) := by decide +kernel
theorem dX11_init_93 : decode cX11_init 93 = .ok (.dup, 1) := by decide +kernel
theorem dX11_init_94 : decode cX11_init 94 = .ok (.invokespecial 59, 3) := by decide +kernel
theorem dX11_init_97 : decode cX11_init 97 = .ok (.putfield 60, 3) := by decide +kernel
theorem dX11_init_100 : decode cX11_init 100 = .ok (.aload_n 0, 1) := by decide +kernel
theorem dX11_init_101 : decode cX11_init 101 = .ok (.new 64, 3) := by decide +kernel
theorem dX11_init_104 : decode cX11_init 104 = .ok (.dup, 1) := by decide +kernel
theorem dX11_init_105 : decode cX11_init 105 = .ok (.invokespecial 66, 3) := by decide +kernel
theorem dX11_init_108 : decode cX11_init 108 = .ok (.putfield 67, 3) := by decide +kernel
theorem dX11_init_111 : decode cX11_init 111 = .ok (.aload_n 0, 1) := by decide +kernel
theorem dX11_init_112 : decode cX11_init 112 = .ok (.new 71, 3) := by decide +kernel
theorem dX11_init_115 : decode cX11_init 115 = .ok (.dup, 1) := by decide +kernel
theorem dX11_init_116 : decode cX11_init 116 = .ok (.invokespecial 73, 3) := by decide +kernel
theorem dX11_init_119 : decode cX11_init 119 = .ok (.putfield 74, 3) := by decide +kernel
theorem dX11_init_122 : decode cX11_init 122 = .ok (.iconst 0, 1) := by decide +kernel
theorem dX11_init_123 : decode cX11_init 123 = .ok (.istore_n 1, 1) := by decide +kernel
theorem dX11_init_124 : decode cX11_init 124 = .ok (.iload_n 1, 1) := by decide +kernel
theorem dX11_init_125 : decode cX11_init 125 = .ok (.iconst 4, 1) := by decide +kernel
theorem dX11_init_126 : decode cX11_init 126 = .ok (.if_icmp .ge 22, 3) := by decide +kernel
theorem dX11_init_129 : decode cX11_init 129 = .ok (.aload_n 0, 1) := by decide +kernel
theorem dX11_init_130 : decode cX11_init 130 = .ok (.getfield 27, 3) := by decide +kernel
theorem dX11_init_133 : decode cX11_init 133 = .ok (.iload_n 1, 1) := by decide +kernel
theorem dX11_init_134 : decode cX11_init 134 = .ok (.new 20, 3) := by decide +kernel
theorem dX11_init_137 : decode cX11_init 137 = .ok (.dup, 1) := by decide +kernel
theorem dX11_init_138 : decode cX11_init 138 = .ok (.invokespecial 22, 3) := by decide +kernel
theorem dX11_init_141 : decode cX11_init 141 = .ok (.aastore, 1) := by decide +kernel
theorem dX11_init_142 : decode cX11_init 142 = .ok (.iinc 1 1, 3) := by decide +kernel
theorem dX11_init_145 : decode cX11_init 145 = .ok (.goto (-21), 3) := by decide +kernel
theorem dX11_init_148 : decode cX11_init 148 = .ok (.return_, 1) := by decide +kernel
theorem dX11_feed_0 : decode cX11_feed 0 = .ok (.aload_n 0, 1) := by decide +kernel
theorem dX11_feed_1 : decode cX11_feed 1 = .ok (.lload_n 1, 1) := by decide +kernel
theorem dX11_feed_2 : decode cX11_feed 2 = .ok (.invokevirtual 78, 3) := by decide +kernel
theorem dX11_feed_5 : decode cX11_feed 5 = .ok (.aload_n 0, 1) := by decide +kernel
theorem dX11_feed_6 : decode cX11_feed 6 = .ok (.lload_n 3, 1) := by decide +kernel
theorem dX11_feed_7 : decode cX11_feed 7 = .ok (.invokevirtual 78, 3) := by decide +kernel
theorem dX11_feed_10 : decode cX11_feed 10 = .ok (.aload_n 0, 1) := by decide +kernel
theorem dX11_feed_11 : decode cX11_feed 11 = .ok (.lload 5, 2) := by decide +kernel
theorem dX11_feed_13 : decode cX11_feed 13 = .ok (.invokevirtual 78, 3) := by decide +kernel
theorem dX11_feed_16 : decode cX11_feed 16 = .ok (.aload_n 0, 1) := by decide +kernel
theorem dX11_feed_17 : decode cX11_feed 17 = .ok (.getfield 82, 3) := by decide +kernel
theorem dX11_feed_20 : decode cX11_feed 20 = .ok (.ireturn, 1) := by decide +kernel
theorem dX11_school_0 : decode cX11_school 0 = .ok (.aload_n 0, 1) := by decide +kernel
theorem dX11_school_1 : decode cX11_school 1 = .ok (.getfield 16, 3) := by decide +kernel
theorem dX11_school_4 : decode cX11_school 4 = .ok (.aload_n 0, 1) := by decide +kernel
theorem dX11_school_5 : decode cX11_school 5 = .ok (.getfield 9, 3) := by decide +kernel
theorem dX11_school_8 : decode cX11_school 8 = .ok (.aload_n 0, 1) := by decide +kernel
theorem dX11_school_9 : decode cX11_school 9 = .ok (.getfield 82, 3) := by decide +kernel
theorem dX11_school_12 : decode cX11_school 12 = .ok (.invokevirtual 86, 3) := by decide +kernel
theorem dX11_school_15 : decode cX11_school 15 = .ok (.istore_n 1, 1) := by decide +kernel
theorem dX11_school_16 : decode cX11_school 16 = .ok (.aload_n 0, 1) := by decide +kernel
theorem dX11_school_17 : decode cX11_school 17 = .ok (.iconst 0, 1) := by decide +kernel
theorem dX11_school_18 : decode cX11_school 18 = .ok (.putfield 82, 3) := by decide +kernel
theorem dX11_school_21 : decode cX11_school 21 = .ok (.iload_n 1, 1) := by decide +kernel
theorem dX11_school_22 : decode cX11_school 22 = .ok (.ifCond .ne 21, 3) := by decide +kernel
theorem dX11_school_25 : decode cX11_school 25 = .ok (.aload_n 0, 1) := by decide +kernel
theorem dX11_school_26 : decode cX11_school 26 = .ok (.getfield 23, 3) := by decide +kernel
theorem dX11_school_29 : decode cX11_school 29 = .ok (.aload_n 0, 1) := by decide +kernel
theorem dX11_school_30 : decode cX11_school 30 = .ok (.getfield 16, 3) := by decide +kernel
theorem dX11_school_33 : decode cX11_school 33 = .ok (.getfield 90, 3) := by decide +kernel
theorem dX11_school_36 : decode cX11_school 36 = .ok (.invokevirtual 93, 3) := by decide +kernel
theorem dX11_school_39 : decode cX11_school 39 = .ok (.aload_n 0, 1) := by decide +kernel
theorem dX11_school_40 : decode cX11_school 40 = .ok (.invokevirtual 97, 3) := by decide +kernel
theorem dX11_school_43 : decode cX11_school 43 = .ok (.iload_n 1, 1) := by decide +kernel
theorem dX11_school_44 : decode cX11_school 44 = .ok (.ireturn, 1) := by decide +kernel
theorem dX11_pupil_0 : decode cX11_pupil 0 = .ok (.aload_n 0, 1) := by decide +kernel
theorem dX11_pupil_1 : decode cX11_pupil 1 = .ok (.iload_n 1, 1) := by decide +kernel
theorem dX11_pupil_2 : decode cX11_pupil 2 = .ok (.invokevirtual 100, 3) := by decide +kernel
theorem dX11_pupil_5 : decode cX11_pupil 5 = .ok (.ifCond .ne 5, 3) := by decide +kernel
theorem dX11_pupil_8 : decode cX11_pupil 8 = .ok (.iconst (-1), 1) := by decide +kernel
theorem dX11_pupil_9 : decode cX11_pupil 9 = .ok (.ireturn, 1) := by decide +kernel
theorem dX11_pupil_10 : decode cX11_pupil 10 = .ok (.iload_n 2, 1) := by decide +kernel
theorem dX11_pupil_11 : decode cX11_pupil 11 = .ok (.tableswitch 75 0 3 #[29, 42, 55, 65], 29) := by decide +kernel
theorem dX11_pupil_40 : decode cX11_pupil 40 = .ok (.aload_n 0, 1) := by decide +kernel
theorem dX11_pupil_41 : decode cX11_pupil 41 = .ok (.getfield 23, 3) := by decide +kernel
theorem dX11_pupil_44 : decode cX11_pupil 44 = .ok (.getfield 104, 3) := by decide +kernel
theorem dX11_pupil_47 : decode cX11_pupil 47 = .ok (.getfield 108, 3) := by decide +kernel
theorem dX11_pupil_50 : decode cX11_pupil 50 = .ok (.iload_n 1, 1) := by decide +kernel
theorem dX11_pupil_51 : decode cX11_pupil 51 = .ok (.iaload, 1) := by decide +kernel
theorem dX11_pupil_52 : decode cX11_pupil 52 = .ok (.ireturn, 1) := by decide +kernel
theorem dX11_pupil_53 : decode cX11_pupil 53 = .ok (.aload_n 0, 1) := by decide +kernel
theorem dX11_pupil_54 : decode cX11_pupil 54 = .ok (.getfield 23, 3) := by decide +kernel
theorem dX11_pupil_57 : decode cX11_pupil 57 = .ok (.getfield 104, 3) := by decide +kernel
theorem dX11_pupil_60 : decode cX11_pupil 60 = .ok (.getfield 114, 3) := by decide +kernel
theorem dX11_pupil_63 : decode cX11_pupil 63 = .ok (.iload_n 1, 1) := by decide +kernel
theorem dX11_pupil_64 : decode cX11_pupil 64 = .ok (.iaload, 1) := by decide +kernel
theorem dX11_pupil_65 : decode cX11_pupil 65 = .ok (.ireturn, 1) := by decide +kernel
theorem dX11_pupil_66 : decode cX11_pupil 66 = .ok (.aload_n 0, 1) := by decide +kernel
theorem dX11_pupil_67 : decode cX11_pupil 67 = .ok (.getfield 23, 3) := by decide +kernel
theorem dX11_pupil_70 : decode cX11_pupil 70 = .ok (.getfield 117, 3) := by decide +kernel
theorem dX11_pupil_73 : decode cX11_pupil 73 = .ok (.iload_n 1, 1) := by decide +kernel
theorem dX11_pupil_74 : decode cX11_pupil 74 = .ok (.iaload, 1) := by decide +kernel
theorem dX11_pupil_75 : decode cX11_pupil 75 = .ok (.ireturn, 1) := by decide +kernel
theorem dX11_pupil_76 : decode cX11_pupil 76 = .ok (.aload_n 0, 1) := by decide +kernel
theorem dX11_pupil_77 : decode cX11_pupil 77 = .ok (.getfield 23, 3) := by decide +kernel
theorem dX11_pupil_80 : decode cX11_pupil 80 = .ok (.getfield 120, 3) := by decide +kernel
theorem dX11_pupil_83 : decode cX11_pupil 83 = .ok (.iload_n 1, 1) := by decide +kernel
theorem dX11_pupil_84 : decode cX11_pupil 84 = .ok (.iaload, 1) := by decide +kernel
theorem dX11_pupil_85 : decode cX11_pupil 85 = .ok (.ireturn, 1) := by decide +kernel
theorem dX11_pupil_86 : decode cX11_pupil 86 = .ok (.iconst (-1), 1) := by decide +kernel
theorem dX11_pupil_87 : decode cX11_pupil 87 = .ok (.ireturn, 1) := by decide +kernel
theorem dX11_say_0 : decode cX11_say 0 = .ok (.aload_n 0, 1) := by decide +kernel
theorem dX11_say_1 : decode cX11_say 1 = .ok (.iload_n 1, 1) := by decide +kernel
theorem dX11_say_2 : decode cX11_say 2 = .ok (.iload_n 2, 1) := by decide +kernel
theorem dX11_say_3 : decode cX11_say 3 = .ok (.invokevirtual 123, 3) := by decide +kernel
theorem dX11_say_6 : decode cX11_say 6 = .ok (.ifCond .eq 16, 3) := by decide +kernel
theorem dX11_say_9 : decode cX11_say 9 = .ok (.iload_n 3, 1) := by decide +kernel
theorem dX11_say_10 : decode cX11_say 10 = .ok (.ifCond .lt 12, 3) := by decide +kernel
theorem dX11_say_13 : decode cX11_say 13 = .ok (.iload_n 3, 1) := by decide +kernel
theorem dX11_say_14 : decode cX11_say 14 = .ok (.iconst 2, 1) := by decide +kernel
theorem dX11_say_15 : decode cX11_say 15 = .ok (.if_icmp .ge 7, 3) := by decide +kernel
theorem dX11_say_18 : decode cX11_say 18 = .ok (.iconst 1, 1) := by decide +kernel
theorem dX11_say_19 : decode cX11_say 19 = .ok (.goto 4, 3) := by decide +kernel
theorem dX11_say_22 : decode cX11_say 22 = .ok (.iconst 0, 1) := by decide +kernel
theorem dX11_say_23 : decode cX11_say 23 = .ok (.istore 4, 2) := by decide +kernel
theorem dX11_say_25 : decode cX11_say 25 = .ok (.iload 4, 2) := by decide +kernel
theorem dX11_say_27 : decode cX11_say 27 = .ok (.ifCond .eq 15, 3) := by decide +kernel
theorem dX11_say_30 : decode cX11_say 30 = .ok (.aload_n 0, 1) := by decide +kernel
theorem dX11_say_31 : decode cX11_say 31 = .ok (.getfield 23, 3) := by decide +kernel
theorem dX11_say_34 : decode cX11_say 34 = .ok (.getfield 127, 3) := by decide +kernel
theorem dX11_say_37 : decode cX11_say 37 = .ok (.bipush 40, 2) := by decide +kernel
theorem dX11_say_39 : decode cX11_say 39 = .ok (.if_icmp .lt 5, 3) := by decide +kernel
theorem dX11_say_42 : decode cX11_say 42 = .ok (.iconst (-1), 1) := by decide +kernel
theorem dX11_say_43 : decode cX11_say 43 = .ok (.ireturn, 1) := by decide +kernel
theorem dX11_say_44 : decode cX11_say 44 = .ok (.aload_n 0, 1) := by decide +kernel
theorem dX11_say_45 : decode cX11_say 45 = .ok (.getfield 23, 3) := by decide +kernel
theorem dX11_say_48 : decode cX11_say 48 = .ok (.iload_n 1, 1) := by decide +kernel
theorem dX11_say_49 : decode cX11_say 49 = .ok (.iload_n 2, 1) := by decide +kernel
theorem dX11_say_50 : decode cX11_say 50 = .ok (.iload_n 3, 1) := by decide +kernel
theorem dX11_say_51 : decode cX11_say 51 = .ok (.invokevirtual 130, 3) := by decide +kernel
theorem dX11_say_54 : decode cX11_say 54 = .ok (.aload_n 0, 1) := by decide +kernel
theorem dX11_say_55 : decode cX11_say 55 = .ok (.invokevirtual 97, 3) := by decide +kernel
theorem dX11_say_58 : decode cX11_say 58 = .ok (.aload_n 0, 1) := by decide +kernel
theorem dX11_say_59 : decode cX11_say 59 = .ok (.getfield 23, 3) := by decide +kernel
theorem dX11_say_62 : decode cX11_say 62 = .ok (.getfield 127, 3) := by decide +kernel
theorem dX11_say_65 : decode cX11_say 65 = .ok (.ireturn, 1) := by decide +kernel
theorem dX11_unsay_0 : decode cX11_unsay 0 = .ok (.aload_n 0, 1) := by decide +kernel
theorem dX11_unsay_1 : decode cX11_unsay 1 = .ok (.getfield 23, 3) := by decide +kernel
theorem dX11_unsay_4 : decode cX11_unsay 4 = .ok (.getfield 127, 3) := by decide +kernel
theorem dX11_unsay_7 : decode cX11_unsay 7 = .ok (.ifCond .ne 5, 3) := by decide +kernel
theorem dX11_unsay_10 : decode cX11_unsay 10 = .ok (.iconst 0, 1) := by decide +kernel
theorem dX11_unsay_11 : decode cX11_unsay 11 = .ok (.ireturn, 1) := by decide +kernel
theorem dX11_unsay_12 : decode cX11_unsay 12 = .ok (.aload_n 0, 1) := by decide +kernel
theorem dX11_unsay_13 : decode cX11_unsay 13 = .ok (.getfield 23, 3) := by decide +kernel
theorem dX11_unsay_16 : decode cX11_unsay 16 = .ok (.dup, 1) := by decide +kernel
theorem dX11_unsay_17 : decode cX11_unsay 17 = .ok (.getfield 127, 3) := by decide +kernel
theorem dX11_unsay_20 : decode cX11_unsay 20 = .ok (.iconst 1, 1) := by decide +kernel
theorem dX11_unsay_21 : decode cX11_unsay 21 = .ok (.isub, 1) := by decide +kernel
theorem dX11_unsay_22 : decode cX11_unsay 22 = .ok (.putfield 127, 3) := by decide +kernel
theorem dX11_unsay_25 : decode cX11_unsay 25 = .ok (.aload_n 0, 1) := by decide +kernel
theorem dX11_unsay_26 : decode cX11_unsay 26 = .ok (.invokevirtual 97, 3) := by decide +kernel
theorem dX11_unsay_29 : decode cX11_unsay 29 = .ok (.iconst 1, 1) := by decide +kernel
theorem dX11_unsay_30 : decode cX11_unsay 30 = .ok (.ireturn, 1) := by decide +kernel
theorem dX11_saying_0 : decode cX11_saying 0 = .ok (.iload_n 1, 1) := by decide +kernel
theorem dX11_saying_1 : decode cX11_saying 1 = .ok (.ifCond .lt 14, 3) := by decide +kernel
theorem dX11_saying_4 : decode cX11_saying 4 = .ok (.iload_n 1, 1) := by decide +kernel
theorem dX11_saying_5 : decode cX11_saying 5 = .ok (.aload_n 0, 1) := by decide +kernel
theorem dX11_saying_6 : decode cX11_saying 6 = .ok (.getfield 23, 3) := by decide +kernel
theorem dX11_saying_9 : decode cX11_saying 9 = .ok (.getfield 127, 3) := by decide +kernel
theorem dX11_saying_12 : decode cX11_saying 12 = .ok (.if_icmp .lt 5, 3) := by decide +kernel
theorem dX11_saying_15 : decode cX11_saying 15 = .ok (.iconst (-1), 1) := by decide +kernel
theorem dX11_saying_16 : decode cX11_saying 16 = .ok (.ireturn, 1) := by decide +kernel
theorem dX11_saying_17 : decode cX11_saying 17 = .ok (.iload_n 2, 1) := by decide +kernel
theorem dX11_saying_18 : decode cX11_saying 18 = .ok (.tableswitch 56 0 2 #[26, 36, 46], 26) := by decide +kernel
theorem dX11_saying_44 : decode cX11_saying 44 = .ok (.aload_n 0, 1) := by decide +kernel
theorem dX11_saying_45 : decode cX11_saying 45 = .ok (.getfield 23, 3) := by decide +kernel
theorem dX11_saying_48 : decode cX11_saying 48 = .ok (.getfield 134, 3) := by decide +kernel
theorem dX11_saying_51 : decode cX11_saying 51 = .ok (.iload_n 1, 1) := by decide +kernel
theorem dX11_saying_52 : decode cX11_saying 52 = .ok (.iaload, 1) := by decide +kernel
theorem dX11_saying_53 : decode cX11_saying 53 = .ok (.ireturn, 1) := by decide +kernel
theorem dX11_saying_54 : decode cX11_saying 54 = .ok (.aload_n 0, 1) := by decide +kernel
theorem dX11_saying_55 : decode cX11_saying 55 = .ok (.getfield 23, 3) := by decide +kernel
theorem dX11_saying_58 : decode cX11_saying 58 = .ok (.getfield 137, 3) := by decide +kernel
theorem dX11_saying_61 : decode cX11_saying 61 = .ok (.iload_n 1, 1) := by decide +kernel
theorem dX11_saying_62 : decode cX11_saying 62 = .ok (.iaload, 1) := by decide +kernel
theorem dX11_saying_63 : decode cX11_saying 63 = .ok (.ireturn, 1) := by decide +kernel
theorem dX11_saying_64 : decode cX11_saying 64 = .ok (.aload_n 0, 1) := by decide +kernel
theorem dX11_saying_65 : decode cX11_saying 65 = .ok (.getfield 23, 3) := by decide +kernel
theorem dX11_saying_68 : decode cX11_saying 68 = .ok (.getfield 140, 3) := by decide +kernel
theorem dX11_saying_71 : decode cX11_saying 71 = .ok (.iload_n 1, 1) := by decide +kernel
theorem dX11_saying_72 : decode cX11_saying 72 = .ok (.iaload, 1) := by decide +kernel
theorem dX11_saying_73 : decode cX11_saying 73 = .ok (.ireturn, 1) := by decide +kernel
theorem dX11_saying_74 : decode cX11_saying 74 = .ok (.iconst (-1), 1) := by decide +kernel
theorem dX11_saying_75 : decode cX11_saying 75 = .ok (.ireturn, 1) := by decide +kernel
theorem dX11_orders_0 : decode cX11_orders 0 = .ok (.aload_n 0, 1) := by decide +kernel
theorem dX11_orders_1 : decode cX11_orders 1 = .ok (.getfield 43, 3) := by decide +kernel
theorem dX11_orders_4 : decode cX11_orders 4 = .ok (.aload_n 0, 1) := by decide +kernel
theorem dX11_orders_5 : decode cX11_orders 5 = .ok (.getfield 23, 3) := by decide +kernel
theorem dX11_orders_8 : decode cX11_orders 8 = .ok (.invokevirtual 143, 3) := by decide +kernel
theorem dX11_orders_11 : decode cX11_orders 11 = .ok (.aload_n 0, 1) := by decide +kernel
theorem dX11_orders_12 : decode cX11_orders 12 = .ok (.getfield 43, 3) := by decide +kernel
theorem dX11_orders_15 : decode cX11_orders 15 = .ok (.invokevirtual 146, 3) := by decide +kernel
theorem dX11_orders_18 : decode cX11_orders 18 = .ok (.l2i, 1) := by decide +kernel
theorem dX11_orders_19 : decode cX11_orders 19 = .ok (.ireturn, 1) := by decide +kernel
theorem dX11_sure_0 : decode cX11_sure 0 = .ok (.aload_n 0, 1) := by decide +kernel
theorem dX11_sure_1 : decode cX11_sure 1 = .ok (.getfield 34, 3) := by decide +kernel
theorem dX11_sure_4 : decode cX11_sure 4 = .ok (.aload_n 0, 1) := by decide +kernel
theorem dX11_sure_5 : decode cX11_sure 5 = .ok (.getfield 23, 3) := by decide +kernel
theorem dX11_sure_8 : decode cX11_sure 8 = .ok (.invokevirtual 150, 3) := by decide +kernel
theorem dX11_sure_11 : decode cX11_sure 11 = .ok (.aload_n 0, 1) := by decide +kernel
theorem dX11_sure_12 : decode cX11_sure 12 = .ok (.iload_n 1, 1) := by decide +kernel
theorem dX11_sure_13 : decode cX11_sure 13 = .ok (.iload_n 2, 1) := by decide +kernel
theorem dX11_sure_14 : decode cX11_sure 14 = .ok (.invokevirtual 123, 3) := by decide +kernel
theorem dX11_sure_17 : decode cX11_sure 17 = .ok (.ifCond .eq 13, 3) := by decide +kernel
theorem dX11_sure_20 : decode cX11_sure 20 = .ok (.aload_n 0, 1) := by decide +kernel
theorem dX11_sure_21 : decode cX11_sure 21 = .ok (.getfield 34, 3) := by decide +kernel
theorem dX11_sure_24 : decode cX11_sure 24 = .ok (.getfield 153, 3) := by decide +kernel
theorem dX11_sure_27 : decode cX11_sure 27 = .ok (.ifCond .ne 5, 3) := by decide +kernel
theorem dX11_sure_30 : decode cX11_sure 30 = .ok (.iconst (-1), 1) := by decide +kernel
theorem dX11_sure_31 : decode cX11_sure 31 = .ok (.ireturn, 1) := by decide +kernel
theorem dX11_sure_32 : decode cX11_sure 32 = .ok (.aload_n 0, 1) := by decide +kernel
theorem dX11_sure_33 : decode cX11_sure 33 = .ok (.getfield 34, 3) := by decide +kernel
theorem dX11_sure_36 : decode cX11_sure 36 = .ok (.iload_n 1, 1) := by decide +kernel
theorem dX11_sure_37 : decode cX11_sure 37 = .ok (.iload_n 2, 1) := by decide +kernel
theorem dX11_sure_38 : decode cX11_sure 38 = .ok (.invokevirtual 157, 3) := by decide +kernel
theorem dX11_sure_41 : decode cX11_sure 41 = .ok (.ifCond .eq 5, 3) := by decide +kernel
theorem dX11_sure_44 : decode cX11_sure 44 = .ok (.iconst 1, 1) := by decide +kernel
theorem dX11_sure_45 : decode cX11_sure 45 = .ok (.ireturn, 1) := by decide +kernel
theorem dX11_sure_46 : decode cX11_sure 46 = .ok (.aload_n 0, 1) := by decide +kernel
theorem dX11_sure_47 : decode cX11_sure 47 = .ok (.getfield 34, 3) := by decide +kernel
theorem dX11_sure_50 : decode cX11_sure 50 = .ok (.iload_n 2, 1) := by decide +kernel
theorem dX11_sure_51 : decode cX11_sure 51 = .ok (.iload_n 1, 1) := by decide +kernel
theorem dX11_sure_52 : decode cX11_sure 52 = .ok (.invokevirtual 157, 3) := by decide +kernel
theorem dX11_sure_55 : decode cX11_sure 55 = .ok (.ifCond .eq 7, 3) := by decide +kernel
theorem dX11_sure_58 : decode cX11_sure 58 = .ok (.iconst 2, 1) := by decide +kernel
theorem dX11_sure_59 : decode cX11_sure 59 = .ok (.goto 4, 3) := by decide +kernel
theorem dX11_sure_62 : decode cX11_sure 62 = .ok (.iconst 0, 1) := by decide +kernel
theorem dX11_sure_63 : decode cX11_sure 63 = .ok (.ireturn, 1) := by decide +kernel
theorem dX11_span_0 : decode cX11_span 0 = .ok (.aload_n 0, 1) := by decide +kernel
theorem dX11_span_1 : decode cX11_span 1 = .ok (.getfield 34, 3) := by decide +kernel
theorem dX11_span_4 : decode cX11_span 4 = .ok (.aload_n 0, 1) := by decide +kernel
theorem dX11_span_5 : decode cX11_span 5 = .ok (.getfield 23, 3) := by decide +kernel
theorem dX11_span_8 : decode cX11_span 8 = .ok (.invokevirtual 150, 3) := by decide +kernel
theorem dX11_span_11 : decode cX11_span 11 = .ok (.aload_n 0, 1) := by decide +kernel
theorem dX11_span_12 : decode cX11_span 12 = .ok (.iload_n 1, 1) := by decide +kernel
theorem dX11_span_13 : decode cX11_span 13 = .ok (.invokevirtual 100, 3) := by decide +kernel
theorem dX11_span_16 : decode cX11_span 16 = .ok (.ifCond .eq 13, 3) := by decide +kernel
theorem dX11_span_19 : decode cX11_span 19 = .ok (.aload_n 0, 1) := by decide +kernel
theorem dX11_span_20 : decode cX11_span 20 = .ok (.getfield 34, 3) := by decide +kernel
theorem dX11_span_23 : decode cX11_span 23 = .ok (.getfield 153, 3) := by decide +kernel
theorem dX11_span_26 : decode cX11_span 26 = .ok (.ifCond .ne 5, 3) := by decide +kernel
theorem dX11_span_29 : decode cX11_span 29 = .ok (.iconst (-1), 1) := by decide +kernel
theorem dX11_span_30 : decode cX11_span 30 = .ok (.ireturn, 1) := by decide +kernel
theorem dX11_span_31 : decode cX11_span 31 = .ok (.iload_n 2, 1) := by decide +kernel
theorem dX11_span_32 : decode cX11_span 32 = .ok (.lookupswitch 46 #[(0, 28), (1, 37)], 28) := by decide +kernel
theorem dX11_span_60 : decode cX11_span 60 = .ok (.aload_n 0, 1) := by decide +kernel
theorem dX11_span_61 : decode cX11_span 61 = .ok (.getfield 34, 3) := by decide +kernel
theorem dX11_span_64 : decode cX11_span 64 = .ok (.iload_n 1, 1) := by decide +kernel
theorem dX11_span_65 : decode cX11_span 65 = .ok (.invokevirtual 160, 3) := by decide +kernel
theorem dX11_span_68 : decode cX11_span 68 = .ok (.ireturn, 1) := by decide +kernel
theorem dX11_span_69 : decode cX11_span 69 = .ok (.aload_n 0, 1) := by decide +kernel
theorem dX11_span_70 : decode cX11_span 70 = .ok (.getfield 34, 3) := by decide +kernel
theorem dX11_span_73 : decode cX11_span 73 = .ok (.iload_n 1, 1) := by decide +kernel
theorem dX11_span_74 : decode cX11_span 74 = .ok (.invokevirtual 164, 3) := by decide +kernel
theorem dX11_span_77 : decode cX11_span 77 = .ok (.ireturn, 1) := by decide +kernel
theorem dX11_span_78 : decode cX11_span 78 = .ok (.iconst (-1), 1) := by decide +kernel
theorem dX11_span_79 : decode cX11_span 79 = .ok (.ireturn, 1) := by decide +kernel
theorem dX11_dropped_0 : decode cX11_dropped 0 = .ok (.iload_n 1, 1) := by decide +kernel
theorem dX11_dropped_1 : decode cX11_dropped 1 = .ok (.iconst (-1), 1) := by decide +kernel
theorem dX11_dropped_2 : decode cX11_dropped 2 = .ok (.if_icmp .lt 8, 3) := by decide +kernel
theorem dX11_dropped_5 : decode cX11_dropped 5 = .ok (.iload_n 1, 1) := by decide +kernel
theorem dX11_dropped_6 : decode cX11_dropped 6 = .ok (.iconst 2, 1) := by decide +kernel
theorem dX11_dropped_7 : decode cX11_dropped 7 = .ok (.if_icmp .lt 6, 3) := by decide +kernel
theorem dX11_dropped_10 : decode cX11_dropped 10 = .ok (.bipush (-2), 2) := by decide +kernel
theorem dX11_dropped_12 : decode cX11_dropped 12 = .ok (.ireturn, 1) := by decide +kernel
theorem dX11_dropped_13 : decode cX11_dropped 13 = .ok (.aload_n 0, 1) := by decide +kernel
theorem dX11_dropped_14 : decode cX11_dropped 14 = .ok (.getfield 53, 3) := by decide +kernel
theorem dX11_dropped_17 : decode cX11_dropped 17 = .ok (.aload_n 0, 1) := by decide +kernel
theorem dX11_dropped_18 : decode cX11_dropped 18 = .ok (.getfield 23, 3) := by decide +kernel
theorem dX11_dropped_21 : decode cX11_dropped 21 = .ok (.iload_n 1, 1) := by decide +kernel
theorem dX11_dropped_22 : decode cX11_dropped 22 = .ok (.invokevirtual 167, 3) := by decide +kernel
theorem dX11_dropped_25 : decode cX11_dropped 25 = .ok (.aload_n 0, 1) := by decide +kernel
theorem dX11_dropped_26 : decode cX11_dropped 26 = .ok (.getfield 53, 3) := by decide +kernel
theorem dX11_dropped_29 : decode cX11_dropped 29 = .ok (.invokevirtual 170, 3) := by decide +kernel
theorem dX11_dropped_32 : decode cX11_dropped 32 = .ok (.ireturn, 1) := by decide +kernel
theorem dX11_row_0 : decode cX11_row 0 = .ok (.aload_n 0, 1) := by decide +kernel
theorem dX11_row_1 : decode cX11_row 1 = .ok (.iload_n 1, 1) := by decide +kernel
theorem dX11_row_2 : decode cX11_row 2 = .ok (.invokevirtual 100, 3) := by decide +kernel
theorem dX11_row_5 : decode cX11_row 5 = .ok (.ifCond .ne 5, 3) := by decide +kernel
theorem dX11_row_8 : decode cX11_row 8 = .ok (.iconst (-1), 1) := by decide +kernel
theorem dX11_row_9 : decode cX11_row 9 = .ok (.ireturn, 1) := by decide +kernel
theorem dX11_row_10 : decode cX11_row 10 = .ok (.aload_n 0, 1) := by decide +kernel
theorem dX11_row_11 : decode cX11_row 11 = .ok (.getfield 53, 3) := by decide +kernel
theorem dX11_row_14 : decode cX11_row 14 = .ok (.aload_n 0, 1) := by decide +kernel
theorem dX11_row_15 : decode cX11_row 15 = .ok (.getfield 23, 3) := by decide +kernel
theorem dX11_row_18 : decode cX11_row 18 = .ok (.iconst (-1), 1) := by decide +kernel
theorem dX11_row_19 : decode cX11_row 19 = .ok (.invokevirtual 167, 3) := by decide +kernel
theorem dX11_row_22 : decode cX11_row 22 = .ok (.aload_n 0, 1) := by decide +kernel
theorem dX11_row_23 : decode cX11_row 23 = .ok (.getfield 53, 3) := by decide +kernel
theorem dX11_row_26 : decode cX11_row 26 = .ok (.getfield 174, 3) := by decide +kernel
theorem dX11_row_29 : decode cX11_row 29 = .ok (.iload_n 1, 1) := by decide +kernel
theorem dX11_row_30 : decode cX11_row 30 = .ok (.iaload, 1) := by decide +kernel
theorem dX11_row_31 : decode cX11_row 31 = .ok (.ireturn, 1) := by decide +kernel
theorem dX11_helped_0 : decode cX11_helped 0 = .ok (.aload_n 0, 1) := by decide +kernel
theorem dX11_helped_1 : decode cX11_helped 1 = .ok (.getfield 34, 3) := by decide +kernel
theorem dX11_helped_4 : decode cX11_helped 4 = .ok (.aload_n 0, 1) := by decide +kernel
theorem dX11_helped_5 : decode cX11_helped 5 = .ok (.getfield 23, 3) := by decide +kernel
theorem dX11_helped_8 : decode cX11_helped 8 = .ok (.invokevirtual 150, 3) := by decide +kernel
theorem dX11_helped_11 : decode cX11_helped 11 = .ok (.aload_n 0, 1) := by decide +kernel
theorem dX11_helped_12 : decode cX11_helped 12 = .ok (.getfield 34, 3) := by decide +kernel
theorem dX11_helped_15 : decode cX11_helped 15 = .ok (.getfield 153, 3) := by decide +kernel
theorem dX11_helped_18 : decode cX11_helped 18 = .ok (.ifCond .eq 7, 3) := by decide +kernel
theorem dX11_helped_21 : decode cX11_helped 21 = .ok (.iconst 0, 1) := by decide +kernel
theorem dX11_helped_22 : decode cX11_helped 22 = .ok (.goto 10, 3) := by decide +kernel
theorem dX11_helped_25 : decode cX11_helped 25 = .ok (.aload_n 0, 1) := by decide +kernel
theorem dX11_helped_26 : decode cX11_helped 26 = .ok (.getfield 34, 3) := by decide +kernel
theorem dX11_helped_29 : decode cX11_helped 29 = .ok (.invokevirtual 177, 3) := by decide +kernel
theorem dX11_helped_32 : decode cX11_helped 32 = .ok (.ireturn, 1) := by decide +kernel
theorem dX11_unlike_0 : decode cX11_unlike 0 = .ok (.iconst 0, 1) := by decide +kernel
theorem dX11_unlike_1 : decode cX11_unlike 1 = .ok (.istore_n 1, 1) := by decide +kernel
theorem dX11_unlike_2 : decode cX11_unlike 2 = .ok (.iconst 0, 1) := by decide +kernel
theorem dX11_unlike_3 : decode cX11_unlike 3 = .ok (.istore_n 2, 1) := by decide +kernel
theorem dX11_unlike_4 : decode cX11_unlike 4 = .ok (.iload_n 2, 1) := by decide +kernel
theorem dX11_unlike_5 : decode cX11_unlike 5 = .ok (.aload_n 0, 1) := by decide +kernel
theorem dX11_unlike_6 : decode cX11_unlike 6 = .ok (.getfield 23, 3) := by decide +kernel
theorem dX11_unlike_9 : decode cX11_unlike 9 = .ok (.getfield 104, 3) := by decide +kernel
theorem dX11_unlike_12 : decode cX11_unlike 12 = .ok (.getfield 180, 3) := by decide +kernel
theorem dX11_unlike_15 : decode cX11_unlike 15 = .ok (.if_icmp .ge 88, 3) := by decide +kernel
theorem dX11_unlike_18 : decode cX11_unlike 18 = .ok (.iload_n 2, 1) := by decide +kernel
theorem dX11_unlike_19 : decode cX11_unlike 19 = .ok (.iconst 1, 1) := by decide +kernel
theorem dX11_unlike_20 : decode cX11_unlike 20 = .ok (.iadd, 1) := by decide +kernel
theorem dX11_unlike_21 : decode cX11_unlike 21 = .ok (.istore_n 3, 1) := by decide +kernel
theorem dX11_unlike_22 : decode cX11_unlike 22 = .ok (.iload_n 3, 1) := by decide +kernel
theorem dX11_unlike_23 : decode cX11_unlike 23 = .ok (.aload_n 0, 1) := by decide +kernel
theorem dX11_unlike_24 : decode cX11_unlike 24 = .ok (.getfield 23, 3) := by decide +kernel
theorem dX11_unlike_27 : decode cX11_unlike 27 = .ok (.getfield 104, 3) := by decide +kernel
theorem dX11_unlike_30 : decode cX11_unlike 30 = .ok (.getfield 180, 3) := by decide +kernel
theorem dX11_unlike_33 : decode cX11_unlike 33 = .ok (.if_icmp .ge 64, 3) := by decide +kernel
theorem dX11_unlike_36 : decode cX11_unlike 36 = .ok (.aload_n 0, 1) := by decide +kernel
theorem dX11_unlike_37 : decode cX11_unlike 37 = .ok (.getfield 23, 3) := by decide +kernel
theorem dX11_unlike_40 : decode cX11_unlike 40 = .ok (.iload_n 2, 1) := by decide +kernel
theorem dX11_unlike_41 : decode cX11_unlike 41 = .ok (.iload_n 3, 1) := by decide +kernel
theorem dX11_unlike_42 : decode cX11_unlike 42 = .ok (.iconst 0, 1) := by decide +kernel
theorem dX11_unlike_43 : decode cX11_unlike 43 = .ok (.invokevirtual 183, 3) := by decide +kernel
theorem dX11_unlike_46 : decode cX11_unlike 46 = .ok (.ifCond .eq 16, 3) := by decide +kernel
theorem dX11_unlike_49 : decode cX11_unlike 49 = .ok (.aload_n 0, 1) := by decide +kernel
theorem dX11_unlike_50 : decode cX11_unlike 50 = .ok (.getfield 23, 3) := by decide +kernel
theorem dX11_unlike_53 : decode cX11_unlike 53 = .ok (.iload_n 3, 1) := by decide +kernel
theorem dX11_unlike_54 : decode cX11_unlike 54 = .ok (.iload_n 2, 1) := by decide +kernel
theorem dX11_unlike_55 : decode cX11_unlike 55 = .ok (.iconst 1, 1) := by decide +kernel
theorem dX11_unlike_56 : decode cX11_unlike 56 = .ok (.invokevirtual 183, 3) := by decide +kernel
theorem dX11_unlike_59 : decode cX11_unlike 59 = .ok (.ifCond .ne 29, 3) := by decide +kernel
theorem dX11_unlike_62 : decode cX11_unlike 62 = .ok (.aload_n 0, 1) := by decide +kernel
theorem dX11_unlike_63 : decode cX11_unlike 63 = .ok (.getfield 23, 3) := by decide +kernel
theorem dX11_unlike_66 : decode cX11_unlike 66 = .ok (.iload_n 3, 1) := by decide +kernel
theorem dX11_unlike_67 : decode cX11_unlike 67 = .ok (.iload_n 2, 1) := by decide +kernel
theorem dX11_unlike_68 : decode cX11_unlike 68 = .ok (.iconst 0, 1) := by decide +kernel
theorem dX11_unlike_69 : decode cX11_unlike 69 = .ok (.invokevirtual 183, 3) := by decide +kernel
theorem dX11_unlike_72 : decode cX11_unlike 72 = .ok (.ifCond .eq 19, 3) := by decide +kernel
theorem dX11_unlike_75 : decode cX11_unlike 75 = .ok (.aload_n 0, 1) := by decide +kernel
theorem dX11_unlike_76 : decode cX11_unlike 76 = .ok (.getfield 23, 3) := by decide +kernel
theorem dX11_unlike_79 : decode cX11_unlike 79 = .ok (.iload_n 2, 1) := by decide +kernel
theorem dX11_unlike_80 : decode cX11_unlike 80 = .ok (.iload_n 3, 1) := by decide +kernel
theorem dX11_unlike_81 : decode cX11_unlike 81 = .ok (.iconst 1, 1) := by decide +kernel
theorem dX11_unlike_82 : decode cX11_unlike 82 = .ok (.invokevirtual 183, 3) := by decide +kernel
theorem dX11_unlike_85 : decode cX11_unlike 85 = .ok (.ifCond .eq 6, 3) := by decide +kernel
theorem dX11_unlike_88 : decode cX11_unlike 88 = .ok (.iinc 1 1, 3) := by decide +kernel
theorem dX11_unlike_91 : decode cX11_unlike 91 = .ok (.iinc 3 1, 3) := by decide +kernel
theorem dX11_unlike_94 : decode cX11_unlike 94 = .ok (.goto (-72), 3) := by decide +kernel
theorem dX11_unlike_97 : decode cX11_unlike 97 = .ok (.iinc 2 1, 3) := by decide +kernel
theorem dX11_unlike_100 : decode cX11_unlike 100 = .ok (.goto (-96), 3) := by decide +kernel
theorem dX11_unlike_103 : decode cX11_unlike 103 = .ok (.iload_n 1, 1) := by decide +kernel
theorem dX11_unlike_104 : decode cX11_unlike 104 = .ok (.ireturn, 1) := by decide +kernel
theorem dX11_chance_0 : decode cX11_chance 0 = .ok (.aload_n 0, 1) := by decide +kernel
theorem dX11_chance_1 : decode cX11_chance 1 = .ok (.iload_n 1, 1) := by decide +kernel
theorem dX11_chance_2 : decode cX11_chance 2 = .ok (.iload_n 2, 1) := by decide +kernel
theorem dX11_chance_3 : decode cX11_chance 3 = .ok (.invokevirtual 123, 3) := by decide +kernel
theorem dX11_chance_6 : decode cX11_chance 6 = .ok (.ifCond .eq 24, 3) := by decide +kernel
theorem dX11_chance_9 : decode cX11_chance 9 = .ok (.iload_n 3, 1) := by decide +kernel
theorem dX11_chance_10 : decode cX11_chance 10 = .ok (.ifCond .lt 20, 3) := by decide +kernel
theorem dX11_chance_13 : decode cX11_chance 13 = .ok (.iload_n 3, 1) := by decide +kernel
theorem dX11_chance_14 : decode cX11_chance 14 = .ok (.iconst 1, 1) := by decide +kernel
theorem dX11_chance_15 : decode cX11_chance 15 = .ok (.if_icmp .gt 15, 3) := by decide +kernel
theorem dX11_chance_18 : decode cX11_chance 18 = .ok (.aload_n 0, 1) := by decide +kernel
theorem dX11_chance_19 : decode cX11_chance 19 = .ok (.getfield 23, 3) := by decide +kernel
theorem dX11_chance_22 : decode cX11_chance 22 = .ok (.getfield 127, 3) := by decide +kernel
theorem dX11_chance_25 : decode cX11_chance 25 = .ok (.bipush 12, 2) := by decide +kernel
theorem dX11_chance_27 : decode cX11_chance 27 = .ok (.if_icmp .le 7, 3) := by decide +kernel
theorem dX11_chance_30 : decode cX11_chance 30 = .ok (.ldc2_w 187, 3) := by decide +kernel
theorem dX11_chance_33 : decode cX11_chance 33 = .ok (.lreturn, 1) := by decide +kernel
theorem dX11_chance_34 : decode cX11_chance 34 = .ok (.aload_n 0, 1) := by decide +kernel
theorem dX11_chance_35 : decode cX11_chance 35 = .ok (.getfield 47, 3) := by decide +kernel
theorem dX11_chance_38 : decode cX11_chance 38 = .ok (.aload_n 0, 1) := by decide +kernel
theorem dX11_chance_39 : decode cX11_chance 39 = .ok (.getfield 23, 3) := by decide +kernel
theorem dX11_chance_42 : decode cX11_chance 42 = .ok (.invokevirtual 143, 3) := by decide +kernel
theorem dX11_chance_45 : decode cX11_chance 45 = .ok (.aload_n 0, 1) := by decide +kernel
theorem dX11_chance_46 : decode cX11_chance 46 = .ok (.getfield 47, 3) := by decide +kernel
theorem dX11_chance_49 : decode cX11_chance 49 = .ok (.invokevirtual 146, 3) := by decide +kernel
theorem dX11_chance_52 : decode cX11_chance 52 = .ok (.lstore 4, 2) := by decide +kernel
theorem dX11_chance_54 : decode cX11_chance 54 = .ok (.lload 4, 2) := by decide +kernel
theorem dX11_chance_56 : decode cX11_chance 56 = .ok (.lconst 0, 1) := by decide +kernel
theorem dX11_chance_57 : decode cX11_chance 57 = .ok (.lcmp, 1) := by decide +kernel
theorem dX11_chance_58 : decode cX11_chance 58 = .ok (.ifCond .gt 7, 3) := by decide +kernel
theorem dX11_chance_61 : decode cX11_chance 61 = .ok (.ldc2_w 187, 3) := by decide +kernel
theorem dX11_chance_64 : decode cX11_chance 64 = .ok (.lreturn, 1) := by decide +kernel
theorem dX11_chance_65 : decode cX11_chance 65 = .ok (.aload_n 0, 1) := by decide +kernel
theorem dX11_chance_66 : decode cX11_chance 66 = .ok (.getfield 47, 3) := by decide +kernel
theorem dX11_chance_69 : decode cX11_chance 69 = .ok (.invokevirtual 189, 3) := by decide +kernel
theorem dX11_chance_72 : decode cX11_chance 72 = .ok (.aload_n 0, 1) := by decide +kernel
theorem dX11_chance_73 : decode cX11_chance 73 = .ok (.getfield 47, 3) := by decide +kernel
theorem dX11_chance_76 : decode cX11_chance 76 = .ok (.iload_n 1, 1) := by decide +kernel
theorem dX11_chance_77 : decode cX11_chance 77 = .ok (.iload_n 2, 1) := by decide +kernel
theorem dX11_chance_78 : decode cX11_chance 78 = .ok (.invokevirtual 192, 3) := by decide +kernel
theorem dX11_chance_81 : decode cX11_chance 81 = .ok (.lstore 6, 2) := by decide +kernel
theorem dX11_chance_83 : decode cX11_chance 83 = .ok (.lload 4, 2) := by decide +kernel
theorem dX11_chance_85 : decode cX11_chance 85 = .ok (.lload 6, 2) := by decide +kernel
theorem dX11_chance_87 : decode cX11_chance 87 = .ok (.invokestatic 196, 3) := by decide +kernel
theorem dX11_chance_90 : decode cX11_chance 90 = .ok (.lstore 8, 2) := by decide +kernel
theorem dX11_chance_92 : decode cX11_chance 92 = .ok (.iload_n 3, 1) := by decide +kernel
theorem dX11_chance_93 : decode cX11_chance 93 = .ok (.ifCond .ne 8, 3) := by decide +kernel
theorem dX11_chance_96 : decode cX11_chance 96 = .ok (.lload 6, 2) := by decide +kernel
theorem dX11_chance_98 : decode cX11_chance 98 = .ok (.goto 5, 3) := by decide +kernel
theorem dX11_chance_101 : decode cX11_chance 101 = .ok (.lload 4, 2) := by decide +kernel
theorem dX11_chance_103 : decode cX11_chance 103 = .ok (.lload 8, 2) := by decide +kernel
theorem dX11_chance_105 : decode cX11_chance 105 = .ok (.ldiv, 1) := by decide +kernel
theorem dX11_chance_106 : decode cX11_chance 106 = .ok (.lreturn, 1) := by decide +kernel
theorem dX11_next_0 : decode cX11_next 0 = .ok (.aload_n 0, 1) := by decide +kernel
theorem dX11_next_1 : decode cX11_next 1 = .ok (.getfield 43, 3) := by decide +kernel
theorem dX11_next_4 : decode cX11_next 4 = .ok (.aload_n 0, 1) := by decide +kernel
theorem dX11_next_5 : decode cX11_next 5 = .ok (.getfield 23, 3) := by decide +kernel
theorem dX11_next_8 : decode cX11_next 8 = .ok (.invokevirtual 143, 3) := by decide +kernel
theorem dX11_next_11 : decode cX11_next 11 = .ok (.iload_n 1, 1) := by decide +kernel
theorem dX11_next_12 : decode cX11_next 12 = .ok (.ifCond .lt 20, 3) := by decide +kernel
theorem dX11_next_15 : decode cX11_next 15 = .ok (.iload_n 1, 1) := by decide +kernel
theorem dX11_next_16 : decode cX11_next 16 = .ok (.iconst 2, 1) := by decide +kernel
theorem dX11_next_17 : decode cX11_next 17 = .ok (.if_icmp .gt 15, 3) := by decide +kernel
theorem dX11_next_20 : decode cX11_next 20 = .ok (.aload_n 0, 1) := by decide +kernel
theorem dX11_next_21 : decode cX11_next 21 = .ok (.getfield 43, 3) := by decide +kernel
theorem dX11_next_24 : decode cX11_next 24 = .ok (.invokevirtual 146, 3) := by decide +kernel
theorem dX11_next_27 : decode cX11_next 27 = .ok (.lconst 1, 1) := by decide +kernel
theorem dX11_next_28 : decode cX11_next 28 = .ok (.lcmp, 1) := by decide +kernel
theorem dX11_next_29 : decode cX11_next 29 = .ok (.ifCond .gt 5, 3) := by decide +kernel
theorem dX11_next_32 : decode cX11_next 32 = .ok (.iconst (-1), 1) := by decide +kernel
theorem dX11_next_33 : decode cX11_next 33 = .ok (.ireturn, 1) := by decide +kernel
theorem dX11_next_34 : decode cX11_next 34 = .ok (.aload_n 0, 1) := by decide +kernel
theorem dX11_next_35 : decode cX11_next 35 = .ok (.getfield 43, 3) := by decide +kernel
theorem dX11_next_38 : decode cX11_next 38 = .ok (.invokevirtual 189, 3) := by decide +kernel
theorem dX11_next_41 : decode cX11_next 41 = .ok (.aload_n 0, 1) := by decide +kernel
theorem dX11_next_42 : decode cX11_next 42 = .ok (.getfield 43, 3) := by decide +kernel
theorem dX11_next_45 : decode cX11_next 45 = .ok (.iload_n 1, 1) := by decide +kernel
theorem dX11_next_46 : decode cX11_next 46 = .ok (.invokevirtual 200, 3) := by decide +kernel
theorem dX11_next_49 : decode cX11_next 49 = .ok (.ireturn, 1) := by decide +kernel
theorem dX11_needed_0 : decode cX11_needed 0 = .ok (.aload_n 0, 1) := by decide +kernel
theorem dX11_needed_1 : decode cX11_needed 1 = .ok (.getfield 23, 3) := by decide +kernel
theorem dX11_needed_4 : decode cX11_needed 4 = .ok (.getfield 104, 3) := by decide +kernel
theorem dX11_needed_7 : decode cX11_needed 7 = .ok (.getfield 180, 3) := by decide +kernel
theorem dX11_needed_10 : decode cX11_needed 10 = .ok (.iconst 5, 1) := by decide +kernel
theorem dX11_needed_11 : decode cX11_needed 11 = .ok (.if_icmp .le 7, 3) := by decide +kernel
theorem dX11_needed_14 : decode cX11_needed 14 = .ok (.iconst (-1), 1) := by decide +kernel
theorem dX11_needed_15 : decode cX11_needed 15 = .ok (.goto 14, 3) := by decide +kernel
theorem dX11_needed_18 : decode cX11_needed 18 = .ok (.aload_n 0, 1) := by decide +kernel
theorem dX11_needed_19 : decode cX11_needed 19 = .ok (.getfield 60, 3) := by decide +kernel
theorem dX11_needed_22 : decode cX11_needed 22 = .ok (.aload_n 0, 1) := by decide +kernel
theorem dX11_needed_23 : decode cX11_needed 23 = .ok (.getfield 23, 3) := by decide +kernel
theorem dX11_needed_26 : decode cX11_needed 26 = .ok (.invokevirtual 203, 3) := by decide +kernel
theorem dX11_needed_29 : decode cX11_needed 29 = .ok (.ireturn, 1) := by decide +kernel
theorem dX11_newOne_0 : decode cX11_newOne 0 = .ok (.aload_n 0, 1) := by decide +kernel
theorem dX11_newOne_1 : decode cX11_newOne 1 = .ok (.iload_n 1, 1) := by decide +kernel
theorem dX11_newOne_2 : decode cX11_newOne 2 = .ok (.invokevirtual 100, 3) := by decide +kernel
theorem dX11_newOne_5 : decode cX11_newOne 5 = .ok (.ifCond .ne 5, 3) := by decide +kernel
theorem dX11_newOne_8 : decode cX11_newOne 8 = .ok (.iconst (-1), 1) := by decide +kernel
theorem dX11_newOne_9 : decode cX11_newOne 9 = .ok (.ireturn, 1) := by decide +kernel
theorem dX11_newOne_10 : decode cX11_newOne 10 = .ok (.aload_n 0, 1) := by decide +kernel
theorem dX11_newOne_11 : decode cX11_newOne 11 = .ok (.getfield 34, 3) := by decide +kernel
theorem dX11_newOne_14 : decode cX11_newOne 14 = .ok (.aload_n 0, 1) := by decide +kernel
theorem dX11_newOne_15 : decode cX11_newOne 15 = .ok (.getfield 23, 3) := by decide +kernel
theorem dX11_newOne_18 : decode cX11_newOne 18 = .ok (.invokevirtual 150, 3) := by decide +kernel
theorem dX11_newOne_21 : decode cX11_newOne 21 = .ok (.aload_n 0, 1) := by decide +kernel
theorem dX11_newOne_22 : decode cX11_newOne 22 = .ok (.getfield 34, 3) := by decide +kernel
theorem dX11_newOne_25 : decode cX11_newOne 25 = .ok (.iload_n 1, 1) := by decide +kernel
theorem dX11_newOne_26 : decode cX11_newOne 26 = .ok (.invokevirtual 207, 3) := by decide +kernel
theorem dX11_newOne_29 : decode cX11_newOne 29 = .ok (.istore_n 2, 1) := by decide +kernel
theorem dX11_newOne_30 : decode cX11_newOne 30 = .ok (.iload_n 2, 1) := by decide +kernel
theorem dX11_newOne_31 : decode cX11_newOne 31 = .ok (.ifCond .gt 5, 3) := by decide +kernel
theorem dX11_newOne_34 : decode cX11_newOne 34 = .ok (.iconst (-1), 1) := by decide +kernel
theorem dX11_newOne_35 : decode cX11_newOne 35 = .ok (.ireturn, 1) := by decide +kernel
theorem dX11_newOne_36 : decode cX11_newOne 36 = .ok (.iconst 0, 1) := by decide +kernel
theorem dX11_newOne_37 : decode cX11_newOne 37 = .ok (.istore_n 3, 1) := by decide +kernel
theorem dX11_newOne_38 : decode cX11_newOne 38 = .ok (.iload_n 3, 1) := by decide +kernel
theorem dX11_newOne_39 : decode cX11_newOne 39 = .ok (.bipush 10, 2) := by decide +kernel
theorem dX11_newOne_41 : decode cX11_newOne 41 = .ok (.if_icmp .ge 16, 3) := by decide +kernel
theorem dX11_newOne_44 : decode cX11_newOne 44 = .ok (.iconst 1, 1) := by decide +kernel
theorem dX11_newOne_45 : decode cX11_newOne 45 = .ok (.iload_n 3, 1) := by decide +kernel
theorem dX11_newOne_46 : decode cX11_newOne 46 = .ok (.ishl, 1) := by decide +kernel
theorem dX11_newOne_47 : decode cX11_newOne 47 = .ok (.iload_n 2, 1) := by decide +kernel
theorem dX11_newOne_48 : decode cX11_newOne 48 = .ok (.if_icmp .ge 9, 3) := by decide +kernel
theorem dX11_newOne_51 : decode cX11_newOne 51 = .ok (.iinc 3 1, 3) := by decide +kernel
theorem dX11_newOne_54 : decode cX11_newOne 54 = .ok (.goto (-16), 3) := by decide +kernel
theorem dX11_newOne_57 : decode cX11_newOne 57 = .ok (.iload_n 3, 1) := by decide +kernel
theorem dX11_newOne_58 : decode cX11_newOne 58 = .ok (.ireturn, 1) := by decide +kernel
theorem dX11_sit_0 : decode cX11_sit 0 = .ok (.aload_n 0, 1) := by decide +kernel
theorem dX11_sit_1 : decode cX11_sit 1 = .ok (.iload_n 1, 1) := by decide +kernel
theorem dX11_sit_2 : decode cX11_sit 2 = .ok (.invokevirtual 100, 3) := by decide +kernel
theorem dX11_sit_5 : decode cX11_sit 5 = .ok (.ifCond .eq 24, 3) := by decide +kernel
theorem dX11_sit_8 : decode cX11_sit 8 = .ok (.aload_n 0, 1) := by decide +kernel
theorem dX11_sit_9 : decode cX11_sit 9 = .ok (.iload_n 2, 1) := by decide +kernel
theorem dX11_sit_10 : decode cX11_sit 10 = .ok (.invokevirtual 210, 3) := by decide +kernel
theorem dX11_sit_13 : decode cX11_sit 13 = .ok (.ifCond .eq 16, 3) := by decide +kernel
theorem dX11_sit_16 : decode cX11_sit 16 = .ok (.aload_n 0, 1) := by decide +kernel
theorem dX11_sit_17 : decode cX11_sit 17 = .ok (.getfield 23, 3) := by decide +kernel
theorem dX11_sit_20 : decode cX11_sit 20 = .ok (.getfield 117, 3) := by decide +kernel
theorem dX11_sit_23 : decode cX11_sit 23 = .ok (.iload_n 1, 1) := by decide +kernel
theorem dX11_sit_24 : decode cX11_sit 24 = .ok (.iaload, 1) := by decide +kernel
theorem dX11_sit_25 : decode cX11_sit 25 = .ok (.iload_n 2, 1) := by decide +kernel
theorem dX11_sit_26 : decode cX11_sit 26 = .ok (.if_icmp .ne 5, 3) := by decide +kernel
theorem dX11_sit_29 : decode cX11_sit 29 = .ok (.iconst 0, 1) := by decide +kernel
theorem dX11_sit_30 : decode cX11_sit 30 = .ok (.ireturn, 1) := by decide +kernel
theorem dX11_sit_31 : decode cX11_sit 31 = .ok (.iload_n 2, 1) := by decide +kernel
theorem dX11_sit_32 : decode cX11_sit 32 = .ok (.iconst (-1), 1) := by decide +kernel
theorem dX11_sit_33 : decode cX11_sit 33 = .ok (.if_icmp .eq 17, 3) := by decide +kernel
theorem dX11_sit_36 : decode cX11_sit 36 = .ok (.aload_n 0, 1) := by decide +kernel
theorem dX11_sit_37 : decode cX11_sit 37 = .ok (.getfield 23, 3) := by decide +kernel
theorem dX11_sit_40 : decode cX11_sit 40 = .ok (.iload_n 2, 1) := by decide +kernel
theorem dX11_sit_41 : decode cX11_sit 41 = .ok (.invokevirtual 213, 3) := by decide +kernel
theorem dX11_sit_44 : decode cX11_sit 44 = .ok (.iconst (-1), 1) := by decide +kernel
theorem dX11_sit_45 : decode cX11_sit 45 = .ok (.if_icmp .eq 5, 3) := by decide +kernel
theorem dX11_sit_48 : decode cX11_sit 48 = .ok (.iconst 0, 1) := by decide +kernel
theorem dX11_sit_49 : decode cX11_sit 49 = .ok (.ireturn, 1) := by decide +kernel
theorem dX11_sit_50 : decode cX11_sit 50 = .ok (.aload_n 0, 1) := by decide +kernel
theorem dX11_sit_51 : decode cX11_sit 51 = .ok (.getfield 23, 3) := by decide +kernel
theorem dX11_sit_54 : decode cX11_sit 54 = .ok (.getfield 117, 3) := by decide +kernel
theorem dX11_sit_57 : decode cX11_sit 57 = .ok (.iload_n 1, 1) := by decide +kernel
theorem dX11_sit_58 : decode cX11_sit 58 = .ok (.iload_n 2, 1) := by decide +kernel
theorem dX11_sit_59 : decode cX11_sit 59 = .ok (.iastore, 1) := by decide +kernel
theorem dX11_sit_60 : decode cX11_sit 60 = .ok (.iconst 1, 1) := by decide +kernel
theorem dX11_sit_61 : decode cX11_sit 61 = .ok (.ireturn, 1) := by decide +kernel
theorem dX11_plan_0 : decode cX11_plan 0 = .ok (.aload_n 0, 1) := by decide +kernel
theorem dX11_plan_1 : decode cX11_plan 1 = .ok (.iload_n 1, 1) := by decide +kernel
theorem dX11_plan_2 : decode cX11_plan 2 = .ok (.invokevirtual 100, 3) := by decide +kernel
theorem dX11_plan_5 : decode cX11_plan 5 = .ok (.ifCond .eq 11, 3) := by decide +kernel
theorem dX11_plan_8 : decode cX11_plan 8 = .ok (.aload_n 0, 1) := by decide +kernel
theorem dX11_plan_9 : decode cX11_plan 9 = .ok (.iload_n 2, 1) := by decide +kernel
theorem dX11_plan_10 : decode cX11_plan 10 = .ok (.invokevirtual 210, 3) := by decide +kernel
theorem dX11_plan_13 : decode cX11_plan 13 = .ok (.ifCond .ne 5, 3) := by decide +kernel
theorem dX11_plan_16 : decode cX11_plan 16 = .ok (.iconst 0, 1) := by decide +kernel
theorem dX11_plan_17 : decode cX11_plan 17 = .ok (.ireturn, 1) := by decide +kernel
theorem dX11_plan_18 : decode cX11_plan 18 = .ok (.iconst 0, 1) := by decide +kernel
theorem dX11_plan_19 : decode cX11_plan 19 = .ok (.istore_n 3, 1) := by decide +kernel
theorem dX11_plan_20 : decode cX11_plan 20 = .ok (.iload_n 3, 1) := by decide +kernel
theorem dX11_plan_21 : decode cX11_plan 21 = .ok (.aload_n 0, 1) := by decide +kernel
theorem dX11_plan_22 : decode cX11_plan 22 = .ok (.getfield 23, 3) := by decide +kernel
theorem dX11_plan_25 : decode cX11_plan 25 = .ok (.getfield 104, 3) := by decide +kernel
theorem dX11_plan_28 : decode cX11_plan 28 = .ok (.getfield 180, 3) := by decide +kernel
theorem dX11_plan_31 : decode cX11_plan 31 = .ok (.if_icmp .ge 34, 3) := by decide +kernel
theorem dX11_plan_34 : decode cX11_plan 34 = .ok (.iload_n 2, 1) := by decide +kernel
theorem dX11_plan_35 : decode cX11_plan 35 = .ok (.iconst (-1), 1) := by decide +kernel
theorem dX11_plan_36 : decode cX11_plan 36 = .ok (.if_icmp .eq 23, 3) := by decide +kernel
theorem dX11_plan_39 : decode cX11_plan 39 = .ok (.iload_n 3, 1) := by decide +kernel
theorem dX11_plan_40 : decode cX11_plan 40 = .ok (.iload_n 1, 1) := by decide +kernel
theorem dX11_plan_41 : decode cX11_plan 41 = .ok (.if_icmp .eq 18, 3) := by decide +kernel
theorem dX11_plan_44 : decode cX11_plan 44 = .ok (.aload_n 0, 1) := by decide +kernel
theorem dX11_plan_45 : decode cX11_plan 45 = .ok (.getfield 23, 3) := by decide +kernel
theorem dX11_plan_48 : decode cX11_plan 48 = .ok (.getfield 120, 3) := by decide +kernel
theorem dX11_plan_51 : decode cX11_plan 51 = .ok (.iload_n 3, 1) := by decide +kernel
theorem dX11_plan_52 : decode cX11_plan 52 = .ok (.iaload, 1) := by decide +kernel
theorem dX11_plan_53 : decode cX11_plan 53 = .ok (.iload_n 2, 1) := by decide +kernel
theorem dX11_plan_54 : decode cX11_plan 54 = .ok (.if_icmp .ne 5, 3) := by decide +kernel
theorem dX11_plan_57 : decode cX11_plan 57 = .ok (.iconst 0, 1) := by decide +kernel
theorem dX11_plan_58 : decode cX11_plan 58 = .ok (.ireturn, 1) := by decide +kernel
theorem dX11_plan_59 : decode cX11_plan 59 = .ok (.iinc 3 1, 3) := by decide +kernel
theorem dX11_plan_62 : decode cX11_plan 62 = .ok (.goto (-42), 3) := by decide +kernel
theorem dX11_plan_65 : decode cX11_plan 65 = .ok (.aload_n 0, 1) := by decide +kernel
theorem dX11_plan_66 : decode cX11_plan 66 = .ok (.getfield 23, 3) := by decide +kernel
theorem dX11_plan_69 : decode cX11_plan 69 = .ok (.getfield 120, 3) := by decide +kernel
theorem dX11_plan_72 : decode cX11_plan 72 = .ok (.iload_n 1, 1) := by decide +kernel
theorem dX11_plan_73 : decode cX11_plan 73 = .ok (.iload_n 2, 1) := by decide +kernel
theorem dX11_plan_74 : decode cX11_plan 74 = .ok (.iastore, 1) := by decide +kernel
theorem dX11_plan_75 : decode cX11_plan 75 = .ok (.iconst 1, 1) := by decide +kernel
theorem dX11_plan_76 : decode cX11_plan 76 = .ok (.ireturn, 1) := by decide +kernel
theorem dX11_changes_0 : decode cX11_changes 0 = .ok (.aload_n 0, 1) := by decide +kernel
theorem dX11_changes_1 : decode cX11_changes 1 = .ok (.getfield 23, 3) := by decide +kernel
theorem dX11_changes_4 : decode cX11_changes 4 = .ok (.getfield 104, 3) := by decide +kernel
theorem dX11_changes_7 : decode cX11_changes 7 = .ok (.getfield 180, 3) := by decide +kernel
theorem dX11_changes_10 : decode cX11_changes 10 = .ok (.istore_n 1, 1) := by decide +kernel
theorem dX11_changes_11 : decode cX11_changes 11 = .ok (.aload_n 0, 1) := by decide +kernel
theorem dX11_changes_12 : decode cX11_changes 12 = .ok (.getfield 23, 3) := by decide +kernel
theorem dX11_changes_15 : decode cX11_changes 15 = .ok (.aload_n 0, 1) := by decide +kernel
theorem dX11_changes_16 : decode cX11_changes 16 = .ok (.getfield 23, 3) := by decide +kernel
theorem dX11_changes_19 : decode cX11_changes 19 = .ok (.getfield 117, 3) := by decide +kernel
theorem dX11_changes_22 : decode cX11_changes 22 = .ok (.invokevirtual 216, 3) := by decide +kernel
theorem dX11_changes_25 : decode cX11_changes 25 = .ok (.iload_n 1, 1) := by decide +kernel
theorem dX11_changes_26 : decode cX11_changes 26 = .ok (.if_icmp .lt 21, 3) := by decide +kernel
theorem dX11_changes_29 : decode cX11_changes 29 = .ok (.aload_n 0, 1) := by decide +kernel
theorem dX11_changes_30 : decode cX11_changes 30 = .ok (.getfield 23, 3) := by decide +kernel
theorem dX11_changes_33 : decode cX11_changes 33 = .ok (.aload_n 0, 1) := by decide +kernel
theorem dX11_changes_34 : decode cX11_changes 34 = .ok (.getfield 23, 3) := by decide +kernel
theorem dX11_changes_37 : decode cX11_changes 37 = .ok (.getfield 120, 3) := by decide +kernel
theorem dX11_changes_40 : decode cX11_changes 40 = .ok (.invokevirtual 216, 3) := by decide +kernel
theorem dX11_changes_43 : decode cX11_changes 43 = .ok (.iload_n 1, 1) := by decide +kernel
theorem dX11_changes_44 : decode cX11_changes 44 = .ok (.if_icmp .ge 5, 3) := by decide +kernel
theorem dX11_changes_47 : decode cX11_changes 47 = .ok (.iconst (-1), 1) := by decide +kernel
theorem dX11_changes_48 : decode cX11_changes 48 = .ok (.ireturn, 1) := by decide +kernel
theorem dX11_changes_49 : decode cX11_changes 49 = .ok (.iload_n 1, 1) := by decide +kernel
theorem dX11_changes_50 : decode cX11_changes 50 = .ok (.aload_n 0, 1) := by decide +kernel
theorem dX11_changes_51 : decode cX11_changes 51 = .ok (.getfield 23, 3) := by decide +kernel
theorem dX11_changes_54 : decode cX11_changes 54 = .ok (.invokevirtual 220, 3) := by decide +kernel
theorem dX11_changes_57 : decode cX11_changes 57 = .ok (.isub, 1) := by decide +kernel
theorem dX11_changes_58 : decode cX11_changes 58 = .ok (.ireturn, 1) := by decide +kernel
theorem dX11_hidden_0 : decode cX11_hidden 0 = .ok (.aload_n 0, 1) := by decide +kernel
theorem dX11_hidden_1 : decode cX11_hidden 1 = .ok (.iload_n 1, 1) := by decide +kernel
theorem dX11_hidden_2 : decode cX11_hidden 2 = .ok (.invokevirtual 100, 3) := by decide +kernel
theorem dX11_hidden_5 : decode cX11_hidden 5 = .ok (.ifCond .eq 16, 3) := by decide +kernel
theorem dX11_hidden_8 : decode cX11_hidden 8 = .ok (.aload_n 0, 1) := by decide +kernel
theorem dX11_hidden_9 : decode cX11_hidden 9 = .ok (.getfield 23, 3) := by decide +kernel
theorem dX11_hidden_12 : decode cX11_hidden 12 = .ok (.getfield 117, 3) := by decide +kernel
theorem dX11_hidden_15 : decode cX11_hidden 15 = .ok (.iload_n 1, 1) := by decide +kernel
theorem dX11_hidden_16 : decode cX11_hidden 16 = .ok (.iaload, 1) := by decide +kernel
theorem dX11_hidden_17 : decode cX11_hidden 17 = .ok (.iconst (-1), 1) := by decide +kernel
theorem dX11_hidden_18 : decode cX11_hidden 18 = .ok (.if_icmp .ne 11, 3) := by decide +kernel
theorem dX11_hidden_21 : decode cX11_hidden 21 = .ok (.new 223, 3) := by decide +kernel
theorem dX11_hidden_24 : decode cX11_hidden 24 = .ok (.dup, 1) := by decide +kernel
theorem dX11_hidden_25 : decode cX11_hidden 25 = .ok (.invokespecial 225, 3) := by decide +kernel
theorem dX11_hidden_28 : decode cX11_hidden 28 = .ok (.athrow, 1) := by decide +kernel
theorem dX11_hidden_29 : decode cX11_hidden 29 = .ok (.aload_n 0, 1) := by decide +kernel
theorem dX11_hidden_30 : decode cX11_hidden 30 = .ok (.getfield 23, 3) := by decide +kernel
theorem dX11_hidden_33 : decode cX11_hidden 33 = .ok (.iload_n 1, 1) := by decide +kernel
theorem dX11_hidden_34 : decode cX11_hidden 34 = .ok (.invokevirtual 226, 3) := by decide +kernel
theorem dX11_hidden_37 : decode cX11_hidden 37 = .ok (.ireturn, 1) := by decide +kernel
theorem dX11_wishes_0 : decode cX11_wishes 0 = .ok (.aload_n 0, 1) := by decide +kernel
theorem dX11_wishes_1 : decode cX11_wishes 1 = .ok (.iload_n 1, 1) := by decide +kernel
theorem dX11_wishes_2 : decode cX11_wishes 2 = .ok (.iload_n 2, 1) := by decide +kernel
theorem dX11_wishes_3 : decode cX11_wishes 3 = .ok (.invokevirtual 123, 3) := by decide +kernel
theorem dX11_wishes_6 : decode cX11_wishes 6 = .ok (.ifCond .ne 5, 3) := by decide +kernel
theorem dX11_wishes_9 : decode cX11_wishes 9 = .ok (.iconst (-1), 1) := by decide +kernel
theorem dX11_wishes_10 : decode cX11_wishes 10 = .ok (.ireturn, 1) := by decide +kernel
theorem dX11_wishes_11 : decode cX11_wishes 11 = .ok (.aload_n 0, 1) := by decide +kernel
theorem dX11_wishes_12 : decode cX11_wishes 12 = .ok (.getfield 34, 3) := by decide +kernel
theorem dX11_wishes_15 : decode cX11_wishes 15 = .ok (.aload_n 0, 1) := by decide +kernel
theorem dX11_wishes_16 : decode cX11_wishes 16 = .ok (.getfield 23, 3) := by decide +kernel
theorem dX11_wishes_19 : decode cX11_wishes 19 = .ok (.invokevirtual 150, 3) := by decide +kernel
theorem dX11_wishes_22 : decode cX11_wishes 22 = .ok (.aload_n 0, 1) := by decide +kernel
theorem dX11_wishes_23 : decode cX11_wishes 23 = .ok (.getfield 67, 3) := by decide +kernel
theorem dX11_wishes_26 : decode cX11_wishes 26 = .ok (.aload_n 0, 1) := by decide +kernel
theorem dX11_wishes_27 : decode cX11_wishes 27 = .ok (.getfield 23, 3) := by decide +kernel
theorem dX11_wishes_30 : decode cX11_wishes 30 = .ok (.getfield 104, 3) := by decide +kernel
theorem dX11_wishes_33 : decode cX11_wishes 33 = .ok (.aload_n 0, 1) := by decide +kernel
theorem dX11_wishes_34 : decode cX11_wishes 34 = .ok (.getfield 34, 3) := by decide +kernel
theorem dX11_wishes_37 : decode cX11_wishes 37 = .ok (.iload_n 1, 1) := by decide +kernel
theorem dX11_wishes_38 : decode cX11_wishes 38 = .ok (.iload_n 2, 1) := by decide +kernel
theorem dX11_wishes_39 : decode cX11_wishes 39 = .ok (.invokevirtual 229, 3) := by decide +kernel
theorem dX11_wishes_42 : decode cX11_wishes 42 = .ok (.ireturn, 1) := by decide +kernel
theorem dX11_rests_0 : decode cX11_rests 0 = .ok (.aload_n 0, 1) := by decide +kernel
theorem dX11_rests_1 : decode cX11_rests 1 = .ok (.invokevirtual 233, 3) := by decide +kernel
theorem dX11_rests_4 : decode cX11_rests 4 = .ok (.ifCond .eq 13, 3) := by decide +kernel
theorem dX11_rests_7 : decode cX11_rests 7 = .ok (.aload_n 0, 1) := by decide +kernel
theorem dX11_rests_8 : decode cX11_rests 8 = .ok (.getfield 67, 3) := by decide +kernel
theorem dX11_rests_11 : decode cX11_rests 11 = .ok (.getfield 237, 3) := by decide +kernel
theorem dX11_rests_14 : decode cX11_rests 14 = .ok (.goto 4, 3) := by decide +kernel
theorem dX11_rests_17 : decode cX11_rests 17 = .ok (.iconst (-1), 1) := by decide +kernel
theorem dX11_rests_18 : decode cX11_rests 18 = .ok (.ireturn, 1) := by decide +kernel
theorem dX11_rest_0 : decode cX11_rest 0 = .ok (.aload_n 0, 1) := by decide +kernel
theorem dX11_rest_1 : decode cX11_rest 1 = .ok (.iload_n 2, 1) := by decide +kernel
theorem dX11_rest_2 : decode cX11_rest 2 = .ok (.invokevirtual 100, 3) := by decide +kernel
theorem dX11_rest_5 : decode cX11_rest 5 = .ok (.ifCond .eq 25, 3) := by decide +kernel
theorem dX11_rest_8 : decode cX11_rest 8 = .ok (.iload_n 1, 1) := by decide +kernel
theorem dX11_rest_9 : decode cX11_rest 9 = .ok (.ifCond .lt 21, 3) := by decide +kernel
theorem dX11_rest_12 : decode cX11_rest 12 = .ok (.aload_n 0, 1) := by decide +kernel
theorem dX11_rest_13 : decode cX11_rest 13 = .ok (.invokevirtual 233, 3) := by decide +kernel
theorem dX11_rest_16 : decode cX11_rest 16 = .ok (.ifCond .eq 14, 3) := by decide +kernel
theorem dX11_rest_19 : decode cX11_rest 19 = .ok (.iload_n 1, 1) := by decide +kernel
theorem dX11_rest_20 : decode cX11_rest 20 = .ok (.aload_n 0, 1) := by decide +kernel
theorem dX11_rest_21 : decode cX11_rest 21 = .ok (.getfield 67, 3) := by decide +kernel
theorem dX11_rest_24 : decode cX11_rest 24 = .ok (.getfield 237, 3) := by decide +kernel
theorem dX11_rest_27 : decode cX11_rest 27 = .ok (.if_icmp .lt 5, 3) := by decide +kernel
theorem dX11_rest_30 : decode cX11_rest 30 = .ok (.iconst (-1), 1) := by decide +kernel
theorem dX11_rest_31 : decode cX11_rest 31 = .ok (.ireturn, 1) := by decide +kernel
theorem dX11_rest_32 : decode cX11_rest 32 = .ok (.aload_n 0, 1) := by decide +kernel
theorem dX11_rest_33 : decode cX11_rest 33 = .ok (.getfield 67, 3) := by decide +kernel
theorem dX11_rest_36 : decode cX11_rest 36 = .ok (.iload_n 1, 1) := by decide +kernel
theorem dX11_rest_37 : decode cX11_rest 37 = .ok (.iload_n 2, 1) := by decide +kernel
theorem dX11_rest_38 : decode cX11_rest 38 = .ok (.invokevirtual 240, 3) := by decide +kernel
theorem dX11_rest_41 : decode cX11_rest 41 = .ok (.ireturn, 1) := by decide +kernel
theorem dX11_season_0 : decode cX11_season 0 = .ok (.iload_n 1, 1) := by decide +kernel
theorem dX11_season_1 : decode cX11_season 1 = .ok (.ifCond .lt 23, 3) := by decide +kernel
theorem dX11_season_4 : decode cX11_season 4 = .ok (.iload_n 1, 1) := by decide +kernel
theorem dX11_season_5 : decode cX11_season 5 = .ok (.sipush 9999, 3) := by decide +kernel
theorem dX11_season_8 : decode cX11_season 8 = .ok (.if_icmp .gt 16, 3) := by decide +kernel
theorem dX11_season_11 : decode cX11_season 11 = .ok (.iload_n 2, 1) := by decide +kernel
theorem dX11_season_12 : decode cX11_season 12 = .ok (.ifCond .lt 12, 3) := by decide +kernel
theorem dX11_season_15 : decode cX11_season 15 = .ok (.iload_n 2, 1) := by decide +kernel
theorem dX11_season_16 : decode cX11_season 16 = .ok (.iconst 1, 1) := by decide +kernel
theorem dX11_season_17 : decode cX11_season 17 = .ok (.if_icmp .gt 7, 3) := by decide +kernel
theorem dX11_season_20 : decode cX11_season 20 = .ok (.iconst 1, 1) := by decide +kernel
theorem dX11_season_21 : decode cX11_season 21 = .ok (.goto 4, 3) := by decide +kernel
theorem dX11_season_24 : decode cX11_season 24 = .ok (.iconst 0, 1) := by decide +kernel
theorem dX11_season_25 : decode cX11_season 25 = .ok (.istore_n 3, 1) := by decide +kernel
theorem dX11_season_26 : decode cX11_season 26 = .ok (.iload_n 3, 1) := by decide +kernel
theorem dX11_season_27 : decode cX11_season 27 = .ok (.ifCond .eq 17, 3) := by decide +kernel
theorem dX11_season_30 : decode cX11_season 30 = .ok (.aload_n 0, 1) := by decide +kernel
theorem dX11_season_31 : decode cX11_season 31 = .ok (.getfield 23, 3) := by decide +kernel
theorem dX11_season_34 : decode cX11_season 34 = .ok (.getfield 104, 3) := by decide +kernel
theorem dX11_season_37 : decode cX11_season 37 = .ok (.getfield 180, 3) := by decide +kernel
theorem dX11_season_40 : decode cX11_season 40 = .ok (.iconst 2, 1) := by decide +kernel
theorem dX11_season_41 : decode cX11_season 41 = .ok (.if_icmp .ge 5, 3) := by decide +kernel
theorem dX11_season_44 : decode cX11_season 44 = .ok (.iconst (-1), 1) := by decide +kernel
theorem dX11_season_45 : decode cX11_season 45 = .ok (.ireturn, 1) := by decide +kernel
theorem dX11_season_46 : decode cX11_season 46 = .ok (.aload_n 0, 1) := by decide +kernel
theorem dX11_season_47 : decode cX11_season 47 = .ok (.getfield 53, 3) := by decide +kernel
theorem dX11_season_50 : decode cX11_season 50 = .ok (.aload_n 0, 1) := by decide +kernel
theorem dX11_season_51 : decode cX11_season 51 = .ok (.getfield 23, 3) := by decide +kernel
theorem dX11_season_54 : decode cX11_season 54 = .ok (.iconst (-1), 1) := by decide +kernel
theorem dX11_season_55 : decode cX11_season 55 = .ok (.invokevirtual 167, 3) := by decide +kernel
theorem dX11_season_58 : decode cX11_season 58 = .ok (.aload_n 0, 1) := by decide +kernel
theorem dX11_season_59 : decode cX11_season 59 = .ok (.getfield 74, 3) := by decide +kernel
theorem dX11_season_62 : decode cX11_season 62 = .ok (.aload_n 0, 1) := by decide +kernel
theorem dX11_season_63 : decode cX11_season 63 = .ok (.getfield 23, 3) := by decide +kernel
theorem dX11_season_66 : decode cX11_season 66 = .ok (.aload_n 0, 1) := by decide +kernel
theorem dX11_season_67 : decode cX11_season 67 = .ok (.getfield 53, 3) := by decide +kernel
theorem dX11_season_70 : decode cX11_season 70 = .ok (.getfield 174, 3) := by decide +kernel
theorem dX11_season_73 : decode cX11_season 73 = .ok (.iload_n 1, 1) := by decide +kernel
theorem dX11_season_74 : decode cX11_season 74 = .ok (.invokevirtual 244, 3) := by decide +kernel
theorem dX11_season_77 : decode cX11_season 77 = .ok (.iload_n 2, 1) := by decide +kernel
theorem dX11_season_78 : decode cX11_season 78 = .ok (.ifCond .ne 11, 3) := by decide +kernel
theorem dX11_season_81 : decode cX11_season 81 = .ok (.aload_n 0, 1) := by decide +kernel
theorem dX11_season_82 : decode cX11_season 82 = .ok (.getfield 74, 3) := by decide +kernel
theorem dX11_season_85 : decode cX11_season 85 = .ok (.invokevirtual 248, 3) := by decide +kernel
theorem dX11_season_88 : decode cX11_season 88 = .ok (.ireturn, 1) := by decide +kernel
theorem dX11_season_89 : decode cX11_season 89 = .ok (.aload_n 0, 1) := by decide +kernel
theorem dX11_season_90 : decode cX11_season 90 = .ok (.getfield 74, 3) := by decide +kernel
theorem dX11_season_93 : decode cX11_season 93 = .ok (.bipush 20, 2) := by decide +kernel
theorem dX11_season_95 : decode cX11_season 95 = .ok (.invokevirtual 251, 3) := by decide +kernel
theorem dX11_season_98 : decode cX11_season 98 = .ok (.aload_n 0, 1) := by decide +kernel
theorem dX11_season_99 : decode cX11_season 99 = .ok (.getfield 53, 3) := by decide +kernel
theorem dX11_season_102 : decode cX11_season 102 = .ok (.invokevirtual 255, 3) := by decide +kernel
theorem dX11_season_105 : decode cX11_season 105 = .ok (.aload_n 0, 1) := by decide +kernel
theorem dX11_season_106 : decode cX11_season 106 = .ok (.getfield 53, 3) := by decide +kernel
theorem dX11_season_109 : decode cX11_season 109 = .ok (.aload_n 0, 1) := by decide +kernel
theorem dX11_season_110 : decode cX11_season 110 = .ok (.getfield 74, 3) := by decide +kernel
theorem dX11_season_113 : decode cX11_season 113 = .ok (.getfield 258, 3) := by decide +kernel
theorem dX11_season_116 : decode cX11_season 116 = .ok (.iconst (-1), 1) := by decide +kernel
theorem dX11_season_117 : decode cX11_season 117 = .ok (.invokevirtual 167, 3) := by decide +kernel
theorem dX11_season_120 : decode cX11_season 120 = .ok (.aload_n 0, 1) := by decide +kernel
theorem dX11_season_121 : decode cX11_season 121 = .ok (.getfield 53, 3) := by decide +kernel
theorem dX11_season_124 : decode cX11_season 124 = .ok (.invokevirtual 170, 3) := by decide +kernel
theorem dX11_season_127 : decode cX11_season 127 = .ok (.istore 4, 2) := by decide +kernel
theorem dX11_season_129 : decode cX11_season 129 = .ok (.aload_n 0, 1) := by decide +kernel
theorem dX11_season_130 : decode cX11_season 130 = .ok (.getfield 53, 3) := by decide +kernel
theorem dX11_season_133 : decode cX11_season 133 = .ok (.invokevirtual 255, 3) := by decide +kernel
theorem dX11_season_136 : decode cX11_season 136 = .ok (.iload 4, 2) := by decide +kernel
theorem dX11_season_138 : decode cX11_season 138 = .ok (.ireturn, 1) := by decide +kernel
theorem dX11_mark_0 : decode cX11_mark 0 = .ok (.iload_n 1, 1) := by decide +kernel
theorem dX11_mark_1 : decode cX11_mark 1 = .ok (.ifCond .lt 8, 3) := by decide +kernel
theorem dX11_mark_4 : decode cX11_mark 4 = .ok (.iload_n 1, 1) := by decide +kernel
theorem dX11_mark_5 : decode cX11_mark 5 = .ok (.iconst 4, 1) := by decide +kernel
theorem dX11_mark_6 : decode cX11_mark 6 = .ok (.if_icmp .lt 5, 3) := by decide +kernel
theorem dX11_mark_9 : decode cX11_mark 9 = .ok (.iconst 0, 1) := by decide +kernel
theorem dX11_mark_10 : decode cX11_mark 10 = .ok (.ireturn, 1) := by decide +kernel
theorem dX11_mark_11 : decode cX11_mark 11 = .ok (.iload_n 2, 1) := by decide +kernel
theorem dX11_mark_12 : decode cX11_mark 12 = .ok (.ifCond .ne 28, 3) := by decide +kernel
theorem dX11_mark_15 : decode cX11_mark 15 = .ok (.aload_n 0, 1) := by decide +kernel
theorem dX11_mark_16 : decode cX11_mark 16 = .ok (.getfield 27, 3) := by decide +kernel
theorem dX11_mark_19 : decode cX11_mark 19 = .ok (.iload_n 1, 1) := by decide +kernel
theorem dX11_mark_20 : decode cX11_mark 20 = .ok (.aaload, 1) := by decide +kernel
theorem dX11_mark_21 : decode cX11_mark 21 = .ok (.aload_n 0, 1) := by decide +kernel
theorem dX11_mark_22 : decode cX11_mark 22 = .ok (.getfield 23, 3) := by decide +kernel
theorem dX11_mark_25 : decode cX11_mark 25 = .ok (.invokevirtual 93, 3) := by decide +kernel
theorem dX11_mark_28 : decode cX11_mark 28 = .ok (.aload_n 0, 1) := by decide +kernel
theorem dX11_mark_29 : decode cX11_mark 29 = .ok (.getfield 27, 3) := by decide +kernel
theorem dX11_mark_32 : decode cX11_mark 32 = .ok (.iload_n 1, 1) := by decide +kernel
theorem dX11_mark_33 : decode cX11_mark 33 = .ok (.aaload, 1) := by decide +kernel
theorem dX11_mark_34 : decode cX11_mark 34 = .ok (.iconst 1, 1) := by decide +kernel
theorem dX11_mark_35 : decode cX11_mark 35 = .ok (.putfield 261, 3) := by decide +kernel
theorem dX11_mark_38 : decode cX11_mark 38 = .ok (.iconst 1, 1) := by decide +kernel
theorem dX11_mark_39 : decode cX11_mark 39 = .ok (.ireturn, 1) := by decide +kernel
theorem dX11_mark_40 : decode cX11_mark 40 = .ok (.aload_n 0, 1) := by decide +kernel
theorem dX11_mark_41 : decode cX11_mark 41 = .ok (.getfield 27, 3) := by decide +kernel
theorem dX11_mark_44 : decode cX11_mark 44 = .ok (.iload_n 1, 1) := by decide +kernel
theorem dX11_mark_45 : decode cX11_mark 45 = .ok (.aaload, 1) := by decide +kernel
theorem dX11_mark_46 : decode cX11_mark 46 = .ok (.getfield 261, 3) := by decide +kernel
theorem dX11_mark_49 : decode cX11_mark 49 = .ok (.ifCond .ne 5, 3) := by decide +kernel
theorem dX11_mark_52 : decode cX11_mark 52 = .ok (.iconst 0, 1) := by decide +kernel
theorem dX11_mark_53 : decode cX11_mark 53 = .ok (.ireturn, 1) := by decide +kernel
theorem dX11_mark_54 : decode cX11_mark 54 = .ok (.aload_n 0, 1) := by decide +kernel
theorem dX11_mark_55 : decode cX11_mark 55 = .ok (.getfield 23, 3) := by decide +kernel
theorem dX11_mark_58 : decode cX11_mark 58 = .ok (.aload_n 0, 1) := by decide +kernel
theorem dX11_mark_59 : decode cX11_mark 59 = .ok (.getfield 27, 3) := by decide +kernel
theorem dX11_mark_62 : decode cX11_mark 62 = .ok (.iload_n 1, 1) := by decide +kernel
theorem dX11_mark_63 : decode cX11_mark 63 = .ok (.aaload, 1) := by decide +kernel
theorem dX11_mark_64 : decode cX11_mark 64 = .ok (.invokevirtual 93, 3) := by decide +kernel
theorem dX11_mark_67 : decode cX11_mark 67 = .ok (.aload_n 0, 1) := by decide +kernel
theorem dX11_mark_68 : decode cX11_mark 68 = .ok (.invokevirtual 97, 3) := by decide +kernel
theorem dX11_mark_71 : decode cX11_mark 71 = .ok (.iconst 1, 1) := by decide +kernel
theorem dX11_mark_72 : decode cX11_mark 72 = .ok (.ireturn, 1) := by decide +kernel
theorem dX11_count_0 : decode cX11_count 0 = .ok (.iload_n 1, 1) := by decide +kernel
theorem dX11_count_1 : decode cX11_count 1 = .ok (.tableswitch 119 0 6 #[43, 54, 65, 73, 84, 99, 114], 43) := by decide +kernel
theorem dX11_count_44 : decode cX11_count 44 = .ok (.aload_n 0, 1) := by decide +kernel
theorem dX11_count_45 : decode cX11_count 45 = .ok (.getfield 23, 3) := by decide +kernel
theorem dX11_count_48 : decode cX11_count 48 = .ok (.getfield 104, 3) := by decide +kernel
theorem dX11_count_51 : decode cX11_count 51 = .ok (.getfield 180, 3) := by decide +kernel
theorem dX11_count_54 : decode cX11_count 54 = .ok (.ireturn, 1) := by decide +kernel
theorem dX11_count_55 : decode cX11_count 55 = .ok (.aload_n 0, 1) := by decide +kernel
theorem dX11_count_56 : decode cX11_count 56 = .ok (.getfield 23, 3) := by decide +kernel
theorem dX11_count_59 : decode cX11_count 59 = .ok (.getfield 104, 3) := by decide +kernel
theorem dX11_count_62 : decode cX11_count 62 = .ok (.getfield 264, 3) := by decide +kernel
theorem dX11_count_65 : decode cX11_count 65 = .ok (.ireturn, 1) := by decide +kernel
theorem dX11_count_66 : decode cX11_count 66 = .ok (.aload_n 0, 1) := by decide +kernel
theorem dX11_count_67 : decode cX11_count 67 = .ok (.getfield 23, 3) := by decide +kernel
theorem dX11_count_70 : decode cX11_count 70 = .ok (.getfield 127, 3) := by decide +kernel
theorem dX11_count_73 : decode cX11_count 73 = .ok (.ireturn, 1) := by decide +kernel
theorem dX11_count_74 : decode cX11_count 74 = .ok (.aload_n 0, 1) := by decide +kernel
theorem dX11_count_75 : decode cX11_count 75 = .ok (.getfield 23, 3) := by decide +kernel
theorem dX11_count_78 : decode cX11_count 78 = .ok (.getfield 104, 3) := by decide +kernel
theorem dX11_count_81 : decode cX11_count 81 = .ok (.getfield 267, 3) := by decide +kernel
theorem dX11_count_84 : decode cX11_count 84 = .ok (.ireturn, 1) := by decide +kernel
theorem dX11_count_85 : decode cX11_count 85 = .ok (.aload_n 0, 1) := by decide +kernel
theorem dX11_count_86 : decode cX11_count 86 = .ok (.getfield 23, 3) := by decide +kernel
theorem dX11_count_89 : decode cX11_count 89 = .ok (.aload_n 0, 1) := by decide +kernel
theorem dX11_count_90 : decode cX11_count 90 = .ok (.getfield 23, 3) := by decide +kernel
theorem dX11_count_93 : decode cX11_count 93 = .ok (.getfield 117, 3) := by decide +kernel
theorem dX11_count_96 : decode cX11_count 96 = .ok (.invokevirtual 216, 3) := by decide +kernel
theorem dX11_count_99 : decode cX11_count 99 = .ok (.ireturn, 1) := by decide +kernel
theorem dX11_count_100 : decode cX11_count 100 = .ok (.aload_n 0, 1) := by decide +kernel
theorem dX11_count_101 : decode cX11_count 101 = .ok (.getfield 23, 3) := by decide +kernel
theorem dX11_count_104 : decode cX11_count 104 = .ok (.aload_n 0, 1) := by decide +kernel
theorem dX11_count_105 : decode cX11_count 105 = .ok (.getfield 23, 3) := by decide +kernel
theorem dX11_count_108 : decode cX11_count 108 = .ok (.getfield 120, 3) := by decide +kernel
theorem dX11_count_111 : decode cX11_count 111 = .ok (.invokevirtual 216, 3) := by decide +kernel
theorem dX11_count_114 : decode cX11_count 114 = .ok (.ireturn, 1) := by decide +kernel
theorem dX11_count_115 : decode cX11_count 115 = .ok (.aload_n 0, 1) := by decide +kernel
theorem dX11_count_116 : decode cX11_count 116 = .ok (.getfield 82, 3) := by decide +kernel
theorem dX11_count_119 : decode cX11_count 119 = .ok (.ireturn, 1) := by decide +kernel
theorem dX11_count_120 : decode cX11_count 120 = .ok (.iconst (-1), 1) := by decide +kernel
theorem dX11_count_121 : decode cX11_count 121 = .ok (.ireturn, 1) := by decide +kernel
theorem dX11_putBytes_0 : decode cX11_putBytes 0 = .ok (.bipush 56, 2) := by decide +kernel
theorem dX11_putBytes_2 : decode cX11_putBytes 2 = .ok (.istore_n 3, 1) := by decide +kernel
theorem dX11_putBytes_3 : decode cX11_putBytes 3 = .ok (.iload_n 3, 1) := by decide +kernel
theorem dX11_putBytes_4 : decode cX11_putBytes 4 = .ok (.ifCond .lt 72, 3) := by decide +kernel
theorem dX11_putBytes_7 : decode cX11_putBytes 7 = .ok (.lload_n 1, 1) := by decide +kernel
theorem dX11_putBytes_8 : decode cX11_putBytes 8 = .ok (.iload_n 3, 1) := by decide +kernel
theorem dX11_putBytes_9 : decode cX11_putBytes 9 = .ok (.lushr, 1) := by decide +kernel
theorem dX11_putBytes_10 : decode cX11_putBytes 10 = .ok (.ldc2_w 270, 3) := by decide +kernel
theorem dX11_putBytes_13 : decode cX11_putBytes 13 = .ok (.land, 1) := by decide +kernel
theorem dX11_putBytes_14 : decode cX11_putBytes 14 = .ok (.l2i, 1) := by decide +kernel
theorem dX11_putBytes_15 : decode cX11_putBytes 15 = .ok (.istore 4, 2) := by decide +kernel
theorem dX11_putBytes_17 : decode cX11_putBytes 17 = .ok (.iload 4, 2) := by decide +kernel
theorem dX11_putBytes_19 : decode cX11_putBytes 19 = .ok (.bipush 10, 2) := by decide +kernel
theorem dX11_putBytes_21 : decode cX11_putBytes 21 = .ok (.if_icmp .eq 17, 3) := by decide +kernel
theorem dX11_putBytes_24 : decode cX11_putBytes 24 = .ok (.iload 4, 2) := by decide +kernel
theorem dX11_putBytes_26 : decode cX11_putBytes 26 = .ok (.bipush 32, 2) := by decide +kernel
theorem dX11_putBytes_28 : decode cX11_putBytes 28 = .ok (.if_icmp .lt 42, 3) := by decide +kernel
theorem dX11_putBytes_31 : decode cX11_putBytes 31 = .ok (.iload 4, 2) := by decide +kernel
theorem dX11_putBytes_33 : decode cX11_putBytes 33 = .ok (.bipush 126, 2) := by decide +kernel
theorem dX11_putBytes_35 : decode cX11_putBytes 35 = .ok (.if_icmp .gt 35, 3) := by decide +kernel
theorem dX11_putBytes_38 : decode cX11_putBytes 38 = .ok (.aload_n 0, 1) := by decide +kernel
theorem dX11_putBytes_39 : decode cX11_putBytes 39 = .ok (.getfield 82, 3) := by decide +kernel
theorem dX11_putBytes_42 : decode cX11_putBytes 42 = .ok (.sipush 1000, 3) := by decide +kernel
theorem dX11_putBytes_45 : decode cX11_putBytes 45 = .ok (.if_icmp .ge 25, 3) := by decide +kernel
theorem dX11_putBytes_48 : decode cX11_putBytes 48 = .ok (.aload_n 0, 1) := by decide +kernel
theorem dX11_putBytes_49 : decode cX11_putBytes 49 = .ok (.getfield 9, 3) := by decide +kernel
theorem dX11_putBytes_52 : decode cX11_putBytes 52 = .ok (.aload_n 0, 1) := by decide +kernel
theorem dX11_putBytes_53 : decode cX11_putBytes 53 = .ok (.getfield 82, 3) := by decide +kernel
theorem dX11_putBytes_56 : decode cX11_putBytes 56 = .ok (.iload 4, 2) := by decide +kernel
theorem dX11_putBytes_58 : decode cX11_putBytes 58 = .ok (.i2b, 1) := by decide +kernel
theorem dX11_putBytes_59 : decode cX11_putBytes 59 = .ok (.bastore, 1) := by decide +kernel
theorem dX11_putBytes_60 : decode cX11_putBytes 60 = .ok (.aload_n 0, 1) := by decide +kernel
theorem dX11_putBytes_61 : decode cX11_putBytes 61 = .ok (.dup, 1) := by decide +kernel
theorem dX11_putBytes_62 : decode cX11_putBytes 62 = .ok (.getfield 82, 3) := by decide +kernel
theorem dX11_putBytes_65 : decode cX11_putBytes 65 = .ok (.iconst 1, 1) := by decide +kernel
theorem dX11_putBytes_66 : decode cX11_putBytes 66 = .ok (.iadd, 1) := by decide +kernel
theorem dX11_putBytes_67 : decode cX11_putBytes 67 = .ok (.putfield 82, 3) := by decide +kernel
theorem dX11_putBytes_70 : decode cX11_putBytes 70 = .ok (.iinc 3 (-8), 3) := by decide +kernel
theorem dX11_putBytes_73 : decode cX11_putBytes 73 = .ok (.goto (-70), 3) := by decide +kernel
theorem dX11_putBytes_76 : decode cX11_putBytes 76 = .ok (.return_, 1) := by decide +kernel
theorem dX11_isPupil_0 : decode cX11_isPupil 0 = .ok (.iload_n 1, 1) := by decide +kernel
theorem dX11_isPupil_1 : decode cX11_isPupil 1 = .ok (.ifCond .lt 21, 3) := by decide +kernel
theorem dX11_isPupil_4 : decode cX11_isPupil 4 = .ok (.iload_n 1, 1) := by decide +kernel
theorem dX11_isPupil_5 : decode cX11_isPupil 5 = .ok (.aload_n 0, 1) := by decide +kernel
theorem dX11_isPupil_6 : decode cX11_isPupil 6 = .ok (.getfield 23, 3) := by decide +kernel
theorem dX11_isPupil_9 : decode cX11_isPupil 9 = .ok (.getfield 104, 3) := by decide +kernel
theorem dX11_isPupil_12 : decode cX11_isPupil 12 = .ok (.getfield 180, 3) := by decide +kernel
theorem dX11_isPupil_15 : decode cX11_isPupil 15 = .ok (.if_icmp .ge 7, 3) := by decide +kernel
theorem dX11_isPupil_18 : decode cX11_isPupil 18 = .ok (.iconst 1, 1) := by decide +kernel
theorem dX11_isPupil_19 : decode cX11_isPupil 19 = .ok (.goto 4, 3) := by decide +kernel
theorem dX11_isPupil_22 : decode cX11_isPupil 22 = .ok (.iconst 0, 1) := by decide +kernel
theorem dX11_isPupil_23 : decode cX11_isPupil 23 = .ok (.ireturn, 1) := by decide +kernel
theorem dX11_areTwo_0 : decode cX11_areTwo 0 = .ok (.aload_n 0, 1) := by decide +kernel
theorem dX11_areTwo_1 : decode cX11_areTwo 1 = .ok (.iload_n 1, 1) := by decide +kernel
theorem dX11_areTwo_2 : decode cX11_areTwo 2 = .ok (.invokevirtual 100, 3) := by decide +kernel
theorem dX11_areTwo_5 : decode cX11_areTwo 5 = .ok (.ifCond .eq 20, 3) := by decide +kernel
theorem dX11_areTwo_8 : decode cX11_areTwo 8 = .ok (.aload_n 0, 1) := by decide +kernel
theorem dX11_areTwo_9 : decode cX11_areTwo 9 = .ok (.iload_n 2, 1) := by decide +kernel
theorem dX11_areTwo_10 : decode cX11_areTwo 10 = .ok (.invokevirtual 100, 3) := by decide +kernel
theorem dX11_areTwo_13 : decode cX11_areTwo 13 = .ok (.ifCond .eq 12, 3) := by decide +kernel
theorem dX11_areTwo_16 : decode cX11_areTwo 16 = .ok (.iload_n 1, 1) := by decide +kernel
theorem dX11_areTwo_17 : decode cX11_areTwo 17 = .ok (.iload_n 2, 1) := by decide +kernel
theorem dX11_areTwo_18 : decode cX11_areTwo 18 = .ok (.if_icmp .eq 7, 3) := by decide +kernel
theorem dX11_areTwo_21 : decode cX11_areTwo 21 = .ok (.iconst 1, 1) := by decide +kernel
theorem dX11_areTwo_22 : decode cX11_areTwo 22 = .ok (.goto 4, 3) := by decide +kernel
theorem dX11_areTwo_25 : decode cX11_areTwo 25 = .ok (.iconst 0, 1) := by decide +kernel
theorem dX11_areTwo_26 : decode cX11_areTwo 26 = .ok (.ireturn, 1) := by decide +kernel
theorem dX11_isSeatOrNone_0 : decode cX11_isSeatOrNone 0 = .ok (.iload_n 1, 1) := by decide +kernel
theorem dX11_isSeatOrNone_1 : decode cX11_isSeatOrNone 1 = .ok (.iconst (-1), 1) := by decide +kernel
theorem dX11_isSeatOrNone_2 : decode cX11_isSeatOrNone 2 = .ok (.if_icmp .lt 23, 3) := by decide +kernel
theorem dX11_isSeatOrNone_5 : decode cX11_isSeatOrNone 5 = .ok (.iload_n 1, 1) := by decide +kernel
theorem dX11_isSeatOrNone_6 : decode cX11_isSeatOrNone 6 = .ok (.iconst 2, 1) := by decide +kernel
theorem dX11_isSeatOrNone_7 : decode cX11_isSeatOrNone 7 = .ok (.aload_n 0, 1) := by decide +kernel
theorem dX11_isSeatOrNone_8 : decode cX11_isSeatOrNone 8 = .ok (.getfield 23, 3) := by decide +kernel
theorem dX11_isSeatOrNone_11 : decode cX11_isSeatOrNone 11 = .ok (.getfield 104, 3) := by decide +kernel
theorem dX11_isSeatOrNone_14 : decode cX11_isSeatOrNone 14 = .ok (.getfield 264, 3) := by decide +kernel
theorem dX11_isSeatOrNone_17 : decode cX11_isSeatOrNone 17 = .ok (.imul, 1) := by decide +kernel
theorem dX11_isSeatOrNone_18 : decode cX11_isSeatOrNone 18 = .ok (.if_icmp .ge 7, 3) := by decide +kernel
theorem dX11_isSeatOrNone_21 : decode cX11_isSeatOrNone 21 = .ok (.iconst 1, 1) := by decide +kernel
theorem dX11_isSeatOrNone_22 : decode cX11_isSeatOrNone 22 = .ok (.goto 4, 3) := by decide +kernel
theorem dX11_isSeatOrNone_25 : decode cX11_isSeatOrNone 25 = .ok (.iconst 0, 1) := by decide +kernel
theorem dX11_isSeatOrNone_26 : decode cX11_isSeatOrNone 26 = .ok (.ireturn, 1) := by decide +kernel
theorem dX11_findRests_0 : decode cX11_findRests 0 = .ok (.aload_n 0, 1) := by decide +kernel
theorem dX11_findRests_1 : decode cX11_findRests 1 = .ok (.getfield 23, 3) := by decide +kernel
theorem dX11_findRests_4 : decode cX11_findRests 4 = .ok (.getfield 104, 3) := by decide +kernel
theorem dX11_findRests_7 : decode cX11_findRests 7 = .ok (.getfield 180, 3) := by decide +kernel
theorem dX11_findRests_10 : decode cX11_findRests 10 = .ok (.istore_n 1, 1) := by decide +kernel
theorem dX11_findRests_11 : decode cX11_findRests 11 = .ok (.iload_n 1, 1) := by decide +kernel
theorem dX11_findRests_12 : decode cX11_findRests 12 = .ok (.iconst 2, 1) := by decide +kernel
theorem dX11_findRests_13 : decode cX11_findRests 13 = .ok (.if_icmp .lt 15, 3) := by decide +kernel
theorem dX11_findRests_16 : decode cX11_findRests 16 = .ok (.iload_n 1, 1) := by decide +kernel
theorem dX11_findRests_17 : decode cX11_findRests 17 = .ok (.bipush 8, 2) := by decide +kernel
theorem dX11_findRests_19 : decode cX11_findRests 19 = .ok (.if_icmp .gt 9, 3) := by decide +kernel
theorem dX11_findRests_22 : decode cX11_findRests 22 = .ok (.iload_n 1, 1) := by decide +kernel
theorem dX11_findRests_23 : decode cX11_findRests 23 = .ok (.iconst 2, 1) := by decide +kernel
theorem dX11_findRests_24 : decode cX11_findRests 24 = .ok (.irem, 1) := by decide +kernel
theorem dX11_findRests_25 : decode cX11_findRests 25 = .ok (.ifCond .eq 5, 3) := by decide +kernel
theorem dX11_findRests_28 : decode cX11_findRests 28 = .ok (.iconst 0, 1) := by decide +kernel
theorem dX11_findRests_29 : decode cX11_findRests 29 = .ok (.ireturn, 1) := by decide +kernel
theorem dX11_findRests_30 : decode cX11_findRests 30 = .ok (.aload_n 0, 1) := by decide +kernel
theorem dX11_findRests_31 : decode cX11_findRests 31 = .ok (.getfield 34, 3) := by decide +kernel
theorem dX11_findRests_34 : decode cX11_findRests 34 = .ok (.aload_n 0, 1) := by decide +kernel
theorem dX11_findRests_35 : decode cX11_findRests 35 = .ok (.getfield 23, 3) := by decide +kernel
theorem dX11_findRests_38 : decode cX11_findRests 38 = .ok (.invokevirtual 150, 3) := by decide +kernel
theorem dX11_findRests_41 : decode cX11_findRests 41 = .ok (.aload_n 0, 1) := by decide +kernel
theorem dX11_findRests_42 : decode cX11_findRests 42 = .ok (.getfield 67, 3) := by decide +kernel
theorem dX11_findRests_45 : decode cX11_findRests 45 = .ok (.aload_n 0, 1) := by decide +kernel
theorem dX11_findRests_46 : decode cX11_findRests 46 = .ok (.getfield 23, 3) := by decide +kernel
theorem dX11_findRests_49 : decode cX11_findRests 49 = .ok (.getfield 104, 3) := by decide +kernel
theorem dX11_findRests_52 : decode cX11_findRests 52 = .ok (.aload_n 0, 1) := by decide +kernel
theorem dX11_findRests_53 : decode cX11_findRests 53 = .ok (.getfield 34, 3) := by decide +kernel
theorem dX11_findRests_56 : decode cX11_findRests 56 = .ok (.invokevirtual 272, 3) := by decide +kernel
theorem dX11_findRests_59 : decode cX11_findRests 59 = .ok (.iconst 1, 1) := by decide +kernel
theorem dX11_findRests_60 : decode cX11_findRests 60 = .ok (.ireturn, 1) := by decide +kernel
theorem dX11_forgetStudies_0 : decode cX11_forgetStudies 0 = .ok (.aload_n 0, 1) := by decide +kernel
theorem dX11_forgetStudies_1 : decode cX11_forgetStudies 1 = .ok (.getfield 34, 3) := by decide +kernel
theorem dX11_forgetStudies_4 : decode cX11_forgetStudies 4 = .ok (.invokevirtual 275, 3) := by decide +kernel
theorem dX11_forgetStudies_7 : decode cX11_forgetStudies 7 = .ok (.aload_n 0, 1) := by decide +kernel
theorem dX11_forgetStudies_8 : decode cX11_forgetStudies 8 = .ok (.getfield 43, 3) := by decide +kernel
theorem dX11_forgetStudies_11 : decode cX11_forgetStudies 11 = .ok (.invokevirtual 276, 3) := by decide +kernel
theorem dX11_forgetStudies_14 : decode cX11_forgetStudies 14 = .ok (.aload_n 0, 1) := by decide +kernel
theorem dX11_forgetStudies_15 : decode cX11_forgetStudies 15 = .ok (.getfield 47, 3) := by decide +kernel
theorem dX11_forgetStudies_18 : decode cX11_forgetStudies 18 = .ok (.invokevirtual 276, 3) := by decide +kernel
theorem dX11_forgetStudies_21 : decode cX11_forgetStudies 21 = .ok (.aload_n 0, 1) := by decide +kernel
theorem dX11_forgetStudies_22 : decode cX11_forgetStudies 22 = .ok (.getfield 53, 3) := by decide +kernel
theorem dX11_forgetStudies_25 : decode cX11_forgetStudies 25 = .ok (.invokevirtual 255, 3) := by decide +kernel
theorem dX11_forgetStudies_28 : decode cX11_forgetStudies 28 = .ok (.aload_n 0, 1) := by decide +kernel
theorem dX11_forgetStudies_29 : decode cX11_forgetStudies 29 = .ok (.getfield 67, 3) := by decide +kernel
theorem dX11_forgetStudies_32 : decode cX11_forgetStudies 32 = .ok (.invokevirtual 277, 3) := by decide +kernel
theorem dX11_forgetStudies_35 : decode cX11_forgetStudies 35 = .ok (.return_, 1) := by decide +kernel
theorem dX11_commonDivisor_0 : decode cX11_commonDivisor 0 = .ok (.lload_n 0, 1) := by decide +kernel
theorem dX11_commonDivisor_1 : decode cX11_commonDivisor 1 = .ok (.lstore 4, 2) := by decide +kernel
theorem dX11_commonDivisor_3 : decode cX11_commonDivisor 3 = .ok (.lload_n 2, 1) := by decide +kernel
theorem dX11_commonDivisor_4 : decode cX11_commonDivisor 4 = .ok (.lstore 6, 2) := by decide +kernel
theorem dX11_commonDivisor_6 : decode cX11_commonDivisor 6 = .ok (.iconst 0, 1) := by decide +kernel
theorem dX11_commonDivisor_7 : decode cX11_commonDivisor 7 = .ok (.istore 8, 2) := by decide +kernel
theorem dX11_commonDivisor_9 : decode cX11_commonDivisor 9 = .ok (.iload 8, 2) := by decide +kernel
theorem dX11_commonDivisor_11 : decode cX11_commonDivisor 11 = .ok (.sipush 200, 3) := by decide +kernel
theorem dX11_commonDivisor_14 : decode cX11_commonDivisor 14 = .ok (.if_icmp .ge 31, 3) := by decide +kernel
theorem dX11_commonDivisor_17 : decode cX11_commonDivisor 17 = .ok (.lload 6, 2) := by decide +kernel
theorem dX11_commonDivisor_19 : decode cX11_commonDivisor 19 = .ok (.lconst 0, 1) := by decide +kernel
theorem dX11_commonDivisor_20 : decode cX11_commonDivisor 20 = .ok (.lcmp, 1) := by decide +kernel
theorem dX11_commonDivisor_21 : decode cX11_commonDivisor 21 = .ok (.ifCond .le 24, 3) := by decide +kernel
theorem dX11_commonDivisor_24 : decode cX11_commonDivisor 24 = .ok (.lload 4, 2) := by decide +kernel
theorem dX11_commonDivisor_26 : decode cX11_commonDivisor 26 = .ok (.lload 6, 2) := by decide +kernel
theorem dX11_commonDivisor_28 : decode cX11_commonDivisor 28 = .ok (.lrem, 1) := by decide +kernel
theorem dX11_commonDivisor_29 : decode cX11_commonDivisor 29 = .ok (.lstore 9, 2) := by decide +kernel
theorem dX11_commonDivisor_31 : decode cX11_commonDivisor 31 = .ok (.lload 6, 2) := by decide +kernel
theorem dX11_commonDivisor_33 : decode cX11_commonDivisor 33 = .ok (.lstore 4, 2) := by decide +kernel
theorem dX11_commonDivisor_35 : decode cX11_commonDivisor 35 = .ok (.lload 9, 2) := by decide +kernel
theorem dX11_commonDivisor_37 : decode cX11_commonDivisor 37 = .ok (.lstore 6, 2) := by decide +kernel
theorem dX11_commonDivisor_39 : decode cX11_commonDivisor 39 = .ok (.iinc 8 1, 3) := by decide +kernel
theorem dX11_commonDivisor_42 : decode cX11_commonDivisor 42 = .ok (.goto (-33), 3) := by decide +kernel
theorem dX11_commonDivisor_45 : decode cX11_commonDivisor 45 = .ok (.lload 4, 2) := by decide +kernel
theorem dX11_commonDivisor_47 : decode cX11_commonDivisor 47 = .ok (.lconst 0, 1) := by decide +kernel
theorem dX11_commonDivisor_48 : decode cX11_commonDivisor 48 = .ok (.lcmp, 1) := by decide +kernel
theorem dX11_commonDivisor_49 : decode cX11_commonDivisor 49 = .ok (.ifCond .le 8, 3) := by decide +kernel
theorem dX11_commonDivisor_52 : decode cX11_commonDivisor 52 = .ok (.lload 4, 2) := by decide +kernel
theorem dX11_commonDivisor_54 : decode cX11_commonDivisor 54 = .ok (.goto 4, 3) := by decide +kernel
theorem dX11_commonDivisor_57 : decode cX11_commonDivisor 57 = .ok (.lconst 1, 1) := by decide +kernel
theorem dX11_commonDivisor_58 : decode cX11_commonDivisor 58 = .ok (.lreturn, 1) := by decide +kernel
theorem dX12_init_0 : decode cX12_init 0 = .ok (.aload_n 0, 1) := by decide +kernel
theorem dX12_init_1 : decode cX12_init 1 = .ok (.invokespecial 1, 3) := by decide +kernel
theorem dX12_init_4 : decode cX12_init 4 = .ok (.aload_n 0, 1) := by decide +kernel
theorem dX12_init_5 : decode cX12_init 5 = .ok (.sipush 1000, 3) := by decide +kernel
theorem dX12_init_8 : decode cX12_init 8 = .ok (.newarray .int, 2) := by decide +kernel
theorem dX12_init_10 : decode cX12_init 10 = .ok (.putfield 7, 3) := by decide +kernel
theorem dX12_init_13 : decode cX12_init 13 = .ok (.aload_n 0, 1) := by decide +kernel
theorem dX12_init_14 : decode cX12_init 14 = .ok (.bipush 6, 2) := by decide +kernel
theorem dX12_init_16 : decode cX12_init 16 = .ok (.newarray .int, 2) := by decide +kernel
theorem dX12_init_18 : decode cX12_init 18 = .ok (.putfield 13, 3) := by decide +kernel
theorem dX12_init_21 : decode cX12_init 21 = .ok (.aload_n 0, 1) := by decide +kernel
theorem dX12_init_22 : decode cX12_init 22 = .ok (.bipush 6, 2) := by decide +kernel
theorem dX12_init_24 : decode cX12_init 24 = .ok (.newarray .int, 2) := by decide +kernel
theorem dX12_init_26 : decode cX12_init 26 = .ok (.putfield 16, 3) := by decide +kernel
theorem dX12_init_29 : decode cX12_init 29 = .ok (.aload_n 0, 1) := by decide +kernel
theorem dX12_init_30 : decode cX12_init 30 = .ok (.bipush 6, 2) := by decide +kernel
theorem dX12_init_32 : decode cX12_init 32 = .ok (.newarray .int, 2) := by decide +kernel
theorem dX12_init_34 : decode cX12_init 34 = .ok (.putfield 19, 3) := by decide +kernel
theorem dX12_init_37 : decode cX12_init 37 = .ok (.aload_n 0, 1) := by decide +kernel
theorem dX12_init_38 : decode cX12_init 38 = .ok (.bipush 10, 2) := by decide +kernel
theorem dX12_init_40 : decode cX12_init 40 = .ok (.newarray .long, 2) := by decide +kernel
theorem dX12_init_42 : decode cX12_init 42 = .ok (.putfield 22, 3) := by decide +kernel
theorem dX12_init_45 : decode cX12_init 45 = .ok (.aload_n 0, 1) := by decide +kernel
theorem dX12_init_46 : decode cX12_init 46 = .ok (.bipush 60, 2) := by decide +kernel
theorem dX12_init_48 : decode cX12_init 48 = .ok (.newarray .int, 2) := by decide +kernel
theorem dX12_init_50 : decode cX12_init 50 = .ok (.putfield 26, 3) := by decide +kernel
theorem dX12_init_53 : decode cX12_init 53 = .ok (.aload_n 0, 1) := by decide +kernel
theorem dX12_init_54 : decode cX12_init 54 = .ok (.bipush 60, 2) := by decide +kernel
theorem dX12_init_56 : decode cX12_init 56 = .ok (.newarray .int, 2) := by decide +kernel
theorem dX12_init_58 : decode cX12_init 58 = .ok (.putfield 29, 3) := by decide +kernel
theorem dX12_init_61 : decode cX12_init 61 = .ok (.aload_n 0, 1) := by decide +kernel
theorem dX12_init_62 : decode cX12_init 62 = .ok (.bipush 36, 2) := by decide +kernel
theorem dX12_init_64 : decode cX12_init 64 = .ok (.newarray .int, 2) := by decide +kernel
theorem dX12_init_66 : decode cX12_init 66 = .ok (.putfield 32, 3) := by decide +kernel
theorem dX12_init_69 : decode cX12_init 69 = .ok (.aload_n 0, 1) := by decide +kernel
theorem dX12_init_70 : decode cX12_init 70 = .ok (.sipush 600, 3) := by decide +kernel
theorem dX12_init_73 : decode cX12_init 73 = .ok (.newarray .int, 2) := by decide +kernel
theorem dX12_init_75 : decode cX12_init 75 = .ok (.putfield 35, 3) := by decide +kernel
theorem dX12_init_78 : decode cX12_init 78 = .ok (.aload_n 0, 1) := by decide +kernel
theorem dX12_init_79 : decode cX12_init 79 = .ok (.bipush 6, 2) := by decide +kernel
theorem dX12_init_81 : decode cX12_init 81 = .ok (.newarray .int, 2) := by decide +kernel
theorem dX12_init_83 : decode cX12_init 83 = .ok (.putfield 38, 3) := by decide +kernel
theorem dX12_init_86 : decode cX12_init 86 = .ok (.aload_n 0, 1) := by decide +kernel
theorem dX12_init_87 : decode cX12_init 87 = .ok (.bipush 6, 2) := by decide +kernel
theorem dX12_init_89 : decode cX12_init 89 = .ok (.newarray .int, 2) := by decide +kernel
theorem dX12_init_91 : decode cX12_init 91 = .ok (.putfield 41, 3) := by decide +kernel
theorem dX12_init_94 : decode cX12_init 94 = .ok (.aload_n 0, 1) := by decide +kernel
theorem dX12_init_95 : decode cX12_init 95 = .ok (.sipush 6000, 3) := by decide +kernel
theorem dX12_init_98 : decode cX12_init 98 = .ok (.newarray .int, 2) := by decide +kernel
theorem dX12_init_100 : decode cX12_init 100 = .ok (.putfield 44, 3) := by decide +kernel
theorem dX12_init_103 : decode cX12_init 103 = .ok (.aload_n 0, 1) := by decide +kernel
theorem dX12_init_104 : decode cX12_init 104 = .ok (.sipush 144, 3) := by decide +kernel
theorem dX12_init_107 : decode cX12_init 107 = .ok (.newarray .int, 2) := by decide +kernel
theorem dX12_init_109 : decode cX12_init 109 = .ok (.putfield 47, 3) := by decide +kernel
theorem dX12_init_112 : decode cX12_init 112 = .ok (.aload_n 0, 1) := by decide +kernel
theorem dX12_init_113 : decode cX12_init 113 = .ok (.bipush 100, 2) := by decide +kernel
theorem dX12_init_115 : decode cX12_init 115 = .ok (.newarray .boolean, 2) := by decide +kernel
theorem dX12_init_117 : decode cX12_init 117 = .ok (.putfield 50, 3) := by decide +kernel
theorem dX12_init_120 : decode cX12_init 120 = .ok (.aload_n 0, 1) := by decide +kernel
theorem dX12_init_121 : decode cX12_init 121 = .ok (.bipush 7, 2) := by decide +kernel
theorem dX12_init_123 : decode cX12_init 123 = .ok (.newarray .int, 2) := by decide +kernel
theorem dX12_init_125 : decode cX12_init 125 = .ok (.putfield 54, 3) := by decide +kernel
theorem dX12_init_128 : decode cX12_init 128 = .ok (.aload_n 0, 1) := by decide +kernel
theorem dX12_init_129 : decode cX12_init 129 = .ok (.bipush 7, 2) := by decide +kernel
theorem dX12_init_131 : decode cX12_init 131 = .ok (.newarray .boolean, 2) := by decide +kernel
theorem dX12_init_133 : decode cX12_init 133 = .ok (.putfield 57, 3) := by decide +kernel
theorem dX12_init_136 : decode cX12_init 136 = .ok (.aload_n 0, 1) := by decide +kernel
theorem dX12_init_137 : decode cX12_init 137 = .ok (.bipush 7, 2) := by decide +kernel
theorem dX12_init_139 : decode cX12_init 139 = .ok (.newarray .int, 2) := by decide +kernel
theorem dX12_init_141 : decode cX12_init 141 = .ok (.putfield 60, 3) := by decide +kernel
theorem dX12_init_144 : decode cX12_init 144 = .ok (.aload_n 0, 1) := by decide +kernel
theorem dX12_init_145 : decode cX12_init 145 = .ok (.bipush 7, 2) := by decide +kernel
theorem dX12_init_147 : decode cX12_init 147 = .ok (.newarray .int, 2) := by decide +kernel
theorem dX12_init_149 : decode cX12_init 149 = .ok (.putfield 63, 3) := by decide +kernel
theorem dX12_init_152 : decode cX12_init 152 = .ok (.aload_n 0, 1) := by decide +kernel
theorem dX12_init_153 : decode cX12_init 153 = .ok (.bipush 7, 2) := by decide +kernel
theorem dX12_init_155 : decode cX12_init 155 = .ok (.newarray .int, 2) := by decide +kernel
theorem dX12_init_157 : decode cX12_init 157 = .ok (.putfield 66, 3) := by decide +kernel
theorem dX12_init_160 : decode cX12_init 160 = .ok (.aload_n 0, 1) := by decide +kernel
theorem dX12_init_161 : decode cX12_init 161 = .ok (.bipush 7, 2) := by decide +kernel
theorem dX12_init_163 : decode cX12_init 163 = .ok (.newarray .int, 2) := by decide +kernel
theorem dX12_init_165 : decode cX12_init 165 = .ok (.putfield 69, 3) := by decide +kernel
theorem dX12_init_168 : decode cX12_init 168 = .ok (.aload_n 0, 1) := by decide +kernel
theorem dX12_init_169 : decode cX12_init 169 = .ok (.bipush 7, 2) := by decide +kernel
theorem dX12_init_171 : decode cX12_init 171 = .ok (.newarray .int, 2) := by decide +kernel
theorem dX12_init_173 : decode cX12_init 173 = .ok (.putfield 72, 3) := by decide +kernel
theorem dX12_init_176 : decode cX12_init 176 = .ok (.aload_n 0, 1) := by decide +kernel
theorem dX12_init_177 : decode cX12_init 177 = .ok (.bipush 7, 2) := by decide +kernel
theorem dX12_init_179 : decode cX12_init 179 = .ok (.newarray .int, 2) := by decide +kernel
theorem dX12_init_181 : decode cX12_init 181 = .ok (.putfield 75, 3) := by decide +kernel
theorem dX12_init_184 : decode cX12_init 184 = .ok (.aload_n 0, 1) := by decide +kernel
theorem dX12_init_185 : decode cX12_init 185 = .ok (.bipush 7, 2) := by decide +kernel
theorem dX12_init_187 : decode cX12_init 187 = .ok (.newarray .int, 2) := by decide +kernel
theorem dX12_init_189 : decode cX12_init 189 = .ok (.putfield 78, 3) := by decide +kernel
theorem dX12_init_192 : decode cX12_init 192 = .ok (.aload_n 0, 1) := by decide +kernel
theorem dX12_init_193 : decode cX12_init 193 = .ok (.bipush 7, 2) := by decide +kernel
theorem dX12_init_195 : decode cX12_init 195 = .ok (.newarray .int, 2) := by decide +kernel
theorem dX12_init_197 : decode cX12_init 197 = .ok (.putfield 81, 3) := by decide +kernel
theorem dX12_init_200 : decode cX12_init 200 = .ok (.aload_n 0, 1) := by decide +kernel
theorem dX12_init_201 : decode cX12_init 201 = .ok (.bipush 7, 2) := by decide +kernel
theorem dX12_init_203 : decode cX12_init 203 = .ok (.newarray .int, 2) := by decide +kernel
theorem dX12_init_205 : decode cX12_init 205 = .ok (.putfield 84, 3) := by decide +kernel
theorem dX12_init_208 : decode cX12_init 208 = .ok (.aload_n 0, 1) := by decide +kernel
theorem dX12_init_209 : decode cX12_init 209 = .ok (.bipush 20, 2) := by decide +kernel
theorem dX12_init_211 : decode cX12_init 211 = .ok (.newarray .int, 2) := by decide +kernel
theorem dX12_init_213 : decode cX12_init 213 = .ok (.putfield 87, 3) := by decide +kernel
theorem dX12_init_216 : decode cX12_init 216 = .ok (.aload_n 0, 1) := by decide +kernel
theorem dX12_init_217 : decode cX12_init 217 = .ok (.sipush 144, 3) := by decide +kernel
theorem dX12_init_220 : decode cX12_init 220 = .ok (.newarray .int, 2) := by decide +kernel
theorem dX12_init_222 : decode cX12_init 222 = .ok (.putfield 90, 3) := by decide +kernel
theorem dX12_init_225 : decode cX12_init 225 = .ok (.aload_n 0, 1) := by decide +kernel
theorem dX12_init_226 : decode cX12_init 226 = .ok (.sipush 144, 3) := by decide +kernel
theorem dX12_init_229 : decode cX12_init 229 = .ok (.newarray .int, 2) := by decide +kernel
theorem dX12_init_231 : decode cX12_init 231 = .ok (.putfield 93, 3) := by decide +kernel
theorem dX12_init_234 : decode cX12_init 234 = .ok (.aload_n 0, 1) := by decide +kernel
theorem dX12_init_235 : decode cX12_init 235 = .ok (.sipush 576, 3) := by decide +kernel
theorem dX12_init_238 : decode cX12_init 238 = .ok (.newarray .int, 2) := by decide +kernel
theorem dX12_init_240 : decode cX12_init 240 = .ok (.putfield 96, 3) := by decide +kernel
theorem dX12_init_243 : decode cX12_init 243 = .ok (.aload_n 0, 1) := by decide +kernel
theorem dX12_init_244 : decode cX12_init 244 = .ok (.bipush 10, 2) := by decide +kernel
theorem dX12_init_246 : decode cX12_init 246 = .ok (.newarray .int, 2) := by decide +kernel
theorem dX12_init_248 : decode cX12_init 248 = .ok (.putfield 99, 3) := by decide +kernel
theorem dX12_init_251 : decode cX12_init 251 = .ok (.aload_n 0, 1) := by decide +kernel
theorem dX12_init_252 : decode cX12_init 252 = .ok (.sipush 1024, 3) := by decide +kernel
theorem dX12_init_255 : decode cX12_init 255 = .ok (.newarray .int, 2) := by decide +kernel
theorem dX12_init_257 : decode cX12_init 257 = .ok (.putfield 102, 3) := by decide +kernel
theorem dX12_init_260 : decode cX12_init 260 = .ok (.aload_n 0, 1) := by decide +kernel
theorem dX12_init_261 : decode cX12_init 261 = .ok (.bipush 10, 2) := by decide +kernel
theorem dX12_init_263 : decode cX12_init 263 = .ok (.newarray .int, 2) := by decide +kernel
theorem dX12_init_265 : decode cX12_init 265 = .ok (.putfield 105, 3) := by decide +kernel
theorem dX12_init_268 : decode cX12_init 268 = .ok (.aload_n 0, 1) := by decide +kernel
theorem dX12_init_269 : decode cX12_init 269 = .ok (.sipush 1024, 3) := by decide +kernel
theorem dX12_init_272 : decode cX12_init 272 = .ok (.newarray .int, 2) := by decide +kernel
theorem dX12_init_274 : decode cX12_init 274 = .ok (.putfield 108, 3) := by decide +kernel
theorem dX12_init_277 : decode cX12_init 277 = .ok (.aload_n 0, 1) := by decide +kernel
theorem dX12_init_278 : decode cX12_init 278 = .ok (.bipush 10, 2) := by decide +kernel
theorem dX12_init_280 : decode cX12_init 280 = .ok (.newarray .int, 2) := by decide +kernel
theorem dX12_init_282 : decode cX12_init 282 = .ok (.putfield 111, 3) := by decide +kernel
theorem dX12_init_285 : decode cX12_init 285 = .ok (.aload_n 0, 1) := by decide +kernel
theorem dX12_init_286 : decode cX12_init 286 = .ok (.sipush 1024, 3) := by decide +kernel
theorem dX12_init_289 : decode cX12_init 289 = .ok (.newarray .long, 2) := by decide +kernel
theorem dX12_init_291 : decode cX12_init 291 = .ok (.putfield 114, 3) := by decide +kernel
theorem dX12_init_294 : decode cX12_init 294 = .ok (.aload_n 0, 1) := by decide +kernel
theorem dX12_init_295 : decode cX12_init 295 = .ok (.sipush 8192, 3) := by decide +kernel
theorem dX12_init_298 : decode cX12_init 298 = .ok (.newarray .int, 2) := by decide +kernel
theorem dX12_init_300 : decode cX12_init 300 = .ok (.putfield 117, 3) := by decide +kernel
theorem dX12_init_303 : decode cX12_init 303 = .ok (.aload_n 0, 1) := by decide +kernel
theorem dX12_init_304 : decode cX12_init 304 = .ok (.sipush 8192, 3) := by decide +kernel
theorem dX12_init_307 : decode cX12_init 307 = .ok (.newarray .int, 2) := by decide +kernel
theorem dX12_init_309 : decode cX12_init 309 = .ok (.putfield 120, 3) := by decide +kernel
theorem dX12_init_312 : decode cX12_init 312 = .ok (.aload_n 0, 1) := by decide +kernel
theorem dX12_init_313 : decode cX12_init 313 = .ok (.bipush 10, 2) := by decide +kernel
theorem dX12_init_315 : decode cX12_init 315 = .ok (.newarray .int, 2) := by decide +kernel
theorem dX12_init_317 : decode cX12_init 317 = .ok (.putfield 123, 3) := by decide +kernel
theorem dX12_init_320 : decode cX12_init 320 = .ok (.aload_n 0, 1) := by decide +kernel
theorem dX12_init_321 : decode cX12_init 321 = .ok (.bipush 100, 2) := by decide +kernel
theorem dX12_init_323 : decode cX12_init 323 = .ok (.newarray .int, 2) := by decide +kernel
theorem dX12_init_325 : decode cX12_init 325 = .ok (.putfield 126, 3) := by decide +kernel
theorem dX12_init_328 : decode cX12_init 328 = .ok (.aload_n 0, 1) := by decide +kernel
theorem dX12_init_329 : decode cX12_init 329 = .ok (.bipush 10, 2) := by decide +kernel
theorem dX12_init_331 : decode cX12_init 331 = .ok (.newarray .int, 2) := by decide +kernel
theorem dX12_init_333 : decode cX12_init 333 = .ok (.putfield 129, 3) := by decide +kernel
theorem dX12_init_336 : decode cX12_init 336 = .ok (.aload_n 0, 1) := by decide +kernel
theorem dX12_init_337 : decode cX12_init 337 = .ok (.iconst 4, 1) := by decide +kernel
theorem dX12_init_338 : decode cX12_init 338 = .ok (.newarray .boolean, 2) := by decide +kernel
theorem dX12_init_340 : decode cX12_init 340 = .ok (.putfield 132, 3) := by decide +kernel
theorem dX12_init_343 : decode cX12_init 343 = .ok (.return_, 1) := by decide +kernel
theorem dX12_thrown_0 : decode cX12_thrown 0 = .ok (.aload_n 0, 1) := by decide +kernel
theorem dX12_thrown_1 : decode cX12_thrown 1 = .ok (.getfield 135, 3) := by decide +kernel
theorem dX12_thrown_4 : decode cX12_thrown 4 = .ok (.ireturn, 1) := by decide +kernel
theorem dX12_within_0 : decode cX12_within 0 = .ok (.iload_n 0, 1) := by decide +kernel
theorem dX12_within_1 : decode cX12_within 1 = .ok (.iload_n 1, 1) := by decide +kernel
theorem dX12_within_2 : decode cX12_within 2 = .ok (.if_icmp .lt 12, 3) := by decide +kernel
theorem dX12_within_5 : decode cX12_within 5 = .ok (.iload_n 0, 1) := by decide +kernel
theorem dX12_within_6 : decode cX12_within 6 = .ok (.iload_n 2, 1) := by decide +kernel
theorem dX12_within_7 : decode cX12_within 7 = .ok (.if_icmp .gt 7, 3) := by decide +kernel
theorem dX12_within_10 : decode cX12_within 10 = .ok (.iconst 1, 1) := by decide +kernel
theorem dX12_within_11 : decode cX12_within 11 = .ok (.goto 4, 3) := by decide +kernel
theorem dX12_within_14 : decode cX12_within 14 = .ok (.iconst 0, 1) := by decide +kernel
theorem dX12_within_15 : decode cX12_within 15 = .ok (.ireturn, 1) := by decide +kernel
theorem dX12_bits_0 : decode cX12_bits 0 = .ok (.iconst 0, 1) := by decide +kernel
theorem dX12_bits_1 : decode cX12_bits 1 = .ok (.istore_n 1, 1) := by decide +kernel
theorem dX12_bits_2 : decode cX12_bits 2 = .ok (.iconst 0, 1) := by decide +kernel
theorem dX12_bits_3 : decode cX12_bits 3 = .ok (.istore_n 2, 1) := by decide +kernel
theorem dX12_bits_4 : decode cX12_bits 4 = .ok (.iload_n 2, 1) := by decide +kernel
theorem dX12_bits_5 : decode cX12_bits 5 = .ok (.bipush 10, 2) := by decide +kernel
theorem dX12_bits_7 : decode cX12_bits 7 = .ok (.if_icmp .ge 17, 3) := by decide +kernel
theorem dX12_bits_10 : decode cX12_bits 10 = .ok (.iload_n 1, 1) := by decide +kernel
theorem dX12_bits_11 : decode cX12_bits 11 = .ok (.iload_n 0, 1) := by decide +kernel
theorem dX12_bits_12 : decode cX12_bits 12 = .ok (.iload_n 2, 1) := by decide +kernel
theorem dX12_bits_13 : decode cX12_bits 13 = .ok (.ishr, 1) := by decide +kernel
theorem dX12_bits_14 : decode cX12_bits 14 = .ok (.iconst 1, 1) := by decide +kernel
theorem dX12_bits_15 : decode cX12_bits 15 = .ok (.iand, 1) := by decide +kernel
theorem dX12_bits_16 : decode cX12_bits 16 = .ok (.iadd, 1) := by decide +kernel
theorem dX12_bits_17 : decode cX12_bits 17 = .ok (.istore_n 1, 1) := by decide +kernel
theorem dX12_bits_18 : decode cX12_bits 18 = .ok (.iinc 2 1, 3) := by decide +kernel
theorem dX12_bits_21 : decode cX12_bits 21 = .ok (.goto (-17), 3) := by decide +kernel
theorem dX12_bits_24 : decode cX12_bits 24 = .ok (.iload_n 1, 1) := by decide +kernel
theorem dX12_bits_25 : decode cX12_bits 25 = .ok (.ireturn, 1) := by decide +kernel
theorem dX12_gcd_0 : decode cX12_gcd 0 = .ok (.lload_n 0, 1) := by decide +kernel
theorem dX12_gcd_1 : decode cX12_gcd 1 = .ok (.lstore 4, 2) := by decide +kernel
theorem dX12_gcd_3 : decode cX12_gcd 3 = .ok (.lload_n 2, 1) := by decide +kernel
theorem dX12_gcd_4 : decode cX12_gcd 4 = .ok (.lstore 6, 2) := by decide +kernel
theorem dX12_gcd_6 : decode cX12_gcd 6 = .ok (.lload 6, 2) := by decide +kernel
theorem dX12_gcd_8 : decode cX12_gcd 8 = .ok (.lconst 0, 1) := by decide +kernel
theorem dX12_gcd_9 : decode cX12_gcd 9 = .ok (.lcmp, 1) := by decide +kernel
theorem dX12_gcd_10 : decode cX12_gcd 10 = .ok (.ifCond .eq 21, 3) := by decide +kernel
theorem dX12_gcd_13 : decode cX12_gcd 13 = .ok (.lload 4, 2) := by decide +kernel
theorem dX12_gcd_15 : decode cX12_gcd 15 = .ok (.lload 6, 2) := by decide +kernel
theorem dX12_gcd_17 : decode cX12_gcd 17 = .ok (.lrem, 1) := by decide +kernel
theorem dX12_gcd_18 : decode cX12_gcd 18 = .ok (.lstore 8, 2) := by decide +kernel
theorem dX12_gcd_20 : decode cX12_gcd 20 = .ok (.lload 6, 2) := by decide +kernel
theorem dX12_gcd_22 : decode cX12_gcd 22 = .ok (.lstore 4, 2) := by decide +kernel
theorem dX12_gcd_24 : decode cX12_gcd 24 = .ok (.lload 8, 2) := by decide +kernel
theorem dX12_gcd_26 : decode cX12_gcd 26 = .ok (.lstore 6, 2) := by decide +kernel
theorem dX12_gcd_28 : decode cX12_gcd 28 = .ok (.goto (-22), 3) := by decide +kernel
theorem dX12_gcd_31 : decode cX12_gcd 31 = .ok (.lload 4, 2) := by decide +kernel
theorem dX12_gcd_33 : decode cX12_gcd 33 = .ok (.lreturn, 1) := by decide +kernel
theorem dX12_feed_0 : decode cX12_feed 0 = .ok (.aload_n 0, 1) := by decide +kernel
theorem dX12_feed_1 : decode cX12_feed 1 = .ok (.iconst 0, 1) := by decide +kernel
theorem dX12_feed_2 : decode cX12_feed 2 = .ok (.putfield 135, 3) := by decide +kernel
theorem dX12_feed_5 : decode cX12_feed 5 = .ok (.iconst 0, 1) := by decide +kernel
theorem dX12_feed_6 : decode cX12_feed 6 = .ok (.istore 7, 2) := by decide +kernel
theorem dX12_feed_8 : decode cX12_feed 8 = .ok (.iload 7, 2) := by decide +kernel
theorem dX12_feed_10 : decode cX12_feed 10 = .ok (.bipush 24, 2) := by decide +kernel
theorem dX12_feed_12 : decode cX12_feed 12 = .ok (.if_icmp .ge 108, 3) := by decide +kernel
theorem dX12_feed_15 : decode cX12_feed 15 = .ok (.iload 7, 2) := by decide +kernel
theorem dX12_feed_17 : decode cX12_feed 17 = .ok (.bipush 8, 2) := by decide +kernel
theorem dX12_feed_19 : decode cX12_feed 19 = .ok (.if_icmp .ge 7, 3) := by decide +kernel
theorem dX12_feed_22 : decode cX12_feed 22 = .ok (.lload_n 1, 1) := by decide +kernel
theorem dX12_feed_23 : decode cX12_feed 23 = .ok (.goto 16, 3) := by decide +kernel
theorem dX12_feed_26 : decode cX12_feed 26 = .ok (.iload 7, 2) := by decide +kernel
theorem dX12_feed_28 : decode cX12_feed 28 = .ok (.bipush 16, 2) := by decide +kernel
theorem dX12_feed_30 : decode cX12_feed 30 = .ok (.if_icmp .ge 7, 3) := by decide +kernel
theorem dX12_feed_33 : decode cX12_feed 33 = .ok (.lload_n 3, 1) := by decide +kernel
theorem dX12_feed_34 : decode cX12_feed 34 = .ok (.goto 5, 3) := by decide +kernel
theorem dX12_feed_37 : decode cX12_feed 37 = .ok (.lload 5, 2) := by decide +kernel
theorem dX12_feed_39 : decode cX12_feed 39 = .ok (.lstore 8, 2) := by decide +kernel
theorem dX12_feed_41 : decode cX12_feed 41 = .ok (.lload 8, 2) := by decide +kernel
theorem dX12_feed_43 : decode cX12_feed 43 = .ok (.bipush 56, 2) := by decide +kernel
theorem dX12_feed_45 : decode cX12_feed 45 = .ok (.bipush 8, 2) := by decide +kernel
theorem dX12_feed_47 : decode cX12_feed 47 = .ok (.iload 7, 2) := by decide +kernel
theorem dX12_feed_49 : decode cX12_feed 49 = .ok (.bipush 7, 2) := by decide +kernel
theorem dX12_feed_51 : decode cX12_feed 51 = .ok (.iand, 1) := by decide +kernel
theorem dX12_feed_52 : decode cX12_feed 52 = .ok (.imul, 1) := by decide +kernel
theorem dX12_feed_53 : decode cX12_feed 53 = .ok (.isub, 1) := by decide +kernel
theorem dX12_feed_54 : decode cX12_feed 54 = .ok (.lushr, 1) := by decide +kernel
theorem dX12_feed_55 : decode cX12_feed 55 = .ok (.ldc2_w 139, 3) := by decide +kernel
theorem dX12_feed_58 : decode cX12_feed 58 = .ok (.land, 1) := by decide +kernel
theorem dX12_feed_59 : decode cX12_feed 59 = .ok (.l2i, 1) := by decide +kernel
theorem dX12_feed_60 : decode cX12_feed 60 = .ok (.istore 10, 2) := by decide +kernel
theorem dX12_feed_62 : decode cX12_feed 62 = .ok (.aload_n 0, 1) := by decide +kernel
theorem dX12_feed_63 : decode cX12_feed 63 = .ok (.getfield 141, 3) := by decide +kernel
theorem dX12_feed_66 : decode cX12_feed 66 = .ok (.sipush 1000, 3) := by decide +kernel
theorem dX12_feed_69 : decode cX12_feed 69 = .ok (.if_icmp .ge 45, 3) := by decide +kernel
theorem dX12_feed_72 : decode cX12_feed 72 = .ok (.iload 10, 2) := by decide +kernel
theorem dX12_feed_74 : decode cX12_feed 74 = .ok (.bipush 10, 2) := by decide +kernel
theorem dX12_feed_76 : decode cX12_feed 76 = .ok (.if_icmp .eq 17, 3) := by decide +kernel
theorem dX12_feed_79 : decode cX12_feed 79 = .ok (.iload 10, 2) := by decide +kernel
theorem dX12_feed_81 : decode cX12_feed 81 = .ok (.bipush 32, 2) := by decide +kernel
theorem dX12_feed_83 : decode cX12_feed 83 = .ok (.if_icmp .lt 31, 3) := by decide +kernel
theorem dX12_feed_86 : decode cX12_feed 86 = .ok (.iload 10, 2) := by decide +kernel
theorem dX12_feed_88 : decode cX12_feed 88 = .ok (.bipush 126, 2) := by decide +kernel
theorem dX12_feed_90 : decode cX12_feed 90 = .ok (.if_icmp .gt 24, 3) := by decide +kernel
theorem dX12_feed_93 : decode cX12_feed 93 = .ok (.aload_n 0, 1) := by decide +kernel
theorem dX12_feed_94 : decode cX12_feed 94 = .ok (.getfield 7, 3) := by decide +kernel
theorem dX12_feed_97 : decode cX12_feed 97 = .ok (.aload_n 0, 1) := by decide +kernel
theorem dX12_feed_98 : decode cX12_feed 98 = .ok (.getfield 141, 3) := by decide +kernel
theorem dX12_feed_101 : decode cX12_feed 101 = .ok (.iload 10, 2) := by decide +kernel
theorem dX12_feed_103 : decode cX12_feed 103 = .ok (.iastore, 1) := by decide +kernel
theorem dX12_feed_104 : decode cX12_feed 104 = .ok (.aload_n 0, 1) := by decide +kernel
theorem dX12_feed_105 : decode cX12_feed 105 = .ok (.dup, 1) := by decide +kernel
theorem dX12_feed_106 : decode cX12_feed 106 = .ok (.getfield 141, 3) := by decide +kernel
theorem dX12_feed_109 : decode cX12_feed 109 = .ok (.iconst 1, 1) := by decide +kernel
theorem dX12_feed_110 : decode cX12_feed 110 = .ok (.iadd, 1) := by decide +kernel
theorem dX12_feed_111 : decode cX12_feed 111 = .ok (.putfield 141, 3) := by decide +kernel
theorem dX12_feed_114 : decode cX12_feed 114 = .ok (.iinc 7 1, 3) := by decide +kernel
theorem dX12_feed_117 : decode cX12_feed 117 = .ok (.goto (-109), 3) := by decide +kernel
theorem dX12_feed_120 : decode cX12_feed 120 = .ok (.aload_n 0, 1) := by decide +kernel
theorem dX12_feed_121 : decode cX12_feed 121 = .ok (.getfield 141, 3) := by decide +kernel
theorem dX12_feed_124 : decode cX12_feed 124 = .ok (.ireturn, 1) := by decide +kernel
theorem dX12_signAt_0 : decode cX12_signAt 0 = .ok (.iload_n 1, 1) := by decide +kernel
theorem dX12_signAt_1 : decode cX12_signAt 1 = .ok (.aload_n 0, 1) := by decide +kernel
theorem dX12_signAt_2 : decode cX12_signAt 2 = .ok (.getfield 144, 3) := by decide +kernel
theorem dX12_signAt_5 : decode cX12_signAt 5 = .ok (.if_icmp .ge 12, 3) := by decide +kernel
theorem dX12_signAt_8 : decode cX12_signAt 8 = .ok (.aload_n 0, 1) := by decide +kernel
theorem dX12_signAt_9 : decode cX12_signAt 9 = .ok (.getfield 7, 3) := by decide +kernel
theorem dX12_signAt_12 : decode cX12_signAt 12 = .ok (.iload_n 1, 1) := by decide +kernel
theorem dX12_signAt_13 : decode cX12_signAt 13 = .ok (.iaload, 1) := by decide +kernel
theorem dX12_signAt_14 : decode cX12_signAt 14 = .ok (.goto 4, 3) := by decide +kernel
theorem dX12_signAt_17 : decode cX12_signAt 17 = .ok (.iconst 0, 1) := by decide +kernel
theorem dX12_signAt_18 : decode cX12_signAt 18 = .ok (.ireturn, 1) := by decide +kernel
theorem dX12_nextToken_0 : decode cX12_nextToken 0 = .ok (.aload_n 0, 1) := by decide +kernel
theorem dX12_nextToken_1 : decode cX12_nextToken 1 = .ok (.getfield 147, 3) := by decide +kernel
theorem dX12_nextToken_4 : decode cX12_nextToken 4 = .ok (.aload_n 0, 1) := by decide +kernel
theorem dX12_nextToken_5 : decode cX12_nextToken 5 = .ok (.getfield 144, 3) := by decide +kernel
theorem dX12_nextToken_8 : decode cX12_nextToken 8 = .ok (.if_icmp .ge 44, 3) := by decide +kernel
theorem dX12_nextToken_11 : decode cX12_nextToken 11 = .ok (.aload_n 0, 1) := by decide +kernel
theorem dX12_nextToken_12 : decode cX12_nextToken 12 = .ok (.getfield 7, 3) := by decide +kernel
theorem dX12_nextToken_15 : decode cX12_nextToken 15 = .ok (.aload_n 0, 1) := by decide +kernel
theorem dX12_nextToken_16 : decode cX12_nextToken 16 = .ok (.getfield 147, 3) := by decide +kernel
theorem dX12_nextToken_19 : decode cX12_nextToken 19 = .ok (.iaload, 1) := by decide +kernel
theorem dX12_nextToken_20 : decode cX12_nextToken 20 = .ok (.bipush 32, 2) := by decide +kernel
theorem dX12_nextToken_22 : decode cX12_nextToken 22 = .ok (.if_icmp .eq 17, 3) := by decide +kernel
theorem dX12_nextToken_25 : decode cX12_nextToken 25 = .ok (.aload_n 0, 1) := by decide +kernel
theorem dX12_nextToken_26 : decode cX12_nextToken 26 = .ok (.getfield 7, 3) := by decide +kernel
theorem dX12_nextToken_29 : decode cX12_nextToken 29 = .ok (.aload_n 0, 1) := by decide +kernel
theorem dX12_nextToken_30 : decode cX12_nextToken 30 = .ok (.getfield 147, 3) := by decide +kernel
theorem dX12_nextToken_33 : decode cX12_nextToken 33 = .ok (.iaload, 1) := by decide +kernel
theorem dX12_nextToken_34 : decode cX12_nextToken 34 = .ok (.bipush 10, 2) := by decide +kernel
theorem dX12_nextToken_36 : decode cX12_nextToken 36 = .ok (.if_icmp .ne 16, 3) := by decide +kernel
theorem dX12_nextToken_39 : decode cX12_nextToken 39 = .ok (.aload_n 0, 1) := by decide +kernel
theorem dX12_nextToken_40 : decode cX12_nextToken 40 = .ok (.dup, 1) := by decide +kernel
theorem dX12_nextToken_41 : decode cX12_nextToken 41 = .ok (.getfield 147, 3) := by decide +kernel
theorem dX12_nextToken_44 : decode cX12_nextToken 44 = .ok (.iconst 1, 1) := by decide +kernel
theorem dX12_nextToken_45 : decode cX12_nextToken 45 = .ok (.iadd, 1) := by decide +kernel
theorem dX12_nextToken_46 : decode cX12_nextToken 46 = .ok (.putfield 147, 3) := by decide +kernel
theorem dX12_nextToken_49 : decode cX12_nextToken 49 = .ok (.goto (-49), 3) := by decide +kernel
theorem dX12_nextToken_52 : decode cX12_nextToken 52 = .ok (.aload_n 0, 1) := by decide +kernel
theorem dX12_nextToken_53 : decode cX12_nextToken 53 = .ok (.aload_n 0, 1) := by decide +kernel
theorem dX12_nextToken_54 : decode cX12_nextToken 54 = .ok (.getfield 147, 3) := by decide +kernel
theorem dX12_nextToken_57 : decode cX12_nextToken 57 = .ok (.putfield 150, 3) := by decide +kernel
theorem dX12_nextToken_60 : decode cX12_nextToken 60 = .ok (.aload_n 0, 1) := by decide +kernel
theorem dX12_nextToken_61 : decode cX12_nextToken 61 = .ok (.lconst 0, 1) := by decide +kernel
theorem dX12_nextToken_62 : decode cX12_nextToken 62 = .ok (.putfield 153, 3) := by decide +kernel
theorem dX12_nextToken_65 : decode cX12_nextToken 65 = .ok (.aload_n 0, 1) := by decide +kernel
theorem dX12_nextToken_66 : decode cX12_nextToken 66 = .ok (.iconst 0, 1) := by decide +kernel
theorem dX12_nextToken_67 : decode cX12_nextToken 67 = .ok (.putfield 157, 3) := by decide +kernel
theorem dX12_nextToken_70 : decode cX12_nextToken 70 = .ok (.aload_n 0, 1) := by decide +kernel
theorem dX12_nextToken_71 : decode cX12_nextToken 71 = .ok (.getfield 147, 3) := by decide +kernel
theorem dX12_nextToken_74 : decode cX12_nextToken 74 = .ok (.aload_n 0, 1) := by decide +kernel
theorem dX12_nextToken_75 : decode cX12_nextToken 75 = .ok (.getfield 144, 3) := by decide +kernel
theorem dX12_nextToken_78 : decode cX12_nextToken 78 = .ok (.if_icmp .ne 9, 3) := by decide +kernel
theorem dX12_nextToken_81 : decode cX12_nextToken 81 = .ok (.aload_n 0, 1) := by decide +kernel
theorem dX12_nextToken_82 : decode cX12_nextToken 82 = .ok (.iconst 0, 1) := by decide +kernel
theorem dX12_nextToken_83 : decode cX12_nextToken 83 = .ok (.putfield 160, 3) := by decide +kernel
theorem dX12_nextToken_86 : decode cX12_nextToken 86 = .ok (.return_, 1) := by decide +kernel
theorem dX12_nextToken_87 : decode cX12_nextToken 87 = .ok (.aload_n 0, 1) := by decide +kernel
theorem dX12_nextToken_88 : decode cX12_nextToken 88 = .ok (.getfield 7, 3) := by decide +kernel
theorem dX12_nextToken_91 : decode cX12_nextToken 91 = .ok (.aload_n 0, 1) := by decide +kernel
theorem dX12_nextToken_92 : decode cX12_nextToken 92 = .ok (.getfield 147, 3) := by decide +kernel
theorem dX12_nextToken_95 : decode cX12_nextToken 95 = .ok (.iaload, 1) := by decide +kernel
theorem dX12_nextToken_96 : decode cX12_nextToken 96 = .ok (.istore_n 1, 1) := by decide +kernel
theorem dX12_nextToken_97 : decode cX12_nextToken 97 = .ok (.iload_n 1, 1) := by decide +kernel
theorem dX12_nextToken_98 : decode cX12_nextToken 98 = .ok (.bipush 97, 2) := by decide +kernel
theorem dX12_nextToken_100 : decode cX12_nextToken 100 = .ok (.if_icmp .lt 112, 3) := by decide +kernel
theorem dX12_nextToken_103 : decode cX12_nextToken 103 = .ok (.iload_n 1, 1) := by decide +kernel
theorem dX12_nextToken_104 : decode cX12_nextToken 104 = .ok (.bipush 122, 2) := by decide +kernel
theorem dX12_nextToken_106 : decode cX12_nextToken 106 = .ok (.if_icmp .gt 106, 3) := by decide +kernel
theorem dX12_nextToken_109 : decode cX12_nextToken 109 = .ok (.aload_n 0, 1) := by decide +kernel
theorem dX12_nextToken_110 : decode cX12_nextToken 110 = .ok (.aload_n 0, 1) := by decide +kernel
theorem dX12_nextToken_111 : decode cX12_nextToken 111 = .ok (.getfield 147, 3) := by decide +kernel
theorem dX12_nextToken_114 : decode cX12_nextToken 114 = .ok (.invokevirtual 163, 3) := by decide +kernel
theorem dX12_nextToken_117 : decode cX12_nextToken 117 = .ok (.bipush 97, 2) := by decide +kernel
theorem dX12_nextToken_119 : decode cX12_nextToken 119 = .ok (.if_icmp .lt 69, 3) := by decide +kernel
theorem dX12_nextToken_122 : decode cX12_nextToken 122 = .ok (.aload_n 0, 1) := by decide +kernel
theorem dX12_nextToken_123 : decode cX12_nextToken 123 = .ok (.aload_n 0, 1) := by decide +kernel
theorem dX12_nextToken_124 : decode cX12_nextToken 124 = .ok (.getfield 147, 3) := by decide +kernel
theorem dX12_nextToken_127 : decode cX12_nextToken 127 = .ok (.invokevirtual 163, 3) := by decide +kernel
theorem dX12_nextToken_130 : decode cX12_nextToken 130 = .ok (.bipush 122, 2) := by decide +kernel
theorem dX12_nextToken_132 : decode cX12_nextToken 132 = .ok (.if_icmp .gt 56, 3) := by decide +kernel
theorem dX12_nextToken_135 : decode cX12_nextToken 135 = .ok (.aload_n 0, 1) := by decide +kernel
theorem dX12_nextToken_136 : decode cX12_nextToken 136 = .ok (.getfield 147, 3) := by decide +kernel
theorem dX12_nextToken_139 : decode cX12_nextToken 139 = .ok (.aload_n 0, 1) := by decide +kernel
theorem dX12_nextToken_140 : decode cX12_nextToken 140 = .ok (.getfield 150, 3) := by decide +kernel
theorem dX12_nextToken_143 : decode cX12_nextToken 143 = .ok (.isub, 1) := by decide +kernel
theorem dX12_nextToken_144 : decode cX12_nextToken 144 = .ok (.bipush 8, 2) := by decide +kernel
theorem dX12_nextToken_146 : decode cX12_nextToken 146 = .ok (.if_icmp .ge 29, 3) := by decide +kernel
theorem dX12_nextToken_149 : decode cX12_nextToken 149 = .ok (.aload_n 0, 1) := by decide +kernel
theorem dX12_nextToken_150 : decode cX12_nextToken 150 = .ok (.aload_n 0, 1) := by decide +kernel
theorem dX12_nextToken_151 : decode cX12_nextToken 151 = .ok (.getfield 153, 3) := by decide +kernel
theorem dX12_nextToken_154 : decode cX12_nextToken 154 = .ok (.ldc2_w 167, 3) := by decide +kernel
theorem dX12_nextToken_157 : decode cX12_nextToken 157 = .ok (.lmul, 1) := by decide +kernel
theorem dX12_nextToken_158 : decode cX12_nextToken 158 = .ok (.aload_n 0, 1) := by decide +kernel
theorem dX12_nextToken_159 : decode cX12_nextToken 159 = .ok (.aload_n 0, 1) := by decide +kernel
theorem dX12_nextToken_160 : decode cX12_nextToken 160 = .ok (.getfield 147, 3) := by decide +kernel
theorem dX12_nextToken_163 : decode cX12_nextToken 163 = .ok (.invokevirtual 163, 3) := by decide +kernel
theorem dX12_nextToken_166 : decode cX12_nextToken 166 = .ok (.i2l, 1) := by decide +kernel
theorem dX12_nextToken_167 : decode cX12_nextToken 167 = .ok (.ladd, 1) := by decide +kernel
theorem dX12_nextToken_168 : decode cX12_nextToken 168 = .ok (.ldc2_w 169, 3) := by decide +kernel
theorem dX12_nextToken_171 : decode cX12_nextToken 171 = .ok (.lsub, 1) := by decide +kernel
theorem dX12_nextToken_172 : decode cX12_nextToken 172 = .ok (.putfield 153, 3) := by decide +kernel
theorem dX12_nextToken_175 : decode cX12_nextToken 175 = .ok (.aload_n 0, 1) := by decide +kernel
theorem dX12_nextToken_176 : decode cX12_nextToken 176 = .ok (.dup, 1) := by decide +kernel
theorem dX12_nextToken_177 : decode cX12_nextToken 177 = .ok (.getfield 147, 3) := by decide +kernel
theorem dX12_nextToken_180 : decode cX12_nextToken 180 = .ok (.iconst 1, 1) := by decide +kernel
theorem dX12_nextToken_181 : decode cX12_nextToken 181 = .ok (.iadd, 1) := by decide +kernel
theorem dX12_nextToken_182 : decode cX12_nextToken 182 = .ok (.putfield 147, 3) := by decide +kernel
theorem dX12_nextToken_185 : decode cX12_nextToken 185 = .ok (.goto (-76), 3) := by decide +kernel
theorem dX12_nextToken_188 : decode cX12_nextToken 188 = .ok (.aload_n 0, 1) := by decide +kernel
theorem dX12_nextToken_189 : decode cX12_nextToken 189 = .ok (.aload_n 0, 1) := by decide +kernel
theorem dX12_nextToken_190 : decode cX12_nextToken 190 = .ok (.getfield 147, 3) := by decide +kernel
theorem dX12_nextToken_193 : decode cX12_nextToken 193 = .ok (.aload_n 0, 1) := by decide +kernel
theorem dX12_nextToken_194 : decode cX12_nextToken 194 = .ok (.getfield 150, 3) := by decide +kernel
theorem dX12_nextToken_197 : decode cX12_nextToken 197 = .ok (.isub, 1) := by decide +kernel
theorem dX12_nextToken_198 : decode cX12_nextToken 198 = .ok (.bipush 8, 2) := by decide +kernel
theorem dX12_nextToken_200 : decode cX12_nextToken 200 = .ok (.if_icmp .le 7, 3) := by decide +kernel
theorem dX12_nextToken_203 : decode cX12_nextToken 203 = .ok (.iconst 4, 1) := by decide +kernel
theorem dX12_nextToken_204 : decode cX12_nextToken 204 = .ok (.goto 4, 3) := by decide +kernel
theorem dX12_nextToken_207 : decode cX12_nextToken 207 = .ok (.iconst 1, 1) := by decide +kernel
theorem dX12_nextToken_208 : decode cX12_nextToken 208 = .ok (.putfield 160, 3) := by decide +kernel
theorem dX12_nextToken_211 : decode cX12_nextToken 211 = .ok (.return_, 1) := by decide +kernel
theorem dX12_nextToken_212 : decode cX12_nextToken 212 = .ok (.iload_n 1, 1) := by decide +kernel
theorem dX12_nextToken_213 : decode cX12_nextToken 213 = .ok (.bipush 48, 2) := by decide +kernel
theorem dX12_nextToken_215 : decode cX12_nextToken 215 = .ok (.if_icmp .lt 107, 3) := by decide +kernel
theorem dX12_nextToken_218 : decode cX12_nextToken 218 = .ok (.iload_n 1, 1) := by decide +kernel
theorem dX12_nextToken_219 : decode cX12_nextToken 219 = .ok (.bipush 57, 2) := by decide +kernel
theorem dX12_nextToken_221 : decode cX12_nextToken 221 = .ok (.if_icmp .gt 101, 3) := by decide +kernel
theorem dX12_nextToken_224 : decode cX12_nextToken 224 = .ok (.aload_n 0, 1) := by decide +kernel
theorem dX12_nextToken_225 : decode cX12_nextToken 225 = .ok (.aload_n 0, 1) := by decide +kernel
theorem dX12_nextToken_226 : decode cX12_nextToken 226 = .ok (.getfield 147, 3) := by decide +kernel
theorem dX12_nextToken_229 : decode cX12_nextToken 229 = .ok (.invokevirtual 163, 3) := by decide +kernel
theorem dX12_nextToken_232 : decode cX12_nextToken 232 = .ok (.bipush 48, 2) := by decide +kernel
theorem dX12_nextToken_234 : decode cX12_nextToken 234 = .ok (.if_icmp .lt 65, 3) := by decide +kernel
theorem dX12_nextToken_237 : decode cX12_nextToken 237 = .ok (.aload_n 0, 1) := by decide +kernel
theorem dX12_nextToken_238 : decode cX12_nextToken 238 = .ok (.aload_n 0, 1) := by decide +kernel
theorem dX12_nextToken_239 : decode cX12_nextToken 239 = .ok (.getfield 147, 3) := by decide +kernel
theorem dX12_nextToken_242 : decode cX12_nextToken 242 = .ok (.invokevirtual 163, 3) := by decide +kernel
theorem dX12_nextToken_245 : decode cX12_nextToken 245 = .ok (.bipush 57, 2) := by decide +kernel
theorem dX12_nextToken_247 : decode cX12_nextToken 247 = .ok (.if_icmp .gt 52, 3) := by decide +kernel
theorem dX12_nextToken_250 : decode cX12_nextToken 250 = .ok (.aload_n 0, 1) := by decide +kernel
theorem dX12_nextToken_251 : decode cX12_nextToken 251 = .ok (.getfield 147, 3) := by decide +kernel
theorem dX12_nextToken_254 : decode cX12_nextToken 254 = .ok (.aload_n 0, 1) := by decide +kernel
theorem dX12_nextToken_255 : decode cX12_nextToken 255 = .ok (.getfield 150, 3) := by decide +kernel
theorem dX12_nextToken_258 : decode cX12_nextToken 258 = .ok (.isub, 1) := by decide +kernel
theorem dX12_nextToken_259 : decode cX12_nextToken 259 = .ok (.iconst 4, 1) := by decide +kernel
theorem dX12_nextToken_260 : decode cX12_nextToken 260 = .ok (.if_icmp .ge 26, 3) := by decide +kernel
theorem dX12_nextToken_263 : decode cX12_nextToken 263 = .ok (.aload_n 0, 1) := by decide +kernel
theorem dX12_nextToken_264 : decode cX12_nextToken 264 = .ok (.aload_n 0, 1) := by decide +kernel
theorem dX12_nextToken_265 : decode cX12_nextToken 265 = .ok (.getfield 157, 3) := by decide +kernel
theorem dX12_nextToken_268 : decode cX12_nextToken 268 = .ok (.bipush 10, 2) := by decide +kernel
theorem dX12_nextToken_270 : decode cX12_nextToken 270 = .ok (.imul, 1) := by decide +kernel
theorem dX12_nextToken_271 : decode cX12_nextToken 271 = .ok (.aload_n 0, 1) := by decide +kernel
theorem dX12_nextToken_272 : decode cX12_nextToken 272 = .ok (.aload_n 0, 1) := by decide +kernel
theorem dX12_nextToken_273 : decode cX12_nextToken 273 = .ok (.getfield 147, 3) := by decide +kernel
theorem dX12_nextToken_276 : decode cX12_nextToken 276 = .ok (.invokevirtual 163, 3) := by decide +kernel
theorem dX12_nextToken_279 : decode cX12_nextToken 279 = .ok (.iadd, 1) := by decide +kernel
theorem dX12_nextToken_280 : decode cX12_nextToken 280 = .ok (.bipush 48, 2) := by decide +kernel
theorem dX12_nextToken_282 : decode cX12_nextToken 282 = .ok (.isub, 1) := by decide +kernel
theorem dX12_nextToken_283 : decode cX12_nextToken 283 = .ok (.putfield 157, 3) := by decide +kernel
theorem dX12_nextToken_286 : decode cX12_nextToken 286 = .ok (.aload_n 0, 1) := by decide +kernel
theorem dX12_nextToken_287 : decode cX12_nextToken 287 = .ok (.dup, 1) := by decide +kernel
theorem dX12_nextToken_288 : decode cX12_nextToken 288 = .ok (.getfield 147, 3) := by decide +kernel
theorem dX12_nextToken_291 : decode cX12_nextToken 291 = .ok (.iconst 1, 1) := by decide +kernel
theorem dX12_nextToken_292 : decode cX12_nextToken 292 = .ok (.iadd, 1) := by decide +kernel
theorem dX12_nextToken_293 : decode cX12_nextToken 293 = .ok (.putfield 147, 3) := by decide +kernel
theorem dX12_nextToken_296 : decode cX12_nextToken 296 = .ok (.goto (-72), 3) := by decide +kernel
theorem dX12_nextToken_299 : decode cX12_nextToken 299 = .ok (.aload_n 0, 1) := by decide +kernel
theorem dX12_nextToken_300 : decode cX12_nextToken 300 = .ok (.aload_n 0, 1) := by decide +kernel
theorem dX12_nextToken_301 : decode cX12_nextToken 301 = .ok (.getfield 147, 3) := by decide +kernel
theorem dX12_nextToken_304 : decode cX12_nextToken 304 = .ok (.aload_n 0, 1) := by decide +kernel
theorem dX12_nextToken_305 : decode cX12_nextToken 305 = .ok (.getfield 150, 3) := by decide +kernel
theorem dX12_nextToken_308 : decode cX12_nextToken 308 = .ok (.isub, 1) := by decide +kernel
theorem dX12_nextToken_309 : decode cX12_nextToken 309 = .ok (.iconst 4, 1) := by decide +kernel
theorem dX12_nextToken_310 : decode cX12_nextToken 310 = .ok (.if_icmp .le 7, 3) := by decide +kernel
theorem dX12_nextToken_313 : decode cX12_nextToken 313 = .ok (.iconst 4, 1) := by decide +kernel
