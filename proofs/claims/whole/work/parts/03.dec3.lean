theorem dX12_weighing_47 : decode cX12_weighing 47 = .ok (.iload 5, 2) := by decide +kernel
theorem dX12_weighing_49 : decode cX12_weighing 49 = .ok (.aload_n 0, 1) := by decide +kernel
theorem dX12_weighing_50 : decode cX12_weighing 50 = .ok (.getfield 13, 3) := by decide +kernel
theorem dX12_weighing_53 : decode cX12_weighing 53 = .ok (.iconst 0, 1) := by decide +kernel
theorem dX12_weighing_54 : decode cX12_weighing 54 = .ok (.iaload, 1) := by decide +kernel
theorem dX12_weighing_55 : decode cX12_weighing 55 = .ok (.if_icmp .ge 69, 3) := by decide +kernel
theorem dX12_weighing_58 : decode cX12_weighing 58 = .ok (.iload 4, 2) := by decide +kernel
theorem dX12_weighing_60 : decode cX12_weighing 60 = .ok (.iload 5, 2) := by decide +kernel
theorem dX12_weighing_62 : decode cX12_weighing 62 = .ok (.ishr, 1) := by decide +kernel
theorem dX12_weighing_63 : decode cX12_weighing 63 = .ok (.iconst 1, 1) := by decide +kernel
theorem dX12_weighing_64 : decode cX12_weighing 64 = .ok (.iand, 1) := by decide +kernel
theorem dX12_weighing_65 : decode cX12_weighing 65 = .ok (.iconst 1, 1) := by decide +kernel
theorem dX12_weighing_66 : decode cX12_weighing 66 = .ok (.if_icmp .eq 52, 3) := by decide +kernel
theorem dX12_weighing_69 : decode cX12_weighing 69 = .ok (.iload 5, 2) := by decide +kernel
theorem dX12_weighing_71 : decode cX12_weighing 71 = .ok (.iload_n 2, 1) := by decide +kernel
theorem dX12_weighing_72 : decode cX12_weighing 72 = .ok (.if_icmp .ne 15, 3) := by decide +kernel
theorem dX12_weighing_75 : decode cX12_weighing 75 = .ok (.iload 4, 2) := by decide +kernel
theorem dX12_weighing_77 : decode cX12_weighing 77 = .ok (.iload_n 1, 1) := by decide +kernel
theorem dX12_weighing_78 : decode cX12_weighing 78 = .ok (.ishr, 1) := by decide +kernel
theorem dX12_weighing_79 : decode cX12_weighing 79 = .ok (.iconst 1, 1) := by decide +kernel
theorem dX12_weighing_80 : decode cX12_weighing 80 = .ok (.iand, 1) := by decide +kernel
theorem dX12_weighing_81 : decode cX12_weighing 81 = .ok (.ifCond .ne 6, 3) := by decide +kernel
theorem dX12_weighing_84 : decode cX12_weighing 84 = .ok (.goto 34, 3) := by decide +kernel
theorem dX12_weighing_87 : decode cX12_weighing 87 = .ok (.aload_n 0, 1) := by decide +kernel
theorem dX12_weighing_88 : decode cX12_weighing 88 = .ok (.getfield 114, 3) := by decide +kernel
theorem dX12_weighing_91 : decode cX12_weighing 91 = .ok (.iload 4, 2) := by decide +kernel
theorem dX12_weighing_93 : decode cX12_weighing 93 = .ok (.iconst 1, 1) := by decide +kernel
theorem dX12_weighing_94 : decode cX12_weighing 94 = .ok (.iload 5, 2) := by decide +kernel
theorem dX12_weighing_96 : decode cX12_weighing 96 = .ok (.ishl, 1) := by decide +kernel
theorem dX12_weighing_97 : decode cX12_weighing 97 = .ok (.ior, 1) := by decide +kernel
theorem dX12_weighing_98 : decode cX12_weighing 98 = .ok (.dup2, 1) := by decide +kernel
theorem dX12_weighing_99 : decode cX12_weighing 99 = .ok (.laload, 1) := by decide +kernel
theorem dX12_weighing_100 : decode cX12_weighing 100 = .ok (.aload_n 0, 1) := by decide +kernel
theorem dX12_weighing_101 : decode cX12_weighing 101 = .ok (.getfield 114, 3) := by decide +kernel
theorem dX12_weighing_104 : decode cX12_weighing 104 = .ok (.iload 4, 2) := by decide +kernel
theorem dX12_weighing_106 : decode cX12_weighing 106 = .ok (.laload, 1) := by decide +kernel
theorem dX12_weighing_107 : decode cX12_weighing 107 = .ok (.aload_n 0, 1) := by decide +kernel
theorem dX12_weighing_108 : decode cX12_weighing 108 = .ok (.iload 5, 2) := by decide +kernel
theorem dX12_weighing_110 : decode cX12_weighing 110 = .ok (.iload 4, 2) := by decide +kernel
theorem dX12_weighing_112 : decode cX12_weighing 112 = .ok (.invokevirtual 372, 3) := by decide +kernel
theorem dX12_weighing_115 : decode cX12_weighing 115 = .ok (.lmul, 1) := by decide +kernel
theorem dX12_weighing_116 : decode cX12_weighing 116 = .ok (.ladd, 1) := by decide +kernel
theorem dX12_weighing_117 : decode cX12_weighing 117 = .ok (.lastore, 1) := by decide +kernel
theorem dX12_weighing_118 : decode cX12_weighing 118 = .ok (.iinc 5 1, 3) := by decide +kernel
theorem dX12_weighing_121 : decode cX12_weighing 121 = .ok (.goto (-74), 3) := by decide +kernel
theorem dX12_weighing_124 : decode cX12_weighing 124 = .ok (.iinc 4 1, 3) := by decide +kernel
theorem dX12_weighing_127 : decode cX12_weighing 127 = .ok (.goto (-89), 3) := by decide +kernel
theorem dX12_weighing_130 : decode cX12_weighing 130 = .ok (.aload_n 0, 1) := by decide +kernel
theorem dX12_weighing_131 : decode cX12_weighing 131 = .ok (.getfield 114, 3) := by decide +kernel
theorem dX12_weighing_134 : decode cX12_weighing 134 = .ok (.iload_n 3, 1) := by decide +kernel
theorem dX12_weighing_135 : decode cX12_weighing 135 = .ok (.laload, 1) := by decide +kernel
theorem dX12_weighing_136 : decode cX12_weighing 136 = .ok (.lreturn, 1) := by decide +kernel
theorem dX12_chance_0 : decode cX12_chance 0 = .ok (.aload_n 0, 1) := by decide +kernel
theorem dX12_chance_1 : decode cX12_chance 1 = .ok (.iconst 0, 1) := by decide +kernel
theorem dX12_chance_2 : decode cX12_chance 2 = .ok (.putfield 135, 3) := by decide +kernel
theorem dX12_chance_5 : decode cX12_chance 5 = .ok (.aload_n 0, 1) := by decide +kernel
theorem dX12_chance_6 : decode cX12_chance 6 = .ok (.iload_n 1, 1) := by decide +kernel
theorem dX12_chance_7 : decode cX12_chance 7 = .ok (.iload_n 2, 1) := by decide +kernel
theorem dX12_chance_8 : decode cX12_chance 8 = .ok (.invokevirtual 332, 3) := by decide +kernel
theorem dX12_chance_11 : decode cX12_chance 11 = .ok (.ifCond .eq 23, 3) := by decide +kernel
theorem dX12_chance_14 : decode cX12_chance 14 = .ok (.iload_n 3, 1) := by decide +kernel
theorem dX12_chance_15 : decode cX12_chance 15 = .ok (.iconst 0, 1) := by decide +kernel
theorem dX12_chance_16 : decode cX12_chance 16 = .ok (.iconst 1, 1) := by decide +kernel
theorem dX12_chance_17 : decode cX12_chance 17 = .ok (.invokestatic 250, 3) := by decide +kernel
theorem dX12_chance_20 : decode cX12_chance 20 = .ok (.ifCond .eq 14, 3) := by decide +kernel
theorem dX12_chance_23 : decode cX12_chance 23 = .ok (.aload_n 0, 1) := by decide +kernel
theorem dX12_chance_24 : decode cX12_chance 24 = .ok (.getfield 90, 3) := by decide +kernel
theorem dX12_chance_27 : decode cX12_chance 27 = .ok (.iconst 0, 1) := by decide +kernel
theorem dX12_chance_28 : decode cX12_chance 28 = .ok (.iaload, 1) := by decide +kernel
theorem dX12_chance_29 : decode cX12_chance 29 = .ok (.bipush 12, 2) := by decide +kernel
theorem dX12_chance_31 : decode cX12_chance 31 = .ok (.if_icmp .le 7, 3) := by decide +kernel
theorem dX12_chance_34 : decode cX12_chance 34 = .ok (.ldc2_w 376, 3) := by decide +kernel
theorem dX12_chance_37 : decode cX12_chance 37 = .ok (.lreturn, 1) := by decide +kernel
theorem dX12_chance_38 : decode cX12_chance 38 = .ok (.aload_n 0, 1) := by decide +kernel
theorem dX12_chance_39 : decode cX12_chance 39 = .ok (.iconst (-1), 1) := by decide +kernel
theorem dX12_chance_40 : decode cX12_chance 40 = .ok (.iconst (-1), 1) := by decide +kernel
theorem dX12_chance_41 : decode cX12_chance 41 = .ok (.invokevirtual 378, 3) := by decide +kernel
theorem dX12_chance_44 : decode cX12_chance 44 = .ok (.lstore 4, 2) := by decide +kernel
theorem dX12_chance_46 : decode cX12_chance 46 = .ok (.lload 4, 2) := by decide +kernel
theorem dX12_chance_48 : decode cX12_chance 48 = .ok (.lconst 0, 1) := by decide +kernel
theorem dX12_chance_49 : decode cX12_chance 49 = .ok (.lcmp, 1) := by decide +kernel
theorem dX12_chance_50 : decode cX12_chance 50 = .ok (.ifCond .ne 7, 3) := by decide +kernel
theorem dX12_chance_53 : decode cX12_chance 53 = .ok (.ldc2_w 376, 3) := by decide +kernel
theorem dX12_chance_56 : decode cX12_chance 56 = .ok (.lreturn, 1) := by decide +kernel
theorem dX12_chance_57 : decode cX12_chance 57 = .ok (.aload_n 0, 1) := by decide +kernel
theorem dX12_chance_58 : decode cX12_chance 58 = .ok (.iload_n 1, 1) := by decide +kernel
theorem dX12_chance_59 : decode cX12_chance 59 = .ok (.iload_n 2, 1) := by decide +kernel
theorem dX12_chance_60 : decode cX12_chance 60 = .ok (.invokevirtual 378, 3) := by decide +kernel
theorem dX12_chance_63 : decode cX12_chance 63 = .ok (.lstore 6, 2) := by decide +kernel
theorem dX12_chance_65 : decode cX12_chance 65 = .ok (.iload_n 3, 1) := by decide +kernel
theorem dX12_chance_66 : decode cX12_chance 66 = .ok (.ifCond .ne 8, 3) := by decide +kernel
theorem dX12_chance_69 : decode cX12_chance 69 = .ok (.lload 6, 2) := by decide +kernel
theorem dX12_chance_71 : decode cX12_chance 71 = .ok (.goto 5, 3) := by decide +kernel
theorem dX12_chance_74 : decode cX12_chance 74 = .ok (.lload 4, 2) := by decide +kernel
theorem dX12_chance_76 : decode cX12_chance 76 = .ok (.lload 6, 2) := by decide +kernel
theorem dX12_chance_78 : decode cX12_chance 78 = .ok (.lload 4, 2) := by decide +kernel
theorem dX12_chance_80 : decode cX12_chance 80 = .ok (.invokestatic 381, 3) := by decide +kernel
theorem dX12_chance_83 : decode cX12_chance 83 = .ok (.ldiv, 1) := by decide +kernel
theorem dX12_chance_84 : decode cX12_chance 84 = .ok (.lreturn, 1) := by decide +kernel
theorem dX12_looks_0 : decode cX12_looks 0 = .ok (.aload_n 0, 1) := by decide +kernel
theorem dX12_looks_1 : decode cX12_looks 1 = .ok (.invokevirtual 344, 3) := by decide +kernel
theorem dX12_looks_4 : decode cX12_looks 4 = .ok (.istore_n 1, 1) := by decide +kernel
theorem dX12_looks_5 : decode cX12_looks 5 = .ok (.iload_n 1, 1) := by decide +kernel
theorem dX12_looks_6 : decode cX12_looks 6 = .ok (.iconst 2, 1) := by decide +kernel
theorem dX12_looks_7 : decode cX12_looks 7 = .ok (.if_icmp .ge 5, 3) := by decide +kernel
theorem dX12_looks_10 : decode cX12_looks 10 = .ok (.iconst 0, 1) := by decide +kernel
theorem dX12_looks_11 : decode cX12_looks 11 = .ok (.ireturn, 1) := by decide +kernel
theorem dX12_looks_12 : decode cX12_looks 12 = .ok (.aload_n 0, 1) := by decide +kernel
theorem dX12_looks_13 : decode cX12_looks 13 = .ok (.invokevirtual 347, 3) := by decide +kernel
theorem dX12_looks_16 : decode cX12_looks 16 = .ok (.pop, 1) := by decide +kernel
theorem dX12_looks_17 : decode cX12_looks 17 = .ok (.aload_n 0, 1) := by decide +kernel
theorem dX12_looks_18 : decode cX12_looks 18 = .ok (.iconst (-1), 1) := by decide +kernel
theorem dX12_looks_19 : decode cX12_looks 19 = .ok (.putfield 385, 3) := by decide +kernel
theorem dX12_looks_22 : decode cX12_looks 22 = .ok (.iconst 0, 1) := by decide +kernel
theorem dX12_looks_23 : decode cX12_looks 23 = .ok (.istore_n 2, 1) := by decide +kernel
theorem dX12_looks_24 : decode cX12_looks 24 = .ok (.iload_n 2, 1) := by decide +kernel
theorem dX12_looks_25 : decode cX12_looks 25 = .ok (.aload_n 0, 1) := by decide +kernel
theorem dX12_looks_26 : decode cX12_looks 26 = .ok (.getfield 13, 3) := by decide +kernel
theorem dX12_looks_29 : decode cX12_looks 29 = .ok (.iconst 0, 1) := by decide +kernel
theorem dX12_looks_30 : decode cX12_looks 30 = .ok (.iaload, 1) := by decide +kernel
theorem dX12_looks_31 : decode cX12_looks 31 = .ok (.if_icmp .ge 144, 3) := by decide +kernel
theorem dX12_looks_34 : decode cX12_looks 34 = .ok (.iload_n 2, 1) := by decide +kernel
theorem dX12_looks_35 : decode cX12_looks 35 = .ok (.iconst 1, 1) := by decide +kernel
theorem dX12_looks_36 : decode cX12_looks 36 = .ok (.iadd, 1) := by decide +kernel
theorem dX12_looks_37 : decode cX12_looks 37 = .ok (.istore_n 3, 1) := by decide +kernel
theorem dX12_looks_38 : decode cX12_looks 38 = .ok (.iload_n 3, 1) := by decide +kernel
theorem dX12_looks_39 : decode cX12_looks 39 = .ok (.aload_n 0, 1) := by decide +kernel
theorem dX12_looks_40 : decode cX12_looks 40 = .ok (.getfield 13, 3) := by decide +kernel
theorem dX12_looks_43 : decode cX12_looks 43 = .ok (.iconst 0, 1) := by decide +kernel
theorem dX12_looks_44 : decode cX12_looks 44 = .ok (.iaload, 1) := by decide +kernel
theorem dX12_looks_45 : decode cX12_looks 45 = .ok (.if_icmp .ge 124, 3) := by decide +kernel
theorem dX12_looks_48 : decode cX12_looks 48 = .ok (.aload_n 0, 1) := by decide +kernel
theorem dX12_looks_49 : decode cX12_looks 49 = .ok (.getfield 105, 3) := by decide +kernel
theorem dX12_looks_52 : decode cX12_looks 52 = .ok (.iload_n 2, 1) := by decide +kernel
theorem dX12_looks_53 : decode cX12_looks 53 = .ok (.iaload, 1) := by decide +kernel
theorem dX12_looks_54 : decode cX12_looks 54 = .ok (.iload_n 3, 1) := by decide +kernel
theorem dX12_looks_55 : decode cX12_looks 55 = .ok (.ishr, 1) := by decide +kernel
theorem dX12_looks_56 : decode cX12_looks 56 = .ok (.iconst 1, 1) := by decide +kernel
theorem dX12_looks_57 : decode cX12_looks 57 = .ok (.iand, 1) := by decide +kernel
theorem dX12_looks_58 : decode cX12_looks 58 = .ok (.iconst 1, 1) := by decide +kernel
theorem dX12_looks_59 : decode cX12_looks 59 = .ok (.if_icmp .eq 104, 3) := by decide +kernel
theorem dX12_looks_62 : decode cX12_looks 62 = .ok (.aload_n 0, 1) := by decide +kernel
theorem dX12_looks_63 : decode cX12_looks 63 = .ok (.getfield 105, 3) := by decide +kernel
theorem dX12_looks_66 : decode cX12_looks 66 = .ok (.iload_n 3, 1) := by decide +kernel
theorem dX12_looks_67 : decode cX12_looks 67 = .ok (.iaload, 1) := by decide +kernel
theorem dX12_looks_68 : decode cX12_looks 68 = .ok (.iload_n 2, 1) := by decide +kernel
theorem dX12_looks_69 : decode cX12_looks 69 = .ok (.ishr, 1) := by decide +kernel
theorem dX12_looks_70 : decode cX12_looks 70 = .ok (.iconst 1, 1) := by decide +kernel
theorem dX12_looks_71 : decode cX12_looks 71 = .ok (.iand, 1) := by decide +kernel
theorem dX12_looks_72 : decode cX12_looks 72 = .ok (.iconst 1, 1) := by decide +kernel
theorem dX12_looks_73 : decode cX12_looks 73 = .ok (.if_icmp .ne 6, 3) := by decide +kernel
theorem dX12_looks_76 : decode cX12_looks 76 = .ok (.goto 87, 3) := by decide +kernel
theorem dX12_looks_79 : decode cX12_looks 79 = .ok (.aload_n 0, 1) := by decide +kernel
theorem dX12_looks_80 : decode cX12_looks 80 = .ok (.getfield 99, 3) := by decide +kernel
theorem dX12_looks_83 : decode cX12_looks 83 = .ok (.iload_n 3, 1) := by decide +kernel
theorem dX12_looks_84 : decode cX12_looks 84 = .ok (.iaload, 1) := by decide +kernel
theorem dX12_looks_85 : decode cX12_looks 85 = .ok (.istore 4, 2) := by decide +kernel
theorem dX12_looks_87 : decode cX12_looks 87 = .ok (.aload_n 0, 1) := by decide +kernel
theorem dX12_looks_88 : decode cX12_looks 88 = .ok (.getfield 99, 3) := by decide +kernel
theorem dX12_looks_91 : decode cX12_looks 91 = .ok (.iload_n 3, 1) := by decide +kernel
theorem dX12_looks_92 : decode cX12_looks 92 = .ok (.dup2, 1) := by decide +kernel
theorem dX12_looks_93 : decode cX12_looks 93 = .ok (.iaload, 1) := by decide +kernel
theorem dX12_looks_94 : decode cX12_looks 94 = .ok (.iconst 1, 1) := by decide +kernel
theorem dX12_looks_95 : decode cX12_looks 95 = .ok (.iload_n 2, 1) := by decide +kernel
theorem dX12_looks_96 : decode cX12_looks 96 = .ok (.ishl, 1) := by decide +kernel
theorem dX12_looks_97 : decode cX12_looks 97 = .ok (.ior, 1) := by decide +kernel
theorem dX12_looks_98 : decode cX12_looks 98 = .ok (.iastore, 1) := by decide +kernel
theorem dX12_looks_99 : decode cX12_looks 99 = .ok (.aload_n 0, 1) := by decide +kernel
theorem dX12_looks_100 : decode cX12_looks 100 = .ok (.aload_n 0, 1) := by decide +kernel
theorem dX12_looks_101 : decode cX12_looks 101 = .ok (.invokevirtual 338, 3) := by decide +kernel
theorem dX12_looks_104 : decode cX12_looks 104 = .ok (.invokevirtual 341, 3) := by decide +kernel
theorem dX12_looks_107 : decode cX12_looks 107 = .ok (.istore 5, 2) := by decide +kernel
theorem dX12_looks_109 : decode cX12_looks 109 = .ok (.aload_n 0, 1) := by decide +kernel
theorem dX12_looks_110 : decode cX12_looks 110 = .ok (.getfield 99, 3) := by decide +kernel
theorem dX12_looks_113 : decode cX12_looks 113 = .ok (.iload_n 3, 1) := by decide +kernel
theorem dX12_looks_114 : decode cX12_looks 114 = .ok (.iload 4, 2) := by decide +kernel
theorem dX12_looks_116 : decode cX12_looks 116 = .ok (.iastore, 1) := by decide +kernel
theorem dX12_looks_117 : decode cX12_looks 117 = .ok (.iload 5, 2) := by decide +kernel
theorem dX12_looks_119 : decode cX12_looks 119 = .ok (.iload_n 1, 1) := by decide +kernel
theorem dX12_looks_120 : decode cX12_looks 120 = .ok (.iload 5, 2) := by decide +kernel
theorem dX12_looks_122 : decode cX12_looks 122 = .ok (.isub, 1) := by decide +kernel
theorem dX12_looks_123 : decode cX12_looks 123 = .ok (.invokestatic 388, 3) := by decide +kernel
theorem dX12_looks_126 : decode cX12_looks 126 = .ok (.istore 5, 2) := by decide +kernel
theorem dX12_looks_128 : decode cX12_looks 128 = .ok (.aload_n 0, 1) := by decide +kernel
theorem dX12_looks_129 : decode cX12_looks 129 = .ok (.getfield 385, 3) := by decide +kernel
theorem dX12_looks_132 : decode cX12_looks 132 = .ok (.ifCond .lt 15, 3) := by decide +kernel
theorem dX12_looks_135 : decode cX12_looks 135 = .ok (.iload 5, 2) := by decide +kernel
theorem dX12_looks_137 : decode cX12_looks 137 = .ok (.aload_n 0, 1) := by decide +kernel
theorem dX12_looks_138 : decode cX12_looks 138 = .ok (.getfield 385, 3) := by decide +kernel
theorem dX12_looks_141 : decode cX12_looks 141 = .ok (.if_icmp .lt 6, 3) := by decide +kernel
theorem dX12_looks_144 : decode cX12_looks 144 = .ok (.goto 19, 3) := by decide +kernel
theorem dX12_looks_147 : decode cX12_looks 147 = .ok (.aload_n 0, 1) := by decide +kernel
theorem dX12_looks_148 : decode cX12_looks 148 = .ok (.iload 5, 2) := by decide +kernel
theorem dX12_looks_150 : decode cX12_looks 150 = .ok (.putfield 385, 3) := by decide +kernel
theorem dX12_looks_153 : decode cX12_looks 153 = .ok (.aload_n 0, 1) := by decide +kernel
theorem dX12_looks_154 : decode cX12_looks 154 = .ok (.iload_n 2, 1) := by decide +kernel
theorem dX12_looks_155 : decode cX12_looks 155 = .ok (.putfield 391, 3) := by decide +kernel
theorem dX12_looks_158 : decode cX12_looks 158 = .ok (.aload_n 0, 1) := by decide +kernel
theorem dX12_looks_159 : decode cX12_looks 159 = .ok (.iload_n 3, 1) := by decide +kernel
theorem dX12_looks_160 : decode cX12_looks 160 = .ok (.putfield 394, 3) := by decide +kernel
theorem dX12_looks_163 : decode cX12_looks 163 = .ok (.iinc 3 1, 3) := by decide +kernel
theorem dX12_looks_166 : decode cX12_looks 166 = .ok (.goto (-128), 3) := by decide +kernel
theorem dX12_looks_169 : decode cX12_looks 169 = .ok (.iinc 2 1, 3) := by decide +kernel
theorem dX12_looks_172 : decode cX12_looks 172 = .ok (.goto (-148), 3) := by decide +kernel
theorem dX12_looks_175 : decode cX12_looks 175 = .ok (.iconst 1, 1) := by decide +kernel
theorem dX12_looks_176 : decode cX12_looks 176 = .ok (.ireturn, 1) := by decide +kernel
theorem dX12_next_0 : decode cX12_next 0 = .ok (.aload_n 0, 1) := by decide +kernel
theorem dX12_next_1 : decode cX12_next 1 = .ok (.iconst 0, 1) := by decide +kernel
theorem dX12_next_2 : decode cX12_next 2 = .ok (.putfield 135, 3) := by decide +kernel
theorem dX12_next_5 : decode cX12_next 5 = .ok (.iload_n 1, 1) := by decide +kernel
theorem dX12_next_6 : decode cX12_next 6 = .ok (.iconst 0, 1) := by decide +kernel
theorem dX12_next_7 : decode cX12_next 7 = .ok (.iconst 2, 1) := by decide +kernel
theorem dX12_next_8 : decode cX12_next 8 = .ok (.invokestatic 250, 3) := by decide +kernel
theorem dX12_next_11 : decode cX12_next 11 = .ok (.ifCond .eq 10, 3) := by decide +kernel
theorem dX12_next_14 : decode cX12_next 14 = .ok (.aload_n 0, 1) := by decide +kernel
theorem dX12_next_15 : decode cX12_next 15 = .ok (.invokevirtual 397, 3) := by decide +kernel
theorem dX12_next_18 : decode cX12_next 18 = .ok (.ifCond .ne 5, 3) := by decide +kernel
theorem dX12_next_21 : decode cX12_next 21 = .ok (.iconst (-1), 1) := by decide +kernel
theorem dX12_next_22 : decode cX12_next 22 = .ok (.ireturn, 1) := by decide +kernel
theorem dX12_next_23 : decode cX12_next 23 = .ok (.iload_n 1, 1) := by decide +kernel
theorem dX12_next_24 : decode cX12_next 24 = .ok (.ifCond .ne 10, 3) := by decide +kernel
theorem dX12_next_27 : decode cX12_next 27 = .ok (.aload_n 0, 1) := by decide +kernel
theorem dX12_next_28 : decode cX12_next 28 = .ok (.getfield 391, 3) := by decide +kernel
theorem dX12_next_31 : decode cX12_next 31 = .ok (.goto 19, 3) := by decide +kernel
theorem dX12_next_34 : decode cX12_next 34 = .ok (.iload_n 1, 1) := by decide +kernel
theorem dX12_next_35 : decode cX12_next 35 = .ok (.iconst 1, 1) := by decide +kernel
theorem dX12_next_36 : decode cX12_next 36 = .ok (.if_icmp .ne 10, 3) := by decide +kernel
theorem dX12_next_39 : decode cX12_next 39 = .ok (.aload_n 0, 1) := by decide +kernel
theorem dX12_next_40 : decode cX12_next 40 = .ok (.getfield 394, 3) := by decide +kernel
theorem dX12_next_43 : decode cX12_next 43 = .ok (.goto 7, 3) := by decide +kernel
theorem dX12_next_46 : decode cX12_next 46 = .ok (.aload_n 0, 1) := by decide +kernel
theorem dX12_next_47 : decode cX12_next 47 = .ok (.getfield 385, 3) := by decide +kernel
theorem dX12_next_50 : decode cX12_next 50 = .ok (.ireturn, 1) := by decide +kernel
theorem dX12_bit_0 : decode cX12_bit 0 = .ok (.iload_n 0, 1) := by decide +kernel
theorem dX12_bit_1 : decode cX12_bit 1 = .ok (.iconst 5, 1) := by decide +kernel
theorem dX12_bit_2 : decode cX12_bit 2 = .ok (.iload_n 1, 1) := by decide +kernel
theorem dX12_bit_3 : decode cX12_bit 3 = .ok (.imul, 1) := by decide +kernel
theorem dX12_bit_4 : decode cX12_bit 4 = .ok (.iload_n 2, 1) := by decide +kernel
theorem dX12_bit_5 : decode cX12_bit 5 = .ok (.iadd, 1) := by decide +kernel
theorem dX12_bit_6 : decode cX12_bit 6 = .ok (.ishr, 1) := by decide +kernel
theorem dX12_bit_7 : decode cX12_bit 7 = .ok (.iconst 1, 1) := by decide +kernel
theorem dX12_bit_8 : decode cX12_bit 8 = .ok (.iand, 1) := by decide +kernel
theorem dX12_bit_9 : decode cX12_bit 9 = .ok (.ireturn, 1) := by decide +kernel
theorem dX12_closes_0 : decode cX12_closes 0 = .ok (.iload_n 1, 1) := by decide +kernel
theorem dX12_closes_1 : decode cX12_closes 1 = .ok (.istore 4, 2) := by decide +kernel
theorem dX12_closes_3 : decode cX12_closes 3 = .ok (.iconst 0, 1) := by decide +kernel
theorem dX12_closes_4 : decode cX12_closes 4 = .ok (.istore 5, 2) := by decide +kernel
theorem dX12_closes_6 : decode cX12_closes 6 = .ok (.iload 5, 2) := by decide +kernel
theorem dX12_closes_8 : decode cX12_closes 8 = .ok (.iconst 5, 1) := by decide +kernel
theorem dX12_closes_9 : decode cX12_closes 9 = .ok (.if_icmp .ge 96, 3) := by decide +kernel
theorem dX12_closes_12 : decode cX12_closes 12 = .ok (.iconst 0, 1) := by decide +kernel
theorem dX12_closes_13 : decode cX12_closes 13 = .ok (.istore 6, 2) := by decide +kernel
theorem dX12_closes_15 : decode cX12_closes 15 = .ok (.iload 6, 2) := by decide +kernel
theorem dX12_closes_17 : decode cX12_closes 17 = .ok (.iconst 5, 1) := by decide +kernel
theorem dX12_closes_18 : decode cX12_closes 18 = .ok (.if_icmp .ge 81, 3) := by decide +kernel
theorem dX12_closes_21 : decode cX12_closes 21 = .ok (.iload 5, 2) := by decide +kernel
theorem dX12_closes_23 : decode cX12_closes 23 = .ok (.iload_n 2, 1) := by decide +kernel
theorem dX12_closes_24 : decode cX12_closes 24 = .ok (.if_icmp .eq 14, 3) := by decide +kernel
theorem dX12_closes_27 : decode cX12_closes 27 = .ok (.iload_n 1, 1) := by decide +kernel
theorem dX12_closes_28 : decode cX12_closes 28 = .ok (.iload 5, 2) := by decide +kernel
theorem dX12_closes_30 : decode cX12_closes 30 = .ok (.iload_n 2, 1) := by decide +kernel
theorem dX12_closes_31 : decode cX12_closes 31 = .ok (.invokestatic 400, 3) := by decide +kernel
theorem dX12_closes_34 : decode cX12_closes 34 = .ok (.iconst 1, 1) := by decide +kernel
theorem dX12_closes_35 : decode cX12_closes 35 = .ok (.if_icmp .ne 7, 3) := by decide +kernel
theorem dX12_closes_38 : decode cX12_closes 38 = .ok (.iconst 1, 1) := by decide +kernel
theorem dX12_closes_39 : decode cX12_closes 39 = .ok (.goto 4, 3) := by decide +kernel
theorem dX12_closes_42 : decode cX12_closes 42 = .ok (.iconst 0, 1) := by decide +kernel
theorem dX12_closes_43 : decode cX12_closes 43 = .ok (.istore 7, 2) := by decide +kernel
theorem dX12_closes_45 : decode cX12_closes 45 = .ok (.iload 6, 2) := by decide +kernel
theorem dX12_closes_47 : decode cX12_closes 47 = .ok (.iload_n 3, 1) := by decide +kernel
theorem dX12_closes_48 : decode cX12_closes 48 = .ok (.if_icmp .eq 14, 3) := by decide +kernel
theorem dX12_closes_51 : decode cX12_closes 51 = .ok (.iload_n 1, 1) := by decide +kernel
theorem dX12_closes_52 : decode cX12_closes 52 = .ok (.iload_n 3, 1) := by decide +kernel
theorem dX12_closes_53 : decode cX12_closes 53 = .ok (.iload 6, 2) := by decide +kernel
theorem dX12_closes_55 : decode cX12_closes 55 = .ok (.invokestatic 400, 3) := by decide +kernel
theorem dX12_closes_58 : decode cX12_closes 58 = .ok (.iconst 1, 1) := by decide +kernel
theorem dX12_closes_59 : decode cX12_closes 59 = .ok (.if_icmp .ne 7, 3) := by decide +kernel
theorem dX12_closes_62 : decode cX12_closes 62 = .ok (.iconst 1, 1) := by decide +kernel
theorem dX12_closes_63 : decode cX12_closes 63 = .ok (.goto 4, 3) := by decide +kernel
theorem dX12_closes_66 : decode cX12_closes 66 = .ok (.iconst 0, 1) := by decide +kernel
theorem dX12_closes_67 : decode cX12_closes 67 = .ok (.istore 8, 2) := by decide +kernel
theorem dX12_closes_69 : decode cX12_closes 69 = .ok (.iload 7, 2) := by decide +kernel
theorem dX12_closes_71 : decode cX12_closes 71 = .ok (.ifCond .eq 22, 3) := by decide +kernel
theorem dX12_closes_74 : decode cX12_closes 74 = .ok (.iload 8, 2) := by decide +kernel
theorem dX12_closes_76 : decode cX12_closes 76 = .ok (.ifCond .eq 17, 3) := by decide +kernel
theorem dX12_closes_79 : decode cX12_closes 79 = .ok (.iload 4, 2) := by decide +kernel
theorem dX12_closes_81 : decode cX12_closes 81 = .ok (.iconst 1, 1) := by decide +kernel
theorem dX12_closes_82 : decode cX12_closes 82 = .ok (.iconst 5, 1) := by decide +kernel
theorem dX12_closes_83 : decode cX12_closes 83 = .ok (.iload 5, 2) := by decide +kernel
theorem dX12_closes_85 : decode cX12_closes 85 = .ok (.imul, 1) := by decide +kernel
theorem dX12_closes_86 : decode cX12_closes 86 = .ok (.iload 6, 2) := by decide +kernel
theorem dX12_closes_88 : decode cX12_closes 88 = .ok (.iadd, 1) := by decide +kernel
theorem dX12_closes_89 : decode cX12_closes 89 = .ok (.ishl, 1) := by decide +kernel
theorem dX12_closes_90 : decode cX12_closes 90 = .ok (.ior, 1) := by decide +kernel
theorem dX12_closes_91 : decode cX12_closes 91 = .ok (.istore 4, 2) := by decide +kernel
theorem dX12_closes_93 : decode cX12_closes 93 = .ok (.iinc 6 1, 3) := by decide +kernel
theorem dX12_closes_96 : decode cX12_closes 96 = .ok (.goto (-81), 3) := by decide +kernel
theorem dX12_closes_99 : decode cX12_closes 99 = .ok (.iinc 5 1, 3) := by decide +kernel
theorem dX12_closes_102 : decode cX12_closes 102 = .ok (.goto (-96), 3) := by decide +kernel
theorem dX12_closes_105 : decode cX12_closes 105 = .ok (.iload 4, 2) := by decide +kernel
theorem dX12_closes_107 : decode cX12_closes 107 = .ok (.ireturn, 1) := by decide +kernel
theorem dX12_needs_0 : decode cX12_needs 0 = .ok (.iload_n 1, 1) := by decide +kernel
theorem dX12_needs_1 : decode cX12_needs 1 = .ok (.ldc_w 403, 3) := by decide +kernel
theorem dX12_needs_4 : decode cX12_needs 4 = .ok (.imul, 1) := by decide +kernel
theorem dX12_needs_5 : decode cX12_needs 5 = .ok (.bipush 7, 2) := by decide +kernel
theorem dX12_needs_7 : decode cX12_needs 7 = .ok (.iushr, 1) := by decide +kernel
theorem dX12_needs_8 : decode cX12_needs 8 = .ok (.sipush 8192, 3) := by decide +kernel
theorem dX12_needs_11 : decode cX12_needs 11 = .ok (.irem, 1) := by decide +kernel
theorem dX12_needs_12 : decode cX12_needs 12 = .ok (.istore_n 2, 1) := by decide +kernel
theorem dX12_needs_13 : decode cX12_needs 13 = .ok (.aload_n 0, 1) := by decide +kernel
theorem dX12_needs_14 : decode cX12_needs 14 = .ok (.getfield 117, 3) := by decide +kernel
theorem dX12_needs_17 : decode cX12_needs 17 = .ok (.iload_n 2, 1) := by decide +kernel
theorem dX12_needs_18 : decode cX12_needs 18 = .ok (.iaload, 1) := by decide +kernel
theorem dX12_needs_19 : decode cX12_needs 19 = .ok (.ifCond .eq 26, 3) := by decide +kernel
theorem dX12_needs_22 : decode cX12_needs 22 = .ok (.aload_n 0, 1) := by decide +kernel
theorem dX12_needs_23 : decode cX12_needs 23 = .ok (.getfield 117, 3) := by decide +kernel
theorem dX12_needs_26 : decode cX12_needs 26 = .ok (.iload_n 2, 1) := by decide +kernel
theorem dX12_needs_27 : decode cX12_needs 27 = .ok (.iaload, 1) := by decide +kernel
theorem dX12_needs_28 : decode cX12_needs 28 = .ok (.iload_n 1, 1) := by decide +kernel
theorem dX12_needs_29 : decode cX12_needs 29 = .ok (.iconst 1, 1) := by decide +kernel
theorem dX12_needs_30 : decode cX12_needs 30 = .ok (.iadd, 1) := by decide +kernel
theorem dX12_needs_31 : decode cX12_needs 31 = .ok (.if_icmp .eq 14, 3) := by decide +kernel
theorem dX12_needs_34 : decode cX12_needs 34 = .ok (.iload_n 2, 1) := by decide +kernel
theorem dX12_needs_35 : decode cX12_needs 35 = .ok (.iconst 1, 1) := by decide +kernel
theorem dX12_needs_36 : decode cX12_needs 36 = .ok (.iadd, 1) := by decide +kernel
theorem dX12_needs_37 : decode cX12_needs 37 = .ok (.sipush 8192, 3) := by decide +kernel
theorem dX12_needs_40 : decode cX12_needs 40 = .ok (.irem, 1) := by decide +kernel
theorem dX12_needs_41 : decode cX12_needs 41 = .ok (.istore_n 2, 1) := by decide +kernel
theorem dX12_needs_42 : decode cX12_needs 42 = .ok (.goto (-29), 3) := by decide +kernel
theorem dX12_needs_45 : decode cX12_needs 45 = .ok (.aload_n 0, 1) := by decide +kernel
theorem dX12_needs_46 : decode cX12_needs 46 = .ok (.getfield 117, 3) := by decide +kernel
theorem dX12_needs_49 : decode cX12_needs 49 = .ok (.iload_n 2, 1) := by decide +kernel
theorem dX12_needs_50 : decode cX12_needs 50 = .ok (.iaload, 1) := by decide +kernel
theorem dX12_needs_51 : decode cX12_needs 51 = .ok (.ifCond .eq 10, 3) := by decide +kernel
theorem dX12_needs_54 : decode cX12_needs 54 = .ok (.aload_n 0, 1) := by decide +kernel
theorem dX12_needs_55 : decode cX12_needs 55 = .ok (.getfield 120, 3) := by decide +kernel
theorem dX12_needs_58 : decode cX12_needs 58 = .ok (.iload_n 2, 1) := by decide +kernel
theorem dX12_needs_59 : decode cX12_needs 59 = .ok (.iaload, 1) := by decide +kernel
theorem dX12_needs_60 : decode cX12_needs 60 = .ok (.ireturn, 1) := by decide +kernel
theorem dX12_needs_61 : decode cX12_needs 61 = .ok (.bipush 100, 2) := by decide +kernel
theorem dX12_needs_63 : decode cX12_needs 63 = .ok (.istore_n 3, 1) := by decide +kernel
theorem dX12_needs_64 : decode cX12_needs 64 = .ok (.iconst 0, 1) := by decide +kernel
theorem dX12_needs_65 : decode cX12_needs 65 = .ok (.istore 4, 2) := by decide +kernel
theorem dX12_needs_67 : decode cX12_needs 67 = .ok (.iconst 0, 1) := by decide +kernel
theorem dX12_needs_68 : decode cX12_needs 68 = .ok (.istore 5, 2) := by decide +kernel
theorem dX12_needs_70 : decode cX12_needs 70 = .ok (.iload 5, 2) := by decide +kernel
theorem dX12_needs_72 : decode cX12_needs 72 = .ok (.aload_n 0, 1) := by decide +kernel
theorem dX12_needs_73 : decode cX12_needs 73 = .ok (.getfield 13, 3) := by decide +kernel
theorem dX12_needs_76 : decode cX12_needs 76 = .ok (.iconst 0, 1) := by decide +kernel
theorem dX12_needs_77 : decode cX12_needs 77 = .ok (.iaload, 1) := by decide +kernel
theorem dX12_needs_78 : decode cX12_needs 78 = .ok (.if_icmp .ge 114, 3) := by decide +kernel
theorem dX12_needs_81 : decode cX12_needs 81 = .ok (.iload 5, 2) := by decide +kernel
theorem dX12_needs_83 : decode cX12_needs 83 = .ok (.iconst 1, 1) := by decide +kernel
theorem dX12_needs_84 : decode cX12_needs 84 = .ok (.iadd, 1) := by decide +kernel
theorem dX12_needs_85 : decode cX12_needs 85 = .ok (.istore 6, 2) := by decide +kernel
theorem dX12_needs_87 : decode cX12_needs 87 = .ok (.iload 6, 2) := by decide +kernel
theorem dX12_needs_89 : decode cX12_needs 89 = .ok (.aload_n 0, 1) := by decide +kernel
theorem dX12_needs_90 : decode cX12_needs 90 = .ok (.getfield 13, 3) := by decide +kernel
theorem dX12_needs_93 : decode cX12_needs 93 = .ok (.iconst 0, 1) := by decide +kernel
theorem dX12_needs_94 : decode cX12_needs 94 = .ok (.iaload, 1) := by decide +kernel
theorem dX12_needs_95 : decode cX12_needs 95 = .ok (.if_icmp .ge 91, 3) := by decide +kernel
theorem dX12_needs_98 : decode cX12_needs 98 = .ok (.iload_n 1, 1) := by decide +kernel
theorem dX12_needs_99 : decode cX12_needs 99 = .ok (.iload 5, 2) := by decide +kernel
theorem dX12_needs_101 : decode cX12_needs 101 = .ok (.iload 6, 2) := by decide +kernel
theorem dX12_needs_103 : decode cX12_needs 103 = .ok (.invokestatic 400, 3) := by decide +kernel
theorem dX12_needs_106 : decode cX12_needs 106 = .ok (.iload_n 1, 1) := by decide +kernel
theorem dX12_needs_107 : decode cX12_needs 107 = .ok (.iload 6, 2) := by decide +kernel
theorem dX12_needs_109 : decode cX12_needs 109 = .ok (.iload 5, 2) := by decide +kernel
theorem dX12_needs_111 : decode cX12_needs 111 = .ok (.invokestatic 400, 3) := by decide +kernel
theorem dX12_needs_114 : decode cX12_needs 114 = .ok (.iadd, 1) := by decide +kernel
theorem dX12_needs_115 : decode cX12_needs 115 = .ok (.ifCond .le 6, 3) := by decide +kernel
theorem dX12_needs_118 : decode cX12_needs 118 = .ok (.goto 62, 3) := by decide +kernel
theorem dX12_needs_121 : decode cX12_needs 121 = .ok (.iconst 1, 1) := by decide +kernel
theorem dX12_needs_122 : decode cX12_needs 122 = .ok (.istore 4, 2) := by decide +kernel
theorem dX12_needs_124 : decode cX12_needs 124 = .ok (.aload_n 0, 1) := by decide +kernel
theorem dX12_needs_125 : decode cX12_needs 125 = .ok (.aload_n 0, 1) := by decide +kernel
theorem dX12_needs_126 : decode cX12_needs 126 = .ok (.iload_n 1, 1) := by decide +kernel
theorem dX12_needs_127 : decode cX12_needs 127 = .ok (.iload 5, 2) := by decide +kernel
theorem dX12_needs_129 : decode cX12_needs 129 = .ok (.iload 6, 2) := by decide +kernel
theorem dX12_needs_131 : decode cX12_needs 131 = .ok (.invokevirtual 404, 3) := by decide +kernel
theorem dX12_needs_134 : decode cX12_needs 134 = .ok (.invokevirtual 407, 3) := by decide +kernel
theorem dX12_needs_137 : decode cX12_needs 137 = .ok (.istore 7, 2) := by decide +kernel
theorem dX12_needs_139 : decode cX12_needs 139 = .ok (.iload 7, 2) := by decide +kernel
theorem dX12_needs_141 : decode cX12_needs 141 = .ok (.iconst 1, 1) := by decide +kernel
theorem dX12_needs_142 : decode cX12_needs 142 = .ok (.iadd, 1) := by decide +kernel
theorem dX12_needs_143 : decode cX12_needs 143 = .ok (.iload_n 3, 1) := by decide +kernel
theorem dX12_needs_144 : decode cX12_needs 144 = .ok (.if_icmp .lt 7, 3) := by decide +kernel
theorem dX12_needs_147 : decode cX12_needs 147 = .ok (.iload_n 3, 1) := by decide +kernel
theorem dX12_needs_148 : decode cX12_needs 148 = .ok (.goto 23, 3) := by decide +kernel
theorem dX12_needs_151 : decode cX12_needs 151 = .ok (.iconst 1, 1) := by decide +kernel
theorem dX12_needs_152 : decode cX12_needs 152 = .ok (.iload 7, 2) := by decide +kernel
theorem dX12_needs_154 : decode cX12_needs 154 = .ok (.aload_n 0, 1) := by decide +kernel
theorem dX12_needs_155 : decode cX12_needs 155 = .ok (.aload_n 0, 1) := by decide +kernel
theorem dX12_needs_156 : decode cX12_needs 156 = .ok (.iload_n 1, 1) := by decide +kernel
theorem dX12_needs_157 : decode cX12_needs 157 = .ok (.iload 6, 2) := by decide +kernel
theorem dX12_needs_159 : decode cX12_needs 159 = .ok (.iload 5, 2) := by decide +kernel
theorem dX12_needs_161 : decode cX12_needs 161 = .ok (.invokevirtual 404, 3) := by decide +kernel
theorem dX12_needs_164 : decode cX12_needs 164 = .ok (.invokevirtual 407, 3) := by decide +kernel
theorem dX12_needs_167 : decode cX12_needs 167 = .ok (.invokestatic 388, 3) := by decide +kernel
theorem dX12_needs_170 : decode cX12_needs 170 = .ok (.iadd, 1) := by decide +kernel
theorem dX12_needs_171 : decode cX12_needs 171 = .ok (.istore 8, 2) := by decide +kernel
theorem dX12_needs_173 : decode cX12_needs 173 = .ok (.iload_n 3, 1) := by decide +kernel
theorem dX12_needs_174 : decode cX12_needs 174 = .ok (.iload 8, 2) := by decide +kernel
theorem dX12_needs_176 : decode cX12_needs 176 = .ok (.invokestatic 357, 3) := by decide +kernel
theorem dX12_needs_179 : decode cX12_needs 179 = .ok (.istore_n 3, 1) := by decide +kernel
theorem dX12_needs_180 : decode cX12_needs 180 = .ok (.iinc 6 1, 3) := by decide +kernel
theorem dX12_needs_183 : decode cX12_needs 183 = .ok (.goto (-96), 3) := by decide +kernel
theorem dX12_needs_186 : decode cX12_needs 186 = .ok (.iinc 5 1, 3) := by decide +kernel
theorem dX12_needs_189 : decode cX12_needs 189 = .ok (.goto (-119), 3) := by decide +kernel
theorem dX12_needs_192 : decode cX12_needs 192 = .ok (.iload 4, 2) := by decide +kernel
theorem dX12_needs_194 : decode cX12_needs 194 = .ok (.ifCond .eq 7, 3) := by decide +kernel
theorem dX12_needs_197 : decode cX12_needs 197 = .ok (.iload_n 3, 1) := by decide +kernel
theorem dX12_needs_198 : decode cX12_needs 198 = .ok (.goto 4, 3) := by decide +kernel
theorem dX12_needs_201 : decode cX12_needs 201 = .ok (.iconst 0, 1) := by decide +kernel
theorem dX12_needs_202 : decode cX12_needs 202 = .ok (.istore_n 3, 1) := by decide +kernel
theorem dX12_needs_203 : decode cX12_needs 203 = .ok (.iload_n 1, 1) := by decide +kernel
theorem dX12_needs_204 : decode cX12_needs 204 = .ok (.ldc_w 403, 3) := by decide +kernel
theorem dX12_needs_207 : decode cX12_needs 207 = .ok (.imul, 1) := by decide +kernel
theorem dX12_needs_208 : decode cX12_needs 208 = .ok (.bipush 7, 2) := by decide +kernel
theorem dX12_needs_210 : decode cX12_needs 210 = .ok (.iushr, 1) := by decide +kernel
theorem dX12_needs_211 : decode cX12_needs 211 = .ok (.sipush 8192, 3) := by decide +kernel
theorem dX12_needs_214 : decode cX12_needs 214 = .ok (.irem, 1) := by decide +kernel
theorem dX12_needs_215 : decode cX12_needs 215 = .ok (.istore_n 2, 1) := by decide +kernel
theorem dX12_needs_216 : decode cX12_needs 216 = .ok (.aload_n 0, 1) := by decide +kernel
theorem dX12_needs_217 : decode cX12_needs 217 = .ok (.getfield 117, 3) := by decide +kernel
theorem dX12_needs_220 : decode cX12_needs 220 = .ok (.iload_n 2, 1) := by decide +kernel
theorem dX12_needs_221 : decode cX12_needs 221 = .ok (.iaload, 1) := by decide +kernel
theorem dX12_needs_222 : decode cX12_needs 222 = .ok (.ifCond .eq 14, 3) := by decide +kernel
theorem dX12_needs_225 : decode cX12_needs 225 = .ok (.iload_n 2, 1) := by decide +kernel
theorem dX12_needs_226 : decode cX12_needs 226 = .ok (.iconst 1, 1) := by decide +kernel
theorem dX12_needs_227 : decode cX12_needs 227 = .ok (.iadd, 1) := by decide +kernel
theorem dX12_needs_228 : decode cX12_needs 228 = .ok (.sipush 8192, 3) := by decide +kernel
theorem dX12_needs_231 : decode cX12_needs 231 = .ok (.irem, 1) := by decide +kernel
theorem dX12_needs_232 : decode cX12_needs 232 = .ok (.istore_n 2, 1) := by decide +kernel
theorem dX12_needs_233 : decode cX12_needs 233 = .ok (.goto (-17), 3) := by decide +kernel
theorem dX12_needs_236 : decode cX12_needs 236 = .ok (.aload_n 0, 1) := by decide +kernel
theorem dX12_needs_237 : decode cX12_needs 237 = .ok (.getfield 117, 3) := by decide +kernel
theorem dX12_needs_240 : decode cX12_needs 240 = .ok (.iload_n 2, 1) := by decide +kernel
theorem dX12_needs_241 : decode cX12_needs 241 = .ok (.iload_n 1, 1) := by decide +kernel
theorem dX12_needs_242 : decode cX12_needs 242 = .ok (.iconst 1, 1) := by decide +kernel
theorem dX12_needs_243 : decode cX12_needs 243 = .ok (.iadd, 1) := by decide +kernel
theorem dX12_needs_244 : decode cX12_needs 244 = .ok (.iastore, 1) := by decide +kernel
theorem dX12_needs_245 : decode cX12_needs 245 = .ok (.aload_n 0, 1) := by decide +kernel
theorem dX12_needs_246 : decode cX12_needs 246 = .ok (.getfield 120, 3) := by decide +kernel
theorem dX12_needs_249 : decode cX12_needs 249 = .ok (.iload_n 2, 1) := by decide +kernel
theorem dX12_needs_250 : decode cX12_needs 250 = .ok (.iload_n 3, 1) := by decide +kernel
theorem dX12_needs_251 : decode cX12_needs 251 = .ok (.iastore, 1) := by decide +kernel
theorem dX12_needs_252 : decode cX12_needs 252 = .ok (.iload_n 3, 1) := by decide +kernel
theorem dX12_needs_253 : decode cX12_needs 253 = .ok (.ireturn, 1) := by decide +kernel
theorem dX12_needed_0 : decode cX12_needed 0 = .ok (.aload_n 0, 1) := by decide +kernel
theorem dX12_needed_1 : decode cX12_needed 1 = .ok (.iconst 0, 1) := by decide +kernel
theorem dX12_needed_2 : decode cX12_needed 2 = .ok (.putfield 135, 3) := by decide +kernel
theorem dX12_needed_5 : decode cX12_needed 5 = .ok (.aload_n 0, 1) := by decide +kernel
theorem dX12_needed_6 : decode cX12_needed 6 = .ok (.getfield 13, 3) := by decide +kernel
theorem dX12_needed_9 : decode cX12_needed 9 = .ok (.iconst 0, 1) := by decide +kernel
theorem dX12_needed_10 : decode cX12_needed 10 = .ok (.iaload, 1) := by decide +kernel
theorem dX12_needed_11 : decode cX12_needed 11 = .ok (.iconst 5, 1) := by decide +kernel
theorem dX12_needed_12 : decode cX12_needed 12 = .ok (.if_icmp .gt 10, 3) := by decide +kernel
theorem dX12_needed_15 : decode cX12_needed 15 = .ok (.aload_n 0, 1) := by decide +kernel
theorem dX12_needed_16 : decode cX12_needed 16 = .ok (.invokevirtual 347, 3) := by decide +kernel
theorem dX12_needed_19 : decode cX12_needed 19 = .ok (.ifCond .ne 5, 3) := by decide +kernel
theorem dX12_needed_22 : decode cX12_needed 22 = .ok (.iconst (-1), 1) := by decide +kernel
theorem dX12_needed_23 : decode cX12_needed 23 = .ok (.ireturn, 1) := by decide +kernel
theorem dX12_needed_24 : decode cX12_needed 24 = .ok (.iconst 0, 1) := by decide +kernel
theorem dX12_needed_25 : decode cX12_needed 25 = .ok (.istore_n 1, 1) := by decide +kernel
theorem dX12_needed_26 : decode cX12_needed 26 = .ok (.iload_n 1, 1) := by decide +kernel
theorem dX12_needed_27 : decode cX12_needed 27 = .ok (.sipush 8192, 3) := by decide +kernel
theorem dX12_needed_30 : decode cX12_needed 30 = .ok (.if_icmp .ge 16, 3) := by decide +kernel
theorem dX12_needed_33 : decode cX12_needed 33 = .ok (.aload_n 0, 1) := by decide +kernel
theorem dX12_needed_34 : decode cX12_needed 34 = .ok (.getfield 117, 3) := by decide +kernel
theorem dX12_needed_37 : decode cX12_needed 37 = .ok (.iload_n 1, 1) := by decide +kernel
theorem dX12_needed_38 : decode cX12_needed 38 = .ok (.iconst 0, 1) := by decide +kernel
theorem dX12_needed_39 : decode cX12_needed 39 = .ok (.iastore, 1) := by decide +kernel
theorem dX12_needed_40 : decode cX12_needed 40 = .ok (.iinc 1 1, 3) := by decide +kernel
theorem dX12_needed_43 : decode cX12_needed 43 = .ok (.goto (-17), 3) := by decide +kernel
theorem dX12_needed_46 : decode cX12_needed 46 = .ok (.iconst 0, 1) := by decide +kernel
theorem dX12_needed_47 : decode cX12_needed 47 = .ok (.istore_n 1, 1) := by decide +kernel
theorem dX12_needed_48 : decode cX12_needed 48 = .ok (.iconst 0, 1) := by decide +kernel
theorem dX12_needed_49 : decode cX12_needed 49 = .ok (.istore_n 2, 1) := by decide +kernel
theorem dX12_needed_50 : decode cX12_needed 50 = .ok (.iload_n 2, 1) := by decide +kernel
theorem dX12_needed_51 : decode cX12_needed 51 = .ok (.aload_n 0, 1) := by decide +kernel
theorem dX12_needed_52 : decode cX12_needed 52 = .ok (.getfield 13, 3) := by decide +kernel
theorem dX12_needed_55 : decode cX12_needed 55 = .ok (.iconst 0, 1) := by decide +kernel
theorem dX12_needed_56 : decode cX12_needed 56 = .ok (.iaload, 1) := by decide +kernel
theorem dX12_needed_57 : decode cX12_needed 57 = .ok (.if_icmp .ge 55, 3) := by decide +kernel
theorem dX12_needed_60 : decode cX12_needed 60 = .ok (.iconst 0, 1) := by decide +kernel
theorem dX12_needed_61 : decode cX12_needed 61 = .ok (.istore_n 3, 1) := by decide +kernel
theorem dX12_needed_62 : decode cX12_needed 62 = .ok (.iload_n 3, 1) := by decide +kernel
theorem dX12_needed_63 : decode cX12_needed 63 = .ok (.aload_n 0, 1) := by decide +kernel
theorem dX12_needed_64 : decode cX12_needed 64 = .ok (.getfield 13, 3) := by decide +kernel
theorem dX12_needed_67 : decode cX12_needed 67 = .ok (.iconst 0, 1) := by decide +kernel
theorem dX12_needed_68 : decode cX12_needed 68 = .ok (.iaload, 1) := by decide +kernel
theorem dX12_needed_69 : decode cX12_needed 69 = .ok (.if_icmp .ge 37, 3) := by decide +kernel
theorem dX12_needed_72 : decode cX12_needed 72 = .ok (.iload_n 1, 1) := by decide +kernel
theorem dX12_needed_73 : decode cX12_needed 73 = .ok (.aload_n 0, 1) := by decide +kernel
theorem dX12_needed_74 : decode cX12_needed 74 = .ok (.getfield 105, 3) := by decide +kernel
theorem dX12_needed_77 : decode cX12_needed 77 = .ok (.iload_n 2, 1) := by decide +kernel
theorem dX12_needed_78 : decode cX12_needed 78 = .ok (.iaload, 1) := by decide +kernel
theorem dX12_needed_79 : decode cX12_needed 79 = .ok (.iload_n 3, 1) := by decide +kernel
theorem dX12_needed_80 : decode cX12_needed 80 = .ok (.ishr, 1) := by decide +kernel
theorem dX12_needed_81 : decode cX12_needed 81 = .ok (.iconst 1, 1) := by decide +kernel
theorem dX12_needed_82 : decode cX12_needed 82 = .ok (.iand, 1) := by decide +kernel
theorem dX12_needed_83 : decode cX12_needed 83 = .ok (.iconst 1, 1) := by decide +kernel
theorem dX12_needed_84 : decode cX12_needed 84 = .ok (.if_icmp .ne 13, 3) := by decide +kernel
theorem dX12_needed_87 : decode cX12_needed 87 = .ok (.iconst 1, 1) := by decide +kernel
theorem dX12_needed_88 : decode cX12_needed 88 = .ok (.iconst 5, 1) := by decide +kernel
theorem dX12_needed_89 : decode cX12_needed 89 = .ok (.iload_n 3, 1) := by decide +kernel
theorem dX12_needed_90 : decode cX12_needed 90 = .ok (.imul, 1) := by decide +kernel
theorem dX12_needed_91 : decode cX12_needed 91 = .ok (.iload_n 2, 1) := by decide +kernel
theorem dX12_needed_92 : decode cX12_needed 92 = .ok (.iadd, 1) := by decide +kernel
theorem dX12_needed_93 : decode cX12_needed 93 = .ok (.ishl, 1) := by decide +kernel
theorem dX12_needed_94 : decode cX12_needed 94 = .ok (.goto 4, 3) := by decide +kernel
theorem dX12_needed_97 : decode cX12_needed 97 = .ok (.iconst 0, 1) := by decide +kernel
theorem dX12_needed_98 : decode cX12_needed 98 = .ok (.ior, 1) := by decide +kernel
theorem dX12_needed_99 : decode cX12_needed 99 = .ok (.istore_n 1, 1) := by decide +kernel
theorem dX12_needed_100 : decode cX12_needed 100 = .ok (.iinc 3 1, 3) := by decide +kernel
theorem dX12_needed_103 : decode cX12_needed 103 = .ok (.goto (-41), 3) := by decide +kernel
theorem dX12_needed_106 : decode cX12_needed 106 = .ok (.iinc 2 1, 3) := by decide +kernel
theorem dX12_needed_109 : decode cX12_needed 109 = .ok (.goto (-59), 3) := by decide +kernel
theorem dX12_needed_112 : decode cX12_needed 112 = .ok (.aload_n 0, 1) := by decide +kernel
theorem dX12_needed_113 : decode cX12_needed 113 = .ok (.iload_n 1, 1) := by decide +kernel
theorem dX12_needed_114 : decode cX12_needed 114 = .ok (.invokevirtual 407, 3) := by decide +kernel
theorem dX12_needed_117 : decode cX12_needed 117 = .ok (.ireturn, 1) := by decide +kernel
theorem dX12_newOne_0 : decode cX12_newOne 0 = .ok (.aload_n 0, 1) := by decide +kernel
theorem dX12_newOne_1 : decode cX12_newOne 1 = .ok (.iconst 0, 1) := by decide +kernel
theorem dX12_newOne_2 : decode cX12_newOne 2 = .ok (.putfield 135, 3) := by decide +kernel
theorem dX12_newOne_5 : decode cX12_newOne 5 = .ok (.aload_n 0, 1) := by decide +kernel
theorem dX12_newOne_6 : decode cX12_newOne 6 = .ok (.iload_n 1, 1) := by decide +kernel
theorem dX12_newOne_7 : decode cX12_newOne 7 = .ok (.invokevirtual 329, 3) := by decide +kernel
theorem dX12_newOne_10 : decode cX12_newOne 10 = .ok (.ifCond .ne 5, 3) := by decide +kernel
theorem dX12_newOne_13 : decode cX12_newOne 13 = .ok (.iconst (-1), 1) := by decide +kernel
theorem dX12_newOne_14 : decode cX12_newOne 14 = .ok (.ireturn, 1) := by decide +kernel
theorem dX12_newOne_15 : decode cX12_newOne 15 = .ok (.aload_n 0, 1) := by decide +kernel
theorem dX12_newOne_16 : decode cX12_newOne 16 = .ok (.invokevirtual 338, 3) := by decide +kernel
theorem dX12_newOne_19 : decode cX12_newOne 19 = .ok (.iconst 1, 1) := by decide +kernel
theorem dX12_newOne_20 : decode cX12_newOne 20 = .ok (.iload_n 1, 1) := by decide +kernel
theorem dX12_newOne_21 : decode cX12_newOne 21 = .ok (.ishl, 1) := by decide +kernel
theorem dX12_newOne_22 : decode cX12_newOne 22 = .ok (.iconst (-1), 1) := by decide +kernel
theorem dX12_newOne_23 : decode cX12_newOne 23 = .ok (.ixor, 1) := by decide +kernel
theorem dX12_newOne_24 : decode cX12_newOne 24 = .ok (.iand, 1) := by decide +kernel
theorem dX12_newOne_25 : decode cX12_newOne 25 = .ok (.istore_n 2, 1) := by decide +kernel
theorem dX12_newOne_26 : decode cX12_newOne 26 = .ok (.aload_n 0, 1) := by decide +kernel
theorem dX12_newOne_27 : decode cX12_newOne 27 = .ok (.iload_n 1, 1) := by decide +kernel
theorem dX12_newOne_28 : decode cX12_newOne 28 = .ok (.invokevirtual 335, 3) := by decide +kernel
theorem dX12_newOne_31 : decode cX12_newOne 31 = .ok (.aload_n 0, 1) := by decide +kernel
theorem dX12_newOne_32 : decode cX12_newOne 32 = .ok (.iload_n 2, 1) := by decide +kernel
theorem dX12_newOne_33 : decode cX12_newOne 33 = .ok (.invokevirtual 341, 3) := by decide +kernel
theorem dX12_newOne_36 : decode cX12_newOne 36 = .ok (.iconst 1, 1) := by decide +kernel
theorem dX12_newOne_37 : decode cX12_newOne 37 = .ok (.if_icmp .eq 5, 3) := by decide +kernel
theorem dX12_newOne_40 : decode cX12_newOne 40 = .ok (.iconst (-1), 1) := by decide +kernel
theorem dX12_newOne_41 : decode cX12_newOne 41 = .ok (.ireturn, 1) := by decide +kernel
theorem dX12_newOne_42 : decode cX12_newOne 42 = .ok (.iload_n 2, 1) := by decide +kernel
theorem dX12_newOne_43 : decode cX12_newOne 43 = .ok (.istore_n 3, 1) := by decide +kernel
theorem dX12_newOne_44 : decode cX12_newOne 44 = .ok (.iconst 0, 1) := by decide +kernel
theorem dX12_newOne_45 : decode cX12_newOne 45 = .ok (.istore 4, 2) := by decide +kernel
theorem dX12_newOne_47 : decode cX12_newOne 47 = .ok (.iconst 1, 1) := by decide +kernel
theorem dX12_newOne_48 : decode cX12_newOne 48 = .ok (.istore 5, 2) := by decide +kernel
theorem dX12_newOne_50 : decode cX12_newOne 50 = .ok (.iconst 0, 1) := by decide +kernel
theorem dX12_newOne_51 : decode cX12_newOne 51 = .ok (.istore 6, 2) := by decide +kernel
theorem dX12_newOne_53 : decode cX12_newOne 53 = .ok (.iload 6, 2) := by decide +kernel
theorem dX12_newOne_55 : decode cX12_newOne 55 = .ok (.aload_n 0, 1) := by decide +kernel
theorem dX12_newOne_56 : decode cX12_newOne 56 = .ok (.getfield 90, 3) := by decide +kernel
theorem dX12_newOne_59 : decode cX12_newOne 59 = .ok (.iconst 0, 1) := by decide +kernel
theorem dX12_newOne_60 : decode cX12_newOne 60 = .ok (.iaload, 1) := by decide +kernel
theorem dX12_newOne_61 : decode cX12_newOne 61 = .ok (.if_icmp .ge 94, 3) := by decide +kernel
theorem dX12_newOne_64 : decode cX12_newOne 64 = .ok (.aload_n 0, 1) := by decide +kernel
theorem dX12_newOne_65 : decode cX12_newOne 65 = .ok (.getfield 90, 3) := by decide +kernel
theorem dX12_newOne_68 : decode cX12_newOne 68 = .ok (.iconst 1, 1) := by decide +kernel
theorem dX12_newOne_69 : decode cX12_newOne 69 = .ok (.iload 6, 2) := by decide +kernel
theorem dX12_newOne_71 : decode cX12_newOne 71 = .ok (.iadd, 1) := by decide +kernel
theorem dX12_newOne_72 : decode cX12_newOne 72 = .ok (.iaload, 1) := by decide +kernel
theorem dX12_newOne_73 : decode cX12_newOne 73 = .ok (.iload_n 1, 1) := by decide +kernel
theorem dX12_newOne_74 : decode cX12_newOne 74 = .ok (.if_icmp .ne 32, 3) := by decide +kernel
theorem dX12_newOne_77 : decode cX12_newOne 77 = .ok (.iload 5, 2) := by decide +kernel
theorem dX12_newOne_79 : decode cX12_newOne 79 = .ok (.ifCond .eq 24, 3) := by decide +kernel
theorem dX12_newOne_82 : decode cX12_newOne 82 = .ok (.iload_n 3, 1) := by decide +kernel
theorem dX12_newOne_83 : decode cX12_newOne 83 = .ok (.aload_n 0, 1) := by decide +kernel
theorem dX12_newOne_84 : decode cX12_newOne 84 = .ok (.getfield 90, 3) := by decide +kernel
theorem dX12_newOne_87 : decode cX12_newOne 87 = .ok (.bipush 41, 2) := by decide +kernel
theorem dX12_newOne_89 : decode cX12_newOne 89 = .ok (.iload 6, 2) := by decide +kernel
theorem dX12_newOne_91 : decode cX12_newOne 91 = .ok (.iadd, 1) := by decide +kernel
theorem dX12_newOne_92 : decode cX12_newOne 92 = .ok (.iaload, 1) := by decide +kernel
theorem dX12_newOne_93 : decode cX12_newOne 93 = .ok (.ishr, 1) := by decide +kernel
theorem dX12_newOne_94 : decode cX12_newOne 94 = .ok (.iconst 1, 1) := by decide +kernel
theorem dX12_newOne_95 : decode cX12_newOne 95 = .ok (.iand, 1) := by decide +kernel
theorem dX12_newOne_96 : decode cX12_newOne 96 = .ok (.ifCond .ne 7, 3) := by decide +kernel
theorem dX12_newOne_99 : decode cX12_newOne 99 = .ok (.iconst 1, 1) := by decide +kernel
theorem dX12_newOne_100 : decode cX12_newOne 100 = .ok (.goto 4, 3) := by decide +kernel
theorem dX12_newOne_103 : decode cX12_newOne 103 = .ok (.iconst 0, 1) := by decide +kernel
theorem dX12_newOne_104 : decode cX12_newOne 104 = .ok (.istore 5, 2) := by decide +kernel
theorem dX12_newOne_106 : decode cX12_newOne 106 = .ok (.aload_n 0, 1) := by decide +kernel
theorem dX12_newOne_107 : decode cX12_newOne 107 = .ok (.getfield 90, 3) := by decide +kernel
theorem dX12_newOne_110 : decode cX12_newOne 110 = .ok (.bipush 41, 2) := by decide +kernel
theorem dX12_newOne_112 : decode cX12_newOne 112 = .ok (.iload 6, 2) := by decide +kernel
theorem dX12_newOne_114 : decode cX12_newOne 114 = .ok (.iadd, 1) := by decide +kernel
theorem dX12_newOne_115 : decode cX12_newOne 115 = .ok (.iaload, 1) := by decide +kernel
theorem dX12_newOne_116 : decode cX12_newOne 116 = .ok (.iload_n 1, 1) := by decide +kernel
theorem dX12_newOne_117 : decode cX12_newOne 117 = .ok (.if_icmp .ne 32, 3) := by decide +kernel
theorem dX12_newOne_120 : decode cX12_newOne 120 = .ok (.iload 5, 2) := by decide +kernel
theorem dX12_newOne_122 : decode cX12_newOne 122 = .ok (.ifCond .eq 24, 3) := by decide +kernel
theorem dX12_newOne_125 : decode cX12_newOne 125 = .ok (.iload_n 3, 1) := by decide +kernel
theorem dX12_newOne_126 : decode cX12_newOne 126 = .ok (.aload_n 0, 1) := by decide +kernel
theorem dX12_newOne_127 : decode cX12_newOne 127 = .ok (.getfield 90, 3) := by decide +kernel
theorem dX12_newOne_130 : decode cX12_newOne 130 = .ok (.iconst 1, 1) := by decide +kernel
theorem dX12_newOne_131 : decode cX12_newOne 131 = .ok (.iload 6, 2) := by decide +kernel
theorem dX12_newOne_133 : decode cX12_newOne 133 = .ok (.iadd, 1) := by decide +kernel
theorem dX12_newOne_134 : decode cX12_newOne 134 = .ok (.iaload, 1) := by decide +kernel
theorem dX12_newOne_135 : decode cX12_newOne 135 = .ok (.ishr, 1) := by decide +kernel
theorem dX12_newOne_136 : decode cX12_newOne 136 = .ok (.iconst 1, 1) := by decide +kernel
theorem dX12_newOne_137 : decode cX12_newOne 137 = .ok (.iand, 1) := by decide +kernel
theorem dX12_newOne_138 : decode cX12_newOne 138 = .ok (.iconst 1, 1) := by decide +kernel
theorem dX12_newOne_139 : decode cX12_newOne 139 = .ok (.if_icmp .ne 7, 3) := by decide +kernel
theorem dX12_newOne_142 : decode cX12_newOne 142 = .ok (.iconst 1, 1) := by decide +kernel
theorem dX12_newOne_143 : decode cX12_newOne 143 = .ok (.goto 4, 3) := by decide +kernel
theorem dX12_newOne_146 : decode cX12_newOne 146 = .ok (.iconst 0, 1) := by decide +kernel
theorem dX12_newOne_147 : decode cX12_newOne 147 = .ok (.istore 5, 2) := by decide +kernel
theorem dX12_newOne_149 : decode cX12_newOne 149 = .ok (.iinc 6 1, 3) := by decide +kernel
theorem dX12_newOne_152 : decode cX12_newOne 152 = .ok (.goto (-99), 3) := by decide +kernel
theorem dX12_newOne_155 : decode cX12_newOne 155 = .ok (.iload 4, 2) := by decide +kernel
theorem dX12_newOne_157 : decode cX12_newOne 157 = .ok (.iload 5, 2) := by decide +kernel
theorem dX12_newOne_159 : decode cX12_newOne 159 = .ok (.ifCond .eq 7, 3) := by decide +kernel
theorem dX12_newOne_162 : decode cX12_newOne 162 = .ok (.iconst 1, 1) := by decide +kernel
theorem dX12_newOne_163 : decode cX12_newOne 163 = .ok (.goto 4, 3) := by decide +kernel
theorem dX12_newOne_166 : decode cX12_newOne 166 = .ok (.iconst 0, 1) := by decide +kernel
theorem dX12_newOne_167 : decode cX12_newOne 167 = .ok (.iadd, 1) := by decide +kernel
theorem dX12_newOne_168 : decode cX12_newOne 168 = .ok (.istore 4, 2) := by decide +kernel
theorem dX12_newOne_170 : decode cX12_newOne 170 = .ok (.iload_n 3, 1) := by decide +kernel
theorem dX12_newOne_171 : decode cX12_newOne 171 = .ok (.ifCond .ne 6, 3) := by decide +kernel
theorem dX12_newOne_174 : decode cX12_newOne 174 = .ok (.goto 76, 3) := by decide +kernel
theorem dX12_newOne_177 : decode cX12_newOne 177 = .ok (.iconst 0, 1) := by decide +kernel
theorem dX12_newOne_178 : decode cX12_newOne 178 = .ok (.istore 6, 2) := by decide +kernel
theorem dX12_newOne_180 : decode cX12_newOne 180 = .ok (.iload_n 3, 1) := by decide +kernel
theorem dX12_newOne_181 : decode cX12_newOne 181 = .ok (.iload 6, 2) := by decide +kernel
theorem dX12_newOne_183 : decode cX12_newOne 183 = .ok (.ishr, 1) := by decide +kernel
theorem dX12_newOne_184 : decode cX12_newOne 184 = .ok (.iconst 1, 1) := by decide +kernel
theorem dX12_newOne_185 : decode cX12_newOne 185 = .ok (.iand, 1) := by decide +kernel
theorem dX12_newOne_186 : decode cX12_newOne 186 = .ok (.ifCond .eq 46, 3) := by decide +kernel
theorem dX12_newOne_189 : decode cX12_newOne 189 = .ok (.aload_n 0, 1) := by decide +kernel
theorem dX12_newOne_190 : decode cX12_newOne 190 = .ok (.getfield 102, 3) := by decide +kernel
theorem dX12_newOne_193 : decode cX12_newOne 193 = .ok (.iload_n 3, 1) := by decide +kernel
theorem dX12_newOne_194 : decode cX12_newOne 194 = .ok (.iconst 1, 1) := by decide +kernel
theorem dX12_newOne_195 : decode cX12_newOne 195 = .ok (.iload 6, 2) := by decide +kernel
theorem dX12_newOne_197 : decode cX12_newOne 197 = .ok (.ishl, 1) := by decide +kernel
theorem dX12_newOne_198 : decode cX12_newOne 198 = .ok (.iconst (-1), 1) := by decide +kernel
theorem dX12_newOne_199 : decode cX12_newOne 199 = .ok (.ixor, 1) := by decide +kernel
theorem dX12_newOne_200 : decode cX12_newOne 200 = .ok (.iand, 1) := by decide +kernel
theorem dX12_newOne_201 : decode cX12_newOne 201 = .ok (.iaload, 1) := by decide +kernel
theorem dX12_newOne_202 : decode cX12_newOne 202 = .ok (.ifCond .eq 30, 3) := by decide +kernel
theorem dX12_newOne_205 : decode cX12_newOne 205 = .ok (.aload_n 0, 1) := by decide +kernel
theorem dX12_newOne_206 : decode cX12_newOne 206 = .ok (.getfield 99, 3) := by decide +kernel
theorem dX12_newOne_209 : decode cX12_newOne 209 = .ok (.iload 6, 2) := by decide +kernel
theorem dX12_newOne_211 : decode cX12_newOne 211 = .ok (.iaload, 1) := by decide +kernel
theorem dX12_newOne_212 : decode cX12_newOne 212 = .ok (.iload_n 2, 1) := by decide +kernel
theorem dX12_newOne_213 : decode cX12_newOne 213 = .ok (.iand, 1) := by decide +kernel
theorem dX12_newOne_214 : decode cX12_newOne 214 = .ok (.iload_n 3, 1) := by decide +kernel
theorem dX12_newOne_215 : decode cX12_newOne 215 = .ok (.iconst (-1), 1) := by decide +kernel
theorem dX12_newOne_216 : decode cX12_newOne 216 = .ok (.ixor, 1) := by decide +kernel
theorem dX12_newOne_217 : decode cX12_newOne 217 = .ok (.iand, 1) := by decide +kernel
theorem dX12_newOne_218 : decode cX12_newOne 218 = .ok (.ifCond .ne 14, 3) := by decide +kernel
theorem dX12_newOne_221 : decode cX12_newOne 221 = .ok (.aload_n 0, 1) := by decide +kernel
theorem dX12_newOne_222 : decode cX12_newOne 222 = .ok (.iload 6, 2) := by decide +kernel
theorem dX12_newOne_224 : decode cX12_newOne 224 = .ok (.iload_n 3, 1) := by decide +kernel
theorem dX12_newOne_225 : decode cX12_newOne 225 = .ok (.iload_n 2, 1) := by decide +kernel
theorem dX12_newOne_226 : decode cX12_newOne 226 = .ok (.invokevirtual 410, 3) := by decide +kernel
theorem dX12_newOne_229 : decode cX12_newOne 229 = .ok (.ifCond .ne 9, 3) := by decide +kernel
theorem dX12_newOne_232 : decode cX12_newOne 232 = .ok (.iinc 6 1, 3) := by decide +kernel
theorem dX12_newOne_235 : decode cX12_newOne 235 = .ok (.goto (-55), 3) := by decide +kernel
theorem dX12_newOne_238 : decode cX12_newOne 238 = .ok (.iload_n 3, 1) := by decide +kernel
theorem dX12_newOne_239 : decode cX12_newOne 239 = .ok (.iconst 1, 1) := by decide +kernel
theorem dX12_newOne_240 : decode cX12_newOne 240 = .ok (.iload 6, 2) := by decide +kernel
theorem dX12_newOne_242 : decode cX12_newOne 242 = .ok (.ishl, 1) := by decide +kernel
theorem dX12_newOne_243 : decode cX12_newOne 243 = .ok (.iconst (-1), 1) := by decide +kernel
theorem dX12_newOne_244 : decode cX12_newOne 244 = .ok (.ixor, 1) := by decide +kernel
theorem dX12_newOne_245 : decode cX12_newOne 245 = .ok (.iand, 1) := by decide +kernel
theorem dX12_newOne_246 : decode cX12_newOne 246 = .ok (.istore_n 3, 1) := by decide +kernel
theorem dX12_newOne_247 : decode cX12_newOne 247 = .ok (.goto (-200), 3) := by decide +kernel
theorem dX12_newOne_250 : decode cX12_newOne 250 = .ok (.iload 4, 2) := by decide +kernel
theorem dX12_newOne_252 : decode cX12_newOne 252 = .ok (.ifCond .ne 5, 3) := by decide +kernel
theorem dX12_newOne_255 : decode cX12_newOne 255 = .ok (.iconst (-1), 1) := by decide +kernel
theorem dX12_newOne_256 : decode cX12_newOne 256 = .ok (.ireturn, 1) := by decide +kernel
theorem dX12_newOne_257 : decode cX12_newOne 257 = .ok (.iconst 0, 1) := by decide +kernel
theorem dX12_newOne_258 : decode cX12_newOne 258 = .ok (.istore 5, 2) := by decide +kernel
theorem dX12_newOne_260 : decode cX12_newOne 260 = .ok (.iconst 1, 1) := by decide +kernel
theorem dX12_newOne_261 : decode cX12_newOne 261 = .ok (.iload 5, 2) := by decide +kernel
theorem dX12_newOne_263 : decode cX12_newOne 263 = .ok (.ishl, 1) := by decide +kernel
theorem dX12_newOne_264 : decode cX12_newOne 264 = .ok (.iload 4, 2) := by decide +kernel
theorem dX12_newOne_266 : decode cX12_newOne 266 = .ok (.if_icmp .ge 9, 3) := by decide +kernel
theorem dX12_newOne_269 : decode cX12_newOne 269 = .ok (.iinc 5 1, 3) := by decide +kernel
theorem dX12_newOne_272 : decode cX12_newOne 272 = .ok (.goto (-12), 3) := by decide +kernel
theorem dX12_newOne_275 : decode cX12_newOne 275 = .ok (.iload 5, 2) := by decide +kernel
theorem dX12_newOne_277 : decode cX12_newOne 277 = .ok (.ireturn, 1) := by decide +kernel
theorem dX12_isLast_0 : decode cX12_isLast 0 = .ok (.aload_n 0, 1) := by decide +kernel
theorem dX12_isLast_1 : decode cX12_isLast 1 = .ok (.getfield 99, 3) := by decide +kernel
theorem dX12_isLast_4 : decode cX12_isLast 4 = .ok (.iload_n 1, 1) := by decide +kernel
theorem dX12_isLast_5 : decode cX12_isLast 5 = .ok (.iaload, 1) := by decide +kernel
theorem dX12_isLast_6 : decode cX12_isLast 6 = .ok (.iload_n 3, 1) := by decide +kernel
theorem dX12_isLast_7 : decode cX12_isLast 7 = .ok (.iand, 1) := by decide +kernel
theorem dX12_isLast_8 : decode cX12_isLast 8 = .ok (.iload_n 2, 1) := by decide +kernel
theorem dX12_isLast_9 : decode cX12_isLast 9 = .ok (.iconst 1, 1) := by decide +kernel
theorem dX12_isLast_10 : decode cX12_isLast 10 = .ok (.iload_n 1, 1) := by decide +kernel
theorem dX12_isLast_11 : decode cX12_isLast 11 = .ok (.ishl, 1) := by decide +kernel
theorem dX12_isLast_12 : decode cX12_isLast 12 = .ok (.iconst (-1), 1) := by decide +kernel
theorem dX12_isLast_13 : decode cX12_isLast 13 = .ok (.ixor, 1) := by decide +kernel
theorem dX12_isLast_14 : decode cX12_isLast 14 = .ok (.iand, 1) := by decide +kernel
theorem dX12_isLast_15 : decode cX12_isLast 15 = .ok (.iconst (-1), 1) := by decide +kernel
theorem dX12_isLast_16 : decode cX12_isLast 16 = .ok (.ixor, 1) := by decide +kernel
theorem dX12_isLast_17 : decode cX12_isLast 17 = .ok (.iand, 1) := by decide +kernel
theorem dX12_isLast_18 : decode cX12_isLast 18 = .ok (.ifCond .ne 7, 3) := by decide +kernel
theorem dX12_isLast_21 : decode cX12_isLast 21 = .ok (.iconst 1, 1) := by decide +kernel
theorem dX12_isLast_22 : decode cX12_isLast 22 = .ok (.goto 4, 3) := by decide +kernel
theorem dX12_isLast_25 : decode cX12_isLast 25 = .ok (.iconst 0, 1) := by decide +kernel
theorem dX12_isLast_26 : decode cX12_isLast 26 = .ok (.ireturn, 1) := by decide +kernel
theorem dX12_sit_0 : decode cX12_sit 0 = .ok (.aload_n 0, 1) := by decide +kernel
theorem dX12_sit_1 : decode cX12_sit 1 = .ok (.iconst 0, 1) := by decide +kernel
theorem dX12_sit_2 : decode cX12_sit 2 = .ok (.putfield 135, 3) := by decide +kernel
theorem dX12_sit_5 : decode cX12_sit 5 = .ok (.aload_n 0, 1) := by decide +kernel
theorem dX12_sit_6 : decode cX12_sit 6 = .ok (.iload_n 1, 1) := by decide +kernel
theorem dX12_sit_7 : decode cX12_sit 7 = .ok (.invokevirtual 329, 3) := by decide +kernel
theorem dX12_sit_10 : decode cX12_sit 10 = .ok (.ifCond .eq 31, 3) := by decide +kernel
theorem dX12_sit_13 : decode cX12_sit 13 = .ok (.iload_n 2, 1) := by decide +kernel
theorem dX12_sit_14 : decode cX12_sit 14 = .ok (.iconst (-1), 1) := by decide +kernel
theorem dX12_sit_15 : decode cX12_sit 15 = .ok (.if_icmp .eq 11, 3) := by decide +kernel
theorem dX12_sit_18 : decode cX12_sit 18 = .ok (.aload_n 0, 1) := by decide +kernel
theorem dX12_sit_19 : decode cX12_sit 19 = .ok (.iload_n 2, 1) := by decide +kernel
theorem dX12_sit_20 : decode cX12_sit 20 = .ok (.invokevirtual 413, 3) := by decide +kernel
theorem dX12_sit_23 : decode cX12_sit 23 = .ok (.ifCond .eq 18, 3) := by decide +kernel
theorem dX12_sit_26 : decode cX12_sit 26 = .ok (.aload_n 0, 1) := by decide +kernel
theorem dX12_sit_27 : decode cX12_sit 27 = .ok (.getfield 90, 3) := by decide +kernel
theorem dX12_sit_30 : decode cX12_sit 30 = .ok (.bipush 121, 2) := by decide +kernel
theorem dX12_sit_32 : decode cX12_sit 32 = .ok (.iload_n 1, 1) := by decide +kernel
theorem dX12_sit_33 : decode cX12_sit 33 = .ok (.iadd, 1) := by decide +kernel
theorem dX12_sit_34 : decode cX12_sit 34 = .ok (.iaload, 1) := by decide +kernel
theorem dX12_sit_35 : decode cX12_sit 35 = .ok (.iconst 1, 1) := by decide +kernel
theorem dX12_sit_36 : decode cX12_sit 36 = .ok (.isub, 1) := by decide +kernel
theorem dX12_sit_37 : decode cX12_sit 37 = .ok (.iload_n 2, 1) := by decide +kernel
theorem dX12_sit_38 : decode cX12_sit 38 = .ok (.if_icmp .ne 5, 3) := by decide +kernel
theorem dX12_sit_41 : decode cX12_sit 41 = .ok (.iconst 0, 1) := by decide +kernel
theorem dX12_sit_42 : decode cX12_sit 42 = .ok (.ireturn, 1) := by decide +kernel
theorem dX12_sit_43 : decode cX12_sit 43 = .ok (.iconst 0, 1) := by decide +kernel
theorem dX12_sit_44 : decode cX12_sit 44 = .ok (.istore_n 3, 1) := by decide +kernel
theorem dX12_sit_45 : decode cX12_sit 45 = .ok (.iload_n 3, 1) := by decide +kernel
theorem dX12_sit_46 : decode cX12_sit 46 = .ok (.aload_n 0, 1) := by decide +kernel
theorem dX12_sit_47 : decode cX12_sit 47 = .ok (.getfield 13, 3) := by decide +kernel
theorem dX12_sit_50 : decode cX12_sit 50 = .ok (.iconst 0, 1) := by decide +kernel
theorem dX12_sit_51 : decode cX12_sit 51 = .ok (.iaload, 1) := by decide +kernel
theorem dX12_sit_52 : decode cX12_sit 52 = .ok (.if_icmp .ge 30, 3) := by decide +kernel
theorem dX12_sit_55 : decode cX12_sit 55 = .ok (.iload_n 2, 1) := by decide +kernel
theorem dX12_sit_56 : decode cX12_sit 56 = .ok (.ifCond .lt 26, 3) := by decide +kernel
theorem dX12_sit_59 : decode cX12_sit 59 = .ok (.aload_n 0, 1) := by decide +kernel
theorem dX12_sit_60 : decode cX12_sit 60 = .ok (.getfield 90, 3) := by decide +kernel
theorem dX12_sit_63 : decode cX12_sit 63 = .ok (.bipush 121, 2) := by decide +kernel
theorem dX12_sit_65 : decode cX12_sit 65 = .ok (.iload_n 3, 1) := by decide +kernel
theorem dX12_sit_66 : decode cX12_sit 66 = .ok (.iadd, 1) := by decide +kernel
theorem dX12_sit_67 : decode cX12_sit 67 = .ok (.iaload, 1) := by decide +kernel
theorem dX12_sit_68 : decode cX12_sit 68 = .ok (.iconst 1, 1) := by decide +kernel
theorem dX12_sit_69 : decode cX12_sit 69 = .ok (.isub, 1) := by decide +kernel
theorem dX12_sit_70 : decode cX12_sit 70 = .ok (.iload_n 2, 1) := by decide +kernel
theorem dX12_sit_71 : decode cX12_sit 71 = .ok (.if_icmp .ne 5, 3) := by decide +kernel
theorem dX12_sit_74 : decode cX12_sit 74 = .ok (.iconst 0, 1) := by decide +kernel
theorem dX12_sit_75 : decode cX12_sit 75 = .ok (.ireturn, 1) := by decide +kernel
theorem dX12_sit_76 : decode cX12_sit 76 = .ok (.iinc 3 1, 3) := by decide +kernel
theorem dX12_sit_79 : decode cX12_sit 79 = .ok (.goto (-34), 3) := by decide +kernel
theorem dX12_sit_82 : decode cX12_sit 82 = .ok (.aload_n 0, 1) := by decide +kernel
theorem dX12_sit_83 : decode cX12_sit 83 = .ok (.getfield 90, 3) := by decide +kernel
theorem dX12_sit_86 : decode cX12_sit 86 = .ok (.bipush 121, 2) := by decide +kernel
theorem dX12_sit_88 : decode cX12_sit 88 = .ok (.iload_n 1, 1) := by decide +kernel
theorem dX12_sit_89 : decode cX12_sit 89 = .ok (.iadd, 1) := by decide +kernel
theorem dX12_sit_90 : decode cX12_sit 90 = .ok (.iconst 1, 1) := by decide +kernel
theorem dX12_sit_91 : decode cX12_sit 91 = .ok (.iload_n 2, 1) := by decide +kernel
theorem dX12_sit_92 : decode cX12_sit 92 = .ok (.iadd, 1) := by decide +kernel
theorem dX12_sit_93 : decode cX12_sit 93 = .ok (.iastore, 1) := by decide +kernel
theorem dX12_sit_94 : decode cX12_sit 94 = .ok (.iconst 1, 1) := by decide +kernel
theorem dX12_sit_95 : decode cX12_sit 95 = .ok (.ireturn, 1) := by decide +kernel
theorem dX12_plan_0 : decode cX12_plan 0 = .ok (.aload_n 0, 1) := by decide +kernel
theorem dX12_plan_1 : decode cX12_plan 1 = .ok (.iconst 0, 1) := by decide +kernel
theorem dX12_plan_2 : decode cX12_plan 2 = .ok (.putfield 135, 3) := by decide +kernel
theorem dX12_plan_5 : decode cX12_plan 5 = .ok (.aload_n 0, 1) := by decide +kernel
theorem dX12_plan_6 : decode cX12_plan 6 = .ok (.iload_n 1, 1) := by decide +kernel
theorem dX12_plan_7 : decode cX12_plan 7 = .ok (.invokevirtual 329, 3) := by decide +kernel
theorem dX12_plan_10 : decode cX12_plan 10 = .ok (.ifCond .eq 16, 3) := by decide +kernel
theorem dX12_plan_13 : decode cX12_plan 13 = .ok (.iload_n 2, 1) := by decide +kernel
theorem dX12_plan_14 : decode cX12_plan 14 = .ok (.iconst (-1), 1) := by decide +kernel
theorem dX12_plan_15 : decode cX12_plan 15 = .ok (.if_icmp .eq 13, 3) := by decide +kernel
theorem dX12_plan_18 : decode cX12_plan 18 = .ok (.aload_n 0, 1) := by decide +kernel
theorem dX12_plan_19 : decode cX12_plan 19 = .ok (.iload_n 2, 1) := by decide +kernel
theorem dX12_plan_20 : decode cX12_plan 20 = .ok (.invokevirtual 413, 3) := by decide +kernel
theorem dX12_plan_23 : decode cX12_plan 23 = .ok (.ifCond .ne 5, 3) := by decide +kernel
theorem dX12_plan_26 : decode cX12_plan 26 = .ok (.iconst 0, 1) := by decide +kernel
theorem dX12_plan_27 : decode cX12_plan 27 = .ok (.ireturn, 1) := by decide +kernel
theorem dX12_plan_28 : decode cX12_plan 28 = .ok (.iconst 0, 1) := by decide +kernel
theorem dX12_plan_29 : decode cX12_plan 29 = .ok (.istore_n 3, 1) := by decide +kernel
theorem dX12_plan_30 : decode cX12_plan 30 = .ok (.iload_n 3, 1) := by decide +kernel
theorem dX12_plan_31 : decode cX12_plan 31 = .ok (.aload_n 0, 1) := by decide +kernel
theorem dX12_plan_32 : decode cX12_plan 32 = .ok (.getfield 13, 3) := by decide +kernel
theorem dX12_plan_35 : decode cX12_plan 35 = .ok (.iconst 0, 1) := by decide +kernel
theorem dX12_plan_36 : decode cX12_plan 36 = .ok (.iaload, 1) := by decide +kernel
theorem dX12_plan_37 : decode cX12_plan 37 = .ok (.if_icmp .ge 36, 3) := by decide +kernel
theorem dX12_plan_40 : decode cX12_plan 40 = .ok (.iload_n 2, 1) := by decide +kernel
theorem dX12_plan_41 : decode cX12_plan 41 = .ok (.ifCond .lt 32, 3) := by decide +kernel
theorem dX12_plan_44 : decode cX12_plan 44 = .ok (.iload_n 3, 1) := by decide +kernel
theorem dX12_plan_45 : decode cX12_plan 45 = .ok (.iload_n 1, 1) := by decide +kernel
theorem dX12_plan_46 : decode cX12_plan 46 = .ok (.if_icmp .eq 21, 3) := by decide +kernel
theorem dX12_plan_49 : decode cX12_plan 49 = .ok (.aload_n 0, 1) := by decide +kernel
theorem dX12_plan_50 : decode cX12_plan 50 = .ok (.getfield 90, 3) := by decide +kernel
theorem dX12_plan_53 : decode cX12_plan 53 = .ok (.sipush 131, 3) := by decide +kernel
theorem dX12_plan_56 : decode cX12_plan 56 = .ok (.iload_n 3, 1) := by decide +kernel
theorem dX12_plan_57 : decode cX12_plan 57 = .ok (.iadd, 1) := by decide +kernel
theorem dX12_plan_58 : decode cX12_plan 58 = .ok (.iaload, 1) := by decide +kernel
theorem dX12_plan_59 : decode cX12_plan 59 = .ok (.iconst 1, 1) := by decide +kernel
theorem dX12_plan_60 : decode cX12_plan 60 = .ok (.isub, 1) := by decide +kernel
theorem dX12_plan_61 : decode cX12_plan 61 = .ok (.iload_n 2, 1) := by decide +kernel
theorem dX12_plan_62 : decode cX12_plan 62 = .ok (.if_icmp .ne 5, 3) := by decide +kernel
theorem dX12_plan_65 : decode cX12_plan 65 = .ok (.iconst 0, 1) := by decide +kernel
theorem dX12_plan_66 : decode cX12_plan 66 = .ok (.ireturn, 1) := by decide +kernel
theorem dX12_plan_67 : decode cX12_plan 67 = .ok (.iinc 3 1, 3) := by decide +kernel
theorem dX12_plan_70 : decode cX12_plan 70 = .ok (.goto (-40), 3) := by decide +kernel
theorem dX12_plan_73 : decode cX12_plan 73 = .ok (.aload_n 0, 1) := by decide +kernel
theorem dX12_plan_74 : decode cX12_plan 74 = .ok (.getfield 90, 3) := by decide +kernel
theorem dX12_plan_77 : decode cX12_plan 77 = .ok (.sipush 131, 3) := by decide +kernel
theorem dX12_plan_80 : decode cX12_plan 80 = .ok (.iload_n 1, 1) := by decide +kernel
theorem dX12_plan_81 : decode cX12_plan 81 = .ok (.iadd, 1) := by decide +kernel
theorem dX12_plan_82 : decode cX12_plan 82 = .ok (.iconst 1, 1) := by decide +kernel
theorem dX12_plan_83 : decode cX12_plan 83 = .ok (.iload_n 2, 1) := by decide +kernel
theorem dX12_plan_84 : decode cX12_plan 84 = .ok (.iadd, 1) := by decide +kernel
theorem dX12_plan_85 : decode cX12_plan 85 = .ok (.iastore, 1) := by decide +kernel
theorem dX12_plan_86 : decode cX12_plan 86 = .ok (.iconst 1, 1) := by decide +kernel
theorem dX12_plan_87 : decode cX12_plan 87 = .ok (.ireturn, 1) := by decide +kernel
theorem dX12_sitter_0 : decode cX12_sitter 0 = .ok (.iconst 0, 1) := by decide +kernel
theorem dX12_sitter_1 : decode cX12_sitter 1 = .ok (.istore_n 2, 1) := by decide +kernel
theorem dX12_sitter_2 : decode cX12_sitter 2 = .ok (.iload_n 2, 1) := by decide +kernel
theorem dX12_sitter_3 : decode cX12_sitter 3 = .ok (.aload_n 0, 1) := by decide +kernel
theorem dX12_sitter_4 : decode cX12_sitter 4 = .ok (.getfield 13, 3) := by decide +kernel
theorem dX12_sitter_7 : decode cX12_sitter 7 = .ok (.iconst 0, 1) := by decide +kernel
theorem dX12_sitter_8 : decode cX12_sitter 8 = .ok (.iaload, 1) := by decide +kernel
theorem dX12_sitter_9 : decode cX12_sitter 9 = .ok (.if_icmp .ge 26, 3) := by decide +kernel
theorem dX12_sitter_12 : decode cX12_sitter 12 = .ok (.aload_n 0, 1) := by decide +kernel
theorem dX12_sitter_13 : decode cX12_sitter 13 = .ok (.getfield 90, 3) := by decide +kernel
theorem dX12_sitter_16 : decode cX12_sitter 16 = .ok (.bipush 121, 2) := by decide +kernel
theorem dX12_sitter_18 : decode cX12_sitter 18 = .ok (.iload_n 2, 1) := by decide +kernel
theorem dX12_sitter_19 : decode cX12_sitter 19 = .ok (.iadd, 1) := by decide +kernel
theorem dX12_sitter_20 : decode cX12_sitter 20 = .ok (.iaload, 1) := by decide +kernel
theorem dX12_sitter_21 : decode cX12_sitter 21 = .ok (.iconst 1, 1) := by decide +kernel
theorem dX12_sitter_22 : decode cX12_sitter 22 = .ok (.isub, 1) := by decide +kernel
theorem dX12_sitter_23 : decode cX12_sitter 23 = .ok (.iload_n 1, 1) := by decide +kernel
theorem dX12_sitter_24 : decode cX12_sitter 24 = .ok (.if_icmp .ne 5, 3) := by decide +kernel
theorem dX12_sitter_27 : decode cX12_sitter 27 = .ok (.iload_n 2, 1) := by decide +kernel
theorem dX12_sitter_28 : decode cX12_sitter 28 = .ok (.ireturn, 1) := by decide +kernel
theorem dX12_sitter_29 : decode cX12_sitter 29 = .ok (.iinc 2 1, 3) := by decide +kernel
theorem dX12_sitter_32 : decode cX12_sitter 32 = .ok (.goto (-30), 3) := by decide +kernel
theorem dX12_sitter_35 : decode cX12_sitter 35 = .ok (.iconst (-1), 1) := by decide +kernel
theorem dX12_sitter_36 : decode cX12_sitter 36 = .ok (.ireturn, 1) := by decide +kernel
theorem dX12_changes_0 : decode cX12_changes 0 = .ok (.aload_n 0, 1) := by decide +kernel
theorem dX12_changes_1 : decode cX12_changes 1 = .ok (.iconst 0, 1) := by decide +kernel
theorem dX12_changes_2 : decode cX12_changes 2 = .ok (.putfield 135, 3) := by decide +kernel
theorem dX12_changes_5 : decode cX12_changes 5 = .ok (.iconst 0, 1) := by decide +kernel
theorem dX12_changes_6 : decode cX12_changes 6 = .ok (.istore_n 1, 1) := by decide +kernel
theorem dX12_changes_7 : decode cX12_changes 7 = .ok (.iload_n 1, 1) := by decide +kernel
theorem dX12_changes_8 : decode cX12_changes 8 = .ok (.aload_n 0, 1) := by decide +kernel
theorem dX12_changes_9 : decode cX12_changes 9 = .ok (.getfield 13, 3) := by decide +kernel
theorem dX12_changes_12 : decode cX12_changes 12 = .ok (.iconst 0, 1) := by decide +kernel
theorem dX12_changes_13 : decode cX12_changes 13 = .ok (.iaload, 1) := by decide +kernel
theorem dX12_changes_14 : decode cX12_changes 14 = .ok (.if_icmp .ge 36, 3) := by decide +kernel
theorem dX12_changes_17 : decode cX12_changes 17 = .ok (.aload_n 0, 1) := by decide +kernel
theorem dX12_changes_18 : decode cX12_changes 18 = .ok (.getfield 90, 3) := by decide +kernel
theorem dX12_changes_21 : decode cX12_changes 21 = .ok (.bipush 121, 2) := by decide +kernel
theorem dX12_changes_23 : decode cX12_changes 23 = .ok (.iload_n 1, 1) := by decide +kernel
theorem dX12_changes_24 : decode cX12_changes 24 = .ok (.iadd, 1) := by decide +kernel
theorem dX12_changes_25 : decode cX12_changes 25 = .ok (.iaload, 1) := by decide +kernel
theorem dX12_changes_26 : decode cX12_changes 26 = .ok (.ifCond .eq 16, 3) := by decide +kernel
theorem dX12_changes_29 : decode cX12_changes 29 = .ok (.aload_n 0, 1) := by decide +kernel
theorem dX12_changes_30 : decode cX12_changes 30 = .ok (.getfield 90, 3) := by decide +kernel
theorem dX12_changes_33 : decode cX12_changes 33 = .ok (.sipush 131, 3) := by decide +kernel
theorem dX12_changes_36 : decode cX12_changes 36 = .ok (.iload_n 1, 1) := by decide +kernel
theorem dX12_changes_37 : decode cX12_changes 37 = .ok (.iadd, 1) := by decide +kernel
theorem dX12_changes_38 : decode cX12_changes 38 = .ok (.iaload, 1) := by decide +kernel
theorem dX12_changes_39 : decode cX12_changes 39 = .ok (.ifCond .ne 5, 3) := by decide +kernel
theorem dX12_changes_42 : decode cX12_changes 42 = .ok (.iconst (-1), 1) := by decide +kernel
theorem dX12_changes_43 : decode cX12_changes 43 = .ok (.ireturn, 1) := by decide +kernel
theorem dX12_changes_44 : decode cX12_changes 44 = .ok (.iinc 1 1, 3) := by decide +kernel
theorem dX12_changes_47 : decode cX12_changes 47 = .ok (.goto (-40), 3) := by decide +kernel
theorem dX12_changes_50 : decode cX12_changes 50 = .ok (.iconst 0, 1) := by decide +kernel
theorem dX12_changes_51 : decode cX12_changes 51 = .ok (.istore_n 1, 1) := by decide +kernel
theorem dX12_changes_52 : decode cX12_changes 52 = .ok (.iconst 0, 1) := by decide +kernel
theorem dX12_changes_53 : decode cX12_changes 53 = .ok (.istore_n 2, 1) := by decide +kernel
theorem dX12_changes_54 : decode cX12_changes 54 = .ok (.iconst 0, 1) := by decide +kernel
theorem dX12_changes_55 : decode cX12_changes 55 = .ok (.istore_n 3, 1) := by decide +kernel
theorem dX12_changes_56 : decode cX12_changes 56 = .ok (.iload_n 3, 1) := by decide +kernel
theorem dX12_changes_57 : decode cX12_changes 57 = .ok (.aload_n 0, 1) := by decide +kernel
theorem dX12_changes_58 : decode cX12_changes 58 = .ok (.getfield 13, 3) := by decide +kernel
theorem dX12_changes_61 : decode cX12_changes 61 = .ok (.iconst 0, 1) := by decide +kernel
theorem dX12_changes_62 : decode cX12_changes 62 = .ok (.iaload, 1) := by decide +kernel
theorem dX12_changes_63 : decode cX12_changes 63 = .ok (.if_icmp .ge 130, 3) := by decide +kernel
theorem dX12_changes_66 : decode cX12_changes 66 = .ok (.aload_n 0, 1) := by decide +kernel
theorem dX12_changes_67 : decode cX12_changes 67 = .ok (.getfield 90, 3) := by decide +kernel
theorem dX12_changes_70 : decode cX12_changes 70 = .ok (.bipush 121, 2) := by decide +kernel
theorem dX12_changes_72 : decode cX12_changes 72 = .ok (.iload_n 3, 1) := by decide +kernel
theorem dX12_changes_73 : decode cX12_changes 73 = .ok (.iadd, 1) := by decide +kernel
theorem dX12_changes_74 : decode cX12_changes 74 = .ok (.iaload, 1) := by decide +kernel
theorem dX12_changes_75 : decode cX12_changes 75 = .ok (.aload_n 0, 1) := by decide +kernel
theorem dX12_changes_76 : decode cX12_changes 76 = .ok (.getfield 90, 3) := by decide +kernel
theorem dX12_changes_79 : decode cX12_changes 79 = .ok (.sipush 131, 3) := by decide +kernel
theorem dX12_changes_82 : decode cX12_changes 82 = .ok (.iload_n 3, 1) := by decide +kernel
theorem dX12_changes_83 : decode cX12_changes 83 = .ok (.iadd, 1) := by decide +kernel
theorem dX12_changes_84 : decode cX12_changes 84 = .ok (.iaload, 1) := by decide +kernel
theorem dX12_changes_85 : decode cX12_changes 85 = .ok (.if_icmp .ne 6, 3) := by decide +kernel
theorem dX12_changes_88 : decode cX12_changes 88 = .ok (.goto 99, 3) := by decide +kernel
theorem dX12_changes_91 : decode cX12_changes 91 = .ok (.iinc 1 1, 3) := by decide +kernel
theorem dX12_changes_94 : decode cX12_changes 94 = .ok (.iload_n 3, 1) := by decide +kernel
theorem dX12_changes_95 : decode cX12_changes 95 = .ok (.istore 4, 2) := by decide +kernel
theorem dX12_changes_97 : decode cX12_changes 97 = .ok (.iload_n 3, 1) := by decide +kernel
theorem dX12_changes_98 : decode cX12_changes 98 = .ok (.istore 5, 2) := by decide +kernel
theorem dX12_changes_100 : decode cX12_changes 100 = .ok (.iconst 0, 1) := by decide +kernel
theorem dX12_changes_101 : decode cX12_changes 101 = .ok (.istore 6, 2) := by decide +kernel
theorem dX12_changes_103 : decode cX12_changes 103 = .ok (.iload 6, 2) := by decide +kernel
theorem dX12_changes_105 : decode cX12_changes 105 = .ok (.aload_n 0, 1) := by decide +kernel
theorem dX12_changes_106 : decode cX12_changes 106 = .ok (.getfield 13, 3) := by decide +kernel
theorem dX12_changes_109 : decode cX12_changes 109 = .ok (.iconst 0, 1) := by decide +kernel
theorem dX12_changes_110 : decode cX12_changes 110 = .ok (.iaload, 1) := by decide +kernel
theorem dX12_changes_111 : decode cX12_changes 111 = .ok (.if_icmp .gt 56, 3) := by decide +kernel
theorem dX12_changes_114 : decode cX12_changes 114 = .ok (.iload 4, 2) := by decide +kernel
theorem dX12_changes_116 : decode cX12_changes 116 = .ok (.ifCond .lt 51, 3) := by decide +kernel
theorem dX12_changes_119 : decode cX12_changes 119 = .ok (.aload_n 0, 1) := by decide +kernel
theorem dX12_changes_120 : decode cX12_changes 120 = .ok (.aload_n 0, 1) := by decide +kernel
theorem dX12_changes_121 : decode cX12_changes 121 = .ok (.getfield 90, 3) := by decide +kernel
theorem dX12_changes_124 : decode cX12_changes 124 = .ok (.sipush 131, 3) := by decide +kernel
theorem dX12_changes_127 : decode cX12_changes 127 = .ok (.iload 4, 2) := by decide +kernel
theorem dX12_changes_129 : decode cX12_changes 129 = .ok (.iadd, 1) := by decide +kernel
theorem dX12_changes_130 : decode cX12_changes 130 = .ok (.iaload, 1) := by decide +kernel
theorem dX12_changes_131 : decode cX12_changes 131 = .ok (.iconst 1, 1) := by decide +kernel
theorem dX12_changes_132 : decode cX12_changes 132 = .ok (.isub, 1) := by decide +kernel
theorem dX12_changes_133 : decode cX12_changes 133 = .ok (.invokevirtual 416, 3) := by decide +kernel
theorem dX12_changes_136 : decode cX12_changes 136 = .ok (.istore 4, 2) := by decide +kernel
theorem dX12_changes_138 : decode cX12_changes 138 = .ok (.iload 4, 2) := by decide +kernel
theorem dX12_changes_140 : decode cX12_changes 140 = .ok (.ifCond .lt 12, 3) := by decide +kernel
theorem dX12_changes_143 : decode cX12_changes 143 = .ok (.iload 5, 2) := by decide +kernel
theorem dX12_changes_145 : decode cX12_changes 145 = .ok (.iload 4, 2) := by decide +kernel
theorem dX12_changes_147 : decode cX12_changes 147 = .ok (.invokestatic 357, 3) := by decide +kernel
theorem dX12_changes_150 : decode cX12_changes 150 = .ok (.istore 5, 2) := by decide +kernel
theorem dX12_changes_152 : decode cX12_changes 152 = .ok (.iload 4, 2) := by decide +kernel
theorem dX12_changes_154 : decode cX12_changes 154 = .ok (.iload_n 3, 1) := by decide +kernel
theorem dX12_changes_155 : decode cX12_changes 155 = .ok (.if_icmp .ne 6, 3) := by decide +kernel
theorem dX12_changes_158 : decode cX12_changes 158 = .ok (.goto 9, 3) := by decide +kernel
theorem dX12_changes_161 : decode cX12_changes 161 = .ok (.iinc 6 1, 3) := by decide +kernel
theorem dX12_changes_164 : decode cX12_changes 164 = .ok (.goto (-61), 3) := by decide +kernel
theorem dX12_changes_167 : decode cX12_changes 167 = .ok (.iload_n 2, 1) := by decide +kernel
theorem dX12_changes_168 : decode cX12_changes 168 = .ok (.iload 4, 2) := by decide +kernel
theorem dX12_changes_170 : decode cX12_changes 170 = .ok (.iload_n 3, 1) := by decide +kernel
theorem dX12_changes_171 : decode cX12_changes 171 = .ok (.if_icmp .ne 13, 3) := by decide +kernel
theorem dX12_changes_174 : decode cX12_changes 174 = .ok (.iload 5, 2) := by decide +kernel
theorem dX12_changes_176 : decode cX12_changes 176 = .ok (.iload_n 3, 1) := by decide +kernel
theorem dX12_changes_177 : decode cX12_changes 177 = .ok (.if_icmp .ne 7, 3) := by decide +kernel
theorem dX12_changes_180 : decode cX12_changes 180 = .ok (.iconst 1, 1) := by decide +kernel
theorem dX12_changes_181 : decode cX12_changes 181 = .ok (.goto 4, 3) := by decide +kernel
theorem dX12_changes_184 : decode cX12_changes 184 = .ok (.iconst 0, 1) := by decide +kernel
theorem dX12_changes_185 : decode cX12_changes 185 = .ok (.iadd, 1) := by decide +kernel
theorem dX12_changes_186 : decode cX12_changes 186 = .ok (.istore_n 2, 1) := by decide +kernel
theorem dX12_changes_187 : decode cX12_changes 187 = .ok (.iinc 3 1, 3) := by decide +kernel
theorem dX12_changes_190 : decode cX12_changes 190 = .ok (.goto (-134), 3) := by decide +kernel
theorem dX12_changes_193 : decode cX12_changes 193 = .ok (.iload_n 1, 1) := by decide +kernel
theorem dX12_changes_194 : decode cX12_changes 194 = .ok (.iload_n 2, 1) := by decide +kernel
theorem dX12_changes_195 : decode cX12_changes 195 = .ok (.isub, 1) := by decide +kernel
theorem dX12_changes_196 : decode cX12_changes 196 = .ok (.ireturn, 1) := by decide +kernel
theorem dX12_hidden_0 : decode cX12_hidden 0 = .ok (.aload_n 0, 1) := by decide +kernel
theorem dX12_hidden_1 : decode cX12_hidden 1 = .ok (.aload_n 0, 1) := by decide +kernel
theorem dX12_hidden_2 : decode cX12_hidden 2 = .ok (.iload_n 1, 1) := by decide +kernel
theorem dX12_hidden_3 : decode cX12_hidden 3 = .ok (.invokevirtual 329, 3) := by decide +kernel
theorem dX12_hidden_6 : decode cX12_hidden 6 = .ok (.ifCond .eq 19, 3) := by decide +kernel
theorem dX12_hidden_9 : decode cX12_hidden 9 = .ok (.aload_n 0, 1) := by decide +kernel
theorem dX12_hidden_10 : decode cX12_hidden 10 = .ok (.getfield 90, 3) := by decide +kernel
theorem dX12_hidden_13 : decode cX12_hidden 13 = .ok (.bipush 121, 2) := by decide +kernel
theorem dX12_hidden_15 : decode cX12_hidden 15 = .ok (.iload_n 1, 1) := by decide +kernel
theorem dX12_hidden_16 : decode cX12_hidden 16 = .ok (.iadd, 1) := by decide +kernel
theorem dX12_hidden_17 : decode cX12_hidden 17 = .ok (.iaload, 1) := by decide +kernel
theorem dX12_hidden_18 : decode cX12_hidden 18 = .ok (.ifCond .le 7, 3) := by decide +kernel
theorem dX12_hidden_21 : decode cX12_hidden 21 = .ok (.iconst 0, 1) := by decide +kernel
theorem dX12_hidden_22 : decode cX12_hidden 22 = .ok (.goto 4, 3) := by decide +kernel
theorem dX12_hidden_25 : decode cX12_hidden 25 = .ok (.iconst 1, 1) := by decide +kernel
theorem dX12_hidden_26 : decode cX12_hidden 26 = .ok (.putfield 135, 3) := by decide +kernel
theorem dX12_hidden_29 : decode cX12_hidden 29 = .ok (.aload_n 0, 1) := by decide +kernel
theorem dX12_hidden_30 : decode cX12_hidden 30 = .ok (.getfield 135, 3) := by decide +kernel
theorem dX12_hidden_33 : decode cX12_hidden 33 = .ok (.iconst 1, 1) := by decide +kernel
theorem dX12_hidden_34 : decode cX12_hidden 34 = .ok (.if_icmp .ne 5, 3) := by decide +kernel
theorem dX12_hidden_37 : decode cX12_hidden 37 = .ok (.iconst 0, 1) := by decide +kernel
theorem dX12_hidden_38 : decode cX12_hidden 38 = .ok (.ireturn, 1) := by decide +kernel
theorem dX12_hidden_39 : decode cX12_hidden 39 = .ok (.aload_n 0, 1) := by decide +kernel
theorem dX12_hidden_40 : decode cX12_hidden 40 = .ok (.getfield 90, 3) := by decide +kernel
theorem dX12_hidden_43 : decode cX12_hidden 43 = .ok (.bipush 121, 2) := by decide +kernel
theorem dX12_hidden_45 : decode cX12_hidden 45 = .ok (.iload_n 1, 1) := by decide +kernel
theorem dX12_hidden_46 : decode cX12_hidden 46 = .ok (.iadd, 1) := by decide +kernel
theorem dX12_hidden_47 : decode cX12_hidden 47 = .ok (.iaload, 1) := by decide +kernel
theorem dX12_hidden_48 : decode cX12_hidden 48 = .ok (.iconst 1, 1) := by decide +kernel
theorem dX12_hidden_49 : decode cX12_hidden 49 = .ok (.isub, 1) := by decide +kernel
theorem dX12_hidden_50 : decode cX12_hidden 50 = .ok (.istore_n 2, 1) := by decide +kernel
theorem dX12_hidden_51 : decode cX12_hidden 51 = .ok (.iconst 0, 1) := by decide +kernel
theorem dX12_hidden_52 : decode cX12_hidden 52 = .ok (.istore_n 3, 1) := by decide +kernel
theorem dX12_hidden_53 : decode cX12_hidden 53 = .ok (.iconst 0, 1) := by decide +kernel
theorem dX12_hidden_54 : decode cX12_hidden 54 = .ok (.istore 4, 2) := by decide +kernel
theorem dX12_hidden_56 : decode cX12_hidden 56 = .ok (.iload 4, 2) := by decide +kernel
theorem dX12_hidden_58 : decode cX12_hidden 58 = .ok (.aload_n 0, 1) := by decide +kernel
theorem dX12_hidden_59 : decode cX12_hidden 59 = .ok (.getfield 13, 3) := by decide +kernel
theorem dX12_hidden_62 : decode cX12_hidden 62 = .ok (.iconst 0, 1) := by decide +kernel
theorem dX12_hidden_63 : decode cX12_hidden 63 = .ok (.iaload, 1) := by decide +kernel
theorem dX12_hidden_64 : decode cX12_hidden 64 = .ok (.if_icmp .ge 82, 3) := by decide +kernel
theorem dX12_hidden_67 : decode cX12_hidden 67 = .ok (.aload_n 0, 1) := by decide +kernel
theorem dX12_hidden_68 : decode cX12_hidden 68 = .ok (.getfield 90, 3) := by decide +kernel
theorem dX12_hidden_71 : decode cX12_hidden 71 = .ok (.bipush 121, 2) := by decide +kernel
theorem dX12_hidden_73 : decode cX12_hidden 73 = .ok (.iload 4, 2) := by decide +kernel
theorem dX12_hidden_75 : decode cX12_hidden 75 = .ok (.iadd, 1) := by decide +kernel
theorem dX12_hidden_76 : decode cX12_hidden 76 = .ok (.iaload, 1) := by decide +kernel
theorem dX12_hidden_77 : decode cX12_hidden 77 = .ok (.iconst 1, 1) := by decide +kernel
theorem dX12_hidden_78 : decode cX12_hidden 78 = .ok (.isub, 1) := by decide +kernel
theorem dX12_hidden_79 : decode cX12_hidden 79 = .ok (.istore 5, 2) := by decide +kernel
theorem dX12_hidden_81 : decode cX12_hidden 81 = .ok (.iload_n 3, 1) := by decide +kernel
theorem dX12_hidden_82 : decode cX12_hidden 82 = .ok (.iload 5, 2) := by decide +kernel
theorem dX12_hidden_84 : decode cX12_hidden 84 = .ok (.ifCond .lt 53, 3) := by decide +kernel
theorem dX12_hidden_87 : decode cX12_hidden 87 = .ok (.iload 5, 2) := by decide +kernel
theorem dX12_hidden_89 : decode cX12_hidden 89 = .ok (.iconst 2, 1) := by decide +kernel
theorem dX12_hidden_90 : decode cX12_hidden 90 = .ok (.irem, 1) := by decide +kernel
theorem dX12_hidden_91 : decode cX12_hidden 91 = .ok (.iload_n 2, 1) := by decide +kernel
theorem dX12_hidden_92 : decode cX12_hidden 92 = .ok (.iconst 2, 1) := by decide +kernel
theorem dX12_hidden_93 : decode cX12_hidden 93 = .ok (.irem, 1) := by decide +kernel
theorem dX12_hidden_94 : decode cX12_hidden 94 = .ok (.if_icmp .ne 43, 3) := by decide +kernel
theorem dX12_hidden_97 : decode cX12_hidden 97 = .ok (.aload_n 0, 1) := by decide +kernel
theorem dX12_hidden_98 : decode cX12_hidden 98 = .ok (.getfield 29, 3) := by decide +kernel
theorem dX12_hidden_101 : decode cX12_hidden 101 = .ok (.iload 4, 2) := by decide +kernel
theorem dX12_hidden_103 : decode cX12_hidden 103 = .ok (.iaload, 1) := by decide +kernel
theorem dX12_hidden_104 : decode cX12_hidden 104 = .ok (.aload_n 0, 1) := by decide +kernel
theorem dX12_hidden_105 : decode cX12_hidden 105 = .ok (.getfield 29, 3) := by decide +kernel
theorem dX12_hidden_108 : decode cX12_hidden 108 = .ok (.iload_n 1, 1) := by decide +kernel
theorem dX12_hidden_109 : decode cX12_hidden 109 = .ok (.iaload, 1) := by decide +kernel
theorem dX12_hidden_110 : decode cX12_hidden 110 = .ok (.if_icmp .le 27, 3) := by decide +kernel
theorem dX12_hidden_113 : decode cX12_hidden 113 = .ok (.aload_n 0, 1) := by decide +kernel
theorem dX12_hidden_114 : decode cX12_hidden 114 = .ok (.getfield 32, 3) := by decide +kernel
theorem dX12_hidden_117 : decode cX12_hidden 117 = .ok (.iload 5, 2) := by decide +kernel
theorem dX12_hidden_119 : decode cX12_hidden 119 = .ok (.iconst 2, 1) := by decide +kernel
theorem dX12_hidden_120 : decode cX12_hidden 120 = .ok (.idiv, 1) := by decide +kernel
theorem dX12_hidden_121 : decode cX12_hidden 121 = .ok (.iaload, 1) := by decide +kernel
theorem dX12_hidden_122 : decode cX12_hidden 122 = .ok (.aload_n 0, 1) := by decide +kernel
theorem dX12_hidden_123 : decode cX12_hidden 123 = .ok (.getfield 32, 3) := by decide +kernel
theorem dX12_hidden_126 : decode cX12_hidden 126 = .ok (.iload_n 2, 1) := by decide +kernel
theorem dX12_hidden_127 : decode cX12_hidden 127 = .ok (.iconst 2, 1) := by decide +kernel
theorem dX12_hidden_128 : decode cX12_hidden 128 = .ok (.idiv, 1) := by decide +kernel
theorem dX12_hidden_129 : decode cX12_hidden 129 = .ok (.iaload, 1) := by decide +kernel
theorem dX12_hidden_130 : decode cX12_hidden 130 = .ok (.if_icmp .ge 7, 3) := by decide +kernel
theorem dX12_hidden_133 : decode cX12_hidden 133 = .ok (.iconst 1, 1) := by decide +kernel
theorem dX12_hidden_134 : decode cX12_hidden 134 = .ok (.goto 4, 3) := by decide +kernel
theorem dX12_hidden_137 : decode cX12_hidden 137 = .ok (.iconst 0, 1) := by decide +kernel
theorem dX12_hidden_138 : decode cX12_hidden 138 = .ok (.iadd, 1) := by decide +kernel
theorem dX12_hidden_139 : decode cX12_hidden 139 = .ok (.istore_n 3, 1) := by decide +kernel
theorem dX12_hidden_140 : decode cX12_hidden 140 = .ok (.iinc 4 1, 3) := by decide +kernel
theorem dX12_hidden_143 : decode cX12_hidden 143 = .ok (.goto (-87), 3) := by decide +kernel
theorem dX12_hidden_146 : decode cX12_hidden 146 = .ok (.iload_n 3, 1) := by decide +kernel
theorem dX12_hidden_147 : decode cX12_hidden 147 = .ok (.ireturn, 1) := by decide +kernel
theorem dX12_wishing_0 : decode cX12_wishing 0 = .ok (.aload_n 0, 1) := by decide +kernel
theorem dX12_wishing_1 : decode cX12_wishing 1 = .ok (.getfield 105, 3) := by decide +kernel
theorem dX12_wishing_4 : decode cX12_wishing 4 = .ok (.iload_n 1, 1) := by decide +kernel
theorem dX12_wishing_5 : decode cX12_wishing 5 = .ok (.iaload, 1) := by decide +kernel
theorem dX12_wishing_6 : decode cX12_wishing 6 = .ok (.iload_n 2, 1) := by decide +kernel
theorem dX12_wishing_7 : decode cX12_wishing 7 = .ok (.ishr, 1) := by decide +kernel
theorem dX12_wishing_8 : decode cX12_wishing 8 = .ok (.iconst 1, 1) := by decide +kernel
theorem dX12_wishing_9 : decode cX12_wishing 9 = .ok (.iand, 1) := by decide +kernel
theorem dX12_wishing_10 : decode cX12_wishing 10 = .ok (.iconst 1, 1) := by decide +kernel
theorem dX12_wishing_11 : decode cX12_wishing 11 = .ok (.if_icmp .ne 7, 3) := by decide +kernel
theorem dX12_wishing_14 : decode cX12_wishing 14 = .ok (.iconst 1, 1) := by decide +kernel
theorem dX12_wishing_15 : decode cX12_wishing 15 = .ok (.goto 4, 3) := by decide +kernel
theorem dX12_wishing_18 : decode cX12_wishing 18 = .ok (.iconst 0, 1) := by decide +kernel
theorem dX12_wishing_19 : decode cX12_wishing 19 = .ok (.istore_n 3, 1) := by decide +kernel
theorem dX12_wishing_20 : decode cX12_wishing 20 = .ok (.aload_n 0, 1) := by decide +kernel
theorem dX12_wishing_21 : decode cX12_wishing 21 = .ok (.getfield 35, 3) := by decide +kernel
theorem dX12_wishing_24 : decode cX12_wishing 24 = .ok (.bipush 10, 2) := by decide +kernel
theorem dX12_wishing_26 : decode cX12_wishing 26 = .ok (.iload_n 1, 1) := by decide +kernel
theorem dX12_wishing_27 : decode cX12_wishing 27 = .ok (.imul, 1) := by decide +kernel
theorem dX12_wishing_28 : decode cX12_wishing 28 = .ok (.iload_n 2, 1) := by decide +kernel
theorem dX12_wishing_29 : decode cX12_wishing 29 = .ok (.iadd, 1) := by decide +kernel
theorem dX12_wishing_30 : decode cX12_wishing 30 = .ok (.iaload, 1) := by decide +kernel
theorem dX12_wishing_31 : decode cX12_wishing 31 = .ok (.istore 4, 2) := by decide +kernel
theorem dX12_wishing_33 : decode cX12_wishing 33 = .ok (.iload 4, 2) := by decide +kernel
theorem dX12_wishing_35 : decode cX12_wishing 35 = .ok (.istore 5, 2) := by decide +kernel
theorem dX12_wishing_37 : decode cX12_wishing 37 = .ok (.aload_n 0, 1) := by decide +kernel
theorem dX12_wishing_38 : decode cX12_wishing 38 = .ok (.getfield 41, 3) := by decide +kernel
theorem dX12_wishing_41 : decode cX12_wishing 41 = .ok (.iconst 0, 1) := by decide +kernel
theorem dX12_wishing_42 : decode cX12_wishing 42 = .ok (.iaload, 1) := by decide +kernel
theorem dX12_wishing_43 : decode cX12_wishing 43 = .ok (.aload_n 0, 1) := by decide +kernel
theorem dX12_wishing_44 : decode cX12_wishing 44 = .ok (.getfield 38, 3) := by decide +kernel
theorem dX12_wishing_47 : decode cX12_wishing 47 = .ok (.iconst 0, 1) := by decide +kernel
theorem dX12_wishing_48 : decode cX12_wishing 48 = .ok (.iaload, 1) := by decide +kernel
theorem dX12_wishing_49 : decode cX12_wishing 49 = .ok (.if_icmp .le 73, 3) := by decide +kernel
theorem dX12_wishing_52 : decode cX12_wishing 52 = .ok (.aload_n 0, 1) := by decide +kernel
theorem dX12_wishing_53 : decode cX12_wishing 53 = .ok (.getfield 87, 3) := by decide +kernel
theorem dX12_wishing_56 : decode cX12_wishing 56 = .ok (.iconst 1, 1) := by decide +kernel
theorem dX12_wishing_57 : decode cX12_wishing 57 = .ok (.iload 4, 2) := by decide +kernel
theorem dX12_wishing_59 : decode cX12_wishing 59 = .ok (.iastore, 1) := by decide +kernel
theorem dX12_wishing_60 : decode cX12_wishing 60 = .ok (.aload_n 0, 1) := by decide +kernel
theorem dX12_wishing_61 : decode cX12_wishing 61 = .ok (.getfield 87, 3) := by decide +kernel
theorem dX12_wishing_64 : decode cX12_wishing 64 = .ok (.iconst 2, 1) := by decide +kernel
theorem dX12_wishing_65 : decode cX12_wishing 65 = .ok (.aload_n 0, 1) := by decide +kernel
theorem dX12_wishing_66 : decode cX12_wishing 66 = .ok (.getfield 29, 3) := by decide +kernel
theorem dX12_wishing_69 : decode cX12_wishing 69 = .ok (.iload_n 1, 1) := by decide +kernel
theorem dX12_wishing_70 : decode cX12_wishing 70 = .ok (.iaload, 1) := by decide +kernel
theorem dX12_wishing_71 : decode cX12_wishing 71 = .ok (.iastore, 1) := by decide +kernel
theorem dX12_wishing_72 : decode cX12_wishing 72 = .ok (.aload_n 0, 1) := by decide +kernel
theorem dX12_wishing_73 : decode cX12_wishing 73 = .ok (.getfield 87, 3) := by decide +kernel
theorem dX12_wishing_76 : decode cX12_wishing 76 = .ok (.iconst 3, 1) := by decide +kernel
theorem dX12_wishing_77 : decode cX12_wishing 77 = .ok (.aload_n 0, 1) := by decide +kernel
theorem dX12_wishing_78 : decode cX12_wishing 78 = .ok (.getfield 29, 3) := by decide +kernel
theorem dX12_wishing_81 : decode cX12_wishing 81 = .ok (.iload_n 2, 1) := by decide +kernel
theorem dX12_wishing_82 : decode cX12_wishing 82 = .ok (.iaload, 1) := by decide +kernel
theorem dX12_wishing_83 : decode cX12_wishing 83 = .ok (.iastore, 1) := by decide +kernel
theorem dX12_wishing_84 : decode cX12_wishing 84 = .ok (.aload_n 0, 1) := by decide +kernel
theorem dX12_wishing_85 : decode cX12_wishing 85 = .ok (.getfield 87, 3) := by decide +kernel
theorem dX12_wishing_88 : decode cX12_wishing 88 = .ok (.iconst 4, 1) := by decide +kernel
theorem dX12_wishing_89 : decode cX12_wishing 89 = .ok (.iload_n 3, 1) := by decide +kernel
theorem dX12_wishing_90 : decode cX12_wishing 90 = .ok (.ifCond .eq 7, 3) := by decide +kernel
theorem dX12_wishing_93 : decode cX12_wishing 93 = .ok (.iconst 1, 1) := by decide +kernel
theorem dX12_wishing_94 : decode cX12_wishing 94 = .ok (.goto 4, 3) := by decide +kernel
theorem dX12_wishing_97 : decode cX12_wishing 97 = .ok (.iconst 0, 1) := by decide +kernel
theorem dX12_wishing_98 : decode cX12_wishing 98 = .ok (.iastore, 1) := by decide +kernel
theorem dX12_wishing_99 : decode cX12_wishing 99 = .ok (.aload_n 0, 1) := by decide +kernel
theorem dX12_wishing_100 : decode cX12_wishing 100 = .ok (.getfield 87, 3) := by decide +kernel
theorem dX12_wishing_103 : decode cX12_wishing 103 = .ok (.iconst 5, 1) := by decide +kernel
theorem dX12_wishing_104 : decode cX12_wishing 104 = .ok (.aload_n 0, 1) := by decide +kernel
theorem dX12_wishing_105 : decode cX12_wishing 105 = .ok (.getfield 105, 3) := by decide +kernel
theorem dX12_wishing_108 : decode cX12_wishing 108 = .ok (.iload_n 2, 1) := by decide +kernel
theorem dX12_wishing_109 : decode cX12_wishing 109 = .ok (.iaload, 1) := by decide +kernel
theorem dX12_wishing_110 : decode cX12_wishing 110 = .ok (.iload_n 1, 1) := by decide +kernel
theorem dX12_wishing_111 : decode cX12_wishing 111 = .ok (.ishr, 1) := by decide +kernel
theorem dX12_wishing_112 : decode cX12_wishing 112 = .ok (.iconst 1, 1) := by decide +kernel
theorem dX12_wishing_113 : decode cX12_wishing 113 = .ok (.iand, 1) := by decide +kernel
theorem dX12_wishing_114 : decode cX12_wishing 114 = .ok (.iastore, 1) := by decide +kernel
theorem dX12_wishing_115 : decode cX12_wishing 115 = .ok (.aload_n 0, 1) := by decide +kernel
theorem dX12_wishing_116 : decode cX12_wishing 116 = .ok (.iconst 0, 1) := by decide +kernel
theorem dX12_wishing_117 : decode cX12_wishing 117 = .ok (.invokevirtual 419, 3) := by decide +kernel
theorem dX12_wishing_120 : decode cX12_wishing 120 = .ok (.istore 5, 2) := by decide +kernel
theorem dX12_wishing_122 : decode cX12_wishing 122 = .ok (.iload 5, 2) := by decide +kernel
theorem dX12_wishing_124 : decode cX12_wishing 124 = .ok (.ifCond .ge 7, 3) := by decide +kernel
theorem dX12_wishing_127 : decode cX12_wishing 127 = .ok (.iconst 0, 1) := by decide +kernel
theorem dX12_wishing_128 : decode cX12_wishing 128 = .ok (.goto 11, 3) := by decide +kernel
theorem dX12_wishing_131 : decode cX12_wishing 131 = .ok (.sipush 999, 3) := by decide +kernel
theorem dX12_wishing_134 : decode cX12_wishing 134 = .ok (.iload 5, 2) := by decide +kernel
theorem dX12_wishing_136 : decode cX12_wishing 136 = .ok (.invokestatic 357, 3) := by decide +kernel
theorem dX12_wishing_139 : decode cX12_wishing 139 = .ok (.istore 5, 2) := by decide +kernel
theorem dX12_wishing_141 : decode cX12_wishing 141 = .ok (.aload_n 0, 1) := by decide +kernel
theorem dX12_wishing_142 : decode cX12_wishing 142 = .ok (.getfield 26, 3) := by decide +kernel
theorem dX12_wishing_145 : decode cX12_wishing 145 = .ok (.iload_n 1, 1) := by decide +kernel
theorem dX12_wishing_146 : decode cX12_wishing 146 = .ok (.iaload, 1) := by decide +kernel
theorem dX12_wishing_147 : decode cX12_wishing 147 = .ok (.iconst 1, 1) := by decide +kernel
theorem dX12_wishing_148 : decode cX12_wishing 148 = .ok (.if_icmp .ne 9, 3) := by decide +kernel
theorem dX12_wishing_151 : decode cX12_wishing 151 = .ok (.iload_n 3, 1) := by decide +kernel
theorem dX12_wishing_152 : decode cX12_wishing 152 = .ok (.ifCond .eq 5, 3) := by decide +kernel
theorem dX12_wishing_155 : decode cX12_wishing 155 = .ok (.iconst 0, 1) := by decide +kernel
theorem dX12_wishing_156 : decode cX12_wishing 156 = .ok (.ireturn, 1) := by decide +kernel
theorem dX12_wishing_157 : decode cX12_wishing 157 = .ok (.iload 5, 2) := by decide +kernel
theorem dX12_wishing_159 : decode cX12_wishing 159 = .ok (.aload_n 0, 1) := by decide +kernel
theorem dX12_wishing_160 : decode cX12_wishing 160 = .ok (.getfield 26, 3) := by decide +kernel
theorem dX12_wishing_163 : decode cX12_wishing 163 = .ok (.iload_n 1, 1) := by decide +kernel
theorem dX12_wishing_164 : decode cX12_wishing 164 = .ok (.iaload, 1) := by decide +kernel
theorem dX12_wishing_165 : decode cX12_wishing 165 = .ok (.iconst 2, 1) := by decide +kernel
theorem dX12_wishing_166 : decode cX12_wishing 166 = .ok (.if_icmp .ne 13, 3) := by decide +kernel
theorem dX12_wishing_169 : decode cX12_wishing 169 = .ok (.iload 4, 2) := by decide +kernel
theorem dX12_wishing_171 : decode cX12_wishing 171 = .ok (.ifCond .le 8, 3) := by decide +kernel
theorem dX12_wishing_174 : decode cX12_wishing 174 = .ok (.bipush 10, 2) := by decide +kernel
theorem dX12_wishing_176 : decode cX12_wishing 176 = .ok (.goto 23, 3) := by decide +kernel
theorem dX12_wishing_179 : decode cX12_wishing 179 = .ok (.aload_n 0, 1) := by decide +kernel
theorem dX12_wishing_180 : decode cX12_wishing 180 = .ok (.getfield 26, 3) := by decide +kernel
theorem dX12_wishing_183 : decode cX12_wishing 183 = .ok (.iload_n 1, 1) := by decide +kernel
theorem dX12_wishing_184 : decode cX12_wishing 184 = .ok (.iaload, 1) := by decide +kernel
theorem dX12_wishing_185 : decode cX12_wishing 185 = .ok (.iconst 4, 1) := by decide +kernel
theorem dX12_wishing_186 : decode cX12_wishing 186 = .ok (.if_icmp .ne 12, 3) := by decide +kernel
theorem dX12_wishing_189 : decode cX12_wishing 189 = .ok (.iload_n 3, 1) := by decide +kernel
theorem dX12_wishing_190 : decode cX12_wishing 190 = .ok (.ifCond .eq 8, 3) := by decide +kernel
theorem dX12_wishing_193 : decode cX12_wishing 193 = .ok (.bipush 20, 2) := by decide +kernel
theorem dX12_wishing_195 : decode cX12_wishing 195 = .ok (.goto 4, 3) := by decide +kernel
theorem dX12_wishing_198 : decode cX12_wishing 198 = .ok (.iconst 0, 1) := by decide +kernel
theorem dX12_wishing_199 : decode cX12_wishing 199 = .ok (.iadd, 1) := by decide +kernel
theorem dX12_wishing_200 : decode cX12_wishing 200 = .ok (.istore 5, 2) := by decide +kernel
theorem dX12_wishing_202 : decode cX12_wishing 202 = .ok (.sipush 999, 3) := by decide +kernel
theorem dX12_wishing_205 : decode cX12_wishing 205 = .ok (.iload 5, 2) := by decide +kernel
theorem dX12_wishing_207 : decode cX12_wishing 207 = .ok (.invokestatic 357, 3) := by decide +kernel
theorem dX12_wishing_210 : decode cX12_wishing 210 = .ok (.ireturn, 1) := by decide +kernel
theorem dX12_wishes_0 : decode cX12_wishes 0 = .ok (.aload_n 0, 1) := by decide +kernel
theorem dX12_wishes_1 : decode cX12_wishes 1 = .ok (.iconst 0, 1) := by decide +kernel
theorem dX12_wishes_2 : decode cX12_wishes 2 = .ok (.putfield 135, 3) := by decide +kernel
theorem dX12_wishes_5 : decode cX12_wishes 5 = .ok (.aload_n 0, 1) := by decide +kernel
theorem dX12_wishes_6 : decode cX12_wishes 6 = .ok (.iload_n 1, 1) := by decide +kernel
theorem dX12_wishes_7 : decode cX12_wishes 7 = .ok (.iload_n 2, 1) := by decide +kernel
theorem dX12_wishes_8 : decode cX12_wishes 8 = .ok (.invokevirtual 332, 3) := by decide +kernel
theorem dX12_wishes_11 : decode cX12_wishes 11 = .ok (.ifCond .ne 5, 3) := by decide +kernel
theorem dX12_wishes_14 : decode cX12_wishes 14 = .ok (.iconst (-1), 1) := by decide +kernel
theorem dX12_wishes_15 : decode cX12_wishes 15 = .ok (.ireturn, 1) := by decide +kernel
theorem dX12_wishes_16 : decode cX12_wishes 16 = .ok (.aload_n 0, 1) := by decide +kernel
theorem dX12_wishes_17 : decode cX12_wishes 17 = .ok (.invokevirtual 347, 3) := by decide +kernel
theorem dX12_wishes_20 : decode cX12_wishes 20 = .ok (.pop, 1) := by decide +kernel
theorem dX12_wishes_21 : decode cX12_wishes 21 = .ok (.aload_n 0, 1) := by decide +kernel
theorem dX12_wishes_22 : decode cX12_wishes 22 = .ok (.iload_n 1, 1) := by decide +kernel
theorem dX12_wishes_23 : decode cX12_wishes 23 = .ok (.iload_n 2, 1) := by decide +kernel
theorem dX12_wishes_24 : decode cX12_wishes 24 = .ok (.invokevirtual 422, 3) := by decide +kernel
theorem dX12_wishes_27 : decode cX12_wishes 27 = .ok (.ireturn, 1) := by decide +kernel
theorem dX12_areAtRest_0 : decode cX12_areAtRest 0 = .ok (.iconst 0, 1) := by decide +kernel
theorem dX12_areAtRest_1 : decode cX12_areAtRest 1 = .ok (.istore_n 1, 1) := by decide +kernel
theorem dX12_areAtRest_2 : decode cX12_areAtRest 2 = .ok (.iload_n 1, 1) := by decide +kernel
theorem dX12_areAtRest_3 : decode cX12_areAtRest 3 = .ok (.aload_n 0, 1) := by decide +kernel
theorem dX12_areAtRest_4 : decode cX12_areAtRest 4 = .ok (.getfield 13, 3) := by decide +kernel
theorem dX12_areAtRest_7 : decode cX12_areAtRest 7 = .ok (.iconst 0, 1) := by decide +kernel
theorem dX12_areAtRest_8 : decode cX12_areAtRest 8 = .ok (.iaload, 1) := by decide +kernel
theorem dX12_areAtRest_9 : decode cX12_areAtRest 9 = .ok (.if_icmp .ge 101, 3) := by decide +kernel
theorem dX12_areAtRest_12 : decode cX12_areAtRest 12 = .ok (.iload_n 1, 1) := by decide +kernel
theorem dX12_areAtRest_13 : decode cX12_areAtRest 13 = .ok (.iconst 1, 1) := by decide +kernel
theorem dX12_areAtRest_14 : decode cX12_areAtRest 14 = .ok (.iadd, 1) := by decide +kernel
theorem dX12_areAtRest_15 : decode cX12_areAtRest 15 = .ok (.istore_n 2, 1) := by decide +kernel
theorem dX12_areAtRest_16 : decode cX12_areAtRest 16 = .ok (.iload_n 2, 1) := by decide +kernel
theorem dX12_areAtRest_17 : decode cX12_areAtRest 17 = .ok (.aload_n 0, 1) := by decide +kernel
theorem dX12_areAtRest_18 : decode cX12_areAtRest 18 = .ok (.getfield 13, 3) := by decide +kernel
theorem dX12_areAtRest_21 : decode cX12_areAtRest 21 = .ok (.iconst 0, 1) := by decide +kernel
theorem dX12_areAtRest_22 : decode cX12_areAtRest 22 = .ok (.iaload, 1) := by decide +kernel
theorem dX12_areAtRest_23 : decode cX12_areAtRest 23 = .ok (.if_icmp .ge 81, 3) := by decide +kernel
theorem dX12_areAtRest_26 : decode cX12_areAtRest 26 = .ok (.aload_n 0, 1) := by decide +kernel
theorem dX12_areAtRest_27 : decode cX12_areAtRest 27 = .ok (.getfield 123, 3) := by decide +kernel
theorem dX12_areAtRest_30 : decode cX12_areAtRest 30 = .ok (.iload_n 1, 1) := by decide +kernel
theorem dX12_areAtRest_31 : decode cX12_areAtRest 31 = .ok (.iaload, 1) := by decide +kernel
theorem dX12_areAtRest_32 : decode cX12_areAtRest 32 = .ok (.iload_n 2, 1) := by decide +kernel
theorem dX12_areAtRest_33 : decode cX12_areAtRest 33 = .ok (.if_icmp .eq 65, 3) := by decide +kernel
theorem dX12_areAtRest_36 : decode cX12_areAtRest 36 = .ok (.aload_n 0, 1) := by decide +kernel
theorem dX12_areAtRest_37 : decode cX12_areAtRest 37 = .ok (.getfield 126, 3) := by decide +kernel
theorem dX12_areAtRest_40 : decode cX12_areAtRest 40 = .ok (.bipush 10, 2) := by decide +kernel
theorem dX12_areAtRest_42 : decode cX12_areAtRest 42 = .ok (.iload_n 1, 1) := by decide +kernel
theorem dX12_areAtRest_43 : decode cX12_areAtRest 43 = .ok (.imul, 1) := by decide +kernel
theorem dX12_areAtRest_44 : decode cX12_areAtRest 44 = .ok (.iload_n 2, 1) := by decide +kernel
theorem dX12_areAtRest_45 : decode cX12_areAtRest 45 = .ok (.iadd, 1) := by decide +kernel
theorem dX12_areAtRest_46 : decode cX12_areAtRest 46 = .ok (.iaload, 1) := by decide +kernel
theorem dX12_areAtRest_47 : decode cX12_areAtRest 47 = .ok (.aload_n 0, 1) := by decide +kernel
theorem dX12_areAtRest_48 : decode cX12_areAtRest 48 = .ok (.getfield 126, 3) := by decide +kernel
theorem dX12_areAtRest_51 : decode cX12_areAtRest 51 = .ok (.bipush 10, 2) := by decide +kernel
theorem dX12_areAtRest_53 : decode cX12_areAtRest 53 = .ok (.iload_n 1, 1) := by decide +kernel
theorem dX12_areAtRest_54 : decode cX12_areAtRest 54 = .ok (.imul, 1) := by decide +kernel
theorem dX12_areAtRest_55 : decode cX12_areAtRest 55 = .ok (.aload_n 0, 1) := by decide +kernel
theorem dX12_areAtRest_56 : decode cX12_areAtRest 56 = .ok (.getfield 123, 3) := by decide +kernel
theorem dX12_areAtRest_59 : decode cX12_areAtRest 59 = .ok (.iload_n 1, 1) := by decide +kernel
theorem dX12_areAtRest_60 : decode cX12_areAtRest 60 = .ok (.iaload, 1) := by decide +kernel
theorem dX12_areAtRest_61 : decode cX12_areAtRest 61 = .ok (.iadd, 1) := by decide +kernel
theorem dX12_areAtRest_62 : decode cX12_areAtRest 62 = .ok (.iaload, 1) := by decide +kernel
theorem dX12_areAtRest_63 : decode cX12_areAtRest 63 = .ok (.if_icmp .le 35, 3) := by decide +kernel
theorem dX12_areAtRest_66 : decode cX12_areAtRest 66 = .ok (.aload_n 0, 1) := by decide +kernel
theorem dX12_areAtRest_67 : decode cX12_areAtRest 67 = .ok (.getfield 126, 3) := by decide +kernel
theorem dX12_areAtRest_70 : decode cX12_areAtRest 70 = .ok (.bipush 10, 2) := by decide +kernel
theorem dX12_areAtRest_72 : decode cX12_areAtRest 72 = .ok (.iload_n 2, 1) := by decide +kernel
theorem dX12_areAtRest_73 : decode cX12_areAtRest 73 = .ok (.imul, 1) := by decide +kernel
theorem dX12_areAtRest_74 : decode cX12_areAtRest 74 = .ok (.iload_n 1, 1) := by decide +kernel
theorem dX12_areAtRest_75 : decode cX12_areAtRest 75 = .ok (.iadd, 1) := by decide +kernel
theorem dX12_areAtRest_76 : decode cX12_areAtRest 76 = .ok (.iaload, 1) := by decide +kernel
theorem dX12_areAtRest_77 : decode cX12_areAtRest 77 = .ok (.aload_n 0, 1) := by decide +kernel
theorem dX12_areAtRest_78 : decode cX12_areAtRest 78 = .ok (.getfield 126, 3) := by decide +kernel
theorem dX12_areAtRest_81 : decode cX12_areAtRest 81 = .ok (.bipush 10, 2) := by decide +kernel
theorem dX12_areAtRest_83 : decode cX12_areAtRest 83 = .ok (.iload_n 2, 1) := by decide +kernel
theorem dX12_areAtRest_84 : decode cX12_areAtRest 84 = .ok (.imul, 1) := by decide +kernel
theorem dX12_areAtRest_85 : decode cX12_areAtRest 85 = .ok (.aload_n 0, 1) := by decide +kernel
theorem dX12_areAtRest_86 : decode cX12_areAtRest 86 = .ok (.getfield 123, 3) := by decide +kernel
theorem dX12_areAtRest_89 : decode cX12_areAtRest 89 = .ok (.iload_n 2, 1) := by decide +kernel
theorem dX12_areAtRest_90 : decode cX12_areAtRest 90 = .ok (.iaload, 1) := by decide +kernel
theorem dX12_areAtRest_91 : decode cX12_areAtRest 91 = .ok (.iadd, 1) := by decide +kernel
theorem dX12_areAtRest_92 : decode cX12_areAtRest 92 = .ok (.iaload, 1) := by decide +kernel
theorem dX12_areAtRest_93 : decode cX12_areAtRest 93 = .ok (.if_icmp .le 5, 3) := by decide +kernel
theorem dX12_areAtRest_96 : decode cX12_areAtRest 96 = .ok (.iconst 0, 1) := by decide +kernel
theorem dX12_areAtRest_97 : decode cX12_areAtRest 97 = .ok (.ireturn, 1) := by decide +kernel
theorem dX12_areAtRest_98 : decode cX12_areAtRest 98 = .ok (.iinc 2 1, 3) := by decide +kernel
theorem dX12_areAtRest_101 : decode cX12_areAtRest 101 = .ok (.goto (-85), 3) := by decide +kernel
theorem dX12_areAtRest_104 : decode cX12_areAtRest 104 = .ok (.iinc 1 1, 3) := by decide +kernel
theorem dX12_areAtRest_107 : decode cX12_areAtRest 107 = .ok (.goto (-105), 3) := by decide +kernel
theorem dX12_areAtRest_110 : decode cX12_areAtRest 110 = .ok (.iconst 1, 1) := by decide +kernel
theorem dX12_areAtRest_111 : decode cX12_areAtRest 111 = .ok (.ireturn, 1) := by decide +kernel
theorem dX12_pairs_0 : decode cX12_pairs 0 = .ok (.iload_n 1, 1) := by decide +kernel
theorem dX12_pairs_1 : decode cX12_pairs 1 = .ok (.ifCond .ne 59, 3) := by decide +kernel
theorem dX12_pairs_4 : decode cX12_pairs 4 = .ok (.aload_n 0, 1) := by decide +kernel
theorem dX12_pairs_5 : decode cX12_pairs 5 = .ok (.invokevirtual 425, 3) := by decide +kernel
theorem dX12_pairs_8 : decode cX12_pairs 8 = .ok (.ifCond .ne 4, 3) := by decide +kernel
theorem dX12_pairs_11 : decode cX12_pairs 11 = .ok (.return_, 1) := by decide +kernel
theorem dX12_pairs_12 : decode cX12_pairs 12 = .ok (.iconst 0, 1) := by decide +kernel
theorem dX12_pairs_13 : decode cX12_pairs 13 = .ok (.istore_n 2, 1) := by decide +kernel
theorem dX12_pairs_14 : decode cX12_pairs 14 = .ok (.iload_n 2, 1) := by decide +kernel
theorem dX12_pairs_15 : decode cX12_pairs 15 = .ok (.bipush 10, 2) := by decide +kernel
theorem dX12_pairs_17 : decode cX12_pairs 17 = .ok (.if_icmp .ge 32, 3) := by decide +kernel
theorem dX12_pairs_20 : decode cX12_pairs 20 = .ok (.aload_n 0, 1) := by decide +kernel
theorem dX12_pairs_21 : decode cX12_pairs 21 = .ok (.getfield 428, 3) := by decide +kernel
theorem dX12_pairs_24 : decode cX12_pairs 24 = .ok (.aload_n 0, 1) := by decide +kernel
theorem dX12_pairs_25 : decode cX12_pairs 25 = .ok (.getfield 431, 3) := by decide +kernel
theorem dX12_pairs_28 : decode cX12_pairs 28 = .ok (.if_icmp .ne 21, 3) := by decide +kernel
theorem dX12_pairs_31 : decode cX12_pairs 31 = .ok (.aload_n 0, 1) := by decide +kernel
theorem dX12_pairs_32 : decode cX12_pairs 32 = .ok (.getfield 129, 3) := by decide +kernel
theorem dX12_pairs_35 : decode cX12_pairs 35 = .ok (.iload_n 2, 1) := by decide +kernel
theorem dX12_pairs_36 : decode cX12_pairs 36 = .ok (.aload_n 0, 1) := by decide +kernel
theorem dX12_pairs_37 : decode cX12_pairs 37 = .ok (.getfield 123, 3) := by decide +kernel
theorem dX12_pairs_40 : decode cX12_pairs 40 = .ok (.iload_n 2, 1) := by decide +kernel
theorem dX12_pairs_41 : decode cX12_pairs 41 = .ok (.iaload, 1) := by decide +kernel
theorem dX12_pairs_42 : decode cX12_pairs 42 = .ok (.iastore, 1) := by decide +kernel
theorem dX12_pairs_43 : decode cX12_pairs 43 = .ok (.iinc 2 1, 3) := by decide +kernel
theorem dX12_pairs_46 : decode cX12_pairs 46 = .ok (.goto (-32), 3) := by decide +kernel
theorem dX12_pairs_49 : decode cX12_pairs 49 = .ok (.aload_n 0, 1) := by decide +kernel
theorem dX12_pairs_50 : decode cX12_pairs 50 = .ok (.dup, 1) := by decide +kernel
theorem dX12_pairs_51 : decode cX12_pairs 51 = .ok (.getfield 428, 3) := by decide +kernel
theorem dX12_pairs_54 : decode cX12_pairs 54 = .ok (.iconst 1, 1) := by decide +kernel
theorem dX12_pairs_55 : decode cX12_pairs 55 = .ok (.iadd, 1) := by decide +kernel
theorem dX12_pairs_56 : decode cX12_pairs 56 = .ok (.putfield 428, 3) := by decide +kernel
theorem dX12_pairs_59 : decode cX12_pairs 59 = .ok (.return_, 1) := by decide +kernel
theorem dX12_pairs_60 : decode cX12_pairs 60 = .ok (.iconst 0, 1) := by decide +kernel
theorem dX12_pairs_61 : decode cX12_pairs 61 = .ok (.istore_n 2, 1) := by decide +kernel
theorem dX12_pairs_62 : decode cX12_pairs 62 = .ok (.iload_n 1, 1) := by decide +kernel
theorem dX12_pairs_63 : decode cX12_pairs 63 = .ok (.iload_n 2, 1) := by decide +kernel
theorem dX12_pairs_64 : decode cX12_pairs 64 = .ok (.ishr, 1) := by decide +kernel
theorem dX12_pairs_65 : decode cX12_pairs 65 = .ok (.iconst 1, 1) := by decide +kernel
theorem dX12_pairs_66 : decode cX12_pairs 66 = .ok (.iand, 1) := by decide +kernel
theorem dX12_pairs_67 : decode cX12_pairs 67 = .ok (.ifCond .ne 9, 3) := by decide +kernel
theorem dX12_pairs_70 : decode cX12_pairs 70 = .ok (.iinc 2 1, 3) := by decide +kernel
theorem dX12_pairs_73 : decode cX12_pairs 73 = .ok (.goto (-11), 3) := by decide +kernel
theorem dX12_pairs_76 : decode cX12_pairs 76 = .ok (.iload_n 2, 1) := by decide +kernel
theorem dX12_pairs_77 : decode cX12_pairs 77 = .ok (.iconst 1, 1) := by decide +kernel
theorem dX12_pairs_78 : decode cX12_pairs 78 = .ok (.iadd, 1) := by decide +kernel
theorem dX12_pairs_79 : decode cX12_pairs 79 = .ok (.istore_n 3, 1) := by decide +kernel
theorem dX12_pairs_80 : decode cX12_pairs 80 = .ok (.iload_n 3, 1) := by decide +kernel
theorem dX12_pairs_81 : decode cX12_pairs 81 = .ok (.aload_n 0, 1) := by decide +kernel
theorem dX12_pairs_82 : decode cX12_pairs 82 = .ok (.getfield 13, 3) := by decide +kernel
theorem dX12_pairs_85 : decode cX12_pairs 85 = .ok (.iconst 0, 1) := by decide +kernel
theorem dX12_pairs_86 : decode cX12_pairs 86 = .ok (.iaload, 1) := by decide +kernel
theorem dX12_pairs_87 : decode cX12_pairs 87 = .ok (.if_icmp .ge 51, 3) := by decide +kernel
theorem dX12_pairs_90 : decode cX12_pairs 90 = .ok (.iload_n 1, 1) := by decide +kernel
theorem dX12_pairs_91 : decode cX12_pairs 91 = .ok (.iload_n 3, 1) := by decide +kernel
theorem dX12_pairs_92 : decode cX12_pairs 92 = .ok (.ishr, 1) := by decide +kernel
theorem dX12_pairs_93 : decode cX12_pairs 93 = .ok (.iconst 1, 1) := by decide +kernel
theorem dX12_pairs_94 : decode cX12_pairs 94 = .ok (.iand, 1) := by decide +kernel
theorem dX12_pairs_95 : decode cX12_pairs 95 = .ok (.ifCond .ne 6, 3) := by decide +kernel
theorem dX12_pairs_98 : decode cX12_pairs 98 = .ok (.goto 34, 3) := by decide +kernel
theorem dX12_pairs_101 : decode cX12_pairs 101 = .ok (.aload_n 0, 1) := by decide +kernel
theorem dX12_pairs_102 : decode cX12_pairs 102 = .ok (.getfield 123, 3) := by decide +kernel
theorem dX12_pairs_105 : decode cX12_pairs 105 = .ok (.iload_n 2, 1) := by decide +kernel
theorem dX12_pairs_106 : decode cX12_pairs 106 = .ok (.iload_n 3, 1) := by decide +kernel
theorem dX12_pairs_107 : decode cX12_pairs 107 = .ok (.iastore, 1) := by decide +kernel
theorem dX12_pairs_108 : decode cX12_pairs 108 = .ok (.aload_n 0, 1) := by decide +kernel
theorem dX12_pairs_109 : decode cX12_pairs 109 = .ok (.getfield 123, 3) := by decide +kernel
theorem dX12_pairs_112 : decode cX12_pairs 112 = .ok (.iload_n 3, 1) := by decide +kernel
theorem dX12_pairs_113 : decode cX12_pairs 113 = .ok (.iload_n 2, 1) := by decide +kernel
theorem dX12_pairs_114 : decode cX12_pairs 114 = .ok (.iastore, 1) := by decide +kernel
theorem dX12_pairs_115 : decode cX12_pairs 115 = .ok (.aload_n 0, 1) := by decide +kernel
theorem dX12_pairs_116 : decode cX12_pairs 116 = .ok (.iload_n 1, 1) := by decide +kernel
theorem dX12_pairs_117 : decode cX12_pairs 117 = .ok (.iconst 1, 1) := by decide +kernel
theorem dX12_pairs_118 : decode cX12_pairs 118 = .ok (.iload_n 2, 1) := by decide +kernel
theorem dX12_pairs_119 : decode cX12_pairs 119 = .ok (.ishl, 1) := by decide +kernel
theorem dX12_pairs_120 : decode cX12_pairs 120 = .ok (.iconst (-1), 1) := by decide +kernel
theorem dX12_pairs_121 : decode cX12_pairs 121 = .ok (.ixor, 1) := by decide +kernel
theorem dX12_pairs_122 : decode cX12_pairs 122 = .ok (.iand, 1) := by decide +kernel
theorem dX12_pairs_123 : decode cX12_pairs 123 = .ok (.iconst 1, 1) := by decide +kernel
theorem dX12_pairs_124 : decode cX12_pairs 124 = .ok (.iload_n 3, 1) := by decide +kernel
theorem dX12_pairs_125 : decode cX12_pairs 125 = .ok (.ishl, 1) := by decide +kernel
theorem dX12_pairs_126 : decode cX12_pairs 126 = .ok (.iconst (-1), 1) := by decide +kernel
theorem dX12_pairs_127 : decode cX12_pairs 127 = .ok (.ixor, 1) := by decide +kernel
theorem dX12_pairs_128 : decode cX12_pairs 128 = .ok (.iand, 1) := by decide +kernel
theorem dX12_pairs_129 : decode cX12_pairs 129 = .ok (.invokevirtual 434, 3) := by decide +kernel
theorem dX12_pairs_132 : decode cX12_pairs 132 = .ok (.iinc 3 1, 3) := by decide +kernel
theorem dX12_pairs_135 : decode cX12_pairs 135 = .ok (.goto (-55), 3) := by decide +kernel
theorem dX12_pairs_138 : decode cX12_pairs 138 = .ok (.return_, 1) := by decide +kernel
theorem dX12_resting_0 : decode cX12_resting 0 = .ok (.aload_n 0, 1) := by decide +kernel
theorem dX12_resting_1 : decode cX12_resting 1 = .ok (.getfield 13, 3) := by decide +kernel
theorem dX12_resting_4 : decode cX12_resting 4 = .ok (.iconst 0, 1) := by decide +kernel
theorem dX12_resting_5 : decode cX12_resting 5 = .ok (.iaload, 1) := by decide +kernel
theorem dX12_resting_6 : decode cX12_resting 6 = .ok (.ifCond .eq 26, 3) := by decide +kernel
theorem dX12_resting_9 : decode cX12_resting 9 = .ok (.aload_n 0, 1) := by decide +kernel
theorem dX12_resting_10 : decode cX12_resting 10 = .ok (.getfield 13, 3) := by decide +kernel
theorem dX12_resting_13 : decode cX12_resting 13 = .ok (.iconst 0, 1) := by decide +kernel
theorem dX12_resting_14 : decode cX12_resting 14 = .ok (.iaload, 1) := by decide +kernel
theorem dX12_resting_15 : decode cX12_resting 15 = .ok (.iconst 2, 1) := by decide +kernel
theorem dX12_resting_16 : decode cX12_resting 16 = .ok (.irem, 1) := by decide +kernel
theorem dX12_resting_17 : decode cX12_resting 17 = .ok (.iconst 1, 1) := by decide +kernel
theorem dX12_resting_18 : decode cX12_resting 18 = .ok (.if_icmp .eq 14, 3) := by decide +kernel
theorem dX12_resting_21 : decode cX12_resting 21 = .ok (.aload_n 0, 1) := by decide +kernel
theorem dX12_resting_22 : decode cX12_resting 22 = .ok (.getfield 13, 3) := by decide +kernel
theorem dX12_resting_25 : decode cX12_resting 25 = .ok (.iconst 0, 1) := by decide +kernel
theorem dX12_resting_26 : decode cX12_resting 26 = .ok (.iaload, 1) := by decide +kernel
theorem dX12_resting_27 : decode cX12_resting 27 = .ok (.bipush 8, 2) := by decide +kernel
theorem dX12_resting_29 : decode cX12_resting 29 = .ok (.if_icmp .le 5, 3) := by decide +kernel
theorem dX12_resting_32 : decode cX12_resting 32 = .ok (.iconst 0, 1) := by decide +kernel
theorem dX12_resting_33 : decode cX12_resting 33 = .ok (.ireturn, 1) := by decide +kernel
theorem dX12_resting_34 : decode cX12_resting 34 = .ok (.aload_n 0, 1) := by decide +kernel
theorem dX12_resting_35 : decode cX12_resting 35 = .ok (.invokevirtual 347, 3) := by decide +kernel
theorem dX12_resting_38 : decode cX12_resting 38 = .ok (.pop, 1) := by decide +kernel
theorem dX12_resting_39 : decode cX12_resting 39 = .ok (.iconst 0, 1) := by decide +kernel
theorem dX12_resting_40 : decode cX12_resting 40 = .ok (.istore_n 2, 1) := by decide +kernel
theorem dX12_resting_41 : decode cX12_resting 41 = .ok (.iload_n 2, 1) := by decide +kernel
theorem dX12_resting_42 : decode cX12_resting 42 = .ok (.aload_n 0, 1) := by decide +kernel
theorem dX12_resting_43 : decode cX12_resting 43 = .ok (.getfield 13, 3) := by decide +kernel
theorem dX12_resting_46 : decode cX12_resting 46 = .ok (.iconst 0, 1) := by decide +kernel
theorem dX12_resting_47 : decode cX12_resting 47 = .ok (.iaload, 1) := by decide +kernel
theorem dX12_resting_48 : decode cX12_resting 48 = .ok (.if_icmp .ge 53, 3) := by decide +kernel
theorem dX12_resting_51 : decode cX12_resting 51 = .ok (.iconst 0, 1) := by decide +kernel
theorem dX12_resting_52 : decode cX12_resting 52 = .ok (.istore_n 3, 1) := by decide +kernel
theorem dX12_resting_53 : decode cX12_resting 53 = .ok (.iload_n 3, 1) := by decide +kernel
theorem dX12_resting_54 : decode cX12_resting 54 = .ok (.aload_n 0, 1) := by decide +kernel
theorem dX12_resting_55 : decode cX12_resting 55 = .ok (.getfield 13, 3) := by decide +kernel
theorem dX12_resting_58 : decode cX12_resting 58 = .ok (.iconst 0, 1) := by decide +kernel
theorem dX12_resting_59 : decode cX12_resting 59 = .ok (.iaload, 1) := by decide +kernel
theorem dX12_resting_60 : decode cX12_resting 60 = .ok (.if_icmp .ge 35, 3) := by decide +kernel
theorem dX12_resting_63 : decode cX12_resting 63 = .ok (.aload_n 0, 1) := by decide +kernel
theorem dX12_resting_64 : decode cX12_resting 64 = .ok (.getfield 126, 3) := by decide +kernel
theorem dX12_resting_67 : decode cX12_resting 67 = .ok (.bipush 10, 2) := by decide +kernel
theorem dX12_resting_69 : decode cX12_resting 69 = .ok (.iload_n 2, 1) := by decide +kernel
theorem dX12_resting_70 : decode cX12_resting 70 = .ok (.imul, 1) := by decide +kernel
theorem dX12_resting_71 : decode cX12_resting 71 = .ok (.iload_n 3, 1) := by decide +kernel
theorem dX12_resting_72 : decode cX12_resting 72 = .ok (.iadd, 1) := by decide +kernel
theorem dX12_resting_73 : decode cX12_resting 73 = .ok (.iload_n 2, 1) := by decide +kernel
theorem dX12_resting_74 : decode cX12_resting 74 = .ok (.iload_n 3, 1) := by decide +kernel
theorem dX12_resting_75 : decode cX12_resting 75 = .ok (.if_icmp .ne 7, 3) := by decide +kernel
theorem dX12_resting_78 : decode cX12_resting 78 = .ok (.iconst 0, 1) := by decide +kernel
theorem dX12_resting_79 : decode cX12_resting 79 = .ok (.goto 9, 3) := by decide +kernel
theorem dX12_resting_82 : decode cX12_resting 82 = .ok (.aload_n 0, 1) := by decide +kernel
theorem dX12_resting_83 : decode cX12_resting 83 = .ok (.iload_n 2, 1) := by decide +kernel
theorem dX12_resting_84 : decode cX12_resting 84 = .ok (.iload_n 3, 1) := by decide +kernel
theorem dX12_resting_85 : decode cX12_resting 85 = .ok (.invokevirtual 422, 3) := by decide +kernel
theorem dX12_resting_88 : decode cX12_resting 88 = .ok (.iastore, 1) := by decide +kernel
theorem dX12_resting_89 : decode cX12_resting 89 = .ok (.iinc 3 1, 3) := by decide +kernel
theorem dX12_resting_92 : decode cX12_resting 92 = .ok (.goto (-39), 3) := by decide +kernel
theorem dX12_resting_95 : decode cX12_resting 95 = .ok (.iinc 2 1, 3) := by decide +kernel
theorem dX12_resting_98 : decode cX12_resting 98 = .ok (.goto (-57), 3) := by decide +kernel
theorem dX12_resting_101 : decode cX12_resting 101 = .ok (.aload_n 0, 1) := by decide +kernel
theorem dX12_resting_102 : decode cX12_resting 102 = .ok (.iconst 0, 1) := by decide +kernel
theorem dX12_resting_103 : decode cX12_resting 103 = .ok (.putfield 428, 3) := by decide +kernel
theorem dX12_resting_106 : decode cX12_resting 106 = .ok (.aload_n 0, 1) := by decide +kernel
theorem dX12_resting_107 : decode cX12_resting 107 = .ok (.iload_n 1, 1) := by decide +kernel
theorem dX12_resting_108 : decode cX12_resting 108 = .ok (.putfield 431, 3) := by decide +kernel
theorem dX12_resting_111 : decode cX12_resting 111 = .ok (.aload_n 0, 1) := by decide +kernel
theorem dX12_resting_112 : decode cX12_resting 112 = .ok (.aload_n 0, 1) := by decide +kernel
theorem dX12_resting_113 : decode cX12_resting 113 = .ok (.invokevirtual 338, 3) := by decide +kernel
theorem dX12_resting_116 : decode cX12_resting 116 = .ok (.invokevirtual 434, 3) := by decide +kernel
theorem dX12_resting_119 : decode cX12_resting 119 = .ok (.iconst 1, 1) := by decide +kernel
theorem dX12_resting_120 : decode cX12_resting 120 = .ok (.ireturn, 1) := by decide +kernel
theorem dX12_rests_0 : decode cX12_rests 0 = .ok (.aload_n 0, 1) := by decide +kernel
theorem dX12_rests_1 : decode cX12_rests 1 = .ok (.iconst 0, 1) := by decide +kernel
theorem dX12_rests_2 : decode cX12_rests 2 = .ok (.putfield 135, 3) := by decide +kernel
theorem dX12_rests_5 : decode cX12_rests 5 = .ok (.aload_n 0, 1) := by decide +kernel
theorem dX12_rests_6 : decode cX12_rests 6 = .ok (.iconst (-1), 1) := by decide +kernel
theorem dX12_rests_7 : decode cX12_rests 7 = .ok (.invokevirtual 437, 3) := by decide +kernel
theorem dX12_rests_10 : decode cX12_rests 10 = .ok (.ifCond .eq 10, 3) := by decide +kernel
theorem dX12_rests_13 : decode cX12_rests 13 = .ok (.aload_n 0, 1) := by decide +kernel
theorem dX12_rests_14 : decode cX12_rests 14 = .ok (.getfield 428, 3) := by decide +kernel
theorem dX12_rests_17 : decode cX12_rests 17 = .ok (.goto 4, 3) := by decide +kernel
theorem dX12_rests_20 : decode cX12_rests 20 = .ok (.iconst (-1), 1) := by decide +kernel
theorem dX12_rests_21 : decode cX12_rests 21 = .ok (.ireturn, 1) := by decide +kernel
theorem dX12_rest_0 : decode cX12_rest 0 = .ok (.aload_n 0, 1) := by decide +kernel
theorem dX12_rest_1 : decode cX12_rest 1 = .ok (.iconst 0, 1) := by decide +kernel
theorem dX12_rest_2 : decode cX12_rest 2 = .ok (.putfield 135, 3) := by decide +kernel
theorem dX12_rest_5 : decode cX12_rest 5 = .ok (.iload_n 1, 1) := by decide +kernel
theorem dX12_rest_6 : decode cX12_rest 6 = .ok (.ifCond .lt 36, 3) := by decide +kernel
theorem dX12_rest_9 : decode cX12_rest 9 = .ok (.aload_n 0, 1) := by decide +kernel
theorem dX12_rest_10 : decode cX12_rest 10 = .ok (.iload_n 2, 1) := by decide +kernel
theorem dX12_rest_11 : decode cX12_rest 11 = .ok (.invokevirtual 329, 3) := by decide +kernel
theorem dX12_rest_14 : decode cX12_rest 14 = .ok (.ifCond .eq 28, 3) := by decide +kernel
theorem dX12_rest_17 : decode cX12_rest 17 = .ok (.aload_n 0, 1) := by decide +kernel
theorem dX12_rest_18 : decode cX12_rest 18 = .ok (.iload_n 1, 1) := by decide +kernel
theorem dX12_rest_19 : decode cX12_rest 19 = .ok (.invokevirtual 437, 3) := by decide +kernel
theorem dX12_rest_22 : decode cX12_rest 22 = .ok (.ifCond .eq 20, 3) := by decide +kernel
theorem dX12_rest_25 : decode cX12_rest 25 = .ok (.iload_n 1, 1) := by decide +kernel
theorem dX12_rest_26 : decode cX12_rest 26 = .ok (.aload_n 0, 1) := by decide +kernel
theorem dX12_rest_27 : decode cX12_rest 27 = .ok (.getfield 428, 3) := by decide +kernel
theorem dX12_rest_30 : decode cX12_rest 30 = .ok (.if_icmp .ge 12, 3) := by decide +kernel
theorem dX12_rest_33 : decode cX12_rest 33 = .ok (.aload_n 0, 1) := by decide +kernel
theorem dX12_rest_34 : decode cX12_rest 34 = .ok (.getfield 129, 3) := by decide +kernel
theorem dX12_rest_37 : decode cX12_rest 37 = .ok (.iload_n 2, 1) := by decide +kernel
theorem dX12_rest_38 : decode cX12_rest 38 = .ok (.iaload, 1) := by decide +kernel
theorem dX12_rest_39 : decode cX12_rest 39 = .ok (.goto 4, 3) := by decide +kernel
theorem dX12_rest_42 : decode cX12_rest 42 = .ok (.iconst (-1), 1) := by decide +kernel
theorem dX12_rest_43 : decode cX12_rest 43 = .ok (.ireturn, 1) := by decide +kernel
theorem dX12_draws_0 : decode cX12_draws 0 = .ok (.aload_n 0, 1) := by decide +kernel
theorem dX12_draws_1 : decode cX12_draws 1 = .ok (.aload_n 0, 1) := by decide +kernel
theorem dX12_draws_2 : decode cX12_draws 2 = .ok (.getfield 440, 3) := by decide +kernel
theorem dX12_draws_5 : decode cX12_draws 5 = .ok (.ldc2_w 443, 3) := by decide +kernel
theorem dX12_draws_8 : decode cX12_draws 8 = .ok (.lmul, 1) := by decide +kernel
theorem dX12_draws_9 : decode cX12_draws 9 = .ok (.ldc2_w 445, 3) := by decide +kernel
theorem dX12_draws_12 : decode cX12_draws 12 = .ok (.ladd, 1) := by decide +kernel
theorem dX12_draws_13 : decode cX12_draws 13 = .ok (.ldc2_w 447, 3) := by decide +kernel
theorem dX12_draws_16 : decode cX12_draws 16 = .ok (.lrem, 1) := by decide +kernel
theorem dX12_draws_17 : decode cX12_draws 17 = .ok (.putfield 440, 3) := by decide +kernel
theorem dX12_draws_20 : decode cX12_draws 20 = .ok (.aload_n 0, 1) := by decide +kernel
theorem dX12_draws_21 : decode cX12_draws 21 = .ok (.getfield 440, 3) := by decide +kernel
theorem dX12_draws_24 : decode cX12_draws 24 = .ok (.ldc2_w 449, 3) := by decide +kernel
theorem dX12_draws_27 : decode cX12_draws 27 = .ok (.ldiv, 1) := by decide +kernel
theorem dX12_draws_28 : decode cX12_draws 28 = .ok (.iload_n 1, 1) := by decide +kernel
theorem dX12_draws_29 : decode cX12_draws 29 = .ok (.i2l, 1) := by decide +kernel
theorem dX12_draws_30 : decode cX12_draws 30 = .ok (.lrem, 1) := by decide +kernel
theorem dX12_draws_31 : decode cX12_draws 31 = .ok (.l2i, 1) := by decide +kernel
theorem dX12_draws_32 : decode cX12_draws 32 = .ok (.ireturn, 1) := by decide +kernel
theorem dX12_hears_0 : decode cX12_hears 0 = .ok (.aload_n 0, 1) := by decide +kernel
theorem dX12_hears_1 : decode cX12_hears 1 = .ok (.getfield 90, 3) := by decide +kernel
theorem dX12_hears_4 : decode cX12_hears 4 = .ok (.iconst 0, 1) := by decide +kernel
theorem dX12_hears_5 : decode cX12_hears 5 = .ok (.iaload, 1) := by decide +kernel
theorem dX12_hears_6 : decode cX12_hears 6 = .ok (.bipush 40, 2) := by decide +kernel
theorem dX12_hears_8 : decode cX12_hears 8 = .ok (.if_icmp .ne 83, 3) := by decide +kernel
theorem dX12_hears_11 : decode cX12_hears 11 = .ok (.iconst 0, 1) := by decide +kernel
theorem dX12_hears_12 : decode cX12_hears 12 = .ok (.istore_n 3, 1) := by decide +kernel
theorem dX12_hears_13 : decode cX12_hears 13 = .ok (.iload_n 3, 1) := by decide +kernel
theorem dX12_hears_14 : decode cX12_hears 14 = .ok (.bipush 39, 2) := by decide +kernel
theorem dX12_hears_16 : decode cX12_hears 16 = .ok (.if_icmp .ge 67, 3) := by decide +kernel
theorem dX12_hears_19 : decode cX12_hears 19 = .ok (.aload_n 0, 1) := by decide +kernel
theorem dX12_hears_20 : decode cX12_hears 20 = .ok (.getfield 90, 3) := by decide +kernel
theorem dX12_hears_23 : decode cX12_hears 23 = .ok (.iconst 1, 1) := by decide +kernel
theorem dX12_hears_24 : decode cX12_hears 24 = .ok (.iload_n 3, 1) := by decide +kernel
theorem dX12_hears_25 : decode cX12_hears 25 = .ok (.iadd, 1) := by decide +kernel
theorem dX12_hears_26 : decode cX12_hears 26 = .ok (.aload_n 0, 1) := by decide +kernel
theorem dX12_hears_27 : decode cX12_hears 27 = .ok (.getfield 90, 3) := by decide +kernel
theorem dX12_hears_30 : decode cX12_hears 30 = .ok (.iconst 1, 1) := by decide +kernel
theorem dX12_hears_31 : decode cX12_hears 31 = .ok (.iload_n 3, 1) := by decide +kernel
theorem dX12_hears_32 : decode cX12_hears 32 = .ok (.iadd, 1) := by decide +kernel
theorem dX12_hears_33 : decode cX12_hears 33 = .ok (.iconst 1, 1) := by decide +kernel
theorem dX12_hears_34 : decode cX12_hears 34 = .ok (.iadd, 1) := by decide +kernel
theorem dX12_hears_35 : decode cX12_hears 35 = .ok (.iaload, 1) := by decide +kernel
theorem dX12_hears_36 : decode cX12_hears 36 = .ok (.iastore, 1) := by decide +kernel
theorem dX12_hears_37 : decode cX12_hears 37 = .ok (.aload_n 0, 1) := by decide +kernel
theorem dX12_hears_38 : decode cX12_hears 38 = .ok (.getfield 90, 3) := by decide +kernel
theorem dX12_hears_41 : decode cX12_hears 41 = .ok (.bipush 41, 2) := by decide +kernel
theorem dX12_hears_43 : decode cX12_hears 43 = .ok (.iload_n 3, 1) := by decide +kernel
theorem dX12_hears_44 : decode cX12_hears 44 = .ok (.iadd, 1) := by decide +kernel
theorem dX12_hears_45 : decode cX12_hears 45 = .ok (.aload_n 0, 1) := by decide +kernel
theorem dX12_hears_46 : decode cX12_hears 46 = .ok (.getfield 90, 3) := by decide +kernel
theorem dX12_hears_49 : decode cX12_hears 49 = .ok (.bipush 41, 2) := by decide +kernel
theorem dX12_hears_51 : decode cX12_hears 51 = .ok (.iload_n 3, 1) := by decide +kernel
theorem dX12_hears_52 : decode cX12_hears 52 = .ok (.iadd, 1) := by decide +kernel
theorem dX12_hears_53 : decode cX12_hears 53 = .ok (.iconst 1, 1) := by decide +kernel
theorem dX12_hears_54 : decode cX12_hears 54 = .ok (.iadd, 1) := by decide +kernel
theorem dX12_hears_55 : decode cX12_hears 55 = .ok (.iaload, 1) := by decide +kernel
theorem dX12_hears_56 : decode cX12_hears 56 = .ok (.iastore, 1) := by decide +kernel
theorem dX12_hears_57 : decode cX12_hears 57 = .ok (.aload_n 0, 1) := by decide +kernel
theorem dX12_hears_58 : decode cX12_hears 58 = .ok (.getfield 90, 3) := by decide +kernel
theorem dX12_hears_61 : decode cX12_hears 61 = .ok (.bipush 81, 2) := by decide +kernel
theorem dX12_hears_63 : decode cX12_hears 63 = .ok (.iload_n 3, 1) := by decide +kernel
theorem dX12_hears_64 : decode cX12_hears 64 = .ok (.iadd, 1) := by decide +kernel
theorem dX12_hears_65 : decode cX12_hears 65 = .ok (.aload_n 0, 1) := by decide +kernel
theorem dX12_hears_66 : decode cX12_hears 66 = .ok (.getfield 90, 3) := by decide +kernel
theorem dX12_hears_69 : decode cX12_hears 69 = .ok (.bipush 81, 2) := by decide +kernel
theorem dX12_hears_71 : decode cX12_hears 71 = .ok (.iload_n 3, 1) := by decide +kernel
theorem dX12_hears_72 : decode cX12_hears 72 = .ok (.iadd, 1) := by decide +kernel
theorem dX12_hears_73 : decode cX12_hears 73 = .ok (.iconst 1, 1) := by decide +kernel
theorem dX12_hears_74 : decode cX12_hears 74 = .ok (.iadd, 1) := by decide +kernel
theorem dX12_hears_75 : decode cX12_hears 75 = .ok (.iaload, 1) := by decide +kernel
theorem dX12_hears_76 : decode cX12_hears 76 = .ok (.iastore, 1) := by decide +kernel
theorem dX12_hears_77 : decode cX12_hears 77 = .ok (.iinc 3 1, 3) := by decide +kernel
theorem dX12_hears_80 : decode cX12_hears 80 = .ok (.goto (-67), 3) := by decide +kernel
theorem dX12_hears_83 : decode cX12_hears 83 = .ok (.aload_n 0, 1) := by decide +kernel
theorem dX12_hears_84 : decode cX12_hears 84 = .ok (.getfield 90, 3) := by decide +kernel
theorem dX12_hears_87 : decode cX12_hears 87 = .ok (.iconst 0, 1) := by decide +kernel
theorem dX12_hears_88 : decode cX12_hears 88 = .ok (.bipush 39, 2) := by decide +kernel
theorem dX12_hears_90 : decode cX12_hears 90 = .ok (.iastore, 1) := by decide +kernel
theorem dX12_hears_91 : decode cX12_hears 91 = .ok (.aload_n 0, 1) := by decide +kernel
theorem dX12_hears_92 : decode cX12_hears 92 = .ok (.getfield 90, 3) := by decide +kernel
theorem dX12_hears_95 : decode cX12_hears 95 = .ok (.iconst 1, 1) := by decide +kernel
theorem dX12_hears_96 : decode cX12_hears 96 = .ok (.aload_n 0, 1) := by decide +kernel
theorem dX12_hears_97 : decode cX12_hears 97 = .ok (.getfield 90, 3) := by decide +kernel
theorem dX12_hears_100 : decode cX12_hears 100 = .ok (.iconst 0, 1) := by decide +kernel
theorem dX12_hears_101 : decode cX12_hears 101 = .ok (.iaload, 1) := by decide +kernel
theorem dX12_hears_102 : decode cX12_hears 102 = .ok (.iadd, 1) := by decide +kernel
theorem dX12_hears_103 : decode cX12_hears 103 = .ok (.iload_n 1, 1) := by decide +kernel
theorem dX12_hears_104 : decode cX12_hears 104 = .ok (.iastore, 1) := by decide +kernel
theorem dX12_hears_105 : decode cX12_hears 105 = .ok (.aload_n 0, 1) := by decide +kernel
theorem dX12_hears_106 : decode cX12_hears 106 = .ok (.getfield 90, 3) := by decide +kernel
theorem dX12_hears_109 : decode cX12_hears 109 = .ok (.bipush 41, 2) := by decide +kernel
theorem dX12_hears_111 : decode cX12_hears 111 = .ok (.aload_n 0, 1) := by decide +kernel
theorem dX12_hears_112 : decode cX12_hears 112 = .ok (.getfield 90, 3) := by decide +kernel
theorem dX12_hears_115 : decode cX12_hears 115 = .ok (.iconst 0, 1) := by decide +kernel
theorem dX12_hears_116 : decode cX12_hears 116 = .ok (.iaload, 1) := by decide +kernel
theorem dX12_hears_117 : decode cX12_hears 117 = .ok (.iadd, 1) := by decide +kernel
theorem dX12_hears_118 : decode cX12_hears 118 = .ok (.iload_n 2, 1) := by decide +kernel
theorem dX12_hears_119 : decode cX12_hears 119 = .ok (.iastore, 1) := by decide +kernel
theorem dX12_hears_120 : decode cX12_hears 120 = .ok (.aload_n 0, 1) := by decide +kernel
theorem dX12_hears_121 : decode cX12_hears 121 = .ok (.getfield 90, 3) := by decide +kernel
theorem dX12_hears_124 : decode cX12_hears 124 = .ok (.bipush 81, 2) := by decide +kernel
theorem dX12_hears_126 : decode cX12_hears 126 = .ok (.aload_n 0, 1) := by decide +kernel
theorem dX12_hears_127 : decode cX12_hears 127 = .ok (.getfield 90, 3) := by decide +kernel
theorem dX12_hears_130 : decode cX12_hears 130 = .ok (.iconst 0, 1) := by decide +kernel
theorem dX12_hears_131 : decode cX12_hears 131 = .ok (.iaload, 1) := by decide +kernel
theorem dX12_hears_132 : decode cX12_hears 132 = .ok (.iadd, 1) := by decide +kernel
theorem dX12_hears_133 : decode cX12_hears 133 = .ok (.iconst 0, 1) := by decide +kernel
theorem dX12_hears_134 : decode cX12_hears 134 = .ok (.iastore, 1) := by decide +kernel
theorem dX12_hears_135 : decode cX12_hears 135 = .ok (.aload_n 0, 1) := by decide +kernel
theorem dX12_hears_136 : decode cX12_hears 136 = .ok (.getfield 90, 3) := by decide +kernel
theorem dX12_hears_139 : decode cX12_hears 139 = .ok (.iconst 0, 1) := by decide +kernel
theorem dX12_hears_140 : decode cX12_hears 140 = .ok (.dup2, 1) := by decide +kernel
theorem dX12_hears_141 : decode cX12_hears 141 = .ok (.iaload, 1) := by decide +kernel
theorem dX12_hears_142 : decode cX12_hears 142 = .ok (.iconst 1, 1) := by decide +kernel
theorem dX12_hears_143 : decode cX12_hears 143 = .ok (.iadd, 1) := by decide +kernel
theorem dX12_hears_144 : decode cX12_hears 144 = .ok (.iastore, 1) := by decide +kernel
theorem dX12_hears_145 : decode cX12_hears 145 = .ok (.return_, 1) := by decide +kernel
theorem dX12_placeOf_0 : decode cX12_placeOf 0 = .ok (.iconst 0, 1) := by decide +kernel
theorem dX12_placeOf_1 : decode cX12_placeOf 1 = .ok (.istore_n 2, 1) := by decide +kernel
theorem dX12_placeOf_2 : decode cX12_placeOf 2 = .ok (.aload_n 0, 1) := by decide +kernel
theorem dX12_placeOf_3 : decode cX12_placeOf 3 = .ok (.getfield 111, 3) := by decide +kernel
theorem dX12_placeOf_6 : decode cX12_placeOf 6 = .ok (.iload_n 2, 1) := by decide +kernel
theorem dX12_placeOf_7 : decode cX12_placeOf 7 = .ok (.iaload, 1) := by decide +kernel
theorem dX12_placeOf_8 : decode cX12_placeOf 8 = .ok (.iload_n 1, 1) := by decide +kernel
theorem dX12_placeOf_9 : decode cX12_placeOf 9 = .ok (.if_icmp .eq 9, 3) := by decide +kernel
theorem dX12_placeOf_12 : decode cX12_placeOf 12 = .ok (.iinc 2 1, 3) := by decide +kernel
theorem dX12_placeOf_15 : decode cX12_placeOf 15 = .ok (.goto (-13), 3) := by decide +kernel
theorem dX12_placeOf_18 : decode cX12_placeOf 18 = .ok (.iload_n 2, 1) := by decide +kernel
theorem dX12_placeOf_19 : decode cX12_placeOf 19 = .ok (.ireturn, 1) := by decide +kernel
theorem dX12_season_0 : decode cX12_season 0 = .ok (.aload_n 0, 1) := by decide +kernel
theorem dX12_season_1 : decode cX12_season 1 = .ok (.iconst 0, 1) := by decide +kernel
theorem dX12_season_2 : decode cX12_season 2 = .ok (.putfield 135, 3) := by decide +kernel
theorem dX12_season_5 : decode cX12_season 5 = .ok (.iload_n 1, 1) := by decide +kernel
theorem dX12_season_6 : decode cX12_season 6 = .ok (.iconst 0, 1) := by decide +kernel
theorem dX12_season_7 : decode cX12_season 7 = .ok (.sipush 9999, 3) := by decide +kernel
theorem dX12_season_10 : decode cX12_season 10 = .ok (.invokestatic 250, 3) := by decide +kernel
theorem dX12_season_13 : decode cX12_season 13 = .ok (.ifCond .eq 22, 3) := by decide +kernel
theorem dX12_season_16 : decode cX12_season 16 = .ok (.iload_n 2, 1) := by decide +kernel
theorem dX12_season_17 : decode cX12_season 17 = .ok (.iconst 0, 1) := by decide +kernel
theorem dX12_season_18 : decode cX12_season 18 = .ok (.iconst 1, 1) := by decide +kernel
theorem dX12_season_19 : decode cX12_season 19 = .ok (.invokestatic 250, 3) := by decide +kernel
theorem dX12_season_22 : decode cX12_season 22 = .ok (.ifCond .eq 13, 3) := by decide +kernel
theorem dX12_season_25 : decode cX12_season 25 = .ok (.aload_n 0, 1) := by decide +kernel
theorem dX12_season_26 : decode cX12_season 26 = .ok (.getfield 13, 3) := by decide +kernel
theorem dX12_season_29 : decode cX12_season 29 = .ok (.iconst 0, 1) := by decide +kernel
theorem dX12_season_30 : decode cX12_season 30 = .ok (.iaload, 1) := by decide +kernel
theorem dX12_season_31 : decode cX12_season 31 = .ok (.iconst 2, 1) := by decide +kernel
theorem dX12_season_32 : decode cX12_season 32 = .ok (.if_icmp .ge 5, 3) := by decide +kernel
theorem dX12_season_35 : decode cX12_season 35 = .ok (.iconst (-1), 1) := by decide +kernel
theorem dX12_season_36 : decode cX12_season 36 = .ok (.ireturn, 1) := by decide +kernel
theorem dX12_season_37 : decode cX12_season 37 = .ok (.aload_n 0, 1) := by decide +kernel
theorem dX12_season_38 : decode cX12_season 38 = .ok (.iload_n 1, 1) := by decide +kernel
theorem dX12_season_39 : decode cX12_season 39 = .ok (.i2l, 1) := by decide +kernel
theorem dX12_season_40 : decode cX12_season 40 = .ok (.putfield 440, 3) := by decide +kernel
theorem dX12_season_43 : decode cX12_season 43 = .ok (.aload_n 0, 1) := by decide +kernel
theorem dX12_season_44 : decode cX12_season 44 = .ok (.invokevirtual 366, 3) := by decide +kernel
theorem dX12_season_47 : decode cX12_season 47 = .ok (.aload_n 0, 1) := by decide +kernel
theorem dX12_season_48 : decode cX12_season 48 = .ok (.getfield 90, 3) := by decide +kernel
theorem dX12_season_51 : decode cX12_season 51 = .ok (.iconst 0, 1) := by decide +kernel
theorem dX12_season_52 : decode cX12_season 52 = .ok (.aload_n 0, 1) := by decide +kernel
theorem dX12_season_53 : decode cX12_season 53 = .ok (.getfield 93, 3) := by decide +kernel
theorem dX12_season_56 : decode cX12_season 56 = .ok (.iconst 0, 1) := by decide +kernel
theorem dX12_season_57 : decode cX12_season 57 = .ok (.invokestatic 325, 3) := by decide +kernel
theorem dX12_season_60 : decode cX12_season 60 = .ok (.iconst (-1), 1) := by decide +kernel
theorem dX12_season_61 : decode cX12_season 61 = .ok (.istore_n 3, 1) := by decide +kernel
theorem dX12_season_62 : decode cX12_season 62 = .ok (.iload_n 2, 1) := by decide +kernel
theorem dX12_season_63 : decode cX12_season 63 = .ok (.ifCond .ne 8, 3) := by decide +kernel
theorem dX12_season_66 : decode cX12_season 66 = .ok (.bipush 100, 2) := by decide +kernel
theorem dX12_season_68 : decode cX12_season 68 = .ok (.goto 5, 3) := by decide +kernel
theorem dX12_season_71 : decode cX12_season 71 = .ok (.bipush 20, 2) := by decide +kernel
theorem dX12_season_73 : decode cX12_season 73 = .ok (.istore 4, 2) := by decide +kernel
theorem dX12_season_75 : decode cX12_season 75 = .ok (.iconst 0, 1) := by decide +kernel
theorem dX12_season_76 : decode cX12_season 76 = .ok (.istore 5, 2) := by decide +kernel
theorem dX12_season_78 : decode cX12_season 78 = .ok (.iload 5, 2) := by decide +kernel
theorem dX12_season_80 : decode cX12_season 80 = .ok (.iload 4, 2) := by decide +kernel
theorem dX12_season_82 : decode cX12_season 82 = .ok (.if_icmp .gt 165, 3) := by decide +kernel
theorem dX12_season_85 : decode cX12_season 85 = .ok (.iload_n 3, 1) := by decide +kernel
theorem dX12_season_86 : decode cX12_season 86 = .ok (.ifCond .ge 161, 3) := by decide +kernel
theorem dX12_season_89 : decode cX12_season 89 = .ok (.iload_n 2, 1) := by decide +kernel
theorem dX12_season_90 : decode cX12_season 90 = .ok (.ifCond .ne 14, 3) := by decide +kernel
theorem dX12_season_93 : decode cX12_season 93 = .ok (.aload_n 0, 1) := by decide +kernel
theorem dX12_season_94 : decode cX12_season 94 = .ok (.invokevirtual 344, 3) := by decide +kernel
theorem dX12_season_97 : decode cX12_season 97 = .ok (.iconst 1, 1) := by decide +kernel
theorem dX12_season_98 : decode cX12_season 98 = .ok (.if_icmp .ne 6, 3) := by decide +kernel
theorem dX12_season_101 : decode cX12_season 101 = .ok (.iload 5, 2) := by decide +kernel
theorem dX12_season_103 : decode cX12_season 103 = .ok (.istore_n 3, 1) := by decide +kernel
theorem dX12_season_104 : decode cX12_season 104 = .ok (.iload_n 2, 1) := by decide +kernel
theorem dX12_season_105 : decode cX12_season 105 = .ok (.iconst 1, 1) := by decide +kernel
theorem dX12_season_106 : decode cX12_season 106 = .ok (.if_icmp .ne 16, 3) := by decide +kernel
theorem dX12_season_109 : decode cX12_season 109 = .ok (.iload 5, 2) := by decide +kernel
theorem dX12_season_111 : decode cX12_season 111 = .ok (.iload 4, 2) := by decide +kernel
theorem dX12_season_113 : decode cX12_season 113 = .ok (.if_icmp .ne 9, 3) := by decide +kernel
theorem dX12_season_116 : decode cX12_season 116 = .ok (.aload_n 0, 1) := by decide +kernel
theorem dX12_season_117 : decode cX12_season 117 = .ok (.iconst (-1), 1) := by decide +kernel
theorem dX12_season_118 : decode cX12_season 118 = .ok (.invokevirtual 363, 3) := by decide +kernel
theorem dX12_season_121 : decode cX12_season 121 = .ok (.istore_n 3, 1) := by decide +kernel
theorem dX12_season_122 : decode cX12_season 122 = .ok (.aload_n 0, 1) := by decide +kernel
theorem dX12_season_123 : decode cX12_season 123 = .ok (.aload_n 0, 1) := by decide +kernel
theorem dX12_season_124 : decode cX12_season 124 = .ok (.getfield 13, 3) := by decide +kernel
theorem dX12_season_127 : decode cX12_season 127 = .ok (.iconst 0, 1) := by decide +kernel
theorem dX12_season_128 : decode cX12_season 128 = .ok (.iaload, 1) := by decide +kernel
theorem dX12_season_129 : decode cX12_season 129 = .ok (.invokevirtual 451, 3) := by decide +kernel
theorem dX12_season_132 : decode cX12_season 132 = .ok (.istore 6, 2) := by decide +kernel
theorem dX12_season_134 : decode cX12_season 134 = .ok (.aload_n 0, 1) := by decide +kernel
theorem dX12_season_135 : decode cX12_season 135 = .ok (.aload_n 0, 1) := by decide +kernel
theorem dX12_season_136 : decode cX12_season 136 = .ok (.getfield 13, 3) := by decide +kernel
theorem dX12_season_139 : decode cX12_season 139 = .ok (.iconst 0, 1) := by decide +kernel
theorem dX12_season_140 : decode cX12_season 140 = .ok (.iaload, 1) := by decide +kernel
theorem dX12_season_141 : decode cX12_season 141 = .ok (.iconst 1, 1) := by decide +kernel
theorem dX12_season_142 : decode cX12_season 142 = .ok (.isub, 1) := by decide +kernel
theorem dX12_season_143 : decode cX12_season 143 = .ok (.invokevirtual 451, 3) := by decide +kernel
theorem dX12_season_146 : decode cX12_season 146 = .ok (.istore 7, 2) := by decide +kernel
theorem dX12_season_148 : decode cX12_season 148 = .ok (.iload 7, 2) := by decide +kernel
theorem dX12_season_150 : decode cX12_season 150 = .ok (.iload 7, 2) := by decide +kernel
theorem dX12_season_152 : decode cX12_season 152 = .ok (.iload 6, 2) := by decide +kernel
theorem dX12_season_154 : decode cX12_season 154 = .ok (.if_icmp .lt 7, 3) := by decide +kernel
theorem dX12_season_157 : decode cX12_season 157 = .ok (.iconst 1, 1) := by decide +kernel
theorem dX12_season_158 : decode cX12_season 158 = .ok (.goto 4, 3) := by decide +kernel
theorem dX12_season_161 : decode cX12_season 161 = .ok (.iconst 0, 1) := by decide +kernel
theorem dX12_season_162 : decode cX12_season 162 = .ok (.iadd, 1) := by decide +kernel
theorem dX12_season_163 : decode cX12_season 163 = .ok (.istore 7, 2) := by decide +kernel
theorem dX12_season_165 : decode cX12_season 165 = .ok (.aload_n 0, 1) := by decide +kernel
theorem dX12_season_166 : decode cX12_season 166 = .ok (.iload 6, 2) := by decide +kernel
theorem dX12_season_168 : decode cX12_season 168 = .ok (.invokevirtual 454, 3) := by decide +kernel
theorem dX12_season_171 : decode cX12_season 171 = .ok (.aload_n 0, 1) := by decide +kernel
theorem dX12_season_172 : decode cX12_season 172 = .ok (.iload 7, 2) := by decide +kernel
theorem dX12_season_174 : decode cX12_season 174 = .ok (.invokevirtual 454, 3) := by decide +kernel
theorem dX12_season_177 : decode cX12_season 177 = .ok (.if_icmp .ge 7, 3) := by decide +kernel
theorem dX12_season_180 : decode cX12_season 180 = .ok (.iconst 1, 1) := by decide +kernel
theorem dX12_season_181 : decode cX12_season 181 = .ok (.goto 4, 3) := by decide +kernel
theorem dX12_season_184 : decode cX12_season 184 = .ok (.iconst 0, 1) := by decide +kernel
theorem dX12_season_185 : decode cX12_season 185 = .ok (.istore 8, 2) := by decide +kernel
theorem dX12_season_187 : decode cX12_season 187 = .ok (.aload_n 0, 1) := by decide +kernel
theorem dX12_season_188 : decode cX12_season 188 = .ok (.bipush 8, 2) := by decide +kernel
theorem dX12_season_190 : decode cX12_season 190 = .ok (.invokevirtual 451, 3) := by decide +kernel
theorem dX12_season_193 : decode cX12_season 193 = .ok (.aload_n 0, 1) := by decide +kernel
theorem dX12_season_194 : decode cX12_season 194 = .ok (.getfield 19, 3) := by decide +kernel
theorem dX12_season_197 : decode cX12_season 197 = .ok (.iconst 0, 1) := by decide +kernel
theorem dX12_season_198 : decode cX12_season 198 = .ok (.iaload, 1) := by decide +kernel
theorem dX12_season_199 : decode cX12_season 199 = .ok (.if_icmp .ge 7, 3) := by decide +kernel
theorem dX12_season_202 : decode cX12_season 202 = .ok (.iconst 1, 1) := by decide +kernel
theorem dX12_season_203 : decode cX12_season 203 = .ok (.goto 4, 3) := by decide +kernel
theorem dX12_season_206 : decode cX12_season 206 = .ok (.iconst 0, 1) := by decide +kernel
theorem dX12_season_207 : decode cX12_season 207 = .ok (.istore 9, 2) := by decide +kernel
theorem dX12_season_209 : decode cX12_season 209 = .ok (.aload_n 0, 1) := by decide +kernel
theorem dX12_season_210 : decode cX12_season 210 = .ok (.iload 8, 2) := by decide +kernel
theorem dX12_season_212 : decode cX12_season 212 = .ok (.iload 9, 2) := by decide +kernel
theorem dX12_season_214 : decode cX12_season 214 = .ok (.if_icmp .eq 8, 3) := by decide +kernel
theorem dX12_season_217 : decode cX12_season 217 = .ok (.iload 6, 2) := by decide +kernel
theorem dX12_season_219 : decode cX12_season 219 = .ok (.goto 5, 3) := by decide +kernel
theorem dX12_season_222 : decode cX12_season 222 = .ok (.iload 7, 2) := by decide +kernel
theorem dX12_season_224 : decode cX12_season 224 = .ok (.iload 8, 2) := by decide +kernel
theorem dX12_season_226 : decode cX12_season 226 = .ok (.iload 9, 2) := by decide +kernel
theorem dX12_season_228 : decode cX12_season 228 = .ok (.if_icmp .eq 8, 3) := by decide +kernel
theorem dX12_season_231 : decode cX12_season 231 = .ok (.iload 7, 2) := by decide +kernel
theorem dX12_season_233 : decode cX12_season 233 = .ok (.goto 5, 3) := by decide +kernel
theorem dX12_season_236 : decode cX12_season 236 = .ok (.iload 6, 2) := by decide +kernel
theorem dX12_season_238 : decode cX12_season 238 = .ok (.invokevirtual 457, 3) := by decide +kernel
theorem dX12_season_241 : decode cX12_season 241 = .ok (.iinc 5 1, 3) := by decide +kernel
theorem dX12_season_244 : decode cX12_season 244 = .ok (.goto (-166), 3) := by decide +kernel
theorem dX12_season_247 : decode cX12_season 247 = .ok (.aload_n 0, 1) := by decide +kernel
theorem dX12_season_248 : decode cX12_season 248 = .ok (.getfield 93, 3) := by decide +kernel
theorem dX12_season_251 : decode cX12_season 251 = .ok (.iconst 0, 1) := by decide +kernel
theorem dX12_season_252 : decode cX12_season 252 = .ok (.aload_n 0, 1) := by decide +kernel
theorem dX12_season_253 : decode cX12_season 253 = .ok (.getfield 90, 3) := by decide +kernel
theorem dX12_season_256 : decode cX12_season 256 = .ok (.iconst 0, 1) := by decide +kernel
theorem dX12_season_257 : decode cX12_season 257 = .ok (.invokestatic 325, 3) := by decide +kernel
theorem dX12_season_260 : decode cX12_season 260 = .ok (.iload_n 3, 1) := by decide +kernel
theorem dX12_season_261 : decode cX12_season 261 = .ok (.ireturn, 1) := by decide +kernel
theorem dX12_mark_0 : decode cX12_mark 0 = .ok (.aload_n 0, 1) := by decide +kernel
theorem dX12_mark_1 : decode cX12_mark 1 = .ok (.iconst 0, 1) := by decide +kernel
theorem dX12_mark_2 : decode cX12_mark 2 = .ok (.putfield 135, 3) := by decide +kernel
theorem dX12_mark_5 : decode cX12_mark 5 = .ok (.iload_n 1, 1) := by decide +kernel
theorem dX12_mark_6 : decode cX12_mark 6 = .ok (.iconst 0, 1) := by decide +kernel
theorem dX12_mark_7 : decode cX12_mark 7 = .ok (.iconst 3, 1) := by decide +kernel
theorem dX12_mark_8 : decode cX12_mark 8 = .ok (.invokestatic 250, 3) := by decide +kernel
theorem dX12_mark_11 : decode cX12_mark 11 = .ok (.ifCond .eq 16, 3) := by decide +kernel
theorem dX12_mark_14 : decode cX12_mark 14 = .ok (.iload_n 2, 1) := by decide +kernel
theorem dX12_mark_15 : decode cX12_mark 15 = .ok (.ifCond .eq 14, 3) := by decide +kernel
theorem dX12_mark_18 : decode cX12_mark 18 = .ok (.aload_n 0, 1) := by decide +kernel
theorem dX12_mark_19 : decode cX12_mark 19 = .ok (.getfield 132, 3) := by decide +kernel
theorem dX12_mark_22 : decode cX12_mark 22 = .ok (.iload_n 1, 1) := by decide +kernel
theorem dX12_mark_23 : decode cX12_mark 23 = .ok (.baload, 1) := by decide +kernel
theorem dX12_mark_24 : decode cX12_mark 24 = .ok (.ifCond .ne 5, 3) := by decide +kernel
theorem dX12_mark_27 : decode cX12_mark 27 = .ok (.iconst 0, 1) := by decide +kernel
theorem dX12_mark_28 : decode cX12_mark 28 = .ok (.ireturn, 1) := by decide +kernel
theorem dX12_mark_29 : decode cX12_mark 29 = .ok (.aload_n 0, 1) := by decide +kernel
theorem dX12_mark_30 : decode cX12_mark 30 = .ok (.getfield 132, 3) := by decide +kernel
theorem dX12_mark_33 : decode cX12_mark 33 = .ok (.iload_n 1, 1) := by decide +kernel
theorem dX12_mark_34 : decode cX12_mark 34 = .ok (.iconst 1, 1) := by decide +kernel
theorem dX12_mark_35 : decode cX12_mark 35 = .ok (.bastore, 1) := by decide +kernel
theorem dX12_mark_36 : decode cX12_mark 36 = .ok (.iload_n 2, 1) := by decide +kernel
theorem dX12_mark_37 : decode cX12_mark 37 = .ok (.ifCond .eq 30, 3) := by decide +kernel
theorem dX12_mark_40 : decode cX12_mark 40 = .ok (.aload_n 0, 1) := by decide +kernel
theorem dX12_mark_41 : decode cX12_mark 41 = .ok (.iconst 2, 1) := by decide +kernel
theorem dX12_mark_42 : decode cX12_mark 42 = .ok (.iload_n 1, 1) := by decide +kernel
theorem dX12_mark_43 : decode cX12_mark 43 = .ok (.iadd, 1) := by decide +kernel
theorem dX12_mark_44 : decode cX12_mark 44 = .ok (.iconst 0, 1) := by decide +kernel
theorem dX12_mark_45 : decode cX12_mark 45 = .ok (.invokevirtual 321, 3) := by decide +kernel
theorem dX12_mark_48 : decode cX12_mark 48 = .ok (.aload_n 0, 1) := by decide +kernel
theorem dX12_mark_49 : decode cX12_mark 49 = .ok (.getfield 96, 3) := by decide +kernel
theorem dX12_mark_52 : decode cX12_mark 52 = .ok (.sipush 144, 3) := by decide +kernel
theorem dX12_mark_55 : decode cX12_mark 55 = .ok (.iload_n 1, 1) := by decide +kernel
theorem dX12_mark_56 : decode cX12_mark 56 = .ok (.imul, 1) := by decide +kernel
theorem dX12_mark_57 : decode cX12_mark 57 = .ok (.aload_n 0, 1) := by decide +kernel
theorem dX12_mark_58 : decode cX12_mark 58 = .ok (.getfield 90, 3) := by decide +kernel
theorem dX12_mark_61 : decode cX12_mark 61 = .ok (.iconst 0, 1) := by decide +kernel
theorem dX12_mark_62 : decode cX12_mark 62 = .ok (.invokestatic 325, 3) := by decide +kernel
theorem dX12_mark_65 : decode cX12_mark 65 = .ok (.iconst 1, 1) := by decide +kernel
theorem dX12_mark_66 : decode cX12_mark 66 = .ok (.ireturn, 1) := by decide +kernel
theorem dX12_mark_67 : decode cX12_mark 67 = .ok (.aload_n 0, 1) := by decide +kernel
theorem dX12_mark_68 : decode cX12_mark 68 = .ok (.iconst 0, 1) := by decide +kernel
theorem dX12_mark_69 : decode cX12_mark 69 = .ok (.iconst 2, 1) := by decide +kernel
theorem dX12_mark_70 : decode cX12_mark 70 = .ok (.iload_n 1, 1) := by decide +kernel
theorem dX12_mark_71 : decode cX12_mark 71 = .ok (.iadd, 1) := by decide +kernel
theorem dX12_mark_72 : decode cX12_mark 72 = .ok (.invokevirtual 321, 3) := by decide +kernel
theorem dX12_mark_75 : decode cX12_mark 75 = .ok (.aload_n 0, 1) := by decide +kernel
theorem dX12_mark_76 : decode cX12_mark 76 = .ok (.getfield 90, 3) := by decide +kernel
theorem dX12_mark_79 : decode cX12_mark 79 = .ok (.iconst 0, 1) := by decide +kernel
theorem dX12_mark_80 : decode cX12_mark 80 = .ok (.aload_n 0, 1) := by decide +kernel
theorem dX12_mark_81 : decode cX12_mark 81 = .ok (.getfield 96, 3) := by decide +kernel
theorem dX12_mark_84 : decode cX12_mark 84 = .ok (.sipush 144, 3) := by decide +kernel
theorem dX12_mark_87 : decode cX12_mark 87 = .ok (.iload_n 1, 1) := by decide +kernel
theorem dX12_mark_88 : decode cX12_mark 88 = .ok (.imul, 1) := by decide +kernel
theorem dX12_mark_89 : decode cX12_mark 89 = .ok (.invokestatic 325, 3) := by decide +kernel
theorem dX12_mark_92 : decode cX12_mark 92 = .ok (.iconst 1, 1) := by decide +kernel
theorem dX12_mark_93 : decode cX12_mark 93 = .ok (.ireturn, 1) := by decide +kernel
theorem dX12_count_0 : decode cX12_count 0 = .ok (.aload_n 0, 1) := by decide +kernel
theorem dX12_count_1 : decode cX12_count 1 = .ok (.iconst 0, 1) := by decide +kernel
theorem dX12_count_2 : decode cX12_count 2 = .ok (.putfield 135, 3) := by decide +kernel
theorem dX12_count_5 : decode cX12_count 5 = .ok (.iload_n 1, 1) := by decide +kernel
theorem dX12_count_6 : decode cX12_count 6 = .ok (.iconst 0, 1) := by decide +kernel
theorem dX12_count_7 : decode cX12_count 7 = .ok (.bipush 6, 2) := by decide +kernel
theorem dX12_count_9 : decode cX12_count 9 = .ok (.invokestatic 250, 3) := by decide +kernel
theorem dX12_count_12 : decode cX12_count 12 = .ok (.ifCond .ne 5, 3) := by decide +kernel
theorem dX12_count_15 : decode cX12_count 15 = .ok (.iconst (-1), 1) := by decide +kernel
theorem dX12_count_16 : decode cX12_count 16 = .ok (.ireturn, 1) := by decide +kernel
theorem dX12_count_17 : decode cX12_count 17 = .ok (.iconst 0, 1) := by decide +kernel
theorem dX12_count_18 : decode cX12_count 18 = .ok (.istore_n 2, 1) := by decide +kernel
theorem dX12_count_19 : decode cX12_count 19 = .ok (.iconst 0, 1) := by decide +kernel
theorem dX12_count_20 : decode cX12_count 20 = .ok (.istore_n 3, 1) := by decide +kernel
theorem dX12_count_21 : decode cX12_count 21 = .ok (.iload_n 3, 1) := by decide +kernel
theorem dX12_count_22 : decode cX12_count 22 = .ok (.aload_n 0, 1) := by decide +kernel
theorem dX12_count_23 : decode cX12_count 23 = .ok (.getfield 13, 3) := by decide +kernel
theorem dX12_count_26 : decode cX12_count 26 = .ok (.iconst 0, 1) := by decide +kernel
theorem dX12_count_27 : decode cX12_count 27 = .ok (.iaload, 1) := by decide +kernel
theorem dX12_count_28 : decode cX12_count 28 = .ok (.if_icmp .ge 45, 3) := by decide +kernel
theorem dX12_count_31 : decode cX12_count 31 = .ok (.iload_n 1, 1) := by decide +kernel
theorem dX12_count_32 : decode cX12_count 32 = .ok (.iconst 3, 1) := by decide +kernel
theorem dX12_count_33 : decode cX12_count 33 = .ok (.if_icmp .le 40, 3) := by decide +kernel
theorem dX12_count_36 : decode cX12_count 36 = .ok (.iload_n 2, 1) := by decide +kernel
theorem dX12_count_37 : decode cX12_count 37 = .ok (.aload_n 0, 1) := by decide +kernel
theorem dX12_count_38 : decode cX12_count 38 = .ok (.getfield 90, 3) := by decide +kernel
theorem dX12_count_41 : decode cX12_count 41 = .ok (.iload_n 1, 1) := by decide +kernel
theorem dX12_count_42 : decode cX12_count 42 = .ok (.iconst 4, 1) := by decide +kernel
theorem dX12_count_43 : decode cX12_count 43 = .ok (.if_icmp .ne 8, 3) := by decide +kernel
theorem dX12_count_46 : decode cX12_count 46 = .ok (.bipush 121, 2) := by decide +kernel
theorem dX12_count_48 : decode cX12_count 48 = .ok (.goto 6, 3) := by decide +kernel
theorem dX12_count_51 : decode cX12_count 51 = .ok (.sipush 131, 3) := by decide +kernel
theorem dX12_count_54 : decode cX12_count 54 = .ok (.iload_n 3, 1) := by decide +kernel
theorem dX12_count_55 : decode cX12_count 55 = .ok (.iadd, 1) := by decide +kernel
theorem dX12_count_56 : decode cX12_count 56 = .ok (.iaload, 1) := by decide +kernel
theorem dX12_count_57 : decode cX12_count 57 = .ok (.ifCond .le 7, 3) := by decide +kernel
theorem dX12_count_60 : decode cX12_count 60 = .ok (.iconst 1, 1) := by decide +kernel
theorem dX12_count_61 : decode cX12_count 61 = .ok (.goto 4, 3) := by decide +kernel
theorem dX12_count_64 : decode cX12_count 64 = .ok (.iconst 0, 1) := by decide +kernel
theorem dX12_count_65 : decode cX12_count 65 = .ok (.iadd, 1) := by decide +kernel
theorem dX12_count_66 : decode cX12_count 66 = .ok (.istore_n 2, 1) := by decide +kernel
theorem dX12_count_67 : decode cX12_count 67 = .ok (.iinc 3 1, 3) := by decide +kernel
theorem dX12_count_70 : decode cX12_count 70 = .ok (.goto (-49), 3) := by decide +kernel
theorem dX12_count_73 : decode cX12_count 73 = .ok (.iload_n 1, 1) := by decide +kernel
theorem dX12_count_74 : decode cX12_count 74 = .ok (.ifCond .ne 12, 3) := by decide +kernel
theorem dX12_count_77 : decode cX12_count 77 = .ok (.aload_n 0, 1) := by decide +kernel
theorem dX12_count_78 : decode cX12_count 78 = .ok (.getfield 13, 3) := by decide +kernel
theorem dX12_count_81 : decode cX12_count 81 = .ok (.iconst 0, 1) := by decide +kernel
theorem dX12_count_82 : decode cX12_count 82 = .ok (.iaload, 1) := by decide +kernel
theorem dX12_count_83 : decode cX12_count 83 = .ok (.goto 59, 3) := by decide +kernel
theorem dX12_count_86 : decode cX12_count 86 = .ok (.iload_n 1, 1) := by decide +kernel
theorem dX12_count_87 : decode cX12_count 87 = .ok (.iconst 1, 1) := by decide +kernel
theorem dX12_count_88 : decode cX12_count 88 = .ok (.if_icmp .ne 12, 3) := by decide +kernel
theorem dX12_count_91 : decode cX12_count 91 = .ok (.aload_n 0, 1) := by decide +kernel
theorem dX12_count_92 : decode cX12_count 92 = .ok (.getfield 16, 3) := by decide +kernel
theorem dX12_count_95 : decode cX12_count 95 = .ok (.iconst 0, 1) := by decide +kernel
theorem dX12_count_96 : decode cX12_count 96 = .ok (.iaload, 1) := by decide +kernel
theorem dX12_count_97 : decode cX12_count 97 = .ok (.goto 45, 3) := by decide +kernel
theorem dX12_count_100 : decode cX12_count 100 = .ok (.iload_n 1, 1) := by decide +kernel
theorem dX12_count_101 : decode cX12_count 101 = .ok (.iconst 2, 1) := by decide +kernel
theorem dX12_count_102 : decode cX12_count 102 = .ok (.if_icmp .ne 12, 3) := by decide +kernel
theorem dX12_count_105 : decode cX12_count 105 = .ok (.aload_n 0, 1) := by decide +kernel
theorem dX12_count_106 : decode cX12_count 106 = .ok (.getfield 90, 3) := by decide +kernel
theorem dX12_count_109 : decode cX12_count 109 = .ok (.iconst 0, 1) := by decide +kernel
theorem dX12_count_110 : decode cX12_count 110 = .ok (.iaload, 1) := by decide +kernel
theorem dX12_count_111 : decode cX12_count 111 = .ok (.goto 31, 3) := by decide +kernel
theorem dX12_count_114 : decode cX12_count 114 = .ok (.iload_n 1, 1) := by decide +kernel
theorem dX12_count_115 : decode cX12_count 115 = .ok (.iconst 3, 1) := by decide +kernel
theorem dX12_count_116 : decode cX12_count 116 = .ok (.if_icmp .ne 12, 3) := by decide +kernel
theorem dX12_count_119 : decode cX12_count 119 = .ok (.aload_n 0, 1) := by decide +kernel
theorem dX12_count_120 : decode cX12_count 120 = .ok (.getfield 19, 3) := by decide +kernel
theorem dX12_count_123 : decode cX12_count 123 = .ok (.iconst 0, 1) := by decide +kernel
theorem dX12_count_124 : decode cX12_count 124 = .ok (.iaload, 1) := by decide +kernel
theorem dX12_count_125 : decode cX12_count 125 = .ok (.goto 17, 3) := by decide +kernel
theorem dX12_count_128 : decode cX12_count 128 = .ok (.iload_n 1, 1) := by decide +kernel
theorem dX12_count_129 : decode cX12_count 129 = .ok (.bipush 6, 2) := by decide +kernel
theorem dX12_count_131 : decode cX12_count 131 = .ok (.if_icmp .ge 7, 3) := by decide +kernel
theorem dX12_count_134 : decode cX12_count 134 = .ok (.iload_n 2, 1) := by decide +kernel
theorem dX12_count_135 : decode cX12_count 135 = .ok (.goto 7, 3) := by decide +kernel
theorem dX12_count_138 : decode cX12_count 138 = .ok (.aload_n 0, 1) := by decide +kernel
theorem dX12_count_139 : decode cX12_count 139 = .ok (.getfield 141, 3) := by decide +kernel
theorem dX12_count_142 : decode cX12_count 142 = .ok (.ireturn, 1) := by decide +kernel
theorem dJ6_numberOfTrailingZeros_0f7a4_0 : decode cJ6_numberOfTrailingZeros_0f7a4 0 = .ok (.iload_n 0, 1) := by decide +kernel
theorem dJ6_numberOfTrailingZeros_0f7a4_1 : decode cJ6_numberOfTrailingZeros_0f7a4 1 = .ok (.iconst (-1), 1) := by decide +kernel
theorem dJ6_numberOfTrailingZeros_0f7a4_2 : decode cJ6_numberOfTrailingZeros_0f7a4 2 = .ok (.ixor, 1) := by decide +kernel
theorem dJ6_numberOfTrailingZeros_0f7a4_3 : decode cJ6_numberOfTrailingZeros_0f7a4 3 = .ok (.iload_n 0, 1) := by decide +kernel
theorem dJ6_numberOfTrailingZeros_0f7a4_4 : decode cJ6_numberOfTrailingZeros_0f7a4 4 = .ok (.iconst 1, 1) := by decide +kernel
theorem dJ6_numberOfTrailingZeros_0f7a4_5 : decode cJ6_numberOfTrailingZeros_0f7a4 5 = .ok (.isub, 1) := by decide +kernel
theorem dJ6_numberOfTrailingZeros_0f7a4_6 : decode cJ6_numberOfTrailingZeros_0f7a4 6 = .ok (.iand, 1) := by decide +kernel
theorem dJ6_numberOfTrailingZeros_0f7a4_7 : decode cJ6_numberOfTrailingZeros_0f7a4 7 = .ok (.istore_n 0, 1) := by decide +kernel
theorem dJ6_numberOfTrailingZeros_0f7a4_8 : decode cJ6_numberOfTrailingZeros_0f7a4 8 = .ok (.iload_n 0, 1) := by decide +kernel
theorem dJ6_numberOfTrailingZeros_0f7a4_9 : decode cJ6_numberOfTrailingZeros_0f7a4 9 = .ok (.ifCond .gt 8, 3) := by decide +kernel
theorem dJ6_numberOfTrailingZeros_0f7a4_12 : decode cJ6_numberOfTrailingZeros_0f7a4 12 = .ok (.iload_n 0, 1) := by decide +kernel
theorem dJ6_numberOfTrailingZeros_0f7a4_13 : decode cJ6_numberOfTrailingZeros_0f7a4 13 = .ok (.bipush 32, 2) := by decide +kernel
theorem dJ6_numberOfTrailingZeros_0f7a4_15 : decode cJ6_numberOfTrailingZeros_0f7a4 15 = .ok (.iand, 1) := by decide +kernel
theorem dJ6_numberOfTrailingZeros_0f7a4_16 : decode cJ6_numberOfTrailingZeros_0f7a4 16 = .ok (.ireturn, 1) := by decide +kernel
theorem dJ6_numberOfTrailingZeros_0f7a4_17 : decode cJ6_numberOfTrailingZeros_0f7a4 17 = .ok (.iconst 1, 1) := by decide +kernel
theorem dJ6_numberOfTrailingZeros_0f7a4_18 : decode cJ6_numberOfTrailingZeros_0f7a4 18 = .ok (.istore_n 1, 1) := by decide +kernel
theorem dJ6_numberOfTrailingZeros_0f7a4_19 : decode cJ6_numberOfTrailingZeros_0f7a4 19 = .ok (.iload_n 0, 1) := by decide +kernel
theorem dJ6_numberOfTrailingZeros_0f7a4_20 : decode cJ6_numberOfTrailingZeros_0f7a4 20 = .ok (.ldc_w 264, 3) := by decide +kernel
theorem dJ6_numberOfTrailingZeros_0f7a4_23 : decode cJ6_numberOfTrailingZeros_0f7a4 23 = .ok (.if_icmp .le 11, 3) := by decide +kernel
theorem dJ6_numberOfTrailingZeros_0f7a4_26 : decode cJ6_numberOfTrailingZeros_0f7a4 26 = .ok (.iinc 1 16, 3) := by decide +kernel
theorem dJ6_numberOfTrailingZeros_0f7a4_29 : decode cJ6_numberOfTrailingZeros_0f7a4 29 = .ok (.iload_n 0, 1) := by decide +kernel
theorem dJ6_numberOfTrailingZeros_0f7a4_30 : decode cJ6_numberOfTrailingZeros_0f7a4 30 = .ok (.bipush 16, 2) := by decide +kernel
theorem dJ6_numberOfTrailingZeros_0f7a4_32 : decode cJ6_numberOfTrailingZeros_0f7a4 32 = .ok (.iushr, 1) := by decide +kernel
theorem dJ6_numberOfTrailingZeros_0f7a4_33 : decode cJ6_numberOfTrailingZeros_0f7a4 33 = .ok (.istore_n 0, 1) := by decide +kernel
theorem dJ6_numberOfTrailingZeros_0f7a4_34 : decode cJ6_numberOfTrailingZeros_0f7a4 34 = .ok (.iload_n 0, 1) := by decide +kernel
theorem dJ6_numberOfTrailingZeros_0f7a4_35 : decode cJ6_numberOfTrailingZeros_0f7a4 35 = .ok (.sipush 256, 3) := by decide +kernel
theorem dJ6_numberOfTrailingZeros_0f7a4_38 : decode cJ6_numberOfTrailingZeros_0f7a4 38 = .ok (.if_icmp .le 11, 3) := by decide +kernel
theorem dJ6_numberOfTrailingZeros_0f7a4_41 : decode cJ6_numberOfTrailingZeros_0f7a4 41 = .ok (.iinc 1 8, 3) := by decide +kernel
theorem dJ6_numberOfTrailingZeros_0f7a4_44 : decode cJ6_numberOfTrailingZeros_0f7a4 44 = .ok (.iload_n 0, 1) := by decide +kernel
theorem dJ6_numberOfTrailingZeros_0f7a4_45 : decode cJ6_numberOfTrailingZeros_0f7a4 45 = .ok (.bipush 8, 2) := by decide +kernel
theorem dJ6_numberOfTrailingZeros_0f7a4_47 : decode cJ6_numberOfTrailingZeros_0f7a4 47 = .ok (.iushr, 1) := by decide +kernel
theorem dJ6_numberOfTrailingZeros_0f7a4_48 : decode cJ6_numberOfTrailingZeros_0f7a4 48 = .ok (.istore_n 0, 1) := by decide +kernel
theorem dJ6_numberOfTrailingZeros_0f7a4_49 : decode cJ6_numberOfTrailingZeros_0f7a4 49 = .ok (.iload_n 0, 1) := by decide +kernel
theorem dJ6_numberOfTrailingZeros_0f7a4_50 : decode cJ6_numberOfTrailingZeros_0f7a4 50 = .ok (.bipush 16, 2) := by decide +kernel
theorem dJ6_numberOfTrailingZeros_0f7a4_52 : decode cJ6_numberOfTrailingZeros_0f7a4 52 = .ok (.if_icmp .le 10, 3) := by decide +kernel
theorem dJ6_numberOfTrailingZeros_0f7a4_55 : decode cJ6_numberOfTrailingZeros_0f7a4 55 = .ok (.iinc 1 4, 3) := by decide +kernel
theorem dJ6_numberOfTrailingZeros_0f7a4_58 : decode cJ6_numberOfTrailingZeros_0f7a4 58 = .ok (.iload_n 0, 1) := by decide +kernel
theorem dJ6_numberOfTrailingZeros_0f7a4_59 : decode cJ6_numberOfTrailingZeros_0f7a4 59 = .ok (.iconst 4, 1) := by decide +kernel
theorem dJ6_numberOfTrailingZeros_0f7a4_60 : decode cJ6_numberOfTrailingZeros_0f7a4 60 = .ok (.iushr, 1) := by decide +kernel
theorem dJ6_numberOfTrailingZeros_0f7a4_61 : decode cJ6_numberOfTrailingZeros_0f7a4 61 = .ok (.istore_n 0, 1) := by decide +kernel
theorem dJ6_numberOfTrailingZeros_0f7a4_62 : decode cJ6_numberOfTrailingZeros_0f7a4 62 = .ok (.iload_n 0, 1) := by decide +kernel
theorem dJ6_numberOfTrailingZeros_0f7a4_63 : decode cJ6_numberOfTrailingZeros_0f7a4 63 = .ok (.iconst 4, 1) := by decide +kernel
theorem dJ6_numberOfTrailingZeros_0f7a4_64 : decode cJ6_numberOfTrailingZeros_0f7a4 64 = .ok (.if_icmp .le 10, 3) := by decide +kernel
theorem dJ6_numberOfTrailingZeros_0f7a4_67 : decode cJ6_numberOfTrailingZeros_0f7a4 67 = .ok (.iinc 1 2, 3) := by decide +kernel
theorem dJ6_numberOfTrailingZeros_0f7a4_70 : decode cJ6_numberOfTrailingZeros_0f7a4 70 = .ok (.iload_n 0, 1) := by decide +kernel
theorem dJ6_numberOfTrailingZeros_0f7a4_71 : decode cJ6_numberOfTrailingZeros_0f7a4 71 = .ok (.iconst 2, 1) := by decide +kernel
theorem dJ6_numberOfTrailingZeros_0f7a4_72 : decode cJ6_numberOfTrailingZeros_0f7a4 72 = .ok (.iushr, 1) := by decide +kernel
theorem dJ6_numberOfTrailingZeros_0f7a4_73 : decode cJ6_numberOfTrailingZeros_0f7a4 73 = .ok (.istore_n 0, 1) := by decide +kernel
theorem dJ6_numberOfTrailingZeros_0f7a4_74 : decode cJ6_numberOfTrailingZeros_0f7a4 74 = .ok (.iload_n 1, 1) := by decide +kernel
theorem dJ6_numberOfTrailingZeros_0f7a4_75 : decode cJ6_numberOfTrailingZeros_0f7a4 75 = .ok (.iload_n 0, 1) := by decide +kernel
theorem dJ6_numberOfTrailingZeros_0f7a4_76 : decode cJ6_numberOfTrailingZeros_0f7a4 76 = .ok (.iconst 1, 1) := by decide +kernel
theorem dJ6_numberOfTrailingZeros_0f7a4_77 : decode cJ6_numberOfTrailingZeros_0f7a4 77 = .ok (.iushr, 1) := by decide +kernel
theorem dJ6_numberOfTrailingZeros_0f7a4_78 : decode cJ6_numberOfTrailingZeros_0f7a4 78 = .ok (.iadd, 1) := by decide +kernel
theorem dJ6_numberOfTrailingZeros_0f7a4_79 : decode cJ6_numberOfTrailingZeros_0f7a4 79 = .ok (.ireturn, 1) := by decide +kernel
theorem dJ6_bitCount_0f7a4_0 : decode cJ6_bitCount_0f7a4 0 = .ok (.iload_n 0, 1) := by decide +kernel
theorem dJ6_bitCount_0f7a4_1 : decode cJ6_bitCount_0f7a4 1 = .ok (.iload_n 0, 1) := by decide +kernel
theorem dJ6_bitCount_0f7a4_2 : decode cJ6_bitCount_0f7a4 2 = .ok (.iconst 1, 1) := by decide +kernel
theorem dJ6_bitCount_0f7a4_3 : decode cJ6_bitCount_0f7a4 3 = .ok (.iushr, 1) := by decide +kernel
theorem dJ6_bitCount_0f7a4_4 : decode cJ6_bitCount_0f7a4 4 = .ok (.ldc_w 265, 3) := by decide +kernel
theorem dJ6_bitCount_0f7a4_7 : decode cJ6_bitCount_0f7a4 7 = .ok (.iand, 1) := by decide +kernel
theorem dJ6_bitCount_0f7a4_8 : decode cJ6_bitCount_0f7a4 8 = .ok (.isub, 1) := by decide +kernel
theorem dJ6_bitCount_0f7a4_9 : decode cJ6_bitCount_0f7a4 9 = .ok (.istore_n 0, 1) := by decide +kernel
theorem dJ6_bitCount_0f7a4_10 : decode cJ6_bitCount_0f7a4 10 = .ok (.iload_n 0, 1) := by decide +kernel
theorem dJ6_bitCount_0f7a4_11 : decode cJ6_bitCount_0f7a4 11 = .ok (.ldc_w 266, 3) := by decide +kernel
theorem dJ6_bitCount_0f7a4_14 : decode cJ6_bitCount_0f7a4 14 = .ok (.iand, 1) := by decide +kernel
theorem dJ6_bitCount_0f7a4_15 : decode cJ6_bitCount_0f7a4 15 = .ok (.iload_n 0, 1) := by decide +kernel
theorem dJ6_bitCount_0f7a4_16 : decode cJ6_bitCount_0f7a4 16 = .ok (.iconst 2, 1) := by decide +kernel
theorem dJ6_bitCount_0f7a4_17 : decode cJ6_bitCount_0f7a4 17 = .ok (.iushr, 1) := by decide +kernel
theorem dJ6_bitCount_0f7a4_18 : decode cJ6_bitCount_0f7a4 18 = .ok (.ldc_w 266, 3) := by decide +kernel
theorem dJ6_bitCount_0f7a4_21 : decode cJ6_bitCount_0f7a4 21 = .ok (.iand, 1) := by decide +kernel
theorem dJ6_bitCount_0f7a4_22 : decode cJ6_bitCount_0f7a4 22 = .ok (.iadd, 1) := by decide +kernel
theorem dJ6_bitCount_0f7a4_23 : decode cJ6_bitCount_0f7a4 23 = .ok (.istore_n 0, 1) := by decide +kernel
theorem dJ6_bitCount_0f7a4_24 : decode cJ6_bitCount_0f7a4 24 = .ok (.iload_n 0, 1) := by decide +kernel
theorem dJ6_bitCount_0f7a4_25 : decode cJ6_bitCount_0f7a4 25 = .ok (.iload_n 0, 1) := by decide +kernel
theorem dJ6_bitCount_0f7a4_26 : decode cJ6_bitCount_0f7a4 26 = .ok (.iconst 4, 1) := by decide +kernel
theorem dJ6_bitCount_0f7a4_27 : decode cJ6_bitCount_0f7a4 27 = .ok (.iushr, 1) := by decide +kernel
theorem dJ6_bitCount_0f7a4_28 : decode cJ6_bitCount_0f7a4 28 = .ok (.iadd, 1) := by decide +kernel
theorem dJ6_bitCount_0f7a4_29 : decode cJ6_bitCount_0f7a4 29 = .ok (.ldc_w 267, 3) := by decide +kernel
theorem dJ6_bitCount_0f7a4_32 : decode cJ6_bitCount_0f7a4 32 = .ok (.iand, 1) := by decide +kernel
theorem dJ6_bitCount_0f7a4_33 : decode cJ6_bitCount_0f7a4 33 = .ok (.istore_n 0, 1) := by decide +kernel
theorem dJ6_bitCount_0f7a4_34 : decode cJ6_bitCount_0f7a4 34 = .ok (.iload_n 0, 1) := by decide +kernel
theorem dJ6_bitCount_0f7a4_35 : decode cJ6_bitCount_0f7a4 35 = .ok (.iload_n 0, 1) := by decide +kernel
theorem dJ6_bitCount_0f7a4_36 : decode cJ6_bitCount_0f7a4 36 = .ok (.bipush 8, 2) := by decide +kernel
theorem dJ6_bitCount_0f7a4_38 : decode cJ6_bitCount_0f7a4 38 = .ok (.iushr, 1) := by decide +kernel
theorem dJ6_bitCount_0f7a4_39 : decode cJ6_bitCount_0f7a4 39 = .ok (.iadd, 1) := by decide +kernel
theorem dJ6_bitCount_0f7a4_40 : decode cJ6_bitCount_0f7a4 40 = .ok (.istore_n 0, 1) := by decide +kernel
theorem dJ6_bitCount_0f7a4_41 : decode cJ6_bitCount_0f7a4 41 = .ok (.iload_n 0, 1) := by decide +kernel
theorem dJ6_bitCount_0f7a4_42 : decode cJ6_bitCount_0f7a4 42 = .ok (.iload_n 0, 1) := by decide +kernel
theorem dJ6_bitCount_0f7a4_43 : decode cJ6_bitCount_0f7a4 43 = .ok (.bipush 16, 2) := by decide +kernel
theorem dJ6_bitCount_0f7a4_45 : decode cJ6_bitCount_0f7a4 45 = .ok (.iushr, 1) := by decide +kernel
theorem dJ6_bitCount_0f7a4_46 : decode cJ6_bitCount_0f7a4 46 = .ok (.iadd, 1) := by decide +kernel
theorem dJ6_bitCount_0f7a4_47 : decode cJ6_bitCount_0f7a4 47 = .ok (.istore_n 0, 1) := by decide +kernel
theorem dJ6_bitCount_0f7a4_48 : decode cJ6_bitCount_0f7a4 48 = .ok (.iload_n 0, 1) := by decide +kernel
theorem dJ6_bitCount_0f7a4_49 : decode cJ6_bitCount_0f7a4 49 = .ok (.bipush 63, 2) := by decide +kernel
theorem dJ6_bitCount_0f7a4_51 : decode cJ6_bitCount_0f7a4 51 = .ok (.iand, 1) := by decide +kernel
theorem dJ6_bitCount_0f7a4_52 : decode cJ6_bitCount_0f7a4 52 = .ok (.ireturn, 1) := by decide +kernel
theorem dJ13_bitCount_95d88_0 : decode cJ13_bitCount_95d88 0 = .ok (.lload_n 0, 1) := by decide +kernel
theorem dJ13_bitCount_95d88_1 : decode cJ13_bitCount_95d88 1 = .ok (.lload_n 0, 1) := by decide +kernel
theorem dJ13_bitCount_95d88_2 : decode cJ13_bitCount_95d88 2 = .ok (.iconst 1, 1) := by decide +kernel
theorem dJ13_bitCount_95d88_3 : decode cJ13_bitCount_95d88 3 = .ok (.lushr, 1) := by decide +kernel
theorem dJ13_bitCount_95d88_4 : decode cJ13_bitCount_95d88 4 = .ok (.ldc2_w 314, 3) := by decide +kernel
theorem dJ13_bitCount_95d88_7 : decode cJ13_bitCount_95d88 7 = .ok (.land, 1) := by decide +kernel
theorem dJ13_bitCount_95d88_8 : decode cJ13_bitCount_95d88 8 = .ok (.lsub, 1) := by decide +kernel
theorem dJ13_bitCount_95d88_9 : decode cJ13_bitCount_95d88 9 = .ok (.lstore_n 0, 1) := by decide +kernel
theorem dJ13_bitCount_95d88_10 : decode cJ13_bitCount_95d88 10 = .ok (.lload_n 0, 1) := by decide +kernel
theorem dJ13_bitCount_95d88_11 : decode cJ13_bitCount_95d88 11 = .ok (.ldc2_w 316, 3) := by decide +kernel
theorem dJ13_bitCount_95d88_14 : decode cJ13_bitCount_95d88 14 = .ok (.land, 1) := by decide +kernel
theorem dJ13_bitCount_95d88_15 : decode cJ13_bitCount_95d88 15 = .ok (.lload_n 0, 1) := by decide +kernel
theorem dJ13_bitCount_95d88_16 : decode cJ13_bitCount_95d88 16 = .ok (.iconst 2, 1) := by decide +kernel
theorem dJ13_bitCount_95d88_17 : decode cJ13_bitCount_95d88 17 = .ok (.lushr, 1) := by decide +kernel
theorem dJ13_bitCount_95d88_18 : decode cJ13_bitCount_95d88 18 = .ok (.ldc2_w 316, 3) := by decide +kernel
theorem dJ13_bitCount_95d88_21 : decode cJ13_bitCount_95d88 21 = .ok (.land, 1) := by decide +kernel
theorem dJ13_bitCount_95d88_22 : decode cJ13_bitCount_95d88 22 = .ok (.ladd, 1) := by decide +kernel
theorem dJ13_bitCount_95d88_23 : decode cJ13_bitCount_95d88 23 = .ok (.lstore_n 0, 1) := by decide +kernel
theorem dJ13_bitCount_95d88_24 : decode cJ13_bitCount_95d88 24 = .ok (.lload_n 0, 1) := by decide +kernel
theorem dJ13_bitCount_95d88_25 : decode cJ13_bitCount_95d88 25 = .ok (.lload_n 0, 1) := by decide +kernel
theorem dJ13_bitCount_95d88_26 : decode cJ13_bitCount_95d88 26 = .ok (.iconst 4, 1) := by decide +kernel
theorem dJ13_bitCount_95d88_27 : decode cJ13_bitCount_95d88 27 = .ok (.lushr, 1) := by decide +kernel
theorem dJ13_bitCount_95d88_28 : decode cJ13_bitCount_95d88 28 = .ok (.ladd, 1) := by decide +kernel
theorem dJ13_bitCount_95d88_29 : decode cJ13_bitCount_95d88 29 = .ok (.ldc2_w 318, 3) := by decide +kernel
theorem dJ13_bitCount_95d88_32 : decode cJ13_bitCount_95d88 32 = .ok (.land, 1) := by decide +kernel
theorem dJ13_bitCount_95d88_33 : decode cJ13_bitCount_95d88 33 = .ok (.lstore_n 0, 1) := by decide +kernel
theorem dJ13_bitCount_95d88_34 : decode cJ13_bitCount_95d88 34 = .ok (.lload_n 0, 1) := by decide +kernel
theorem dJ13_bitCount_95d88_35 : decode cJ13_bitCount_95d88 35 = .ok (.lload_n 0, 1) := by decide +kernel
theorem dJ13_bitCount_95d88_36 : decode cJ13_bitCount_95d88 36 = .ok (.bipush 8, 2) := by decide +kernel
theorem dJ13_bitCount_95d88_38 : decode cJ13_bitCount_95d88 38 = .ok (.lushr, 1) := by decide +kernel
theorem dJ13_bitCount_95d88_39 : decode cJ13_bitCount_95d88 39 = .ok (.ladd, 1) := by decide +kernel
theorem dJ13_bitCount_95d88_40 : decode cJ13_bitCount_95d88 40 = .ok (.lstore_n 0, 1) := by decide +kernel
theorem dJ13_bitCount_95d88_41 : decode cJ13_bitCount_95d88 41 = .ok (.lload_n 0, 1) := by decide +kernel
theorem dJ13_bitCount_95d88_42 : decode cJ13_bitCount_95d88 42 = .ok (.lload_n 0, 1) := by decide +kernel
theorem dJ13_bitCount_95d88_43 : decode cJ13_bitCount_95d88 43 = .ok (.bipush 16, 2) := by decide +kernel
theorem dJ13_bitCount_95d88_45 : decode cJ13_bitCount_95d88 45 = .ok (.lushr, 1) := by decide +kernel
theorem dJ13_bitCount_95d88_46 : decode cJ13_bitCount_95d88 46 = .ok (.ladd, 1) := by decide +kernel
theorem dJ13_bitCount_95d88_47 : decode cJ13_bitCount_95d88 47 = .ok (.lstore_n 0, 1) := by decide +kernel
theorem dJ13_bitCount_95d88_48 : decode cJ13_bitCount_95d88 48 = .ok (.lload_n 0, 1) := by decide +kernel
theorem dJ13_bitCount_95d88_49 : decode cJ13_bitCount_95d88 49 = .ok (.lload_n 0, 1) := by decide +kernel
theorem dJ13_bitCount_95d88_50 : decode cJ13_bitCount_95d88 50 = .ok (.bipush 32, 2) := by decide +kernel
theorem dJ13_bitCount_95d88_52 : decode cJ13_bitCount_95d88 52 = .ok (.lushr, 1) := by decide +kernel
theorem dJ13_bitCount_95d88_53 : decode cJ13_bitCount_95d88 53 = .ok (.ladd, 1) := by decide +kernel
theorem dJ13_bitCount_95d88_54 : decode cJ13_bitCount_95d88 54 = .ok (.lstore_n 0, 1) := by decide +kernel
theorem dJ13_bitCount_95d88_55 : decode cJ13_bitCount_95d88 55 = .ok (.lload_n 0, 1) := by decide +kernel
theorem dJ13_bitCount_95d88_56 : decode cJ13_bitCount_95d88 56 = .ok (.l2i, 1) := by decide +kernel
theorem dJ13_bitCount_95d88_57 : decode cJ13_bitCount_95d88 57 = .ok (.bipush 127, 2) := by decide +kernel
theorem dJ13_bitCount_95d88_59 : decode cJ13_bitCount_95d88 59 = .ok (.iand, 1) := by decide +kernel
theorem dJ13_bitCount_95d88_60 : decode cJ13_bitCount_95d88 60 = .ok (.ireturn, 1) := by decide +kernel
theorem dJ9_max_7cf53_0 : decode cJ9_max_7cf53 0 = .ok (.iload_n 0, 1) := by decide +kernel
theorem dJ9_max_7cf53_1 : decode cJ9_max_7cf53 1 = .ok (.iload_n 1, 1) := by decide +kernel
theorem dJ9_max_7cf53_2 : decode cJ9_max_7cf53 2 = .ok (.if_icmp .lt 7, 3) := by decide +kernel
theorem dJ9_max_7cf53_5 : decode cJ9_max_7cf53 5 = .ok (.iload_n 0, 1) := by decide +kernel
theorem dJ9_max_7cf53_6 : decode cJ9_max_7cf53 6 = .ok (.goto 4, 3) := by decide +kernel
theorem dJ9_max_7cf53_9 : decode cJ9_max_7cf53 9 = .ok (.iload_n 1, 1) := by decide +kernel
theorem dJ9_max_7cf53_10 : decode cJ9_max_7cf53 10 = .ok (.ireturn, 1) := by decide +kernel
theorem dJ9_max_f86c9_0 : decode cJ9_max_f86c9 0 = .ok (.lload_n 0, 1) := by decide +kernel
theorem dJ9_max_f86c9_1 : decode cJ9_max_f86c9 1 = .ok (.lload_n 2, 1) := by decide +kernel
theorem dJ9_max_f86c9_2 : decode cJ9_max_f86c9 2 = .ok (.lcmp, 1) := by decide +kernel
theorem dJ9_max_f86c9_3 : decode cJ9_max_f86c9 3 = .ok (.ifCond .lt 7, 3) := by decide +kernel
theorem dJ9_max_f86c9_6 : decode cJ9_max_f86c9 6 = .ok (.lload_n 0, 1) := by decide +kernel
theorem dJ9_max_f86c9_7 : decode cJ9_max_f86c9 7 = .ok (.goto 4, 3) := by decide +kernel
theorem dJ9_max_f86c9_10 : decode cJ9_max_f86c9 10 = .ok (.lload_n 2, 1) := by decide +kernel
theorem dJ9_max_f86c9_11 : decode cJ9_max_f86c9 11 = .ok (.lreturn, 1) := by decide +kernel
theorem dJ9_min_7cf53_0 : decode cJ9_min_7cf53 0 = .ok (.iload_n 0, 1) := by decide +kernel
theorem dJ9_min_7cf53_1 : decode cJ9_min_7cf53 1 = .ok (.iload_n 1, 1) := by decide +kernel
theorem dJ9_min_7cf53_2 : decode cJ9_min_7cf53 2 = .ok (.if_icmp .gt 7, 3) := by decide +kernel
theorem dJ9_min_7cf53_5 : decode cJ9_min_7cf53 5 = .ok (.iload_n 0, 1) := by decide +kernel
theorem dJ9_min_7cf53_6 : decode cJ9_min_7cf53 6 = .ok (.goto 4, 3) := by decide +kernel
theorem dJ9_min_7cf53_9 : decode cJ9_min_7cf53 9 = .ok (.iload_n 1, 1) := by decide +kernel
theorem dJ9_min_7cf53_10 : decode cJ9_min_7cf53 10 = .ok (.ireturn, 1) := by decide +kernel
theorem dJ7_fill_d0a16_0 : decode cJ7_fill_d0a16 0 = .ok (.iconst 0, 1) := by decide +kernel
theorem dJ7_fill_d0a16_1 : decode cJ7_fill_d0a16 1 = .ok (.istore_n 3, 1) := by decide +kernel
theorem dJ7_fill_d0a16_2 : decode cJ7_fill_d0a16 2 = .ok (.aload_n 0, 1) := by decide +kernel
theorem dJ7_fill_d0a16_3 : decode cJ7_fill_d0a16 3 = .ok (.arraylength, 1) := by decide +kernel
theorem dJ7_fill_d0a16_4 : decode cJ7_fill_d0a16 4 = .ok (.istore 4, 2) := by decide +kernel
theorem dJ7_fill_d0a16_6 : decode cJ7_fill_d0a16 6 = .ok (.iload_n 3, 1) := by decide +kernel
theorem dJ7_fill_d0a16_7 : decode cJ7_fill_d0a16 7 = .ok (.iload 4, 2) := by decide +kernel
theorem dJ7_fill_d0a16_9 : decode cJ7_fill_d0a16 9 = .ok (.if_icmp .ge 13, 3) := by decide +kernel
theorem dJ7_fill_d0a16_12 : decode cJ7_fill_d0a16 12 = .ok (.aload_n 0, 1) := by decide +kernel
theorem dJ7_fill_d0a16_13 : decode cJ7_fill_d0a16 13 = .ok (.iload_n 3, 1) := by decide +kernel
theorem dJ7_fill_d0a16_14 : decode cJ7_fill_d0a16 14 = .ok (.lload_n 1, 1) := by decide +kernel
theorem dJ7_fill_d0a16_15 : decode cJ7_fill_d0a16 15 = .ok (.lastore, 1) := by decide +kernel
theorem dJ7_fill_d0a16_16 : decode cJ7_fill_d0a16 16 = .ok (.iinc 3 1, 3) := by decide +kernel
theorem dJ7_fill_d0a16_19 : decode cJ7_fill_d0a16 19 = .ok (.goto (-13), 3) := by decide +kernel
theorem dJ7_fill_d0a16_22 : decode cJ7_fill_d0a16 22 = .ok (.return_, 1) := by decide +kernel
theorem dJ7_fill_53178_0 : decode cJ7_fill_53178 0 = .ok (.iconst 0, 1) := by decide +kernel
theorem dJ7_fill_53178_1 : decode cJ7_fill_53178 1 = .ok (.istore_n 2, 1) := by decide +kernel
theorem dJ7_fill_53178_2 : decode cJ7_fill_53178 2 = .ok (.aload_n 0, 1) := by decide +kernel
theorem dJ7_fill_53178_3 : decode cJ7_fill_53178 3 = .ok (.arraylength, 1) := by decide +kernel
theorem dJ7_fill_53178_4 : decode cJ7_fill_53178 4 = .ok (.istore_n 3, 1) := by decide +kernel
theorem dJ7_fill_53178_5 : decode cJ7_fill_53178 5 = .ok (.iload_n 2, 1) := by decide +kernel
theorem dJ7_fill_53178_6 : decode cJ7_fill_53178 6 = .ok (.iload_n 3, 1) := by decide +kernel
theorem dJ7_fill_53178_7 : decode cJ7_fill_53178 7 = .ok (.if_icmp .ge 13, 3) := by decide +kernel
theorem dJ7_fill_53178_10 : decode cJ7_fill_53178 10 = .ok (.aload_n 0, 1) := by decide +kernel
theorem dJ7_fill_53178_11 : decode cJ7_fill_53178 11 = .ok (.iload_n 2, 1) := by decide +kernel
theorem dJ7_fill_53178_12 : decode cJ7_fill_53178 12 = .ok (.iload_n 1, 1) := by decide +kernel
theorem dJ7_fill_53178_13 : decode cJ7_fill_53178 13 = .ok (.iastore, 1) := by decide +kernel
theorem dJ7_fill_53178_14 : decode cJ7_fill_53178 14 = .ok (.iinc 2 1, 3) := by decide +kernel
theorem dJ7_fill_53178_17 : decode cJ7_fill_53178 17 = .ok (.goto (-12), 3) := by decide +kernel
theorem dJ7_fill_53178_20 : decode cJ7_fill_53178 20 = .ok (.return_, 1) := by decide +kernel
theorem dJ7_copyOf_59c91_0 : decode cJ7_copyOf_59c91 0 = .ok (.iload_n 1, 1) := by decide +kernel
theorem dJ7_copyOf_59c91_1 : decode cJ7_copyOf_59c91 1 = .ok (.aload_n 0, 1) := by decide +kernel
theorem dJ7_copyOf_59c91_2 : decode cJ7_copyOf_59c91 2 = .ok (.arraylength, 1) := by decide +kernel
theorem dJ7_copyOf_59c91_3 : decode cJ7_copyOf_59c91 3 = .ok (.if_icmp .ne 11, 3) := by decide +kernel
theorem dJ7_copyOf_59c91_6 : decode cJ7_copyOf_59c91 6 = .ok (.aload_n 0, 1) := by decide +kernel
theorem dJ7_copyOf_59c91_7 : decode cJ7_copyOf_59c91 7 = .ok (.invokevirtual 316, 3) := by decide +kernel
theorem dJ7_copyOf_59c91_10 : decode cJ7_copyOf_59c91 10 = .ok (.checkcast 317, 3) := by decide +kernel
theorem dJ7_copyOf_59c91_13 : decode cJ7_copyOf_59c91 13 = .ok (.areturn, 1) := by decide +kernel
theorem dJ7_copyOf_59c91_14 : decode cJ7_copyOf_59c91 14 = .ok (.iload_n 1, 1) := by decide +kernel
theorem dJ7_copyOf_59c91_15 : decode cJ7_copyOf_59c91 15 = .ok (.newarray .int, 2) := by decide +kernel
theorem dJ7_copyOf_59c91_17 : decode cJ7_copyOf_59c91 17 = .ok (.astore_n 2, 1) := by decide +kernel
theorem dJ7_copyOf_59c91_18 : decode cJ7_copyOf_59c91 18 = .ok (.aload_n 0, 1) := by decide +kernel
theorem dJ7_copyOf_59c91_19 : decode cJ7_copyOf_59c91 19 = .ok (.iconst 0, 1) := by decide +kernel
theorem dJ7_copyOf_59c91_20 : decode cJ7_copyOf_59c91 20 = .ok (.aload_n 2, 1) := by decide +kernel
theorem dJ7_copyOf_59c91_21 : decode cJ7_copyOf_59c91 21 = .ok (.iconst 0, 1) := by decide +kernel
theorem dJ7_copyOf_59c91_22 : decode cJ7_copyOf_59c91 22 = .ok (.aload_n 0, 1) := by decide +kernel
theorem dJ7_copyOf_59c91_23 : decode cJ7_copyOf_59c91 23 = .ok (.arraylength, 1) := by decide +kernel
theorem dJ7_copyOf_59c91_24 : decode cJ7_copyOf_59c91 24 = .ok (.iload_n 1, 1) := by decide +kernel
theorem dJ7_copyOf_59c91_25 : decode cJ7_copyOf_59c91 25 = .ok (.invokestatic 304, 3) := by decide +kernel
theorem dJ7_copyOf_59c91_28 : decode cJ7_copyOf_59c91 28 = .ok (.invokestatic 150, 3) := by decide +kernel
theorem dJ7_copyOf_59c91_31 : decode cJ7_copyOf_59c91 31 = .ok (.aload_n 2, 1) := by decide +kernel
theorem dJ7_copyOf_59c91_32 : decode cJ7_copyOf_59c91 32 = .ok (.areturn, 1) := by decide +kernel
theorem dL_hidden_0 : decode cL_hidden 0 = .ok (.aload_n 2, 1) := by decide +kernel
theorem dL_hidden_1 : decode cL_hidden 1 = .ok (.iconst 0, 1) := by decide +kernel
theorem dL_hidden_2 : decode cL_hidden 2 = .ok (.aload_n 0, 1) := by decide +kernel
theorem dL_hidden_3 : decode cL_hidden 3 = .ok (.iload_n 1, 1) := by decide +kernel
theorem dL_hidden_4 : decode cL_hidden 4 = .ok (.invokevirtual 7, 3) := by decide +kernel
theorem dL_hidden_7 : decode cL_hidden 7 = .ok (.i2l, 1) := by decide +kernel
theorem dL_hidden_8 : decode cL_hidden 8 = .ok (.lastore, 1) := by decide +kernel
theorem dL_hidden_9 : decode cL_hidden 9 = .ok (.goto 6, 3) := by decide +kernel
theorem dL_hidden_12 : decode cL_hidden 12 = .ok (.astore_n 3, 1) := by decide +kernel
theorem dL_hidden_13 : decode cL_hidden 13 = .ok (.iconst 1, 1) := by decide +kernel
theorem dL_hidden_14 : decode cL_hidden 14 = .ok (.ireturn, 1) := by decide +kernel
theorem dL_hidden_15 : decode cL_hidden 15 = .ok (.iconst 0, 1) := by decide +kernel
theorem dL_hidden_16 : decode cL_hidden 16 = .ok (.ireturn, 1) := by decide +kernel
theorem dL_law_0 : decode cL_law 0 = .ok (.new 8, 3) := by decide +kernel
theorem dL_law_3 : decode cL_law 3 = .ok (.dup, 1) := by decide +kernel
theorem dL_law_4 : decode cL_law 4 = .ok (.invokespecial 15, 3) := by decide +kernel
theorem dL_law_7 : decode cL_law 7 = .ok (.astore_n 1, 1) := by decide +kernel
theorem dL_law_8 : decode cL_law 8 = .ok (.new 16, 3) := by decide +kernel
theorem dL_law_11 : decode cL_law 11 = .ok (.dup, 1) := by decide +kernel
theorem dL_law_12 : decode cL_law 12 = .ok (.invokespecial 18, 3) := by decide +kernel
theorem dL_law_15 : decode cL_law 15 = .ok (.astore_n 2, 1) := by decide +kernel
theorem dL_law_16 : decode cL_law 16 = .ok (.iconst 1, 1) := by decide +kernel
theorem dL_law_17 : decode cL_law 17 = .ok (.newarray .long, 2) := by decide +kernel
theorem dL_law_19 : decode cL_law 19 = .ok (.astore_n 3, 1) := by decide +kernel
theorem dL_law_20 : decode cL_law 20 = .ok (.iconst 0, 1) := by decide +kernel
theorem dL_law_21 : decode cL_law 21 = .ok (.istore 4, 2) := by decide +kernel
theorem dL_law_23 : decode cL_law 23 = .ok (.iload 4, 2) := by decide +kernel
theorem dL_law_25 : decode cL_law 25 = .ok (.aload_n 0, 1) := by decide +kernel
theorem dL_law_26 : decode cL_law 26 = .ok (.arraylength, 1) := by decide +kernel
theorem dL_law_27 : decode cL_law 27 = .ok (.bipush 7, 2) := by decide +kernel
theorem dL_law_29 : decode cL_law 29 = .ok (.isub, 1) := by decide +kernel
theorem dL_law_30 : decode cL_law 30 = .ok (.if_icmp .gt 1057, 3) := by decide +kernel
theorem dL_law_33 : decode cL_law 33 = .ok (.aload_n 0, 1) := by decide +kernel
theorem dL_law_34 : decode cL_law 34 = .ok (.iload 4, 2) := by decide +kernel
theorem dL_law_36 : decode cL_law 36 = .ok (.iaload, 1) := by decide +kernel
theorem dL_law_37 : decode cL_law 37 = .ok (.bipush 31, 2) := by decide +kernel
theorem dL_law_39 : decode cL_law 39 = .ok (.iand, 1) := by decide +kernel
theorem dL_law_40 : decode cL_law 40 = .ok (.tableswitch 1041 0 26 #[124, 271, 284, 321, 370, 383, 420, 433, 470, 507, 532, 557, 570, 583, 633, 658, 671, 696, 733, 770, 783, 839, 876, 889, 926, 963, 1016], 124) := by decide +kernel
theorem dL_law_164 : decode cL_law 164 = .ok (.aload_n 1, 1) := by decide +kernel
theorem dL_law_165 : decode cL_law 165 = .ok (.aload_n 0, 1) := by decide +kernel
theorem dL_law_166 : decode cL_law 166 = .ok (.iload 4, 2) := by decide +kernel
theorem dL_law_168 : decode cL_law 168 = .ok (.iconst 1, 1) := by decide +kernel
theorem dL_law_169 : decode cL_law 169 = .ok (.iadd, 1) := by decide +kernel
theorem dL_law_170 : decode cL_law 170 = .ok (.iaload, 1) := by decide +kernel
theorem dL_law_171 : decode cL_law 171 = .ok (.i2l, 1) := by decide +kernel
theorem dL_law_172 : decode cL_law 172 = .ok (.bipush 32, 2) := by decide +kernel
theorem dL_law_174 : decode cL_law 174 = .ok (.lshl, 1) := by decide +kernel
theorem dL_law_175 : decode cL_law 175 = .ok (.aload_n 0, 1) := by decide +kernel
theorem dL_law_176 : decode cL_law 176 = .ok (.iload 4, 2) := by decide +kernel
theorem dL_law_178 : decode cL_law 178 = .ok (.iconst 2, 1) := by decide +kernel
theorem dL_law_179 : decode cL_law 179 = .ok (.iadd, 1) := by decide +kernel
theorem dL_law_180 : decode cL_law 180 = .ok (.iaload, 1) := by decide +kernel
theorem dL_law_181 : decode cL_law 181 = .ok (.i2l, 1) := by decide +kernel
theorem dL_law_182 : decode cL_law 182 = .ok (.ldc2_w 19, 3) := by decide +kernel
theorem dL_law_185 : decode cL_law 185 = .ok (.land, 1) := by decide +kernel
theorem dL_law_186 : decode cL_law 186 = .ok (.lor, 1) := by decide +kernel
theorem dL_law_187 : decode cL_law 187 = .ok (.aload_n 0, 1) := by decide +kernel
theorem dL_law_188 : decode cL_law 188 = .ok (.iload 4, 2) := by decide +kernel
theorem dL_law_190 : decode cL_law 190 = .ok (.iconst 3, 1) := by decide +kernel
theorem dL_law_191 : decode cL_law 191 = .ok (.iadd, 1) := by decide +kernel
theorem dL_law_192 : decode cL_law 192 = .ok (.iaload, 1) := by decide +kernel
theorem dL_law_193 : decode cL_law 193 = .ok (.i2l, 1) := by decide +kernel
theorem dL_law_194 : decode cL_law 194 = .ok (.bipush 32, 2) := by decide +kernel
theorem dL_law_196 : decode cL_law 196 = .ok (.lshl, 1) := by decide +kernel
theorem dL_law_197 : decode cL_law 197 = .ok (.aload_n 0, 1) := by decide +kernel
theorem dL_law_198 : decode cL_law 198 = .ok (.iload 4, 2) := by decide +kernel
theorem dL_law_200 : decode cL_law 200 = .ok (.iconst 4, 1) := by decide +kernel
theorem dL_law_201 : decode cL_law 201 = .ok (.iadd, 1) := by decide +kernel
theorem dL_law_202 : decode cL_law 202 = .ok (.iaload, 1) := by decide +kernel
theorem dL_law_203 : decode cL_law 203 = .ok (.i2l, 1) := by decide +kernel
theorem dL_law_204 : decode cL_law 204 = .ok (.ldc2_w 19, 3) := by decide +kernel
theorem dL_law_207 : decode cL_law 207 = .ok (.land, 1) := by decide +kernel
theorem dL_law_208 : decode cL_law 208 = .ok (.lor, 1) := by decide +kernel
theorem dL_law_209 : decode cL_law 209 = .ok (.aload_n 0, 1) := by decide +kernel
theorem dL_law_210 : decode cL_law 210 = .ok (.iload 4, 2) := by decide +kernel
theorem dL_law_212 : decode cL_law 212 = .ok (.iconst 5, 1) := by decide +kernel
theorem dL_law_213 : decode cL_law 213 = .ok (.iadd, 1) := by decide +kernel
theorem dL_law_214 : decode cL_law 214 = .ok (.iaload, 1) := by decide +kernel
theorem dL_law_215 : decode cL_law 215 = .ok (.i2l, 1) := by decide +kernel
theorem dL_law_216 : decode cL_law 216 = .ok (.bipush 32, 2) := by decide +kernel
theorem dL_law_218 : decode cL_law 218 = .ok (.lshl, 1) := by decide +kernel
theorem dL_law_219 : decode cL_law 219 = .ok (.aload_n 0, 1) := by decide +kernel
theorem dL_law_220 : decode cL_law 220 = .ok (.iload 4, 2) := by decide +kernel
theorem dL_law_222 : decode cL_law 222 = .ok (.bipush 6, 2) := by decide +kernel
theorem dL_law_224 : decode cL_law 224 = .ok (.iadd, 1) := by decide +kernel
theorem dL_law_225 : decode cL_law 225 = .ok (.iaload, 1) := by decide +kernel
theorem dL_law_226 : decode cL_law 226 = .ok (.i2l, 1) := by decide +kernel
theorem dL_law_227 : decode cL_law 227 = .ok (.ldc2_w 19, 3) := by decide +kernel
theorem dL_law_230 : decode cL_law 230 = .ok (.land, 1) := by decide +kernel
theorem dL_law_231 : decode cL_law 231 = .ok (.lor, 1) := by decide +kernel
theorem dL_law_232 : decode cL_law 232 = .ok (.invokevirtual 21, 3) := by decide +kernel
theorem dL_law_235 : decode cL_law 235 = .ok (.aload_n 2, 1) := by decide +kernel
theorem dL_law_236 : decode cL_law 236 = .ok (.aload_n 0, 1) := by decide +kernel
theorem dL_law_237 : decode cL_law 237 = .ok (.iload 4, 2) := by decide +kernel
theorem dL_law_239 : decode cL_law 239 = .ok (.iconst 1, 1) := by decide +kernel
theorem dL_law_240 : decode cL_law 240 = .ok (.iadd, 1) := by decide +kernel
theorem dL_law_241 : decode cL_law 241 = .ok (.iaload, 1) := by decide +kernel
theorem dL_law_242 : decode cL_law 242 = .ok (.i2l, 1) := by decide +kernel
theorem dL_law_243 : decode cL_law 243 = .ok (.bipush 32, 2) := by decide +kernel
theorem dL_law_245 : decode cL_law 245 = .ok (.lshl, 1) := by decide +kernel
theorem dL_law_246 : decode cL_law 246 = .ok (.aload_n 0, 1) := by decide +kernel
theorem dL_law_247 : decode cL_law 247 = .ok (.iload 4, 2) := by decide +kernel
theorem dL_law_249 : decode cL_law 249 = .ok (.iconst 2, 1) := by decide +kernel
theorem dL_law_250 : decode cL_law 250 = .ok (.iadd, 1) := by decide +kernel
theorem dL_law_251 : decode cL_law 251 = .ok (.iaload, 1) := by decide +kernel
theorem dL_law_252 : decode cL_law 252 = .ok (.i2l, 1) := by decide +kernel
theorem dL_law_253 : decode cL_law 253 = .ok (.ldc2_w 19, 3) := by decide +kernel
theorem dL_law_256 : decode cL_law 256 = .ok (.land, 1) := by decide +kernel
theorem dL_law_257 : decode cL_law 257 = .ok (.lor, 1) := by decide +kernel
theorem dL_law_258 : decode cL_law 258 = .ok (.aload_n 0, 1) := by decide +kernel
theorem dL_law_259 : decode cL_law 259 = .ok (.iload 4, 2) := by decide +kernel
theorem dL_law_261 : decode cL_law 261 = .ok (.iconst 3, 1) := by decide +kernel
theorem dL_law_262 : decode cL_law 262 = .ok (.iadd, 1) := by decide +kernel
theorem dL_law_263 : decode cL_law 263 = .ok (.iaload, 1) := by decide +kernel
theorem dL_law_264 : decode cL_law 264 = .ok (.i2l, 1) := by decide +kernel
theorem dL_law_265 : decode cL_law 265 = .ok (.bipush 32, 2) := by decide +kernel
theorem dL_law_267 : decode cL_law 267 = .ok (.lshl, 1) := by decide +kernel
theorem dL_law_268 : decode cL_law 268 = .ok (.aload_n 0, 1) := by decide +kernel
theorem dL_law_269 : decode cL_law 269 = .ok (.iload 4, 2) := by decide +kernel
theorem dL_law_271 : decode cL_law 271 = .ok (.iconst 4, 1) := by decide +kernel
theorem dL_law_272 : decode cL_law 272 = .ok (.iadd, 1) := by decide +kernel
theorem dL_law_273 : decode cL_law 273 = .ok (.iaload, 1) := by decide +kernel
theorem dL_law_274 : decode cL_law 274 = .ok (.i2l, 1) := by decide +kernel
theorem dL_law_275 : decode cL_law 275 = .ok (.ldc2_w 19, 3) := by decide +kernel
theorem dL_law_278 : decode cL_law 278 = .ok (.land, 1) := by decide +kernel
theorem dL_law_279 : decode cL_law 279 = .ok (.lor, 1) := by decide +kernel
theorem dL_law_280 : decode cL_law 280 = .ok (.aload_n 0, 1) := by decide +kernel
theorem dL_law_281 : decode cL_law 281 = .ok (.iload 4, 2) := by decide +kernel
theorem dL_law_283 : decode cL_law 283 = .ok (.iconst 5, 1) := by decide +kernel
theorem dL_law_284 : decode cL_law 284 = .ok (.iadd, 1) := by decide +kernel
theorem dL_law_285 : decode cL_law 285 = .ok (.iaload, 1) := by decide +kernel
theorem dL_law_286 : decode cL_law 286 = .ok (.i2l, 1) := by decide +kernel
theorem dL_law_287 : decode cL_law 287 = .ok (.bipush 32, 2) := by decide +kernel
theorem dL_law_289 : decode cL_law 289 = .ok (.lshl, 1) := by decide +kernel
theorem dL_law_290 : decode cL_law 290 = .ok (.aload_n 0, 1) := by decide +kernel
theorem dL_law_291 : decode cL_law 291 = .ok (.iload 4, 2) := by decide +kernel
theorem dL_law_293 : decode cL_law 293 = .ok (.bipush 6, 2) := by decide +kernel
theorem dL_law_295 : decode cL_law 295 = .ok (.iadd, 1) := by decide +kernel
theorem dL_law_296 : decode cL_law 296 = .ok (.iaload, 1) := by decide +kernel
theorem dL_law_297 : decode cL_law 297 = .ok (.i2l, 1) := by decide +kernel
theorem dL_law_298 : decode cL_law 298 = .ok (.ldc2_w 19, 3) := by decide +kernel
theorem dL_law_301 : decode cL_law 301 = .ok (.land, 1) := by decide +kernel
theorem dL_law_302 : decode cL_law 302 = .ok (.lor, 1) := by decide +kernel
theorem dL_law_303 : decode cL_law 303 = .ok (.invokevirtual 25, 3) := by decide +kernel
theorem dL_law_306 : decode cL_law 306 = .ok (.if_icmp .eq 775, 3) := by decide +kernel
theorem dL_law_309 : decode cL_law 309 = .ok (.iconst 0, 1) := by decide +kernel
theorem dL_law_310 : decode cL_law 310 = .ok (.ireturn, 1) := by decide +kernel
theorem dL_law_311 : decode cL_law 311 = .ok (.aload_n 1, 1) := by decide +kernel
theorem dL_law_312 : decode cL_law 312 = .ok (.invokevirtual 26, 3) := by decide +kernel
theorem dL_law_315 : decode cL_law 315 = .ok (.aload_n 2, 1) := by decide +kernel
theorem dL_law_316 : decode cL_law 316 = .ok (.invokevirtual 30, 3) := by decide +kernel
theorem dL_law_319 : decode cL_law 319 = .ok (.if_icmp .eq 762, 3) := by decide +kernel
theorem dL_law_322 : decode cL_law 322 = .ok (.iconst 0, 1) := by decide +kernel
theorem dL_law_323 : decode cL_law 323 = .ok (.ireturn, 1) := by decide +kernel
theorem dL_law_324 : decode cL_law 324 = .ok (.aload_n 1, 1) := by decide +kernel
theorem dL_law_325 : decode cL_law 325 = .ok (.aload_n 0, 1) := by decide +kernel
theorem dL_law_326 : decode cL_law 326 = .ok (.iload 4, 2) := by decide +kernel
theorem dL_law_328 : decode cL_law 328 = .ok (.iconst 1, 1) := by decide +kernel
theorem dL_law_329 : decode cL_law 329 = .ok (.iadd, 1) := by decide +kernel
theorem dL_law_330 : decode cL_law 330 = .ok (.iaload, 1) := by decide +kernel
theorem dL_law_331 : decode cL_law 331 = .ok (.aload_n 0, 1) := by decide +kernel
theorem dL_law_332 : decode cL_law 332 = .ok (.iload 4, 2) := by decide +kernel
theorem dL_law_334 : decode cL_law 334 = .ok (.iconst 2, 1) := by decide +kernel
theorem dL_law_335 : decode cL_law 335 = .ok (.iadd, 1) := by decide +kernel
theorem dL_law_336 : decode cL_law 336 = .ok (.iaload, 1) := by decide +kernel
theorem dL_law_337 : decode cL_law 337 = .ok (.invokevirtual 31, 3) := by decide +kernel
theorem dL_law_340 : decode cL_law 340 = .ok (.aload_n 2, 1) := by decide +kernel
theorem dL_law_341 : decode cL_law 341 = .ok (.aload_n 0, 1) := by decide +kernel
theorem dL_law_342 : decode cL_law 342 = .ok (.iload 4, 2) := by decide +kernel
theorem dL_law_344 : decode cL_law 344 = .ok (.iconst 1, 1) := by decide +kernel
theorem dL_law_345 : decode cL_law 345 = .ok (.iadd, 1) := by decide +kernel
theorem dL_law_346 : decode cL_law 346 = .ok (.iaload, 1) := by decide +kernel
theorem dL_law_347 : decode cL_law 347 = .ok (.aload_n 0, 1) := by decide +kernel
theorem dL_law_348 : decode cL_law 348 = .ok (.iload 4, 2) := by decide +kernel
theorem dL_law_350 : decode cL_law 350 = .ok (.iconst 2, 1) := by decide +kernel
theorem dL_law_351 : decode cL_law 351 = .ok (.iadd, 1) := by decide +kernel
theorem dL_law_352 : decode cL_law 352 = .ok (.iaload, 1) := by decide +kernel
theorem dL_law_353 : decode cL_law 353 = .ok (.invokevirtual 35, 3) := by decide +kernel
theorem dL_law_356 : decode cL_law 356 = .ok (.if_icmp .eq 725, 3) := by decide +kernel
theorem dL_law_359 : decode cL_law 359 = .ok (.iconst 0, 1) := by decide +kernel
theorem dL_law_360 : decode cL_law 360 = .ok (.ireturn, 1) := by decide +kernel
theorem dL_law_361 : decode cL_law 361 = .ok (.aload_n 1, 1) := by decide +kernel
theorem dL_law_362 : decode cL_law 362 = .ok (.aload_n 0, 1) := by decide +kernel
theorem dL_law_363 : decode cL_law 363 = .ok (.iload 4, 2) := by decide +kernel
theorem dL_law_365 : decode cL_law 365 = .ok (.iconst 1, 1) := by decide +kernel
theorem dL_law_366 : decode cL_law 366 = .ok (.iadd, 1) := by decide +kernel
theorem dL_law_367 : decode cL_law 367 = .ok (.iaload, 1) := by decide +kernel
theorem dL_law_368 : decode cL_law 368 = .ok (.aload_n 0, 1) := by decide +kernel
theorem dL_law_369 : decode cL_law 369 = .ok (.iload 4, 2) := by decide +kernel
theorem dL_law_371 : decode cL_law 371 = .ok (.iconst 2, 1) := by decide +kernel
theorem dL_law_372 : decode cL_law 372 = .ok (.iadd, 1) := by decide +kernel
theorem dL_law_373 : decode cL_law 373 = .ok (.iaload, 1) := by decide +kernel
theorem dL_law_374 : decode cL_law 374 = .ok (.aload_n 0, 1) := by decide +kernel
theorem dL_law_375 : decode cL_law 375 = .ok (.iload 4, 2) := by decide +kernel
theorem dL_law_377 : decode cL_law 377 = .ok (.iconst 3, 1) := by decide +kernel
theorem dL_law_378 : decode cL_law 378 = .ok (.iadd, 1) := by decide +kernel
theorem dL_law_379 : decode cL_law 379 = .ok (.iaload, 1) := by decide +kernel
theorem dL_law_380 : decode cL_law 380 = .ok (.invokevirtual 36, 3) := by decide +kernel
theorem dL_law_383 : decode cL_law 383 = .ok (.aload_n 2, 1) := by decide +kernel
theorem dL_law_384 : decode cL_law 384 = .ok (.aload_n 0, 1) := by decide +kernel
theorem dL_law_385 : decode cL_law 385 = .ok (.iload 4, 2) := by decide +kernel
theorem dL_law_387 : decode cL_law 387 = .ok (.iconst 1, 1) := by decide +kernel
theorem dL_law_388 : decode cL_law 388 = .ok (.iadd, 1) := by decide +kernel
theorem dL_law_389 : decode cL_law 389 = .ok (.iaload, 1) := by decide +kernel
theorem dL_law_390 : decode cL_law 390 = .ok (.aload_n 0, 1) := by decide +kernel
theorem dL_law_391 : decode cL_law 391 = .ok (.iload 4, 2) := by decide +kernel
theorem dL_law_393 : decode cL_law 393 = .ok (.iconst 2, 1) := by decide +kernel
theorem dL_law_394 : decode cL_law 394 = .ok (.iadd, 1) := by decide +kernel
theorem dL_law_395 : decode cL_law 395 = .ok (.iaload, 1) := by decide +kernel
theorem dL_law_396 : decode cL_law 396 = .ok (.aload_n 0, 1) := by decide +kernel
theorem dL_law_397 : decode cL_law 397 = .ok (.iload 4, 2) := by decide +kernel
theorem dL_law_399 : decode cL_law 399 = .ok (.iconst 3, 1) := by decide +kernel
theorem dL_law_400 : decode cL_law 400 = .ok (.iadd, 1) := by decide +kernel
theorem dL_law_401 : decode cL_law 401 = .ok (.iaload, 1) := by decide +kernel
theorem dL_law_402 : decode cL_law 402 = .ok (.invokevirtual 40, 3) := by decide +kernel
theorem dL_law_405 : decode cL_law 405 = .ok (.if_icmp .eq 676, 3) := by decide +kernel
theorem dL_law_408 : decode cL_law 408 = .ok (.iconst 0, 1) := by decide +kernel
theorem dL_law_409 : decode cL_law 409 = .ok (.ireturn, 1) := by decide +kernel
theorem dL_law_410 : decode cL_law 410 = .ok (.aload_n 1, 1) := by decide +kernel
theorem dL_law_411 : decode cL_law 411 = .ok (.invokevirtual 41, 3) := by decide +kernel
theorem dL_law_414 : decode cL_law 414 = .ok (.aload_n 2, 1) := by decide +kernel
theorem dL_law_415 : decode cL_law 415 = .ok (.invokevirtual 45, 3) := by decide +kernel
theorem dL_law_418 : decode cL_law 418 = .ok (.if_icmp .eq 663, 3) := by decide +kernel
theorem dL_law_421 : decode cL_law 421 = .ok (.iconst 0, 1) := by decide +kernel
theorem dL_law_422 : decode cL_law 422 = .ok (.ireturn, 1) := by decide +kernel
theorem dL_law_423 : decode cL_law 423 = .ok (.aload_n 1, 1) := by decide +kernel
theorem dL_law_424 : decode cL_law 424 = .ok (.aload_n 0, 1) := by decide +kernel
theorem dL_law_425 : decode cL_law 425 = .ok (.iload 4, 2) := by decide +kernel
theorem dL_law_427 : decode cL_law 427 = .ok (.iconst 1, 1) := by decide +kernel
theorem dL_law_428 : decode cL_law 428 = .ok (.iadd, 1) := by decide +kernel
theorem dL_law_429 : decode cL_law 429 = .ok (.iaload, 1) := by decide +kernel
theorem dL_law_430 : decode cL_law 430 = .ok (.aload_n 0, 1) := by decide +kernel
theorem dL_law_431 : decode cL_law 431 = .ok (.iload 4, 2) := by decide +kernel
theorem dL_law_433 : decode cL_law 433 = .ok (.iconst 2, 1) := by decide +kernel
theorem dL_law_434 : decode cL_law 434 = .ok (.iadd, 1) := by decide +kernel
theorem dL_law_435 : decode cL_law 435 = .ok (.iaload, 1) := by decide +kernel
theorem dL_law_436 : decode cL_law 436 = .ok (.invokevirtual 46, 3) := by decide +kernel
theorem dL_law_439 : decode cL_law 439 = .ok (.aload_n 2, 1) := by decide +kernel
theorem dL_law_440 : decode cL_law 440 = .ok (.aload_n 0, 1) := by decide +kernel
theorem dL_law_441 : decode cL_law 441 = .ok (.iload 4, 2) := by decide +kernel
theorem dL_law_443 : decode cL_law 443 = .ok (.iconst 1, 1) := by decide +kernel
theorem dL_law_444 : decode cL_law 444 = .ok (.iadd, 1) := by decide +kernel
theorem dL_law_445 : decode cL_law 445 = .ok (.iaload, 1) := by decide +kernel
theorem dL_law_446 : decode cL_law 446 = .ok (.aload_n 0, 1) := by decide +kernel
theorem dL_law_447 : decode cL_law 447 = .ok (.iload 4, 2) := by decide +kernel
theorem dL_law_449 : decode cL_law 449 = .ok (.iconst 2, 1) := by decide +kernel
theorem dL_law_450 : decode cL_law 450 = .ok (.iadd, 1) := by decide +kernel
theorem dL_law_451 : decode cL_law 451 = .ok (.iaload, 1) := by decide +kernel
theorem dL_law_452 : decode cL_law 452 = .ok (.invokevirtual 49, 3) := by decide +kernel
theorem dL_law_455 : decode cL_law 455 = .ok (.if_icmp .eq 626, 3) := by decide +kernel
theorem dL_law_458 : decode cL_law 458 = .ok (.iconst 0, 1) := by decide +kernel
theorem dL_law_459 : decode cL_law 459 = .ok (.ireturn, 1) := by decide +kernel
theorem dL_law_460 : decode cL_law 460 = .ok (.aload_n 1, 1) := by decide +kernel
theorem dL_law_461 : decode cL_law 461 = .ok (.invokevirtual 50, 3) := by decide +kernel
theorem dL_law_464 : decode cL_law 464 = .ok (.aload_n 2, 1) := by decide +kernel
theorem dL_law_465 : decode cL_law 465 = .ok (.invokevirtual 53, 3) := by decide +kernel
theorem dL_law_468 : decode cL_law 468 = .ok (.if_icmp .eq 613, 3) := by decide +kernel
theorem dL_law_471 : decode cL_law 471 = .ok (.iconst 0, 1) := by decide +kernel
theorem dL_law_472 : decode cL_law 472 = .ok (.ireturn, 1) := by decide +kernel
theorem dL_law_473 : decode cL_law 473 = .ok (.aload_n 1, 1) := by decide +kernel
theorem dL_law_474 : decode cL_law 474 = .ok (.aload_n 0, 1) := by decide +kernel
theorem dL_law_475 : decode cL_law 475 = .ok (.iload 4, 2) := by decide +kernel
theorem dL_law_477 : decode cL_law 477 = .ok (.iconst 1, 1) := by decide +kernel
theorem dL_law_478 : decode cL_law 478 = .ok (.iadd, 1) := by decide +kernel
theorem dL_law_479 : decode cL_law 479 = .ok (.iaload, 1) := by decide +kernel
theorem dL_law_480 : decode cL_law 480 = .ok (.aload_n 0, 1) := by decide +kernel
theorem dL_law_481 : decode cL_law 481 = .ok (.iload 4, 2) := by decide +kernel
theorem dL_law_483 : decode cL_law 483 = .ok (.iconst 2, 1) := by decide +kernel
theorem dL_law_484 : decode cL_law 484 = .ok (.iadd, 1) := by decide +kernel
theorem dL_law_485 : decode cL_law 485 = .ok (.iaload, 1) := by decide +kernel
theorem dL_law_486 : decode cL_law 486 = .ok (.invokevirtual 54, 3) := by decide +kernel
theorem dL_law_489 : decode cL_law 489 = .ok (.aload_n 2, 1) := by decide +kernel
theorem dL_law_490 : decode cL_law 490 = .ok (.aload_n 0, 1) := by decide +kernel
theorem dL_law_491 : decode cL_law 491 = .ok (.iload 4, 2) := by decide +kernel
theorem dL_law_493 : decode cL_law 493 = .ok (.iconst 1, 1) := by decide +kernel
theorem dL_law_494 : decode cL_law 494 = .ok (.iadd, 1) := by decide +kernel
theorem dL_law_495 : decode cL_law 495 = .ok (.iaload, 1) := by decide +kernel
theorem dL_law_496 : decode cL_law 496 = .ok (.aload_n 0, 1) := by decide +kernel
theorem dL_law_497 : decode cL_law 497 = .ok (.iload 4, 2) := by decide +kernel
theorem dL_law_499 : decode cL_law 499 = .ok (.iconst 2, 1) := by decide +kernel
theorem dL_law_500 : decode cL_law 500 = .ok (.iadd, 1) := by decide +kernel
theorem dL_law_501 : decode cL_law 501 = .ok (.iaload, 1) := by decide +kernel
theorem dL_law_502 : decode cL_law 502 = .ok (.invokevirtual 57, 3) := by decide +kernel
theorem dL_law_505 : decode cL_law 505 = .ok (.if_icmp .eq 576, 3) := by decide +kernel
theorem dL_law_508 : decode cL_law 508 = .ok (.iconst 0, 1) := by decide +kernel
theorem dL_law_509 : decode cL_law 509 = .ok (.ireturn, 1) := by decide +kernel
theorem dL_law_510 : decode cL_law 510 = .ok (.aload_n 1, 1) := by decide +kernel
theorem dL_law_511 : decode cL_law 511 = .ok (.aload_n 0, 1) := by decide +kernel
theorem dL_law_512 : decode cL_law 512 = .ok (.iload 4, 2) := by decide +kernel
theorem dL_law_514 : decode cL_law 514 = .ok (.iconst 1, 1) := by decide +kernel
theorem dL_law_515 : decode cL_law 515 = .ok (.iadd, 1) := by decide +kernel
theorem dL_law_516 : decode cL_law 516 = .ok (.iaload, 1) := by decide +kernel
theorem dL_law_517 : decode cL_law 517 = .ok (.aload_n 0, 1) := by decide +kernel
theorem dL_law_518 : decode cL_law 518 = .ok (.iload 4, 2) := by decide +kernel
theorem dL_law_520 : decode cL_law 520 = .ok (.iconst 2, 1) := by decide +kernel
theorem dL_law_521 : decode cL_law 521 = .ok (.iadd, 1) := by decide +kernel
theorem dL_law_522 : decode cL_law 522 = .ok (.iaload, 1) := by decide +kernel
theorem dL_law_523 : decode cL_law 523 = .ok (.invokevirtual 58, 3) := by decide +kernel
theorem dL_law_526 : decode cL_law 526 = .ok (.aload_n 2, 1) := by decide +kernel
theorem dL_law_527 : decode cL_law 527 = .ok (.aload_n 0, 1) := by decide +kernel
theorem dL_law_528 : decode cL_law 528 = .ok (.iload 4, 2) := by decide +kernel
theorem dL_law_530 : decode cL_law 530 = .ok (.iconst 1, 1) := by decide +kernel
theorem dL_law_531 : decode cL_law 531 = .ok (.iadd, 1) := by decide +kernel
theorem dL_law_532 : decode cL_law 532 = .ok (.iaload, 1) := by decide +kernel
theorem dL_law_533 : decode cL_law 533 = .ok (.aload_n 0, 1) := by decide +kernel
theorem dL_law_534 : decode cL_law 534 = .ok (.iload 4, 2) := by decide +kernel
theorem dL_law_536 : decode cL_law 536 = .ok (.iconst 2, 1) := by decide +kernel
theorem dL_law_537 : decode cL_law 537 = .ok (.iadd, 1) := by decide +kernel
theorem dL_law_538 : decode cL_law 538 = .ok (.iaload, 1) := by decide +kernel
theorem dL_law_539 : decode cL_law 539 = .ok (.invokevirtual 61, 3) := by decide +kernel
theorem dL_law_542 : decode cL_law 542 = .ok (.if_icmp .eq 539, 3) := by decide +kernel
theorem dL_law_545 : decode cL_law 545 = .ok (.iconst 0, 1) := by decide +kernel
theorem dL_law_546 : decode cL_law 546 = .ok (.ireturn, 1) := by decide +kernel
theorem dL_law_547 : decode cL_law 547 = .ok (.aload_n 1, 1) := by decide +kernel
theorem dL_law_548 : decode cL_law 548 = .ok (.aload_n 0, 1) := by decide +kernel
theorem dL_law_549 : decode cL_law 549 = .ok (.iload 4, 2) := by decide +kernel
theorem dL_law_551 : decode cL_law 551 = .ok (.iconst 1, 1) := by decide +kernel
theorem dL_law_552 : decode cL_law 552 = .ok (.iadd, 1) := by decide +kernel
theorem dL_law_553 : decode cL_law 553 = .ok (.iaload, 1) := by decide +kernel
theorem dL_law_554 : decode cL_law 554 = .ok (.invokevirtual 62, 3) := by decide +kernel
theorem dL_law_557 : decode cL_law 557 = .ok (.aload_n 2, 1) := by decide +kernel
theorem dL_law_558 : decode cL_law 558 = .ok (.aload_n 0, 1) := by decide +kernel
theorem dL_law_559 : decode cL_law 559 = .ok (.iload 4, 2) := by decide +kernel
theorem dL_law_561 : decode cL_law 561 = .ok (.iconst 1, 1) := by decide +kernel
theorem dL_law_562 : decode cL_law 562 = .ok (.iadd, 1) := by decide +kernel
theorem dL_law_563 : decode cL_law 563 = .ok (.iaload, 1) := by decide +kernel
theorem dL_law_564 : decode cL_law 564 = .ok (.invokevirtual 65, 3) := by decide +kernel
theorem dL_law_567 : decode cL_law 567 = .ok (.if_icmp .eq 514, 3) := by decide +kernel
theorem dL_law_570 : decode cL_law 570 = .ok (.iconst 0, 1) := by decide +kernel
theorem dL_law_571 : decode cL_law 571 = .ok (.ireturn, 1) := by decide +kernel
theorem dL_law_572 : decode cL_law 572 = .ok (.aload_n 1, 1) := by decide +kernel
theorem dL_law_573 : decode cL_law 573 = .ok (.aload_n 0, 1) := by decide +kernel
theorem dL_law_574 : decode cL_law 574 = .ok (.iload 4, 2) := by decide +kernel
theorem dL_law_576 : decode cL_law 576 = .ok (.iconst 1, 1) := by decide +kernel
theorem dL_law_577 : decode cL_law 577 = .ok (.iadd, 1) := by decide +kernel
theorem dL_law_578 : decode cL_law 578 = .ok (.iaload, 1) := by decide +kernel
theorem dL_law_579 : decode cL_law 579 = .ok (.invokevirtual 66, 3) := by decide +kernel
theorem dL_law_582 : decode cL_law 582 = .ok (.aload_n 2, 1) := by decide +kernel
theorem dL_law_583 : decode cL_law 583 = .ok (.aload_n 0, 1) := by decide +kernel
theorem dL_law_584 : decode cL_law 584 = .ok (.iload 4, 2) := by decide +kernel
theorem dL_law_586 : decode cL_law 586 = .ok (.iconst 1, 1) := by decide +kernel
theorem dL_law_587 : decode cL_law 587 = .ok (.iadd, 1) := by decide +kernel
theorem dL_law_588 : decode cL_law 588 = .ok (.iaload, 1) := by decide +kernel
theorem dL_law_589 : decode cL_law 589 = .ok (.invokevirtual 69, 3) := by decide +kernel
theorem dL_law_592 : decode cL_law 592 = .ok (.if_icmp .eq 489, 3) := by decide +kernel
theorem dL_law_595 : decode cL_law 595 = .ok (.iconst 0, 1) := by decide +kernel
theorem dL_law_596 : decode cL_law 596 = .ok (.ireturn, 1) := by decide +kernel
theorem dL_law_597 : decode cL_law 597 = .ok (.aload_n 1, 1) := by decide +kernel
theorem dL_law_598 : decode cL_law 598 = .ok (.invokevirtual 70, 3) := by decide +kernel
theorem dL_law_601 : decode cL_law 601 = .ok (.aload_n 2, 1) := by decide +kernel
theorem dL_law_602 : decode cL_law 602 = .ok (.invokevirtual 73, 3) := by decide +kernel
theorem dL_law_605 : decode cL_law 605 = .ok (.if_icmp .eq 476, 3) := by decide +kernel
theorem dL_law_608 : decode cL_law 608 = .ok (.iconst 0, 1) := by decide +kernel
theorem dL_law_609 : decode cL_law 609 = .ok (.ireturn, 1) := by decide +kernel
theorem dL_law_610 : decode cL_law 610 = .ok (.aload_n 1, 1) := by decide +kernel
theorem dL_law_611 : decode cL_law 611 = .ok (.invokevirtual 74, 3) := by decide +kernel
theorem dL_law_614 : decode cL_law 614 = .ok (.aload_n 2, 1) := by decide +kernel
theorem dL_law_615 : decode cL_law 615 = .ok (.invokevirtual 77, 3) := by decide +kernel
theorem dL_law_618 : decode cL_law 618 = .ok (.if_icmp .eq 463, 3) := by decide +kernel
theorem dL_law_621 : decode cL_law 621 = .ok (.iconst 0, 1) := by decide +kernel
theorem dL_law_622 : decode cL_law 622 = .ok (.ireturn, 1) := by decide +kernel
theorem dL_law_623 : decode cL_law 623 = .ok (.aload_n 1, 1) := by decide +kernel
theorem dL_law_624 : decode cL_law 624 = .ok (.aload_n 0, 1) := by decide +kernel
theorem dL_law_625 : decode cL_law 625 = .ok (.iload 4, 2) := by decide +kernel
theorem dL_law_627 : decode cL_law 627 = .ok (.iconst 1, 1) := by decide +kernel
theorem dL_law_628 : decode cL_law 628 = .ok (.iadd, 1) := by decide +kernel
theorem dL_law_629 : decode cL_law 629 = .ok (.iaload, 1) := by decide +kernel
theorem dL_law_630 : decode cL_law 630 = .ok (.aload_n 0, 1) := by decide +kernel
theorem dL_law_631 : decode cL_law 631 = .ok (.iload 4, 2) := by decide +kernel
theorem dL_law_633 : decode cL_law 633 = .ok (.iconst 2, 1) := by decide +kernel
theorem dL_law_634 : decode cL_law 634 = .ok (.iadd, 1) := by decide +kernel
theorem dL_law_635 : decode cL_law 635 = .ok (.iaload, 1) := by decide +kernel
theorem dL_law_636 : decode cL_law 636 = .ok (.aload_n 0, 1) := by decide +kernel
theorem dL_law_637 : decode cL_law 637 = .ok (.iload 4, 2) := by decide +kernel
theorem dL_law_639 : decode cL_law 639 = .ok (.iconst 3, 1) := by decide +kernel
theorem dL_law_640 : decode cL_law 640 = .ok (.iadd, 1) := by decide +kernel
theorem dL_law_641 : decode cL_law 641 = .ok (.iaload, 1) := by decide +kernel
theorem dL_law_642 : decode cL_law 642 = .ok (.invokevirtual 78, 3) := by decide +kernel
theorem dL_law_645 : decode cL_law 645 = .ok (.aload_n 2, 1) := by decide +kernel
theorem dL_law_646 : decode cL_law 646 = .ok (.aload_n 0, 1) := by decide +kernel
theorem dL_law_647 : decode cL_law 647 = .ok (.iload 4, 2) := by decide +kernel
theorem dL_law_649 : decode cL_law 649 = .ok (.iconst 1, 1) := by decide +kernel
theorem dL_law_650 : decode cL_law 650 = .ok (.iadd, 1) := by decide +kernel
theorem dL_law_651 : decode cL_law 651 = .ok (.iaload, 1) := by decide +kernel
theorem dL_law_652 : decode cL_law 652 = .ok (.aload_n 0, 1) := by decide +kernel
theorem dL_law_653 : decode cL_law 653 = .ok (.iload 4, 2) := by decide +kernel
theorem dL_law_655 : decode cL_law 655 = .ok (.iconst 2, 1) := by decide +kernel
theorem dL_law_656 : decode cL_law 656 = .ok (.iadd, 1) := by decide +kernel
theorem dL_law_657 : decode cL_law 657 = .ok (.iaload, 1) := by decide +kernel
theorem dL_law_658 : decode cL_law 658 = .ok (.aload_n 0, 1) := by decide +kernel
theorem dL_law_659 : decode cL_law 659 = .ok (.iload 4, 2) := by decide +kernel
theorem dL_law_661 : decode cL_law 661 = .ok (.iconst 3, 1) := by decide +kernel
theorem dL_law_662 : decode cL_law 662 = .ok (.iadd, 1) := by decide +kernel
theorem dL_law_663 : decode cL_law 663 = .ok (.iaload, 1) := by decide +kernel
theorem dL_law_664 : decode cL_law 664 = .ok (.invokevirtual 82, 3) := by decide +kernel
theorem dL_law_667 : decode cL_law 667 = .ok (.lcmp, 1) := by decide +kernel
theorem dL_law_668 : decode cL_law 668 = .ok (.ifCond .eq 413, 3) := by decide +kernel
theorem dL_law_671 : decode cL_law 671 = .ok (.iconst 0, 1) := by decide +kernel
theorem dL_law_672 : decode cL_law 672 = .ok (.ireturn, 1) := by decide +kernel
theorem dL_law_673 : decode cL_law 673 = .ok (.aload_n 1, 1) := by decide +kernel
theorem dL_law_674 : decode cL_law 674 = .ok (.aload_n 0, 1) := by decide +kernel
theorem dL_law_675 : decode cL_law 675 = .ok (.iload 4, 2) := by decide +kernel
theorem dL_law_677 : decode cL_law 677 = .ok (.iconst 1, 1) := by decide +kernel
theorem dL_law_678 : decode cL_law 678 = .ok (.iadd, 1) := by decide +kernel
theorem dL_law_679 : decode cL_law 679 = .ok (.iaload, 1) := by decide +kernel
