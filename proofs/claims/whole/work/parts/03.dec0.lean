theorem dX0_init_0 : decode cX0_init 0 = .ok (.aload_n 0, 1) := by decide +kernel
theorem dX0_init_1 : decode cX0_init 1 = .ok (.invokespecial 3, 3) := by decide +kernel
theorem dX0_init_4 : decode cX0_init 4 = .ok (.aload_n 0, 1) := by decide +kernel
theorem dX0_init_5 : decode cX0_init 5 = .ok (.bipush 25, 2) := by decide +kernel
theorem dX0_init_7 : decode cX0_init 7 = .ok (.newarray .long, 2) := by decide +kernel
theorem dX0_init_9 : decode cX0_init 9 = .ok (.putfield 9, 3) := by decide +kernel
theorem dX0_init_12 : decode cX0_init 12 = .ok (.aload_n 0, 1) := by decide +kernel
theorem dX0_init_13 : decode cX0_init 13 = .ok (.bipush 25, 2) := by decide +kernel
theorem dX0_init_15 : decode cX0_init 15 = .ok (.newarray .long, 2) := by decide +kernel
theorem dX0_init_17 : decode cX0_init 17 = .ok (.putfield 15, 3) := by decide +kernel
theorem dX0_init_20 : decode cX0_init 20 = .ok (.aload_n 0, 1) := by decide +kernel
theorem dX0_init_21 : decode cX0_init 21 = .ok (.iconst 5, 1) := by decide +kernel
theorem dX0_init_22 : decode cX0_init 22 = .ok (.newarray .int, 2) := by decide +kernel
theorem dX0_init_24 : decode cX0_init 24 = .ok (.putfield 18, 3) := by decide +kernel
theorem dX0_init_27 : decode cX0_init 27 = .ok (.return_, 1) := by decide +kernel
theorem dX0_fewestAsks_0 : decode cX0_fewestAsks 0 = .ok (.aload_n 0, 1) := by decide +kernel
theorem dX0_fewestAsks_1 : decode cX0_fewestAsks 1 = .ok (.aload_n 1, 1) := by decide +kernel
theorem dX0_fewestAsks_2 : decode cX0_fewestAsks 2 = .ok (.getfield 22, 3) := by decide +kernel
theorem dX0_fewestAsks_5 : decode cX0_fewestAsks 5 = .ok (.getfield 28, 3) := by decide +kernel
theorem dX0_fewestAsks_8 : decode cX0_fewestAsks 8 = .ok (.iconst 5, 1) := by decide +kernel
theorem dX0_fewestAsks_9 : decode cX0_fewestAsks 9 = .ok (.invokestatic 34, 3) := by decide +kernel
theorem dX0_fewestAsks_12 : decode cX0_fewestAsks 12 = .ok (.putfield 40, 3) := by decide +kernel
theorem dX0_fewestAsks_15 : decode cX0_fewestAsks 15 = .ok (.aload_n 0, 1) := by decide +kernel
theorem dX0_fewestAsks_16 : decode cX0_fewestAsks 16 = .ok (.invokevirtual 41, 3) := by decide +kernel
theorem dX0_fewestAsks_19 : decode cX0_fewestAsks 19 = .ok (.istore_n 2, 1) := by decide +kernel
theorem dX0_fewestAsks_20 : decode cX0_fewestAsks 20 = .ok (.iload_n 2, 1) := by decide +kernel
theorem dX0_fewestAsks_21 : decode cX0_fewestAsks 21 = .ok (.bipush 64, 2) := by decide +kernel
theorem dX0_fewestAsks_23 : decode cX0_fewestAsks 23 = .ok (.invokestatic 34, 3) := by decide +kernel
theorem dX0_fewestAsks_26 : decode cX0_fewestAsks 26 = .ok (.invokestatic 45, 3) := by decide +kernel
theorem dX0_fewestAsks_29 : decode cX0_fewestAsks 29 = .ok (.lstore_n 3, 1) := by decide +kernel
theorem dX0_fewestAsks_30 : decode cX0_fewestAsks 30 = .ok (.iload_n 2, 1) := by decide +kernel
theorem dX0_fewestAsks_31 : decode cX0_fewestAsks 31 = .ok (.bipush 64, 2) := by decide +kernel
theorem dX0_fewestAsks_33 : decode cX0_fewestAsks 33 = .ok (.isub, 1) := by decide +kernel
theorem dX0_fewestAsks_34 : decode cX0_fewestAsks 34 = .ok (.iconst 0, 1) := by decide +kernel
theorem dX0_fewestAsks_35 : decode cX0_fewestAsks 35 = .ok (.invokestatic 49, 3) := by decide +kernel
theorem dX0_fewestAsks_38 : decode cX0_fewestAsks 38 = .ok (.invokestatic 45, 3) := by decide +kernel
theorem dX0_fewestAsks_41 : decode cX0_fewestAsks 41 = .ok (.lstore 5, 2) := by decide +kernel
theorem dX0_fewestAsks_43 : decode cX0_fewestAsks 43 = .ok (.iconst 0, 1) := by decide +kernel
theorem dX0_fewestAsks_44 : decode cX0_fewestAsks 44 = .ok (.istore 7, 2) := by decide +kernel
theorem dX0_fewestAsks_46 : decode cX0_fewestAsks 46 = .ok (.iload 7, 2) := by decide +kernel
theorem dX0_fewestAsks_48 : decode cX0_fewestAsks 48 = .ok (.aload_n 1, 1) := by decide +kernel
theorem dX0_fewestAsks_49 : decode cX0_fewestAsks 49 = .ok (.getfield 52, 3) := by decide +kernel
theorem dX0_fewestAsks_52 : decode cX0_fewestAsks 52 = .ok (.if_icmp .ge 50, 3) := by decide +kernel
theorem dX0_fewestAsks_55 : decode cX0_fewestAsks 55 = .ok (.aload_n 1, 1) := by decide +kernel
theorem dX0_fewestAsks_56 : decode cX0_fewestAsks 56 = .ok (.getfield 55, 3) := by decide +kernel
theorem dX0_fewestAsks_59 : decode cX0_fewestAsks 59 = .ok (.iload 7, 2) := by decide +kernel
theorem dX0_fewestAsks_61 : decode cX0_fewestAsks 61 = .ok (.iaload, 1) := by decide +kernel
theorem dX0_fewestAsks_62 : decode cX0_fewestAsks 62 = .ok (.iconst 5, 1) := by decide +kernel
theorem dX0_fewestAsks_63 : decode cX0_fewestAsks 63 = .ok (.imul, 1) := by decide +kernel
theorem dX0_fewestAsks_64 : decode cX0_fewestAsks 64 = .ok (.aload_n 1, 1) := by decide +kernel
theorem dX0_fewestAsks_65 : decode cX0_fewestAsks 65 = .ok (.getfield 58, 3) := by decide +kernel
theorem dX0_fewestAsks_68 : decode cX0_fewestAsks 68 = .ok (.iload 7, 2) := by decide +kernel
theorem dX0_fewestAsks_70 : decode cX0_fewestAsks 70 = .ok (.iaload, 1) := by decide +kernel
theorem dX0_fewestAsks_71 : decode cX0_fewestAsks 71 = .ok (.iadd, 1) := by decide +kernel
theorem dX0_fewestAsks_72 : decode cX0_fewestAsks 72 = .ok (.istore 8, 2) := by decide +kernel
theorem dX0_fewestAsks_74 : decode cX0_fewestAsks 74 = .ok (.lload_n 3, 1) := by decide +kernel
theorem dX0_fewestAsks_75 : decode cX0_fewestAsks 75 = .ok (.aload_n 0, 1) := by decide +kernel
theorem dX0_fewestAsks_76 : decode cX0_fewestAsks 76 = .ok (.getfield 9, 3) := by decide +kernel
theorem dX0_fewestAsks_79 : decode cX0_fewestAsks 79 = .ok (.iload 8, 2) := by decide +kernel
theorem dX0_fewestAsks_81 : decode cX0_fewestAsks 81 = .ok (.laload, 1) := by decide +kernel
theorem dX0_fewestAsks_82 : decode cX0_fewestAsks 82 = .ok (.land, 1) := by decide +kernel
theorem dX0_fewestAsks_83 : decode cX0_fewestAsks 83 = .ok (.lstore_n 3, 1) := by decide +kernel
theorem dX0_fewestAsks_84 : decode cX0_fewestAsks 84 = .ok (.lload 5, 2) := by decide +kernel
theorem dX0_fewestAsks_86 : decode cX0_fewestAsks 86 = .ok (.aload_n 0, 1) := by decide +kernel
theorem dX0_fewestAsks_87 : decode cX0_fewestAsks 87 = .ok (.getfield 15, 3) := by decide +kernel
theorem dX0_fewestAsks_90 : decode cX0_fewestAsks 90 = .ok (.iload 8, 2) := by decide +kernel
theorem dX0_fewestAsks_92 : decode cX0_fewestAsks 92 = .ok (.laload, 1) := by decide +kernel
theorem dX0_fewestAsks_93 : decode cX0_fewestAsks 93 = .ok (.land, 1) := by decide +kernel
theorem dX0_fewestAsks_94 : decode cX0_fewestAsks 94 = .ok (.lstore 5, 2) := by decide +kernel
theorem dX0_fewestAsks_96 : decode cX0_fewestAsks 96 = .ok (.iinc 7 1, 3) := by decide +kernel
theorem dX0_fewestAsks_99 : decode cX0_fewestAsks 99 = .ok (.goto (-53), 3) := by decide +kernel
theorem dX0_fewestAsks_102 : decode cX0_fewestAsks 102 = .ok (.lload_n 3, 1) := by decide +kernel
theorem dX0_fewestAsks_103 : decode cX0_fewestAsks 103 = .ok (.lload 5, 2) := by decide +kernel
theorem dX0_fewestAsks_105 : decode cX0_fewestAsks 105 = .ok (.lor, 1) := by decide +kernel
theorem dX0_fewestAsks_106 : decode cX0_fewestAsks 106 = .ok (.lconst 0, 1) := by decide +kernel
theorem dX0_fewestAsks_107 : decode cX0_fewestAsks 107 = .ok (.lcmp, 1) := by decide +kernel
theorem dX0_fewestAsks_108 : decode cX0_fewestAsks 108 = .ok (.ifCond .ne 5, 3) := by decide +kernel
theorem dX0_fewestAsks_111 : decode cX0_fewestAsks 111 = .ok (.iconst (-1), 1) := by decide +kernel
theorem dX0_fewestAsks_112 : decode cX0_fewestAsks 112 = .ok (.ireturn, 1) := by decide +kernel
theorem dX0_fewestAsks_113 : decode cX0_fewestAsks 113 = .ok (.iconst 0, 1) := by decide +kernel
theorem dX0_fewestAsks_114 : decode cX0_fewestAsks 114 = .ok (.istore 7, 2) := by decide +kernel
theorem dX0_fewestAsks_116 : decode cX0_fewestAsks 116 = .ok (.iload 7, 2) := by decide +kernel
theorem dX0_fewestAsks_118 : decode cX0_fewestAsks 118 = .ok (.bipush 10, 2) := by decide +kernel
theorem dX0_fewestAsks_120 : decode cX0_fewestAsks 120 = .ok (.if_icmp .ge 21, 3) := by decide +kernel
theorem dX0_fewestAsks_123 : decode cX0_fewestAsks 123 = .ok (.aload_n 0, 1) := by decide +kernel
theorem dX0_fewestAsks_124 : decode cX0_fewestAsks 124 = .ok (.lload_n 3, 1) := by decide +kernel
theorem dX0_fewestAsks_125 : decode cX0_fewestAsks 125 = .ok (.lload 5, 2) := by decide +kernel
theorem dX0_fewestAsks_127 : decode cX0_fewestAsks 127 = .ok (.iload 7, 2) := by decide +kernel
theorem dX0_fewestAsks_129 : decode cX0_fewestAsks 129 = .ok (.invokevirtual 61, 3) := by decide +kernel
theorem dX0_fewestAsks_132 : decode cX0_fewestAsks 132 = .ok (.ifCond .ne 9, 3) := by decide +kernel
theorem dX0_fewestAsks_135 : decode cX0_fewestAsks 135 = .ok (.iinc 7 1, 3) := by decide +kernel
theorem dX0_fewestAsks_138 : decode cX0_fewestAsks 138 = .ok (.goto (-22), 3) := by decide +kernel
theorem dX0_fewestAsks_141 : decode cX0_fewestAsks 141 = .ok (.iload 7, 2) := by decide +kernel
theorem dX0_fewestAsks_143 : decode cX0_fewestAsks 143 = .ok (.ireturn, 1) := by decide +kernel
theorem dX0_layOrders_0 : decode cX0_layOrders 0 = .ok (.aload_n 0, 1) := by decide +kernel
theorem dX0_layOrders_1 : decode cX0_layOrders 1 = .ok (.getfield 9, 3) := by decide +kernel
theorem dX0_layOrders_4 : decode cX0_layOrders 4 = .ok (.lconst 0, 1) := by decide +kernel
theorem dX0_layOrders_5 : decode cX0_layOrders 5 = .ok (.invokestatic 65, 3) := by decide +kernel
theorem dX0_layOrders_8 : decode cX0_layOrders 8 = .ok (.aload_n 0, 1) := by decide +kernel
theorem dX0_layOrders_9 : decode cX0_layOrders 9 = .ok (.getfield 15, 3) := by decide +kernel
theorem dX0_layOrders_12 : decode cX0_layOrders 12 = .ok (.lconst 0, 1) := by decide +kernel
theorem dX0_layOrders_13 : decode cX0_layOrders 13 = .ok (.invokestatic 65, 3) := by decide +kernel
theorem dX0_layOrders_16 : decode cX0_layOrders 16 = .ok (.iconst 1, 1) := by decide +kernel
theorem dX0_layOrders_17 : decode cX0_layOrders 17 = .ok (.istore_n 1, 1) := by decide +kernel
theorem dX0_layOrders_18 : decode cX0_layOrders 18 = .ok (.iconst 2, 1) := by decide +kernel
theorem dX0_layOrders_19 : decode cX0_layOrders 19 = .ok (.istore_n 2, 1) := by decide +kernel
theorem dX0_layOrders_20 : decode cX0_layOrders 20 = .ok (.iload_n 2, 1) := by decide +kernel
theorem dX0_layOrders_21 : decode cX0_layOrders 21 = .ok (.aload_n 0, 1) := by decide +kernel
theorem dX0_layOrders_22 : decode cX0_layOrders 22 = .ok (.getfield 40, 3) := by decide +kernel
theorem dX0_layOrders_25 : decode cX0_layOrders 25 = .ok (.if_icmp .gt 13, 3) := by decide +kernel
theorem dX0_layOrders_28 : decode cX0_layOrders 28 = .ok (.iload_n 1, 1) := by decide +kernel
theorem dX0_layOrders_29 : decode cX0_layOrders 29 = .ok (.iload_n 2, 1) := by decide +kernel
theorem dX0_layOrders_30 : decode cX0_layOrders 30 = .ok (.imul, 1) := by decide +kernel
theorem dX0_layOrders_31 : decode cX0_layOrders 31 = .ok (.istore_n 1, 1) := by decide +kernel
theorem dX0_layOrders_32 : decode cX0_layOrders 32 = .ok (.iinc 2 1, 3) := by decide +kernel
theorem dX0_layOrders_35 : decode cX0_layOrders 35 = .ok (.goto (-15), 3) := by decide +kernel
theorem dX0_layOrders_38 : decode cX0_layOrders 38 = .ok (.iconst 0, 1) := by decide +kernel
theorem dX0_layOrders_39 : decode cX0_layOrders 39 = .ok (.istore_n 2, 1) := by decide +kernel
theorem dX0_layOrders_40 : decode cX0_layOrders 40 = .ok (.iload_n 2, 1) := by decide +kernel
theorem dX0_layOrders_41 : decode cX0_layOrders 41 = .ok (.iload_n 1, 1) := by decide +kernel
theorem dX0_layOrders_42 : decode cX0_layOrders 42 = .ok (.if_icmp .ge 75, 3) := by decide +kernel
theorem dX0_layOrders_45 : decode cX0_layOrders 45 = .ok (.aload_n 0, 1) := by decide +kernel
theorem dX0_layOrders_46 : decode cX0_layOrders 46 = .ok (.iload_n 2, 1) := by decide +kernel
theorem dX0_layOrders_47 : decode cX0_layOrders 47 = .ok (.invokevirtual 71, 3) := by decide +kernel
theorem dX0_layOrders_50 : decode cX0_layOrders 50 = .ok (.iconst 0, 1) := by decide +kernel
theorem dX0_layOrders_51 : decode cX0_layOrders 51 = .ok (.istore_n 3, 1) := by decide +kernel
theorem dX0_layOrders_52 : decode cX0_layOrders 52 = .ok (.iload_n 3, 1) := by decide +kernel
theorem dX0_layOrders_53 : decode cX0_layOrders 53 = .ok (.aload_n 0, 1) := by decide +kernel
theorem dX0_layOrders_54 : decode cX0_layOrders 54 = .ok (.getfield 40, 3) := by decide +kernel
theorem dX0_layOrders_57 : decode cX0_layOrders 57 = .ok (.if_icmp .ge 54, 3) := by decide +kernel
theorem dX0_layOrders_60 : decode cX0_layOrders 60 = .ok (.iconst 0, 1) := by decide +kernel
theorem dX0_layOrders_61 : decode cX0_layOrders 61 = .ok (.istore 4, 2) := by decide +kernel
theorem dX0_layOrders_63 : decode cX0_layOrders 63 = .ok (.iload 4, 2) := by decide +kernel
theorem dX0_layOrders_65 : decode cX0_layOrders 65 = .ok (.aload_n 0, 1) := by decide +kernel
theorem dX0_layOrders_66 : decode cX0_layOrders 66 = .ok (.getfield 40, 3) := by decide +kernel
theorem dX0_layOrders_69 : decode cX0_layOrders 69 = .ok (.if_icmp .ge 36, 3) := by decide +kernel
theorem dX0_layOrders_72 : decode cX0_layOrders 72 = .ok (.aload_n 0, 1) := by decide +kernel
theorem dX0_layOrders_73 : decode cX0_layOrders 73 = .ok (.getfield 18, 3) := by decide +kernel
theorem dX0_layOrders_76 : decode cX0_layOrders 76 = .ok (.iload_n 3, 1) := by decide +kernel
theorem dX0_layOrders_77 : decode cX0_layOrders 77 = .ok (.iaload, 1) := by decide +kernel
theorem dX0_layOrders_78 : decode cX0_layOrders 78 = .ok (.aload_n 0, 1) := by decide +kernel
theorem dX0_layOrders_79 : decode cX0_layOrders 79 = .ok (.getfield 18, 3) := by decide +kernel
theorem dX0_layOrders_82 : decode cX0_layOrders 82 = .ok (.iload 4, 2) := by decide +kernel
theorem dX0_layOrders_84 : decode cX0_layOrders 84 = .ok (.iaload, 1) := by decide +kernel
theorem dX0_layOrders_85 : decode cX0_layOrders 85 = .ok (.if_icmp .ge 14, 3) := by decide +kernel
theorem dX0_layOrders_88 : decode cX0_layOrders 88 = .ok (.aload_n 0, 1) := by decide +kernel
theorem dX0_layOrders_89 : decode cX0_layOrders 89 = .ok (.iload_n 3, 1) := by decide +kernel
theorem dX0_layOrders_90 : decode cX0_layOrders 90 = .ok (.iconst 5, 1) := by decide +kernel
theorem dX0_layOrders_91 : decode cX0_layOrders 91 = .ok (.imul, 1) := by decide +kernel
theorem dX0_layOrders_92 : decode cX0_layOrders 92 = .ok (.iload 4, 2) := by decide +kernel
theorem dX0_layOrders_94 : decode cX0_layOrders 94 = .ok (.iadd, 1) := by decide +kernel
theorem dX0_layOrders_95 : decode cX0_layOrders 95 = .ok (.iload_n 2, 1) := by decide +kernel
theorem dX0_layOrders_96 : decode cX0_layOrders 96 = .ok (.invokevirtual 75, 3) := by decide +kernel
theorem dX0_layOrders_99 : decode cX0_layOrders 99 = .ok (.iinc 4 1, 3) := by decide +kernel
theorem dX0_layOrders_102 : decode cX0_layOrders 102 = .ok (.goto (-39), 3) := by decide +kernel
theorem dX0_layOrders_105 : decode cX0_layOrders 105 = .ok (.iinc 3 1, 3) := by decide +kernel
theorem dX0_layOrders_108 : decode cX0_layOrders 108 = .ok (.goto (-56), 3) := by decide +kernel
theorem dX0_layOrders_111 : decode cX0_layOrders 111 = .ok (.iinc 2 1, 3) := by decide +kernel
theorem dX0_layOrders_114 : decode cX0_layOrders 114 = .ok (.goto (-74), 3) := by decide +kernel
theorem dX0_layOrders_117 : decode cX0_layOrders 117 = .ok (.iload_n 1, 1) := by decide +kernel
theorem dX0_layOrders_118 : decode cX0_layOrders 118 = .ok (.ireturn, 1) := by decide +kernel
theorem dX0_placeBy_0 : decode cX0_placeBy 0 = .ok (.iload_n 1, 1) := by decide +kernel
theorem dX0_placeBy_1 : decode cX0_placeBy 1 = .ok (.istore_n 2, 1) := by decide +kernel
theorem dX0_placeBy_2 : decode cX0_placeBy 2 = .ok (.iconst 0, 1) := by decide +kernel
theorem dX0_placeBy_3 : decode cX0_placeBy 3 = .ok (.istore_n 3, 1) := by decide +kernel
theorem dX0_placeBy_4 : decode cX0_placeBy 4 = .ok (.iload_n 3, 1) := by decide +kernel
theorem dX0_placeBy_5 : decode cX0_placeBy 5 = .ok (.aload_n 0, 1) := by decide +kernel
theorem dX0_placeBy_6 : decode cX0_placeBy 6 = .ok (.getfield 40, 3) := by decide +kernel
theorem dX0_placeBy_9 : decode cX0_placeBy 9 = .ok (.if_icmp .ge 68, 3) := by decide +kernel
theorem dX0_placeBy_12 : decode cX0_placeBy 12 = .ok (.iload_n 2, 1) := by decide +kernel
theorem dX0_placeBy_13 : decode cX0_placeBy 13 = .ok (.iload_n 3, 1) := by decide +kernel
theorem dX0_placeBy_14 : decode cX0_placeBy 14 = .ok (.iconst 1, 1) := by decide +kernel
theorem dX0_placeBy_15 : decode cX0_placeBy 15 = .ok (.iadd, 1) := by decide +kernel
theorem dX0_placeBy_16 : decode cX0_placeBy 16 = .ok (.irem, 1) := by decide +kernel
theorem dX0_placeBy_17 : decode cX0_placeBy 17 = .ok (.istore 4, 2) := by decide +kernel
theorem dX0_placeBy_19 : decode cX0_placeBy 19 = .ok (.iload_n 2, 1) := by decide +kernel
theorem dX0_placeBy_20 : decode cX0_placeBy 20 = .ok (.iload_n 3, 1) := by decide +kernel
theorem dX0_placeBy_21 : decode cX0_placeBy 21 = .ok (.iconst 1, 1) := by decide +kernel
theorem dX0_placeBy_22 : decode cX0_placeBy 22 = .ok (.iadd, 1) := by decide +kernel
theorem dX0_placeBy_23 : decode cX0_placeBy 23 = .ok (.idiv, 1) := by decide +kernel
theorem dX0_placeBy_24 : decode cX0_placeBy 24 = .ok (.istore_n 2, 1) := by decide +kernel
theorem dX0_placeBy_25 : decode cX0_placeBy 25 = .ok (.iconst 0, 1) := by decide +kernel
theorem dX0_placeBy_26 : decode cX0_placeBy 26 = .ok (.istore 5, 2) := by decide +kernel
theorem dX0_placeBy_28 : decode cX0_placeBy 28 = .ok (.iload 5, 2) := by decide +kernel
theorem dX0_placeBy_30 : decode cX0_placeBy 30 = .ok (.iload_n 3, 1) := by decide +kernel
theorem dX0_placeBy_31 : decode cX0_placeBy 31 = .ok (.if_icmp .ge 32, 3) := by decide +kernel
theorem dX0_placeBy_34 : decode cX0_placeBy 34 = .ok (.aload_n 0, 1) := by decide +kernel
theorem dX0_placeBy_35 : decode cX0_placeBy 35 = .ok (.getfield 18, 3) := by decide +kernel
theorem dX0_placeBy_38 : decode cX0_placeBy 38 = .ok (.iload 5, 2) := by decide +kernel
theorem dX0_placeBy_40 : decode cX0_placeBy 40 = .ok (.iaload, 1) := by decide +kernel
theorem dX0_placeBy_41 : decode cX0_placeBy 41 = .ok (.iload 4, 2) := by decide +kernel
theorem dX0_placeBy_43 : decode cX0_placeBy 43 = .ok (.if_icmp .lt 14, 3) := by decide +kernel
theorem dX0_placeBy_46 : decode cX0_placeBy 46 = .ok (.aload_n 0, 1) := by decide +kernel
theorem dX0_placeBy_47 : decode cX0_placeBy 47 = .ok (.getfield 18, 3) := by decide +kernel
theorem dX0_placeBy_50 : decode cX0_placeBy 50 = .ok (.iload 5, 2) := by decide +kernel
theorem dX0_placeBy_52 : decode cX0_placeBy 52 = .ok (.dup2, 1) := by decide +kernel
theorem dX0_placeBy_53 : decode cX0_placeBy 53 = .ok (.iaload, 1) := by decide +kernel
theorem dX0_placeBy_54 : decode cX0_placeBy 54 = .ok (.iconst 1, 1) := by decide +kernel
theorem dX0_placeBy_55 : decode cX0_placeBy 55 = .ok (.iadd, 1) := by decide +kernel
theorem dX0_placeBy_56 : decode cX0_placeBy 56 = .ok (.iastore, 1) := by decide +kernel
theorem dX0_placeBy_57 : decode cX0_placeBy 57 = .ok (.iinc 5 1, 3) := by decide +kernel
theorem dX0_placeBy_60 : decode cX0_placeBy 60 = .ok (.goto (-32), 3) := by decide +kernel
theorem dX0_placeBy_63 : decode cX0_placeBy 63 = .ok (.aload_n 0, 1) := by decide +kernel
theorem dX0_placeBy_64 : decode cX0_placeBy 64 = .ok (.getfield 18, 3) := by decide +kernel
theorem dX0_placeBy_67 : decode cX0_placeBy 67 = .ok (.iload_n 3, 1) := by decide +kernel
theorem dX0_placeBy_68 : decode cX0_placeBy 68 = .ok (.iload 4, 2) := by decide +kernel
theorem dX0_placeBy_70 : decode cX0_placeBy 70 = .ok (.iastore, 1) := by decide +kernel
theorem dX0_placeBy_71 : decode cX0_placeBy 71 = .ok (.iinc 3 1, 3) := by decide +kernel
theorem dX0_placeBy_74 : decode cX0_placeBy 74 = .ok (.goto (-70), 3) := by decide +kernel
theorem dX0_placeBy_77 : decode cX0_placeBy 77 = .ok (.return_, 1) := by decide +kernel
theorem dX0_noteAhead_0 : decode cX0_noteAhead 0 = .ok (.iload_n 2, 1) := by decide +kernel
theorem dX0_noteAhead_1 : decode cX0_noteAhead 1 = .ok (.bipush 64, 2) := by decide +kernel
theorem dX0_noteAhead_3 : decode cX0_noteAhead 3 = .ok (.if_icmp .ge 18, 3) := by decide +kernel
theorem dX0_noteAhead_6 : decode cX0_noteAhead 6 = .ok (.aload_n 0, 1) := by decide +kernel
theorem dX0_noteAhead_7 : decode cX0_noteAhead 7 = .ok (.getfield 9, 3) := by decide +kernel
theorem dX0_noteAhead_10 : decode cX0_noteAhead 10 = .ok (.iload_n 1, 1) := by decide +kernel
theorem dX0_noteAhead_11 : decode cX0_noteAhead 11 = .ok (.dup2, 1) := by decide +kernel
theorem dX0_noteAhead_12 : decode cX0_noteAhead 12 = .ok (.laload, 1) := by decide +kernel
theorem dX0_noteAhead_13 : decode cX0_noteAhead 13 = .ok (.lconst 1, 1) := by decide +kernel
theorem dX0_noteAhead_14 : decode cX0_noteAhead 14 = .ok (.iload_n 2, 1) := by decide +kernel
theorem dX0_noteAhead_15 : decode cX0_noteAhead 15 = .ok (.lshl, 1) := by decide +kernel
theorem dX0_noteAhead_16 : decode cX0_noteAhead 16 = .ok (.lor, 1) := by decide +kernel
theorem dX0_noteAhead_17 : decode cX0_noteAhead 17 = .ok (.lastore, 1) := by decide +kernel
theorem dX0_noteAhead_18 : decode cX0_noteAhead 18 = .ok (.goto 18, 3) := by decide +kernel
theorem dX0_noteAhead_21 : decode cX0_noteAhead 21 = .ok (.aload_n 0, 1) := by decide +kernel
theorem dX0_noteAhead_22 : decode cX0_noteAhead 22 = .ok (.getfield 15, 3) := by decide +kernel
theorem dX0_noteAhead_25 : decode cX0_noteAhead 25 = .ok (.iload_n 1, 1) := by decide +kernel
theorem dX0_noteAhead_26 : decode cX0_noteAhead 26 = .ok (.dup2, 1) := by decide +kernel
theorem dX0_noteAhead_27 : decode cX0_noteAhead 27 = .ok (.laload, 1) := by decide +kernel
theorem dX0_noteAhead_28 : decode cX0_noteAhead 28 = .ok (.lconst 1, 1) := by decide +kernel
theorem dX0_noteAhead_29 : decode cX0_noteAhead 29 = .ok (.iload_n 2, 1) := by decide +kernel
theorem dX0_noteAhead_30 : decode cX0_noteAhead 30 = .ok (.bipush 64, 2) := by decide +kernel
theorem dX0_noteAhead_32 : decode cX0_noteAhead 32 = .ok (.isub, 1) := by decide +kernel
theorem dX0_noteAhead_33 : decode cX0_noteAhead 33 = .ok (.lshl, 1) := by decide +kernel
theorem dX0_noteAhead_34 : decode cX0_noteAhead 34 = .ok (.lor, 1) := by decide +kernel
theorem dX0_noteAhead_35 : decode cX0_noteAhead 35 = .ok (.lastore, 1) := by decide +kernel
theorem dX0_noteAhead_36 : decode cX0_noteAhead 36 = .ok (.return_, 1) := by decide +kernel
theorem dX0_suffice_0 : decode cX0_suffice 0 = .ok (.lload_n 1, 1) := by decide +kernel
theorem dX0_suffice_1 : decode cX0_suffice 1 = .ok (.invokestatic 79, 3) := by decide +kernel
theorem dX0_suffice_4 : decode cX0_suffice 4 = .ok (.lload_n 3, 1) := by decide +kernel
theorem dX0_suffice_5 : decode cX0_suffice 5 = .ok (.invokestatic 79, 3) := by decide +kernel
theorem dX0_suffice_8 : decode cX0_suffice 8 = .ok (.iadd, 1) := by decide +kernel
theorem dX0_suffice_9 : decode cX0_suffice 9 = .ok (.istore 6, 2) := by decide +kernel
theorem dX0_suffice_11 : decode cX0_suffice 11 = .ok (.iload 6, 2) := by decide +kernel
theorem dX0_suffice_13 : decode cX0_suffice 13 = .ok (.iconst 1, 1) := by decide +kernel
theorem dX0_suffice_14 : decode cX0_suffice 14 = .ok (.if_icmp .gt 5, 3) := by decide +kernel
theorem dX0_suffice_17 : decode cX0_suffice 17 = .ok (.iconst 1, 1) := by decide +kernel
theorem dX0_suffice_18 : decode cX0_suffice 18 = .ok (.ireturn, 1) := by decide +kernel
theorem dX0_suffice_19 : decode cX0_suffice 19 = .ok (.iload 5, 2) := by decide +kernel
theorem dX0_suffice_21 : decode cX0_suffice 21 = .ok (.ifCond .le 12, 3) := by decide +kernel
theorem dX0_suffice_24 : decode cX0_suffice 24 = .ok (.iload 6, 2) := by decide +kernel
theorem dX0_suffice_26 : decode cX0_suffice 26 = .ok (.iconst 1, 1) := by decide +kernel
theorem dX0_suffice_27 : decode cX0_suffice 27 = .ok (.iload 5, 2) := by decide +kernel
theorem dX0_suffice_29 : decode cX0_suffice 29 = .ok (.ishl, 1) := by decide +kernel
theorem dX0_suffice_30 : decode cX0_suffice 30 = .ok (.if_icmp .le 5, 3) := by decide +kernel
theorem dX0_suffice_33 : decode cX0_suffice 33 = .ok (.iconst 0, 1) := by decide +kernel
theorem dX0_suffice_34 : decode cX0_suffice 34 = .ok (.ireturn, 1) := by decide +kernel
theorem dX0_suffice_35 : decode cX0_suffice 35 = .ok (.iconst 0, 1) := by decide +kernel
theorem dX0_suffice_36 : decode cX0_suffice 36 = .ok (.istore 7, 2) := by decide +kernel
theorem dX0_suffice_38 : decode cX0_suffice 38 = .ok (.iload 7, 2) := by decide +kernel
theorem dX0_suffice_40 : decode cX0_suffice 40 = .ok (.aload_n 0, 1) := by decide +kernel
theorem dX0_suffice_41 : decode cX0_suffice 41 = .ok (.getfield 40, 3) := by decide +kernel
theorem dX0_suffice_44 : decode cX0_suffice 44 = .ok (.if_icmp .ge 52, 3) := by decide +kernel
theorem dX0_suffice_47 : decode cX0_suffice 47 = .ok (.iload 7, 2) := by decide +kernel
theorem dX0_suffice_49 : decode cX0_suffice 49 = .ok (.iconst 1, 1) := by decide +kernel
theorem dX0_suffice_50 : decode cX0_suffice 50 = .ok (.iadd, 1) := by decide +kernel
theorem dX0_suffice_51 : decode cX0_suffice 51 = .ok (.istore 8, 2) := by decide +kernel
theorem dX0_suffice_53 : decode cX0_suffice 53 = .ok (.iload 8, 2) := by decide +kernel
theorem dX0_suffice_55 : decode cX0_suffice 55 = .ok (.aload_n 0, 1) := by decide +kernel
theorem dX0_suffice_56 : decode cX0_suffice 56 = .ok (.getfield 40, 3) := by decide +kernel
theorem dX0_suffice_59 : decode cX0_suffice 59 = .ok (.if_icmp .ge 31, 3) := by decide +kernel
theorem dX0_suffice_62 : decode cX0_suffice 62 = .ok (.aload_n 0, 1) := by decide +kernel
theorem dX0_suffice_63 : decode cX0_suffice 63 = .ok (.iload 7, 2) := by decide +kernel
theorem dX0_suffice_65 : decode cX0_suffice 65 = .ok (.iconst 5, 1) := by decide +kernel
theorem dX0_suffice_66 : decode cX0_suffice 66 = .ok (.imul, 1) := by decide +kernel
theorem dX0_suffice_67 : decode cX0_suffice 67 = .ok (.iload 8, 2) := by decide +kernel
theorem dX0_suffice_69 : decode cX0_suffice 69 = .ok (.iadd, 1) := by decide +kernel
theorem dX0_suffice_70 : decode cX0_suffice 70 = .ok (.lload_n 1, 1) := by decide +kernel
theorem dX0_suffice_71 : decode cX0_suffice 71 = .ok (.lload_n 3, 1) := by decide +kernel
theorem dX0_suffice_72 : decode cX0_suffice 72 = .ok (.iload 5, 2) := by decide +kernel
theorem dX0_suffice_74 : decode cX0_suffice 74 = .ok (.iconst 1, 1) := by decide +kernel
theorem dX0_suffice_75 : decode cX0_suffice 75 = .ok (.isub, 1) := by decide +kernel
theorem dX0_suffice_76 : decode cX0_suffice 76 = .ok (.invokevirtual 85, 3) := by decide +kernel
theorem dX0_suffice_79 : decode cX0_suffice 79 = .ok (.ifCond .eq 5, 3) := by decide +kernel
theorem dX0_suffice_82 : decode cX0_suffice 82 = .ok (.iconst 1, 1) := by decide +kernel
theorem dX0_suffice_83 : decode cX0_suffice 83 = .ok (.ireturn, 1) := by decide +kernel
theorem dX0_suffice_84 : decode cX0_suffice 84 = .ok (.iinc 8 1, 3) := by decide +kernel
theorem dX0_suffice_87 : decode cX0_suffice 87 = .ok (.goto (-34), 3) := by decide +kernel
theorem dX0_suffice_90 : decode cX0_suffice 90 = .ok (.iinc 7 1, 3) := by decide +kernel
theorem dX0_suffice_93 : decode cX0_suffice 93 = .ok (.goto (-55), 3) := by decide +kernel
theorem dX0_suffice_96 : decode cX0_suffice 96 = .ok (.iconst 0, 1) := by decide +kernel
theorem dX0_suffice_97 : decode cX0_suffice 97 = .ok (.ireturn, 1) := by decide +kernel
theorem dX0_sufficeBehind_0 : decode cX0_sufficeBehind 0 = .ok (.lload_n 2, 1) := by decide +kernel
theorem dX0_sufficeBehind_1 : decode cX0_sufficeBehind 1 = .ok (.aload_n 0, 1) := by decide +kernel
theorem dX0_sufficeBehind_2 : decode cX0_sufficeBehind 2 = .ok (.getfield 9, 3) := by decide +kernel
theorem dX0_sufficeBehind_5 : decode cX0_sufficeBehind 5 = .ok (.iload_n 1, 1) := by decide +kernel
theorem dX0_sufficeBehind_6 : decode cX0_sufficeBehind 6 = .ok (.laload, 1) := by decide +kernel
theorem dX0_sufficeBehind_7 : decode cX0_sufficeBehind 7 = .ok (.land, 1) := by decide +kernel
theorem dX0_sufficeBehind_8 : decode cX0_sufficeBehind 8 = .ok (.lstore 7, 2) := by decide +kernel
theorem dX0_sufficeBehind_10 : decode cX0_sufficeBehind 10 = .ok (.lload 4, 2) := by decide +kernel
theorem dX0_sufficeBehind_12 : decode cX0_sufficeBehind 12 = .ok (.aload_n 0, 1) := by decide +kernel
theorem dX0_sufficeBehind_13 : decode cX0_sufficeBehind 13 = .ok (.getfield 15, 3) := by decide +kernel
theorem dX0_sufficeBehind_16 : decode cX0_sufficeBehind 16 = .ok (.iload_n 1, 1) := by decide +kernel
theorem dX0_sufficeBehind_17 : decode cX0_sufficeBehind 17 = .ok (.laload, 1) := by decide +kernel
theorem dX0_sufficeBehind_18 : decode cX0_sufficeBehind 18 = .ok (.land, 1) := by decide +kernel
theorem dX0_sufficeBehind_19 : decode cX0_sufficeBehind 19 = .ok (.lstore 9, 2) := by decide +kernel
theorem dX0_sufficeBehind_21 : decode cX0_sufficeBehind 21 = .ok (.lload_n 2, 1) := by decide +kernel
theorem dX0_sufficeBehind_22 : decode cX0_sufficeBehind 22 = .ok (.lload 7, 2) := by decide +kernel
theorem dX0_sufficeBehind_24 : decode cX0_sufficeBehind 24 = .ok (.ldc2_w 89, 3) := by decide +kernel
theorem dX0_sufficeBehind_27 : decode cX0_sufficeBehind 27 = .ok (.lxor, 1) := by decide +kernel
theorem dX0_sufficeBehind_28 : decode cX0_sufficeBehind 28 = .ok (.land, 1) := by decide +kernel
theorem dX0_sufficeBehind_29 : decode cX0_sufficeBehind 29 = .ok (.lstore 11, 2) := by decide +kernel
theorem dX0_sufficeBehind_31 : decode cX0_sufficeBehind 31 = .ok (.lload 4, 2) := by decide +kernel
theorem dX0_sufficeBehind_33 : decode cX0_sufficeBehind 33 = .ok (.lload 9, 2) := by decide +kernel
theorem dX0_sufficeBehind_35 : decode cX0_sufficeBehind 35 = .ok (.ldc2_w 89, 3) := by decide +kernel
theorem dX0_sufficeBehind_38 : decode cX0_sufficeBehind 38 = .ok (.lxor, 1) := by decide +kernel
theorem dX0_sufficeBehind_39 : decode cX0_sufficeBehind 39 = .ok (.land, 1) := by decide +kernel
theorem dX0_sufficeBehind_40 : decode cX0_sufficeBehind 40 = .ok (.lstore 13, 2) := by decide +kernel
theorem dX0_sufficeBehind_42 : decode cX0_sufficeBehind 42 = .ok (.lload 7, 2) := by decide +kernel
theorem dX0_sufficeBehind_44 : decode cX0_sufficeBehind 44 = .ok (.invokestatic 79, 3) := by decide +kernel
theorem dX0_sufficeBehind_47 : decode cX0_sufficeBehind 47 = .ok (.lload 9, 2) := by decide +kernel
theorem dX0_sufficeBehind_49 : decode cX0_sufficeBehind 49 = .ok (.invokestatic 79, 3) := by decide +kernel
theorem dX0_sufficeBehind_52 : decode cX0_sufficeBehind 52 = .ok (.iadd, 1) := by decide +kernel
theorem dX0_sufficeBehind_53 : decode cX0_sufficeBehind 53 = .ok (.istore 15, 2) := by decide +kernel
theorem dX0_sufficeBehind_55 : decode cX0_sufficeBehind 55 = .ok (.lload 11, 2) := by decide +kernel
theorem dX0_sufficeBehind_57 : decode cX0_sufficeBehind 57 = .ok (.invokestatic 79, 3) := by decide +kernel
theorem dX0_sufficeBehind_60 : decode cX0_sufficeBehind 60 = .ok (.lload 13, 2) := by decide +kernel
theorem dX0_sufficeBehind_62 : decode cX0_sufficeBehind 62 = .ok (.invokestatic 79, 3) := by decide +kernel
theorem dX0_sufficeBehind_65 : decode cX0_sufficeBehind 65 = .ok (.iadd, 1) := by decide +kernel
theorem dX0_sufficeBehind_66 : decode cX0_sufficeBehind 66 = .ok (.istore 16, 2) := by decide +kernel
theorem dX0_sufficeBehind_68 : decode cX0_sufficeBehind 68 = .ok (.iload 15, 2) := by decide +kernel
theorem dX0_sufficeBehind_70 : decode cX0_sufficeBehind 70 = .ok (.ifCond .eq 22, 3) := by decide +kernel
theorem dX0_sufficeBehind_73 : decode cX0_sufficeBehind 73 = .ok (.iload 16, 2) := by decide +kernel
theorem dX0_sufficeBehind_75 : decode cX0_sufficeBehind 75 = .ok (.ifCond .eq 17, 3) := by decide +kernel
theorem dX0_sufficeBehind_78 : decode cX0_sufficeBehind 78 = .ok (.iload 15, 2) := by decide +kernel
theorem dX0_sufficeBehind_80 : decode cX0_sufficeBehind 80 = .ok (.iload 16, 2) := by decide +kernel
theorem dX0_sufficeBehind_82 : decode cX0_sufficeBehind 82 = .ok (.invokestatic 49, 3) := by decide +kernel
theorem dX0_sufficeBehind_85 : decode cX0_sufficeBehind 85 = .ok (.iconst 1, 1) := by decide +kernel
theorem dX0_sufficeBehind_86 : decode cX0_sufficeBehind 86 = .ok (.iload 6, 2) := by decide +kernel
theorem dX0_sufficeBehind_88 : decode cX0_sufficeBehind 88 = .ok (.ishl, 1) := by decide +kernel
theorem dX0_sufficeBehind_89 : decode cX0_sufficeBehind 89 = .ok (.if_icmp .le 5, 3) := by decide +kernel
theorem dX0_sufficeBehind_92 : decode cX0_sufficeBehind 92 = .ok (.iconst 0, 1) := by decide +kernel
theorem dX0_sufficeBehind_93 : decode cX0_sufficeBehind 93 = .ok (.ireturn, 1) := by decide +kernel
theorem dX0_sufficeBehind_94 : decode cX0_sufficeBehind 94 = .ok (.aload_n 0, 1) := by decide +kernel
theorem dX0_sufficeBehind_95 : decode cX0_sufficeBehind 95 = .ok (.lload 7, 2) := by decide +kernel
theorem dX0_sufficeBehind_97 : decode cX0_sufficeBehind 97 = .ok (.lload 9, 2) := by decide +kernel
theorem dX0_sufficeBehind_99 : decode cX0_sufficeBehind 99 = .ok (.iload 6, 2) := by decide +kernel
theorem dX0_sufficeBehind_101 : decode cX0_sufficeBehind 101 = .ok (.invokevirtual 61, 3) := by decide +kernel
theorem dX0_sufficeBehind_104 : decode cX0_sufficeBehind 104 = .ok (.ifCond .eq 20, 3) := by decide +kernel
theorem dX0_sufficeBehind_107 : decode cX0_sufficeBehind 107 = .ok (.aload_n 0, 1) := by decide +kernel
theorem dX0_sufficeBehind_108 : decode cX0_sufficeBehind 108 = .ok (.lload 11, 2) := by decide +kernel
theorem dX0_sufficeBehind_110 : decode cX0_sufficeBehind 110 = .ok (.lload 13, 2) := by decide +kernel
theorem dX0_sufficeBehind_112 : decode cX0_sufficeBehind 112 = .ok (.iload 6, 2) := by decide +kernel
theorem dX0_sufficeBehind_114 : decode cX0_sufficeBehind 114 = .ok (.invokevirtual 61, 3) := by decide +kernel
theorem dX0_sufficeBehind_117 : decode cX0_sufficeBehind 117 = .ok (.ifCond .eq 7, 3) := by decide +kernel
theorem dX0_sufficeBehind_120 : decode cX0_sufficeBehind 120 = .ok (.iconst 1, 1) := by decide +kernel
theorem dX0_sufficeBehind_121 : decode cX0_sufficeBehind 121 = .ok (.goto 4, 3) := by decide +kernel
theorem dX0_sufficeBehind_124 : decode cX0_sufficeBehind 124 = .ok (.iconst 0, 1) := by decide +kernel
theorem dX0_sufficeBehind_125 : decode cX0_sufficeBehind 125 = .ok (.ireturn, 1) := by decide +kernel
theorem dX0_firstBits_0 : decode cX0_firstBits 0 = .ok (.iload_n 0, 1) := by decide +kernel
theorem dX0_firstBits_1 : decode cX0_firstBits 1 = .ok (.bipush 64, 2) := by decide +kernel
theorem dX0_firstBits_3 : decode cX0_firstBits 3 = .ok (.if_icmp .lt 9, 3) := by decide +kernel
theorem dX0_firstBits_6 : decode cX0_firstBits 6 = .ok (.ldc2_w 89, 3) := by decide +kernel
theorem dX0_firstBits_9 : decode cX0_firstBits 9 = .ok (.goto 8, 3) := by decide +kernel
theorem dX0_firstBits_12 : decode cX0_firstBits 12 = .ok (.lconst 1, 1) := by decide +kernel
theorem dX0_firstBits_13 : decode cX0_firstBits 13 = .ok (.iload_n 0, 1) := by decide +kernel
theorem dX0_firstBits_14 : decode cX0_firstBits 14 = .ok (.lshl, 1) := by decide +kernel
theorem dX0_firstBits_15 : decode cX0_firstBits 15 = .ok (.lconst 1, 1) := by decide +kernel
theorem dX0_firstBits_16 : decode cX0_firstBits 16 = .ok (.lsub, 1) := by decide +kernel
theorem dX0_firstBits_17 : decode cX0_firstBits 17 = .ok (.lreturn, 1) := by decide +kernel
theorem dX1_init_0 : decode cX1_init 0 = .ok (.aload_n 0, 1) := by decide +kernel
theorem dX1_init_1 : decode cX1_init 1 = .ok (.invokespecial 3, 3) := by decide +kernel
theorem dX1_init_4 : decode cX1_init 4 = .ok (.aload_n 0, 1) := by decide +kernel
theorem dX1_init_5 : decode cX1_init 5 = .ok (.bipush 10, 2) := by decide +kernel
theorem dX1_init_7 : decode cX1_init 7 = .ok (.newarray .long, 2) := by decide +kernel
theorem dX1_init_9 : decode cX1_init 9 = .ok (.putfield 9, 3) := by decide +kernel
theorem dX1_init_12 : decode cX1_init 12 = .ok (.aload_n 0, 1) := by decide +kernel
theorem dX1_init_13 : decode cX1_init 13 = .ok (.sipush 1024, 3) := by decide +kernel
theorem dX1_init_16 : decode cX1_init 16 = .ok (.newarray .long, 2) := by decide +kernel
theorem dX1_init_18 : decode cX1_init 18 = .ok (.putfield 15, 3) := by decide +kernel
theorem dX1_init_21 : decode cX1_init 21 = .ok (.aload_n 0, 1) := by decide +kernel
theorem dX1_init_22 : decode cX1_init 22 = .ok (.sipush 1024, 3) := by decide +kernel
theorem dX1_init_25 : decode cX1_init 25 = .ok (.newarray .int, 2) := by decide +kernel
theorem dX1_init_27 : decode cX1_init 27 = .ok (.putfield 18, 3) := by decide +kernel
theorem dX1_init_30 : decode cX1_init 30 = .ok (.aload_n 0, 1) := by decide +kernel
theorem dX1_init_31 : decode cX1_init 31 = .ok (.bipush 10, 2) := by decide +kernel
theorem dX1_init_33 : decode cX1_init 33 = .ok (.newarray .int, 2) := by decide +kernel
theorem dX1_init_35 : decode cX1_init 35 = .ok (.putfield 22, 3) := by decide +kernel
theorem dX1_init_38 : decode cX1_init 38 = .ok (.return_, 1) := by decide +kernel
theorem dX1_forget_0 : decode cX1_forget 0 = .ok (.aload_n 0, 1) := by decide +kernel
theorem dX1_forget_1 : decode cX1_forget 1 = .ok (.iconst 0, 1) := by decide +kernel
theorem dX1_forget_2 : decode cX1_forget 2 = .ok (.putfield 25, 3) := by decide +kernel
theorem dX1_forget_5 : decode cX1_forget 5 = .ok (.return_, 1) := by decide +kernel
theorem dX1_study_0 : decode cX1_study 0 = .ok (.aload_n 0, 1) := by decide +kernel
theorem dX1_study_1 : decode cX1_study 1 = .ok (.getfield 25, 3) := by decide +kernel
theorem dX1_study_4 : decode cX1_study 4 = .ok (.ifCond .eq 12, 3) := by decide +kernel
theorem dX1_study_7 : decode cX1_study 7 = .ok (.aload_n 0, 1) := by decide +kernel
theorem dX1_study_8 : decode cX1_study 8 = .ok (.getfield 29, 3) := by decide +kernel
theorem dX1_study_11 : decode cX1_study 11 = .ok (.iload_n 2, 1) := by decide +kernel
theorem dX1_study_12 : decode cX1_study 12 = .ok (.if_icmp .ne 4, 3) := by decide +kernel
theorem dX1_study_15 : decode cX1_study 15 = .ok (.return_, 1) := by decide +kernel
theorem dX1_study_16 : decode cX1_study 16 = .ok (.aload_n 0, 1) := by decide +kernel
theorem dX1_study_17 : decode cX1_study 17 = .ok (.aload_n 1, 1) := by decide +kernel
theorem dX1_study_18 : decode cX1_study 18 = .ok (.getfield 33, 3) := by decide +kernel
theorem dX1_study_21 : decode cX1_study 21 = .ok (.getfield 39, 3) := by decide +kernel
theorem dX1_study_24 : decode cX1_study 24 = .ok (.putfield 44, 3) := by decide +kernel
theorem dX1_study_27 : decode cX1_study 27 = .ok (.aload_n 0, 1) := by decide +kernel
theorem dX1_study_28 : decode cX1_study 28 = .ok (.aload_n 1, 1) := by decide +kernel
theorem dX1_study_29 : decode cX1_study 29 = .ok (.getfield 33, 3) := by decide +kernel
theorem dX1_study_32 : decode cX1_study 32 = .ok (.invokevirtual 45, 3) := by decide +kernel
theorem dX1_study_35 : decode cX1_study 35 = .ok (.putfield 49, 3) := by decide +kernel
theorem dX1_study_38 : decode cX1_study 38 = .ok (.aload_n 0, 1) := by decide +kernel
theorem dX1_study_39 : decode cX1_study 39 = .ok (.aload_n 1, 1) := by decide +kernel
theorem dX1_study_40 : decode cX1_study 40 = .ok (.iload_n 2, 1) := by decide +kernel
theorem dX1_study_41 : decode cX1_study 41 = .ok (.invokevirtual 51, 3) := by decide +kernel
theorem dX1_study_44 : decode cX1_study 44 = .ok (.aload_n 0, 1) := by decide +kernel
theorem dX1_study_45 : decode cX1_study 45 = .ok (.getfield 15, 3) := by decide +kernel
theorem dX1_study_48 : decode cX1_study 48 = .ok (.iconst 0, 1) := by decide +kernel
theorem dX1_study_49 : decode cX1_study 49 = .ok (.lconst 0, 1) := by decide +kernel
theorem dX1_study_50 : decode cX1_study 50 = .ok (.lastore, 1) := by decide +kernel
theorem dX1_study_51 : decode cX1_study 51 = .ok (.iconst 1, 1) := by decide +kernel
theorem dX1_study_52 : decode cX1_study 52 = .ok (.istore_n 3, 1) := by decide +kernel
theorem dX1_study_53 : decode cX1_study 53 = .ok (.iload_n 3, 1) := by decide +kernel
theorem dX1_study_54 : decode cX1_study 54 = .ok (.aload_n 0, 1) := by decide +kernel
theorem dX1_study_55 : decode cX1_study 55 = .ok (.getfield 49, 3) := by decide +kernel
theorem dX1_study_58 : decode cX1_study 58 = .ok (.if_icmp .gt 35, 3) := by decide +kernel
theorem dX1_study_61 : decode cX1_study 61 = .ok (.aload_n 0, 1) := by decide +kernel
theorem dX1_study_62 : decode cX1_study 62 = .ok (.getfield 15, 3) := by decide +kernel
theorem dX1_study_65 : decode cX1_study 65 = .ok (.iload_n 3, 1) := by decide +kernel
theorem dX1_study_66 : decode cX1_study 66 = .ok (.aload_n 0, 1) := by decide +kernel
theorem dX1_study_67 : decode cX1_study 67 = .ok (.getfield 15, 3) := by decide +kernel
theorem dX1_study_70 : decode cX1_study 70 = .ok (.iload_n 3, 1) := by decide +kernel
theorem dX1_study_71 : decode cX1_study 71 = .ok (.iload_n 3, 1) := by decide +kernel
theorem dX1_study_72 : decode cX1_study 72 = .ok (.iconst 1, 1) := by decide +kernel
theorem dX1_study_73 : decode cX1_study 73 = .ok (.isub, 1) := by decide +kernel
theorem dX1_study_74 : decode cX1_study 74 = .ok (.iand, 1) := by decide +kernel
theorem dX1_study_75 : decode cX1_study 75 = .ok (.laload, 1) := by decide +kernel
theorem dX1_study_76 : decode cX1_study 76 = .ok (.aload_n 0, 1) := by decide +kernel
theorem dX1_study_77 : decode cX1_study 77 = .ok (.getfield 9, 3) := by decide +kernel
theorem dX1_study_80 : decode cX1_study 80 = .ok (.iload_n 3, 1) := by decide +kernel
theorem dX1_study_81 : decode cX1_study 81 = .ok (.invokestatic 55, 3) := by decide +kernel
theorem dX1_study_84 : decode cX1_study 84 = .ok (.laload, 1) := by decide +kernel
theorem dX1_study_85 : decode cX1_study 85 = .ok (.ladd, 1) := by decide +kernel
theorem dX1_study_86 : decode cX1_study 86 = .ok (.lastore, 1) := by decide +kernel
theorem dX1_study_87 : decode cX1_study 87 = .ok (.iinc 3 1, 3) := by decide +kernel
theorem dX1_study_90 : decode cX1_study 90 = .ok (.goto (-37), 3) := by decide +kernel
theorem dX1_study_93 : decode cX1_study 93 = .ok (.aload_n 0, 1) := by decide +kernel
theorem dX1_study_94 : decode cX1_study 94 = .ok (.getfield 18, 3) := by decide +kernel
theorem dX1_study_97 : decode cX1_study 97 = .ok (.aload_n 0, 1) := by decide +kernel
theorem dX1_study_98 : decode cX1_study 98 = .ok (.getfield 49, 3) := by decide +kernel
theorem dX1_study_101 : decode cX1_study 101 = .ok (.iconst 0, 1) := by decide +kernel
theorem dX1_study_102 : decode cX1_study 102 = .ok (.iastore, 1) := by decide +kernel
theorem dX1_study_103 : decode cX1_study 103 = .ok (.aload_n 0, 1) := by decide +kernel
theorem dX1_study_104 : decode cX1_study 104 = .ok (.getfield 49, 3) := by decide +kernel
theorem dX1_study_107 : decode cX1_study 107 = .ok (.iconst 1, 1) := by decide +kernel
theorem dX1_study_108 : decode cX1_study 108 = .ok (.isub, 1) := by decide +kernel
theorem dX1_study_109 : decode cX1_study 109 = .ok (.istore_n 3, 1) := by decide +kernel
theorem dX1_study_110 : decode cX1_study 110 = .ok (.iload_n 3, 1) := by decide +kernel
theorem dX1_study_111 : decode cX1_study 111 = .ok (.ifCond .lt 25, 3) := by decide +kernel
theorem dX1_study_114 : decode cX1_study 114 = .ok (.aload_n 0, 1) := by decide +kernel
theorem dX1_study_115 : decode cX1_study 115 = .ok (.getfield 18, 3) := by decide +kernel
theorem dX1_study_118 : decode cX1_study 118 = .ok (.iload_n 3, 1) := by decide +kernel
theorem dX1_study_119 : decode cX1_study 119 = .ok (.aload_n 0, 1) := by decide +kernel
theorem dX1_study_120 : decode cX1_study 120 = .ok (.iload_n 3, 1) := by decide +kernel
theorem dX1_study_121 : decode cX1_study 121 = .ok (.aload_n 0, 1) := by decide +kernel
theorem dX1_study_122 : decode cX1_study 122 = .ok (.iload_n 3, 1) := by decide +kernel
theorem dX1_study_123 : decode cX1_study 123 = .ok (.invokevirtual 61, 3) := by decide +kernel
theorem dX1_study_126 : decode cX1_study 126 = .ok (.invokevirtual 64, 3) := by decide +kernel
theorem dX1_study_129 : decode cX1_study 129 = .ok (.iastore, 1) := by decide +kernel
theorem dX1_study_130 : decode cX1_study 130 = .ok (.iinc 3 (-1), 3) := by decide +kernel
theorem dX1_study_133 : decode cX1_study 133 = .ok (.goto (-23), 3) := by decide +kernel
theorem dX1_study_136 : decode cX1_study 136 = .ok (.iconst 0, 1) := by decide +kernel
theorem dX1_study_137 : decode cX1_study 137 = .ok (.istore_n 3, 1) := by decide +kernel
theorem dX1_study_138 : decode cX1_study 138 = .ok (.iconst 0, 1) := by decide +kernel
theorem dX1_study_139 : decode cX1_study 139 = .ok (.istore 4, 2) := by decide +kernel
theorem dX1_study_141 : decode cX1_study 141 = .ok (.iload 4, 2) := by decide +kernel
theorem dX1_study_143 : decode cX1_study 143 = .ok (.aload_n 0, 1) := by decide +kernel
theorem dX1_study_144 : decode cX1_study 144 = .ok (.getfield 44, 3) := by decide +kernel
theorem dX1_study_147 : decode cX1_study 147 = .ok (.if_icmp .ge 33, 3) := by decide +kernel
theorem dX1_study_150 : decode cX1_study 150 = .ok (.aload_n 0, 1) := by decide +kernel
theorem dX1_study_151 : decode cX1_study 151 = .ok (.getfield 22, 3) := by decide +kernel
theorem dX1_study_154 : decode cX1_study 154 = .ok (.iload 4, 2) := by decide +kernel
theorem dX1_study_156 : decode cX1_study 156 = .ok (.aload_n 0, 1) := by decide +kernel
theorem dX1_study_157 : decode cX1_study 157 = .ok (.iload_n 3, 1) := by decide +kernel
theorem dX1_study_158 : decode cX1_study 158 = .ok (.invokevirtual 61, 3) := by decide +kernel
theorem dX1_study_161 : decode cX1_study 161 = .ok (.iastore, 1) := by decide +kernel
theorem dX1_study_162 : decode cX1_study 162 = .ok (.iload_n 3, 1) := by decide +kernel
theorem dX1_study_163 : decode cX1_study 163 = .ok (.iconst 1, 1) := by decide +kernel
theorem dX1_study_164 : decode cX1_study 164 = .ok (.aload_n 0, 1) := by decide +kernel
theorem dX1_study_165 : decode cX1_study 165 = .ok (.getfield 22, 3) := by decide +kernel
theorem dX1_study_168 : decode cX1_study 168 = .ok (.iload 4, 2) := by decide +kernel
theorem dX1_study_170 : decode cX1_study 170 = .ok (.iaload, 1) := by decide +kernel
theorem dX1_study_171 : decode cX1_study 171 = .ok (.ishl, 1) := by decide +kernel
theorem dX1_study_172 : decode cX1_study 172 = .ok (.ior, 1) := by decide +kernel
theorem dX1_study_173 : decode cX1_study 173 = .ok (.istore_n 3, 1) := by decide +kernel
theorem dX1_study_174 : decode cX1_study 174 = .ok (.iinc 4 1, 3) := by decide +kernel
theorem dX1_study_177 : decode cX1_study 177 = .ok (.goto (-36), 3) := by decide +kernel
theorem dX1_study_180 : decode cX1_study 180 = .ok (.aload_n 0, 1) := by decide +kernel
theorem dX1_study_181 : decode cX1_study 181 = .ok (.iconst 1, 1) := by decide +kernel
theorem dX1_study_182 : decode cX1_study 182 = .ok (.putfield 25, 3) := by decide +kernel
theorem dX1_study_185 : decode cX1_study 185 = .ok (.aload_n 0, 1) := by decide +kernel
theorem dX1_study_186 : decode cX1_study 186 = .ok (.iload_n 2, 1) := by decide +kernel
theorem dX1_study_187 : decode cX1_study 187 = .ok (.putfield 29, 3) := by decide +kernel
theorem dX1_study_190 : decode cX1_study 190 = .ok (.return_, 1) := by decide +kernel
theorem dX1_fewest_0 : decode cX1_fewest 0 = .ok (.aload_n 0, 1) := by decide +kernel
theorem dX1_fewest_1 : decode cX1_fewest 1 = .ok (.getfield 18, 3) := by decide +kernel
theorem dX1_fewest_4 : decode cX1_fewest 4 = .ok (.iconst 0, 1) := by decide +kernel
theorem dX1_fewest_5 : decode cX1_fewest 5 = .ok (.iaload, 1) := by decide +kernel
theorem dX1_fewest_6 : decode cX1_fewest 6 = .ok (.ireturn, 1) := by decide +kernel
theorem dX1_hear_0 : decode cX1_hear 0 = .ok (.aload_n 0, 1) := by decide +kernel
theorem dX1_hear_1 : decode cX1_hear 1 = .ok (.getfield 9, 3) := by decide +kernel
theorem dX1_hear_4 : decode cX1_hear 4 = .ok (.lconst 0, 1) := by decide +kernel
theorem dX1_hear_5 : decode cX1_hear 5 = .ok (.invokestatic 68, 3) := by decide +kernel
theorem dX1_hear_8 : decode cX1_hear 8 = .ok (.iconst 0, 1) := by decide +kernel
theorem dX1_hear_9 : decode cX1_hear 9 = .ok (.istore_n 3, 1) := by decide +kernel
theorem dX1_hear_10 : decode cX1_hear 10 = .ok (.iload_n 3, 1) := by decide +kernel
theorem dX1_hear_11 : decode cX1_hear 11 = .ok (.aload_n 1, 1) := by decide +kernel
theorem dX1_hear_12 : decode cX1_hear 12 = .ok (.getfield 74, 3) := by decide +kernel
theorem dX1_hear_15 : decode cX1_hear 15 = .ok (.if_icmp .ge 49, 3) := by decide +kernel
theorem dX1_hear_18 : decode cX1_hear 18 = .ok (.iload_n 2, 1) := by decide +kernel
theorem dX1_hear_19 : decode cX1_hear 19 = .ok (.iconst (-1), 1) := by decide +kernel
theorem dX1_hear_20 : decode cX1_hear 20 = .ok (.if_icmp .eq 13, 3) := by decide +kernel
theorem dX1_hear_23 : decode cX1_hear 23 = .ok (.aload_n 1, 1) := by decide +kernel
theorem dX1_hear_24 : decode cX1_hear 24 = .ok (.getfield 77, 3) := by decide +kernel
theorem dX1_hear_27 : decode cX1_hear 27 = .ok (.iload_n 3, 1) := by decide +kernel
theorem dX1_hear_28 : decode cX1_hear 28 = .ok (.iaload, 1) := by decide +kernel
theorem dX1_hear_29 : decode cX1_hear 29 = .ok (.iload_n 2, 1) := by decide +kernel
theorem dX1_hear_30 : decode cX1_hear 30 = .ok (.if_icmp .ne 28, 3) := by decide +kernel
theorem dX1_hear_33 : decode cX1_hear 33 = .ok (.aload_n 0, 1) := by decide +kernel
theorem dX1_hear_34 : decode cX1_hear 34 = .ok (.getfield 9, 3) := by decide +kernel
theorem dX1_hear_37 : decode cX1_hear 37 = .ok (.aload_n 1, 1) := by decide +kernel
theorem dX1_hear_38 : decode cX1_hear 38 = .ok (.getfield 80, 3) := by decide +kernel
theorem dX1_hear_41 : decode cX1_hear 41 = .ok (.iload_n 3, 1) := by decide +kernel
theorem dX1_hear_42 : decode cX1_hear 42 = .ok (.iaload, 1) := by decide +kernel
theorem dX1_hear_43 : decode cX1_hear 43 = .ok (.dup2, 1) := by decide +kernel
theorem dX1_hear_44 : decode cX1_hear 44 = .ok (.laload, 1) := by decide +kernel
theorem dX1_hear_45 : decode cX1_hear 45 = .ok (.lconst 1, 1) := by decide +kernel
theorem dX1_hear_46 : decode cX1_hear 46 = .ok (.bipush 6, 2) := by decide +kernel
theorem dX1_hear_48 : decode cX1_hear 48 = .ok (.aload_n 1, 1) := by decide +kernel
theorem dX1_hear_49 : decode cX1_hear 49 = .ok (.getfield 83, 3) := by decide +kernel
theorem dX1_hear_52 : decode cX1_hear 52 = .ok (.iload_n 3, 1) := by decide +kernel
theorem dX1_hear_53 : decode cX1_hear 53 = .ok (.iaload, 1) := by decide +kernel
theorem dX1_hear_54 : decode cX1_hear 54 = .ok (.imul, 1) := by decide +kernel
theorem dX1_hear_55 : decode cX1_hear 55 = .ok (.lshl, 1) := by decide +kernel
theorem dX1_hear_56 : decode cX1_hear 56 = .ok (.ladd, 1) := by decide +kernel
theorem dX1_hear_57 : decode cX1_hear 57 = .ok (.lastore, 1) := by decide +kernel
theorem dX1_hear_58 : decode cX1_hear 58 = .ok (.iinc 3 1, 3) := by decide +kernel
theorem dX1_hear_61 : decode cX1_hear 61 = .ok (.goto (-51), 3) := by decide +kernel
theorem dX1_hear_64 : decode cX1_hear 64 = .ok (.return_, 1) := by decide +kernel
theorem dX1_bestBehind_0 : decode cX1_bestBehind 0 = .ok (.iconst 0, 1) := by decide +kernel
theorem dX1_bestBehind_1 : decode cX1_bestBehind 1 = .ok (.istore_n 2, 1) := by decide +kernel
theorem dX1_bestBehind_2 : decode cX1_bestBehind 2 = .ok (.bipush 41, 2) := by decide +kernel
theorem dX1_bestBehind_4 : decode cX1_bestBehind 4 = .ok (.istore_n 3, 1) := by decide +kernel
theorem dX1_bestBehind_5 : decode cX1_bestBehind 5 = .ok (.iconst 0, 1) := by decide +kernel
theorem dX1_bestBehind_6 : decode cX1_bestBehind 6 = .ok (.istore 4, 2) := by decide +kernel
theorem dX1_bestBehind_8 : decode cX1_bestBehind 8 = .ok (.iload 4, 2) := by decide +kernel
theorem dX1_bestBehind_10 : decode cX1_bestBehind 10 = .ok (.aload_n 0, 1) := by decide +kernel
theorem dX1_bestBehind_11 : decode cX1_bestBehind 11 = .ok (.getfield 44, 3) := by decide +kernel
theorem dX1_bestBehind_14 : decode cX1_bestBehind 14 = .ok (.if_icmp .ge 39, 3) := by decide +kernel
theorem dX1_bestBehind_17 : decode cX1_bestBehind 17 = .ok (.iload_n 1, 1) := by decide +kernel
theorem dX1_bestBehind_18 : decode cX1_bestBehind 18 = .ok (.iload 4, 2) := by decide +kernel
theorem dX1_bestBehind_20 : decode cX1_bestBehind 20 = .ok (.ishr, 1) := by decide +kernel
theorem dX1_bestBehind_21 : decode cX1_bestBehind 21 = .ok (.iconst 1, 1) := by decide +kernel
theorem dX1_bestBehind_22 : decode cX1_bestBehind 22 = .ok (.iand, 1) := by decide +kernel
theorem dX1_bestBehind_23 : decode cX1_bestBehind 23 = .ok (.ifCond .ne 24, 3) := by decide +kernel
theorem dX1_bestBehind_26 : decode cX1_bestBehind 26 = .ok (.aload_n 0, 1) := by decide +kernel
theorem dX1_bestBehind_27 : decode cX1_bestBehind 27 = .ok (.iload_n 1, 1) := by decide +kernel
theorem dX1_bestBehind_28 : decode cX1_bestBehind 28 = .ok (.iload 4, 2) := by decide +kernel
theorem dX1_bestBehind_30 : decode cX1_bestBehind 30 = .ok (.invokevirtual 64, 3) := by decide +kernel
theorem dX1_bestBehind_33 : decode cX1_bestBehind 33 = .ok (.istore 5, 2) := by decide +kernel
theorem dX1_bestBehind_35 : decode cX1_bestBehind 35 = .ok (.iload 5, 2) := by decide +kernel
theorem dX1_bestBehind_37 : decode cX1_bestBehind 37 = .ok (.iload_n 3, 1) := by decide +kernel
theorem dX1_bestBehind_38 : decode cX1_bestBehind 38 = .ok (.if_icmp .ge 9, 3) := by decide +kernel
theorem dX1_bestBehind_41 : decode cX1_bestBehind 41 = .ok (.iload 5, 2) := by decide +kernel
theorem dX1_bestBehind_43 : decode cX1_bestBehind 43 = .ok (.istore_n 3, 1) := by decide +kernel
theorem dX1_bestBehind_44 : decode cX1_bestBehind 44 = .ok (.iload 4, 2) := by decide +kernel
theorem dX1_bestBehind_46 : decode cX1_bestBehind 46 = .ok (.istore_n 2, 1) := by decide +kernel
theorem dX1_bestBehind_47 : decode cX1_bestBehind 47 = .ok (.iinc 4 1, 3) := by decide +kernel
theorem dX1_bestBehind_50 : decode cX1_bestBehind 50 = .ok (.goto (-42), 3) := by decide +kernel
theorem dX1_bestBehind_53 : decode cX1_bestBehind 53 = .ok (.iload_n 2, 1) := by decide +kernel
theorem dX1_bestBehind_54 : decode cX1_bestBehind 54 = .ok (.ireturn, 1) := by decide +kernel
theorem dX1_withBehind_0 : decode cX1_withBehind 0 = .ok (.aload_n 0, 1) := by decide +kernel
theorem dX1_withBehind_1 : decode cX1_withBehind 1 = .ok (.getfield 15, 3) := by decide +kernel
theorem dX1_withBehind_4 : decode cX1_withBehind 4 = .ok (.iload_n 1, 1) := by decide +kernel
theorem dX1_withBehind_5 : decode cX1_withBehind 5 = .ok (.laload, 1) := by decide +kernel
theorem dX1_withBehind_6 : decode cX1_withBehind 6 = .ok (.bipush 6, 2) := by decide +kernel
theorem dX1_withBehind_8 : decode cX1_withBehind 8 = .ok (.iload_n 2, 1) := by decide +kernel
theorem dX1_withBehind_9 : decode cX1_withBehind 9 = .ok (.imul, 1) := by decide +kernel
theorem dX1_withBehind_10 : decode cX1_withBehind 10 = .ok (.lshr, 1) := by decide +kernel
theorem dX1_withBehind_11 : decode cX1_withBehind 11 = .ok (.ldc2_w 86, 3) := by decide +kernel
theorem dX1_withBehind_14 : decode cX1_withBehind 14 = .ok (.land, 1) := by decide +kernel
theorem dX1_withBehind_15 : decode cX1_withBehind 15 = .ok (.l2i, 1) := by decide +kernel
theorem dX1_withBehind_16 : decode cX1_withBehind 16 = .ok (.aload_n 0, 1) := by decide +kernel
theorem dX1_withBehind_17 : decode cX1_withBehind 17 = .ok (.getfield 18, 3) := by decide +kernel
theorem dX1_withBehind_20 : decode cX1_withBehind 20 = .ok (.iload_n 1, 1) := by decide +kernel
theorem dX1_withBehind_21 : decode cX1_withBehind 21 = .ok (.iconst 1, 1) := by decide +kernel
theorem dX1_withBehind_22 : decode cX1_withBehind 22 = .ok (.iload_n 2, 1) := by decide +kernel
theorem dX1_withBehind_23 : decode cX1_withBehind 23 = .ok (.ishl, 1) := by decide +kernel
theorem dX1_withBehind_24 : decode cX1_withBehind 24 = .ok (.ior, 1) := by decide +kernel
theorem dX1_withBehind_25 : decode cX1_withBehind 25 = .ok (.iaload, 1) := by decide +kernel
theorem dX1_withBehind_26 : decode cX1_withBehind 26 = .ok (.iadd, 1) := by decide +kernel
theorem dX1_withBehind_27 : decode cX1_withBehind 27 = .ok (.ireturn, 1) := by decide +kernel
theorem dX2_init_0 : decode cX2_init 0 = .ok (.aload_n 0, 1) := by decide +kernel
theorem dX2_init_1 : decode cX2_init 1 = .ok (.invokespecial 3, 3) := by decide +kernel
theorem dX2_init_4 : decode cX2_init 4 = .ok (.aload_n 0, 1) := by decide +kernel
theorem dX2_init_5 : decode cX2_init 5 = .ok (.bipush 10, 2) := by decide +kernel
theorem dX2_init_7 : decode cX2_init 7 = .ok (.newarray .int, 2) := by decide +kernel
theorem dX2_init_9 : decode cX2_init 9 = .ok (.putfield 9, 3) := by decide +kernel
theorem dX2_init_12 : decode cX2_init 12 = .ok (.aload_n 0, 1) := by decide +kernel
theorem dX2_init_13 : decode cX2_init 13 = .ok (.bipush 10, 2) := by decide +kernel
theorem dX2_init_15 : decode cX2_init 15 = .ok (.newarray .int, 2) := by decide +kernel
theorem dX2_init_17 : decode cX2_init 17 = .ok (.putfield 15, 3) := by decide +kernel
theorem dX2_init_20 : decode cX2_init 20 = .ok (.aload_n 0, 1) := by decide +kernel
theorem dX2_init_21 : decode cX2_init 21 = .ok (.bipush 10, 2) := by decide +kernel
theorem dX2_init_23 : decode cX2_init 23 = .ok (.newarray .int, 2) := by decide +kernel
theorem dX2_init_25 : decode cX2_init 25 = .ok (.putfield 18, 3) := by decide +kernel
theorem dX2_init_28 : decode cX2_init 28 = .ok (.return_, 1) := by decide +kernel
theorem dX2_forget_0 : decode cX2_forget 0 = .ok (.aload_n 0, 1) := by decide +kernel
theorem dX2_forget_1 : decode cX2_forget 1 = .ok (.iconst 0, 1) := by decide +kernel
theorem dX2_forget_2 : decode cX2_forget 2 = .ok (.putfield 21, 3) := by decide +kernel
theorem dX2_forget_5 : decode cX2_forget 5 = .ok (.return_, 1) := by decide +kernel
theorem dX2_study_0 : decode cX2_study 0 = .ok (.aload_n 0, 1) := by decide +kernel
theorem dX2_study_1 : decode cX2_study 1 = .ok (.getfield 21, 3) := by decide +kernel
theorem dX2_study_4 : decode cX2_study 4 = .ok (.ifCond .eq 4, 3) := by decide +kernel
theorem dX2_study_7 : decode cX2_study 7 = .ok (.return_, 1) := by decide +kernel
theorem dX2_study_8 : decode cX2_study 8 = .ok (.aload_n 0, 1) := by decide +kernel
theorem dX2_study_9 : decode cX2_study 9 = .ok (.aload_n 1, 1) := by decide +kernel
theorem dX2_study_10 : decode cX2_study 10 = .ok (.invokevirtual 25, 3) := by decide +kernel
theorem dX2_study_13 : decode cX2_study 13 = .ok (.aload_n 0, 1) := by decide +kernel
theorem dX2_study_14 : decode cX2_study 14 = .ok (.aload_n 0, 1) := by decide +kernel
theorem dX2_study_15 : decode cX2_study 15 = .ok (.aload_n 0, 1) := by decide +kernel
theorem dX2_study_16 : decode cX2_study 16 = .ok (.getfield 29, 3) := by decide +kernel
theorem dX2_study_19 : decode cX2_study 19 = .ok (.invokevirtual 33, 3) := by decide +kernel
theorem dX2_study_22 : decode cX2_study 22 = .ok (.ifCond .eq 7, 3) := by decide +kernel
theorem dX2_study_25 : decode cX2_study 25 = .ok (.iconst 1, 1) := by decide +kernel
theorem dX2_study_26 : decode cX2_study 26 = .ok (.goto 4, 3) := by decide +kernel
theorem dX2_study_29 : decode cX2_study 29 = .ok (.iconst 0, 1) := by decide +kernel
theorem dX2_study_30 : decode cX2_study 30 = .ok (.putfield 37, 3) := by decide +kernel
theorem dX2_study_33 : decode cX2_study 33 = .ok (.aload_n 0, 1) := by decide +kernel
theorem dX2_study_34 : decode cX2_study 34 = .ok (.getfield 37, 3) := by decide +kernel
theorem dX2_study_37 : decode cX2_study 37 = .ok (.ifCond .eq 7, 3) := by decide +kernel
theorem dX2_study_40 : decode cX2_study 40 = .ok (.aload_n 0, 1) := by decide +kernel
theorem dX2_study_41 : decode cX2_study 41 = .ok (.invokevirtual 40, 3) := by decide +kernel
theorem dX2_study_44 : decode cX2_study 44 = .ok (.aload_n 0, 1) := by decide +kernel
theorem dX2_study_45 : decode cX2_study 45 = .ok (.iconst 1, 1) := by decide +kernel
theorem dX2_study_46 : decode cX2_study 46 = .ok (.putfield 21, 3) := by decide +kernel
theorem dX2_study_49 : decode cX2_study 49 = .ok (.return_, 1) := by decide +kernel
theorem dX2_hear_0 : decode cX2_hear 0 = .ok (.aload_n 0, 1) := by decide +kernel
theorem dX2_hear_1 : decode cX2_hear 1 = .ok (.aload_n 1, 1) := by decide +kernel
theorem dX2_hear_2 : decode cX2_hear 2 = .ok (.getfield 43, 3) := by decide +kernel
theorem dX2_hear_5 : decode cX2_hear 5 = .ok (.getfield 49, 3) := by decide +kernel
theorem dX2_hear_8 : decode cX2_hear 8 = .ok (.putfield 54, 3) := by decide +kernel
theorem dX2_hear_11 : decode cX2_hear 11 = .ok (.aload_n 0, 1) := by decide +kernel
theorem dX2_hear_12 : decode cX2_hear 12 = .ok (.aload_n 1, 1) := by decide +kernel
theorem dX2_hear_13 : decode cX2_hear 13 = .ok (.getfield 43, 3) := by decide +kernel
theorem dX2_hear_16 : decode cX2_hear 16 = .ok (.invokevirtual 55, 3) := by decide +kernel
theorem dX2_hear_19 : decode cX2_hear 19 = .ok (.putfield 29, 3) := by decide +kernel
theorem dX2_hear_22 : decode cX2_hear 22 = .ok (.aload_n 0, 1) := by decide +kernel
theorem dX2_hear_23 : decode cX2_hear 23 = .ok (.getfield 9, 3) := by decide +kernel
theorem dX2_hear_26 : decode cX2_hear 26 = .ok (.iconst 0, 1) := by decide +kernel
theorem dX2_hear_27 : decode cX2_hear 27 = .ok (.invokestatic 58, 3) := by decide +kernel
theorem dX2_hear_30 : decode cX2_hear 30 = .ok (.iconst 0, 1) := by decide +kernel
theorem dX2_hear_31 : decode cX2_hear 31 = .ok (.istore_n 2, 1) := by decide +kernel
theorem dX2_hear_32 : decode cX2_hear 32 = .ok (.iload_n 2, 1) := by decide +kernel
theorem dX2_hear_33 : decode cX2_hear 33 = .ok (.aload_n 1, 1) := by decide +kernel
theorem dX2_hear_34 : decode cX2_hear 34 = .ok (.getfield 64, 3) := by decide +kernel
theorem dX2_hear_37 : decode cX2_hear 37 = .ok (.if_icmp .ge 31, 3) := by decide +kernel
theorem dX2_hear_40 : decode cX2_hear 40 = .ok (.aload_n 0, 1) := by decide +kernel
theorem dX2_hear_41 : decode cX2_hear 41 = .ok (.getfield 9, 3) := by decide +kernel
theorem dX2_hear_44 : decode cX2_hear 44 = .ok (.aload_n 1, 1) := by decide +kernel
theorem dX2_hear_45 : decode cX2_hear 45 = .ok (.getfield 67, 3) := by decide +kernel
theorem dX2_hear_48 : decode cX2_hear 48 = .ok (.iload_n 2, 1) := by decide +kernel
theorem dX2_hear_49 : decode cX2_hear 49 = .ok (.iaload, 1) := by decide +kernel
theorem dX2_hear_50 : decode cX2_hear 50 = .ok (.dup2, 1) := by decide +kernel
theorem dX2_hear_51 : decode cX2_hear 51 = .ok (.iaload, 1) := by decide +kernel
theorem dX2_hear_52 : decode cX2_hear 52 = .ok (.iconst 1, 1) := by decide +kernel
theorem dX2_hear_53 : decode cX2_hear 53 = .ok (.aload_n 1, 1) := by decide +kernel
theorem dX2_hear_54 : decode cX2_hear 54 = .ok (.getfield 70, 3) := by decide +kernel
theorem dX2_hear_57 : decode cX2_hear 57 = .ok (.iload_n 2, 1) := by decide +kernel
theorem dX2_hear_58 : decode cX2_hear 58 = .ok (.iaload, 1) := by decide +kernel
theorem dX2_hear_59 : decode cX2_hear 59 = .ok (.ishl, 1) := by decide +kernel
theorem dX2_hear_60 : decode cX2_hear 60 = .ok (.ior, 1) := by decide +kernel
theorem dX2_hear_61 : decode cX2_hear 61 = .ok (.iastore, 1) := by decide +kernel
theorem dX2_hear_62 : decode cX2_hear 62 = .ok (.iinc 2 1, 3) := by decide +kernel
theorem dX2_hear_65 : decode cX2_hear 65 = .ok (.goto (-33), 3) := by decide +kernel
theorem dX2_hear_68 : decode cX2_hear 68 = .ok (.return_, 1) := by decide +kernel
theorem dX2_oneOrderFits_0 : decode cX2_oneOrderFits 0 = .ok (.aload_n 0, 1) := by decide +kernel
theorem dX2_oneOrderFits_1 : decode cX2_oneOrderFits 1 = .ok (.aload_n 0, 1) := by decide +kernel
theorem dX2_oneOrderFits_2 : decode cX2_oneOrderFits 2 = .ok (.getfield 29, 3) := by decide +kernel
theorem dX2_oneOrderFits_5 : decode cX2_oneOrderFits 5 = .ok (.invokevirtual 33, 3) := by decide +kernel
theorem dX2_oneOrderFits_8 : decode cX2_oneOrderFits 8 = .ok (.iconst 1, 1) := by decide +kernel
theorem dX2_oneOrderFits_9 : decode cX2_oneOrderFits 9 = .ok (.if_icmp .ne 7, 3) := by decide +kernel
theorem dX2_oneOrderFits_12 : decode cX2_oneOrderFits 12 = .ok (.iconst 1, 1) := by decide +kernel
theorem dX2_oneOrderFits_13 : decode cX2_oneOrderFits 13 = .ok (.goto 4, 3) := by decide +kernel
theorem dX2_oneOrderFits_16 : decode cX2_oneOrderFits 16 = .ok (.iconst 0, 1) := by decide +kernel
theorem dX2_oneOrderFits_17 : decode cX2_oneOrderFits 17 = .ok (.ireturn, 1) := by decide +kernel
theorem dX2_isAbove_0 : decode cX2_isAbove 0 = .ok (.aload_n 0, 1) := by decide +kernel
theorem dX2_isAbove_1 : decode cX2_isAbove 1 = .ok (.getfield 37, 3) := by decide +kernel
theorem dX2_isAbove_4 : decode cX2_isAbove 4 = .ok (.ifCond .eq 20, 3) := by decide +kernel
theorem dX2_isAbove_7 : decode cX2_isAbove 7 = .ok (.aload_n 0, 1) := by decide +kernel
theorem dX2_isAbove_8 : decode cX2_isAbove 8 = .ok (.getfield 15, 3) := by decide +kernel
theorem dX2_isAbove_11 : decode cX2_isAbove 11 = .ok (.iload_n 2, 1) := by decide +kernel
theorem dX2_isAbove_12 : decode cX2_isAbove 12 = .ok (.iaload, 1) := by decide +kernel
theorem dX2_isAbove_13 : decode cX2_isAbove 13 = .ok (.iload_n 1, 1) := by decide +kernel
theorem dX2_isAbove_14 : decode cX2_isAbove 14 = .ok (.ishr, 1) := by decide +kernel
theorem dX2_isAbove_15 : decode cX2_isAbove 15 = .ok (.iconst 1, 1) := by decide +kernel
theorem dX2_isAbove_16 : decode cX2_isAbove 16 = .ok (.iand, 1) := by decide +kernel
theorem dX2_isAbove_17 : decode cX2_isAbove 17 = .ok (.ifCond .eq 7, 3) := by decide +kernel
theorem dX2_isAbove_20 : decode cX2_isAbove 20 = .ok (.iconst 1, 1) := by decide +kernel
theorem dX2_isAbove_21 : decode cX2_isAbove 21 = .ok (.goto 4, 3) := by decide +kernel
theorem dX2_isAbove_24 : decode cX2_isAbove 24 = .ok (.iconst 0, 1) := by decide +kernel
theorem dX2_isAbove_25 : decode cX2_isAbove 25 = .ok (.ireturn, 1) := by decide +kernel
theorem dX2_leastPlace_0 : decode cX2_leastPlace 0 = .ok (.aload_n 0, 1) := by decide +kernel
theorem dX2_leastPlace_1 : decode cX2_leastPlace 1 = .ok (.getfield 15, 3) := by decide +kernel
theorem dX2_leastPlace_4 : decode cX2_leastPlace 4 = .ok (.iload_n 1, 1) := by decide +kernel
theorem dX2_leastPlace_5 : decode cX2_leastPlace 5 = .ok (.iaload, 1) := by decide +kernel
theorem dX2_leastPlace_6 : decode cX2_leastPlace 6 = .ok (.invokestatic 73, 3) := by decide +kernel
theorem dX2_leastPlace_9 : decode cX2_leastPlace 9 = .ok (.ireturn, 1) := by decide +kernel
theorem dX2_greatestPlace_0 : decode cX2_greatestPlace 0 = .ok (.aload_n 0, 1) := by decide +kernel
theorem dX2_greatestPlace_1 : decode cX2_greatestPlace 1 = .ok (.getfield 54, 3) := by decide +kernel
theorem dX2_greatestPlace_4 : decode cX2_greatestPlace 4 = .ok (.iconst 1, 1) := by decide +kernel
theorem dX2_greatestPlace_5 : decode cX2_greatestPlace 5 = .ok (.isub, 1) := by decide +kernel
theorem dX2_greatestPlace_6 : decode cX2_greatestPlace 6 = .ok (.istore_n 2, 1) := by decide +kernel
theorem dX2_greatestPlace_7 : decode cX2_greatestPlace 7 = .ok (.iconst 0, 1) := by decide +kernel
theorem dX2_greatestPlace_8 : decode cX2_greatestPlace 8 = .ok (.istore_n 3, 1) := by decide +kernel
theorem dX2_greatestPlace_9 : decode cX2_greatestPlace 9 = .ok (.iload_n 3, 1) := by decide +kernel
theorem dX2_greatestPlace_10 : decode cX2_greatestPlace 10 = .ok (.aload_n 0, 1) := by decide +kernel
theorem dX2_greatestPlace_11 : decode cX2_greatestPlace 11 = .ok (.getfield 54, 3) := by decide +kernel
theorem dX2_greatestPlace_14 : decode cX2_greatestPlace 14 = .ok (.if_icmp .ge 21, 3) := by decide +kernel
theorem dX2_greatestPlace_17 : decode cX2_greatestPlace 17 = .ok (.aload_n 0, 1) := by decide +kernel
theorem dX2_greatestPlace_18 : decode cX2_greatestPlace 18 = .ok (.iload_n 1, 1) := by decide +kernel
theorem dX2_greatestPlace_19 : decode cX2_greatestPlace 19 = .ok (.iload_n 3, 1) := by decide +kernel
theorem dX2_greatestPlace_20 : decode cX2_greatestPlace 20 = .ok (.invokevirtual 78, 3) := by decide +kernel
theorem dX2_greatestPlace_23 : decode cX2_greatestPlace 23 = .ok (.ifCond .eq 6, 3) := by decide +kernel
theorem dX2_greatestPlace_26 : decode cX2_greatestPlace 26 = .ok (.iinc 2 (-1), 3) := by decide +kernel
theorem dX2_greatestPlace_29 : decode cX2_greatestPlace 29 = .ok (.iinc 3 1, 3) := by decide +kernel
theorem dX2_greatestPlace_32 : decode cX2_greatestPlace 32 = .ok (.goto (-23), 3) := by decide +kernel
theorem dX2_greatestPlace_35 : decode cX2_greatestPlace 35 = .ok (.iload_n 2, 1) := by decide +kernel
theorem dX2_greatestPlace_36 : decode cX2_greatestPlace 36 = .ok (.ireturn, 1) := by decide +kernel
theorem dX2_untangling_0 : decode cX2_untangling 0 = .ok (.iconst 0, 1) := by decide +kernel
theorem dX2_untangling_1 : decode cX2_untangling 1 = .ok (.istore_n 1, 1) := by decide +kernel
theorem dX2_untangling_2 : decode cX2_untangling 2 = .ok (.iconst 0, 1) := by decide +kernel
theorem dX2_untangling_3 : decode cX2_untangling 3 = .ok (.istore_n 2, 1) := by decide +kernel
theorem dX2_untangling_4 : decode cX2_untangling 4 = .ok (.iload_n 2, 1) := by decide +kernel
theorem dX2_untangling_5 : decode cX2_untangling 5 = .ok (.aload_n 0, 1) := by decide +kernel
theorem dX2_untangling_6 : decode cX2_untangling 6 = .ok (.getfield 54, 3) := by decide +kernel
theorem dX2_untangling_9 : decode cX2_untangling 9 = .ok (.if_icmp .ge 32, 3) := by decide +kernel
theorem dX2_untangling_12 : decode cX2_untangling 12 = .ok (.aload_n 0, 1) := by decide +kernel
theorem dX2_untangling_13 : decode cX2_untangling 13 = .ok (.aload_n 0, 1) := by decide +kernel
theorem dX2_untangling_14 : decode cX2_untangling 14 = .ok (.getfield 29, 3) := by decide +kernel
theorem dX2_untangling_17 : decode cX2_untangling 17 = .ok (.iconst 1, 1) := by decide +kernel
theorem dX2_untangling_18 : decode cX2_untangling 18 = .ok (.iload_n 2, 1) := by decide +kernel
theorem dX2_untangling_19 : decode cX2_untangling 19 = .ok (.ishl, 1) := by decide +kernel
theorem dX2_untangling_20 : decode cX2_untangling 20 = .ok (.iconst (-1), 1) := by decide +kernel
theorem dX2_untangling_21 : decode cX2_untangling 21 = .ok (.ixor, 1) := by decide +kernel
theorem dX2_untangling_22 : decode cX2_untangling 22 = .ok (.iand, 1) := by decide +kernel
theorem dX2_untangling_23 : decode cX2_untangling 23 = .ok (.invokevirtual 33, 3) := by decide +kernel
theorem dX2_untangling_26 : decode cX2_untangling 26 = .ok (.ifCond .eq 9, 3) := by decide +kernel
theorem dX2_untangling_29 : decode cX2_untangling 29 = .ok (.iload_n 1, 1) := by decide +kernel
theorem dX2_untangling_30 : decode cX2_untangling 30 = .ok (.iconst 1, 1) := by decide +kernel
theorem dX2_untangling_31 : decode cX2_untangling 31 = .ok (.iload_n 2, 1) := by decide +kernel
theorem dX2_untangling_32 : decode cX2_untangling 32 = .ok (.ishl, 1) := by decide +kernel
theorem dX2_untangling_33 : decode cX2_untangling 33 = .ok (.ior, 1) := by decide +kernel
theorem dX2_untangling_34 : decode cX2_untangling 34 = .ok (.istore_n 1, 1) := by decide +kernel
theorem dX2_untangling_35 : decode cX2_untangling 35 = .ok (.iinc 2 1, 3) := by decide +kernel
theorem dX2_untangling_38 : decode cX2_untangling 38 = .ok (.goto (-34), 3) := by decide +kernel
theorem dX2_untangling_41 : decode cX2_untangling 41 = .ok (.iload_n 1, 1) := by decide +kernel
theorem dX2_untangling_42 : decode cX2_untangling 42 = .ok (.ireturn, 1) := by decide +kernel
theorem dX2_placesFor_0 : decode cX2_placesFor 0 = .ok (.aload_n 0, 1) := by decide +kernel
theorem dX2_placesFor_1 : decode cX2_placesFor 1 = .ok (.aload_n 0, 1) := by decide +kernel
theorem dX2_placesFor_2 : decode cX2_placesFor 2 = .ok (.getfield 29, 3) := by decide +kernel
theorem dX2_placesFor_5 : decode cX2_placesFor 5 = .ok (.iconst 1, 1) := by decide +kernel
theorem dX2_placesFor_6 : decode cX2_placesFor 6 = .ok (.iload_n 1, 1) := by decide +kernel
theorem dX2_placesFor_7 : decode cX2_placesFor 7 = .ok (.ishl, 1) := by decide +kernel
theorem dX2_placesFor_8 : decode cX2_placesFor 8 = .ok (.iconst (-1), 1) := by decide +kernel
theorem dX2_placesFor_9 : decode cX2_placesFor 9 = .ok (.ixor, 1) := by decide +kernel
theorem dX2_placesFor_10 : decode cX2_placesFor 10 = .ok (.iand, 1) := by decide +kernel
theorem dX2_placesFor_11 : decode cX2_placesFor 11 = .ok (.invokevirtual 33, 3) := by decide +kernel
theorem dX2_placesFor_14 : decode cX2_placesFor 14 = .ok (.iconst 1, 1) := by decide +kernel
theorem dX2_placesFor_15 : decode cX2_placesFor 15 = .ok (.if_icmp .eq 5, 3) := by decide +kernel
theorem dX2_placesFor_18 : decode cX2_placesFor 18 = .ok (.iconst 0, 1) := by decide +kernel
theorem dX2_placesFor_19 : decode cX2_placesFor 19 = .ok (.ireturn, 1) := by decide +kernel
theorem dX2_placesFor_20 : decode cX2_placesFor 20 = .ok (.aload_n 0, 1) := by decide +kernel
theorem dX2_placesFor_21 : decode cX2_placesFor 21 = .ok (.getfield 54, 3) := by decide +kernel
theorem dX2_placesFor_24 : decode cX2_placesFor 24 = .ok (.iconst 1, 1) := by decide +kernel
theorem dX2_placesFor_25 : decode cX2_placesFor 25 = .ok (.isub, 1) := by decide +kernel
theorem dX2_placesFor_26 : decode cX2_placesFor 26 = .ok (.istore_n 2, 1) := by decide +kernel
theorem dX2_placesFor_27 : decode cX2_placesFor 27 = .ok (.iconst 0, 1) := by decide +kernel
theorem dX2_placesFor_28 : decode cX2_placesFor 28 = .ok (.istore_n 3, 1) := by decide +kernel
theorem dX2_placesFor_29 : decode cX2_placesFor 29 = .ok (.iload_n 2, 1) := by decide +kernel
theorem dX2_placesFor_30 : decode cX2_placesFor 30 = .ok (.istore 4, 2) := by decide +kernel
theorem dX2_placesFor_32 : decode cX2_placesFor 32 = .ok (.iconst 0, 1) := by decide +kernel
theorem dX2_placesFor_33 : decode cX2_placesFor 33 = .ok (.istore 5, 2) := by decide +kernel
theorem dX2_placesFor_35 : decode cX2_placesFor 35 = .ok (.iload 5, 2) := by decide +kernel
theorem dX2_placesFor_37 : decode cX2_placesFor 37 = .ok (.iload_n 2, 1) := by decide +kernel
theorem dX2_placesFor_38 : decode cX2_placesFor 38 = .ok (.if_icmp .ge 60, 3) := by decide +kernel
theorem dX2_placesFor_41 : decode cX2_placesFor 41 = .ok (.aload_n 0, 1) := by decide +kernel
theorem dX2_placesFor_42 : decode cX2_placesFor 42 = .ok (.getfield 18, 3) := by decide +kernel
theorem dX2_placesFor_45 : decode cX2_placesFor 45 = .ok (.iload 5, 2) := by decide +kernel
theorem dX2_placesFor_47 : decode cX2_placesFor 47 = .ok (.iaload, 1) := by decide +kernel
theorem dX2_placesFor_48 : decode cX2_placesFor 48 = .ok (.istore 6, 2) := by decide +kernel
theorem dX2_placesFor_50 : decode cX2_placesFor 50 = .ok (.aload_n 0, 1) := by decide +kernel
theorem dX2_placesFor_51 : decode cX2_placesFor 51 = .ok (.getfield 9, 3) := by decide +kernel
theorem dX2_placesFor_54 : decode cX2_placesFor 54 = .ok (.iload_n 1, 1) := by decide +kernel
theorem dX2_placesFor_55 : decode cX2_placesFor 55 = .ok (.iaload, 1) := by decide +kernel
theorem dX2_placesFor_56 : decode cX2_placesFor 56 = .ok (.iload 6, 2) := by decide +kernel
theorem dX2_placesFor_58 : decode cX2_placesFor 58 = .ok (.ishr, 1) := by decide +kernel
theorem dX2_placesFor_59 : decode cX2_placesFor 59 = .ok (.iconst 1, 1) := by decide +kernel
theorem dX2_placesFor_60 : decode cX2_placesFor 60 = .ok (.iand, 1) := by decide +kernel
theorem dX2_placesFor_61 : decode cX2_placesFor 61 = .ok (.ifCond .eq 8, 3) := by decide +kernel
theorem dX2_placesFor_64 : decode cX2_placesFor 64 = .ok (.iload 5, 2) := by decide +kernel
theorem dX2_placesFor_66 : decode cX2_placesFor 66 = .ok (.iconst 1, 1) := by decide +kernel
theorem dX2_placesFor_67 : decode cX2_placesFor 67 = .ok (.iadd, 1) := by decide +kernel
theorem dX2_placesFor_68 : decode cX2_placesFor 68 = .ok (.istore_n 3, 1) := by decide +kernel
theorem dX2_placesFor_69 : decode cX2_placesFor 69 = .ok (.aload_n 0, 1) := by decide +kernel
theorem dX2_placesFor_70 : decode cX2_placesFor 70 = .ok (.getfield 9, 3) := by decide +kernel
theorem dX2_placesFor_73 : decode cX2_placesFor 73 = .ok (.iload 6, 2) := by decide +kernel
theorem dX2_placesFor_75 : decode cX2_placesFor 75 = .ok (.iaload, 1) := by decide +kernel
theorem dX2_placesFor_76 : decode cX2_placesFor 76 = .ok (.iload_n 1, 1) := by decide +kernel
theorem dX2_placesFor_77 : decode cX2_placesFor 77 = .ok (.ishr, 1) := by decide +kernel
theorem dX2_placesFor_78 : decode cX2_placesFor 78 = .ok (.iconst 1, 1) := by decide +kernel
theorem dX2_placesFor_79 : decode cX2_placesFor 79 = .ok (.iand, 1) := by decide +kernel
theorem dX2_placesFor_80 : decode cX2_placesFor 80 = .ok (.ifCond .eq 12, 3) := by decide +kernel
theorem dX2_placesFor_83 : decode cX2_placesFor 83 = .ok (.iload 4, 2) := by decide +kernel
theorem dX2_placesFor_85 : decode cX2_placesFor 85 = .ok (.iload 5, 2) := by decide +kernel
theorem dX2_placesFor_87 : decode cX2_placesFor 87 = .ok (.invokestatic 82, 3) := by decide +kernel
theorem dX2_placesFor_90 : decode cX2_placesFor 90 = .ok (.istore 4, 2) := by decide +kernel
theorem dX2_placesFor_92 : decode cX2_placesFor 92 = .ok (.iinc 5 1, 3) := by decide +kernel
theorem dX2_placesFor_95 : decode cX2_placesFor 95 = .ok (.goto (-60), 3) := by decide +kernel
theorem dX2_placesFor_98 : decode cX2_placesFor 98 = .ok (.iconst 0, 1) := by decide +kernel
theorem dX2_placesFor_99 : decode cX2_placesFor 99 = .ok (.iload 4, 2) := by decide +kernel
theorem dX2_placesFor_101 : decode cX2_placesFor 101 = .ok (.iload_n 3, 1) := by decide +kernel
theorem dX2_placesFor_102 : decode cX2_placesFor 102 = .ok (.isub, 1) := by decide +kernel
theorem dX2_placesFor_103 : decode cX2_placesFor 103 = .ok (.iconst 1, 1) := by decide +kernel
theorem dX2_placesFor_104 : decode cX2_placesFor 104 = .ok (.iadd, 1) := by decide +kernel
theorem dX2_placesFor_105 : decode cX2_placesFor 105 = .ok (.invokestatic 88, 3) := by decide +kernel
theorem dX2_placesFor_108 : decode cX2_placesFor 108 = .ok (.ireturn, 1) := by decide +kernel
theorem dX2_peel_0 : decode cX2_peel 0 = .ok (.iload_n 1, 1) := by decide +kernel
theorem dX2_peel_1 : decode cX2_peel 1 = .ok (.istore_n 2, 1) := by decide +kernel
theorem dX2_peel_2 : decode cX2_peel 2 = .ok (.iconst 1, 1) := by decide +kernel
theorem dX2_peel_3 : decode cX2_peel 3 = .ok (.istore_n 3, 1) := by decide +kernel
theorem dX2_peel_4 : decode cX2_peel 4 = .ok (.iconst 0, 1) := by decide +kernel
theorem dX2_peel_5 : decode cX2_peel 5 = .ok (.istore 4, 2) := by decide +kernel
theorem dX2_peel_7 : decode cX2_peel 7 = .ok (.iload 4, 2) := by decide +kernel
theorem dX2_peel_9 : decode cX2_peel 9 = .ok (.bipush 10, 2) := by decide +kernel
theorem dX2_peel_11 : decode cX2_peel 11 = .ok (.if_icmp .ge 98, 3) := by decide +kernel
theorem dX2_peel_14 : decode cX2_peel 14 = .ok (.iload_n 2, 1) := by decide +kernel
theorem dX2_peel_15 : decode cX2_peel 15 = .ok (.ifCond .eq 94, 3) := by decide +kernel
theorem dX2_peel_18 : decode cX2_peel 18 = .ok (.iconst (-1), 1) := by decide +kernel
theorem dX2_peel_19 : decode cX2_peel 19 = .ok (.istore 5, 2) := by decide +kernel
theorem dX2_peel_21 : decode cX2_peel 21 = .ok (.aload_n 0, 1) := by decide +kernel
theorem dX2_peel_22 : decode cX2_peel 22 = .ok (.getfield 54, 3) := by decide +kernel
theorem dX2_peel_25 : decode cX2_peel 25 = .ok (.iconst 1, 1) := by decide +kernel
theorem dX2_peel_26 : decode cX2_peel 26 = .ok (.isub, 1) := by decide +kernel
theorem dX2_peel_27 : decode cX2_peel 27 = .ok (.istore 6, 2) := by decide +kernel
theorem dX2_peel_29 : decode cX2_peel 29 = .ok (.iload 6, 2) := by decide +kernel
theorem dX2_peel_31 : decode cX2_peel 31 = .ok (.ifCond .lt 46, 3) := by decide +kernel
theorem dX2_peel_34 : decode cX2_peel 34 = .ok (.iload_n 2, 1) := by decide +kernel
theorem dX2_peel_35 : decode cX2_peel 35 = .ok (.iload 6, 2) := by decide +kernel
theorem dX2_peel_37 : decode cX2_peel 37 = .ok (.ishr, 1) := by decide +kernel
theorem dX2_peel_38 : decode cX2_peel 38 = .ok (.iconst 1, 1) := by decide +kernel
theorem dX2_peel_39 : decode cX2_peel 39 = .ok (.iand, 1) := by decide +kernel
theorem dX2_peel_40 : decode cX2_peel 40 = .ok (.ifCond .eq 31, 3) := by decide +kernel
theorem dX2_peel_43 : decode cX2_peel 43 = .ok (.aload_n 0, 1) := by decide +kernel
theorem dX2_peel_44 : decode cX2_peel 44 = .ok (.getfield 9, 3) := by decide +kernel
theorem dX2_peel_47 : decode cX2_peel 47 = .ok (.iload 6, 2) := by decide +kernel
theorem dX2_peel_49 : decode cX2_peel 49 = .ok (.iaload, 1) := by decide +kernel
theorem dX2_peel_50 : decode cX2_peel 50 = .ok (.iload_n 2, 1) := by decide +kernel
theorem dX2_peel_51 : decode cX2_peel 51 = .ok (.iand, 1) := by decide +kernel
theorem dX2_peel_52 : decode cX2_peel 52 = .ok (.ifCond .ne 19, 3) := by decide +kernel
theorem dX2_peel_55 : decode cX2_peel 55 = .ok (.iload 5, 2) := by decide +kernel
theorem dX2_peel_57 : decode cX2_peel 57 = .ok (.iconst (-1), 1) := by decide +kernel
theorem dX2_peel_58 : decode cX2_peel 58 = .ok (.if_icmp .ne 7, 3) := by decide +kernel
theorem dX2_peel_61 : decode cX2_peel 61 = .ok (.iload_n 3, 1) := by decide +kernel
theorem dX2_peel_62 : decode cX2_peel 62 = .ok (.goto 4, 3) := by decide +kernel
theorem dX2_peel_65 : decode cX2_peel 65 = .ok (.iconst 2, 1) := by decide +kernel
theorem dX2_peel_66 : decode cX2_peel 66 = .ok (.istore_n 3, 1) := by decide +kernel
theorem dX2_peel_67 : decode cX2_peel 67 = .ok (.iload 6, 2) := by decide +kernel
theorem dX2_peel_69 : decode cX2_peel 69 = .ok (.istore 5, 2) := by decide +kernel
theorem dX2_peel_71 : decode cX2_peel 71 = .ok (.iinc 6 (-1), 3) := by decide +kernel
theorem dX2_peel_74 : decode cX2_peel 74 = .ok (.goto (-45), 3) := by decide +kernel
theorem dX2_peel_77 : decode cX2_peel 77 = .ok (.iload 5, 2) := by decide +kernel
theorem dX2_peel_79 : decode cX2_peel 79 = .ok (.iconst (-1), 1) := by decide +kernel
theorem dX2_peel_80 : decode cX2_peel 80 = .ok (.if_icmp .ne 5, 3) := by decide +kernel
theorem dX2_peel_83 : decode cX2_peel 83 = .ok (.iconst 0, 1) := by decide +kernel
theorem dX2_peel_84 : decode cX2_peel 84 = .ok (.ireturn, 1) := by decide +kernel
theorem dX2_peel_85 : decode cX2_peel 85 = .ok (.aload_n 0, 1) := by decide +kernel
theorem dX2_peel_86 : decode cX2_peel 86 = .ok (.getfield 18, 3) := by decide +kernel
theorem dX2_peel_89 : decode cX2_peel 89 = .ok (.iload 4, 2) := by decide +kernel
theorem dX2_peel_91 : decode cX2_peel 91 = .ok (.iload 5, 2) := by decide +kernel
theorem dX2_peel_93 : decode cX2_peel 93 = .ok (.iastore, 1) := by decide +kernel
theorem dX2_peel_94 : decode cX2_peel 94 = .ok (.iload_n 2, 1) := by decide +kernel
theorem dX2_peel_95 : decode cX2_peel 95 = .ok (.iconst 1, 1) := by decide +kernel
theorem dX2_peel_96 : decode cX2_peel 96 = .ok (.iload 5, 2) := by decide +kernel
theorem dX2_peel_98 : decode cX2_peel 98 = .ok (.ishl, 1) := by decide +kernel
theorem dX2_peel_99 : decode cX2_peel 99 = .ok (.iconst (-1), 1) := by decide +kernel
theorem dX2_peel_100 : decode cX2_peel 100 = .ok (.ixor, 1) := by decide +kernel
theorem dX2_peel_101 : decode cX2_peel 101 = .ok (.iand, 1) := by decide +kernel
theorem dX2_peel_102 : decode cX2_peel 102 = .ok (.istore_n 2, 1) := by decide +kernel
theorem dX2_peel_103 : decode cX2_peel 103 = .ok (.iinc 4 1, 3) := by decide +kernel
theorem dX2_peel_106 : decode cX2_peel 106 = .ok (.goto (-99), 3) := by decide +kernel
theorem dX2_peel_109 : decode cX2_peel 109 = .ok (.iload_n 3, 1) := by decide +kernel
theorem dX2_peel_110 : decode cX2_peel 110 = .ok (.ireturn, 1) := by decide +kernel
theorem dX2_climb_0 : decode cX2_climb 0 = .ok (.iconst 0, 1) := by decide +kernel
theorem dX2_climb_1 : decode cX2_climb 1 = .ok (.istore_n 1, 1) := by decide +kernel
theorem dX2_climb_2 : decode cX2_climb 2 = .ok (.iload_n 1, 1) := by decide +kernel
theorem dX2_climb_3 : decode cX2_climb 3 = .ok (.aload_n 0, 1) := by decide +kernel
theorem dX2_climb_4 : decode cX2_climb 4 = .ok (.getfield 54, 3) := by decide +kernel
theorem dX2_climb_7 : decode cX2_climb 7 = .ok (.if_icmp .ge 72, 3) := by decide +kernel
theorem dX2_climb_10 : decode cX2_climb 10 = .ok (.aload_n 0, 1) := by decide +kernel
theorem dX2_climb_11 : decode cX2_climb 11 = .ok (.getfield 18, 3) := by decide +kernel
theorem dX2_climb_14 : decode cX2_climb 14 = .ok (.iload_n 1, 1) := by decide +kernel
theorem dX2_climb_15 : decode cX2_climb 15 = .ok (.iaload, 1) := by decide +kernel
theorem dX2_climb_16 : decode cX2_climb 16 = .ok (.istore_n 2, 1) := by decide +kernel
theorem dX2_climb_17 : decode cX2_climb 17 = .ok (.aload_n 0, 1) := by decide +kernel
theorem dX2_climb_18 : decode cX2_climb 18 = .ok (.getfield 9, 3) := by decide +kernel
theorem dX2_climb_21 : decode cX2_climb 21 = .ok (.iload_n 2, 1) := by decide +kernel
theorem dX2_climb_22 : decode cX2_climb 22 = .ok (.iaload, 1) := by decide +kernel
theorem dX2_climb_23 : decode cX2_climb 23 = .ok (.istore_n 3, 1) := by decide +kernel
theorem dX2_climb_24 : decode cX2_climb 24 = .ok (.iconst 0, 1) := by decide +kernel
theorem dX2_climb_25 : decode cX2_climb 25 = .ok (.istore 4, 2) := by decide +kernel
theorem dX2_climb_27 : decode cX2_climb 27 = .ok (.iload 4, 2) := by decide +kernel
theorem dX2_climb_29 : decode cX2_climb 29 = .ok (.aload_n 0, 1) := by decide +kernel
theorem dX2_climb_30 : decode cX2_climb 30 = .ok (.getfield 54, 3) := by decide +kernel
theorem dX2_climb_33 : decode cX2_climb 33 = .ok (.if_icmp .ge 33, 3) := by decide +kernel
theorem dX2_climb_36 : decode cX2_climb 36 = .ok (.aload_n 0, 1) := by decide +kernel
theorem dX2_climb_37 : decode cX2_climb 37 = .ok (.getfield 9, 3) := by decide +kernel
theorem dX2_climb_40 : decode cX2_climb 40 = .ok (.iload_n 2, 1) := by decide +kernel
theorem dX2_climb_41 : decode cX2_climb 41 = .ok (.iaload, 1) := by decide +kernel
theorem dX2_climb_42 : decode cX2_climb 42 = .ok (.iload 4, 2) := by decide +kernel
theorem dX2_climb_44 : decode cX2_climb 44 = .ok (.ishr, 1) := by decide +kernel
theorem dX2_climb_45 : decode cX2_climb 45 = .ok (.iconst 1, 1) := by decide +kernel
theorem dX2_climb_46 : decode cX2_climb 46 = .ok (.iand, 1) := by decide +kernel
theorem dX2_climb_47 : decode cX2_climb 47 = .ok (.ifCond .eq 13, 3) := by decide +kernel
theorem dX2_climb_50 : decode cX2_climb 50 = .ok (.iload_n 3, 1) := by decide +kernel
theorem dX2_climb_51 : decode cX2_climb 51 = .ok (.aload_n 0, 1) := by decide +kernel
theorem dX2_climb_52 : decode cX2_climb 52 = .ok (.getfield 15, 3) := by decide +kernel
theorem dX2_climb_55 : decode cX2_climb 55 = .ok (.iload 4, 2) := by decide +kernel
theorem dX2_climb_57 : decode cX2_climb 57 = .ok (.iaload, 1) := by decide +kernel
theorem dX2_climb_58 : decode cX2_climb 58 = .ok (.ior, 1) := by decide +kernel
theorem dX2_climb_59 : decode cX2_climb 59 = .ok (.istore_n 3, 1) := by decide +kernel
theorem dX2_climb_60 : decode cX2_climb 60 = .ok (.iinc 4 1, 3) := by decide +kernel
theorem dX2_climb_63 : decode cX2_climb 63 = .ok (.goto (-36), 3) := by decide +kernel
theorem dX2_climb_66 : decode cX2_climb 66 = .ok (.aload_n 0, 1) := by decide +kernel
theorem dX2_climb_67 : decode cX2_climb 67 = .ok (.getfield 15, 3) := by decide +kernel
theorem dX2_climb_70 : decode cX2_climb 70 = .ok (.iload_n 2, 1) := by decide +kernel
theorem dX2_climb_71 : decode cX2_climb 71 = .ok (.iload_n 3, 1) := by decide +kernel
theorem dX2_climb_72 : decode cX2_climb 72 = .ok (.iastore, 1) := by decide +kernel
theorem dX2_climb_73 : decode cX2_climb 73 = .ok (.iinc 1 1, 3) := by decide +kernel
theorem dX2_climb_76 : decode cX2_climb 76 = .ok (.goto (-74), 3) := by decide +kernel
theorem dX2_climb_79 : decode cX2_climb 79 = .ok (.return_, 1) := by decide +kernel
theorem dX3_init_0 : decode cX3_init 0 = .ok (.aload_n 0, 1) := by decide +kernel
theorem dX3_init_1 : decode cX3_init 1 = .ok (.invokespecial 3, 3) := by decide +kernel
theorem dX3_init_4 : decode cX3_init 4 = .ok (.aload_n 0, 1) := by decide +kernel
theorem dX3_init_5 : decode cX3_init 5 = .ok (.new 9, 3) := by decide +kernel
theorem dX3_init_8 : decode cX3_init 8 = .ok (.dup, 1) := by decide +kernel
theorem dX3_init_9 : decode cX3_init 9 = .ok (.invokespecial 11, 3) := by decide +kernel
theorem dX3_init_12 : decode cX3_init 12 = .ok (.putfield 12, 3) := by decide +kernel
theorem dX3_init_15 : decode cX3_init 15 = .ok (.aload_n 0, 1) := by decide +kernel
theorem dX3_init_16 : decode cX3_init 16 = .ok (.new 18, 3) := by decide +kernel
theorem dX3_init_19 : decode cX3_init 19 = .ok (.dup, 1) := by decide +kernel
theorem dX3_init_20 : decode cX3_init 20 = .ok (.invokespecial 20, 3) := by decide +kernel
theorem dX3_init_23 : decode cX3_init 23 = .ok (.putfield 21, 3) := by decide +kernel
theorem dX3_init_26 : decode cX3_init 26 = .ok (.aload_n 0, 1) := by decide +kernel
theorem dX3_init_27 : decode cX3_init 27 = .ok (.bipush 10, 2) := by decide +kernel
theorem dX3_init_29 : decode cX3_init 29 = .ok (.newarray .long, 2) := by decide +kernel
theorem dX3_init_31 : decode cX3_init 31 = .ok (.putfield 25, 3) := by decide +kernel
theorem dX3_init_34 : decode cX3_init 34 = .ok (.aload_n 0, 1) := by decide +kernel
theorem dX3_init_35 : decode cX3_init 35 = .ok (.bipush 10, 2) := by decide +kernel
theorem dX3_init_37 : decode cX3_init 37 = .ok (.newarray .int, 2) := by decide +kernel
theorem dX3_init_39 : decode cX3_init 39 = .ok (.putfield 29, 3) := by decide +kernel
theorem dX3_init_42 : decode cX3_init 42 = .ok (.aload_n 0, 1) := by decide +kernel
theorem dX3_init_43 : decode cX3_init 43 = .ok (.sipush 1000, 3) := by decide +kernel
theorem dX3_init_46 : decode cX3_init 46 = .ok (.newarray .int, 2) := by decide +kernel
theorem dX3_init_48 : decode cX3_init 48 = .ok (.putfield 33, 3) := by decide +kernel
theorem dX3_init_51 : decode cX3_init 51 = .ok (.return_, 1) := by decide +kernel
theorem dX3_read_0 : decode cX3_read 0 = .ok (.aload_n 0, 1) := by decide +kernel
theorem dX3_read_1 : decode cX3_read 1 = .ok (.getfield 12, 3) := by decide +kernel
theorem dX3_read_4 : decode cX3_read 4 = .ok (.new 36, 3) := by decide +kernel
theorem dX3_read_7 : decode cX3_read 7 = .ok (.dup, 1) := by decide +kernel
theorem dX3_read_8 : decode cX3_read 8 = .ok (.invokespecial 38, 3) := by decide +kernel
theorem dX3_read_11 : decode cX3_read 11 = .ok (.putfield 39, 3) := by decide +kernel
theorem dX3_read_14 : decode cX3_read 14 = .ok (.aload_n 0, 1) := by decide +kernel
theorem dX3_read_15 : decode cX3_read 15 = .ok (.getfield 12, 3) := by decide +kernel
theorem dX3_read_18 : decode cX3_read 18 = .ok (.iconst 0, 1) := by decide +kernel
theorem dX3_read_19 : decode cX3_read 19 = .ok (.putfield 43, 3) := by decide +kernel
theorem dX3_read_22 : decode cX3_read 22 = .ok (.aload_n 0, 1) := by decide +kernel
theorem dX3_read_23 : decode cX3_read 23 = .ok (.getfield 29, 3) := by decide +kernel
theorem dX3_read_26 : decode cX3_read 26 = .ok (.iconst 0, 1) := by decide +kernel
theorem dX3_read_27 : decode cX3_read 27 = .ok (.invokestatic 47, 3) := by decide +kernel
theorem dX3_read_30 : decode cX3_read 30 = .ok (.aload_n 0, 1) := by decide +kernel
theorem dX3_read_31 : decode cX3_read 31 = .ok (.iconst 0, 1) := by decide +kernel
theorem dX3_read_32 : decode cX3_read 32 = .ok (.putfield 53, 3) := by decide +kernel
theorem dX3_read_35 : decode cX3_read 35 = .ok (.aload_n 0, 1) := by decide +kernel
theorem dX3_read_36 : decode cX3_read 36 = .ok (.iconst 0, 1) := by decide +kernel
theorem dX3_read_37 : decode cX3_read 37 = .ok (.putfield 57, 3) := by decide +kernel
theorem dX3_read_40 : decode cX3_read 40 = .ok (.aload_n 0, 1) := by decide +kernel
theorem dX3_read_41 : decode cX3_read 41 = .ok (.iconst 0, 1) := by decide +kernel
theorem dX3_read_42 : decode cX3_read 42 = .ok (.putfield 60, 3) := by decide +kernel
theorem dX3_read_45 : decode cX3_read 45 = .ok (.aload_n 0, 1) := by decide +kernel
theorem dX3_read_46 : decode cX3_read 46 = .ok (.getfield 21, 3) := by decide +kernel
theorem dX3_read_49 : decode cX3_read 49 = .ok (.aload_n 1, 1) := by decide +kernel
theorem dX3_read_50 : decode cX3_read 50 = .ok (.iload_n 2, 1) := by decide +kernel
theorem dX3_read_51 : decode cX3_read 51 = .ok (.invokevirtual 63, 3) := by decide +kernel
theorem dX3_read_54 : decode cX3_read 54 = .ok (.iconst 1, 1) := by decide +kernel
theorem dX3_read_55 : decode cX3_read 55 = .ok (.istore_n 3, 1) := by decide +kernel
theorem dX3_read_56 : decode cX3_read 56 = .ok (.iconst 0, 1) := by decide +kernel
theorem dX3_read_57 : decode cX3_read 57 = .ok (.istore 4, 2) := by decide +kernel
theorem dX3_read_59 : decode cX3_read 59 = .ok (.iload 4, 2) := by decide +kernel
theorem dX3_read_61 : decode cX3_read 61 = .ok (.sipush 1000, 3) := by decide +kernel
theorem dX3_read_64 : decode cX3_read 64 = .ok (.if_icmp .gt 28, 3) := by decide +kernel
theorem dX3_read_67 : decode cX3_read 67 = .ok (.iload_n 3, 1) := by decide +kernel
theorem dX3_read_68 : decode cX3_read 68 = .ok (.ifCond .eq 24, 3) := by decide +kernel
theorem dX3_read_71 : decode cX3_read 71 = .ok (.aload_n 0, 1) := by decide +kernel
theorem dX3_read_72 : decode cX3_read 72 = .ok (.getfield 21, 3) := by decide +kernel
theorem dX3_read_75 : decode cX3_read 75 = .ok (.getfield 67, 3) := by decide +kernel
theorem dX3_read_78 : decode cX3_read 78 = .ok (.ifCond .eq 14, 3) := by decide +kernel
theorem dX3_read_81 : decode cX3_read 81 = .ok (.aload_n 0, 1) := by decide +kernel
theorem dX3_read_82 : decode cX3_read 82 = .ok (.invokevirtual 70, 3) := by decide +kernel
theorem dX3_read_85 : decode cX3_read 85 = .ok (.istore_n 3, 1) := by decide +kernel
theorem dX3_read_86 : decode cX3_read 86 = .ok (.iinc 4 1, 3) := by decide +kernel
theorem dX3_read_89 : decode cX3_read 89 = .ok (.goto (-30), 3) := by decide +kernel
theorem dX3_read_92 : decode cX3_read 92 = .ok (.aload_n 0, 1) := by decide +kernel
theorem dX3_read_93 : decode cX3_read 93 = .ok (.getfield 60, 3) := by decide +kernel
theorem dX3_read_96 : decode cX3_read 96 = .ok (.ireturn, 1) := by decide +kernel
theorem dX3_readLine_0 : decode cX3_readLine 0 = .ok (.aload_n 0, 1) := by decide +kernel
theorem dX3_readLine_1 : decode cX3_readLine 1 = .ok (.getfield 21, 3) := by decide +kernel
theorem dX3_readLine_4 : decode cX3_readLine 4 = .ok (.getfield 74, 3) := by decide +kernel
theorem dX3_readLine_7 : decode cX3_readLine 7 = .ok (.astore_n 1, 1) := by decide +kernel
theorem dX3_readLine_8 : decode cX3_readLine 8 = .ok (.aload_n 1, 1) := by decide +kernel
theorem dX3_readLine_9 : decode cX3_readLine 9 = .ok (.getstatic 78, 3) := by decide +kernel
theorem dX3_readLine_12 : decode cX3_readLine 12 = .ok (.if_acmp .ne 8, 3) := by decide +kernel
theorem dX3_readLine_15 : decode cX3_readLine 15 = .ok (.aload_n 0, 1) := by decide +kernel
theorem dX3_readLine_16 : decode cX3_readLine 16 = .ok (.invokevirtual 83, 3) := by decide +kernel
theorem dX3_readLine_19 : decode cX3_readLine 19 = .ok (.ireturn, 1) := by decide +kernel
theorem dX3_readLine_20 : decode cX3_readLine 20 = .ok (.aload_n 1, 1) := by decide +kernel
theorem dX3_readLine_21 : decode cX3_readLine 21 = .ok (.getstatic 86, 3) := by decide +kernel
theorem dX3_readLine_24 : decode cX3_readLine 24 = .ok (.if_acmp .ne 8, 3) := by decide +kernel
theorem dX3_readLine_27 : decode cX3_readLine 27 = .ok (.aload_n 0, 1) := by decide +kernel
theorem dX3_readLine_28 : decode cX3_readLine 28 = .ok (.invokevirtual 89, 3) := by decide +kernel
theorem dX3_readLine_31 : decode cX3_readLine 31 = .ok (.ireturn, 1) := by decide +kernel
theorem dX3_readLine_32 : decode cX3_readLine 32 = .ok (.aload_n 1, 1) := by decide +kernel
theorem dX3_readLine_33 : decode cX3_readLine 33 = .ok (.getstatic 92, 3) := by decide +kernel
theorem dX3_readLine_36 : decode cX3_readLine 36 = .ok (.if_acmp .ne 8, 3) := by decide +kernel
theorem dX3_readLine_39 : decode cX3_readLine 39 = .ok (.aload_n 0, 1) := by decide +kernel
theorem dX3_readLine_40 : decode cX3_readLine 40 = .ok (.invokevirtual 95, 3) := by decide +kernel
theorem dX3_readLine_43 : decode cX3_readLine 43 = .ok (.ireturn, 1) := by decide +kernel
theorem dX3_readLine_44 : decode cX3_readLine 44 = .ok (.aload_n 1, 1) := by decide +kernel
theorem dX3_readLine_45 : decode cX3_readLine 45 = .ok (.getstatic 98, 3) := by decide +kernel
theorem dX3_readLine_48 : decode cX3_readLine 48 = .ok (.if_acmp .ne 8, 3) := by decide +kernel
theorem dX3_readLine_51 : decode cX3_readLine 51 = .ok (.aload_n 0, 1) := by decide +kernel
theorem dX3_readLine_52 : decode cX3_readLine 52 = .ok (.invokevirtual 101, 3) := by decide +kernel
theorem dX3_readLine_55 : decode cX3_readLine 55 = .ok (.ireturn, 1) := by decide +kernel
theorem dX3_readLine_56 : decode cX3_readLine 56 = .ok (.aload_n 1, 1) := by decide +kernel
theorem dX3_readLine_57 : decode cX3_readLine 57 = .ok (.getstatic 104, 3) := by decide +kernel
theorem dX3_readLine_60 : decode cX3_readLine 60 = .ok (.if_acmp .ne 8, 3) := by decide +kernel
theorem dX3_readLine_63 : decode cX3_readLine 63 = .ok (.aload_n 0, 1) := by decide +kernel
theorem dX3_readLine_64 : decode cX3_readLine 64 = .ok (.invokevirtual 107, 3) := by decide +kernel
theorem dX3_readLine_67 : decode cX3_readLine 67 = .ok (.ireturn, 1) := by decide +kernel
theorem dX3_readLine_68 : decode cX3_readLine 68 = .ok (.aload_n 1, 1) := by decide +kernel
theorem dX3_readLine_69 : decode cX3_readLine 69 = .ok (.getstatic 110, 3) := by decide +kernel
theorem dX3_readLine_72 : decode cX3_readLine 72 = .ok (.if_acmp .ne 10, 3) := by decide +kernel
theorem dX3_readLine_75 : decode cX3_readLine 75 = .ok (.aload_n 0, 1) := by decide +kernel
theorem dX3_readLine_76 : decode cX3_readLine 76 = .ok (.invokevirtual 113, 3) := by decide +kernel
theorem dX3_readLine_79 : decode cX3_readLine 79 = .ok (.goto 8, 3) := by decide +kernel
theorem dX3_readLine_82 : decode cX3_readLine 82 = .ok (.aload_n 0, 1) := by decide +kernel
theorem dX3_readLine_83 : decode cX3_readLine 83 = .ok (.iconst 1, 1) := by decide +kernel
theorem dX3_readLine_84 : decode cX3_readLine 84 = .ok (.invokevirtual 116, 3) := by decide +kernel
theorem dX3_readLine_87 : decode cX3_readLine 87 = .ok (.ireturn, 1) := by decide +kernel
theorem dX3_readPupil_0 : decode cX3_readPupil 0 = .ok (.aload_n 0, 1) := by decide +kernel
theorem dX3_readPupil_1 : decode cX3_readPupil 1 = .ok (.getfield 12, 3) := by decide +kernel
theorem dX3_readPupil_4 : decode cX3_readPupil 4 = .ok (.getfield 39, 3) := by decide +kernel
theorem dX3_readPupil_7 : decode cX3_readPupil 7 = .ok (.astore_n 1, 1) := by decide +kernel
theorem dX3_readPupil_8 : decode cX3_readPupil 8 = .ok (.aload_n 1, 1) := by decide +kernel
theorem dX3_readPupil_9 : decode cX3_readPupil 9 = .ok (.getfield 120, 3) := by decide +kernel
theorem dX3_readPupil_12 : decode cX3_readPupil 12 = .ok (.istore_n 2, 1) := by decide +kernel
theorem dX3_readPupil_13 : decode cX3_readPupil 13 = .ok (.iload_n 2, 1) := by decide +kernel
theorem dX3_readPupil_14 : decode cX3_readPupil 14 = .ok (.bipush 10, 2) := by decide +kernel
theorem dX3_readPupil_16 : decode cX3_readPupil 16 = .ok (.if_icmp .lt 9, 3) := by decide +kernel
theorem dX3_readPupil_19 : decode cX3_readPupil 19 = .ok (.aload_n 0, 1) := by decide +kernel
theorem dX3_readPupil_20 : decode cX3_readPupil 20 = .ok (.iconst 5, 1) := by decide +kernel
theorem dX3_readPupil_21 : decode cX3_readPupil 21 = .ok (.invokevirtual 116, 3) := by decide +kernel
theorem dX3_readPupil_24 : decode cX3_readPupil 24 = .ok (.ireturn, 1) := by decide +kernel
theorem dX3_readPupil_25 : decode cX3_readPupil 25 = .ok (.aload_n 0, 1) := by decide +kernel
theorem dX3_readPupil_26 : decode cX3_readPupil 26 = .ok (.getfield 21, 3) := by decide +kernel
theorem dX3_readPupil_29 : decode cX3_readPupil 29 = .ok (.invokevirtual 123, 3) := by decide +kernel
theorem dX3_readPupil_32 : decode cX3_readPupil 32 = .ok (.aload_n 0, 1) := by decide +kernel
theorem dX3_readPupil_33 : decode cX3_readPupil 33 = .ok (.getfield 21, 3) := by decide +kernel
theorem dX3_readPupil_36 : decode cX3_readPupil 36 = .ok (.invokevirtual 126, 3) := by decide +kernel
theorem dX3_readPupil_39 : decode cX3_readPupil 39 = .ok (.ifCond .ne 9, 3) := by decide +kernel
theorem dX3_readPupil_42 : decode cX3_readPupil 42 = .ok (.aload_n 0, 1) := by decide +kernel
theorem dX3_readPupil_43 : decode cX3_readPupil 43 = .ok (.iconst 1, 1) := by decide +kernel
theorem dX3_readPupil_44 : decode cX3_readPupil 44 = .ok (.invokevirtual 116, 3) := by decide +kernel
theorem dX3_readPupil_47 : decode cX3_readPupil 47 = .ok (.ireturn, 1) := by decide +kernel
theorem dX3_readPupil_48 : decode cX3_readPupil 48 = .ok (.aload_n 0, 1) := by decide +kernel
theorem dX3_readPupil_49 : decode cX3_readPupil 49 = .ok (.aload_n 0, 1) := by decide +kernel
theorem dX3_readPupil_50 : decode cX3_readPupil 50 = .ok (.getfield 21, 3) := by decide +kernel
theorem dX3_readPupil_53 : decode cX3_readPupil 53 = .ok (.getfield 129, 3) := by decide +kernel
theorem dX3_readPupil_56 : decode cX3_readPupil 56 = .ok (.invokevirtual 133, 3) := by decide +kernel
theorem dX3_readPupil_59 : decode cX3_readPupil 59 = .ok (.iconst (-1), 1) := by decide +kernel
theorem dX3_readPupil_60 : decode cX3_readPupil 60 = .ok (.if_icmp .eq 9, 3) := by decide +kernel
theorem dX3_readPupil_63 : decode cX3_readPupil 63 = .ok (.aload_n 0, 1) := by decide +kernel
theorem dX3_readPupil_64 : decode cX3_readPupil 64 = .ok (.iconst 3, 1) := by decide +kernel
theorem dX3_readPupil_65 : decode cX3_readPupil 65 = .ok (.invokevirtual 116, 3) := by decide +kernel
theorem dX3_readPupil_68 : decode cX3_readPupil 68 = .ok (.ireturn, 1) := by decide +kernel
theorem dX3_readPupil_69 : decode cX3_readPupil 69 = .ok (.aload_n 0, 1) := by decide +kernel
theorem dX3_readPupil_70 : decode cX3_readPupil 70 = .ok (.getfield 25, 3) := by decide +kernel
theorem dX3_readPupil_73 : decode cX3_readPupil 73 = .ok (.iload_n 2, 1) := by decide +kernel
theorem dX3_readPupil_74 : decode cX3_readPupil 74 = .ok (.aload_n 0, 1) := by decide +kernel
theorem dX3_readPupil_75 : decode cX3_readPupil 75 = .ok (.getfield 21, 3) := by decide +kernel
theorem dX3_readPupil_78 : decode cX3_readPupil 78 = .ok (.getfield 129, 3) := by decide +kernel
theorem dX3_readPupil_81 : decode cX3_readPupil 81 = .ok (.lastore, 1) := by decide +kernel
theorem dX3_readPupil_82 : decode cX3_readPupil 82 = .ok (.aload_n 0, 1) := by decide +kernel
theorem dX3_readPupil_83 : decode cX3_readPupil 83 = .ok (.getfield 21, 3) := by decide +kernel
theorem dX3_readPupil_86 : decode cX3_readPupil 86 = .ok (.invokevirtual 123, 3) := by decide +kernel
theorem dX3_readPupil_89 : decode cX3_readPupil 89 = .ok (.aload_n 0, 1) := by decide +kernel
theorem dX3_readPupil_90 : decode cX3_readPupil 90 = .ok (.getfield 21, 3) := by decide +kernel
theorem dX3_readPupil_93 : decode cX3_readPupil 93 = .ok (.getfield 74, 3) := by decide +kernel
theorem dX3_readPupil_96 : decode cX3_readPupil 96 = .ok (.ifnull 17, 3) := by decide +kernel
theorem dX3_readPupil_99 : decode cX3_readPupil 99 = .ok (.aload_n 0, 1) := by decide +kernel
theorem dX3_readPupil_100 : decode cX3_readPupil 100 = .ok (.getfield 21, 3) := by decide +kernel
theorem dX3_readPupil_103 : decode cX3_readPupil 103 = .ok (.getfield 74, 3) := by decide +kernel
theorem dX3_readPupil_106 : decode cX3_readPupil 106 = .ok (.getfield 137, 3) := by decide +kernel
theorem dX3_readPupil_109 : decode cX3_readPupil 109 = .ok (.iconst (-1), 1) := by decide +kernel
theorem dX3_readPupil_110 : decode cX3_readPupil 110 = .ok (.if_icmp .ne 9, 3) := by decide +kernel
theorem dX3_readPupil_113 : decode cX3_readPupil 113 = .ok (.aload_n 0, 1) := by decide +kernel
theorem dX3_readPupil_114 : decode cX3_readPupil 114 = .ok (.iconst 1, 1) := by decide +kernel
theorem dX3_readPupil_115 : decode cX3_readPupil 115 = .ok (.invokevirtual 116, 3) := by decide +kernel
theorem dX3_readPupil_118 : decode cX3_readPupil 118 = .ok (.ireturn, 1) := by decide +kernel
theorem dX3_readPupil_119 : decode cX3_readPupil 119 = .ok (.aload_n 1, 1) := by decide +kernel
theorem dX3_readPupil_120 : decode cX3_readPupil 120 = .ok (.getfield 138, 3) := by decide +kernel
theorem dX3_readPupil_123 : decode cX3_readPupil 123 = .ok (.iload_n 2, 1) := by decide +kernel
theorem dX3_readPupil_124 : decode cX3_readPupil 124 = .ok (.aload_n 0, 1) := by decide +kernel
theorem dX3_readPupil_125 : decode cX3_readPupil 125 = .ok (.getfield 21, 3) := by decide +kernel
theorem dX3_readPupil_128 : decode cX3_readPupil 128 = .ok (.getfield 74, 3) := by decide +kernel
theorem dX3_readPupil_131 : decode cX3_readPupil 131 = .ok (.getfield 137, 3) := by decide +kernel
theorem dX3_readPupil_134 : decode cX3_readPupil 134 = .ok (.iastore, 1) := by decide +kernel
theorem dX3_readPupil_135 : decode cX3_readPupil 135 = .ok (.aload_n 0, 1) := by decide +kernel
theorem dX3_readPupil_136 : decode cX3_readPupil 136 = .ok (.getfield 21, 3) := by decide +kernel
theorem dX3_readPupil_139 : decode cX3_readPupil 139 = .ok (.invokevirtual 123, 3) := by decide +kernel
theorem dX3_readPupil_142 : decode cX3_readPupil 142 = .ok (.aload_n 0, 1) := by decide +kernel
theorem dX3_readPupil_143 : decode cX3_readPupil 143 = .ok (.getstatic 140, 3) := by decide +kernel
theorem dX3_readPupil_146 : decode cX3_readPupil 146 = .ok (.invokevirtual 143, 3) := by decide +kernel
theorem dX3_readPupil_149 : decode cX3_readPupil 149 = .ok (.ifCond .eq 12, 3) := by decide +kernel
theorem dX3_readPupil_152 : decode cX3_readPupil 152 = .ok (.aload_n 0, 1) := by decide +kernel
theorem dX3_readPupil_153 : decode cX3_readPupil 153 = .ok (.bipush 99, 2) := by decide +kernel
theorem dX3_readPupil_155 : decode cX3_readPupil 155 = .ok (.invokevirtual 147, 3) := by decide +kernel
theorem dX3_readPupil_158 : decode cX3_readPupil 158 = .ok (.ifCond .ne 5, 3) := by decide +kernel
theorem dX3_readPupil_161 : decode cX3_readPupil 161 = .ok (.iconst 0, 1) := by decide +kernel
theorem dX3_readPupil_162 : decode cX3_readPupil 162 = .ok (.ireturn, 1) := by decide +kernel
theorem dX3_readPupil_163 : decode cX3_readPupil 163 = .ok (.aload_n 1, 1) := by decide +kernel
theorem dX3_readPupil_164 : decode cX3_readPupil 164 = .ok (.getfield 150, 3) := by decide +kernel
theorem dX3_readPupil_167 : decode cX3_readPupil 167 = .ok (.iload_n 2, 1) := by decide +kernel
theorem dX3_readPupil_168 : decode cX3_readPupil 168 = .ok (.aload_n 0, 1) := by decide +kernel
theorem dX3_readPupil_169 : decode cX3_readPupil 169 = .ok (.getfield 153, 3) := by decide +kernel
theorem dX3_readPupil_172 : decode cX3_readPupil 172 = .ok (.iastore, 1) := by decide +kernel
theorem dX3_readPupil_173 : decode cX3_readPupil 173 = .ok (.aload_n 1, 1) := by decide +kernel
theorem dX3_readPupil_174 : decode cX3_readPupil 174 = .ok (.dup, 1) := by decide +kernel
theorem dX3_readPupil_175 : decode cX3_readPupil 175 = .ok (.getfield 120, 3) := by decide +kernel
theorem dX3_readPupil_178 : decode cX3_readPupil 178 = .ok (.iconst 1, 1) := by decide +kernel
theorem dX3_readPupil_179 : decode cX3_readPupil 179 = .ok (.iadd, 1) := by decide +kernel
theorem dX3_readPupil_180 : decode cX3_readPupil 180 = .ok (.putfield 120, 3) := by decide +kernel
theorem dX3_readPupil_183 : decode cX3_readPupil 183 = .ok (.aload_n 0, 1) := by decide +kernel
theorem dX3_readPupil_184 : decode cX3_readPupil 184 = .ok (.bipush 59, 2) := by decide +kernel
theorem dX3_readPupil_186 : decode cX3_readPupil 186 = .ok (.invokevirtual 156, 3) := by decide +kernel
theorem dX3_readPupil_189 : decode cX3_readPupil 189 = .ok (.ireturn, 1) := by decide +kernel
theorem dX3_readBench_0 : decode cX3_readBench 0 = .ok (.aload_n 0, 1) := by decide +kernel
theorem dX3_readBench_1 : decode cX3_readBench 1 = .ok (.getfield 12, 3) := by decide +kernel
theorem dX3_readBench_4 : decode cX3_readBench 4 = .ok (.getfield 39, 3) := by decide +kernel
theorem dX3_readBench_7 : decode cX3_readBench 7 = .ok (.astore_n 1, 1) := by decide +kernel
theorem dX3_readBench_8 : decode cX3_readBench 8 = .ok (.aload_n 1, 1) := by decide +kernel
theorem dX3_readBench_9 : decode cX3_readBench 9 = .ok (.getfield 159, 3) := by decide +kernel
theorem dX3_readBench_12 : decode cX3_readBench 12 = .ok (.bipush 6, 2) := by decide +kernel
theorem dX3_readBench_14 : decode cX3_readBench 14 = .ok (.if_icmp .lt 9, 3) := by decide +kernel
theorem dX3_readBench_17 : decode cX3_readBench 17 = .ok (.aload_n 0, 1) := by decide +kernel
theorem dX3_readBench_18 : decode cX3_readBench 18 = .ok (.iconst 5, 1) := by decide +kernel
theorem dX3_readBench_19 : decode cX3_readBench 19 = .ok (.invokevirtual 116, 3) := by decide +kernel
theorem dX3_readBench_22 : decode cX3_readBench 22 = .ok (.ireturn, 1) := by decide +kernel
theorem dX3_readBench_23 : decode cX3_readBench 23 = .ok (.aload_n 0, 1) := by decide +kernel
theorem dX3_readBench_24 : decode cX3_readBench 24 = .ok (.getfield 21, 3) := by decide +kernel
theorem dX3_readBench_27 : decode cX3_readBench 27 = .ok (.invokevirtual 123, 3) := by decide +kernel
theorem dX3_readBench_30 : decode cX3_readBench 30 = .ok (.aload_n 0, 1) := by decide +kernel
theorem dX3_readBench_31 : decode cX3_readBench 31 = .ok (.getstatic 162, 3) := by decide +kernel
theorem dX3_readBench_34 : decode cX3_readBench 34 = .ok (.invokevirtual 143, 3) := by decide +kernel
theorem dX3_readBench_37 : decode cX3_readBench 37 = .ok (.ifCond .eq 12, 3) := by decide +kernel
theorem dX3_readBench_40 : decode cX3_readBench 40 = .ok (.aload_n 0, 1) := by decide +kernel
theorem dX3_readBench_41 : decode cX3_readBench 41 = .ok (.bipush 9, 2) := by decide +kernel
theorem dX3_readBench_43 : decode cX3_readBench 43 = .ok (.invokevirtual 147, 3) := by decide +kernel
theorem dX3_readBench_46 : decode cX3_readBench 46 = .ok (.ifCond .ne 5, 3) := by decide +kernel
theorem dX3_readBench_49 : decode cX3_readBench 49 = .ok (.iconst 0, 1) := by decide +kernel
theorem dX3_readBench_50 : decode cX3_readBench 50 = .ok (.ireturn, 1) := by decide +kernel
theorem dX3_readBench_51 : decode cX3_readBench 51 = .ok (.aload_n 1, 1) := by decide +kernel
theorem dX3_readBench_52 : decode cX3_readBench 52 = .ok (.getfield 165, 3) := by decide +kernel
theorem dX3_readBench_55 : decode cX3_readBench 55 = .ok (.aload_n 1, 1) := by decide +kernel
theorem dX3_readBench_56 : decode cX3_readBench 56 = .ok (.getfield 159, 3) := by decide +kernel
theorem dX3_readBench_59 : decode cX3_readBench 59 = .ok (.aload_n 0, 1) := by decide +kernel
theorem dX3_readBench_60 : decode cX3_readBench 60 = .ok (.getfield 153, 3) := by decide +kernel
theorem dX3_readBench_63 : decode cX3_readBench 63 = .ok (.iastore, 1) := by decide +kernel
theorem dX3_readBench_64 : decode cX3_readBench 64 = .ok (.aload_n 1, 1) := by decide +kernel
theorem dX3_readBench_65 : decode cX3_readBench 65 = .ok (.dup, 1) := by decide +kernel
theorem dX3_readBench_66 : decode cX3_readBench 66 = .ok (.getfield 159, 3) := by decide +kernel
theorem dX3_readBench_69 : decode cX3_readBench 69 = .ok (.iconst 1, 1) := by decide +kernel
theorem dX3_readBench_70 : decode cX3_readBench 70 = .ok (.iadd, 1) := by decide +kernel
theorem dX3_readBench_71 : decode cX3_readBench 71 = .ok (.putfield 159, 3) := by decide +kernel
theorem dX3_readBench_74 : decode cX3_readBench 74 = .ok (.aload_n 0, 1) := by decide +kernel
theorem dX3_readBench_75 : decode cX3_readBench 75 = .ok (.getstatic 168, 3) := by decide +kernel
theorem dX3_readBench_78 : decode cX3_readBench 78 = .ok (.invokevirtual 143, 3) := by decide +kernel
theorem dX3_readBench_81 : decode cX3_readBench 81 = .ok (.ifCond .eq 25, 3) := by decide +kernel
theorem dX3_readBench_84 : decode cX3_readBench 84 = .ok (.aload_n 0, 1) := by decide +kernel
theorem dX3_readBench_85 : decode cX3_readBench 85 = .ok (.bipush 99, 2) := by decide +kernel
theorem dX3_readBench_87 : decode cX3_readBench 87 = .ok (.invokevirtual 147, 3) := by decide +kernel
theorem dX3_readBench_90 : decode cX3_readBench 90 = .ok (.ifCond .eq 16, 3) := by decide +kernel
theorem dX3_readBench_93 : decode cX3_readBench 93 = .ok (.aload_n 0, 1) := by decide +kernel
theorem dX3_readBench_94 : decode cX3_readBench 94 = .ok (.bipush 59, 2) := by decide +kernel
theorem dX3_readBench_96 : decode cX3_readBench 96 = .ok (.invokevirtual 156, 3) := by decide +kernel
theorem dX3_readBench_99 : decode cX3_readBench 99 = .ok (.ifCond .eq 7, 3) := by decide +kernel
theorem dX3_readBench_102 : decode cX3_readBench 102 = .ok (.iconst 1, 1) := by decide +kernel
theorem dX3_readBench_103 : decode cX3_readBench 103 = .ok (.goto 4, 3) := by decide +kernel
theorem dX3_readBench_106 : decode cX3_readBench 106 = .ok (.iconst 0, 1) := by decide +kernel
theorem dX3_readBench_107 : decode cX3_readBench 107 = .ok (.ireturn, 1) := by decide +kernel
theorem dX3_readSaying_0 : decode cX3_readSaying 0 = .ok (.aload_n 0, 1) := by decide +kernel
theorem dX3_readSaying_1 : decode cX3_readSaying 1 = .ok (.getfield 12, 3) := by decide +kernel
theorem dX3_readSaying_4 : decode cX3_readSaying 4 = .ok (.getfield 43, 3) := by decide +kernel
theorem dX3_readSaying_7 : decode cX3_readSaying 7 = .ok (.bipush 40, 2) := by decide +kernel
theorem dX3_readSaying_9 : decode cX3_readSaying 9 = .ok (.if_icmp .lt 9, 3) := by decide +kernel
theorem dX3_readSaying_12 : decode cX3_readSaying 12 = .ok (.aload_n 0, 1) := by decide +kernel
theorem dX3_readSaying_13 : decode cX3_readSaying 13 = .ok (.iconst 5, 1) := by decide +kernel
theorem dX3_readSaying_14 : decode cX3_readSaying 14 = .ok (.invokevirtual 116, 3) := by decide +kernel
theorem dX3_readSaying_17 : decode cX3_readSaying 17 = .ok (.ireturn, 1) := by decide +kernel
theorem dX3_readSaying_18 : decode cX3_readSaying 18 = .ok (.aload_n 0, 1) := by decide +kernel
theorem dX3_readSaying_19 : decode cX3_readSaying 19 = .ok (.getfield 21, 3) := by decide +kernel
theorem dX3_readSaying_22 : decode cX3_readSaying 22 = .ok (.invokevirtual 123, 3) := by decide +kernel
theorem dX3_readSaying_25 : decode cX3_readSaying 25 = .ok (.aload_n 0, 1) := by decide +kernel
theorem dX3_readSaying_26 : decode cX3_readSaying 26 = .ok (.iconst (-1), 1) := by decide +kernel
theorem dX3_readSaying_27 : decode cX3_readSaying 27 = .ok (.invokevirtual 171, 3) := by decide +kernel
theorem dX3_readSaying_30 : decode cX3_readSaying 30 = .ok (.ifCond .ne 5, 3) := by decide +kernel
theorem dX3_readSaying_33 : decode cX3_readSaying 33 = .ok (.iconst 0, 1) := by decide +kernel
theorem dX3_readSaying_34 : decode cX3_readSaying 34 = .ok (.ireturn, 1) := by decide +kernel
theorem dX3_readSaying_35 : decode cX3_readSaying 35 = .ok (.aload_n 0, 1) := by decide +kernel
theorem dX3_readSaying_36 : decode cX3_readSaying 36 = .ok (.getfield 174, 3) := by decide +kernel
theorem dX3_readSaying_39 : decode cX3_readSaying 39 = .ok (.istore_n 1, 1) := by decide +kernel
theorem dX3_readSaying_40 : decode cX3_readSaying 40 = .ok (.aload_n 0, 1) := by decide +kernel
theorem dX3_readSaying_41 : decode cX3_readSaying 41 = .ok (.iload_n 1, 1) := by decide +kernel
theorem dX3_readSaying_42 : decode cX3_readSaying 42 = .ok (.invokevirtual 171, 3) := by decide +kernel
theorem dX3_readSaying_45 : decode cX3_readSaying 45 = .ok (.ifCond .ne 5, 3) := by decide +kernel
theorem dX3_readSaying_48 : decode cX3_readSaying 48 = .ok (.iconst 0, 1) := by decide +kernel
theorem dX3_readSaying_49 : decode cX3_readSaying 49 = .ok (.ireturn, 1) := by decide +kernel
theorem dX3_readSaying_50 : decode cX3_readSaying 50 = .ok (.aload_n 0, 1) := by decide +kernel
theorem dX3_readSaying_51 : decode cX3_readSaying 51 = .ok (.getfield 174, 3) := by decide +kernel
theorem dX3_readSaying_54 : decode cX3_readSaying 54 = .ok (.istore_n 2, 1) := by decide +kernel
theorem dX3_readSaying_55 : decode cX3_readSaying 55 = .ok (.aload_n 0, 1) := by decide +kernel
theorem dX3_readSaying_56 : decode cX3_readSaying 56 = .ok (.iconst 1, 1) := by decide +kernel
theorem dX3_readSaying_57 : decode cX3_readSaying 57 = .ok (.invokevirtual 147, 3) := by decide +kernel
theorem dX3_readSaying_60 : decode cX3_readSaying 60 = .ok (.ifCond .ne 5, 3) := by decide +kernel
theorem dX3_readSaying_63 : decode cX3_readSaying 63 = .ok (.iconst 0, 1) := by decide +kernel
theorem dX3_readSaying_64 : decode cX3_readSaying 64 = .ok (.ireturn, 1) := by decide +kernel
theorem dX3_readSaying_65 : decode cX3_readSaying 65 = .ok (.aload_n 0, 1) := by decide +kernel
theorem dX3_readSaying_66 : decode cX3_readSaying 66 = .ok (.getfield 12, 3) := by decide +kernel
theorem dX3_readSaying_69 : decode cX3_readSaying 69 = .ok (.iload_n 1, 1) := by decide +kernel
theorem dX3_readSaying_70 : decode cX3_readSaying 70 = .ok (.iload_n 2, 1) := by decide +kernel
theorem dX3_readSaying_71 : decode cX3_readSaying 71 = .ok (.aload_n 0, 1) := by decide +kernel
theorem dX3_readSaying_72 : decode cX3_readSaying 72 = .ok (.getfield 153, 3) := by decide +kernel
theorem dX3_readSaying_75 : decode cX3_readSaying 75 = .ok (.invokevirtual 177, 3) := by decide +kernel
theorem dX3_readSaying_78 : decode cX3_readSaying 78 = .ok (.aload_n 0, 1) := by decide +kernel
theorem dX3_readSaying_79 : decode cX3_readSaying 79 = .ok (.bipush 59, 2) := by decide +kernel
theorem dX3_readSaying_81 : decode cX3_readSaying 81 = .ok (.invokevirtual 156, 3) := by decide +kernel
theorem dX3_readSaying_84 : decode cX3_readSaying 84 = .ok (.ireturn, 1) := by decide +kernel
theorem dX3_readLiking_0 : decode cX3_readLiking 0 = .ok (.aload_n 0, 1) := by decide +kernel
theorem dX3_readLiking_1 : decode cX3_readLiking 1 = .ok (.getfield 21, 3) := by decide +kernel
theorem dX3_readLiking_4 : decode cX3_readLiking 4 = .ok (.invokevirtual 123, 3) := by decide +kernel
theorem dX3_readLiking_7 : decode cX3_readLiking 7 = .ok (.aload_n 0, 1) := by decide +kernel
theorem dX3_readLiking_8 : decode cX3_readLiking 8 = .ok (.iconst (-1), 1) := by decide +kernel
theorem dX3_readLiking_9 : decode cX3_readLiking 9 = .ok (.invokevirtual 171, 3) := by decide +kernel
theorem dX3_readLiking_12 : decode cX3_readLiking 12 = .ok (.ifCond .ne 5, 3) := by decide +kernel
theorem dX3_readLiking_15 : decode cX3_readLiking 15 = .ok (.iconst 0, 1) := by decide +kernel
theorem dX3_readLiking_16 : decode cX3_readLiking 16 = .ok (.ireturn, 1) := by decide +kernel
theorem dX3_readLiking_17 : decode cX3_readLiking 17 = .ok (.aload_n 0, 1) := by decide +kernel
theorem dX3_readLiking_18 : decode cX3_readLiking 18 = .ok (.getfield 174, 3) := by decide +kernel
theorem dX3_readLiking_21 : decode cX3_readLiking 21 = .ok (.istore_n 1, 1) := by decide +kernel
theorem dX3_readLiking_22 : decode cX3_readLiking 22 = .ok (.aload_n 0, 1) := by decide +kernel
theorem dX3_readLiking_23 : decode cX3_readLiking 23 = .ok (.getfield 21, 3) := by decide +kernel
theorem dX3_readLiking_26 : decode cX3_readLiking 26 = .ok (.invokevirtual 126, 3) := by decide +kernel
theorem dX3_readLiking_29 : decode cX3_readLiking 29 = .ok (.ifCond .eq 17, 3) := by decide +kernel
theorem dX3_readLiking_32 : decode cX3_readLiking 32 = .ok (.aload_n 0, 1) := by decide +kernel
theorem dX3_readLiking_33 : decode cX3_readLiking 33 = .ok (.aload_n 0, 1) := by decide +kernel
theorem dX3_readLiking_34 : decode cX3_readLiking 34 = .ok (.getfield 21, 3) := by decide +kernel
theorem dX3_readLiking_37 : decode cX3_readLiking 37 = .ok (.getfield 129, 3) := by decide +kernel
theorem dX3_readLiking_40 : decode cX3_readLiking 40 = .ok (.invokevirtual 133, 3) := by decide +kernel
theorem dX3_readLiking_43 : decode cX3_readLiking 43 = .ok (.goto 4, 3) := by decide +kernel
theorem dX3_readLiking_46 : decode cX3_readLiking 46 = .ok (.iconst (-1), 1) := by decide +kernel
theorem dX3_readLiking_47 : decode cX3_readLiking 47 = .ok (.istore_n 2, 1) := by decide +kernel
theorem dX3_readLiking_48 : decode cX3_readLiking 48 = .ok (.iload_n 2, 1) := by decide +kernel
theorem dX3_readLiking_49 : decode cX3_readLiking 49 = .ok (.iconst (-1), 1) := by decide +kernel
theorem dX3_readLiking_50 : decode cX3_readLiking 50 = .ok (.if_icmp .eq 22, 3) := by decide +kernel
theorem dX3_readLiking_53 : decode cX3_readLiking 53 = .ok (.aload_n 0, 1) := by decide +kernel
theorem dX3_readLiking_54 : decode cX3_readLiking 54 = .ok (.getfield 29, 3) := by decide +kernel
theorem dX3_readLiking_57 : decode cX3_readLiking 57 = .ok (.iload_n 1, 1) := by decide +kernel
theorem dX3_readLiking_58 : decode cX3_readLiking 58 = .ok (.iaload, 1) := by decide +kernel
theorem dX3_readLiking_59 : decode cX3_readLiking 59 = .ok (.iload_n 2, 1) := by decide +kernel
theorem dX3_readLiking_60 : decode cX3_readLiking 60 = .ok (.ishr, 1) := by decide +kernel
theorem dX3_readLiking_61 : decode cX3_readLiking 61 = .ok (.iconst 1, 1) := by decide +kernel
theorem dX3_readLiking_62 : decode cX3_readLiking 62 = .ok (.iand, 1) := by decide +kernel
theorem dX3_readLiking_63 : decode cX3_readLiking 63 = .ok (.ifCond .eq 9, 3) := by decide +kernel
theorem dX3_readLiking_66 : decode cX3_readLiking 66 = .ok (.aload_n 0, 1) := by decide +kernel
theorem dX3_readLiking_67 : decode cX3_readLiking 67 = .ok (.iconst 3, 1) := by decide +kernel
theorem dX3_readLiking_68 : decode cX3_readLiking 68 = .ok (.invokevirtual 116, 3) := by decide +kernel
theorem dX3_readLiking_71 : decode cX3_readLiking 71 = .ok (.ireturn, 1) := by decide +kernel
theorem dX3_readLiking_72 : decode cX3_readLiking 72 = .ok (.aload_n 0, 1) := by decide +kernel
theorem dX3_readLiking_73 : decode cX3_readLiking 73 = .ok (.iload_n 1, 1) := by decide +kernel
theorem dX3_readLiking_74 : decode cX3_readLiking 74 = .ok (.invokevirtual 171, 3) := by decide +kernel
theorem dX3_readLiking_77 : decode cX3_readLiking 77 = .ok (.ifCond .ne 5, 3) := by decide +kernel
theorem dX3_readLiking_80 : decode cX3_readLiking 80 = .ok (.iconst 0, 1) := by decide +kernel
theorem dX3_readLiking_81 : decode cX3_readLiking 81 = .ok (.ireturn, 1) := by decide +kernel
theorem dX3_readLiking_82 : decode cX3_readLiking 82 = .ok (.aload_n 0, 1) := by decide +kernel
theorem dX3_readLiking_83 : decode cX3_readLiking 83 = .ok (.getfield 29, 3) := by decide +kernel
theorem dX3_readLiking_86 : decode cX3_readLiking 86 = .ok (.iload_n 1, 1) := by decide +kernel
theorem dX3_readLiking_87 : decode cX3_readLiking 87 = .ok (.dup2, 1) := by decide +kernel
theorem dX3_readLiking_88 : decode cX3_readLiking 88 = .ok (.iaload, 1) := by decide +kernel
theorem dX3_readLiking_89 : decode cX3_readLiking 89 = .ok (.iconst 1, 1) := by decide +kernel
theorem dX3_readLiking_90 : decode cX3_readLiking 90 = .ok (.iload_n 2, 1) := by decide +kernel
theorem dX3_readLiking_91 : decode cX3_readLiking 91 = .ok (.ishl, 1) := by decide +kernel
theorem dX3_readLiking_92 : decode cX3_readLiking 92 = .ok (.ior, 1) := by decide +kernel
theorem dX3_readLiking_93 : decode cX3_readLiking 93 = .ok (.iastore, 1) := by decide +kernel
theorem dX3_readLiking_94 : decode cX3_readLiking 94 = .ok (.aload_n 0, 1) := by decide +kernel
theorem dX3_readLiking_95 : decode cX3_readLiking 95 = .ok (.bipush 99, 2) := by decide +kernel
theorem dX3_readLiking_97 : decode cX3_readLiking 97 = .ok (.invokevirtual 147, 3) := by decide +kernel
theorem dX3_readLiking_100 : decode cX3_readLiking 100 = .ok (.ifCond .ne 5, 3) := by decide +kernel
theorem dX3_readLiking_103 : decode cX3_readLiking 103 = .ok (.iconst 0, 1) := by decide +kernel
theorem dX3_readLiking_104 : decode cX3_readLiking 104 = .ok (.ireturn, 1) := by decide +kernel
theorem dX3_readLiking_105 : decode cX3_readLiking 105 = .ok (.aload_n 0, 1) := by decide +kernel
theorem dX3_readLiking_106 : decode cX3_readLiking 106 = .ok (.getfield 12, 3) := by decide +kernel
theorem dX3_readLiking_109 : decode cX3_readLiking 109 = .ok (.getfield 39, 3) := by decide +kernel
theorem dX3_readLiking_112 : decode cX3_readLiking 112 = .ok (.getfield 181, 3) := by decide +kernel
theorem dX3_readLiking_115 : decode cX3_readLiking 115 = .ok (.iload_n 1, 1) := by decide +kernel
theorem dX3_readLiking_116 : decode cX3_readLiking 116 = .ok (.bipush 10, 2) := by decide +kernel
theorem dX3_readLiking_118 : decode cX3_readLiking 118 = .ok (.imul, 1) := by decide +kernel
theorem dX3_readLiking_119 : decode cX3_readLiking 119 = .ok (.iload_n 2, 1) := by decide +kernel
theorem dX3_readLiking_120 : decode cX3_readLiking 120 = .ok (.iadd, 1) := by decide +kernel
theorem dX3_readLiking_121 : decode cX3_readLiking 121 = .ok (.aload_n 0, 1) := by decide +kernel
theorem dX3_readLiking_122 : decode cX3_readLiking 122 = .ok (.getfield 153, 3) := by decide +kernel
theorem dX3_readLiking_125 : decode cX3_readLiking 125 = .ok (.iastore, 1) := by decide +kernel
theorem dX3_readLiking_126 : decode cX3_readLiking 126 = .ok (.aload_n 0, 1) := by decide +kernel
theorem dX3_readLiking_127 : decode cX3_readLiking 127 = .ok (.bipush 59, 2) := by decide +kernel
theorem dX3_readLiking_129 : decode cX3_readLiking 129 = .ok (.invokevirtual 156, 3) := by decide +kernel
theorem dX3_readLiking_132 : decode cX3_readLiking 132 = .ok (.ireturn, 1) := by decide +kernel
theorem dX3_readSlip_0 : decode cX3_readSlip 0 = .ok (.aload_n 0, 1) := by decide +kernel
theorem dX3_readSlip_1 : decode cX3_readSlip 1 = .ok (.getfield 53, 3) := by decide +kernel
theorem dX3_readSlip_4 : decode cX3_readSlip 4 = .ok (.ifCond .eq 9, 3) := by decide +kernel
theorem dX3_readSlip_7 : decode cX3_readSlip 7 = .ok (.aload_n 0, 1) := by decide +kernel
theorem dX3_readSlip_8 : decode cX3_readSlip 8 = .ok (.iconst 3, 1) := by decide +kernel
theorem dX3_readSlip_9 : decode cX3_readSlip 9 = .ok (.invokevirtual 116, 3) := by decide +kernel
theorem dX3_readSlip_12 : decode cX3_readSlip 12 = .ok (.ireturn, 1) := by decide +kernel
theorem dX3_readSlip_13 : decode cX3_readSlip 13 = .ok (.aload_n 0, 1) := by decide +kernel
theorem dX3_readSlip_14 : decode cX3_readSlip 14 = .ok (.iconst 1, 1) := by decide +kernel
theorem dX3_readSlip_15 : decode cX3_readSlip 15 = .ok (.putfield 53, 3) := by decide +kernel
theorem dX3_readSlip_18 : decode cX3_readSlip 18 = .ok (.aload_n 0, 1) := by decide +kernel
theorem dX3_readSlip_19 : decode cX3_readSlip 19 = .ok (.getfield 21, 3) := by decide +kernel
theorem dX3_readSlip_22 : decode cX3_readSlip 22 = .ok (.invokevirtual 123, 3) := by decide +kernel
theorem dX3_readSlip_25 : decode cX3_readSlip 25 = .ok (.aload_n 0, 1) := by decide +kernel
theorem dX3_readSlip_26 : decode cX3_readSlip 26 = .ok (.iconst 3, 1) := by decide +kernel
theorem dX3_readSlip_27 : decode cX3_readSlip 27 = .ok (.invokevirtual 147, 3) := by decide +kernel
theorem dX3_readSlip_30 : decode cX3_readSlip 30 = .ok (.ifCond .ne 5, 3) := by decide +kernel
theorem dX3_readSlip_33 : decode cX3_readSlip 33 = .ok (.iconst 0, 1) := by decide +kernel
theorem dX3_readSlip_34 : decode cX3_readSlip 34 = .ok (.ireturn, 1) := by decide +kernel
theorem dX3_readSlip_35 : decode cX3_readSlip 35 = .ok (.aload_n 0, 1) := by decide +kernel
theorem dX3_readSlip_36 : decode cX3_readSlip 36 = .ok (.getfield 12, 3) := by decide +kernel
theorem dX3_readSlip_39 : decode cX3_readSlip 39 = .ok (.getfield 39, 3) := by decide +kernel
theorem dX3_readSlip_42 : decode cX3_readSlip 42 = .ok (.aload_n 0, 1) := by decide +kernel
theorem dX3_readSlip_43 : decode cX3_readSlip 43 = .ok (.getfield 153, 3) := by decide +kernel
theorem dX3_readSlip_46 : decode cX3_readSlip 46 = .ok (.putfield 184, 3) := by decide +kernel
theorem dX3_readSlip_49 : decode cX3_readSlip 49 = .ok (.aload_n 0, 1) := by decide +kernel
theorem dX3_readSlip_50 : decode cX3_readSlip 50 = .ok (.bipush 59, 2) := by decide +kernel
theorem dX3_readSlip_52 : decode cX3_readSlip 52 = .ok (.invokevirtual 156, 3) := by decide +kernel
theorem dX3_readSlip_55 : decode cX3_readSlip 55 = .ok (.ireturn, 1) := by decide +kernel
theorem dX3_readWish_0 : decode cX3_readWish 0 = .ok (.aload_n 0, 1) := by decide +kernel
theorem dX3_readWish_1 : decode cX3_readWish 1 = .ok (.getfield 57, 3) := by decide +kernel
theorem dX3_readWish_4 : decode cX3_readWish 4 = .ok (.ifCond .eq 9, 3) := by decide +kernel
theorem dX3_readWish_7 : decode cX3_readWish 7 = .ok (.aload_n 0, 1) := by decide +kernel
theorem dX3_readWish_8 : decode cX3_readWish 8 = .ok (.iconst 3, 1) := by decide +kernel
theorem dX3_readWish_9 : decode cX3_readWish 9 = .ok (.invokevirtual 116, 3) := by decide +kernel
theorem dX3_readWish_12 : decode cX3_readWish 12 = .ok (.ireturn, 1) := by decide +kernel
theorem dX3_readWish_13 : decode cX3_readWish 13 = .ok (.aload_n 0, 1) := by decide +kernel
theorem dX3_readWish_14 : decode cX3_readWish 14 = .ok (.iconst 1, 1) := by decide +kernel
theorem dX3_readWish_15 : decode cX3_readWish 15 = .ok (.putfield 57, 3) := by decide +kernel
theorem dX3_readWish_18 : decode cX3_readWish 18 = .ok (.aload_n 0, 1) := by decide +kernel
theorem dX3_readWish_19 : decode cX3_readWish 19 = .ok (.iconst 0, 1) := by decide +kernel
theorem dX3_readWish_20 : decode cX3_readWish 20 = .ok (.putfield 187, 3) := by decide +kernel
theorem dX3_readWish_23 : decode cX3_readWish 23 = .ok (.aload_n 0, 1) := by decide +kernel
theorem dX3_readWish_24 : decode cX3_readWish 24 = .ok (.getfield 21, 3) := by decide +kernel
theorem dX3_readWish_27 : decode cX3_readWish 27 = .ok (.invokevirtual 123, 3) := by decide +kernel
theorem dX3_readWish_30 : decode cX3_readWish 30 = .ok (.aload_n 0, 1) := by decide +kernel
theorem dX3_readWish_31 : decode cX3_readWish 31 = .ok (.iconst 0, 1) := by decide +kernel
theorem dX3_readWish_32 : decode cX3_readWish 32 = .ok (.iconst 0, 1) := by decide +kernel
theorem dX3_readWish_33 : decode cX3_readWish 33 = .ok (.invokevirtual 190, 3) := by decide +kernel
theorem dX3_readWish_36 : decode cX3_readWish 36 = .ok (.ifCond .eq 12, 3) := by decide +kernel
theorem dX3_readWish_39 : decode cX3_readWish 39 = .ok (.aload_n 0, 1) := by decide +kernel
theorem dX3_readWish_40 : decode cX3_readWish 40 = .ok (.bipush 59, 2) := by decide +kernel
theorem dX3_readWish_42 : decode cX3_readWish 42 = .ok (.invokevirtual 156, 3) := by decide +kernel
theorem dX3_readWish_45 : decode cX3_readWish 45 = .ok (.ifCond .ne 5, 3) := by decide +kernel
theorem dX3_readWish_48 : decode cX3_readWish 48 = .ok (.iconst 0, 1) := by decide +kernel
theorem dX3_readWish_49 : decode cX3_readWish 49 = .ok (.ireturn, 1) := by decide +kernel
theorem dX3_readWish_50 : decode cX3_readWish 50 = .ok (.aload_n 0, 1) := by decide +kernel
theorem dX3_readWish_51 : decode cX3_readWish 51 = .ok (.getfield 12, 3) := by decide +kernel
theorem dX3_readWish_54 : decode cX3_readWish 54 = .ok (.getfield 39, 3) := by decide +kernel
theorem dX3_readWish_57 : decode cX3_readWish 57 = .ok (.aload_n 0, 1) := by decide +kernel
theorem dX3_readWish_58 : decode cX3_readWish 58 = .ok (.getfield 33, 3) := by decide +kernel
theorem dX3_readWish_61 : decode cX3_readWish 61 = .ok (.aload_n 0, 1) := by decide +kernel
theorem dX3_readWish_62 : decode cX3_readWish 62 = .ok (.getfield 187, 3) := by decide +kernel
theorem dX3_readWish_65 : decode cX3_readWish 65 = .ok (.invokestatic 194, 3) := by decide +kernel
theorem dX3_readWish_68 : decode cX3_readWish 68 = .ok (.putfield 198, 3) := by decide +kernel
theorem dX3_readWish_71 : decode cX3_readWish 71 = .ok (.iconst 1, 1) := by decide +kernel
theorem dX3_readWish_72 : decode cX3_readWish 72 = .ok (.ireturn, 1) := by decide +kernel
theorem dX3_readLevel_0 : decode cX3_readLevel 0 = .ok (.iload_n 1, 1) := by decide +kernel
theorem dX3_readLevel_1 : decode cX3_readLevel 1 = .ok (.iconst 1, 1) := by decide +kernel
theorem dX3_readLevel_2 : decode cX3_readLevel 2 = .ok (.if_icmp .ne 7, 3) := by decide +kernel
theorem dX3_readLevel_5 : decode cX3_readLevel 5 = .ok (.iconst 1, 1) := by decide +kernel
theorem dX3_readLevel_6 : decode cX3_readLevel 6 = .ok (.goto 6, 3) := by decide +kernel
theorem dX3_readLevel_9 : decode cX3_readLevel 9 = .ok (.sipush 1000, 3) := by decide +kernel
theorem dX3_readLevel_12 : decode cX3_readLevel 12 = .ok (.istore_n 3, 1) := by decide +kernel
theorem dX3_readLevel_13 : decode cX3_readLevel 13 = .ok (.aload_n 0, 1) := by decide +kernel
theorem dX3_readLevel_14 : decode cX3_readLevel 14 = .ok (.iload_n 1, 1) := by decide +kernel
theorem dX3_readLevel_15 : decode cX3_readLevel 15 = .ok (.iload_n 2, 1) := by decide +kernel
theorem dX3_readLevel_16 : decode cX3_readLevel 16 = .ok (.invokevirtual 201, 3) := by decide +kernel
theorem dX3_readLevel_19 : decode cX3_readLevel 19 = .ok (.istore 4, 2) := by decide +kernel
theorem dX3_readLevel_21 : decode cX3_readLevel 21 = .ok (.iconst 0, 1) := by decide +kernel
theorem dX3_readLevel_22 : decode cX3_readLevel 22 = .ok (.istore 5, 2) := by decide +kernel
theorem dX3_readLevel_24 : decode cX3_readLevel 24 = .ok (.iload 5, 2) := by decide +kernel
theorem dX3_readLevel_26 : decode cX3_readLevel 26 = .ok (.iload_n 3, 1) := by decide +kernel
theorem dX3_readLevel_27 : decode cX3_readLevel 27 = .ok (.if_icmp .ge 60, 3) := by decide +kernel
theorem dX3_readLevel_30 : decode cX3_readLevel 30 = .ok (.iload 4, 2) := by decide +kernel
theorem dX3_readLevel_32 : decode cX3_readLevel 32 = .ok (.ifCond .eq 55, 3) := by decide +kernel
theorem dX3_readLevel_35 : decode cX3_readLevel 35 = .ok (.aload_n 0, 1) := by decide +kernel
theorem dX3_readLevel_36 : decode cX3_readLevel 36 = .ok (.iload_n 1, 1) := by decide +kernel
theorem dX3_readLevel_37 : decode cX3_readLevel 37 = .ok (.invokevirtual 204, 3) := by decide +kernel
theorem dX3_readLevel_40 : decode cX3_readLevel 40 = .ok (.istore 6, 2) := by decide +kernel
theorem dX3_readLevel_42 : decode cX3_readLevel 42 = .ok (.iload 6, 2) := by decide +kernel
theorem dX3_readLevel_44 : decode cX3_readLevel 44 = .ok (.ifCond .ne 5, 3) := by decide +kernel
theorem dX3_readLevel_47 : decode cX3_readLevel 47 = .ok (.iconst 1, 1) := by decide +kernel
theorem dX3_readLevel_48 : decode cX3_readLevel 48 = .ok (.ireturn, 1) := by decide +kernel
theorem dX3_readLevel_49 : decode cX3_readLevel 49 = .ok (.aload_n 0, 1) := by decide +kernel
theorem dX3_readLevel_50 : decode cX3_readLevel 50 = .ok (.getfield 21, 3) := by decide +kernel
theorem dX3_readLevel_53 : decode cX3_readLevel 53 = .ok (.invokevirtual 123, 3) := by decide +kernel
theorem dX3_readLevel_56 : decode cX3_readLevel 56 = .ok (.aload_n 0, 1) := by decide +kernel
theorem dX3_readLevel_57 : decode cX3_readLevel 57 = .ok (.iload_n 1, 1) := by decide +kernel
theorem dX3_readLevel_58 : decode cX3_readLevel 58 = .ok (.iload_n 2, 1) := by decide +kernel
theorem dX3_readLevel_59 : decode cX3_readLevel 59 = .ok (.invokevirtual 201, 3) := by decide +kernel
theorem dX3_readLevel_62 : decode cX3_readLevel 62 = .ok (.ifCond .eq 16, 3) := by decide +kernel
theorem dX3_readLevel_65 : decode cX3_readLevel 65 = .ok (.aload_n 0, 1) := by decide +kernel
theorem dX3_readLevel_66 : decode cX3_readLevel 66 = .ok (.iload 6, 2) := by decide +kernel
theorem dX3_readLevel_68 : decode cX3_readLevel 68 = .ok (.invokevirtual 208, 3) := by decide +kernel
theorem dX3_readLevel_71 : decode cX3_readLevel 71 = .ok (.ifCond .eq 7, 3) := by decide +kernel
theorem dX3_readLevel_74 : decode cX3_readLevel 74 = .ok (.iconst 1, 1) := by decide +kernel
theorem dX3_readLevel_75 : decode cX3_readLevel 75 = .ok (.goto 4, 3) := by decide +kernel
theorem dX3_readLevel_78 : decode cX3_readLevel 78 = .ok (.iconst 0, 1) := by decide +kernel
theorem dX3_readLevel_79 : decode cX3_readLevel 79 = .ok (.istore 4, 2) := by decide +kernel
theorem dX3_readLevel_81 : decode cX3_readLevel 81 = .ok (.iinc 5 1, 3) := by decide +kernel
theorem dX3_readLevel_84 : decode cX3_readLevel 84 = .ok (.goto (-60), 3) := by decide +kernel
theorem dX3_readLevel_87 : decode cX3_readLevel 87 = .ok (.iload 4, 2) := by decide +kernel
theorem dX3_readLevel_89 : decode cX3_readLevel 89 = .ok (.ireturn, 1) := by decide +kernel
theorem dX3_readOperand_0 : decode cX3_readOperand 0 = .ok (.iload_n 1, 1) := by decide +kernel
theorem dX3_readOperand_1 : decode cX3_readOperand 1 = .ok (.iconst 3, 1) := by decide +kernel
theorem dX3_readOperand_2 : decode cX3_readOperand 2 = .ok (.if_icmp .ge 14, 3) := by decide +kernel
theorem dX3_readOperand_5 : decode cX3_readOperand 5 = .ok (.aload_n 0, 1) := by decide +kernel
theorem dX3_readOperand_6 : decode cX3_readOperand 6 = .ok (.iload_n 1, 1) := by decide +kernel
theorem dX3_readOperand_7 : decode cX3_readOperand 7 = .ok (.iconst 1, 1) := by decide +kernel
theorem dX3_readOperand_8 : decode cX3_readOperand 8 = .ok (.iadd, 1) := by decide +kernel
theorem dX3_readOperand_9 : decode cX3_readOperand 9 = .ok (.iload_n 2, 1) := by decide +kernel
theorem dX3_readOperand_10 : decode cX3_readOperand 10 = .ok (.invokevirtual 190, 3) := by decide +kernel
theorem dX3_readOperand_13 : decode cX3_readOperand 13 = .ok (.goto 8, 3) := by decide +kernel
theorem dX3_readOperand_16 : decode cX3_readOperand 16 = .ok (.aload_n 0, 1) := by decide +kernel
theorem dX3_readOperand_17 : decode cX3_readOperand 17 = .ok (.iload_n 2, 1) := by decide +kernel
theorem dX3_readOperand_18 : decode cX3_readOperand 18 = .ok (.invokevirtual 211, 3) := by decide +kernel
theorem dX3_readOperand_21 : decode cX3_readOperand 21 = .ok (.ireturn, 1) := by decide +kernel
theorem dX3_joinerOf_0 : decode cX3_joinerOf 0 = .ok (.iload_n 1, 1) := by decide +kernel
theorem dX3_joinerOf_1 : decode cX3_joinerOf 1 = .ok (.tableswitch 137 0 2 #[27, 65, 101], 27) := by decide +kernel
theorem dX3_joinerOf_28 : decode cX3_joinerOf 28 = .ok (.aload_n 0, 1) := by decide +kernel
theorem dX3_joinerOf_29 : decode cX3_joinerOf 29 = .ok (.getfield 21, 3) := by decide +kernel
theorem dX3_joinerOf_32 : decode cX3_joinerOf 32 = .ok (.getfield 74, 3) := by decide +kernel
theorem dX3_joinerOf_35 : decode cX3_joinerOf 35 = .ok (.getstatic 214, 3) := by decide +kernel
theorem dX3_joinerOf_38 : decode cX3_joinerOf 38 = .ok (.if_acmp .ne 8, 3) := by decide +kernel
theorem dX3_joinerOf_41 : decode cX3_joinerOf 41 = .ok (.bipush (-7), 2) := by decide +kernel
theorem dX3_joinerOf_43 : decode cX3_joinerOf 43 = .ok (.goto 22, 3) := by decide +kernel
theorem dX3_joinerOf_46 : decode cX3_joinerOf 46 = .ok (.aload_n 0, 1) := by decide +kernel
theorem dX3_joinerOf_47 : decode cX3_joinerOf 47 = .ok (.getfield 21, 3) := by decide +kernel
theorem dX3_joinerOf_50 : decode cX3_joinerOf 50 = .ok (.getfield 74, 3) := by decide +kernel
theorem dX3_joinerOf_53 : decode cX3_joinerOf 53 = .ok (.getstatic 217, 3) := by decide +kernel
theorem dX3_joinerOf_56 : decode cX3_joinerOf 56 = .ok (.if_acmp .ne 8, 3) := by decide +kernel
theorem dX3_joinerOf_59 : decode cX3_joinerOf 59 = .ok (.bipush (-8), 2) := by decide +kernel
theorem dX3_joinerOf_61 : decode cX3_joinerOf 61 = .ok (.goto 4, 3) := by decide +kernel
theorem dX3_joinerOf_64 : decode cX3_joinerOf 64 = .ok (.iconst 0, 1) := by decide +kernel
theorem dX3_joinerOf_65 : decode cX3_joinerOf 65 = .ok (.ireturn, 1) := by decide +kernel
theorem dX3_joinerOf_66 : decode cX3_joinerOf 66 = .ok (.aload_n 0, 1) := by decide +kernel
theorem dX3_joinerOf_67 : decode cX3_joinerOf 67 = .ok (.getfield 21, 3) := by decide +kernel
theorem dX3_joinerOf_70 : decode cX3_joinerOf 70 = .ok (.getfield 67, 3) := by decide +kernel
theorem dX3_joinerOf_73 : decode cX3_joinerOf 73 = .ok (.bipush 60, 2) := by decide +kernel
theorem dX3_joinerOf_75 : decode cX3_joinerOf 75 = .ok (.if_icmp .ne 8, 3) := by decide +kernel
theorem dX3_joinerOf_78 : decode cX3_joinerOf 78 = .ok (.bipush (-9), 2) := by decide +kernel
theorem dX3_joinerOf_80 : decode cX3_joinerOf 80 = .ok (.goto 21, 3) := by decide +kernel
theorem dX3_joinerOf_83 : decode cX3_joinerOf 83 = .ok (.aload_n 0, 1) := by decide +kernel
theorem dX3_joinerOf_84 : decode cX3_joinerOf 84 = .ok (.getfield 21, 3) := by decide +kernel
theorem dX3_joinerOf_87 : decode cX3_joinerOf 87 = .ok (.getfield 67, 3) := by decide +kernel
theorem dX3_joinerOf_90 : decode cX3_joinerOf 90 = .ok (.bipush 61, 2) := by decide +kernel
theorem dX3_joinerOf_92 : decode cX3_joinerOf 92 = .ok (.if_icmp .ne 8, 3) := by decide +kernel
theorem dX3_joinerOf_95 : decode cX3_joinerOf 95 = .ok (.bipush (-10), 2) := by decide +kernel
theorem dX3_joinerOf_97 : decode cX3_joinerOf 97 = .ok (.goto 4, 3) := by decide +kernel
theorem dX3_joinerOf_100 : decode cX3_joinerOf 100 = .ok (.iconst 0, 1) := by decide +kernel
theorem dX3_joinerOf_101 : decode cX3_joinerOf 101 = .ok (.ireturn, 1) := by decide +kernel
theorem dX3_joinerOf_102 : decode cX3_joinerOf 102 = .ok (.aload_n 0, 1) := by decide +kernel
theorem dX3_joinerOf_103 : decode cX3_joinerOf 103 = .ok (.getfield 21, 3) := by decide +kernel
theorem dX3_joinerOf_106 : decode cX3_joinerOf 106 = .ok (.getfield 67, 3) := by decide +kernel
theorem dX3_joinerOf_109 : decode cX3_joinerOf 109 = .ok (.bipush 43, 2) := by decide +kernel
theorem dX3_joinerOf_111 : decode cX3_joinerOf 111 = .ok (.if_icmp .ne 8, 3) := by decide +kernel
theorem dX3_joinerOf_114 : decode cX3_joinerOf 114 = .ok (.bipush (-11), 2) := by decide +kernel
theorem dX3_joinerOf_116 : decode cX3_joinerOf 116 = .ok (.goto 21, 3) := by decide +kernel
theorem dX3_joinerOf_119 : decode cX3_joinerOf 119 = .ok (.aload_n 0, 1) := by decide +kernel
theorem dX3_joinerOf_120 : decode cX3_joinerOf 120 = .ok (.getfield 21, 3) := by decide +kernel
theorem dX3_joinerOf_123 : decode cX3_joinerOf 123 = .ok (.getfield 67, 3) := by decide +kernel
theorem dX3_joinerOf_126 : decode cX3_joinerOf 126 = .ok (.bipush 45, 2) := by decide +kernel
theorem dX3_joinerOf_128 : decode cX3_joinerOf 128 = .ok (.if_icmp .ne 8, 3) := by decide +kernel
theorem dX3_joinerOf_131 : decode cX3_joinerOf 131 = .ok (.bipush (-12), 2) := by decide +kernel
theorem dX3_joinerOf_133 : decode cX3_joinerOf 133 = .ok (.goto 4, 3) := by decide +kernel
theorem dX3_joinerOf_136 : decode cX3_joinerOf 136 = .ok (.iconst 0, 1) := by decide +kernel
theorem dX3_joinerOf_137 : decode cX3_joinerOf 137 = .ok (.ireturn, 1) := by decide +kernel
theorem dX3_joinerOf_138 : decode cX3_joinerOf 138 = .ok (.aload_n 0, 1) := by decide +kernel
theorem dX3_joinerOf_139 : decode cX3_joinerOf 139 = .ok (.getfield 21, 3) := by decide +kernel
theorem dX3_joinerOf_142 : decode cX3_joinerOf 142 = .ok (.getfield 67, 3) := by decide +kernel
theorem dX3_joinerOf_145 : decode cX3_joinerOf 145 = .ok (.bipush 42, 2) := by decide +kernel
theorem dX3_joinerOf_147 : decode cX3_joinerOf 147 = .ok (.if_icmp .ne 8, 3) := by decide +kernel
theorem dX3_joinerOf_150 : decode cX3_joinerOf 150 = .ok (.bipush (-13), 2) := by decide +kernel
theorem dX3_joinerOf_152 : decode cX3_joinerOf 152 = .ok (.goto 4, 3) := by decide +kernel
theorem dX3_joinerOf_155 : decode cX3_joinerOf 155 = .ok (.iconst 0, 1) := by decide +kernel
theorem dX3_joinerOf_156 : decode cX3_joinerOf 156 = .ok (.ireturn, 1) := by decide +kernel
theorem dX3_readPart_0 : decode cX3_readPart 0 = .ok (.aload_n 0, 1) := by decide +kernel
theorem dX3_readPart_1 : decode cX3_readPart 1 = .ok (.getfield 21, 3) := by decide +kernel
theorem dX3_readPart_4 : decode cX3_readPart 4 = .ok (.getfield 74, 3) := by decide +kernel
theorem dX3_readPart_7 : decode cX3_readPart 7 = .ok (.ifnonnull 7, 3) := by decide +kernel
theorem dX3_readPart_10 : decode cX3_readPart 10 = .ok (.iconst 0, 1) := by decide +kernel
theorem dX3_readPart_11 : decode cX3_readPart 11 = .ok (.goto 13, 3) := by decide +kernel
theorem dX3_readPart_14 : decode cX3_readPart 14 = .ok (.aload_n 0, 1) := by decide +kernel
theorem dX3_readPart_15 : decode cX3_readPart 15 = .ok (.getfield 21, 3) := by decide +kernel
theorem dX3_readPart_18 : decode cX3_readPart 18 = .ok (.getfield 74, 3) := by decide +kernel
theorem dX3_readPart_21 : decode cX3_readPart 21 = .ok (.getfield 220, 3) := by decide +kernel
theorem dX3_readPart_24 : decode cX3_readPart 24 = .ok (.istore_n 2, 1) := by decide +kernel
theorem dX3_readPart_25 : decode cX3_readPart 25 = .ok (.aload_n 0, 1) := by decide +kernel
theorem dX3_readPart_26 : decode cX3_readPart 26 = .ok (.getfield 21, 3) := by decide +kernel
theorem dX3_readPart_29 : decode cX3_readPart 29 = .ok (.getfield 67, 3) := by decide +kernel
theorem dX3_readPart_32 : decode cX3_readPart 32 = .ok (.iconst 3, 1) := by decide +kernel
theorem dX3_readPart_33 : decode cX3_readPart 33 = .ok (.if_icmp .eq 7, 3) := by decide +kernel
theorem dX3_readPart_36 : decode cX3_readPart 36 = .ok (.iload_n 2, 1) := by decide +kernel
theorem dX3_readPart_37 : decode cX3_readPart 37 = .ok (.ifCond .eq 7, 3) := by decide +kernel
theorem dX3_readPart_40 : decode cX3_readPart 40 = .ok (.iconst 1, 1) := by decide +kernel
theorem dX3_readPart_41 : decode cX3_readPart 41 = .ok (.goto 4, 3) := by decide +kernel
theorem dX3_readPart_44 : decode cX3_readPart 44 = .ok (.iconst 0, 1) := by decide +kernel
theorem dX3_readPart_45 : decode cX3_readPart 45 = .ok (.istore_n 3, 1) := by decide +kernel
theorem dX3_readPart_46 : decode cX3_readPart 46 = .ok (.aload_n 0, 1) := by decide +kernel
theorem dX3_readPart_47 : decode cX3_readPart 47 = .ok (.getfield 21, 3) := by decide +kernel
theorem dX3_readPart_50 : decode cX3_readPart 50 = .ok (.getfield 74, 3) := by decide +kernel
theorem dX3_readPart_53 : decode cX3_readPart 53 = .ok (.getstatic 223, 3) := by decide +kernel
theorem dX3_readPart_56 : decode cX3_readPart 56 = .ok (.if_acmp .ne 7, 3) := by decide +kernel
theorem dX3_readPart_59 : decode cX3_readPart 59 = .ok (.iconst 1, 1) := by decide +kernel
theorem dX3_readPart_60 : decode cX3_readPart 60 = .ok (.goto 4, 3) := by decide +kernel
theorem dX3_readPart_63 : decode cX3_readPart 63 = .ok (.iconst 0, 1) := by decide +kernel
theorem dX3_readPart_64 : decode cX3_readPart 64 = .ok (.istore 4, 2) := by decide +kernel
theorem dX3_readPart_66 : decode cX3_readPart 66 = .ok (.iload_n 3, 1) := by decide +kernel
theorem dX3_readPart_67 : decode cX3_readPart 67 = .ok (.ifCond .ne 26, 3) := by decide +kernel
theorem dX3_readPart_70 : decode cX3_readPart 70 = .ok (.iload 4, 2) := by decide +kernel
theorem dX3_readPart_72 : decode cX3_readPart 72 = .ok (.ifCond .ne 21, 3) := by decide +kernel
theorem dX3_readPart_75 : decode cX3_readPart 75 = .ok (.aload_n 0, 1) := by decide +kernel
theorem dX3_readPart_76 : decode cX3_readPart 76 = .ok (.getfield 21, 3) := by decide +kernel
theorem dX3_readPart_79 : decode cX3_readPart 79 = .ok (.getfield 67, 3) := by decide +kernel
theorem dX3_readPart_82 : decode cX3_readPart 82 = .ok (.bipush 40, 2) := by decide +kernel
theorem dX3_readPart_84 : decode cX3_readPart 84 = .ok (.if_icmp .eq 9, 3) := by decide +kernel
theorem dX3_readPart_87 : decode cX3_readPart 87 = .ok (.aload_n 0, 1) := by decide +kernel
theorem dX3_readPart_88 : decode cX3_readPart 88 = .ok (.iconst 1, 1) := by decide +kernel
theorem dX3_readPart_89 : decode cX3_readPart 89 = .ok (.invokevirtual 116, 3) := by decide +kernel
theorem dX3_readPart_92 : decode cX3_readPart 92 = .ok (.ireturn, 1) := by decide +kernel
theorem dX3_readPart_93 : decode cX3_readPart 93 = .ok (.iload_n 1, 1) := by decide +kernel
theorem dX3_readPart_94 : decode cX3_readPart 94 = .ok (.iconst 5, 1) := by decide +kernel
theorem dX3_readPart_95 : decode cX3_readPart 95 = .ok (.if_icmp .lt 9, 3) := by decide +kernel
theorem dX3_readPart_98 : decode cX3_readPart 98 = .ok (.aload_n 0, 1) := by decide +kernel
theorem dX3_readPart_99 : decode cX3_readPart 99 = .ok (.iconst 5, 1) := by decide +kernel
theorem dX3_readPart_100 : decode cX3_readPart 100 = .ok (.invokevirtual 116, 3) := by decide +kernel
theorem dX3_readPart_103 : decode cX3_readPart 103 = .ok (.ireturn, 1) := by decide +kernel
theorem dX3_readPart_104 : decode cX3_readPart 104 = .ok (.aload_n 0, 1) := by decide +kernel
theorem dX3_readPart_105 : decode cX3_readPart 105 = .ok (.getfield 21, 3) := by decide +kernel
theorem dX3_readPart_108 : decode cX3_readPart 108 = .ok (.getfield 67, 3) := by decide +kernel
theorem dX3_readPart_111 : decode cX3_readPart 111 = .ok (.iconst 3, 1) := by decide +kernel
theorem dX3_readPart_112 : decode cX3_readPart 112 = .ok (.if_icmp .ne 13, 3) := by decide +kernel
theorem dX3_readPart_115 : decode cX3_readPart 115 = .ok (.aload_n 0, 1) := by decide +kernel
theorem dX3_readPart_116 : decode cX3_readPart 116 = .ok (.getfield 21, 3) := by decide +kernel
theorem dX3_readPart_119 : decode cX3_readPart 119 = .ok (.getfield 226, 3) := by decide +kernel
theorem dX3_readPart_122 : decode cX3_readPart 122 = .ok (.goto 4, 3) := by decide +kernel
theorem dX3_readPart_125 : decode cX3_readPart 125 = .ok (.iload_n 2, 1) := by decide +kernel
theorem dX3_readPart_126 : decode cX3_readPart 126 = .ok (.istore 5, 2) := by decide +kernel
theorem dX3_readPart_128 : decode cX3_readPart 128 = .ok (.aload_n 0, 1) := by decide +kernel
theorem dX3_readPart_129 : decode cX3_readPart 129 = .ok (.getfield 21, 3) := by decide +kernel
theorem dX3_readPart_132 : decode cX3_readPart 132 = .ok (.invokevirtual 123, 3) := by decide +kernel
theorem dX3_readPart_135 : decode cX3_readPart 135 = .ok (.iload_n 3, 1) := by decide +kernel
theorem dX3_readPart_136 : decode cX3_readPart 136 = .ok (.ifCond .eq 10, 3) := by decide +kernel
theorem dX3_readPart_139 : decode cX3_readPart 139 = .ok (.aload_n 0, 1) := by decide +kernel
theorem dX3_readPart_140 : decode cX3_readPart 140 = .ok (.iload 5, 2) := by decide +kernel
theorem dX3_readPart_142 : decode cX3_readPart 142 = .ok (.invokevirtual 208, 3) := by decide +kernel
theorem dX3_readPart_145 : decode cX3_readPart 145 = .ok (.ireturn, 1) := by decide +kernel
theorem dX3_readPart_146 : decode cX3_readPart 146 = .ok (.iload 4, 2) := by decide +kernel
theorem dX3_readPart_148 : decode cX3_readPart 148 = .ok (.ifCond .eq 29, 3) := by decide +kernel
theorem dX3_readPart_151 : decode cX3_readPart 151 = .ok (.aload_n 0, 1) := by decide +kernel
theorem dX3_readPart_152 : decode cX3_readPart 152 = .ok (.iconst 3, 1) := by decide +kernel
theorem dX3_readPart_153 : decode cX3_readPart 153 = .ok (.iload_n 1, 1) := by decide +kernel
theorem dX3_readPart_154 : decode cX3_readPart 154 = .ok (.iconst 1, 1) := by decide +kernel
theorem dX3_readPart_155 : decode cX3_readPart 155 = .ok (.iadd, 1) := by decide +kernel
theorem dX3_readPart_156 : decode cX3_readPart 156 = .ok (.invokevirtual 201, 3) := by decide +kernel
theorem dX3_readPart_159 : decode cX3_readPart 159 = .ok (.ifCond .eq 16, 3) := by decide +kernel
theorem dX3_readPart_162 : decode cX3_readPart 162 = .ok (.aload_n 0, 1) := by decide +kernel
theorem dX3_readPart_163 : decode cX3_readPart 163 = .ok (.bipush (-6), 2) := by decide +kernel
theorem dX3_readPart_165 : decode cX3_readPart 165 = .ok (.invokevirtual 208, 3) := by decide +kernel
theorem dX3_readPart_168 : decode cX3_readPart 168 = .ok (.ifCond .eq 7, 3) := by decide +kernel
theorem dX3_readPart_171 : decode cX3_readPart 171 = .ok (.iconst 1, 1) := by decide +kernel
theorem dX3_readPart_172 : decode cX3_readPart 172 = .ok (.goto 4, 3) := by decide +kernel
theorem dX3_readPart_175 : decode cX3_readPart 175 = .ok (.iconst 0, 1) := by decide +kernel
theorem dX3_readPart_176 : decode cX3_readPart 176 = .ok (.ireturn, 1) := by decide +kernel
theorem dX3_readPart_177 : decode cX3_readPart 177 = .ok (.aload_n 0, 1) := by decide +kernel
theorem dX3_readPart_178 : decode cX3_readPart 178 = .ok (.iconst 0, 1) := by decide +kernel
theorem dX3_readPart_179 : decode cX3_readPart 179 = .ok (.iload_n 1, 1) := by decide +kernel
theorem dX3_readPart_180 : decode cX3_readPart 180 = .ok (.iconst 1, 1) := by decide +kernel
theorem dX3_readPart_181 : decode cX3_readPart 181 = .ok (.iadd, 1) := by decide +kernel
theorem dX3_readPart_182 : decode cX3_readPart 182 = .ok (.invokevirtual 190, 3) := by decide +kernel
theorem dX3_readPart_185 : decode cX3_readPart 185 = .ok (.ifCond .eq 16, 3) := by decide +kernel
theorem dX3_readPart_188 : decode cX3_readPart 188 = .ok (.aload_n 0, 1) := by decide +kernel
theorem dX3_readPart_189 : decode cX3_readPart 189 = .ok (.bipush 41, 2) := by decide +kernel
theorem dX3_readPart_191 : decode cX3_readPart 191 = .ok (.invokevirtual 156, 3) := by decide +kernel
theorem dX3_readPart_194 : decode cX3_readPart 194 = .ok (.ifCond .eq 7, 3) := by decide +kernel
theorem dX3_readPart_197 : decode cX3_readPart 197 = .ok (.iconst 1, 1) := by decide +kernel
theorem dX3_readPart_198 : decode cX3_readPart 198 = .ok (.goto 4, 3) := by decide +kernel
theorem dX3_readPart_201 : decode cX3_readPart 201 = .ok (.iconst 0, 1) := by decide +kernel
theorem dX3_readPart_202 : decode cX3_readPart 202 = .ok (.ireturn, 1) := by decide +kernel
theorem dX3_putStep_0 : decode cX3_putStep 0 = .ok (.aload_n 0, 1) := by decide +kernel
theorem dX3_putStep_1 : decode cX3_putStep 1 = .ok (.getfield 187, 3) := by decide +kernel
theorem dX3_putStep_4 : decode cX3_putStep 4 = .ok (.aload_n 0, 1) := by decide +kernel
theorem dX3_putStep_5 : decode cX3_putStep 5 = .ok (.getfield 33, 3) := by decide +kernel
theorem dX3_putStep_8 : decode cX3_putStep 8 = .ok (.arraylength, 1) := by decide +kernel
theorem dX3_putStep_9 : decode cX3_putStep 9 = .ok (.if_icmp .ge 23, 3) := by decide +kernel
theorem dX3_putStep_12 : decode cX3_putStep 12 = .ok (.aload_n 0, 1) := by decide +kernel
theorem dX3_putStep_13 : decode cX3_putStep 13 = .ok (.getfield 33, 3) := by decide +kernel
theorem dX3_putStep_16 : decode cX3_putStep 16 = .ok (.aload_n 0, 1) := by decide +kernel
theorem dX3_putStep_17 : decode cX3_putStep 17 = .ok (.getfield 187, 3) := by decide +kernel
theorem dX3_putStep_20 : decode cX3_putStep 20 = .ok (.iload_n 1, 1) := by decide +kernel
theorem dX3_putStep_21 : decode cX3_putStep 21 = .ok (.iastore, 1) := by decide +kernel
theorem dX3_putStep_22 : decode cX3_putStep 22 = .ok (.aload_n 0, 1) := by decide +kernel
theorem dX3_putStep_23 : decode cX3_putStep 23 = .ok (.dup, 1) := by decide +kernel
theorem dX3_putStep_24 : decode cX3_putStep 24 = .ok (.getfield 187, 3) := by decide +kernel
theorem dX3_putStep_27 : decode cX3_putStep 27 = .ok (.iconst 1, 1) := by decide +kernel
theorem dX3_putStep_28 : decode cX3_putStep 28 = .ok (.iadd, 1) := by decide +kernel
theorem dX3_putStep_29 : decode cX3_putStep 29 = .ok (.putfield 187, 3) := by decide +kernel
theorem dX3_putStep_32 : decode cX3_putStep 32 = .ok (.iconst 1, 1) := by decide +kernel
theorem dX3_putStep_33 : decode cX3_putStep 33 = .ok (.ireturn, 1) := by decide +kernel
theorem dX3_takeWord_0 : decode cX3_takeWord 0 = .ok (.aload_n 0, 1) := by decide +kernel
theorem dX3_takeWord_1 : decode cX3_takeWord 1 = .ok (.getfield 21, 3) := by decide +kernel
theorem dX3_takeWord_4 : decode cX3_takeWord 4 = .ok (.getfield 74, 3) := by decide +kernel
theorem dX3_takeWord_7 : decode cX3_takeWord 7 = .ok (.aload_n 1, 1) := by decide +kernel
theorem dX3_takeWord_8 : decode cX3_takeWord 8 = .ok (.if_acmp .eq 9, 3) := by decide +kernel
theorem dX3_takeWord_11 : decode cX3_takeWord 11 = .ok (.aload_n 0, 1) := by decide +kernel
theorem dX3_takeWord_12 : decode cX3_takeWord 12 = .ok (.iconst 1, 1) := by decide +kernel
theorem dX3_takeWord_13 : decode cX3_takeWord 13 = .ok (.invokevirtual 116, 3) := by decide +kernel
theorem dX3_takeWord_16 : decode cX3_takeWord 16 = .ok (.ireturn, 1) := by decide +kernel
theorem dX3_takeWord_17 : decode cX3_takeWord 17 = .ok (.aload_n 0, 1) := by decide +kernel
theorem dX3_takeWord_18 : decode cX3_takeWord 18 = .ok (.getfield 21, 3) := by decide +kernel
theorem dX3_takeWord_21 : decode cX3_takeWord 21 = .ok (.invokevirtual 123, 3) := by decide +kernel
theorem dX3_takeWord_24 : decode cX3_takeWord 24 = .ok (.iconst 1, 1) := by decide +kernel
theorem dX3_takeWord_25 : decode cX3_takeWord 25 = .ok (.ireturn, 1) := by decide +kernel
theorem dX3_takeSign_0 : decode cX3_takeSign 0 = .ok (.aload_n 0, 1) := by decide +kernel
theorem dX3_takeSign_1 : decode cX3_takeSign 1 = .ok (.getfield 21, 3) := by decide +kernel
theorem dX3_takeSign_4 : decode cX3_takeSign 4 = .ok (.getfield 67, 3) := by decide +kernel
theorem dX3_takeSign_7 : decode cX3_takeSign 7 = .ok (.iload_n 1, 1) := by decide +kernel
theorem dX3_takeSign_8 : decode cX3_takeSign 8 = .ok (.if_icmp .eq 9, 3) := by decide +kernel
theorem dX3_takeSign_11 : decode cX3_takeSign 11 = .ok (.aload_n 0, 1) := by decide +kernel
theorem dX3_takeSign_12 : decode cX3_takeSign 12 = .ok (.iconst 1, 1) := by decide +kernel
theorem dX3_takeSign_13 : decode cX3_takeSign 13 = .ok (.invokevirtual 116, 3) := by decide +kernel
theorem dX3_takeSign_16 : decode cX3_takeSign 16 = .ok (.ireturn, 1) := by decide +kernel
theorem dX3_takeSign_17 : decode cX3_takeSign 17 = .ok (.aload_n 0, 1) := by decide +kernel
theorem dX3_takeSign_18 : decode cX3_takeSign 18 = .ok (.getfield 21, 3) := by decide +kernel
theorem dX3_takeSign_21 : decode cX3_takeSign 21 = .ok (.invokevirtual 123, 3) := by decide +kernel
theorem dX3_takeSign_24 : decode cX3_takeSign 24 = .ok (.iconst 1, 1) := by decide +kernel
theorem dX3_takeSign_25 : decode cX3_takeSign 25 = .ok (.ireturn, 1) := by decide +kernel
theorem dX3_takeNumber_0 : decode cX3_takeNumber 0 = .ok (.aload_n 0, 1) := by decide +kernel
theorem dX3_takeNumber_1 : decode cX3_takeNumber 1 = .ok (.getfield 21, 3) := by decide +kernel
theorem dX3_takeNumber_4 : decode cX3_takeNumber 4 = .ok (.getfield 67, 3) := by decide +kernel
theorem dX3_takeNumber_7 : decode cX3_takeNumber 7 = .ok (.iconst 3, 1) := by decide +kernel
theorem dX3_takeNumber_8 : decode cX3_takeNumber 8 = .ok (.if_icmp .eq 9, 3) := by decide +kernel
theorem dX3_takeNumber_11 : decode cX3_takeNumber 11 = .ok (.aload_n 0, 1) := by decide +kernel
theorem dX3_takeNumber_12 : decode cX3_takeNumber 12 = .ok (.iconst 1, 1) := by decide +kernel
theorem dX3_takeNumber_13 : decode cX3_takeNumber 13 = .ok (.invokevirtual 116, 3) := by decide +kernel
theorem dX3_takeNumber_16 : decode cX3_takeNumber 16 = .ok (.ireturn, 1) := by decide +kernel
theorem dX3_takeNumber_17 : decode cX3_takeNumber 17 = .ok (.aload_n 0, 1) := by decide +kernel
theorem dX3_takeNumber_18 : decode cX3_takeNumber 18 = .ok (.getfield 21, 3) := by decide +kernel
theorem dX3_takeNumber_21 : decode cX3_takeNumber 21 = .ok (.getfield 226, 3) := by decide +kernel
theorem dX3_takeNumber_24 : decode cX3_takeNumber 24 = .ok (.iload_n 1, 1) := by decide +kernel
theorem dX3_takeNumber_25 : decode cX3_takeNumber 25 = .ok (.if_icmp .le 9, 3) := by decide +kernel
theorem dX3_takeNumber_28 : decode cX3_takeNumber 28 = .ok (.aload_n 0, 1) := by decide +kernel
theorem dX3_takeNumber_29 : decode cX3_takeNumber 29 = .ok (.iconst 4, 1) := by decide +kernel
theorem dX3_takeNumber_30 : decode cX3_takeNumber 30 = .ok (.invokevirtual 116, 3) := by decide +kernel
theorem dX3_takeNumber_33 : decode cX3_takeNumber 33 = .ok (.ireturn, 1) := by decide +kernel
theorem dX3_takeNumber_34 : decode cX3_takeNumber 34 = .ok (.aload_n 0, 1) := by decide +kernel
theorem dX3_takeNumber_35 : decode cX3_takeNumber 35 = .ok (.aload_n 0, 1) := by decide +kernel
theorem dX3_takeNumber_36 : decode cX3_takeNumber 36 = .ok (.getfield 21, 3) := by decide +kernel
theorem dX3_takeNumber_39 : decode cX3_takeNumber 39 = .ok (.getfield 226, 3) := by decide +kernel
theorem dX3_takeNumber_42 : decode cX3_takeNumber 42 = .ok (.putfield 153, 3) := by decide +kernel
theorem dX3_takeNumber_45 : decode cX3_takeNumber 45 = .ok (.aload_n 0, 1) := by decide +kernel
theorem dX3_takeNumber_46 : decode cX3_takeNumber 46 = .ok (.getfield 21, 3) := by decide +kernel
theorem dX3_takeNumber_49 : decode cX3_takeNumber 49 = .ok (.invokevirtual 123, 3) := by decide +kernel
theorem dX3_takeNumber_52 : decode cX3_takeNumber 52 = .ok (.iconst 1, 1) := by decide +kernel
theorem dX3_takeNumber_53 : decode cX3_takeNumber 53 = .ok (.ireturn, 1) := by decide +kernel
theorem dX3_takePupil_0 : decode cX3_takePupil 0 = .ok (.aload_n 0, 1) := by decide +kernel
theorem dX3_takePupil_1 : decode cX3_takePupil 1 = .ok (.getfield 21, 3) := by decide +kernel
theorem dX3_takePupil_4 : decode cX3_takePupil 4 = .ok (.invokevirtual 126, 3) := by decide +kernel
theorem dX3_takePupil_7 : decode cX3_takePupil 7 = .ok (.ifCond .ne 9, 3) := by decide +kernel
theorem dX3_takePupil_10 : decode cX3_takePupil 10 = .ok (.aload_n 0, 1) := by decide +kernel
theorem dX3_takePupil_11 : decode cX3_takePupil 11 = .ok (.iconst 1, 1) := by decide +kernel
theorem dX3_takePupil_12 : decode cX3_takePupil 12 = .ok (.invokevirtual 116, 3) := by decide +kernel
theorem dX3_takePupil_15 : decode cX3_takePupil 15 = .ok (.ireturn, 1) := by decide +kernel
theorem dX3_takePupil_16 : decode cX3_takePupil 16 = .ok (.aload_n 0, 1) := by decide +kernel
theorem dX3_takePupil_17 : decode cX3_takePupil 17 = .ok (.aload_n 0, 1) := by decide +kernel
theorem dX3_takePupil_18 : decode cX3_takePupil 18 = .ok (.aload_n 0, 1) := by decide +kernel
theorem dX3_takePupil_19 : decode cX3_takePupil 19 = .ok (.getfield 21, 3) := by decide +kernel
theorem dX3_takePupil_22 : decode cX3_takePupil 22 = .ok (.getfield 129, 3) := by decide +kernel
theorem dX3_takePupil_25 : decode cX3_takePupil 25 = .ok (.invokevirtual 133, 3) := by decide +kernel
theorem dX3_takePupil_28 : decode cX3_takePupil 28 = .ok (.putfield 174, 3) := by decide +kernel
theorem dX3_takePupil_31 : decode cX3_takePupil 31 = .ok (.aload_n 0, 1) := by decide +kernel
theorem dX3_takePupil_32 : decode cX3_takePupil 32 = .ok (.getfield 174, 3) := by decide +kernel
theorem dX3_takePupil_35 : decode cX3_takePupil 35 = .ok (.iconst (-1), 1) := by decide +kernel
theorem dX3_takePupil_36 : decode cX3_takePupil 36 = .ok (.if_icmp .ne 9, 3) := by decide +kernel
theorem dX3_takePupil_39 : decode cX3_takePupil 39 = .ok (.aload_n 0, 1) := by decide +kernel
theorem dX3_takePupil_40 : decode cX3_takePupil 40 = .ok (.iconst 2, 1) := by decide +kernel
theorem dX3_takePupil_41 : decode cX3_takePupil 41 = .ok (.invokevirtual 116, 3) := by decide +kernel
theorem dX3_takePupil_44 : decode cX3_takePupil 44 = .ok (.ireturn, 1) := by decide +kernel
theorem dX3_takePupil_45 : decode cX3_takePupil 45 = .ok (.aload_n 0, 1) := by decide +kernel
theorem dX3_takePupil_46 : decode cX3_takePupil 46 = .ok (.getfield 174, 3) := by decide +kernel
theorem dX3_takePupil_49 : decode cX3_takePupil 49 = .ok (.iload_n 1, 1) := by decide +kernel
theorem dX3_takePupil_50 : decode cX3_takePupil 50 = .ok (.if_icmp .ne 9, 3) := by decide +kernel
theorem dX3_takePupil_53 : decode cX3_takePupil 53 = .ok (.aload_n 0, 1) := by decide +kernel
theorem dX3_takePupil_54 : decode cX3_takePupil 54 = .ok (.iconst 3, 1) := by decide +kernel
theorem dX3_takePupil_55 : decode cX3_takePupil 55 = .ok (.invokevirtual 116, 3) := by decide +kernel
theorem dX3_takePupil_58 : decode cX3_takePupil 58 = .ok (.ireturn, 1) := by decide +kernel
theorem dX3_takePupil_59 : decode cX3_takePupil 59 = .ok (.aload_n 0, 1) := by decide +kernel
theorem dX3_takePupil_60 : decode cX3_takePupil 60 = .ok (.getfield 21, 3) := by decide +kernel
theorem dX3_takePupil_63 : decode cX3_takePupil 63 = .ok (.invokevirtual 123, 3) := by decide +kernel
theorem dX3_takePupil_66 : decode cX3_takePupil 66 = .ok (.iconst 1, 1) := by decide +kernel
theorem dX3_takePupil_67 : decode cX3_takePupil 67 = .ok (.ireturn, 1) := by decide +kernel
theorem dX3_pupilNamed_0 : decode cX3_pupilNamed 0 = .ok (.iconst 0, 1) := by decide +kernel
theorem dX3_pupilNamed_1 : decode cX3_pupilNamed 1 = .ok (.istore_n 3, 1) := by decide +kernel
theorem dX3_pupilNamed_2 : decode cX3_pupilNamed 2 = .ok (.iload_n 3, 1) := by decide +kernel
theorem dX3_pupilNamed_3 : decode cX3_pupilNamed 3 = .ok (.aload_n 0, 1) := by decide +kernel
theorem dX3_pupilNamed_4 : decode cX3_pupilNamed 4 = .ok (.getfield 12, 3) := by decide +kernel
theorem dX3_pupilNamed_7 : decode cX3_pupilNamed 7 = .ok (.getfield 39, 3) := by decide +kernel
theorem dX3_pupilNamed_10 : decode cX3_pupilNamed 10 = .ok (.getfield 120, 3) := by decide +kernel
theorem dX3_pupilNamed_13 : decode cX3_pupilNamed 13 = .ok (.if_icmp .ge 22, 3) := by decide +kernel
theorem dX3_pupilNamed_16 : decode cX3_pupilNamed 16 = .ok (.aload_n 0, 1) := by decide +kernel
theorem dX3_pupilNamed_17 : decode cX3_pupilNamed 17 = .ok (.getfield 25, 3) := by decide +kernel
theorem dX3_pupilNamed_20 : decode cX3_pupilNamed 20 = .ok (.iload_n 3, 1) := by decide +kernel
theorem dX3_pupilNamed_21 : decode cX3_pupilNamed 21 = .ok (.laload, 1) := by decide +kernel
theorem dX3_pupilNamed_22 : decode cX3_pupilNamed 22 = .ok (.lload_n 1, 1) := by decide +kernel
theorem dX3_pupilNamed_23 : decode cX3_pupilNamed 23 = .ok (.lcmp, 1) := by decide +kernel
theorem dX3_pupilNamed_24 : decode cX3_pupilNamed 24 = .ok (.ifCond .ne 5, 3) := by decide +kernel
theorem dX3_pupilNamed_27 : decode cX3_pupilNamed 27 = .ok (.iload_n 3, 1) := by decide +kernel
theorem dX3_pupilNamed_28 : decode cX3_pupilNamed 28 = .ok (.ireturn, 1) := by decide +kernel
theorem dX3_pupilNamed_29 : decode cX3_pupilNamed 29 = .ok (.iinc 3 1, 3) := by decide +kernel
theorem dX3_pupilNamed_32 : decode cX3_pupilNamed 32 = .ok (.goto (-30), 3) := by decide +kernel
theorem dX3_pupilNamed_35 : decode cX3_pupilNamed 35 = .ok (.iconst (-1), 1) := by decide +kernel
theorem dX3_pupilNamed_36 : decode cX3_pupilNamed 36 = .ok (.ireturn, 1) := by decide +kernel
theorem dX3_wrong_0 : decode cX3_wrong 0 = .ok (.aload_n 0, 1) := by decide +kernel
theorem dX3_wrong_1 : decode cX3_wrong 1 = .ok (.iload_n 1, 1) := by decide +kernel
theorem dX3_wrong_2 : decode cX3_wrong 2 = .ok (.bipush 16, 2) := by decide +kernel
theorem dX3_wrong_4 : decode cX3_wrong 4 = .ok (.aload_n 0, 1) := by decide +kernel
theorem dX3_wrong_5 : decode cX3_wrong 5 = .ok (.getfield 21, 3) := by decide +kernel
theorem dX3_wrong_8 : decode cX3_wrong 8 = .ok (.getfield 227, 3) := by decide +kernel
theorem dX3_wrong_11 : decode cX3_wrong 11 = .ok (.imul, 1) := by decide +kernel
theorem dX3_wrong_12 : decode cX3_wrong 12 = .ok (.iadd, 1) := by decide +kernel
theorem dX3_wrong_13 : decode cX3_wrong 13 = .ok (.putfield 60, 3) := by decide +kernel
theorem dX3_wrong_16 : decode cX3_wrong 16 = .ok (.iconst 0, 1) := by decide +kernel
theorem dX3_wrong_17 : decode cX3_wrong 17 = .ok (.ireturn, 1) := by decide +kernel
theorem dX4_init_0 : decode cX4_init 0 = .ok (.aload_n 0, 1) := by decide +kernel
theorem dX4_init_1 : decode cX4_init 1 = .ok (.invokespecial 3, 3) := by decide +kernel
theorem dX4_init_4 : decode cX4_init 4 = .ok (.aload_n 0, 1) := by decide +kernel
theorem dX4_init_5 : decode cX4_init 5 = .ok (.bipush 10, 2) := by decide +kernel
theorem dX4_init_7 : decode cX4_init 7 = .ok (.newarray .int, 2) := by decide +kernel
theorem dX4_init_9 : decode cX4_init 9 = .ok (.putfield 9, 3) := by decide +kernel
theorem dX4_init_12 : decode cX4_init 12 = .ok (.aload_n 0, 1) := by decide +kernel
theorem dX4_init_13 : decode cX4_init 13 = .ok (.bipush 10, 2) := by decide +kernel
theorem dX4_init_15 : decode cX4_init 15 = .ok (.newarray .int, 2) := by decide +kernel
theorem dX4_init_17 : decode cX4_init 17 = .ok (.putfield 15, 3) := by decide +kernel
theorem dX4_init_20 : decode cX4_init 20 = .ok (.aload_n 0, 1) := by decide +kernel
theorem dX4_init_21 : decode cX4_init 21 = .ok (.bipush 6, 2) := by decide +kernel
theorem dX4_init_23 : decode cX4_init 23 = .ok (.newarray .int, 2) := by decide +kernel
theorem dX4_init_25 : decode cX4_init 25 = .ok (.putfield 18, 3) := by decide +kernel
theorem dX4_init_28 : decode cX4_init 28 = .ok (.aload_n 0, 1) := by decide +kernel
theorem dX4_init_29 : decode cX4_init 29 = .ok (.bipush 100, 2) := by decide +kernel
theorem dX4_init_31 : decode cX4_init 31 = .ok (.newarray .int, 2) := by decide +kernel
theorem dX4_init_33 : decode cX4_init 33 = .ok (.putfield 21, 3) := by decide +kernel
theorem dX4_init_36 : decode cX4_init 36 = .ok (.aload_n 0, 1) := by decide +kernel
theorem dX4_init_37 : decode cX4_init 37 = .ok (.iconst 1, 1) := by decide +kernel
theorem dX4_init_38 : decode cX4_init 38 = .ok (.newarray .int, 2) := by decide +kernel
theorem dX4_init_40 : decode cX4_init 40 = .ok (.dup, 1) := by decide +kernel
theorem dX4_init_41 : decode cX4_init 41 = .ok (.iconst 0, 1) := by decide +kernel
theorem dX4_init_42 : decode cX4_init 42 = .ok (.iconst (-1), 1) := by decide +kernel
theorem dX4_init_43 : decode cX4_init 43 = .ok (.iastore, 1) := by decide +kernel
theorem dX4_init_44 : decode cX4_init 44 = .ok (.putfield 24, 3) := by decide +kernel
theorem dX4_init_47 : decode cX4_init 47 = .ok (.return_, 1) := by decide +kernel
theorem dX4_slipOf_0 : decode cX4_slipOf 0 = .ok (.aload_n 0, 1) := by decide +kernel
theorem dX4_slipOf_1 : decode cX4_slipOf 1 = .ok (.getfield 9, 3) := by decide +kernel
theorem dX4_slipOf_4 : decode cX4_slipOf 4 = .ok (.iload_n 1, 1) := by decide +kernel
theorem dX4_slipOf_5 : decode cX4_slipOf 5 = .ok (.iaload, 1) := by decide +kernel
theorem dX4_slipOf_6 : decode cX4_slipOf 6 = .ok (.iconst 3, 1) := by decide +kernel
theorem dX4_slipOf_7 : decode cX4_slipOf 7 = .ok (.if_icmp .ne 12, 3) := by decide +kernel
theorem dX4_slipOf_10 : decode cX4_slipOf 10 = .ok (.iconst 2, 1) := by decide +kernel
theorem dX4_slipOf_11 : decode cX4_slipOf 11 = .ok (.aload_n 0, 1) := by decide +kernel
theorem dX4_slipOf_12 : decode cX4_slipOf 12 = .ok (.getfield 27, 3) := by decide +kernel
theorem dX4_slipOf_15 : decode cX4_slipOf 15 = .ok (.imul, 1) := by decide +kernel
theorem dX4_slipOf_16 : decode cX4_slipOf 16 = .ok (.goto 7, 3) := by decide +kernel
theorem dX4_slipOf_19 : decode cX4_slipOf 19 = .ok (.aload_n 0, 1) := by decide +kernel
theorem dX4_slipOf_20 : decode cX4_slipOf 20 = .ok (.getfield 27, 3) := by decide +kernel
theorem dX4_slipOf_23 : decode cX4_slipOf 23 = .ok (.ireturn, 1) := by decide +kernel
theorem dX4_likingOf_0 : decode cX4_likingOf 0 = .ok (.aload_n 0, 1) := by decide +kernel
theorem dX4_likingOf_1 : decode cX4_likingOf 1 = .ok (.getfield 21, 3) := by decide +kernel
theorem dX4_likingOf_4 : decode cX4_likingOf 4 = .ok (.iload_n 1, 1) := by decide +kernel
theorem dX4_likingOf_5 : decode cX4_likingOf 5 = .ok (.bipush 10, 2) := by decide +kernel
theorem dX4_likingOf_7 : decode cX4_likingOf 7 = .ok (.imul, 1) := by decide +kernel
theorem dX4_likingOf_8 : decode cX4_likingOf 8 = .ok (.iload_n 2, 1) := by decide +kernel
theorem dX4_likingOf_9 : decode cX4_likingOf 9 = .ok (.iadd, 1) := by decide +kernel
theorem dX4_likingOf_10 : decode cX4_likingOf 10 = .ok (.iaload, 1) := by decide +kernel
theorem dX4_likingOf_11 : decode cX4_likingOf 11 = .ok (.ireturn, 1) := by decide +kernel
theorem dX4_everyone_0 : decode cX4_everyone 0 = .ok (.iconst 1, 1) := by decide +kernel
theorem dX4_everyone_1 : decode cX4_everyone 1 = .ok (.aload_n 0, 1) := by decide +kernel
theorem dX4_everyone_2 : decode cX4_everyone 2 = .ok (.getfield 31, 3) := by decide +kernel
theorem dX4_everyone_5 : decode cX4_everyone 5 = .ok (.ishl, 1) := by decide +kernel
theorem dX4_everyone_6 : decode cX4_everyone 6 = .ok (.iconst 1, 1) := by decide +kernel
theorem dX4_everyone_7 : decode cX4_everyone 7 = .ok (.isub, 1) := by decide +kernel
theorem dX4_everyone_8 : decode cX4_everyone 8 = .ok (.ireturn, 1) := by decide +kernel
theorem dX5_init_0 : decode cX5_init 0 = .ok (.aload_n 0, 1) := by decide +kernel
theorem dX5_init_1 : decode cX5_init 1 = .ok (.invokespecial 3, 3) := by decide +kernel
theorem dX5_init_4 : decode cX5_init 4 = .ok (.aload_n 0, 1) := by decide +kernel
theorem dX5_init_5 : decode cX5_init 5 = .ok (.new 9, 3) := by decide +kernel
theorem dX5_init_8 : decode cX5_init 8 = .ok (.dup, 1) := by decide +kernel
theorem dX5_init_9 : decode cX5_init 9 = .ok (.invokespecial 11, 3) := by decide +kernel
theorem dX5_init_12 : decode cX5_init 12 = .ok (.putfield 12, 3) := by decide +kernel
theorem dX5_init_15 : decode cX5_init 15 = .ok (.aload_n 0, 1) := by decide +kernel
theorem dX5_init_16 : decode cX5_init 16 = .ok (.new 18, 3) := by decide +kernel
theorem dX5_init_19 : decode cX5_init 19 = .ok (.dup, 1) := by decide +kernel
theorem dX5_init_20 : decode cX5_init 20 = .ok (.invokespecial 20, 3) := by decide +kernel
theorem dX5_init_23 : decode cX5_init 23 = .ok (.putfield 21, 3) := by decide +kernel
theorem dX5_init_26 : decode cX5_init 26 = .ok (.aload_n 0, 1) := by decide +kernel
theorem dX5_init_27 : decode cX5_init 27 = .ok (.bipush 10, 2) := by decide +kernel
theorem dX5_init_29 : decode cX5_init 29 = .ok (.newarray .int, 2) := by decide +kernel
theorem dX5_init_31 : decode cX5_init 31 = .ok (.putfield 25, 3) := by decide +kernel
theorem dX5_init_34 : decode cX5_init 34 = .ok (.return_, 1) := by decide +kernel
theorem dX5_open_0 : decode cX5_open 0 = .ok (.aload_n 0, 1) := by decide +kernel
theorem dX5_open_1 : decode cX5_open 1 = .ok (.getfield 12, 3) := by decide +kernel
theorem dX5_open_4 : decode cX5_open 4 = .ok (.aload_n 1, 1) := by decide +kernel
theorem dX5_open_5 : decode cX5_open 5 = .ok (.invokevirtual 29, 3) := by decide +kernel
theorem dX5_open_8 : decode cX5_open 8 = .ok (.iconst 0, 1) := by decide +kernel
theorem dX5_open_9 : decode cX5_open 9 = .ok (.istore 4, 2) := by decide +kernel
theorem dX5_open_11 : decode cX5_open 11 = .ok (.iload 4, 2) := by decide +kernel
theorem dX5_open_13 : decode cX5_open 13 = .ok (.aload_n 1, 1) := by decide +kernel
theorem dX5_open_14 : decode cX5_open 14 = .ok (.getfield 33, 3) := by decide +kernel
theorem dX5_open_17 : decode cX5_open 17 = .ok (.getfield 37, 3) := by decide +kernel
theorem dX5_open_20 : decode cX5_open 20 = .ok (.if_icmp .ge 20, 3) := by decide +kernel
theorem dX5_open_23 : decode cX5_open 23 = .ok (.aload_n 0, 1) := by decide +kernel
theorem dX5_open_24 : decode cX5_open 24 = .ok (.getfield 25, 3) := by decide +kernel
theorem dX5_open_27 : decode cX5_open 27 = .ok (.aload_n 2, 1) := by decide +kernel
theorem dX5_open_28 : decode cX5_open 28 = .ok (.iload 4, 2) := by decide +kernel
theorem dX5_open_30 : decode cX5_open 30 = .ok (.iaload, 1) := by decide +kernel
theorem dX5_open_31 : decode cX5_open 31 = .ok (.iload 4, 2) := by decide +kernel
theorem dX5_open_33 : decode cX5_open 33 = .ok (.iastore, 1) := by decide +kernel
theorem dX5_open_34 : decode cX5_open 34 = .ok (.iinc 4 1, 3) := by decide +kernel
theorem dX5_open_37 : decode cX5_open 37 = .ok (.goto (-26), 3) := by decide +kernel
theorem dX5_open_40 : decode cX5_open 40 = .ok (.aload_n 0, 1) := by decide +kernel
theorem dX5_open_41 : decode cX5_open 41 = .ok (.iload_n 3, 1) := by decide +kernel
theorem dX5_open_42 : decode cX5_open 42 = .ok (.i2l, 1) := by decide +kernel
theorem dX5_open_43 : decode cX5_open 43 = .ok (.putfield 43, 3) := by decide +kernel
theorem dX5_open_46 : decode cX5_open 46 = .ok (.return_, 1) := by decide +kernel
theorem dX5_daysUntilKnown_0 : decode cX5_daysUntilKnown 0 = .ok (.iconst 0, 1) := by decide +kernel
theorem dX5_daysUntilKnown_1 : decode cX5_daysUntilKnown 1 = .ok (.istore_n 1, 1) := by decide +kernel
theorem dX5_daysUntilKnown_2 : decode cX5_daysUntilKnown 2 = .ok (.iload_n 1, 1) := by decide +kernel
theorem dX5_daysUntilKnown_3 : decode cX5_daysUntilKnown 3 = .ok (.bipush 100, 2) := by decide +kernel
theorem dX5_daysUntilKnown_5 : decode cX5_daysUntilKnown 5 = .ok (.if_icmp .gt 37, 3) := by decide +kernel
theorem dX5_daysUntilKnown_8 : decode cX5_daysUntilKnown 8 = .ok (.aload_n 0, 1) := by decide +kernel
theorem dX5_daysUntilKnown_9 : decode cX5_daysUntilKnown 9 = .ok (.getfield 21, 3) := by decide +kernel
theorem dX5_daysUntilKnown_12 : decode cX5_daysUntilKnown 12 = .ok (.aload_n 0, 1) := by decide +kernel
theorem dX5_daysUntilKnown_13 : decode cX5_daysUntilKnown 13 = .ok (.getfield 12, 3) := by decide +kernel
theorem dX5_daysUntilKnown_16 : decode cX5_daysUntilKnown 16 = .ok (.invokevirtual 47, 3) := by decide +kernel
theorem dX5_daysUntilKnown_19 : decode cX5_daysUntilKnown 19 = .ok (.aload_n 0, 1) := by decide +kernel
theorem dX5_daysUntilKnown_20 : decode cX5_daysUntilKnown 20 = .ok (.getfield 21, 3) := by decide +kernel
theorem dX5_daysUntilKnown_23 : decode cX5_daysUntilKnown 23 = .ok (.invokevirtual 50, 3) := by decide +kernel
theorem dX5_daysUntilKnown_26 : decode cX5_daysUntilKnown 26 = .ok (.ifCond .eq 5, 3) := by decide +kernel
theorem dX5_daysUntilKnown_29 : decode cX5_daysUntilKnown 29 = .ok (.iload_n 1, 1) := by decide +kernel
theorem dX5_daysUntilKnown_30 : decode cX5_daysUntilKnown 30 = .ok (.ireturn, 1) := by decide +kernel
theorem dX5_daysUntilKnown_31 : decode cX5_daysUntilKnown 31 = .ok (.aload_n 0, 1) := by decide +kernel
theorem dX5_daysUntilKnown_32 : decode cX5_daysUntilKnown 32 = .ok (.iconst 1, 1) := by decide +kernel
theorem dX5_daysUntilKnown_33 : decode cX5_daysUntilKnown 33 = .ok (.invokevirtual 54, 3) := by decide +kernel
theorem dX5_daysUntilKnown_36 : decode cX5_daysUntilKnown 36 = .ok (.iinc 1 1, 3) := by decide +kernel
theorem dX5_daysUntilKnown_39 : decode cX5_daysUntilKnown 39 = .ok (.goto (-37), 3) := by decide +kernel
theorem dX5_daysUntilKnown_42 : decode cX5_daysUntilKnown 42 = .ok (.iconst (-1), 1) := by decide +kernel
theorem dX5_daysUntilKnown_43 : decode cX5_daysUntilKnown 43 = .ok (.ireturn, 1) := by decide +kernel
theorem dX5_passDays_0 : decode cX5_passDays 0 = .ok (.aload_n 0, 1) := by decide +kernel
theorem dX5_passDays_1 : decode cX5_passDays 1 = .ok (.getfield 12, 3) := by decide +kernel
theorem dX5_passDays_4 : decode cX5_passDays 4 = .ok (.getfield 33, 3) := by decide +kernel
theorem dX5_passDays_7 : decode cX5_passDays 7 = .ok (.getfield 37, 3) := by decide +kernel
theorem dX5_passDays_10 : decode cX5_passDays 10 = .ok (.istore_n 2, 1) := by decide +kernel
theorem dX5_passDays_11 : decode cX5_passDays 11 = .ok (.iconst 0, 1) := by decide +kernel
theorem dX5_passDays_12 : decode cX5_passDays 12 = .ok (.istore_n 3, 1) := by decide +kernel
theorem dX5_passDays_13 : decode cX5_passDays 13 = .ok (.iload_n 3, 1) := by decide +kernel
theorem dX5_passDays_14 : decode cX5_passDays 14 = .ok (.iload_n 1, 1) := by decide +kernel
theorem dX5_passDays_15 : decode cX5_passDays 15 = .ok (.if_icmp .ge 127, 3) := by decide +kernel
theorem dX5_passDays_18 : decode cX5_passDays 18 = .ok (.aload_n 0, 1) := by decide +kernel
theorem dX5_passDays_19 : decode cX5_passDays 19 = .ok (.iload_n 2, 1) := by decide +kernel
theorem dX5_passDays_20 : decode cX5_passDays 20 = .ok (.invokevirtual 58, 3) := by decide +kernel
theorem dX5_passDays_23 : decode cX5_passDays 23 = .ok (.istore 4, 2) := by decide +kernel
theorem dX5_passDays_25 : decode cX5_passDays 25 = .ok (.aload_n 0, 1) := by decide +kernel
theorem dX5_passDays_26 : decode cX5_passDays 26 = .ok (.iload_n 2, 1) := by decide +kernel
theorem dX5_passDays_27 : decode cX5_passDays 27 = .ok (.iconst 1, 1) := by decide +kernel
theorem dX5_passDays_28 : decode cX5_passDays 28 = .ok (.isub, 1) := by decide +kernel
theorem dX5_passDays_29 : decode cX5_passDays 29 = .ok (.invokevirtual 58, 3) := by decide +kernel
theorem dX5_passDays_32 : decode cX5_passDays 32 = .ok (.istore 5, 2) := by decide +kernel
theorem dX5_passDays_34 : decode cX5_passDays 34 = .ok (.iload 5, 2) := by decide +kernel
theorem dX5_passDays_36 : decode cX5_passDays 36 = .ok (.iload 4, 2) := by decide +kernel
theorem dX5_passDays_38 : decode cX5_passDays 38 = .ok (.if_icmp .lt 6, 3) := by decide +kernel
theorem dX5_passDays_41 : decode cX5_passDays 41 = .ok (.iinc 5 1, 3) := by decide +kernel
theorem dX5_passDays_44 : decode cX5_passDays 44 = .ok (.aload_n 0, 1) := by decide +kernel
theorem dX5_passDays_45 : decode cX5_passDays 45 = .ok (.bipush 8, 2) := by decide +kernel
theorem dX5_passDays_47 : decode cX5_passDays 47 = .ok (.invokevirtual 58, 3) := by decide +kernel
theorem dX5_passDays_50 : decode cX5_passDays 50 = .ok (.aload_n 0, 1) := by decide +kernel
theorem dX5_passDays_51 : decode cX5_passDays 51 = .ok (.getfield 12, 3) := by decide +kernel
theorem dX5_passDays_54 : decode cX5_passDays 54 = .ok (.getfield 33, 3) := by decide +kernel
theorem dX5_passDays_57 : decode cX5_passDays 57 = .ok (.getfield 62, 3) := by decide +kernel
theorem dX5_passDays_60 : decode cX5_passDays 60 = .ok (.if_icmp .ge 7, 3) := by decide +kernel
theorem dX5_passDays_63 : decode cX5_passDays 63 = .ok (.iconst 1, 1) := by decide +kernel
theorem dX5_passDays_64 : decode cX5_passDays 64 = .ok (.goto 4, 3) := by decide +kernel
theorem dX5_passDays_67 : decode cX5_passDays 67 = .ok (.iconst 0, 1) := by decide +kernel
theorem dX5_passDays_68 : decode cX5_passDays 68 = .ok (.istore 6, 2) := by decide +kernel
theorem dX5_passDays_70 : decode cX5_passDays 70 = .ok (.aload_n 0, 1) := by decide +kernel
theorem dX5_passDays_71 : decode cX5_passDays 71 = .ok (.getfield 25, 3) := by decide +kernel
theorem dX5_passDays_74 : decode cX5_passDays 74 = .ok (.iload 4, 2) := by decide +kernel
theorem dX5_passDays_76 : decode cX5_passDays 76 = .ok (.iaload, 1) := by decide +kernel
theorem dX5_passDays_77 : decode cX5_passDays 77 = .ok (.aload_n 0, 1) := by decide +kernel
theorem dX5_passDays_78 : decode cX5_passDays 78 = .ok (.getfield 25, 3) := by decide +kernel
theorem dX5_passDays_81 : decode cX5_passDays 81 = .ok (.iload 5, 2) := by decide +kernel
theorem dX5_passDays_83 : decode cX5_passDays 83 = .ok (.iaload, 1) := by decide +kernel
theorem dX5_passDays_84 : decode cX5_passDays 84 = .ok (.if_icmp .ge 7, 3) := by decide +kernel
theorem dX5_passDays_87 : decode cX5_passDays 87 = .ok (.iconst 1, 1) := by decide +kernel
theorem dX5_passDays_88 : decode cX5_passDays 88 = .ok (.goto 4, 3) := by decide +kernel
theorem dX5_passDays_91 : decode cX5_passDays 91 = .ok (.iconst 0, 1) := by decide +kernel
theorem dX5_passDays_92 : decode cX5_passDays 92 = .ok (.iload 6, 2) := by decide +kernel
theorem dX5_passDays_94 : decode cX5_passDays 94 = .ok (.if_icmp .eq 7, 3) := by decide +kernel
theorem dX5_passDays_97 : decode cX5_passDays 97 = .ok (.iconst 1, 1) := by decide +kernel
theorem dX5_passDays_98 : decode cX5_passDays 98 = .ok (.goto 4, 3) := by decide +kernel
theorem dX5_passDays_101 : decode cX5_passDays 101 = .ok (.iconst 0, 1) := by decide +kernel
theorem dX5_passDays_102 : decode cX5_passDays 102 = .ok (.istore 7, 2) := by decide +kernel
theorem dX5_passDays_104 : decode cX5_passDays 104 = .ok (.aload_n 0, 1) := by decide +kernel
theorem dX5_passDays_105 : decode cX5_passDays 105 = .ok (.getfield 12, 3) := by decide +kernel
theorem dX5_passDays_108 : decode cX5_passDays 108 = .ok (.iload 7, 2) := by decide +kernel
theorem dX5_passDays_110 : decode cX5_passDays 110 = .ok (.ifCond .eq 8, 3) := by decide +kernel
theorem dX5_passDays_113 : decode cX5_passDays 113 = .ok (.iload 4, 2) := by decide +kernel
theorem dX5_passDays_115 : decode cX5_passDays 115 = .ok (.goto 5, 3) := by decide +kernel
theorem dX5_passDays_118 : decode cX5_passDays 118 = .ok (.iload 5, 2) := by decide +kernel
theorem dX5_passDays_120 : decode cX5_passDays 120 = .ok (.iload 7, 2) := by decide +kernel
theorem dX5_passDays_122 : decode cX5_passDays 122 = .ok (.ifCond .eq 8, 3) := by decide +kernel
theorem dX5_passDays_125 : decode cX5_passDays 125 = .ok (.iload 5, 2) := by decide +kernel
theorem dX5_passDays_127 : decode cX5_passDays 127 = .ok (.goto 5, 3) := by decide +kernel
theorem dX5_passDays_130 : decode cX5_passDays 130 = .ok (.iload 4, 2) := by decide +kernel
theorem dX5_passDays_132 : decode cX5_passDays 132 = .ok (.iconst 0, 1) := by decide +kernel
theorem dX5_passDays_133 : decode cX5_passDays 133 = .ok (.invokevirtual 65, 3) := by decide +kernel
theorem dX5_passDays_136 : decode cX5_passDays 136 = .ok (.iinc 3 1, 3) := by decide +kernel
theorem dX5_passDays_139 : decode cX5_passDays 139 = .ok (.goto (-126), 3) := by decide +kernel
theorem dX5_passDays_142 : decode cX5_passDays 142 = .ok (.return_, 1) := by decide +kernel
theorem dX5_draw_0 : decode cX5_draw 0 = .ok (.aload_n 0, 1) := by decide +kernel
theorem dX5_draw_1 : decode cX5_draw 1 = .ok (.aload_n 0, 1) := by decide +kernel
theorem dX5_draw_2 : decode cX5_draw 2 = .ok (.getfield 43, 3) := by decide +kernel
theorem dX5_draw_5 : decode cX5_draw 5 = .ok (.ldc2_w 69, 3) := by decide +kernel
theorem dX5_draw_8 : decode cX5_draw 8 = .ok (.lmul, 1) := by decide +kernel
theorem dX5_draw_9 : decode cX5_draw 9 = .ok (.ldc2_w 71, 3) := by decide +kernel
theorem dX5_draw_12 : decode cX5_draw 12 = .ok (.ladd, 1) := by decide +kernel
theorem dX5_draw_13 : decode cX5_draw 13 = .ok (.ldc2_w 73, 3) := by decide +kernel
theorem dX5_draw_16 : decode cX5_draw 16 = .ok (.lrem, 1) := by decide +kernel
theorem dX5_draw_17 : decode cX5_draw 17 = .ok (.putfield 43, 3) := by decide +kernel
theorem dX5_draw_20 : decode cX5_draw 20 = .ok (.iload_n 1, 1) := by decide +kernel
theorem dX5_draw_21 : decode cX5_draw 21 = .ok (.ifCond .le 18, 3) := by decide +kernel
theorem dX5_draw_24 : decode cX5_draw 24 = .ok (.aload_n 0, 1) := by decide +kernel
theorem dX5_draw_25 : decode cX5_draw 25 = .ok (.getfield 43, 3) := by decide +kernel
theorem dX5_draw_28 : decode cX5_draw 28 = .ok (.ldc2_w 75, 3) := by decide +kernel
theorem dX5_draw_31 : decode cX5_draw 31 = .ok (.ldiv, 1) := by decide +kernel
theorem dX5_draw_32 : decode cX5_draw 32 = .ok (.iload_n 1, 1) := by decide +kernel
theorem dX5_draw_33 : decode cX5_draw 33 = .ok (.i2l, 1) := by decide +kernel
theorem dX5_draw_34 : decode cX5_draw 34 = .ok (.lrem, 1) := by decide +kernel
theorem dX5_draw_35 : decode cX5_draw 35 = .ok (.l2i, 1) := by decide +kernel
theorem dX5_draw_36 : decode cX5_draw 36 = .ok (.goto 4, 3) := by decide +kernel
theorem dX5_draw_39 : decode cX5_draw 39 = .ok (.iconst 0, 1) := by decide +kernel
theorem dX5_draw_40 : decode cX5_draw 40 = .ok (.ireturn, 1) := by decide +kernel
theorem dX6_init_0 : decode cX6_init 0 = .ok (.aload_n 0, 1) := by decide +kernel
theorem dX6_init_1 : decode cX6_init 1 = .ok (.invokespecial 3, 3) := by decide +kernel
theorem dX6_init_4 : decode cX6_init 4 = .ok (.aload_n 0, 1) := by decide +kernel
theorem dX6_init_5 : decode cX6_init 5 = .ok (.new 9, 3) := by decide +kernel
theorem dX6_init_8 : decode cX6_init 8 = .ok (.dup, 1) := by decide +kernel
theorem dX6_init_9 : decode cX6_init 9 = .ok (.invokespecial 11, 3) := by decide +kernel
theorem dX6_init_12 : decode cX6_init 12 = .ok (.putfield 12, 3) := by decide +kernel
theorem dX6_init_15 : decode cX6_init 15 = .ok (.aload_n 0, 1) := by decide +kernel
theorem dX6_init_16 : decode cX6_init 16 = .ok (.bipush 40, 2) := by decide +kernel
theorem dX6_init_18 : decode cX6_init 18 = .ok (.newarray .int, 2) := by decide +kernel
theorem dX6_init_20 : decode cX6_init 20 = .ok (.putfield 18, 3) := by decide +kernel
theorem dX6_init_23 : decode cX6_init 23 = .ok (.aload_n 0, 1) := by decide +kernel
theorem dX6_init_24 : decode cX6_init 24 = .ok (.bipush 40, 2) := by decide +kernel
theorem dX6_init_26 : decode cX6_init 26 = .ok (.newarray .int, 2) := by decide +kernel
theorem dX6_init_28 : decode cX6_init 28 = .ok (.putfield 22, 3) := by decide +kernel
theorem dX6_init_31 : decode cX6_init 31 = .ok (.aload_n 0, 1) := by decide +kernel
theorem dX6_init_32 : decode cX6_init 32 = .ok (.bipush 40, 2) := by decide +kernel
theorem dX6_init_34 : decode cX6_init 34 = .ok (.newarray .int, 2) := by decide +kernel
theorem dX6_init_36 : decode cX6_init 36 = .ok (.putfield 25, 3) := by decide +kernel
theorem dX6_init_39 : decode cX6_init 39 = .ok (.aload_n 0, 1) := by decide +kernel
theorem dX6_init_40 : decode cX6_init 40 = .ok (.bipush 10, 2) := by decide +kernel
theorem dX6_init_42 : decode cX6_init 42 = .ok (.newarray .int, 2) := by decide +kernel
theorem dX6_init_44 : decode cX6_init 44 = .ok (.putfield 28, 3) := by decide +kernel
theorem dX6_init_47 : decode cX6_init 47 = .ok (.aload_n 0, 1) := by decide +kernel
theorem dX6_init_48 : decode cX6_init 48 = .ok (.bipush 10, 2) := by decide +kernel
theorem dX6_init_50 : decode cX6_init 50 = .ok (.newarray .int, 2) := by decide +kernel
theorem dX6_init_52 : decode cX6_init 52 = .ok (.putfield 31, 3) := by decide +kernel
theorem dX6_init_55 : decode cX6_init 55 = .ok (.aload_n 0, 1) := by decide +kernel
theorem dX6_init_56 : decode cX6_init 56 = .ok (.getfield 28, 3) := by decide +kernel
theorem dX6_init_59 : decode cX6_init 59 = .ok (.iconst (-1), 1) := by decide +kernel
theorem dX6_init_60 : decode cX6_init 60 = .ok (.invokestatic 34, 3) := by decide +kernel
theorem dX6_init_63 : decode cX6_init 63 = .ok (.aload_n 0, 1) := by decide +kernel
theorem dX6_init_64 : decode cX6_init 64 = .ok (.getfield 31, 3) := by decide +kernel
theorem dX6_init_67 : decode cX6_init 67 = .ok (.iconst (-1), 1) := by decide +kernel
theorem dX6_init_68 : decode cX6_init 68 = .ok (.invokestatic 34, 3) := by decide +kernel
theorem dX6_init_71 : decode cX6_init 71 = .ok (.return_, 1) := by decide +kernel
theorem dX6_copyFrom_0 : decode cX6_copyFrom 0 = .ok (.aload_n 0, 1) := by decide +kernel
theorem dX6_copyFrom_1 : decode cX6_copyFrom 1 = .ok (.aload_n 1, 1) := by decide +kernel
theorem dX6_copyFrom_2 : decode cX6_copyFrom 2 = .ok (.getfield 12, 3) := by decide +kernel
theorem dX6_copyFrom_5 : decode cX6_copyFrom 5 = .ok (.putfield 12, 3) := by decide +kernel
theorem dX6_copyFrom_8 : decode cX6_copyFrom 8 = .ok (.aload_n 0, 1) := by decide +kernel
theorem dX6_copyFrom_9 : decode cX6_copyFrom 9 = .ok (.aload_n 1, 1) := by decide +kernel
theorem dX6_copyFrom_10 : decode cX6_copyFrom 10 = .ok (.getfield 40, 3) := by decide +kernel
theorem dX6_copyFrom_13 : decode cX6_copyFrom 13 = .ok (.putfield 40, 3) := by decide +kernel
theorem dX6_copyFrom_16 : decode cX6_copyFrom 16 = .ok (.aload_n 1, 1) := by decide +kernel
theorem dX6_copyFrom_17 : decode cX6_copyFrom 17 = .ok (.getfield 18, 3) := by decide +kernel
theorem dX6_copyFrom_20 : decode cX6_copyFrom 20 = .ok (.iconst 0, 1) := by decide +kernel
theorem dX6_copyFrom_21 : decode cX6_copyFrom 21 = .ok (.aload_n 0, 1) := by decide +kernel
theorem dX6_copyFrom_22 : decode cX6_copyFrom 22 = .ok (.getfield 18, 3) := by decide +kernel
theorem dX6_copyFrom_25 : decode cX6_copyFrom 25 = .ok (.iconst 0, 1) := by decide +kernel
theorem dX6_copyFrom_26 : decode cX6_copyFrom 26 = .ok (.bipush 40, 2) := by decide +kernel
theorem dX6_copyFrom_28 : decode cX6_copyFrom 28 = .ok (.invokestatic 44, 3) := by decide +kernel
theorem dX6_copyFrom_31 : decode cX6_copyFrom 31 = .ok (.aload_n 1, 1) := by decide +kernel
theorem dX6_copyFrom_32 : decode cX6_copyFrom 32 = .ok (.getfield 22, 3) := by decide +kernel
theorem dX6_copyFrom_35 : decode cX6_copyFrom 35 = .ok (.iconst 0, 1) := by decide +kernel
theorem dX6_copyFrom_36 : decode cX6_copyFrom 36 = .ok (.aload_n 0, 1) := by decide +kernel
theorem dX6_copyFrom_37 : decode cX6_copyFrom 37 = .ok (.getfield 22, 3) := by decide +kernel
theorem dX6_copyFrom_40 : decode cX6_copyFrom 40 = .ok (.iconst 0, 1) := by decide +kernel
theorem dX6_copyFrom_41 : decode cX6_copyFrom 41 = .ok (.bipush 40, 2) := by decide +kernel
theorem dX6_copyFrom_43 : decode cX6_copyFrom 43 = .ok (.invokestatic 44, 3) := by decide +kernel
theorem dX6_copyFrom_46 : decode cX6_copyFrom 46 = .ok (.aload_n 1, 1) := by decide +kernel
theorem dX6_copyFrom_47 : decode cX6_copyFrom 47 = .ok (.getfield 25, 3) := by decide +kernel
theorem dX6_copyFrom_50 : decode cX6_copyFrom 50 = .ok (.iconst 0, 1) := by decide +kernel
theorem dX6_copyFrom_51 : decode cX6_copyFrom 51 = .ok (.aload_n 0, 1) := by decide +kernel
theorem dX6_copyFrom_52 : decode cX6_copyFrom 52 = .ok (.getfield 25, 3) := by decide +kernel
theorem dX6_copyFrom_55 : decode cX6_copyFrom 55 = .ok (.iconst 0, 1) := by decide +kernel
theorem dX6_copyFrom_56 : decode cX6_copyFrom 56 = .ok (.bipush 40, 2) := by decide +kernel
theorem dX6_copyFrom_58 : decode cX6_copyFrom 58 = .ok (.invokestatic 44, 3) := by decide +kernel
theorem dX6_copyFrom_61 : decode cX6_copyFrom 61 = .ok (.aload_n 1, 1) := by decide +kernel
theorem dX6_copyFrom_62 : decode cX6_copyFrom 62 = .ok (.getfield 28, 3) := by decide +kernel
theorem dX6_copyFrom_65 : decode cX6_copyFrom 65 = .ok (.iconst 0, 1) := by decide +kernel
theorem dX6_copyFrom_66 : decode cX6_copyFrom 66 = .ok (.aload_n 0, 1) := by decide +kernel
theorem dX6_copyFrom_67 : decode cX6_copyFrom 67 = .ok (.getfield 28, 3) := by decide +kernel
theorem dX6_copyFrom_70 : decode cX6_copyFrom 70 = .ok (.iconst 0, 1) := by decide +kernel
theorem dX6_copyFrom_71 : decode cX6_copyFrom 71 = .ok (.bipush 10, 2) := by decide +kernel
theorem dX6_copyFrom_73 : decode cX6_copyFrom 73 = .ok (.invokestatic 44, 3) := by decide +kernel
theorem dX6_copyFrom_76 : decode cX6_copyFrom 76 = .ok (.aload_n 1, 1) := by decide +kernel
theorem dX6_copyFrom_77 : decode cX6_copyFrom 77 = .ok (.getfield 31, 3) := by decide +kernel
theorem dX6_copyFrom_80 : decode cX6_copyFrom 80 = .ok (.iconst 0, 1) := by decide +kernel
theorem dX6_copyFrom_81 : decode cX6_copyFrom 81 = .ok (.aload_n 0, 1) := by decide +kernel
theorem dX6_copyFrom_82 : decode cX6_copyFrom 82 = .ok (.getfield 31, 3) := by decide +kernel
theorem dX6_copyFrom_85 : decode cX6_copyFrom 85 = .ok (.iconst 0, 1) := by decide +kernel
theorem dX6_copyFrom_86 : decode cX6_copyFrom 86 = .ok (.bipush 10, 2) := by decide +kernel
theorem dX6_copyFrom_88 : decode cX6_copyFrom 88 = .ok (.invokestatic 44, 3) := by decide +kernel
theorem dX6_copyFrom_91 : decode cX6_copyFrom 91 = .ok (.return_, 1) := by decide +kernel
theorem dX6_addSaying_0 : decode cX6_addSaying 0 = .ok (.aload_n 0, 1) := by decide +kernel
theorem dX6_addSaying_1 : decode cX6_addSaying 1 = .ok (.getfield 40, 3) := by decide +kernel
theorem dX6_addSaying_4 : decode cX6_addSaying 4 = .ok (.bipush 40, 2) := by decide +kernel
theorem dX6_addSaying_6 : decode cX6_addSaying 6 = .ok (.if_icmp .lt 60, 3) := by decide +kernel
theorem dX6_addSaying_9 : decode cX6_addSaying 9 = .ok (.aload_n 0, 1) := by decide +kernel
theorem dX6_addSaying_10 : decode cX6_addSaying 10 = .ok (.bipush 39, 2) := by decide +kernel
theorem dX6_addSaying_12 : decode cX6_addSaying 12 = .ok (.putfield 40, 3) := by decide +kernel
theorem dX6_addSaying_15 : decode cX6_addSaying 15 = .ok (.aload_n 0, 1) := by decide +kernel
theorem dX6_addSaying_16 : decode cX6_addSaying 16 = .ok (.getfield 18, 3) := by decide +kernel
theorem dX6_addSaying_19 : decode cX6_addSaying 19 = .ok (.iconst 1, 1) := by decide +kernel
theorem dX6_addSaying_20 : decode cX6_addSaying 20 = .ok (.aload_n 0, 1) := by decide +kernel
theorem dX6_addSaying_21 : decode cX6_addSaying 21 = .ok (.getfield 18, 3) := by decide +kernel
theorem dX6_addSaying_24 : decode cX6_addSaying 24 = .ok (.iconst 0, 1) := by decide +kernel
theorem dX6_addSaying_25 : decode cX6_addSaying 25 = .ok (.aload_n 0, 1) := by decide +kernel
theorem dX6_addSaying_26 : decode cX6_addSaying 26 = .ok (.getfield 40, 3) := by decide +kernel
theorem dX6_addSaying_29 : decode cX6_addSaying 29 = .ok (.invokestatic 44, 3) := by decide +kernel
theorem dX6_addSaying_32 : decode cX6_addSaying 32 = .ok (.aload_n 0, 1) := by decide +kernel
theorem dX6_addSaying_33 : decode cX6_addSaying 33 = .ok (.getfield 22, 3) := by decide +kernel
theorem dX6_addSaying_36 : decode cX6_addSaying 36 = .ok (.iconst 1, 1) := by decide +kernel
theorem dX6_addSaying_37 : decode cX6_addSaying 37 = .ok (.aload_n 0, 1) := by decide +kernel
theorem dX6_addSaying_38 : decode cX6_addSaying 38 = .ok (.getfield 22, 3) := by decide +kernel
theorem dX6_addSaying_41 : decode cX6_addSaying 41 = .ok (.iconst 0, 1) := by decide +kernel
theorem dX6_addSaying_42 : decode cX6_addSaying 42 = .ok (.aload_n 0, 1) := by decide +kernel
theorem dX6_addSaying_43 : decode cX6_addSaying 43 = .ok (.getfield 40, 3) := by decide +kernel
theorem dX6_addSaying_46 : decode cX6_addSaying 46 = .ok (.invokestatic 44, 3) := by decide +kernel
theorem dX6_addSaying_49 : decode cX6_addSaying 49 = .ok (.aload_n 0, 1) := by decide +kernel
theorem dX6_addSaying_50 : decode cX6_addSaying 50 = .ok (.getfield 25, 3) := by decide +kernel
theorem dX6_addSaying_53 : decode cX6_addSaying 53 = .ok (.iconst 1, 1) := by decide +kernel
theorem dX6_addSaying_54 : decode cX6_addSaying 54 = .ok (.aload_n 0, 1) := by decide +kernel
theorem dX6_addSaying_55 : decode cX6_addSaying 55 = .ok (.getfield 25, 3) := by decide +kernel
theorem dX6_addSaying_58 : decode cX6_addSaying 58 = .ok (.iconst 0, 1) := by decide +kernel
theorem dX6_addSaying_59 : decode cX6_addSaying 59 = .ok (.aload_n 0, 1) := by decide +kernel
theorem dX6_addSaying_60 : decode cX6_addSaying 60 = .ok (.getfield 40, 3) := by decide +kernel
theorem dX6_addSaying_63 : decode cX6_addSaying 63 = .ok (.invokestatic 44, 3) := by decide +kernel
theorem dX6_addSaying_66 : decode cX6_addSaying 66 = .ok (.aload_n 0, 1) := by decide +kernel
theorem dX6_addSaying_67 : decode cX6_addSaying 67 = .ok (.getfield 18, 3) := by decide +kernel
theorem dX6_addSaying_70 : decode cX6_addSaying 70 = .ok (.aload_n 0, 1) := by decide +kernel
theorem dX6_addSaying_71 : decode cX6_addSaying 71 = .ok (.getfield 40, 3) := by decide +kernel
theorem dX6_addSaying_74 : decode cX6_addSaying 74 = .ok (.iload_n 1, 1) := by decide +kernel
theorem dX6_addSaying_75 : decode cX6_addSaying 75 = .ok (.iastore, 1) := by decide +kernel
theorem dX6_addSaying_76 : decode cX6_addSaying 76 = .ok (.aload_n 0, 1) := by decide +kernel
theorem dX6_addSaying_77 : decode cX6_addSaying 77 = .ok (.getfield 22, 3) := by decide +kernel
theorem dX6_addSaying_80 : decode cX6_addSaying 80 = .ok (.aload_n 0, 1) := by decide +kernel
theorem dX6_addSaying_81 : decode cX6_addSaying 81 = .ok (.getfield 40, 3) := by decide +kernel
theorem dX6_addSaying_84 : decode cX6_addSaying 84 = .ok (.iload_n 2, 1) := by decide +kernel
theorem dX6_addSaying_85 : decode cX6_addSaying 85 = .ok (.iastore, 1) := by decide +kernel
theorem dX6_addSaying_86 : decode cX6_addSaying 86 = .ok (.aload_n 0, 1) := by decide +kernel
theorem dX6_addSaying_87 : decode cX6_addSaying 87 = .ok (.getfield 25, 3) := by decide +kernel
theorem dX6_addSaying_90 : decode cX6_addSaying 90 = .ok (.aload_n 0, 1) := by decide +kernel
theorem dX6_addSaying_91 : decode cX6_addSaying 91 = .ok (.getfield 40, 3) := by decide +kernel
theorem dX6_addSaying_94 : decode cX6_addSaying 94 = .ok (.iload_n 3, 1) := by decide +kernel
theorem dX6_addSaying_95 : decode cX6_addSaying 95 = .ok (.iastore, 1) := by decide +kernel
theorem dX6_addSaying_96 : decode cX6_addSaying 96 = .ok (.aload_n 0, 1) := by decide +kernel
theorem dX6_addSaying_97 : decode cX6_addSaying 97 = .ok (.dup, 1) := by decide +kernel
theorem dX6_addSaying_98 : decode cX6_addSaying 98 = .ok (.getfield 40, 3) := by decide +kernel
theorem dX6_addSaying_101 : decode cX6_addSaying 101 = .ok (.iconst 1, 1) := by decide +kernel
theorem dX6_addSaying_102 : decode cX6_addSaying 102 = .ok (.iadd, 1) := by decide +kernel
theorem dX6_addSaying_103 : decode cX6_addSaying 103 = .ok (.putfield 40, 3) := by decide +kernel
theorem dX6_addSaying_106 : decode cX6_addSaying 106 = .ok (.return_, 1) := by decide +kernel
theorem dX6_isSaid_0 : decode cX6_isSaid 0 = .ok (.iconst 0, 1) := by decide +kernel
theorem dX6_isSaid_1 : decode cX6_isSaid 1 = .ok (.istore 4, 2) := by decide +kernel
theorem dX6_isSaid_3 : decode cX6_isSaid 3 = .ok (.iload 4, 2) := by decide +kernel
theorem dX6_isSaid_5 : decode cX6_isSaid 5 = .ok (.aload_n 0, 1) := by decide +kernel
theorem dX6_isSaid_6 : decode cX6_isSaid 6 = .ok (.getfield 40, 3) := by decide +kernel
theorem dX6_isSaid_9 : decode cX6_isSaid 9 = .ok (.if_icmp .ge 44, 3) := by decide +kernel
theorem dX6_isSaid_12 : decode cX6_isSaid 12 = .ok (.aload_n 0, 1) := by decide +kernel
theorem dX6_isSaid_13 : decode cX6_isSaid 13 = .ok (.getfield 18, 3) := by decide +kernel
theorem dX6_isSaid_16 : decode cX6_isSaid 16 = .ok (.iload 4, 2) := by decide +kernel
theorem dX6_isSaid_18 : decode cX6_isSaid 18 = .ok (.iaload, 1) := by decide +kernel
theorem dX6_isSaid_19 : decode cX6_isSaid 19 = .ok (.iload_n 1, 1) := by decide +kernel
theorem dX6_isSaid_20 : decode cX6_isSaid 20 = .ok (.if_icmp .ne 27, 3) := by decide +kernel
theorem dX6_isSaid_23 : decode cX6_isSaid 23 = .ok (.aload_n 0, 1) := by decide +kernel
theorem dX6_isSaid_24 : decode cX6_isSaid 24 = .ok (.getfield 22, 3) := by decide +kernel
theorem dX6_isSaid_27 : decode cX6_isSaid 27 = .ok (.iload 4, 2) := by decide +kernel
theorem dX6_isSaid_29 : decode cX6_isSaid 29 = .ok (.iaload, 1) := by decide +kernel
theorem dX6_isSaid_30 : decode cX6_isSaid 30 = .ok (.iload_n 2, 1) := by decide +kernel
theorem dX6_isSaid_31 : decode cX6_isSaid 31 = .ok (.if_icmp .ne 16, 3) := by decide +kernel
theorem dX6_isSaid_34 : decode cX6_isSaid 34 = .ok (.aload_n 0, 1) := by decide +kernel
theorem dX6_isSaid_35 : decode cX6_isSaid 35 = .ok (.getfield 25, 3) := by decide +kernel
theorem dX6_isSaid_38 : decode cX6_isSaid 38 = .ok (.iload 4, 2) := by decide +kernel
theorem dX6_isSaid_40 : decode cX6_isSaid 40 = .ok (.iaload, 1) := by decide +kernel
theorem dX6_isSaid_41 : decode cX6_isSaid 41 = .ok (.iload_n 3, 1) := by decide +kernel
theorem dX6_isSaid_42 : decode cX6_isSaid 42 = .ok (.if_icmp .ne 5, 3) := by decide +kernel
theorem dX6_isSaid_45 : decode cX6_isSaid 45 = .ok (.iconst 1, 1) := by decide +kernel
theorem dX6_isSaid_46 : decode cX6_isSaid 46 = .ok (.ireturn, 1) := by decide +kernel
theorem dX6_isSaid_47 : decode cX6_isSaid 47 = .ok (.iinc 4 1, 3) := by decide +kernel
theorem dX6_isSaid_50 : decode cX6_isSaid 50 = .ok (.goto (-47), 3) := by decide +kernel
theorem dX6_isSaid_53 : decode cX6_isSaid 53 = .ok (.iconst 0, 1) := by decide +kernel
theorem dX6_isSaid_54 : decode cX6_isSaid 54 = .ok (.ireturn, 1) := by decide +kernel
theorem dX6_sitterOn_0 : decode cX6_sitterOn 0 = .ok (.iconst 0, 1) := by decide +kernel
theorem dX6_sitterOn_1 : decode cX6_sitterOn 1 = .ok (.istore_n 2, 1) := by decide +kernel
theorem dX6_sitterOn_2 : decode cX6_sitterOn 2 = .ok (.iload_n 2, 1) := by decide +kernel
theorem dX6_sitterOn_3 : decode cX6_sitterOn 3 = .ok (.aload_n 0, 1) := by decide +kernel
theorem dX6_sitterOn_4 : decode cX6_sitterOn 4 = .ok (.getfield 12, 3) := by decide +kernel
theorem dX6_sitterOn_7 : decode cX6_sitterOn 7 = .ok (.getfield 50, 3) := by decide +kernel
theorem dX6_sitterOn_10 : decode cX6_sitterOn 10 = .ok (.if_icmp .ge 21, 3) := by decide +kernel
theorem dX6_sitterOn_13 : decode cX6_sitterOn 13 = .ok (.aload_n 0, 1) := by decide +kernel
theorem dX6_sitterOn_14 : decode cX6_sitterOn 14 = .ok (.getfield 28, 3) := by decide +kernel
theorem dX6_sitterOn_17 : decode cX6_sitterOn 17 = .ok (.iload_n 2, 1) := by decide +kernel
theorem dX6_sitterOn_18 : decode cX6_sitterOn 18 = .ok (.iaload, 1) := by decide +kernel
theorem dX6_sitterOn_19 : decode cX6_sitterOn 19 = .ok (.iload_n 1, 1) := by decide +kernel
theorem dX6_sitterOn_20 : decode cX6_sitterOn 20 = .ok (.if_icmp .ne 5, 3) := by decide +kernel
theorem dX6_sitterOn_23 : decode cX6_sitterOn 23 = .ok (.iload_n 2, 1) := by decide +kernel
theorem dX6_sitterOn_24 : decode cX6_sitterOn 24 = .ok (.ireturn, 1) := by decide +kernel
theorem dX6_sitterOn_25 : decode cX6_sitterOn 25 = .ok (.iinc 2 1, 3) := by decide +kernel
theorem dX6_sitterOn_28 : decode cX6_sitterOn 28 = .ok (.goto (-26), 3) := by decide +kernel
theorem dX6_sitterOn_31 : decode cX6_sitterOn 31 = .ok (.iconst (-1), 1) := by decide +kernel
theorem dX6_sitterOn_32 : decode cX6_sitterOn 32 = .ok (.ireturn, 1) := by decide +kernel
theorem dX6_placedOf_0 : decode cX6_placedOf 0 = .ok (.iconst 0, 1) := by decide +kernel
theorem dX6_placedOf_1 : decode cX6_placedOf 1 = .ok (.istore_n 2, 1) := by decide +kernel
theorem dX6_placedOf_2 : decode cX6_placedOf 2 = .ok (.iconst 0, 1) := by decide +kernel
theorem dX6_placedOf_3 : decode cX6_placedOf 3 = .ok (.istore_n 3, 1) := by decide +kernel
theorem dX6_placedOf_4 : decode cX6_placedOf 4 = .ok (.iload_n 3, 1) := by decide +kernel
theorem dX6_placedOf_5 : decode cX6_placedOf 5 = .ok (.aload_n 0, 1) := by decide +kernel
theorem dX6_placedOf_6 : decode cX6_placedOf 6 = .ok (.getfield 12, 3) := by decide +kernel
theorem dX6_placedOf_9 : decode cX6_placedOf 9 = .ok (.getfield 50, 3) := by decide +kernel
theorem dX6_placedOf_12 : decode cX6_placedOf 12 = .ok (.if_icmp .ge 19, 3) := by decide +kernel
theorem dX6_placedOf_15 : decode cX6_placedOf 15 = .ok (.aload_n 1, 1) := by decide +kernel
theorem dX6_placedOf_16 : decode cX6_placedOf 16 = .ok (.iload_n 3, 1) := by decide +kernel
theorem dX6_placedOf_17 : decode cX6_placedOf 17 = .ok (.iaload, 1) := by decide +kernel
theorem dX6_placedOf_18 : decode cX6_placedOf 18 = .ok (.iconst (-1), 1) := by decide +kernel
theorem dX6_placedOf_19 : decode cX6_placedOf 19 = .ok (.if_icmp .eq 6, 3) := by decide +kernel
theorem dX6_placedOf_22 : decode cX6_placedOf 22 = .ok (.iinc 2 1, 3) := by decide +kernel
theorem dX6_placedOf_25 : decode cX6_placedOf 25 = .ok (.iinc 3 1, 3) := by decide +kernel
theorem dX6_placedOf_28 : decode cX6_placedOf 28 = .ok (.goto (-24), 3) := by decide +kernel
theorem dX6_placedOf_31 : decode cX6_placedOf 31 = .ok (.iload_n 2, 1) := by decide +kernel
theorem dX6_placedOf_32 : decode cX6_placedOf 32 = .ok (.ireturn, 1) := by decide +kernel
theorem dX6_ringsOfSeats_0 : decode cX6_ringsOfSeats 0 = .ok (.iconst 0, 1) := by decide +kernel
theorem dX6_ringsOfSeats_1 : decode cX6_ringsOfSeats 1 = .ok (.istore_n 1, 1) := by decide +kernel
theorem dX6_ringsOfSeats_2 : decode cX6_ringsOfSeats 2 = .ok (.iconst 0, 1) := by decide +kernel
theorem dX6_ringsOfSeats_3 : decode cX6_ringsOfSeats 3 = .ok (.istore_n 2, 1) := by decide +kernel
theorem dX6_ringsOfSeats_4 : decode cX6_ringsOfSeats 4 = .ok (.iload_n 2, 1) := by decide +kernel
theorem dX6_ringsOfSeats_5 : decode cX6_ringsOfSeats 5 = .ok (.aload_n 0, 1) := by decide +kernel
theorem dX6_ringsOfSeats_6 : decode cX6_ringsOfSeats 6 = .ok (.getfield 12, 3) := by decide +kernel
theorem dX6_ringsOfSeats_9 : decode cX6_ringsOfSeats 9 = .ok (.getfield 50, 3) := by decide +kernel
theorem dX6_ringsOfSeats_12 : decode cX6_ringsOfSeats 12 = .ok (.if_icmp .ge 20, 3) := by decide +kernel
theorem dX6_ringsOfSeats_15 : decode cX6_ringsOfSeats 15 = .ok (.aload_n 0, 1) := by decide +kernel
theorem dX6_ringsOfSeats_16 : decode cX6_ringsOfSeats 16 = .ok (.iload_n 2, 1) := by decide +kernel
theorem dX6_ringsOfSeats_17 : decode cX6_ringsOfSeats 17 = .ok (.invokevirtual 53, 3) := by decide +kernel
theorem dX6_ringsOfSeats_20 : decode cX6_ringsOfSeats 20 = .ok (.ifCond .eq 6, 3) := by decide +kernel
theorem dX6_ringsOfSeats_23 : decode cX6_ringsOfSeats 23 = .ok (.iinc 1 1, 3) := by decide +kernel
theorem dX6_ringsOfSeats_26 : decode cX6_ringsOfSeats 26 = .ok (.iinc 2 1, 3) := by decide +kernel
theorem dX6_ringsOfSeats_29 : decode cX6_ringsOfSeats 29 = .ok (.goto (-25), 3) := by decide +kernel
theorem dX6_ringsOfSeats_32 : decode cX6_ringsOfSeats 32 = .ok (.iload_n 1, 1) := by decide +kernel
theorem dX6_ringsOfSeats_33 : decode cX6_ringsOfSeats 33 = .ok (.ireturn, 1) := by decide +kernel
theorem dX6_leadsRing_0 : decode cX6_leadsRing 0 = .ok (.iload_n 1, 1) := by decide +kernel
theorem dX6_leadsRing_1 : decode cX6_leadsRing 1 = .ok (.istore_n 2, 1) := by decide +kernel
theorem dX6_leadsRing_2 : decode cX6_leadsRing 2 = .ok (.iconst 0, 1) := by decide +kernel
theorem dX6_leadsRing_3 : decode cX6_leadsRing 3 = .ok (.istore_n 3, 1) := by decide +kernel
theorem dX6_leadsRing_4 : decode cX6_leadsRing 4 = .ok (.iload_n 3, 1) := by decide +kernel
theorem dX6_leadsRing_5 : decode cX6_leadsRing 5 = .ok (.aload_n 0, 1) := by decide +kernel
theorem dX6_leadsRing_6 : decode cX6_leadsRing 6 = .ok (.getfield 12, 3) := by decide +kernel
theorem dX6_leadsRing_9 : decode cX6_leadsRing 9 = .ok (.getfield 50, 3) := by decide +kernel
theorem dX6_leadsRing_12 : decode cX6_leadsRing 12 = .ok (.if_icmp .ge 34, 3) := by decide +kernel
theorem dX6_leadsRing_15 : decode cX6_leadsRing 15 = .ok (.aload_n 0, 1) := by decide +kernel
theorem dX6_leadsRing_16 : decode cX6_leadsRing 16 = .ok (.aload_n 0, 1) := by decide +kernel
theorem dX6_leadsRing_17 : decode cX6_leadsRing 17 = .ok (.getfield 31, 3) := by decide +kernel
theorem dX6_leadsRing_20 : decode cX6_leadsRing 20 = .ok (.iload_n 2, 1) := by decide +kernel
theorem dX6_leadsRing_21 : decode cX6_leadsRing 21 = .ok (.iaload, 1) := by decide +kernel
theorem dX6_leadsRing_22 : decode cX6_leadsRing 22 = .ok (.invokevirtual 57, 3) := by decide +kernel
theorem dX6_leadsRing_25 : decode cX6_leadsRing 25 = .ok (.istore_n 2, 1) := by decide +kernel
theorem dX6_leadsRing_26 : decode cX6_leadsRing 26 = .ok (.iload_n 2, 1) := by decide +kernel
theorem dX6_leadsRing_27 : decode cX6_leadsRing 27 = .ok (.iload_n 1, 1) := by decide +kernel
theorem dX6_leadsRing_28 : decode cX6_leadsRing 28 = .ok (.if_icmp .ne 5, 3) := by decide +kernel
theorem dX6_leadsRing_31 : decode cX6_leadsRing 31 = .ok (.iconst 1, 1) := by decide +kernel
theorem dX6_leadsRing_32 : decode cX6_leadsRing 32 = .ok (.ireturn, 1) := by decide +kernel
theorem dX6_leadsRing_33 : decode cX6_leadsRing 33 = .ok (.iload_n 2, 1) := by decide +kernel
theorem dX6_leadsRing_34 : decode cX6_leadsRing 34 = .ok (.iload_n 1, 1) := by decide +kernel
theorem dX6_leadsRing_35 : decode cX6_leadsRing 35 = .ok (.if_icmp .ge 5, 3) := by decide +kernel
theorem dX6_leadsRing_38 : decode cX6_leadsRing 38 = .ok (.iconst 0, 1) := by decide +kernel
theorem dX6_leadsRing_39 : decode cX6_leadsRing 39 = .ok (.ireturn, 1) := by decide +kernel
theorem dX6_leadsRing_40 : decode cX6_leadsRing 40 = .ok (.iinc 3 1, 3) := by decide +kernel
theorem dX6_leadsRing_43 : decode cX6_leadsRing 43 = .ok (.goto (-39), 3) := by decide +kernel
theorem dX6_leadsRing_46 : decode cX6_leadsRing 46 = .ok (.iconst 0, 1) := by decide +kernel
theorem dX6_leadsRing_47 : decode cX6_leadsRing 47 = .ok (.ireturn, 1) := by decide +kernel
theorem dX6_tallerAhead_0 : decode cX6_tallerAhead 0 = .ok (.iconst 0, 1) := by decide +kernel
theorem dX6_tallerAhead_1 : decode cX6_tallerAhead 1 = .ok (.istore_n 2, 1) := by decide +kernel
theorem dX6_tallerAhead_2 : decode cX6_tallerAhead 2 = .ok (.iconst 0, 1) := by decide +kernel
theorem dX6_tallerAhead_3 : decode cX6_tallerAhead 3 = .ok (.istore_n 3, 1) := by decide +kernel
theorem dX6_tallerAhead_4 : decode cX6_tallerAhead 4 = .ok (.iload_n 3, 1) := by decide +kernel
theorem dX6_tallerAhead_5 : decode cX6_tallerAhead 5 = .ok (.aload_n 0, 1) := by decide +kernel
theorem dX6_tallerAhead_6 : decode cX6_tallerAhead 6 = .ok (.getfield 12, 3) := by decide +kernel
theorem dX6_tallerAhead_9 : decode cX6_tallerAhead 9 = .ok (.getfield 50, 3) := by decide +kernel
theorem dX6_tallerAhead_12 : decode cX6_tallerAhead 12 = .ok (.if_icmp .ge 74, 3) := by decide +kernel
theorem dX6_tallerAhead_15 : decode cX6_tallerAhead 15 = .ok (.aload_n 0, 1) := by decide +kernel
theorem dX6_tallerAhead_16 : decode cX6_tallerAhead 16 = .ok (.getfield 28, 3) := by decide +kernel
theorem dX6_tallerAhead_19 : decode cX6_tallerAhead 19 = .ok (.iload_n 3, 1) := by decide +kernel
theorem dX6_tallerAhead_20 : decode cX6_tallerAhead 20 = .ok (.iaload, 1) := by decide +kernel
theorem dX6_tallerAhead_21 : decode cX6_tallerAhead 21 = .ok (.iconst (-1), 1) := by decide +kernel
theorem dX6_tallerAhead_22 : decode cX6_tallerAhead 22 = .ok (.if_icmp .eq 28, 3) := by decide +kernel
theorem dX6_tallerAhead_25 : decode cX6_tallerAhead 25 = .ok (.aload_n 0, 1) := by decide +kernel
theorem dX6_tallerAhead_26 : decode cX6_tallerAhead 26 = .ok (.getfield 12, 3) := by decide +kernel
theorem dX6_tallerAhead_29 : decode cX6_tallerAhead 29 = .ok (.getfield 61, 3) := by decide +kernel
theorem dX6_tallerAhead_32 : decode cX6_tallerAhead 32 = .ok (.iload_n 3, 1) := by decide +kernel
theorem dX6_tallerAhead_33 : decode cX6_tallerAhead 33 = .ok (.iaload, 1) := by decide +kernel
theorem dX6_tallerAhead_34 : decode cX6_tallerAhead 34 = .ok (.aload_n 0, 1) := by decide +kernel
theorem dX6_tallerAhead_35 : decode cX6_tallerAhead 35 = .ok (.getfield 12, 3) := by decide +kernel
theorem dX6_tallerAhead_38 : decode cX6_tallerAhead 38 = .ok (.getfield 61, 3) := by decide +kernel
theorem dX6_tallerAhead_41 : decode cX6_tallerAhead 41 = .ok (.iload_n 1, 1) := by decide +kernel
theorem dX6_tallerAhead_42 : decode cX6_tallerAhead 42 = .ok (.iaload, 1) := by decide +kernel
theorem dX6_tallerAhead_43 : decode cX6_tallerAhead 43 = .ok (.if_icmp .le 7, 3) := by decide +kernel
theorem dX6_tallerAhead_46 : decode cX6_tallerAhead 46 = .ok (.iconst 1, 1) := by decide +kernel
theorem dX6_tallerAhead_47 : decode cX6_tallerAhead 47 = .ok (.goto 4, 3) := by decide +kernel
theorem dX6_tallerAhead_50 : decode cX6_tallerAhead 50 = .ok (.iconst 0, 1) := by decide +kernel
theorem dX6_tallerAhead_51 : decode cX6_tallerAhead 51 = .ok (.istore 4, 2) := by decide +kernel
theorem dX6_tallerAhead_53 : decode cX6_tallerAhead 53 = .ok (.iload 4, 2) := by decide +kernel
theorem dX6_tallerAhead_55 : decode cX6_tallerAhead 55 = .ok (.ifCond .eq 25, 3) := by decide +kernel
theorem dX6_tallerAhead_58 : decode cX6_tallerAhead 58 = .ok (.aload_n 0, 1) := by decide +kernel
theorem dX6_tallerAhead_59 : decode cX6_tallerAhead 59 = .ok (.aload_n 0, 1) := by decide +kernel
theorem dX6_tallerAhead_60 : decode cX6_tallerAhead 60 = .ok (.getfield 28, 3) := by decide +kernel
theorem dX6_tallerAhead_63 : decode cX6_tallerAhead 63 = .ok (.iload_n 3, 1) := by decide +kernel
theorem dX6_tallerAhead_64 : decode cX6_tallerAhead 64 = .ok (.iaload, 1) := by decide +kernel
theorem dX6_tallerAhead_65 : decode cX6_tallerAhead 65 = .ok (.aload_n 0, 1) := by decide +kernel
theorem dX6_tallerAhead_66 : decode cX6_tallerAhead 66 = .ok (.getfield 28, 3) := by decide +kernel
theorem dX6_tallerAhead_69 : decode cX6_tallerAhead 69 = .ok (.iload_n 1, 1) := by decide +kernel
theorem dX6_tallerAhead_70 : decode cX6_tallerAhead 70 = .ok (.iaload, 1) := by decide +kernel
theorem dX6_tallerAhead_71 : decode cX6_tallerAhead 71 = .ok (.invokevirtual 64, 3) := by decide +kernel
theorem dX6_tallerAhead_74 : decode cX6_tallerAhead 74 = .ok (.ifCond .eq 6, 3) := by decide +kernel
theorem dX6_tallerAhead_77 : decode cX6_tallerAhead 77 = .ok (.iinc 2 1, 3) := by decide +kernel
theorem dX6_tallerAhead_80 : decode cX6_tallerAhead 80 = .ok (.iinc 3 1, 3) := by decide +kernel
theorem dX6_tallerAhead_83 : decode cX6_tallerAhead 83 = .ok (.goto (-79), 3) := by decide +kernel
theorem dX6_tallerAhead_86 : decode cX6_tallerAhead 86 = .ok (.iload_n 2, 1) := by decide +kernel
theorem dX6_tallerAhead_87 : decode cX6_tallerAhead 87 = .ok (.ireturn, 1) := by decide +kernel
theorem dX6_sitsBefore_0 : decode cX6_sitsBefore 0 = .ok (.iload_n 1, 1) := by decide +kernel
theorem dX6_sitsBefore_1 : decode cX6_sitsBefore 1 = .ok (.iconst 2, 1) := by decide +kernel
theorem dX6_sitsBefore_2 : decode cX6_sitsBefore 2 = .ok (.irem, 1) := by decide +kernel
theorem dX6_sitsBefore_3 : decode cX6_sitsBefore 3 = .ok (.iload_n 2, 1) := by decide +kernel
theorem dX6_sitsBefore_4 : decode cX6_sitsBefore 4 = .ok (.iconst 2, 1) := by decide +kernel
theorem dX6_sitsBefore_5 : decode cX6_sitsBefore 5 = .ok (.irem, 1) := by decide +kernel
theorem dX6_sitsBefore_6 : decode cX6_sitsBefore 6 = .ok (.if_icmp .ne 32, 3) := by decide +kernel
theorem dX6_sitsBefore_9 : decode cX6_sitsBefore 9 = .ok (.aload_n 0, 1) := by decide +kernel
theorem dX6_sitsBefore_10 : decode cX6_sitsBefore 10 = .ok (.getfield 12, 3) := by decide +kernel
theorem dX6_sitsBefore_13 : decode cX6_sitsBefore 13 = .ok (.getfield 68, 3) := by decide +kernel
theorem dX6_sitsBefore_16 : decode cX6_sitsBefore 16 = .ok (.iload_n 1, 1) := by decide +kernel
theorem dX6_sitsBefore_17 : decode cX6_sitsBefore 17 = .ok (.iconst 2, 1) := by decide +kernel
theorem dX6_sitsBefore_18 : decode cX6_sitsBefore 18 = .ok (.idiv, 1) := by decide +kernel
theorem dX6_sitsBefore_19 : decode cX6_sitsBefore 19 = .ok (.iaload, 1) := by decide +kernel
theorem dX6_sitsBefore_20 : decode cX6_sitsBefore 20 = .ok (.aload_n 0, 1) := by decide +kernel
theorem dX6_sitsBefore_21 : decode cX6_sitsBefore 21 = .ok (.getfield 12, 3) := by decide +kernel
theorem dX6_sitsBefore_24 : decode cX6_sitsBefore 24 = .ok (.getfield 68, 3) := by decide +kernel
theorem dX6_sitsBefore_27 : decode cX6_sitsBefore 27 = .ok (.iload_n 2, 1) := by decide +kernel
theorem dX6_sitsBefore_28 : decode cX6_sitsBefore 28 = .ok (.iconst 2, 1) := by decide +kernel
theorem dX6_sitsBefore_29 : decode cX6_sitsBefore 29 = .ok (.idiv, 1) := by decide +kernel
theorem dX6_sitsBefore_30 : decode cX6_sitsBefore 30 = .ok (.iaload, 1) := by decide +kernel
theorem dX6_sitsBefore_31 : decode cX6_sitsBefore 31 = .ok (.if_icmp .ge 7, 3) := by decide +kernel
theorem dX6_sitsBefore_34 : decode cX6_sitsBefore 34 = .ok (.iconst 1, 1) := by decide +kernel
theorem dX6_sitsBefore_35 : decode cX6_sitsBefore 35 = .ok (.goto 4, 3) := by decide +kernel
theorem dX6_sitsBefore_38 : decode cX6_sitsBefore 38 = .ok (.iconst 0, 1) := by decide +kernel
theorem dX6_sitsBefore_39 : decode cX6_sitsBefore 39 = .ok (.ireturn, 1) := by decide +kernel
theorem dX7_init_0 : decode cX7_init 0 = .ok (.aload_n 0, 1) := by decide +kernel
theorem dX7_init_1 : decode cX7_init 1 = .ok (.invokespecial 3, 3) := by decide +kernel
theorem dX7_init_4 : decode cX7_init 4 = .ok (.aload_n 0, 1) := by decide +kernel
theorem dX7_init_5 : decode cX7_init 5 = .ok (.bipush 100, 2) := by decide +kernel
theorem dX7_init_7 : decode cX7_init 7 = .ok (.newarray .long, 2) := by decide +kernel
theorem dX7_init_9 : decode cX7_init 9 = .ok (.putfield 9, 3) := by decide +kernel
theorem dX7_init_12 : decode cX7_init 12 = .ok (.aload_n 0, 1) := by decide +kernel
theorem dX7_init_13 : decode cX7_init 13 = .ok (.bipush 10, 2) := by decide +kernel
theorem dX7_init_15 : decode cX7_init 15 = .ok (.newarray .int, 2) := by decide +kernel
theorem dX7_init_17 : decode cX7_init 17 = .ok (.putfield 15, 3) := by decide +kernel
theorem dX7_init_20 : decode cX7_init 20 = .ok (.aload_n 0, 1) := by decide +kernel
theorem dX7_init_21 : decode cX7_init 21 = .ok (.sipush 1024, 3) := by decide +kernel
theorem dX7_init_24 : decode cX7_init 24 = .ok (.newarray .long, 2) := by decide +kernel
theorem dX7_init_26 : decode cX7_init 26 = .ok (.putfield 19, 3) := by decide +kernel
theorem dX7_init_29 : decode cX7_init 29 = .ok (.aload_n 0, 1) := by decide +kernel
theorem dX7_init_30 : decode cX7_init 30 = .ok (.sipush 1024, 3) := by decide +kernel
theorem dX7_init_33 : decode cX7_init 33 = .ok (.newarray .long, 2) := by decide +kernel
theorem dX7_init_35 : decode cX7_init 35 = .ok (.putfield 22, 3) := by decide +kernel
theorem dX7_init_38 : decode cX7_init 38 = .ok (.aload_n 0, 1) := by decide +kernel
theorem dX7_init_39 : decode cX7_init 39 = .ok (.bipush 100, 2) := by decide +kernel
theorem dX7_init_41 : decode cX7_init 41 = .ok (.newarray .long, 2) := by decide +kernel
theorem dX7_init_43 : decode cX7_init 43 = .ok (.putfield 25, 3) := by decide +kernel
theorem dX7_init_46 : decode cX7_init 46 = .ok (.aload_n 0, 1) := by decide +kernel
theorem dX7_init_47 : decode cX7_init 47 = .ok (.iload_n 1, 1) := by decide +kernel
theorem dX7_init_48 : decode cX7_init 48 = .ok (.putfield 28, 3) := by decide +kernel
theorem dX7_init_51 : decode cX7_init 51 = .ok (.return_, 1) := by decide +kernel
theorem dX7_forget_0 : decode cX7_forget 0 = .ok (.aload_n 0, 1) := by decide +kernel
theorem dX7_forget_1 : decode cX7_forget 1 = .ok (.iconst 0, 1) := by decide +kernel
theorem dX7_forget_2 : decode cX7_forget 2 = .ok (.putfield 32, 3) := by decide +kernel
theorem dX7_forget_5 : decode cX7_forget 5 = .ok (.aload_n 0, 1) := by decide +kernel
theorem dX7_forget_6 : decode cX7_forget 6 = .ok (.iconst 0, 1) := by decide +kernel
theorem dX7_forget_7 : decode cX7_forget 7 = .ok (.putfield 35, 3) := by decide +kernel
theorem dX7_forget_10 : decode cX7_forget 10 = .ok (.return_, 1) := by decide +kernel
theorem dX7_weigh_0 : decode cX7_weigh 0 = .ok (.aload_n 0, 1) := by decide +kernel
theorem dX7_weigh_1 : decode cX7_weigh 1 = .ok (.getfield 32, 3) := by decide +kernel
theorem dX7_weigh_4 : decode cX7_weigh 4 = .ok (.ifCond .eq 4, 3) := by decide +kernel
theorem dX7_weigh_7 : decode cX7_weigh 7 = .ok (.return_, 1) := by decide +kernel
theorem dX7_weigh_8 : decode cX7_weigh 8 = .ok (.aload_n 0, 1) := by decide +kernel
theorem dX7_weigh_9 : decode cX7_weigh 9 = .ok (.aload_n 1, 1) := by decide +kernel
theorem dX7_weigh_10 : decode cX7_weigh 10 = .ok (.getfield 38, 3) := by decide +kernel
theorem dX7_weigh_13 : decode cX7_weigh 13 = .ok (.getfield 44, 3) := by decide +kernel
theorem dX7_weigh_16 : decode cX7_weigh 16 = .ok (.putfield 50, 3) := by decide +kernel
theorem dX7_weigh_19 : decode cX7_weigh 19 = .ok (.aload_n 0, 1) := by decide +kernel
theorem dX7_weigh_20 : decode cX7_weigh 20 = .ok (.aload_n 1, 1) := by decide +kernel
theorem dX7_weigh_21 : decode cX7_weigh 21 = .ok (.getfield 38, 3) := by decide +kernel
theorem dX7_weigh_24 : decode cX7_weigh 24 = .ok (.invokevirtual 51, 3) := by decide +kernel
theorem dX7_weigh_27 : decode cX7_weigh 27 = .ok (.putfield 55, 3) := by decide +kernel
theorem dX7_weigh_30 : decode cX7_weigh 30 = .ok (.aload_n 0, 1) := by decide +kernel
theorem dX7_weigh_31 : decode cX7_weigh 31 = .ok (.aload_n 1, 1) := by decide +kernel
theorem dX7_weigh_32 : decode cX7_weigh 32 = .ok (.invokevirtual 57, 3) := by decide +kernel
theorem dX7_weigh_35 : decode cX7_weigh 35 = .ok (.aload_n 0, 1) := by decide +kernel
theorem dX7_weigh_36 : decode cX7_weigh 36 = .ok (.getfield 19, 3) := by decide +kernel
theorem dX7_weigh_39 : decode cX7_weigh 39 = .ok (.lconst 0, 1) := by decide +kernel
theorem dX7_weigh_40 : decode cX7_weigh 40 = .ok (.invokestatic 61, 3) := by decide +kernel
theorem dX7_weigh_43 : decode cX7_weigh 43 = .ok (.aload_n 0, 1) := by decide +kernel
theorem dX7_weigh_44 : decode cX7_weigh 44 = .ok (.getfield 19, 3) := by decide +kernel
theorem dX7_weigh_47 : decode cX7_weigh 47 = .ok (.iconst 0, 1) := by decide +kernel
theorem dX7_weigh_48 : decode cX7_weigh 48 = .ok (.lconst 1, 1) := by decide +kernel
theorem dX7_weigh_49 : decode cX7_weigh 49 = .ok (.lastore, 1) := by decide +kernel
theorem dX7_weigh_50 : decode cX7_weigh 50 = .ok (.iconst 0, 1) := by decide +kernel
theorem dX7_weigh_51 : decode cX7_weigh 51 = .ok (.istore_n 2, 1) := by decide +kernel
theorem dX7_weigh_52 : decode cX7_weigh 52 = .ok (.iload_n 2, 1) := by decide +kernel
theorem dX7_weigh_53 : decode cX7_weigh 53 = .ok (.aload_n 0, 1) := by decide +kernel
theorem dX7_weigh_54 : decode cX7_weigh 54 = .ok (.getfield 55, 3) := by decide +kernel
theorem dX7_weigh_57 : decode cX7_weigh 57 = .ok (.if_icmp .ge 70, 3) := by decide +kernel
theorem dX7_weigh_60 : decode cX7_weigh 60 = .ok (.iconst 0, 1) := by decide +kernel
theorem dX7_weigh_61 : decode cX7_weigh 61 = .ok (.istore_n 3, 1) := by decide +kernel
theorem dX7_weigh_62 : decode cX7_weigh 62 = .ok (.iload_n 3, 1) := by decide +kernel
theorem dX7_weigh_63 : decode cX7_weigh 63 = .ok (.aload_n 0, 1) := by decide +kernel
theorem dX7_weigh_64 : decode cX7_weigh 64 = .ok (.getfield 50, 3) := by decide +kernel
theorem dX7_weigh_67 : decode cX7_weigh 67 = .ok (.if_icmp .ge 54, 3) := by decide +kernel
theorem dX7_weigh_70 : decode cX7_weigh 70 = .ok (.aload_n 0, 1) := by decide +kernel
theorem dX7_weigh_71 : decode cX7_weigh 71 = .ok (.getfield 19, 3) := by decide +kernel
theorem dX7_weigh_74 : decode cX7_weigh 74 = .ok (.iload_n 2, 1) := by decide +kernel
theorem dX7_weigh_75 : decode cX7_weigh 75 = .ok (.laload, 1) := by decide +kernel
theorem dX7_weigh_76 : decode cX7_weigh 76 = .ok (.lconst 0, 1) := by decide +kernel
theorem dX7_weigh_77 : decode cX7_weigh 77 = .ok (.lcmp, 1) := by decide +kernel
theorem dX7_weigh_78 : decode cX7_weigh 78 = .ok (.ifCond .eq 43, 3) := by decide +kernel
theorem dX7_weigh_81 : decode cX7_weigh 81 = .ok (.iload_n 2, 1) := by decide +kernel
theorem dX7_weigh_82 : decode cX7_weigh 82 = .ok (.iload_n 3, 1) := by decide +kernel
theorem dX7_weigh_83 : decode cX7_weigh 83 = .ok (.ishr, 1) := by decide +kernel
theorem dX7_weigh_84 : decode cX7_weigh 84 = .ok (.iconst 1, 1) := by decide +kernel
theorem dX7_weigh_85 : decode cX7_weigh 85 = .ok (.iand, 1) := by decide +kernel
theorem dX7_weigh_86 : decode cX7_weigh 86 = .ok (.ifCond .ne 29, 3) := by decide +kernel
theorem dX7_weigh_89 : decode cX7_weigh 89 = .ok (.aload_n 0, 1) := by decide +kernel
theorem dX7_weigh_90 : decode cX7_weigh 90 = .ok (.getfield 19, 3) := by decide +kernel
theorem dX7_weigh_93 : decode cX7_weigh 93 = .ok (.iload_n 2, 1) := by decide +kernel
theorem dX7_weigh_94 : decode cX7_weigh 94 = .ok (.iconst 1, 1) := by decide +kernel
theorem dX7_weigh_95 : decode cX7_weigh 95 = .ok (.iload_n 3, 1) := by decide +kernel
theorem dX7_weigh_96 : decode cX7_weigh 96 = .ok (.ishl, 1) := by decide +kernel
theorem dX7_weigh_97 : decode cX7_weigh 97 = .ok (.ior, 1) := by decide +kernel
theorem dX7_weigh_98 : decode cX7_weigh 98 = .ok (.dup2, 1) := by decide +kernel
theorem dX7_weigh_99 : decode cX7_weigh 99 = .ok (.laload, 1) := by decide +kernel
theorem dX7_weigh_100 : decode cX7_weigh 100 = .ok (.aload_n 0, 1) := by decide +kernel
theorem dX7_weigh_101 : decode cX7_weigh 101 = .ok (.getfield 19, 3) := by decide +kernel
theorem dX7_weigh_104 : decode cX7_weigh 104 = .ok (.iload_n 2, 1) := by decide +kernel
theorem dX7_weigh_105 : decode cX7_weigh 105 = .ok (.laload, 1) := by decide +kernel
theorem dX7_weigh_106 : decode cX7_weigh 106 = .ok (.aload_n 0, 1) := by decide +kernel
theorem dX7_weigh_107 : decode cX7_weigh 107 = .ok (.iload_n 2, 1) := by decide +kernel
theorem dX7_weigh_108 : decode cX7_weigh 108 = .ok (.iload_n 3, 1) := by decide +kernel
theorem dX7_weigh_109 : decode cX7_weigh 109 = .ok (.invokevirtual 67, 3) := by decide +kernel
theorem dX7_weigh_112 : decode cX7_weigh 112 = .ok (.lmul, 1) := by decide +kernel
theorem dX7_weigh_113 : decode cX7_weigh 113 = .ok (.ladd, 1) := by decide +kernel
theorem dX7_weigh_114 : decode cX7_weigh 114 = .ok (.lastore, 1) := by decide +kernel
theorem dX7_weigh_115 : decode cX7_weigh 115 = .ok (.iinc 3 1, 3) := by decide +kernel
theorem dX7_weigh_118 : decode cX7_weigh 118 = .ok (.goto (-56), 3) := by decide +kernel
theorem dX7_weigh_121 : decode cX7_weigh 121 = .ok (.iinc 2 1, 3) := by decide +kernel
theorem dX7_weigh_124 : decode cX7_weigh 124 = .ok (.goto (-72), 3) := by decide +kernel
theorem dX7_weigh_127 : decode cX7_weigh 127 = .ok (.aload_n 0, 1) := by decide +kernel
theorem dX7_weigh_128 : decode cX7_weigh 128 = .ok (.iconst 1, 1) := by decide +kernel
theorem dX7_weigh_129 : decode cX7_weigh 129 = .ok (.putfield 32, 3) := by decide +kernel
theorem dX7_weigh_132 : decode cX7_weigh 132 = .ok (.aload_n 0, 1) := by decide +kernel
theorem dX7_weigh_133 : decode cX7_weigh 133 = .ok (.iconst 0, 1) := by decide +kernel
theorem dX7_weigh_134 : decode cX7_weigh 134 = .ok (.putfield 35, 3) := by decide +kernel
theorem dX7_weigh_137 : decode cX7_weigh 137 = .ok (.return_, 1) := by decide +kernel
theorem dX7_all_0 : decode cX7_all 0 = .ok (.aload_n 0, 1) := by decide +kernel
theorem dX7_all_1 : decode cX7_all 1 = .ok (.getfield 19, 3) := by decide +kernel
theorem dX7_all_4 : decode cX7_all 4 = .ok (.aload_n 0, 1) := by decide +kernel
theorem dX7_all_5 : decode cX7_all 5 = .ok (.getfield 55, 3) := by decide +kernel
theorem dX7_all_8 : decode cX7_all 8 = .ok (.laload, 1) := by decide +kernel
theorem dX7_all_9 : decode cX7_all 9 = .ok (.lreturn, 1) := by decide +kernel
theorem dX7_compare_0 : decode cX7_compare 0 = .ok (.aload_n 0, 1) := by decide +kernel
theorem dX7_compare_1 : decode cX7_compare 1 = .ok (.getfield 35, 3) := by decide +kernel
theorem dX7_compare_4 : decode cX7_compare 4 = .ok (.ifCond .eq 4, 3) := by decide +kernel
theorem dX7_compare_7 : decode cX7_compare 7 = .ok (.return_, 1) := by decide +kernel
theorem dX7_compare_8 : decode cX7_compare 8 = .ok (.aload_n 0, 1) := by decide +kernel
theorem dX7_compare_9 : decode cX7_compare 9 = .ok (.getfield 25, 3) := by decide +kernel
theorem dX7_compare_12 : decode cX7_compare 12 = .ok (.lconst 0, 1) := by decide +kernel
theorem dX7_compare_13 : decode cX7_compare 13 = .ok (.invokestatic 61, 3) := by decide +kernel
theorem dX7_compare_16 : decode cX7_compare 16 = .ok (.aload_n 0, 1) := by decide +kernel
theorem dX7_compare_17 : decode cX7_compare 17 = .ok (.getfield 22, 3) := by decide +kernel
theorem dX7_compare_20 : decode cX7_compare 20 = .ok (.aload_n 0, 1) := by decide +kernel
theorem dX7_compare_21 : decode cX7_compare 21 = .ok (.getfield 55, 3) := by decide +kernel
theorem dX7_compare_24 : decode cX7_compare 24 = .ok (.lconst 1, 1) := by decide +kernel
theorem dX7_compare_25 : decode cX7_compare 25 = .ok (.lastore, 1) := by decide +kernel
theorem dX7_compare_26 : decode cX7_compare 26 = .ok (.aload_n 0, 1) := by decide +kernel
theorem dX7_compare_27 : decode cX7_compare 27 = .ok (.getfield 55, 3) := by decide +kernel
theorem dX7_compare_30 : decode cX7_compare 30 = .ok (.iconst 1, 1) := by decide +kernel
theorem dX7_compare_31 : decode cX7_compare 31 = .ok (.isub, 1) := by decide +kernel
theorem dX7_compare_32 : decode cX7_compare 32 = .ok (.istore_n 1, 1) := by decide +kernel
theorem dX7_compare_33 : decode cX7_compare 33 = .ok (.iload_n 1, 1) := by decide +kernel
theorem dX7_compare_34 : decode cX7_compare 34 = .ok (.ifCond .lt 93, 3) := by decide +kernel
theorem dX7_compare_37 : decode cX7_compare 37 = .ok (.aload_n 0, 1) := by decide +kernel
theorem dX7_compare_38 : decode cX7_compare 38 = .ok (.getfield 22, 3) := by decide +kernel
theorem dX7_compare_41 : decode cX7_compare 41 = .ok (.iload_n 1, 1) := by decide +kernel
theorem dX7_compare_42 : decode cX7_compare 42 = .ok (.lconst 0, 1) := by decide +kernel
theorem dX7_compare_43 : decode cX7_compare 43 = .ok (.lastore, 1) := by decide +kernel
theorem dX7_compare_44 : decode cX7_compare 44 = .ok (.iconst 0, 1) := by decide +kernel
theorem dX7_compare_45 : decode cX7_compare 45 = .ok (.istore_n 2, 1) := by decide +kernel
theorem dX7_compare_46 : decode cX7_compare 46 = .ok (.iload_n 2, 1) := by decide +kernel
theorem dX7_compare_47 : decode cX7_compare 47 = .ok (.aload_n 0, 1) := by decide +kernel
theorem dX7_compare_48 : decode cX7_compare 48 = .ok (.getfield 50, 3) := by decide +kernel
theorem dX7_compare_51 : decode cX7_compare 51 = .ok (.if_icmp .ge 70, 3) := by decide +kernel
theorem dX7_compare_54 : decode cX7_compare 54 = .ok (.aload_n 0, 1) := by decide +kernel
theorem dX7_compare_55 : decode cX7_compare 55 = .ok (.getfield 19, 3) := by decide +kernel
theorem dX7_compare_58 : decode cX7_compare 58 = .ok (.iload_n 1, 1) := by decide +kernel
theorem dX7_compare_59 : decode cX7_compare 59 = .ok (.laload, 1) := by decide +kernel
theorem dX7_compare_60 : decode cX7_compare 60 = .ok (.lconst 0, 1) := by decide +kernel
theorem dX7_compare_61 : decode cX7_compare 61 = .ok (.lcmp, 1) := by decide +kernel
theorem dX7_compare_62 : decode cX7_compare 62 = .ok (.ifCond .eq 59, 3) := by decide +kernel
theorem dX7_compare_65 : decode cX7_compare 65 = .ok (.iload_n 1, 1) := by decide +kernel
theorem dX7_compare_66 : decode cX7_compare 66 = .ok (.iload_n 2, 1) := by decide +kernel
theorem dX7_compare_67 : decode cX7_compare 67 = .ok (.ishr, 1) := by decide +kernel
theorem dX7_compare_68 : decode cX7_compare 68 = .ok (.iconst 1, 1) := by decide +kernel
theorem dX7_compare_69 : decode cX7_compare 69 = .ok (.iand, 1) := by decide +kernel
theorem dX7_compare_70 : decode cX7_compare 70 = .ok (.ifCond .ne 45, 3) := by decide +kernel
theorem dX7_compare_73 : decode cX7_compare 73 = .ok (.aload_n 0, 1) := by decide +kernel
theorem dX7_compare_74 : decode cX7_compare 74 = .ok (.iload_n 1, 1) := by decide +kernel
theorem dX7_compare_75 : decode cX7_compare 75 = .ok (.iload_n 2, 1) := by decide +kernel
theorem dX7_compare_76 : decode cX7_compare 76 = .ok (.invokevirtual 67, 3) := by decide +kernel
theorem dX7_compare_79 : decode cX7_compare 79 = .ok (.aload_n 0, 1) := by decide +kernel
