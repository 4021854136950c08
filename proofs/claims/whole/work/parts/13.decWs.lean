theorem dWs_init_0 : decode cWs_init 0 = .ok (.aload_n 0, 1) := by decide +kernel
theorem dWs_init_1 : decode cWs_init 1 = .ok (.aload_n 1, 1) := by decide +kernel
theorem dWs_init_2 : decode cWs_init 2 = .ok (.bipush 8, 2) := by decide +kernel
theorem dWs_init_4 : decode cWs_init 4 = .ok (.iload_n 2, 1) := by decide +kernel
theorem dWs_init_5 : decode cWs_init 5 = .ok (.invokespecial 1, 3) := by decide +kernel
theorem dWs_init_8 : decode cWs_init 8 = .ok (.aload_n 0, 1) := by decide +kernel
theorem dWs_init_9 : decode cWs_init 9 = .ok (.bipush 80, 2) := by decide +kernel
theorem dWs_init_11 : decode cWs_init 11 = .ok (.newarray .long, 2) := by decide +kernel
theorem dWs_init_13 : decode cWs_init 13 = .ok (.putfield 7, 3) := by decide +kernel
theorem dWs_init_16 : decode cWs_init 16 = .ok (.return_, 1) := by decide +kernel
theorem dWs_bigSigma0_0 : decode cWs_bigSigma0 0 = .ok (.lload_n 0, 1) := by decide +kernel
theorem dWs_bigSigma0_1 : decode cWs_bigSigma0 1 = .ok (.bipush 28, 2) := by decide +kernel
theorem dWs_bigSigma0_3 : decode cWs_bigSigma0 3 = .ok (.lushr, 1) := by decide +kernel
theorem dWs_bigSigma0_4 : decode cWs_bigSigma0 4 = .ok (.lload_n 0, 1) := by decide +kernel
theorem dWs_bigSigma0_5 : decode cWs_bigSigma0 5 = .ok (.bipush 36, 2) := by decide +kernel
theorem dWs_bigSigma0_7 : decode cWs_bigSigma0 7 = .ok (.lshl, 1) := by decide +kernel
theorem dWs_bigSigma0_8 : decode cWs_bigSigma0 8 = .ok (.lor, 1) := by decide +kernel
theorem dWs_bigSigma0_9 : decode cWs_bigSigma0 9 = .ok (.lload_n 0, 1) := by decide +kernel
theorem dWs_bigSigma0_10 : decode cWs_bigSigma0 10 = .ok (.bipush 34, 2) := by decide +kernel
theorem dWs_bigSigma0_12 : decode cWs_bigSigma0 12 = .ok (.lushr, 1) := by decide +kernel
theorem dWs_bigSigma0_13 : decode cWs_bigSigma0 13 = .ok (.lload_n 0, 1) := by decide +kernel
theorem dWs_bigSigma0_14 : decode cWs_bigSigma0 14 = .ok (.bipush 30, 2) := by decide +kernel
theorem dWs_bigSigma0_16 : decode cWs_bigSigma0 16 = .ok (.lshl, 1) := by decide +kernel
theorem dWs_bigSigma0_17 : decode cWs_bigSigma0 17 = .ok (.lor, 1) := by decide +kernel
theorem dWs_bigSigma0_18 : decode cWs_bigSigma0 18 = .ok (.lxor, 1) := by decide +kernel
theorem dWs_bigSigma0_19 : decode cWs_bigSigma0 19 = .ok (.lload_n 0, 1) := by decide +kernel
theorem dWs_bigSigma0_20 : decode cWs_bigSigma0 20 = .ok (.bipush 39, 2) := by decide +kernel
theorem dWs_bigSigma0_22 : decode cWs_bigSigma0 22 = .ok (.lushr, 1) := by decide +kernel
theorem dWs_bigSigma0_23 : decode cWs_bigSigma0 23 = .ok (.lload_n 0, 1) := by decide +kernel
theorem dWs_bigSigma0_24 : decode cWs_bigSigma0 24 = .ok (.bipush 25, 2) := by decide +kernel
theorem dWs_bigSigma0_26 : decode cWs_bigSigma0 26 = .ok (.lshl, 1) := by decide +kernel
theorem dWs_bigSigma0_27 : decode cWs_bigSigma0 27 = .ok (.lor, 1) := by decide +kernel
theorem dWs_bigSigma0_28 : decode cWs_bigSigma0 28 = .ok (.lxor, 1) := by decide +kernel
theorem dWs_bigSigma0_29 : decode cWs_bigSigma0 29 = .ok (.lreturn, 1) := by decide +kernel
theorem dWs_bigSigma1_0 : decode cWs_bigSigma1 0 = .ok (.lload_n 0, 1) := by decide +kernel
theorem dWs_bigSigma1_1 : decode cWs_bigSigma1 1 = .ok (.bipush 14, 2) := by decide +kernel
theorem dWs_bigSigma1_3 : decode cWs_bigSigma1 3 = .ok (.lushr, 1) := by decide +kernel
theorem dWs_bigSigma1_4 : decode cWs_bigSigma1 4 = .ok (.lload_n 0, 1) := by decide +kernel
theorem dWs_bigSigma1_5 : decode cWs_bigSigma1 5 = .ok (.bipush 50, 2) := by decide +kernel
theorem dWs_bigSigma1_7 : decode cWs_bigSigma1 7 = .ok (.lshl, 1) := by decide +kernel
theorem dWs_bigSigma1_8 : decode cWs_bigSigma1 8 = .ok (.lor, 1) := by decide +kernel
theorem dWs_bigSigma1_9 : decode cWs_bigSigma1 9 = .ok (.lload_n 0, 1) := by decide +kernel
theorem dWs_bigSigma1_10 : decode cWs_bigSigma1 10 = .ok (.bipush 18, 2) := by decide +kernel
theorem dWs_bigSigma1_12 : decode cWs_bigSigma1 12 = .ok (.lushr, 1) := by decide +kernel
theorem dWs_bigSigma1_13 : decode cWs_bigSigma1 13 = .ok (.lload_n 0, 1) := by decide +kernel
theorem dWs_bigSigma1_14 : decode cWs_bigSigma1 14 = .ok (.bipush 46, 2) := by decide +kernel
theorem dWs_bigSigma1_16 : decode cWs_bigSigma1 16 = .ok (.lshl, 1) := by decide +kernel
theorem dWs_bigSigma1_17 : decode cWs_bigSigma1 17 = .ok (.lor, 1) := by decide +kernel
theorem dWs_bigSigma1_18 : decode cWs_bigSigma1 18 = .ok (.lxor, 1) := by decide +kernel
theorem dWs_bigSigma1_19 : decode cWs_bigSigma1 19 = .ok (.lload_n 0, 1) := by decide +kernel
theorem dWs_bigSigma1_20 : decode cWs_bigSigma1 20 = .ok (.bipush 41, 2) := by decide +kernel
theorem dWs_bigSigma1_22 : decode cWs_bigSigma1 22 = .ok (.lushr, 1) := by decide +kernel
theorem dWs_bigSigma1_23 : decode cWs_bigSigma1 23 = .ok (.lload_n 0, 1) := by decide +kernel
theorem dWs_bigSigma1_24 : decode cWs_bigSigma1 24 = .ok (.bipush 23, 2) := by decide +kernel
theorem dWs_bigSigma1_26 : decode cWs_bigSigma1 26 = .ok (.lshl, 1) := by decide +kernel
theorem dWs_bigSigma1_27 : decode cWs_bigSigma1 27 = .ok (.lor, 1) := by decide +kernel
theorem dWs_bigSigma1_28 : decode cWs_bigSigma1 28 = .ok (.lxor, 1) := by decide +kernel
theorem dWs_bigSigma1_29 : decode cWs_bigSigma1 29 = .ok (.lreturn, 1) := by decide +kernel
theorem dWs_fillSchedule_0 : decode cWs_fillSchedule 0 = .ok (.iconst 0, 1) := by decide +kernel
theorem dWs_fillSchedule_1 : decode cWs_fillSchedule 1 = .ok (.istore_n 1, 1) := by decide +kernel
theorem dWs_fillSchedule_2 : decode cWs_fillSchedule 2 = .ok (.iload_n 1, 1) := by decide +kernel
theorem dWs_fillSchedule_3 : decode cWs_fillSchedule 3 = .ok (.bipush 16, 2) := by decide +kernel
theorem dWs_fillSchedule_5 : decode cWs_fillSchedule 5 = .ok (.if_icmp .ge 57, 3) := by decide +kernel
theorem dWs_fillSchedule_8 : decode cWs_fillSchedule 8 = .ok (.lconst 0, 1) := by decide +kernel
theorem dWs_fillSchedule_9 : decode cWs_fillSchedule 9 = .ok (.lstore_n 2, 1) := by decide +kernel
theorem dWs_fillSchedule_10 : decode cWs_fillSchedule 10 = .ok (.iconst 0, 1) := by decide +kernel
theorem dWs_fillSchedule_11 : decode cWs_fillSchedule 11 = .ok (.istore 4, 2) := by decide +kernel
theorem dWs_fillSchedule_13 : decode cWs_fillSchedule 13 = .ok (.iload 4, 2) := by decide +kernel
theorem dWs_fillSchedule_15 : decode cWs_fillSchedule 15 = .ok (.bipush 8, 2) := by decide +kernel
theorem dWs_fillSchedule_17 : decode cWs_fillSchedule 17 = .ok (.if_icmp .ge 32, 3) := by decide +kernel
theorem dWs_fillSchedule_20 : decode cWs_fillSchedule 20 = .ok (.lload_n 2, 1) := by decide +kernel
theorem dWs_fillSchedule_21 : decode cWs_fillSchedule 21 = .ok (.bipush 8, 2) := by decide +kernel
theorem dWs_fillSchedule_23 : decode cWs_fillSchedule 23 = .ok (.lshl, 1) := by decide +kernel
theorem dWs_fillSchedule_24 : decode cWs_fillSchedule 24 = .ok (.aload_n 0, 1) := by decide +kernel
theorem dWs_fillSchedule_25 : decode cWs_fillSchedule 25 = .ok (.getfield 28, 3) := by decide +kernel
theorem dWs_fillSchedule_28 : decode cWs_fillSchedule 28 = .ok (.bipush 8, 2) := by decide +kernel
theorem dWs_fillSchedule_30 : decode cWs_fillSchedule 30 = .ok (.iload_n 1, 1) := by decide +kernel
theorem dWs_fillSchedule_31 : decode cWs_fillSchedule 31 = .ok (.imul, 1) := by decide +kernel
theorem dWs_fillSchedule_32 : decode cWs_fillSchedule 32 = .ok (.iload 4, 2) := by decide +kernel
theorem dWs_fillSchedule_34 : decode cWs_fillSchedule 34 = .ok (.iadd, 1) := by decide +kernel
theorem dWs_fillSchedule_35 : decode cWs_fillSchedule 35 = .ok (.baload, 1) := by decide +kernel
theorem dWs_fillSchedule_36 : decode cWs_fillSchedule 36 = .ok (.sipush 255, 3) := by decide +kernel
theorem dWs_fillSchedule_39 : decode cWs_fillSchedule 39 = .ok (.iand, 1) := by decide +kernel
theorem dWs_fillSchedule_40 : decode cWs_fillSchedule 40 = .ok (.i2l, 1) := by decide +kernel
theorem dWs_fillSchedule_41 : decode cWs_fillSchedule 41 = .ok (.lor, 1) := by decide +kernel
theorem dWs_fillSchedule_42 : decode cWs_fillSchedule 42 = .ok (.lstore_n 2, 1) := by decide +kernel
theorem dWs_fillSchedule_43 : decode cWs_fillSchedule 43 = .ok (.iinc 4 1, 3) := by decide +kernel
theorem dWs_fillSchedule_46 : decode cWs_fillSchedule 46 = .ok (.goto (-33), 3) := by decide +kernel
theorem dWs_fillSchedule_49 : decode cWs_fillSchedule 49 = .ok (.aload_n 0, 1) := by decide +kernel
theorem dWs_fillSchedule_50 : decode cWs_fillSchedule 50 = .ok (.getfield 7, 3) := by decide +kernel
theorem dWs_fillSchedule_53 : decode cWs_fillSchedule 53 = .ok (.iload_n 1, 1) := by decide +kernel
theorem dWs_fillSchedule_54 : decode cWs_fillSchedule 54 = .ok (.lload_n 2, 1) := by decide +kernel
theorem dWs_fillSchedule_55 : decode cWs_fillSchedule 55 = .ok (.lastore, 1) := by decide +kernel
theorem dWs_fillSchedule_56 : decode cWs_fillSchedule 56 = .ok (.iinc 1 1, 3) := by decide +kernel
theorem dWs_fillSchedule_59 : decode cWs_fillSchedule 59 = .ok (.goto (-57), 3) := by decide +kernel
theorem dWs_fillSchedule_62 : decode cWs_fillSchedule 62 = .ok (.bipush 16, 2) := by decide +kernel
theorem dWs_fillSchedule_64 : decode cWs_fillSchedule 64 = .ok (.istore_n 1, 1) := by decide +kernel
theorem dWs_fillSchedule_65 : decode cWs_fillSchedule 65 = .ok (.iload_n 1, 1) := by decide +kernel
theorem dWs_fillSchedule_66 : decode cWs_fillSchedule 66 = .ok (.bipush 80, 2) := by decide +kernel
theorem dWs_fillSchedule_68 : decode cWs_fillSchedule 68 = .ok (.if_icmp .ge 59, 3) := by decide +kernel
theorem dWs_fillSchedule_71 : decode cWs_fillSchedule 71 = .ok (.aload_n 0, 1) := by decide +kernel
theorem dWs_fillSchedule_72 : decode cWs_fillSchedule 72 = .ok (.getfield 7, 3) := by decide +kernel
theorem dWs_fillSchedule_75 : decode cWs_fillSchedule 75 = .ok (.iload_n 1, 1) := by decide +kernel
theorem dWs_fillSchedule_76 : decode cWs_fillSchedule 76 = .ok (.aload_n 0, 1) := by decide +kernel
theorem dWs_fillSchedule_77 : decode cWs_fillSchedule 77 = .ok (.getfield 7, 3) := by decide +kernel
theorem dWs_fillSchedule_80 : decode cWs_fillSchedule 80 = .ok (.iload_n 1, 1) := by decide +kernel
theorem dWs_fillSchedule_81 : decode cWs_fillSchedule 81 = .ok (.iconst 2, 1) := by decide +kernel
theorem dWs_fillSchedule_82 : decode cWs_fillSchedule 82 = .ok (.isub, 1) := by decide +kernel
theorem dWs_fillSchedule_83 : decode cWs_fillSchedule 83 = .ok (.laload, 1) := by decide +kernel
theorem dWs_fillSchedule_84 : decode cWs_fillSchedule 84 = .ok (.invokestatic 32, 3) := by decide +kernel
theorem dWs_fillSchedule_87 : decode cWs_fillSchedule 87 = .ok (.aload_n 0, 1) := by decide +kernel
theorem dWs_fillSchedule_88 : decode cWs_fillSchedule 88 = .ok (.getfield 7, 3) := by decide +kernel
theorem dWs_fillSchedule_91 : decode cWs_fillSchedule 91 = .ok (.iload_n 1, 1) := by decide +kernel
theorem dWs_fillSchedule_92 : decode cWs_fillSchedule 92 = .ok (.bipush 7, 2) := by decide +kernel
theorem dWs_fillSchedule_94 : decode cWs_fillSchedule 94 = .ok (.isub, 1) := by decide +kernel
theorem dWs_fillSchedule_95 : decode cWs_fillSchedule 95 = .ok (.laload, 1) := by decide +kernel
theorem dWs_fillSchedule_96 : decode cWs_fillSchedule 96 = .ok (.ladd, 1) := by decide +kernel
theorem dWs_fillSchedule_97 : decode cWs_fillSchedule 97 = .ok (.aload_n 0, 1) := by decide +kernel
theorem dWs_fillSchedule_98 : decode cWs_fillSchedule 98 = .ok (.getfield 7, 3) := by decide +kernel
theorem dWs_fillSchedule_101 : decode cWs_fillSchedule 101 = .ok (.iload_n 1, 1) := by decide +kernel
theorem dWs_fillSchedule_102 : decode cWs_fillSchedule 102 = .ok (.bipush 15, 2) := by decide +kernel
theorem dWs_fillSchedule_104 : decode cWs_fillSchedule 104 = .ok (.isub, 1) := by decide +kernel
theorem dWs_fillSchedule_105 : decode cWs_fillSchedule 105 = .ok (.laload, 1) := by decide +kernel
theorem dWs_fillSchedule_106 : decode cWs_fillSchedule 106 = .ok (.invokestatic 35, 3) := by decide +kernel
theorem dWs_fillSchedule_109 : decode cWs_fillSchedule 109 = .ok (.ladd, 1) := by decide +kernel
theorem dWs_fillSchedule_110 : decode cWs_fillSchedule 110 = .ok (.aload_n 0, 1) := by decide +kernel
theorem dWs_fillSchedule_111 : decode cWs_fillSchedule 111 = .ok (.getfield 7, 3) := by decide +kernel
theorem dWs_fillSchedule_114 : decode cWs_fillSchedule 114 = .ok (.iload_n 1, 1) := by decide +kernel
theorem dWs_fillSchedule_115 : decode cWs_fillSchedule 115 = .ok (.bipush 16, 2) := by decide +kernel
theorem dWs_fillSchedule_117 : decode cWs_fillSchedule 117 = .ok (.isub, 1) := by decide +kernel
theorem dWs_fillSchedule_118 : decode cWs_fillSchedule 118 = .ok (.laload, 1) := by decide +kernel
theorem dWs_fillSchedule_119 : decode cWs_fillSchedule 119 = .ok (.ladd, 1) := by decide +kernel
theorem dWs_fillSchedule_120 : decode cWs_fillSchedule 120 = .ok (.lastore, 1) := by decide +kernel
theorem dWs_fillSchedule_121 : decode cWs_fillSchedule 121 = .ok (.iinc 1 1, 3) := by decide +kernel
theorem dWs_fillSchedule_124 : decode cWs_fillSchedule 124 = .ok (.goto (-59), 3) := by decide +kernel
theorem dWs_fillSchedule_127 : decode cWs_fillSchedule 127 = .ok (.return_, 1) := by decide +kernel
theorem dWs_mixSchedule_0 : decode cWs_mixSchedule 0 = .ok (.aload_n 0, 1) := by decide +kernel
theorem dWs_mixSchedule_1 : decode cWs_mixSchedule 1 = .ok (.getfield 13, 3) := by decide +kernel
theorem dWs_mixSchedule_4 : decode cWs_mixSchedule 4 = .ok (.iconst 0, 1) := by decide +kernel
theorem dWs_mixSchedule_5 : decode cWs_mixSchedule 5 = .ok (.laload, 1) := by decide +kernel
theorem dWs_mixSchedule_6 : decode cWs_mixSchedule 6 = .ok (.lstore_n 1, 1) := by decide +kernel
theorem dWs_mixSchedule_7 : decode cWs_mixSchedule 7 = .ok (.aload_n 0, 1) := by decide +kernel
theorem dWs_mixSchedule_8 : decode cWs_mixSchedule 8 = .ok (.getfield 13, 3) := by decide +kernel
theorem dWs_mixSchedule_11 : decode cWs_mixSchedule 11 = .ok (.iconst 1, 1) := by decide +kernel
theorem dWs_mixSchedule_12 : decode cWs_mixSchedule 12 = .ok (.laload, 1) := by decide +kernel
theorem dWs_mixSchedule_13 : decode cWs_mixSchedule 13 = .ok (.lstore_n 3, 1) := by decide +kernel
theorem dWs_mixSchedule_14 : decode cWs_mixSchedule 14 = .ok (.aload_n 0, 1) := by decide +kernel
theorem dWs_mixSchedule_15 : decode cWs_mixSchedule 15 = .ok (.getfield 13, 3) := by decide +kernel
theorem dWs_mixSchedule_18 : decode cWs_mixSchedule 18 = .ok (.iconst 2, 1) := by decide +kernel
theorem dWs_mixSchedule_19 : decode cWs_mixSchedule 19 = .ok (.laload, 1) := by decide +kernel
theorem dWs_mixSchedule_20 : decode cWs_mixSchedule 20 = .ok (.lstore 5, 2) := by decide +kernel
theorem dWs_mixSchedule_22 : decode cWs_mixSchedule 22 = .ok (.aload_n 0, 1) := by decide +kernel
theorem dWs_mixSchedule_23 : decode cWs_mixSchedule 23 = .ok (.getfield 13, 3) := by decide +kernel
theorem dWs_mixSchedule_26 : decode cWs_mixSchedule 26 = .ok (.iconst 3, 1) := by decide +kernel
theorem dWs_mixSchedule_27 : decode cWs_mixSchedule 27 = .ok (.laload, 1) := by decide +kernel
theorem dWs_mixSchedule_28 : decode cWs_mixSchedule 28 = .ok (.lstore 7, 2) := by decide +kernel
theorem dWs_mixSchedule_30 : decode cWs_mixSchedule 30 = .ok (.aload_n 0, 1) := by decide +kernel
theorem dWs_mixSchedule_31 : decode cWs_mixSchedule 31 = .ok (.getfield 13, 3) := by decide +kernel
theorem dWs_mixSchedule_34 : decode cWs_mixSchedule 34 = .ok (.iconst 4, 1) := by decide +kernel
theorem dWs_mixSchedule_35 : decode cWs_mixSchedule 35 = .ok (.laload, 1) := by decide +kernel
theorem dWs_mixSchedule_36 : decode cWs_mixSchedule 36 = .ok (.lstore 9, 2) := by decide +kernel
theorem dWs_mixSchedule_38 : decode cWs_mixSchedule 38 = .ok (.aload_n 0, 1) := by decide +kernel
theorem dWs_mixSchedule_39 : decode cWs_mixSchedule 39 = .ok (.getfield 13, 3) := by decide +kernel
theorem dWs_mixSchedule_42 : decode cWs_mixSchedule 42 = .ok (.iconst 5, 1) := by decide +kernel
theorem dWs_mixSchedule_43 : decode cWs_mixSchedule 43 = .ok (.laload, 1) := by decide +kernel
theorem dWs_mixSchedule_44 : decode cWs_mixSchedule 44 = .ok (.lstore 11, 2) := by decide +kernel
theorem dWs_mixSchedule_46 : decode cWs_mixSchedule 46 = .ok (.aload_n 0, 1) := by decide +kernel
theorem dWs_mixSchedule_47 : decode cWs_mixSchedule 47 = .ok (.getfield 13, 3) := by decide +kernel
theorem dWs_mixSchedule_50 : decode cWs_mixSchedule 50 = .ok (.bipush 6, 2) := by decide +kernel
theorem dWs_mixSchedule_52 : decode cWs_mixSchedule 52 = .ok (.laload, 1) := by decide +kernel
theorem dWs_mixSchedule_53 : decode cWs_mixSchedule 53 = .ok (.lstore 13, 2) := by decide +kernel
theorem dWs_mixSchedule_55 : decode cWs_mixSchedule 55 = .ok (.aload_n 0, 1) := by decide +kernel
theorem dWs_mixSchedule_56 : decode cWs_mixSchedule 56 = .ok (.getfield 13, 3) := by decide +kernel
theorem dWs_mixSchedule_59 : decode cWs_mixSchedule 59 = .ok (.bipush 7, 2) := by decide +kernel
theorem dWs_mixSchedule_61 : decode cWs_mixSchedule 61 = .ok (.laload, 1) := by decide +kernel
theorem dWs_mixSchedule_62 : decode cWs_mixSchedule 62 = .ok (.lstore 15, 2) := by decide +kernel
theorem dWs_mixSchedule_64 : decode cWs_mixSchedule 64 = .ok (.iconst 0, 1) := by decide +kernel
theorem dWs_mixSchedule_65 : decode cWs_mixSchedule 65 = .ok (.istore 17, 2) := by decide +kernel
theorem dWs_mixSchedule_67 : decode cWs_mixSchedule 67 = .ok (.iload 17, 2) := by decide +kernel
theorem dWs_mixSchedule_69 : decode cWs_mixSchedule 69 = .ok (.bipush 80, 2) := by decide +kernel
theorem dWs_mixSchedule_71 : decode cWs_mixSchedule 71 = .ok (.if_icmp .ge 104, 3) := by decide +kernel
theorem dWs_mixSchedule_74 : decode cWs_mixSchedule 74 = .ok (.lload 15, 2) := by decide +kernel
theorem dWs_mixSchedule_76 : decode cWs_mixSchedule 76 = .ok (.lload 9, 2) := by decide +kernel
theorem dWs_mixSchedule_78 : decode cWs_mixSchedule 78 = .ok (.invokestatic 16, 3) := by decide +kernel
theorem dWs_mixSchedule_81 : decode cWs_mixSchedule 81 = .ok (.ladd, 1) := by decide +kernel
theorem dWs_mixSchedule_82 : decode cWs_mixSchedule 82 = .ok (.lload 9, 2) := by decide +kernel
theorem dWs_mixSchedule_84 : decode cWs_mixSchedule 84 = .ok (.lload 11, 2) := by decide +kernel
theorem dWs_mixSchedule_86 : decode cWs_mixSchedule 86 = .ok (.land, 1) := by decide +kernel
theorem dWs_mixSchedule_87 : decode cWs_mixSchedule 87 = .ok (.lload 9, 2) := by decide +kernel
theorem dWs_mixSchedule_89 : decode cWs_mixSchedule 89 = .ok (.ldc2_w 20, 3) := by decide +kernel
theorem dWs_mixSchedule_92 : decode cWs_mixSchedule 92 = .ok (.lxor, 1) := by decide +kernel
theorem dWs_mixSchedule_93 : decode cWs_mixSchedule 93 = .ok (.lload 13, 2) := by decide +kernel
theorem dWs_mixSchedule_95 : decode cWs_mixSchedule 95 = .ok (.land, 1) := by decide +kernel
theorem dWs_mixSchedule_96 : decode cWs_mixSchedule 96 = .ok (.lxor, 1) := by decide +kernel
theorem dWs_mixSchedule_97 : decode cWs_mixSchedule 97 = .ok (.ladd, 1) := by decide +kernel
theorem dWs_mixSchedule_98 : decode cWs_mixSchedule 98 = .ok (.getstatic 22, 3) := by decide +kernel
theorem dWs_mixSchedule_101 : decode cWs_mixSchedule 101 = .ok (.iload 17, 2) := by decide +kernel
theorem dWs_mixSchedule_103 : decode cWs_mixSchedule 103 = .ok (.laload, 1) := by decide +kernel
theorem dWs_mixSchedule_104 : decode cWs_mixSchedule 104 = .ok (.ladd, 1) := by decide +kernel
theorem dWs_mixSchedule_105 : decode cWs_mixSchedule 105 = .ok (.aload_n 0, 1) := by decide +kernel
theorem dWs_mixSchedule_106 : decode cWs_mixSchedule 106 = .ok (.getfield 7, 3) := by decide +kernel
theorem dWs_mixSchedule_109 : decode cWs_mixSchedule 109 = .ok (.iload 17, 2) := by decide +kernel
theorem dWs_mixSchedule_111 : decode cWs_mixSchedule 111 = .ok (.laload, 1) := by decide +kernel
theorem dWs_mixSchedule_112 : decode cWs_mixSchedule 112 = .ok (.ladd, 1) := by decide +kernel
theorem dWs_mixSchedule_113 : decode cWs_mixSchedule 113 = .ok (.lstore 18, 2) := by decide +kernel
theorem dWs_mixSchedule_115 : decode cWs_mixSchedule 115 = .ok (.lload_n 1, 1) := by decide +kernel
theorem dWs_mixSchedule_116 : decode cWs_mixSchedule 116 = .ok (.invokestatic 25, 3) := by decide +kernel
theorem dWs_mixSchedule_119 : decode cWs_mixSchedule 119 = .ok (.lload_n 1, 1) := by decide +kernel
theorem dWs_mixSchedule_120 : decode cWs_mixSchedule 120 = .ok (.lload_n 3, 1) := by decide +kernel
theorem dWs_mixSchedule_121 : decode cWs_mixSchedule 121 = .ok (.land, 1) := by decide +kernel
theorem dWs_mixSchedule_122 : decode cWs_mixSchedule 122 = .ok (.lload_n 1, 1) := by decide +kernel
theorem dWs_mixSchedule_123 : decode cWs_mixSchedule 123 = .ok (.lload 5, 2) := by decide +kernel
theorem dWs_mixSchedule_125 : decode cWs_mixSchedule 125 = .ok (.land, 1) := by decide +kernel
theorem dWs_mixSchedule_126 : decode cWs_mixSchedule 126 = .ok (.lxor, 1) := by decide +kernel
theorem dWs_mixSchedule_127 : decode cWs_mixSchedule 127 = .ok (.lload_n 3, 1) := by decide +kernel
theorem dWs_mixSchedule_128 : decode cWs_mixSchedule 128 = .ok (.lload 5, 2) := by decide +kernel
theorem dWs_mixSchedule_130 : decode cWs_mixSchedule 130 = .ok (.land, 1) := by decide +kernel
theorem dWs_mixSchedule_131 : decode cWs_mixSchedule 131 = .ok (.lxor, 1) := by decide +kernel
theorem dWs_mixSchedule_132 : decode cWs_mixSchedule 132 = .ok (.ladd, 1) := by decide +kernel
theorem dWs_mixSchedule_133 : decode cWs_mixSchedule 133 = .ok (.lstore 20, 2) := by decide +kernel
theorem dWs_mixSchedule_135 : decode cWs_mixSchedule 135 = .ok (.lload 13, 2) := by decide +kernel
theorem dWs_mixSchedule_137 : decode cWs_mixSchedule 137 = .ok (.lstore 15, 2) := by decide +kernel
theorem dWs_mixSchedule_139 : decode cWs_mixSchedule 139 = .ok (.lload 11, 2) := by decide +kernel
theorem dWs_mixSchedule_141 : decode cWs_mixSchedule 141 = .ok (.lstore 13, 2) := by decide +kernel
theorem dWs_mixSchedule_143 : decode cWs_mixSchedule 143 = .ok (.lload 9, 2) := by decide +kernel
theorem dWs_mixSchedule_145 : decode cWs_mixSchedule 145 = .ok (.lstore 11, 2) := by decide +kernel
theorem dWs_mixSchedule_147 : decode cWs_mixSchedule 147 = .ok (.lload 7, 2) := by decide +kernel
theorem dWs_mixSchedule_149 : decode cWs_mixSchedule 149 = .ok (.lload 18, 2) := by decide +kernel
theorem dWs_mixSchedule_151 : decode cWs_mixSchedule 151 = .ok (.ladd, 1) := by decide +kernel
theorem dWs_mixSchedule_152 : decode cWs_mixSchedule 152 = .ok (.lstore 9, 2) := by decide +kernel
theorem dWs_mixSchedule_154 : decode cWs_mixSchedule 154 = .ok (.lload 5, 2) := by decide +kernel
theorem dWs_mixSchedule_156 : decode cWs_mixSchedule 156 = .ok (.lstore 7, 2) := by decide +kernel
theorem dWs_mixSchedule_158 : decode cWs_mixSchedule 158 = .ok (.lload_n 3, 1) := by decide +kernel
theorem dWs_mixSchedule_159 : decode cWs_mixSchedule 159 = .ok (.lstore 5, 2) := by decide +kernel
theorem dWs_mixSchedule_161 : decode cWs_mixSchedule 161 = .ok (.lload_n 1, 1) := by decide +kernel
theorem dWs_mixSchedule_162 : decode cWs_mixSchedule 162 = .ok (.lstore_n 3, 1) := by decide +kernel
theorem dWs_mixSchedule_163 : decode cWs_mixSchedule 163 = .ok (.lload 18, 2) := by decide +kernel
theorem dWs_mixSchedule_165 : decode cWs_mixSchedule 165 = .ok (.lload 20, 2) := by decide +kernel
theorem dWs_mixSchedule_167 : decode cWs_mixSchedule 167 = .ok (.ladd, 1) := by decide +kernel
theorem dWs_mixSchedule_168 : decode cWs_mixSchedule 168 = .ok (.lstore_n 1, 1) := by decide +kernel
theorem dWs_mixSchedule_169 : decode cWs_mixSchedule 169 = .ok (.iinc 17 1, 3) := by decide +kernel
theorem dWs_mixSchedule_172 : decode cWs_mixSchedule 172 = .ok (.goto (-105), 3) := by decide +kernel
theorem dWs_mixSchedule_175 : decode cWs_mixSchedule 175 = .ok (.aload_n 0, 1) := by decide +kernel
theorem dWs_mixSchedule_176 : decode cWs_mixSchedule 176 = .ok (.getfield 13, 3) := by decide +kernel
theorem dWs_mixSchedule_179 : decode cWs_mixSchedule 179 = .ok (.iconst 0, 1) := by decide +kernel
theorem dWs_mixSchedule_180 : decode cWs_mixSchedule 180 = .ok (.dup2, 1) := by decide +kernel
theorem dWs_mixSchedule_181 : decode cWs_mixSchedule 181 = .ok (.laload, 1) := by decide +kernel
theorem dWs_mixSchedule_182 : decode cWs_mixSchedule 182 = .ok (.lload_n 1, 1) := by decide +kernel
theorem dWs_mixSchedule_183 : decode cWs_mixSchedule 183 = .ok (.ladd, 1) := by decide +kernel
theorem dWs_mixSchedule_184 : decode cWs_mixSchedule 184 = .ok (.lastore, 1) := by decide +kernel
theorem dWs_mixSchedule_185 : decode cWs_mixSchedule 185 = .ok (.aload_n 0, 1) := by decide +kernel
theorem dWs_mixSchedule_186 : decode cWs_mixSchedule 186 = .ok (.getfield 13, 3) := by decide +kernel
theorem dWs_mixSchedule_189 : decode cWs_mixSchedule 189 = .ok (.iconst 1, 1) := by decide +kernel
theorem dWs_mixSchedule_190 : decode cWs_mixSchedule 190 = .ok (.dup2, 1) := by decide +kernel
theorem dWs_mixSchedule_191 : decode cWs_mixSchedule 191 = .ok (.laload, 1) := by decide +kernel
theorem dWs_mixSchedule_192 : decode cWs_mixSchedule 192 = .ok (.lload_n 3, 1) := by decide +kernel
theorem dWs_mixSchedule_193 : decode cWs_mixSchedule 193 = .ok (.ladd, 1) := by decide +kernel
theorem dWs_mixSchedule_194 : decode cWs_mixSchedule 194 = .ok (.lastore, 1) := by decide +kernel
theorem dWs_mixSchedule_195 : decode cWs_mixSchedule 195 = .ok (.aload_n 0, 1) := by decide +kernel
theorem dWs_mixSchedule_196 : decode cWs_mixSchedule 196 = .ok (.getfield 13, 3) := by decide +kernel
theorem dWs_mixSchedule_199 : decode cWs_mixSchedule 199 = .ok (.iconst 2, 1) := by decide +kernel
theorem dWs_mixSchedule_200 : decode cWs_mixSchedule 200 = .ok (.dup2, 1) := by decide +kernel
theorem dWs_mixSchedule_201 : decode cWs_mixSchedule 201 = .ok (.laload, 1) := by decide +kernel
theorem dWs_mixSchedule_202 : decode cWs_mixSchedule 202 = .ok (.lload 5, 2) := by decide +kernel
theorem dWs_mixSchedule_204 : decode cWs_mixSchedule 204 = .ok (.ladd, 1) := by decide +kernel
theorem dWs_mixSchedule_205 : decode cWs_mixSchedule 205 = .ok (.lastore, 1) := by decide +kernel
theorem dWs_mixSchedule_206 : decode cWs_mixSchedule 206 = .ok (.aload_n 0, 1) := by decide +kernel
theorem dWs_mixSchedule_207 : decode cWs_mixSchedule 207 = .ok (.getfield 13, 3) := by decide +kernel
theorem dWs_mixSchedule_210 : decode cWs_mixSchedule 210 = .ok (.iconst 3, 1) := by decide +kernel
theorem dWs_mixSchedule_211 : decode cWs_mixSchedule 211 = .ok (.dup2, 1) := by decide +kernel
theorem dWs_mixSchedule_212 : decode cWs_mixSchedule 212 = .ok (.laload, 1) := by decide +kernel
theorem dWs_mixSchedule_213 : decode cWs_mixSchedule 213 = .ok (.lload 7, 2) := by decide +kernel
theorem dWs_mixSchedule_215 : decode cWs_mixSchedule 215 = .ok (.ladd, 1) := by decide +kernel
theorem dWs_mixSchedule_216 : decode cWs_mixSchedule 216 = .ok (.lastore, 1) := by decide +kernel
theorem dWs_mixSchedule_217 : decode cWs_mixSchedule 217 = .ok (.aload_n 0, 1) := by decide +kernel
theorem dWs_mixSchedule_218 : decode cWs_mixSchedule 218 = .ok (.getfield 13, 3) := by decide +kernel
theorem dWs_mixSchedule_221 : decode cWs_mixSchedule 221 = .ok (.iconst 4, 1) := by decide +kernel
theorem dWs_mixSchedule_222 : decode cWs_mixSchedule 222 = .ok (.dup2, 1) := by decide +kernel
theorem dWs_mixSchedule_223 : decode cWs_mixSchedule 223 = .ok (.laload, 1) := by decide +kernel
theorem dWs_mixSchedule_224 : decode cWs_mixSchedule 224 = .ok (.lload 9, 2) := by decide +kernel
theorem dWs_mixSchedule_226 : decode cWs_mixSchedule 226 = .ok (.ladd, 1) := by decide +kernel
theorem dWs_mixSchedule_227 : decode cWs_mixSchedule 227 = .ok (.lastore, 1) := by decide +kernel
theorem dWs_mixSchedule_228 : decode cWs_mixSchedule 228 = .ok (.aload_n 0, 1) := by decide +kernel
theorem dWs_mixSchedule_229 : decode cWs_mixSchedule 229 = .ok (.getfield 13, 3) := by decide +kernel
theorem dWs_mixSchedule_232 : decode cWs_mixSchedule 232 = .ok (.iconst 5, 1) := by decide +kernel
theorem dWs_mixSchedule_233 : decode cWs_mixSchedule 233 = .ok (.dup2, 1) := by decide +kernel
theorem dWs_mixSchedule_234 : decode cWs_mixSchedule 234 = .ok (.laload, 1) := by decide +kernel
theorem dWs_mixSchedule_235 : decode cWs_mixSchedule 235 = .ok (.lload 11, 2) := by decide +kernel
theorem dWs_mixSchedule_237 : decode cWs_mixSchedule 237 = .ok (.ladd, 1) := by decide +kernel
theorem dWs_mixSchedule_238 : decode cWs_mixSchedule 238 = .ok (.lastore, 1) := by decide +kernel
theorem dWs_mixSchedule_239 : decode cWs_mixSchedule 239 = .ok (.aload_n 0, 1) := by decide +kernel
theorem dWs_mixSchedule_240 : decode cWs_mixSchedule 240 = .ok (.getfield 13, 3) := by decide +kernel
theorem dWs_mixSchedule_243 : decode cWs_mixSchedule 243 = .ok (.bipush 6, 2) := by decide +kernel
theorem dWs_mixSchedule_245 : decode cWs_mixSchedule 245 = .ok (.dup2, 1) := by decide +kernel
theorem dWs_mixSchedule_246 : decode cWs_mixSchedule 246 = .ok (.laload, 1) := by decide +kernel
theorem dWs_mixSchedule_247 : decode cWs_mixSchedule 247 = .ok (.lload 13, 2) := by decide +kernel
theorem dWs_mixSchedule_249 : decode cWs_mixSchedule 249 = .ok (.ladd, 1) := by decide +kernel
theorem dWs_mixSchedule_250 : decode cWs_mixSchedule 250 = .ok (.lastore, 1) := by decide +kernel
theorem dWs_mixSchedule_251 : decode cWs_mixSchedule 251 = .ok (.aload_n 0, 1) := by decide +kernel
theorem dWs_mixSchedule_252 : decode cWs_mixSchedule 252 = .ok (.getfield 13, 3) := by decide +kernel
theorem dWs_mixSchedule_255 : decode cWs_mixSchedule 255 = .ok (.bipush 7, 2) := by decide +kernel
theorem dWs_mixSchedule_257 : decode cWs_mixSchedule 257 = .ok (.dup2, 1) := by decide +kernel
theorem dWs_mixSchedule_258 : decode cWs_mixSchedule 258 = .ok (.laload, 1) := by decide +kernel
theorem dWs_mixSchedule_259 : decode cWs_mixSchedule 259 = .ok (.lload 15, 2) := by decide +kernel
theorem dWs_mixSchedule_261 : decode cWs_mixSchedule 261 = .ok (.ladd, 1) := by decide +kernel
theorem dWs_mixSchedule_262 : decode cWs_mixSchedule 262 = .ok (.lastore, 1) := by decide +kernel
theorem dWs_mixSchedule_263 : decode cWs_mixSchedule 263 = .ok (.return_, 1) := by decide +kernel
theorem dWs_smallSigma0_0 : decode cWs_smallSigma0 0 = .ok (.lload_n 0, 1) := by decide +kernel
theorem dWs_smallSigma0_1 : decode cWs_smallSigma0 1 = .ok (.iconst 1, 1) := by decide +kernel
theorem dWs_smallSigma0_2 : decode cWs_smallSigma0 2 = .ok (.lushr, 1) := by decide +kernel
theorem dWs_smallSigma0_3 : decode cWs_smallSigma0 3 = .ok (.lload_n 0, 1) := by decide +kernel
theorem dWs_smallSigma0_4 : decode cWs_smallSigma0 4 = .ok (.bipush 63, 2) := by decide +kernel
theorem dWs_smallSigma0_6 : decode cWs_smallSigma0 6 = .ok (.lshl, 1) := by decide +kernel
theorem dWs_smallSigma0_7 : decode cWs_smallSigma0 7 = .ok (.lor, 1) := by decide +kernel
theorem dWs_smallSigma0_8 : decode cWs_smallSigma0 8 = .ok (.lload_n 0, 1) := by decide +kernel
theorem dWs_smallSigma0_9 : decode cWs_smallSigma0 9 = .ok (.bipush 8, 2) := by decide +kernel
theorem dWs_smallSigma0_11 : decode cWs_smallSigma0 11 = .ok (.lushr, 1) := by decide +kernel
theorem dWs_smallSigma0_12 : decode cWs_smallSigma0 12 = .ok (.lload_n 0, 1) := by decide +kernel
theorem dWs_smallSigma0_13 : decode cWs_smallSigma0 13 = .ok (.bipush 56, 2) := by decide +kernel
theorem dWs_smallSigma0_15 : decode cWs_smallSigma0 15 = .ok (.lshl, 1) := by decide +kernel
theorem dWs_smallSigma0_16 : decode cWs_smallSigma0 16 = .ok (.lor, 1) := by decide +kernel
theorem dWs_smallSigma0_17 : decode cWs_smallSigma0 17 = .ok (.lxor, 1) := by decide +kernel
theorem dWs_smallSigma0_18 : decode cWs_smallSigma0 18 = .ok (.lload_n 0, 1) := by decide +kernel
theorem dWs_smallSigma0_19 : decode cWs_smallSigma0 19 = .ok (.bipush 7, 2) := by decide +kernel
theorem dWs_smallSigma0_21 : decode cWs_smallSigma0 21 = .ok (.lushr, 1) := by decide +kernel
theorem dWs_smallSigma0_22 : decode cWs_smallSigma0 22 = .ok (.lxor, 1) := by decide +kernel
theorem dWs_smallSigma0_23 : decode cWs_smallSigma0 23 = .ok (.lreturn, 1) := by decide +kernel
theorem dWs_smallSigma1_0 : decode cWs_smallSigma1 0 = .ok (.lload_n 0, 1) := by decide +kernel
theorem dWs_smallSigma1_1 : decode cWs_smallSigma1 1 = .ok (.bipush 19, 2) := by decide +kernel
theorem dWs_smallSigma1_3 : decode cWs_smallSigma1 3 = .ok (.lushr, 1) := by decide +kernel
theorem dWs_smallSigma1_4 : decode cWs_smallSigma1 4 = .ok (.lload_n 0, 1) := by decide +kernel
theorem dWs_smallSigma1_5 : decode cWs_smallSigma1 5 = .ok (.bipush 45, 2) := by decide +kernel
theorem dWs_smallSigma1_7 : decode cWs_smallSigma1 7 = .ok (.lshl, 1) := by decide +kernel
theorem dWs_smallSigma1_8 : decode cWs_smallSigma1 8 = .ok (.lor, 1) := by decide +kernel
theorem dWs_smallSigma1_9 : decode cWs_smallSigma1 9 = .ok (.lload_n 0, 1) := by decide +kernel
theorem dWs_smallSigma1_10 : decode cWs_smallSigma1 10 = .ok (.bipush 61, 2) := by decide +kernel
theorem dWs_smallSigma1_12 : decode cWs_smallSigma1 12 = .ok (.lushr, 1) := by decide +kernel
theorem dWs_smallSigma1_13 : decode cWs_smallSigma1 13 = .ok (.lload_n 0, 1) := by decide +kernel
theorem dWs_smallSigma1_14 : decode cWs_smallSigma1 14 = .ok (.iconst 3, 1) := by decide +kernel
theorem dWs_smallSigma1_15 : decode cWs_smallSigma1 15 = .ok (.lshl, 1) := by decide +kernel
theorem dWs_smallSigma1_16 : decode cWs_smallSigma1 16 = .ok (.lor, 1) := by decide +kernel
theorem dWs_smallSigma1_17 : decode cWs_smallSigma1 17 = .ok (.lxor, 1) := by decide +kernel
theorem dWs_smallSigma1_18 : decode cWs_smallSigma1 18 = .ok (.lload_n 0, 1) := by decide +kernel
theorem dWs_smallSigma1_19 : decode cWs_smallSigma1 19 = .ok (.bipush 6, 2) := by decide +kernel
theorem dWs_smallSigma1_21 : decode cWs_smallSigma1 21 = .ok (.lushr, 1) := by decide +kernel
theorem dWs_smallSigma1_22 : decode cWs_smallSigma1 22 = .ok (.lxor, 1) := by decide +kernel
theorem dWs_smallSigma1_23 : decode cWs_smallSigma1 23 = .ok (.lreturn, 1) := by decide +kernel
