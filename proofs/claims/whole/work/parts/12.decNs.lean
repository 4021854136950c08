theorem dNs_init_0 : decode cNs_init 0 = .ok (.aload_n 0, 1) := by decide +kernel
theorem dNs_init_1 : decode cNs_init 1 = .ok (.aload_n 1, 1) := by decide +kernel
theorem dNs_init_2 : decode cNs_init 2 = .ok (.iconst 4, 1) := by decide +kernel
theorem dNs_init_3 : decode cNs_init 3 = .ok (.iload_n 2, 1) := by decide +kernel
theorem dNs_init_4 : decode cNs_init 4 = .ok (.invokespecial 1, 3) := by decide +kernel
theorem dNs_init_7 : decode cNs_init 7 = .ok (.aload_n 0, 1) := by decide +kernel
theorem dNs_init_8 : decode cNs_init 8 = .ok (.bipush 64, 2) := by decide +kernel
theorem dNs_init_10 : decode cNs_init 10 = .ok (.newarray .int, 2) := by decide +kernel
theorem dNs_init_12 : decode cNs_init 12 = .ok (.putfield 7, 3) := by decide +kernel
theorem dNs_init_15 : decode cNs_init 15 = .ok (.return_, 1) := by decide +kernel
theorem dNs_bigSigma0_0 : decode cNs_bigSigma0 0 = .ok (.iload_n 0, 1) := by decide +kernel
theorem dNs_bigSigma0_1 : decode cNs_bigSigma0 1 = .ok (.iconst 2, 1) := by decide +kernel
theorem dNs_bigSigma0_2 : decode cNs_bigSigma0 2 = .ok (.iushr, 1) := by decide +kernel
theorem dNs_bigSigma0_3 : decode cNs_bigSigma0 3 = .ok (.iload_n 0, 1) := by decide +kernel
theorem dNs_bigSigma0_4 : decode cNs_bigSigma0 4 = .ok (.bipush 30, 2) := by decide +kernel
theorem dNs_bigSigma0_6 : decode cNs_bigSigma0 6 = .ok (.ishl, 1) := by decide +kernel
theorem dNs_bigSigma0_7 : decode cNs_bigSigma0 7 = .ok (.ior, 1) := by decide +kernel
theorem dNs_bigSigma0_8 : decode cNs_bigSigma0 8 = .ok (.iload_n 0, 1) := by decide +kernel
theorem dNs_bigSigma0_9 : decode cNs_bigSigma0 9 = .ok (.bipush 13, 2) := by decide +kernel
theorem dNs_bigSigma0_11 : decode cNs_bigSigma0 11 = .ok (.iushr, 1) := by decide +kernel
theorem dNs_bigSigma0_12 : decode cNs_bigSigma0 12 = .ok (.iload_n 0, 1) := by decide +kernel
theorem dNs_bigSigma0_13 : decode cNs_bigSigma0 13 = .ok (.bipush 19, 2) := by decide +kernel
theorem dNs_bigSigma0_15 : decode cNs_bigSigma0 15 = .ok (.ishl, 1) := by decide +kernel
theorem dNs_bigSigma0_16 : decode cNs_bigSigma0 16 = .ok (.ior, 1) := by decide +kernel
theorem dNs_bigSigma0_17 : decode cNs_bigSigma0 17 = .ok (.ixor, 1) := by decide +kernel
theorem dNs_bigSigma0_18 : decode cNs_bigSigma0 18 = .ok (.iload_n 0, 1) := by decide +kernel
theorem dNs_bigSigma0_19 : decode cNs_bigSigma0 19 = .ok (.bipush 22, 2) := by decide +kernel
theorem dNs_bigSigma0_21 : decode cNs_bigSigma0 21 = .ok (.iushr, 1) := by decide +kernel
theorem dNs_bigSigma0_22 : decode cNs_bigSigma0 22 = .ok (.iload_n 0, 1) := by decide +kernel
theorem dNs_bigSigma0_23 : decode cNs_bigSigma0 23 = .ok (.bipush 10, 2) := by decide +kernel
theorem dNs_bigSigma0_25 : decode cNs_bigSigma0 25 = .ok (.ishl, 1) := by decide +kernel
theorem dNs_bigSigma0_26 : decode cNs_bigSigma0 26 = .ok (.ior, 1) := by decide +kernel
theorem dNs_bigSigma0_27 : decode cNs_bigSigma0 27 = .ok (.ixor, 1) := by decide +kernel
theorem dNs_bigSigma0_28 : decode cNs_bigSigma0 28 = .ok (.ireturn, 1) := by decide +kernel
theorem dNs_bigSigma1_0 : decode cNs_bigSigma1 0 = .ok (.iload_n 0, 1) := by decide +kernel
theorem dNs_bigSigma1_1 : decode cNs_bigSigma1 1 = .ok (.bipush 6, 2) := by decide +kernel
theorem dNs_bigSigma1_3 : decode cNs_bigSigma1 3 = .ok (.iushr, 1) := by decide +kernel
theorem dNs_bigSigma1_4 : decode cNs_bigSigma1 4 = .ok (.iload_n 0, 1) := by decide +kernel
theorem dNs_bigSigma1_5 : decode cNs_bigSigma1 5 = .ok (.bipush 26, 2) := by decide +kernel
theorem dNs_bigSigma1_7 : decode cNs_bigSigma1 7 = .ok (.ishl, 1) := by decide +kernel
theorem dNs_bigSigma1_8 : decode cNs_bigSigma1 8 = .ok (.ior, 1) := by decide +kernel
theorem dNs_bigSigma1_9 : decode cNs_bigSigma1 9 = .ok (.iload_n 0, 1) := by decide +kernel
theorem dNs_bigSigma1_10 : decode cNs_bigSigma1 10 = .ok (.bipush 11, 2) := by decide +kernel
theorem dNs_bigSigma1_12 : decode cNs_bigSigma1 12 = .ok (.iushr, 1) := by decide +kernel
theorem dNs_bigSigma1_13 : decode cNs_bigSigma1 13 = .ok (.iload_n 0, 1) := by decide +kernel
theorem dNs_bigSigma1_14 : decode cNs_bigSigma1 14 = .ok (.bipush 21, 2) := by decide +kernel
theorem dNs_bigSigma1_16 : decode cNs_bigSigma1 16 = .ok (.ishl, 1) := by decide +kernel
theorem dNs_bigSigma1_17 : decode cNs_bigSigma1 17 = .ok (.ior, 1) := by decide +kernel
theorem dNs_bigSigma1_18 : decode cNs_bigSigma1 18 = .ok (.ixor, 1) := by decide +kernel
theorem dNs_bigSigma1_19 : decode cNs_bigSigma1 19 = .ok (.iload_n 0, 1) := by decide +kernel
theorem dNs_bigSigma1_20 : decode cNs_bigSigma1 20 = .ok (.bipush 25, 2) := by decide +kernel
theorem dNs_bigSigma1_22 : decode cNs_bigSigma1 22 = .ok (.iushr, 1) := by decide +kernel
theorem dNs_bigSigma1_23 : decode cNs_bigSigma1 23 = .ok (.iload_n 0, 1) := by decide +kernel
theorem dNs_bigSigma1_24 : decode cNs_bigSigma1 24 = .ok (.bipush 7, 2) := by decide +kernel
theorem dNs_bigSigma1_26 : decode cNs_bigSigma1 26 = .ok (.ishl, 1) := by decide +kernel
theorem dNs_bigSigma1_27 : decode cNs_bigSigma1 27 = .ok (.ior, 1) := by decide +kernel
theorem dNs_bigSigma1_28 : decode cNs_bigSigma1 28 = .ok (.ixor, 1) := by decide +kernel
theorem dNs_bigSigma1_29 : decode cNs_bigSigma1 29 = .ok (.ireturn, 1) := by decide +kernel
theorem dNs_fillSchedule_0 : decode cNs_fillSchedule 0 = .ok (.iconst 0, 1) := by decide +kernel
theorem dNs_fillSchedule_1 : decode cNs_fillSchedule 1 = .ok (.istore_n 1, 1) := by decide +kernel
theorem dNs_fillSchedule_2 : decode cNs_fillSchedule 2 = .ok (.iload_n 1, 1) := by decide +kernel
theorem dNs_fillSchedule_3 : decode cNs_fillSchedule 3 = .ok (.bipush 16, 2) := by decide +kernel
theorem dNs_fillSchedule_5 : decode cNs_fillSchedule 5 = .ok (.if_icmp .ge 51, 3) := by decide +kernel
theorem dNs_fillSchedule_8 : decode cNs_fillSchedule 8 = .ok (.iconst 0, 1) := by decide +kernel
theorem dNs_fillSchedule_9 : decode cNs_fillSchedule 9 = .ok (.istore_n 2, 1) := by decide +kernel
theorem dNs_fillSchedule_10 : decode cNs_fillSchedule 10 = .ok (.iconst 0, 1) := by decide +kernel
theorem dNs_fillSchedule_11 : decode cNs_fillSchedule 11 = .ok (.istore_n 3, 1) := by decide +kernel
theorem dNs_fillSchedule_12 : decode cNs_fillSchedule 12 = .ok (.iload_n 3, 1) := by decide +kernel
theorem dNs_fillSchedule_13 : decode cNs_fillSchedule 13 = .ok (.iconst 4, 1) := by decide +kernel
theorem dNs_fillSchedule_14 : decode cNs_fillSchedule 14 = .ok (.if_icmp .ge 29, 3) := by decide +kernel
theorem dNs_fillSchedule_17 : decode cNs_fillSchedule 17 = .ok (.iload_n 2, 1) := by decide +kernel
theorem dNs_fillSchedule_18 : decode cNs_fillSchedule 18 = .ok (.bipush 8, 2) := by decide +kernel
theorem dNs_fillSchedule_20 : decode cNs_fillSchedule 20 = .ok (.ishl, 1) := by decide +kernel
theorem dNs_fillSchedule_21 : decode cNs_fillSchedule 21 = .ok (.aload_n 0, 1) := by decide +kernel
theorem dNs_fillSchedule_22 : decode cNs_fillSchedule 22 = .ok (.getfield 27, 3) := by decide +kernel
theorem dNs_fillSchedule_25 : decode cNs_fillSchedule 25 = .ok (.iconst 4, 1) := by decide +kernel
theorem dNs_fillSchedule_26 : decode cNs_fillSchedule 26 = .ok (.iload_n 1, 1) := by decide +kernel
theorem dNs_fillSchedule_27 : decode cNs_fillSchedule 27 = .ok (.imul, 1) := by decide +kernel
theorem dNs_fillSchedule_28 : decode cNs_fillSchedule 28 = .ok (.iload_n 3, 1) := by decide +kernel
theorem dNs_fillSchedule_29 : decode cNs_fillSchedule 29 = .ok (.iadd, 1) := by decide +kernel
theorem dNs_fillSchedule_30 : decode cNs_fillSchedule 30 = .ok (.baload, 1) := by decide +kernel
theorem dNs_fillSchedule_31 : decode cNs_fillSchedule 31 = .ok (.sipush 255, 3) := by decide +kernel
theorem dNs_fillSchedule_34 : decode cNs_fillSchedule 34 = .ok (.iand, 1) := by decide +kernel
theorem dNs_fillSchedule_35 : decode cNs_fillSchedule 35 = .ok (.ior, 1) := by decide +kernel
theorem dNs_fillSchedule_36 : decode cNs_fillSchedule 36 = .ok (.istore_n 2, 1) := by decide +kernel
theorem dNs_fillSchedule_37 : decode cNs_fillSchedule 37 = .ok (.iinc 3 1, 3) := by decide +kernel
theorem dNs_fillSchedule_40 : decode cNs_fillSchedule 40 = .ok (.goto (-28), 3) := by decide +kernel
theorem dNs_fillSchedule_43 : decode cNs_fillSchedule 43 = .ok (.aload_n 0, 1) := by decide +kernel
theorem dNs_fillSchedule_44 : decode cNs_fillSchedule 44 = .ok (.getfield 7, 3) := by decide +kernel
theorem dNs_fillSchedule_47 : decode cNs_fillSchedule 47 = .ok (.iload_n 1, 1) := by decide +kernel
theorem dNs_fillSchedule_48 : decode cNs_fillSchedule 48 = .ok (.iload_n 2, 1) := by decide +kernel
theorem dNs_fillSchedule_49 : decode cNs_fillSchedule 49 = .ok (.iastore, 1) := by decide +kernel
theorem dNs_fillSchedule_50 : decode cNs_fillSchedule 50 = .ok (.iinc 1 1, 3) := by decide +kernel
theorem dNs_fillSchedule_53 : decode cNs_fillSchedule 53 = .ok (.goto (-51), 3) := by decide +kernel
theorem dNs_fillSchedule_56 : decode cNs_fillSchedule 56 = .ok (.bipush 16, 2) := by decide +kernel
theorem dNs_fillSchedule_58 : decode cNs_fillSchedule 58 = .ok (.istore_n 1, 1) := by decide +kernel
theorem dNs_fillSchedule_59 : decode cNs_fillSchedule 59 = .ok (.iload_n 1, 1) := by decide +kernel
theorem dNs_fillSchedule_60 : decode cNs_fillSchedule 60 = .ok (.bipush 64, 2) := by decide +kernel
theorem dNs_fillSchedule_62 : decode cNs_fillSchedule 62 = .ok (.if_icmp .ge 59, 3) := by decide +kernel
theorem dNs_fillSchedule_65 : decode cNs_fillSchedule 65 = .ok (.aload_n 0, 1) := by decide +kernel
theorem dNs_fillSchedule_66 : decode cNs_fillSchedule 66 = .ok (.getfield 7, 3) := by decide +kernel
theorem dNs_fillSchedule_69 : decode cNs_fillSchedule 69 = .ok (.iload_n 1, 1) := by decide +kernel
theorem dNs_fillSchedule_70 : decode cNs_fillSchedule 70 = .ok (.aload_n 0, 1) := by decide +kernel
theorem dNs_fillSchedule_71 : decode cNs_fillSchedule 71 = .ok (.getfield 7, 3) := by decide +kernel
theorem dNs_fillSchedule_74 : decode cNs_fillSchedule 74 = .ok (.iload_n 1, 1) := by decide +kernel
theorem dNs_fillSchedule_75 : decode cNs_fillSchedule 75 = .ok (.iconst 2, 1) := by decide +kernel
theorem dNs_fillSchedule_76 : decode cNs_fillSchedule 76 = .ok (.isub, 1) := by decide +kernel
theorem dNs_fillSchedule_77 : decode cNs_fillSchedule 77 = .ok (.iaload, 1) := by decide +kernel
theorem dNs_fillSchedule_78 : decode cNs_fillSchedule 78 = .ok (.invokestatic 31, 3) := by decide +kernel
theorem dNs_fillSchedule_81 : decode cNs_fillSchedule 81 = .ok (.aload_n 0, 1) := by decide +kernel
theorem dNs_fillSchedule_82 : decode cNs_fillSchedule 82 = .ok (.getfield 7, 3) := by decide +kernel
theorem dNs_fillSchedule_85 : decode cNs_fillSchedule 85 = .ok (.iload_n 1, 1) := by decide +kernel
theorem dNs_fillSchedule_86 : decode cNs_fillSchedule 86 = .ok (.bipush 7, 2) := by decide +kernel
theorem dNs_fillSchedule_88 : decode cNs_fillSchedule 88 = .ok (.isub, 1) := by decide +kernel
theorem dNs_fillSchedule_89 : decode cNs_fillSchedule 89 = .ok (.iaload, 1) := by decide +kernel
theorem dNs_fillSchedule_90 : decode cNs_fillSchedule 90 = .ok (.iadd, 1) := by decide +kernel
theorem dNs_fillSchedule_91 : decode cNs_fillSchedule 91 = .ok (.aload_n 0, 1) := by decide +kernel
theorem dNs_fillSchedule_92 : decode cNs_fillSchedule 92 = .ok (.getfield 7, 3) := by decide +kernel
theorem dNs_fillSchedule_95 : decode cNs_fillSchedule 95 = .ok (.iload_n 1, 1) := by decide +kernel
theorem dNs_fillSchedule_96 : decode cNs_fillSchedule 96 = .ok (.bipush 15, 2) := by decide +kernel
theorem dNs_fillSchedule_98 : decode cNs_fillSchedule 98 = .ok (.isub, 1) := by decide +kernel
theorem dNs_fillSchedule_99 : decode cNs_fillSchedule 99 = .ok (.iaload, 1) := by decide +kernel
theorem dNs_fillSchedule_100 : decode cNs_fillSchedule 100 = .ok (.invokestatic 34, 3) := by decide +kernel
theorem dNs_fillSchedule_103 : decode cNs_fillSchedule 103 = .ok (.iadd, 1) := by decide +kernel
theorem dNs_fillSchedule_104 : decode cNs_fillSchedule 104 = .ok (.aload_n 0, 1) := by decide +kernel
theorem dNs_fillSchedule_105 : decode cNs_fillSchedule 105 = .ok (.getfield 7, 3) := by decide +kernel
theorem dNs_fillSchedule_108 : decode cNs_fillSchedule 108 = .ok (.iload_n 1, 1) := by decide +kernel
theorem dNs_fillSchedule_109 : decode cNs_fillSchedule 109 = .ok (.bipush 16, 2) := by decide +kernel
theorem dNs_fillSchedule_111 : decode cNs_fillSchedule 111 = .ok (.isub, 1) := by decide +kernel
theorem dNs_fillSchedule_112 : decode cNs_fillSchedule 112 = .ok (.iaload, 1) := by decide +kernel
theorem dNs_fillSchedule_113 : decode cNs_fillSchedule 113 = .ok (.iadd, 1) := by decide +kernel
theorem dNs_fillSchedule_114 : decode cNs_fillSchedule 114 = .ok (.iastore, 1) := by decide +kernel
theorem dNs_fillSchedule_115 : decode cNs_fillSchedule 115 = .ok (.iinc 1 1, 3) := by decide +kernel
theorem dNs_fillSchedule_118 : decode cNs_fillSchedule 118 = .ok (.goto (-59), 3) := by decide +kernel
theorem dNs_fillSchedule_121 : decode cNs_fillSchedule 121 = .ok (.return_, 1) := by decide +kernel
theorem dNs_mixSchedule_0 : decode cNs_mixSchedule 0 = .ok (.aload_n 0, 1) := by decide +kernel
theorem dNs_mixSchedule_1 : decode cNs_mixSchedule 1 = .ok (.getfield 13, 3) := by decide +kernel
theorem dNs_mixSchedule_4 : decode cNs_mixSchedule 4 = .ok (.iconst 0, 1) := by decide +kernel
theorem dNs_mixSchedule_5 : decode cNs_mixSchedule 5 = .ok (.laload, 1) := by decide +kernel
theorem dNs_mixSchedule_6 : decode cNs_mixSchedule 6 = .ok (.l2i, 1) := by decide +kernel
theorem dNs_mixSchedule_7 : decode cNs_mixSchedule 7 = .ok (.istore_n 1, 1) := by decide +kernel
theorem dNs_mixSchedule_8 : decode cNs_mixSchedule 8 = .ok (.aload_n 0, 1) := by decide +kernel
theorem dNs_mixSchedule_9 : decode cNs_mixSchedule 9 = .ok (.getfield 13, 3) := by decide +kernel
theorem dNs_mixSchedule_12 : decode cNs_mixSchedule 12 = .ok (.iconst 1, 1) := by decide +kernel
theorem dNs_mixSchedule_13 : decode cNs_mixSchedule 13 = .ok (.laload, 1) := by decide +kernel
theorem dNs_mixSchedule_14 : decode cNs_mixSchedule 14 = .ok (.l2i, 1) := by decide +kernel
theorem dNs_mixSchedule_15 : decode cNs_mixSchedule 15 = .ok (.istore_n 2, 1) := by decide +kernel
theorem dNs_mixSchedule_16 : decode cNs_mixSchedule 16 = .ok (.aload_n 0, 1) := by decide +kernel
theorem dNs_mixSchedule_17 : decode cNs_mixSchedule 17 = .ok (.getfield 13, 3) := by decide +kernel
theorem dNs_mixSchedule_20 : decode cNs_mixSchedule 20 = .ok (.iconst 2, 1) := by decide +kernel
theorem dNs_mixSchedule_21 : decode cNs_mixSchedule 21 = .ok (.laload, 1) := by decide +kernel
theorem dNs_mixSchedule_22 : decode cNs_mixSchedule 22 = .ok (.l2i, 1) := by decide +kernel
theorem dNs_mixSchedule_23 : decode cNs_mixSchedule 23 = .ok (.istore_n 3, 1) := by decide +kernel
theorem dNs_mixSchedule_24 : decode cNs_mixSchedule 24 = .ok (.aload_n 0, 1) := by decide +kernel
theorem dNs_mixSchedule_25 : decode cNs_mixSchedule 25 = .ok (.getfield 13, 3) := by decide +kernel
theorem dNs_mixSchedule_28 : decode cNs_mixSchedule 28 = .ok (.iconst 3, 1) := by decide +kernel
theorem dNs_mixSchedule_29 : decode cNs_mixSchedule 29 = .ok (.laload, 1) := by decide +kernel
theorem dNs_mixSchedule_30 : decode cNs_mixSchedule 30 = .ok (.l2i, 1) := by decide +kernel
theorem dNs_mixSchedule_31 : decode cNs_mixSchedule 31 = .ok (.istore 4, 2) := by decide +kernel
theorem dNs_mixSchedule_33 : decode cNs_mixSchedule 33 = .ok (.aload_n 0, 1) := by decide +kernel
theorem dNs_mixSchedule_34 : decode cNs_mixSchedule 34 = .ok (.getfield 13, 3) := by decide +kernel
theorem dNs_mixSchedule_37 : decode cNs_mixSchedule 37 = .ok (.iconst 4, 1) := by decide +kernel
theorem dNs_mixSchedule_38 : decode cNs_mixSchedule 38 = .ok (.laload, 1) := by decide +kernel
theorem dNs_mixSchedule_39 : decode cNs_mixSchedule 39 = .ok (.l2i, 1) := by decide +kernel
theorem dNs_mixSchedule_40 : decode cNs_mixSchedule 40 = .ok (.istore 5, 2) := by decide +kernel
theorem dNs_mixSchedule_42 : decode cNs_mixSchedule 42 = .ok (.aload_n 0, 1) := by decide +kernel
theorem dNs_mixSchedule_43 : decode cNs_mixSchedule 43 = .ok (.getfield 13, 3) := by decide +kernel
theorem dNs_mixSchedule_46 : decode cNs_mixSchedule 46 = .ok (.iconst 5, 1) := by decide +kernel
theorem dNs_mixSchedule_47 : decode cNs_mixSchedule 47 = .ok (.laload, 1) := by decide +kernel
theorem dNs_mixSchedule_48 : decode cNs_mixSchedule 48 = .ok (.l2i, 1) := by decide +kernel
theorem dNs_mixSchedule_49 : decode cNs_mixSchedule 49 = .ok (.istore 6, 2) := by decide +kernel
theorem dNs_mixSchedule_51 : decode cNs_mixSchedule 51 = .ok (.aload_n 0, 1) := by decide +kernel
theorem dNs_mixSchedule_52 : decode cNs_mixSchedule 52 = .ok (.getfield 13, 3) := by decide +kernel
theorem dNs_mixSchedule_55 : decode cNs_mixSchedule 55 = .ok (.bipush 6, 2) := by decide +kernel
theorem dNs_mixSchedule_57 : decode cNs_mixSchedule 57 = .ok (.laload, 1) := by decide +kernel
theorem dNs_mixSchedule_58 : decode cNs_mixSchedule 58 = .ok (.l2i, 1) := by decide +kernel
theorem dNs_mixSchedule_59 : decode cNs_mixSchedule 59 = .ok (.istore 7, 2) := by decide +kernel
theorem dNs_mixSchedule_61 : decode cNs_mixSchedule 61 = .ok (.aload_n 0, 1) := by decide +kernel
theorem dNs_mixSchedule_62 : decode cNs_mixSchedule 62 = .ok (.getfield 13, 3) := by decide +kernel
theorem dNs_mixSchedule_65 : decode cNs_mixSchedule 65 = .ok (.bipush 7, 2) := by decide +kernel
theorem dNs_mixSchedule_67 : decode cNs_mixSchedule 67 = .ok (.laload, 1) := by decide +kernel
theorem dNs_mixSchedule_68 : decode cNs_mixSchedule 68 = .ok (.l2i, 1) := by decide +kernel
theorem dNs_mixSchedule_69 : decode cNs_mixSchedule 69 = .ok (.istore 8, 2) := by decide +kernel
theorem dNs_mixSchedule_71 : decode cNs_mixSchedule 71 = .ok (.iconst 0, 1) := by decide +kernel
theorem dNs_mixSchedule_72 : decode cNs_mixSchedule 72 = .ok (.istore 9, 2) := by decide +kernel
theorem dNs_mixSchedule_74 : decode cNs_mixSchedule 74 = .ok (.iload 9, 2) := by decide +kernel
theorem dNs_mixSchedule_76 : decode cNs_mixSchedule 76 = .ok (.bipush 64, 2) := by decide +kernel
theorem dNs_mixSchedule_78 : decode cNs_mixSchedule 78 = .ok (.if_icmp .ge 98, 3) := by decide +kernel
theorem dNs_mixSchedule_81 : decode cNs_mixSchedule 81 = .ok (.iload 8, 2) := by decide +kernel
theorem dNs_mixSchedule_83 : decode cNs_mixSchedule 83 = .ok (.iload 5, 2) := by decide +kernel
theorem dNs_mixSchedule_85 : decode cNs_mixSchedule 85 = .ok (.invokestatic 17, 3) := by decide +kernel
theorem dNs_mixSchedule_88 : decode cNs_mixSchedule 88 = .ok (.iadd, 1) := by decide +kernel
theorem dNs_mixSchedule_89 : decode cNs_mixSchedule 89 = .ok (.iload 5, 2) := by decide +kernel
theorem dNs_mixSchedule_91 : decode cNs_mixSchedule 91 = .ok (.iload 6, 2) := by decide +kernel
theorem dNs_mixSchedule_93 : decode cNs_mixSchedule 93 = .ok (.iand, 1) := by decide +kernel
theorem dNs_mixSchedule_94 : decode cNs_mixSchedule 94 = .ok (.iload 5, 2) := by decide +kernel
theorem dNs_mixSchedule_96 : decode cNs_mixSchedule 96 = .ok (.iconst (-1), 1) := by decide +kernel
theorem dNs_mixSchedule_97 : decode cNs_mixSchedule 97 = .ok (.ixor, 1) := by decide +kernel
theorem dNs_mixSchedule_98 : decode cNs_mixSchedule 98 = .ok (.iload 7, 2) := by decide +kernel
theorem dNs_mixSchedule_100 : decode cNs_mixSchedule 100 = .ok (.iand, 1) := by decide +kernel
theorem dNs_mixSchedule_101 : decode cNs_mixSchedule 101 = .ok (.ixor, 1) := by decide +kernel
theorem dNs_mixSchedule_102 : decode cNs_mixSchedule 102 = .ok (.iadd, 1) := by decide +kernel
theorem dNs_mixSchedule_103 : decode cNs_mixSchedule 103 = .ok (.getstatic 21, 3) := by decide +kernel
theorem dNs_mixSchedule_106 : decode cNs_mixSchedule 106 = .ok (.iload 9, 2) := by decide +kernel
theorem dNs_mixSchedule_108 : decode cNs_mixSchedule 108 = .ok (.iaload, 1) := by decide +kernel
theorem dNs_mixSchedule_109 : decode cNs_mixSchedule 109 = .ok (.iadd, 1) := by decide +kernel
theorem dNs_mixSchedule_110 : decode cNs_mixSchedule 110 = .ok (.aload_n 0, 1) := by decide +kernel
theorem dNs_mixSchedule_111 : decode cNs_mixSchedule 111 = .ok (.getfield 7, 3) := by decide +kernel
theorem dNs_mixSchedule_114 : decode cNs_mixSchedule 114 = .ok (.iload 9, 2) := by decide +kernel
theorem dNs_mixSchedule_116 : decode cNs_mixSchedule 116 = .ok (.iaload, 1) := by decide +kernel
theorem dNs_mixSchedule_117 : decode cNs_mixSchedule 117 = .ok (.iadd, 1) := by decide +kernel
theorem dNs_mixSchedule_118 : decode cNs_mixSchedule 118 = .ok (.istore 10, 2) := by decide +kernel
theorem dNs_mixSchedule_120 : decode cNs_mixSchedule 120 = .ok (.iload_n 1, 1) := by decide +kernel
theorem dNs_mixSchedule_121 : decode cNs_mixSchedule 121 = .ok (.invokestatic 24, 3) := by decide +kernel
theorem dNs_mixSchedule_124 : decode cNs_mixSchedule 124 = .ok (.iload_n 1, 1) := by decide +kernel
theorem dNs_mixSchedule_125 : decode cNs_mixSchedule 125 = .ok (.iload_n 2, 1) := by decide +kernel
theorem dNs_mixSchedule_126 : decode cNs_mixSchedule 126 = .ok (.iand, 1) := by decide +kernel
theorem dNs_mixSchedule_127 : decode cNs_mixSchedule 127 = .ok (.iload_n 1, 1) := by decide +kernel
theorem dNs_mixSchedule_128 : decode cNs_mixSchedule 128 = .ok (.iload_n 3, 1) := by decide +kernel
theorem dNs_mixSchedule_129 : decode cNs_mixSchedule 129 = .ok (.iand, 1) := by decide +kernel
theorem dNs_mixSchedule_130 : decode cNs_mixSchedule 130 = .ok (.ixor, 1) := by decide +kernel
theorem dNs_mixSchedule_131 : decode cNs_mixSchedule 131 = .ok (.iload_n 2, 1) := by decide +kernel
theorem dNs_mixSchedule_132 : decode cNs_mixSchedule 132 = .ok (.iload_n 3, 1) := by decide +kernel
theorem dNs_mixSchedule_133 : decode cNs_mixSchedule 133 = .ok (.iand, 1) := by decide +kernel
theorem dNs_mixSchedule_134 : decode cNs_mixSchedule 134 = .ok (.ixor, 1) := by decide +kernel
theorem dNs_mixSchedule_135 : decode cNs_mixSchedule 135 = .ok (.iadd, 1) := by decide +kernel
theorem dNs_mixSchedule_136 : decode cNs_mixSchedule 136 = .ok (.istore 11, 2) := by decide +kernel
theorem dNs_mixSchedule_138 : decode cNs_mixSchedule 138 = .ok (.iload 7, 2) := by decide +kernel
theorem dNs_mixSchedule_140 : decode cNs_mixSchedule 140 = .ok (.istore 8, 2) := by decide +kernel
theorem dNs_mixSchedule_142 : decode cNs_mixSchedule 142 = .ok (.iload 6, 2) := by decide +kernel
theorem dNs_mixSchedule_144 : decode cNs_mixSchedule 144 = .ok (.istore 7, 2) := by decide +kernel
theorem dNs_mixSchedule_146 : decode cNs_mixSchedule 146 = .ok (.iload 5, 2) := by decide +kernel
theorem dNs_mixSchedule_148 : decode cNs_mixSchedule 148 = .ok (.istore 6, 2) := by decide +kernel
theorem dNs_mixSchedule_150 : decode cNs_mixSchedule 150 = .ok (.iload 4, 2) := by decide +kernel
theorem dNs_mixSchedule_152 : decode cNs_mixSchedule 152 = .ok (.iload 10, 2) := by decide +kernel
theorem dNs_mixSchedule_154 : decode cNs_mixSchedule 154 = .ok (.iadd, 1) := by decide +kernel
theorem dNs_mixSchedule_155 : decode cNs_mixSchedule 155 = .ok (.istore 5, 2) := by decide +kernel
theorem dNs_mixSchedule_157 : decode cNs_mixSchedule 157 = .ok (.iload_n 3, 1) := by decide +kernel
theorem dNs_mixSchedule_158 : decode cNs_mixSchedule 158 = .ok (.istore 4, 2) := by decide +kernel
theorem dNs_mixSchedule_160 : decode cNs_mixSchedule 160 = .ok (.iload_n 2, 1) := by decide +kernel
theorem dNs_mixSchedule_161 : decode cNs_mixSchedule 161 = .ok (.istore_n 3, 1) := by decide +kernel
theorem dNs_mixSchedule_162 : decode cNs_mixSchedule 162 = .ok (.iload_n 1, 1) := by decide +kernel
theorem dNs_mixSchedule_163 : decode cNs_mixSchedule 163 = .ok (.istore_n 2, 1) := by decide +kernel
theorem dNs_mixSchedule_164 : decode cNs_mixSchedule 164 = .ok (.iload 10, 2) := by decide +kernel
theorem dNs_mixSchedule_166 : decode cNs_mixSchedule 166 = .ok (.iload 11, 2) := by decide +kernel
theorem dNs_mixSchedule_168 : decode cNs_mixSchedule 168 = .ok (.iadd, 1) := by decide +kernel
theorem dNs_mixSchedule_169 : decode cNs_mixSchedule 169 = .ok (.istore_n 1, 1) := by decide +kernel
theorem dNs_mixSchedule_170 : decode cNs_mixSchedule 170 = .ok (.iinc 9 1, 3) := by decide +kernel
theorem dNs_mixSchedule_173 : decode cNs_mixSchedule 173 = .ok (.goto (-99), 3) := by decide +kernel
theorem dNs_mixSchedule_176 : decode cNs_mixSchedule 176 = .ok (.aload_n 0, 1) := by decide +kernel
theorem dNs_mixSchedule_177 : decode cNs_mixSchedule 177 = .ok (.getfield 13, 3) := by decide +kernel
theorem dNs_mixSchedule_180 : decode cNs_mixSchedule 180 = .ok (.iconst 0, 1) := by decide +kernel
theorem dNs_mixSchedule_181 : decode cNs_mixSchedule 181 = .ok (.dup2, 1) := by decide +kernel
theorem dNs_mixSchedule_182 : decode cNs_mixSchedule 182 = .ok (.laload, 1) := by decide +kernel
theorem dNs_mixSchedule_183 : decode cNs_mixSchedule 183 = .ok (.iload_n 1, 1) := by decide +kernel
theorem dNs_mixSchedule_184 : decode cNs_mixSchedule 184 = .ok (.i2l, 1) := by decide +kernel
theorem dNs_mixSchedule_185 : decode cNs_mixSchedule 185 = .ok (.ladd, 1) := by decide +kernel
theorem dNs_mixSchedule_186 : decode cNs_mixSchedule 186 = .ok (.lastore, 1) := by decide +kernel
theorem dNs_mixSchedule_187 : decode cNs_mixSchedule 187 = .ok (.aload_n 0, 1) := by decide +kernel
theorem dNs_mixSchedule_188 : decode cNs_mixSchedule 188 = .ok (.getfield 13, 3) := by decide +kernel
theorem dNs_mixSchedule_191 : decode cNs_mixSchedule 191 = .ok (.iconst 1, 1) := by decide +kernel
theorem dNs_mixSchedule_192 : decode cNs_mixSchedule 192 = .ok (.dup2, 1) := by decide +kernel
theorem dNs_mixSchedule_193 : decode cNs_mixSchedule 193 = .ok (.laload, 1) := by decide +kernel
theorem dNs_mixSchedule_194 : decode cNs_mixSchedule 194 = .ok (.iload_n 2, 1) := by decide +kernel
theorem dNs_mixSchedule_195 : decode cNs_mixSchedule 195 = .ok (.i2l, 1) := by decide +kernel
theorem dNs_mixSchedule_196 : decode cNs_mixSchedule 196 = .ok (.ladd, 1) := by decide +kernel
theorem dNs_mixSchedule_197 : decode cNs_mixSchedule 197 = .ok (.lastore, 1) := by decide +kernel
theorem dNs_mixSchedule_198 : decode cNs_mixSchedule 198 = .ok (.aload_n 0, 1) := by decide +kernel
theorem dNs_mixSchedule_199 : decode cNs_mixSchedule 199 = .ok (.getfield 13, 3) := by decide +kernel
theorem dNs_mixSchedule_202 : decode cNs_mixSchedule 202 = .ok (.iconst 2, 1) := by decide +kernel
theorem dNs_mixSchedule_203 : decode cNs_mixSchedule 203 = .ok (.dup2, 1) := by decide +kernel
theorem dNs_mixSchedule_204 : decode cNs_mixSchedule 204 = .ok (.laload, 1) := by decide +kernel
theorem dNs_mixSchedule_205 : decode cNs_mixSchedule 205 = .ok (.iload_n 3, 1) := by decide +kernel
theorem dNs_mixSchedule_206 : decode cNs_mixSchedule 206 = .ok (.i2l, 1) := by decide +kernel
theorem dNs_mixSchedule_207 : decode cNs_mixSchedule 207 = .ok (.ladd, 1) := by decide +kernel
theorem dNs_mixSchedule_208 : decode cNs_mixSchedule 208 = .ok (.lastore, 1) := by decide +kernel
theorem dNs_mixSchedule_209 : decode cNs_mixSchedule 209 = .ok (.aload_n 0, 1) := by decide +kernel
theorem dNs_mixSchedule_210 : decode cNs_mixSchedule 210 = .ok (.getfield 13, 3) := by decide +kernel
theorem dNs_mixSchedule_213 : decode cNs_mixSchedule 213 = .ok (.iconst 3, 1) := by decide +kernel
theorem dNs_mixSchedule_214 : decode cNs_mixSchedule 214 = .ok (.dup2, 1) := by decide +kernel
theorem dNs_mixSchedule_215 : decode cNs_mixSchedule 215 = .ok (.laload, 1) := by decide +kernel
theorem dNs_mixSchedule_216 : decode cNs_mixSchedule 216 = .ok (.iload 4, 2) := by decide +kernel
theorem dNs_mixSchedule_218 : decode cNs_mixSchedule 218 = .ok (.i2l, 1) := by decide +kernel
theorem dNs_mixSchedule_219 : decode cNs_mixSchedule 219 = .ok (.ladd, 1) := by decide +kernel
theorem dNs_mixSchedule_220 : decode cNs_mixSchedule 220 = .ok (.lastore, 1) := by decide +kernel
theorem dNs_mixSchedule_221 : decode cNs_mixSchedule 221 = .ok (.aload_n 0, 1) := by decide +kernel
theorem dNs_mixSchedule_222 : decode cNs_mixSchedule 222 = .ok (.getfield 13, 3) := by decide +kernel
theorem dNs_mixSchedule_225 : decode cNs_mixSchedule 225 = .ok (.iconst 4, 1) := by decide +kernel
theorem dNs_mixSchedule_226 : decode cNs_mixSchedule 226 = .ok (.dup2, 1) := by decide +kernel
theorem dNs_mixSchedule_227 : decode cNs_mixSchedule 227 = .ok (.laload, 1) := by decide +kernel
theorem dNs_mixSchedule_228 : decode cNs_mixSchedule 228 = .ok (.iload 5, 2) := by decide +kernel
theorem dNs_mixSchedule_230 : decode cNs_mixSchedule 230 = .ok (.i2l, 1) := by decide +kernel
theorem dNs_mixSchedule_231 : decode cNs_mixSchedule 231 = .ok (.ladd, 1) := by decide +kernel
theorem dNs_mixSchedule_232 : decode cNs_mixSchedule 232 = .ok (.lastore, 1) := by decide +kernel
theorem dNs_mixSchedule_233 : decode cNs_mixSchedule 233 = .ok (.aload_n 0, 1) := by decide +kernel
theorem dNs_mixSchedule_234 : decode cNs_mixSchedule 234 = .ok (.getfield 13, 3) := by decide +kernel
theorem dNs_mixSchedule_237 : decode cNs_mixSchedule 237 = .ok (.iconst 5, 1) := by decide +kernel
theorem dNs_mixSchedule_238 : decode cNs_mixSchedule 238 = .ok (.dup2, 1) := by decide +kernel
theorem dNs_mixSchedule_239 : decode cNs_mixSchedule 239 = .ok (.laload, 1) := by decide +kernel
theorem dNs_mixSchedule_240 : decode cNs_mixSchedule 240 = .ok (.iload 6, 2) := by decide +kernel
theorem dNs_mixSchedule_242 : decode cNs_mixSchedule 242 = .ok (.i2l, 1) := by decide +kernel
theorem dNs_mixSchedule_243 : decode cNs_mixSchedule 243 = .ok (.ladd, 1) := by decide +kernel
theorem dNs_mixSchedule_244 : decode cNs_mixSchedule 244 = .ok (.lastore, 1) := by decide +kernel
theorem dNs_mixSchedule_245 : decode cNs_mixSchedule 245 = .ok (.aload_n 0, 1) := by decide +kernel
theorem dNs_mixSchedule_246 : decode cNs_mixSchedule 246 = .ok (.getfield 13, 3) := by decide +kernel
theorem dNs_mixSchedule_249 : decode cNs_mixSchedule 249 = .ok (.bipush 6, 2) := by decide +kernel
theorem dNs_mixSchedule_251 : decode cNs_mixSchedule 251 = .ok (.dup2, 1) := by decide +kernel
theorem dNs_mixSchedule_252 : decode cNs_mixSchedule 252 = .ok (.laload, 1) := by decide +kernel
theorem dNs_mixSchedule_253 : decode cNs_mixSchedule 253 = .ok (.iload 7, 2) := by decide +kernel
theorem dNs_mixSchedule_255 : decode cNs_mixSchedule 255 = .ok (.i2l, 1) := by decide +kernel
theorem dNs_mixSchedule_256 : decode cNs_mixSchedule 256 = .ok (.ladd, 1) := by decide +kernel
theorem dNs_mixSchedule_257 : decode cNs_mixSchedule 257 = .ok (.lastore, 1) := by decide +kernel
theorem dNs_mixSchedule_258 : decode cNs_mixSchedule 258 = .ok (.aload_n 0, 1) := by decide +kernel
theorem dNs_mixSchedule_259 : decode cNs_mixSchedule 259 = .ok (.getfield 13, 3) := by decide +kernel
theorem dNs_mixSchedule_262 : decode cNs_mixSchedule 262 = .ok (.bipush 7, 2) := by decide +kernel
theorem dNs_mixSchedule_264 : decode cNs_mixSchedule 264 = .ok (.dup2, 1) := by decide +kernel
theorem dNs_mixSchedule_265 : decode cNs_mixSchedule 265 = .ok (.laload, 1) := by decide +kernel
theorem dNs_mixSchedule_266 : decode cNs_mixSchedule 266 = .ok (.iload 8, 2) := by decide +kernel
theorem dNs_mixSchedule_268 : decode cNs_mixSchedule 268 = .ok (.i2l, 1) := by decide +kernel
theorem dNs_mixSchedule_269 : decode cNs_mixSchedule 269 = .ok (.ladd, 1) := by decide +kernel
theorem dNs_mixSchedule_270 : decode cNs_mixSchedule 270 = .ok (.lastore, 1) := by decide +kernel
theorem dNs_mixSchedule_271 : decode cNs_mixSchedule 271 = .ok (.return_, 1) := by decide +kernel
theorem dNs_smallSigma0_0 : decode cNs_smallSigma0 0 = .ok (.iload_n 0, 1) := by decide +kernel
theorem dNs_smallSigma0_1 : decode cNs_smallSigma0 1 = .ok (.bipush 7, 2) := by decide +kernel
theorem dNs_smallSigma0_3 : decode cNs_smallSigma0 3 = .ok (.iushr, 1) := by decide +kernel
theorem dNs_smallSigma0_4 : decode cNs_smallSigma0 4 = .ok (.iload_n 0, 1) := by decide +kernel
theorem dNs_smallSigma0_5 : decode cNs_smallSigma0 5 = .ok (.bipush 25, 2) := by decide +kernel
theorem dNs_smallSigma0_7 : decode cNs_smallSigma0 7 = .ok (.ishl, 1) := by decide +kernel
theorem dNs_smallSigma0_8 : decode cNs_smallSigma0 8 = .ok (.ior, 1) := by decide +kernel
theorem dNs_smallSigma0_9 : decode cNs_smallSigma0 9 = .ok (.iload_n 0, 1) := by decide +kernel
theorem dNs_smallSigma0_10 : decode cNs_smallSigma0 10 = .ok (.bipush 18, 2) := by decide +kernel
theorem dNs_smallSigma0_12 : decode cNs_smallSigma0 12 = .ok (.iushr, 1) := by decide +kernel
theorem dNs_smallSigma0_13 : decode cNs_smallSigma0 13 = .ok (.iload_n 0, 1) := by decide +kernel
theorem dNs_smallSigma0_14 : decode cNs_smallSigma0 14 = .ok (.bipush 14, 2) := by decide +kernel
theorem dNs_smallSigma0_16 : decode cNs_smallSigma0 16 = .ok (.ishl, 1) := by decide +kernel
theorem dNs_smallSigma0_17 : decode cNs_smallSigma0 17 = .ok (.ior, 1) := by decide +kernel
theorem dNs_smallSigma0_18 : decode cNs_smallSigma0 18 = .ok (.ixor, 1) := by decide +kernel
theorem dNs_smallSigma0_19 : decode cNs_smallSigma0 19 = .ok (.iload_n 0, 1) := by decide +kernel
theorem dNs_smallSigma0_20 : decode cNs_smallSigma0 20 = .ok (.iconst 3, 1) := by decide +kernel
theorem dNs_smallSigma0_21 : decode cNs_smallSigma0 21 = .ok (.iushr, 1) := by decide +kernel
theorem dNs_smallSigma0_22 : decode cNs_smallSigma0 22 = .ok (.ixor, 1) := by decide +kernel
theorem dNs_smallSigma0_23 : decode cNs_smallSigma0 23 = .ok (.ireturn, 1) := by decide +kernel
theorem dNs_smallSigma1_0 : decode cNs_smallSigma1 0 = .ok (.iload_n 0, 1) := by decide +kernel
theorem dNs_smallSigma1_1 : decode cNs_smallSigma1 1 = .ok (.bipush 17, 2) := by decide +kernel
theorem dNs_smallSigma1_3 : decode cNs_smallSigma1 3 = .ok (.iushr, 1) := by decide +kernel
theorem dNs_smallSigma1_4 : decode cNs_smallSigma1 4 = .ok (.iload_n 0, 1) := by decide +kernel
theorem dNs_smallSigma1_5 : decode cNs_smallSigma1 5 = .ok (.bipush 15, 2) := by decide +kernel
theorem dNs_smallSigma1_7 : decode cNs_smallSigma1 7 = .ok (.ishl, 1) := by decide +kernel
theorem dNs_smallSigma1_8 : decode cNs_smallSigma1 8 = .ok (.ior, 1) := by decide +kernel
theorem dNs_smallSigma1_9 : decode cNs_smallSigma1 9 = .ok (.iload_n 0, 1) := by decide +kernel
theorem dNs_smallSigma1_10 : decode cNs_smallSigma1 10 = .ok (.bipush 19, 2) := by decide +kernel
theorem dNs_smallSigma1_12 : decode cNs_smallSigma1 12 = .ok (.iushr, 1) := by decide +kernel
theorem dNs_smallSigma1_13 : decode cNs_smallSigma1 13 = .ok (.iload_n 0, 1) := by decide +kernel
theorem dNs_smallSigma1_14 : decode cNs_smallSigma1 14 = .ok (.bipush 13, 2) := by decide +kernel
theorem dNs_smallSigma1_16 : decode cNs_smallSigma1 16 = .ok (.ishl, 1) := by decide +kernel
theorem dNs_smallSigma1_17 : decode cNs_smallSigma1 17 = .ok (.ior, 1) := by decide +kernel
theorem dNs_smallSigma1_18 : decode cNs_smallSigma1 18 = .ok (.ixor, 1) := by decide +kernel
theorem dNs_smallSigma1_19 : decode cNs_smallSigma1 19 = .ok (.iload_n 0, 1) := by decide +kernel
theorem dNs_smallSigma1_20 : decode cNs_smallSigma1 20 = .ok (.bipush 10, 2) := by decide +kernel
theorem dNs_smallSigma1_22 : decode cNs_smallSigma1 22 = .ok (.iushr, 1) := by decide +kernel
theorem dNs_smallSigma1_23 : decode cNs_smallSigma1 23 = .ok (.ixor, 1) := by decide +kernel
theorem dNs_smallSigma1_24 : decode cNs_smallSigma1 24 = .ok (.ireturn, 1) := by decide +kernel
