theorem dBx_init_0 : decode cBx_init 0 = .ok (.aload_n 0, 1) := by decide +kernel
theorem dBx_init_1 : decode cBx_init 1 = .ok (.invokespecial 1, 3) := by decide +kernel
theorem dBx_init_4 : decode cBx_init 4 = .ok (.aload_n 0, 1) := by decide +kernel
theorem dBx_init_5 : decode cBx_init 5 = .ok (.new 7, 3) := by decide +kernel
theorem dBx_init_8 : decode cBx_init 8 = .ok (.dup, 1) := by decide +kernel
theorem dBx_init_9 : decode cBx_init 9 = .ok (.invokespecial 9, 3) := by decide +kernel
theorem dBx_init_12 : decode cBx_init 12 = .ok (.putfield 10, 3) := by decide +kernel
theorem dBx_init_15 : decode cBx_init 15 = .ok (.aload_n 0, 1) := by decide +kernel
theorem dBx_init_16 : decode cBx_init 16 = .ok (.new 7, 3) := by decide +kernel
theorem dBx_init_19 : decode cBx_init 19 = .ok (.dup, 1) := by decide +kernel
theorem dBx_init_20 : decode cBx_init 20 = .ok (.invokespecial 9, 3) := by decide +kernel
theorem dBx_init_23 : decode cBx_init 23 = .ok (.putfield 16, 3) := by decide +kernel
theorem dBx_init_26 : decode cBx_init 26 = .ok (.aload_n 0, 1) := by decide +kernel
theorem dBx_init_27 : decode cBx_init 27 = .ok (.new 7, 3) := by decide +kernel
theorem dBx_init_30 : decode cBx_init 30 = .ok (.dup, 1) := by decide +kernel
theorem dBx_init_31 : decode cBx_init 31 = .ok (.invokespecial 9, 3) := by decide +kernel
theorem dBx_init_34 : decode cBx_init 34 = .ok (.putfield 19, 3) := by decide +kernel
theorem dBx_init_37 : decode cBx_init 37 = .ok (.aload_n 0, 1) := by decide +kernel
theorem dBx_init_38 : decode cBx_init 38 = .ok (.new 7, 3) := by decide +kernel
theorem dBx_init_41 : decode cBx_init 41 = .ok (.dup, 1) := by decide +kernel
theorem dBx_init_42 : decode cBx_init 42 = .ok (.invokespecial 9, 3) := by decide +kernel
theorem dBx_init_45 : decode cBx_init 45 = .ok (.putfield 22, 3) := by decide +kernel
theorem dBx_init_48 : decode cBx_init 48 = .ok (.aload_n 0, 1) := by decide +kernel
theorem dBx_init_49 : decode cBx_init 49 = .ok (.iconst 3, 1) := by decide +kernel
theorem dBx_init_50 : decode cBx_init 50 = .ok (.anewarray 25, 3) := by decide +kernel
theorem dBx_init_53 : decode cBx_init 53 = .ok (.dup, 1) := by decide +kernel
theorem dBx_init_54 : decode cBx_init 54 = .ok (.iconst 0, 1) := by decide +kernel
theorem dBx_init_55 : decode cBx_init 55 = .ok (.new 27, 3) := by decide +kernel
theorem dBx_init_58 : decode cBx_init 58 = .ok (.dup, 1) := by decide +kernel
theorem dBx_init_59 : decode cBx_init 59 = .ok (.getstatic 29, 3) := by decide +kernel
theorem dBx_init_62 : decode cBx_init 62 = .ok (.bipush 32, 2) := by decide +kernel
theorem dBx_init_64 : decode cBx_init 64 = .ok (.invokespecial 33, 3) := by decide +kernel
theorem dBx_init_67 : decode cBx_init 67 = .ok (.aastore, 1) := by decide +kernel
theorem dBx_init_68 : decode cBx_init 68 = .ok (.dup, 1) := by decide +kernel
theorem dBx_init_69 : decode cBx_init 69 = .ok (.iconst 1, 1) := by decide +kernel
theorem dBx_init_70 : decode cBx_init 70 = .ok (.new 36, 3) := by decide +kernel
theorem dBx_init_73 : decode cBx_init 73 = .ok (.dup, 1) := by decide +kernel
theorem dBx_init_74 : decode cBx_init 74 = .ok (.getstatic 38, 3) := by decide +kernel
theorem dBx_init_77 : decode cBx_init 77 = .ok (.bipush 48, 2) := by decide +kernel
theorem dBx_init_79 : decode cBx_init 79 = .ok (.invokespecial 41, 3) := by decide +kernel
theorem dBx_init_82 : decode cBx_init 82 = .ok (.aastore, 1) := by decide +kernel
theorem dBx_init_83 : decode cBx_init 83 = .ok (.dup, 1) := by decide +kernel
theorem dBx_init_84 : decode cBx_init 84 = .ok (.iconst 2, 1) := by decide +kernel
theorem dBx_init_85 : decode cBx_init 85 = .ok (.new 36, 3) := by decide +kernel
theorem dBx_init_88 : decode cBx_init 88 = .ok (.dup, 1) := by decide +kernel
theorem dBx_init_89 : decode cBx_init 89 = .ok (.getstatic 42, 3) := by decide +kernel
theorem dBx_init_92 : decode cBx_init 92 = .ok (.bipush 64, 2) := by decide +kernel
theorem dBx_init_94 : decode cBx_init 94 = .ok (.invokespecial 41, 3) := by decide +kernel
theorem dBx_init_97 : decode cBx_init 97 = .ok (.aastore, 1) := by decide +kernel
theorem dBx_init_98 : decode cBx_init 98 = .ok (.putfield 45, 3) := by decide +kernel
theorem dBx_init_101 : decode cBx_init 101 = .ok (.aload_n 0, 1) := by decide +kernel
theorem dBx_init_102 : decode cBx_init 102 = .ok (.iconst 3, 1) := by decide +kernel
theorem dBx_init_103 : decode cBx_init 103 = .ok (.anewarray 49, 3) := by decide +kernel
theorem dBx_init_106 : decode cBx_init 106 = .ok (.dup, 1) := by decide +kernel
theorem dBx_init_107 : decode cBx_init 107 = .ok (.iconst 0, 1) := by decide +kernel
theorem dBx_init_108 : decode cBx_init 108 = .ok (.new 49, 3) := by decide +kernel
theorem dBx_init_111 : decode cBx_init 111 = .ok (.dup, 1) := by decide +kernel
theorem dBx_init_112 : decode cBx_init 112 = .ok (.new 27, 3) := by decide +kernel
theorem dBx_init_115 : decode cBx_init 115 = .ok (.dup, 1) := by decide +kernel
theorem dBx_init_116 : decode cBx_init 116 = .ok (.getstatic 29, 3) := by decide +kernel
theorem dBx_init_119 : decode cBx_init 119 = .ok (.bipush 32, 2) := by decide +kernel
theorem dBx_init_121 : decode cBx_init 121 = .ok (.invokespecial 33, 3) := by decide +kernel
theorem dBx_init_124 : decode cBx_init 124 = .ok (.invokespecial 51, 3) := by decide +kernel
theorem dBx_init_127 : decode cBx_init 127 = .ok (.aastore, 1) := by decide +kernel
theorem dBx_init_128 : decode cBx_init 128 = .ok (.dup, 1) := by decide +kernel
theorem dBx_init_129 : decode cBx_init 129 = .ok (.iconst 1, 1) := by decide +kernel
theorem dBx_init_130 : decode cBx_init 130 = .ok (.new 49, 3) := by decide +kernel
theorem dBx_init_133 : decode cBx_init 133 = .ok (.dup, 1) := by decide +kernel
theorem dBx_init_134 : decode cBx_init 134 = .ok (.new 36, 3) := by decide +kernel
theorem dBx_init_137 : decode cBx_init 137 = .ok (.dup, 1) := by decide +kernel
theorem dBx_init_138 : decode cBx_init 138 = .ok (.getstatic 38, 3) := by decide +kernel
theorem dBx_init_141 : decode cBx_init 141 = .ok (.bipush 48, 2) := by decide +kernel
theorem dBx_init_143 : decode cBx_init 143 = .ok (.invokespecial 41, 3) := by decide +kernel
theorem dBx_init_146 : decode cBx_init 146 = .ok (.invokespecial 51, 3) := by decide +kernel
theorem dBx_init_149 : decode cBx_init 149 = .ok (.aastore, 1) := by decide +kernel
theorem dBx_init_150 : decode cBx_init 150 = .ok (.dup, 1) := by decide +kernel
theorem dBx_init_151 : decode cBx_init 151 = .ok (.iconst 2, 1) := by decide +kernel
theorem dBx_init_152 : decode cBx_init 152 = .ok (.new 49, 3) := by decide +kernel
theorem dBx_init_155 : decode cBx_init 155 = .ok (.dup, 1) := by decide +kernel
theorem dBx_init_156 : decode cBx_init 156 = .ok (.new 36, 3) := by decide +kernel
theorem dBx_init_159 : decode cBx_init 159 = .ok (.dup, 1) := by decide +kernel
theorem dBx_init_160 : decode cBx_init 160 = .ok (.getstatic 42, 3) := by decide +kernel
theorem dBx_init_163 : decode cBx_init 163 = .ok (.bipush 64, 2) := by decide +kernel
theorem dBx_init_165 : decode cBx_init 165 = .ok (.invokespecial 41, 3) := by decide +kernel
theorem dBx_init_168 : decode cBx_init 168 = .ok (.invokespecial 51, 3) := by decide +kernel
theorem dBx_init_171 : decode cBx_init 171 = .ok (.aastore, 1) := by decide +kernel
theorem dBx_init_172 : decode cBx_init 172 = .ok (.putfield 54, 3) := by decide +kernel
theorem dBx_init_175 : decode cBx_init 175 = .ok (.return_, 1) := by decide +kernel
theorem dBx_blocksOf_0 : decode cBx_blocksOf 0 = .ok (.aload_n 0, 1) := by decide +kernel
theorem dBx_blocksOf_1 : decode cBx_blocksOf 1 = .ok (.getfield 45, 3) := by decide +kernel
theorem dBx_blocksOf_4 : decode cBx_blocksOf 4 = .ok (.iload_n 1, 1) := by decide +kernel
theorem dBx_blocksOf_5 : decode cBx_blocksOf 5 = .ok (.aaload, 1) := by decide +kernel
theorem dBx_blocksOf_6 : decode cBx_blocksOf 6 = .ok (.getfield 145, 3) := by decide +kernel
theorem dBx_blocksOf_9 : decode cBx_blocksOf 9 = .ok (.aload_n 0, 1) := by decide +kernel
theorem dBx_blocksOf_10 : decode cBx_blocksOf 10 = .ok (.getfield 54, 3) := by decide +kernel
theorem dBx_blocksOf_13 : decode cBx_blocksOf 13 = .ok (.iload_n 1, 1) := by decide +kernel
theorem dBx_blocksOf_14 : decode cBx_blocksOf 14 = .ok (.aaload, 1) := by decide +kernel
theorem dBx_blocksOf_15 : decode cBx_blocksOf 15 = .ok (.getfield 91, 3) := by decide +kernel
theorem dBx_blocksOf_18 : decode cBx_blocksOf 18 = .ok (.getfield 145, 3) := by decide +kernel
theorem dBx_blocksOf_21 : decode cBx_blocksOf 21 = .ok (.iadd, 1) := by decide +kernel
theorem dBx_blocksOf_22 : decode cBx_blocksOf 22 = .ok (.ireturn, 1) := by decide +kernel
theorem dBx_checkExpandedLength_0 : decode cBx_checkExpandedLength 0 = .ok (.iload_n 2, 1) := by decide +kernel
theorem dBx_checkExpandedLength_1 : decode cBx_checkExpandedLength 1 = .ok (.iconst 1, 1) := by decide +kernel
theorem dBx_checkExpandedLength_2 : decode cBx_checkExpandedLength 2 = .ok (.if_icmp .lt 20, 3) := by decide +kernel
theorem dBx_checkExpandedLength_5 : decode cBx_checkExpandedLength 5 = .ok (.iload_n 2, 1) := by decide +kernel
theorem dBx_checkExpandedLength_6 : decode cBx_checkExpandedLength 6 = .ok (.sipush 255, 3) := by decide +kernel
theorem dBx_checkExpandedLength_9 : decode cBx_checkExpandedLength 9 = .ok (.aload_n 0, 1) := by decide +kernel
theorem dBx_checkExpandedLength_10 : decode cBx_checkExpandedLength 10 = .ok (.getfield 45, 3) := by decide +kernel
theorem dBx_checkExpandedLength_13 : decode cBx_checkExpandedLength 13 = .ok (.iload_n 1, 1) := by decide +kernel
theorem dBx_checkExpandedLength_14 : decode cBx_checkExpandedLength 14 = .ok (.aaload, 1) := by decide +kernel
theorem dBx_checkExpandedLength_15 : decode cBx_checkExpandedLength 15 = .ok (.getfield 98, 3) := by decide +kernel
theorem dBx_checkExpandedLength_18 : decode cBx_checkExpandedLength 18 = .ok (.imul, 1) := by decide +kernel
theorem dBx_checkExpandedLength_19 : decode cBx_checkExpandedLength 19 = .ok (.if_icmp .le 11, 3) := by decide +kernel
theorem dBx_checkExpandedLength_22 : decode cBx_checkExpandedLength 22 = .ok (.new 70, 3) := by decide +kernel
theorem dBx_checkExpandedLength_25 : decode cBx_checkExpandedLength 25 = .ok (.dup, 1) := by decide +kernel
theorem dBx_checkExpandedLength_26 : decode cBx_checkExpandedLength 26 = .ok (.invokespecial 72, 3) := by decide +kernel
theorem dBx_checkExpandedLength_29 : decode cBx_checkExpandedLength 29 = .ok (.athrow, 1) := by decide +kernel
theorem dBx_checkExpandedLength_30 : decode cBx_checkExpandedLength 30 = .ok (.return_, 1) := by decide +kernel
theorem dBx_checkKind_0 : decode cBx_checkKind 0 = .ok (.iload_n 0, 1) := by decide +kernel
theorem dBx_checkKind_1 : decode cBx_checkKind 1 = .ok (.ifCond .lt 8, 3) := by decide +kernel
theorem dBx_checkKind_4 : decode cBx_checkKind 4 = .ok (.iload_n 0, 1) := by decide +kernel
theorem dBx_checkKind_5 : decode cBx_checkKind 5 = .ok (.iconst 3, 1) := by decide +kernel
theorem dBx_checkKind_6 : decode cBx_checkKind 6 = .ok (.if_icmp .lt 11, 3) := by decide +kernel
theorem dBx_checkKind_9 : decode cBx_checkKind 9 = .ok (.new 142, 3) := by decide +kernel
theorem dBx_checkKind_12 : decode cBx_checkKind 12 = .ok (.dup, 1) := by decide +kernel
theorem dBx_checkKind_13 : decode cBx_checkKind 13 = .ok (.invokespecial 144, 3) := by decide +kernel
theorem dBx_checkKind_16 : decode cBx_checkKind 16 = .ok (.athrow, 1) := by decide +kernel
theorem dBx_checkKind_17 : decode cBx_checkKind 17 = .ok (.return_, 1) := by decide +kernel
theorem dBx_checkLabelLength_0 : decode cBx_checkLabelLength 0 = .ok (.iload_n 1, 1) := by decide +kernel
theorem dBx_checkLabelLength_1 : decode cBx_checkLabelLength 1 = .ok (.iconst 1, 1) := by decide +kernel
theorem dBx_checkLabelLength_2 : decode cBx_checkLabelLength 2 = .ok (.if_icmp .lt 36, 3) := by decide +kernel
theorem dBx_checkLabelLength_5 : decode cBx_checkLabelLength 5 = .ok (.iload_n 1, 1) := by decide +kernel
theorem dBx_checkLabelLength_6 : decode cBx_checkLabelLength 6 = .ok (.sipush 249, 3) := by decide +kernel
theorem dBx_checkLabelLength_9 : decode cBx_checkLabelLength 9 = .ok (.if_icmp .gt 29, 3) := by decide +kernel
theorem dBx_checkLabelLength_12 : decode cBx_checkLabelLength 12 = .ok (.iload_n 1, 1) := by decide +kernel
theorem dBx_checkLabelLength_13 : decode cBx_checkLabelLength 13 = .ok (.aload_n 0, 1) := by decide +kernel
theorem dBx_checkLabelLength_14 : decode cBx_checkLabelLength 14 = .ok (.getfield 10, 3) := by decide +kernel
theorem dBx_checkLabelLength_17 : decode cBx_checkLabelLength 17 = .ok (.getfield 58, 3) := by decide +kernel
theorem dBx_checkLabelLength_20 : decode cBx_checkLabelLength 20 = .ok (.if_icmp .gt 18, 3) := by decide +kernel
theorem dBx_checkLabelLength_23 : decode cBx_checkLabelLength 23 = .ok (.aload_n 0, 1) := by decide +kernel
theorem dBx_checkLabelLength_24 : decode cBx_checkLabelLength 24 = .ok (.getfield 10, 3) := by decide +kernel
theorem dBx_checkLabelLength_27 : decode cBx_checkLabelLength 27 = .ok (.getfield 58, 3) := by decide +kernel
theorem dBx_checkLabelLength_30 : decode cBx_checkLabelLength 30 = .ok (.iload_n 1, 1) := by decide +kernel
theorem dBx_checkLabelLength_31 : decode cBx_checkLabelLength 31 = .ok (.isub, 1) := by decide +kernel
theorem dBx_checkLabelLength_32 : decode cBx_checkLabelLength 32 = .ok (.sipush 255, 3) := by decide +kernel
theorem dBx_checkLabelLength_35 : decode cBx_checkLabelLength 35 = .ok (.if_icmp .le 11, 3) := by decide +kernel
theorem dBx_checkLabelLength_38 : decode cBx_checkLabelLength 38 = .ok (.new 70, 3) := by decide +kernel
theorem dBx_checkLabelLength_41 : decode cBx_checkLabelLength 41 = .ok (.dup, 1) := by decide +kernel
theorem dBx_checkLabelLength_42 : decode cBx_checkLabelLength 42 = .ok (.invokespecial 72, 3) := by decide +kernel
theorem dBx_checkLabelLength_45 : decode cBx_checkLabelLength 45 = .ok (.athrow, 1) := by decide +kernel
theorem dBx_checkLabelLength_46 : decode cBx_checkLabelLength 46 = .ok (.return_, 1) := by decide +kernel
theorem dBx_count_0 : decode cBx_count 0 = .ok (.iload_n 1, 1) := by decide +kernel
theorem dBx_count_1 : decode cBx_count 1 = .ok (.tableswitch 81 0 5 #[39, 47, 55, 63, 69, 75], 39) := by decide +kernel
theorem dBx_count_40 : decode cBx_count 40 = .ok (.aload_n 0, 1) := by decide +kernel
theorem dBx_count_41 : decode cBx_count 41 = .ok (.getfield 10, 3) := by decide +kernel
theorem dBx_count_44 : decode cBx_count 44 = .ok (.getfield 58, 3) := by decide +kernel
theorem dBx_count_47 : decode cBx_count 47 = .ok (.ireturn, 1) := by decide +kernel
theorem dBx_count_48 : decode cBx_count 48 = .ok (.aload_n 0, 1) := by decide +kernel
theorem dBx_count_49 : decode cBx_count 49 = .ok (.getfield 16, 3) := by decide +kernel
theorem dBx_count_52 : decode cBx_count 52 = .ok (.getfield 58, 3) := by decide +kernel
theorem dBx_count_55 : decode cBx_count 55 = .ok (.ireturn, 1) := by decide +kernel
theorem dBx_count_56 : decode cBx_count 56 = .ok (.aload_n 0, 1) := by decide +kernel
theorem dBx_count_57 : decode cBx_count 57 = .ok (.getfield 19, 3) := by decide +kernel
theorem dBx_count_60 : decode cBx_count 60 = .ok (.getfield 58, 3) := by decide +kernel
theorem dBx_count_63 : decode cBx_count 63 = .ok (.ireturn, 1) := by decide +kernel
theorem dBx_count_64 : decode cBx_count 64 = .ok (.aload_n 0, 1) := by decide +kernel
theorem dBx_count_65 : decode cBx_count 65 = .ok (.iconst 0, 1) := by decide +kernel
theorem dBx_count_66 : decode cBx_count 66 = .ok (.invokevirtual 138, 3) := by decide +kernel
theorem dBx_count_69 : decode cBx_count 69 = .ok (.ireturn, 1) := by decide +kernel
theorem dBx_count_70 : decode cBx_count 70 = .ok (.aload_n 0, 1) := by decide +kernel
theorem dBx_count_71 : decode cBx_count 71 = .ok (.iconst 1, 1) := by decide +kernel
theorem dBx_count_72 : decode cBx_count 72 = .ok (.invokevirtual 138, 3) := by decide +kernel
theorem dBx_count_75 : decode cBx_count 75 = .ok (.ireturn, 1) := by decide +kernel
theorem dBx_count_76 : decode cBx_count 76 = .ok (.aload_n 0, 1) := by decide +kernel
theorem dBx_count_77 : decode cBx_count 77 = .ok (.iconst 2, 1) := by decide +kernel
theorem dBx_count_78 : decode cBx_count 78 = .ok (.invokevirtual 138, 3) := by decide +kernel
theorem dBx_count_81 : decode cBx_count 81 = .ok (.ireturn, 1) := by decide +kernel
theorem dBx_count_82 : decode cBx_count 82 = .ok (.iconst (-1), 1) := by decide +kernel
theorem dBx_count_83 : decode cBx_count 83 = .ok (.ireturn, 1) := by decide +kernel
theorem dBx_end_0 : decode cBx_end 0 = .ok (.iload_n 1, 1) := by decide +kernel
theorem dBx_end_1 : decode cBx_end 1 = .ok (.ifCond .lt 14, 3) := by decide +kernel
theorem dBx_end_4 : decode cBx_end 4 = .ok (.iload_n 1, 1) := by decide +kernel
theorem dBx_end_5 : decode cBx_end 5 = .ok (.aload_n 0, 1) := by decide +kernel
theorem dBx_end_6 : decode cBx_end 6 = .ok (.getfield 10, 3) := by decide +kernel
theorem dBx_end_9 : decode cBx_end 9 = .ok (.getfield 58, 3) := by decide +kernel
theorem dBx_end_12 : decode cBx_end 12 = .ok (.if_icmp .le 11, 3) := by decide +kernel
theorem dBx_end_15 : decode cBx_end 15 = .ok (.new 70, 3) := by decide +kernel
theorem dBx_end_18 : decode cBx_end 18 = .ok (.dup, 1) := by decide +kernel
theorem dBx_end_19 : decode cBx_end 19 = .ok (.invokespecial 72, 3) := by decide +kernel
theorem dBx_end_22 : decode cBx_end 22 = .ok (.athrow, 1) := by decide +kernel
theorem dBx_end_23 : decode cBx_end 23 = .ok (.aload_n 0, 1) := by decide +kernel
theorem dBx_end_24 : decode cBx_end 24 = .ok (.getfield 10, 3) := by decide +kernel
theorem dBx_end_27 : decode cBx_end 27 = .ok (.iload_n 1, 1) := by decide +kernel
theorem dBx_end_28 : decode cBx_end 28 = .ok (.putfield 58, 3) := by decide +kernel
theorem dBx_end_31 : decode cBx_end 31 = .ok (.iload_n 1, 1) := by decide +kernel
theorem dBx_end_32 : decode cBx_end 32 = .ok (.ireturn, 1) := by decide +kernel
theorem dBx_expand_0 : decode cBx_expand 0 = .ok (.iload_n 1, 1) := by decide +kernel
theorem dBx_expand_1 : decode cBx_expand 1 = .ok (.invokestatic 73, 3) := by decide +kernel
theorem dBx_expand_4 : decode cBx_expand 4 = .ok (.aload_n 0, 1) := by decide +kernel
theorem dBx_expand_5 : decode cBx_expand 5 = .ok (.iload_n 1, 1) := by decide +kernel
theorem dBx_expand_6 : decode cBx_expand 6 = .ok (.iload_n 2, 1) := by decide +kernel
theorem dBx_expand_7 : decode cBx_expand 7 = .ok (.invokevirtual 121, 3) := by decide +kernel
theorem dBx_expand_10 : decode cBx_expand 10 = .ok (.aload_n 0, 1) := by decide +kernel
theorem dBx_expand_11 : decode cBx_expand 11 = .ok (.getfield 54, 3) := by decide +kernel
theorem dBx_expand_14 : decode cBx_expand 14 = .ok (.iload_n 1, 1) := by decide +kernel
theorem dBx_expand_15 : decode cBx_expand 15 = .ok (.aaload, 1) := by decide +kernel
theorem dBx_expand_16 : decode cBx_expand 16 = .ok (.aload_n 0, 1) := by decide +kernel
theorem dBx_expand_17 : decode cBx_expand 17 = .ok (.getfield 16, 3) := by decide +kernel
theorem dBx_expand_20 : decode cBx_expand 20 = .ok (.invokevirtual 112, 3) := by decide +kernel
theorem dBx_expand_23 : decode cBx_expand 23 = .ok (.aload_n 0, 1) := by decide +kernel
theorem dBx_expand_24 : decode cBx_expand 24 = .ok (.aload_n 0, 1) := by decide +kernel
theorem dBx_expand_25 : decode cBx_expand 25 = .ok (.getfield 54, 3) := by decide +kernel
theorem dBx_expand_28 : decode cBx_expand 28 = .ok (.iload_n 1, 1) := by decide +kernel
theorem dBx_expand_29 : decode cBx_expand 29 = .ok (.aaload, 1) := by decide +kernel
theorem dBx_expand_30 : decode cBx_expand 30 = .ok (.iload_n 2, 1) := by decide +kernel
theorem dBx_expand_31 : decode cBx_expand 31 = .ok (.aload_n 0, 1) := by decide +kernel
theorem dBx_expand_32 : decode cBx_expand 32 = .ok (.getfield 10, 3) := by decide +kernel
theorem dBx_expand_35 : decode cBx_expand 35 = .ok (.invokevirtual 125, 3) := by decide +kernel
theorem dBx_expand_38 : decode cBx_expand 38 = .ok (.aload_n 0, 1) := by decide +kernel
theorem dBx_expand_39 : decode cBx_expand 39 = .ok (.getfield 10, 3) := by decide +kernel
theorem dBx_expand_42 : decode cBx_expand 42 = .ok (.iconst 0, 1) := by decide +kernel
theorem dBx_expand_43 : decode cBx_expand 43 = .ok (.putfield 58, 3) := by decide +kernel
theorem dBx_expand_46 : decode cBx_expand 46 = .ok (.aload_n 0, 1) := by decide +kernel
theorem dBx_expand_47 : decode cBx_expand 47 = .ok (.getfield 19, 3) := by decide +kernel
theorem dBx_expand_50 : decode cBx_expand 50 = .ok (.getfield 58, 3) := by decide +kernel
theorem dBx_expand_53 : decode cBx_expand 53 = .ok (.ireturn, 1) := by decide +kernel
theorem dBx_expandKey_0 : decode cBx_expandKey 0 = .ok (.aload_n 1, 1) := by decide +kernel
theorem dBx_expandKey_1 : decode cBx_expandKey 1 = .ok (.getfield 91, 3) := by decide +kernel
theorem dBx_expandKey_4 : decode cBx_expandKey 4 = .ok (.getfield 98, 3) := by decide +kernel
theorem dBx_expandKey_7 : decode cBx_expandKey 7 = .ok (.istore 4, 2) := by decide +kernel
theorem dBx_expandKey_9 : decode cBx_expandKey 9 = .ok (.iload_n 2, 1) := by decide +kernel
theorem dBx_expandKey_10 : decode cBx_expandKey 10 = .ok (.iload 4, 2) := by decide +kernel
theorem dBx_expandKey_12 : decode cBx_expandKey 12 = .ok (.iadd, 1) := by decide +kernel
theorem dBx_expandKey_13 : decode cBx_expandKey 13 = .ok (.iconst 1, 1) := by decide +kernel
theorem dBx_expandKey_14 : decode cBx_expandKey 14 = .ok (.isub, 1) := by decide +kernel
theorem dBx_expandKey_15 : decode cBx_expandKey 15 = .ok (.iload 4, 2) := by decide +kernel
theorem dBx_expandKey_17 : decode cBx_expandKey 17 = .ok (.idiv, 1) := by decide +kernel
theorem dBx_expandKey_18 : decode cBx_expandKey 18 = .ok (.istore 5, 2) := by decide +kernel
theorem dBx_expandKey_20 : decode cBx_expandKey 20 = .ok (.aload_n 0, 1) := by decide +kernel
theorem dBx_expandKey_21 : decode cBx_expandKey 21 = .ok (.iload 5, 2) := by decide +kernel
theorem dBx_expandKey_23 : decode cBx_expandKey 23 = .ok (.iload 4, 2) := by decide +kernel
theorem dBx_expandKey_25 : decode cBx_expandKey 25 = .ok (.imul, 1) := by decide +kernel
theorem dBx_expandKey_26 : decode cBx_expandKey 26 = .ok (.invokevirtual 101, 3) := by decide +kernel
theorem dBx_expandKey_29 : decode cBx_expandKey 29 = .ok (.astore 6, 2) := by decide +kernel
theorem dBx_expandKey_31 : decode cBx_expandKey 31 = .ok (.iconst 0, 1) := by decide +kernel
theorem dBx_expandKey_32 : decode cBx_expandKey 32 = .ok (.istore 7, 2) := by decide +kernel
theorem dBx_expandKey_34 : decode cBx_expandKey 34 = .ok (.iload 7, 2) := by decide +kernel
theorem dBx_expandKey_36 : decode cBx_expandKey 36 = .ok (.iload 5, 2) := by decide +kernel
theorem dBx_expandKey_38 : decode cBx_expandKey 38 = .ok (.if_icmp .ge 74, 3) := by decide +kernel
theorem dBx_expandKey_41 : decode cBx_expandKey 41 = .ok (.aload_n 1, 1) := by decide +kernel
theorem dBx_expandKey_42 : decode cBx_expandKey 42 = .ok (.invokevirtual 115, 3) := by decide +kernel
theorem dBx_expandKey_45 : decode cBx_expandKey 45 = .ok (.iload 7, 2) := by decide +kernel
theorem dBx_expandKey_47 : decode cBx_expandKey 47 = .ok (.ifCond .le 21, 3) := by decide +kernel
theorem dBx_expandKey_50 : decode cBx_expandKey 50 = .ok (.aload_n 1, 1) := by decide +kernel
theorem dBx_expandKey_51 : decode cBx_expandKey 51 = .ok (.getfield 91, 3) := by decide +kernel
theorem dBx_expandKey_54 : decode cBx_expandKey 54 = .ok (.aload 6, 2) := by decide +kernel
theorem dBx_expandKey_56 : decode cBx_expandKey 56 = .ok (.iload 7, 2) := by decide +kernel
theorem dBx_expandKey_58 : decode cBx_expandKey 58 = .ok (.iconst 1, 1) := by decide +kernel
theorem dBx_expandKey_59 : decode cBx_expandKey 59 = .ok (.isub, 1) := by decide +kernel
theorem dBx_expandKey_60 : decode cBx_expandKey 60 = .ok (.iload 4, 2) := by decide +kernel
theorem dBx_expandKey_62 : decode cBx_expandKey 62 = .ok (.imul, 1) := by decide +kernel
theorem dBx_expandKey_63 : decode cBx_expandKey 63 = .ok (.iload 4, 2) := by decide +kernel
theorem dBx_expandKey_65 : decode cBx_expandKey 65 = .ok (.invokevirtual 83, 3) := by decide +kernel
theorem dBx_expandKey_68 : decode cBx_expandKey 68 = .ok (.aload_n 1, 1) := by decide +kernel
theorem dBx_expandKey_69 : decode cBx_expandKey 69 = .ok (.getfield 91, 3) := by decide +kernel
theorem dBx_expandKey_72 : decode cBx_expandKey 72 = .ok (.aload_n 3, 1) := by decide +kernel
theorem dBx_expandKey_73 : decode cBx_expandKey 73 = .ok (.getfield 79, 3) := by decide +kernel
theorem dBx_expandKey_76 : decode cBx_expandKey 76 = .ok (.iconst 0, 1) := by decide +kernel
theorem dBx_expandKey_77 : decode cBx_expandKey 77 = .ok (.aload_n 3, 1) := by decide +kernel
theorem dBx_expandKey_78 : decode cBx_expandKey 78 = .ok (.getfield 58, 3) := by decide +kernel
theorem dBx_expandKey_81 : decode cBx_expandKey 81 = .ok (.invokevirtual 83, 3) := by decide +kernel
theorem dBx_expandKey_84 : decode cBx_expandKey 84 = .ok (.aload_n 1, 1) := by decide +kernel
theorem dBx_expandKey_85 : decode cBx_expandKey 85 = .ok (.getfield 91, 3) := by decide +kernel
theorem dBx_expandKey_88 : decode cBx_expandKey 88 = .ok (.iload 7, 2) := by decide +kernel
theorem dBx_expandKey_90 : decode cBx_expandKey 90 = .ok (.iconst 1, 1) := by decide +kernel
theorem dBx_expandKey_91 : decode cBx_expandKey 91 = .ok (.iadd, 1) := by decide +kernel
theorem dBx_expandKey_92 : decode cBx_expandKey 92 = .ok (.invokevirtual 160, 3) := by decide +kernel
theorem dBx_expandKey_95 : decode cBx_expandKey 95 = .ok (.aload_n 1, 1) := by decide +kernel
theorem dBx_expandKey_96 : decode cBx_expandKey 96 = .ok (.aload 6, 2) := by decide +kernel
theorem dBx_expandKey_98 : decode cBx_expandKey 98 = .ok (.iload 7, 2) := by decide +kernel
theorem dBx_expandKey_100 : decode cBx_expandKey 100 = .ok (.iload 4, 2) := by decide +kernel
theorem dBx_expandKey_102 : decode cBx_expandKey 102 = .ok (.imul, 1) := by decide +kernel
theorem dBx_expandKey_103 : decode cBx_expandKey 103 = .ok (.invokevirtual 118, 3) := by decide +kernel
theorem dBx_expandKey_106 : decode cBx_expandKey 106 = .ok (.iinc 7 1, 3) := by decide +kernel
theorem dBx_expandKey_109 : decode cBx_expandKey 109 = .ok (.goto (-75), 3) := by decide +kernel
theorem dBx_expandKey_112 : decode cBx_expandKey 112 = .ok (.aload_n 0, 1) := by decide +kernel
theorem dBx_expandKey_113 : decode cBx_expandKey 113 = .ok (.getfield 19, 3) := by decide +kernel
theorem dBx_expandKey_116 : decode cBx_expandKey 116 = .ok (.iload_n 2, 1) := by decide +kernel
theorem dBx_expandKey_117 : decode cBx_expandKey 117 = .ok (.putfield 58, 3) := by decide +kernel
theorem dBx_expandKey_120 : decode cBx_expandKey 120 = .ok (.return_, 1) := by decide +kernel
theorem dBx_expandLabel_0 : decode cBx_expandLabel 0 = .ok (.iload_n 1, 1) := by decide +kernel
theorem dBx_expandLabel_1 : decode cBx_expandLabel 1 = .ok (.invokestatic 73, 3) := by decide +kernel
theorem dBx_expandLabel_4 : decode cBx_expandLabel 4 = .ok (.aload_n 0, 1) := by decide +kernel
theorem dBx_expandLabel_5 : decode cBx_expandLabel 5 = .ok (.iload_n 1, 1) := by decide +kernel
theorem dBx_expandLabel_6 : decode cBx_expandLabel 6 = .ok (.iload_n 2, 1) := by decide +kernel
theorem dBx_expandLabel_7 : decode cBx_expandLabel 7 = .ok (.invokevirtual 121, 3) := by decide +kernel
theorem dBx_expandLabel_10 : decode cBx_expandLabel 10 = .ok (.aload_n 0, 1) := by decide +kernel
theorem dBx_expandLabel_11 : decode cBx_expandLabel 11 = .ok (.iload_n 3, 1) := by decide +kernel
theorem dBx_expandLabel_12 : decode cBx_expandLabel 12 = .ok (.invokevirtual 129, 3) := by decide +kernel
theorem dBx_expandLabel_15 : decode cBx_expandLabel 15 = .ok (.aload_n 0, 1) := by decide +kernel
theorem dBx_expandLabel_16 : decode cBx_expandLabel 16 = .ok (.iload_n 2, 1) := by decide +kernel
theorem dBx_expandLabel_17 : decode cBx_expandLabel 17 = .ok (.iload_n 3, 1) := by decide +kernel
theorem dBx_expandLabel_18 : decode cBx_expandLabel 18 = .ok (.invokevirtual 132, 3) := by decide +kernel
theorem dBx_expandLabel_21 : decode cBx_expandLabel 21 = .ok (.aload_n 0, 1) := by decide +kernel
theorem dBx_expandLabel_22 : decode cBx_expandLabel 22 = .ok (.getfield 54, 3) := by decide +kernel
theorem dBx_expandLabel_25 : decode cBx_expandLabel 25 = .ok (.iload_n 1, 1) := by decide +kernel
theorem dBx_expandLabel_26 : decode cBx_expandLabel 26 = .ok (.aaload, 1) := by decide +kernel
theorem dBx_expandLabel_27 : decode cBx_expandLabel 27 = .ok (.aload_n 0, 1) := by decide +kernel
theorem dBx_expandLabel_28 : decode cBx_expandLabel 28 = .ok (.getfield 16, 3) := by decide +kernel
theorem dBx_expandLabel_31 : decode cBx_expandLabel 31 = .ok (.invokevirtual 112, 3) := by decide +kernel
theorem dBx_expandLabel_34 : decode cBx_expandLabel 34 = .ok (.aload_n 0, 1) := by decide +kernel
theorem dBx_expandLabel_35 : decode cBx_expandLabel 35 = .ok (.aload_n 0, 1) := by decide +kernel
theorem dBx_expandLabel_36 : decode cBx_expandLabel 36 = .ok (.getfield 54, 3) := by decide +kernel
theorem dBx_expandLabel_39 : decode cBx_expandLabel 39 = .ok (.iload_n 1, 1) := by decide +kernel
theorem dBx_expandLabel_40 : decode cBx_expandLabel 40 = .ok (.aaload, 1) := by decide +kernel
theorem dBx_expandLabel_41 : decode cBx_expandLabel 41 = .ok (.iload_n 2, 1) := by decide +kernel
theorem dBx_expandLabel_42 : decode cBx_expandLabel 42 = .ok (.aload_n 0, 1) := by decide +kernel
theorem dBx_expandLabel_43 : decode cBx_expandLabel 43 = .ok (.getfield 22, 3) := by decide +kernel
theorem dBx_expandLabel_46 : decode cBx_expandLabel 46 = .ok (.invokevirtual 125, 3) := by decide +kernel
theorem dBx_expandLabel_49 : decode cBx_expandLabel 49 = .ok (.aload_n 0, 1) := by decide +kernel
theorem dBx_expandLabel_50 : decode cBx_expandLabel 50 = .ok (.getfield 10, 3) := by decide +kernel
theorem dBx_expandLabel_53 : decode cBx_expandLabel 53 = .ok (.iconst 0, 1) := by decide +kernel
theorem dBx_expandLabel_54 : decode cBx_expandLabel 54 = .ok (.putfield 58, 3) := by decide +kernel
theorem dBx_expandLabel_57 : decode cBx_expandLabel 57 = .ok (.aload_n 0, 1) := by decide +kernel
theorem dBx_expandLabel_58 : decode cBx_expandLabel 58 = .ok (.getfield 19, 3) := by decide +kernel
theorem dBx_expandLabel_61 : decode cBx_expandLabel 61 = .ok (.getfield 58, 3) := by decide +kernel
theorem dBx_expandLabel_64 : decode cBx_expandLabel 64 = .ok (.ireturn, 1) := by decide +kernel
theorem dBx_feed_0 : decode cBx_feed 0 = .ok (.aload_n 0, 1) := by decide +kernel
theorem dBx_feed_1 : decode cBx_feed 1 = .ok (.getfield 10, 3) := by decide +kernel
theorem dBx_feed_4 : decode cBx_feed 4 = .ok (.getfield 58, 3) := by decide +kernel
theorem dBx_feed_7 : decode cBx_feed 7 = .ok (.ldc 62, 2) := by decide +kernel
theorem dBx_feed_9 : decode cBx_feed 9 = .ok (.if_icmp .le 11, 3) := by decide +kernel
theorem dBx_feed_12 : decode cBx_feed 12 = .ok (.new 63, 3) := by decide +kernel
theorem dBx_feed_15 : decode cBx_feed 15 = .ok (.dup, 1) := by decide +kernel
theorem dBx_feed_16 : decode cBx_feed 16 = .ok (.invokespecial 65, 3) := by decide +kernel
theorem dBx_feed_19 : decode cBx_feed 19 = .ok (.athrow, 1) := by decide +kernel
theorem dBx_feed_20 : decode cBx_feed 20 = .ok (.aload_n 0, 1) := by decide +kernel
theorem dBx_feed_21 : decode cBx_feed 21 = .ok (.getfield 10, 3) := by decide +kernel
theorem dBx_feed_24 : decode cBx_feed 24 = .ok (.iload_n 1, 1) := by decide +kernel
theorem dBx_feed_25 : decode cBx_feed 25 = .ok (.invokevirtual 66, 3) := by decide +kernel
theorem dBx_feed_28 : decode cBx_feed 28 = .ok (.aload_n 0, 1) := by decide +kernel
theorem dBx_feed_29 : decode cBx_feed 29 = .ok (.getfield 10, 3) := by decide +kernel
theorem dBx_feed_32 : decode cBx_feed 32 = .ok (.iload_n 2, 1) := by decide +kernel
theorem dBx_feed_33 : decode cBx_feed 33 = .ok (.invokevirtual 66, 3) := by decide +kernel
theorem dBx_feed_36 : decode cBx_feed 36 = .ok (.aload_n 0, 1) := by decide +kernel
theorem dBx_feed_37 : decode cBx_feed 37 = .ok (.getfield 10, 3) := by decide +kernel
theorem dBx_feed_40 : decode cBx_feed 40 = .ok (.iload_n 3, 1) := by decide +kernel
theorem dBx_feed_41 : decode cBx_feed 41 = .ok (.invokevirtual 66, 3) := by decide +kernel
theorem dBx_feed_44 : decode cBx_feed 44 = .ok (.aload_n 0, 1) := by decide +kernel
theorem dBx_feed_45 : decode cBx_feed 45 = .ok (.getfield 10, 3) := by decide +kernel
theorem dBx_feed_48 : decode cBx_feed 48 = .ok (.iload 4, 2) := by decide +kernel
theorem dBx_feed_50 : decode cBx_feed 50 = .ok (.invokevirtual 66, 3) := by decide +kernel
theorem dBx_feed_53 : decode cBx_feed 53 = .ok (.aload_n 0, 1) := by decide +kernel
theorem dBx_feed_54 : decode cBx_feed 54 = .ok (.getfield 10, 3) := by decide +kernel
theorem dBx_feed_57 : decode cBx_feed 57 = .ok (.iload 5, 2) := by decide +kernel
theorem dBx_feed_59 : decode cBx_feed 59 = .ok (.invokevirtual 66, 3) := by decide +kernel
theorem dBx_feed_62 : decode cBx_feed 62 = .ok (.aload_n 0, 1) := by decide +kernel
theorem dBx_feed_63 : decode cBx_feed 63 = .ok (.getfield 10, 3) := by decide +kernel
theorem dBx_feed_66 : decode cBx_feed 66 = .ok (.getfield 58, 3) := by decide +kernel
theorem dBx_feed_69 : decode cBx_feed 69 = .ok (.ireturn, 1) := by decide +kernel
theorem dBx_hmac_0 : decode cBx_hmac 0 = .ok (.iload_n 1, 1) := by decide +kernel
theorem dBx_hmac_1 : decode cBx_hmac 1 = .ok (.invokestatic 73, 3) := by decide +kernel
theorem dBx_hmac_4 : decode cBx_hmac 4 = .ok (.aload_n 0, 1) := by decide +kernel
theorem dBx_hmac_5 : decode cBx_hmac 5 = .ok (.getfield 54, 3) := by decide +kernel
theorem dBx_hmac_8 : decode cBx_hmac 8 = .ok (.iload_n 1, 1) := by decide +kernel
theorem dBx_hmac_9 : decode cBx_hmac 9 = .ok (.aaload, 1) := by decide +kernel
theorem dBx_hmac_10 : decode cBx_hmac 10 = .ok (.astore_n 2, 1) := by decide +kernel
theorem dBx_hmac_11 : decode cBx_hmac 11 = .ok (.aload_n 2, 1) := by decide +kernel
theorem dBx_hmac_12 : decode cBx_hmac 12 = .ok (.aload_n 0, 1) := by decide +kernel
theorem dBx_hmac_13 : decode cBx_hmac 13 = .ok (.getfield 16, 3) := by decide +kernel
theorem dBx_hmac_16 : decode cBx_hmac 16 = .ok (.invokevirtual 112, 3) := by decide +kernel
theorem dBx_hmac_19 : decode cBx_hmac 19 = .ok (.aload_n 2, 1) := by decide +kernel
theorem dBx_hmac_20 : decode cBx_hmac 20 = .ok (.invokevirtual 115, 3) := by decide +kernel
theorem dBx_hmac_23 : decode cBx_hmac 23 = .ok (.aload_n 2, 1) := by decide +kernel
theorem dBx_hmac_24 : decode cBx_hmac 24 = .ok (.getfield 91, 3) := by decide +kernel
theorem dBx_hmac_27 : decode cBx_hmac 27 = .ok (.aload_n 0, 1) := by decide +kernel
theorem dBx_hmac_28 : decode cBx_hmac 28 = .ok (.getfield 10, 3) := by decide +kernel
theorem dBx_hmac_31 : decode cBx_hmac 31 = .ok (.getfield 79, 3) := by decide +kernel
theorem dBx_hmac_34 : decode cBx_hmac 34 = .ok (.iconst 0, 1) := by decide +kernel
theorem dBx_hmac_35 : decode cBx_hmac 35 = .ok (.aload_n 0, 1) := by decide +kernel
theorem dBx_hmac_36 : decode cBx_hmac 36 = .ok (.getfield 10, 3) := by decide +kernel
theorem dBx_hmac_39 : decode cBx_hmac 39 = .ok (.getfield 58, 3) := by decide +kernel
theorem dBx_hmac_42 : decode cBx_hmac 42 = .ok (.invokevirtual 83, 3) := by decide +kernel
theorem dBx_hmac_45 : decode cBx_hmac 45 = .ok (.aload_n 2, 1) := by decide +kernel
theorem dBx_hmac_46 : decode cBx_hmac 46 = .ok (.aload_n 0, 1) := by decide +kernel
theorem dBx_hmac_47 : decode cBx_hmac 47 = .ok (.aload_n 2, 1) := by decide +kernel
theorem dBx_hmac_48 : decode cBx_hmac 48 = .ok (.getfield 91, 3) := by decide +kernel
theorem dBx_hmac_51 : decode cBx_hmac 51 = .ok (.getfield 98, 3) := by decide +kernel
theorem dBx_hmac_54 : decode cBx_hmac 54 = .ok (.invokevirtual 101, 3) := by decide +kernel
theorem dBx_hmac_57 : decode cBx_hmac 57 = .ok (.iconst 0, 1) := by decide +kernel
theorem dBx_hmac_58 : decode cBx_hmac 58 = .ok (.invokevirtual 118, 3) := by decide +kernel
theorem dBx_hmac_61 : decode cBx_hmac 61 = .ok (.aload_n 0, 1) := by decide +kernel
theorem dBx_hmac_62 : decode cBx_hmac 62 = .ok (.getfield 10, 3) := by decide +kernel
theorem dBx_hmac_65 : decode cBx_hmac 65 = .ok (.iconst 0, 1) := by decide +kernel
theorem dBx_hmac_66 : decode cBx_hmac 66 = .ok (.putfield 58, 3) := by decide +kernel
theorem dBx_hmac_69 : decode cBx_hmac 69 = .ok (.aload_n 0, 1) := by decide +kernel
theorem dBx_hmac_70 : decode cBx_hmac 70 = .ok (.getfield 19, 3) := by decide +kernel
theorem dBx_hmac_73 : decode cBx_hmac 73 = .ok (.getfield 58, 3) := by decide +kernel
theorem dBx_hmac_76 : decode cBx_hmac 76 = .ok (.ireturn, 1) := by decide +kernel
theorem dBx_keep_0 : decode cBx_keep 0 = .ok (.aload_n 0, 1) := by decide +kernel
theorem dBx_keep_1 : decode cBx_keep 1 = .ok (.getfield 16, 3) := by decide +kernel
theorem dBx_keep_4 : decode cBx_keep 4 = .ok (.aload_n 0, 1) := by decide +kernel
theorem dBx_keep_5 : decode cBx_keep 5 = .ok (.getfield 19, 3) := by decide +kernel
theorem dBx_keep_8 : decode cBx_keep 8 = .ok (.invokevirtual 109, 3) := by decide +kernel
theorem dBx_keep_11 : decode cBx_keep 11 = .ok (.aload_n 0, 1) := by decide +kernel
theorem dBx_keep_12 : decode cBx_keep 12 = .ok (.getfield 16, 3) := by decide +kernel
theorem dBx_keep_15 : decode cBx_keep 15 = .ok (.getfield 58, 3) := by decide +kernel
theorem dBx_keep_18 : decode cBx_keep 18 = .ok (.ireturn, 1) := by decide +kernel
theorem dBx_key_0 : decode cBx_key 0 = .ok (.aload_n 0, 1) := by decide +kernel
theorem dBx_key_1 : decode cBx_key 1 = .ok (.getfield 16, 3) := by decide +kernel
theorem dBx_key_4 : decode cBx_key 4 = .ok (.aload_n 0, 1) := by decide +kernel
theorem dBx_key_5 : decode cBx_key 5 = .ok (.getfield 10, 3) := by decide +kernel
theorem dBx_key_8 : decode cBx_key 8 = .ok (.invokevirtual 109, 3) := by decide +kernel
theorem dBx_key_11 : decode cBx_key 11 = .ok (.aload_n 0, 1) := by decide +kernel
theorem dBx_key_12 : decode cBx_key 12 = .ok (.getfield 10, 3) := by decide +kernel
theorem dBx_key_15 : decode cBx_key 15 = .ok (.iconst 0, 1) := by decide +kernel
theorem dBx_key_16 : decode cBx_key 16 = .ok (.putfield 58, 3) := by decide +kernel
theorem dBx_key_19 : decode cBx_key 19 = .ok (.aload_n 0, 1) := by decide +kernel
theorem dBx_key_20 : decode cBx_key 20 = .ok (.getfield 16, 3) := by decide +kernel
theorem dBx_key_23 : decode cBx_key 23 = .ok (.getfield 58, 3) := by decide +kernel
theorem dBx_key_26 : decode cBx_key 26 = .ok (.ireturn, 1) := by decide +kernel
theorem dBx_more_0 : decode cBx_more 0 = .ok (.iload_n 1, 1) := by decide +kernel
theorem dBx_more_1 : decode cBx_more 1 = .ok (.invokestatic 73, 3) := by decide +kernel
theorem dBx_more_4 : decode cBx_more 4 = .ok (.aload_n 0, 1) := by decide +kernel
theorem dBx_more_5 : decode cBx_more 5 = .ok (.getfield 45, 3) := by decide +kernel
theorem dBx_more_8 : decode cBx_more 8 = .ok (.iload_n 1, 1) := by decide +kernel
theorem dBx_more_9 : decode cBx_more 9 = .ok (.aaload, 1) := by decide +kernel
theorem dBx_more_10 : decode cBx_more 10 = .ok (.aload_n 0, 1) := by decide +kernel
theorem dBx_more_11 : decode cBx_more 11 = .ok (.getfield 10, 3) := by decide +kernel
theorem dBx_more_14 : decode cBx_more 14 = .ok (.getfield 79, 3) := by decide +kernel
theorem dBx_more_17 : decode cBx_more 17 = .ok (.iconst 0, 1) := by decide +kernel
theorem dBx_more_18 : decode cBx_more 18 = .ok (.aload_n 0, 1) := by decide +kernel
theorem dBx_more_19 : decode cBx_more 19 = .ok (.getfield 10, 3) := by decide +kernel
theorem dBx_more_22 : decode cBx_more 22 = .ok (.getfield 58, 3) := by decide +kernel
theorem dBx_more_25 : decode cBx_more 25 = .ok (.invokevirtual 83, 3) := by decide +kernel
theorem dBx_more_28 : decode cBx_more 28 = .ok (.aload_n 0, 1) := by decide +kernel
theorem dBx_more_29 : decode cBx_more 29 = .ok (.getfield 10, 3) := by decide +kernel
theorem dBx_more_32 : decode cBx_more 32 = .ok (.iconst 0, 1) := by decide +kernel
theorem dBx_more_33 : decode cBx_more 33 = .ok (.putfield 58, 3) := by decide +kernel
theorem dBx_more_36 : decode cBx_more 36 = .ok (.aload_n 0, 1) := by decide +kernel
theorem dBx_more_37 : decode cBx_more 37 = .ok (.getfield 45, 3) := by decide +kernel
theorem dBx_more_40 : decode cBx_more 40 = .ok (.iload_n 1, 1) := by decide +kernel
theorem dBx_more_41 : decode cBx_more 41 = .ok (.aaload, 1) := by decide +kernel
theorem dBx_more_42 : decode cBx_more 42 = .ok (.getfield 87, 3) := by decide +kernel
theorem dBx_more_45 : decode cBx_more 45 = .ok (.lreturn, 1) := by decide +kernel
theorem dBx_peek_0 : decode cBx_peek 0 = .ok (.iload_n 1, 1) := by decide +kernel
theorem dBx_peek_1 : decode cBx_peek 1 = .ok (.invokestatic 73, 3) := by decide +kernel
theorem dBx_peek_4 : decode cBx_peek 4 = .ok (.aload_n 0, 1) := by decide +kernel
theorem dBx_peek_5 : decode cBx_peek 5 = .ok (.getfield 54, 3) := by decide +kernel
theorem dBx_peek_8 : decode cBx_peek 8 = .ok (.iload_n 1, 1) := by decide +kernel
theorem dBx_peek_9 : decode cBx_peek 9 = .ok (.aaload, 1) := by decide +kernel
theorem dBx_peek_10 : decode cBx_peek 10 = .ok (.getfield 91, 3) := by decide +kernel
theorem dBx_peek_13 : decode cBx_peek 13 = .ok (.astore_n 2, 1) := by decide +kernel
theorem dBx_peek_14 : decode cBx_peek 14 = .ok (.aload_n 2, 1) := by decide +kernel
theorem dBx_peek_15 : decode cBx_peek 15 = .ok (.aload_n 0, 1) := by decide +kernel
theorem dBx_peek_16 : decode cBx_peek 16 = .ok (.getfield 45, 3) := by decide +kernel
theorem dBx_peek_19 : decode cBx_peek 19 = .ok (.iload_n 1, 1) := by decide +kernel
theorem dBx_peek_20 : decode cBx_peek 20 = .ok (.aaload, 1) := by decide +kernel
theorem dBx_peek_21 : decode cBx_peek 21 = .ok (.invokevirtual 95, 3) := by decide +kernel
theorem dBx_peek_24 : decode cBx_peek 24 = .ok (.aload_n 2, 1) := by decide +kernel
theorem dBx_peek_25 : decode cBx_peek 25 = .ok (.aload_n 0, 1) := by decide +kernel
theorem dBx_peek_26 : decode cBx_peek 26 = .ok (.aload_n 2, 1) := by decide +kernel
theorem dBx_peek_27 : decode cBx_peek 27 = .ok (.getfield 98, 3) := by decide +kernel
theorem dBx_peek_30 : decode cBx_peek 30 = .ok (.invokevirtual 101, 3) := by decide +kernel
theorem dBx_peek_33 : decode cBx_peek 33 = .ok (.iconst 0, 1) := by decide +kernel
theorem dBx_peek_34 : decode cBx_peek 34 = .ok (.invokevirtual 105, 3) := by decide +kernel
theorem dBx_peek_37 : decode cBx_peek 37 = .ok (.aload_n 0, 1) := by decide +kernel
theorem dBx_peek_38 : decode cBx_peek 38 = .ok (.getfield 19, 3) := by decide +kernel
theorem dBx_peek_41 : decode cBx_peek 41 = .ok (.getfield 58, 3) := by decide +kernel
theorem dBx_peek_44 : decode cBx_peek 44 = .ok (.ireturn, 1) := by decide +kernel
theorem dBx_restart_0 : decode cBx_restart 0 = .ok (.iload_n 1, 1) := by decide +kernel
theorem dBx_restart_1 : decode cBx_restart 1 = .ok (.invokestatic 73, 3) := by decide +kernel
theorem dBx_restart_4 : decode cBx_restart 4 = .ok (.aload_n 0, 1) := by decide +kernel
theorem dBx_restart_5 : decode cBx_restart 5 = .ok (.getfield 45, 3) := by decide +kernel
theorem dBx_restart_8 : decode cBx_restart 8 = .ok (.iload_n 1, 1) := by decide +kernel
theorem dBx_restart_9 : decode cBx_restart 9 = .ok (.aaload, 1) := by decide +kernel
theorem dBx_restart_10 : decode cBx_restart 10 = .ok (.invokevirtual 76, 3) := by decide +kernel
theorem dBx_restart_13 : decode cBx_restart 13 = .ok (.return_, 1) := by decide +kernel
theorem dBx_result_0 : decode cBx_result 0 = .ok (.iload_n 1, 1) := by decide +kernel
theorem dBx_result_1 : decode cBx_result 1 = .ok (.ifCond .lt 14, 3) := by decide +kernel
theorem dBx_result_4 : decode cBx_result 4 = .ok (.iload_n 1, 1) := by decide +kernel
theorem dBx_result_5 : decode cBx_result 5 = .ok (.aload_n 0, 1) := by decide +kernel
theorem dBx_result_6 : decode cBx_result 6 = .ok (.getfield 19, 3) := by decide +kernel
theorem dBx_result_9 : decode cBx_result 9 = .ok (.getfield 58, 3) := by decide +kernel
theorem dBx_result_12 : decode cBx_result 12 = .ok (.if_icmp .lt 11, 3) := by decide +kernel
theorem dBx_result_15 : decode cBx_result 15 = .ok (.new 135, 3) := by decide +kernel
theorem dBx_result_18 : decode cBx_result 18 = .ok (.dup, 1) := by decide +kernel
theorem dBx_result_19 : decode cBx_result 19 = .ok (.invokespecial 137, 3) := by decide +kernel
theorem dBx_result_22 : decode cBx_result 22 = .ok (.athrow, 1) := by decide +kernel
theorem dBx_result_23 : decode cBx_result 23 = .ok (.aload_n 0, 1) := by decide +kernel
theorem dBx_result_24 : decode cBx_result 24 = .ok (.getfield 19, 3) := by decide +kernel
theorem dBx_result_27 : decode cBx_result 27 = .ok (.getfield 79, 3) := by decide +kernel
theorem dBx_result_30 : decode cBx_result 30 = .ok (.iload_n 1, 1) := by decide +kernel
theorem dBx_result_31 : decode cBx_result 31 = .ok (.baload, 1) := by decide +kernel
theorem dBx_result_32 : decode cBx_result 32 = .ok (.sipush 255, 3) := by decide +kernel
theorem dBx_result_35 : decode cBx_result 35 = .ok (.iand, 1) := by decide +kernel
theorem dBx_result_36 : decode cBx_result 36 = .ok (.ireturn, 1) := by decide +kernel
theorem dBx_roomForResult_0 : decode cBx_roomForResult 0 = .ok (.aload_n 0, 1) := by decide +kernel
theorem dBx_roomForResult_1 : decode cBx_roomForResult 1 = .ok (.getfield 19, 3) := by decide +kernel
theorem dBx_roomForResult_4 : decode cBx_roomForResult 4 = .ok (.iload_n 1, 1) := by decide +kernel
theorem dBx_roomForResult_5 : decode cBx_roomForResult 5 = .ok (.invokevirtual 148, 3) := by decide +kernel
theorem dBx_roomForResult_8 : decode cBx_roomForResult 8 = .ok (.aload_n 0, 1) := by decide +kernel
theorem dBx_roomForResult_9 : decode cBx_roomForResult 9 = .ok (.getfield 19, 3) := by decide +kernel
theorem dBx_roomForResult_12 : decode cBx_roomForResult 12 = .ok (.iload_n 1, 1) := by decide +kernel
theorem dBx_roomForResult_13 : decode cBx_roomForResult 13 = .ok (.putfield 58, 3) := by decide +kernel
theorem dBx_roomForResult_16 : decode cBx_roomForResult 16 = .ok (.aload_n 0, 1) := by decide +kernel
theorem dBx_roomForResult_17 : decode cBx_roomForResult 17 = .ok (.getfield 19, 3) := by decide +kernel
theorem dBx_roomForResult_20 : decode cBx_roomForResult 20 = .ok (.getfield 79, 3) := by decide +kernel
theorem dBx_roomForResult_23 : decode cBx_roomForResult 23 = .ok (.areturn, 1) := by decide +kernel
theorem dBx_writeLabelInfo_0 : decode cBx_writeLabelInfo 0 = .ok (.aload_n 0, 1) := by decide +kernel
theorem dBx_writeLabelInfo_1 : decode cBx_writeLabelInfo 1 = .ok (.getfield 10, 3) := by decide +kernel
theorem dBx_writeLabelInfo_4 : decode cBx_writeLabelInfo 4 = .ok (.getfield 58, 3) := by decide +kernel
theorem dBx_writeLabelInfo_7 : decode cBx_writeLabelInfo 7 = .ok (.iload_n 2, 1) := by decide +kernel
theorem dBx_writeLabelInfo_8 : decode cBx_writeLabelInfo 8 = .ok (.isub, 1) := by decide +kernel
theorem dBx_writeLabelInfo_9 : decode cBx_writeLabelInfo 9 = .ok (.istore_n 3, 1) := by decide +kernel
theorem dBx_writeLabelInfo_10 : decode cBx_writeLabelInfo 10 = .ok (.aload_n 0, 1) := by decide +kernel
theorem dBx_writeLabelInfo_11 : decode cBx_writeLabelInfo 11 = .ok (.getfield 22, 3) := by decide +kernel
theorem dBx_writeLabelInfo_14 : decode cBx_writeLabelInfo 14 = .ok (.iconst 0, 1) := by decide +kernel
theorem dBx_writeLabelInfo_15 : decode cBx_writeLabelInfo 15 = .ok (.putfield 58, 3) := by decide +kernel
theorem dBx_writeLabelInfo_18 : decode cBx_writeLabelInfo 18 = .ok (.aload_n 0, 1) := by decide +kernel
theorem dBx_writeLabelInfo_19 : decode cBx_writeLabelInfo 19 = .ok (.getfield 22, 3) := by decide +kernel
theorem dBx_writeLabelInfo_22 : decode cBx_writeLabelInfo 22 = .ok (.iload_n 1, 1) := by decide +kernel
theorem dBx_writeLabelInfo_23 : decode cBx_writeLabelInfo 23 = .ok (.bipush 8, 2) := by decide +kernel
theorem dBx_writeLabelInfo_25 : decode cBx_writeLabelInfo 25 = .ok (.iushr, 1) := by decide +kernel
theorem dBx_writeLabelInfo_26 : decode cBx_writeLabelInfo 26 = .ok (.invokevirtual 151, 3) := by decide +kernel
theorem dBx_writeLabelInfo_29 : decode cBx_writeLabelInfo 29 = .ok (.aload_n 0, 1) := by decide +kernel
theorem dBx_writeLabelInfo_30 : decode cBx_writeLabelInfo 30 = .ok (.getfield 22, 3) := by decide +kernel
theorem dBx_writeLabelInfo_33 : decode cBx_writeLabelInfo 33 = .ok (.iload_n 1, 1) := by decide +kernel
theorem dBx_writeLabelInfo_34 : decode cBx_writeLabelInfo 34 = .ok (.invokevirtual 151, 3) := by decide +kernel
theorem dBx_writeLabelInfo_37 : decode cBx_writeLabelInfo 37 = .ok (.aload_n 0, 1) := by decide +kernel
theorem dBx_writeLabelInfo_38 : decode cBx_writeLabelInfo 38 = .ok (.getfield 22, 3) := by decide +kernel
theorem dBx_writeLabelInfo_41 : decode cBx_writeLabelInfo 41 = .ok (.getstatic 154, 3) := by decide +kernel
theorem dBx_writeLabelInfo_44 : decode cBx_writeLabelInfo 44 = .ok (.arraylength, 1) := by decide +kernel
theorem dBx_writeLabelInfo_45 : decode cBx_writeLabelInfo 45 = .ok (.iload_n 2, 1) := by decide +kernel
theorem dBx_writeLabelInfo_46 : decode cBx_writeLabelInfo 46 = .ok (.iadd, 1) := by decide +kernel
theorem dBx_writeLabelInfo_47 : decode cBx_writeLabelInfo 47 = .ok (.invokevirtual 151, 3) := by decide +kernel
theorem dBx_writeLabelInfo_50 : decode cBx_writeLabelInfo 50 = .ok (.aload_n 0, 1) := by decide +kernel
theorem dBx_writeLabelInfo_51 : decode cBx_writeLabelInfo 51 = .ok (.getfield 22, 3) := by decide +kernel
theorem dBx_writeLabelInfo_54 : decode cBx_writeLabelInfo 54 = .ok (.getstatic 154, 3) := by decide +kernel
theorem dBx_writeLabelInfo_57 : decode cBx_writeLabelInfo 57 = .ok (.iconst 0, 1) := by decide +kernel
theorem dBx_writeLabelInfo_58 : decode cBx_writeLabelInfo 58 = .ok (.getstatic 154, 3) := by decide +kernel
theorem dBx_writeLabelInfo_61 : decode cBx_writeLabelInfo 61 = .ok (.arraylength, 1) := by decide +kernel
theorem dBx_writeLabelInfo_62 : decode cBx_writeLabelInfo 62 = .ok (.invokevirtual 157, 3) := by decide +kernel
theorem dBx_writeLabelInfo_65 : decode cBx_writeLabelInfo 65 = .ok (.aload_n 0, 1) := by decide +kernel
theorem dBx_writeLabelInfo_66 : decode cBx_writeLabelInfo 66 = .ok (.getfield 22, 3) := by decide +kernel
theorem dBx_writeLabelInfo_69 : decode cBx_writeLabelInfo 69 = .ok (.aload_n 0, 1) := by decide +kernel
theorem dBx_writeLabelInfo_70 : decode cBx_writeLabelInfo 70 = .ok (.getfield 10, 3) := by decide +kernel
theorem dBx_writeLabelInfo_73 : decode cBx_writeLabelInfo 73 = .ok (.getfield 79, 3) := by decide +kernel
theorem dBx_writeLabelInfo_76 : decode cBx_writeLabelInfo 76 = .ok (.iconst 0, 1) := by decide +kernel
theorem dBx_writeLabelInfo_77 : decode cBx_writeLabelInfo 77 = .ok (.iload_n 2, 1) := by decide +kernel
theorem dBx_writeLabelInfo_78 : decode cBx_writeLabelInfo 78 = .ok (.invokevirtual 157, 3) := by decide +kernel
theorem dBx_writeLabelInfo_81 : decode cBx_writeLabelInfo 81 = .ok (.aload_n 0, 1) := by decide +kernel
theorem dBx_writeLabelInfo_82 : decode cBx_writeLabelInfo 82 = .ok (.getfield 22, 3) := by decide +kernel
theorem dBx_writeLabelInfo_85 : decode cBx_writeLabelInfo 85 = .ok (.iload_n 3, 1) := by decide +kernel
theorem dBx_writeLabelInfo_86 : decode cBx_writeLabelInfo 86 = .ok (.invokevirtual 151, 3) := by decide +kernel
theorem dBx_writeLabelInfo_89 : decode cBx_writeLabelInfo 89 = .ok (.aload_n 0, 1) := by decide +kernel
theorem dBx_writeLabelInfo_90 : decode cBx_writeLabelInfo 90 = .ok (.getfield 22, 3) := by decide +kernel
theorem dBx_writeLabelInfo_93 : decode cBx_writeLabelInfo 93 = .ok (.aload_n 0, 1) := by decide +kernel
theorem dBx_writeLabelInfo_94 : decode cBx_writeLabelInfo 94 = .ok (.getfield 10, 3) := by decide +kernel
theorem dBx_writeLabelInfo_97 : decode cBx_writeLabelInfo 97 = .ok (.getfield 79, 3) := by decide +kernel
theorem dBx_writeLabelInfo_100 : decode cBx_writeLabelInfo 100 = .ok (.iload_n 2, 1) := by decide +kernel
theorem dBx_writeLabelInfo_101 : decode cBx_writeLabelInfo 101 = .ok (.iload_n 3, 1) := by decide +kernel
theorem dBx_writeLabelInfo_102 : decode cBx_writeLabelInfo 102 = .ok (.invokevirtual 157, 3) := by decide +kernel
theorem dBx_writeLabelInfo_105 : decode cBx_writeLabelInfo 105 = .ok (.return_, 1) := by decide +kernel
